theorem pR_q {s t : pS} (h : s = t) {E : Nat} {sp fa fl tk ta sg nu : Int32} {wd : Int64} (p : pR s E sp fa fl tk ta sg nu wd) : pR t E sp fa fl tk ta sg nu wd := h ▸ p
set_option maxRecDepth 100000 in
set_option maxHeartbeats 4000000 in
theorem m_piece0 {G : wG} {d : Nat} {h : hH} {Q : Option Value → hH → Prop} {m : Nat} {th tr wa tp sp fa fl tk ta sg nu : Int32} {wd : Int64} {lo wv rl rw ht sd ah cl : Int32} {ft gt : Nat → Int32} {E : Nat} {fp : Nat → Int32} {fk : Nat → Int32} {fx : Nat → Int32} {fy : Nat → Int32} {fc : Nat → Int32} {l : Nat} {x : rD} {W : wP} (hw : hHas h [m, m + 1, m + 8, m + 10, m + 11, m + 12, m + 13] [(oC 10 (mF m th tr wa tp (nI E) sp fa fl tk ta sg nu wd lo wv rl rw ht sd ah cl)), (aI 600 gt), (aI 8 fp), (aI 64 fk), (aI 64 fx), (aI 64 fy), (aI 64 fc)]) (nd : [m, m + 1, m + 8, m + 10, m + 11, m + 12, m + 13].Nodup) (hE : E ≤ 600) (hT : mT E ft gt) (hl : l < 8) (hfp : fp l = nI W.2.2.2.2.1) (hAt : wAt W (8 * l) fk fx fy fc) (hG : wGs W) (h1 : isW x.2.2.1 x.2.2.2.2.1 [104, 111, 108, 100] 4 = 0) (h2 : isW x.2.2.1 x.2.2.2.2.1 [114, 97, 109, 112] 4 = 0) (h3 : isW x.2.2.1 x.2.2.2.2.1 [115, 119, 105, 110, 103] 5 = 0) (hp : pR (.inl x) E sp fa fl tk ta sg nu wd) (k : ∀ (sp fa fl tk ta sg nu : Int32) (wd : Int64) (gp gk gx gy gc : Nat → Int32), pR (rcS ((rPc ft x W).1, (rPc ft x W).2.1)) E sp fa fl tk ta sg nu wd → frO l fp gp → (∀ j, (j < 8 * l ∨ 8 * l + 8 ≤ j) → gk j = fk j ∧ gx j = fx j ∧ gy j = fy j ∧ gc j = fc j) → (¬ (rPc ft x W).1 = 0 → gp l = nI (rPc ft x W).2.2.2.2.2.2.1 ∧ wAt (rPc ft x W).2.2 (8 * l) gk gx gy gc ∧ wGs (rPc ft x W).2.2) → Q none (hUs h [m, m + 1, m + 8, m + 10, m + 11, m + 12, m + 13] [(oC 10 (mF m th tr wa tp (nI E) sp fa fl tk ta sg nu wd lo wv rl rw ht sd ah cl)), (aI 600 gt), (aI 8 gp), (aI 64 gk), (aI 64 gx), (aI 64 gy), (aI 64 gc)])) : Cl G yX10_readPiece (d + 9) 0 0 [.ref m, .int (nI l)] h Q := by
  have hp8 := hG.1
  refine Cl.of (ini := false) kX10_readPiece (plainFor_of_name (by decide)) (by decide) (Nat.le_of_ble_eq_true rfl) rfl rfl (fun z => by cases z) ?_
  refine w_heq (hUs_id hw).symm ?_
  refine w_aload_n dX10_readPiece_0 rfl ?_
  refine w_ldcS (i := 18) rfl rfl rfl dX10_readPiece_1 ?_
  refine w_callV (ci := 10) (d' := d + 8) (mc' := 0) (ms' := 0) (As := [.ref (G.2.2.1 18)]) (st := []) lX10_156 vX10_isWord rfl (hUs_at nd 0 rfl rfl) rfl (Nat.le_of_ble_eq_true rfl) dX10_readPiece_3 (Nat.le_of_ble_eq_true rfl) (Nat.le_of_ble_eq_true rfl) (Nat.le_refl _) (m_isWord (i := 18) (s := (.inl x)) rfl (hHas_sub nd (as' := [m]) (cs' := [(oC 10 (mF m th tr wa tp (nI E) sp fa fl tk ta sg nu wd lo wv rl rw ht sd ah cl))]) [0] rfl rfl) hp ?_)
  refine w_istore_n (ls2 := [some (.ref m), some (.int (nI l)), some (.int (isS (.inl x) [104, 111, 108, 100] 4)), none, none, none, none, none]) dX10_readPiece_6 (by decide) rfl rfl ?_
  refine w_aload_n dX10_readPiece_7 rfl ?_
  refine w_ldcS (i := 19) rfl rfl rfl dX10_readPiece_8 ?_
  refine w_callV (ci := 10) (d' := d + 8) (mc' := 0) (ms' := 0) (As := [.ref (G.2.2.1 19)]) (st := []) lX10_156 vX10_isWord rfl (hUs_at nd 0 rfl rfl) rfl (Nat.le_of_ble_eq_true rfl) dX10_readPiece_10 (Nat.le_of_ble_eq_true rfl) (Nat.le_of_ble_eq_true rfl) (Nat.le_refl _) (m_isWord (i := 19) (s := (.inl x)) rfl (hHas_sub nd (as' := [m]) (cs' := [(oC 10 (mF m th tr wa tp (nI E) sp fa fl tk ta sg nu wd lo wv rl rw ht sd ah cl))]) [0] rfl rfl) hp ?_)
  refine w_istore_n (ls2 := [some (.ref m), some (.int (nI l)), some (.int (isS (.inl x) [104, 111, 108, 100] 4)), some (.int (isS (.inl x) [114, 97, 109, 112] 4)), none, none, none, none]) dX10_readPiece_13 (by decide) rfl rfl ?_
  refine w_iload_n dX10_readPiece_14 rfl ?_
  refine w_if_ne_f (tgt := 36) dX10_readPiece_15 rfl h1 ?_
  refine w_iload_n dX10_readPiece_18 rfl ?_
  refine w_if_ne_f (tgt := 36) dX10_readPiece_19 rfl h2 ?_
  refine w_aload_n dX10_readPiece_22 rfl ?_
  refine w_ldcS (i := 20) rfl rfl rfl dX10_readPiece_23 ?_
  refine w_callV (ci := 10) (d' := d + 8) (mc' := 0) (ms' := 0) (As := [.ref (G.2.2.1 20)]) (st := []) lX10_156 vX10_isWord rfl (hUs_at nd 0 rfl rfl) rfl (Nat.le_of_ble_eq_true rfl) dX10_readPiece_25 (Nat.le_of_ble_eq_true rfl) (Nat.le_of_ble_eq_true rfl) (Nat.le_refl _) (m_isWord (i := 20) (s := (.inl x)) rfl (hHas_sub nd (as' := [m]) (cs' := [(oC 10 (mF m th tr wa tp (nI E) sp fa fl tk ta sg nu wd lo wv rl rw ht sd ah cl))]) [0] rfl rfl) hp ?_)
  refine w_if_ne_f (tgt := 36) dX10_readPiece_28 rfl h3 ?_
  refine w_aload_n dX10_readPiece_31 rfl ?_
  refine w_iconst (v := 1) dX10_readPiece_32 (by decide) ?_
  refine w_callV (ci := 10) (d' := d + 8) (mc' := 0) (ms' := 0) (As := [.int 1]) (st := []) lX10_160 vX10_flaw rfl (hUs_at nd 0 rfl rfl) rfl (Nat.le_of_ble_eq_true rfl) dX10_readPiece_33 (Nat.le_of_ble_eq_true rfl) (Nat.le_of_ble_eq_true rfl) (Nat.le_refl _) (m_flaw (s := (.inl x)) (hHas_sub nd (as' := [m]) (cs' := [(oC 10 (mF m th tr wa tp (nI E) sp fa fl tk ta sg nu wd lo wv rl rw ht sd ah cl))]) [0] rfl rfl) (nd_sub nd (as' := [m]) [0] rfl rfl) (by decide) hp (fun fa1 fl1 hp1 => ?_))
  refine w_heq (hUs_in nd rfl [0] (cs2 := [(oC 10 (mF m th tr wa tp (nI E) sp fa1 fl1 tk ta sg nu wd lo wv rl rw ht sd ah cl)), (aI 600 gt), (aI 8 fp), (aI 64 fk), (aI 64 fx), (aI 64 fy), (aI 64 fc)]) rfl rfl) ?_
  refine w_aload_n dX10_readPiece_36 rfl ?_
  refine w_get (v := .ref (m + 8)) fX10_36 (hUs_at nd 0 rfl rfl) rfl dX10_readPiece_37 ?_
  refine w_iload_n dX10_readPiece_40 rfl ?_
  refine w_ialoadN (hUs_at nd 2 rfl rfl) (by omega) (by omega) dX10_readPiece_41 ?_
  refine w_top (z := nI W.2.2.2.2.1) hfp ?_
  refine w_bipush (v := 8) dX10_readPiece_42 (by decide) ?_
  refine w_icmp_ne (tgt := 52) dX10_readPiece_44 rfl (fun b44 => ?_) (fun b44 => ?_)
  · have b44 : ¬ W.2.2.2.2.1 = 8 := fun z => b44 ((nI_eq (a := W.2.2.2.2.1) (b := 8) (by omega) (by omega)).mpr z)
    refine w_aload_n dX10_readPiece_52 rfl ?_
    refine w_callV (ci := 10) (d' := d + 8) (mc' := 0) (ms' := 0) (As := []) (st := []) lX10_164 vX10_goOn rfl (hUs_at nd 0 rfl rfl) rfl (Nat.le_of_ble_eq_true rfl) dX10_readPiece_53 (Nat.le_of_ble_eq_true rfl) (Nat.le_of_ble_eq_true rfl) (Nat.le_refl _) (m_goOn (s := (.inr (1, nI x.2.2.2.1))) (hHas_sub nd (as' := [m, m + 1]) (cs' := [(oC 10 (mF m th tr wa tp (nI E) sp fa1 fl1 tk ta sg nu wd lo wv rl rw ht sd ah cl)), (aI 600 gt)]) [0, 1] rfl rfl) (nd_sub nd (as' := [m, m + 1]) [0, 1] rfl rfl) hE hT hp1 (fun sp2 fa2 fl2 tk2 ta2 sg2 nu2 wd2 hp2 => ?_))
    refine w_heq (hUs_in nd rfl [0, 1] (cs2 := [(oC 10 (mF m th tr wa tp (nI E) sp2 fa2 fl2 tk2 ta2 sg2 nu2 wd2 lo wv rl rw ht sd ah cl)), (aI 600 gt), (aI 8 fp), (aI 64 fk), (aI 64 fx), (aI 64 fy), (aI 64 fc)]) rfl rfl) ?_
    refine w_bipush (v := 8) dX10_readPiece_56 (by decide) ?_
    refine w_iload_n dX10_readPiece_58 rfl ?_
    refine w_imulE (z := nI (8 * l)) dX10_readPiece_59 (pk_mul (8) (l)) ?_
    refine w_aload_n dX10_readPiece_60 rfl ?_
    refine w_get (v := .ref (m + 8)) fX10_36 (hUs_at nd 0 rfl rfl) rfl dX10_readPiece_61 ?_
    refine w_iload_n dX10_readPiece_64 rfl ?_
    refine w_ialoadN (hUs_at nd 2 rfl rfl) (by omega) (by omega) dX10_readPiece_65 ?_
    refine w_top (z := nI W.2.2.2.2.1) hfp ?_
    refine w_iaddE (z := nI ((8 * l) + W.2.2.2.2.1)) dX10_readPiece_66 (nI_add ((8 * l)) (W.2.2.2.2.1)) ?_
    refine w_istore (ls2 := [some (.ref m), some (.int (nI l)), some (.int (isS (.inl x) [104, 111, 108, 100] 4)), some (.int (isS (.inl x) [114, 97, 109, 112] 4)), some (.int (nI ((8 * l) + W.2.2.2.2.1))), none, none, none]) dX10_readPiece_67 (by decide) rfl rfl ?_
    refine w_aload_n dX10_readPiece_69 rfl ?_
    refine w_callV (ci := 10) (d' := d + 8) (mc' := 0) (ms' := 0) (As := []) (st := []) lX10_216 vX10_readInt rfl (hUs_at nd 0 rfl rfl) rfl (Nat.le_of_ble_eq_true rfl) dX10_readPiece_70 (Nat.le_of_ble_eq_true rfl) (Nat.le_of_ble_eq_true rfl) (Nat.le_refl _) (m_readInt (s := (.inr (1, nI x.2.2.2.1))) (hHas_sub nd (as' := [m, m + 1]) (cs' := [(oC 10 (mF m th tr wa tp (nI E) sp2 fa2 fl2 tk2 ta2 sg2 nu2 wd2 lo wv rl rw ht sd ah cl)), (aI 600 gt)]) [0, 1] rfl rfl) (nd_sub nd (as' := [m, m + 1]) [0, 1] rfl rfl) hE hT hp2 (fun sp3 fa3 fl3 tk3 ta3 sg3 nu3 wd3 v3 hp3 hv3 => ?_))
    refine w_heq (hUs_in nd rfl [0, 1] (cs2 := [(oC 10 (mF m th tr wa tp (nI E) sp3 fa3 fl3 tk3 ta3 sg3 nu3 wd3 lo wv rl rw ht sd ah cl)), (aI 600 gt), (aI 8 fp), (aI 64 fk), (aI 64 fx), (aI 64 fy), (aI 64 fc)]) rfl rfl) ?_
    refine w_istore (ls2 := [some (.ref m), some (.int (nI l)), some (.int (isS (.inl x) [104, 111, 108, 100] 4)), some (.int (isS (.inl x) [114, 97, 109, 112] 4)), some (.int (nI ((8 * l) + W.2.2.2.2.1))), some (.int v3), none, none]) dX10_readPiece_73 (by decide) rfl rfl ?_
    refine w_iconst (v := 0) dX10_readPiece_75 (by decide) ?_
    refine w_istore (ls2 := [some (.ref m), some (.int (nI l)), some (.int (isS (.inl x) [104, 111, 108, 100] 4)), some (.int (isS (.inl x) [114, 97, 109, 112] 4)), some (.int (nI ((8 * l) + W.2.2.2.2.1))), some (.int v3), some (.int 0), none]) dX10_readPiece_76 (by decide) rfl rfl ?_
    refine w_iload_n dX10_readPiece_78 rfl ?_
    refine w_if_eq_t (tgt := 97) dX10_readPiece_79 rfl h2 ?_
    refine w_iload_n dX10_readPiece_97 rfl ?_
    refine w_if_ne_f (tgt := 116) dX10_readPiece_98 rfl h1 ?_
    refine w_aload_n dX10_readPiece_101 rfl ?_
    refine w_ldcS (i := 22) rfl rfl rfl dX10_readPiece_102 ?_
    refine w_callV (ci := 10) (d' := d + 8) (mc' := 0) (ms' := 0) (As := [.ref (G.2.2.1 22)]) (st := []) lX10_209 vX10_needs rfl (hUs_at nd 0 rfl rfl) rfl (Nat.le_of_ble_eq_true rfl) dX10_readPiece_104 (Nat.le_of_ble_eq_true rfl) (Nat.le_of_ble_eq_true rfl) (Nat.le_refl _) (m_needs (i := 22) (s := (.inr (1, nI x.2.2.2.1))) (hHas_sub nd (as' := [m, m + 1]) (cs' := [(oC 10 (mF m th tr wa tp (nI E) sp3 fa3 fl3 tk3 ta3 sg3 nu3 wd3 lo wv rl rw ht sd ah cl)), (aI 600 gt)]) [0, 1] rfl rfl) (nd_sub nd (as' := [m, m + 1]) [0, 1] rfl rfl) rfl hE hT hp3 (fun sp4 fa4 fl4 tk4 ta4 sg4 nu4 wd4 hp4 => ?_))
    refine w_heq (hUs_in nd rfl [0, 1] (cs2 := [(oC 10 (mF m th tr wa tp (nI E) sp4 fa4 fl4 tk4 ta4 sg4 nu4 wd4 lo wv rl rw ht sd ah cl)), (aI 600 gt), (aI 8 fp), (aI 64 fk), (aI 64 fx), (aI 64 fy), (aI 64 fc)]) rfl rfl) ?_
    refine w_aload_n dX10_readPiece_107 rfl ?_
    refine w_iconst (v := 2) dX10_readPiece_108 (by decide) ?_
    refine w_bipush (v := 99) dX10_readPiece_109 (by decide) ?_
    refine w_callV (ci := 10) (d' := d + 8) (mc' := 0) (ms' := 0) (As := [.int 2, .int 99]) (st := []) lX10_191 vX10_readWhole rfl (hUs_at nd 0 rfl rfl) rfl (Nat.le_of_ble_eq_true rfl) dX10_readPiece_111 (Nat.le_of_ble_eq_true rfl) (Nat.le_of_ble_eq_true rfl) (Nat.le_refl _) (m_readWhole (s := (.inr (1, nI x.2.2.2.1))) (hHas_sub nd (as' := [m, m + 1]) (cs' := [(oC 10 (mF m th tr wa tp (nI E) sp4 fa4 fl4 tk4 ta4 sg4 nu4 wd4 lo wv rl rw ht sd ah cl)), (aI 600 gt)]) [0, 1] rfl rfl) (nd_sub nd (as' := [m, m + 1]) [0, 1] rfl rfl) hE hT hp4 (fun sp5 fa5 fl5 tk5 ta5 sg5 nu5 wd5 v5 hp5 hv5 => ?_))
    refine w_heq (hUs_in nd rfl [0, 1] (cs2 := [(oC 10 (mF m th tr wa tp (nI E) sp5 fa5 fl5 tk5 ta5 sg5 nu5 wd5 lo wv rl rw ht sd ah cl)), (aI 600 gt), (aI 8 fp), (aI 64 fk), (aI 64 fx), (aI 64 fy), (aI 64 fc)]) rfl rfl) ?_
    refine w_istore (ls2 := [some (.ref m), some (.int (nI l)), some (.int (isS (.inl x) [104, 111, 108, 100] 4)), some (.int (isS (.inl x) [114, 97, 109, 112] 4)), some (.int (nI ((8 * l) + W.2.2.2.2.1))), some (.int v3), some (.int v5), none]) dX10_readPiece_114 (by decide) rfl rfl ?_
    refine w_aload_n dX10_readPiece_116 rfl ?_
    refine w_ldcS (i := 23) rfl rfl rfl dX10_readPiece_117 ?_
    refine w_callV (ci := 10) (d' := d + 8) (mc' := 0) (ms' := 0) (As := [.ref (G.2.2.1 23)]) (st := []) lX10_209 vX10_needs rfl (hUs_at nd 0 rfl rfl) rfl (Nat.le_of_ble_eq_true rfl) dX10_readPiece_119 (Nat.le_of_ble_eq_true rfl) (Nat.le_of_ble_eq_true rfl) (Nat.le_refl _) (m_needs (i := 23) (s := (.inr (1, nI x.2.2.2.1))) (hHas_sub nd (as' := [m, m + 1]) (cs' := [(oC 10 (mF m th tr wa tp (nI E) sp5 fa5 fl5 tk5 ta5 sg5 nu5 wd5 lo wv rl rw ht sd ah cl)), (aI 600 gt)]) [0, 1] rfl rfl) (nd_sub nd (as' := [m, m + 1]) [0, 1] rfl rfl) rfl hE hT hp5 (fun sp6 fa6 fl6 tk6 ta6 sg6 nu6 wd6 hp6 => ?_))
    refine w_heq (hUs_in nd rfl [0, 1] (cs2 := [(oC 10 (mF m th tr wa tp (nI E) sp6 fa6 fl6 tk6 ta6 sg6 nu6 wd6 lo wv rl rw ht sd ah cl)), (aI 600 gt), (aI 8 fp), (aI 64 fk), (aI 64 fx), (aI 64 fy), (aI 64 fc)]) rfl rfl) ?_
    refine w_aload_n dX10_readPiece_122 rfl ?_
    refine w_iconst (v := 1) dX10_readPiece_123 (by decide) ?_
    refine w_sipush (v := 500) dX10_readPiece_124 (by decide) ?_
    refine w_callV (ci := 10) (d' := d + 8) (mc' := 0) (ms' := 0) (As := [.int 1, .int 500]) (st := []) lX10_191 vX10_readWhole rfl (hUs_at nd 0 rfl rfl) rfl (Nat.le_of_ble_eq_true rfl) dX10_readPiece_127 (Nat.le_of_ble_eq_true rfl) (Nat.le_of_ble_eq_true rfl) (Nat.le_refl _) (m_readWhole (s := (.inr (1, nI x.2.2.2.1))) (hHas_sub nd (as' := [m, m + 1]) (cs' := [(oC 10 (mF m th tr wa tp (nI E) sp6 fa6 fl6 tk6 ta6 sg6 nu6 wd6 lo wv rl rw ht sd ah cl)), (aI 600 gt)]) [0, 1] rfl rfl) (nd_sub nd (as' := [m, m + 1]) [0, 1] rfl rfl) hE hT hp6 (fun sp7 fa7 fl7 tk7 ta7 sg7 nu7 wd7 v7 hp7 hv7 => ?_))
    refine w_heq (hUs_in nd rfl [0, 1] (cs2 := [(oC 10 (mF m th tr wa tp (nI E) sp7 fa7 fl7 tk7 ta7 sg7 nu7 wd7 lo wv rl rw ht sd ah cl)), (aI 600 gt), (aI 8 fp), (aI 64 fk), (aI 64 fx), (aI 64 fy), (aI 64 fc)]) rfl rfl) ?_
    refine w_istore (ls2 := [some (.ref m), some (.int (nI l)), some (.int (isS (.inl x) [104, 111, 108, 100] 4)), some (.int (isS (.inl x) [114, 97, 109, 112] 4)), some (.int (nI ((8 * l) + W.2.2.2.2.1))), some (.int v3), some (.int v5), some (.int v7)]) dX10_readPiece_130 (by decide) rfl rfl ?_
    refine w_aload_n dX10_readPiece_132 rfl ?_
    refine w_get (v := .int fa7) fX10_99 (hUs_at nd 0 rfl rfl) rfl dX10_readPiece_133 ?_
    refine w_if_le_f (tgt := 140) dX10_readPiece_136 rfl (fun z => absurd hp7.2.1 (by rw [← hp7.1]; exact Int32.not_lt.mpr z)) ?_
    refine w_return rfl dX10_readPiece_139 (Nat.le_of_ble_eq_true rfl) (Nat.le_of_ble_eq_true rfl) ?_
    exact k _ _ _ _ _ _ _ _ _ _ _ _ _ (by rw [show (rPc ft x W) = (0, rFl x 1 (nI x.2.2.2.1), W) by rw [rPc, if_pos h1, if_pos h2, if_pos h3]]; exact hp7) frO_r (fun _ _ => ⟨rfl, rfl, rfl, rfl⟩) (fun z => absurd (show (rPc ft x W).1 = 0 by rw [show (rPc ft x W) = (0, rFl x 1 (nI x.2.2.2.1), W) by rw [rPc, if_pos h1, if_pos h2, if_pos h3]]) z)
  · have b44 := (nI_eq (a := W.2.2.2.2.1) (b := 8) (by omega) (by omega)).mp b44
    refine w_aload_n dX10_readPiece_47 rfl ?_
    refine w_iconst (v := 4) dX10_readPiece_48 (by decide) ?_
    refine w_callV (ci := 10) (d' := d + 8) (mc' := 0) (ms' := 0) (As := [.int 4]) (st := []) lX10_160 vX10_flaw rfl (hUs_at nd 0 rfl rfl) rfl (Nat.le_of_ble_eq_true rfl) dX10_readPiece_49 (Nat.le_of_ble_eq_true rfl) (Nat.le_of_ble_eq_true rfl) (Nat.le_refl _) (m_flaw (s := (.inr (1, nI x.2.2.2.1))) (hHas_sub nd (as' := [m]) (cs' := [(oC 10 (mF m th tr wa tp (nI E) sp fa1 fl1 tk ta sg nu wd lo wv rl rw ht sd ah cl))]) [0] rfl rfl) (nd_sub nd (as' := [m]) [0] rfl rfl) (by decide) hp1 (fun fa2 fl2 hp2 => ?_))
    refine w_heq (hUs_in nd rfl [0] (cs2 := [(oC 10 (mF m th tr wa tp (nI E) sp fa2 fl2 tk ta sg nu wd lo wv rl rw ht sd ah cl)), (aI 600 gt), (aI 8 fp), (aI 64 fk), (aI 64 fx), (aI 64 fy), (aI 64 fc)]) rfl rfl) ?_
    refine w_aload_n dX10_readPiece_52 rfl ?_
    refine w_callV (ci := 10) (d' := d + 8) (mc' := 0) (ms' := 0) (As := []) (st := []) lX10_164 vX10_goOn rfl (hUs_at nd 0 rfl rfl) rfl (Nat.le_of_ble_eq_true rfl) dX10_readPiece_53 (Nat.le_of_ble_eq_true rfl) (Nat.le_of_ble_eq_true rfl) (Nat.le_refl _) (m_goOn (s := (.inr (1, nI x.2.2.2.1))) (hHas_sub nd (as' := [m, m + 1]) (cs' := [(oC 10 (mF m th tr wa tp (nI E) sp fa2 fl2 tk ta sg nu wd lo wv rl rw ht sd ah cl)), (aI 600 gt)]) [0, 1] rfl rfl) (nd_sub nd (as' := [m, m + 1]) [0, 1] rfl rfl) hE hT hp2 (fun sp3 fa3 fl3 tk3 ta3 sg3 nu3 wd3 hp3 => ?_))
    refine w_heq (hUs_in nd rfl [0, 1] (cs2 := [(oC 10 (mF m th tr wa tp (nI E) sp3 fa3 fl3 tk3 ta3 sg3 nu3 wd3 lo wv rl rw ht sd ah cl)), (aI 600 gt), (aI 8 fp), (aI 64 fk), (aI 64 fx), (aI 64 fy), (aI 64 fc)]) rfl rfl) ?_
    refine w_bipush (v := 8) dX10_readPiece_56 (by decide) ?_
    refine w_iload_n dX10_readPiece_58 rfl ?_
    refine w_imulE (z := nI (8 * l)) dX10_readPiece_59 (pk_mul (8) (l)) ?_
    refine w_aload_n dX10_readPiece_60 rfl ?_
    refine w_get (v := .ref (m + 8)) fX10_36 (hUs_at nd 0 rfl rfl) rfl dX10_readPiece_61 ?_
    refine w_iload_n dX10_readPiece_64 rfl ?_
    refine w_ialoadN (hUs_at nd 2 rfl rfl) (by omega) (by omega) dX10_readPiece_65 ?_
    refine w_top (z := nI W.2.2.2.2.1) hfp ?_
    refine w_iaddE (z := nI ((8 * l) + W.2.2.2.2.1)) dX10_readPiece_66 (nI_add ((8 * l)) (W.2.2.2.2.1)) ?_
    refine w_istore (ls2 := [some (.ref m), some (.int (nI l)), some (.int (isS (.inl x) [104, 111, 108, 100] 4)), some (.int (isS (.inl x) [114, 97, 109, 112] 4)), some (.int (nI ((8 * l) + W.2.2.2.2.1))), none, none, none]) dX10_readPiece_67 (by decide) rfl rfl ?_
    refine w_aload_n dX10_readPiece_69 rfl ?_
    refine w_callV (ci := 10) (d' := d + 8) (mc' := 0) (ms' := 0) (As := []) (st := []) lX10_216 vX10_readInt rfl (hUs_at nd 0 rfl rfl) rfl (Nat.le_of_ble_eq_true rfl) dX10_readPiece_70 (Nat.le_of_ble_eq_true rfl) (Nat.le_of_ble_eq_true rfl) (Nat.le_refl _) (m_readInt (s := (.inr (1, nI x.2.2.2.1))) (hHas_sub nd (as' := [m, m + 1]) (cs' := [(oC 10 (mF m th tr wa tp (nI E) sp3 fa3 fl3 tk3 ta3 sg3 nu3 wd3 lo wv rl rw ht sd ah cl)), (aI 600 gt)]) [0, 1] rfl rfl) (nd_sub nd (as' := [m, m + 1]) [0, 1] rfl rfl) hE hT hp3 (fun sp4 fa4 fl4 tk4 ta4 sg4 nu4 wd4 v4 hp4 hv4 => ?_))
    refine w_heq (hUs_in nd rfl [0, 1] (cs2 := [(oC 10 (mF m th tr wa tp (nI E) sp4 fa4 fl4 tk4 ta4 sg4 nu4 wd4 lo wv rl rw ht sd ah cl)), (aI 600 gt), (aI 8 fp), (aI 64 fk), (aI 64 fx), (aI 64 fy), (aI 64 fc)]) rfl rfl) ?_
    refine w_istore (ls2 := [some (.ref m), some (.int (nI l)), some (.int (isS (.inl x) [104, 111, 108, 100] 4)), some (.int (isS (.inl x) [114, 97, 109, 112] 4)), some (.int (nI ((8 * l) + W.2.2.2.2.1))), some (.int v4), none, none]) dX10_readPiece_73 (by decide) rfl rfl ?_
    refine w_iconst (v := 0) dX10_readPiece_75 (by decide) ?_
    refine w_istore (ls2 := [some (.ref m), some (.int (nI l)), some (.int (isS (.inl x) [104, 111, 108, 100] 4)), some (.int (isS (.inl x) [114, 97, 109, 112] 4)), some (.int (nI ((8 * l) + W.2.2.2.2.1))), some (.int v4), some (.int 0), none]) dX10_readPiece_76 (by decide) rfl rfl ?_
    refine w_iload_n dX10_readPiece_78 rfl ?_
    refine w_if_eq_t (tgt := 97) dX10_readPiece_79 rfl h2 ?_
    refine w_iload_n dX10_readPiece_97 rfl ?_
    refine w_if_ne_f (tgt := 116) dX10_readPiece_98 rfl h1 ?_
    refine w_aload_n dX10_readPiece_101 rfl ?_
    refine w_ldcS (i := 22) rfl rfl rfl dX10_readPiece_102 ?_
    refine w_callV (ci := 10) (d' := d + 8) (mc' := 0) (ms' := 0) (As := [.ref (G.2.2.1 22)]) (st := []) lX10_209 vX10_needs rfl (hUs_at nd 0 rfl rfl) rfl (Nat.le_of_ble_eq_true rfl) dX10_readPiece_104 (Nat.le_of_ble_eq_true rfl) (Nat.le_of_ble_eq_true rfl) (Nat.le_refl _) (m_needs (i := 22) (s := (.inr (1, nI x.2.2.2.1))) (hHas_sub nd (as' := [m, m + 1]) (cs' := [(oC 10 (mF m th tr wa tp (nI E) sp4 fa4 fl4 tk4 ta4 sg4 nu4 wd4 lo wv rl rw ht sd ah cl)), (aI 600 gt)]) [0, 1] rfl rfl) (nd_sub nd (as' := [m, m + 1]) [0, 1] rfl rfl) rfl hE hT hp4 (fun sp5 fa5 fl5 tk5 ta5 sg5 nu5 wd5 hp5 => ?_))
    refine w_heq (hUs_in nd rfl [0, 1] (cs2 := [(oC 10 (mF m th tr wa tp (nI E) sp5 fa5 fl5 tk5 ta5 sg5 nu5 wd5 lo wv rl rw ht sd ah cl)), (aI 600 gt), (aI 8 fp), (aI 64 fk), (aI 64 fx), (aI 64 fy), (aI 64 fc)]) rfl rfl) ?_
    refine w_aload_n dX10_readPiece_107 rfl ?_
    refine w_iconst (v := 2) dX10_readPiece_108 (by decide) ?_
    refine w_bipush (v := 99) dX10_readPiece_109 (by decide) ?_
    refine w_callV (ci := 10) (d' := d + 8) (mc' := 0) (ms' := 0) (As := [.int 2, .int 99]) (st := []) lX10_191 vX10_readWhole rfl (hUs_at nd 0 rfl rfl) rfl (Nat.le_of_ble_eq_true rfl) dX10_readPiece_111 (Nat.le_of_ble_eq_true rfl) (Nat.le_of_ble_eq_true rfl) (Nat.le_refl _) (m_readWhole (s := (.inr (1, nI x.2.2.2.1))) (hHas_sub nd (as' := [m, m + 1]) (cs' := [(oC 10 (mF m th tr wa tp (nI E) sp5 fa5 fl5 tk5 ta5 sg5 nu5 wd5 lo wv rl rw ht sd ah cl)), (aI 600 gt)]) [0, 1] rfl rfl) (nd_sub nd (as' := [m, m + 1]) [0, 1] rfl rfl) hE hT hp5 (fun sp6 fa6 fl6 tk6 ta6 sg6 nu6 wd6 v6 hp6 hv6 => ?_))
    refine w_heq (hUs_in nd rfl [0, 1] (cs2 := [(oC 10 (mF m th tr wa tp (nI E) sp6 fa6 fl6 tk6 ta6 sg6 nu6 wd6 lo wv rl rw ht sd ah cl)), (aI 600 gt), (aI 8 fp), (aI 64 fk), (aI 64 fx), (aI 64 fy), (aI 64 fc)]) rfl rfl) ?_
    refine w_istore (ls2 := [some (.ref m), some (.int (nI l)), some (.int (isS (.inl x) [104, 111, 108, 100] 4)), some (.int (isS (.inl x) [114, 97, 109, 112] 4)), some (.int (nI ((8 * l) + W.2.2.2.2.1))), some (.int v4), some (.int v6), none]) dX10_readPiece_114 (by decide) rfl rfl ?_
    refine w_aload_n dX10_readPiece_116 rfl ?_
    refine w_ldcS (i := 23) rfl rfl rfl dX10_readPiece_117 ?_
    refine w_callV (ci := 10) (d' := d + 8) (mc' := 0) (ms' := 0) (As := [.ref (G.2.2.1 23)]) (st := []) lX10_209 vX10_needs rfl (hUs_at nd 0 rfl rfl) rfl (Nat.le_of_ble_eq_true rfl) dX10_readPiece_119 (Nat.le_of_ble_eq_true rfl) (Nat.le_of_ble_eq_true rfl) (Nat.le_refl _) (m_needs (i := 23) (s := (.inr (1, nI x.2.2.2.1))) (hHas_sub nd (as' := [m, m + 1]) (cs' := [(oC 10 (mF m th tr wa tp (nI E) sp6 fa6 fl6 tk6 ta6 sg6 nu6 wd6 lo wv rl rw ht sd ah cl)), (aI 600 gt)]) [0, 1] rfl rfl) (nd_sub nd (as' := [m, m + 1]) [0, 1] rfl rfl) rfl hE hT hp6 (fun sp7 fa7 fl7 tk7 ta7 sg7 nu7 wd7 hp7 => ?_))
    refine w_heq (hUs_in nd rfl [0, 1] (cs2 := [(oC 10 (mF m th tr wa tp (nI E) sp7 fa7 fl7 tk7 ta7 sg7 nu7 wd7 lo wv rl rw ht sd ah cl)), (aI 600 gt), (aI 8 fp), (aI 64 fk), (aI 64 fx), (aI 64 fy), (aI 64 fc)]) rfl rfl) ?_
    refine w_aload_n dX10_readPiece_122 rfl ?_
    refine w_iconst (v := 1) dX10_readPiece_123 (by decide) ?_
    refine w_sipush (v := 500) dX10_readPiece_124 (by decide) ?_
    refine w_callV (ci := 10) (d' := d + 8) (mc' := 0) (ms' := 0) (As := [.int 1, .int 500]) (st := []) lX10_191 vX10_readWhole rfl (hUs_at nd 0 rfl rfl) rfl (Nat.le_of_ble_eq_true rfl) dX10_readPiece_127 (Nat.le_of_ble_eq_true rfl) (Nat.le_of_ble_eq_true rfl) (Nat.le_refl _) (m_readWhole (s := (.inr (1, nI x.2.2.2.1))) (hHas_sub nd (as' := [m, m + 1]) (cs' := [(oC 10 (mF m th tr wa tp (nI E) sp7 fa7 fl7 tk7 ta7 sg7 nu7 wd7 lo wv rl rw ht sd ah cl)), (aI 600 gt)]) [0, 1] rfl rfl) (nd_sub nd (as' := [m, m + 1]) [0, 1] rfl rfl) hE hT hp7 (fun sp8 fa8 fl8 tk8 ta8 sg8 nu8 wd8 v8 hp8 hv8 => ?_))
    refine w_heq (hUs_in nd rfl [0, 1] (cs2 := [(oC 10 (mF m th tr wa tp (nI E) sp8 fa8 fl8 tk8 ta8 sg8 nu8 wd8 lo wv rl rw ht sd ah cl)), (aI 600 gt), (aI 8 fp), (aI 64 fk), (aI 64 fx), (aI 64 fy), (aI 64 fc)]) rfl rfl) ?_
    refine w_istore (ls2 := [some (.ref m), some (.int (nI l)), some (.int (isS (.inl x) [104, 111, 108, 100] 4)), some (.int (isS (.inl x) [114, 97, 109, 112] 4)), some (.int (nI ((8 * l) + W.2.2.2.2.1))), some (.int v4), some (.int v6), some (.int v8)]) dX10_readPiece_130 (by decide) rfl rfl ?_
    refine w_aload_n dX10_readPiece_132 rfl ?_
    refine w_get (v := .int fa8) fX10_99 (hUs_at nd 0 rfl rfl) rfl dX10_readPiece_133 ?_
    refine w_if_le_f (tgt := 140) dX10_readPiece_136 rfl (fun z => absurd hp8.2.1 (by rw [← hp8.1]; exact Int32.not_lt.mpr z)) ?_
    refine w_return rfl dX10_readPiece_139 (Nat.le_of_ble_eq_true rfl) (Nat.le_of_ble_eq_true rfl) ?_
    exact k _ _ _ _ _ _ _ _ _ _ _ _ _ (by rw [show (rPc ft x W) = (0, rFl x 1 (nI x.2.2.2.1), W) by rw [rPc, if_pos h1, if_pos h2, if_pos h3]]; exact hp8) frO_r (fun _ _ => ⟨rfl, rfl, rfl, rfl⟩) (fun z => absurd (show (rPc ft x W).1 = 0 by rw [show (rPc ft x W) = (0, rFl x 1 (nI x.2.2.2.1), W) by rw [rPc, if_pos h1, if_pos h2, if_pos h3]]) z)
set_option maxRecDepth 100000 in
set_option maxHeartbeats 4000000 in
theorem m_piece8_hold {G : wG} {d : Nat} {h : hH} {Q : Option Value → hH → Prop} {m : Nat} {th tr wa tp sp fa fl tk ta sg nu : Int32} {wd : Int64} {lo wv rl rw ht sd ah cl : Int32} {ft gt : Nat → Int32} {E : Nat} {fp : Nat → Int32} {fk : Nat → Int32} {fx : Nat → Int32} {fy : Nat → Int32} {fc : Nat → Int32} {l : Nat} {x : rD} {W : wP} (hw : hHas h [m, m + 1, m + 8, m + 10, m + 11, m + 12, m + 13] [(oC 10 (mF m th tr wa tp (nI E) sp fa fl tk ta sg nu wd lo wv rl rw ht sd ah cl)), (aI 600 gt), (aI 8 fp), (aI 64 fk), (aI 64 fx), (aI 64 fy), (aI 64 fc)]) (nd : [m, m + 1, m + 8, m + 10, m + 11, m + 12, m + 13].Nodup) (hE : E ≤ 600) (hT : mT E ft gt) (hl : l < 8) (hfp : fp l = nI W.2.2.2.2.1) (hAt : wAt W (8 * l) fk fx fy fc) (hG : wGs W) (h1 : ¬ isW x.2.2.1 x.2.2.2.2.1 [104, 111, 108, 100] 4 = 0) (h8 : W.2.2.2.2.1 = 8) (hp : pR (.inl x) E sp fa fl tk ta sg nu wd) (k : ∀ (sp fa fl tk ta sg nu : Int32) (wd : Int64) (gp gk gx gy gc : Nat → Int32), pR (rcS ((rPc ft x W).1, (rPc ft x W).2.1)) E sp fa fl tk ta sg nu wd → frO l fp gp → (∀ j, (j < 8 * l ∨ 8 * l + 8 ≤ j) → gk j = fk j ∧ gx j = fx j ∧ gy j = fy j ∧ gc j = fc j) → (¬ (rPc ft x W).1 = 0 → gp l = nI (rPc ft x W).2.2.2.2.2.2.1 ∧ wAt (rPc ft x W).2.2 (8 * l) gk gx gy gc ∧ wGs (rPc ft x W).2.2) → Q none (hUs h [m, m + 1, m + 8, m + 10, m + 11, m + 12, m + 13] [(oC 10 (mF m th tr wa tp (nI E) sp fa fl tk ta sg nu wd lo wv rl rw ht sd ah cl)), (aI 600 gt), (aI 8 gp), (aI 64 gk), (aI 64 gx), (aI 64 gy), (aI 64 gc)])) : Cl G yX10_readPiece (d + 9) 0 0 [.ref m, .int (nI l)] h Q := by
  have h2 := isW_no (cs := [114, 97, 109, 112]) (m := 4) h1 (by decide)
  have hp8 := hG.1
  refine Cl.of (ini := false) kX10_readPiece (plainFor_of_name (by decide)) (by decide) (Nat.le_of_ble_eq_true rfl) rfl rfl (fun z => by cases z) ?_
  refine w_heq (hUs_id hw).symm ?_
  refine w_aload_n dX10_readPiece_0 rfl ?_
  refine w_ldcS (i := 18) rfl rfl rfl dX10_readPiece_1 ?_
  refine w_callV (ci := 10) (d' := d + 8) (mc' := 0) (ms' := 0) (As := [.ref (G.2.2.1 18)]) (st := []) lX10_156 vX10_isWord rfl (hUs_at nd 0 rfl rfl) rfl (Nat.le_of_ble_eq_true rfl) dX10_readPiece_3 (Nat.le_of_ble_eq_true rfl) (Nat.le_of_ble_eq_true rfl) (Nat.le_refl _) (m_isWord (i := 18) (s := (.inl x)) rfl (hHas_sub nd (as' := [m]) (cs' := [(oC 10 (mF m th tr wa tp (nI E) sp fa fl tk ta sg nu wd lo wv rl rw ht sd ah cl))]) [0] rfl rfl) hp ?_)
  refine w_istore_n (ls2 := [some (.ref m), some (.int (nI l)), some (.int (isS (.inl x) [104, 111, 108, 100] 4)), none, none, none, none, none]) dX10_readPiece_6 (by decide) rfl rfl ?_
  refine w_aload_n dX10_readPiece_7 rfl ?_
  refine w_ldcS (i := 19) rfl rfl rfl dX10_readPiece_8 ?_
  refine w_callV (ci := 10) (d' := d + 8) (mc' := 0) (ms' := 0) (As := [.ref (G.2.2.1 19)]) (st := []) lX10_156 vX10_isWord rfl (hUs_at nd 0 rfl rfl) rfl (Nat.le_of_ble_eq_true rfl) dX10_readPiece_10 (Nat.le_of_ble_eq_true rfl) (Nat.le_of_ble_eq_true rfl) (Nat.le_refl _) (m_isWord (i := 19) (s := (.inl x)) rfl (hHas_sub nd (as' := [m]) (cs' := [(oC 10 (mF m th tr wa tp (nI E) sp fa fl tk ta sg nu wd lo wv rl rw ht sd ah cl))]) [0] rfl rfl) hp ?_)
  refine w_istore_n (ls2 := [some (.ref m), some (.int (nI l)), some (.int (isS (.inl x) [104, 111, 108, 100] 4)), some (.int (isS (.inl x) [114, 97, 109, 112] 4)), none, none, none, none]) dX10_readPiece_13 (by decide) rfl rfl ?_
  refine w_iload_n dX10_readPiece_14 rfl ?_
  refine w_if_ne_t (tgt := 36) dX10_readPiece_15 rfl h1 ?_
  refine w_aload_n dX10_readPiece_36 rfl ?_
  refine w_get (v := .ref (m + 8)) fX10_36 (hUs_at nd 0 rfl rfl) rfl dX10_readPiece_37 ?_
  refine w_iload_n dX10_readPiece_40 rfl ?_
  refine w_ialoadN (hUs_at nd 2 rfl rfl) (by omega) (by omega) dX10_readPiece_41 ?_
  refine w_top (z := nI W.2.2.2.2.1) hfp ?_
  refine w_bipush (v := 8) dX10_readPiece_42 (by decide) ?_
  refine w_icmp_ne_f (tgt := 52) dX10_readPiece_44 rfl ((nI_eq (a := W.2.2.2.2.1) (b := 8) (by omega) (by omega)).mpr (by omega)) ?_
  refine w_aload_n dX10_readPiece_47 rfl ?_
  refine w_iconst (v := 4) dX10_readPiece_48 (by decide) ?_
  refine w_callV (ci := 10) (d' := d + 8) (mc' := 0) (ms' := 0) (As := [.int 4]) (st := []) lX10_160 vX10_flaw rfl (hUs_at nd 0 rfl rfl) rfl (Nat.le_of_ble_eq_true rfl) dX10_readPiece_49 (Nat.le_of_ble_eq_true rfl) (Nat.le_of_ble_eq_true rfl) (Nat.le_refl _) (m_flaw (s := (.inl x)) (hHas_sub nd (as' := [m]) (cs' := [(oC 10 (mF m th tr wa tp (nI E) sp fa fl tk ta sg nu wd lo wv rl rw ht sd ah cl))]) [0] rfl rfl) (nd_sub nd (as' := [m]) [0] rfl rfl) (by decide) hp (fun fa1 fl1 hp1 => ?_))
  refine w_heq (hUs_in nd rfl [0] (cs2 := [(oC 10 (mF m th tr wa tp (nI E) sp fa1 fl1 tk ta sg nu wd lo wv rl rw ht sd ah cl)), (aI 600 gt), (aI 8 fp), (aI 64 fk), (aI 64 fx), (aI 64 fy), (aI 64 fc)]) rfl rfl) ?_
  refine w_aload_n dX10_readPiece_52 rfl ?_
  refine w_callV (ci := 10) (d' := d + 8) (mc' := 0) (ms' := 0) (As := []) (st := []) lX10_164 vX10_goOn rfl (hUs_at nd 0 rfl rfl) rfl (Nat.le_of_ble_eq_true rfl) dX10_readPiece_53 (Nat.le_of_ble_eq_true rfl) (Nat.le_of_ble_eq_true rfl) (Nat.le_refl _) (m_goOn (s := (.inr (4, nI x.2.2.2.1))) (hHas_sub nd (as' := [m, m + 1]) (cs' := [(oC 10 (mF m th tr wa tp (nI E) sp fa1 fl1 tk ta sg nu wd lo wv rl rw ht sd ah cl)), (aI 600 gt)]) [0, 1] rfl rfl) (nd_sub nd (as' := [m, m + 1]) [0, 1] rfl rfl) hE hT hp1 (fun sp2 fa2 fl2 tk2 ta2 sg2 nu2 wd2 hp2 => ?_))
  refine w_heq (hUs_in nd rfl [0, 1] (cs2 := [(oC 10 (mF m th tr wa tp (nI E) sp2 fa2 fl2 tk2 ta2 sg2 nu2 wd2 lo wv rl rw ht sd ah cl)), (aI 600 gt), (aI 8 fp), (aI 64 fk), (aI 64 fx), (aI 64 fy), (aI 64 fc)]) rfl rfl) ?_
  refine w_bipush (v := 8) dX10_readPiece_56 (by decide) ?_
  refine w_iload_n dX10_readPiece_58 rfl ?_
  refine w_imulE (z := nI (8 * l)) dX10_readPiece_59 (pk_mul (8) (l)) ?_
  refine w_aload_n dX10_readPiece_60 rfl ?_
  refine w_get (v := .ref (m + 8)) fX10_36 (hUs_at nd 0 rfl rfl) rfl dX10_readPiece_61 ?_
  refine w_iload_n dX10_readPiece_64 rfl ?_
  refine w_ialoadN (hUs_at nd 2 rfl rfl) (by omega) (by omega) dX10_readPiece_65 ?_
  refine w_top (z := nI W.2.2.2.2.1) hfp ?_
  refine w_iaddE (z := nI ((8 * l) + W.2.2.2.2.1)) dX10_readPiece_66 (nI_add ((8 * l)) (W.2.2.2.2.1)) ?_
  refine w_istore (ls2 := [some (.ref m), some (.int (nI l)), some (.int (isS (.inl x) [104, 111, 108, 100] 4)), some (.int (isS (.inl x) [114, 97, 109, 112] 4)), some (.int (nI ((8 * l) + W.2.2.2.2.1))), none, none, none]) dX10_readPiece_67 (by decide) rfl rfl ?_
  refine w_aload_n dX10_readPiece_69 rfl ?_
  refine w_callV (ci := 10) (d' := d + 8) (mc' := 0) (ms' := 0) (As := []) (st := []) lX10_216 vX10_readInt rfl (hUs_at nd 0 rfl rfl) rfl (Nat.le_of_ble_eq_true rfl) dX10_readPiece_70 (Nat.le_of_ble_eq_true rfl) (Nat.le_of_ble_eq_true rfl) (Nat.le_refl _) (m_readInt (s := (.inr (4, nI x.2.2.2.1))) (hHas_sub nd (as' := [m, m + 1]) (cs' := [(oC 10 (mF m th tr wa tp (nI E) sp2 fa2 fl2 tk2 ta2 sg2 nu2 wd2 lo wv rl rw ht sd ah cl)), (aI 600 gt)]) [0, 1] rfl rfl) (nd_sub nd (as' := [m, m + 1]) [0, 1] rfl rfl) hE hT hp2 (fun sp3 fa3 fl3 tk3 ta3 sg3 nu3 wd3 v3 hp3 hv3 => ?_))
  refine w_heq (hUs_in nd rfl [0, 1] (cs2 := [(oC 10 (mF m th tr wa tp (nI E) sp3 fa3 fl3 tk3 ta3 sg3 nu3 wd3 lo wv rl rw ht sd ah cl)), (aI 600 gt), (aI 8 fp), (aI 64 fk), (aI 64 fx), (aI 64 fy), (aI 64 fc)]) rfl rfl) ?_
  refine w_istore (ls2 := [some (.ref m), some (.int (nI l)), some (.int (isS (.inl x) [104, 111, 108, 100] 4)), some (.int (isS (.inl x) [114, 97, 109, 112] 4)), some (.int (nI ((8 * l) + W.2.2.2.2.1))), some (.int v3), none, none]) dX10_readPiece_73 (by decide) rfl rfl ?_
  refine w_iconst (v := 0) dX10_readPiece_75 (by decide) ?_
  refine w_istore (ls2 := [some (.ref m), some (.int (nI l)), some (.int (isS (.inl x) [104, 111, 108, 100] 4)), some (.int (isS (.inl x) [114, 97, 109, 112] 4)), some (.int (nI ((8 * l) + W.2.2.2.2.1))), some (.int v3), some (.int 0), none]) dX10_readPiece_76 (by decide) rfl rfl ?_
  refine w_iload_n dX10_readPiece_78 rfl ?_
  refine w_if_eq_t (tgt := 97) dX10_readPiece_79 rfl h2 ?_
  refine w_iload_n dX10_readPiece_97 rfl ?_
  refine w_if_ne_t (tgt := 116) dX10_readPiece_98 rfl h1 ?_
  refine w_aload_n dX10_readPiece_116 rfl ?_
  refine w_ldcS (i := 23) rfl rfl rfl dX10_readPiece_117 ?_
  refine w_callV (ci := 10) (d' := d + 8) (mc' := 0) (ms' := 0) (As := [.ref (G.2.2.1 23)]) (st := []) lX10_209 vX10_needs rfl (hUs_at nd 0 rfl rfl) rfl (Nat.le_of_ble_eq_true rfl) dX10_readPiece_119 (Nat.le_of_ble_eq_true rfl) (Nat.le_of_ble_eq_true rfl) (Nat.le_refl _) (m_needs (i := 23) (s := (.inr (4, nI x.2.2.2.1))) (hHas_sub nd (as' := [m, m + 1]) (cs' := [(oC 10 (mF m th tr wa tp (nI E) sp3 fa3 fl3 tk3 ta3 sg3 nu3 wd3 lo wv rl rw ht sd ah cl)), (aI 600 gt)]) [0, 1] rfl rfl) (nd_sub nd (as' := [m, m + 1]) [0, 1] rfl rfl) rfl hE hT hp3 (fun sp4 fa4 fl4 tk4 ta4 sg4 nu4 wd4 hp4 => ?_))
  refine w_heq (hUs_in nd rfl [0, 1] (cs2 := [(oC 10 (mF m th tr wa tp (nI E) sp4 fa4 fl4 tk4 ta4 sg4 nu4 wd4 lo wv rl rw ht sd ah cl)), (aI 600 gt), (aI 8 fp), (aI 64 fk), (aI 64 fx), (aI 64 fy), (aI 64 fc)]) rfl rfl) ?_
  refine w_aload_n dX10_readPiece_122 rfl ?_
  refine w_iconst (v := 1) dX10_readPiece_123 (by decide) ?_
  refine w_sipush (v := 500) dX10_readPiece_124 (by decide) ?_
  refine w_callV (ci := 10) (d' := d + 8) (mc' := 0) (ms' := 0) (As := [.int 1, .int 500]) (st := []) lX10_191 vX10_readWhole rfl (hUs_at nd 0 rfl rfl) rfl (Nat.le_of_ble_eq_true rfl) dX10_readPiece_127 (Nat.le_of_ble_eq_true rfl) (Nat.le_of_ble_eq_true rfl) (Nat.le_refl _) (m_readWhole (s := (.inr (4, nI x.2.2.2.1))) (hHas_sub nd (as' := [m, m + 1]) (cs' := [(oC 10 (mF m th tr wa tp (nI E) sp4 fa4 fl4 tk4 ta4 sg4 nu4 wd4 lo wv rl rw ht sd ah cl)), (aI 600 gt)]) [0, 1] rfl rfl) (nd_sub nd (as' := [m, m + 1]) [0, 1] rfl rfl) hE hT hp4 (fun sp5 fa5 fl5 tk5 ta5 sg5 nu5 wd5 v5 hp5 hv5 => ?_))
  refine w_heq (hUs_in nd rfl [0, 1] (cs2 := [(oC 10 (mF m th tr wa tp (nI E) sp5 fa5 fl5 tk5 ta5 sg5 nu5 wd5 lo wv rl rw ht sd ah cl)), (aI 600 gt), (aI 8 fp), (aI 64 fk), (aI 64 fx), (aI 64 fy), (aI 64 fc)]) rfl rfl) ?_
  refine w_istore (ls2 := [some (.ref m), some (.int (nI l)), some (.int (isS (.inl x) [104, 111, 108, 100] 4)), some (.int (isS (.inl x) [114, 97, 109, 112] 4)), some (.int (nI ((8 * l) + W.2.2.2.2.1))), some (.int v3), some (.int 0), some (.int v5)]) dX10_readPiece_130 (by decide) rfl rfl ?_
  refine w_aload_n dX10_readPiece_132 rfl ?_
  refine w_get (v := .int fa5) fX10_99 (hUs_at nd 0 rfl rfl) rfl dX10_readPiece_133 ?_
  refine w_if_le_f (tgt := 140) dX10_readPiece_136 rfl (fun z => absurd hp5.2.1 (by rw [← hp5.1]; exact Int32.not_lt.mpr z)) ?_
  refine w_return rfl dX10_readPiece_139 (Nat.le_of_ble_eq_true rfl) (Nat.le_of_ble_eq_true rfl) ?_
  exact k _ _ _ _ _ _ _ _ _ _ _ _ _ (by rw [show (rPc ft x W) = (0, rFl x 4 (nI x.2.2.2.1), W) by rw [rPc, if_neg h1, rPc1, if_neg (by omega)]]; exact hp5) frO_r (fun _ _ => ⟨rfl, rfl, rfl, rfl⟩) (fun z => absurd (show (rPc ft x W).1 = 0 by rw [show (rPc ft x W) = (0, rFl x 4 (nI x.2.2.2.1), W) by rw [rPc, if_neg h1, rPc1, if_neg (by omega)]]) z)
set_option maxRecDepth 100000 in
set_option maxHeartbeats 4000000 in
theorem m_piece_hold {G : wG} {d : Nat} {h : hH} {Q : Option Value → hH → Prop} {m : Nat} {th tr wa tp sp fa fl tk ta sg nu : Int32} {wd : Int64} {lo wv rl rw ht sd ah cl : Int32} {ft gt : Nat → Int32} {E : Nat} {fp : Nat → Int32} {fk : Nat → Int32} {fx : Nat → Int32} {fy : Nat → Int32} {fc : Nat → Int32} {l : Nat} {x : rD} {W : wP} (hw : hHas h [m, m + 1, m + 8, m + 10, m + 11, m + 12, m + 13] [(oC 10 (mF m th tr wa tp (nI E) sp fa fl tk ta sg nu wd lo wv rl rw ht sd ah cl)), (aI 600 gt), (aI 8 fp), (aI 64 fk), (aI 64 fx), (aI 64 fy), (aI 64 fc)]) (nd : [m, m + 1, m + 8, m + 10, m + 11, m + 12, m + 13].Nodup) (hE : E ≤ 600) (hT : mT E ft gt) (hl : l < 8) (hfp : fp l = nI W.2.2.2.2.1) (hAt : wAt W (8 * l) fk fx fy fc) (hG : wGs W) (h1 : ¬ isW x.2.2.1 x.2.2.2.2.1 [104, 111, 108, 100] 4 = 0) (h8 : W.2.2.2.2.1 < 8) (hp : pR (.inl x) E sp fa fl tk ta sg nu wd) (k : ∀ (sp fa fl tk ta sg nu : Int32) (wd : Int64) (gp gk gx gy gc : Nat → Int32), pR (rcS ((rPc ft x W).1, (rPc ft x W).2.1)) E sp fa fl tk ta sg nu wd → frO l fp gp → (∀ j, (j < 8 * l ∨ 8 * l + 8 ≤ j) → gk j = fk j ∧ gx j = fx j ∧ gy j = fy j ∧ gc j = fc j) → (¬ (rPc ft x W).1 = 0 → gp l = nI (rPc ft x W).2.2.2.2.2.2.1 ∧ wAt (rPc ft x W).2.2 (8 * l) gk gx gy gc ∧ wGs (rPc ft x W).2.2) → Q none (hUs h [m, m + 1, m + 8, m + 10, m + 11, m + 12, m + 13] [(oC 10 (mF m th tr wa tp (nI E) sp fa fl tk ta sg nu wd lo wv rl rw ht sd ah cl)), (aI 600 gt), (aI 8 gp), (aI 64 gk), (aI 64 gx), (aI 64 gy), (aI 64 gc)])) : Cl G yX10_readPiece (d + 9) 0 0 [.ref m, .int (nI l)] h Q := by
  have h2 := isW_no (cs := [114, 97, 109, 112]) (m := 4) h1 (by decide)
  have hp8 := hG.1
  refine Cl.of (ini := false) kX10_readPiece (plainFor_of_name (by decide)) (by decide) (Nat.le_of_ble_eq_true rfl) rfl rfl (fun z => by cases z) ?_
  refine w_heq (hUs_id hw).symm ?_
  refine w_aload_n dX10_readPiece_0 rfl ?_
  refine w_ldcS (i := 18) rfl rfl rfl dX10_readPiece_1 ?_
  refine w_callV (ci := 10) (d' := d + 8) (mc' := 0) (ms' := 0) (As := [.ref (G.2.2.1 18)]) (st := []) lX10_156 vX10_isWord rfl (hUs_at nd 0 rfl rfl) rfl (Nat.le_of_ble_eq_true rfl) dX10_readPiece_3 (Nat.le_of_ble_eq_true rfl) (Nat.le_of_ble_eq_true rfl) (Nat.le_refl _) (m_isWord (i := 18) (s := (.inl x)) rfl (hHas_sub nd (as' := [m]) (cs' := [(oC 10 (mF m th tr wa tp (nI E) sp fa fl tk ta sg nu wd lo wv rl rw ht sd ah cl))]) [0] rfl rfl) hp ?_)
  refine w_istore_n (ls2 := [some (.ref m), some (.int (nI l)), some (.int (isS (.inl x) [104, 111, 108, 100] 4)), none, none, none, none, none]) dX10_readPiece_6 (by decide) rfl rfl ?_
  refine w_aload_n dX10_readPiece_7 rfl ?_
  refine w_ldcS (i := 19) rfl rfl rfl dX10_readPiece_8 ?_
  refine w_callV (ci := 10) (d' := d + 8) (mc' := 0) (ms' := 0) (As := [.ref (G.2.2.1 19)]) (st := []) lX10_156 vX10_isWord rfl (hUs_at nd 0 rfl rfl) rfl (Nat.le_of_ble_eq_true rfl) dX10_readPiece_10 (Nat.le_of_ble_eq_true rfl) (Nat.le_of_ble_eq_true rfl) (Nat.le_refl _) (m_isWord (i := 19) (s := (.inl x)) rfl (hHas_sub nd (as' := [m]) (cs' := [(oC 10 (mF m th tr wa tp (nI E) sp fa fl tk ta sg nu wd lo wv rl rw ht sd ah cl))]) [0] rfl rfl) hp ?_)
  refine w_istore_n (ls2 := [some (.ref m), some (.int (nI l)), some (.int (isS (.inl x) [104, 111, 108, 100] 4)), some (.int (isS (.inl x) [114, 97, 109, 112] 4)), none, none, none, none]) dX10_readPiece_13 (by decide) rfl rfl ?_
  refine w_iload_n dX10_readPiece_14 rfl ?_
  refine w_if_ne_t (tgt := 36) dX10_readPiece_15 rfl h1 ?_
  refine w_aload_n dX10_readPiece_36 rfl ?_
  refine w_get (v := .ref (m + 8)) fX10_36 (hUs_at nd 0 rfl rfl) rfl dX10_readPiece_37 ?_
  refine w_iload_n dX10_readPiece_40 rfl ?_
  refine w_ialoadN (hUs_at nd 2 rfl rfl) (by omega) (by omega) dX10_readPiece_41 ?_
  refine w_top (z := nI W.2.2.2.2.1) hfp ?_
  refine w_bipush (v := 8) dX10_readPiece_42 (by decide) ?_
  refine w_icmp_ne_t (tgt := 52) dX10_readPiece_44 rfl (fun z => absurd ((nI_eq (a := W.2.2.2.2.1) (b := 8) (by omega) (by omega)).mp z) (by omega)) ?_
  refine w_aload_n dX10_readPiece_52 rfl ?_
  refine w_callV (ci := 10) (d' := d + 8) (mc' := 0) (ms' := 0) (As := []) (st := []) lX10_164 vX10_goOn rfl (hUs_at nd 0 rfl rfl) rfl (Nat.le_of_ble_eq_true rfl) dX10_readPiece_53 (Nat.le_of_ble_eq_true rfl) (Nat.le_of_ble_eq_true rfl) (Nat.le_refl _) (m_goOn (s := (.inl x)) (hHas_sub nd (as' := [m, m + 1]) (cs' := [(oC 10 (mF m th tr wa tp (nI E) sp fa fl tk ta sg nu wd lo wv rl rw ht sd ah cl)), (aI 600 gt)]) [0, 1] rfl rfl) (nd_sub nd (as' := [m, m + 1]) [0, 1] rfl rfl) hE hT hp (fun sp1 fa1 fl1 tk1 ta1 sg1 nu1 wd1 hp1 => ?_))
  refine w_heq (hUs_in nd rfl [0, 1] (cs2 := [(oC 10 (mF m th tr wa tp (nI E) sp1 fa1 fl1 tk1 ta1 sg1 nu1 wd1 lo wv rl rw ht sd ah cl)), (aI 600 gt), (aI 8 fp), (aI 64 fk), (aI 64 fx), (aI 64 fy), (aI 64 fc)]) rfl rfl) ?_
  refine w_bipush (v := 8) dX10_readPiece_56 (by decide) ?_
  refine w_iload_n dX10_readPiece_58 rfl ?_
  refine w_imulE (z := nI (8 * l)) dX10_readPiece_59 (pk_mul (8) (l)) ?_
  refine w_aload_n dX10_readPiece_60 rfl ?_
  refine w_get (v := .ref (m + 8)) fX10_36 (hUs_at nd 0 rfl rfl) rfl dX10_readPiece_61 ?_
  refine w_iload_n dX10_readPiece_64 rfl ?_
  refine w_ialoadN (hUs_at nd 2 rfl rfl) (by omega) (by omega) dX10_readPiece_65 ?_
  refine w_top (z := nI W.2.2.2.2.1) hfp ?_
  refine w_iaddE (z := nI ((8 * l) + W.2.2.2.2.1)) dX10_readPiece_66 (nI_add ((8 * l)) (W.2.2.2.2.1)) ?_
  refine w_istore (ls2 := [some (.ref m), some (.int (nI l)), some (.int (isS (.inl x) [104, 111, 108, 100] 4)), some (.int (isS (.inl x) [114, 97, 109, 112] 4)), some (.int (nI ((8 * l) + W.2.2.2.2.1))), none, none, none]) dX10_readPiece_67 (by decide) rfl rfl ?_
  refine w_aload_n dX10_readPiece_69 rfl ?_
  refine w_callV (ci := 10) (d' := d + 8) (mc' := 0) (ms' := 0) (As := []) (st := []) lX10_216 vX10_readInt rfl (hUs_at nd 0 rfl rfl) rfl (Nat.le_of_ble_eq_true rfl) dX10_readPiece_70 (Nat.le_of_ble_eq_true rfl) (Nat.le_of_ble_eq_true rfl) (Nat.le_refl _) (m_readInt (s := (gS ft (.inl x))) (hHas_sub nd (as' := [m, m + 1]) (cs' := [(oC 10 (mF m th tr wa tp (nI E) sp1 fa1 fl1 tk1 ta1 sg1 nu1 wd1 lo wv rl rw ht sd ah cl)), (aI 600 gt)]) [0, 1] rfl rfl) (nd_sub nd (as' := [m, m + 1]) [0, 1] rfl rfl) hE hT hp1 (fun sp2 fa2 fl2 tk2 ta2 sg2 nu2 wd2 v2 hp2 hv2 => ?_))
  refine w_heq (hUs_in nd rfl [0, 1] (cs2 := [(oC 10 (mF m th tr wa tp (nI E) sp2 fa2 fl2 tk2 ta2 sg2 nu2 wd2 lo wv rl rw ht sd ah cl)), (aI 600 gt), (aI 8 fp), (aI 64 fk), (aI 64 fx), (aI 64 fy), (aI 64 fc)]) rfl rfl) ?_
  refine w_istore (ls2 := [some (.ref m), some (.int (nI l)), some (.int (isS (.inl x) [104, 111, 108, 100] 4)), some (.int (isS (.inl x) [114, 97, 109, 112] 4)), some (.int (nI ((8 * l) + W.2.2.2.2.1))), some (.int v2), none, none]) dX10_readPiece_73 (by decide) rfl rfl ?_
  refine w_iconst (v := 0) dX10_readPiece_75 (by decide) ?_
  refine w_istore (ls2 := [some (.ref m), some (.int (nI l)), some (.int (isS (.inl x) [104, 111, 108, 100] 4)), some (.int (isS (.inl x) [114, 97, 109, 112] 4)), some (.int (nI ((8 * l) + W.2.2.2.2.1))), some (.int v2), some (.int 0), none]) dX10_readPiece_76 (by decide) rfl rfl ?_
  refine w_iload_n dX10_readPiece_78 rfl ?_
  refine w_if_eq_t (tgt := 97) dX10_readPiece_79 rfl h2 ?_
  refine w_iload_n dX10_readPiece_97 rfl ?_
  refine w_if_ne_t (tgt := 116) dX10_readPiece_98 rfl h1 ?_
  refine w_aload_n dX10_readPiece_116 rfl ?_
  refine w_ldcS (i := 23) rfl rfl rfl dX10_readPiece_117 ?_
  refine w_callV (ci := 10) (d' := d + 8) (mc' := 0) (ms' := 0) (As := [.ref (G.2.2.1 23)]) (st := []) lX10_209 vX10_needs rfl (hUs_at nd 0 rfl rfl) rfl (Nat.le_of_ble_eq_true rfl) dX10_readPiece_119 (Nat.le_of_ble_eq_true rfl) (Nat.le_of_ble_eq_true rfl) (Nat.le_refl _) (m_needs (i := 23) (s := (riS ft (gS ft (.inl x)))) (hHas_sub nd (as' := [m, m + 1]) (cs' := [(oC 10 (mF m th tr wa tp (nI E) sp2 fa2 fl2 tk2 ta2 sg2 nu2 wd2 lo wv rl rw ht sd ah cl)), (aI 600 gt)]) [0, 1] rfl rfl) (nd_sub nd (as' := [m, m + 1]) [0, 1] rfl rfl) rfl hE hT hp2 (fun sp3 fa3 fl3 tk3 ta3 sg3 nu3 wd3 hp3 => ?_))
  refine w_heq (hUs_in nd rfl [0, 1] (cs2 := [(oC 10 (mF m th tr wa tp (nI E) sp3 fa3 fl3 tk3 ta3 sg3 nu3 wd3 lo wv rl rw ht sd ah cl)), (aI 600 gt), (aI 8 fp), (aI 64 fk), (aI 64 fx), (aI 64 fy), (aI 64 fc)]) rfl rfl) ?_
  refine w_aload_n dX10_readPiece_122 rfl ?_
  refine w_iconst (v := 1) dX10_readPiece_123 (by decide) ?_
  refine w_sipush (v := 500) dX10_readPiece_124 (by decide) ?_
  refine w_callV (ci := 10) (d' := d + 8) (mc' := 0) (ms' := 0) (As := [.int 1, .int 500]) (st := []) lX10_191 vX10_readWhole rfl (hUs_at nd 0 rfl rfl) rfl (Nat.le_of_ble_eq_true rfl) dX10_readPiece_127 (Nat.le_of_ble_eq_true rfl) (Nat.le_of_ble_eq_true rfl) (Nat.le_refl _) (m_readWhole (s := (ndS ft [102, 111, 114] 3 (riS ft (gS ft (.inl x))))) (hHas_sub nd (as' := [m, m + 1]) (cs' := [(oC 10 (mF m th tr wa tp (nI E) sp3 fa3 fl3 tk3 ta3 sg3 nu3 wd3 lo wv rl rw ht sd ah cl)), (aI 600 gt)]) [0, 1] rfl rfl) (nd_sub nd (as' := [m, m + 1]) [0, 1] rfl rfl) hE hT hp3 (fun sp4 fa4 fl4 tk4 ta4 sg4 nu4 wd4 v4 hp4 hv4 => ?_))
  refine w_heq (hUs_in nd rfl [0, 1] (cs2 := [(oC 10 (mF m th tr wa tp (nI E) sp4 fa4 fl4 tk4 ta4 sg4 nu4 wd4 lo wv rl rw ht sd ah cl)), (aI 600 gt), (aI 8 fp), (aI 64 fk), (aI 64 fx), (aI 64 fy), (aI 64 fc)]) rfl rfl) ?_
  refine w_istore (ls2 := [some (.ref m), some (.int (nI l)), some (.int (isS (.inl x) [104, 111, 108, 100] 4)), some (.int (isS (.inl x) [114, 97, 109, 112] 4)), some (.int (nI ((8 * l) + W.2.2.2.2.1))), some (.int v2), some (.int 0), some (.int v4)]) dX10_readPiece_130 (by decide) rfl rfl ?_
  have hq7 := pc_hold (ft := ft) (x := x) (W := W) h8 h1
  rcases e7 : e6S ft (riS ft (gS ft (.inl x))) with y7 | b7
  · have hp9 := pR_q e7 hp4
    obtain ⟨y4, y5, g4, g5, g6⟩ := hq7.2 y7 e7
    refine w_aload_n dX10_readPiece_132 rfl ?_
    refine w_get (v := .int fa4) fX10_99 (hUs_at nd 0 rfl rfl) rfl dX10_readPiece_133 ?_
    refine w_if_le_t (tgt := 140) dX10_readPiece_136 rfl (by rw [hp9.1]; decide) ?_
    refine w_aload_n dX10_readPiece_140 rfl ?_
    refine w_get (v := .ref (m + 10)) fX10_43 (hUs_at nd 0 rfl rfl) rfl dX10_readPiece_141 ?_
    refine w_iload dX10_readPiece_144 rfl ?_
    refine w_iload_n dX10_readPiece_146 rfl ?_
    refine w_if_eq_f (tgt := 154) dX10_readPiece_147 rfl h1 ?_
    refine w_iconst (v := 0) dX10_readPiece_150 (by decide) ?_
    refine w_goto (tgt := 163) dX10_readPiece_151 rfl ?_
    refine w_iastoreN (hUs_at nd 3 rfl rfl) (by omega) (by omega) dX10_readPiece_163 ?_
    refine w_heq (hUs_set nd rfl 3 (cs' := [(oC 10 (mF m th tr wa tp (nI E) sp4 fa4 fl4 tk4 ta4 sg4 nu4 wd4 lo wv rl rw ht sd ah cl)), (aI 600 gt), (aI 8 fp), (aI 64 (upd fk ((8 * l) + W.2.2.2.2.1) 0)), (aI 64 fx), (aI 64 fy), (aI 64 fc)]) rfl rfl) ?_
    refine w_aload_n dX10_readPiece_164 rfl ?_
    refine w_get (v := .ref (m + 11)) fX10_46 (hUs_at nd 0 rfl rfl) rfl dX10_readPiece_165 ?_
    refine w_iload dX10_readPiece_168 rfl ?_
    refine w_iload dX10_readPiece_170 rfl ?_
    refine w_iastoreN (hUs_at nd 4 rfl rfl) (by omega) (by omega) dX10_readPiece_172 ?_
    refine w_heq (hUs_set nd rfl 4 (cs' := [(oC 10 (mF m th tr wa tp (nI E) sp4 fa4 fl4 tk4 ta4 sg4 nu4 wd4 lo wv rl rw ht sd ah cl)), (aI 600 gt), (aI 8 fp), (aI 64 (upd fk ((8 * l) + W.2.2.2.2.1) 0)), (aI 64 (upd fx ((8 * l) + W.2.2.2.2.1) v2)), (aI 64 fy), (aI 64 fc)]) rfl rfl) ?_
    refine w_aload_n dX10_readPiece_173 rfl ?_
    refine w_get (v := .ref (m + 12)) fX10_49 (hUs_at nd 0 rfl rfl) rfl dX10_readPiece_174 ?_
    refine w_iload dX10_readPiece_177 rfl ?_
    refine w_iload dX10_readPiece_179 rfl ?_
    refine w_iastoreN (hUs_at nd 5 rfl rfl) (by omega) (by omega) dX10_readPiece_181 ?_
    refine w_heq (hUs_set nd rfl 5 (cs' := [(oC 10 (mF m th tr wa tp (nI E) sp4 fa4 fl4 tk4 ta4 sg4 nu4 wd4 lo wv rl rw ht sd ah cl)), (aI 600 gt), (aI 8 fp), (aI 64 (upd fk ((8 * l) + W.2.2.2.2.1) 0)), (aI 64 (upd fx ((8 * l) + W.2.2.2.2.1) v2)), (aI 64 (upd fy ((8 * l) + W.2.2.2.2.1) 0)), (aI 64 fc)]) rfl rfl) ?_
    refine w_aload_n dX10_readPiece_182 rfl ?_
    refine w_get (v := .ref (m + 13)) fX10_52 (hUs_at nd 0 rfl rfl) rfl dX10_readPiece_183 ?_
    refine w_iload dX10_readPiece_186 rfl ?_
    refine w_iload dX10_readPiece_188 rfl ?_
    refine w_iastoreN (hUs_at nd 6 rfl rfl) (by omega) (by omega) dX10_readPiece_190 ?_
    refine w_heq (hUs_set nd rfl 6 (cs' := [(oC 10 (mF m th tr wa tp (nI E) sp4 fa4 fl4 tk4 ta4 sg4 nu4 wd4 lo wv rl rw ht sd ah cl)), (aI 600 gt), (aI 8 fp), (aI 64 (upd fk ((8 * l) + W.2.2.2.2.1) 0)), (aI 64 (upd fx ((8 * l) + W.2.2.2.2.1) v2)), (aI 64 (upd fy ((8 * l) + W.2.2.2.2.1) 0)), (aI 64 (upd fc ((8 * l) + W.2.2.2.2.1) v4))]) rfl rfl) ?_
    refine w_aload_n dX10_readPiece_191 rfl ?_
    refine w_get (v := .ref (m + 8)) fX10_36 (hUs_at nd 0 rfl rfl) rfl dX10_readPiece_192 ?_
    refine w_iload_n dX10_readPiece_195 rfl ?_
    refine w_dup2_11 dX10_readPiece_196 rfl rfl ?_
    refine w_ialoadN (hUs_at nd 2 rfl rfl) (by omega) (by omega) dX10_readPiece_197 ?_
    refine w_top (z := nI W.2.2.2.2.1) hfp ?_
    refine w_iconst (v := 1) dX10_readPiece_198 (by decide) ?_
    refine w_iaddE (z := nI (W.2.2.2.2.1 + 1)) dX10_readPiece_199 (nI_add (W.2.2.2.2.1) (1)) ?_
    refine w_iastoreN (hUs_at nd 2 rfl rfl) (by omega) (by omega) dX10_readPiece_200 ?_
    refine w_heq (hUs_set nd rfl 2 (cs' := [(oC 10 (mF m th tr wa tp (nI E) sp4 fa4 fl4 tk4 ta4 sg4 nu4 wd4 lo wv rl rw ht sd ah cl)), (aI 600 gt), (aI 8 (upd fp l (nI (W.2.2.2.2.1 + 1)))), (aI 64 (upd fk ((8 * l) + W.2.2.2.2.1) 0)), (aI 64 (upd fx ((8 * l) + W.2.2.2.2.1) v2)), (aI 64 (upd fy ((8 * l) + W.2.2.2.2.1) 0)), (aI 64 (upd fc ((8 * l) + W.2.2.2.2.1) v4))]) rfl rfl) ?_
    refine w_return rfl dX10_readPiece_201 (Nat.le_of_ble_eq_true rfl) (Nat.le_of_ble_eq_true rfl) ?_
    refine k _ _ _ _ _ _ _ _ _ _ _ _ _ (by rw [← hq7.1, e7]; exact hp9) (frO_u frO_r) (fun j hj => ⟨pk_un (by omega), pk_un (by omega), pk_un (by omega), pk_un (by omega)⟩) (fun _ => ?_)
    rw [g6]
    refine ⟨pk_us, wAt_px hAt (fun j hj => pk_un hj) (fun j hj => pk_un hj) (fun j hj => pk_un hj) (fun j hj => pk_un hj) pk_us (pk_us.trans (hv2 y4 g4)) (fun z => absurd rfl z) (pk_us.trans (hv4 y7 e7)), wGs_px hG (by omega) (rw_rng e7) (ri_rng g4) (Or.inl rfl)⟩
  · have hp9 := pR_q e7 hp4
    refine w_aload_n dX10_readPiece_132 rfl ?_
    refine w_get (v := .int fa4) fX10_99 (hUs_at nd 0 rfl rfl) rfl dX10_readPiece_133 ?_
    refine w_if_le_f (tgt := 140) dX10_readPiece_136 rfl (fun z => absurd hp9.2.1 (by rw [← hp9.1]; exact Int32.not_lt.mpr z)) ?_
    refine w_return rfl dX10_readPiece_139 (Nat.le_of_ble_eq_true rfl) (Nat.le_of_ble_eq_true rfl) ?_
    exact k _ _ _ _ _ _ _ _ _ _ _ _ _ (by rw [← hq7.1, e7]; exact hp9) frO_r (fun _ _ => ⟨rfl, rfl, rfl, rfl⟩) (fun z => absurd (rcS_r (hq7.1.symm.trans e7)).1 z)
set_option maxRecDepth 100000 in
set_option maxHeartbeats 4000000 in
theorem m_piece8_ramp {G : wG} {d : Nat} {h : hH} {Q : Option Value → hH → Prop} {m : Nat} {th tr wa tp sp fa fl tk ta sg nu : Int32} {wd : Int64} {lo wv rl rw ht sd ah cl : Int32} {ft gt : Nat → Int32} {E : Nat} {fp : Nat → Int32} {fk : Nat → Int32} {fx : Nat → Int32} {fy : Nat → Int32} {fc : Nat → Int32} {l : Nat} {x : rD} {W : wP} (hw : hHas h [m, m + 1, m + 8, m + 10, m + 11, m + 12, m + 13] [(oC 10 (mF m th tr wa tp (nI E) sp fa fl tk ta sg nu wd lo wv rl rw ht sd ah cl)), (aI 600 gt), (aI 8 fp), (aI 64 fk), (aI 64 fx), (aI 64 fy), (aI 64 fc)]) (nd : [m, m + 1, m + 8, m + 10, m + 11, m + 12, m + 13].Nodup) (hE : E ≤ 600) (hT : mT E ft gt) (hl : l < 8) (hfp : fp l = nI W.2.2.2.2.1) (hAt : wAt W (8 * l) fk fx fy fc) (hG : wGs W) (h1 : isW x.2.2.1 x.2.2.2.2.1 [104, 111, 108, 100] 4 = 0) (h2 : ¬ isW x.2.2.1 x.2.2.2.2.1 [114, 97, 109, 112] 4 = 0) (h8 : W.2.2.2.2.1 = 8) (hp : pR (.inl x) E sp fa fl tk ta sg nu wd) (k : ∀ (sp fa fl tk ta sg nu : Int32) (wd : Int64) (gp gk gx gy gc : Nat → Int32), pR (rcS ((rPc ft x W).1, (rPc ft x W).2.1)) E sp fa fl tk ta sg nu wd → frO l fp gp → (∀ j, (j < 8 * l ∨ 8 * l + 8 ≤ j) → gk j = fk j ∧ gx j = fx j ∧ gy j = fy j ∧ gc j = fc j) → (¬ (rPc ft x W).1 = 0 → gp l = nI (rPc ft x W).2.2.2.2.2.2.1 ∧ wAt (rPc ft x W).2.2 (8 * l) gk gx gy gc ∧ wGs (rPc ft x W).2.2) → Q none (hUs h [m, m + 1, m + 8, m + 10, m + 11, m + 12, m + 13] [(oC 10 (mF m th tr wa tp (nI E) sp fa fl tk ta sg nu wd lo wv rl rw ht sd ah cl)), (aI 600 gt), (aI 8 gp), (aI 64 gk), (aI 64 gx), (aI 64 gy), (aI 64 gc)])) : Cl G yX10_readPiece (d + 9) 0 0 [.ref m, .int (nI l)] h Q := by
  have hp8 := hG.1
  refine Cl.of (ini := false) kX10_readPiece (plainFor_of_name (by decide)) (by decide) (Nat.le_of_ble_eq_true rfl) rfl rfl (fun z => by cases z) ?_
  refine w_heq (hUs_id hw).symm ?_
  refine w_aload_n dX10_readPiece_0 rfl ?_
  refine w_ldcS (i := 18) rfl rfl rfl dX10_readPiece_1 ?_
  refine w_callV (ci := 10) (d' := d + 8) (mc' := 0) (ms' := 0) (As := [.ref (G.2.2.1 18)]) (st := []) lX10_156 vX10_isWord rfl (hUs_at nd 0 rfl rfl) rfl (Nat.le_of_ble_eq_true rfl) dX10_readPiece_3 (Nat.le_of_ble_eq_true rfl) (Nat.le_of_ble_eq_true rfl) (Nat.le_refl _) (m_isWord (i := 18) (s := (.inl x)) rfl (hHas_sub nd (as' := [m]) (cs' := [(oC 10 (mF m th tr wa tp (nI E) sp fa fl tk ta sg nu wd lo wv rl rw ht sd ah cl))]) [0] rfl rfl) hp ?_)
  refine w_istore_n (ls2 := [some (.ref m), some (.int (nI l)), some (.int (isS (.inl x) [104, 111, 108, 100] 4)), none, none, none, none, none]) dX10_readPiece_6 (by decide) rfl rfl ?_
  refine w_aload_n dX10_readPiece_7 rfl ?_
  refine w_ldcS (i := 19) rfl rfl rfl dX10_readPiece_8 ?_
  refine w_callV (ci := 10) (d' := d + 8) (mc' := 0) (ms' := 0) (As := [.ref (G.2.2.1 19)]) (st := []) lX10_156 vX10_isWord rfl (hUs_at nd 0 rfl rfl) rfl (Nat.le_of_ble_eq_true rfl) dX10_readPiece_10 (Nat.le_of_ble_eq_true rfl) (Nat.le_of_ble_eq_true rfl) (Nat.le_refl _) (m_isWord (i := 19) (s := (.inl x)) rfl (hHas_sub nd (as' := [m]) (cs' := [(oC 10 (mF m th tr wa tp (nI E) sp fa fl tk ta sg nu wd lo wv rl rw ht sd ah cl))]) [0] rfl rfl) hp ?_)
  refine w_istore_n (ls2 := [some (.ref m), some (.int (nI l)), some (.int (isS (.inl x) [104, 111, 108, 100] 4)), some (.int (isS (.inl x) [114, 97, 109, 112] 4)), none, none, none, none]) dX10_readPiece_13 (by decide) rfl rfl ?_
  refine w_iload_n dX10_readPiece_14 rfl ?_
  refine w_if_ne_f (tgt := 36) dX10_readPiece_15 rfl h1 ?_
  refine w_iload_n dX10_readPiece_18 rfl ?_
  refine w_if_ne_t (tgt := 36) dX10_readPiece_19 rfl h2 ?_
  refine w_aload_n dX10_readPiece_36 rfl ?_
  refine w_get (v := .ref (m + 8)) fX10_36 (hUs_at nd 0 rfl rfl) rfl dX10_readPiece_37 ?_
  refine w_iload_n dX10_readPiece_40 rfl ?_
  refine w_ialoadN (hUs_at nd 2 rfl rfl) (by omega) (by omega) dX10_readPiece_41 ?_
  refine w_top (z := nI W.2.2.2.2.1) hfp ?_
  refine w_bipush (v := 8) dX10_readPiece_42 (by decide) ?_
  refine w_icmp_ne_f (tgt := 52) dX10_readPiece_44 rfl ((nI_eq (a := W.2.2.2.2.1) (b := 8) (by omega) (by omega)).mpr (by omega)) ?_
  refine w_aload_n dX10_readPiece_47 rfl ?_
  refine w_iconst (v := 4) dX10_readPiece_48 (by decide) ?_
  refine w_callV (ci := 10) (d' := d + 8) (mc' := 0) (ms' := 0) (As := [.int 4]) (st := []) lX10_160 vX10_flaw rfl (hUs_at nd 0 rfl rfl) rfl (Nat.le_of_ble_eq_true rfl) dX10_readPiece_49 (Nat.le_of_ble_eq_true rfl) (Nat.le_of_ble_eq_true rfl) (Nat.le_refl _) (m_flaw (s := (.inl x)) (hHas_sub nd (as' := [m]) (cs' := [(oC 10 (mF m th tr wa tp (nI E) sp fa fl tk ta sg nu wd lo wv rl rw ht sd ah cl))]) [0] rfl rfl) (nd_sub nd (as' := [m]) [0] rfl rfl) (by decide) hp (fun fa1 fl1 hp1 => ?_))
  refine w_heq (hUs_in nd rfl [0] (cs2 := [(oC 10 (mF m th tr wa tp (nI E) sp fa1 fl1 tk ta sg nu wd lo wv rl rw ht sd ah cl)), (aI 600 gt), (aI 8 fp), (aI 64 fk), (aI 64 fx), (aI 64 fy), (aI 64 fc)]) rfl rfl) ?_
  refine w_aload_n dX10_readPiece_52 rfl ?_
  refine w_callV (ci := 10) (d' := d + 8) (mc' := 0) (ms' := 0) (As := []) (st := []) lX10_164 vX10_goOn rfl (hUs_at nd 0 rfl rfl) rfl (Nat.le_of_ble_eq_true rfl) dX10_readPiece_53 (Nat.le_of_ble_eq_true rfl) (Nat.le_of_ble_eq_true rfl) (Nat.le_refl _) (m_goOn (s := (.inr (4, nI x.2.2.2.1))) (hHas_sub nd (as' := [m, m + 1]) (cs' := [(oC 10 (mF m th tr wa tp (nI E) sp fa1 fl1 tk ta sg nu wd lo wv rl rw ht sd ah cl)), (aI 600 gt)]) [0, 1] rfl rfl) (nd_sub nd (as' := [m, m + 1]) [0, 1] rfl rfl) hE hT hp1 (fun sp2 fa2 fl2 tk2 ta2 sg2 nu2 wd2 hp2 => ?_))
  refine w_heq (hUs_in nd rfl [0, 1] (cs2 := [(oC 10 (mF m th tr wa tp (nI E) sp2 fa2 fl2 tk2 ta2 sg2 nu2 wd2 lo wv rl rw ht sd ah cl)), (aI 600 gt), (aI 8 fp), (aI 64 fk), (aI 64 fx), (aI 64 fy), (aI 64 fc)]) rfl rfl) ?_
  refine w_bipush (v := 8) dX10_readPiece_56 (by decide) ?_
  refine w_iload_n dX10_readPiece_58 rfl ?_
  refine w_imulE (z := nI (8 * l)) dX10_readPiece_59 (pk_mul (8) (l)) ?_
  refine w_aload_n dX10_readPiece_60 rfl ?_
  refine w_get (v := .ref (m + 8)) fX10_36 (hUs_at nd 0 rfl rfl) rfl dX10_readPiece_61 ?_
  refine w_iload_n dX10_readPiece_64 rfl ?_
  refine w_ialoadN (hUs_at nd 2 rfl rfl) (by omega) (by omega) dX10_readPiece_65 ?_
  refine w_top (z := nI W.2.2.2.2.1) hfp ?_
  refine w_iaddE (z := nI ((8 * l) + W.2.2.2.2.1)) dX10_readPiece_66 (nI_add ((8 * l)) (W.2.2.2.2.1)) ?_
  refine w_istore (ls2 := [some (.ref m), some (.int (nI l)), some (.int (isS (.inl x) [104, 111, 108, 100] 4)), some (.int (isS (.inl x) [114, 97, 109, 112] 4)), some (.int (nI ((8 * l) + W.2.2.2.2.1))), none, none, none]) dX10_readPiece_67 (by decide) rfl rfl ?_
  refine w_aload_n dX10_readPiece_69 rfl ?_
  refine w_callV (ci := 10) (d' := d + 8) (mc' := 0) (ms' := 0) (As := []) (st := []) lX10_216 vX10_readInt rfl (hUs_at nd 0 rfl rfl) rfl (Nat.le_of_ble_eq_true rfl) dX10_readPiece_70 (Nat.le_of_ble_eq_true rfl) (Nat.le_of_ble_eq_true rfl) (Nat.le_refl _) (m_readInt (s := (.inr (4, nI x.2.2.2.1))) (hHas_sub nd (as' := [m, m + 1]) (cs' := [(oC 10 (mF m th tr wa tp (nI E) sp2 fa2 fl2 tk2 ta2 sg2 nu2 wd2 lo wv rl rw ht sd ah cl)), (aI 600 gt)]) [0, 1] rfl rfl) (nd_sub nd (as' := [m, m + 1]) [0, 1] rfl rfl) hE hT hp2 (fun sp3 fa3 fl3 tk3 ta3 sg3 nu3 wd3 v3 hp3 hv3 => ?_))
  refine w_heq (hUs_in nd rfl [0, 1] (cs2 := [(oC 10 (mF m th tr wa tp (nI E) sp3 fa3 fl3 tk3 ta3 sg3 nu3 wd3 lo wv rl rw ht sd ah cl)), (aI 600 gt), (aI 8 fp), (aI 64 fk), (aI 64 fx), (aI 64 fy), (aI 64 fc)]) rfl rfl) ?_
  refine w_istore (ls2 := [some (.ref m), some (.int (nI l)), some (.int (isS (.inl x) [104, 111, 108, 100] 4)), some (.int (isS (.inl x) [114, 97, 109, 112] 4)), some (.int (nI ((8 * l) + W.2.2.2.2.1))), some (.int v3), none, none]) dX10_readPiece_73 (by decide) rfl rfl ?_
  refine w_iconst (v := 0) dX10_readPiece_75 (by decide) ?_
  refine w_istore (ls2 := [some (.ref m), some (.int (nI l)), some (.int (isS (.inl x) [104, 111, 108, 100] 4)), some (.int (isS (.inl x) [114, 97, 109, 112] 4)), some (.int (nI ((8 * l) + W.2.2.2.2.1))), some (.int v3), some (.int 0), none]) dX10_readPiece_76 (by decide) rfl rfl ?_
  refine w_iload_n dX10_readPiece_78 rfl ?_
  refine w_if_eq_f (tgt := 97) dX10_readPiece_79 rfl h2 ?_
  refine w_aload_n dX10_readPiece_82 rfl ?_
  refine w_ldcS (i := 21) rfl rfl rfl dX10_readPiece_83 ?_
  refine w_callV (ci := 10) (d' := d + 8) (mc' := 0) (ms' := 0) (As := [.ref (G.2.2.1 21)]) (st := []) lX10_209 vX10_needs rfl (hUs_at nd 0 rfl rfl) rfl (Nat.le_of_ble_eq_true rfl) dX10_readPiece_85 (Nat.le_of_ble_eq_true rfl) (Nat.le_of_ble_eq_true rfl) (Nat.le_refl _) (m_needs (i := 21) (s := (.inr (4, nI x.2.2.2.1))) (hHas_sub nd (as' := [m, m + 1]) (cs' := [(oC 10 (mF m th tr wa tp (nI E) sp3 fa3 fl3 tk3 ta3 sg3 nu3 wd3 lo wv rl rw ht sd ah cl)), (aI 600 gt)]) [0, 1] rfl rfl) (nd_sub nd (as' := [m, m + 1]) [0, 1] rfl rfl) rfl hE hT hp3 (fun sp4 fa4 fl4 tk4 ta4 sg4 nu4 wd4 hp4 => ?_))
  refine w_heq (hUs_in nd rfl [0, 1] (cs2 := [(oC 10 (mF m th tr wa tp (nI E) sp4 fa4 fl4 tk4 ta4 sg4 nu4 wd4 lo wv rl rw ht sd ah cl)), (aI 600 gt), (aI 8 fp), (aI 64 fk), (aI 64 fx), (aI 64 fy), (aI 64 fc)]) rfl rfl) ?_
  refine w_aload_n dX10_readPiece_88 rfl ?_
  refine w_callV (ci := 10) (d' := d + 8) (mc' := 0) (ms' := 0) (As := []) (st := []) lX10_216 vX10_readInt rfl (hUs_at nd 0 rfl rfl) rfl (Nat.le_of_ble_eq_true rfl) dX10_readPiece_89 (Nat.le_of_ble_eq_true rfl) (Nat.le_of_ble_eq_true rfl) (Nat.le_refl _) (m_readInt (s := (.inr (4, nI x.2.2.2.1))) (hHas_sub nd (as' := [m, m + 1]) (cs' := [(oC 10 (mF m th tr wa tp (nI E) sp4 fa4 fl4 tk4 ta4 sg4 nu4 wd4 lo wv rl rw ht sd ah cl)), (aI 600 gt)]) [0, 1] rfl rfl) (nd_sub nd (as' := [m, m + 1]) [0, 1] rfl rfl) hE hT hp4 (fun sp5 fa5 fl5 tk5 ta5 sg5 nu5 wd5 v5 hp5 hv5 => ?_))
  refine w_heq (hUs_in nd rfl [0, 1] (cs2 := [(oC 10 (mF m th tr wa tp (nI E) sp5 fa5 fl5 tk5 ta5 sg5 nu5 wd5 lo wv rl rw ht sd ah cl)), (aI 600 gt), (aI 8 fp), (aI 64 fk), (aI 64 fx), (aI 64 fy), (aI 64 fc)]) rfl rfl) ?_
  refine w_istore (ls2 := [some (.ref m), some (.int (nI l)), some (.int (isS (.inl x) [104, 111, 108, 100] 4)), some (.int (isS (.inl x) [114, 97, 109, 112] 4)), some (.int (nI ((8 * l) + W.2.2.2.2.1))), some (.int v3), some (.int v5), none]) dX10_readPiece_92 (by decide) rfl rfl ?_
  refine w_goto (tgt := 116) dX10_readPiece_94 rfl ?_
  refine w_aload_n dX10_readPiece_116 rfl ?_
  refine w_ldcS (i := 23) rfl rfl rfl dX10_readPiece_117 ?_
  refine w_callV (ci := 10) (d' := d + 8) (mc' := 0) (ms' := 0) (As := [.ref (G.2.2.1 23)]) (st := []) lX10_209 vX10_needs rfl (hUs_at nd 0 rfl rfl) rfl (Nat.le_of_ble_eq_true rfl) dX10_readPiece_119 (Nat.le_of_ble_eq_true rfl) (Nat.le_of_ble_eq_true rfl) (Nat.le_refl _) (m_needs (i := 23) (s := (.inr (4, nI x.2.2.2.1))) (hHas_sub nd (as' := [m, m + 1]) (cs' := [(oC 10 (mF m th tr wa tp (nI E) sp5 fa5 fl5 tk5 ta5 sg5 nu5 wd5 lo wv rl rw ht sd ah cl)), (aI 600 gt)]) [0, 1] rfl rfl) (nd_sub nd (as' := [m, m + 1]) [0, 1] rfl rfl) rfl hE hT hp5 (fun sp6 fa6 fl6 tk6 ta6 sg6 nu6 wd6 hp6 => ?_))
  refine w_heq (hUs_in nd rfl [0, 1] (cs2 := [(oC 10 (mF m th tr wa tp (nI E) sp6 fa6 fl6 tk6 ta6 sg6 nu6 wd6 lo wv rl rw ht sd ah cl)), (aI 600 gt), (aI 8 fp), (aI 64 fk), (aI 64 fx), (aI 64 fy), (aI 64 fc)]) rfl rfl) ?_
  refine w_aload_n dX10_readPiece_122 rfl ?_
  refine w_iconst (v := 1) dX10_readPiece_123 (by decide) ?_
  refine w_sipush (v := 500) dX10_readPiece_124 (by decide) ?_
  refine w_callV (ci := 10) (d' := d + 8) (mc' := 0) (ms' := 0) (As := [.int 1, .int 500]) (st := []) lX10_191 vX10_readWhole rfl (hUs_at nd 0 rfl rfl) rfl (Nat.le_of_ble_eq_true rfl) dX10_readPiece_127 (Nat.le_of_ble_eq_true rfl) (Nat.le_of_ble_eq_true rfl) (Nat.le_refl _) (m_readWhole (s := (.inr (4, nI x.2.2.2.1))) (hHas_sub nd (as' := [m, m + 1]) (cs' := [(oC 10 (mF m th tr wa tp (nI E) sp6 fa6 fl6 tk6 ta6 sg6 nu6 wd6 lo wv rl rw ht sd ah cl)), (aI 600 gt)]) [0, 1] rfl rfl) (nd_sub nd (as' := [m, m + 1]) [0, 1] rfl rfl) hE hT hp6 (fun sp7 fa7 fl7 tk7 ta7 sg7 nu7 wd7 v7 hp7 hv7 => ?_))
  refine w_heq (hUs_in nd rfl [0, 1] (cs2 := [(oC 10 (mF m th tr wa tp (nI E) sp7 fa7 fl7 tk7 ta7 sg7 nu7 wd7 lo wv rl rw ht sd ah cl)), (aI 600 gt), (aI 8 fp), (aI 64 fk), (aI 64 fx), (aI 64 fy), (aI 64 fc)]) rfl rfl) ?_
  refine w_istore (ls2 := [some (.ref m), some (.int (nI l)), some (.int (isS (.inl x) [104, 111, 108, 100] 4)), some (.int (isS (.inl x) [114, 97, 109, 112] 4)), some (.int (nI ((8 * l) + W.2.2.2.2.1))), some (.int v3), some (.int v5), some (.int v7)]) dX10_readPiece_130 (by decide) rfl rfl ?_
  refine w_aload_n dX10_readPiece_132 rfl ?_
  refine w_get (v := .int fa7) fX10_99 (hUs_at nd 0 rfl rfl) rfl dX10_readPiece_133 ?_
  refine w_if_le_f (tgt := 140) dX10_readPiece_136 rfl (fun z => absurd hp7.2.1 (by rw [← hp7.1]; exact Int32.not_lt.mpr z)) ?_
  refine w_return rfl dX10_readPiece_139 (Nat.le_of_ble_eq_true rfl) (Nat.le_of_ble_eq_true rfl) ?_
  exact k _ _ _ _ _ _ _ _ _ _ _ _ _ (by rw [show (rPc ft x W) = (0, rFl x 4 (nI x.2.2.2.1), W) by rw [rPc, if_pos h1, if_neg h2, rPc1, if_neg (by omega)]]; exact hp7) frO_r (fun _ _ => ⟨rfl, rfl, rfl, rfl⟩) (fun z => absurd (show (rPc ft x W).1 = 0 by rw [show (rPc ft x W) = (0, rFl x 4 (nI x.2.2.2.1), W) by rw [rPc, if_pos h1, if_neg h2, rPc1, if_neg (by omega)]]) z)
set_option maxRecDepth 100000 in
set_option maxHeartbeats 4000000 in
theorem m_piece_ramp {G : wG} {d : Nat} {h : hH} {Q : Option Value → hH → Prop} {m : Nat} {th tr wa tp sp fa fl tk ta sg nu : Int32} {wd : Int64} {lo wv rl rw ht sd ah cl : Int32} {ft gt : Nat → Int32} {E : Nat} {fp : Nat → Int32} {fk : Nat → Int32} {fx : Nat → Int32} {fy : Nat → Int32} {fc : Nat → Int32} {l : Nat} {x : rD} {W : wP} (hw : hHas h [m, m + 1, m + 8, m + 10, m + 11, m + 12, m + 13] [(oC 10 (mF m th tr wa tp (nI E) sp fa fl tk ta sg nu wd lo wv rl rw ht sd ah cl)), (aI 600 gt), (aI 8 fp), (aI 64 fk), (aI 64 fx), (aI 64 fy), (aI 64 fc)]) (nd : [m, m + 1, m + 8, m + 10, m + 11, m + 12, m + 13].Nodup) (hE : E ≤ 600) (hT : mT E ft gt) (hl : l < 8) (hfp : fp l = nI W.2.2.2.2.1) (hAt : wAt W (8 * l) fk fx fy fc) (hG : wGs W) (h1 : isW x.2.2.1 x.2.2.2.2.1 [104, 111, 108, 100] 4 = 0) (h2 : ¬ isW x.2.2.1 x.2.2.2.2.1 [114, 97, 109, 112] 4 = 0) (h8 : W.2.2.2.2.1 < 8) (hp : pR (.inl x) E sp fa fl tk ta sg nu wd) (k : ∀ (sp fa fl tk ta sg nu : Int32) (wd : Int64) (gp gk gx gy gc : Nat → Int32), pR (rcS ((rPc ft x W).1, (rPc ft x W).2.1)) E sp fa fl tk ta sg nu wd → frO l fp gp → (∀ j, (j < 8 * l ∨ 8 * l + 8 ≤ j) → gk j = fk j ∧ gx j = fx j ∧ gy j = fy j ∧ gc j = fc j) → (¬ (rPc ft x W).1 = 0 → gp l = nI (rPc ft x W).2.2.2.2.2.2.1 ∧ wAt (rPc ft x W).2.2 (8 * l) gk gx gy gc ∧ wGs (rPc ft x W).2.2) → Q none (hUs h [m, m + 1, m + 8, m + 10, m + 11, m + 12, m + 13] [(oC 10 (mF m th tr wa tp (nI E) sp fa fl tk ta sg nu wd lo wv rl rw ht sd ah cl)), (aI 600 gt), (aI 8 gp), (aI 64 gk), (aI 64 gx), (aI 64 gy), (aI 64 gc)])) : Cl G yX10_readPiece (d + 9) 0 0 [.ref m, .int (nI l)] h Q := by
  have hp8 := hG.1
  refine Cl.of (ini := false) kX10_readPiece (plainFor_of_name (by decide)) (by decide) (Nat.le_of_ble_eq_true rfl) rfl rfl (fun z => by cases z) ?_
  refine w_heq (hUs_id hw).symm ?_
  refine w_aload_n dX10_readPiece_0 rfl ?_
  refine w_ldcS (i := 18) rfl rfl rfl dX10_readPiece_1 ?_
  refine w_callV (ci := 10) (d' := d + 8) (mc' := 0) (ms' := 0) (As := [.ref (G.2.2.1 18)]) (st := []) lX10_156 vX10_isWord rfl (hUs_at nd 0 rfl rfl) rfl (Nat.le_of_ble_eq_true rfl) dX10_readPiece_3 (Nat.le_of_ble_eq_true rfl) (Nat.le_of_ble_eq_true rfl) (Nat.le_refl _) (m_isWord (i := 18) (s := (.inl x)) rfl (hHas_sub nd (as' := [m]) (cs' := [(oC 10 (mF m th tr wa tp (nI E) sp fa fl tk ta sg nu wd lo wv rl rw ht sd ah cl))]) [0] rfl rfl) hp ?_)
  refine w_istore_n (ls2 := [some (.ref m), some (.int (nI l)), some (.int (isS (.inl x) [104, 111, 108, 100] 4)), none, none, none, none, none]) dX10_readPiece_6 (by decide) rfl rfl ?_
  refine w_aload_n dX10_readPiece_7 rfl ?_
  refine w_ldcS (i := 19) rfl rfl rfl dX10_readPiece_8 ?_
  refine w_callV (ci := 10) (d' := d + 8) (mc' := 0) (ms' := 0) (As := [.ref (G.2.2.1 19)]) (st := []) lX10_156 vX10_isWord rfl (hUs_at nd 0 rfl rfl) rfl (Nat.le_of_ble_eq_true rfl) dX10_readPiece_10 (Nat.le_of_ble_eq_true rfl) (Nat.le_of_ble_eq_true rfl) (Nat.le_refl _) (m_isWord (i := 19) (s := (.inl x)) rfl (hHas_sub nd (as' := [m]) (cs' := [(oC 10 (mF m th tr wa tp (nI E) sp fa fl tk ta sg nu wd lo wv rl rw ht sd ah cl))]) [0] rfl rfl) hp ?_)
  refine w_istore_n (ls2 := [some (.ref m), some (.int (nI l)), some (.int (isS (.inl x) [104, 111, 108, 100] 4)), some (.int (isS (.inl x) [114, 97, 109, 112] 4)), none, none, none, none]) dX10_readPiece_13 (by decide) rfl rfl ?_
  refine w_iload_n dX10_readPiece_14 rfl ?_
  refine w_if_ne_f (tgt := 36) dX10_readPiece_15 rfl h1 ?_
  refine w_iload_n dX10_readPiece_18 rfl ?_
  refine w_if_ne_t (tgt := 36) dX10_readPiece_19 rfl h2 ?_
  refine w_aload_n dX10_readPiece_36 rfl ?_
  refine w_get (v := .ref (m + 8)) fX10_36 (hUs_at nd 0 rfl rfl) rfl dX10_readPiece_37 ?_
  refine w_iload_n dX10_readPiece_40 rfl ?_
  refine w_ialoadN (hUs_at nd 2 rfl rfl) (by omega) (by omega) dX10_readPiece_41 ?_
  refine w_top (z := nI W.2.2.2.2.1) hfp ?_
  refine w_bipush (v := 8) dX10_readPiece_42 (by decide) ?_
  refine w_icmp_ne_t (tgt := 52) dX10_readPiece_44 rfl (fun z => absurd ((nI_eq (a := W.2.2.2.2.1) (b := 8) (by omega) (by omega)).mp z) (by omega)) ?_
  refine w_aload_n dX10_readPiece_52 rfl ?_
  refine w_callV (ci := 10) (d' := d + 8) (mc' := 0) (ms' := 0) (As := []) (st := []) lX10_164 vX10_goOn rfl (hUs_at nd 0 rfl rfl) rfl (Nat.le_of_ble_eq_true rfl) dX10_readPiece_53 (Nat.le_of_ble_eq_true rfl) (Nat.le_of_ble_eq_true rfl) (Nat.le_refl _) (m_goOn (s := (.inl x)) (hHas_sub nd (as' := [m, m + 1]) (cs' := [(oC 10 (mF m th tr wa tp (nI E) sp fa fl tk ta sg nu wd lo wv rl rw ht sd ah cl)), (aI 600 gt)]) [0, 1] rfl rfl) (nd_sub nd (as' := [m, m + 1]) [0, 1] rfl rfl) hE hT hp (fun sp1 fa1 fl1 tk1 ta1 sg1 nu1 wd1 hp1 => ?_))
  refine w_heq (hUs_in nd rfl [0, 1] (cs2 := [(oC 10 (mF m th tr wa tp (nI E) sp1 fa1 fl1 tk1 ta1 sg1 nu1 wd1 lo wv rl rw ht sd ah cl)), (aI 600 gt), (aI 8 fp), (aI 64 fk), (aI 64 fx), (aI 64 fy), (aI 64 fc)]) rfl rfl) ?_
  refine w_bipush (v := 8) dX10_readPiece_56 (by decide) ?_
  refine w_iload_n dX10_readPiece_58 rfl ?_
  refine w_imulE (z := nI (8 * l)) dX10_readPiece_59 (pk_mul (8) (l)) ?_
  refine w_aload_n dX10_readPiece_60 rfl ?_
  refine w_get (v := .ref (m + 8)) fX10_36 (hUs_at nd 0 rfl rfl) rfl dX10_readPiece_61 ?_
  refine w_iload_n dX10_readPiece_64 rfl ?_
  refine w_ialoadN (hUs_at nd 2 rfl rfl) (by omega) (by omega) dX10_readPiece_65 ?_
  refine w_top (z := nI W.2.2.2.2.1) hfp ?_
  refine w_iaddE (z := nI ((8 * l) + W.2.2.2.2.1)) dX10_readPiece_66 (nI_add ((8 * l)) (W.2.2.2.2.1)) ?_
  refine w_istore (ls2 := [some (.ref m), some (.int (nI l)), some (.int (isS (.inl x) [104, 111, 108, 100] 4)), some (.int (isS (.inl x) [114, 97, 109, 112] 4)), some (.int (nI ((8 * l) + W.2.2.2.2.1))), none, none, none]) dX10_readPiece_67 (by decide) rfl rfl ?_
  refine w_aload_n dX10_readPiece_69 rfl ?_
  refine w_callV (ci := 10) (d' := d + 8) (mc' := 0) (ms' := 0) (As := []) (st := []) lX10_216 vX10_readInt rfl (hUs_at nd 0 rfl rfl) rfl (Nat.le_of_ble_eq_true rfl) dX10_readPiece_70 (Nat.le_of_ble_eq_true rfl) (Nat.le_of_ble_eq_true rfl) (Nat.le_refl _) (m_readInt (s := (gS ft (.inl x))) (hHas_sub nd (as' := [m, m + 1]) (cs' := [(oC 10 (mF m th tr wa tp (nI E) sp1 fa1 fl1 tk1 ta1 sg1 nu1 wd1 lo wv rl rw ht sd ah cl)), (aI 600 gt)]) [0, 1] rfl rfl) (nd_sub nd (as' := [m, m + 1]) [0, 1] rfl rfl) hE hT hp1 (fun sp2 fa2 fl2 tk2 ta2 sg2 nu2 wd2 v2 hp2 hv2 => ?_))
  refine w_heq (hUs_in nd rfl [0, 1] (cs2 := [(oC 10 (mF m th tr wa tp (nI E) sp2 fa2 fl2 tk2 ta2 sg2 nu2 wd2 lo wv rl rw ht sd ah cl)), (aI 600 gt), (aI 8 fp), (aI 64 fk), (aI 64 fx), (aI 64 fy), (aI 64 fc)]) rfl rfl) ?_
  refine w_istore (ls2 := [some (.ref m), some (.int (nI l)), some (.int (isS (.inl x) [104, 111, 108, 100] 4)), some (.int (isS (.inl x) [114, 97, 109, 112] 4)), some (.int (nI ((8 * l) + W.2.2.2.2.1))), some (.int v2), none, none]) dX10_readPiece_73 (by decide) rfl rfl ?_
  refine w_iconst (v := 0) dX10_readPiece_75 (by decide) ?_
  refine w_istore (ls2 := [some (.ref m), some (.int (nI l)), some (.int (isS (.inl x) [104, 111, 108, 100] 4)), some (.int (isS (.inl x) [114, 97, 109, 112] 4)), some (.int (nI ((8 * l) + W.2.2.2.2.1))), some (.int v2), some (.int 0), none]) dX10_readPiece_76 (by decide) rfl rfl ?_
  refine w_iload_n dX10_readPiece_78 rfl ?_
  refine w_if_eq_f (tgt := 97) dX10_readPiece_79 rfl h2 ?_
  refine w_aload_n dX10_readPiece_82 rfl ?_
  refine w_ldcS (i := 21) rfl rfl rfl dX10_readPiece_83 ?_
  refine w_callV (ci := 10) (d' := d + 8) (mc' := 0) (ms' := 0) (As := [.ref (G.2.2.1 21)]) (st := []) lX10_209 vX10_needs rfl (hUs_at nd 0 rfl rfl) rfl (Nat.le_of_ble_eq_true rfl) dX10_readPiece_85 (Nat.le_of_ble_eq_true rfl) (Nat.le_of_ble_eq_true rfl) (Nat.le_refl _) (m_needs (i := 21) (s := (riS ft (gS ft (.inl x)))) (hHas_sub nd (as' := [m, m + 1]) (cs' := [(oC 10 (mF m th tr wa tp (nI E) sp2 fa2 fl2 tk2 ta2 sg2 nu2 wd2 lo wv rl rw ht sd ah cl)), (aI 600 gt)]) [0, 1] rfl rfl) (nd_sub nd (as' := [m, m + 1]) [0, 1] rfl rfl) rfl hE hT hp2 (fun sp3 fa3 fl3 tk3 ta3 sg3 nu3 wd3 hp3 => ?_))
  refine w_heq (hUs_in nd rfl [0, 1] (cs2 := [(oC 10 (mF m th tr wa tp (nI E) sp3 fa3 fl3 tk3 ta3 sg3 nu3 wd3 lo wv rl rw ht sd ah cl)), (aI 600 gt), (aI 8 fp), (aI 64 fk), (aI 64 fx), (aI 64 fy), (aI 64 fc)]) rfl rfl) ?_
  refine w_aload_n dX10_readPiece_88 rfl ?_
  refine w_callV (ci := 10) (d' := d + 8) (mc' := 0) (ms' := 0) (As := []) (st := []) lX10_216 vX10_readInt rfl (hUs_at nd 0 rfl rfl) rfl (Nat.le_of_ble_eq_true rfl) dX10_readPiece_89 (Nat.le_of_ble_eq_true rfl) (Nat.le_of_ble_eq_true rfl) (Nat.le_refl _) (m_readInt (s := (ndS ft [116, 111] 2 (riS ft (gS ft (.inl x))))) (hHas_sub nd (as' := [m, m + 1]) (cs' := [(oC 10 (mF m th tr wa tp (nI E) sp3 fa3 fl3 tk3 ta3 sg3 nu3 wd3 lo wv rl rw ht sd ah cl)), (aI 600 gt)]) [0, 1] rfl rfl) (nd_sub nd (as' := [m, m + 1]) [0, 1] rfl rfl) hE hT hp3 (fun sp4 fa4 fl4 tk4 ta4 sg4 nu4 wd4 v4 hp4 hv4 => ?_))
  refine w_heq (hUs_in nd rfl [0, 1] (cs2 := [(oC 10 (mF m th tr wa tp (nI E) sp4 fa4 fl4 tk4 ta4 sg4 nu4 wd4 lo wv rl rw ht sd ah cl)), (aI 600 gt), (aI 8 fp), (aI 64 fk), (aI 64 fx), (aI 64 fy), (aI 64 fc)]) rfl rfl) ?_
  refine w_istore (ls2 := [some (.ref m), some (.int (nI l)), some (.int (isS (.inl x) [104, 111, 108, 100] 4)), some (.int (isS (.inl x) [114, 97, 109, 112] 4)), some (.int (nI ((8 * l) + W.2.2.2.2.1))), some (.int v2), some (.int v4), none]) dX10_readPiece_92 (by decide) rfl rfl ?_
  refine w_goto (tgt := 116) dX10_readPiece_94 rfl ?_
  refine w_aload_n dX10_readPiece_116 rfl ?_
  refine w_ldcS (i := 23) rfl rfl rfl dX10_readPiece_117 ?_
  refine w_callV (ci := 10) (d' := d + 8) (mc' := 0) (ms' := 0) (As := [.ref (G.2.2.1 23)]) (st := []) lX10_209 vX10_needs rfl (hUs_at nd 0 rfl rfl) rfl (Nat.le_of_ble_eq_true rfl) dX10_readPiece_119 (Nat.le_of_ble_eq_true rfl) (Nat.le_of_ble_eq_true rfl) (Nat.le_refl _) (m_needs (i := 23) (s := (riS ft (ndS ft [116, 111] 2 (riS ft (gS ft (.inl x)))))) (hHas_sub nd (as' := [m, m + 1]) (cs' := [(oC 10 (mF m th tr wa tp (nI E) sp4 fa4 fl4 tk4 ta4 sg4 nu4 wd4 lo wv rl rw ht sd ah cl)), (aI 600 gt)]) [0, 1] rfl rfl) (nd_sub nd (as' := [m, m + 1]) [0, 1] rfl rfl) rfl hE hT hp4 (fun sp5 fa5 fl5 tk5 ta5 sg5 nu5 wd5 hp5 => ?_))
  refine w_heq (hUs_in nd rfl [0, 1] (cs2 := [(oC 10 (mF m th tr wa tp (nI E) sp5 fa5 fl5 tk5 ta5 sg5 nu5 wd5 lo wv rl rw ht sd ah cl)), (aI 600 gt), (aI 8 fp), (aI 64 fk), (aI 64 fx), (aI 64 fy), (aI 64 fc)]) rfl rfl) ?_
  refine w_aload_n dX10_readPiece_122 rfl ?_
  refine w_iconst (v := 1) dX10_readPiece_123 (by decide) ?_
  refine w_sipush (v := 500) dX10_readPiece_124 (by decide) ?_
  refine w_callV (ci := 10) (d' := d + 8) (mc' := 0) (ms' := 0) (As := [.int 1, .int 500]) (st := []) lX10_191 vX10_readWhole rfl (hUs_at nd 0 rfl rfl) rfl (Nat.le_of_ble_eq_true rfl) dX10_readPiece_127 (Nat.le_of_ble_eq_true rfl) (Nat.le_of_ble_eq_true rfl) (Nat.le_refl _) (m_readWhole (s := (ndS ft [102, 111, 114] 3 (riS ft (ndS ft [116, 111] 2 (riS ft (gS ft (.inl x))))))) (hHas_sub nd (as' := [m, m + 1]) (cs' := [(oC 10 (mF m th tr wa tp (nI E) sp5 fa5 fl5 tk5 ta5 sg5 nu5 wd5 lo wv rl rw ht sd ah cl)), (aI 600 gt)]) [0, 1] rfl rfl) (nd_sub nd (as' := [m, m + 1]) [0, 1] rfl rfl) hE hT hp5 (fun sp6 fa6 fl6 tk6 ta6 sg6 nu6 wd6 v6 hp6 hv6 => ?_))
  refine w_heq (hUs_in nd rfl [0, 1] (cs2 := [(oC 10 (mF m th tr wa tp (nI E) sp6 fa6 fl6 tk6 ta6 sg6 nu6 wd6 lo wv rl rw ht sd ah cl)), (aI 600 gt), (aI 8 fp), (aI 64 fk), (aI 64 fx), (aI 64 fy), (aI 64 fc)]) rfl rfl) ?_
  refine w_istore (ls2 := [some (.ref m), some (.int (nI l)), some (.int (isS (.inl x) [104, 111, 108, 100] 4)), some (.int (isS (.inl x) [114, 97, 109, 112] 4)), some (.int (nI ((8 * l) + W.2.2.2.2.1))), some (.int v2), some (.int v4), some (.int v6)]) dX10_readPiece_130 (by decide) rfl rfl ?_
  have hq7 := pc_ramp (ft := ft) (x := x) (W := W) h8 h1 h2
  rcases e7 : e6S ft (riS ft (ndS ft [116, 111] 2 (riS ft (gS ft (.inl x))))) with y7 | b7
  · have hp9 := pR_q e7 hp6
    obtain ⟨y4, y5, g4, g5, g6⟩ := hq7.2 y7 e7
    refine w_aload_n dX10_readPiece_132 rfl ?_
    refine w_get (v := .int fa6) fX10_99 (hUs_at nd 0 rfl rfl) rfl dX10_readPiece_133 ?_
    refine w_if_le_t (tgt := 140) dX10_readPiece_136 rfl (by rw [hp9.1]; decide) ?_
    refine w_aload_n dX10_readPiece_140 rfl ?_
    refine w_get (v := .ref (m + 10)) fX10_43 (hUs_at nd 0 rfl rfl) rfl dX10_readPiece_141 ?_
    refine w_iload dX10_readPiece_144 rfl ?_
    refine w_iload_n dX10_readPiece_146 rfl ?_
    refine w_if_eq_t (tgt := 154) dX10_readPiece_147 rfl h1 ?_
    refine w_iload_n dX10_readPiece_154 rfl ?_
    refine w_if_eq_f (tgt := 162) dX10_readPiece_155 rfl h2 ?_
    refine w_iconst (v := 1) dX10_readPiece_158 (by decide) ?_
    refine w_goto (tgt := 163) dX10_readPiece_159 rfl ?_
    refine w_iastoreN (hUs_at nd 3 rfl rfl) (by omega) (by omega) dX10_readPiece_163 ?_
    refine w_heq (hUs_set nd rfl 3 (cs' := [(oC 10 (mF m th tr wa tp (nI E) sp6 fa6 fl6 tk6 ta6 sg6 nu6 wd6 lo wv rl rw ht sd ah cl)), (aI 600 gt), (aI 8 fp), (aI 64 (upd fk ((8 * l) + W.2.2.2.2.1) 1)), (aI 64 fx), (aI 64 fy), (aI 64 fc)]) rfl rfl) ?_
    refine w_aload_n dX10_readPiece_164 rfl ?_
    refine w_get (v := .ref (m + 11)) fX10_46 (hUs_at nd 0 rfl rfl) rfl dX10_readPiece_165 ?_
    refine w_iload dX10_readPiece_168 rfl ?_
    refine w_iload dX10_readPiece_170 rfl ?_
    refine w_iastoreN (hUs_at nd 4 rfl rfl) (by omega) (by omega) dX10_readPiece_172 ?_
    refine w_heq (hUs_set nd rfl 4 (cs' := [(oC 10 (mF m th tr wa tp (nI E) sp6 fa6 fl6 tk6 ta6 sg6 nu6 wd6 lo wv rl rw ht sd ah cl)), (aI 600 gt), (aI 8 fp), (aI 64 (upd fk ((8 * l) + W.2.2.2.2.1) 1)), (aI 64 (upd fx ((8 * l) + W.2.2.2.2.1) v2)), (aI 64 fy), (aI 64 fc)]) rfl rfl) ?_
    refine w_aload_n dX10_readPiece_173 rfl ?_
    refine w_get (v := .ref (m + 12)) fX10_49 (hUs_at nd 0 rfl rfl) rfl dX10_readPiece_174 ?_
    refine w_iload dX10_readPiece_177 rfl ?_
    refine w_iload dX10_readPiece_179 rfl ?_
    refine w_iastoreN (hUs_at nd 5 rfl rfl) (by omega) (by omega) dX10_readPiece_181 ?_
    refine w_heq (hUs_set nd rfl 5 (cs' := [(oC 10 (mF m th tr wa tp (nI E) sp6 fa6 fl6 tk6 ta6 sg6 nu6 wd6 lo wv rl rw ht sd ah cl)), (aI 600 gt), (aI 8 fp), (aI 64 (upd fk ((8 * l) + W.2.2.2.2.1) 1)), (aI 64 (upd fx ((8 * l) + W.2.2.2.2.1) v2)), (aI 64 (upd fy ((8 * l) + W.2.2.2.2.1) v4)), (aI 64 fc)]) rfl rfl) ?_
    refine w_aload_n dX10_readPiece_182 rfl ?_
    refine w_get (v := .ref (m + 13)) fX10_52 (hUs_at nd 0 rfl rfl) rfl dX10_readPiece_183 ?_
    refine w_iload dX10_readPiece_186 rfl ?_
    refine w_iload dX10_readPiece_188 rfl ?_
    refine w_iastoreN (hUs_at nd 6 rfl rfl) (by omega) (by omega) dX10_readPiece_190 ?_
    refine w_heq (hUs_set nd rfl 6 (cs' := [(oC 10 (mF m th tr wa tp (nI E) sp6 fa6 fl6 tk6 ta6 sg6 nu6 wd6 lo wv rl rw ht sd ah cl)), (aI 600 gt), (aI 8 fp), (aI 64 (upd fk ((8 * l) + W.2.2.2.2.1) 1)), (aI 64 (upd fx ((8 * l) + W.2.2.2.2.1) v2)), (aI 64 (upd fy ((8 * l) + W.2.2.2.2.1) v4)), (aI 64 (upd fc ((8 * l) + W.2.2.2.2.1) v6))]) rfl rfl) ?_
    refine w_aload_n dX10_readPiece_191 rfl ?_
    refine w_get (v := .ref (m + 8)) fX10_36 (hUs_at nd 0 rfl rfl) rfl dX10_readPiece_192 ?_
    refine w_iload_n dX10_readPiece_195 rfl ?_
    refine w_dup2_11 dX10_readPiece_196 rfl rfl ?_
    refine w_ialoadN (hUs_at nd 2 rfl rfl) (by omega) (by omega) dX10_readPiece_197 ?_
    refine w_top (z := nI W.2.2.2.2.1) hfp ?_
    refine w_iconst (v := 1) dX10_readPiece_198 (by decide) ?_
    refine w_iaddE (z := nI (W.2.2.2.2.1 + 1)) dX10_readPiece_199 (nI_add (W.2.2.2.2.1) (1)) ?_
    refine w_iastoreN (hUs_at nd 2 rfl rfl) (by omega) (by omega) dX10_readPiece_200 ?_
    refine w_heq (hUs_set nd rfl 2 (cs' := [(oC 10 (mF m th tr wa tp (nI E) sp6 fa6 fl6 tk6 ta6 sg6 nu6 wd6 lo wv rl rw ht sd ah cl)), (aI 600 gt), (aI 8 (upd fp l (nI (W.2.2.2.2.1 + 1)))), (aI 64 (upd fk ((8 * l) + W.2.2.2.2.1) 1)), (aI 64 (upd fx ((8 * l) + W.2.2.2.2.1) v2)), (aI 64 (upd fy ((8 * l) + W.2.2.2.2.1) v4)), (aI 64 (upd fc ((8 * l) + W.2.2.2.2.1) v6))]) rfl rfl) ?_
    refine w_return rfl dX10_readPiece_201 (Nat.le_of_ble_eq_true rfl) (Nat.le_of_ble_eq_true rfl) ?_
    refine k _ _ _ _ _ _ _ _ _ _ _ _ _ (by rw [← hq7.1, e7]; exact hp9) (frO_u frO_r) (fun j hj => ⟨pk_un (by omega), pk_un (by omega), pk_un (by omega), pk_un (by omega)⟩) (fun _ => ?_)
    rw [g6]
    refine ⟨pk_us, wAt_px hAt (fun j hj => pk_un hj) (fun j hj => pk_un hj) (fun j hj => pk_un hj) (fun j hj => pk_un hj) pk_us (pk_us.trans (hv2 y4 g4)) (fun _ => pk_us.trans (hv4 y5 (by rw [g4]; exact g5))) (pk_us.trans (hv6 y7 e7)), wGs_px hG (by omega) (rw_rng e7) (ri_rng g4) (Or.inr (Or.inl ⟨rfl, (ri_rng g5).1, (ri_rng g5).2⟩))⟩
  · have hp9 := pR_q e7 hp6
    refine w_aload_n dX10_readPiece_132 rfl ?_
    refine w_get (v := .int fa6) fX10_99 (hUs_at nd 0 rfl rfl) rfl dX10_readPiece_133 ?_
    refine w_if_le_f (tgt := 140) dX10_readPiece_136 rfl (fun z => absurd hp9.2.1 (by rw [← hp9.1]; exact Int32.not_lt.mpr z)) ?_
    refine w_return rfl dX10_readPiece_139 (Nat.le_of_ble_eq_true rfl) (Nat.le_of_ble_eq_true rfl) ?_
    exact k _ _ _ _ _ _ _ _ _ _ _ _ _ (by rw [← hq7.1, e7]; exact hp9) frO_r (fun _ _ => ⟨rfl, rfl, rfl, rfl⟩) (fun z => absurd (rcS_r (hq7.1.symm.trans e7)).1 z)
set_option maxRecDepth 100000 in
set_option maxHeartbeats 4000000 in
theorem m_piece8_swing {G : wG} {d : Nat} {h : hH} {Q : Option Value → hH → Prop} {m : Nat} {th tr wa tp sp fa fl tk ta sg nu : Int32} {wd : Int64} {lo wv rl rw ht sd ah cl : Int32} {ft gt : Nat → Int32} {E : Nat} {fp : Nat → Int32} {fk : Nat → Int32} {fx : Nat → Int32} {fy : Nat → Int32} {fc : Nat → Int32} {l : Nat} {x : rD} {W : wP} (hw : hHas h [m, m + 1, m + 8, m + 10, m + 11, m + 12, m + 13] [(oC 10 (mF m th tr wa tp (nI E) sp fa fl tk ta sg nu wd lo wv rl rw ht sd ah cl)), (aI 600 gt), (aI 8 fp), (aI 64 fk), (aI 64 fx), (aI 64 fy), (aI 64 fc)]) (nd : [m, m + 1, m + 8, m + 10, m + 11, m + 12, m + 13].Nodup) (hE : E ≤ 600) (hT : mT E ft gt) (hl : l < 8) (hfp : fp l = nI W.2.2.2.2.1) (hAt : wAt W (8 * l) fk fx fy fc) (hG : wGs W) (h1 : isW x.2.2.1 x.2.2.2.2.1 [104, 111, 108, 100] 4 = 0) (h2 : isW x.2.2.1 x.2.2.2.2.1 [114, 97, 109, 112] 4 = 0) (h3 : ¬ isW x.2.2.1 x.2.2.2.2.1 [115, 119, 105, 110, 103] 5 = 0) (h8 : W.2.2.2.2.1 = 8) (hp : pR (.inl x) E sp fa fl tk ta sg nu wd) (k : ∀ (sp fa fl tk ta sg nu : Int32) (wd : Int64) (gp gk gx gy gc : Nat → Int32), pR (rcS ((rPc ft x W).1, (rPc ft x W).2.1)) E sp fa fl tk ta sg nu wd → frO l fp gp → (∀ j, (j < 8 * l ∨ 8 * l + 8 ≤ j) → gk j = fk j ∧ gx j = fx j ∧ gy j = fy j ∧ gc j = fc j) → (¬ (rPc ft x W).1 = 0 → gp l = nI (rPc ft x W).2.2.2.2.2.2.1 ∧ wAt (rPc ft x W).2.2 (8 * l) gk gx gy gc ∧ wGs (rPc ft x W).2.2) → Q none (hUs h [m, m + 1, m + 8, m + 10, m + 11, m + 12, m + 13] [(oC 10 (mF m th tr wa tp (nI E) sp fa fl tk ta sg nu wd lo wv rl rw ht sd ah cl)), (aI 600 gt), (aI 8 gp), (aI 64 gk), (aI 64 gx), (aI 64 gy), (aI 64 gc)])) : Cl G yX10_readPiece (d + 9) 0 0 [.ref m, .int (nI l)] h Q := by
  have hp8 := hG.1
  refine Cl.of (ini := false) kX10_readPiece (plainFor_of_name (by decide)) (by decide) (Nat.le_of_ble_eq_true rfl) rfl rfl (fun z => by cases z) ?_
  refine w_heq (hUs_id hw).symm ?_
  refine w_aload_n dX10_readPiece_0 rfl ?_
  refine w_ldcS (i := 18) rfl rfl rfl dX10_readPiece_1 ?_
  refine w_callV (ci := 10) (d' := d + 8) (mc' := 0) (ms' := 0) (As := [.ref (G.2.2.1 18)]) (st := []) lX10_156 vX10_isWord rfl (hUs_at nd 0 rfl rfl) rfl (Nat.le_of_ble_eq_true rfl) dX10_readPiece_3 (Nat.le_of_ble_eq_true rfl) (Nat.le_of_ble_eq_true rfl) (Nat.le_refl _) (m_isWord (i := 18) (s := (.inl x)) rfl (hHas_sub nd (as' := [m]) (cs' := [(oC 10 (mF m th tr wa tp (nI E) sp fa fl tk ta sg nu wd lo wv rl rw ht sd ah cl))]) [0] rfl rfl) hp ?_)
  refine w_istore_n (ls2 := [some (.ref m), some (.int (nI l)), some (.int (isS (.inl x) [104, 111, 108, 100] 4)), none, none, none, none, none]) dX10_readPiece_6 (by decide) rfl rfl ?_
  refine w_aload_n dX10_readPiece_7 rfl ?_
  refine w_ldcS (i := 19) rfl rfl rfl dX10_readPiece_8 ?_
  refine w_callV (ci := 10) (d' := d + 8) (mc' := 0) (ms' := 0) (As := [.ref (G.2.2.1 19)]) (st := []) lX10_156 vX10_isWord rfl (hUs_at nd 0 rfl rfl) rfl (Nat.le_of_ble_eq_true rfl) dX10_readPiece_10 (Nat.le_of_ble_eq_true rfl) (Nat.le_of_ble_eq_true rfl) (Nat.le_refl _) (m_isWord (i := 19) (s := (.inl x)) rfl (hHas_sub nd (as' := [m]) (cs' := [(oC 10 (mF m th tr wa tp (nI E) sp fa fl tk ta sg nu wd lo wv rl rw ht sd ah cl))]) [0] rfl rfl) hp ?_)
  refine w_istore_n (ls2 := [some (.ref m), some (.int (nI l)), some (.int (isS (.inl x) [104, 111, 108, 100] 4)), some (.int (isS (.inl x) [114, 97, 109, 112] 4)), none, none, none, none]) dX10_readPiece_13 (by decide) rfl rfl ?_
  refine w_iload_n dX10_readPiece_14 rfl ?_
  refine w_if_ne_f (tgt := 36) dX10_readPiece_15 rfl h1 ?_
  refine w_iload_n dX10_readPiece_18 rfl ?_
  refine w_if_ne_f (tgt := 36) dX10_readPiece_19 rfl h2 ?_
  refine w_aload_n dX10_readPiece_22 rfl ?_
  refine w_ldcS (i := 20) rfl rfl rfl dX10_readPiece_23 ?_
  refine w_callV (ci := 10) (d' := d + 8) (mc' := 0) (ms' := 0) (As := [.ref (G.2.2.1 20)]) (st := []) lX10_156 vX10_isWord rfl (hUs_at nd 0 rfl rfl) rfl (Nat.le_of_ble_eq_true rfl) dX10_readPiece_25 (Nat.le_of_ble_eq_true rfl) (Nat.le_of_ble_eq_true rfl) (Nat.le_refl _) (m_isWord (i := 20) (s := (.inl x)) rfl (hHas_sub nd (as' := [m]) (cs' := [(oC 10 (mF m th tr wa tp (nI E) sp fa fl tk ta sg nu wd lo wv rl rw ht sd ah cl))]) [0] rfl rfl) hp ?_)
  refine w_if_ne_t (tgt := 36) dX10_readPiece_28 rfl h3 ?_
  refine w_aload_n dX10_readPiece_36 rfl ?_
  refine w_get (v := .ref (m + 8)) fX10_36 (hUs_at nd 0 rfl rfl) rfl dX10_readPiece_37 ?_
  refine w_iload_n dX10_readPiece_40 rfl ?_
  refine w_ialoadN (hUs_at nd 2 rfl rfl) (by omega) (by omega) dX10_readPiece_41 ?_
  refine w_top (z := nI W.2.2.2.2.1) hfp ?_
  refine w_bipush (v := 8) dX10_readPiece_42 (by decide) ?_
  refine w_icmp_ne_f (tgt := 52) dX10_readPiece_44 rfl ((nI_eq (a := W.2.2.2.2.1) (b := 8) (by omega) (by omega)).mpr (by omega)) ?_
  refine w_aload_n dX10_readPiece_47 rfl ?_
  refine w_iconst (v := 4) dX10_readPiece_48 (by decide) ?_
  refine w_callV (ci := 10) (d' := d + 8) (mc' := 0) (ms' := 0) (As := [.int 4]) (st := []) lX10_160 vX10_flaw rfl (hUs_at nd 0 rfl rfl) rfl (Nat.le_of_ble_eq_true rfl) dX10_readPiece_49 (Nat.le_of_ble_eq_true rfl) (Nat.le_of_ble_eq_true rfl) (Nat.le_refl _) (m_flaw (s := (.inl x)) (hHas_sub nd (as' := [m]) (cs' := [(oC 10 (mF m th tr wa tp (nI E) sp fa fl tk ta sg nu wd lo wv rl rw ht sd ah cl))]) [0] rfl rfl) (nd_sub nd (as' := [m]) [0] rfl rfl) (by decide) hp (fun fa1 fl1 hp1 => ?_))
  refine w_heq (hUs_in nd rfl [0] (cs2 := [(oC 10 (mF m th tr wa tp (nI E) sp fa1 fl1 tk ta sg nu wd lo wv rl rw ht sd ah cl)), (aI 600 gt), (aI 8 fp), (aI 64 fk), (aI 64 fx), (aI 64 fy), (aI 64 fc)]) rfl rfl) ?_
  refine w_aload_n dX10_readPiece_52 rfl ?_
  refine w_callV (ci := 10) (d' := d + 8) (mc' := 0) (ms' := 0) (As := []) (st := []) lX10_164 vX10_goOn rfl (hUs_at nd 0 rfl rfl) rfl (Nat.le_of_ble_eq_true rfl) dX10_readPiece_53 (Nat.le_of_ble_eq_true rfl) (Nat.le_of_ble_eq_true rfl) (Nat.le_refl _) (m_goOn (s := (.inr (4, nI x.2.2.2.1))) (hHas_sub nd (as' := [m, m + 1]) (cs' := [(oC 10 (mF m th tr wa tp (nI E) sp fa1 fl1 tk ta sg nu wd lo wv rl rw ht sd ah cl)), (aI 600 gt)]) [0, 1] rfl rfl) (nd_sub nd (as' := [m, m + 1]) [0, 1] rfl rfl) hE hT hp1 (fun sp2 fa2 fl2 tk2 ta2 sg2 nu2 wd2 hp2 => ?_))
  refine w_heq (hUs_in nd rfl [0, 1] (cs2 := [(oC 10 (mF m th tr wa tp (nI E) sp2 fa2 fl2 tk2 ta2 sg2 nu2 wd2 lo wv rl rw ht sd ah cl)), (aI 600 gt), (aI 8 fp), (aI 64 fk), (aI 64 fx), (aI 64 fy), (aI 64 fc)]) rfl rfl) ?_
  refine w_bipush (v := 8) dX10_readPiece_56 (by decide) ?_
  refine w_iload_n dX10_readPiece_58 rfl ?_
  refine w_imulE (z := nI (8 * l)) dX10_readPiece_59 (pk_mul (8) (l)) ?_
  refine w_aload_n dX10_readPiece_60 rfl ?_
  refine w_get (v := .ref (m + 8)) fX10_36 (hUs_at nd 0 rfl rfl) rfl dX10_readPiece_61 ?_
  refine w_iload_n dX10_readPiece_64 rfl ?_
  refine w_ialoadN (hUs_at nd 2 rfl rfl) (by omega) (by omega) dX10_readPiece_65 ?_
  refine w_top (z := nI W.2.2.2.2.1) hfp ?_
  refine w_iaddE (z := nI ((8 * l) + W.2.2.2.2.1)) dX10_readPiece_66 (nI_add ((8 * l)) (W.2.2.2.2.1)) ?_
  refine w_istore (ls2 := [some (.ref m), some (.int (nI l)), some (.int (isS (.inl x) [104, 111, 108, 100] 4)), some (.int (isS (.inl x) [114, 97, 109, 112] 4)), some (.int (nI ((8 * l) + W.2.2.2.2.1))), none, none, none]) dX10_readPiece_67 (by decide) rfl rfl ?_
  refine w_aload_n dX10_readPiece_69 rfl ?_
  refine w_callV (ci := 10) (d' := d + 8) (mc' := 0) (ms' := 0) (As := []) (st := []) lX10_216 vX10_readInt rfl (hUs_at nd 0 rfl rfl) rfl (Nat.le_of_ble_eq_true rfl) dX10_readPiece_70 (Nat.le_of_ble_eq_true rfl) (Nat.le_of_ble_eq_true rfl) (Nat.le_refl _) (m_readInt (s := (.inr (4, nI x.2.2.2.1))) (hHas_sub nd (as' := [m, m + 1]) (cs' := [(oC 10 (mF m th tr wa tp (nI E) sp2 fa2 fl2 tk2 ta2 sg2 nu2 wd2 lo wv rl rw ht sd ah cl)), (aI 600 gt)]) [0, 1] rfl rfl) (nd_sub nd (as' := [m, m + 1]) [0, 1] rfl rfl) hE hT hp2 (fun sp3 fa3 fl3 tk3 ta3 sg3 nu3 wd3 v3 hp3 hv3 => ?_))
  refine w_heq (hUs_in nd rfl [0, 1] (cs2 := [(oC 10 (mF m th tr wa tp (nI E) sp3 fa3 fl3 tk3 ta3 sg3 nu3 wd3 lo wv rl rw ht sd ah cl)), (aI 600 gt), (aI 8 fp), (aI 64 fk), (aI 64 fx), (aI 64 fy), (aI 64 fc)]) rfl rfl) ?_
  refine w_istore (ls2 := [some (.ref m), some (.int (nI l)), some (.int (isS (.inl x) [104, 111, 108, 100] 4)), some (.int (isS (.inl x) [114, 97, 109, 112] 4)), some (.int (nI ((8 * l) + W.2.2.2.2.1))), some (.int v3), none, none]) dX10_readPiece_73 (by decide) rfl rfl ?_
  refine w_iconst (v := 0) dX10_readPiece_75 (by decide) ?_
  refine w_istore (ls2 := [some (.ref m), some (.int (nI l)), some (.int (isS (.inl x) [104, 111, 108, 100] 4)), some (.int (isS (.inl x) [114, 97, 109, 112] 4)), some (.int (nI ((8 * l) + W.2.2.2.2.1))), some (.int v3), some (.int 0), none]) dX10_readPiece_76 (by decide) rfl rfl ?_
  refine w_iload_n dX10_readPiece_78 rfl ?_
  refine w_if_eq_t (tgt := 97) dX10_readPiece_79 rfl h2 ?_
  refine w_iload_n dX10_readPiece_97 rfl ?_
  refine w_if_ne_f (tgt := 116) dX10_readPiece_98 rfl h1 ?_
  refine w_aload_n dX10_readPiece_101 rfl ?_
  refine w_ldcS (i := 22) rfl rfl rfl dX10_readPiece_102 ?_
  refine w_callV (ci := 10) (d' := d + 8) (mc' := 0) (ms' := 0) (As := [.ref (G.2.2.1 22)]) (st := []) lX10_209 vX10_needs rfl (hUs_at nd 0 rfl rfl) rfl (Nat.le_of_ble_eq_true rfl) dX10_readPiece_104 (Nat.le_of_ble_eq_true rfl) (Nat.le_of_ble_eq_true rfl) (Nat.le_refl _) (m_needs (i := 22) (s := (.inr (4, nI x.2.2.2.1))) (hHas_sub nd (as' := [m, m + 1]) (cs' := [(oC 10 (mF m th tr wa tp (nI E) sp3 fa3 fl3 tk3 ta3 sg3 nu3 wd3 lo wv rl rw ht sd ah cl)), (aI 600 gt)]) [0, 1] rfl rfl) (nd_sub nd (as' := [m, m + 1]) [0, 1] rfl rfl) rfl hE hT hp3 (fun sp4 fa4 fl4 tk4 ta4 sg4 nu4 wd4 hp4 => ?_))
  refine w_heq (hUs_in nd rfl [0, 1] (cs2 := [(oC 10 (mF m th tr wa tp (nI E) sp4 fa4 fl4 tk4 ta4 sg4 nu4 wd4 lo wv rl rw ht sd ah cl)), (aI 600 gt), (aI 8 fp), (aI 64 fk), (aI 64 fx), (aI 64 fy), (aI 64 fc)]) rfl rfl) ?_
  refine w_aload_n dX10_readPiece_107 rfl ?_
  refine w_iconst (v := 2) dX10_readPiece_108 (by decide) ?_
  refine w_bipush (v := 99) dX10_readPiece_109 (by decide) ?_
  refine w_callV (ci := 10) (d' := d + 8) (mc' := 0) (ms' := 0) (As := [.int 2, .int 99]) (st := []) lX10_191 vX10_readWhole rfl (hUs_at nd 0 rfl rfl) rfl (Nat.le_of_ble_eq_true rfl) dX10_readPiece_111 (Nat.le_of_ble_eq_true rfl) (Nat.le_of_ble_eq_true rfl) (Nat.le_refl _) (m_readWhole (s := (.inr (4, nI x.2.2.2.1))) (hHas_sub nd (as' := [m, m + 1]) (cs' := [(oC 10 (mF m th tr wa tp (nI E) sp4 fa4 fl4 tk4 ta4 sg4 nu4 wd4 lo wv rl rw ht sd ah cl)), (aI 600 gt)]) [0, 1] rfl rfl) (nd_sub nd (as' := [m, m + 1]) [0, 1] rfl rfl) hE hT hp4 (fun sp5 fa5 fl5 tk5 ta5 sg5 nu5 wd5 v5 hp5 hv5 => ?_))
  refine w_heq (hUs_in nd rfl [0, 1] (cs2 := [(oC 10 (mF m th tr wa tp (nI E) sp5 fa5 fl5 tk5 ta5 sg5 nu5 wd5 lo wv rl rw ht sd ah cl)), (aI 600 gt), (aI 8 fp), (aI 64 fk), (aI 64 fx), (aI 64 fy), (aI 64 fc)]) rfl rfl) ?_
  refine w_istore (ls2 := [some (.ref m), some (.int (nI l)), some (.int (isS (.inl x) [104, 111, 108, 100] 4)), some (.int (isS (.inl x) [114, 97, 109, 112] 4)), some (.int (nI ((8 * l) + W.2.2.2.2.1))), some (.int v3), some (.int v5), none]) dX10_readPiece_114 (by decide) rfl rfl ?_
  refine w_aload_n dX10_readPiece_116 rfl ?_
  refine w_ldcS (i := 23) rfl rfl rfl dX10_readPiece_117 ?_
  refine w_callV (ci := 10) (d' := d + 8) (mc' := 0) (ms' := 0) (As := [.ref (G.2.2.1 23)]) (st := []) lX10_209 vX10_needs rfl (hUs_at nd 0 rfl rfl) rfl (Nat.le_of_ble_eq_true rfl) dX10_readPiece_119 (Nat.le_of_ble_eq_true rfl) (Nat.le_of_ble_eq_true rfl) (Nat.le_refl _) (m_needs (i := 23) (s := (.inr (4, nI x.2.2.2.1))) (hHas_sub nd (as' := [m, m + 1]) (cs' := [(oC 10 (mF m th tr wa tp (nI E) sp5 fa5 fl5 tk5 ta5 sg5 nu5 wd5 lo wv rl rw ht sd ah cl)), (aI 600 gt)]) [0, 1] rfl rfl) (nd_sub nd (as' := [m, m + 1]) [0, 1] rfl rfl) rfl hE hT hp5 (fun sp6 fa6 fl6 tk6 ta6 sg6 nu6 wd6 hp6 => ?_))
  refine w_heq (hUs_in nd rfl [0, 1] (cs2 := [(oC 10 (mF m th tr wa tp (nI E) sp6 fa6 fl6 tk6 ta6 sg6 nu6 wd6 lo wv rl rw ht sd ah cl)), (aI 600 gt), (aI 8 fp), (aI 64 fk), (aI 64 fx), (aI 64 fy), (aI 64 fc)]) rfl rfl) ?_
  refine w_aload_n dX10_readPiece_122 rfl ?_
  refine w_iconst (v := 1) dX10_readPiece_123 (by decide) ?_
  refine w_sipush (v := 500) dX10_readPiece_124 (by decide) ?_
  refine w_callV (ci := 10) (d' := d + 8) (mc' := 0) (ms' := 0) (As := [.int 1, .int 500]) (st := []) lX10_191 vX10_readWhole rfl (hUs_at nd 0 rfl rfl) rfl (Nat.le_of_ble_eq_true rfl) dX10_readPiece_127 (Nat.le_of_ble_eq_true rfl) (Nat.le_of_ble_eq_true rfl) (Nat.le_refl _) (m_readWhole (s := (.inr (4, nI x.2.2.2.1))) (hHas_sub nd (as' := [m, m + 1]) (cs' := [(oC 10 (mF m th tr wa tp (nI E) sp6 fa6 fl6 tk6 ta6 sg6 nu6 wd6 lo wv rl rw ht sd ah cl)), (aI 600 gt)]) [0, 1] rfl rfl) (nd_sub nd (as' := [m, m + 1]) [0, 1] rfl rfl) hE hT hp6 (fun sp7 fa7 fl7 tk7 ta7 sg7 nu7 wd7 v7 hp7 hv7 => ?_))
  refine w_heq (hUs_in nd rfl [0, 1] (cs2 := [(oC 10 (mF m th tr wa tp (nI E) sp7 fa7 fl7 tk7 ta7 sg7 nu7 wd7 lo wv rl rw ht sd ah cl)), (aI 600 gt), (aI 8 fp), (aI 64 fk), (aI 64 fx), (aI 64 fy), (aI 64 fc)]) rfl rfl) ?_
  refine w_istore (ls2 := [some (.ref m), some (.int (nI l)), some (.int (isS (.inl x) [104, 111, 108, 100] 4)), some (.int (isS (.inl x) [114, 97, 109, 112] 4)), some (.int (nI ((8 * l) + W.2.2.2.2.1))), some (.int v3), some (.int v5), some (.int v7)]) dX10_readPiece_130 (by decide) rfl rfl ?_
  refine w_aload_n dX10_readPiece_132 rfl ?_
  refine w_get (v := .int fa7) fX10_99 (hUs_at nd 0 rfl rfl) rfl dX10_readPiece_133 ?_
  refine w_if_le_f (tgt := 140) dX10_readPiece_136 rfl (fun z => absurd hp7.2.1 (by rw [← hp7.1]; exact Int32.not_lt.mpr z)) ?_
  refine w_return rfl dX10_readPiece_139 (Nat.le_of_ble_eq_true rfl) (Nat.le_of_ble_eq_true rfl) ?_
  exact k _ _ _ _ _ _ _ _ _ _ _ _ _ (by rw [show (rPc ft x W) = (0, rFl x 4 (nI x.2.2.2.1), W) by rw [rPc, if_pos h1, if_pos h2, if_neg h3, rPc1, if_neg (by omega)]]; exact hp7) frO_r (fun _ _ => ⟨rfl, rfl, rfl, rfl⟩) (fun z => absurd (show (rPc ft x W).1 = 0 by rw [show (rPc ft x W) = (0, rFl x 4 (nI x.2.2.2.1), W) by rw [rPc, if_pos h1, if_pos h2, if_neg h3, rPc1, if_neg (by omega)]]) z)
set_option maxRecDepth 100000 in
set_option maxHeartbeats 4000000 in
theorem m_piece_swing {G : wG} {d : Nat} {h : hH} {Q : Option Value → hH → Prop} {m : Nat} {th tr wa tp sp fa fl tk ta sg nu : Int32} {wd : Int64} {lo wv rl rw ht sd ah cl : Int32} {ft gt : Nat → Int32} {E : Nat} {fp : Nat → Int32} {fk : Nat → Int32} {fx : Nat → Int32} {fy : Nat → Int32} {fc : Nat → Int32} {l : Nat} {x : rD} {W : wP} (hw : hHas h [m, m + 1, m + 8, m + 10, m + 11, m + 12, m + 13] [(oC 10 (mF m th tr wa tp (nI E) sp fa fl tk ta sg nu wd lo wv rl rw ht sd ah cl)), (aI 600 gt), (aI 8 fp), (aI 64 fk), (aI 64 fx), (aI 64 fy), (aI 64 fc)]) (nd : [m, m + 1, m + 8, m + 10, m + 11, m + 12, m + 13].Nodup) (hE : E ≤ 600) (hT : mT E ft gt) (hl : l < 8) (hfp : fp l = nI W.2.2.2.2.1) (hAt : wAt W (8 * l) fk fx fy fc) (hG : wGs W) (h1 : isW x.2.2.1 x.2.2.2.2.1 [104, 111, 108, 100] 4 = 0) (h2 : isW x.2.2.1 x.2.2.2.2.1 [114, 97, 109, 112] 4 = 0) (h3 : ¬ isW x.2.2.1 x.2.2.2.2.1 [115, 119, 105, 110, 103] 5 = 0) (h8 : W.2.2.2.2.1 < 8) (hp : pR (.inl x) E sp fa fl tk ta sg nu wd) (k : ∀ (sp fa fl tk ta sg nu : Int32) (wd : Int64) (gp gk gx gy gc : Nat → Int32), pR (rcS ((rPc ft x W).1, (rPc ft x W).2.1)) E sp fa fl tk ta sg nu wd → frO l fp gp → (∀ j, (j < 8 * l ∨ 8 * l + 8 ≤ j) → gk j = fk j ∧ gx j = fx j ∧ gy j = fy j ∧ gc j = fc j) → (¬ (rPc ft x W).1 = 0 → gp l = nI (rPc ft x W).2.2.2.2.2.2.1 ∧ wAt (rPc ft x W).2.2 (8 * l) gk gx gy gc ∧ wGs (rPc ft x W).2.2) → Q none (hUs h [m, m + 1, m + 8, m + 10, m + 11, m + 12, m + 13] [(oC 10 (mF m th tr wa tp (nI E) sp fa fl tk ta sg nu wd lo wv rl rw ht sd ah cl)), (aI 600 gt), (aI 8 gp), (aI 64 gk), (aI 64 gx), (aI 64 gy), (aI 64 gc)])) : Cl G yX10_readPiece (d + 9) 0 0 [.ref m, .int (nI l)] h Q := by
  have hp8 := hG.1
  refine Cl.of (ini := false) kX10_readPiece (plainFor_of_name (by decide)) (by decide) (Nat.le_of_ble_eq_true rfl) rfl rfl (fun z => by cases z) ?_
  refine w_heq (hUs_id hw).symm ?_
  refine w_aload_n dX10_readPiece_0 rfl ?_
  refine w_ldcS (i := 18) rfl rfl rfl dX10_readPiece_1 ?_
  refine w_callV (ci := 10) (d' := d + 8) (mc' := 0) (ms' := 0) (As := [.ref (G.2.2.1 18)]) (st := []) lX10_156 vX10_isWord rfl (hUs_at nd 0 rfl rfl) rfl (Nat.le_of_ble_eq_true rfl) dX10_readPiece_3 (Nat.le_of_ble_eq_true rfl) (Nat.le_of_ble_eq_true rfl) (Nat.le_refl _) (m_isWord (i := 18) (s := (.inl x)) rfl (hHas_sub nd (as' := [m]) (cs' := [(oC 10 (mF m th tr wa tp (nI E) sp fa fl tk ta sg nu wd lo wv rl rw ht sd ah cl))]) [0] rfl rfl) hp ?_)
  refine w_istore_n (ls2 := [some (.ref m), some (.int (nI l)), some (.int (isS (.inl x) [104, 111, 108, 100] 4)), none, none, none, none, none]) dX10_readPiece_6 (by decide) rfl rfl ?_
  refine w_aload_n dX10_readPiece_7 rfl ?_
  refine w_ldcS (i := 19) rfl rfl rfl dX10_readPiece_8 ?_
  refine w_callV (ci := 10) (d' := d + 8) (mc' := 0) (ms' := 0) (As := [.ref (G.2.2.1 19)]) (st := []) lX10_156 vX10_isWord rfl (hUs_at nd 0 rfl rfl) rfl (Nat.le_of_ble_eq_true rfl) dX10_readPiece_10 (Nat.le_of_ble_eq_true rfl) (Nat.le_of_ble_eq_true rfl) (Nat.le_refl _) (m_isWord (i := 19) (s := (.inl x)) rfl (hHas_sub nd (as' := [m]) (cs' := [(oC 10 (mF m th tr wa tp (nI E) sp fa fl tk ta sg nu wd lo wv rl rw ht sd ah cl))]) [0] rfl rfl) hp ?_)
  refine w_istore_n (ls2 := [some (.ref m), some (.int (nI l)), some (.int (isS (.inl x) [104, 111, 108, 100] 4)), some (.int (isS (.inl x) [114, 97, 109, 112] 4)), none, none, none, none]) dX10_readPiece_13 (by decide) rfl rfl ?_
  refine w_iload_n dX10_readPiece_14 rfl ?_
  refine w_if_ne_f (tgt := 36) dX10_readPiece_15 rfl h1 ?_
  refine w_iload_n dX10_readPiece_18 rfl ?_
  refine w_if_ne_f (tgt := 36) dX10_readPiece_19 rfl h2 ?_
  refine w_aload_n dX10_readPiece_22 rfl ?_
  refine w_ldcS (i := 20) rfl rfl rfl dX10_readPiece_23 ?_
  refine w_callV (ci := 10) (d' := d + 8) (mc' := 0) (ms' := 0) (As := [.ref (G.2.2.1 20)]) (st := []) lX10_156 vX10_isWord rfl (hUs_at nd 0 rfl rfl) rfl (Nat.le_of_ble_eq_true rfl) dX10_readPiece_25 (Nat.le_of_ble_eq_true rfl) (Nat.le_of_ble_eq_true rfl) (Nat.le_refl _) (m_isWord (i := 20) (s := (.inl x)) rfl (hHas_sub nd (as' := [m]) (cs' := [(oC 10 (mF m th tr wa tp (nI E) sp fa fl tk ta sg nu wd lo wv rl rw ht sd ah cl))]) [0] rfl rfl) hp ?_)
  refine w_if_ne_t (tgt := 36) dX10_readPiece_28 rfl h3 ?_
  refine w_aload_n dX10_readPiece_36 rfl ?_
  refine w_get (v := .ref (m + 8)) fX10_36 (hUs_at nd 0 rfl rfl) rfl dX10_readPiece_37 ?_
  refine w_iload_n dX10_readPiece_40 rfl ?_
  refine w_ialoadN (hUs_at nd 2 rfl rfl) (by omega) (by omega) dX10_readPiece_41 ?_
  refine w_top (z := nI W.2.2.2.2.1) hfp ?_
  refine w_bipush (v := 8) dX10_readPiece_42 (by decide) ?_
  refine w_icmp_ne_t (tgt := 52) dX10_readPiece_44 rfl (fun z => absurd ((nI_eq (a := W.2.2.2.2.1) (b := 8) (by omega) (by omega)).mp z) (by omega)) ?_
  refine w_aload_n dX10_readPiece_52 rfl ?_
  refine w_callV (ci := 10) (d' := d + 8) (mc' := 0) (ms' := 0) (As := []) (st := []) lX10_164 vX10_goOn rfl (hUs_at nd 0 rfl rfl) rfl (Nat.le_of_ble_eq_true rfl) dX10_readPiece_53 (Nat.le_of_ble_eq_true rfl) (Nat.le_of_ble_eq_true rfl) (Nat.le_refl _) (m_goOn (s := (.inl x)) (hHas_sub nd (as' := [m, m + 1]) (cs' := [(oC 10 (mF m th tr wa tp (nI E) sp fa fl tk ta sg nu wd lo wv rl rw ht sd ah cl)), (aI 600 gt)]) [0, 1] rfl rfl) (nd_sub nd (as' := [m, m + 1]) [0, 1] rfl rfl) hE hT hp (fun sp1 fa1 fl1 tk1 ta1 sg1 nu1 wd1 hp1 => ?_))
  refine w_heq (hUs_in nd rfl [0, 1] (cs2 := [(oC 10 (mF m th tr wa tp (nI E) sp1 fa1 fl1 tk1 ta1 sg1 nu1 wd1 lo wv rl rw ht sd ah cl)), (aI 600 gt), (aI 8 fp), (aI 64 fk), (aI 64 fx), (aI 64 fy), (aI 64 fc)]) rfl rfl) ?_
  refine w_bipush (v := 8) dX10_readPiece_56 (by decide) ?_
  refine w_iload_n dX10_readPiece_58 rfl ?_
  refine w_imulE (z := nI (8 * l)) dX10_readPiece_59 (pk_mul (8) (l)) ?_
  refine w_aload_n dX10_readPiece_60 rfl ?_
  refine w_get (v := .ref (m + 8)) fX10_36 (hUs_at nd 0 rfl rfl) rfl dX10_readPiece_61 ?_
  refine w_iload_n dX10_readPiece_64 rfl ?_
  refine w_ialoadN (hUs_at nd 2 rfl rfl) (by omega) (by omega) dX10_readPiece_65 ?_
  refine w_top (z := nI W.2.2.2.2.1) hfp ?_
  refine w_iaddE (z := nI ((8 * l) + W.2.2.2.2.1)) dX10_readPiece_66 (nI_add ((8 * l)) (W.2.2.2.2.1)) ?_
  refine w_istore (ls2 := [some (.ref m), some (.int (nI l)), some (.int (isS (.inl x) [104, 111, 108, 100] 4)), some (.int (isS (.inl x) [114, 97, 109, 112] 4)), some (.int (nI ((8 * l) + W.2.2.2.2.1))), none, none, none]) dX10_readPiece_67 (by decide) rfl rfl ?_
  refine w_aload_n dX10_readPiece_69 rfl ?_
  refine w_callV (ci := 10) (d' := d + 8) (mc' := 0) (ms' := 0) (As := []) (st := []) lX10_216 vX10_readInt rfl (hUs_at nd 0 rfl rfl) rfl (Nat.le_of_ble_eq_true rfl) dX10_readPiece_70 (Nat.le_of_ble_eq_true rfl) (Nat.le_of_ble_eq_true rfl) (Nat.le_refl _) (m_readInt (s := (gS ft (.inl x))) (hHas_sub nd (as' := [m, m + 1]) (cs' := [(oC 10 (mF m th tr wa tp (nI E) sp1 fa1 fl1 tk1 ta1 sg1 nu1 wd1 lo wv rl rw ht sd ah cl)), (aI 600 gt)]) [0, 1] rfl rfl) (nd_sub nd (as' := [m, m + 1]) [0, 1] rfl rfl) hE hT hp1 (fun sp2 fa2 fl2 tk2 ta2 sg2 nu2 wd2 v2 hp2 hv2 => ?_))
  refine w_heq (hUs_in nd rfl [0, 1] (cs2 := [(oC 10 (mF m th tr wa tp (nI E) sp2 fa2 fl2 tk2 ta2 sg2 nu2 wd2 lo wv rl rw ht sd ah cl)), (aI 600 gt), (aI 8 fp), (aI 64 fk), (aI 64 fx), (aI 64 fy), (aI 64 fc)]) rfl rfl) ?_
  refine w_istore (ls2 := [some (.ref m), some (.int (nI l)), some (.int (isS (.inl x) [104, 111, 108, 100] 4)), some (.int (isS (.inl x) [114, 97, 109, 112] 4)), some (.int (nI ((8 * l) + W.2.2.2.2.1))), some (.int v2), none, none]) dX10_readPiece_73 (by decide) rfl rfl ?_
  refine w_iconst (v := 0) dX10_readPiece_75 (by decide) ?_
  refine w_istore (ls2 := [some (.ref m), some (.int (nI l)), some (.int (isS (.inl x) [104, 111, 108, 100] 4)), some (.int (isS (.inl x) [114, 97, 109, 112] 4)), some (.int (nI ((8 * l) + W.2.2.2.2.1))), some (.int v2), some (.int 0), none]) dX10_readPiece_76 (by decide) rfl rfl ?_
  refine w_iload_n dX10_readPiece_78 rfl ?_
  refine w_if_eq_t (tgt := 97) dX10_readPiece_79 rfl h2 ?_
  refine w_iload_n dX10_readPiece_97 rfl ?_
  refine w_if_ne_f (tgt := 116) dX10_readPiece_98 rfl h1 ?_
  refine w_aload_n dX10_readPiece_101 rfl ?_
  refine w_ldcS (i := 22) rfl rfl rfl dX10_readPiece_102 ?_
  refine w_callV (ci := 10) (d' := d + 8) (mc' := 0) (ms' := 0) (As := [.ref (G.2.2.1 22)]) (st := []) lX10_209 vX10_needs rfl (hUs_at nd 0 rfl rfl) rfl (Nat.le_of_ble_eq_true rfl) dX10_readPiece_104 (Nat.le_of_ble_eq_true rfl) (Nat.le_of_ble_eq_true rfl) (Nat.le_refl _) (m_needs (i := 22) (s := (riS ft (gS ft (.inl x)))) (hHas_sub nd (as' := [m, m + 1]) (cs' := [(oC 10 (mF m th tr wa tp (nI E) sp2 fa2 fl2 tk2 ta2 sg2 nu2 wd2 lo wv rl rw ht sd ah cl)), (aI 600 gt)]) [0, 1] rfl rfl) (nd_sub nd (as' := [m, m + 1]) [0, 1] rfl rfl) rfl hE hT hp2 (fun sp3 fa3 fl3 tk3 ta3 sg3 nu3 wd3 hp3 => ?_))
  refine w_heq (hUs_in nd rfl [0, 1] (cs2 := [(oC 10 (mF m th tr wa tp (nI E) sp3 fa3 fl3 tk3 ta3 sg3 nu3 wd3 lo wv rl rw ht sd ah cl)), (aI 600 gt), (aI 8 fp), (aI 64 fk), (aI 64 fx), (aI 64 fy), (aI 64 fc)]) rfl rfl) ?_
  refine w_aload_n dX10_readPiece_107 rfl ?_
  refine w_iconst (v := 2) dX10_readPiece_108 (by decide) ?_
  refine w_bipush (v := 99) dX10_readPiece_109 (by decide) ?_
  refine w_callV (ci := 10) (d' := d + 8) (mc' := 0) (ms' := 0) (As := [.int 2, .int 99]) (st := []) lX10_191 vX10_readWhole rfl (hUs_at nd 0 rfl rfl) rfl (Nat.le_of_ble_eq_true rfl) dX10_readPiece_111 (Nat.le_of_ble_eq_true rfl) (Nat.le_of_ble_eq_true rfl) (Nat.le_refl _) (m_readWhole (s := (ndS ft [101, 118, 101, 114, 121] 5 (riS ft (gS ft (.inl x))))) (hHas_sub nd (as' := [m, m + 1]) (cs' := [(oC 10 (mF m th tr wa tp (nI E) sp3 fa3 fl3 tk3 ta3 sg3 nu3 wd3 lo wv rl rw ht sd ah cl)), (aI 600 gt)]) [0, 1] rfl rfl) (nd_sub nd (as' := [m, m + 1]) [0, 1] rfl rfl) hE hT hp3 (fun sp4 fa4 fl4 tk4 ta4 sg4 nu4 wd4 v4 hp4 hv4 => ?_))
  refine w_heq (hUs_in nd rfl [0, 1] (cs2 := [(oC 10 (mF m th tr wa tp (nI E) sp4 fa4 fl4 tk4 ta4 sg4 nu4 wd4 lo wv rl rw ht sd ah cl)), (aI 600 gt), (aI 8 fp), (aI 64 fk), (aI 64 fx), (aI 64 fy), (aI 64 fc)]) rfl rfl) ?_
  refine w_istore (ls2 := [some (.ref m), some (.int (nI l)), some (.int (isS (.inl x) [104, 111, 108, 100] 4)), some (.int (isS (.inl x) [114, 97, 109, 112] 4)), some (.int (nI ((8 * l) + W.2.2.2.2.1))), some (.int v2), some (.int v4), none]) dX10_readPiece_114 (by decide) rfl rfl ?_
  refine w_aload_n dX10_readPiece_116 rfl ?_
  refine w_ldcS (i := 23) rfl rfl rfl dX10_readPiece_117 ?_
  refine w_callV (ci := 10) (d' := d + 8) (mc' := 0) (ms' := 0) (As := [.ref (G.2.2.1 23)]) (st := []) lX10_209 vX10_needs rfl (hUs_at nd 0 rfl rfl) rfl (Nat.le_of_ble_eq_true rfl) dX10_readPiece_119 (Nat.le_of_ble_eq_true rfl) (Nat.le_of_ble_eq_true rfl) (Nat.le_refl _) (m_needs (i := 23) (s := (rwS ft 2 99 (ndS ft [101, 118, 101, 114, 121] 5 (riS ft (gS ft (.inl x)))))) (hHas_sub nd (as' := [m, m + 1]) (cs' := [(oC 10 (mF m th tr wa tp (nI E) sp4 fa4 fl4 tk4 ta4 sg4 nu4 wd4 lo wv rl rw ht sd ah cl)), (aI 600 gt)]) [0, 1] rfl rfl) (nd_sub nd (as' := [m, m + 1]) [0, 1] rfl rfl) rfl hE hT hp4 (fun sp5 fa5 fl5 tk5 ta5 sg5 nu5 wd5 hp5 => ?_))
  refine w_heq (hUs_in nd rfl [0, 1] (cs2 := [(oC 10 (mF m th tr wa tp (nI E) sp5 fa5 fl5 tk5 ta5 sg5 nu5 wd5 lo wv rl rw ht sd ah cl)), (aI 600 gt), (aI 8 fp), (aI 64 fk), (aI 64 fx), (aI 64 fy), (aI 64 fc)]) rfl rfl) ?_
  refine w_aload_n dX10_readPiece_122 rfl ?_
  refine w_iconst (v := 1) dX10_readPiece_123 (by decide) ?_
  refine w_sipush (v := 500) dX10_readPiece_124 (by decide) ?_
  refine w_callV (ci := 10) (d' := d + 8) (mc' := 0) (ms' := 0) (As := [.int 1, .int 500]) (st := []) lX10_191 vX10_readWhole rfl (hUs_at nd 0 rfl rfl) rfl (Nat.le_of_ble_eq_true rfl) dX10_readPiece_127 (Nat.le_of_ble_eq_true rfl) (Nat.le_of_ble_eq_true rfl) (Nat.le_refl _) (m_readWhole (s := (ndS ft [102, 111, 114] 3 (rwS ft 2 99 (ndS ft [101, 118, 101, 114, 121] 5 (riS ft (gS ft (.inl x))))))) (hHas_sub nd (as' := [m, m + 1]) (cs' := [(oC 10 (mF m th tr wa tp (nI E) sp5 fa5 fl5 tk5 ta5 sg5 nu5 wd5 lo wv rl rw ht sd ah cl)), (aI 600 gt)]) [0, 1] rfl rfl) (nd_sub nd (as' := [m, m + 1]) [0, 1] rfl rfl) hE hT hp5 (fun sp6 fa6 fl6 tk6 ta6 sg6 nu6 wd6 v6 hp6 hv6 => ?_))
  refine w_heq (hUs_in nd rfl [0, 1] (cs2 := [(oC 10 (mF m th tr wa tp (nI E) sp6 fa6 fl6 tk6 ta6 sg6 nu6 wd6 lo wv rl rw ht sd ah cl)), (aI 600 gt), (aI 8 fp), (aI 64 fk), (aI 64 fx), (aI 64 fy), (aI 64 fc)]) rfl rfl) ?_
  refine w_istore (ls2 := [some (.ref m), some (.int (nI l)), some (.int (isS (.inl x) [104, 111, 108, 100] 4)), some (.int (isS (.inl x) [114, 97, 109, 112] 4)), some (.int (nI ((8 * l) + W.2.2.2.2.1))), some (.int v2), some (.int v4), some (.int v6)]) dX10_readPiece_130 (by decide) rfl rfl ?_
  have hq7 := pc_swing (ft := ft) (x := x) (W := W) h8 h1 h2 h3
  rcases e7 : e6S ft (rwS ft 2 99 (ndS ft [101, 118, 101, 114, 121] 5 (riS ft (gS ft (.inl x))))) with y7 | b7
  · have hp9 := pR_q e7 hp6
    obtain ⟨y4, y5, g4, g5, g6⟩ := hq7.2 y7 e7
    refine w_aload_n dX10_readPiece_132 rfl ?_
    refine w_get (v := .int fa6) fX10_99 (hUs_at nd 0 rfl rfl) rfl dX10_readPiece_133 ?_
    refine w_if_le_t (tgt := 140) dX10_readPiece_136 rfl (by rw [hp9.1]; decide) ?_
    refine w_aload_n dX10_readPiece_140 rfl ?_
    refine w_get (v := .ref (m + 10)) fX10_43 (hUs_at nd 0 rfl rfl) rfl dX10_readPiece_141 ?_
    refine w_iload dX10_readPiece_144 rfl ?_
    refine w_iload_n dX10_readPiece_146 rfl ?_
    refine w_if_eq_t (tgt := 154) dX10_readPiece_147 rfl h1 ?_
    refine w_iload_n dX10_readPiece_154 rfl ?_
    refine w_if_eq_t (tgt := 162) dX10_readPiece_155 rfl h2 ?_
    refine w_iconst (v := 2) dX10_readPiece_162 (by decide) ?_
    refine w_iastoreN (hUs_at nd 3 rfl rfl) (by omega) (by omega) dX10_readPiece_163 ?_
    refine w_heq (hUs_set nd rfl 3 (cs' := [(oC 10 (mF m th tr wa tp (nI E) sp6 fa6 fl6 tk6 ta6 sg6 nu6 wd6 lo wv rl rw ht sd ah cl)), (aI 600 gt), (aI 8 fp), (aI 64 (upd fk ((8 * l) + W.2.2.2.2.1) 2)), (aI 64 fx), (aI 64 fy), (aI 64 fc)]) rfl rfl) ?_
    refine w_aload_n dX10_readPiece_164 rfl ?_
    refine w_get (v := .ref (m + 11)) fX10_46 (hUs_at nd 0 rfl rfl) rfl dX10_readPiece_165 ?_
    refine w_iload dX10_readPiece_168 rfl ?_
    refine w_iload dX10_readPiece_170 rfl ?_
    refine w_iastoreN (hUs_at nd 4 rfl rfl) (by omega) (by omega) dX10_readPiece_172 ?_
    refine w_heq (hUs_set nd rfl 4 (cs' := [(oC 10 (mF m th tr wa tp (nI E) sp6 fa6 fl6 tk6 ta6 sg6 nu6 wd6 lo wv rl rw ht sd ah cl)), (aI 600 gt), (aI 8 fp), (aI 64 (upd fk ((8 * l) + W.2.2.2.2.1) 2)), (aI 64 (upd fx ((8 * l) + W.2.2.2.2.1) v2)), (aI 64 fy), (aI 64 fc)]) rfl rfl) ?_
    refine w_aload_n dX10_readPiece_173 rfl ?_
    refine w_get (v := .ref (m + 12)) fX10_49 (hUs_at nd 0 rfl rfl) rfl dX10_readPiece_174 ?_
    refine w_iload dX10_readPiece_177 rfl ?_
    refine w_iload dX10_readPiece_179 rfl ?_
    refine w_iastoreN (hUs_at nd 5 rfl rfl) (by omega) (by omega) dX10_readPiece_181 ?_
    refine w_heq (hUs_set nd rfl 5 (cs' := [(oC 10 (mF m th tr wa tp (nI E) sp6 fa6 fl6 tk6 ta6 sg6 nu6 wd6 lo wv rl rw ht sd ah cl)), (aI 600 gt), (aI 8 fp), (aI 64 (upd fk ((8 * l) + W.2.2.2.2.1) 2)), (aI 64 (upd fx ((8 * l) + W.2.2.2.2.1) v2)), (aI 64 (upd fy ((8 * l) + W.2.2.2.2.1) v4)), (aI 64 fc)]) rfl rfl) ?_
    refine w_aload_n dX10_readPiece_182 rfl ?_
    refine w_get (v := .ref (m + 13)) fX10_52 (hUs_at nd 0 rfl rfl) rfl dX10_readPiece_183 ?_
    refine w_iload dX10_readPiece_186 rfl ?_
    refine w_iload dX10_readPiece_188 rfl ?_
    refine w_iastoreN (hUs_at nd 6 rfl rfl) (by omega) (by omega) dX10_readPiece_190 ?_
    refine w_heq (hUs_set nd rfl 6 (cs' := [(oC 10 (mF m th tr wa tp (nI E) sp6 fa6 fl6 tk6 ta6 sg6 nu6 wd6 lo wv rl rw ht sd ah cl)), (aI 600 gt), (aI 8 fp), (aI 64 (upd fk ((8 * l) + W.2.2.2.2.1) 2)), (aI 64 (upd fx ((8 * l) + W.2.2.2.2.1) v2)), (aI 64 (upd fy ((8 * l) + W.2.2.2.2.1) v4)), (aI 64 (upd fc ((8 * l) + W.2.2.2.2.1) v6))]) rfl rfl) ?_
    refine w_aload_n dX10_readPiece_191 rfl ?_
    refine w_get (v := .ref (m + 8)) fX10_36 (hUs_at nd 0 rfl rfl) rfl dX10_readPiece_192 ?_
    refine w_iload_n dX10_readPiece_195 rfl ?_
    refine w_dup2_11 dX10_readPiece_196 rfl rfl ?_
    refine w_ialoadN (hUs_at nd 2 rfl rfl) (by omega) (by omega) dX10_readPiece_197 ?_
    refine w_top (z := nI W.2.2.2.2.1) hfp ?_
    refine w_iconst (v := 1) dX10_readPiece_198 (by decide) ?_
    refine w_iaddE (z := nI (W.2.2.2.2.1 + 1)) dX10_readPiece_199 (nI_add (W.2.2.2.2.1) (1)) ?_
    refine w_iastoreN (hUs_at nd 2 rfl rfl) (by omega) (by omega) dX10_readPiece_200 ?_
    refine w_heq (hUs_set nd rfl 2 (cs' := [(oC 10 (mF m th tr wa tp (nI E) sp6 fa6 fl6 tk6 ta6 sg6 nu6 wd6 lo wv rl rw ht sd ah cl)), (aI 600 gt), (aI 8 (upd fp l (nI (W.2.2.2.2.1 + 1)))), (aI 64 (upd fk ((8 * l) + W.2.2.2.2.1) 2)), (aI 64 (upd fx ((8 * l) + W.2.2.2.2.1) v2)), (aI 64 (upd fy ((8 * l) + W.2.2.2.2.1) v4)), (aI 64 (upd fc ((8 * l) + W.2.2.2.2.1) v6))]) rfl rfl) ?_
    refine w_return rfl dX10_readPiece_201 (Nat.le_of_ble_eq_true rfl) (Nat.le_of_ble_eq_true rfl) ?_
    refine k _ _ _ _ _ _ _ _ _ _ _ _ _ (by rw [← hq7.1, e7]; exact hp9) (frO_u frO_r) (fun j hj => ⟨pk_un (by omega), pk_un (by omega), pk_un (by omega), pk_un (by omega)⟩) (fun _ => ?_)
    rw [g6]
    refine ⟨pk_us, wAt_px hAt (fun j hj => pk_un hj) (fun j hj => pk_un hj) (fun j hj => pk_un hj) (fun j hj => pk_un hj) pk_us (pk_us.trans (hv2 y4 g4)) (fun _ => pk_us.trans (hv4 y5 (by rw [g4]; exact g5))) (pk_us.trans (hv6 y7 e7)), wGs_px hG (by omega) (rw_rng e7) (ri_rng g4) (Or.inr (Or.inr ⟨rfl, by
        have r9 := rw_rng g5
        obtain ⟨b, hb, e⟩ := in2 (m := 99) (fun y => absurd (Int32.lt_of_lt_of_le y (by decide)) (Int32.not_lt.mpr r9.1)) r9.2 (by decide)
        exact ⟨b, (nI_leI (a := 2) (by decide) (by omega)).mp (e ▸ r9.1), hb, e⟩⟩))⟩
  · have hp9 := pR_q e7 hp6
    refine w_aload_n dX10_readPiece_132 rfl ?_
    refine w_get (v := .int fa6) fX10_99 (hUs_at nd 0 rfl rfl) rfl dX10_readPiece_133 ?_
    refine w_if_le_f (tgt := 140) dX10_readPiece_136 rfl (fun z => absurd hp9.2.1 (by rw [← hp9.1]; exact Int32.not_lt.mpr z)) ?_
    refine w_return rfl dX10_readPiece_139 (Nat.le_of_ble_eq_true rfl) (Nat.le_of_ble_eq_true rfl) ?_
    exact k _ _ _ _ _ _ _ _ _ _ _ _ _ (by rw [← hq7.1, e7]; exact hp9) frO_r (fun _ _ => ⟨rfl, rfl, rfl, rfl⟩) (fun z => absurd (rcS_r (hq7.1.symm.trans e7)).1 z)
theorem m_readPiece {G : wG} {d : Nat} {h : hH} {Q : Option Value → hH → Prop} {m : Nat} {th tr wa tp sp fa fl tk ta sg nu : Int32} {wd : Int64} {lo wv rl rw ht sd ah cl : Int32} {ft gt : Nat → Int32} {E : Nat} {fp : Nat → Int32} {fk : Nat → Int32} {fx : Nat → Int32} {fy : Nat → Int32} {fc : Nat → Int32} {l : Nat} {x : rD} {W : wP} (hw : hHas h [m, m + 1, m + 8, m + 10, m + 11, m + 12, m + 13] [(oC 10 (mF m th tr wa tp (nI E) sp fa fl tk ta sg nu wd lo wv rl rw ht sd ah cl)), (aI 600 gt), (aI 8 fp), (aI 64 fk), (aI 64 fx), (aI 64 fy), (aI 64 fc)]) (nd : [m, m + 1, m + 8, m + 10, m + 11, m + 12, m + 13].Nodup) (hE : E ≤ 600) (hT : mT E ft gt) (hl : l < 8) (hfp : fp l = nI W.2.2.2.2.1) (hAt : wAt W (8 * l) fk fx fy fc) (hG : wGs W) (hp : pR (.inl x) E sp fa fl tk ta sg nu wd) (k : ∀ (sp fa fl tk ta sg nu : Int32) (wd : Int64) (gp gk gx gy gc : Nat → Int32), pR (rcS ((rPc ft x W).1, (rPc ft x W).2.1)) E sp fa fl tk ta sg nu wd → frO l fp gp → (∀ j, (j < 8 * l ∨ 8 * l + 8 ≤ j) → gk j = fk j ∧ gx j = fx j ∧ gy j = fy j ∧ gc j = fc j) → (¬ (rPc ft x W).1 = 0 → gp l = nI (rPc ft x W).2.2.2.2.2.2.1 ∧ wAt (rPc ft x W).2.2 (8 * l) gk gx gy gc ∧ wGs (rPc ft x W).2.2) → Q none (hUs h [m, m + 1, m + 8, m + 10, m + 11, m + 12, m + 13] [(oC 10 (mF m th tr wa tp (nI E) sp fa fl tk ta sg nu wd lo wv rl rw ht sd ah cl)), (aI 600 gt), (aI 8 gp), (aI 64 gk), (aI 64 gx), (aI 64 gy), (aI 64 gc)])) : Cl G yX10_readPiece (d + 9) 0 0 [.ref m, .int (nI l)] h Q := by
  by_cases h1 : isW x.2.2.1 x.2.2.2.2.1 [104, 111, 108, 100] 4 = 0
  · by_cases h2 : isW x.2.2.1 x.2.2.2.2.1 [114, 97, 109, 112] 4 = 0
    · by_cases h3 : isW x.2.2.1 x.2.2.2.2.1 [115, 119, 105, 110, 103] 5 = 0
      · exact m_piece0 hw nd hE hT hl hfp hAt hG h1 h2 h3 hp k
      · by_cases h8 : W.2.2.2.2.1 = 8
        · exact m_piece8_swing hw nd hE hT hl hfp hAt hG h1 h2 h3 h8 hp k
        · exact m_piece_swing hw nd hE hT hl hfp hAt hG h1 h2 h3 (by have := hG.1; omega) hp k
    · by_cases h8 : W.2.2.2.2.1 = 8
      · exact m_piece8_ramp hw nd hE hT hl hfp hAt hG h1 h2 h8 hp k
      · exact m_piece_ramp hw nd hE hT hl hfp hAt hG h1 h2 (by have := hG.1; omega) hp k
  · by_cases h8 : W.2.2.2.2.1 = 8
    · exact m_piece8_hold hw nd hE hT hl hfp hAt hG h1 h8 hp k
    · exact m_piece_hold hw nd hE hT hl hfp hAt hG h1 (by have := hG.1; omega) hp k
