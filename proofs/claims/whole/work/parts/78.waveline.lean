set_option maxRecDepth 100000 in
set_option maxHeartbeats 4000000 in
theorem m_readWave {G : wG} {d : Nat} {h : hH} {Q : Option Value → hH → Prop} {m : Nat} {th tr wa tp sp fa fl tk ta sg nu : Int32} {wd : Int64} {lo wv ht sd ah cl : Int32} {ft gt : Nat → Int32} {E : Nat} {ln : Nat → Int64} {wn : Nat → Int64} {fp : Nat → Int32} {fk : Nat → Int32} {fx : Nat → Int32} {fy : Nat → Int32} {fc : Nat → Int32} {x : rD} {P : pD} (hw : hHas h [m, m + 1, m + 2, m + 3, m + 8, m + 10, m + 11, m + 12, m + 13] [(oC 10 (mF m th tr wa tp (nI E) sp fa fl tk ta sg nu wd lo wv (nI P.1) (nI P.2.1) ht sd ah cl)), (aI 600 gt), (aL 8 ln), (aL 8 wn), (aI 8 fp), (aI 64 fk), (aI 64 fx), (aI 64 fy), (aI 64 fc)]) (nd : [m, m + 1, m + 2, m + 3, m + 8, m + 10, m + 11, m + 12, m + 13].Nodup) (hE : E ≤ 600) (hT : mT E ft gt) (hS : nmS P ln wn) (h4 : P.2.1 < 4) (hp : pR (.inl x) E sp fa fl tk ta sg nu wd) (k : ∀ (sp fa fl tk ta sg nu : Int32) (wd : Int64) (rw : Int32) (wn9 : Nat → Int64) (gp gk gx gy gc : Nat → Int32), pR (rcS ((rWv ft x P).1, (rWv ft x P).2.1)) E sp fa fl tk ta sg nu wd → frO (4 + P.2.1) wn wn9 → frO (4 + P.2.1) fp gp → fr4 (4 + P.2.1) fk fx fy fc gk gx gy gc → (¬ (rWv ft x P).1 = 0 → rw = nI (P.2.1 + 1) ∧ mWv ((rWv ft x P).2.2.2.2.2 P.2.1) (4 + P.2.1) wn9 gp gk gx gy gc ∧ wGd ((rWv ft x P).2.2.2.2.2 P.2.1).2 ∧ nmOk ((rWv ft x P).2.2.2.2.2 P.2.1).1) → Q none (hUs h [m, m + 1, m + 2, m + 3, m + 8, m + 10, m + 11, m + 12, m + 13] [(oC 10 (mF m th tr wa tp (nI E) sp fa fl tk ta sg nu wd lo wv (nI P.1) rw ht sd ah cl)), (aI 600 gt), (aL 8 ln), (aL 8 wn9), (aI 8 gp), (aI 64 gk), (aI 64 gx), (aI 64 gy), (aI 64 gc)])) : Cl G yX10_readWave (d + 10) 0 0 [.ref m] h Q := by
  have hw4 : P.1 ≤ 4 := hS.1.1
  refine Cl.of (ini := false) kX10_readWave (plainFor_of_name (by decide)) (by decide) (Nat.le_of_ble_eq_true rfl) rfl rfl (fun z => by cases z) ?_
  refine w_heq (hUs_id hw).symm ?_
  refine w_aload_n dX10_readWave_0 rfl ?_
  refine w_get (v := .int (nI P.2.1)) fX10_202 (hUs_at nd 0 rfl rfl) rfl dX10_readWave_1 ?_
  refine w_iconst (v := 4) dX10_readWave_4 (by decide) ?_
  refine w_icmp_ne_t (tgt := 13) dX10_readWave_5 rfl (fun z => absurd ((nI_eq (a := P.2.1) (b := 4) (by omega) (by omega)).mp z) (by omega)) ?_
  refine w_aload_n dX10_readWave_13 rfl ?_
  refine w_callV (ci := 10) (d' := d + 9) (mc' := 0) (ms' := 0) (As := []) (st := []) lX10_164 vX10_goOn rfl (hUs_at nd 0 rfl rfl) rfl (Nat.le_of_ble_eq_true rfl) dX10_readWave_14 (Nat.le_of_ble_eq_true rfl) (Nat.le_of_ble_eq_true rfl) (Nat.le_refl _) (m_goOn (s := (.inl x)) (hHas_sub nd (as' := [m, m + 1]) (cs' := [(oC 10 (mF m th tr wa tp (nI E) sp fa fl tk ta sg nu wd lo wv (nI P.1) (nI P.2.1) ht sd ah cl)), (aI 600 gt)]) [0, 1] rfl rfl) (nd_sub nd (as' := [m, m + 1]) [0, 1] rfl rfl) hE hT hp (fun sp1 fa1 fl1 tk1 ta1 sg1 nu1 wd1 hp1 => ?_))
  refine w_heq (hUs_in nd rfl [0, 1] (cs2 := [(oC 10 (mF m th tr wa tp (nI E) sp1 fa1 fl1 tk1 ta1 sg1 nu1 wd1 lo wv (nI P.1) (nI P.2.1) ht sd ah cl)), (aI 600 gt), (aL 8 ln), (aL 8 wn), (aI 8 fp), (aI 64 fk), (aI 64 fx), (aI 64 fy), (aI 64 fc)]) rfl rfl) ?_
  refine w_aload_n dX10_readWave_17 rfl ?_
  refine w_callV (ci := 10) (d' := d + 9) (mc' := 0) (ms' := 0) (As := []) (st := []) lX10_205 vX10_readNew rfl (hUs_at nd 0 rfl rfl) rfl (Nat.le_of_ble_eq_true rfl) dX10_readWave_18 (Nat.le_of_ble_eq_true rfl) (Nat.le_of_ble_eq_true rfl) (Nat.le_refl _) (m_readNew (s := (gS ft (.inl x))) (P9 := (pW1 P)) (hHas_sub nd (as' := [m, m + 1, m + 2, m + 3]) (cs' := [(oC 10 (mF m th tr wa tp (nI E) sp1 fa1 fl1 tk1 ta1 sg1 nu1 wd1 lo wv (nI P.1) (nI P.2.1) ht sd ah cl)), (aI 600 gt), (aL 8 ln), (aL 8 wn)]) [0, 1, 2, 3] rfl rfl) (nd_sub nd (as' := [m, m + 1, m + 2, m + 3]) [0, 1, 2, 3] rfl rfl) hE hT (by omega) (by omega) (hNm_W hS h4) hp1 (fun sp2 fa2 fl2 tk2 ta2 sg2 nu2 wd2 v2 hp2 hv2 => ?_))
  refine w_heq (hUs_in nd rfl [0, 1, 2, 3] (cs2 := [(oC 10 (mF m th tr wa tp (nI E) sp2 fa2 fl2 tk2 ta2 sg2 nu2 wd2 lo wv (nI P.1) (nI P.2.1) ht sd ah cl)), (aI 600 gt), (aL 8 ln), (aL 8 wn), (aI 8 fp), (aI 64 fk), (aI 64 fx), (aI 64 fy), (aI 64 fc)]) rfl rfl) ?_
  refine w_lstore_n (ls2 := [some (.ref m), some (.long v2), none, none]) dX10_readWave_21 (by decide) rfl rfl ?_
  rcases e4 : (nwS ft (pW1 P) (gS ft (.inl x))) with y4 | b4
  · have hp2q := pR_q e4 hp2
    have hnm := hv2 y4 e4
    refine w_aload_n dX10_readWave_22 rfl ?_
    refine w_get (v := .int fa2) fX10_99 (hUs_at nd 0 rfl rfl) rfl dX10_readWave_23 ?_
    refine w_if_le_t (tgt := 30) dX10_readWave_26 rfl (by rw [hp2q.1]; decide) ?_
    refine w_iconst (v := 4) dX10_readWave_30 (by decide) ?_
    refine w_aload_n dX10_readWave_31 rfl ?_
    refine w_get (v := .int (nI P.2.1)) fX10_202 (hUs_at nd 0 rfl rfl) rfl dX10_readWave_32 ?_
    refine w_iaddE (z := nI (4 + P.2.1)) dX10_readWave_35 (nI_add (4) (P.2.1)) ?_
    refine w_istore_n (ls2 := [some (.ref m), some (.long v2), none, some (.int (nI (4 + P.2.1)))]) dX10_readWave_36 (by decide) rfl rfl ?_
    refine w_aload_n dX10_readWave_37 rfl ?_
    refine w_get (v := .ref (m + 8)) fX10_36 (hUs_at nd 0 rfl rfl) rfl dX10_readWave_38 ?_
    refine w_iload_n dX10_readWave_41 rfl ?_
    refine w_iconst (v := 0) dX10_readWave_42 (by decide) ?_
    refine w_iastoreN (hUs_at nd 4 rfl rfl) (by omega) (by omega) dX10_readWave_43 ?_
    refine w_heq (hUs_set nd rfl 4 (cs' := [(oC 10 (mF m th tr wa tp (nI E) sp2 fa2 fl2 tk2 ta2 sg2 nu2 wd2 lo wv (nI P.1) (nI P.2.1) ht sd ah cl)), (aI 600 gt), (aL 8 ln), (aL 8 wn), (aI 8 (upd fp (4 + P.2.1) 0)), (aI 64 fk), (aI 64 fx), (aI 64 fy), (aI 64 fc)]) rfl rfl) ?_
    refine w_aload_n dX10_readWave_44 rfl ?_
    refine w_iload_n dX10_readWave_45 rfl ?_
    refine w_callV (ci := 10) (d' := d + 9) (mc' := 0) (ms' := 0) (As := [.int (nI (4 + P.2.1))]) (st := []) lX10_219 vX10_readPiece rfl (hUs_at nd 0 rfl rfl) rfl (Nat.le_of_ble_eq_true rfl) dX10_readWave_46 (Nat.le_of_ble_eq_true rfl) (Nat.le_of_ble_eq_true rfl) (Nat.le_refl _) (m_readPiece (l := (4 + P.2.1)) (x := y4) (W := (wvC (P.2.2.2 P.2.1).2)) (hHas_sub nd (as' := [m, m + 1, m + 8, m + 10, m + 11, m + 12, m + 13]) (cs' := [(oC 10 (mF m th tr wa tp (nI E) sp2 fa2 fl2 tk2 ta2 sg2 nu2 wd2 lo wv (nI P.1) (nI P.2.1) ht sd ah cl)), (aI 600 gt), (aI 8 (upd fp (4 + P.2.1) 0)), (aI 64 fk), (aI 64 fx), (aI 64 fy), (aI 64 fc)]) [0, 1, 4, 5, 6, 7, 8] rfl rfl) (nd_sub nd (as' := [m, m + 1, m + 8, m + 10, m + 11, m + 12, m + 13]) [0, 1, 4, 5, 6, 7, 8] rfl rfl) hE hT (by omega) pk_us (fun p hp => absurd hp (Nat.not_lt_zero p)) (wGs_0 _) hp2q (fun sp3 fa3 fl3 tk3 ta3 sg3 nu3 wd3 gp3 gk3 gx3 gy3 gc3 hp3 hfp3 hfk3 hgd3 => ?_))
    refine w_heq (hUs_in nd rfl [0, 1, 4, 5, 6, 7, 8] (cs2 := [(oC 10 (mF m th tr wa tp (nI E) sp3 fa3 fl3 tk3 ta3 sg3 nu3 wd3 lo wv (nI P.1) (nI P.2.1) ht sd ah cl)), (aI 600 gt), (aL 8 ln), (aL 8 wn), (aI 8 gp3), (aI 64 gk3), (aI 64 gx3), (aI 64 gy3), (aI 64 gc3)]) rfl rfl) ?_
    obtain ⟨T9, hT9⟩ : ∃ T, rPc ft y4 (wvC (P.2.2.2 P.2.1).2) = T := ⟨_, rfl⟩
    have hpn : ¬ T9.1 = 0 → T9.2.2.2.2.2.2.1 = 1 := fun z => by
      rw [← hT9] at z ⊢; exact rPc_n z
    rw [hT9] at hp3 hgd3
    obtain ⟨R9, hR9⟩ : ∃ R, rWvL ft 9 T9.1 T9.2.1 T9.2.2 = R := ⟨_, rfl⟩
    refine l_wav (fp := fp) (fk := fk) (fx := fx) (fy := fy) (fc := fc) (l := (4 + P.2.1)) (R9 := R9) nd hE hT (by omega) (fun sp4 fa4 fl4 tk4 ta4 sg4 nu4 wd4 gp4 gk4 gx4 gy4 gc4 hp4 hf1 hf2 hgd4 hone => ?_) 9 T9 _ _ _ _ _ _ _ _ _ _ _ _ _ (fun z => ⟨by rw [hpn z]; exact Nat.le_refl _, by rw [hpn z]⟩) hp3 (frO_t (frO_u frO_r) hfp3) hfk3 hgd3 hR9
    have hD := wv_l h4 e4 hT9 hR9
    rcases e5 : rcS (R9.1, R9.2.1) with y5 | b5
    · have hp4q := pR_q e5 hp4
      have hn5 : ¬ R9.1 = 0 := (rcS_l e5).1
      refine w_aload_n dX10_readWave_70 rfl ?_
      refine w_get (v := .int fa4) fX10_99 (hUs_at nd 0 rfl rfl) rfl dX10_readWave_71 ?_
      refine w_if_le_t (tgt := 78) dX10_readWave_74 rfl (by rw [hp4q.1]; decide) ?_
      refine w_aload_n dX10_readWave_78 rfl ?_
      refine w_get (v := .ref (m + 3)) fX10_21 (hUs_at nd 0 rfl rfl) rfl dX10_readWave_79 ?_
      refine w_iload_n dX10_readWave_82 rfl ?_
      refine w_lload_n dX10_readWave_83 rfl ?_
      refine w_lastoreN (hUs_at nd 3 rfl rfl) (by omega) (by omega) dX10_readWave_84 ?_
      refine w_heq (hUs_set nd rfl 3 (cs' := [(oC 10 (mF m th tr wa tp (nI E) sp4 fa4 fl4 tk4 ta4 sg4 nu4 wd4 lo wv (nI P.1) (nI P.2.1) ht sd ah cl)), (aI 600 gt), (aL 8 ln), (aL 8 (vp_updL wn (4 + P.2.1) v2)), (aI 8 gp4), (aI 64 gk4), (aI 64 gx4), (aI 64 gy4), (aI 64 gc4)]) rfl rfl) ?_
      refine w_aload_n dX10_readWave_85 rfl ?_
      refine w_dup dX10_readWave_86 rfl ?_
      refine w_get (v := .int (nI P.2.1)) fX10_202 (hUs_at nd 0 rfl rfl) rfl dX10_readWave_87 ?_
      refine w_iconst (v := 1) dX10_readWave_90 (by decide) ?_
      refine w_iaddE (z := nI (P.2.1 + 1)) dX10_readWave_91 (nI_add (P.2.1) (1)) ?_
      refine w_put (fs' := (mF m th tr wa tp (nI E) sp4 fa4 fl4 tk4 ta4 sg4 nu4 wd4 lo wv (nI P.1) (nI (P.2.1 + 1)) ht sd ah cl)) fX10_202 (hUs_at nd 0 rfl rfl) rfl rfl (Nat.le_of_ble_eq_true rfl) rfl dX10_readWave_92 ?_
      refine w_heq (hUs_set nd rfl 0 (cs' := [(oC 10 (mF m th tr wa tp (nI E) sp4 fa4 fl4 tk4 ta4 sg4 nu4 wd4 lo wv (nI P.1) (nI (P.2.1 + 1)) ht sd ah cl)), (aI 600 gt), (aL 8 ln), (aL 8 (vp_updL wn (4 + P.2.1) v2)), (aI 8 gp4), (aI 64 gk4), (aI 64 gx4), (aI 64 gy4), (aI 64 gc4)]) rfl rfl) ?_
      refine w_return rfl dX10_readWave_95 (Nat.le_of_ble_eq_true rfl) (Nat.le_of_ble_eq_true rfl) ?_
      refine k _ _ _ _ _ _ _ _ _ _ _ _ _ _ _ (by rw [hD]; show pR (rcS (R9.1, R9.2.1)) _ _ _ _ _ _ _ _ _; rw [e5]; exact hp4q) (fun j hj => pk_uLn hj) hf1 hf2 (fun _ => ?_)
      rw [hD]
      show _ ∧ mWv (updD P.2.2.2 P.2.1 (y4.2.2.2.2.2.1, R9.2.2) P.2.1) _ _ _ _ _ _ _ ∧ wGd (updD P.2.2.2 P.2.1 (y4.2.2.2.2.2.1, R9.2.2) P.2.1).2 ∧ nmOk (updD P.2.2.2 P.2.1 (y4.2.2.2.2.2.1, R9.2.2) P.2.1).1
      rw [updD, if_pos rfl]
      have hg5 := hgd4 hn5
      exact ⟨rfl, ⟨hg5.1, hg5.2.1, pk_uLs.trans hnm.2⟩, wGs_g hg5.2.2 (hone hn5), hnm.1⟩
    · have hp4q := pR_q e5 hp4
      refine w_aload_n dX10_readWave_70 rfl ?_
      refine w_get (v := .int fa4) fX10_99 (hUs_at nd 0 rfl rfl) rfl dX10_readWave_71 ?_
      refine w_if_le_f (tgt := 78) dX10_readWave_74 rfl (fun z => absurd hp4q.2.1 (by rw [← hp4q.1]; exact Int32.not_lt.mpr z)) ?_
      refine w_return rfl dX10_readWave_77 (Nat.le_of_ble_eq_true rfl) (Nat.le_of_ble_eq_true rfl) ?_
      exact k _ _ _ _ _ _ _ _ _ _ _ _ _ _ _ (by rw [hD]; show pR (rcS (R9.1, R9.2.1)) _ _ _ _ _ _ _ _ _; rw [e5]; exact hp4q) frO_r hf1 hf2 (fun z => absurd (show (rWv ft x P).1 = 0 by rw [hD]; exact (rcS_r e5).1) z)
  · have hp2q := pR_q e4 hp2
    refine w_aload_n dX10_readWave_22 rfl ?_
    refine w_get (v := .int fa2) fX10_99 (hUs_at nd 0 rfl rfl) rfl dX10_readWave_23 ?_
    refine w_if_le_f (tgt := 30) dX10_readWave_26 rfl (fun z => absurd hp2q.2.1 (by rw [← hp2q.1]; exact Int32.not_lt.mpr z)) ?_
    refine w_return rfl dX10_readWave_29 (Nat.le_of_ble_eq_true rfl) (Nat.le_of_ble_eq_true rfl) ?_
    exact k _ _ _ _ _ _ _ _ _ _ _ _ _ _ _ (by rw [wv_r h4 e4]; exact hp2q) frO_r frO_r (fun _ _ => ⟨rfl, rfl, rfl, rfl⟩) (fun z => absurd ((rcS_r (wv_r h4 e4)).1) z)
set_option maxRecDepth 100000 in
set_option maxHeartbeats 4000000 in
theorem m_readWave4 {G : wG} {d : Nat} {h : hH} {Q : Option Value → hH → Prop} {m : Nat} {th tr wa tp sp fa fl tk ta sg nu : Int32} {wd : Int64} {lo wv ht sd ah cl : Int32} {ft gt : Nat → Int32} {E : Nat} {ln : Nat → Int64} {wn : Nat → Int64} {fp : Nat → Int32} {fk : Nat → Int32} {fx : Nat → Int32} {fy : Nat → Int32} {fc : Nat → Int32} {x : rD} {P : pD} (hw : hHas h [m, m + 1, m + 2, m + 3, m + 8, m + 10, m + 11, m + 12, m + 13] [(oC 10 (mF m th tr wa tp (nI E) sp fa fl tk ta sg nu wd lo wv (nI P.1) (nI P.2.1) ht sd ah cl)), (aI 600 gt), (aL 8 ln), (aL 8 wn), (aI 8 fp), (aI 64 fk), (aI 64 fx), (aI 64 fy), (aI 64 fc)]) (nd : [m, m + 1, m + 2, m + 3, m + 8, m + 10, m + 11, m + 12, m + 13].Nodup) (hE : E ≤ 600) (hT : mT E ft gt) (hS : nmS P ln wn) (h4 : P.2.1 = 4) (hp : pR (.inl x) E sp fa fl tk ta sg nu wd) (k : ∀ (sp fa fl tk ta sg nu : Int32) (wd : Int64), pR (rcS ((rWv ft x P).1, (rWv ft x P).2.1)) E sp fa fl tk ta sg nu wd → Q none (hUs h [m, m + 1, m + 2, m + 3, m + 8, m + 10, m + 11, m + 12, m + 13] [(oC 10 (mF m th tr wa tp (nI E) sp fa fl tk ta sg nu wd lo wv (nI P.1) (nI P.2.1) ht sd ah cl)), (aI 600 gt), (aL 8 ln), (aL 8 wn), (aI 8 fp), (aI 64 fk), (aI 64 fx), (aI 64 fy), (aI 64 fc)])) : Cl G yX10_readWave (d + 10) 0 0 [.ref m] h Q := by
  have hw4 : P.1 ≤ 4 := hS.1.1
  refine Cl.of (ini := false) kX10_readWave (plainFor_of_name (by decide)) (by decide) (Nat.le_of_ble_eq_true rfl) rfl rfl (fun z => by cases z) ?_
  refine w_heq (hUs_id hw).symm ?_
  refine w_aload_n dX10_readWave_0 rfl ?_
  refine w_get (v := .int (nI P.2.1)) fX10_202 (hUs_at nd 0 rfl rfl) rfl dX10_readWave_1 ?_
  refine w_iconst (v := 4) dX10_readWave_4 (by decide) ?_
  refine w_icmp_ne_f (tgt := 13) dX10_readWave_5 rfl ((nI_eq (a := P.2.1) (b := 4) (by omega) (by omega)).mpr (by omega)) ?_
  refine w_aload_n dX10_readWave_8 rfl ?_
  refine w_iconst (v := 4) dX10_readWave_9 (by decide) ?_
  refine w_callV (ci := 10) (d' := d + 9) (mc' := 0) (ms' := 0) (As := [.int 4]) (st := []) lX10_160 vX10_flaw rfl (hUs_at nd 0 rfl rfl) rfl (Nat.le_of_ble_eq_true rfl) dX10_readWave_10 (Nat.le_of_ble_eq_true rfl) (Nat.le_of_ble_eq_true rfl) (Nat.le_refl _) (m_flaw (s := (.inl x)) (hHas_sub nd (as' := [m]) (cs' := [(oC 10 (mF m th tr wa tp (nI E) sp fa fl tk ta sg nu wd lo wv (nI P.1) (nI P.2.1) ht sd ah cl))]) [0] rfl rfl) (nd_sub nd (as' := [m]) [0] rfl rfl) (by decide) hp (fun fa1 fl1 hp1 => ?_))
  refine w_heq (hUs_in nd rfl [0] (cs2 := [(oC 10 (mF m th tr wa tp (nI E) sp fa1 fl1 tk ta sg nu wd lo wv (nI P.1) (nI P.2.1) ht sd ah cl)), (aI 600 gt), (aL 8 ln), (aL 8 wn), (aI 8 fp), (aI 64 fk), (aI 64 fx), (aI 64 fy), (aI 64 fc)]) rfl rfl) ?_
  refine w_aload_n dX10_readWave_13 rfl ?_
  refine w_callV (ci := 10) (d' := d + 9) (mc' := 0) (ms' := 0) (As := []) (st := []) lX10_164 vX10_goOn rfl (hUs_at nd 0 rfl rfl) rfl (Nat.le_of_ble_eq_true rfl) dX10_readWave_14 (Nat.le_of_ble_eq_true rfl) (Nat.le_of_ble_eq_true rfl) (Nat.le_refl _) (m_goOn (s := (flS 4 (.inl x))) (hHas_sub nd (as' := [m, m + 1]) (cs' := [(oC 10 (mF m th tr wa tp (nI E) sp fa1 fl1 tk ta sg nu wd lo wv (nI P.1) (nI P.2.1) ht sd ah cl)), (aI 600 gt)]) [0, 1] rfl rfl) (nd_sub nd (as' := [m, m + 1]) [0, 1] rfl rfl) hE hT hp1 (fun sp2 fa2 fl2 tk2 ta2 sg2 nu2 wd2 hp2 => ?_))
  refine w_heq (hUs_in nd rfl [0, 1] (cs2 := [(oC 10 (mF m th tr wa tp (nI E) sp2 fa2 fl2 tk2 ta2 sg2 nu2 wd2 lo wv (nI P.1) (nI P.2.1) ht sd ah cl)), (aI 600 gt), (aL 8 ln), (aL 8 wn), (aI 8 fp), (aI 64 fk), (aI 64 fx), (aI 64 fy), (aI 64 fc)]) rfl rfl) ?_
  refine w_aload_n dX10_readWave_17 rfl ?_
  refine w_callV (ci := 10) (d' := d + 9) (mc' := 0) (ms' := 0) (As := []) (st := []) lX10_205 vX10_readNew rfl (hUs_at nd 0 rfl rfl) rfl (Nat.le_of_ble_eq_true rfl) dX10_readWave_18 (Nat.le_of_ble_eq_true rfl) (Nat.le_of_ble_eq_true rfl) (Nat.le_refl _) (m_readNew (s := (gS ft (flS 4 (.inl x)))) (P9 := P) (hHas_sub nd (as' := [m, m + 1, m + 2, m + 3]) (cs' := [(oC 10 (mF m th tr wa tp (nI E) sp2 fa2 fl2 tk2 ta2 sg2 nu2 wd2 lo wv (nI P.1) (nI P.2.1) ht sd ah cl)), (aI 600 gt), (aL 8 ln), (aL 8 wn)]) [0, 1, 2, 3] rfl rfl) (nd_sub nd (as' := [m, m + 1, m + 2, m + 3]) [0, 1, 2, 3] rfl rfl) hE hT (by omega) (by omega) (hNm_P hS) hp2 (fun sp3 fa3 fl3 tk3 ta3 sg3 nu3 wd3 v3 hp3 hv3 => ?_))
  refine w_heq (hUs_in nd rfl [0, 1, 2, 3] (cs2 := [(oC 10 (mF m th tr wa tp (nI E) sp3 fa3 fl3 tk3 ta3 sg3 nu3 wd3 lo wv (nI P.1) (nI P.2.1) ht sd ah cl)), (aI 600 gt), (aL 8 ln), (aL 8 wn), (aI 8 fp), (aI 64 fk), (aI 64 fx), (aI 64 fy), (aI 64 fc)]) rfl rfl) ?_
  refine w_lstore_n (ls2 := [some (.ref m), some (.long v3), none, none]) dX10_readWave_21 (by decide) rfl rfl ?_
  refine w_aload_n dX10_readWave_22 rfl ?_
  refine w_get (v := .int fa3) fX10_99 (hUs_at nd 0 rfl rfl) rfl dX10_readWave_23 ?_
  refine w_if_le_f (tgt := 30) dX10_readWave_26 rfl (fun z => absurd hp3.2.1 (by rw [← hp3.1]; exact Int32.not_lt.mpr z)) ?_
  refine w_return rfl dX10_readWave_29 (Nat.le_of_ble_eq_true rfl) (Nat.le_of_ble_eq_true rfl) ?_
  exact k _ _ _ _ _ _ _ _ (by rw [show (rWv ft x P) = (0, rFl x 4 (nI x.2.2.2.1), P) by rw [rWv, if_neg (by omega)]]; exact hp3)
