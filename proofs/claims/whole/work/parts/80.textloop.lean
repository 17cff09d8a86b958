/-- a text from behind a line on, and how it ends -/
def txT (ft : Nat → Int32) (n : Nat) (T : Int32 × rD × pD) : Int32 × rD × pD := if T.1 = 0 then (0, T.2.1, T.2.2) else if T.2.1.2.2.1 = 0 then (1, T.2.1, T.2.2) else if (rTM ft 59 T.2.1).1 = 0 then (0, (rTM ft 59 T.2.1).2, T.2.2) else rTx ft n (rTM ft 59 T.2.1).2 T.2.2
def exT (T : Int32 × rD × pD) : Int32 × rD × pD := if T.1 = 0 then (0, T.2.1, T.2.2) else if T.2.1.2.2.1 = 0 then (1, T.2.1, T.2.2) else (0, rFl T.2.1 1 (nI T.2.1.2.2.2.1), T.2.2)
theorem rTx_s {ft : Nat → Int32} {n : Nat} {x : rD} {P : pD} : rTx ft (n + 1) x P = txT ft n (rLn ft x P) := rfl
theorem tx_0 {ft : Nat → Int32} {T : Int32 × rD × pD} {n : Nat} (h : siS (rcS (T.1, T.2.1)) 59 = 0) : txT ft n T = exT T := by
  rw [txT, exT]
  by_cases e : T.1 = 0
  · rw [if_pos e, if_pos e]
  · rw [if_neg e, if_neg e]
    rw [show rcS (T.1, T.2.1) = .inl T.2.1 from rcS_1 e] at h
    have e2 : rTM ft 59 T.2.1 = (0, rFl T.2.1 1 (nI T.2.1.2.2.2.1)) := by rw [rTM, if_pos (show isM T.2.1.2.2.1 T.2.1.2.2.2.2.1 59 = 0 from h)]
    rw [e2, if_pos rfl]
theorem tx_1 {ft : Nat → Int32} {T : Int32 × rD × pD} (h : ¬ siS (rcS (T.1, T.2.1)) 59 = 0) : ¬ T.1 = 0 ∧ rcS (T.1, T.2.1) = .inl T.2.1 ∧ ∀ n, txT ft n T = rTx ft n (rStp ft T.2.1) T.2.2 := by
  by_cases e : T.1 = 0
  · rw [show rcS (T.1, T.2.1) = _ from rcS_0 e] at h; exact absurd rfl h
  · have e2 : rcS (T.1, T.2.1) = .inl T.2.1 := rcS_1 e
    rw [e2] at h
    have h2 : ¬ isM T.2.1.2.2.1 T.2.1.2.2.2.2.1 59 = 0 := h
    refine ⟨e, e2, fun n => ?_⟩
    have e3 : rTM ft 59 T.2.1 = (1, rStp ft T.2.1) := by rw [rTM, if_neg h2]
    have e4 : ¬ T.2.1.2.2.1 = 0 := fun z => h2 (by rw [isM, if_neg (fun y => by rw [z] at y; exact absurd y.1 (by decide))])
    rw [txT, if_neg e, if_neg e4, e3, if_neg (show ¬ (1 : Int32) = 0 by decide)]
set_option maxRecDepth 100000 in
set_option maxHeartbeats 4000000 in
theorem l_txt {G : wG} {d : Nat} {h : hH} {Q : Option Value → hH → Prop} {m : Nat} {th tr wa tp : Int32} {lo wv ht sd ah cl : Int32} {ft gt : Nat → Int32} {E : Nat} {ln : Nat → Int64} {wn : Nat → Int64} {fs : Nat → Int32} {ff : Nat → Int32} {fb : Nat → Int32} {fn : Nat → Int32} {fp : Nat → Int32} {f3 : Nat → Int32} {fk : Nat → Int32} {fx : Nat → Int32} {fy : Nat → Int32} {fc : Nat → Int32} {fr : Nat → Int32} {fh : Nat → Int32} {R9 : Int32 × rD × pD} (nd : [m, m + 1, m + 2, m + 3, m + 4, m + 5, m + 6, m + 7, m + 8, m + 9, m + 10, m + 11, m + 12, m + 13, m + 14, m + 20].Nodup) (hE : E ≤ 600) (hT : mT E ft gt) (k : ∀ (T : Int32 × rD × pD) (sp fa fl tk ta sg nu : Int32) (wd : Int64) (rl rw : Int32) (ln9 wn9 : Nat → Int64) (fs9 ff9 fb9 fn9 fp9 f39 fk9 fx9 fy9 fc9 : Nat → Int32), exT T = R9 → pR (rcS (T.1, T.2.1)) E sp fa fl tk ta sg nu wd → frH ln wn fs ff fb fn fp f3 fk fx fy fc ln9 wn9 fs9 ff9 fb9 fn9 fp9 f39 fk9 fx9 fy9 fc9 → (¬ T.1 = 0 → rl = nI T.2.2.1 ∧ rw = nI T.2.2.2.1 ∧ pGd T.2.2 ∧ mPl T.2.2 4 ln9 wn9 fs9 ff9 fb9 fn9 fp9 f39 fk9 fx9 fy9 fc9) → WP G RX10 cX10_text 2 (some .int) false (d + 12) 0 0 0 0 Q 81 [some (.ref m), none] [] (hUs h [m, m + 1, m + 2, m + 3, m + 4, m + 5, m + 6, m + 7, m + 8, m + 9, m + 10, m + 11, m + 12, m + 13, m + 14, m + 20] [(oC 10 (mF m th tr wa tp (nI E) sp fa fl tk ta sg nu wd lo wv rl rw ht sd ah cl)), (aI 600 gt), (aL 8 ln9), (aL 8 wn9), (aI 8 fs9), (aI 24 ff9), (aI 8 fb9), (aI 8 fn9), (aI 8 fp9), (aZ 8 f39), (aI 64 fk9), (aI 64 fx9), (aI 64 fy9), (aI 64 fc9), (aI 11 fr), (aZ 2 fh)])) : ∀ (n : Nat) (T : Int32 × rD × pD) (sp fa fl tk ta sg nu : Int32) (wd : Int64) (rl rw : Int32) (ln9 wn9 : Nat → Int64) (fs9 ff9 fb9 fn9 fp9 f39 fk9 fx9 fy9 fc9 : Nat → Int32), (¬ T.1 = 0 → T.2.2.1 + T.2.2.2.1 + n = 600) → pR (rcS (T.1, T.2.1)) E sp fa fl tk ta sg nu wd → frH ln wn fs ff fb fn fp f3 fk fx fy fc ln9 wn9 fs9 ff9 fb9 fn9 fp9 f39 fk9 fx9 fy9 fc9 → (¬ T.1 = 0 → rl = nI T.2.2.1 ∧ rw = nI T.2.2.2.1 ∧ pGd T.2.2 ∧ mPl T.2.2 4 ln9 wn9 fs9 ff9 fb9 fn9 fp9 f39 fk9 fx9 fy9 fc9) → txT ft n T = R9 → WP G RX10 cX10_text 2 (some .int) false (d + 12) 0 0 0 0 Q 61 [some (.ref m), none] [] (hUs h [m, m + 1, m + 2, m + 3, m + 4, m + 5, m + 6, m + 7, m + 8, m + 9, m + 10, m + 11, m + 12, m + 13, m + 14, m + 20] [(oC 10 (mF m th tr wa tp (nI E) sp fa fl tk ta sg nu wd lo wv rl rw ht sd ah cl)), (aI 600 gt), (aL 8 ln9), (aL 8 wn9), (aI 8 fs9), (aI 24 ff9), (aI 8 fb9), (aI 8 fn9), (aI 8 fp9), (aZ 8 f39), (aI 64 fk9), (aI 64 fx9), (aI 64 fy9), (aI 64 fc9), (aI 11 fr), (aZ 2 fh)]) := by
  intro n
  induction n with
  | zero =>
    intro T sp fa fl tk ta sg nu wd rl rw ln9 wn9 fs9 ff9 fb9 fn9 fp9 f39 fk9 fx9 fy9 fc9 hc hp hf hgd hR
    have b67 : siS (rcS (T.1, T.2.1)) 59 = 0 := by
      by_cases e : T.1 = 0
      · rw [show rcS (T.1, T.2.1) = _ from rcS_0 e]; rfl
      · have a1 := hc e
        have a2 := (hgd e).2.2.1.2.2
        omega
    refine w_aload_n dX10_text_61 rfl ?_
    refine w_bipush (v := 59) dX10_text_62 (by decide) ?_
    refine w_callV (ci := 10) (d' := d + 11) (mc' := 0) (ms' := 0) (As := [.int 59]) (st := []) lX10_188 vX10_isSign rfl (hUs_at nd 0 rfl rfl) rfl (Nat.le_of_ble_eq_true rfl) dX10_text_64 (Nat.le_of_ble_eq_true rfl) (Nat.le_of_ble_eq_true rfl) (Nat.le_refl _) (m_isSign (s := (rcS (T.1, T.2.1))) (hHas_sub nd (as' := [m]) (cs' := [(oC 10 (mF m th tr wa tp (nI E) sp fa fl tk ta sg nu wd lo wv rl rw ht sd ah cl))]) [0] rfl rfl) hp ?_)
    refine w_if_eq_t (tgt := 81) dX10_text_67 rfl b67 ?_
    rw [tx_0 b67] at hR
    exact k T _ _ _ _ _ _ _ _ _ _ _ _ _ _ _ _ _ _ _ _ _ _ hR hp hf hgd
  | succ n ih =>
    intro T sp fa fl tk ta sg nu wd rl rw ln9 wn9 fs9 ff9 fb9 fn9 fp9 f39 fk9 fx9 fy9 fc9 hc hp hf hgd hR
    refine w_aload_n dX10_text_61 rfl ?_
    refine w_bipush (v := 59) dX10_text_62 (by decide) ?_
    refine w_callV (ci := 10) (d' := d + 11) (mc' := 0) (ms' := 0) (As := [.int 59]) (st := []) lX10_188 vX10_isSign rfl (hUs_at nd 0 rfl rfl) rfl (Nat.le_of_ble_eq_true rfl) dX10_text_64 (Nat.le_of_ble_eq_true rfl) (Nat.le_of_ble_eq_true rfl) (Nat.le_refl _) (m_isSign (s := (rcS (T.1, T.2.1))) (hHas_sub nd (as' := [m]) (cs' := [(oC 10 (mF m th tr wa tp (nI E) sp fa fl tk ta sg nu wd lo wv rl rw ht sd ah cl))]) [0] rfl rfl) hp ?_)
    refine w_if_eq (tgt := 81) dX10_text_67 rfl (fun b67 => ?_) (fun b67 => ?_)
    · rw [tx_0 b67] at hR
      exact k T _ _ _ _ _ _ _ _ _ _ _ _ _ _ _ _ _ _ _ _ _ _ hR hp hf hgd
    · have h1 := tx_1 (ft := ft) b67
      have hp0 := pR_q h1.2.1 hp
      obtain ⟨g1, g2, g3, g4⟩ := hgd h1.1
      subst g1 g2
      refine w_aload_n dX10_text_70 rfl ?_
      refine w_callV (ci := 10) (d' := d + 11) (mc' := 0) (ms' := 0) (As := []) (st := []) lX10_164 vX10_goOn rfl (hUs_at nd 0 rfl rfl) rfl (Nat.le_of_ble_eq_true rfl) dX10_text_71 (Nat.le_of_ble_eq_true rfl) (Nat.le_of_ble_eq_true rfl) (Nat.le_refl _) (m_goOn (s := (.inl T.2.1)) (hHas_sub nd (as' := [m, m + 1]) (cs' := [(oC 10 (mF m th tr wa tp (nI E) sp fa fl tk ta sg nu wd lo wv (nI T.2.2.1) (nI T.2.2.2.1) ht sd ah cl)), (aI 600 gt)]) [0, 1] rfl rfl) (nd_sub nd (as' := [m, m + 1]) [0, 1] rfl rfl) hE hT hp0 (fun sp1 fa1 fl1 tk1 ta1 sg1 nu1 wd1 hp1 => ?_))
      refine w_heq (hUs_in nd rfl [0, 1] (cs2 := [(oC 10 (mF m th tr wa tp (nI E) sp1 fa1 fl1 tk1 ta1 sg1 nu1 wd1 lo wv (nI T.2.2.1) (nI T.2.2.2.1) ht sd ah cl)), (aI 600 gt), (aL 8 ln9), (aL 8 wn9), (aI 8 fs9), (aI 24 ff9), (aI 8 fb9), (aI 8 fn9), (aI 8 fp9), (aZ 8 f39), (aI 64 fk9), (aI 64 fx9), (aI 64 fy9), (aI 64 fc9), (aI 11 fr), (aZ 2 fh)]) rfl rfl) ?_
      refine w_aload_n dX10_text_74 rfl ?_
      refine w_callV (ci := 10) (d' := d + 11) (mc' := 0) (ms' := 0) (As := []) (st := []) lX10_232 vX10_readLine rfl (hUs_at nd 0 rfl rfl) rfl (Nat.le_of_ble_eq_true rfl) dX10_text_75 (Nat.le_of_ble_eq_true rfl) (Nat.le_of_ble_eq_true rfl) (Nat.le_refl _) (m_readLine (x := (rStp ft T.2.1)) (P := T.2.2) (hHas_sub nd (as' := [m, m + 1, m + 2, m + 3, m + 4, m + 5, m + 6, m + 7, m + 8, m + 9, m + 10, m + 11, m + 12, m + 13]) (cs' := [(oC 10 (mF m th tr wa tp (nI E) sp1 fa1 fl1 tk1 ta1 sg1 nu1 wd1 lo wv (nI T.2.2.1) (nI T.2.2.2.1) ht sd ah cl)), (aI 600 gt), (aL 8 ln9), (aL 8 wn9), (aI 8 fs9), (aI 24 ff9), (aI 8 fb9), (aI 8 fn9), (aI 8 fp9), (aZ 8 f39), (aI 64 fk9), (aI 64 fx9), (aI 64 fy9), (aI 64 fc9)]) [0, 1, 2, 3, 4, 5, 6, 7, 8, 9, 10, 11, 12, 13] rfl rfl) (nd_sub nd (as' := [m, m + 1, m + 2, m + 3, m + 4, m + 5, m + 6, m + 7, m + 8, m + 9, m + 10, m + 11, m + 12, m + 13]) [0, 1, 2, 3, 4, 5, 6, 7, 8, 9, 10, 11, 12, 13] rfl rfl) hE hT g3 g4 hp1 (fun sp2 fa2 fl2 tk2 ta2 sg2 nu2 wd2 rl2 rw2 ln_2 wn_2 fs_2 ff_2 fb_2 fn_2 fp_2 f3_2 fk_2 fx_2 fy_2 fc_2 hp2 hfh2 hgd2 => ?_))
      refine w_heq (hUs_in nd rfl [0, 1, 2, 3, 4, 5, 6, 7, 8, 9, 10, 11, 12, 13] (cs2 := [(oC 10 (mF m th tr wa tp (nI E) sp2 fa2 fl2 tk2 ta2 sg2 nu2 wd2 lo wv rl2 rw2 ht sd ah cl)), (aI 600 gt), (aL 8 ln_2), (aL 8 wn_2), (aI 8 fs_2), (aI 24 ff_2), (aI 8 fb_2), (aI 8 fn_2), (aI 8 fp_2), (aZ 8 f3_2), (aI 64 fk_2), (aI 64 fx_2), (aI 64 fy_2), (aI 64 fc_2), (aI 11 fr), (aZ 2 fh)]) rfl rfl) ?_
      refine w_goto (tgt := 61) dX10_text_78 rfl ?_
      rw [h1.2.2, rTx_s] at hR
      exact ih (rLn ft (rStp ft T.2.1) T.2.2) _ _ _ _ _ _ _ _ _ _ _ _ _ _ _ _ _ _ _ _ _ _ (fun z => by have := (hgd2 z).2.2.2.2; have := hc h1.1; omega) hp2 (frH_t hf hfh2) (fun z => ⟨(hgd2 z).1, (hgd2 z).2.1, (hgd2 z).2.2.1, (hgd2 z).2.2.2.1⟩) hR
