theorem mPl_fr {P : pD} {ln wn : Nat → Int64} {fs ff fb fn fp f3 fk fx fy fc : Nat → Int32} {ln9 wn9 : Nat → Int64} {fs9 ff9 fb9 fn9 fp9 f39 fk9 fx9 fy9 fc9 : Nat → Int32} (g : pGd P) (p : mPl P 0 ln wn fs ff fb fn fp f3 fk fx fy fc) (h : frH ln wn fs ff fb fn fp f3 fk fx fy fc ln9 wn9 fs9 ff9 fb9 fn9 fp9 f39 fk9 fx9 fy9 fc9) : mPl P 0 ln9 wn9 fs9 ff9 fb9 fn9 fp9 f39 fk9 fx9 fy9 fc9 := by
  refine ⟨fun j hj => ?_, fun j hj => ?_⟩
  · obtain ⟨q1, q2, q3, q4, q5, q6⟩ := p.1 j hj
    have l3 := (g.1 j hj).2.1
    have hj4 : 0 + j < 4 := by have := g.2.2.1; omega
    obtain ⟨d1, d2, d3, d4, d5, d6, d7⟩ := (h (0 + j)).1 hj4
    exact ⟨d3.trans q1, fun s hs => ((h (3 * (0 + j) + s)).2.1 (by omega)).trans (q2 s hs), d4.trans q3, d5.trans q4, d7.trans q5, d1.trans q6⟩
  · obtain ⟨q1, q2, q3⟩ := p.2 j hj
    have l2 := (g.2.1 j hj).1.2.1
    have hj4 : 0 + j < 4 := by have := g.2.2.2; omega
    obtain ⟨d1, d2, d3, d4, d5, d6, d7⟩ := (h (0 + j)).1 hj4
    refine ⟨d6.trans q1, fun s hs => ?_, d2.trans q3⟩
    obtain ⟨r1, r2, r3, r4⟩ := q2 s hs
    obtain ⟨t1, t2, t3, t4⟩ := (h (8 * (0 + j) + s)).2.2 (by omega)
    exact ⟨t1.trans r1, t2.trans r2, t4.trans r3, fun z => t3.trans (r4 z)⟩
theorem tkR_e {x : rD} {sp tk ta sg nu : Int32} {wd : Int64} (h : tkR x sp tk ta sg nu wd) : tk = 1 ↔ x.2.2.1 = 0 := by
  obtain ⟨_, _, h⟩ := h
  rcases h with ⟨a, b⟩ | ⟨a, b, _⟩ | ⟨a, b, _⟩ | ⟨a, b, _⟩ | ⟨a, b⟩ <;> rw [a, b] <;> decide
theorem pGd_0 {f : Nat → lD} {g : Nat → wD} : pGd (0, 0, f, g) := ⟨fun j hj => absurd hj (Nat.not_lt_zero j), fun j hj => absurd hj (Nat.not_lt_zero j), Nat.zero_le _, Nat.zero_le _⟩
theorem mPl_0 {f : Nat → lD} {g : Nat → wD} {a : Nat} {ln wn : Nat → Int64} {fs ff fb fn fp f3 fk fx fy fc : Nat → Int32} : mPl (0, 0, f, g) a ln wn fs ff fb fn fp f3 fk fx fy fc := ⟨fun j hj => absurd hj (Nat.not_lt_zero j), fun j hj => absurd hj (Nat.not_lt_zero j)⟩
theorem exT_0 {T : Int32 × rD × pD} (h : T.1 = 0) : exT T = (0, T.2.1, T.2.2) := if_pos h
theorem exT_1 {T : Int32 × rD × pD} (h : ¬ T.1 = 0) (h2 : T.2.1.2.2.1 = 0) : exT T = (1, T.2.1, T.2.2) := by rw [exT, if_neg h, if_pos h2]
theorem exT_2 {T : Int32 × rD × pD} (h : ¬ T.1 = 0) (h2 : ¬ T.2.1.2.2.1 = 0) : exT T = (0, rFl T.2.1 1 (nI T.2.1.2.2.2.1), T.2.2) := by rw [exT, if_neg h, if_neg h2]
set_option maxRecDepth 100000 in
set_option maxHeartbeats 4000000 in
theorem q_text_s {G : wG} {d : Nat} {h : hH} {Q : Option Value → hH → Prop} {m : Nat} {ft : Nat → Int32} {tp : Nat} {P : pD} {ht : Int32} {R : Option rnD} {i0 i1 : imD} {sd fa pl tr : Int32} {th : Int32}  {E : Nat} {x : rD} {P2 : pD} (hI : mI h m ft tp P ht R i0 i1 sd fa pl tr th) (hE9 : E ≤ tp) (k : ∀ h2, (if (txX ft E x P2).1 = 0 then mI h2 m ft 0 P ht R i0 i1 sd (txX ft E x P2).2.1.2.2.2.2.2.2.1 (txX ft E x P2).2.1.2.2.2.2.2.2.2 4 0 else mI h2 m ft 0 (txX ft E x P2).2.2 1 none none none sd 0 (-1) 0 0) → mFr m h h2 → Q (some (.int (if (txX ft E x P2).1 = 0 then -1 else nI (txX ft E x P2).2.2.1))) h2) : Cl G yX10_text (d + 12) 0 0 [.ref m, .int (nI E)] h Q := by
  refine mI_e hI ?_
  intro sz sp fl tk ta sg nu wd rl rw ah cl gt ln wn fs ff fb fn fp f3 fk fx fy fc fr f1 f2 fi fo fq fh fj fw fz hW hT hPm hG hRm hm0 hm1 hsd hht htp
  have hnL : P.1 ≤ 4096 := Nat.le_trans hG.2.2.1 (by decide)
  have hnW : P.2.1 ≤ 4096 := Nat.le_trans hG.2.2.2 (by decide)
  have hhL : (ht = 0 ∧ P.1 = 0) ∨ ht = 1 := hht.imp (fun z => ⟨z.1, z.2.1⟩) id
  have hhW : (ht = 0 ∧ P.2.1 = 0) ∨ ht = 1 := hht.imp (fun z => ⟨z.1, z.2.2⟩) id
  have hE : E ≤ 600 := Nat.le_trans hE9 htp
  have hT : mT E ft gt := fun j hj => hT j (Nat.lt_of_lt_of_le hj hE9)
  obtain ⟨R9, hR8⟩ : ∃ R, txX ft E x P2 = R := ⟨_, rfl⟩
  have hR9 : txT ft 599 (rLn ft (rStp ft (E, 0, x.2.2.1, x.2.2.2.1, x.2.2.2.2.1, x.2.2.2.2.2.1, 0, x.2.2.2.2.2.2.2)) ((0, 0, P2.2.2.1, P2.2.2.2) : pD)) = R9 := by
    rw [← rTx_s]; exact hR8
  rw [hR8] at k
  have hw : hHas h [m, m + 1, m + 2, m + 3, m + 4, m + 5, m + 6, m + 7, m + 8, m + 9, m + 10, m + 11, m + 12, m + 13, m + 14, m + 20] [(oC 10 (mF m th tr pl (nI tp) sz sp fa fl tk ta sg nu wd (nI P.1) (nI P.2.1) rl rw ht sd ah cl)), (aI 600 gt), (aL 8 ln), (aL 8 wn), (aI 8 fs), (aI 24 ff), (aI 8 fb), (aI 8 fn), (aI 8 fp), (aZ 8 f3), (aI 64 fk), (aI 64 fx), (aI 64 fy), (aI 64 fc), (aI 11 fr), (aZ 2 fh)] := hHas_s hW [0, 1, 2, 3, 4, 5, 6, 7, 8, 9, 10, 11, 12, 13, 14, 20] rfl rfl
  have nd : [m, m + 1, m + 2, m + 3, m + 4, m + 5, m + 6, m + 7, m + 8, m + 9, m + 10, m + 11, m + 12, m + 13, m + 14, m + 20].Nodup := (nd_inc ⟨by omega, by omega, by omega, by omega, by omega, by omega, by omega, by omega, by omega, by omega, by omega, by omega, by omega, by omega, by omega, trivial⟩)
  refine Cl.of (ini := false) kX10_text (plainFor_of_name (by decide)) (by decide) (Nat.le_of_ble_eq_true rfl) rfl rfl (fun z => by cases z) ?_
  refine w_heq (hUs_id hw).symm ?_
  refine w_aload_n dX10_text_0 rfl ?_
  refine w_iconst (v := 0) dX10_text_1 (by decide) ?_
  refine w_put (fs' := (mF m 0 tr pl (nI tp) sz sp fa fl tk ta sg nu wd (nI P.1) (nI P.2.1) rl rw ht sd ah cl)) fX10_89 (hUs_at nd 0 rfl rfl) rfl rfl (Nat.le_of_ble_eq_true rfl) rfl dX10_text_2 ?_
  refine w_heq (hUs_set nd rfl 0 (cs' := [(oC 10 (mF m 0 tr pl (nI tp) sz sp fa fl tk ta sg nu wd (nI P.1) (nI P.2.1) rl rw ht sd ah cl)), (aI 600 gt), (aL 8 ln), (aL 8 wn), (aI 8 fs), (aI 24 ff), (aI 8 fb), (aI 8 fn), (aI 8 fp), (aZ 8 f3), (aI 64 fk), (aI 64 fx), (aI 64 fy), (aI 64 fc), (aI 11 fr), (aZ 2 fh)]) rfl rfl) ?_
  refine w_iload_n dX10_text_5 rfl ?_
  refine w_iconst (v := 0) dX10_text_6 (by decide) ?_
  refine w_aload_n dX10_text_7 rfl ?_
  refine w_get (v := .int (nI tp)) fX10_96 (hUs_at nd 0 rfl rfl) rfl dX10_text_8 ?_
  refine w_callS (d' := d + 11) (mc' := 0) (ms' := 0) (As := [.int (nI E), .int 0, .int (nI tp)]) (st := []) lX10_111 vX10_in rfl (Nat.le_of_ble_eq_true rfl) dX10_text_11 (Nat.le_of_ble_eq_true rfl) (Nat.le_of_ble_eq_true rfl) (Nat.le_refl _) (c_in ?_)
  refine w_if_ne_t (tgt := 23) dX10_text_14 rfl (fun z => (inB_0 z).elim (fun y => absurd ((nI_ltI (a := E) (b := 0) (by omega) (by omega)).mp y) (Nat.not_lt_zero _)) (fun y => absurd ((nI_ltI (a := tp) (b := E) (by omega) (by omega)).mp y) (by omega))) ?_
  refine w_aload_n dX10_text_23 rfl ?_
  refine w_iload_n dX10_text_24 rfl ?_
  refine w_put (fs' := (mF m 0 tr pl (nI tp) (nI E) sp fa fl tk ta sg nu wd (nI P.1) (nI P.2.1) rl rw ht sd ah cl)) fX10_108 (hUs_at nd 0 rfl rfl) rfl rfl (Nat.le_of_ble_eq_true rfl) rfl dX10_text_25 ?_
  refine w_heq (hUs_set nd rfl 0 (cs' := [(oC 10 (mF m 0 tr pl (nI tp) (nI E) sp fa fl tk ta sg nu wd (nI P.1) (nI P.2.1) rl rw ht sd ah cl)), (aI 600 gt), (aL 8 ln), (aL 8 wn), (aI 8 fs), (aI 24 ff), (aI 8 fb), (aI 8 fn), (aI 8 fp), (aZ 8 f3), (aI 64 fk), (aI 64 fx), (aI 64 fy), (aI 64 fc), (aI 11 fr), (aZ 2 fh)]) rfl rfl) ?_
  refine w_aload_n dX10_text_28 rfl ?_
  refine w_iconst (v := (nI 0)) dX10_text_29 (by decide) ?_
  refine w_put (fs' := (mF m 0 tr pl (nI 0) (nI E) sp fa fl tk ta sg nu wd (nI P.1) (nI P.2.1) rl rw ht sd ah cl)) fX10_96 (hUs_at nd 0 rfl rfl) rfl rfl (Nat.le_of_ble_eq_true rfl) rfl dX10_text_30 ?_
  refine w_heq (hUs_set nd rfl 0 (cs' := [(oC 10 (mF m 0 tr pl (nI 0) (nI E) sp fa fl tk ta sg nu wd (nI P.1) (nI P.2.1) rl rw ht sd ah cl)), (aI 600 gt), (aL 8 ln), (aL 8 wn), (aI 8 fs), (aI 24 ff), (aI 8 fb), (aI 8 fn), (aI 8 fp), (aZ 8 f3), (aI 64 fk), (aI 64 fx), (aI 64 fy), (aI 64 fc), (aI 11 fr), (aZ 2 fh)]) rfl rfl) ?_
  refine w_aload_n dX10_text_33 rfl ?_
  refine w_iconst (v := (nI 0)) dX10_text_34 (by decide) ?_
  refine w_put (fs' := (mF m 0 tr pl (nI 0) (nI E) (nI 0) fa fl tk ta sg nu wd (nI P.1) (nI P.2.1) rl rw ht sd ah cl)) fX10_115 (hUs_at nd 0 rfl rfl) rfl rfl (Nat.le_of_ble_eq_true rfl) rfl dX10_text_35 ?_
  refine w_heq (hUs_set nd rfl 0 (cs' := [(oC 10 (mF m 0 tr pl (nI 0) (nI E) (nI 0) fa fl tk ta sg nu wd (nI P.1) (nI P.2.1) rl rw ht sd ah cl)), (aI 600 gt), (aL 8 ln), (aL 8 wn), (aI 8 fs), (aI 24 ff), (aI 8 fb), (aI 8 fn), (aI 8 fp), (aZ 8 f3), (aI 64 fk), (aI 64 fx), (aI 64 fy), (aI 64 fc), (aI 11 fr), (aZ 2 fh)]) rfl rfl) ?_
  refine w_aload_n dX10_text_38 rfl ?_
  refine w_iconst (v := 0) dX10_text_39 (by decide) ?_
  refine w_put (fs' := (mF m 0 tr pl (nI 0) (nI E) (nI 0) 0 fl tk ta sg nu wd (nI P.1) (nI P.2.1) rl rw ht sd ah cl)) fX10_99 (hUs_at nd 0 rfl rfl) rfl rfl (Nat.le_of_ble_eq_true rfl) rfl dX10_text_40 ?_
  refine w_heq (hUs_set nd rfl 0 (cs' := [(oC 10 (mF m 0 tr pl (nI 0) (nI E) (nI 0) 0 fl tk ta sg nu wd (nI P.1) (nI P.2.1) rl rw ht sd ah cl)), (aI 600 gt), (aL 8 ln), (aL 8 wn), (aI 8 fs), (aI 24 ff), (aI 8 fb), (aI 8 fn), (aI 8 fp), (aZ 8 f3), (aI 64 fk), (aI 64 fx), (aI 64 fy), (aI 64 fc), (aI 11 fr), (aZ 2 fh)]) rfl rfl) ?_
  refine w_aload_n dX10_text_43 rfl ?_
  refine w_iconst (v := (nI 0)) dX10_text_44 (by decide) ?_
  refine w_put (fs' := (mF m 0 tr pl (nI 0) (nI E) (nI 0) 0 fl tk ta sg nu wd (nI P.1) (nI P.2.1) (nI 0) rw ht sd ah cl)) fX10_199 (hUs_at nd 0 rfl rfl) rfl rfl (Nat.le_of_ble_eq_true rfl) rfl dX10_text_45 ?_
  refine w_heq (hUs_set nd rfl 0 (cs' := [(oC 10 (mF m 0 tr pl (nI 0) (nI E) (nI 0) 0 fl tk ta sg nu wd (nI P.1) (nI P.2.1) (nI 0) rw ht sd ah cl)), (aI 600 gt), (aL 8 ln), (aL 8 wn), (aI 8 fs), (aI 24 ff), (aI 8 fb), (aI 8 fn), (aI 8 fp), (aZ 8 f3), (aI 64 fk), (aI 64 fx), (aI 64 fy), (aI 64 fc), (aI 11 fr), (aZ 2 fh)]) rfl rfl) ?_
  refine w_aload_n dX10_text_48 rfl ?_
  refine w_iconst (v := (nI 0)) dX10_text_49 (by decide) ?_
  refine w_put (fs' := (mF m 0 tr pl (nI 0) (nI E) (nI 0) 0 fl tk ta sg nu wd (nI P.1) (nI P.2.1) (nI 0) (nI 0) ht sd ah cl)) fX10_202 (hUs_at nd 0 rfl rfl) rfl rfl (Nat.le_of_ble_eq_true rfl) rfl dX10_text_50 ?_
  refine w_heq (hUs_set nd rfl 0 (cs' := [(oC 10 (mF m 0 tr pl (nI 0) (nI E) (nI 0) 0 fl tk ta sg nu wd (nI P.1) (nI P.2.1) (nI 0) (nI 0) ht sd ah cl)), (aI 600 gt), (aL 8 ln), (aL 8 wn), (aI 8 fs), (aI 24 ff), (aI 8 fb), (aI 8 fn), (aI 8 fp), (aZ 8 f3), (aI 64 fk), (aI 64 fx), (aI 64 fy), (aI 64 fc), (aI 11 fr), (aZ 2 fh)]) rfl rfl) ?_
  refine w_aload_n dX10_text_53 rfl ?_
  refine w_callV (ci := 10) (d' := d + 11) (mc' := 0) (ms' := 0) (As := []) (st := []) lX10_164 vX10_goOn rfl (hUs_at nd 0 rfl rfl) rfl (Nat.le_of_ble_eq_true rfl) dX10_text_54 (Nat.le_of_ble_eq_true rfl) (Nat.le_of_ble_eq_true rfl) (Nat.le_refl _) (m_goOn_l (x := (E, 0, x.2.2.1, x.2.2.2.1, x.2.2.2.2.1, x.2.2.2.2.2.1, 0, x.2.2.2.2.2.2.2)) (hHas_sub nd (as' := [m, m + 1]) (cs' := [(oC 10 (mF m 0 tr pl (nI 0) (nI E) (nI 0) 0 fl tk ta sg nu wd (nI P.1) (nI P.2.1) (nI 0) (nI 0) ht sd ah cl)), (aI 600 gt)]) [0, 1] rfl rfl) (nd_sub nd (as' := [m, m + 1]) [0, 1] rfl rfl) hE hT rfl ⟨hE, Nat.zero_le _⟩ (fun sp1 fa1 fl1 tk1 ta1 sg1 nu1 wd1 hp1 => ?_))
  refine w_heq (hUs_in nd rfl [0, 1] (cs2 := [(oC 10 (mF m 0 tr pl (nI 0) (nI E) sp1 fa1 fl1 tk1 ta1 sg1 nu1 wd1 (nI P.1) (nI P.2.1) (nI 0) (nI 0) ht sd ah cl)), (aI 600 gt), (aL 8 ln), (aL 8 wn), (aI 8 fs), (aI 24 ff), (aI 8 fb), (aI 8 fn), (aI 8 fp), (aZ 8 f3), (aI 64 fk), (aI 64 fx), (aI 64 fy), (aI 64 fc), (aI 11 fr), (aZ 2 fh)]) rfl rfl) ?_
  refine w_aload_n dX10_text_57 rfl ?_
  refine w_callV (ci := 10) (d' := d + 11) (mc' := 0) (ms' := 0) (As := []) (st := []) lX10_232 vX10_readLine rfl (hUs_at nd 0 rfl rfl) rfl (Nat.le_of_ble_eq_true rfl) dX10_text_58 (Nat.le_of_ble_eq_true rfl) (Nat.le_of_ble_eq_true rfl) (Nat.le_refl _) (m_readLine (x := (rStp ft (E, 0, x.2.2.1, x.2.2.2.1, x.2.2.2.2.1, x.2.2.2.2.2.1, 0, x.2.2.2.2.2.2.2))) (P := ((0, 0, P2.2.2.1, P2.2.2.2) : pD)) (hHas_sub nd (as' := [m, m + 1, m + 2, m + 3, m + 4, m + 5, m + 6, m + 7, m + 8, m + 9, m + 10, m + 11, m + 12, m + 13]) (cs' := [(oC 10 (mF m 0 tr pl (nI 0) (nI E) sp1 fa1 fl1 tk1 ta1 sg1 nu1 wd1 (nI P.1) (nI P.2.1) (nI 0) (nI 0) ht sd ah cl)), (aI 600 gt), (aL 8 ln), (aL 8 wn), (aI 8 fs), (aI 24 ff), (aI 8 fb), (aI 8 fn), (aI 8 fp), (aZ 8 f3), (aI 64 fk), (aI 64 fx), (aI 64 fy), (aI 64 fc)]) [0, 1, 2, 3, 4, 5, 6, 7, 8, 9, 10, 11, 12, 13] rfl rfl) (nd_sub nd (as' := [m, m + 1, m + 2, m + 3, m + 4, m + 5, m + 6, m + 7, m + 8, m + 9, m + 10, m + 11, m + 12, m + 13]) [0, 1, 2, 3, 4, 5, 6, 7, 8, 9, 10, 11, 12, 13] rfl rfl) hE hT pGd_0 mPl_0 hp1 (fun sp2 fa2 fl2 tk2 ta2 sg2 nu2 wd2 rl2 rw2 ln_2 wn_2 fs_2 ff_2 fb_2 fn_2 fp_2 f3_2 fk_2 fx_2 fy_2 fc_2 hp2 hfh2 hgd2 => ?_))
  refine w_heq (hUs_in nd rfl [0, 1, 2, 3, 4, 5, 6, 7, 8, 9, 10, 11, 12, 13] (cs2 := [(oC 10 (mF m 0 tr pl (nI 0) (nI E) sp2 fa2 fl2 tk2 ta2 sg2 nu2 wd2 (nI P.1) (nI P.2.1) rl2 rw2 ht sd ah cl)), (aI 600 gt), (aL 8 ln_2), (aL 8 wn_2), (aI 8 fs_2), (aI 24 ff_2), (aI 8 fb_2), (aI 8 fn_2), (aI 8 fp_2), (aZ 8 f3_2), (aI 64 fk_2), (aI 64 fx_2), (aI 64 fy_2), (aI 64 fc_2), (aI 11 fr), (aZ 2 fh)]) rfl rfl) ?_
  refine w_less (ls2 := [some (.ref m), none]) ⟨Or.inr rfl, Or.inl rfl, trivial⟩ ?_
  refine l_txt (ln := ln) (wn := wn) (fs := fs) (ff := ff) (fb := fb) (fn := fn) (fp := fp) (f3 := f3) (fk := fk) (fx := fx) (fy := fy) (fc := fc) (R9 := R9) nd hE hT (fun T9 sp3 fa3 fl3 tk3 ta3 sg3 nu3 wd3 rl3 rw3 ln9 wn9 fs9 ff9 fb9 fn9 fp9 f39 fk9 fx9 fy9 fc9 hex hp3 hfh hgd => ?_) 599 (rLn ft (rStp ft (E, 0, x.2.2.1, x.2.2.2.1, x.2.2.2.2.1, x.2.2.2.2.2.1, 0, x.2.2.2.2.2.2.2)) ((0, 0, P2.2.2.1, P2.2.2.2) : pD)) _ _ _ _ _ _ _ _ _ _ _ _ _ _ _ _ _ _ _ _ _ _ (fun z => by have q : _ = 0 + 0 + 1 := (hgd2 z).2.2.2.2; omega) hp2 hfh2 (fun z => ⟨(hgd2 z).1, (hgd2 z).2.1, (hgd2 z).2.2.1, (hgd2 z).2.2.2.1⟩) hR9
  rcases e5 : rcS (T9.1, T9.2.1) with y5 | b5
  · have hp3q := pR_q e5 hp3
    have hn5 : ¬ T9.1 = 0 := (rcS_l e5).1
    have hy5 : T9.2.1 = y5 := (rcS_l e5).2
    obtain ⟨g1, g2, gG, gM⟩ := hgd hn5
    subst g1 g2
    have hke := tkR_e hp3q.2.2.2
    have hf0 := hp3q.1
    subst hf0
    refine w_aload_n dX10_text_81 rfl ?_
    refine w_get (v := .int 0) fX10_99 (hUs_at nd 0 rfl rfl) rfl dX10_text_82 ?_
    refine w_if_ne_f (tgt := 101) dX10_text_85 rfl rfl ?_
    refine w_aload_n dX10_text_88 rfl ?_
    refine w_get (v := .int tk3) fX10_118 (hUs_at nd 0 rfl rfl) rfl dX10_text_89 ?_
    refine w_iconst (v := 1) dX10_text_92 (by decide) ?_
    refine w_icmp_eq (tgt := 101) dX10_text_93 rfl (fun b93 => ?_) (fun b93 => ?_)
    · refine w_aload_n dX10_text_101 rfl ?_
      refine w_get (v := .int 0) fX10_99 (hUs_at nd 0 rfl rfl) rfl dX10_text_102 ?_
      refine w_if_le_t (tgt := 123) dX10_text_105 rfl (by decide) ?_
      refine w_aload_n dX10_text_123 rfl ?_
      refine w_callV (ci := 10) (d' := d + 11) (mc' := 0) (ms' := 0) (As := []) (st := []) lX10_235 vX10_holds rfl (hUs_at nd 0 rfl rfl) rfl (Nat.le_of_ble_eq_true rfl) dX10_text_124 (Nat.le_of_ble_eq_true rfl) (Nat.le_of_ble_eq_true rfl) (Nat.le_refl _) (m_holds (hHas_sub nd (as' := [m, m + 2, m + 3, m + 4, m + 5, m + 6, m + 7, m + 8, m + 9, m + 10, m + 11, m + 12, m + 13, m + 14, m + 20]) (cs' := [(oC 10 (mF m 0 tr pl (nI 0) (nI E) sp3 0 fl3 tk3 ta3 sg3 nu3 wd3 (nI P.1) (nI P.2.1) (nI T9.2.2.1) (nI T9.2.2.2.1) ht sd ah cl)), (aL 8 ln9), (aL 8 wn9), (aI 8 fs9), (aI 24 ff9), (aI 8 fb9), (aI 8 fn9), (aI 8 fp9), (aZ 8 f39), (aI 64 fk9), (aI 64 fx9), (aI 64 fy9), (aI 64 fc9), (aI 11 fr), (aZ 2 fh)]) [0, 2, 3, 4, 5, 6, 7, 8, 9, 10, 11, 12, 13, 14, 15] rfl rfl) (nd_sub nd (as' := [m, m + 2, m + 3, m + 4, m + 5, m + 6, m + 7, m + 8, m + 9, m + 10, m + 11, m + 12, m + 13, m + 14, m + 20]) [0, 2, 3, 4, 5, 6, 7, 8, 9, 10, 11, 12, 13, 14, 15] rfl rfl) (fun g2 g3 g4 g5 g6 g7 g8 g9 g10 g11 g12 g13 c2 c3 c4 c5 c6 c7 c8 c9 c10 c11 c12 c13 => ?_))
      refine w_heq (hUs_in nd rfl [0, 2, 3, 4, 5, 6, 7, 8, 9, 10, 11, 12, 13, 14, 15] (cs2 := [(oC 10 (mF m 0 tr pl (nI 0) (nI E) sp3 0 fl3 tk3 ta3 sg3 nu3 wd3 (nI T9.2.2.1) (nI T9.2.2.2.1) (nI T9.2.2.1) (nI T9.2.2.2.1) 1 sd ah cl)), (aI 600 gt), (aL 8 g2), (aL 8 g3), (aI 8 g4), (aI 24 g5), (aI 8 g6), (aI 8 g7), (aI 8 g8), (aZ 8 g9), (aI 64 g10), (aI 64 g11), (aI 64 g12), (aI 64 g13), (aI 11 (upd fr 0 (-1))), (aZ 2 (upd (upd fh 0 (vp_nar .boolean 0)) 1 (vp_nar .boolean 0)))]) rfl rfl) ?_
      refine w_aload_n dX10_text_127 rfl ?_
      refine w_aload_n dX10_text_128 rfl ?_
      refine w_get (v := .int (nI T9.2.2.1)) fX10_238 (hUs_at nd 0 rfl rfl) rfl dX10_text_129 ?_
      refine w_callV (ci := 10) (d' := d + 11) (mc' := 0) (ms' := 0) (As := [.int (nI T9.2.2.1)]) (st := []) lX10_241 vX10_good rfl (hUs_at nd 0 rfl rfl) rfl (Nat.le_of_ble_eq_true rfl) dX10_text_132 (Nat.le_of_ble_eq_true rfl) (Nat.le_of_ble_eq_true rfl) (Nat.le_refl _) (m_good (hHas_sub nd (as' := [m]) (cs' := [(oC 10 (mF m 0 tr pl (nI 0) (nI E) sp3 0 fl3 tk3 ta3 sg3 nu3 wd3 (nI T9.2.2.1) (nI T9.2.2.2.1) (nI T9.2.2.1) (nI T9.2.2.2.1) 1 sd ah cl))]) [0] rfl rfl) (nd_sub nd (as' := [m]) [0] rfl rfl)  ?_)
      refine w_heq (hUs_in nd rfl [0] (cs2 := [(oC 10 (mF m 0 0 (-1) (nI 0) (nI E) sp3 0 fl3 tk3 ta3 sg3 nu3 wd3 (nI T9.2.2.1) (nI T9.2.2.2.1) (nI T9.2.2.1) (nI T9.2.2.2.1) 1 sd ah cl)), (aI 600 gt), (aL 8 g2), (aL 8 g3), (aI 8 g4), (aI 24 g5), (aI 8 g6), (aI 8 g7), (aI 8 g8), (aZ 8 g9), (aI 64 g10), (aI 64 g11), (aI 64 g12), (aI 64 g13), (aI 11 (upd fr 0 (-1))), (aZ 2 (upd (upd fh 0 (vp_nar .boolean 0)) 1 (vp_nar .boolean 0)))]) rfl rfl) ?_
      refine w_ireturn rfl dX10_text_135 (Nat.le_of_ble_eq_true rfl) (Nat.le_of_ble_eq_true rfl) ?_
      have e8 : R9 = (1, T9.2.1, T9.2.2) := hex.symm.trans (exT_1 hn5 (by rw [hy5]; exact hke.mp b93))
      rw [e8] at k
      have k2 : ∀ h2, mI h2 m ft 0 T9.2.2 1 none none none sd 0 (-1) 0 0 → mFr m h h2 → Q (some (.int (nI T9.2.2.1))) h2 := fun h2 a b => k h2 a b
      exact k2 _ (mI_i (cI_put hW (mAs_nd m) rfl [0, 1, 2, 3, 4, 5, 6, 7, 8, 9, 10, 11, 12, 13, 14, 20] (cs2 := [(oC 10 (mF m 0 0 (-1) (nI 0) (nI E) sp3 0 fl3 tk3 ta3 sg3 nu3 wd3 (nI T9.2.2.1) (nI T9.2.2.2.1) (nI T9.2.2.1) (nI T9.2.2.2.1) 1 sd ah cl)), (aI 600 gt), (aL 8 g2), (aL 8 g3), (aI 8 g4), (aI 24 g5), (aI 8 g6), (aI 8 g7), (aI 8 g8), (aZ 8 g9), (aI 64 g10), (aI 64 g11), (aI 64 g12), (aI 64 g13), (aI 11 (upd fr 0 (-1))), (aI 11 f1), (aI 11 f2), (aI 22 fi), (aB 4096 fo), (aB 8192 fq), (aZ 2 (upd (upd fh 0 (vp_nar .boolean 0)) 1 (vp_nar .boolean 0))), (aI 2 fj), (aI 4096 fw), (aI 2100 fz)]) rfl rfl) (fun j hj => absurd hj (Nat.not_lt_zero j)) (mPl_cp gG gM c2 c3 c4 c5 c6 c7 c8 c9 c10 c11 c12 c13) gG (Or.inr pk_us) rfl rfl hsd (Or.inr rfl) (Nat.zero_le _)) (mFr_of (by intro a ha; simp only [List.mem_cons, List.not_mem_nil, or_false] at ha; omega))
    · refine w_aload_n dX10_text_96 rfl ?_
      refine w_iconst (v := 1) dX10_text_97 (by decide) ?_
      refine w_callV (ci := 10) (d' := d + 11) (mc' := 0) (ms' := 0) (As := [.int 1]) (st := []) lX10_160 vX10_flaw rfl (hUs_at nd 0 rfl rfl) rfl (Nat.le_of_ble_eq_true rfl) dX10_text_98 (Nat.le_of_ble_eq_true rfl) (Nat.le_of_ble_eq_true rfl) (Nat.le_refl _) (m_flaw (s := (.inl y5)) (hHas_sub nd (as' := [m]) (cs' := [(oC 10 (mF m 0 tr pl (nI 0) (nI E) sp3 0 fl3 tk3 ta3 sg3 nu3 wd3 (nI P.1) (nI P.2.1) (nI T9.2.2.1) (nI T9.2.2.2.1) ht sd ah cl))]) [0] rfl rfl) (nd_sub nd (as' := [m]) [0] rfl rfl) (by decide) hp3q (fun fa4 fl4 hp4 => ?_))
      refine w_heq (hUs_in nd rfl [0] (cs2 := [(oC 10 (mF m 0 tr pl (nI 0) (nI E) sp3 fa4 fl4 tk3 ta3 sg3 nu3 wd3 (nI P.1) (nI P.2.1) (nI T9.2.2.1) (nI T9.2.2.2.1) ht sd ah cl)), (aI 600 gt), (aL 8 ln9), (aL 8 wn9), (aI 8 fs9), (aI 24 ff9), (aI 8 fb9), (aI 8 fn9), (aI 8 fp9), (aZ 8 f39), (aI 64 fk9), (aI 64 fx9), (aI 64 fy9), (aI 64 fc9), (aI 11 fr), (aZ 2 fh)]) rfl rfl) ?_
      refine w_aload_n dX10_text_101 rfl ?_
      refine w_get (v := .int fa4) fX10_99 (hUs_at nd 0 rfl rfl) rfl dX10_text_102 ?_
      refine w_if_le_f (tgt := 123) dX10_text_105 rfl (fun z => absurd hp4.2.1 (by rw [← hp4.1]; exact Int32.not_lt.mpr z)) ?_
      refine w_aload_n dX10_text_108 rfl ?_
      refine w_iconst (v := 4) dX10_text_109 (by decide) ?_
      refine w_put (fs' := (mF m 0 4 pl (nI 0) (nI E) sp3 fa4 fl4 tk3 ta3 sg3 nu3 wd3 (nI P.1) (nI P.2.1) (nI T9.2.2.1) (nI T9.2.2.2.1) ht sd ah cl)) fX10_92 (hUs_at nd 0 rfl rfl) rfl rfl (Nat.le_of_ble_eq_true rfl) rfl dX10_text_110 ?_
      refine w_heq (hUs_set nd rfl 0 (cs' := [(oC 10 (mF m 0 4 pl (nI 0) (nI E) sp3 fa4 fl4 tk3 ta3 sg3 nu3 wd3 (nI P.1) (nI P.2.1) (nI T9.2.2.1) (nI T9.2.2.2.1) ht sd ah cl)), (aI 600 gt), (aL 8 ln9), (aL 8 wn9), (aI 8 fs9), (aI 24 ff9), (aI 8 fb9), (aI 8 fn9), (aI 8 fp9), (aZ 8 f39), (aI 64 fk9), (aI 64 fx9), (aI 64 fy9), (aI 64 fc9), (aI 11 fr), (aZ 2 fh)]) rfl rfl) ?_
      refine w_aload_n dX10_text_113 rfl ?_
      refine w_aload_n dX10_text_114 rfl ?_
      refine w_get (v := .int fl4) fX10_105 (hUs_at nd 0 rfl rfl) rfl dX10_text_115 ?_
      refine w_put (fs' := (mF m 0 4 fl4 (nI 0) (nI E) sp3 fa4 fl4 tk3 ta3 sg3 nu3 wd3 (nI P.1) (nI P.2.1) (nI T9.2.2.1) (nI T9.2.2.2.1) ht sd ah cl)) fX10_9 (hUs_at nd 0 rfl rfl) rfl rfl (Nat.le_of_ble_eq_true rfl) rfl dX10_text_118 ?_
      refine w_heq (hUs_set nd rfl 0 (cs' := [(oC 10 (mF m 0 4 fl4 (nI 0) (nI E) sp3 fa4 fl4 tk3 ta3 sg3 nu3 wd3 (nI P.1) (nI P.2.1) (nI T9.2.2.1) (nI T9.2.2.2.1) ht sd ah cl)), (aI 600 gt), (aL 8 ln9), (aL 8 wn9), (aI 8 fs9), (aI 24 ff9), (aI 8 fb9), (aI 8 fn9), (aI 8 fp9), (aZ 8 f39), (aI 64 fk9), (aI 64 fx9), (aI 64 fy9), (aI 64 fc9), (aI 11 fr), (aZ 2 fh)]) rfl rfl) ?_
      refine w_iconst (v := (-1)) dX10_text_121 (by decide) ?_
      refine w_ireturn rfl dX10_text_122 (Nat.le_of_ble_eq_true rfl) (Nat.le_of_ble_eq_true rfl) ?_
      have e8 : R9 = (0, rFl T9.2.1 1 (nI T9.2.1.2.2.2.1), T9.2.2) := hex.symm.trans (exT_2 hn5 (by rw [hy5]; exact fun z => b93 (hke.mpr z)))
      rw [e8] at k
      have ha : fa4 = 1 := hp4.1
      have hb : fl4 = nI y5.2.2.2.1 := hp4.2.2
      have k2 : ∀ h2, mI h2 m ft 0 P ht R i0 i1 sd fa4 fl4 4 0 → mFr m h h2 → Q (some (.int (-1))) h2 := fun h2 a b => k h2 (by
        rw [ha, hb, ← hy5] at a
        exact a) b
      exact k2 _ (mI_i (cI_put hW (mAs_nd m) rfl [0, 1, 2, 3, 4, 5, 6, 7, 8, 9, 10, 11, 12, 13, 14, 20] (cs2 := [(oC 10 (mF m 0 4 fl4 (nI 0) (nI E) sp3 fa4 fl4 tk3 ta3 sg3 nu3 wd3 (nI P.1) (nI P.2.1) (nI T9.2.2.1) (nI T9.2.2.2.1) ht sd ah cl)), (aI 600 gt), (aL 8 ln9), (aL 8 wn9), (aI 8 fs9), (aI 24 ff9), (aI 8 fb9), (aI 8 fn9), (aI 8 fp9), (aZ 8 f39), (aI 64 fk9), (aI 64 fx9), (aI 64 fy9), (aI 64 fc9), (aI 11 fr), (aI 11 f1), (aI 11 f2), (aI 22 fi), (aB 4096 fo), (aB 8192 fq), (aZ 2 fh), (aI 2 fj), (aI 4096 fw), (aI 2100 fz)]) rfl rfl) (fun j hj => absurd hj (Nat.not_lt_zero j)) (mPl_fr hG hPm hfh) hG hRm hm0 hm1 hsd hht (Nat.zero_le _)) (mFr_of (by intro a ha; simp only [List.mem_cons, List.not_mem_nil, or_false] at ha; omega))
  · have hp3q := pR_q e5 hp3
    have hb5 := rcS_r e5
    refine w_aload_n dX10_text_81 rfl ?_
    refine w_get (v := .int fa3) fX10_99 (hUs_at nd 0 rfl rfl) rfl dX10_text_82 ?_
    refine w_if_ne_t (tgt := 101) dX10_text_85 rfl (fun z => absurd hp3q.2.1 (by rw [← hp3q.1, z]; decide)) ?_
    refine w_aload_n dX10_text_101 rfl ?_
    refine w_get (v := .int fa3) fX10_99 (hUs_at nd 0 rfl rfl) rfl dX10_text_102 ?_
    refine w_if_le_f (tgt := 123) dX10_text_105 rfl (fun z => absurd hp3q.2.1 (by rw [← hp3q.1]; exact Int32.not_lt.mpr z)) ?_
    refine w_aload_n dX10_text_108 rfl ?_
    refine w_iconst (v := 4) dX10_text_109 (by decide) ?_
    refine w_put (fs' := (mF m 0 4 pl (nI 0) (nI E) sp3 fa3 fl3 tk3 ta3 sg3 nu3 wd3 (nI P.1) (nI P.2.1) rl3 rw3 ht sd ah cl)) fX10_92 (hUs_at nd 0 rfl rfl) rfl rfl (Nat.le_of_ble_eq_true rfl) rfl dX10_text_110 ?_
    refine w_heq (hUs_set nd rfl 0 (cs' := [(oC 10 (mF m 0 4 pl (nI 0) (nI E) sp3 fa3 fl3 tk3 ta3 sg3 nu3 wd3 (nI P.1) (nI P.2.1) rl3 rw3 ht sd ah cl)), (aI 600 gt), (aL 8 ln9), (aL 8 wn9), (aI 8 fs9), (aI 24 ff9), (aI 8 fb9), (aI 8 fn9), (aI 8 fp9), (aZ 8 f39), (aI 64 fk9), (aI 64 fx9), (aI 64 fy9), (aI 64 fc9), (aI 11 fr), (aZ 2 fh)]) rfl rfl) ?_
    refine w_aload_n dX10_text_113 rfl ?_
    refine w_aload_n dX10_text_114 rfl ?_
    refine w_get (v := .int fl3) fX10_105 (hUs_at nd 0 rfl rfl) rfl dX10_text_115 ?_
    refine w_put (fs' := (mF m 0 4 fl3 (nI 0) (nI E) sp3 fa3 fl3 tk3 ta3 sg3 nu3 wd3 (nI P.1) (nI P.2.1) rl3 rw3 ht sd ah cl)) fX10_9 (hUs_at nd 0 rfl rfl) rfl rfl (Nat.le_of_ble_eq_true rfl) rfl dX10_text_118 ?_
    refine w_heq (hUs_set nd rfl 0 (cs' := [(oC 10 (mF m 0 4 fl3 (nI 0) (nI E) sp3 fa3 fl3 tk3 ta3 sg3 nu3 wd3 (nI P.1) (nI P.2.1) rl3 rw3 ht sd ah cl)), (aI 600 gt), (aL 8 ln9), (aL 8 wn9), (aI 8 fs9), (aI 24 ff9), (aI 8 fb9), (aI 8 fn9), (aI 8 fp9), (aZ 8 f39), (aI 64 fk9), (aI 64 fx9), (aI 64 fy9), (aI 64 fc9), (aI 11 fr), (aZ 2 fh)]) rfl rfl) ?_
    refine w_iconst (v := (-1)) dX10_text_121 (by decide) ?_
    refine w_ireturn rfl dX10_text_122 (Nat.le_of_ble_eq_true rfl) (Nat.le_of_ble_eq_true rfl) ?_
    have e8 : R9 = (0, T9.2.1, T9.2.2) := hex.symm.trans (exT_0 hb5.1)
    have ha : b5.1 = T9.2.1.2.2.2.2.2.2.1 := by rw [hb5.2]
    have hb : b5.2 = T9.2.1.2.2.2.2.2.2.2 := by rw [hb5.2]
    rw [e8] at k
    have k2 : ∀ h2, mI h2 m ft 0 P ht R i0 i1 sd (T9.2.1.2.2.2.2.2.2.1) (T9.2.1.2.2.2.2.2.2.2) 4 0 → mFr m h h2 → Q (some (.int (-1))) h2 := fun h2 a b => k h2 a b
    rw [← ha, ← hb, ← hp3q.1, ← hp3q.2.2] at k2
    exact k2 _ (mI_i (cI_put hW (mAs_nd m) rfl [0, 1, 2, 3, 4, 5, 6, 7, 8, 9, 10, 11, 12, 13, 14, 20] (cs2 := [(oC 10 (mF m 0 4 fl3 (nI 0) (nI E) sp3 fa3 fl3 tk3 ta3 sg3 nu3 wd3 (nI P.1) (nI P.2.1) rl3 rw3 ht sd ah cl)), (aI 600 gt), (aL 8 ln9), (aL 8 wn9), (aI 8 fs9), (aI 24 ff9), (aI 8 fb9), (aI 8 fn9), (aI 8 fp9), (aZ 8 f39), (aI 64 fk9), (aI 64 fx9), (aI 64 fy9), (aI 64 fc9), (aI 11 fr), (aI 11 f1), (aI 11 f2), (aI 22 fi), (aB 4096 fo), (aB 8192 fq), (aZ 2 fh), (aI 2 fj), (aI 4096 fw), (aI 2100 fz)]) rfl rfl) (fun j hj => absurd hj (Nat.not_lt_zero j)) (mPl_fr hG hPm hfh) hG hRm hm0 hm1 hsd hht (Nat.zero_le _)) (mFr_of (by intro a ha; simp only [List.mem_cons, List.not_mem_nil, or_false] at ha; omega))
