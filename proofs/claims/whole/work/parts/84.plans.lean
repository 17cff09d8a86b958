theorem rPc_g {ft : Nat → Int32} {x : rD} {W : wP} (hG : wGs W) (h : ¬ (rPc ft x W).1 = 0) : wGs (rPc ft x W).2.2 := by
  by_cases h1 : isW x.2.2.1 x.2.2.2.2.1 [104, 111, 108, 100] 4 = 0
  · by_cases h2 : isW x.2.2.1 x.2.2.2.2.1 [114, 97, 109, 112] 4 = 0
    · by_cases h3 : isW x.2.2.1 x.2.2.2.2.1 [115, 119, 105, 110, 103] 5 = 0
      · exact absurd (by rw [rPc, if_pos h1, if_pos h2, if_pos h3]) h
      · by_cases h8 : W.2.2.2.2.1 < 8
        · have q := pc_swing (ft := ft) (x := x) (W := W) h8 h1 h2 h3
          have e7 := q.1.trans (rcS_1 h)
          obtain ⟨y4, y5, g4, g5, g⟩ := q.2 _ e7
          rw [g]
          exact wGs_px hG (by omega) (rw_rng e7) (ri_rng g4) (Or.inr (Or.inr ⟨rfl, by
          have r9 := rw_rng g5
          obtain ⟨b, hb, e⟩ := in2 (m := 99) (fun y => absurd (Int32.lt_of_lt_of_le y (by decide)) (Int32.not_lt.mpr r9.1)) r9.2 (by decide)
          exact ⟨b, (nI_leI (a := 2) (by decide) (by omega)).mp (e ▸ r9.1), hb, e⟩⟩))
        · exact absurd (by rw [rPc, if_pos h1, if_pos h2, if_neg h3, rPc1, if_neg (by omega)]) h
    · by_cases h8 : W.2.2.2.2.1 < 8
      · have q := pc_ramp (ft := ft) (x := x) (W := W) h8 h1 h2
        have e7 := q.1.trans (rcS_1 h)
        obtain ⟨y4, y5, g4, g5, g⟩ := q.2 _ e7
        rw [g]
        exact wGs_px hG (by omega) (rw_rng e7) (ri_rng g4) (Or.inr (Or.inl ⟨rfl, (ri_rng g5).1, (ri_rng g5).2⟩))
      · exact absurd (by rw [rPc, if_pos h1, if_neg h2, rPc1, if_neg (by omega)]) h
  · by_cases h8 : W.2.2.2.2.1 < 8
    · have q := pc_hold (ft := ft) (x := x) (W := W) h8 h1
      have e7 := q.1.trans (rcS_1 h)
      obtain ⟨y4, y5, g4, g5, g⟩ := q.2 _ e7
      rw [g]
      exact wGs_px hG (by omega) (rw_rng e7) (ri_rng g4) (Or.inl rfl)
    · exact absurd (by rw [rPc, if_neg h1, rPc1, if_neg (by omega)]) h
theorem rWvL_f {ft : Nat → Int32} {x : rD} {W : wP} : ∀ (n : Nat) {mo : Int32}, mo = 0 → (rWvL ft n mo x W).1 = 0
  | 0, _, h => h
  | n + 1, _, h => by rw [rWvL, if_pos h]; exact h
theorem rWvL_g {ft : Nat → Int32} : ∀ (n : Nat) (mo : Int32) (x : rD) (W : wP), wGs W → ¬ (rWvL ft n mo x W).1 = 0 → wGs (rWvL ft n mo x W).2.2
  | 0, _, _, _, hG, _ => hG
  | n + 1, mo, x, W, hG, h => by
    rw [rWvL] at h ⊢
    by_cases e1 : mo = 0
    · rw [if_pos e1] at h; exact absurd e1 h
    · rw [if_neg e1] at h ⊢
      by_cases e2 : isM x.2.2.1 x.2.2.2.2.1 44 = 0
      · rw [if_pos e2]; exact hG
      · rw [if_neg e2] at h ⊢
        by_cases e3 : (rPc ft (rStp ft x) W).1 = 0
        · exact absurd (rWvL_f n e3) h
        · exact rWvL_g n _ _ _ (rPc_g hG e3) h
/-- what the object asks of a plan -/
def pG2 (P : pD) : Prop := (∀ j, j < P.1 → (P.2.2.1 j).2.1 ≤ 3) ∧ (∀ j, j < P.2.1 → wGs (P.2.2.2 j).2)
theorem pG2_ok {P : pD} (h : pG2 P) : pOk P := ⟨h.1, fun j hj => by
  obtain ⟨a, b, c⟩ := h.2 j hj
  have s := sumL_le (P.2.2.2 j).2 _ (fun p hp => (c p hp).1) (P.2.2.2 j).2.2.2.2.2.1 0 (by omega)
  refine ⟨a, ?_⟩
  rw [b]; omega⟩
theorem rLp_g {ft : Nat → Int32} {x : rD} {P : pD} (g : pG2 P) (h : ¬ (rLp ft x P).1 = 0) : pG2 (rLp ft x P).2.2 := by
  by_cases h4 : P.1 < 4
  · have e0 : ¬ (rcS ((rLp ft x P).1, (rLp ft x P).2.1)) = .inr ((0 : Int32), (0 : Int32)) := by
      rw [show rcS ((rLp ft x P).1, (rLp ft x P).2.1) = .inl (rLp ft x P).2.1 from rcS_1 h]; exact fun z => by cases z
    rcases e4 : ndS ft [98, 121] 2 (nwS ft (pL1 P) (gS ft (.inl x))) with y4 | b4
    · obtain ⟨y3, hy3, hcs, hD⟩ := lp_l h4 e4
      have hc := hcs.symm.trans (show rcS ((rLp ft x P).1, (rLp ft x P).2.1) = .inl (rLp ft x P).2.1 from rcS_1 h)
      obtain ⟨hR1, y1, hy1, hDD⟩ := hD _ hc
      have hrf := rFc_g ft 4 y4 0 (fun _ => 0) (by omega) (fun _ _ => rfl) rfl hR1
      rw [rLp_P h4]
      refine ⟨fun j hj => ?_, g.2⟩
      have hj' : j < P.1 + 1 := hj
      show (updD P.2.2.1 P.1 ((rLp ft x P).2.2.2.2.1 P.1) j).2.1 ≤ 3
      by_cases z : j = P.1
      · rw [updD, if_pos z, hDD]; exact hrf.2.1
      · rw [updD, if_neg z]; exact g.1 j (by omega)
    · exact absurd (rcS_r (lp_r h4 e4)).1 h
  · exact absurd (by rw [rLp, if_neg h4]) h
theorem rWv_g {ft : Nat → Int32} {x : rD} {P : pD} (g : pG2 P) (h : ¬ (rWv ft x P).1 = 0) : pG2 (rWv ft x P).2.2 := by
  by_cases h4 : P.2.1 < 4
  · rcases e4 : nwS ft (pW1 P) (gS ft (.inl x)) with y4 | b4
    · obtain ⟨T9, hT9⟩ : ∃ T, rPc ft y4 (wvC (P.2.2.2 P.2.1).2) = T := ⟨_, rfl⟩
      obtain ⟨R9, hR9⟩ : ∃ R, rWvL ft 9 T9.1 T9.2.1 T9.2.2 = R := ⟨_, rfl⟩
      have hD := wv_l h4 e4 hT9 hR9
      rw [hD] at h ⊢
      have h2 : ¬ R9.1 = 0 := h
      have g9 : wGs R9.2.2 := by
        rw [← hR9] at h2 ⊢
        by_cases e3 : T9.1 = 0
        · exact absurd (rWvL_f 9 e3) h2
        · refine rWvL_g 9 _ _ _ ?_ h2
          rw [← hT9] at e3 ⊢
          exact rPc_g (wGs_0 _) e3
      refine ⟨g.1, fun j hj => ?_⟩
      have hj' : j < P.2.1 + 1 := hj
      show wGs (updD P.2.2.2 P.2.1 (y4.2.2.2.2.2.1, R9.2.2) j).2
      by_cases z : j = P.2.1
      · rw [updD, if_pos z]; exact g9
      · rw [updD, if_neg z]; exact g.2 j (by omega)
    · exact absurd (rcS_r (wv_r h4 e4)).1 h
  · exact absurd (by rw [rWv, if_neg h4]) h
theorem rLn_g {ft : Nat → Int32} {x : rD} {P : pD} (g : pG2 P) (h : ¬ (rLn ft x P).1 = 0) : pG2 (rLn ft x P).2.2 := by
  rw [rLn] at h ⊢
  by_cases e1 : isW x.2.2.1 x.2.2.2.2.1 [108, 111, 111, 112] 4 = 0
  · rw [if_pos e1] at h ⊢
    by_cases e2 : isW x.2.2.1 x.2.2.2.2.1 [119, 97, 118, 101] 4 = 0
    · rw [if_pos e2] at h; exact absurd rfl h
    · rw [if_neg e2] at h ⊢; exact rWv_g g h
  · rw [if_neg e1] at h ⊢; exact rLp_g g h
theorem rTx_g {ft : Nat → Int32} : ∀ (n : Nat) (x : rD) (P : pD), pG2 P → ¬ (rTx ft n x P).1 = 0 → pG2 (rTx ft n x P).2.2
  | 0, _, _, _, h => absurd rfl h
  | n + 1, x, P, g, h => by
    rw [rTx] at h ⊢
    by_cases e1 : (rLn ft x P).1 = 0
    · rw [if_pos e1] at h; exact absurd rfl h
    · rw [if_neg e1] at h ⊢
      by_cases e2 : (rLn ft x P).2.1.2.2.1 = 0
      · rw [if_pos e2]; exact rLn_g g e1
      · rw [if_neg e2] at h ⊢
        by_cases e3 : (rTM ft 59 (rLn ft x P).2.1).1 = 0
        · rw [if_pos e3] at h; exact absurd rfl h
        · rw [if_neg e3] at h ⊢
          exact rTx_g n _ _ (rLn_g g e1) h
theorem txX_ok {ft : Nat → Int32} {E : Nat} (x : rD) (P : pD) (h : ¬ (txX ft E x P).1 = 0) : pOk (txX ft E x P).2.2 :=
  pG2_ok (rTx_g 600 _ _ ⟨fun j hj => absurd hj (Nat.not_lt_zero j), fun j hj => absurd hj (Nat.not_lt_zero j)⟩ h)
set_option maxRecDepth 100000 in
set_option maxHeartbeats 4000000 in
theorem q_text_n {G : wG} {d : Nat} {h : hH} {Q : Option Value → hH → Prop} {m : Nat} {ft : Nat → Int32} {tp : Nat} {P : pD} {ht : Int32} {R : Option rnD} {i0 i1 : imD} {sd fa pl tr : Int32} {th : Int32}  {y : Int32} (hI : mI h m ft tp P ht R i0 i1 sd fa pl tr th) (hy : inB y 0 (nI tp) = 0) (k : ∀ h2, mI h2 m ft tp P ht R i0 i1 sd fa (-1) 2 0 → mFr m h h2 → Q (some (.int (-1))) h2) : Cl G yX10_text (d + 12) 0 0 [.ref m, .int y] h Q := by
  refine mI_e hI ?_
  intro sz sp fl tk ta sg nu wd rl rw ah cl gt ln wn fs ff fb fn fp f3 fk fx fy fc fr f1 f2 fi fo fq fh fj fw fz hW hT hPm hG hRm hm0 hm1 hsd hht htp
  have hnL : P.1 ≤ 4096 := Nat.le_trans hG.2.2.1 (by decide)
  have hnW : P.2.1 ≤ 4096 := Nat.le_trans hG.2.2.2 (by decide)
  have hhL : (ht = 0 ∧ P.1 = 0) ∨ ht = 1 := hht.imp (fun z => ⟨z.1, z.2.1⟩) id
  have hhW : (ht = 0 ∧ P.2.1 = 0) ∨ ht = 1 := hht.imp (fun z => ⟨z.1, z.2.2⟩) id
  have hw : hHas h [m] [(oC 10 (mF m th tr pl (nI tp) sz sp fa fl tk ta sg nu wd (nI P.1) (nI P.2.1) rl rw ht sd ah cl))] := hHas_s hW [0] rfl rfl
  have nd : [m].Nodup := (nd_inc trivial)
  refine Cl.of (ini := false) kX10_text (plainFor_of_name (by decide)) (by decide) (Nat.le_of_ble_eq_true rfl) rfl rfl (fun z => by cases z) ?_
  refine w_heq (hUs_id hw).symm ?_
  refine w_aload_n dX10_text_0 rfl ?_
  refine w_iconst (v := 0) dX10_text_1 (by decide) ?_
  refine w_put (fs' := (mF m 0 tr pl (nI tp) sz sp fa fl tk ta sg nu wd (nI P.1) (nI P.2.1) rl rw ht sd ah cl)) fX10_89 (hUs_at nd 0 rfl rfl) rfl rfl (Nat.le_of_ble_eq_true rfl) rfl dX10_text_2 ?_
  refine w_heq (hUs_set nd rfl 0 (cs' := [(oC 10 (mF m 0 tr pl (nI tp) sz sp fa fl tk ta sg nu wd (nI P.1) (nI P.2.1) rl rw ht sd ah cl))]) rfl rfl) ?_
  refine w_iload_n dX10_text_5 rfl ?_
  refine w_iconst (v := 0) dX10_text_6 (by decide) ?_
  refine w_aload_n dX10_text_7 rfl ?_
  refine w_get (v := .int (nI tp)) fX10_96 (hUs_at nd 0 rfl rfl) rfl dX10_text_8 ?_
  refine w_callS (d' := d + 11) (mc' := 0) (ms' := 0) (As := [.int y, .int 0, .int (nI tp)]) (st := []) lX10_111 vX10_in rfl (Nat.le_of_ble_eq_true rfl) dX10_text_11 (Nat.le_of_ble_eq_true rfl) (Nat.le_of_ble_eq_true rfl) (Nat.le_refl _) (c_in ?_)
  refine w_if_ne_f (tgt := 23) dX10_text_14 rfl hy ?_
  refine w_aload_n dX10_text_17 rfl ?_
  refine w_iconst (v := 2) dX10_text_18 (by decide) ?_
  refine w_callV (ci := 10) (d' := d + 11) (mc' := 0) (ms' := 0) (As := [.int 2]) (st := []) lX10_228 vX10_refused rfl (hUs_at nd 0 rfl rfl) rfl (Nat.le_of_ble_eq_true rfl) dX10_text_19 (Nat.le_of_ble_eq_true rfl) (Nat.le_of_ble_eq_true rfl) (Nat.le_refl _) (m_refused (hHas_sub nd (as' := [m]) (cs' := [(oC 10 (mF m 0 tr pl (nI tp) sz sp fa fl tk ta sg nu wd (nI P.1) (nI P.2.1) rl rw ht sd ah cl))]) [0] rfl rfl) (nd_sub nd (as' := [m]) [0] rfl rfl)  ?_)
  refine w_heq (hUs_in nd rfl [0] (cs2 := [(oC 10 (mF m 0 2 (-1) (nI tp) sz sp fa fl tk ta sg nu wd (nI P.1) (nI P.2.1) rl rw ht sd ah cl))]) rfl rfl) ?_
  refine w_ireturn rfl dX10_text_22 (Nat.le_of_ble_eq_true rfl) (Nat.le_of_ble_eq_true rfl) ?_
  exact k _ (mI_i (cI_put hW (mAs_nd m) rfl [0] (cs2 := [(oC 10 (mF m 0 2 (-1) (nI tp) sz sp fa fl tk ta sg nu wd (nI P.1) (nI P.2.1) rl rw ht sd ah cl)), (aI 600 gt), (aL 8 ln), (aL 8 wn), (aI 8 fs), (aI 24 ff), (aI 8 fb), (aI 8 fn), (aI 8 fp), (aZ 8 f3), (aI 64 fk), (aI 64 fx), (aI 64 fy), (aI 64 fc), (aI 11 fr), (aI 11 f1), (aI 11 f2), (aI 22 fi), (aB 4096 fo), (aB 8192 fq), (aZ 2 fh), (aI 2 fj), (aI 4096 fw), (aI 2100 fz)]) rfl rfl) hT hPm hG hRm hm0 hm1 hsd hht htp) (mFr_of (by intro a ha; simp only [List.mem_cons, List.not_mem_nil, or_false] at ha; omega))
