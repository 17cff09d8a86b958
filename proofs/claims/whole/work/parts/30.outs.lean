theorem fld_c {α : Type} {f g : Nat → α → α} (a : Nat) : ∀ (n : Nat) (s : α), (∀ t, a ≤ t → t < a + n → f t = g t) → fld f a n s = fld g a n s
  | 0, _, _ => rfl
  | n + 1, s, h => by rw [fld, fld, h (a + n) (by omega) (by omega), fld_c a n s (fun t h1 h2 => h t h1 (by omega))]
theorem hasS_n {a b : Int32} {c : Nat} (h : ¬ hasS a b c = 0) (hc : c ≤ 4096) : ∃ A B, A ≤ B ∧ B < c ∧ a = nI A ∧ b = nI B := by
  unfold hasS at h
  by_cases e : 0 ≤ a ∧ a ≤ b ∧ b < nI c
  · obtain ⟨e1, e2, e3⟩ := e
    obtain ⟨A, hA, rfl⟩ := nI_of (Int32.not_lt.mpr e1)
    obtain ⟨B, hB, rfl⟩ := nI_of (Int32.not_lt.mpr (Int32.le_trans e1 e2))
    exact ⟨A, B, (nI_leI hA hB).mp e2, (nI_ltI hB (by omega)).mp e3, rfl, rfl⟩
  · rw [if_neg e] at h; exact absurd rfl h
abbrev tN (x : Int32) : Nat := x.toNatClampNeg
theorem hasS_t {a b : Int32} {c : Nat} (h : ¬ hasS a b c = 0) (hc : c ≤ 4096) : tN a ≤ tN b ∧ tN b < c := by
  obtain ⟨A, B, h1, h2, rfl, rfl⟩ := hasS_n h hc
  rw [tN, tN, nI_clamp (by omega), nI_clamp (by omega)]
  exact ⟨h1, h2⟩

def oOutF (F : Nat → Int32) (c : Nat) (y : Int32) : Int32 × Int32 := if hasS y y c = 0 then (-1000000000, 2) else (F (tN y), 0)
theorem oOutF_c {f g : Nat → Int32} {c : Nat} (h : ∀ t, t < c → f t = g t) (hc : c ≤ 4096) (y : Int32) : oOutF f c y = oOutF g c y := by
  unfold oOutF
  by_cases e : hasS y y c = 0
  · rw [if_pos e, if_pos e]
  · rw [if_neg e, if_neg e]
    rw [h _ (hasS_t e hc).2]
def oOut (P : pD) (R : Option rnD) (y : Int32) : Int32 × Int32 := match R with
  | none => (-1000000000, 1)
  | some r => oOutF (rO (rQo P r.1 r.2.1 r.2.2.1)) r.2.2.2 y
set_option maxRecDepth 100000 in
set_option maxHeartbeats 4000000 in
theorem p_out_n {G : wG} {d : Nat} {h : hH} {Q : Option Value → hH → Prop} {b : Nat} {ft : Nat → Int32} {tp : Nat} {P : pD} {ht : Int32} {i0 i1 : imD} {sd fa pl tr : Int32}  {y : Int32} (hI : cI h b ft tp P ht none i0 i1 sd fa pl tr)  (k : ∀ h2, cI h2 b ft tp P ht none i0 i1 sd fa (-1) (oOut P none y).2 → cFr b h h2 → Q (some (.int (oOut P none y).1)) h2) : Cl G yX9_out (d + 1) 0 0 [.ref b, .int y] h Q := by
  refine cI_e hI ?_
  intro pp ps P2 go ln wn rsd c qw ql cn s fo fg fz i01 i02 i03 i04 i05 i06 i07 i11 i12 i13 i14 i15 i16 i17 wm fw f q0 c0 s1 q1 c1 s2 q2 c2 x hW hpp hP1 hP2 hR hi0 hi1 htp hpo hht
  have hgo : go = 0 := hR
  subst hgo
  have hw : hHas h [b, b + 1] [(oC 9 [.ref (b + 1), .ref (b + 14), .ref (b + 17), .ref (b + 19), .ref (b + 25), .ref (b + 29), .ref (b + 33), .ref pp, .int ht, .int (nI tp), .int sd, .int fa, .int pl, .int tr]), (oC 6 [.ref (b + 2), .ref (b + 6), .ref (b + 7), .ref (b + 8), .ref qw, .int 0, .int ln, .int wn, .int rsd, .int (nI c)])] := hHas_s hW [0, 1] rfl rfl
  have nd : [b, b + 1].Nodup := (nd_inc ⟨by omega, trivial⟩)
  refine Cl.of (ini := false) kX9_out (plainFor_of_name (by decide)) (by decide) (Nat.le_of_ble_eq_true rfl) rfl rfl (fun z => by cases z) ?_
  refine w_heq (hUs_id hw).symm ?_
  refine w_aload_n dX9_out_0 rfl ?_
  refine w_get (v := .ref (b + 1)) fX9_10 (hUs_at nd 0 rfl rfl) rfl dX9_out_1 ?_
  refine w_get (v := .int 0) fX9_139 (hUs_at nd 1 rfl rfl) rfl dX9_out_4 ?_
  refine w_if_ne_f (tgt := 18) dX9_out_7 rfl (by decide) ?_
  refine w_aload_n dX9_out_10 rfl ?_
  refine w_iconst (v := 1) dX9_out_11 (by decide) ?_
  refine w_ldc nX9_120 dX9_out_12 ?_
  refine w_callV (ci := 9) (d' := d) (mc' := 0) (ms' := 0) (As := [.int 1, .int (-1000000000)]) (st := []) lX9_75 vX9_refused rfl (hUs_at nd 0 rfl rfl) rfl (Nat.le_of_ble_eq_true rfl) dX9_out_14 (Nat.le_of_ble_eq_true rfl) (Nat.le_of_ble_eq_true rfl) (Nat.le_refl _) (c_refused (hHas_sub nd (as' := [b]) (cs' := [(oC 9 [.ref (b + 1), .ref (b + 14), .ref (b + 17), .ref (b + 19), .ref (b + 25), .ref (b + 29), .ref (b + 33), .ref pp, .int ht, .int (nI tp), .int sd, .int fa, .int pl, .int tr])]) [0] rfl rfl) (nd_sub nd (as' := [b]) [0] rfl rfl)  ?_)
  refine w_heq (hUs_in nd rfl [0] (cs2 := [(oC 9 [.ref (b + 1), .ref (b + 14), .ref (b + 17), .ref (b + 19), .ref (b + 25), .ref (b + 29), .ref (b + 33), .ref pp, .int ht, .int (nI tp), .int sd, .int fa, .int (-1), .int 1]), (oC 6 [.ref (b + 2), .ref (b + 6), .ref (b + 7), .ref (b + 8), .ref qw, .int 0, .int ln, .int wn, .int rsd, .int (nI c)])]) rfl rfl) ?_
  refine w_ireturn rfl dX9_out_17 (Nat.le_of_ble_eq_true rfl) (Nat.le_of_ble_eq_true rfl) ?_
  have e : oOut P none y = ((-1000000000), 1) := by
    simp [oOut]
  rw [e] at k
  exact k _ (cI_i (cI_put hW (cAs_nd b) rfl [0, 1] (cs2 := [(oC 9 [.ref (b + 1), .ref (b + 14), .ref (b + 17), .ref (b + 19), .ref (b + 25), .ref (b + 29), .ref (b + 33), .ref pp, .int ht, .int (nI tp), .int sd, .int fa, .int (-1), .int 1]), (oC 6 [.ref (b + 2), .ref (b + 6), .ref (b + 7), .ref (b + 8), .ref qw, .int 0, .int ln, .int wn, .int rsd, .int (nI c)]), (oC 0 [.ref (b + 3), .ref ql, .int cn, .int s.2.1, .int s.2.2]), (aI 3 s.1), (aB 4096 fo), (aI 4096 fg), (aI 3 fz), (aR RX2 2 (imR b)), (oC 2 [.int i01, .int i02, .int i03, .int i04, .int i05, .int i06, .int i07]), (oC 2 [.int i11, .int i12, .int i13, .int i14, .int i15, .int i16, .int i17]), (oC 8 [.ref (b + 18), .int wm]), (aI 94 fw), (oC 1 [.ref (b + 20), .ref (b + 24), .int f.2.2.1.1, .int f.2.2.1.2.1, .int f.2.2.2.1, .int f.2.2.1.2.2.1, .int f.2.2.1.2.2.2.1, .int f.2.2.1.2.2.2.2.1, .int f.2.2.1.2.2.2.2.2]), (oC 0 [.ref (b + 21), .ref q0, .int c0, .int f.1.2.1, .int f.1.2.2]), (aI 3 f.1.1), (aI 3 f.2.1), (oC 0 [.ref (b + 26), .ref q1, .int c1, .int s1.2.1, .int s1.2.2]), (aI 3 s1.1), (oC 0 [.ref (b + 30), .ref q2, .int c2, .int s2.2.1, .int s2.2.2]), (aI 3 s2.1), (oC 5 (rdF (b + 34) ps x)), (aB 600 ft)]) rfl rfl) hpp (hPl_o hP1 (by intro a ha; simp only [List.mem_cons, List.not_mem_nil, or_false] at ha; rcases hpp with hpp | hpp <;> omega)) (hPl_o hP2 (by intro a ha; simp only [List.mem_cons, List.not_mem_nil, or_false] at ha; rcases hpp with hpp | hpp <;> omega)) hR hi0 hi1 htp hpo hht) (cFr_of (by intro a ha; simp only [List.mem_cons, List.not_mem_nil, or_false] at ha; omega))
set_option maxRecDepth 100000 in
set_option maxHeartbeats 4000000 in
theorem p_out_s {G : wG} {d : Nat} {h : hH} {Q : Option Value → hH → Prop} {b : Nat} {ft : Nat → Int32} {tp : Nat} {P : pD} {ht : Int32} {i0 i1 : imD} {sd fa pl tr : Int32}  {l w cc : Nat} {rs : Int32} {y : Int32} (hI : cI h b ft tp P ht (some (l, w, rs, cc)) i0 i1 sd fa pl tr)  (k : ∀ h2, cI h2 b ft tp P ht (some (l, w, rs, cc)) i0 i1 sd fa (-1) (oOut P (some (l, w, rs, cc)) y).2 → cFr b h h2 → Q (some (.int (oOut P (some (l, w, rs, cc)) y).1)) h2) : Cl G yX9_out (d + 1) 0 0 [.ref b, .int y] h Q := by
  refine cI_e hI ?_
  intro pp ps P2 go ln wn rsd c qw ql cn s fo fg fz i01 i02 i03 i04 i05 i06 i07 i11 i12 i13 i14 i15 i16 i17 wm fw f q0 c0 s1 q1 c1 s2 q2 c2 x hW hpp hP1 hP2 hR hi0 hi1 htp hpo hht
  have hR0 := hR
  simp only [rIv] at hR
  obtain ⟨hrn, hgo, hln, hwn, hrs, hcc, hqw, hql, hcn, hs, hfo, hfg, hfz⟩ := hR
  subst hgo; subst hln; subst hwn; subst hrs; subst hcc
  have hc : c ≤ 4096 := hrn.2.2
  rw [show oOut P (some (l, w, rsd, c)) y = oOutF fo c y from (oOutF_c hfo hc y).symm] at k
  
  have hw : hHas h [b, b + 1, b + 6] [(oC 9 [.ref (b + 1), .ref (b + 14), .ref (b + 17), .ref (b + 19), .ref (b + 25), .ref (b + 29), .ref (b + 33), .ref pp, .int ht, .int (nI tp), .int sd, .int fa, .int pl, .int tr]), (oC 6 [.ref (b + 2), .ref (b + 6), .ref (b + 7), .ref (b + 8), .ref qw, .int 1, .int (nI l), .int (nI w), .int rsd, .int (nI c)]), (aB 4096 fo)] := hHas_s hW [0, 1, 4] rfl rfl
  have nd : [b, b + 1, b + 6].Nodup := (nd_inc ⟨by omega, by omega, trivial⟩)
  refine Cl.of (ini := false) kX9_out (plainFor_of_name (by decide)) (by decide) (Nat.le_of_ble_eq_true rfl) rfl rfl (fun z => by cases z) ?_
  refine w_heq (hUs_id hw).symm ?_
  refine w_aload_n dX9_out_0 rfl ?_
  refine w_get (v := .ref (b + 1)) fX9_10 (hUs_at nd 0 rfl rfl) rfl dX9_out_1 ?_
  refine w_get (v := .int 1) fX9_139 (hUs_at nd 1 rfl rfl) rfl dX9_out_4 ?_
  refine w_if_ne_t (tgt := 18) dX9_out_7 rfl (by decide) ?_
  refine w_aload_n dX9_out_18 rfl ?_
  refine w_get (v := .ref (b + 1)) fX9_10 (hUs_at nd 0 rfl rfl) rfl dX9_out_19 ?_
  refine w_iload_n dX9_out_22 rfl ?_
  refine w_iload_n dX9_out_23 rfl ?_
  refine w_callV (ci := 6) (d' := d) (mc' := 0) (ms' := 0) (As := [.int y, .int y]) (st := []) lX9_162 vX6_hasStretch rfl (hUs_at nd 1 rfl rfl) rfl (Nat.le_of_ble_eq_true rfl) dX9_out_24 (Nat.le_of_ble_eq_true rfl) (Nat.le_of_ble_eq_true rfl) (Nat.le_refl _) (c_hasStretch (hHas_sub nd (as' := [b + 1]) (cs' := [(oC 6 [.ref (b + 2), .ref (b + 6), .ref (b + 7), .ref (b + 8), .ref qw, .int 1, .int (nI l), .int (nI w), .int rsd, .int (nI c)])]) [1] rfl rfl)  ?_)
  refine w_if_ne (tgt := 38) dX9_out_27 rfl (fun b27 => ?_) (fun b27 => ?_)
  · obtain ⟨A, B, hA, hB, rfl, hB9⟩ := hasS_n b27 hc
    have hAc := nI_clamp (show A < 2 ^ 31 by omega)
    have hB8 := (nI_eq (a := A) (b := B) (by omega) (by omega)).mp hB9
    refine w_aload_n dX9_out_38 rfl ?_
    refine w_aload_n dX9_out_39 rfl ?_
    refine w_get (v := .ref (b + 1)) fX9_10 (hUs_at nd 0 rfl rfl) rfl dX9_out_40 ?_
    refine w_get (v := .ref (b + 6)) fX9_166 (hUs_at nd 1 rfl rfl) rfl dX9_out_43 ?_
    refine w_iload_n dX9_out_46 rfl ?_
    refine w_baloadN (hUs_at nd 2 rfl rfl) (by omega) (by omega) dX9_out_47 ?_
    refine w_callV (ci := 9) (d' := d) (mc' := 0) (ms' := 0) (As := [.int (fo A)]) (st := []) lX9_96 vX9_granted rfl (hUs_at nd 0 rfl rfl) rfl (Nat.le_of_ble_eq_true rfl) dX9_out_48 (Nat.le_of_ble_eq_true rfl) (Nat.le_of_ble_eq_true rfl) (Nat.le_refl _) (c_granted (hHas_sub nd (as' := [b]) (cs' := [(oC 9 [.ref (b + 1), .ref (b + 14), .ref (b + 17), .ref (b + 19), .ref (b + 25), .ref (b + 29), .ref (b + 33), .ref pp, .int ht, .int (nI tp), .int sd, .int fa, .int pl, .int tr])]) [0] rfl rfl) (nd_sub nd (as' := [b]) [0] rfl rfl)  ?_)
    refine w_heq (hUs_in nd rfl [0] (cs2 := [(oC 9 [.ref (b + 1), .ref (b + 14), .ref (b + 17), .ref (b + 19), .ref (b + 25), .ref (b + 29), .ref (b + 33), .ref pp, .int ht, .int (nI tp), .int sd, .int fa, .int (-1), .int 0]), (oC 6 [.ref (b + 2), .ref (b + 6), .ref (b + 7), .ref (b + 8), .ref qw, .int 1, .int (nI l), .int (nI w), .int rsd, .int (nI c)]), (aB 4096 fo)]) rfl rfl) ?_
    refine w_ireturn rfl dX9_out_51 (Nat.le_of_ble_eq_true rfl) (Nat.le_of_ble_eq_true rfl) ?_
    have e : oOutF fo c (nI A) = (fo A, 0) := by
      simp [oOutF, hAc, b27]
    rw [e] at k
    exact k _ (cI_i (cI_put hW (cAs_nd b) rfl [0, 1, 4] (cs2 := [(oC 9 [.ref (b + 1), .ref (b + 14), .ref (b + 17), .ref (b + 19), .ref (b + 25), .ref (b + 29), .ref (b + 33), .ref pp, .int ht, .int (nI tp), .int sd, .int fa, .int (-1), .int 0]), (oC 6 [.ref (b + 2), .ref (b + 6), .ref (b + 7), .ref (b + 8), .ref qw, .int 1, .int (nI l), .int (nI w), .int rsd, .int (nI c)]), (oC 0 [.ref (b + 3), .ref ql, .int cn, .int s.2.1, .int s.2.2]), (aI 3 s.1), (aB 4096 fo), (aI 4096 fg), (aI 3 fz), (aR RX2 2 (imR b)), (oC 2 [.int i01, .int i02, .int i03, .int i04, .int i05, .int i06, .int i07]), (oC 2 [.int i11, .int i12, .int i13, .int i14, .int i15, .int i16, .int i17]), (oC 8 [.ref (b + 18), .int wm]), (aI 94 fw), (oC 1 [.ref (b + 20), .ref (b + 24), .int f.2.2.1.1, .int f.2.2.1.2.1, .int f.2.2.2.1, .int f.2.2.1.2.2.1, .int f.2.2.1.2.2.2.1, .int f.2.2.1.2.2.2.2.1, .int f.2.2.1.2.2.2.2.2]), (oC 0 [.ref (b + 21), .ref q0, .int c0, .int f.1.2.1, .int f.1.2.2]), (aI 3 f.1.1), (aI 3 f.2.1), (oC 0 [.ref (b + 26), .ref q1, .int c1, .int s1.2.1, .int s1.2.2]), (aI 3 s1.1), (oC 0 [.ref (b + 30), .ref q2, .int c2, .int s2.2.1, .int s2.2.2]), (aI 3 s2.1), (oC 5 (rdF (b + 34) ps x)), (aB 600 ft)]) rfl rfl) hpp (hPl_o hP1 (by intro a ha; simp only [List.mem_cons, List.not_mem_nil, or_false] at ha; rcases hpp with hpp | hpp <;> omega)) (hPl_o hP2 (by intro a ha; simp only [List.mem_cons, List.not_mem_nil, or_false] at ha; rcases hpp with hpp | hpp <;> omega)) hR0 hi0 hi1 htp hpo hht) (cFr_of (by intro a ha; simp only [List.mem_cons, List.not_mem_nil, or_false] at ha; omega))
  · refine w_aload_n dX9_out_30 rfl ?_
    refine w_iconst (v := 2) dX9_out_31 (by decide) ?_
    refine w_ldc nX9_120 dX9_out_32 ?_
    refine w_callV (ci := 9) (d' := d) (mc' := 0) (ms' := 0) (As := [.int 2, .int (-1000000000)]) (st := []) lX9_75 vX9_refused rfl (hUs_at nd 0 rfl rfl) rfl (Nat.le_of_ble_eq_true rfl) dX9_out_34 (Nat.le_of_ble_eq_true rfl) (Nat.le_of_ble_eq_true rfl) (Nat.le_refl _) (c_refused (hHas_sub nd (as' := [b]) (cs' := [(oC 9 [.ref (b + 1), .ref (b + 14), .ref (b + 17), .ref (b + 19), .ref (b + 25), .ref (b + 29), .ref (b + 33), .ref pp, .int ht, .int (nI tp), .int sd, .int fa, .int pl, .int tr])]) [0] rfl rfl) (nd_sub nd (as' := [b]) [0] rfl rfl)  ?_)
    refine w_heq (hUs_in nd rfl [0] (cs2 := [(oC 9 [.ref (b + 1), .ref (b + 14), .ref (b + 17), .ref (b + 19), .ref (b + 25), .ref (b + 29), .ref (b + 33), .ref pp, .int ht, .int (nI tp), .int sd, .int fa, .int (-1), .int 2]), (oC 6 [.ref (b + 2), .ref (b + 6), .ref (b + 7), .ref (b + 8), .ref qw, .int 1, .int (nI l), .int (nI w), .int rsd, .int (nI c)]), (aB 4096 fo)]) rfl rfl) ?_
    refine w_ireturn rfl dX9_out_37 (Nat.le_of_ble_eq_true rfl) (Nat.le_of_ble_eq_true rfl) ?_
    have e : oOutF fo c y = ((-1000000000), 2) := by
      simp [oOutF, b27]
    rw [e] at k
    exact k _ (cI_i (cI_put hW (cAs_nd b) rfl [0, 1, 4] (cs2 := [(oC 9 [.ref (b + 1), .ref (b + 14), .ref (b + 17), .ref (b + 19), .ref (b + 25), .ref (b + 29), .ref (b + 33), .ref pp, .int ht, .int (nI tp), .int sd, .int fa, .int (-1), .int 2]), (oC 6 [.ref (b + 2), .ref (b + 6), .ref (b + 7), .ref (b + 8), .ref qw, .int 1, .int (nI l), .int (nI w), .int rsd, .int (nI c)]), (oC 0 [.ref (b + 3), .ref ql, .int cn, .int s.2.1, .int s.2.2]), (aI 3 s.1), (aB 4096 fo), (aI 4096 fg), (aI 3 fz), (aR RX2 2 (imR b)), (oC 2 [.int i01, .int i02, .int i03, .int i04, .int i05, .int i06, .int i07]), (oC 2 [.int i11, .int i12, .int i13, .int i14, .int i15, .int i16, .int i17]), (oC 8 [.ref (b + 18), .int wm]), (aI 94 fw), (oC 1 [.ref (b + 20), .ref (b + 24), .int f.2.2.1.1, .int f.2.2.1.2.1, .int f.2.2.2.1, .int f.2.2.1.2.2.1, .int f.2.2.1.2.2.2.1, .int f.2.2.1.2.2.2.2.1, .int f.2.2.1.2.2.2.2.2]), (oC 0 [.ref (b + 21), .ref q0, .int c0, .int f.1.2.1, .int f.1.2.2]), (aI 3 f.1.1), (aI 3 f.2.1), (oC 0 [.ref (b + 26), .ref q1, .int c1, .int s1.2.1, .int s1.2.2]), (aI 3 s1.1), (oC 0 [.ref (b + 30), .ref q2, .int c2, .int s2.2.1, .int s2.2.2]), (aI 3 s2.1), (oC 5 (rdF (b + 34) ps x)), (aB 600 ft)]) rfl rfl) hpp (hPl_o hP1 (by intro a ha; simp only [List.mem_cons, List.not_mem_nil, or_false] at ha; rcases hpp with hpp | hpp <;> omega)) (hPl_o hP2 (by intro a ha; simp only [List.mem_cons, List.not_mem_nil, or_false] at ha; rcases hpp with hpp | hpp <;> omega)) hR0 hi0 hi1 htp hpo hht) (cFr_of (by intro a ha; simp only [List.mem_cons, List.not_mem_nil, or_false] at ha; omega))
theorem p_out {G : wG} {d : Nat} {h : hH} {Q : Option Value → hH → Prop} {b : Nat} {ft : Nat → Int32} {tp : Nat} {P : pD} {ht : Int32} {R : Option rnD} {i0 i1 : imD} {sd fa pl tr : Int32}  {y : Int32} (hI : cI h b ft tp P ht R i0 i1 sd fa pl tr) (k : ∀ h2, cI h2 b ft tp P ht R i0 i1 sd fa (-1) (oOut P R y).2 → cFr b h h2 → Q (some (.int (oOut P R y).1)) h2) : Cl G yX9_out (d + 1) 0 0 [.ref b, .int y] h Q := by
  cases R with
  | none => exact p_out_n hI k
  | some r => obtain ⟨l, w, rs, cc⟩ := r; exact p_out_s hI k
def oOftF (F : Nat → Int32) (c : Nat) (v a u : Int32) : Int32 × Int32 := if vlB v = 0 ∨ hasS a u c = 0 then (-1, 2) else (fld (fun t s => s + (if F t = v then 1 else 0)) (tN a) (tN u + 1 - tN a) 0, 0)
theorem oOftF_c {f g : Nat → Int32} {c : Nat} (h : ∀ t, t < c → f t = g t) (hc : c ≤ 4096) (v a u : Int32) : oOftF f c v a u = oOftF g c v a u := by
  unfold oOftF
  by_cases e : vlB v = 0 ∨ hasS a u c = 0
  · rw [if_pos e, if_pos e]
  · rw [if_neg e, if_neg e]
    have z := hasS_t (fun z => e (Or.inr z)) hc
    rw [fld_c (g := fun t s => s + (if g t = v then 1 else 0)) (tN a) _ _ (fun t h1 h2 => by funext s; rw [h t (by omega)])]
def oOft (P : pD) (R : Option rnD) (v a u : Int32) : Int32 × Int32 := match R with
  | none => (-1, 1)
  | some r => oOftF (rO (rQo P r.1 r.2.1 r.2.2.1)) r.2.2.2 v a u
set_option maxRecDepth 100000 in
set_option maxHeartbeats 4000000 in
theorem p_often_n {G : wG} {d : Nat} {h : hH} {Q : Option Value → hH → Prop} {b : Nat} {ft : Nat → Int32} {tp : Nat} {P : pD} {ht : Int32} {i0 i1 : imD} {sd fa pl tr : Int32}  {v a u : Int32} (hI : cI h b ft tp P ht none i0 i1 sd fa pl tr)  (k : ∀ h2, cI h2 b ft tp P ht none i0 i1 sd fa (-1) (oOft P none v a u).2 → cFr b h h2 → Q (some (.int (oOft P none v a u).1)) h2) : Cl G yX9_often (d + 1) 0 0 [.ref b, .int v, .int a, .int u] h Q := by
  refine cI_e hI ?_
  intro pp ps P2 go ln wn rsd c qw ql cn s fo fg fz i01 i02 i03 i04 i05 i06 i07 i11 i12 i13 i14 i15 i16 i17 wm fw f q0 c0 s1 q1 c1 s2 q2 c2 x hW hpp hP1 hP2 hR hi0 hi1 htp hpo hht
  have hgo : go = 0 := hR
  subst hgo
  have hw : hHas h [b, b + 1] [(oC 9 [.ref (b + 1), .ref (b + 14), .ref (b + 17), .ref (b + 19), .ref (b + 25), .ref (b + 29), .ref (b + 33), .ref pp, .int ht, .int (nI tp), .int sd, .int fa, .int pl, .int tr]), (oC 6 [.ref (b + 2), .ref (b + 6), .ref (b + 7), .ref (b + 8), .ref qw, .int 0, .int ln, .int wn, .int rsd, .int (nI c)])] := hHas_s hW [0, 1] rfl rfl
  have nd : [b, b + 1].Nodup := (nd_inc ⟨by omega, trivial⟩)
  refine Cl.of (ini := false) kX9_often (plainFor_of_name (by decide)) (by decide) (Nat.le_of_ble_eq_true rfl) rfl rfl (fun z => by cases z) ?_
  refine w_heq (hUs_id hw).symm ?_
  refine w_aload_n dX9_often_0 rfl ?_
  refine w_get (v := .ref (b + 1)) fX9_10 (hUs_at nd 0 rfl rfl) rfl dX9_often_1 ?_
  refine w_get (v := .int 0) fX9_139 (hUs_at nd 1 rfl rfl) rfl dX9_often_4 ?_
  refine w_if_ne_f (tgt := 17) dX9_often_7 rfl (by decide) ?_
  refine w_aload_n dX9_often_10 rfl ?_
  refine w_iconst (v := 1) dX9_often_11 (by decide) ?_
  refine w_iconst (v := (-1)) dX9_often_12 (by decide) ?_
  refine w_callV (ci := 9) (d' := d) (mc' := 0) (ms' := 0) (As := [.int 1, .int (-1)]) (st := []) lX9_75 vX9_refused rfl (hUs_at nd 0 rfl rfl) rfl (Nat.le_of_ble_eq_true rfl) dX9_often_13 (Nat.le_of_ble_eq_true rfl) (Nat.le_of_ble_eq_true rfl) (Nat.le_refl _) (c_refused (hHas_sub nd (as' := [b]) (cs' := [(oC 9 [.ref (b + 1), .ref (b + 14), .ref (b + 17), .ref (b + 19), .ref (b + 25), .ref (b + 29), .ref (b + 33), .ref pp, .int ht, .int (nI tp), .int sd, .int fa, .int pl, .int tr])]) [0] rfl rfl) (nd_sub nd (as' := [b]) [0] rfl rfl)  ?_)
  refine w_heq (hUs_in nd rfl [0] (cs2 := [(oC 9 [.ref (b + 1), .ref (b + 14), .ref (b + 17), .ref (b + 19), .ref (b + 25), .ref (b + 29), .ref (b + 33), .ref pp, .int ht, .int (nI tp), .int sd, .int fa, .int (-1), .int 1]), (oC 6 [.ref (b + 2), .ref (b + 6), .ref (b + 7), .ref (b + 8), .ref qw, .int 0, .int ln, .int wn, .int rsd, .int (nI c)])]) rfl rfl) ?_
  refine w_ireturn rfl dX9_often_16 (Nat.le_of_ble_eq_true rfl) (Nat.le_of_ble_eq_true rfl) ?_
  have e : oOft P none v a u = ((-1), 1) := by
    simp [oOft]
  rw [e] at k
  exact k _ (cI_i (cI_put hW (cAs_nd b) rfl [0, 1] (cs2 := [(oC 9 [.ref (b + 1), .ref (b + 14), .ref (b + 17), .ref (b + 19), .ref (b + 25), .ref (b + 29), .ref (b + 33), .ref pp, .int ht, .int (nI tp), .int sd, .int fa, .int (-1), .int 1]), (oC 6 [.ref (b + 2), .ref (b + 6), .ref (b + 7), .ref (b + 8), .ref qw, .int 0, .int ln, .int wn, .int rsd, .int (nI c)]), (oC 0 [.ref (b + 3), .ref ql, .int cn, .int s.2.1, .int s.2.2]), (aI 3 s.1), (aB 4096 fo), (aI 4096 fg), (aI 3 fz), (aR RX2 2 (imR b)), (oC 2 [.int i01, .int i02, .int i03, .int i04, .int i05, .int i06, .int i07]), (oC 2 [.int i11, .int i12, .int i13, .int i14, .int i15, .int i16, .int i17]), (oC 8 [.ref (b + 18), .int wm]), (aI 94 fw), (oC 1 [.ref (b + 20), .ref (b + 24), .int f.2.2.1.1, .int f.2.2.1.2.1, .int f.2.2.2.1, .int f.2.2.1.2.2.1, .int f.2.2.1.2.2.2.1, .int f.2.2.1.2.2.2.2.1, .int f.2.2.1.2.2.2.2.2]), (oC 0 [.ref (b + 21), .ref q0, .int c0, .int f.1.2.1, .int f.1.2.2]), (aI 3 f.1.1), (aI 3 f.2.1), (oC 0 [.ref (b + 26), .ref q1, .int c1, .int s1.2.1, .int s1.2.2]), (aI 3 s1.1), (oC 0 [.ref (b + 30), .ref q2, .int c2, .int s2.2.1, .int s2.2.2]), (aI 3 s2.1), (oC 5 (rdF (b + 34) ps x)), (aB 600 ft)]) rfl rfl) hpp (hPl_o hP1 (by intro a ha; simp only [List.mem_cons, List.not_mem_nil, or_false] at ha; rcases hpp with hpp | hpp <;> omega)) (hPl_o hP2 (by intro a ha; simp only [List.mem_cons, List.not_mem_nil, or_false] at ha; rcases hpp with hpp | hpp <;> omega)) hR hi0 hi1 htp hpo hht) (cFr_of (by intro a ha; simp only [List.mem_cons, List.not_mem_nil, or_false] at ha; omega))
set_option maxRecDepth 100000 in
set_option maxHeartbeats 4000000 in
theorem p_often_s {G : wG} {d : Nat} {h : hH} {Q : Option Value → hH → Prop} {b : Nat} {ft : Nat → Int32} {tp : Nat} {P : pD} {ht : Int32} {i0 i1 : imD} {sd fa pl tr : Int32}  {l w cc : Nat} {rs : Int32} {v a u : Int32} (hI : cI h b ft tp P ht (some (l, w, rs, cc)) i0 i1 sd fa pl tr)  (k : ∀ h2, cI h2 b ft tp P ht (some (l, w, rs, cc)) i0 i1 sd fa (-1) (oOft P (some (l, w, rs, cc)) v a u).2 → cFr b h h2 → Q (some (.int (oOft P (some (l, w, rs, cc)) v a u).1)) h2) : Cl G yX9_often (d + 1) 0 0 [.ref b, .int v, .int a, .int u] h Q := by
  refine cI_e hI ?_
  intro pp ps P2 go ln wn rsd c qw ql cn s fo fg fz i01 i02 i03 i04 i05 i06 i07 i11 i12 i13 i14 i15 i16 i17 wm fw f q0 c0 s1 q1 c1 s2 q2 c2 x hW hpp hP1 hP2 hR hi0 hi1 htp hpo hht
  have hR0 := hR
  simp only [rIv] at hR
  obtain ⟨hrn, hgo, hln, hwn, hrs, hcc, hqw, hql, hcn, hs, hfo, hfg, hfz⟩ := hR
  subst hgo; subst hln; subst hwn; subst hrs; subst hcc
  have hc : c ≤ 4096 := hrn.2.2
  rw [show oOft P (some (l, w, rsd, c)) v a u = oOftF fo c v a u from (oOftF_c hfo hc v a u).symm] at k
  
  have hw : hHas h [b, b + 1, b + 6] [(oC 9 [.ref (b + 1), .ref (b + 14), .ref (b + 17), .ref (b + 19), .ref (b + 25), .ref (b + 29), .ref (b + 33), .ref pp, .int ht, .int (nI tp), .int sd, .int fa, .int pl, .int tr]), (oC 6 [.ref (b + 2), .ref (b + 6), .ref (b + 7), .ref (b + 8), .ref qw, .int 1, .int (nI l), .int (nI w), .int rsd, .int (nI c)]), (aB 4096 fo)] := hHas_s hW [0, 1, 4] rfl rfl
  have nd : [b, b + 1, b + 6].Nodup := (nd_inc ⟨by omega, by omega, trivial⟩)
  refine Cl.of (ini := false) kX9_often (plainFor_of_name (by decide)) (by decide) (Nat.le_of_ble_eq_true rfl) rfl rfl (fun z => by cases z) ?_
  refine w_heq (hUs_id hw).symm ?_
  refine w_aload_n dX9_often_0 rfl ?_
  refine w_get (v := .ref (b + 1)) fX9_10 (hUs_at nd 0 rfl rfl) rfl dX9_often_1 ?_
  refine w_get (v := .int 1) fX9_139 (hUs_at nd 1 rfl rfl) rfl dX9_often_4 ?_
  refine w_if_ne_t (tgt := 17) dX9_often_7 rfl (by decide) ?_
  refine w_iload_n dX9_often_17 rfl ?_
  refine w_callS (d' := d) (mc' := 0) (ms' := 0) (As := [.int v]) (st := []) lX9_170 vX9_isValue rfl (Nat.le_of_ble_eq_true rfl) dX9_often_18 (Nat.le_of_ble_eq_true rfl) (Nat.le_of_ble_eq_true rfl) (Nat.le_refl _) (c_isValue ?_)
  refine w_if_eq (tgt := 36) dX9_often_21 rfl (fun b21 => ?_) (fun b21 => ?_)
  · refine w_aload_n dX9_often_36 rfl ?_
    refine w_iconst (v := 2) dX9_often_37 (by decide) ?_
    refine w_iconst (v := (-1)) dX9_often_38 (by decide) ?_
    refine w_callV (ci := 9) (d' := d) (mc' := 0) (ms' := 0) (As := [.int 2, .int (-1)]) (st := []) lX9_75 vX9_refused rfl (hUs_at nd 0 rfl rfl) rfl (Nat.le_of_ble_eq_true rfl) dX9_often_39 (Nat.le_of_ble_eq_true rfl) (Nat.le_of_ble_eq_true rfl) (Nat.le_refl _) (c_refused (hHas_sub nd (as' := [b]) (cs' := [(oC 9 [.ref (b + 1), .ref (b + 14), .ref (b + 17), .ref (b + 19), .ref (b + 25), .ref (b + 29), .ref (b + 33), .ref pp, .int ht, .int (nI tp), .int sd, .int fa, .int pl, .int tr])]) [0] rfl rfl) (nd_sub nd (as' := [b]) [0] rfl rfl)  ?_)
    refine w_heq (hUs_in nd rfl [0] (cs2 := [(oC 9 [.ref (b + 1), .ref (b + 14), .ref (b + 17), .ref (b + 19), .ref (b + 25), .ref (b + 29), .ref (b + 33), .ref pp, .int ht, .int (nI tp), .int sd, .int fa, .int (-1), .int 2]), (oC 6 [.ref (b + 2), .ref (b + 6), .ref (b + 7), .ref (b + 8), .ref qw, .int 1, .int (nI l), .int (nI w), .int rsd, .int (nI c)]), (aB 4096 fo)]) rfl rfl) ?_
    refine w_ireturn rfl dX9_often_42 (Nat.le_of_ble_eq_true rfl) (Nat.le_of_ble_eq_true rfl) ?_
    have e : oOftF fo c v a u = ((-1), 2) := by
      simp [oOftF, b21]
    rw [e] at k
    exact k _ (cI_i (cI_put hW (cAs_nd b) rfl [0, 1, 4] (cs2 := [(oC 9 [.ref (b + 1), .ref (b + 14), .ref (b + 17), .ref (b + 19), .ref (b + 25), .ref (b + 29), .ref (b + 33), .ref pp, .int ht, .int (nI tp), .int sd, .int fa, .int (-1), .int 2]), (oC 6 [.ref (b + 2), .ref (b + 6), .ref (b + 7), .ref (b + 8), .ref qw, .int 1, .int (nI l), .int (nI w), .int rsd, .int (nI c)]), (oC 0 [.ref (b + 3), .ref ql, .int cn, .int s.2.1, .int s.2.2]), (aI 3 s.1), (aB 4096 fo), (aI 4096 fg), (aI 3 fz), (aR RX2 2 (imR b)), (oC 2 [.int i01, .int i02, .int i03, .int i04, .int i05, .int i06, .int i07]), (oC 2 [.int i11, .int i12, .int i13, .int i14, .int i15, .int i16, .int i17]), (oC 8 [.ref (b + 18), .int wm]), (aI 94 fw), (oC 1 [.ref (b + 20), .ref (b + 24), .int f.2.2.1.1, .int f.2.2.1.2.1, .int f.2.2.2.1, .int f.2.2.1.2.2.1, .int f.2.2.1.2.2.2.1, .int f.2.2.1.2.2.2.2.1, .int f.2.2.1.2.2.2.2.2]), (oC 0 [.ref (b + 21), .ref q0, .int c0, .int f.1.2.1, .int f.1.2.2]), (aI 3 f.1.1), (aI 3 f.2.1), (oC 0 [.ref (b + 26), .ref q1, .int c1, .int s1.2.1, .int s1.2.2]), (aI 3 s1.1), (oC 0 [.ref (b + 30), .ref q2, .int c2, .int s2.2.1, .int s2.2.2]), (aI 3 s2.1), (oC 5 (rdF (b + 34) ps x)), (aB 600 ft)]) rfl rfl) hpp (hPl_o hP1 (by intro a ha; simp only [List.mem_cons, List.not_mem_nil, or_false] at ha; rcases hpp with hpp | hpp <;> omega)) (hPl_o hP2 (by intro a ha; simp only [List.mem_cons, List.not_mem_nil, or_false] at ha; rcases hpp with hpp | hpp <;> omega)) hR0 hi0 hi1 htp hpo hht) (cFr_of (by intro a ha; simp only [List.mem_cons, List.not_mem_nil, or_false] at ha; omega))
  · refine w_aload_n dX9_often_24 rfl ?_
    refine w_get (v := .ref (b + 1)) fX9_10 (hUs_at nd 0 rfl rfl) rfl dX9_often_25 ?_
    refine w_iload_n dX9_often_28 rfl ?_
    refine w_iload_n dX9_often_29 rfl ?_
    refine w_callV (ci := 6) (d' := d) (mc' := 0) (ms' := 0) (As := [.int a, .int u]) (st := []) lX9_162 vX6_hasStretch rfl (hUs_at nd 1 rfl rfl) rfl (Nat.le_of_ble_eq_true rfl) dX9_often_30 (Nat.le_of_ble_eq_true rfl) (Nat.le_of_ble_eq_true rfl) (Nat.le_refl _) (c_hasStretch (hHas_sub nd (as' := [b + 1]) (cs' := [(oC 6 [.ref (b + 2), .ref (b + 6), .ref (b + 7), .ref (b + 8), .ref qw, .int 1, .int (nI l), .int (nI w), .int rsd, .int (nI c)])]) [1] rfl rfl)  ?_)
    refine w_if_ne (tgt := 43) dX9_often_33 rfl (fun b33 => ?_) (fun b33 => ?_)
    · obtain ⟨A, B, hA, hB, rfl, rfl⟩ := hasS_n b33 hc
      have hAc := nI_clamp (show A < 2 ^ 31 by omega)
      have hBc := nI_clamp (show B < 2 ^ 31 by omega)
      refine w_aload_n dX9_often_43 rfl ?_
      refine w_aload_n dX9_often_44 rfl ?_
      refine w_get (v := .ref (b + 1)) fX9_10 (hUs_at nd 0 rfl rfl) rfl dX9_often_45 ?_
      refine w_iload_n dX9_often_48 rfl ?_
      refine w_iload_n dX9_often_49 rfl ?_
      refine w_iload_n dX9_often_50 rfl ?_
      refine w_callV (ci := 6) (d' := d) (mc' := 0) (ms' := 0) (As := [.int v, .int (nI A), .int (nI B)]) (st := [.ref b]) lX9_173 vX6_countOf rfl (hUs_at nd 1 rfl rfl) rfl (Nat.le_of_ble_eq_true rfl) dX9_often_51 (Nat.le_of_ble_eq_true rfl) (Nat.le_of_ble_eq_true rfl) (Nat.le_refl _) (c_countOf (hHas_sub nd (as' := [b + 1, b + 6]) (cs' := [(oC 6 [.ref (b + 2), .ref (b + 6), .ref (b + 7), .ref (b + 8), .ref qw, .int 1, .int (nI l), .int (nI w), .int rsd, .int (nI c)]), (aB 4096 fo)]) [1, 2] rfl rfl) (by omega) (by omega) ?_)
      refine w_callV (ci := 9) (d' := d) (mc' := 0) (ms' := 0) (As := [.int (fld (fun t s => s + (if fo t = v then 1 else 0)) A (B + 1 - A) 0)]) (st := []) lX9_96 vX9_granted rfl (hUs_at nd 0 rfl rfl) rfl (Nat.le_of_ble_eq_true rfl) dX9_often_54 (Nat.le_of_ble_eq_true rfl) (Nat.le_of_ble_eq_true rfl) (Nat.le_refl _) (c_granted (hHas_sub nd (as' := [b]) (cs' := [(oC 9 [.ref (b + 1), .ref (b + 14), .ref (b + 17), .ref (b + 19), .ref (b + 25), .ref (b + 29), .ref (b + 33), .ref pp, .int ht, .int (nI tp), .int sd, .int fa, .int pl, .int tr])]) [0] rfl rfl) (nd_sub nd (as' := [b]) [0] rfl rfl)  ?_)
      refine w_heq (hUs_in nd rfl [0] (cs2 := [(oC 9 [.ref (b + 1), .ref (b + 14), .ref (b + 17), .ref (b + 19), .ref (b + 25), .ref (b + 29), .ref (b + 33), .ref pp, .int ht, .int (nI tp), .int sd, .int fa, .int (-1), .int 0]), (oC 6 [.ref (b + 2), .ref (b + 6), .ref (b + 7), .ref (b + 8), .ref qw, .int 1, .int (nI l), .int (nI w), .int rsd, .int (nI c)]), (aB 4096 fo)]) rfl rfl) ?_
      refine w_ireturn rfl dX9_often_57 (Nat.le_of_ble_eq_true rfl) (Nat.le_of_ble_eq_true rfl) ?_
      have e : oOftF fo c v (nI A) (nI B) = (fld (fun t s => s + (if fo t = v then 1 else 0)) A (B + 1 - A) 0, 0) := by
        simp [oOftF, hAc, hBc, b21, b33]
      rw [e] at k
      exact k _ (cI_i (cI_put hW (cAs_nd b) rfl [0, 1, 4] (cs2 := [(oC 9 [.ref (b + 1), .ref (b + 14), .ref (b + 17), .ref (b + 19), .ref (b + 25), .ref (b + 29), .ref (b + 33), .ref pp, .int ht, .int (nI tp), .int sd, .int fa, .int (-1), .int 0]), (oC 6 [.ref (b + 2), .ref (b + 6), .ref (b + 7), .ref (b + 8), .ref qw, .int 1, .int (nI l), .int (nI w), .int rsd, .int (nI c)]), (oC 0 [.ref (b + 3), .ref ql, .int cn, .int s.2.1, .int s.2.2]), (aI 3 s.1), (aB 4096 fo), (aI 4096 fg), (aI 3 fz), (aR RX2 2 (imR b)), (oC 2 [.int i01, .int i02, .int i03, .int i04, .int i05, .int i06, .int i07]), (oC 2 [.int i11, .int i12, .int i13, .int i14, .int i15, .int i16, .int i17]), (oC 8 [.ref (b + 18), .int wm]), (aI 94 fw), (oC 1 [.ref (b + 20), .ref (b + 24), .int f.2.2.1.1, .int f.2.2.1.2.1, .int f.2.2.2.1, .int f.2.2.1.2.2.1, .int f.2.2.1.2.2.2.1, .int f.2.2.1.2.2.2.2.1, .int f.2.2.1.2.2.2.2.2]), (oC 0 [.ref (b + 21), .ref q0, .int c0, .int f.1.2.1, .int f.1.2.2]), (aI 3 f.1.1), (aI 3 f.2.1), (oC 0 [.ref (b + 26), .ref q1, .int c1, .int s1.2.1, .int s1.2.2]), (aI 3 s1.1), (oC 0 [.ref (b + 30), .ref q2, .int c2, .int s2.2.1, .int s2.2.2]), (aI 3 s2.1), (oC 5 (rdF (b + 34) ps x)), (aB 600 ft)]) rfl rfl) hpp (hPl_o hP1 (by intro a ha; simp only [List.mem_cons, List.not_mem_nil, or_false] at ha; rcases hpp with hpp | hpp <;> omega)) (hPl_o hP2 (by intro a ha; simp only [List.mem_cons, List.not_mem_nil, or_false] at ha; rcases hpp with hpp | hpp <;> omega)) hR0 hi0 hi1 htp hpo hht) (cFr_of (by intro a ha; simp only [List.mem_cons, List.not_mem_nil, or_false] at ha; omega))
    · refine w_aload_n dX9_often_36 rfl ?_
      refine w_iconst (v := 2) dX9_often_37 (by decide) ?_
      refine w_iconst (v := (-1)) dX9_often_38 (by decide) ?_
      refine w_callV (ci := 9) (d' := d) (mc' := 0) (ms' := 0) (As := [.int 2, .int (-1)]) (st := []) lX9_75 vX9_refused rfl (hUs_at nd 0 rfl rfl) rfl (Nat.le_of_ble_eq_true rfl) dX9_often_39 (Nat.le_of_ble_eq_true rfl) (Nat.le_of_ble_eq_true rfl) (Nat.le_refl _) (c_refused (hHas_sub nd (as' := [b]) (cs' := [(oC 9 [.ref (b + 1), .ref (b + 14), .ref (b + 17), .ref (b + 19), .ref (b + 25), .ref (b + 29), .ref (b + 33), .ref pp, .int ht, .int (nI tp), .int sd, .int fa, .int pl, .int tr])]) [0] rfl rfl) (nd_sub nd (as' := [b]) [0] rfl rfl)  ?_)
      refine w_heq (hUs_in nd rfl [0] (cs2 := [(oC 9 [.ref (b + 1), .ref (b + 14), .ref (b + 17), .ref (b + 19), .ref (b + 25), .ref (b + 29), .ref (b + 33), .ref pp, .int ht, .int (nI tp), .int sd, .int fa, .int (-1), .int 2]), (oC 6 [.ref (b + 2), .ref (b + 6), .ref (b + 7), .ref (b + 8), .ref qw, .int 1, .int (nI l), .int (nI w), .int rsd, .int (nI c)]), (aB 4096 fo)]) rfl rfl) ?_
      refine w_ireturn rfl dX9_often_42 (Nat.le_of_ble_eq_true rfl) (Nat.le_of_ble_eq_true rfl) ?_
      have e : oOftF fo c v a u = ((-1), 2) := by
        simp [oOftF, b21, b33]
      rw [e] at k
      exact k _ (cI_i (cI_put hW (cAs_nd b) rfl [0, 1, 4] (cs2 := [(oC 9 [.ref (b + 1), .ref (b + 14), .ref (b + 17), .ref (b + 19), .ref (b + 25), .ref (b + 29), .ref (b + 33), .ref pp, .int ht, .int (nI tp), .int sd, .int fa, .int (-1), .int 2]), (oC 6 [.ref (b + 2), .ref (b + 6), .ref (b + 7), .ref (b + 8), .ref qw, .int 1, .int (nI l), .int (nI w), .int rsd, .int (nI c)]), (oC 0 [.ref (b + 3), .ref ql, .int cn, .int s.2.1, .int s.2.2]), (aI 3 s.1), (aB 4096 fo), (aI 4096 fg), (aI 3 fz), (aR RX2 2 (imR b)), (oC 2 [.int i01, .int i02, .int i03, .int i04, .int i05, .int i06, .int i07]), (oC 2 [.int i11, .int i12, .int i13, .int i14, .int i15, .int i16, .int i17]), (oC 8 [.ref (b + 18), .int wm]), (aI 94 fw), (oC 1 [.ref (b + 20), .ref (b + 24), .int f.2.2.1.1, .int f.2.2.1.2.1, .int f.2.2.2.1, .int f.2.2.1.2.2.1, .int f.2.2.1.2.2.2.1, .int f.2.2.1.2.2.2.2.1, .int f.2.2.1.2.2.2.2.2]), (oC 0 [.ref (b + 21), .ref q0, .int c0, .int f.1.2.1, .int f.1.2.2]), (aI 3 f.1.1), (aI 3 f.2.1), (oC 0 [.ref (b + 26), .ref q1, .int c1, .int s1.2.1, .int s1.2.2]), (aI 3 s1.1), (oC 0 [.ref (b + 30), .ref q2, .int c2, .int s2.2.1, .int s2.2.2]), (aI 3 s2.1), (oC 5 (rdF (b + 34) ps x)), (aB 600 ft)]) rfl rfl) hpp (hPl_o hP1 (by intro a ha; simp only [List.mem_cons, List.not_mem_nil, or_false] at ha; rcases hpp with hpp | hpp <;> omega)) (hPl_o hP2 (by intro a ha; simp only [List.mem_cons, List.not_mem_nil, or_false] at ha; rcases hpp with hpp | hpp <;> omega)) hR0 hi0 hi1 htp hpo hht) (cFr_of (by intro a ha; simp only [List.mem_cons, List.not_mem_nil, or_false] at ha; omega))
theorem p_often {G : wG} {d : Nat} {h : hH} {Q : Option Value → hH → Prop} {b : Nat} {ft : Nat → Int32} {tp : Nat} {P : pD} {ht : Int32} {R : Option rnD} {i0 i1 : imD} {sd fa pl tr : Int32}  {v a u : Int32} (hI : cI h b ft tp P ht R i0 i1 sd fa pl tr) (k : ∀ h2, cI h2 b ft tp P ht R i0 i1 sd fa (-1) (oOft P R v a u).2 → cFr b h h2 → Q (some (.int (oOft P R v a u).1)) h2) : Cl G yX9_often (d + 1) 0 0 [.ref b, .int v, .int a, .int u] h Q := by
  cases R with
  | none => exact p_often_n hI k
  | some r => obtain ⟨l, w, rs, cc⟩ := r; exact p_often_s hI k
def oAstF (F : Nat → Int32) (c : Nat) (a u : Int32) : Int32 × Int32 := if hasS a u c = 0 then (-1000000000, 2) else (fld (fun t s => s + F t) (tN a) (tN u + 1 - tN a) 0, 0)
theorem oAstF_c {f g : Nat → Int32} {c : Nat} (h : ∀ t, t < c → f t = g t) (hc : c ≤ 4096) (a u : Int32) : oAstF f c a u = oAstF g c a u := by
  unfold oAstF
  by_cases e : hasS a u c = 0
  · rw [if_pos e, if_pos e]
  · rw [if_neg e, if_neg e]
    have z := hasS_t e hc
    rw [fld_c (g := fun t s => s + g t) (tN a) _ _ (fun t h1 h2 => by funext s; rw [h t (by omega)])]
def oAst (P : pD) (R : Option rnD) (a u : Int32) : Int32 × Int32 := match R with
  | none => (-1000000000, 1)
  | some r => oAstF (rG (rQo P r.1 r.2.1 r.2.2.1)) r.2.2.2 a u
set_option maxRecDepth 100000 in
set_option maxHeartbeats 4000000 in
theorem p_astray_n {G : wG} {d : Nat} {h : hH} {Q : Option Value → hH → Prop} {b : Nat} {ft : Nat → Int32} {tp : Nat} {P : pD} {ht : Int32} {i0 i1 : imD} {sd fa pl tr : Int32}  {a u : Int32} (hI : cI h b ft tp P ht none i0 i1 sd fa pl tr)  (k : ∀ h2, cI h2 b ft tp P ht none i0 i1 sd fa (-1) (oAst P none a u).2 → cFr b h h2 → Q (some (.int (oAst P none a u).1)) h2) : Cl G yX9_astray (d + 1) 0 0 [.ref b, .int a, .int u] h Q := by
  refine cI_e hI ?_
  intro pp ps P2 go ln wn rsd c qw ql cn s fo fg fz i01 i02 i03 i04 i05 i06 i07 i11 i12 i13 i14 i15 i16 i17 wm fw f q0 c0 s1 q1 c1 s2 q2 c2 x hW hpp hP1 hP2 hR hi0 hi1 htp hpo hht
  have hgo : go = 0 := hR
  subst hgo
  have hw : hHas h [b, b + 1] [(oC 9 [.ref (b + 1), .ref (b + 14), .ref (b + 17), .ref (b + 19), .ref (b + 25), .ref (b + 29), .ref (b + 33), .ref pp, .int ht, .int (nI tp), .int sd, .int fa, .int pl, .int tr]), (oC 6 [.ref (b + 2), .ref (b + 6), .ref (b + 7), .ref (b + 8), .ref qw, .int 0, .int ln, .int wn, .int rsd, .int (nI c)])] := hHas_s hW [0, 1] rfl rfl
  have nd : [b, b + 1].Nodup := (nd_inc ⟨by omega, trivial⟩)
  refine Cl.of (ini := false) kX9_astray (plainFor_of_name (by decide)) (by decide) (Nat.le_of_ble_eq_true rfl) rfl rfl (fun z => by cases z) ?_
  refine w_heq (hUs_id hw).symm ?_
  refine w_aload_n dX9_astray_0 rfl ?_
  refine w_get (v := .ref (b + 1)) fX9_10 (hUs_at nd 0 rfl rfl) rfl dX9_astray_1 ?_
  refine w_get (v := .int 0) fX9_139 (hUs_at nd 1 rfl rfl) rfl dX9_astray_4 ?_
  refine w_if_ne_f (tgt := 18) dX9_astray_7 rfl (by decide) ?_
  refine w_aload_n dX9_astray_10 rfl ?_
  refine w_iconst (v := 1) dX9_astray_11 (by decide) ?_
  refine w_ldc nX9_120 dX9_astray_12 ?_
  refine w_callV (ci := 9) (d' := d) (mc' := 0) (ms' := 0) (As := [.int 1, .int (-1000000000)]) (st := []) lX9_75 vX9_refused rfl (hUs_at nd 0 rfl rfl) rfl (Nat.le_of_ble_eq_true rfl) dX9_astray_14 (Nat.le_of_ble_eq_true rfl) (Nat.le_of_ble_eq_true rfl) (Nat.le_refl _) (c_refused (hHas_sub nd (as' := [b]) (cs' := [(oC 9 [.ref (b + 1), .ref (b + 14), .ref (b + 17), .ref (b + 19), .ref (b + 25), .ref (b + 29), .ref (b + 33), .ref pp, .int ht, .int (nI tp), .int sd, .int fa, .int pl, .int tr])]) [0] rfl rfl) (nd_sub nd (as' := [b]) [0] rfl rfl)  ?_)
  refine w_heq (hUs_in nd rfl [0] (cs2 := [(oC 9 [.ref (b + 1), .ref (b + 14), .ref (b + 17), .ref (b + 19), .ref (b + 25), .ref (b + 29), .ref (b + 33), .ref pp, .int ht, .int (nI tp), .int sd, .int fa, .int (-1), .int 1]), (oC 6 [.ref (b + 2), .ref (b + 6), .ref (b + 7), .ref (b + 8), .ref qw, .int 0, .int ln, .int wn, .int rsd, .int (nI c)])]) rfl rfl) ?_
  refine w_ireturn rfl dX9_astray_17 (Nat.le_of_ble_eq_true rfl) (Nat.le_of_ble_eq_true rfl) ?_
  have e : oAst P none a u = ((-1000000000), 1) := by
    simp [oAst]
  rw [e] at k
  exact k _ (cI_i (cI_put hW (cAs_nd b) rfl [0, 1] (cs2 := [(oC 9 [.ref (b + 1), .ref (b + 14), .ref (b + 17), .ref (b + 19), .ref (b + 25), .ref (b + 29), .ref (b + 33), .ref pp, .int ht, .int (nI tp), .int sd, .int fa, .int (-1), .int 1]), (oC 6 [.ref (b + 2), .ref (b + 6), .ref (b + 7), .ref (b + 8), .ref qw, .int 0, .int ln, .int wn, .int rsd, .int (nI c)]), (oC 0 [.ref (b + 3), .ref ql, .int cn, .int s.2.1, .int s.2.2]), (aI 3 s.1), (aB 4096 fo), (aI 4096 fg), (aI 3 fz), (aR RX2 2 (imR b)), (oC 2 [.int i01, .int i02, .int i03, .int i04, .int i05, .int i06, .int i07]), (oC 2 [.int i11, .int i12, .int i13, .int i14, .int i15, .int i16, .int i17]), (oC 8 [.ref (b + 18), .int wm]), (aI 94 fw), (oC 1 [.ref (b + 20), .ref (b + 24), .int f.2.2.1.1, .int f.2.2.1.2.1, .int f.2.2.2.1, .int f.2.2.1.2.2.1, .int f.2.2.1.2.2.2.1, .int f.2.2.1.2.2.2.2.1, .int f.2.2.1.2.2.2.2.2]), (oC 0 [.ref (b + 21), .ref q0, .int c0, .int f.1.2.1, .int f.1.2.2]), (aI 3 f.1.1), (aI 3 f.2.1), (oC 0 [.ref (b + 26), .ref q1, .int c1, .int s1.2.1, .int s1.2.2]), (aI 3 s1.1), (oC 0 [.ref (b + 30), .ref q2, .int c2, .int s2.2.1, .int s2.2.2]), (aI 3 s2.1), (oC 5 (rdF (b + 34) ps x)), (aB 600 ft)]) rfl rfl) hpp (hPl_o hP1 (by intro a ha; simp only [List.mem_cons, List.not_mem_nil, or_false] at ha; rcases hpp with hpp | hpp <;> omega)) (hPl_o hP2 (by intro a ha; simp only [List.mem_cons, List.not_mem_nil, or_false] at ha; rcases hpp with hpp | hpp <;> omega)) hR hi0 hi1 htp hpo hht) (cFr_of (by intro a ha; simp only [List.mem_cons, List.not_mem_nil, or_false] at ha; omega))
set_option maxRecDepth 100000 in
set_option maxHeartbeats 4000000 in
theorem p_astray_s {G : wG} {d : Nat} {h : hH} {Q : Option Value → hH → Prop} {b : Nat} {ft : Nat → Int32} {tp : Nat} {P : pD} {ht : Int32} {i0 i1 : imD} {sd fa pl tr : Int32}  {l w cc : Nat} {rs : Int32} {a u : Int32} (hI : cI h b ft tp P ht (some (l, w, rs, cc)) i0 i1 sd fa pl tr)  (k : ∀ h2, cI h2 b ft tp P ht (some (l, w, rs, cc)) i0 i1 sd fa (-1) (oAst P (some (l, w, rs, cc)) a u).2 → cFr b h h2 → Q (some (.int (oAst P (some (l, w, rs, cc)) a u).1)) h2) : Cl G yX9_astray (d + 1) 0 0 [.ref b, .int a, .int u] h Q := by
  refine cI_e hI ?_
  intro pp ps P2 go ln wn rsd c qw ql cn s fo fg fz i01 i02 i03 i04 i05 i06 i07 i11 i12 i13 i14 i15 i16 i17 wm fw f q0 c0 s1 q1 c1 s2 q2 c2 x hW hpp hP1 hP2 hR hi0 hi1 htp hpo hht
  have hR0 := hR
  simp only [rIv] at hR
  obtain ⟨hrn, hgo, hln, hwn, hrs, hcc, hqw, hql, hcn, hs, hfo, hfg, hfz⟩ := hR
  subst hgo; subst hln; subst hwn; subst hrs; subst hcc
  have hc : c ≤ 4096 := hrn.2.2
  rw [show oAst P (some (l, w, rsd, c)) a u = oAstF fg c a u from (oAstF_c hfg hc a u).symm] at k
  
  have hw : hHas h [b, b + 1, b + 7] [(oC 9 [.ref (b + 1), .ref (b + 14), .ref (b + 17), .ref (b + 19), .ref (b + 25), .ref (b + 29), .ref (b + 33), .ref pp, .int ht, .int (nI tp), .int sd, .int fa, .int pl, .int tr]), (oC 6 [.ref (b + 2), .ref (b + 6), .ref (b + 7), .ref (b + 8), .ref qw, .int 1, .int (nI l), .int (nI w), .int rsd, .int (nI c)]), (aI 4096 fg)] := hHas_s hW [0, 1, 5] rfl rfl
  have nd : [b, b + 1, b + 7].Nodup := (nd_inc ⟨by omega, by omega, trivial⟩)
  refine Cl.of (ini := false) kX9_astray (plainFor_of_name (by decide)) (by decide) (Nat.le_of_ble_eq_true rfl) rfl rfl (fun z => by cases z) ?_
  refine w_heq (hUs_id hw).symm ?_
  refine w_aload_n dX9_astray_0 rfl ?_
  refine w_get (v := .ref (b + 1)) fX9_10 (hUs_at nd 0 rfl rfl) rfl dX9_astray_1 ?_
  refine w_get (v := .int 1) fX9_139 (hUs_at nd 1 rfl rfl) rfl dX9_astray_4 ?_
  refine w_if_ne_t (tgt := 18) dX9_astray_7 rfl (by decide) ?_
  refine w_aload_n dX9_astray_18 rfl ?_
  refine w_get (v := .ref (b + 1)) fX9_10 (hUs_at nd 0 rfl rfl) rfl dX9_astray_19 ?_
  refine w_iload_n dX9_astray_22 rfl ?_
  refine w_iload_n dX9_astray_23 rfl ?_
  refine w_callV (ci := 6) (d' := d) (mc' := 0) (ms' := 0) (As := [.int a, .int u]) (st := []) lX9_162 vX6_hasStretch rfl (hUs_at nd 1 rfl rfl) rfl (Nat.le_of_ble_eq_true rfl) dX9_astray_24 (Nat.le_of_ble_eq_true rfl) (Nat.le_of_ble_eq_true rfl) (Nat.le_refl _) (c_hasStretch (hHas_sub nd (as' := [b + 1]) (cs' := [(oC 6 [.ref (b + 2), .ref (b + 6), .ref (b + 7), .ref (b + 8), .ref qw, .int 1, .int (nI l), .int (nI w), .int rsd, .int (nI c)])]) [1] rfl rfl)  ?_)
  refine w_if_ne (tgt := 38) dX9_astray_27 rfl (fun b27 => ?_) (fun b27 => ?_)
  · obtain ⟨A, B, hA, hB, rfl, rfl⟩ := hasS_n b27 hc
    have hAc := nI_clamp (show A < 2 ^ 31 by omega)
    have hBc := nI_clamp (show B < 2 ^ 31 by omega)
    refine w_aload_n dX9_astray_38 rfl ?_
    refine w_aload_n dX9_astray_39 rfl ?_
    refine w_get (v := .ref (b + 1)) fX9_10 (hUs_at nd 0 rfl rfl) rfl dX9_astray_40 ?_
    refine w_iload_n dX9_astray_43 rfl ?_
    refine w_iload_n dX9_astray_44 rfl ?_
    refine w_callV (ci := 6) (d' := d) (mc' := 0) (ms' := 0) (As := [.int (nI A), .int (nI B)]) (st := [.ref b]) lX9_177 vX6_gapsAdded rfl (hUs_at nd 1 rfl rfl) rfl (Nat.le_of_ble_eq_true rfl) dX9_astray_45 (Nat.le_of_ble_eq_true rfl) (Nat.le_of_ble_eq_true rfl) (Nat.le_refl _) (c_gapsAdded (hHas_sub nd (as' := [b + 1, b + 7]) (cs' := [(oC 6 [.ref (b + 2), .ref (b + 6), .ref (b + 7), .ref (b + 8), .ref qw, .int 1, .int (nI l), .int (nI w), .int rsd, .int (nI c)]), (aI 4096 fg)]) [1, 2] rfl rfl) (by omega) (by omega) ?_)
    refine w_callV (ci := 9) (d' := d) (mc' := 0) (ms' := 0) (As := [.int (fld (fun t s => s + fg t) A (B + 1 - A) 0)]) (st := []) lX9_96 vX9_granted rfl (hUs_at nd 0 rfl rfl) rfl (Nat.le_of_ble_eq_true rfl) dX9_astray_48 (Nat.le_of_ble_eq_true rfl) (Nat.le_of_ble_eq_true rfl) (Nat.le_refl _) (c_granted (hHas_sub nd (as' := [b]) (cs' := [(oC 9 [.ref (b + 1), .ref (b + 14), .ref (b + 17), .ref (b + 19), .ref (b + 25), .ref (b + 29), .ref (b + 33), .ref pp, .int ht, .int (nI tp), .int sd, .int fa, .int pl, .int tr])]) [0] rfl rfl) (nd_sub nd (as' := [b]) [0] rfl rfl)  ?_)
    refine w_heq (hUs_in nd rfl [0] (cs2 := [(oC 9 [.ref (b + 1), .ref (b + 14), .ref (b + 17), .ref (b + 19), .ref (b + 25), .ref (b + 29), .ref (b + 33), .ref pp, .int ht, .int (nI tp), .int sd, .int fa, .int (-1), .int 0]), (oC 6 [.ref (b + 2), .ref (b + 6), .ref (b + 7), .ref (b + 8), .ref qw, .int 1, .int (nI l), .int (nI w), .int rsd, .int (nI c)]), (aI 4096 fg)]) rfl rfl) ?_
    refine w_ireturn rfl dX9_astray_51 (Nat.le_of_ble_eq_true rfl) (Nat.le_of_ble_eq_true rfl) ?_
    have e : oAstF fg c (nI A) (nI B) = (fld (fun t s => s + fg t) A (B + 1 - A) 0, 0) := by
      simp [oAstF, hAc, hBc, b27]
    rw [e] at k
    exact k _ (cI_i (cI_put hW (cAs_nd b) rfl [0, 1, 5] (cs2 := [(oC 9 [.ref (b + 1), .ref (b + 14), .ref (b + 17), .ref (b + 19), .ref (b + 25), .ref (b + 29), .ref (b + 33), .ref pp, .int ht, .int (nI tp), .int sd, .int fa, .int (-1), .int 0]), (oC 6 [.ref (b + 2), .ref (b + 6), .ref (b + 7), .ref (b + 8), .ref qw, .int 1, .int (nI l), .int (nI w), .int rsd, .int (nI c)]), (oC 0 [.ref (b + 3), .ref ql, .int cn, .int s.2.1, .int s.2.2]), (aI 3 s.1), (aB 4096 fo), (aI 4096 fg), (aI 3 fz), (aR RX2 2 (imR b)), (oC 2 [.int i01, .int i02, .int i03, .int i04, .int i05, .int i06, .int i07]), (oC 2 [.int i11, .int i12, .int i13, .int i14, .int i15, .int i16, .int i17]), (oC 8 [.ref (b + 18), .int wm]), (aI 94 fw), (oC 1 [.ref (b + 20), .ref (b + 24), .int f.2.2.1.1, .int f.2.2.1.2.1, .int f.2.2.2.1, .int f.2.2.1.2.2.1, .int f.2.2.1.2.2.2.1, .int f.2.2.1.2.2.2.2.1, .int f.2.2.1.2.2.2.2.2]), (oC 0 [.ref (b + 21), .ref q0, .int c0, .int f.1.2.1, .int f.1.2.2]), (aI 3 f.1.1), (aI 3 f.2.1), (oC 0 [.ref (b + 26), .ref q1, .int c1, .int s1.2.1, .int s1.2.2]), (aI 3 s1.1), (oC 0 [.ref (b + 30), .ref q2, .int c2, .int s2.2.1, .int s2.2.2]), (aI 3 s2.1), (oC 5 (rdF (b + 34) ps x)), (aB 600 ft)]) rfl rfl) hpp (hPl_o hP1 (by intro a ha; simp only [List.mem_cons, List.not_mem_nil, or_false] at ha; rcases hpp with hpp | hpp <;> omega)) (hPl_o hP2 (by intro a ha; simp only [List.mem_cons, List.not_mem_nil, or_false] at ha; rcases hpp with hpp | hpp <;> omega)) hR0 hi0 hi1 htp hpo hht) (cFr_of (by intro a ha; simp only [List.mem_cons, List.not_mem_nil, or_false] at ha; omega))
  · refine w_aload_n dX9_astray_30 rfl ?_
    refine w_iconst (v := 2) dX9_astray_31 (by decide) ?_
    refine w_ldc nX9_120 dX9_astray_32 ?_
    refine w_callV (ci := 9) (d' := d) (mc' := 0) (ms' := 0) (As := [.int 2, .int (-1000000000)]) (st := []) lX9_75 vX9_refused rfl (hUs_at nd 0 rfl rfl) rfl (Nat.le_of_ble_eq_true rfl) dX9_astray_34 (Nat.le_of_ble_eq_true rfl) (Nat.le_of_ble_eq_true rfl) (Nat.le_refl _) (c_refused (hHas_sub nd (as' := [b]) (cs' := [(oC 9 [.ref (b + 1), .ref (b + 14), .ref (b + 17), .ref (b + 19), .ref (b + 25), .ref (b + 29), .ref (b + 33), .ref pp, .int ht, .int (nI tp), .int sd, .int fa, .int pl, .int tr])]) [0] rfl rfl) (nd_sub nd (as' := [b]) [0] rfl rfl)  ?_)
    refine w_heq (hUs_in nd rfl [0] (cs2 := [(oC 9 [.ref (b + 1), .ref (b + 14), .ref (b + 17), .ref (b + 19), .ref (b + 25), .ref (b + 29), .ref (b + 33), .ref pp, .int ht, .int (nI tp), .int sd, .int fa, .int (-1), .int 2]), (oC 6 [.ref (b + 2), .ref (b + 6), .ref (b + 7), .ref (b + 8), .ref qw, .int 1, .int (nI l), .int (nI w), .int rsd, .int (nI c)]), (aI 4096 fg)]) rfl rfl) ?_
    refine w_ireturn rfl dX9_astray_37 (Nat.le_of_ble_eq_true rfl) (Nat.le_of_ble_eq_true rfl) ?_
    have e : oAstF fg c a u = ((-1000000000), 2) := by
      simp [oAstF, b27]
    rw [e] at k
    exact k _ (cI_i (cI_put hW (cAs_nd b) rfl [0, 1, 5] (cs2 := [(oC 9 [.ref (b + 1), .ref (b + 14), .ref (b + 17), .ref (b + 19), .ref (b + 25), .ref (b + 29), .ref (b + 33), .ref pp, .int ht, .int (nI tp), .int sd, .int fa, .int (-1), .int 2]), (oC 6 [.ref (b + 2), .ref (b + 6), .ref (b + 7), .ref (b + 8), .ref qw, .int 1, .int (nI l), .int (nI w), .int rsd, .int (nI c)]), (oC 0 [.ref (b + 3), .ref ql, .int cn, .int s.2.1, .int s.2.2]), (aI 3 s.1), (aB 4096 fo), (aI 4096 fg), (aI 3 fz), (aR RX2 2 (imR b)), (oC 2 [.int i01, .int i02, .int i03, .int i04, .int i05, .int i06, .int i07]), (oC 2 [.int i11, .int i12, .int i13, .int i14, .int i15, .int i16, .int i17]), (oC 8 [.ref (b + 18), .int wm]), (aI 94 fw), (oC 1 [.ref (b + 20), .ref (b + 24), .int f.2.2.1.1, .int f.2.2.1.2.1, .int f.2.2.2.1, .int f.2.2.1.2.2.1, .int f.2.2.1.2.2.2.1, .int f.2.2.1.2.2.2.2.1, .int f.2.2.1.2.2.2.2.2]), (oC 0 [.ref (b + 21), .ref q0, .int c0, .int f.1.2.1, .int f.1.2.2]), (aI 3 f.1.1), (aI 3 f.2.1), (oC 0 [.ref (b + 26), .ref q1, .int c1, .int s1.2.1, .int s1.2.2]), (aI 3 s1.1), (oC 0 [.ref (b + 30), .ref q2, .int c2, .int s2.2.1, .int s2.2.2]), (aI 3 s2.1), (oC 5 (rdF (b + 34) ps x)), (aB 600 ft)]) rfl rfl) hpp (hPl_o hP1 (by intro a ha; simp only [List.mem_cons, List.not_mem_nil, or_false] at ha; rcases hpp with hpp | hpp <;> omega)) (hPl_o hP2 (by intro a ha; simp only [List.mem_cons, List.not_mem_nil, or_false] at ha; rcases hpp with hpp | hpp <;> omega)) hR0 hi0 hi1 htp hpo hht) (cFr_of (by intro a ha; simp only [List.mem_cons, List.not_mem_nil, or_false] at ha; omega))
theorem p_astray {G : wG} {d : Nat} {h : hH} {Q : Option Value → hH → Prop} {b : Nat} {ft : Nat → Int32} {tp : Nat} {P : pD} {ht : Int32} {R : Option rnD} {i0 i1 : imD} {sd fa pl tr : Int32}  {a u : Int32} (hI : cI h b ft tp P ht R i0 i1 sd fa pl tr) (k : ∀ h2, cI h2 b ft tp P ht R i0 i1 sd fa (-1) (oAst P R a u).2 → cFr b h h2 → Q (some (.int (oAst P R a u).1)) h2) : Cl G yX9_astray (d + 1) 0 0 [.ref b, .int a, .int u] h Q := by
  cases R with
  | none => exact p_astray_n hI k
  | some r => obtain ⟨l, w, rs, cc⟩ := r; exact p_astray_s hI k
