theorem likF_c {f g : Nat → Int32} {c A B n : Nat} (h : ∀ t, t < c → f t = g t) (hB : B < c) : likF f A B n = likF g A B n := by
  unfold likF
  exact fld_c A _ _ (fun t h1 h2 => by funext s; rw [h t (by omega), h (t + n) (by omega)])
theorem bstF_c {f g : Nat → Int32} {c A B : Nat} (h : ∀ t, t < c → f t = g t) (hB : B < c) (t : Nat) : bstF f A B t = bstF g A B t := by
  funext s
  unfold bstF
  rw [likF_c h hB]
theorem nthF_c {f g : Nat → Int32} {c : Nat} (h : ∀ t, t < c → f t = g t) (v k : Int32) : ∀ (n t : Nat) (s : Int32), t + n ≤ c → nthF f v k n t s = nthF g v k n t s
  | 0, _, _, _ => rfl
  | n + 1, t, s, e => by rw [nthF, nthF, h t (by omega), nthF_c h v k n (t + 1) (s + 1) (by omega), nthF_c h v k n (t + 1) s (by omega)]
theorem mxI1_ne (x : Int32) : ¬ mxI 1 x = 0 := by
  unfold mxI
  split
  · rename_i z; intro e; rw [e] at z; exact absurd z (by decide)
  · decide
theorem in3 {y : Int32} {m : Nat} (h0 : ¬ y < 0) (h1 : y < nI m) (hm : m < 2 ^ 31) : ∃ w, w < m ∧ y = nI w := by
  obtain ⟨j, hj, rfl⟩ := nI_of h0
  exact ⟨j, (nI_ltI hj hm).mp h1, rfl⟩
theorem smB_n {m y : Int32} (h : ¬ smB m y = 0) : ∃ M Y, M ≤ 3 ∧ 2 ≤ Y ∧ Y ≤ 32 ∧ m = nI M ∧ y = nI Y := by
  unfold smB at h
  by_cases e : (1 ≤ m ∧ m ≤ 3) ∧ 2 ≤ y ∧ y ≤ 32
  · obtain ⟨⟨e1, e2⟩, e3, e4⟩ := e
    obtain ⟨M, hM, rfl⟩ := in2 (m := 3) (fun z => absurd (Int32.lt_of_lt_of_le z (by decide)) (Int32.not_lt.mpr e1)) e2 (by decide)
    obtain ⟨Y, hY, rfl⟩ := in2 (m := 32) (fun z => absurd (Int32.lt_of_lt_of_le z (by decide)) (Int32.not_lt.mpr e3)) e4 (by decide)
    exact ⟨M, Y, hM, (nI_leI (a := 2) (b := Y) (by omega) (by omega)).mp e3, hY, rfl, rfl⟩
  · rw [if_neg e] at h; exact absurd rfl h
def oRowF (F : Nat → Int32) (c : Nat) (a u y : Int32) : Int32 × Int32 := if y < 0 ∨ 1 < y then (-1, 1) else if hasS a u c = 0 then (-1, 2) else (if y = 0 then (fld (fun t (s : Int32 × Int32) => (mxI s.1 (if F t = F (t - 1) then s.2 + 1 else 1), if F t = F (t - 1) then s.2 + 1 else 1)) (tN a + 1) (tN u - tN a) (1, 1)).1 else fld (fun t s => s + (if F t = F (t - 1) then 0 else 1)) (tN a + 1) (tN u - tN a) 0, 0)
theorem oRowF_c {f g : Nat → Int32} {c : Nat} (h : ∀ t, t < c → f t = g t) (hc : c ≤ 4096) (a u y : Int32) : oRowF f c a u y = oRowF g c a u y := by
  unfold oRowF
  by_cases e0 : y < 0 ∨ 1 < y
  · rw [if_pos e0, if_pos e0]
  · rw [if_neg e0, if_neg e0]
    by_cases e : hasS a u c = 0
    · rw [if_pos e, if_pos e]
    · rw [if_neg e, if_neg e]
      have z := hasS_t e hc
      rw [fld_c (α := Int32 × Int32) (g := fun t (s : Int32 × Int32) => (mxI s.1 (if g t = g (t - 1) then s.2 + 1 else 1), if g t = g (t - 1) then s.2 + 1 else 1)) (tN a + 1) _ _ (fun t h1 h2 => by funext s; rw [h t (by omega), h (t - 1) (by omega)]), fld_c (α := Int32) (g := fun t (s : Int32) => s + (if g t = g (t - 1) then 0 else 1)) (tN a + 1) _ _ (fun t h1 h2 => by funext s; rw [h t (by omega), h (t - 1) (by omega)])]
def oRow (P : pD) (R : Option rnD) (a u y : Int32) : Int32 × Int32 := match R with
  | none => (-1, 1)
  | some r => oRowF (rO (rQo P r.1 r.2.1 r.2.2.1)) r.2.2.2 a u y
set_option maxRecDepth 100000 in
set_option maxHeartbeats 4000000 in
theorem p_rows_n {G : wG} {d : Nat} {h : hH} {Q : Option Value → hH → Prop} {b : Nat} {ft : Nat → Int32} {tp : Nat} {P : pD} {ht : Int32} {i0 i1 : imD} {sd fa pl tr : Int32}  {a u y : Int32} (hI : cI h b ft tp P ht none i0 i1 sd fa pl tr)  (k : ∀ h2, cI h2 b ft tp P ht none i0 i1 sd fa (-1) (oRow P none a u y).2 → cFr b h h2 → Q (some (.int (oRow P none a u y).1)) h2) : Cl G yX9_rows (d + 2) 0 0 [.ref b, .int a, .int u, .int y] h Q := by
  refine cI_e hI ?_
  intro pp ps P2 go ln wn rsd c qw ql cn s fo fg fz i01 i02 i03 i04 i05 i06 i07 i11 i12 i13 i14 i15 i16 i17 wm fw f q0 c0 s1 q1 c1 s2 q2 c2 x hW hpp hP1 hP2 hR hi0 hi1 htp hpo hht
  have hgo : go = 0 := hR
  subst hgo
  have hw : hHas h [b, b + 1] [(oC 9 [.ref (b + 1), .ref (b + 14), .ref (b + 17), .ref (b + 19), .ref (b + 25), .ref (b + 29), .ref (b + 33), .ref pp, .int ht, .int (nI tp), .int sd, .int fa, .int pl, .int tr]), (oC 6 [.ref (b + 2), .ref (b + 6), .ref (b + 7), .ref (b + 8), .ref qw, .int 0, .int ln, .int wn, .int rsd, .int (nI c)])] := hHas_s hW [0, 1] rfl rfl
  have nd : [b, b + 1].Nodup := (nd_inc ⟨by omega, trivial⟩)
  refine Cl.of (ini := false) kX9_rows (plainFor_of_name (by decide)) (by decide) (Nat.le_of_ble_eq_true rfl) rfl rfl (fun z => by cases z) ?_
  refine w_heq (hUs_id hw).symm ?_
  refine w_aload_n dX9_rows_0 rfl ?_
  refine w_get (v := .ref (b + 1)) fX9_10 (hUs_at nd 0 rfl rfl) rfl dX9_rows_1 ?_
  refine w_get (v := .int 0) fX9_139 (hUs_at nd 1 rfl rfl) rfl dX9_rows_4 ?_
  refine w_if_eq_t (tgt := 19) dX9_rows_7 rfl (by decide) ?_
  refine w_aload_n dX9_rows_19 rfl ?_
  refine w_iconst (v := 1) dX9_rows_20 (by decide) ?_
  refine w_iconst (v := (-1)) dX9_rows_21 (by decide) ?_
  refine w_callV (ci := 9) (d' := d + 1) (mc' := 0) (ms' := 0) (As := [.int 1, .int (-1)]) (st := []) lX9_75 vX9_refused rfl (hUs_at nd 0 rfl rfl) rfl (Nat.le_of_ble_eq_true rfl) dX9_rows_22 (Nat.le_of_ble_eq_true rfl) (Nat.le_of_ble_eq_true rfl) (Nat.le_refl _) (c_refused (hHas_sub nd (as' := [b]) (cs' := [(oC 9 [.ref (b + 1), .ref (b + 14), .ref (b + 17), .ref (b + 19), .ref (b + 25), .ref (b + 29), .ref (b + 33), .ref pp, .int ht, .int (nI tp), .int sd, .int fa, .int pl, .int tr])]) [0] rfl rfl) (nd_sub nd (as' := [b]) [0] rfl rfl)  ?_)
  refine w_heq (hUs_in nd rfl [0] (cs2 := [(oC 9 [.ref (b + 1), .ref (b + 14), .ref (b + 17), .ref (b + 19), .ref (b + 25), .ref (b + 29), .ref (b + 33), .ref pp, .int ht, .int (nI tp), .int sd, .int fa, .int (-1), .int 1]), (oC 6 [.ref (b + 2), .ref (b + 6), .ref (b + 7), .ref (b + 8), .ref qw, .int 0, .int ln, .int wn, .int rsd, .int (nI c)])]) rfl rfl) ?_
  refine w_ireturn rfl dX9_rows_25 (Nat.le_of_ble_eq_true rfl) (Nat.le_of_ble_eq_true rfl) ?_
  have e : oRow P none a u y = ((-1), 1) := by
    simp [oRow]
  rw [e] at k
  exact k _ (cI_i (cI_put hW (cAs_nd b) rfl [0, 1] (cs2 := [(oC 9 [.ref (b + 1), .ref (b + 14), .ref (b + 17), .ref (b + 19), .ref (b + 25), .ref (b + 29), .ref (b + 33), .ref pp, .int ht, .int (nI tp), .int sd, .int fa, .int (-1), .int 1]), (oC 6 [.ref (b + 2), .ref (b + 6), .ref (b + 7), .ref (b + 8), .ref qw, .int 0, .int ln, .int wn, .int rsd, .int (nI c)]), (oC 0 [.ref (b + 3), .ref ql, .int cn, .int s.2.1, .int s.2.2]), (aI 3 s.1), (aB 4096 fo), (aI 4096 fg), (aI 3 fz), (aR RX2 2 (imR b)), (oC 2 [.int i01, .int i02, .int i03, .int i04, .int i05, .int i06, .int i07]), (oC 2 [.int i11, .int i12, .int i13, .int i14, .int i15, .int i16, .int i17]), (oC 8 [.ref (b + 18), .int wm]), (aI 94 fw), (oC 1 [.ref (b + 20), .ref (b + 24), .int f.2.2.1.1, .int f.2.2.1.2.1, .int f.2.2.2.1, .int f.2.2.1.2.2.1, .int f.2.2.1.2.2.2.1, .int f.2.2.1.2.2.2.2.1, .int f.2.2.1.2.2.2.2.2]), (oC 0 [.ref (b + 21), .ref q0, .int c0, .int f.1.2.1, .int f.1.2.2]), (aI 3 f.1.1), (aI 3 f.2.1), (oC 0 [.ref (b + 26), .ref q1, .int c1, .int s1.2.1, .int s1.2.2]), (aI 3 s1.1), (oC 0 [.ref (b + 30), .ref q2, .int c2, .int s2.2.1, .int s2.2.2]), (aI 3 s2.1), (oC 5 (rdF (b + 34) ps x)), (aB 600 ft)]) rfl rfl) hpp (hPl_o hP1 (by intro a ha; simp only [List.mem_cons, List.not_mem_nil, or_false] at ha; rcases hpp with hpp | hpp <;> omega)) (hPl_o hP2 (by intro a ha; simp only [List.mem_cons, List.not_mem_nil, or_false] at ha; rcases hpp with hpp | hpp <;> omega)) hR hi0 hi1 htp hpo hht) (cFr_of (by intro a ha; simp only [List.mem_cons, List.not_mem_nil, or_false] at ha; omega))
set_option maxRecDepth 100000 in
set_option maxHeartbeats 4000000 in
theorem p_rows_s {G : wG} {d : Nat} {h : hH} {Q : Option Value → hH → Prop} {b : Nat} {ft : Nat → Int32} {tp : Nat} {P : pD} {ht : Int32} {i0 i1 : imD} {sd fa pl tr : Int32}  {l w cc : Nat} {rs : Int32} {a u y : Int32} (hI : cI h b ft tp P ht (some (l, w, rs, cc)) i0 i1 sd fa pl tr)  (k : ∀ h2, cI h2 b ft tp P ht (some (l, w, rs, cc)) i0 i1 sd fa (-1) (oRow P (some (l, w, rs, cc)) a u y).2 → cFr b h h2 → Q (some (.int (oRow P (some (l, w, rs, cc)) a u y).1)) h2) : Cl G yX9_rows (d + 2) 0 0 [.ref b, .int a, .int u, .int y] h Q := by
  refine cI_e hI ?_
  intro pp ps P2 go ln wn rsd c qw ql cn s fo fg fz i01 i02 i03 i04 i05 i06 i07 i11 i12 i13 i14 i15 i16 i17 wm fw f q0 c0 s1 q1 c1 s2 q2 c2 x hW hpp hP1 hP2 hR hi0 hi1 htp hpo hht
  have hR0 := hR
  simp only [rIv] at hR
  obtain ⟨hrn, hgo, hln, hwn, hrs, hcc, hqw, hql, hcn, hs, hfo, hfg, hfz⟩ := hR
  subst hgo; subst hln; subst hwn; subst hrs; subst hcc
  have hc : c ≤ 4096 := hrn.2.2
  rw [show oRow P (some (l, w, rsd, c)) a u y = oRowF fo c a u y from (oRowF_c hfo hc a u y).symm] at k
  
  have hw : hHas h [b, b + 1, b + 6] [(oC 9 [.ref (b + 1), .ref (b + 14), .ref (b + 17), .ref (b + 19), .ref (b + 25), .ref (b + 29), .ref (b + 33), .ref pp, .int ht, .int (nI tp), .int sd, .int fa, .int pl, .int tr]), (oC 6 [.ref (b + 2), .ref (b + 6), .ref (b + 7), .ref (b + 8), .ref qw, .int 1, .int (nI l), .int (nI w), .int rsd, .int (nI c)]), (aB 4096 fo)] := hHas_s hW [0, 1, 4] rfl rfl
  have nd : [b, b + 1, b + 6].Nodup := (nd_inc ⟨by omega, by omega, trivial⟩)
  refine Cl.of (ini := false) kX9_rows (plainFor_of_name (by decide)) (by decide) (Nat.le_of_ble_eq_true rfl) rfl rfl (fun z => by cases z) ?_
  refine w_heq (hUs_id hw).symm ?_
  refine w_aload_n dX9_rows_0 rfl ?_
  refine w_get (v := .ref (b + 1)) fX9_10 (hUs_at nd 0 rfl rfl) rfl dX9_rows_1 ?_
  refine w_get (v := .int 1) fX9_139 (hUs_at nd 1 rfl rfl) rfl dX9_rows_4 ?_
  refine w_if_eq_f (tgt := 19) dX9_rows_7 rfl (by decide) ?_
  refine w_iload_n dX9_rows_10 rfl ?_
  refine w_if_lt (tgt := 19) dX9_rows_11 rfl (fun b11 => ?_) (fun b11 => ?_)
  · refine w_aload_n dX9_rows_19 rfl ?_
    refine w_iconst (v := 1) dX9_rows_20 (by decide) ?_
    refine w_iconst (v := (-1)) dX9_rows_21 (by decide) ?_
    refine w_callV (ci := 9) (d' := d + 1) (mc' := 0) (ms' := 0) (As := [.int 1, .int (-1)]) (st := []) lX9_75 vX9_refused rfl (hUs_at nd 0 rfl rfl) rfl (Nat.le_of_ble_eq_true rfl) dX9_rows_22 (Nat.le_of_ble_eq_true rfl) (Nat.le_of_ble_eq_true rfl) (Nat.le_refl _) (c_refused (hHas_sub nd (as' := [b]) (cs' := [(oC 9 [.ref (b + 1), .ref (b + 14), .ref (b + 17), .ref (b + 19), .ref (b + 25), .ref (b + 29), .ref (b + 33), .ref pp, .int ht, .int (nI tp), .int sd, .int fa, .int pl, .int tr])]) [0] rfl rfl) (nd_sub nd (as' := [b]) [0] rfl rfl)  ?_)
    refine w_heq (hUs_in nd rfl [0] (cs2 := [(oC 9 [.ref (b + 1), .ref (b + 14), .ref (b + 17), .ref (b + 19), .ref (b + 25), .ref (b + 29), .ref (b + 33), .ref pp, .int ht, .int (nI tp), .int sd, .int fa, .int (-1), .int 1]), (oC 6 [.ref (b + 2), .ref (b + 6), .ref (b + 7), .ref (b + 8), .ref qw, .int 1, .int (nI l), .int (nI w), .int rsd, .int (nI c)]), (aB 4096 fo)]) rfl rfl) ?_
    refine w_ireturn rfl dX9_rows_25 (Nat.le_of_ble_eq_true rfl) (Nat.le_of_ble_eq_true rfl) ?_
    have e : oRowF fo c a u y = ((-1), 1) := by
      simp [oRowF, b11]
    rw [e] at k
    exact k _ (cI_i (cI_put hW (cAs_nd b) rfl [0, 1, 4] (cs2 := [(oC 9 [.ref (b + 1), .ref (b + 14), .ref (b + 17), .ref (b + 19), .ref (b + 25), .ref (b + 29), .ref (b + 33), .ref pp, .int ht, .int (nI tp), .int sd, .int fa, .int (-1), .int 1]), (oC 6 [.ref (b + 2), .ref (b + 6), .ref (b + 7), .ref (b + 8), .ref qw, .int 1, .int (nI l), .int (nI w), .int rsd, .int (nI c)]), (oC 0 [.ref (b + 3), .ref ql, .int cn, .int s.2.1, .int s.2.2]), (aI 3 s.1), (aB 4096 fo), (aI 4096 fg), (aI 3 fz), (aR RX2 2 (imR b)), (oC 2 [.int i01, .int i02, .int i03, .int i04, .int i05, .int i06, .int i07]), (oC 2 [.int i11, .int i12, .int i13, .int i14, .int i15, .int i16, .int i17]), (oC 8 [.ref (b + 18), .int wm]), (aI 94 fw), (oC 1 [.ref (b + 20), .ref (b + 24), .int f.2.2.1.1, .int f.2.2.1.2.1, .int f.2.2.2.1, .int f.2.2.1.2.2.1, .int f.2.2.1.2.2.2.1, .int f.2.2.1.2.2.2.2.1, .int f.2.2.1.2.2.2.2.2]), (oC 0 [.ref (b + 21), .ref q0, .int c0, .int f.1.2.1, .int f.1.2.2]), (aI 3 f.1.1), (aI 3 f.2.1), (oC 0 [.ref (b + 26), .ref q1, .int c1, .int s1.2.1, .int s1.2.2]), (aI 3 s1.1), (oC 0 [.ref (b + 30), .ref q2, .int c2, .int s2.2.1, .int s2.2.2]), (aI 3 s2.1), (oC 5 (rdF (b + 34) ps x)), (aB 600 ft)]) rfl rfl) hpp (hPl_o hP1 (by intro a ha; simp only [List.mem_cons, List.not_mem_nil, or_false] at ha; rcases hpp with hpp | hpp <;> omega)) (hPl_o hP2 (by intro a ha; simp only [List.mem_cons, List.not_mem_nil, or_false] at ha; rcases hpp with hpp | hpp <;> omega)) hR0 hi0 hi1 htp hpo hht) (cFr_of (by intro a ha; simp only [List.mem_cons, List.not_mem_nil, or_false] at ha; omega))
  · refine w_iload_n dX9_rows_14 rfl ?_
    refine w_iconst (v := 1) dX9_rows_15 (by decide) ?_
    refine w_icmp_le (tgt := 26) dX9_rows_16 rfl (fun b16 => ?_) (fun b16 => ?_)
    · refine w_aload_n dX9_rows_26 rfl ?_
      refine w_get (v := .ref (b + 1)) fX9_10 (hUs_at nd 0 rfl rfl) rfl dX9_rows_27 ?_
      refine w_iload_n dX9_rows_30 rfl ?_
      refine w_iload_n dX9_rows_31 rfl ?_
      refine w_callV (ci := 6) (d' := d + 1) (mc' := 0) (ms' := 0) (As := [.int a, .int u]) (st := []) lX9_162 vX6_hasStretch rfl (hUs_at nd 1 rfl rfl) rfl (Nat.le_of_ble_eq_true rfl) dX9_rows_32 (Nat.le_of_ble_eq_true rfl) (Nat.le_of_ble_eq_true rfl) (Nat.le_refl _) (c_hasStretch (hHas_sub nd (as' := [b + 1]) (cs' := [(oC 6 [.ref (b + 2), .ref (b + 6), .ref (b + 7), .ref (b + 8), .ref qw, .int 1, .int (nI l), .int (nI w), .int rsd, .int (nI c)])]) [1] rfl rfl)  ?_)
      refine w_if_ne (tgt := 45) dX9_rows_35 rfl (fun b35 => ?_) (fun b35 => ?_)
      · obtain ⟨A, B, hA, hB, rfl, rfl⟩ := hasS_n b35 hc
        have hAc := nI_clamp (show A < 2 ^ 31 by omega)
        have hBc := nI_clamp (show B < 2 ^ 31 by omega)
        refine w_aload_n dX9_rows_45 rfl ?_
        refine w_iload_n dX9_rows_46 rfl ?_
        refine w_if_ne (tgt := 62) dX9_rows_47 rfl (fun b47 => ?_) (fun b47 => ?_)
        · refine w_aload_n dX9_rows_62 rfl ?_
          refine w_get (v := .ref (b + 1)) fX9_10 (hUs_at nd 0 rfl rfl) rfl dX9_rows_63 ?_
          refine w_iload_n dX9_rows_66 rfl ?_
          refine w_iload_n dX9_rows_67 rfl ?_
          refine w_callV (ci := 6) (d' := d + 1) (mc' := 0) (ms' := 0) (As := [.int (nI A), .int (nI B)]) (st := [.ref b]) lX9_183 vX6_changes rfl (hUs_at nd 1 rfl rfl) rfl (Nat.le_of_ble_eq_true rfl) dX9_rows_68 (Nat.le_of_ble_eq_true rfl) (Nat.le_of_ble_eq_true rfl) (Nat.le_refl _) (c_changes (hHas_sub nd (as' := [b + 1, b + 6]) (cs' := [(oC 6 [.ref (b + 2), .ref (b + 6), .ref (b + 7), .ref (b + 8), .ref qw, .int 1, .int (nI l), .int (nI w), .int rsd, .int (nI c)]), (aB 4096 fo)]) [1, 2] rfl rfl) (by omega) (by omega) ?_)
          refine w_callV (ci := 9) (d' := d + 1) (mc' := 0) (ms' := 0) (As := [.int (fld (fun t s => s + (if fo t = fo (t - 1) then 0 else 1)) (A + 1) (B - A) 0)]) (st := []) lX9_96 vX9_granted rfl (hUs_at nd 0 rfl rfl) rfl (Nat.le_of_ble_eq_true rfl) dX9_rows_71 (Nat.le_of_ble_eq_true rfl) (Nat.le_of_ble_eq_true rfl) (Nat.le_refl _) (c_granted (hHas_sub nd (as' := [b]) (cs' := [(oC 9 [.ref (b + 1), .ref (b + 14), .ref (b + 17), .ref (b + 19), .ref (b + 25), .ref (b + 29), .ref (b + 33), .ref pp, .int ht, .int (nI tp), .int sd, .int fa, .int pl, .int tr])]) [0] rfl rfl) (nd_sub nd (as' := [b]) [0] rfl rfl)  ?_)
          refine w_heq (hUs_in nd rfl [0] (cs2 := [(oC 9 [.ref (b + 1), .ref (b + 14), .ref (b + 17), .ref (b + 19), .ref (b + 25), .ref (b + 29), .ref (b + 33), .ref pp, .int ht, .int (nI tp), .int sd, .int fa, .int (-1), .int 0]), (oC 6 [.ref (b + 2), .ref (b + 6), .ref (b + 7), .ref (b + 8), .ref qw, .int 1, .int (nI l), .int (nI w), .int rsd, .int (nI c)]), (aB 4096 fo)]) rfl rfl) ?_
          refine w_ireturn rfl dX9_rows_74 (Nat.le_of_ble_eq_true rfl) (Nat.le_of_ble_eq_true rfl) ?_
          have e : oRowF fo c (nI A) (nI B) y = (fld (fun t s => s + (if fo t = fo (t - 1) then 0 else 1)) (A + 1) (B - A) 0, 0) := by
            simp [oRowF, hAc, hBc, b11, b16, b35, b47]
          rw [e] at k
          exact k _ (cI_i (cI_put hW (cAs_nd b) rfl [0, 1, 4] (cs2 := [(oC 9 [.ref (b + 1), .ref (b + 14), .ref (b + 17), .ref (b + 19), .ref (b + 25), .ref (b + 29), .ref (b + 33), .ref pp, .int ht, .int (nI tp), .int sd, .int fa, .int (-1), .int 0]), (oC 6 [.ref (b + 2), .ref (b + 6), .ref (b + 7), .ref (b + 8), .ref qw, .int 1, .int (nI l), .int (nI w), .int rsd, .int (nI c)]), (oC 0 [.ref (b + 3), .ref ql, .int cn, .int s.2.1, .int s.2.2]), (aI 3 s.1), (aB 4096 fo), (aI 4096 fg), (aI 3 fz), (aR RX2 2 (imR b)), (oC 2 [.int i01, .int i02, .int i03, .int i04, .int i05, .int i06, .int i07]), (oC 2 [.int i11, .int i12, .int i13, .int i14, .int i15, .int i16, .int i17]), (oC 8 [.ref (b + 18), .int wm]), (aI 94 fw), (oC 1 [.ref (b + 20), .ref (b + 24), .int f.2.2.1.1, .int f.2.2.1.2.1, .int f.2.2.2.1, .int f.2.2.1.2.2.1, .int f.2.2.1.2.2.2.1, .int f.2.2.1.2.2.2.2.1, .int f.2.2.1.2.2.2.2.2]), (oC 0 [.ref (b + 21), .ref q0, .int c0, .int f.1.2.1, .int f.1.2.2]), (aI 3 f.1.1), (aI 3 f.2.1), (oC 0 [.ref (b + 26), .ref q1, .int c1, .int s1.2.1, .int s1.2.2]), (aI 3 s1.1), (oC 0 [.ref (b + 30), .ref q2, .int c2, .int s2.2.1, .int s2.2.2]), (aI 3 s2.1), (oC 5 (rdF (b + 34) ps x)), (aB 600 ft)]) rfl rfl) hpp (hPl_o hP1 (by intro a ha; simp only [List.mem_cons, List.not_mem_nil, or_false] at ha; rcases hpp with hpp | hpp <;> omega)) (hPl_o hP2 (by intro a ha; simp only [List.mem_cons, List.not_mem_nil, or_false] at ha; rcases hpp with hpp | hpp <;> omega)) hR0 hi0 hi1 htp hpo hht) (cFr_of (by intro a ha; simp only [List.mem_cons, List.not_mem_nil, or_false] at ha; omega))
        · refine w_aload_n dX9_rows_50 rfl ?_
          refine w_get (v := .ref (b + 1)) fX9_10 (hUs_at nd 0 rfl rfl) rfl dX9_rows_51 ?_
          refine w_iload_n dX9_rows_54 rfl ?_
          refine w_iload_n dX9_rows_55 rfl ?_
          refine w_callV (ci := 6) (d' := d + 1) (mc' := 0) (ms' := 0) (As := [.int (nI A), .int (nI B)]) (st := [.ref b]) lX9_180 vX6_longestRow rfl (hUs_at nd 1 rfl rfl) rfl (Nat.le_of_ble_eq_true rfl) dX9_rows_56 (Nat.le_of_ble_eq_true rfl) (Nat.le_of_ble_eq_true rfl) (Nat.le_refl _) (c_longestRow (hHas_sub nd (as' := [b + 1, b + 6]) (cs' := [(oC 6 [.ref (b + 2), .ref (b + 6), .ref (b + 7), .ref (b + 8), .ref qw, .int 1, .int (nI l), .int (nI w), .int rsd, .int (nI c)]), (aB 4096 fo)]) [1, 2] rfl rfl) (by omega) (by omega) ?_)
          refine w_goto (tgt := 71) dX9_rows_59 rfl ?_
          refine w_callV (ci := 9) (d' := d + 1) (mc' := 0) (ms' := 0) (As := [.int (fld (fun t (s : Int32 × Int32) => (mxI s.1 (if fo t = fo (t - 1) then s.2 + 1 else 1), if fo t = fo (t - 1) then s.2 + 1 else 1)) (A + 1) (B - A) (1, 1)).1]) (st := []) lX9_96 vX9_granted rfl (hUs_at nd 0 rfl rfl) rfl (Nat.le_of_ble_eq_true rfl) dX9_rows_71 (Nat.le_of_ble_eq_true rfl) (Nat.le_of_ble_eq_true rfl) (Nat.le_refl _) (c_granted (hHas_sub nd (as' := [b]) (cs' := [(oC 9 [.ref (b + 1), .ref (b + 14), .ref (b + 17), .ref (b + 19), .ref (b + 25), .ref (b + 29), .ref (b + 33), .ref pp, .int ht, .int (nI tp), .int sd, .int fa, .int pl, .int tr])]) [0] rfl rfl) (nd_sub nd (as' := [b]) [0] rfl rfl)  ?_)
          refine w_heq (hUs_in nd rfl [0] (cs2 := [(oC 9 [.ref (b + 1), .ref (b + 14), .ref (b + 17), .ref (b + 19), .ref (b + 25), .ref (b + 29), .ref (b + 33), .ref pp, .int ht, .int (nI tp), .int sd, .int fa, .int (-1), .int 0]), (oC 6 [.ref (b + 2), .ref (b + 6), .ref (b + 7), .ref (b + 8), .ref qw, .int 1, .int (nI l), .int (nI w), .int rsd, .int (nI c)]), (aB 4096 fo)]) rfl rfl) ?_
          refine w_ireturn rfl dX9_rows_74 (Nat.le_of_ble_eq_true rfl) (Nat.le_of_ble_eq_true rfl) ?_
          have e : oRowF fo c (nI A) (nI B) y = ((fld (fun t (s : Int32 × Int32) => (mxI s.1 (if fo t = fo (t - 1) then s.2 + 1 else 1), if fo t = fo (t - 1) then s.2 + 1 else 1)) (A + 1) (B - A) (1, 1)).1, 0) := by
            simp [oRowF, hAc, hBc, b11, b16, b35, b47]
          rw [e] at k
          exact k _ (cI_i (cI_put hW (cAs_nd b) rfl [0, 1, 4] (cs2 := [(oC 9 [.ref (b + 1), .ref (b + 14), .ref (b + 17), .ref (b + 19), .ref (b + 25), .ref (b + 29), .ref (b + 33), .ref pp, .int ht, .int (nI tp), .int sd, .int fa, .int (-1), .int 0]), (oC 6 [.ref (b + 2), .ref (b + 6), .ref (b + 7), .ref (b + 8), .ref qw, .int 1, .int (nI l), .int (nI w), .int rsd, .int (nI c)]), (oC 0 [.ref (b + 3), .ref ql, .int cn, .int s.2.1, .int s.2.2]), (aI 3 s.1), (aB 4096 fo), (aI 4096 fg), (aI 3 fz), (aR RX2 2 (imR b)), (oC 2 [.int i01, .int i02, .int i03, .int i04, .int i05, .int i06, .int i07]), (oC 2 [.int i11, .int i12, .int i13, .int i14, .int i15, .int i16, .int i17]), (oC 8 [.ref (b + 18), .int wm]), (aI 94 fw), (oC 1 [.ref (b + 20), .ref (b + 24), .int f.2.2.1.1, .int f.2.2.1.2.1, .int f.2.2.2.1, .int f.2.2.1.2.2.1, .int f.2.2.1.2.2.2.1, .int f.2.2.1.2.2.2.2.1, .int f.2.2.1.2.2.2.2.2]), (oC 0 [.ref (b + 21), .ref q0, .int c0, .int f.1.2.1, .int f.1.2.2]), (aI 3 f.1.1), (aI 3 f.2.1), (oC 0 [.ref (b + 26), .ref q1, .int c1, .int s1.2.1, .int s1.2.2]), (aI 3 s1.1), (oC 0 [.ref (b + 30), .ref q2, .int c2, .int s2.2.1, .int s2.2.2]), (aI 3 s2.1), (oC 5 (rdF (b + 34) ps x)), (aB 600 ft)]) rfl rfl) hpp (hPl_o hP1 (by intro a ha; simp only [List.mem_cons, List.not_mem_nil, or_false] at ha; rcases hpp with hpp | hpp <;> omega)) (hPl_o hP2 (by intro a ha; simp only [List.mem_cons, List.not_mem_nil, or_false] at ha; rcases hpp with hpp | hpp <;> omega)) hR0 hi0 hi1 htp hpo hht) (cFr_of (by intro a ha; simp only [List.mem_cons, List.not_mem_nil, or_false] at ha; omega))
      · refine w_aload_n dX9_rows_38 rfl ?_
        refine w_iconst (v := 2) dX9_rows_39 (by decide) ?_
        refine w_iconst (v := (-1)) dX9_rows_40 (by decide) ?_
        refine w_callV (ci := 9) (d' := d + 1) (mc' := 0) (ms' := 0) (As := [.int 2, .int (-1)]) (st := []) lX9_75 vX9_refused rfl (hUs_at nd 0 rfl rfl) rfl (Nat.le_of_ble_eq_true rfl) dX9_rows_41 (Nat.le_of_ble_eq_true rfl) (Nat.le_of_ble_eq_true rfl) (Nat.le_refl _) (c_refused (hHas_sub nd (as' := [b]) (cs' := [(oC 9 [.ref (b + 1), .ref (b + 14), .ref (b + 17), .ref (b + 19), .ref (b + 25), .ref (b + 29), .ref (b + 33), .ref pp, .int ht, .int (nI tp), .int sd, .int fa, .int pl, .int tr])]) [0] rfl rfl) (nd_sub nd (as' := [b]) [0] rfl rfl)  ?_)
        refine w_heq (hUs_in nd rfl [0] (cs2 := [(oC 9 [.ref (b + 1), .ref (b + 14), .ref (b + 17), .ref (b + 19), .ref (b + 25), .ref (b + 29), .ref (b + 33), .ref pp, .int ht, .int (nI tp), .int sd, .int fa, .int (-1), .int 2]), (oC 6 [.ref (b + 2), .ref (b + 6), .ref (b + 7), .ref (b + 8), .ref qw, .int 1, .int (nI l), .int (nI w), .int rsd, .int (nI c)]), (aB 4096 fo)]) rfl rfl) ?_
        refine w_ireturn rfl dX9_rows_44 (Nat.le_of_ble_eq_true rfl) (Nat.le_of_ble_eq_true rfl) ?_
        have e : oRowF fo c a u y = ((-1), 2) := by
          simp [oRowF, b11, b16, b35]
        rw [e] at k
        exact k _ (cI_i (cI_put hW (cAs_nd b) rfl [0, 1, 4] (cs2 := [(oC 9 [.ref (b + 1), .ref (b + 14), .ref (b + 17), .ref (b + 19), .ref (b + 25), .ref (b + 29), .ref (b + 33), .ref pp, .int ht, .int (nI tp), .int sd, .int fa, .int (-1), .int 2]), (oC 6 [.ref (b + 2), .ref (b + 6), .ref (b + 7), .ref (b + 8), .ref qw, .int 1, .int (nI l), .int (nI w), .int rsd, .int (nI c)]), (oC 0 [.ref (b + 3), .ref ql, .int cn, .int s.2.1, .int s.2.2]), (aI 3 s.1), (aB 4096 fo), (aI 4096 fg), (aI 3 fz), (aR RX2 2 (imR b)), (oC 2 [.int i01, .int i02, .int i03, .int i04, .int i05, .int i06, .int i07]), (oC 2 [.int i11, .int i12, .int i13, .int i14, .int i15, .int i16, .int i17]), (oC 8 [.ref (b + 18), .int wm]), (aI 94 fw), (oC 1 [.ref (b + 20), .ref (b + 24), .int f.2.2.1.1, .int f.2.2.1.2.1, .int f.2.2.2.1, .int f.2.2.1.2.2.1, .int f.2.2.1.2.2.2.1, .int f.2.2.1.2.2.2.2.1, .int f.2.2.1.2.2.2.2.2]), (oC 0 [.ref (b + 21), .ref q0, .int c0, .int f.1.2.1, .int f.1.2.2]), (aI 3 f.1.1), (aI 3 f.2.1), (oC 0 [.ref (b + 26), .ref q1, .int c1, .int s1.2.1, .int s1.2.2]), (aI 3 s1.1), (oC 0 [.ref (b + 30), .ref q2, .int c2, .int s2.2.1, .int s2.2.2]), (aI 3 s2.1), (oC 5 (rdF (b + 34) ps x)), (aB 600 ft)]) rfl rfl) hpp (hPl_o hP1 (by intro a ha; simp only [List.mem_cons, List.not_mem_nil, or_false] at ha; rcases hpp with hpp | hpp <;> omega)) (hPl_o hP2 (by intro a ha; simp only [List.mem_cons, List.not_mem_nil, or_false] at ha; rcases hpp with hpp | hpp <;> omega)) hR0 hi0 hi1 htp hpo hht) (cFr_of (by intro a ha; simp only [List.mem_cons, List.not_mem_nil, or_false] at ha; omega))
    · refine w_aload_n dX9_rows_19 rfl ?_
      refine w_iconst (v := 1) dX9_rows_20 (by decide) ?_
      refine w_iconst (v := (-1)) dX9_rows_21 (by decide) ?_
      refine w_callV (ci := 9) (d' := d + 1) (mc' := 0) (ms' := 0) (As := [.int 1, .int (-1)]) (st := []) lX9_75 vX9_refused rfl (hUs_at nd 0 rfl rfl) rfl (Nat.le_of_ble_eq_true rfl) dX9_rows_22 (Nat.le_of_ble_eq_true rfl) (Nat.le_of_ble_eq_true rfl) (Nat.le_refl _) (c_refused (hHas_sub nd (as' := [b]) (cs' := [(oC 9 [.ref (b + 1), .ref (b + 14), .ref (b + 17), .ref (b + 19), .ref (b + 25), .ref (b + 29), .ref (b + 33), .ref pp, .int ht, .int (nI tp), .int sd, .int fa, .int pl, .int tr])]) [0] rfl rfl) (nd_sub nd (as' := [b]) [0] rfl rfl)  ?_)
      refine w_heq (hUs_in nd rfl [0] (cs2 := [(oC 9 [.ref (b + 1), .ref (b + 14), .ref (b + 17), .ref (b + 19), .ref (b + 25), .ref (b + 29), .ref (b + 33), .ref pp, .int ht, .int (nI tp), .int sd, .int fa, .int (-1), .int 1]), (oC 6 [.ref (b + 2), .ref (b + 6), .ref (b + 7), .ref (b + 8), .ref qw, .int 1, .int (nI l), .int (nI w), .int rsd, .int (nI c)]), (aB 4096 fo)]) rfl rfl) ?_
      refine w_ireturn rfl dX9_rows_25 (Nat.le_of_ble_eq_true rfl) (Nat.le_of_ble_eq_true rfl) ?_
      have e : oRowF fo c a u y = ((-1), 1) := by
        simp [oRowF, b11, b16]
      rw [e] at k
      exact k _ (cI_i (cI_put hW (cAs_nd b) rfl [0, 1, 4] (cs2 := [(oC 9 [.ref (b + 1), .ref (b + 14), .ref (b + 17), .ref (b + 19), .ref (b + 25), .ref (b + 29), .ref (b + 33), .ref pp, .int ht, .int (nI tp), .int sd, .int fa, .int (-1), .int 1]), (oC 6 [.ref (b + 2), .ref (b + 6), .ref (b + 7), .ref (b + 8), .ref qw, .int 1, .int (nI l), .int (nI w), .int rsd, .int (nI c)]), (oC 0 [.ref (b + 3), .ref ql, .int cn, .int s.2.1, .int s.2.2]), (aI 3 s.1), (aB 4096 fo), (aI 4096 fg), (aI 3 fz), (aR RX2 2 (imR b)), (oC 2 [.int i01, .int i02, .int i03, .int i04, .int i05, .int i06, .int i07]), (oC 2 [.int i11, .int i12, .int i13, .int i14, .int i15, .int i16, .int i17]), (oC 8 [.ref (b + 18), .int wm]), (aI 94 fw), (oC 1 [.ref (b + 20), .ref (b + 24), .int f.2.2.1.1, .int f.2.2.1.2.1, .int f.2.2.2.1, .int f.2.2.1.2.2.1, .int f.2.2.1.2.2.2.1, .int f.2.2.1.2.2.2.2.1, .int f.2.2.1.2.2.2.2.2]), (oC 0 [.ref (b + 21), .ref q0, .int c0, .int f.1.2.1, .int f.1.2.2]), (aI 3 f.1.1), (aI 3 f.2.1), (oC 0 [.ref (b + 26), .ref q1, .int c1, .int s1.2.1, .int s1.2.2]), (aI 3 s1.1), (oC 0 [.ref (b + 30), .ref q2, .int c2, .int s2.2.1, .int s2.2.2]), (aI 3 s2.1), (oC 5 (rdF (b + 34) ps x)), (aB 600 ft)]) rfl rfl) hpp (hPl_o hP1 (by intro a ha; simp only [List.mem_cons, List.not_mem_nil, or_false] at ha; rcases hpp with hpp | hpp <;> omega)) (hPl_o hP2 (by intro a ha; simp only [List.mem_cons, List.not_mem_nil, or_false] at ha; rcases hpp with hpp | hpp <;> omega)) hR0 hi0 hi1 htp hpo hht) (cFr_of (by intro a ha; simp only [List.mem_cons, List.not_mem_nil, or_false] at ha; omega))
theorem p_rows {G : wG} {d : Nat} {h : hH} {Q : Option Value → hH → Prop} {b : Nat} {ft : Nat → Int32} {tp : Nat} {P : pD} {ht : Int32} {R : Option rnD} {i0 i1 : imD} {sd fa pl tr : Int32}  {a u y : Int32} (hI : cI h b ft tp P ht R i0 i1 sd fa pl tr) (k : ∀ h2, cI h2 b ft tp P ht R i0 i1 sd fa (-1) (oRow P R a u y).2 → cFr b h h2 → Q (some (.int (oRow P R a u y).1)) h2) : Cl G yX9_rows (d + 2) 0 0 [.ref b, .int a, .int u, .int y] h Q := by
  cases R with
  | none => exact p_rows_n hI k
  | some r => obtain ⟨l, w, rs, cc⟩ := r; exact p_rows_s hI k
def oLikF (F : Nat → Int32) (c : Nat) (a u y : Int32) : Int32 × Int32 := if hasS a u c = 0 ∨ y < 1 ∨ 1000 < y then (-1, 2) else (likF F (tN a) (tN u) (tN y), 0)
theorem oLikF_c {f g : Nat → Int32} {c : Nat} (h : ∀ t, t < c → f t = g t) (hc : c ≤ 4096) (a u y : Int32) : oLikF f c a u y = oLikF g c a u y := by
  unfold oLikF
  by_cases e : hasS a u c = 0 ∨ y < 1 ∨ 1000 < y
  · rw [if_pos e, if_pos e]
  · rw [if_neg e, if_neg e]
    have z := hasS_t (fun z => e (Or.inl z)) hc
    rw [likF_c h z.2]
def oLik (P : pD) (R : Option rnD) (a u y : Int32) : Int32 × Int32 := match R with
  | none => (-1, 1)
  | some r => oLikF (rO (rQo P r.1 r.2.1 r.2.2.1)) r.2.2.2 a u y
set_option maxRecDepth 100000 in
set_option maxHeartbeats 4000000 in
theorem p_like_n {G : wG} {d : Nat} {h : hH} {Q : Option Value → hH → Prop} {b : Nat} {ft : Nat → Int32} {tp : Nat} {P : pD} {ht : Int32} {i0 i1 : imD} {sd fa pl tr : Int32}  {a u y : Int32} (hI : cI h b ft tp P ht none i0 i1 sd fa pl tr)  (k : ∀ h2, cI h2 b ft tp P ht none i0 i1 sd fa (-1) (oLik P none a u y).2 → cFr b h h2 → Q (some (.int (oLik P none a u y).1)) h2) : Cl G yX9_like (d + 1) 0 0 [.ref b, .int a, .int u, .int y] h Q := by
  refine cI_e hI ?_
  intro pp ps P2 go ln wn rsd c qw ql cn s fo fg fz i01 i02 i03 i04 i05 i06 i07 i11 i12 i13 i14 i15 i16 i17 wm fw f q0 c0 s1 q1 c1 s2 q2 c2 x hW hpp hP1 hP2 hR hi0 hi1 htp hpo hht
  have hgo : go = 0 := hR
  subst hgo
  have hw : hHas h [b, b + 1] [(oC 9 [.ref (b + 1), .ref (b + 14), .ref (b + 17), .ref (b + 19), .ref (b + 25), .ref (b + 29), .ref (b + 33), .ref pp, .int ht, .int (nI tp), .int sd, .int fa, .int pl, .int tr]), (oC 6 [.ref (b + 2), .ref (b + 6), .ref (b + 7), .ref (b + 8), .ref qw, .int 0, .int ln, .int wn, .int rsd, .int (nI c)])] := hHas_s hW [0, 1] rfl rfl
  have nd : [b, b + 1].Nodup := (nd_inc ⟨by omega, trivial⟩)
  refine Cl.of (ini := false) kX9_like (plainFor_of_name (by decide)) (by decide) (Nat.le_of_ble_eq_true rfl) rfl rfl (fun z => by cases z) ?_
  refine w_heq (hUs_id hw).symm ?_
  refine w_aload_n dX9_like_0 rfl ?_
  refine w_get (v := .ref (b + 1)) fX9_10 (hUs_at nd 0 rfl rfl) rfl dX9_like_1 ?_
  refine w_get (v := .int 0) fX9_139 (hUs_at nd 1 rfl rfl) rfl dX9_like_4 ?_
  refine w_if_ne_f (tgt := 17) dX9_like_7 rfl (by decide) ?_
  refine w_aload_n dX9_like_10 rfl ?_
  refine w_iconst (v := 1) dX9_like_11 (by decide) ?_
  refine w_iconst (v := (-1)) dX9_like_12 (by decide) ?_
  refine w_callV (ci := 9) (d' := d) (mc' := 0) (ms' := 0) (As := [.int 1, .int (-1)]) (st := []) lX9_75 vX9_refused rfl (hUs_at nd 0 rfl rfl) rfl (Nat.le_of_ble_eq_true rfl) dX9_like_13 (Nat.le_of_ble_eq_true rfl) (Nat.le_of_ble_eq_true rfl) (Nat.le_refl _) (c_refused (hHas_sub nd (as' := [b]) (cs' := [(oC 9 [.ref (b + 1), .ref (b + 14), .ref (b + 17), .ref (b + 19), .ref (b + 25), .ref (b + 29), .ref (b + 33), .ref pp, .int ht, .int (nI tp), .int sd, .int fa, .int pl, .int tr])]) [0] rfl rfl) (nd_sub nd (as' := [b]) [0] rfl rfl)  ?_)
  refine w_heq (hUs_in nd rfl [0] (cs2 := [(oC 9 [.ref (b + 1), .ref (b + 14), .ref (b + 17), .ref (b + 19), .ref (b + 25), .ref (b + 29), .ref (b + 33), .ref pp, .int ht, .int (nI tp), .int sd, .int fa, .int (-1), .int 1]), (oC 6 [.ref (b + 2), .ref (b + 6), .ref (b + 7), .ref (b + 8), .ref qw, .int 0, .int ln, .int wn, .int rsd, .int (nI c)])]) rfl rfl) ?_
  refine w_ireturn rfl dX9_like_16 (Nat.le_of_ble_eq_true rfl) (Nat.le_of_ble_eq_true rfl) ?_
  have e : oLik P none a u y = ((-1), 1) := by
    simp [oLik]
  rw [e] at k
  exact k _ (cI_i (cI_put hW (cAs_nd b) rfl [0, 1] (cs2 := [(oC 9 [.ref (b + 1), .ref (b + 14), .ref (b + 17), .ref (b + 19), .ref (b + 25), .ref (b + 29), .ref (b + 33), .ref pp, .int ht, .int (nI tp), .int sd, .int fa, .int (-1), .int 1]), (oC 6 [.ref (b + 2), .ref (b + 6), .ref (b + 7), .ref (b + 8), .ref qw, .int 0, .int ln, .int wn, .int rsd, .int (nI c)]), (oC 0 [.ref (b + 3), .ref ql, .int cn, .int s.2.1, .int s.2.2]), (aI 3 s.1), (aB 4096 fo), (aI 4096 fg), (aI 3 fz), (aR RX2 2 (imR b)), (oC 2 [.int i01, .int i02, .int i03, .int i04, .int i05, .int i06, .int i07]), (oC 2 [.int i11, .int i12, .int i13, .int i14, .int i15, .int i16, .int i17]), (oC 8 [.ref (b + 18), .int wm]), (aI 94 fw), (oC 1 [.ref (b + 20), .ref (b + 24), .int f.2.2.1.1, .int f.2.2.1.2.1, .int f.2.2.2.1, .int f.2.2.1.2.2.1, .int f.2.2.1.2.2.2.1, .int f.2.2.1.2.2.2.2.1, .int f.2.2.1.2.2.2.2.2]), (oC 0 [.ref (b + 21), .ref q0, .int c0, .int f.1.2.1, .int f.1.2.2]), (aI 3 f.1.1), (aI 3 f.2.1), (oC 0 [.ref (b + 26), .ref q1, .int c1, .int s1.2.1, .int s1.2.2]), (aI 3 s1.1), (oC 0 [.ref (b + 30), .ref q2, .int c2, .int s2.2.1, .int s2.2.2]), (aI 3 s2.1), (oC 5 (rdF (b + 34) ps x)), (aB 600 ft)]) rfl rfl) hpp (hPl_o hP1 (by intro a ha; simp only [List.mem_cons, List.not_mem_nil, or_false] at ha; rcases hpp with hpp | hpp <;> omega)) (hPl_o hP2 (by intro a ha; simp only [List.mem_cons, List.not_mem_nil, or_false] at ha; rcases hpp with hpp | hpp <;> omega)) hR hi0 hi1 htp hpo hht) (cFr_of (by intro a ha; simp only [List.mem_cons, List.not_mem_nil, or_false] at ha; omega))
set_option maxRecDepth 100000 in
set_option maxHeartbeats 4000000 in
theorem p_like_s {G : wG} {d : Nat} {h : hH} {Q : Option Value → hH → Prop} {b : Nat} {ft : Nat → Int32} {tp : Nat} {P : pD} {ht : Int32} {i0 i1 : imD} {sd fa pl tr : Int32}  {l w cc : Nat} {rs : Int32} {a u y : Int32} (hI : cI h b ft tp P ht (some (l, w, rs, cc)) i0 i1 sd fa pl tr)  (k : ∀ h2, cI h2 b ft tp P ht (some (l, w, rs, cc)) i0 i1 sd fa (-1) (oLik P (some (l, w, rs, cc)) a u y).2 → cFr b h h2 → Q (some (.int (oLik P (some (l, w, rs, cc)) a u y).1)) h2) : Cl G yX9_like (d + 1) 0 0 [.ref b, .int a, .int u, .int y] h Q := by
  refine cI_e hI ?_
  intro pp ps P2 go ln wn rsd c qw ql cn s fo fg fz i01 i02 i03 i04 i05 i06 i07 i11 i12 i13 i14 i15 i16 i17 wm fw f q0 c0 s1 q1 c1 s2 q2 c2 x hW hpp hP1 hP2 hR hi0 hi1 htp hpo hht
  have hR0 := hR
  simp only [rIv] at hR
  obtain ⟨hrn, hgo, hln, hwn, hrs, hcc, hqw, hql, hcn, hs, hfo, hfg, hfz⟩ := hR
  subst hgo; subst hln; subst hwn; subst hrs; subst hcc
  have hc : c ≤ 4096 := hrn.2.2
  rw [show oLik P (some (l, w, rsd, c)) a u y = oLikF fo c a u y from (oLikF_c hfo hc a u y).symm] at k
  
  have hw : hHas h [b, b + 1, b + 6] [(oC 9 [.ref (b + 1), .ref (b + 14), .ref (b + 17), .ref (b + 19), .ref (b + 25), .ref (b + 29), .ref (b + 33), .ref pp, .int ht, .int (nI tp), .int sd, .int fa, .int pl, .int tr]), (oC 6 [.ref (b + 2), .ref (b + 6), .ref (b + 7), .ref (b + 8), .ref qw, .int 1, .int (nI l), .int (nI w), .int rsd, .int (nI c)]), (aB 4096 fo)] := hHas_s hW [0, 1, 4] rfl rfl
  have nd : [b, b + 1, b + 6].Nodup := (nd_inc ⟨by omega, by omega, trivial⟩)
  refine Cl.of (ini := false) kX9_like (plainFor_of_name (by decide)) (by decide) (Nat.le_of_ble_eq_true rfl) rfl rfl (fun z => by cases z) ?_
  refine w_heq (hUs_id hw).symm ?_
  refine w_aload_n dX9_like_0 rfl ?_
  refine w_get (v := .ref (b + 1)) fX9_10 (hUs_at nd 0 rfl rfl) rfl dX9_like_1 ?_
  refine w_get (v := .int 1) fX9_139 (hUs_at nd 1 rfl rfl) rfl dX9_like_4 ?_
  refine w_if_ne_t (tgt := 17) dX9_like_7 rfl (by decide) ?_
  refine w_aload_n dX9_like_17 rfl ?_
  refine w_get (v := .ref (b + 1)) fX9_10 (hUs_at nd 0 rfl rfl) rfl dX9_like_18 ?_
  refine w_iload_n dX9_like_21 rfl ?_
  refine w_iload_n dX9_like_22 rfl ?_
  refine w_callV (ci := 6) (d' := d) (mc' := 0) (ms' := 0) (As := [.int a, .int u]) (st := []) lX9_162 vX6_hasStretch rfl (hUs_at nd 1 rfl rfl) rfl (Nat.le_of_ble_eq_true rfl) dX9_like_23 (Nat.le_of_ble_eq_true rfl) (Nat.le_of_ble_eq_true rfl) (Nat.le_refl _) (c_hasStretch (hHas_sub nd (as' := [b + 1]) (cs' := [(oC 6 [.ref (b + 2), .ref (b + 6), .ref (b + 7), .ref (b + 8), .ref qw, .int 1, .int (nI l), .int (nI w), .int rsd, .int (nI c)])]) [1] rfl rfl)  ?_)
  refine w_if_eq (tgt := 41) dX9_like_26 rfl (fun b26 => ?_) (fun b26 => ?_)
  · refine w_aload_n dX9_like_41 rfl ?_
    refine w_iconst (v := 2) dX9_like_42 (by decide) ?_
    refine w_iconst (v := (-1)) dX9_like_43 (by decide) ?_
    refine w_callV (ci := 9) (d' := d) (mc' := 0) (ms' := 0) (As := [.int 2, .int (-1)]) (st := []) lX9_75 vX9_refused rfl (hUs_at nd 0 rfl rfl) rfl (Nat.le_of_ble_eq_true rfl) dX9_like_44 (Nat.le_of_ble_eq_true rfl) (Nat.le_of_ble_eq_true rfl) (Nat.le_refl _) (c_refused (hHas_sub nd (as' := [b]) (cs' := [(oC 9 [.ref (b + 1), .ref (b + 14), .ref (b + 17), .ref (b + 19), .ref (b + 25), .ref (b + 29), .ref (b + 33), .ref pp, .int ht, .int (nI tp), .int sd, .int fa, .int pl, .int tr])]) [0] rfl rfl) (nd_sub nd (as' := [b]) [0] rfl rfl)  ?_)
    refine w_heq (hUs_in nd rfl [0] (cs2 := [(oC 9 [.ref (b + 1), .ref (b + 14), .ref (b + 17), .ref (b + 19), .ref (b + 25), .ref (b + 29), .ref (b + 33), .ref pp, .int ht, .int (nI tp), .int sd, .int fa, .int (-1), .int 2]), (oC 6 [.ref (b + 2), .ref (b + 6), .ref (b + 7), .ref (b + 8), .ref qw, .int 1, .int (nI l), .int (nI w), .int rsd, .int (nI c)]), (aB 4096 fo)]) rfl rfl) ?_
    refine w_ireturn rfl dX9_like_47 (Nat.le_of_ble_eq_true rfl) (Nat.le_of_ble_eq_true rfl) ?_
    have e : oLikF fo c a u y = ((-1), 2) := by
      simp [oLikF, b26]
    rw [e] at k
    exact k _ (cI_i (cI_put hW (cAs_nd b) rfl [0, 1, 4] (cs2 := [(oC 9 [.ref (b + 1), .ref (b + 14), .ref (b + 17), .ref (b + 19), .ref (b + 25), .ref (b + 29), .ref (b + 33), .ref pp, .int ht, .int (nI tp), .int sd, .int fa, .int (-1), .int 2]), (oC 6 [.ref (b + 2), .ref (b + 6), .ref (b + 7), .ref (b + 8), .ref qw, .int 1, .int (nI l), .int (nI w), .int rsd, .int (nI c)]), (oC 0 [.ref (b + 3), .ref ql, .int cn, .int s.2.1, .int s.2.2]), (aI 3 s.1), (aB 4096 fo), (aI 4096 fg), (aI 3 fz), (aR RX2 2 (imR b)), (oC 2 [.int i01, .int i02, .int i03, .int i04, .int i05, .int i06, .int i07]), (oC 2 [.int i11, .int i12, .int i13, .int i14, .int i15, .int i16, .int i17]), (oC 8 [.ref (b + 18), .int wm]), (aI 94 fw), (oC 1 [.ref (b + 20), .ref (b + 24), .int f.2.2.1.1, .int f.2.2.1.2.1, .int f.2.2.2.1, .int f.2.2.1.2.2.1, .int f.2.2.1.2.2.2.1, .int f.2.2.1.2.2.2.2.1, .int f.2.2.1.2.2.2.2.2]), (oC 0 [.ref (b + 21), .ref q0, .int c0, .int f.1.2.1, .int f.1.2.2]), (aI 3 f.1.1), (aI 3 f.2.1), (oC 0 [.ref (b + 26), .ref q1, .int c1, .int s1.2.1, .int s1.2.2]), (aI 3 s1.1), (oC 0 [.ref (b + 30), .ref q2, .int c2, .int s2.2.1, .int s2.2.2]), (aI 3 s2.1), (oC 5 (rdF (b + 34) ps x)), (aB 600 ft)]) rfl rfl) hpp (hPl_o hP1 (by intro a ha; simp only [List.mem_cons, List.not_mem_nil, or_false] at ha; rcases hpp with hpp | hpp <;> omega)) (hPl_o hP2 (by intro a ha; simp only [List.mem_cons, List.not_mem_nil, or_false] at ha; rcases hpp with hpp | hpp <;> omega)) hR0 hi0 hi1 htp hpo hht) (cFr_of (by intro a ha; simp only [List.mem_cons, List.not_mem_nil, or_false] at ha; omega))
  · refine w_iload_n dX9_like_29 rfl ?_
    refine w_iconst (v := 1) dX9_like_30 (by decide) ?_
    refine w_icmp_lt (tgt := 41) dX9_like_31 rfl (fun b31 => ?_) (fun b31 => ?_)
    · refine w_aload_n dX9_like_41 rfl ?_
      refine w_iconst (v := 2) dX9_like_42 (by decide) ?_
      refine w_iconst (v := (-1)) dX9_like_43 (by decide) ?_
      refine w_callV (ci := 9) (d' := d) (mc' := 0) (ms' := 0) (As := [.int 2, .int (-1)]) (st := []) lX9_75 vX9_refused rfl (hUs_at nd 0 rfl rfl) rfl (Nat.le_of_ble_eq_true rfl) dX9_like_44 (Nat.le_of_ble_eq_true rfl) (Nat.le_of_ble_eq_true rfl) (Nat.le_refl _) (c_refused (hHas_sub nd (as' := [b]) (cs' := [(oC 9 [.ref (b + 1), .ref (b + 14), .ref (b + 17), .ref (b + 19), .ref (b + 25), .ref (b + 29), .ref (b + 33), .ref pp, .int ht, .int (nI tp), .int sd, .int fa, .int pl, .int tr])]) [0] rfl rfl) (nd_sub nd (as' := [b]) [0] rfl rfl)  ?_)
      refine w_heq (hUs_in nd rfl [0] (cs2 := [(oC 9 [.ref (b + 1), .ref (b + 14), .ref (b + 17), .ref (b + 19), .ref (b + 25), .ref (b + 29), .ref (b + 33), .ref pp, .int ht, .int (nI tp), .int sd, .int fa, .int (-1), .int 2]), (oC 6 [.ref (b + 2), .ref (b + 6), .ref (b + 7), .ref (b + 8), .ref qw, .int 1, .int (nI l), .int (nI w), .int rsd, .int (nI c)]), (aB 4096 fo)]) rfl rfl) ?_
      refine w_ireturn rfl dX9_like_47 (Nat.le_of_ble_eq_true rfl) (Nat.le_of_ble_eq_true rfl) ?_
      have e : oLikF fo c a u y = ((-1), 2) := by
        simp [oLikF, b26, b31]
      rw [e] at k
      exact k _ (cI_i (cI_put hW (cAs_nd b) rfl [0, 1, 4] (cs2 := [(oC 9 [.ref (b + 1), .ref (b + 14), .ref (b + 17), .ref (b + 19), .ref (b + 25), .ref (b + 29), .ref (b + 33), .ref pp, .int ht, .int (nI tp), .int sd, .int fa, .int (-1), .int 2]), (oC 6 [.ref (b + 2), .ref (b + 6), .ref (b + 7), .ref (b + 8), .ref qw, .int 1, .int (nI l), .int (nI w), .int rsd, .int (nI c)]), (oC 0 [.ref (b + 3), .ref ql, .int cn, .int s.2.1, .int s.2.2]), (aI 3 s.1), (aB 4096 fo), (aI 4096 fg), (aI 3 fz), (aR RX2 2 (imR b)), (oC 2 [.int i01, .int i02, .int i03, .int i04, .int i05, .int i06, .int i07]), (oC 2 [.int i11, .int i12, .int i13, .int i14, .int i15, .int i16, .int i17]), (oC 8 [.ref (b + 18), .int wm]), (aI 94 fw), (oC 1 [.ref (b + 20), .ref (b + 24), .int f.2.2.1.1, .int f.2.2.1.2.1, .int f.2.2.2.1, .int f.2.2.1.2.2.1, .int f.2.2.1.2.2.2.1, .int f.2.2.1.2.2.2.2.1, .int f.2.2.1.2.2.2.2.2]), (oC 0 [.ref (b + 21), .ref q0, .int c0, .int f.1.2.1, .int f.1.2.2]), (aI 3 f.1.1), (aI 3 f.2.1), (oC 0 [.ref (b + 26), .ref q1, .int c1, .int s1.2.1, .int s1.2.2]), (aI 3 s1.1), (oC 0 [.ref (b + 30), .ref q2, .int c2, .int s2.2.1, .int s2.2.2]), (aI 3 s2.1), (oC 5 (rdF (b + 34) ps x)), (aB 600 ft)]) rfl rfl) hpp (hPl_o hP1 (by intro a ha; simp only [List.mem_cons, List.not_mem_nil, or_false] at ha; rcases hpp with hpp | hpp <;> omega)) (hPl_o hP2 (by intro a ha; simp only [List.mem_cons, List.not_mem_nil, or_false] at ha; rcases hpp with hpp | hpp <;> omega)) hR0 hi0 hi1 htp hpo hht) (cFr_of (by intro a ha; simp only [List.mem_cons, List.not_mem_nil, or_false] at ha; omega))
    · refine w_iload_n dX9_like_34 rfl ?_
      refine w_sipush (v := 1000) dX9_like_35 (by decide) ?_
      refine w_icmp_le (tgt := 48) dX9_like_38 rfl (fun b38 => ?_) (fun b38 => ?_)
      · obtain ⟨A, B, hA, hB, rfl, rfl⟩ := hasS_n b26 hc
        have hAc := nI_clamp (show A < 2 ^ 31 by omega)
        have hBc := nI_clamp (show B < 2 ^ 31 by omega)
        obtain ⟨w9, hw9, rfl⟩ := in2 (m := 1000) (fun z => b31 (Int32.lt_of_lt_of_le z (by decide))) b38 (by decide)
        have hwc := nI_clamp (show w9 < 2 ^ 31 by omega)
        refine w_aload_n dX9_like_48 rfl ?_
        refine w_aload_n dX9_like_49 rfl ?_
        refine w_get (v := .ref (b + 1)) fX9_10 (hUs_at nd 0 rfl rfl) rfl dX9_like_50 ?_
        refine w_iload_n dX9_like_53 rfl ?_
        refine w_iload_n dX9_like_54 rfl ?_
        refine w_iload_n dX9_like_55 rfl ?_
        refine w_callV (ci := 6) (d' := d) (mc' := 0) (ms' := 0) (As := [.int (nI A), .int (nI B), .int (nI w9)]) (st := [.ref b]) lX9_186 vX6_likePairs rfl (hUs_at nd 1 rfl rfl) rfl (Nat.le_of_ble_eq_true rfl) dX9_like_56 (Nat.le_of_ble_eq_true rfl) (Nat.le_of_ble_eq_true rfl) (Nat.le_refl _) (c_likePairs (hHas_sub nd (as' := [b + 1, b + 6]) (cs' := [(oC 6 [.ref (b + 2), .ref (b + 6), .ref (b + 7), .ref (b + 8), .ref qw, .int 1, .int (nI l), .int (nI w), .int rsd, .int (nI c)]), (aB 4096 fo)]) [1, 2] rfl rfl) (by omega) (by omega) (by omega) ?_)
        refine w_callV (ci := 9) (d' := d) (mc' := 0) (ms' := 0) (As := [.int (likF fo A B w9)]) (st := []) lX9_96 vX9_granted rfl (hUs_at nd 0 rfl rfl) rfl (Nat.le_of_ble_eq_true rfl) dX9_like_59 (Nat.le_of_ble_eq_true rfl) (Nat.le_of_ble_eq_true rfl) (Nat.le_refl _) (c_granted (hHas_sub nd (as' := [b]) (cs' := [(oC 9 [.ref (b + 1), .ref (b + 14), .ref (b + 17), .ref (b + 19), .ref (b + 25), .ref (b + 29), .ref (b + 33), .ref pp, .int ht, .int (nI tp), .int sd, .int fa, .int pl, .int tr])]) [0] rfl rfl) (nd_sub nd (as' := [b]) [0] rfl rfl)  ?_)
        refine w_heq (hUs_in nd rfl [0] (cs2 := [(oC 9 [.ref (b + 1), .ref (b + 14), .ref (b + 17), .ref (b + 19), .ref (b + 25), .ref (b + 29), .ref (b + 33), .ref pp, .int ht, .int (nI tp), .int sd, .int fa, .int (-1), .int 0]), (oC 6 [.ref (b + 2), .ref (b + 6), .ref (b + 7), .ref (b + 8), .ref qw, .int 1, .int (nI l), .int (nI w), .int rsd, .int (nI c)]), (aB 4096 fo)]) rfl rfl) ?_
        refine w_ireturn rfl dX9_like_62 (Nat.le_of_ble_eq_true rfl) (Nat.le_of_ble_eq_true rfl) ?_
        have e : oLikF fo c (nI A) (nI B) (nI w9) = (likF fo A B w9, 0) := by
          simp [oLikF, hAc, hBc, hwc, b26, b31, b38]
        rw [e] at k
        exact k _ (cI_i (cI_put hW (cAs_nd b) rfl [0, 1, 4] (cs2 := [(oC 9 [.ref (b + 1), .ref (b + 14), .ref (b + 17), .ref (b + 19), .ref (b + 25), .ref (b + 29), .ref (b + 33), .ref pp, .int ht, .int (nI tp), .int sd, .int fa, .int (-1), .int 0]), (oC 6 [.ref (b + 2), .ref (b + 6), .ref (b + 7), .ref (b + 8), .ref qw, .int 1, .int (nI l), .int (nI w), .int rsd, .int (nI c)]), (oC 0 [.ref (b + 3), .ref ql, .int cn, .int s.2.1, .int s.2.2]), (aI 3 s.1), (aB 4096 fo), (aI 4096 fg), (aI 3 fz), (aR RX2 2 (imR b)), (oC 2 [.int i01, .int i02, .int i03, .int i04, .int i05, .int i06, .int i07]), (oC 2 [.int i11, .int i12, .int i13, .int i14, .int i15, .int i16, .int i17]), (oC 8 [.ref (b + 18), .int wm]), (aI 94 fw), (oC 1 [.ref (b + 20), .ref (b + 24), .int f.2.2.1.1, .int f.2.2.1.2.1, .int f.2.2.2.1, .int f.2.2.1.2.2.1, .int f.2.2.1.2.2.2.1, .int f.2.2.1.2.2.2.2.1, .int f.2.2.1.2.2.2.2.2]), (oC 0 [.ref (b + 21), .ref q0, .int c0, .int f.1.2.1, .int f.1.2.2]), (aI 3 f.1.1), (aI 3 f.2.1), (oC 0 [.ref (b + 26), .ref q1, .int c1, .int s1.2.1, .int s1.2.2]), (aI 3 s1.1), (oC 0 [.ref (b + 30), .ref q2, .int c2, .int s2.2.1, .int s2.2.2]), (aI 3 s2.1), (oC 5 (rdF (b + 34) ps x)), (aB 600 ft)]) rfl rfl) hpp (hPl_o hP1 (by intro a ha; simp only [List.mem_cons, List.not_mem_nil, or_false] at ha; rcases hpp with hpp | hpp <;> omega)) (hPl_o hP2 (by intro a ha; simp only [List.mem_cons, List.not_mem_nil, or_false] at ha; rcases hpp with hpp | hpp <;> omega)) hR0 hi0 hi1 htp hpo hht) (cFr_of (by intro a ha; simp only [List.mem_cons, List.not_mem_nil, or_false] at ha; omega))
      · refine w_aload_n dX9_like_41 rfl ?_
        refine w_iconst (v := 2) dX9_like_42 (by decide) ?_
        refine w_iconst (v := (-1)) dX9_like_43 (by decide) ?_
        refine w_callV (ci := 9) (d' := d) (mc' := 0) (ms' := 0) (As := [.int 2, .int (-1)]) (st := []) lX9_75 vX9_refused rfl (hUs_at nd 0 rfl rfl) rfl (Nat.le_of_ble_eq_true rfl) dX9_like_44 (Nat.le_of_ble_eq_true rfl) (Nat.le_of_ble_eq_true rfl) (Nat.le_refl _) (c_refused (hHas_sub nd (as' := [b]) (cs' := [(oC 9 [.ref (b + 1), .ref (b + 14), .ref (b + 17), .ref (b + 19), .ref (b + 25), .ref (b + 29), .ref (b + 33), .ref pp, .int ht, .int (nI tp), .int sd, .int fa, .int pl, .int tr])]) [0] rfl rfl) (nd_sub nd (as' := [b]) [0] rfl rfl)  ?_)
        refine w_heq (hUs_in nd rfl [0] (cs2 := [(oC 9 [.ref (b + 1), .ref (b + 14), .ref (b + 17), .ref (b + 19), .ref (b + 25), .ref (b + 29), .ref (b + 33), .ref pp, .int ht, .int (nI tp), .int sd, .int fa, .int (-1), .int 2]), (oC 6 [.ref (b + 2), .ref (b + 6), .ref (b + 7), .ref (b + 8), .ref qw, .int 1, .int (nI l), .int (nI w), .int rsd, .int (nI c)]), (aB 4096 fo)]) rfl rfl) ?_
        refine w_ireturn rfl dX9_like_47 (Nat.le_of_ble_eq_true rfl) (Nat.le_of_ble_eq_true rfl) ?_
        have e : oLikF fo c a u y = ((-1), 2) := by
          simp [oLikF, b26, b31, b38]
        rw [e] at k
        exact k _ (cI_i (cI_put hW (cAs_nd b) rfl [0, 1, 4] (cs2 := [(oC 9 [.ref (b + 1), .ref (b + 14), .ref (b + 17), .ref (b + 19), .ref (b + 25), .ref (b + 29), .ref (b + 33), .ref pp, .int ht, .int (nI tp), .int sd, .int fa, .int (-1), .int 2]), (oC 6 [.ref (b + 2), .ref (b + 6), .ref (b + 7), .ref (b + 8), .ref qw, .int 1, .int (nI l), .int (nI w), .int rsd, .int (nI c)]), (oC 0 [.ref (b + 3), .ref ql, .int cn, .int s.2.1, .int s.2.2]), (aI 3 s.1), (aB 4096 fo), (aI 4096 fg), (aI 3 fz), (aR RX2 2 (imR b)), (oC 2 [.int i01, .int i02, .int i03, .int i04, .int i05, .int i06, .int i07]), (oC 2 [.int i11, .int i12, .int i13, .int i14, .int i15, .int i16, .int i17]), (oC 8 [.ref (b + 18), .int wm]), (aI 94 fw), (oC 1 [.ref (b + 20), .ref (b + 24), .int f.2.2.1.1, .int f.2.2.1.2.1, .int f.2.2.2.1, .int f.2.2.1.2.2.1, .int f.2.2.1.2.2.2.1, .int f.2.2.1.2.2.2.2.1, .int f.2.2.1.2.2.2.2.2]), (oC 0 [.ref (b + 21), .ref q0, .int c0, .int f.1.2.1, .int f.1.2.2]), (aI 3 f.1.1), (aI 3 f.2.1), (oC 0 [.ref (b + 26), .ref q1, .int c1, .int s1.2.1, .int s1.2.2]), (aI 3 s1.1), (oC 0 [.ref (b + 30), .ref q2, .int c2, .int s2.2.1, .int s2.2.2]), (aI 3 s2.1), (oC 5 (rdF (b + 34) ps x)), (aB 600 ft)]) rfl rfl) hpp (hPl_o hP1 (by intro a ha; simp only [List.mem_cons, List.not_mem_nil, or_false] at ha; rcases hpp with hpp | hpp <;> omega)) (hPl_o hP2 (by intro a ha; simp only [List.mem_cons, List.not_mem_nil, or_false] at ha; rcases hpp with hpp | hpp <;> omega)) hR0 hi0 hi1 htp hpo hht) (cFr_of (by intro a ha; simp only [List.mem_cons, List.not_mem_nil, or_false] at ha; omega))
theorem p_like {G : wG} {d : Nat} {h : hH} {Q : Option Value → hH → Prop} {b : Nat} {ft : Nat → Int32} {tp : Nat} {P : pD} {ht : Int32} {R : Option rnD} {i0 i1 : imD} {sd fa pl tr : Int32}  {a u y : Int32} (hI : cI h b ft tp P ht R i0 i1 sd fa pl tr) (k : ∀ h2, cI h2 b ft tp P ht R i0 i1 sd fa (-1) (oLik P R a u y).2 → cFr b h h2 → Q (some (.int (oLik P R a u y).1)) h2) : Cl G yX9_like (d + 1) 0 0 [.ref b, .int a, .int u, .int y] h Q := by
  cases R with
  | none => exact p_like_n hI k
  | some r => obtain ⟨l, w, rs, cc⟩ := r; exact p_like_s hI k
def oTonF (F : Nat → Int32) (c : Nat) (a u y : Int32) : Int32 × Int32 := if hasS a u c = 0 ∨ y < 1 ∨ 200 < y then (-1, 2) else ((fld (bstF F (tN a) (tN u)) 1 (min (tN y) (tN u - tN a)) (-2, 0, 0)).1, 0)
theorem oTonF_c {f g : Nat → Int32} {c : Nat} (h : ∀ t, t < c → f t = g t) (hc : c ≤ 4096) (a u y : Int32) : oTonF f c a u y = oTonF g c a u y := by
  unfold oTonF
  by_cases e : hasS a u c = 0 ∨ y < 1 ∨ 200 < y
  · rw [if_pos e, if_pos e]
  · rw [if_neg e, if_neg e]
    have z := hasS_t (fun z => e (Or.inl z)) hc
    rw [fld_c (g := bstF g (tN a) (tN u)) 1 _ _ (fun t _ _ => bstF_c h z.2 t)]
def oTon (P : pD) (R : Option rnD) (a u y : Int32) : Int32 × Int32 := match R with
  | none => (-1, 1)
  | some r => oTonF (rO (rQo P r.1 r.2.1 r.2.2.1)) r.2.2.2 a u y
set_option maxRecDepth 100000 in
set_option maxHeartbeats 4000000 in
theorem p_tone_n {G : wG} {d : Nat} {h : hH} {Q : Option Value → hH → Prop} {b : Nat} {ft : Nat → Int32} {tp : Nat} {P : pD} {ht : Int32} {i0 i1 : imD} {sd fa pl tr : Int32}  {a u y : Int32} (hI : cI h b ft tp P ht none i0 i1 sd fa pl tr)  (k : ∀ h2, cI h2 b ft tp P ht none i0 i1 sd fa (-1) (oTon P none a u y).2 → cFr b h h2 → Q (some (.int (oTon P none a u y).1)) h2) : Cl G yX9_tone (d + 2) 0 0 [.ref b, .int a, .int u, .int y] h Q := by
  refine cI_e hI ?_
  intro pp ps P2 go ln wn rsd c qw ql cn s fo fg fz i01 i02 i03 i04 i05 i06 i07 i11 i12 i13 i14 i15 i16 i17 wm fw f q0 c0 s1 q1 c1 s2 q2 c2 x hW hpp hP1 hP2 hR hi0 hi1 htp hpo hht
  have hgo : go = 0 := hR
  subst hgo
  have hw : hHas h [b, b + 1] [(oC 9 [.ref (b + 1), .ref (b + 14), .ref (b + 17), .ref (b + 19), .ref (b + 25), .ref (b + 29), .ref (b + 33), .ref pp, .int ht, .int (nI tp), .int sd, .int fa, .int pl, .int tr]), (oC 6 [.ref (b + 2), .ref (b + 6), .ref (b + 7), .ref (b + 8), .ref qw, .int 0, .int ln, .int wn, .int rsd, .int (nI c)])] := hHas_s hW [0, 1] rfl rfl
  have nd : [b, b + 1].Nodup := (nd_inc ⟨by omega, trivial⟩)
  refine Cl.of (ini := false) kX9_tone (plainFor_of_name (by decide)) (by decide) (Nat.le_of_ble_eq_true rfl) rfl rfl (fun z => by cases z) ?_
  refine w_heq (hUs_id hw).symm ?_
  refine w_aload_n dX9_tone_0 rfl ?_
  refine w_get (v := .ref (b + 1)) fX9_10 (hUs_at nd 0 rfl rfl) rfl dX9_tone_1 ?_
  refine w_get (v := .int 0) fX9_139 (hUs_at nd 1 rfl rfl) rfl dX9_tone_4 ?_
  refine w_if_ne_f (tgt := 17) dX9_tone_7 rfl (by decide) ?_
  refine w_aload_n dX9_tone_10 rfl ?_
  refine w_iconst (v := 1) dX9_tone_11 (by decide) ?_
  refine w_iconst (v := (-1)) dX9_tone_12 (by decide) ?_
  refine w_callV (ci := 9) (d' := d + 1) (mc' := 0) (ms' := 0) (As := [.int 1, .int (-1)]) (st := []) lX9_75 vX9_refused rfl (hUs_at nd 0 rfl rfl) rfl (Nat.le_of_ble_eq_true rfl) dX9_tone_13 (Nat.le_of_ble_eq_true rfl) (Nat.le_of_ble_eq_true rfl) (Nat.le_refl _) (c_refused (hHas_sub nd (as' := [b]) (cs' := [(oC 9 [.ref (b + 1), .ref (b + 14), .ref (b + 17), .ref (b + 19), .ref (b + 25), .ref (b + 29), .ref (b + 33), .ref pp, .int ht, .int (nI tp), .int sd, .int fa, .int pl, .int tr])]) [0] rfl rfl) (nd_sub nd (as' := [b]) [0] rfl rfl)  ?_)
  refine w_heq (hUs_in nd rfl [0] (cs2 := [(oC 9 [.ref (b + 1), .ref (b + 14), .ref (b + 17), .ref (b + 19), .ref (b + 25), .ref (b + 29), .ref (b + 33), .ref pp, .int ht, .int (nI tp), .int sd, .int fa, .int (-1), .int 1]), (oC 6 [.ref (b + 2), .ref (b + 6), .ref (b + 7), .ref (b + 8), .ref qw, .int 0, .int ln, .int wn, .int rsd, .int (nI c)])]) rfl rfl) ?_
  refine w_ireturn rfl dX9_tone_16 (Nat.le_of_ble_eq_true rfl) (Nat.le_of_ble_eq_true rfl) ?_
  have e : oTon P none a u y = ((-1), 1) := by
    simp [oTon]
  rw [e] at k
  exact k _ (cI_i (cI_put hW (cAs_nd b) rfl [0, 1] (cs2 := [(oC 9 [.ref (b + 1), .ref (b + 14), .ref (b + 17), .ref (b + 19), .ref (b + 25), .ref (b + 29), .ref (b + 33), .ref pp, .int ht, .int (nI tp), .int sd, .int fa, .int (-1), .int 1]), (oC 6 [.ref (b + 2), .ref (b + 6), .ref (b + 7), .ref (b + 8), .ref qw, .int 0, .int ln, .int wn, .int rsd, .int (nI c)]), (oC 0 [.ref (b + 3), .ref ql, .int cn, .int s.2.1, .int s.2.2]), (aI 3 s.1), (aB 4096 fo), (aI 4096 fg), (aI 3 fz), (aR RX2 2 (imR b)), (oC 2 [.int i01, .int i02, .int i03, .int i04, .int i05, .int i06, .int i07]), (oC 2 [.int i11, .int i12, .int i13, .int i14, .int i15, .int i16, .int i17]), (oC 8 [.ref (b + 18), .int wm]), (aI 94 fw), (oC 1 [.ref (b + 20), .ref (b + 24), .int f.2.2.1.1, .int f.2.2.1.2.1, .int f.2.2.2.1, .int f.2.2.1.2.2.1, .int f.2.2.1.2.2.2.1, .int f.2.2.1.2.2.2.2.1, .int f.2.2.1.2.2.2.2.2]), (oC 0 [.ref (b + 21), .ref q0, .int c0, .int f.1.2.1, .int f.1.2.2]), (aI 3 f.1.1), (aI 3 f.2.1), (oC 0 [.ref (b + 26), .ref q1, .int c1, .int s1.2.1, .int s1.2.2]), (aI 3 s1.1), (oC 0 [.ref (b + 30), .ref q2, .int c2, .int s2.2.1, .int s2.2.2]), (aI 3 s2.1), (oC 5 (rdF (b + 34) ps x)), (aB 600 ft)]) rfl rfl) hpp (hPl_o hP1 (by intro a ha; simp only [List.mem_cons, List.not_mem_nil, or_false] at ha; rcases hpp with hpp | hpp <;> omega)) (hPl_o hP2 (by intro a ha; simp only [List.mem_cons, List.not_mem_nil, or_false] at ha; rcases hpp with hpp | hpp <;> omega)) hR hi0 hi1 htp hpo hht) (cFr_of (by intro a ha; simp only [List.mem_cons, List.not_mem_nil, or_false] at ha; omega))
set_option maxRecDepth 100000 in
set_option maxHeartbeats 4000000 in
theorem p_tone_s {G : wG} {d : Nat} {h : hH} {Q : Option Value → hH → Prop} {b : Nat} {ft : Nat → Int32} {tp : Nat} {P : pD} {ht : Int32} {i0 i1 : imD} {sd fa pl tr : Int32}  {l w cc : Nat} {rs : Int32} {a u y : Int32} (hI : cI h b ft tp P ht (some (l, w, rs, cc)) i0 i1 sd fa pl tr)  (k : ∀ h2, cI h2 b ft tp P ht (some (l, w, rs, cc)) i0 i1 sd fa (-1) (oTon P (some (l, w, rs, cc)) a u y).2 → cFr b h h2 → Q (some (.int (oTon P (some (l, w, rs, cc)) a u y).1)) h2) : Cl G yX9_tone (d + 2) 0 0 [.ref b, .int a, .int u, .int y] h Q := by
  refine cI_e hI ?_
  intro pp ps P2 go ln wn rsd c qw ql cn s fo fg fz i01 i02 i03 i04 i05 i06 i07 i11 i12 i13 i14 i15 i16 i17 wm fw f q0 c0 s1 q1 c1 s2 q2 c2 x hW hpp hP1 hP2 hR hi0 hi1 htp hpo hht
  have hR0 := hR
  simp only [rIv] at hR
  obtain ⟨hrn, hgo, hln, hwn, hrs, hcc, hqw, hql, hcn, hs, hfo, hfg, hfz⟩ := hR
  subst hgo; subst hln; subst hwn; subst hrs; subst hcc
  have hc : c ≤ 4096 := hrn.2.2
  rw [show oTon P (some (l, w, rsd, c)) a u y = oTonF fo c a u y from (oTonF_c hfo hc a u y).symm] at k
  
  have hw : hHas h [b, b + 1, b + 6] [(oC 9 [.ref (b + 1), .ref (b + 14), .ref (b + 17), .ref (b + 19), .ref (b + 25), .ref (b + 29), .ref (b + 33), .ref pp, .int ht, .int (nI tp), .int sd, .int fa, .int pl, .int tr]), (oC 6 [.ref (b + 2), .ref (b + 6), .ref (b + 7), .ref (b + 8), .ref qw, .int 1, .int (nI l), .int (nI w), .int rsd, .int (nI c)]), (aB 4096 fo)] := hHas_s hW [0, 1, 4] rfl rfl
  have nd : [b, b + 1, b + 6].Nodup := (nd_inc ⟨by omega, by omega, trivial⟩)
  refine Cl.of (ini := false) kX9_tone (plainFor_of_name (by decide)) (by decide) (Nat.le_of_ble_eq_true rfl) rfl rfl (fun z => by cases z) ?_
  refine w_heq (hUs_id hw).symm ?_
  refine w_aload_n dX9_tone_0 rfl ?_
  refine w_get (v := .ref (b + 1)) fX9_10 (hUs_at nd 0 rfl rfl) rfl dX9_tone_1 ?_
  refine w_get (v := .int 1) fX9_139 (hUs_at nd 1 rfl rfl) rfl dX9_tone_4 ?_
  refine w_if_ne_t (tgt := 17) dX9_tone_7 rfl (by decide) ?_
  refine w_aload_n dX9_tone_17 rfl ?_
  refine w_get (v := .ref (b + 1)) fX9_10 (hUs_at nd 0 rfl rfl) rfl dX9_tone_18 ?_
  refine w_iload_n dX9_tone_21 rfl ?_
  refine w_iload_n dX9_tone_22 rfl ?_
  refine w_callV (ci := 6) (d' := d + 1) (mc' := 0) (ms' := 0) (As := [.int a, .int u]) (st := []) lX9_162 vX6_hasStretch rfl (hUs_at nd 1 rfl rfl) rfl (Nat.le_of_ble_eq_true rfl) dX9_tone_23 (Nat.le_of_ble_eq_true rfl) (Nat.le_of_ble_eq_true rfl) (Nat.le_refl _) (c_hasStretch (hHas_sub nd (as' := [b + 1]) (cs' := [(oC 6 [.ref (b + 2), .ref (b + 6), .ref (b + 7), .ref (b + 8), .ref qw, .int 1, .int (nI l), .int (nI w), .int rsd, .int (nI c)])]) [1] rfl rfl)  ?_)
  refine w_if_eq (tgt := 41) dX9_tone_26 rfl (fun b26 => ?_) (fun b26 => ?_)
  · refine w_aload_n dX9_tone_41 rfl ?_
    refine w_iconst (v := 2) dX9_tone_42 (by decide) ?_
    refine w_iconst (v := (-1)) dX9_tone_43 (by decide) ?_
    refine w_callV (ci := 9) (d' := d + 1) (mc' := 0) (ms' := 0) (As := [.int 2, .int (-1)]) (st := []) lX9_75 vX9_refused rfl (hUs_at nd 0 rfl rfl) rfl (Nat.le_of_ble_eq_true rfl) dX9_tone_44 (Nat.le_of_ble_eq_true rfl) (Nat.le_of_ble_eq_true rfl) (Nat.le_refl _) (c_refused (hHas_sub nd (as' := [b]) (cs' := [(oC 9 [.ref (b + 1), .ref (b + 14), .ref (b + 17), .ref (b + 19), .ref (b + 25), .ref (b + 29), .ref (b + 33), .ref pp, .int ht, .int (nI tp), .int sd, .int fa, .int pl, .int tr])]) [0] rfl rfl) (nd_sub nd (as' := [b]) [0] rfl rfl)  ?_)
    refine w_heq (hUs_in nd rfl [0] (cs2 := [(oC 9 [.ref (b + 1), .ref (b + 14), .ref (b + 17), .ref (b + 19), .ref (b + 25), .ref (b + 29), .ref (b + 33), .ref pp, .int ht, .int (nI tp), .int sd, .int fa, .int (-1), .int 2]), (oC 6 [.ref (b + 2), .ref (b + 6), .ref (b + 7), .ref (b + 8), .ref qw, .int 1, .int (nI l), .int (nI w), .int rsd, .int (nI c)]), (aB 4096 fo)]) rfl rfl) ?_
    refine w_ireturn rfl dX9_tone_47 (Nat.le_of_ble_eq_true rfl) (Nat.le_of_ble_eq_true rfl) ?_
    have e : oTonF fo c a u y = ((-1), 2) := by
      simp [oTonF, b26]
    rw [e] at k
    exact k _ (cI_i (cI_put hW (cAs_nd b) rfl [0, 1, 4] (cs2 := [(oC 9 [.ref (b + 1), .ref (b + 14), .ref (b + 17), .ref (b + 19), .ref (b + 25), .ref (b + 29), .ref (b + 33), .ref pp, .int ht, .int (nI tp), .int sd, .int fa, .int (-1), .int 2]), (oC 6 [.ref (b + 2), .ref (b + 6), .ref (b + 7), .ref (b + 8), .ref qw, .int 1, .int (nI l), .int (nI w), .int rsd, .int (nI c)]), (oC 0 [.ref (b + 3), .ref ql, .int cn, .int s.2.1, .int s.2.2]), (aI 3 s.1), (aB 4096 fo), (aI 4096 fg), (aI 3 fz), (aR RX2 2 (imR b)), (oC 2 [.int i01, .int i02, .int i03, .int i04, .int i05, .int i06, .int i07]), (oC 2 [.int i11, .int i12, .int i13, .int i14, .int i15, .int i16, .int i17]), (oC 8 [.ref (b + 18), .int wm]), (aI 94 fw), (oC 1 [.ref (b + 20), .ref (b + 24), .int f.2.2.1.1, .int f.2.2.1.2.1, .int f.2.2.2.1, .int f.2.2.1.2.2.1, .int f.2.2.1.2.2.2.1, .int f.2.2.1.2.2.2.2.1, .int f.2.2.1.2.2.2.2.2]), (oC 0 [.ref (b + 21), .ref q0, .int c0, .int f.1.2.1, .int f.1.2.2]), (aI 3 f.1.1), (aI 3 f.2.1), (oC 0 [.ref (b + 26), .ref q1, .int c1, .int s1.2.1, .int s1.2.2]), (aI 3 s1.1), (oC 0 [.ref (b + 30), .ref q2, .int c2, .int s2.2.1, .int s2.2.2]), (aI 3 s2.1), (oC 5 (rdF (b + 34) ps x)), (aB 600 ft)]) rfl rfl) hpp (hPl_o hP1 (by intro a ha; simp only [List.mem_cons, List.not_mem_nil, or_false] at ha; rcases hpp with hpp | hpp <;> omega)) (hPl_o hP2 (by intro a ha; simp only [List.mem_cons, List.not_mem_nil, or_false] at ha; rcases hpp with hpp | hpp <;> omega)) hR0 hi0 hi1 htp hpo hht) (cFr_of (by intro a ha; simp only [List.mem_cons, List.not_mem_nil, or_false] at ha; omega))
  · refine w_iload_n dX9_tone_29 rfl ?_
    refine w_iconst (v := 1) dX9_tone_30 (by decide) ?_
    refine w_icmp_lt (tgt := 41) dX9_tone_31 rfl (fun b31 => ?_) (fun b31 => ?_)
    · refine w_aload_n dX9_tone_41 rfl ?_
      refine w_iconst (v := 2) dX9_tone_42 (by decide) ?_
      refine w_iconst (v := (-1)) dX9_tone_43 (by decide) ?_
      refine w_callV (ci := 9) (d' := d + 1) (mc' := 0) (ms' := 0) (As := [.int 2, .int (-1)]) (st := []) lX9_75 vX9_refused rfl (hUs_at nd 0 rfl rfl) rfl (Nat.le_of_ble_eq_true rfl) dX9_tone_44 (Nat.le_of_ble_eq_true rfl) (Nat.le_of_ble_eq_true rfl) (Nat.le_refl _) (c_refused (hHas_sub nd (as' := [b]) (cs' := [(oC 9 [.ref (b + 1), .ref (b + 14), .ref (b + 17), .ref (b + 19), .ref (b + 25), .ref (b + 29), .ref (b + 33), .ref pp, .int ht, .int (nI tp), .int sd, .int fa, .int pl, .int tr])]) [0] rfl rfl) (nd_sub nd (as' := [b]) [0] rfl rfl)  ?_)
      refine w_heq (hUs_in nd rfl [0] (cs2 := [(oC 9 [.ref (b + 1), .ref (b + 14), .ref (b + 17), .ref (b + 19), .ref (b + 25), .ref (b + 29), .ref (b + 33), .ref pp, .int ht, .int (nI tp), .int sd, .int fa, .int (-1), .int 2]), (oC 6 [.ref (b + 2), .ref (b + 6), .ref (b + 7), .ref (b + 8), .ref qw, .int 1, .int (nI l), .int (nI w), .int rsd, .int (nI c)]), (aB 4096 fo)]) rfl rfl) ?_
      refine w_ireturn rfl dX9_tone_47 (Nat.le_of_ble_eq_true rfl) (Nat.le_of_ble_eq_true rfl) ?_
      have e : oTonF fo c a u y = ((-1), 2) := by
        simp [oTonF, b26, b31]
      rw [e] at k
      exact k _ (cI_i (cI_put hW (cAs_nd b) rfl [0, 1, 4] (cs2 := [(oC 9 [.ref (b + 1), .ref (b + 14), .ref (b + 17), .ref (b + 19), .ref (b + 25), .ref (b + 29), .ref (b + 33), .ref pp, .int ht, .int (nI tp), .int sd, .int fa, .int (-1), .int 2]), (oC 6 [.ref (b + 2), .ref (b + 6), .ref (b + 7), .ref (b + 8), .ref qw, .int 1, .int (nI l), .int (nI w), .int rsd, .int (nI c)]), (oC 0 [.ref (b + 3), .ref ql, .int cn, .int s.2.1, .int s.2.2]), (aI 3 s.1), (aB 4096 fo), (aI 4096 fg), (aI 3 fz), (aR RX2 2 (imR b)), (oC 2 [.int i01, .int i02, .int i03, .int i04, .int i05, .int i06, .int i07]), (oC 2 [.int i11, .int i12, .int i13, .int i14, .int i15, .int i16, .int i17]), (oC 8 [.ref (b + 18), .int wm]), (aI 94 fw), (oC 1 [.ref (b + 20), .ref (b + 24), .int f.2.2.1.1, .int f.2.2.1.2.1, .int f.2.2.2.1, .int f.2.2.1.2.2.1, .int f.2.2.1.2.2.2.1, .int f.2.2.1.2.2.2.2.1, .int f.2.2.1.2.2.2.2.2]), (oC 0 [.ref (b + 21), .ref q0, .int c0, .int f.1.2.1, .int f.1.2.2]), (aI 3 f.1.1), (aI 3 f.2.1), (oC 0 [.ref (b + 26), .ref q1, .int c1, .int s1.2.1, .int s1.2.2]), (aI 3 s1.1), (oC 0 [.ref (b + 30), .ref q2, .int c2, .int s2.2.1, .int s2.2.2]), (aI 3 s2.1), (oC 5 (rdF (b + 34) ps x)), (aB 600 ft)]) rfl rfl) hpp (hPl_o hP1 (by intro a ha; simp only [List.mem_cons, List.not_mem_nil, or_false] at ha; rcases hpp with hpp | hpp <;> omega)) (hPl_o hP2 (by intro a ha; simp only [List.mem_cons, List.not_mem_nil, or_false] at ha; rcases hpp with hpp | hpp <;> omega)) hR0 hi0 hi1 htp hpo hht) (cFr_of (by intro a ha; simp only [List.mem_cons, List.not_mem_nil, or_false] at ha; omega))
    · refine w_iload_n dX9_tone_34 rfl ?_
      refine w_sipush (v := 200) dX9_tone_35 (by decide) ?_
      refine w_icmp_le (tgt := 48) dX9_tone_38 rfl (fun b38 => ?_) (fun b38 => ?_)
      · obtain ⟨A, B, hA, hB, rfl, rfl⟩ := hasS_n b26 hc
        have hAc := nI_clamp (show A < 2 ^ 31 by omega)
        have hBc := nI_clamp (show B < 2 ^ 31 by omega)
        obtain ⟨w9, hw9, rfl⟩ := in2 (m := 200) (fun z => b31 (Int32.lt_of_lt_of_le z (by decide))) b38 (by decide)
        have hwc := nI_clamp (show w9 < 2 ^ 31 by omega)
        refine w_aload_n dX9_tone_48 rfl ?_
        refine w_aload_n dX9_tone_49 rfl ?_
        refine w_get (v := .ref (b + 1)) fX9_10 (hUs_at nd 0 rfl rfl) rfl dX9_tone_50 ?_
        refine w_iload_n dX9_tone_53 rfl ?_
        refine w_iload_n dX9_tone_54 rfl ?_
        refine w_iload_n dX9_tone_55 rfl ?_
        refine w_callV (ci := 6) (d' := d + 1) (mc' := 0) (ms' := 0) (As := [.int (nI A), .int (nI B), .int (nI w9)]) (st := [.ref b]) lX9_189 vX6_bestLag rfl (hUs_at nd 1 rfl rfl) rfl (Nat.le_of_ble_eq_true rfl) dX9_tone_56 (Nat.le_of_ble_eq_true rfl) (Nat.le_of_ble_eq_true rfl) (Nat.le_refl _) (c_bestLag (hHas_sub nd (as' := [b + 1, b + 6]) (cs' := [(oC 6 [.ref (b + 2), .ref (b + 6), .ref (b + 7), .ref (b + 8), .ref qw, .int 1, .int (nI l), .int (nI w), .int rsd, .int (nI c)]), (aB 4096 fo)]) [1, 2] rfl rfl) (by omega) (by omega) (by omega) ?_)
        refine w_callV (ci := 9) (d' := d + 1) (mc' := 0) (ms' := 0) (As := [.int (fld (bstF fo A B) 1 (min w9 (B - A)) (-2, 0, 0)).1]) (st := []) lX9_96 vX9_granted rfl (hUs_at nd 0 rfl rfl) rfl (Nat.le_of_ble_eq_true rfl) dX9_tone_59 (Nat.le_of_ble_eq_true rfl) (Nat.le_of_ble_eq_true rfl) (Nat.le_refl _) (c_granted (hHas_sub nd (as' := [b]) (cs' := [(oC 9 [.ref (b + 1), .ref (b + 14), .ref (b + 17), .ref (b + 19), .ref (b + 25), .ref (b + 29), .ref (b + 33), .ref pp, .int ht, .int (nI tp), .int sd, .int fa, .int pl, .int tr])]) [0] rfl rfl) (nd_sub nd (as' := [b]) [0] rfl rfl)  ?_)
        refine w_heq (hUs_in nd rfl [0] (cs2 := [(oC 9 [.ref (b + 1), .ref (b + 14), .ref (b + 17), .ref (b + 19), .ref (b + 25), .ref (b + 29), .ref (b + 33), .ref pp, .int ht, .int (nI tp), .int sd, .int fa, .int (-1), .int 0]), (oC 6 [.ref (b + 2), .ref (b + 6), .ref (b + 7), .ref (b + 8), .ref qw, .int 1, .int (nI l), .int (nI w), .int rsd, .int (nI c)]), (aB 4096 fo)]) rfl rfl) ?_
        refine w_ireturn rfl dX9_tone_62 (Nat.le_of_ble_eq_true rfl) (Nat.le_of_ble_eq_true rfl) ?_
        have e : oTonF fo c (nI A) (nI B) (nI w9) = ((fld (bstF fo A B) 1 (min w9 (B - A)) (-2, 0, 0)).1, 0) := by
          simp [oTonF, hAc, hBc, hwc, b26, b31, b38]
        rw [e] at k
        exact k _ (cI_i (cI_put hW (cAs_nd b) rfl [0, 1, 4] (cs2 := [(oC 9 [.ref (b + 1), .ref (b + 14), .ref (b + 17), .ref (b + 19), .ref (b + 25), .ref (b + 29), .ref (b + 33), .ref pp, .int ht, .int (nI tp), .int sd, .int fa, .int (-1), .int 0]), (oC 6 [.ref (b + 2), .ref (b + 6), .ref (b + 7), .ref (b + 8), .ref qw, .int 1, .int (nI l), .int (nI w), .int rsd, .int (nI c)]), (oC 0 [.ref (b + 3), .ref ql, .int cn, .int s.2.1, .int s.2.2]), (aI 3 s.1), (aB 4096 fo), (aI 4096 fg), (aI 3 fz), (aR RX2 2 (imR b)), (oC 2 [.int i01, .int i02, .int i03, .int i04, .int i05, .int i06, .int i07]), (oC 2 [.int i11, .int i12, .int i13, .int i14, .int i15, .int i16, .int i17]), (oC 8 [.ref (b + 18), .int wm]), (aI 94 fw), (oC 1 [.ref (b + 20), .ref (b + 24), .int f.2.2.1.1, .int f.2.2.1.2.1, .int f.2.2.2.1, .int f.2.2.1.2.2.1, .int f.2.2.1.2.2.2.1, .int f.2.2.1.2.2.2.2.1, .int f.2.2.1.2.2.2.2.2]), (oC 0 [.ref (b + 21), .ref q0, .int c0, .int f.1.2.1, .int f.1.2.2]), (aI 3 f.1.1), (aI 3 f.2.1), (oC 0 [.ref (b + 26), .ref q1, .int c1, .int s1.2.1, .int s1.2.2]), (aI 3 s1.1), (oC 0 [.ref (b + 30), .ref q2, .int c2, .int s2.2.1, .int s2.2.2]), (aI 3 s2.1), (oC 5 (rdF (b + 34) ps x)), (aB 600 ft)]) rfl rfl) hpp (hPl_o hP1 (by intro a ha; simp only [List.mem_cons, List.not_mem_nil, or_false] at ha; rcases hpp with hpp | hpp <;> omega)) (hPl_o hP2 (by intro a ha; simp only [List.mem_cons, List.not_mem_nil, or_false] at ha; rcases hpp with hpp | hpp <;> omega)) hR0 hi0 hi1 htp hpo hht) (cFr_of (by intro a ha; simp only [List.mem_cons, List.not_mem_nil, or_false] at ha; omega))
      · refine w_aload_n dX9_tone_41 rfl ?_
        refine w_iconst (v := 2) dX9_tone_42 (by decide) ?_
        refine w_iconst (v := (-1)) dX9_tone_43 (by decide) ?_
        refine w_callV (ci := 9) (d' := d + 1) (mc' := 0) (ms' := 0) (As := [.int 2, .int (-1)]) (st := []) lX9_75 vX9_refused rfl (hUs_at nd 0 rfl rfl) rfl (Nat.le_of_ble_eq_true rfl) dX9_tone_44 (Nat.le_of_ble_eq_true rfl) (Nat.le_of_ble_eq_true rfl) (Nat.le_refl _) (c_refused (hHas_sub nd (as' := [b]) (cs' := [(oC 9 [.ref (b + 1), .ref (b + 14), .ref (b + 17), .ref (b + 19), .ref (b + 25), .ref (b + 29), .ref (b + 33), .ref pp, .int ht, .int (nI tp), .int sd, .int fa, .int pl, .int tr])]) [0] rfl rfl) (nd_sub nd (as' := [b]) [0] rfl rfl)  ?_)
        refine w_heq (hUs_in nd rfl [0] (cs2 := [(oC 9 [.ref (b + 1), .ref (b + 14), .ref (b + 17), .ref (b + 19), .ref (b + 25), .ref (b + 29), .ref (b + 33), .ref pp, .int ht, .int (nI tp), .int sd, .int fa, .int (-1), .int 2]), (oC 6 [.ref (b + 2), .ref (b + 6), .ref (b + 7), .ref (b + 8), .ref qw, .int 1, .int (nI l), .int (nI w), .int rsd, .int (nI c)]), (aB 4096 fo)]) rfl rfl) ?_
        refine w_ireturn rfl dX9_tone_47 (Nat.le_of_ble_eq_true rfl) (Nat.le_of_ble_eq_true rfl) ?_
        have e : oTonF fo c a u y = ((-1), 2) := by
          simp [oTonF, b26, b31, b38]
        rw [e] at k
        exact k _ (cI_i (cI_put hW (cAs_nd b) rfl [0, 1, 4] (cs2 := [(oC 9 [.ref (b + 1), .ref (b + 14), .ref (b + 17), .ref (b + 19), .ref (b + 25), .ref (b + 29), .ref (b + 33), .ref pp, .int ht, .int (nI tp), .int sd, .int fa, .int (-1), .int 2]), (oC 6 [.ref (b + 2), .ref (b + 6), .ref (b + 7), .ref (b + 8), .ref qw, .int 1, .int (nI l), .int (nI w), .int rsd, .int (nI c)]), (oC 0 [.ref (b + 3), .ref ql, .int cn, .int s.2.1, .int s.2.2]), (aI 3 s.1), (aB 4096 fo), (aI 4096 fg), (aI 3 fz), (aR RX2 2 (imR b)), (oC 2 [.int i01, .int i02, .int i03, .int i04, .int i05, .int i06, .int i07]), (oC 2 [.int i11, .int i12, .int i13, .int i14, .int i15, .int i16, .int i17]), (oC 8 [.ref (b + 18), .int wm]), (aI 94 fw), (oC 1 [.ref (b + 20), .ref (b + 24), .int f.2.2.1.1, .int f.2.2.1.2.1, .int f.2.2.2.1, .int f.2.2.1.2.2.1, .int f.2.2.1.2.2.2.1, .int f.2.2.1.2.2.2.2.1, .int f.2.2.1.2.2.2.2.2]), (oC 0 [.ref (b + 21), .ref q0, .int c0, .int f.1.2.1, .int f.1.2.2]), (aI 3 f.1.1), (aI 3 f.2.1), (oC 0 [.ref (b + 26), .ref q1, .int c1, .int s1.2.1, .int s1.2.2]), (aI 3 s1.1), (oC 0 [.ref (b + 30), .ref q2, .int c2, .int s2.2.1, .int s2.2.2]), (aI 3 s2.1), (oC 5 (rdF (b + 34) ps x)), (aB 600 ft)]) rfl rfl) hpp (hPl_o hP1 (by intro a ha; simp only [List.mem_cons, List.not_mem_nil, or_false] at ha; rcases hpp with hpp | hpp <;> omega)) (hPl_o hP2 (by intro a ha; simp only [List.mem_cons, List.not_mem_nil, or_false] at ha; rcases hpp with hpp | hpp <;> omega)) hR0 hi0 hi1 htp hpo hht) (cFr_of (by intro a ha; simp only [List.mem_cons, List.not_mem_nil, or_false] at ha; omega))
theorem p_tone {G : wG} {d : Nat} {h : hH} {Q : Option Value → hH → Prop} {b : Nat} {ft : Nat → Int32} {tp : Nat} {P : pD} {ht : Int32} {R : Option rnD} {i0 i1 : imD} {sd fa pl tr : Int32}  {a u y : Int32} (hI : cI h b ft tp P ht R i0 i1 sd fa pl tr) (k : ∀ h2, cI h2 b ft tp P ht R i0 i1 sd fa (-1) (oTon P R a u y).2 → cFr b h h2 → Q (some (.int (oTon P R a u y).1)) h2) : Cl G yX9_tone (d + 2) 0 0 [.ref b, .int a, .int u, .int y] h Q := by
  cases R with
  | none => exact p_tone_n hI k
  | some r => obtain ⟨l, w, rs, cc⟩ := r; exact p_tone_s hI k
def oNthF (F : Nat → Int32) (c : Nat) (v y : Int32) : Int32 × Int32 := if vlB v = 0 ∨ y < 0 then (-1, 2) else (nthF F v y c 0 0, 0)
theorem oNthF_c {f g : Nat → Int32} {c : Nat} (h : ∀ t, t < c → f t = g t) (hc : c ≤ 4096) (v y : Int32) : oNthF f c v y = oNthF g c v y := by
  unfold oNthF
  by_cases e : vlB v = 0 ∨ y < 0
  · rw [if_pos e, if_pos e]
  · rw [if_neg e, if_neg e]
    rw [nthF_c h v y c 0 0 (by omega)]
def oNth (P : pD) (R : Option rnD) (v y : Int32) : Int32 × Int32 := match R with
  | none => (-1, 1)
  | some r => oNthF (rO (rQo P r.1 r.2.1 r.2.2.1)) r.2.2.2 v y
set_option maxRecDepth 100000 in
set_option maxHeartbeats 4000000 in
theorem p_nth_n {G : wG} {d : Nat} {h : hH} {Q : Option Value → hH → Prop} {b : Nat} {ft : Nat → Int32} {tp : Nat} {P : pD} {ht : Int32} {i0 i1 : imD} {sd fa pl tr : Int32}  {v y : Int32} (hI : cI h b ft tp P ht none i0 i1 sd fa pl tr)  (k : ∀ h2, cI h2 b ft tp P ht none i0 i1 sd fa (-1) (oNth P none v y).2 → cFr b h h2 → Q (some (.int (oNth P none v y).1)) h2) : Cl G yX9_nth (d + 1) 0 0 [.ref b, .int v, .int y] h Q := by
  refine cI_e hI ?_
  intro pp ps P2 go ln wn rsd c qw ql cn s fo fg fz i01 i02 i03 i04 i05 i06 i07 i11 i12 i13 i14 i15 i16 i17 wm fw f q0 c0 s1 q1 c1 s2 q2 c2 x hW hpp hP1 hP2 hR hi0 hi1 htp hpo hht
  have hgo : go = 0 := hR
  subst hgo
  have hw : hHas h [b, b + 1] [(oC 9 [.ref (b + 1), .ref (b + 14), .ref (b + 17), .ref (b + 19), .ref (b + 25), .ref (b + 29), .ref (b + 33), .ref pp, .int ht, .int (nI tp), .int sd, .int fa, .int pl, .int tr]), (oC 6 [.ref (b + 2), .ref (b + 6), .ref (b + 7), .ref (b + 8), .ref qw, .int 0, .int ln, .int wn, .int rsd, .int (nI c)])] := hHas_s hW [0, 1] rfl rfl
  have nd : [b, b + 1].Nodup := (nd_inc ⟨by omega, trivial⟩)
  refine Cl.of (ini := false) kX9_nth (plainFor_of_name (by decide)) (by decide) (Nat.le_of_ble_eq_true rfl) rfl rfl (fun z => by cases z) ?_
  refine w_heq (hUs_id hw).symm ?_
  refine w_aload_n dX9_nth_0 rfl ?_
  refine w_get (v := .ref (b + 1)) fX9_10 (hUs_at nd 0 rfl rfl) rfl dX9_nth_1 ?_
  refine w_get (v := .int 0) fX9_139 (hUs_at nd 1 rfl rfl) rfl dX9_nth_4 ?_
  refine w_if_ne_f (tgt := 17) dX9_nth_7 rfl (by decide) ?_
  refine w_aload_n dX9_nth_10 rfl ?_
  refine w_iconst (v := 1) dX9_nth_11 (by decide) ?_
  refine w_iconst (v := (-1)) dX9_nth_12 (by decide) ?_
  refine w_callV (ci := 9) (d' := d) (mc' := 0) (ms' := 0) (As := [.int 1, .int (-1)]) (st := []) lX9_75 vX9_refused rfl (hUs_at nd 0 rfl rfl) rfl (Nat.le_of_ble_eq_true rfl) dX9_nth_13 (Nat.le_of_ble_eq_true rfl) (Nat.le_of_ble_eq_true rfl) (Nat.le_refl _) (c_refused (hHas_sub nd (as' := [b]) (cs' := [(oC 9 [.ref (b + 1), .ref (b + 14), .ref (b + 17), .ref (b + 19), .ref (b + 25), .ref (b + 29), .ref (b + 33), .ref pp, .int ht, .int (nI tp), .int sd, .int fa, .int pl, .int tr])]) [0] rfl rfl) (nd_sub nd (as' := [b]) [0] rfl rfl)  ?_)
  refine w_heq (hUs_in nd rfl [0] (cs2 := [(oC 9 [.ref (b + 1), .ref (b + 14), .ref (b + 17), .ref (b + 19), .ref (b + 25), .ref (b + 29), .ref (b + 33), .ref pp, .int ht, .int (nI tp), .int sd, .int fa, .int (-1), .int 1]), (oC 6 [.ref (b + 2), .ref (b + 6), .ref (b + 7), .ref (b + 8), .ref qw, .int 0, .int ln, .int wn, .int rsd, .int (nI c)])]) rfl rfl) ?_
  refine w_ireturn rfl dX9_nth_16 (Nat.le_of_ble_eq_true rfl) (Nat.le_of_ble_eq_true rfl) ?_
  have e : oNth P none v y = ((-1), 1) := by
    simp [oNth]
  rw [e] at k
  exact k _ (cI_i (cI_put hW (cAs_nd b) rfl [0, 1] (cs2 := [(oC 9 [.ref (b + 1), .ref (b + 14), .ref (b + 17), .ref (b + 19), .ref (b + 25), .ref (b + 29), .ref (b + 33), .ref pp, .int ht, .int (nI tp), .int sd, .int fa, .int (-1), .int 1]), (oC 6 [.ref (b + 2), .ref (b + 6), .ref (b + 7), .ref (b + 8), .ref qw, .int 0, .int ln, .int wn, .int rsd, .int (nI c)]), (oC 0 [.ref (b + 3), .ref ql, .int cn, .int s.2.1, .int s.2.2]), (aI 3 s.1), (aB 4096 fo), (aI 4096 fg), (aI 3 fz), (aR RX2 2 (imR b)), (oC 2 [.int i01, .int i02, .int i03, .int i04, .int i05, .int i06, .int i07]), (oC 2 [.int i11, .int i12, .int i13, .int i14, .int i15, .int i16, .int i17]), (oC 8 [.ref (b + 18), .int wm]), (aI 94 fw), (oC 1 [.ref (b + 20), .ref (b + 24), .int f.2.2.1.1, .int f.2.2.1.2.1, .int f.2.2.2.1, .int f.2.2.1.2.2.1, .int f.2.2.1.2.2.2.1, .int f.2.2.1.2.2.2.2.1, .int f.2.2.1.2.2.2.2.2]), (oC 0 [.ref (b + 21), .ref q0, .int c0, .int f.1.2.1, .int f.1.2.2]), (aI 3 f.1.1), (aI 3 f.2.1), (oC 0 [.ref (b + 26), .ref q1, .int c1, .int s1.2.1, .int s1.2.2]), (aI 3 s1.1), (oC 0 [.ref (b + 30), .ref q2, .int c2, .int s2.2.1, .int s2.2.2]), (aI 3 s2.1), (oC 5 (rdF (b + 34) ps x)), (aB 600 ft)]) rfl rfl) hpp (hPl_o hP1 (by intro a ha; simp only [List.mem_cons, List.not_mem_nil, or_false] at ha; rcases hpp with hpp | hpp <;> omega)) (hPl_o hP2 (by intro a ha; simp only [List.mem_cons, List.not_mem_nil, or_false] at ha; rcases hpp with hpp | hpp <;> omega)) hR hi0 hi1 htp hpo hht) (cFr_of (by intro a ha; simp only [List.mem_cons, List.not_mem_nil, or_false] at ha; omega))
set_option maxRecDepth 100000 in
set_option maxHeartbeats 4000000 in
theorem p_nth_s {G : wG} {d : Nat} {h : hH} {Q : Option Value → hH → Prop} {b : Nat} {ft : Nat → Int32} {tp : Nat} {P : pD} {ht : Int32} {i0 i1 : imD} {sd fa pl tr : Int32}  {l w cc : Nat} {rs : Int32} {v y : Int32} (hI : cI h b ft tp P ht (some (l, w, rs, cc)) i0 i1 sd fa pl tr)  (k : ∀ h2, cI h2 b ft tp P ht (some (l, w, rs, cc)) i0 i1 sd fa (-1) (oNth P (some (l, w, rs, cc)) v y).2 → cFr b h h2 → Q (some (.int (oNth P (some (l, w, rs, cc)) v y).1)) h2) : Cl G yX9_nth (d + 1) 0 0 [.ref b, .int v, .int y] h Q := by
  refine cI_e hI ?_
  intro pp ps P2 go ln wn rsd c qw ql cn s fo fg fz i01 i02 i03 i04 i05 i06 i07 i11 i12 i13 i14 i15 i16 i17 wm fw f q0 c0 s1 q1 c1 s2 q2 c2 x hW hpp hP1 hP2 hR hi0 hi1 htp hpo hht
  have hR0 := hR
  simp only [rIv] at hR
  obtain ⟨hrn, hgo, hln, hwn, hrs, hcc, hqw, hql, hcn, hs, hfo, hfg, hfz⟩ := hR
  subst hgo; subst hln; subst hwn; subst hrs; subst hcc
  have hc : c ≤ 4096 := hrn.2.2
  rw [show oNth P (some (l, w, rsd, c)) v y = oNthF fo c v y from (oNthF_c hfo hc v y).symm] at k
  
  have hw : hHas h [b, b + 1, b + 6] [(oC 9 [.ref (b + 1), .ref (b + 14), .ref (b + 17), .ref (b + 19), .ref (b + 25), .ref (b + 29), .ref (b + 33), .ref pp, .int ht, .int (nI tp), .int sd, .int fa, .int pl, .int tr]), (oC 6 [.ref (b + 2), .ref (b + 6), .ref (b + 7), .ref (b + 8), .ref qw, .int 1, .int (nI l), .int (nI w), .int rsd, .int (nI c)]), (aB 4096 fo)] := hHas_s hW [0, 1, 4] rfl rfl
  have nd : [b, b + 1, b + 6].Nodup := (nd_inc ⟨by omega, by omega, trivial⟩)
  refine Cl.of (ini := false) kX9_nth (plainFor_of_name (by decide)) (by decide) (Nat.le_of_ble_eq_true rfl) rfl rfl (fun z => by cases z) ?_
  refine w_heq (hUs_id hw).symm ?_
  refine w_aload_n dX9_nth_0 rfl ?_
  refine w_get (v := .ref (b + 1)) fX9_10 (hUs_at nd 0 rfl rfl) rfl dX9_nth_1 ?_
  refine w_get (v := .int 1) fX9_139 (hUs_at nd 1 rfl rfl) rfl dX9_nth_4 ?_
  refine w_if_ne_t (tgt := 17) dX9_nth_7 rfl (by decide) ?_
  refine w_iload_n dX9_nth_17 rfl ?_
  refine w_callS (d' := d) (mc' := 0) (ms' := 0) (As := [.int v]) (st := []) lX9_170 vX9_isValue rfl (Nat.le_of_ble_eq_true rfl) dX9_nth_18 (Nat.le_of_ble_eq_true rfl) (Nat.le_of_ble_eq_true rfl) (Nat.le_refl _) (c_isValue ?_)
  refine w_if_eq (tgt := 28) dX9_nth_21 rfl (fun b21 => ?_) (fun b21 => ?_)
  · refine w_aload_n dX9_nth_28 rfl ?_
    refine w_iconst (v := 2) dX9_nth_29 (by decide) ?_
    refine w_iconst (v := (-1)) dX9_nth_30 (by decide) ?_
    refine w_callV (ci := 9) (d' := d) (mc' := 0) (ms' := 0) (As := [.int 2, .int (-1)]) (st := []) lX9_75 vX9_refused rfl (hUs_at nd 0 rfl rfl) rfl (Nat.le_of_ble_eq_true rfl) dX9_nth_31 (Nat.le_of_ble_eq_true rfl) (Nat.le_of_ble_eq_true rfl) (Nat.le_refl _) (c_refused (hHas_sub nd (as' := [b]) (cs' := [(oC 9 [.ref (b + 1), .ref (b + 14), .ref (b + 17), .ref (b + 19), .ref (b + 25), .ref (b + 29), .ref (b + 33), .ref pp, .int ht, .int (nI tp), .int sd, .int fa, .int pl, .int tr])]) [0] rfl rfl) (nd_sub nd (as' := [b]) [0] rfl rfl)  ?_)
    refine w_heq (hUs_in nd rfl [0] (cs2 := [(oC 9 [.ref (b + 1), .ref (b + 14), .ref (b + 17), .ref (b + 19), .ref (b + 25), .ref (b + 29), .ref (b + 33), .ref pp, .int ht, .int (nI tp), .int sd, .int fa, .int (-1), .int 2]), (oC 6 [.ref (b + 2), .ref (b + 6), .ref (b + 7), .ref (b + 8), .ref qw, .int 1, .int (nI l), .int (nI w), .int rsd, .int (nI c)]), (aB 4096 fo)]) rfl rfl) ?_
    refine w_ireturn rfl dX9_nth_34 (Nat.le_of_ble_eq_true rfl) (Nat.le_of_ble_eq_true rfl) ?_
    have e : oNthF fo c v y = ((-1), 2) := by
      simp [oNthF, b21]
    rw [e] at k
    exact k _ (cI_i (cI_put hW (cAs_nd b) rfl [0, 1, 4] (cs2 := [(oC 9 [.ref (b + 1), .ref (b + 14), .ref (b + 17), .ref (b + 19), .ref (b + 25), .ref (b + 29), .ref (b + 33), .ref pp, .int ht, .int (nI tp), .int sd, .int fa, .int (-1), .int 2]), (oC 6 [.ref (b + 2), .ref (b + 6), .ref (b + 7), .ref (b + 8), .ref qw, .int 1, .int (nI l), .int (nI w), .int rsd, .int (nI c)]), (oC 0 [.ref (b + 3), .ref ql, .int cn, .int s.2.1, .int s.2.2]), (aI 3 s.1), (aB 4096 fo), (aI 4096 fg), (aI 3 fz), (aR RX2 2 (imR b)), (oC 2 [.int i01, .int i02, .int i03, .int i04, .int i05, .int i06, .int i07]), (oC 2 [.int i11, .int i12, .int i13, .int i14, .int i15, .int i16, .int i17]), (oC 8 [.ref (b + 18), .int wm]), (aI 94 fw), (oC 1 [.ref (b + 20), .ref (b + 24), .int f.2.2.1.1, .int f.2.2.1.2.1, .int f.2.2.2.1, .int f.2.2.1.2.2.1, .int f.2.2.1.2.2.2.1, .int f.2.2.1.2.2.2.2.1, .int f.2.2.1.2.2.2.2.2]), (oC 0 [.ref (b + 21), .ref q0, .int c0, .int f.1.2.1, .int f.1.2.2]), (aI 3 f.1.1), (aI 3 f.2.1), (oC 0 [.ref (b + 26), .ref q1, .int c1, .int s1.2.1, .int s1.2.2]), (aI 3 s1.1), (oC 0 [.ref (b + 30), .ref q2, .int c2, .int s2.2.1, .int s2.2.2]), (aI 3 s2.1), (oC 5 (rdF (b + 34) ps x)), (aB 600 ft)]) rfl rfl) hpp (hPl_o hP1 (by intro a ha; simp only [List.mem_cons, List.not_mem_nil, or_false] at ha; rcases hpp with hpp | hpp <;> omega)) (hPl_o hP2 (by intro a ha; simp only [List.mem_cons, List.not_mem_nil, or_false] at ha; rcases hpp with hpp | hpp <;> omega)) hR0 hi0 hi1 htp hpo hht) (cFr_of (by intro a ha; simp only [List.mem_cons, List.not_mem_nil, or_false] at ha; omega))
  · refine w_iload_n dX9_nth_24 rfl ?_
    refine w_if_ge (tgt := 35) dX9_nth_25 rfl (fun b25 => ?_) (fun b25 => ?_)
    · refine w_aload_n dX9_nth_35 rfl ?_
      refine w_aload_n dX9_nth_36 rfl ?_
      refine w_get (v := .ref (b + 1)) fX9_10 (hUs_at nd 0 rfl rfl) rfl dX9_nth_37 ?_
      refine w_iload_n dX9_nth_40 rfl ?_
      refine w_iload_n dX9_nth_41 rfl ?_
      refine w_callV (ci := 6) (d' := d) (mc' := 0) (ms' := 0) (As := [.int v, .int y]) (st := [.ref b]) lX9_192 vX6_clockOf rfl (hUs_at nd 1 rfl rfl) rfl (Nat.le_of_ble_eq_true rfl) dX9_nth_42 (Nat.le_of_ble_eq_true rfl) (Nat.le_of_ble_eq_true rfl) (Nat.le_refl _) (c_clockOf (hHas_sub nd (as' := [b + 1, b + 6]) (cs' := [(oC 6 [.ref (b + 2), .ref (b + 6), .ref (b + 7), .ref (b + 8), .ref qw, .int 1, .int (nI l), .int (nI w), .int rsd, .int (nI c)]), (aB 4096 fo)]) [1, 2] rfl rfl) hc ?_)
      refine w_callV (ci := 9) (d' := d) (mc' := 0) (ms' := 0) (As := [.int (nthF fo v y c 0 0)]) (st := []) lX9_96 vX9_granted rfl (hUs_at nd 0 rfl rfl) rfl (Nat.le_of_ble_eq_true rfl) dX9_nth_45 (Nat.le_of_ble_eq_true rfl) (Nat.le_of_ble_eq_true rfl) (Nat.le_refl _) (c_granted (hHas_sub nd (as' := [b]) (cs' := [(oC 9 [.ref (b + 1), .ref (b + 14), .ref (b + 17), .ref (b + 19), .ref (b + 25), .ref (b + 29), .ref (b + 33), .ref pp, .int ht, .int (nI tp), .int sd, .int fa, .int pl, .int tr])]) [0] rfl rfl) (nd_sub nd (as' := [b]) [0] rfl rfl)  ?_)
      refine w_heq (hUs_in nd rfl [0] (cs2 := [(oC 9 [.ref (b + 1), .ref (b + 14), .ref (b + 17), .ref (b + 19), .ref (b + 25), .ref (b + 29), .ref (b + 33), .ref pp, .int ht, .int (nI tp), .int sd, .int fa, .int (-1), .int 0]), (oC 6 [.ref (b + 2), .ref (b + 6), .ref (b + 7), .ref (b + 8), .ref qw, .int 1, .int (nI l), .int (nI w), .int rsd, .int (nI c)]), (aB 4096 fo)]) rfl rfl) ?_
      refine w_ireturn rfl dX9_nth_48 (Nat.le_of_ble_eq_true rfl) (Nat.le_of_ble_eq_true rfl) ?_
      have e : oNthF fo c v y = (nthF fo v y c 0 0, 0) := by
        simp [oNthF, b21, b25]
      rw [e] at k
      exact k _ (cI_i (cI_put hW (cAs_nd b) rfl [0, 1, 4] (cs2 := [(oC 9 [.ref (b + 1), .ref (b + 14), .ref (b + 17), .ref (b + 19), .ref (b + 25), .ref (b + 29), .ref (b + 33), .ref pp, .int ht, .int (nI tp), .int sd, .int fa, .int (-1), .int 0]), (oC 6 [.ref (b + 2), .ref (b + 6), .ref (b + 7), .ref (b + 8), .ref qw, .int 1, .int (nI l), .int (nI w), .int rsd, .int (nI c)]), (oC 0 [.ref (b + 3), .ref ql, .int cn, .int s.2.1, .int s.2.2]), (aI 3 s.1), (aB 4096 fo), (aI 4096 fg), (aI 3 fz), (aR RX2 2 (imR b)), (oC 2 [.int i01, .int i02, .int i03, .int i04, .int i05, .int i06, .int i07]), (oC 2 [.int i11, .int i12, .int i13, .int i14, .int i15, .int i16, .int i17]), (oC 8 [.ref (b + 18), .int wm]), (aI 94 fw), (oC 1 [.ref (b + 20), .ref (b + 24), .int f.2.2.1.1, .int f.2.2.1.2.1, .int f.2.2.2.1, .int f.2.2.1.2.2.1, .int f.2.2.1.2.2.2.1, .int f.2.2.1.2.2.2.2.1, .int f.2.2.1.2.2.2.2.2]), (oC 0 [.ref (b + 21), .ref q0, .int c0, .int f.1.2.1, .int f.1.2.2]), (aI 3 f.1.1), (aI 3 f.2.1), (oC 0 [.ref (b + 26), .ref q1, .int c1, .int s1.2.1, .int s1.2.2]), (aI 3 s1.1), (oC 0 [.ref (b + 30), .ref q2, .int c2, .int s2.2.1, .int s2.2.2]), (aI 3 s2.1), (oC 5 (rdF (b + 34) ps x)), (aB 600 ft)]) rfl rfl) hpp (hPl_o hP1 (by intro a ha; simp only [List.mem_cons, List.not_mem_nil, or_false] at ha; rcases hpp with hpp | hpp <;> omega)) (hPl_o hP2 (by intro a ha; simp only [List.mem_cons, List.not_mem_nil, or_false] at ha; rcases hpp with hpp | hpp <;> omega)) hR0 hi0 hi1 htp hpo hht) (cFr_of (by intro a ha; simp only [List.mem_cons, List.not_mem_nil, or_false] at ha; omega))
    · refine w_aload_n dX9_nth_28 rfl ?_
      refine w_iconst (v := 2) dX9_nth_29 (by decide) ?_
      refine w_iconst (v := (-1)) dX9_nth_30 (by decide) ?_
      refine w_callV (ci := 9) (d' := d) (mc' := 0) (ms' := 0) (As := [.int 2, .int (-1)]) (st := []) lX9_75 vX9_refused rfl (hUs_at nd 0 rfl rfl) rfl (Nat.le_of_ble_eq_true rfl) dX9_nth_31 (Nat.le_of_ble_eq_true rfl) (Nat.le_of_ble_eq_true rfl) (Nat.le_refl _) (c_refused (hHas_sub nd (as' := [b]) (cs' := [(oC 9 [.ref (b + 1), .ref (b + 14), .ref (b + 17), .ref (b + 19), .ref (b + 25), .ref (b + 29), .ref (b + 33), .ref pp, .int ht, .int (nI tp), .int sd, .int fa, .int pl, .int tr])]) [0] rfl rfl) (nd_sub nd (as' := [b]) [0] rfl rfl)  ?_)
      refine w_heq (hUs_in nd rfl [0] (cs2 := [(oC 9 [.ref (b + 1), .ref (b + 14), .ref (b + 17), .ref (b + 19), .ref (b + 25), .ref (b + 29), .ref (b + 33), .ref pp, .int ht, .int (nI tp), .int sd, .int fa, .int (-1), .int 2]), (oC 6 [.ref (b + 2), .ref (b + 6), .ref (b + 7), .ref (b + 8), .ref qw, .int 1, .int (nI l), .int (nI w), .int rsd, .int (nI c)]), (aB 4096 fo)]) rfl rfl) ?_
      refine w_ireturn rfl dX9_nth_34 (Nat.le_of_ble_eq_true rfl) (Nat.le_of_ble_eq_true rfl) ?_
      have e : oNthF fo c v y = ((-1), 2) := by
        simp [oNthF, b21, b25]
      rw [e] at k
      exact k _ (cI_i (cI_put hW (cAs_nd b) rfl [0, 1, 4] (cs2 := [(oC 9 [.ref (b + 1), .ref (b + 14), .ref (b + 17), .ref (b + 19), .ref (b + 25), .ref (b + 29), .ref (b + 33), .ref pp, .int ht, .int (nI tp), .int sd, .int fa, .int (-1), .int 2]), (oC 6 [.ref (b + 2), .ref (b + 6), .ref (b + 7), .ref (b + 8), .ref qw, .int 1, .int (nI l), .int (nI w), .int rsd, .int (nI c)]), (oC 0 [.ref (b + 3), .ref ql, .int cn, .int s.2.1, .int s.2.2]), (aI 3 s.1), (aB 4096 fo), (aI 4096 fg), (aI 3 fz), (aR RX2 2 (imR b)), (oC 2 [.int i01, .int i02, .int i03, .int i04, .int i05, .int i06, .int i07]), (oC 2 [.int i11, .int i12, .int i13, .int i14, .int i15, .int i16, .int i17]), (oC 8 [.ref (b + 18), .int wm]), (aI 94 fw), (oC 1 [.ref (b + 20), .ref (b + 24), .int f.2.2.1.1, .int f.2.2.1.2.1, .int f.2.2.2.1, .int f.2.2.1.2.2.1, .int f.2.2.1.2.2.2.1, .int f.2.2.1.2.2.2.2.1, .int f.2.2.1.2.2.2.2.2]), (oC 0 [.ref (b + 21), .ref q0, .int c0, .int f.1.2.1, .int f.1.2.2]), (aI 3 f.1.1), (aI 3 f.2.1), (oC 0 [.ref (b + 26), .ref q1, .int c1, .int s1.2.1, .int s1.2.2]), (aI 3 s1.1), (oC 0 [.ref (b + 30), .ref q2, .int c2, .int s2.2.1, .int s2.2.2]), (aI 3 s2.1), (oC 5 (rdF (b + 34) ps x)), (aB 600 ft)]) rfl rfl) hpp (hPl_o hP1 (by intro a ha; simp only [List.mem_cons, List.not_mem_nil, or_false] at ha; rcases hpp with hpp | hpp <;> omega)) (hPl_o hP2 (by intro a ha; simp only [List.mem_cons, List.not_mem_nil, or_false] at ha; rcases hpp with hpp | hpp <;> omega)) hR0 hi0 hi1 htp hpo hht) (cFr_of (by intro a ha; simp only [List.mem_cons, List.not_mem_nil, or_false] at ha; omega))
theorem p_nth {G : wG} {d : Nat} {h : hH} {Q : Option Value → hH → Prop} {b : Nat} {ft : Nat → Int32} {tp : Nat} {P : pD} {ht : Int32} {R : Option rnD} {i0 i1 : imD} {sd fa pl tr : Int32}  {v y : Int32} (hI : cI h b ft tp P ht R i0 i1 sd fa pl tr) (k : ∀ h2, cI h2 b ft tp P ht R i0 i1 sd fa (-1) (oNth P R v y).2 → cFr b h h2 → Q (some (.int (oNth P R v y).1)) h2) : Cl G yX9_nth (d + 1) 0 0 [.ref b, .int v, .int y] h Q := by
  cases R with
  | none => exact p_nth_n hI k
  | some r => obtain ⟨l, w, rs, cc⟩ := r; exact p_nth_s hI k
def oMnF (F : Nat → Int32) (c : Nat) (a u y : Int32) : Int32 × Int32 := if y < 0 ∨ 1 < y then (-1000000000, 1) else if hasS a u c = 0 then (-1000000000, 2) else ((if y = 0 then fld (fun t s => s + F t) (tN a) (tN u + 1 - tN a) 0 else u - a + 1) / mxI 1 (gdF 64 (u - a + 1) (abI (fld (fun t s => s + F t) (tN a) (tN u + 1 - tN a) 0))), 0)
theorem oMnF_c {f g : Nat → Int32} {c : Nat} (h : ∀ t, t < c → f t = g t) (hc : c ≤ 4096) (a u y : Int32) : oMnF f c a u y = oMnF g c a u y := by
  unfold oMnF
  by_cases e0 : y < 0 ∨ 1 < y
  · rw [if_pos e0, if_pos e0]
  · rw [if_neg e0, if_neg e0]
    by_cases e : hasS a u c = 0
    · rw [if_pos e, if_pos e]
    · rw [if_neg e, if_neg e]
      have z := hasS_t e hc
      rw [fld_c (g := fun t s => s + g t) (tN a) _ _ (fun t h1 h2 => by funext s; rw [h t (by omega)])]
def oMn (P : pD) (R : Option rnD) (a u y : Int32) : Int32 × Int32 := match R with
  | none => (-1000000000, 1)
  | some r => oMnF (rO (rQo P r.1 r.2.1 r.2.2.1)) r.2.2.2 a u y
set_option maxRecDepth 100000 in
set_option maxHeartbeats 4000000 in
theorem p_mean_n {G : wG} {d : Nat} {h : hH} {Q : Option Value → hH → Prop} {b : Nat} {ft : Nat → Int32} {tp : Nat} {P : pD} {ht : Int32} {i0 i1 : imD} {sd fa pl tr : Int32}  {a u y : Int32} (hI : cI h b ft tp P ht none i0 i1 sd fa pl tr)  (k : ∀ h2, cI h2 b ft tp P ht none i0 i1 sd fa (-1) (oMn P none a u y).2 → cFr b h h2 → Q (some (.int (oMn P none a u y).1)) h2) : Cl G yX9_mean (d + 2) 0 0 [.ref b, .int a, .int u, .int y] h Q := by
  refine cI_e hI ?_
  intro pp ps P2 go ln wn rsd c qw ql cn s fo fg fz i01 i02 i03 i04 i05 i06 i07 i11 i12 i13 i14 i15 i16 i17 wm fw f q0 c0 s1 q1 c1 s2 q2 c2 x hW hpp hP1 hP2 hR hi0 hi1 htp hpo hht
  have hgo : go = 0 := hR
  subst hgo
  have hw : hHas h [b, b + 1] [(oC 9 [.ref (b + 1), .ref (b + 14), .ref (b + 17), .ref (b + 19), .ref (b + 25), .ref (b + 29), .ref (b + 33), .ref pp, .int ht, .int (nI tp), .int sd, .int fa, .int pl, .int tr]), (oC 6 [.ref (b + 2), .ref (b + 6), .ref (b + 7), .ref (b + 8), .ref qw, .int 0, .int ln, .int wn, .int rsd, .int (nI c)])] := hHas_s hW [0, 1] rfl rfl
  have nd : [b, b + 1].Nodup := (nd_inc ⟨by omega, trivial⟩)
  refine Cl.of (ini := false) kX9_mean (plainFor_of_name (by decide)) (by decide) (Nat.le_of_ble_eq_true rfl) rfl rfl (fun z => by cases z) ?_
  refine w_heq (hUs_id hw).symm ?_
  refine w_aload_n dX9_mean_0 rfl ?_
  refine w_get (v := .ref (b + 1)) fX9_10 (hUs_at nd 0 rfl rfl) rfl dX9_mean_1 ?_
  refine w_get (v := .int 0) fX9_139 (hUs_at nd 1 rfl rfl) rfl dX9_mean_4 ?_
  refine w_if_eq_t (tgt := 19) dX9_mean_7 rfl (by decide) ?_
  refine w_aload_n dX9_mean_19 rfl ?_
  refine w_iconst (v := 1) dX9_mean_20 (by decide) ?_
  refine w_ldc nX9_120 dX9_mean_21 ?_
  refine w_callV (ci := 9) (d' := d + 1) (mc' := 0) (ms' := 0) (As := [.int 1, .int (-1000000000)]) (st := []) lX9_75 vX9_refused rfl (hUs_at nd 0 rfl rfl) rfl (Nat.le_of_ble_eq_true rfl) dX9_mean_23 (Nat.le_of_ble_eq_true rfl) (Nat.le_of_ble_eq_true rfl) (Nat.le_refl _) (c_refused (hHas_sub nd (as' := [b]) (cs' := [(oC 9 [.ref (b + 1), .ref (b + 14), .ref (b + 17), .ref (b + 19), .ref (b + 25), .ref (b + 29), .ref (b + 33), .ref pp, .int ht, .int (nI tp), .int sd, .int fa, .int pl, .int tr])]) [0] rfl rfl) (nd_sub nd (as' := [b]) [0] rfl rfl)  ?_)
  refine w_heq (hUs_in nd rfl [0] (cs2 := [(oC 9 [.ref (b + 1), .ref (b + 14), .ref (b + 17), .ref (b + 19), .ref (b + 25), .ref (b + 29), .ref (b + 33), .ref pp, .int ht, .int (nI tp), .int sd, .int fa, .int (-1), .int 1]), (oC 6 [.ref (b + 2), .ref (b + 6), .ref (b + 7), .ref (b + 8), .ref qw, .int 0, .int ln, .int wn, .int rsd, .int (nI c)])]) rfl rfl) ?_
  refine w_ireturn rfl dX9_mean_26 (Nat.le_of_ble_eq_true rfl) (Nat.le_of_ble_eq_true rfl) ?_
  have e : oMn P none a u y = ((-1000000000), 1) := by
    simp [oMn]
  rw [e] at k
  exact k _ (cI_i (cI_put hW (cAs_nd b) rfl [0, 1] (cs2 := [(oC 9 [.ref (b + 1), .ref (b + 14), .ref (b + 17), .ref (b + 19), .ref (b + 25), .ref (b + 29), .ref (b + 33), .ref pp, .int ht, .int (nI tp), .int sd, .int fa, .int (-1), .int 1]), (oC 6 [.ref (b + 2), .ref (b + 6), .ref (b + 7), .ref (b + 8), .ref qw, .int 0, .int ln, .int wn, .int rsd, .int (nI c)]), (oC 0 [.ref (b + 3), .ref ql, .int cn, .int s.2.1, .int s.2.2]), (aI 3 s.1), (aB 4096 fo), (aI 4096 fg), (aI 3 fz), (aR RX2 2 (imR b)), (oC 2 [.int i01, .int i02, .int i03, .int i04, .int i05, .int i06, .int i07]), (oC 2 [.int i11, .int i12, .int i13, .int i14, .int i15, .int i16, .int i17]), (oC 8 [.ref (b + 18), .int wm]), (aI 94 fw), (oC 1 [.ref (b + 20), .ref (b + 24), .int f.2.2.1.1, .int f.2.2.1.2.1, .int f.2.2.2.1, .int f.2.2.1.2.2.1, .int f.2.2.1.2.2.2.1, .int f.2.2.1.2.2.2.2.1, .int f.2.2.1.2.2.2.2.2]), (oC 0 [.ref (b + 21), .ref q0, .int c0, .int f.1.2.1, .int f.1.2.2]), (aI 3 f.1.1), (aI 3 f.2.1), (oC 0 [.ref (b + 26), .ref q1, .int c1, .int s1.2.1, .int s1.2.2]), (aI 3 s1.1), (oC 0 [.ref (b + 30), .ref q2, .int c2, .int s2.2.1, .int s2.2.2]), (aI 3 s2.1), (oC 5 (rdF (b + 34) ps x)), (aB 600 ft)]) rfl rfl) hpp (hPl_o hP1 (by intro a ha; simp only [List.mem_cons, List.not_mem_nil, or_false] at ha; rcases hpp with hpp | hpp <;> omega)) (hPl_o hP2 (by intro a ha; simp only [List.mem_cons, List.not_mem_nil, or_false] at ha; rcases hpp with hpp | hpp <;> omega)) hR hi0 hi1 htp hpo hht) (cFr_of (by intro a ha; simp only [List.mem_cons, List.not_mem_nil, or_false] at ha; omega))
set_option maxRecDepth 100000 in
set_option maxHeartbeats 4000000 in
theorem p_mean_s {G : wG} {d : Nat} {h : hH} {Q : Option Value → hH → Prop} {b : Nat} {ft : Nat → Int32} {tp : Nat} {P : pD} {ht : Int32} {i0 i1 : imD} {sd fa pl tr : Int32}  {l w cc : Nat} {rs : Int32} {a u y : Int32} (hI : cI h b ft tp P ht (some (l, w, rs, cc)) i0 i1 sd fa pl tr)  (k : ∀ h2, cI h2 b ft tp P ht (some (l, w, rs, cc)) i0 i1 sd fa (-1) (oMn P (some (l, w, rs, cc)) a u y).2 → cFr b h h2 → Q (some (.int (oMn P (some (l, w, rs, cc)) a u y).1)) h2) : Cl G yX9_mean (d + 2) 0 0 [.ref b, .int a, .int u, .int y] h Q := by
  refine cI_e hI ?_
  intro pp ps P2 go ln wn rsd c qw ql cn s fo fg fz i01 i02 i03 i04 i05 i06 i07 i11 i12 i13 i14 i15 i16 i17 wm fw f q0 c0 s1 q1 c1 s2 q2 c2 x hW hpp hP1 hP2 hR hi0 hi1 htp hpo hht
  have hR0 := hR
  simp only [rIv] at hR
  obtain ⟨hrn, hgo, hln, hwn, hrs, hcc, hqw, hql, hcn, hs, hfo, hfg, hfz⟩ := hR
  subst hgo; subst hln; subst hwn; subst hrs; subst hcc
  have hc : c ≤ 4096 := hrn.2.2
  rw [show oMn P (some (l, w, rsd, c)) a u y = oMnF fo c a u y from (oMnF_c hfo hc a u y).symm] at k
  
  have hw : hHas h [b, b + 1, b + 6] [(oC 9 [.ref (b + 1), .ref (b + 14), .ref (b + 17), .ref (b + 19), .ref (b + 25), .ref (b + 29), .ref (b + 33), .ref pp, .int ht, .int (nI tp), .int sd, .int fa, .int pl, .int tr]), (oC 6 [.ref (b + 2), .ref (b + 6), .ref (b + 7), .ref (b + 8), .ref qw, .int 1, .int (nI l), .int (nI w), .int rsd, .int (nI c)]), (aB 4096 fo)] := hHas_s hW [0, 1, 4] rfl rfl
  have nd : [b, b + 1, b + 6].Nodup := (nd_inc ⟨by omega, by omega, trivial⟩)
  refine Cl.of (ini := false) kX9_mean (plainFor_of_name (by decide)) (by decide) (Nat.le_of_ble_eq_true rfl) rfl rfl (fun z => by cases z) ?_
  refine w_heq (hUs_id hw).symm ?_
  refine w_aload_n dX9_mean_0 rfl ?_
  refine w_get (v := .ref (b + 1)) fX9_10 (hUs_at nd 0 rfl rfl) rfl dX9_mean_1 ?_
  refine w_get (v := .int 1) fX9_139 (hUs_at nd 1 rfl rfl) rfl dX9_mean_4 ?_
  refine w_if_eq_f (tgt := 19) dX9_mean_7 rfl (by decide) ?_
  refine w_iload_n dX9_mean_10 rfl ?_
  refine w_if_lt (tgt := 19) dX9_mean_11 rfl (fun b11 => ?_) (fun b11 => ?_)
  · refine w_aload_n dX9_mean_19 rfl ?_
    refine w_iconst (v := 1) dX9_mean_20 (by decide) ?_
    refine w_ldc nX9_120 dX9_mean_21 ?_
    refine w_callV (ci := 9) (d' := d + 1) (mc' := 0) (ms' := 0) (As := [.int 1, .int (-1000000000)]) (st := []) lX9_75 vX9_refused rfl (hUs_at nd 0 rfl rfl) rfl (Nat.le_of_ble_eq_true rfl) dX9_mean_23 (Nat.le_of_ble_eq_true rfl) (Nat.le_of_ble_eq_true rfl) (Nat.le_refl _) (c_refused (hHas_sub nd (as' := [b]) (cs' := [(oC 9 [.ref (b + 1), .ref (b + 14), .ref (b + 17), .ref (b + 19), .ref (b + 25), .ref (b + 29), .ref (b + 33), .ref pp, .int ht, .int (nI tp), .int sd, .int fa, .int pl, .int tr])]) [0] rfl rfl) (nd_sub nd (as' := [b]) [0] rfl rfl)  ?_)
    refine w_heq (hUs_in nd rfl [0] (cs2 := [(oC 9 [.ref (b + 1), .ref (b + 14), .ref (b + 17), .ref (b + 19), .ref (b + 25), .ref (b + 29), .ref (b + 33), .ref pp, .int ht, .int (nI tp), .int sd, .int fa, .int (-1), .int 1]), (oC 6 [.ref (b + 2), .ref (b + 6), .ref (b + 7), .ref (b + 8), .ref qw, .int 1, .int (nI l), .int (nI w), .int rsd, .int (nI c)]), (aB 4096 fo)]) rfl rfl) ?_
    refine w_ireturn rfl dX9_mean_26 (Nat.le_of_ble_eq_true rfl) (Nat.le_of_ble_eq_true rfl) ?_
    have e : oMnF fo c a u y = ((-1000000000), 1) := by
      simp [oMnF, b11]
    rw [e] at k
    exact k _ (cI_i (cI_put hW (cAs_nd b) rfl [0, 1, 4] (cs2 := [(oC 9 [.ref (b + 1), .ref (b + 14), .ref (b + 17), .ref (b + 19), .ref (b + 25), .ref (b + 29), .ref (b + 33), .ref pp, .int ht, .int (nI tp), .int sd, .int fa, .int (-1), .int 1]), (oC 6 [.ref (b + 2), .ref (b + 6), .ref (b + 7), .ref (b + 8), .ref qw, .int 1, .int (nI l), .int (nI w), .int rsd, .int (nI c)]), (oC 0 [.ref (b + 3), .ref ql, .int cn, .int s.2.1, .int s.2.2]), (aI 3 s.1), (aB 4096 fo), (aI 4096 fg), (aI 3 fz), (aR RX2 2 (imR b)), (oC 2 [.int i01, .int i02, .int i03, .int i04, .int i05, .int i06, .int i07]), (oC 2 [.int i11, .int i12, .int i13, .int i14, .int i15, .int i16, .int i17]), (oC 8 [.ref (b + 18), .int wm]), (aI 94 fw), (oC 1 [.ref (b + 20), .ref (b + 24), .int f.2.2.1.1, .int f.2.2.1.2.1, .int f.2.2.2.1, .int f.2.2.1.2.2.1, .int f.2.2.1.2.2.2.1, .int f.2.2.1.2.2.2.2.1, .int f.2.2.1.2.2.2.2.2]), (oC 0 [.ref (b + 21), .ref q0, .int c0, .int f.1.2.1, .int f.1.2.2]), (aI 3 f.1.1), (aI 3 f.2.1), (oC 0 [.ref (b + 26), .ref q1, .int c1, .int s1.2.1, .int s1.2.2]), (aI 3 s1.1), (oC 0 [.ref (b + 30), .ref q2, .int c2, .int s2.2.1, .int s2.2.2]), (aI 3 s2.1), (oC 5 (rdF (b + 34) ps x)), (aB 600 ft)]) rfl rfl) hpp (hPl_o hP1 (by intro a ha; simp only [List.mem_cons, List.not_mem_nil, or_false] at ha; rcases hpp with hpp | hpp <;> omega)) (hPl_o hP2 (by intro a ha; simp only [List.mem_cons, List.not_mem_nil, or_false] at ha; rcases hpp with hpp | hpp <;> omega)) hR0 hi0 hi1 htp hpo hht) (cFr_of (by intro a ha; simp only [List.mem_cons, List.not_mem_nil, or_false] at ha; omega))
  · refine w_iload_n dX9_mean_14 rfl ?_
    refine w_iconst (v := 1) dX9_mean_15 (by decide) ?_
    refine w_icmp_le (tgt := 27) dX9_mean_16 rfl (fun b16 => ?_) (fun b16 => ?_)
    · refine w_aload_n dX9_mean_27 rfl ?_
      refine w_get (v := .ref (b + 1)) fX9_10 (hUs_at nd 0 rfl rfl) rfl dX9_mean_28 ?_
      refine w_iload_n dX9_mean_31 rfl ?_
      refine w_iload_n dX9_mean_32 rfl ?_
      refine w_callV (ci := 6) (d' := d + 1) (mc' := 0) (ms' := 0) (As := [.int a, .int u]) (st := []) lX9_162 vX6_hasStretch rfl (hUs_at nd 1 rfl rfl) rfl (Nat.le_of_ble_eq_true rfl) dX9_mean_33 (Nat.le_of_ble_eq_true rfl) (Nat.le_of_ble_eq_true rfl) (Nat.le_refl _) (c_hasStretch (hHas_sub nd (as' := [b + 1]) (cs' := [(oC 6 [.ref (b + 2), .ref (b + 6), .ref (b + 7), .ref (b + 8), .ref qw, .int 1, .int (nI l), .int (nI w), .int rsd, .int (nI c)])]) [1] rfl rfl)  ?_)
      refine w_if_ne (tgt := 47) dX9_mean_36 rfl (fun b36 => ?_) (fun b36 => ?_)
      · obtain ⟨A, B, hA, hB, rfl, rfl⟩ := hasS_n b36 hc
        have hAc := nI_clamp (show A < 2 ^ 31 by omega)
        have hBc := nI_clamp (show B < 2 ^ 31 by omega)
        refine w_aload_n dX9_mean_47 rfl ?_
        refine w_get (v := .ref (b + 1)) fX9_10 (hUs_at nd 0 rfl rfl) rfl dX9_mean_48 ?_
        refine w_iload_n dX9_mean_51 rfl ?_
        refine w_iload_n dX9_mean_52 rfl ?_
        refine w_callV (ci := 6) (d' := d + 1) (mc' := 0) (ms' := 0) (As := [.int (nI A), .int (nI B)]) (st := []) lX9_195 vX6_outsAdded rfl (hUs_at nd 1 rfl rfl) rfl (Nat.le_of_ble_eq_true rfl) dX9_mean_53 (Nat.le_of_ble_eq_true rfl) (Nat.le_of_ble_eq_true rfl) (Nat.le_refl _) (c_outsAdded (hHas_sub nd (as' := [b + 1, b + 6]) (cs' := [(oC 6 [.ref (b + 2), .ref (b + 6), .ref (b + 7), .ref (b + 8), .ref qw, .int 1, .int (nI l), .int (nI w), .int rsd, .int (nI c)]), (aB 4096 fo)]) [1, 2] rfl rfl) (by omega) (by omega) ?_)
        refine w_istore (ls2 := [some (.ref b), some (.int (nI A)), some (.int (nI B)), some (.int y), some (.int (fld (fun t s => s + fo t) A (B + 1 - A) 0)), none, none]) dX9_mean_56 (by decide) rfl rfl ?_
        refine w_iload_n dX9_mean_58 rfl ?_
        refine w_iload_n dX9_mean_59 rfl ?_
        refine w_isub dX9_mean_60 ?_
        refine w_iconst (v := 1) dX9_mean_61 (by decide) ?_
        refine w_iadd dX9_mean_62 ?_
        refine w_istore (ls2 := [some (.ref b), some (.int (nI A)), some (.int (nI B)), some (.int y), some (.int (fld (fun t s => s + fo t) A (B + 1 - A) 0)), some (.int (((nI B) - (nI A)) + 1)), none]) dX9_mean_63 (by decide) rfl rfl ?_
        refine w_iload dX9_mean_65 rfl ?_
        refine w_callS (d' := d + 1) (mc' := 0) (ms' := 0) (As := [.int (fld (fun t s => s + fo t) A (B + 1 - A) 0)]) (st := []) lX9_198 vJ9_abs_0f7a4 rfl (Nat.le_of_ble_eq_true rfl) dX9_mean_67 (Nat.le_of_ble_eq_true rfl) (Nat.le_of_ble_eq_true rfl) (Nat.le_refl _) (c_abs ?_)
        refine w_iload dX9_mean_70 rfl ?_
        refine w_callS (d' := d + 1) (mc' := 0) (ms' := 0) (As := [.int (abI (fld (fun t s => s + fo t) A (B + 1 - A) 0)), .int (((nI B) - (nI A)) + 1)]) (st := []) lX9_203 vX9_greatestDivisor rfl (Nat.le_of_ble_eq_true rfl) dX9_mean_72 (Nat.le_of_ble_eq_true rfl) (Nat.le_of_ble_eq_true rfl) (Nat.le_refl _) (c_gd ?_)
        refine w_istore (ls2 := [some (.ref b), some (.int (nI A)), some (.int (nI B)), some (.int y), some (.int (fld (fun t s => s + fo t) A (B + 1 - A) 0)), some (.int (((nI B) - (nI A)) + 1)), some (.int (mxI 1 (gdF 64 (((nI B) - (nI A)) + 1) (abI (fld (fun t s => s + fo t) A (B + 1 - A) 0)))))]) dX9_mean_75 (by decide) rfl rfl ?_
        refine w_aload_n dX9_mean_77 rfl ?_
        refine w_iload_n dX9_mean_78 rfl ?_
        refine w_if_ne (tgt := 87) dX9_mean_79 rfl (fun b79 => ?_) (fun b79 => ?_)
        · refine w_iload dX9_mean_87 rfl ?_
          refine w_iload dX9_mean_89 rfl ?_
          refine w_idiv dX9_mean_91 (mxI1_ne _) ?_
          refine w_callV (ci := 9) (d' := d + 1) (mc' := 0) (ms' := 0) (As := [.int ((((nI B) - (nI A)) + 1) / (mxI 1 (gdF 64 (((nI B) - (nI A)) + 1) (abI (fld (fun t s => s + fo t) A (B + 1 - A) 0)))))]) (st := []) lX9_96 vX9_granted rfl (hUs_at nd 0 rfl rfl) rfl (Nat.le_of_ble_eq_true rfl) dX9_mean_92 (Nat.le_of_ble_eq_true rfl) (Nat.le_of_ble_eq_true rfl) (Nat.le_refl _) (c_granted (hHas_sub nd (as' := [b]) (cs' := [(oC 9 [.ref (b + 1), .ref (b + 14), .ref (b + 17), .ref (b + 19), .ref (b + 25), .ref (b + 29), .ref (b + 33), .ref pp, .int ht, .int (nI tp), .int sd, .int fa, .int pl, .int tr])]) [0] rfl rfl) (nd_sub nd (as' := [b]) [0] rfl rfl)  ?_)
          refine w_heq (hUs_in nd rfl [0] (cs2 := [(oC 9 [.ref (b + 1), .ref (b + 14), .ref (b + 17), .ref (b + 19), .ref (b + 25), .ref (b + 29), .ref (b + 33), .ref pp, .int ht, .int (nI tp), .int sd, .int fa, .int (-1), .int 0]), (oC 6 [.ref (b + 2), .ref (b + 6), .ref (b + 7), .ref (b + 8), .ref qw, .int 1, .int (nI l), .int (nI w), .int rsd, .int (nI c)]), (aB 4096 fo)]) rfl rfl) ?_
          refine w_ireturn rfl dX9_mean_95 (Nat.le_of_ble_eq_true rfl) (Nat.le_of_ble_eq_true rfl) ?_
          have e : oMnF fo c (nI A) (nI B) y = ((((nI B) - (nI A)) + 1) / (mxI 1 (gdF 64 (((nI B) - (nI A)) + 1) (abI (fld (fun t s => s + fo t) A (B + 1 - A) 0)))), 0) := by
            simp [oMnF, hAc, hBc, b11, b16, b36, b79]
          rw [e] at k
          exact k _ (cI_i (cI_put hW (cAs_nd b) rfl [0, 1, 4] (cs2 := [(oC 9 [.ref (b + 1), .ref (b + 14), .ref (b + 17), .ref (b + 19), .ref (b + 25), .ref (b + 29), .ref (b + 33), .ref pp, .int ht, .int (nI tp), .int sd, .int fa, .int (-1), .int 0]), (oC 6 [.ref (b + 2), .ref (b + 6), .ref (b + 7), .ref (b + 8), .ref qw, .int 1, .int (nI l), .int (nI w), .int rsd, .int (nI c)]), (oC 0 [.ref (b + 3), .ref ql, .int cn, .int s.2.1, .int s.2.2]), (aI 3 s.1), (aB 4096 fo), (aI 4096 fg), (aI 3 fz), (aR RX2 2 (imR b)), (oC 2 [.int i01, .int i02, .int i03, .int i04, .int i05, .int i06, .int i07]), (oC 2 [.int i11, .int i12, .int i13, .int i14, .int i15, .int i16, .int i17]), (oC 8 [.ref (b + 18), .int wm]), (aI 94 fw), (oC 1 [.ref (b + 20), .ref (b + 24), .int f.2.2.1.1, .int f.2.2.1.2.1, .int f.2.2.2.1, .int f.2.2.1.2.2.1, .int f.2.2.1.2.2.2.1, .int f.2.2.1.2.2.2.2.1, .int f.2.2.1.2.2.2.2.2]), (oC 0 [.ref (b + 21), .ref q0, .int c0, .int f.1.2.1, .int f.1.2.2]), (aI 3 f.1.1), (aI 3 f.2.1), (oC 0 [.ref (b + 26), .ref q1, .int c1, .int s1.2.1, .int s1.2.2]), (aI 3 s1.1), (oC 0 [.ref (b + 30), .ref q2, .int c2, .int s2.2.1, .int s2.2.2]), (aI 3 s2.1), (oC 5 (rdF (b + 34) ps x)), (aB 600 ft)]) rfl rfl) hpp (hPl_o hP1 (by intro a ha; simp only [List.mem_cons, List.not_mem_nil, or_false] at ha; rcases hpp with hpp | hpp <;> omega)) (hPl_o hP2 (by intro a ha; simp only [List.mem_cons, List.not_mem_nil, or_false] at ha; rcases hpp with hpp | hpp <;> omega)) hR0 hi0 hi1 htp hpo hht) (cFr_of (by intro a ha; simp only [List.mem_cons, List.not_mem_nil, or_false] at ha; omega))
        · refine w_iload dX9_mean_82 rfl ?_
          refine w_goto (tgt := 89) dX9_mean_84 rfl ?_
          refine w_iload dX9_mean_89 rfl ?_
          refine w_idiv dX9_mean_91 (mxI1_ne _) ?_
          refine w_callV (ci := 9) (d' := d + 1) (mc' := 0) (ms' := 0) (As := [.int ((fld (fun t s => s + fo t) A (B + 1 - A) 0) / (mxI 1 (gdF 64 (((nI B) - (nI A)) + 1) (abI (fld (fun t s => s + fo t) A (B + 1 - A) 0)))))]) (st := []) lX9_96 vX9_granted rfl (hUs_at nd 0 rfl rfl) rfl (Nat.le_of_ble_eq_true rfl) dX9_mean_92 (Nat.le_of_ble_eq_true rfl) (Nat.le_of_ble_eq_true rfl) (Nat.le_refl _) (c_granted (hHas_sub nd (as' := [b]) (cs' := [(oC 9 [.ref (b + 1), .ref (b + 14), .ref (b + 17), .ref (b + 19), .ref (b + 25), .ref (b + 29), .ref (b + 33), .ref pp, .int ht, .int (nI tp), .int sd, .int fa, .int pl, .int tr])]) [0] rfl rfl) (nd_sub nd (as' := [b]) [0] rfl rfl)  ?_)
          refine w_heq (hUs_in nd rfl [0] (cs2 := [(oC 9 [.ref (b + 1), .ref (b + 14), .ref (b + 17), .ref (b + 19), .ref (b + 25), .ref (b + 29), .ref (b + 33), .ref pp, .int ht, .int (nI tp), .int sd, .int fa, .int (-1), .int 0]), (oC 6 [.ref (b + 2), .ref (b + 6), .ref (b + 7), .ref (b + 8), .ref qw, .int 1, .int (nI l), .int (nI w), .int rsd, .int (nI c)]), (aB 4096 fo)]) rfl rfl) ?_
          refine w_ireturn rfl dX9_mean_95 (Nat.le_of_ble_eq_true rfl) (Nat.le_of_ble_eq_true rfl) ?_
          have e : oMnF fo c (nI A) (nI B) y = ((fld (fun t s => s + fo t) A (B + 1 - A) 0) / (mxI 1 (gdF 64 (((nI B) - (nI A)) + 1) (abI (fld (fun t s => s + fo t) A (B + 1 - A) 0)))), 0) := by
            simp [oMnF, hAc, hBc, b11, b16, b36, b79]
          rw [e] at k
          exact k _ (cI_i (cI_put hW (cAs_nd b) rfl [0, 1, 4] (cs2 := [(oC 9 [.ref (b + 1), .ref (b + 14), .ref (b + 17), .ref (b + 19), .ref (b + 25), .ref (b + 29), .ref (b + 33), .ref pp, .int ht, .int (nI tp), .int sd, .int fa, .int (-1), .int 0]), (oC 6 [.ref (b + 2), .ref (b + 6), .ref (b + 7), .ref (b + 8), .ref qw, .int 1, .int (nI l), .int (nI w), .int rsd, .int (nI c)]), (oC 0 [.ref (b + 3), .ref ql, .int cn, .int s.2.1, .int s.2.2]), (aI 3 s.1), (aB 4096 fo), (aI 4096 fg), (aI 3 fz), (aR RX2 2 (imR b)), (oC 2 [.int i01, .int i02, .int i03, .int i04, .int i05, .int i06, .int i07]), (oC 2 [.int i11, .int i12, .int i13, .int i14, .int i15, .int i16, .int i17]), (oC 8 [.ref (b + 18), .int wm]), (aI 94 fw), (oC 1 [.ref (b + 20), .ref (b + 24), .int f.2.2.1.1, .int f.2.2.1.2.1, .int f.2.2.2.1, .int f.2.2.1.2.2.1, .int f.2.2.1.2.2.2.1, .int f.2.2.1.2.2.2.2.1, .int f.2.2.1.2.2.2.2.2]), (oC 0 [.ref (b + 21), .ref q0, .int c0, .int f.1.2.1, .int f.1.2.2]), (aI 3 f.1.1), (aI 3 f.2.1), (oC 0 [.ref (b + 26), .ref q1, .int c1, .int s1.2.1, .int s1.2.2]), (aI 3 s1.1), (oC 0 [.ref (b + 30), .ref q2, .int c2, .int s2.2.1, .int s2.2.2]), (aI 3 s2.1), (oC 5 (rdF (b + 34) ps x)), (aB 600 ft)]) rfl rfl) hpp (hPl_o hP1 (by intro a ha; simp only [List.mem_cons, List.not_mem_nil, or_false] at ha; rcases hpp with hpp | hpp <;> omega)) (hPl_o hP2 (by intro a ha; simp only [List.mem_cons, List.not_mem_nil, or_false] at ha; rcases hpp with hpp | hpp <;> omega)) hR0 hi0 hi1 htp hpo hht) (cFr_of (by intro a ha; simp only [List.mem_cons, List.not_mem_nil, or_false] at ha; omega))
      · refine w_aload_n dX9_mean_39 rfl ?_
        refine w_iconst (v := 2) dX9_mean_40 (by decide) ?_
        refine w_ldc nX9_120 dX9_mean_41 ?_
        refine w_callV (ci := 9) (d' := d + 1) (mc' := 0) (ms' := 0) (As := [.int 2, .int (-1000000000)]) (st := []) lX9_75 vX9_refused rfl (hUs_at nd 0 rfl rfl) rfl (Nat.le_of_ble_eq_true rfl) dX9_mean_43 (Nat.le_of_ble_eq_true rfl) (Nat.le_of_ble_eq_true rfl) (Nat.le_refl _) (c_refused (hHas_sub nd (as' := [b]) (cs' := [(oC 9 [.ref (b + 1), .ref (b + 14), .ref (b + 17), .ref (b + 19), .ref (b + 25), .ref (b + 29), .ref (b + 33), .ref pp, .int ht, .int (nI tp), .int sd, .int fa, .int pl, .int tr])]) [0] rfl rfl) (nd_sub nd (as' := [b]) [0] rfl rfl)  ?_)
        refine w_heq (hUs_in nd rfl [0] (cs2 := [(oC 9 [.ref (b + 1), .ref (b + 14), .ref (b + 17), .ref (b + 19), .ref (b + 25), .ref (b + 29), .ref (b + 33), .ref pp, .int ht, .int (nI tp), .int sd, .int fa, .int (-1), .int 2]), (oC 6 [.ref (b + 2), .ref (b + 6), .ref (b + 7), .ref (b + 8), .ref qw, .int 1, .int (nI l), .int (nI w), .int rsd, .int (nI c)]), (aB 4096 fo)]) rfl rfl) ?_
        refine w_ireturn rfl dX9_mean_46 (Nat.le_of_ble_eq_true rfl) (Nat.le_of_ble_eq_true rfl) ?_
        have e : oMnF fo c a u y = ((-1000000000), 2) := by
          simp [oMnF, b11, b16, b36]
        rw [e] at k
        exact k _ (cI_i (cI_put hW (cAs_nd b) rfl [0, 1, 4] (cs2 := [(oC 9 [.ref (b + 1), .ref (b + 14), .ref (b + 17), .ref (b + 19), .ref (b + 25), .ref (b + 29), .ref (b + 33), .ref pp, .int ht, .int (nI tp), .int sd, .int fa, .int (-1), .int 2]), (oC 6 [.ref (b + 2), .ref (b + 6), .ref (b + 7), .ref (b + 8), .ref qw, .int 1, .int (nI l), .int (nI w), .int rsd, .int (nI c)]), (oC 0 [.ref (b + 3), .ref ql, .int cn, .int s.2.1, .int s.2.2]), (aI 3 s.1), (aB 4096 fo), (aI 4096 fg), (aI 3 fz), (aR RX2 2 (imR b)), (oC 2 [.int i01, .int i02, .int i03, .int i04, .int i05, .int i06, .int i07]), (oC 2 [.int i11, .int i12, .int i13, .int i14, .int i15, .int i16, .int i17]), (oC 8 [.ref (b + 18), .int wm]), (aI 94 fw), (oC 1 [.ref (b + 20), .ref (b + 24), .int f.2.2.1.1, .int f.2.2.1.2.1, .int f.2.2.2.1, .int f.2.2.1.2.2.1, .int f.2.2.1.2.2.2.1, .int f.2.2.1.2.2.2.2.1, .int f.2.2.1.2.2.2.2.2]), (oC 0 [.ref (b + 21), .ref q0, .int c0, .int f.1.2.1, .int f.1.2.2]), (aI 3 f.1.1), (aI 3 f.2.1), (oC 0 [.ref (b + 26), .ref q1, .int c1, .int s1.2.1, .int s1.2.2]), (aI 3 s1.1), (oC 0 [.ref (b + 30), .ref q2, .int c2, .int s2.2.1, .int s2.2.2]), (aI 3 s2.1), (oC 5 (rdF (b + 34) ps x)), (aB 600 ft)]) rfl rfl) hpp (hPl_o hP1 (by intro a ha; simp only [List.mem_cons, List.not_mem_nil, or_false] at ha; rcases hpp with hpp | hpp <;> omega)) (hPl_o hP2 (by intro a ha; simp only [List.mem_cons, List.not_mem_nil, or_false] at ha; rcases hpp with hpp | hpp <;> omega)) hR0 hi0 hi1 htp hpo hht) (cFr_of (by intro a ha; simp only [List.mem_cons, List.not_mem_nil, or_false] at ha; omega))
    · refine w_aload_n dX9_mean_19 rfl ?_
      refine w_iconst (v := 1) dX9_mean_20 (by decide) ?_
      refine w_ldc nX9_120 dX9_mean_21 ?_
      refine w_callV (ci := 9) (d' := d + 1) (mc' := 0) (ms' := 0) (As := [.int 1, .int (-1000000000)]) (st := []) lX9_75 vX9_refused rfl (hUs_at nd 0 rfl rfl) rfl (Nat.le_of_ble_eq_true rfl) dX9_mean_23 (Nat.le_of_ble_eq_true rfl) (Nat.le_of_ble_eq_true rfl) (Nat.le_refl _) (c_refused (hHas_sub nd (as' := [b]) (cs' := [(oC 9 [.ref (b + 1), .ref (b + 14), .ref (b + 17), .ref (b + 19), .ref (b + 25), .ref (b + 29), .ref (b + 33), .ref pp, .int ht, .int (nI tp), .int sd, .int fa, .int pl, .int tr])]) [0] rfl rfl) (nd_sub nd (as' := [b]) [0] rfl rfl)  ?_)
      refine w_heq (hUs_in nd rfl [0] (cs2 := [(oC 9 [.ref (b + 1), .ref (b + 14), .ref (b + 17), .ref (b + 19), .ref (b + 25), .ref (b + 29), .ref (b + 33), .ref pp, .int ht, .int (nI tp), .int sd, .int fa, .int (-1), .int 1]), (oC 6 [.ref (b + 2), .ref (b + 6), .ref (b + 7), .ref (b + 8), .ref qw, .int 1, .int (nI l), .int (nI w), .int rsd, .int (nI c)]), (aB 4096 fo)]) rfl rfl) ?_
      refine w_ireturn rfl dX9_mean_26 (Nat.le_of_ble_eq_true rfl) (Nat.le_of_ble_eq_true rfl) ?_
      have e : oMnF fo c a u y = ((-1000000000), 1) := by
        simp [oMnF, b11, b16]
      rw [e] at k
      exact k _ (cI_i (cI_put hW (cAs_nd b) rfl [0, 1, 4] (cs2 := [(oC 9 [.ref (b + 1), .ref (b + 14), .ref (b + 17), .ref (b + 19), .ref (b + 25), .ref (b + 29), .ref (b + 33), .ref pp, .int ht, .int (nI tp), .int sd, .int fa, .int (-1), .int 1]), (oC 6 [.ref (b + 2), .ref (b + 6), .ref (b + 7), .ref (b + 8), .ref qw, .int 1, .int (nI l), .int (nI w), .int rsd, .int (nI c)]), (oC 0 [.ref (b + 3), .ref ql, .int cn, .int s.2.1, .int s.2.2]), (aI 3 s.1), (aB 4096 fo), (aI 4096 fg), (aI 3 fz), (aR RX2 2 (imR b)), (oC 2 [.int i01, .int i02, .int i03, .int i04, .int i05, .int i06, .int i07]), (oC 2 [.int i11, .int i12, .int i13, .int i14, .int i15, .int i16, .int i17]), (oC 8 [.ref (b + 18), .int wm]), (aI 94 fw), (oC 1 [.ref (b + 20), .ref (b + 24), .int f.2.2.1.1, .int f.2.2.1.2.1, .int f.2.2.2.1, .int f.2.2.1.2.2.1, .int f.2.2.1.2.2.2.1, .int f.2.2.1.2.2.2.2.1, .int f.2.2.1.2.2.2.2.2]), (oC 0 [.ref (b + 21), .ref q0, .int c0, .int f.1.2.1, .int f.1.2.2]), (aI 3 f.1.1), (aI 3 f.2.1), (oC 0 [.ref (b + 26), .ref q1, .int c1, .int s1.2.1, .int s1.2.2]), (aI 3 s1.1), (oC 0 [.ref (b + 30), .ref q2, .int c2, .int s2.2.1, .int s2.2.2]), (aI 3 s2.1), (oC 5 (rdF (b + 34) ps x)), (aB 600 ft)]) rfl rfl) hpp (hPl_o hP1 (by intro a ha; simp only [List.mem_cons, List.not_mem_nil, or_false] at ha; rcases hpp with hpp | hpp <;> omega)) (hPl_o hP2 (by intro a ha; simp only [List.mem_cons, List.not_mem_nil, or_false] at ha; rcases hpp with hpp | hpp <;> omega)) hR0 hi0 hi1 htp hpo hht) (cFr_of (by intro a ha; simp only [List.mem_cons, List.not_mem_nil, or_false] at ha; omega))
theorem p_mean {G : wG} {d : Nat} {h : hH} {Q : Option Value → hH → Prop} {b : Nat} {ft : Nat → Int32} {tp : Nat} {P : pD} {ht : Int32} {R : Option rnD} {i0 i1 : imD} {sd fa pl tr : Int32}  {a u y : Int32} (hI : cI h b ft tp P ht R i0 i1 sd fa pl tr) (k : ∀ h2, cI h2 b ft tp P ht R i0 i1 sd fa (-1) (oMn P R a u y).2 → cFr b h h2 → Q (some (.int (oMn P R a u y).1)) h2) : Cl G yX9_mean (d + 2) 0 0 [.ref b, .int a, .int u, .int y] h Q := by
  cases R with
  | none => exact p_mean_n hI k
  | some r => obtain ⟨l, w, rs, cc⟩ := r; exact p_mean_s hI k
def oSumF (F : Nat → Int32) (c : Nat) (m y : Int32) : Int32 × Int32 := if smB m y = 0 then (-1, 2) else (nI (smN (tN m) (tN y) c), 0)
theorem oSumF_c {f g : Nat → Int32} {c : Nat} (h : ∀ t, t < c → f t = g t) (hc : c ≤ 4096) (m y : Int32) : oSumF f c m y = oSumF g c m y := by
  rfl
def oSum (P : pD) (R : Option rnD) (m y : Int32) : Int32 × Int32 := match R with
  | none => (-1, 1)
  | some r => oSumF (rO (rQo P r.1 r.2.1 r.2.2.1)) r.2.2.2 m y
set_option maxRecDepth 100000 in
set_option maxHeartbeats 4000000 in
theorem p_summed_n {G : wG} {d : Nat} {h : hH} {Q : Option Value → hH → Prop} {b : Nat} {ft : Nat → Int32} {tp : Nat} {P : pD} {ht : Int32} {i0 i1 : imD} {sd fa pl tr : Int32}  {m y : Int32} (hI : cI h b ft tp P ht none i0 i1 sd fa pl tr)  (k : ∀ h2, cI h2 b ft tp P ht none i0 i1 sd fa (-1) (oSum P none m y).2 → cFr b h h2 → Q (some (.int (oSum P none m y).1)) h2) : Cl G yX9_summed (d + 1) 0 0 [.ref b, .int m, .int y] h Q := by
  refine cI_e hI ?_
  intro pp ps P2 go ln wn rsd c qw ql cn s fo fg fz i01 i02 i03 i04 i05 i06 i07 i11 i12 i13 i14 i15 i16 i17 wm fw f q0 c0 s1 q1 c1 s2 q2 c2 x hW hpp hP1 hP2 hR hi0 hi1 htp hpo hht
  have hgo : go = 0 := hR
  subst hgo
  have hw : hHas h [b, b + 1] [(oC 9 [.ref (b + 1), .ref (b + 14), .ref (b + 17), .ref (b + 19), .ref (b + 25), .ref (b + 29), .ref (b + 33), .ref pp, .int ht, .int (nI tp), .int sd, .int fa, .int pl, .int tr]), (oC 6 [.ref (b + 2), .ref (b + 6), .ref (b + 7), .ref (b + 8), .ref qw, .int 0, .int ln, .int wn, .int rsd, .int (nI c)])] := hHas_s hW [0, 1] rfl rfl
  have nd : [b, b + 1].Nodup := (nd_inc ⟨by omega, trivial⟩)
  refine Cl.of (ini := false) kX9_summed (plainFor_of_name (by decide)) (by decide) (Nat.le_of_ble_eq_true rfl) rfl rfl (fun z => by cases z) ?_
  refine w_heq (hUs_id hw).symm ?_
  refine w_aload_n dX9_summed_0 rfl ?_
  refine w_get (v := .ref (b + 1)) fX9_10 (hUs_at nd 0 rfl rfl) rfl dX9_summed_1 ?_
  refine w_get (v := .int 0) fX9_139 (hUs_at nd 1 rfl rfl) rfl dX9_summed_4 ?_
  refine w_if_ne_f (tgt := 17) dX9_summed_7 rfl (by decide) ?_
  refine w_aload_n dX9_summed_10 rfl ?_
  refine w_iconst (v := 1) dX9_summed_11 (by decide) ?_
  refine w_iconst (v := (-1)) dX9_summed_12 (by decide) ?_
  refine w_callV (ci := 9) (d' := d) (mc' := 0) (ms' := 0) (As := [.int 1, .int (-1)]) (st := []) lX9_75 vX9_refused rfl (hUs_at nd 0 rfl rfl) rfl (Nat.le_of_ble_eq_true rfl) dX9_summed_13 (Nat.le_of_ble_eq_true rfl) (Nat.le_of_ble_eq_true rfl) (Nat.le_refl _) (c_refused (hHas_sub nd (as' := [b]) (cs' := [(oC 9 [.ref (b + 1), .ref (b + 14), .ref (b + 17), .ref (b + 19), .ref (b + 25), .ref (b + 29), .ref (b + 33), .ref pp, .int ht, .int (nI tp), .int sd, .int fa, .int pl, .int tr])]) [0] rfl rfl) (nd_sub nd (as' := [b]) [0] rfl rfl)  ?_)
  refine w_heq (hUs_in nd rfl [0] (cs2 := [(oC 9 [.ref (b + 1), .ref (b + 14), .ref (b + 17), .ref (b + 19), .ref (b + 25), .ref (b + 29), .ref (b + 33), .ref pp, .int ht, .int (nI tp), .int sd, .int fa, .int (-1), .int 1]), (oC 6 [.ref (b + 2), .ref (b + 6), .ref (b + 7), .ref (b + 8), .ref qw, .int 0, .int ln, .int wn, .int rsd, .int (nI c)])]) rfl rfl) ?_
  refine w_ireturn rfl dX9_summed_16 (Nat.le_of_ble_eq_true rfl) (Nat.le_of_ble_eq_true rfl) ?_
  have e : oSum P none m y = ((-1), 1) := by
    simp [oSum]
  rw [e] at k
  exact k _ (cI_i (cI_put hW (cAs_nd b) rfl [0, 1] (cs2 := [(oC 9 [.ref (b + 1), .ref (b + 14), .ref (b + 17), .ref (b + 19), .ref (b + 25), .ref (b + 29), .ref (b + 33), .ref pp, .int ht, .int (nI tp), .int sd, .int fa, .int (-1), .int 1]), (oC 6 [.ref (b + 2), .ref (b + 6), .ref (b + 7), .ref (b + 8), .ref qw, .int 0, .int ln, .int wn, .int rsd, .int (nI c)]), (oC 0 [.ref (b + 3), .ref ql, .int cn, .int s.2.1, .int s.2.2]), (aI 3 s.1), (aB 4096 fo), (aI 4096 fg), (aI 3 fz), (aR RX2 2 (imR b)), (oC 2 [.int i01, .int i02, .int i03, .int i04, .int i05, .int i06, .int i07]), (oC 2 [.int i11, .int i12, .int i13, .int i14, .int i15, .int i16, .int i17]), (oC 8 [.ref (b + 18), .int wm]), (aI 94 fw), (oC 1 [.ref (b + 20), .ref (b + 24), .int f.2.2.1.1, .int f.2.2.1.2.1, .int f.2.2.2.1, .int f.2.2.1.2.2.1, .int f.2.2.1.2.2.2.1, .int f.2.2.1.2.2.2.2.1, .int f.2.2.1.2.2.2.2.2]), (oC 0 [.ref (b + 21), .ref q0, .int c0, .int f.1.2.1, .int f.1.2.2]), (aI 3 f.1.1), (aI 3 f.2.1), (oC 0 [.ref (b + 26), .ref q1, .int c1, .int s1.2.1, .int s1.2.2]), (aI 3 s1.1), (oC 0 [.ref (b + 30), .ref q2, .int c2, .int s2.2.1, .int s2.2.2]), (aI 3 s2.1), (oC 5 (rdF (b + 34) ps x)), (aB 600 ft)]) rfl rfl) hpp (hPl_o hP1 (by intro a ha; simp only [List.mem_cons, List.not_mem_nil, or_false] at ha; rcases hpp with hpp | hpp <;> omega)) (hPl_o hP2 (by intro a ha; simp only [List.mem_cons, List.not_mem_nil, or_false] at ha; rcases hpp with hpp | hpp <;> omega)) hR hi0 hi1 htp hpo hht) (cFr_of (by intro a ha; simp only [List.mem_cons, List.not_mem_nil, or_false] at ha; omega))
set_option maxRecDepth 100000 in
set_option maxHeartbeats 4000000 in
theorem p_summed_s {G : wG} {d : Nat} {h : hH} {Q : Option Value → hH → Prop} {b : Nat} {ft : Nat → Int32} {tp : Nat} {P : pD} {ht : Int32} {i0 i1 : imD} {sd fa pl tr : Int32}  {l w cc : Nat} {rs : Int32} {m y : Int32} (hI : cI h b ft tp P ht (some (l, w, rs, cc)) i0 i1 sd fa pl tr)  (k : ∀ h2, cI h2 b ft tp P ht (some (l, w, rs, cc)) i0 i1 sd fa (-1) (oSum P (some (l, w, rs, cc)) m y).2 → cFr b h h2 → Q (some (.int (oSum P (some (l, w, rs, cc)) m y).1)) h2) : Cl G yX9_summed (d + 1) 0 0 [.ref b, .int m, .int y] h Q := by
  refine cI_e hI ?_
  intro pp ps P2 go ln wn rsd c qw ql cn s fo fg fz i01 i02 i03 i04 i05 i06 i07 i11 i12 i13 i14 i15 i16 i17 wm fw f q0 c0 s1 q1 c1 s2 q2 c2 x hW hpp hP1 hP2 hR hi0 hi1 htp hpo hht
  have hR0 := hR
  simp only [rIv] at hR
  obtain ⟨hrn, hgo, hln, hwn, hrs, hcc, hqw, hql, hcn, hs, hfo, hfg, hfz⟩ := hR
  subst hgo; subst hln; subst hwn; subst hrs; subst hcc
  have hc : c ≤ 4096 := hrn.2.2
  rw [show oSum P (some (l, w, rsd, c)) m y = oSumF fo c m y from (oSumF_c hfo hc m y).symm] at k
  
  have hw : hHas h [b, b + 1] [(oC 9 [.ref (b + 1), .ref (b + 14), .ref (b + 17), .ref (b + 19), .ref (b + 25), .ref (b + 29), .ref (b + 33), .ref pp, .int ht, .int (nI tp), .int sd, .int fa, .int pl, .int tr]), (oC 6 [.ref (b + 2), .ref (b + 6), .ref (b + 7), .ref (b + 8), .ref qw, .int 1, .int (nI l), .int (nI w), .int rsd, .int (nI c)])] := hHas_s hW [0, 1] rfl rfl
  have nd : [b, b + 1].Nodup := (nd_inc ⟨by omega, trivial⟩)
  refine Cl.of (ini := false) kX9_summed (plainFor_of_name (by decide)) (by decide) (Nat.le_of_ble_eq_true rfl) rfl rfl (fun z => by cases z) ?_
  refine w_heq (hUs_id hw).symm ?_
  refine w_aload_n dX9_summed_0 rfl ?_
  refine w_get (v := .ref (b + 1)) fX9_10 (hUs_at nd 0 rfl rfl) rfl dX9_summed_1 ?_
  refine w_get (v := .int 1) fX9_139 (hUs_at nd 1 rfl rfl) rfl dX9_summed_4 ?_
  refine w_if_ne_t (tgt := 17) dX9_summed_7 rfl (by decide) ?_
  refine w_iload_n dX9_summed_17 rfl ?_
  refine w_iload_n dX9_summed_18 rfl ?_
  refine w_callS (d' := d) (mc' := 0) (ms' := 0) (As := [.int m, .int y]) (st := []) lX9_209 vX9_isSumming rfl (Nat.le_of_ble_eq_true rfl) dX9_summed_19 (Nat.le_of_ble_eq_true rfl) (Nat.le_of_ble_eq_true rfl) (Nat.le_refl _) (c_isSumming ?_)
  refine w_if_ne (tgt := 32) dX9_summed_22 rfl (fun b22 => ?_) (fun b22 => ?_)
  · obtain ⟨M, Y, hM, hY, hY2, rfl, rfl⟩ := smB_n b22
    have hMc := nI_clamp (show M < 2 ^ 31 by omega)
    have hYc := nI_clamp (show Y < 2 ^ 31 by omega)
    refine w_aload_n dX9_summed_32 rfl ?_
    refine w_aload_n dX9_summed_33 rfl ?_
    refine w_get (v := .ref (b + 1)) fX9_10 (hUs_at nd 0 rfl rfl) rfl dX9_summed_34 ?_
    refine w_iload_n dX9_summed_37 rfl ?_
    refine w_iload_n dX9_summed_38 rfl ?_
    refine w_callV (ci := 6) (d' := d) (mc' := 0) (ms' := 0) (As := [.int (nI M), .int (nI Y)]) (st := [.ref b]) lX9_212 vX6_summedMany rfl (hUs_at nd 1 rfl rfl) rfl (Nat.le_of_ble_eq_true rfl) dX9_summed_39 (Nat.le_of_ble_eq_true rfl) (Nat.le_of_ble_eq_true rfl) (Nat.le_refl _) (c_summedMany (hHas_sub nd (as' := [b + 1]) (cs' := [(oC 6 [.ref (b + 2), .ref (b + 6), .ref (b + 7), .ref (b + 8), .ref qw, .int 1, .int (nI l), .int (nI w), .int rsd, .int (nI c)])]) [1] rfl rfl) (by omega) (by omega) (by omega) hc ?_)
    refine w_callV (ci := 9) (d' := d) (mc' := 0) (ms' := 0) (As := [.int (nI (smN M Y c))]) (st := []) lX9_96 vX9_granted rfl (hUs_at nd 0 rfl rfl) rfl (Nat.le_of_ble_eq_true rfl) dX9_summed_42 (Nat.le_of_ble_eq_true rfl) (Nat.le_of_ble_eq_true rfl) (Nat.le_refl _) (c_granted (hHas_sub nd (as' := [b]) (cs' := [(oC 9 [.ref (b + 1), .ref (b + 14), .ref (b + 17), .ref (b + 19), .ref (b + 25), .ref (b + 29), .ref (b + 33), .ref pp, .int ht, .int (nI tp), .int sd, .int fa, .int pl, .int tr])]) [0] rfl rfl) (nd_sub nd (as' := [b]) [0] rfl rfl)  ?_)
    refine w_heq (hUs_in nd rfl [0] (cs2 := [(oC 9 [.ref (b + 1), .ref (b + 14), .ref (b + 17), .ref (b + 19), .ref (b + 25), .ref (b + 29), .ref (b + 33), .ref pp, .int ht, .int (nI tp), .int sd, .int fa, .int (-1), .int 0]), (oC 6 [.ref (b + 2), .ref (b + 6), .ref (b + 7), .ref (b + 8), .ref qw, .int 1, .int (nI l), .int (nI w), .int rsd, .int (nI c)])]) rfl rfl) ?_
    refine w_ireturn rfl dX9_summed_45 (Nat.le_of_ble_eq_true rfl) (Nat.le_of_ble_eq_true rfl) ?_
    have e : oSumF fo c (nI M) (nI Y) = (nI (smN M Y c), 0) := by
      simp [oSumF, hMc, hYc, b22]
    rw [e] at k
    exact k _ (cI_i (cI_put hW (cAs_nd b) rfl [0, 1] (cs2 := [(oC 9 [.ref (b + 1), .ref (b + 14), .ref (b + 17), .ref (b + 19), .ref (b + 25), .ref (b + 29), .ref (b + 33), .ref pp, .int ht, .int (nI tp), .int sd, .int fa, .int (-1), .int 0]), (oC 6 [.ref (b + 2), .ref (b + 6), .ref (b + 7), .ref (b + 8), .ref qw, .int 1, .int (nI l), .int (nI w), .int rsd, .int (nI c)]), (oC 0 [.ref (b + 3), .ref ql, .int cn, .int s.2.1, .int s.2.2]), (aI 3 s.1), (aB 4096 fo), (aI 4096 fg), (aI 3 fz), (aR RX2 2 (imR b)), (oC 2 [.int i01, .int i02, .int i03, .int i04, .int i05, .int i06, .int i07]), (oC 2 [.int i11, .int i12, .int i13, .int i14, .int i15, .int i16, .int i17]), (oC 8 [.ref (b + 18), .int wm]), (aI 94 fw), (oC 1 [.ref (b + 20), .ref (b + 24), .int f.2.2.1.1, .int f.2.2.1.2.1, .int f.2.2.2.1, .int f.2.2.1.2.2.1, .int f.2.2.1.2.2.2.1, .int f.2.2.1.2.2.2.2.1, .int f.2.2.1.2.2.2.2.2]), (oC 0 [.ref (b + 21), .ref q0, .int c0, .int f.1.2.1, .int f.1.2.2]), (aI 3 f.1.1), (aI 3 f.2.1), (oC 0 [.ref (b + 26), .ref q1, .int c1, .int s1.2.1, .int s1.2.2]), (aI 3 s1.1), (oC 0 [.ref (b + 30), .ref q2, .int c2, .int s2.2.1, .int s2.2.2]), (aI 3 s2.1), (oC 5 (rdF (b + 34) ps x)), (aB 600 ft)]) rfl rfl) hpp (hPl_o hP1 (by intro a ha; simp only [List.mem_cons, List.not_mem_nil, or_false] at ha; rcases hpp with hpp | hpp <;> omega)) (hPl_o hP2 (by intro a ha; simp only [List.mem_cons, List.not_mem_nil, or_false] at ha; rcases hpp with hpp | hpp <;> omega)) hR0 hi0 hi1 htp hpo hht) (cFr_of (by intro a ha; simp only [List.mem_cons, List.not_mem_nil, or_false] at ha; omega))
  · refine w_aload_n dX9_summed_25 rfl ?_
    refine w_iconst (v := 2) dX9_summed_26 (by decide) ?_
    refine w_iconst (v := (-1)) dX9_summed_27 (by decide) ?_
    refine w_callV (ci := 9) (d' := d) (mc' := 0) (ms' := 0) (As := [.int 2, .int (-1)]) (st := []) lX9_75 vX9_refused rfl (hUs_at nd 0 rfl rfl) rfl (Nat.le_of_ble_eq_true rfl) dX9_summed_28 (Nat.le_of_ble_eq_true rfl) (Nat.le_of_ble_eq_true rfl) (Nat.le_refl _) (c_refused (hHas_sub nd (as' := [b]) (cs' := [(oC 9 [.ref (b + 1), .ref (b + 14), .ref (b + 17), .ref (b + 19), .ref (b + 25), .ref (b + 29), .ref (b + 33), .ref pp, .int ht, .int (nI tp), .int sd, .int fa, .int pl, .int tr])]) [0] rfl rfl) (nd_sub nd (as' := [b]) [0] rfl rfl)  ?_)
    refine w_heq (hUs_in nd rfl [0] (cs2 := [(oC 9 [.ref (b + 1), .ref (b + 14), .ref (b + 17), .ref (b + 19), .ref (b + 25), .ref (b + 29), .ref (b + 33), .ref pp, .int ht, .int (nI tp), .int sd, .int fa, .int (-1), .int 2]), (oC 6 [.ref (b + 2), .ref (b + 6), .ref (b + 7), .ref (b + 8), .ref qw, .int 1, .int (nI l), .int (nI w), .int rsd, .int (nI c)])]) rfl rfl) ?_
    refine w_ireturn rfl dX9_summed_31 (Nat.le_of_ble_eq_true rfl) (Nat.le_of_ble_eq_true rfl) ?_
    have e : oSumF fo c m y = ((-1), 2) := by
      simp [oSumF, b22]
    rw [e] at k
    exact k _ (cI_i (cI_put hW (cAs_nd b) rfl [0, 1] (cs2 := [(oC 9 [.ref (b + 1), .ref (b + 14), .ref (b + 17), .ref (b + 19), .ref (b + 25), .ref (b + 29), .ref (b + 33), .ref pp, .int ht, .int (nI tp), .int sd, .int fa, .int (-1), .int 2]), (oC 6 [.ref (b + 2), .ref (b + 6), .ref (b + 7), .ref (b + 8), .ref qw, .int 1, .int (nI l), .int (nI w), .int rsd, .int (nI c)]), (oC 0 [.ref (b + 3), .ref ql, .int cn, .int s.2.1, .int s.2.2]), (aI 3 s.1), (aB 4096 fo), (aI 4096 fg), (aI 3 fz), (aR RX2 2 (imR b)), (oC 2 [.int i01, .int i02, .int i03, .int i04, .int i05, .int i06, .int i07]), (oC 2 [.int i11, .int i12, .int i13, .int i14, .int i15, .int i16, .int i17]), (oC 8 [.ref (b + 18), .int wm]), (aI 94 fw), (oC 1 [.ref (b + 20), .ref (b + 24), .int f.2.2.1.1, .int f.2.2.1.2.1, .int f.2.2.2.1, .int f.2.2.1.2.2.1, .int f.2.2.1.2.2.2.1, .int f.2.2.1.2.2.2.2.1, .int f.2.2.1.2.2.2.2.2]), (oC 0 [.ref (b + 21), .ref q0, .int c0, .int f.1.2.1, .int f.1.2.2]), (aI 3 f.1.1), (aI 3 f.2.1), (oC 0 [.ref (b + 26), .ref q1, .int c1, .int s1.2.1, .int s1.2.2]), (aI 3 s1.1), (oC 0 [.ref (b + 30), .ref q2, .int c2, .int s2.2.1, .int s2.2.2]), (aI 3 s2.1), (oC 5 (rdF (b + 34) ps x)), (aB 600 ft)]) rfl rfl) hpp (hPl_o hP1 (by intro a ha; simp only [List.mem_cons, List.not_mem_nil, or_false] at ha; rcases hpp with hpp | hpp <;> omega)) (hPl_o hP2 (by intro a ha; simp only [List.mem_cons, List.not_mem_nil, or_false] at ha; rcases hpp with hpp | hpp <;> omega)) hR0 hi0 hi1 htp hpo hht) (cFr_of (by intro a ha; simp only [List.mem_cons, List.not_mem_nil, or_false] at ha; omega))
theorem p_summed {G : wG} {d : Nat} {h : hH} {Q : Option Value → hH → Prop} {b : Nat} {ft : Nat → Int32} {tp : Nat} {P : pD} {ht : Int32} {R : Option rnD} {i0 i1 : imD} {sd fa pl tr : Int32}  {m y : Int32} (hI : cI h b ft tp P ht R i0 i1 sd fa pl tr) (k : ∀ h2, cI h2 b ft tp P ht R i0 i1 sd fa (-1) (oSum P R m y).2 → cFr b h h2 → Q (some (.int (oSum P R m y).1)) h2) : Cl G yX9_summed (d + 1) 0 0 [.ref b, .int m, .int y] h Q := by
  cases R with
  | none => exact p_summed_n hI k
  | some r => obtain ⟨l, w, rs, cc⟩ := r; exact p_summed_s hI k
def oOctF (F : Nat → Int32) (c : Nat) (y : Int32) : Int32 × Int32 := if y < 0 ∨ nI (c / 8) ≤ y then (-1, 2) else (fld (fun t s => s * 2 + (if F t = 1 then 1 else 0)) (8 * tN y) 8 0, 0)
theorem oOctF_c {f g : Nat → Int32} {c : Nat} (h : ∀ t, t < c → f t = g t) (hc : c ≤ 4096) (y : Int32) : oOctF f c y = oOctF g c y := by
  unfold oOctF
  by_cases e : y < 0 ∨ nI (c / 8) ≤ y
  · rw [if_pos e, if_pos e]
  · rw [if_neg e, if_neg e]
    obtain ⟨w9, hw9, rfl⟩ := in3 (fun z => e (Or.inl z)) (Int32.not_le.mp (fun z => e (Or.inr z))) (show c / 8 < 2 ^ 31 by omega)
    have hwc : tN (nI w9) = w9 := nI_clamp (by omega)
    rw [hwc, fld_c (g := fun t s => s * 2 + (if g t = 1 then 1 else 0)) (8 * w9) _ _ (fun t h1 h2 => by funext s; rw [h t (by omega)])]
def oOct (P : pD) (R : Option rnD) (y : Int32) : Int32 × Int32 := match R with
  | none => (-1, 1)
  | some r => oOctF (rO (rQo P r.1 r.2.1 r.2.2.1)) r.2.2.2 y
set_option maxRecDepth 100000 in
set_option maxHeartbeats 4000000 in
theorem p_octet_n {G : wG} {d : Nat} {h : hH} {Q : Option Value → hH → Prop} {b : Nat} {ft : Nat → Int32} {tp : Nat} {P : pD} {ht : Int32} {i0 i1 : imD} {sd fa pl tr : Int32}  {y : Int32} (hI : cI h b ft tp P ht none i0 i1 sd fa pl tr)  (k : ∀ h2, cI h2 b ft tp P ht none i0 i1 sd fa (-1) (oOct P none y).2 → cFr b h h2 → Q (some (.int (oOct P none y).1)) h2) : Cl G yX9_octet (d + 1) 0 0 [.ref b, .int y] h Q := by
  refine cI_e hI ?_
  intro pp ps P2 go ln wn rsd c qw ql cn s fo fg fz i01 i02 i03 i04 i05 i06 i07 i11 i12 i13 i14 i15 i16 i17 wm fw f q0 c0 s1 q1 c1 s2 q2 c2 x hW hpp hP1 hP2 hR hi0 hi1 htp hpo hht
  have hgo : go = 0 := hR
  subst hgo
  have hw : hHas h [b, b + 1] [(oC 9 [.ref (b + 1), .ref (b + 14), .ref (b + 17), .ref (b + 19), .ref (b + 25), .ref (b + 29), .ref (b + 33), .ref pp, .int ht, .int (nI tp), .int sd, .int fa, .int pl, .int tr]), (oC 6 [.ref (b + 2), .ref (b + 6), .ref (b + 7), .ref (b + 8), .ref qw, .int 0, .int ln, .int wn, .int rsd, .int (nI c)])] := hHas_s hW [0, 1] rfl rfl
  have nd : [b, b + 1].Nodup := (nd_inc ⟨by omega, trivial⟩)
  refine Cl.of (ini := false) kX9_octet (plainFor_of_name (by decide)) (by decide) (Nat.le_of_ble_eq_true rfl) rfl rfl (fun z => by cases z) ?_
  refine w_heq (hUs_id hw).symm ?_
  refine w_aload_n dX9_octet_0 rfl ?_
  refine w_get (v := .ref (b + 1)) fX9_10 (hUs_at nd 0 rfl rfl) rfl dX9_octet_1 ?_
  refine w_get (v := .int 0) fX9_139 (hUs_at nd 1 rfl rfl) rfl dX9_octet_4 ?_
  refine w_if_ne_f (tgt := 17) dX9_octet_7 rfl (by decide) ?_
  refine w_aload_n dX9_octet_10 rfl ?_
  refine w_iconst (v := 1) dX9_octet_11 (by decide) ?_
  refine w_iconst (v := (-1)) dX9_octet_12 (by decide) ?_
  refine w_callV (ci := 9) (d' := d) (mc' := 0) (ms' := 0) (As := [.int 1, .int (-1)]) (st := []) lX9_75 vX9_refused rfl (hUs_at nd 0 rfl rfl) rfl (Nat.le_of_ble_eq_true rfl) dX9_octet_13 (Nat.le_of_ble_eq_true rfl) (Nat.le_of_ble_eq_true rfl) (Nat.le_refl _) (c_refused (hHas_sub nd (as' := [b]) (cs' := [(oC 9 [.ref (b + 1), .ref (b + 14), .ref (b + 17), .ref (b + 19), .ref (b + 25), .ref (b + 29), .ref (b + 33), .ref pp, .int ht, .int (nI tp), .int sd, .int fa, .int pl, .int tr])]) [0] rfl rfl) (nd_sub nd (as' := [b]) [0] rfl rfl)  ?_)
  refine w_heq (hUs_in nd rfl [0] (cs2 := [(oC 9 [.ref (b + 1), .ref (b + 14), .ref (b + 17), .ref (b + 19), .ref (b + 25), .ref (b + 29), .ref (b + 33), .ref pp, .int ht, .int (nI tp), .int sd, .int fa, .int (-1), .int 1]), (oC 6 [.ref (b + 2), .ref (b + 6), .ref (b + 7), .ref (b + 8), .ref qw, .int 0, .int ln, .int wn, .int rsd, .int (nI c)])]) rfl rfl) ?_
  refine w_ireturn rfl dX9_octet_16 (Nat.le_of_ble_eq_true rfl) (Nat.le_of_ble_eq_true rfl) ?_
  have e : oOct P none y = ((-1), 1) := by
    simp [oOct]
  rw [e] at k
  exact k _ (cI_i (cI_put hW (cAs_nd b) rfl [0, 1] (cs2 := [(oC 9 [.ref (b + 1), .ref (b + 14), .ref (b + 17), .ref (b + 19), .ref (b + 25), .ref (b + 29), .ref (b + 33), .ref pp, .int ht, .int (nI tp), .int sd, .int fa, .int (-1), .int 1]), (oC 6 [.ref (b + 2), .ref (b + 6), .ref (b + 7), .ref (b + 8), .ref qw, .int 0, .int ln, .int wn, .int rsd, .int (nI c)]), (oC 0 [.ref (b + 3), .ref ql, .int cn, .int s.2.1, .int s.2.2]), (aI 3 s.1), (aB 4096 fo), (aI 4096 fg), (aI 3 fz), (aR RX2 2 (imR b)), (oC 2 [.int i01, .int i02, .int i03, .int i04, .int i05, .int i06, .int i07]), (oC 2 [.int i11, .int i12, .int i13, .int i14, .int i15, .int i16, .int i17]), (oC 8 [.ref (b + 18), .int wm]), (aI 94 fw), (oC 1 [.ref (b + 20), .ref (b + 24), .int f.2.2.1.1, .int f.2.2.1.2.1, .int f.2.2.2.1, .int f.2.2.1.2.2.1, .int f.2.2.1.2.2.2.1, .int f.2.2.1.2.2.2.2.1, .int f.2.2.1.2.2.2.2.2]), (oC 0 [.ref (b + 21), .ref q0, .int c0, .int f.1.2.1, .int f.1.2.2]), (aI 3 f.1.1), (aI 3 f.2.1), (oC 0 [.ref (b + 26), .ref q1, .int c1, .int s1.2.1, .int s1.2.2]), (aI 3 s1.1), (oC 0 [.ref (b + 30), .ref q2, .int c2, .int s2.2.1, .int s2.2.2]), (aI 3 s2.1), (oC 5 (rdF (b + 34) ps x)), (aB 600 ft)]) rfl rfl) hpp (hPl_o hP1 (by intro a ha; simp only [List.mem_cons, List.not_mem_nil, or_false] at ha; rcases hpp with hpp | hpp <;> omega)) (hPl_o hP2 (by intro a ha; simp only [List.mem_cons, List.not_mem_nil, or_false] at ha; rcases hpp with hpp | hpp <;> omega)) hR hi0 hi1 htp hpo hht) (cFr_of (by intro a ha; simp only [List.mem_cons, List.not_mem_nil, or_false] at ha; omega))
set_option maxRecDepth 100000 in
set_option maxHeartbeats 4000000 in
theorem p_octet_s {G : wG} {d : Nat} {h : hH} {Q : Option Value → hH → Prop} {b : Nat} {ft : Nat → Int32} {tp : Nat} {P : pD} {ht : Int32} {i0 i1 : imD} {sd fa pl tr : Int32}  {l w cc : Nat} {rs : Int32} {y : Int32} (hI : cI h b ft tp P ht (some (l, w, rs, cc)) i0 i1 sd fa pl tr)  (k : ∀ h2, cI h2 b ft tp P ht (some (l, w, rs, cc)) i0 i1 sd fa (-1) (oOct P (some (l, w, rs, cc)) y).2 → cFr b h h2 → Q (some (.int (oOct P (some (l, w, rs, cc)) y).1)) h2) : Cl G yX9_octet (d + 1) 0 0 [.ref b, .int y] h Q := by
  refine cI_e hI ?_
  intro pp ps P2 go ln wn rsd c qw ql cn s fo fg fz i01 i02 i03 i04 i05 i06 i07 i11 i12 i13 i14 i15 i16 i17 wm fw f q0 c0 s1 q1 c1 s2 q2 c2 x hW hpp hP1 hP2 hR hi0 hi1 htp hpo hht
  have hR0 := hR
  simp only [rIv] at hR
  obtain ⟨hrn, hgo, hln, hwn, hrs, hcc, hqw, hql, hcn, hs, hfo, hfg, hfz⟩ := hR
  subst hgo; subst hln; subst hwn; subst hrs; subst hcc
  have hc : c ≤ 4096 := hrn.2.2
  rw [show oOct P (some (l, w, rsd, c)) y = oOctF fo c y from (oOctF_c hfo hc y).symm] at k
  
  have hw : hHas h [b, b + 1, b + 6] [(oC 9 [.ref (b + 1), .ref (b + 14), .ref (b + 17), .ref (b + 19), .ref (b + 25), .ref (b + 29), .ref (b + 33), .ref pp, .int ht, .int (nI tp), .int sd, .int fa, .int pl, .int tr]), (oC 6 [.ref (b + 2), .ref (b + 6), .ref (b + 7), .ref (b + 8), .ref qw, .int 1, .int (nI l), .int (nI w), .int rsd, .int (nI c)]), (aB 4096 fo)] := hHas_s hW [0, 1, 4] rfl rfl
  have nd : [b, b + 1, b + 6].Nodup := (nd_inc ⟨by omega, by omega, trivial⟩)
  refine Cl.of (ini := false) kX9_octet (plainFor_of_name (by decide)) (by decide) (Nat.le_of_ble_eq_true rfl) rfl rfl (fun z => by cases z) ?_
  refine w_heq (hUs_id hw).symm ?_
  refine w_aload_n dX9_octet_0 rfl ?_
  refine w_get (v := .ref (b + 1)) fX9_10 (hUs_at nd 0 rfl rfl) rfl dX9_octet_1 ?_
  refine w_get (v := .int 1) fX9_139 (hUs_at nd 1 rfl rfl) rfl dX9_octet_4 ?_
  refine w_if_ne_t (tgt := 17) dX9_octet_7 rfl (by decide) ?_
  refine w_iload_n dX9_octet_17 rfl ?_
  refine w_if_lt (tgt := 35) dX9_octet_18 rfl (fun b18 => ?_) (fun b18 => ?_)
  · refine w_aload_n dX9_octet_35 rfl ?_
    refine w_iconst (v := 2) dX9_octet_36 (by decide) ?_
    refine w_iconst (v := (-1)) dX9_octet_37 (by decide) ?_
    refine w_callV (ci := 9) (d' := d) (mc' := 0) (ms' := 0) (As := [.int 2, .int (-1)]) (st := []) lX9_75 vX9_refused rfl (hUs_at nd 0 rfl rfl) rfl (Nat.le_of_ble_eq_true rfl) dX9_octet_38 (Nat.le_of_ble_eq_true rfl) (Nat.le_of_ble_eq_true rfl) (Nat.le_refl _) (c_refused (hHas_sub nd (as' := [b]) (cs' := [(oC 9 [.ref (b + 1), .ref (b + 14), .ref (b + 17), .ref (b + 19), .ref (b + 25), .ref (b + 29), .ref (b + 33), .ref pp, .int ht, .int (nI tp), .int sd, .int fa, .int pl, .int tr])]) [0] rfl rfl) (nd_sub nd (as' := [b]) [0] rfl rfl)  ?_)
    refine w_heq (hUs_in nd rfl [0] (cs2 := [(oC 9 [.ref (b + 1), .ref (b + 14), .ref (b + 17), .ref (b + 19), .ref (b + 25), .ref (b + 29), .ref (b + 33), .ref pp, .int ht, .int (nI tp), .int sd, .int fa, .int (-1), .int 2]), (oC 6 [.ref (b + 2), .ref (b + 6), .ref (b + 7), .ref (b + 8), .ref qw, .int 1, .int (nI l), .int (nI w), .int rsd, .int (nI c)]), (aB 4096 fo)]) rfl rfl) ?_
    refine w_ireturn rfl dX9_octet_41 (Nat.le_of_ble_eq_true rfl) (Nat.le_of_ble_eq_true rfl) ?_
    have e : oOctF fo c y = ((-1), 2) := by
      simp [oOctF, b18]
    rw [e] at k
    exact k _ (cI_i (cI_put hW (cAs_nd b) rfl [0, 1, 4] (cs2 := [(oC 9 [.ref (b + 1), .ref (b + 14), .ref (b + 17), .ref (b + 19), .ref (b + 25), .ref (b + 29), .ref (b + 33), .ref pp, .int ht, .int (nI tp), .int sd, .int fa, .int (-1), .int 2]), (oC 6 [.ref (b + 2), .ref (b + 6), .ref (b + 7), .ref (b + 8), .ref qw, .int 1, .int (nI l), .int (nI w), .int rsd, .int (nI c)]), (oC 0 [.ref (b + 3), .ref ql, .int cn, .int s.2.1, .int s.2.2]), (aI 3 s.1), (aB 4096 fo), (aI 4096 fg), (aI 3 fz), (aR RX2 2 (imR b)), (oC 2 [.int i01, .int i02, .int i03, .int i04, .int i05, .int i06, .int i07]), (oC 2 [.int i11, .int i12, .int i13, .int i14, .int i15, .int i16, .int i17]), (oC 8 [.ref (b + 18), .int wm]), (aI 94 fw), (oC 1 [.ref (b + 20), .ref (b + 24), .int f.2.2.1.1, .int f.2.2.1.2.1, .int f.2.2.2.1, .int f.2.2.1.2.2.1, .int f.2.2.1.2.2.2.1, .int f.2.2.1.2.2.2.2.1, .int f.2.2.1.2.2.2.2.2]), (oC 0 [.ref (b + 21), .ref q0, .int c0, .int f.1.2.1, .int f.1.2.2]), (aI 3 f.1.1), (aI 3 f.2.1), (oC 0 [.ref (b + 26), .ref q1, .int c1, .int s1.2.1, .int s1.2.2]), (aI 3 s1.1), (oC 0 [.ref (b + 30), .ref q2, .int c2, .int s2.2.1, .int s2.2.2]), (aI 3 s2.1), (oC 5 (rdF (b + 34) ps x)), (aB 600 ft)]) rfl rfl) hpp (hPl_o hP1 (by intro a ha; simp only [List.mem_cons, List.not_mem_nil, or_false] at ha; rcases hpp with hpp | hpp <;> omega)) (hPl_o hP2 (by intro a ha; simp only [List.mem_cons, List.not_mem_nil, or_false] at ha; rcases hpp with hpp | hpp <;> omega)) hR0 hi0 hi1 htp hpo hht) (cFr_of (by intro a ha; simp only [List.mem_cons, List.not_mem_nil, or_false] at ha; omega))
  · refine w_iload_n dX9_octet_21 rfl ?_
    refine w_aload_n dX9_octet_22 rfl ?_
    refine w_get (v := .ref (b + 1)) fX9_10 (hUs_at nd 0 rfl rfl) rfl dX9_octet_23 ?_
    refine w_get (v := .int (nI c)) fX9_142 (hUs_at nd 1 rfl rfl) rfl dX9_octet_26 ?_
    refine w_bipush (v := (nI 8)) dX9_octet_29 (by decide) ?_
    refine w_idivE (z := nI (c / 8)) dX9_octet_31 (nI_ne0 (by omega) (by omega)) (pk_div (a := c) (d := 8) (by omega) (by omega) (by omega)) ?_
    refine w_icmp_lt (tgt := 42) dX9_octet_32 rfl (fun b32 => ?_) (fun b32 => ?_)
    · obtain ⟨w9, hw9, rfl⟩ := in3 (m := c / 8) b18 b32 (by omega)
      have hwc := nI_clamp (show w9 < 2 ^ 31 by omega)
      refine w_aload_n dX9_octet_42 rfl ?_
      refine w_aload_n dX9_octet_43 rfl ?_
      refine w_get (v := .ref (b + 1)) fX9_10 (hUs_at nd 0 rfl rfl) rfl dX9_octet_44 ?_
      refine w_bipush (v := 8) dX9_octet_47 (by decide) ?_
      refine w_iload_n dX9_octet_49 rfl ?_
      refine w_imulE (z := nI (8 * w9)) dX9_octet_50 (pk_mul (8) (w9)) ?_
      refine w_callV (ci := 6) (d' := d) (mc' := 0) (ms' := 0) (As := [.int (nI (8 * w9))]) (st := [.ref b]) lX9_206 vX6_eightBits rfl (hUs_at nd 1 rfl rfl) rfl (Nat.le_of_ble_eq_true rfl) dX9_octet_51 (Nat.le_of_ble_eq_true rfl) (Nat.le_of_ble_eq_true rfl) (Nat.le_refl _) (c_eightBits (hHas_sub nd (as' := [b + 1, b + 6]) (cs' := [(oC 6 [.ref (b + 2), .ref (b + 6), .ref (b + 7), .ref (b + 8), .ref qw, .int 1, .int (nI l), .int (nI w), .int rsd, .int (nI c)]), (aB 4096 fo)]) [1, 2] rfl rfl) (by omega) ?_)
      refine w_callV (ci := 9) (d' := d) (mc' := 0) (ms' := 0) (As := [.int (fld (fun t s => s * 2 + (if fo t = 1 then 1 else 0)) (8 * w9) 8 0)]) (st := []) lX9_96 vX9_granted rfl (hUs_at nd 0 rfl rfl) rfl (Nat.le_of_ble_eq_true rfl) dX9_octet_54 (Nat.le_of_ble_eq_true rfl) (Nat.le_of_ble_eq_true rfl) (Nat.le_refl _) (c_granted (hHas_sub nd (as' := [b]) (cs' := [(oC 9 [.ref (b + 1), .ref (b + 14), .ref (b + 17), .ref (b + 19), .ref (b + 25), .ref (b + 29), .ref (b + 33), .ref pp, .int ht, .int (nI tp), .int sd, .int fa, .int pl, .int tr])]) [0] rfl rfl) (nd_sub nd (as' := [b]) [0] rfl rfl)  ?_)
      refine w_heq (hUs_in nd rfl [0] (cs2 := [(oC 9 [.ref (b + 1), .ref (b + 14), .ref (b + 17), .ref (b + 19), .ref (b + 25), .ref (b + 29), .ref (b + 33), .ref pp, .int ht, .int (nI tp), .int sd, .int fa, .int (-1), .int 0]), (oC 6 [.ref (b + 2), .ref (b + 6), .ref (b + 7), .ref (b + 8), .ref qw, .int 1, .int (nI l), .int (nI w), .int rsd, .int (nI c)]), (aB 4096 fo)]) rfl rfl) ?_
      refine w_ireturn rfl dX9_octet_57 (Nat.le_of_ble_eq_true rfl) (Nat.le_of_ble_eq_true rfl) ?_
      have e : oOctF fo c (nI w9) = (fld (fun t s => s * 2 + (if fo t = 1 then 1 else 0)) (8 * w9) 8 0, 0) := by
        simp [oOctF, hwc, b18, b32]
      rw [e] at k
      exact k _ (cI_i (cI_put hW (cAs_nd b) rfl [0, 1, 4] (cs2 := [(oC 9 [.ref (b + 1), .ref (b + 14), .ref (b + 17), .ref (b + 19), .ref (b + 25), .ref (b + 29), .ref (b + 33), .ref pp, .int ht, .int (nI tp), .int sd, .int fa, .int (-1), .int 0]), (oC 6 [.ref (b + 2), .ref (b + 6), .ref (b + 7), .ref (b + 8), .ref qw, .int 1, .int (nI l), .int (nI w), .int rsd, .int (nI c)]), (oC 0 [.ref (b + 3), .ref ql, .int cn, .int s.2.1, .int s.2.2]), (aI 3 s.1), (aB 4096 fo), (aI 4096 fg), (aI 3 fz), (aR RX2 2 (imR b)), (oC 2 [.int i01, .int i02, .int i03, .int i04, .int i05, .int i06, .int i07]), (oC 2 [.int i11, .int i12, .int i13, .int i14, .int i15, .int i16, .int i17]), (oC 8 [.ref (b + 18), .int wm]), (aI 94 fw), (oC 1 [.ref (b + 20), .ref (b + 24), .int f.2.2.1.1, .int f.2.2.1.2.1, .int f.2.2.2.1, .int f.2.2.1.2.2.1, .int f.2.2.1.2.2.2.1, .int f.2.2.1.2.2.2.2.1, .int f.2.2.1.2.2.2.2.2]), (oC 0 [.ref (b + 21), .ref q0, .int c0, .int f.1.2.1, .int f.1.2.2]), (aI 3 f.1.1), (aI 3 f.2.1), (oC 0 [.ref (b + 26), .ref q1, .int c1, .int s1.2.1, .int s1.2.2]), (aI 3 s1.1), (oC 0 [.ref (b + 30), .ref q2, .int c2, .int s2.2.1, .int s2.2.2]), (aI 3 s2.1), (oC 5 (rdF (b + 34) ps x)), (aB 600 ft)]) rfl rfl) hpp (hPl_o hP1 (by intro a ha; simp only [List.mem_cons, List.not_mem_nil, or_false] at ha; rcases hpp with hpp | hpp <;> omega)) (hPl_o hP2 (by intro a ha; simp only [List.mem_cons, List.not_mem_nil, or_false] at ha; rcases hpp with hpp | hpp <;> omega)) hR0 hi0 hi1 htp hpo hht) (cFr_of (by intro a ha; simp only [List.mem_cons, List.not_mem_nil, or_false] at ha; omega))
    · refine w_aload_n dX9_octet_35 rfl ?_
      refine w_iconst (v := 2) dX9_octet_36 (by decide) ?_
      refine w_iconst (v := (-1)) dX9_octet_37 (by decide) ?_
      refine w_callV (ci := 9) (d' := d) (mc' := 0) (ms' := 0) (As := [.int 2, .int (-1)]) (st := []) lX9_75 vX9_refused rfl (hUs_at nd 0 rfl rfl) rfl (Nat.le_of_ble_eq_true rfl) dX9_octet_38 (Nat.le_of_ble_eq_true rfl) (Nat.le_of_ble_eq_true rfl) (Nat.le_refl _) (c_refused (hHas_sub nd (as' := [b]) (cs' := [(oC 9 [.ref (b + 1), .ref (b + 14), .ref (b + 17), .ref (b + 19), .ref (b + 25), .ref (b + 29), .ref (b + 33), .ref pp, .int ht, .int (nI tp), .int sd, .int fa, .int pl, .int tr])]) [0] rfl rfl) (nd_sub nd (as' := [b]) [0] rfl rfl)  ?_)
      refine w_heq (hUs_in nd rfl [0] (cs2 := [(oC 9 [.ref (b + 1), .ref (b + 14), .ref (b + 17), .ref (b + 19), .ref (b + 25), .ref (b + 29), .ref (b + 33), .ref pp, .int ht, .int (nI tp), .int sd, .int fa, .int (-1), .int 2]), (oC 6 [.ref (b + 2), .ref (b + 6), .ref (b + 7), .ref (b + 8), .ref qw, .int 1, .int (nI l), .int (nI w), .int rsd, .int (nI c)]), (aB 4096 fo)]) rfl rfl) ?_
      refine w_ireturn rfl dX9_octet_41 (Nat.le_of_ble_eq_true rfl) (Nat.le_of_ble_eq_true rfl) ?_
      have e : oOctF fo c y = ((-1), 2) := by
        simp [oOctF, b18, b32]
      rw [e] at k
      exact k _ (cI_i (cI_put hW (cAs_nd b) rfl [0, 1, 4] (cs2 := [(oC 9 [.ref (b + 1), .ref (b + 14), .ref (b + 17), .ref (b + 19), .ref (b + 25), .ref (b + 29), .ref (b + 33), .ref pp, .int ht, .int (nI tp), .int sd, .int fa, .int (-1), .int 2]), (oC 6 [.ref (b + 2), .ref (b + 6), .ref (b + 7), .ref (b + 8), .ref qw, .int 1, .int (nI l), .int (nI w), .int rsd, .int (nI c)]), (oC 0 [.ref (b + 3), .ref ql, .int cn, .int s.2.1, .int s.2.2]), (aI 3 s.1), (aB 4096 fo), (aI 4096 fg), (aI 3 fz), (aR RX2 2 (imR b)), (oC 2 [.int i01, .int i02, .int i03, .int i04, .int i05, .int i06, .int i07]), (oC 2 [.int i11, .int i12, .int i13, .int i14, .int i15, .int i16, .int i17]), (oC 8 [.ref (b + 18), .int wm]), (aI 94 fw), (oC 1 [.ref (b + 20), .ref (b + 24), .int f.2.2.1.1, .int f.2.2.1.2.1, .int f.2.2.2.1, .int f.2.2.1.2.2.1, .int f.2.2.1.2.2.2.1, .int f.2.2.1.2.2.2.2.1, .int f.2.2.1.2.2.2.2.2]), (oC 0 [.ref (b + 21), .ref q0, .int c0, .int f.1.2.1, .int f.1.2.2]), (aI 3 f.1.1), (aI 3 f.2.1), (oC 0 [.ref (b + 26), .ref q1, .int c1, .int s1.2.1, .int s1.2.2]), (aI 3 s1.1), (oC 0 [.ref (b + 30), .ref q2, .int c2, .int s2.2.1, .int s2.2.2]), (aI 3 s2.1), (oC 5 (rdF (b + 34) ps x)), (aB 600 ft)]) rfl rfl) hpp (hPl_o hP1 (by intro a ha; simp only [List.mem_cons, List.not_mem_nil, or_false] at ha; rcases hpp with hpp | hpp <;> omega)) (hPl_o hP2 (by intro a ha; simp only [List.mem_cons, List.not_mem_nil, or_false] at ha; rcases hpp with hpp | hpp <;> omega)) hR0 hi0 hi1 htp hpo hht) (cFr_of (by intro a ha; simp only [List.mem_cons, List.not_mem_nil, or_false] at ha; omega))
theorem p_octet {G : wG} {d : Nat} {h : hH} {Q : Option Value → hH → Prop} {b : Nat} {ft : Nat → Int32} {tp : Nat} {P : pD} {ht : Int32} {R : Option rnD} {i0 i1 : imD} {sd fa pl tr : Int32}  {y : Int32} (hI : cI h b ft tp P ht R i0 i1 sd fa pl tr) (k : ∀ h2, cI h2 b ft tp P ht R i0 i1 sd fa (-1) (oOct P R y).2 → cFr b h h2 → Q (some (.int (oOct P R y).1)) h2) : Cl G yX9_octet (d + 1) 0 0 [.ref b, .int y] h Q := by
  cases R with
  | none => exact p_octet_n hI k
  | some r => obtain ⟨l, w, rs, cc⟩ := r; exact p_octet_s hI k
