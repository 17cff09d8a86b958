def oKp (ht y : Int32) : Int32 × Int32 := if ht = 0 ∨ y < 0 ∨ 2 ≤ y then (0, 1) else (1, 0)
def iKp (ht y : Int32) (k : Nat) (R : Option rnD) (sd : Int32) (i : imD) : imD := if ht = 0 ∨ ¬ y = nI k then i else some (R, sd)
theorem go_b {pp : Nat} {P : pD} {R : Option rnD} {go ln wn rsd : Int32} {c qw ql : Nat} {cn : Int32} {s : cS} {fo fg fz : Nat → Int32} (h : rIv pp P R go ln wn rsd c qw ql cn s fo fg fz) : narrow .boolean (.int go) = .int go ∧ fits .boolean (.int go) = true := by
  cases R with
  | none => have e : go = 0 := h; subst e; exact ⟨rfl, rfl⟩
  | some r => have e : go = 1 := h.2.1; subst e; exact ⟨rfl, rfl⟩
theorem iIv_t {pp : Nat} {P : pD} {R : Option rnD} {go ln wn rsd : Int32} {c qw ql : Nat} {cn : Int32} {s : cS} {fo fg fz : Nat → Int32} (sd : Int32) (h : rIv pp P R go ln wn rsd c qw ql cn s fo fg fz) : iIv P (some (R, sd)) 1 go ln wn rsd (nI c) sd := by
  cases R with
  | none => have e : go = 0 := h; exact ⟨rfl, e, rfl⟩
  | some r =>
    obtain ⟨h1, h2, h3, h4, h5, h6, _⟩ := h
    exact ⟨rfl, h2, h3, h4, h5, by rw [h6], rfl, h1⟩
set_option maxRecDepth 100000 in
set_option maxHeartbeats 4000000 in
theorem p_keep_0 {G : wG} {d : Nat} {h : hH} {Q : Option Value → hH → Prop} {b : Nat} {ft : Nat → Int32} {tp : Nat} {P : pD} {ht : Int32} {R : Option rnD} {i0 i1 : imD} {sd fa pl tr : Int32}  (hI : cI h b ft tp P ht R i0 i1 sd fa pl tr)  (k : ∀ h2, cI h2 b ft tp P ht R (iKp ht (nI 0) 0 R sd i0) (iKp ht (nI 0) 1 R sd i1) sd fa (-1) (oKp ht (nI 0)).2 → cFr b h h2 → Q (some (.int (oKp ht (nI 0)).1)) h2) : Cl G yX9_keep (d + 2) 0 0 [.ref b, .int (nI 0)] h Q := by
  refine cI_e hI ?_
  intro pp ps P2 go ln wn rsd c qw ql cn s fo fg fz i01 i02 i03 i04 i05 i06 i07 i11 i12 i13 i14 i15 i16 i17 wm fw f q0 c0 s1 q1 c1 s2 q2 c2 x hW hpp hP1 hP2 hR hi0 hi1 htp hpo hht
  have hw : hHas h [b, b + 1, b + 14, b + 15] [(oC 9 [.ref (b + 1), .ref (b + 14), .ref (b + 17), .ref (b + 19), .ref (b + 25), .ref (b + 29), .ref (b + 33), .ref pp, .int ht, .int (nI tp), .int sd, .int fa, .int pl, .int tr]), (oC 6 [.ref (b + 2), .ref (b + 6), .ref (b + 7), .ref (b + 8), .ref qw, .int go, .int ln, .int wn, .int rsd, .int (nI c)]), (aR RX2 2 (imR b)), (oC 2 [.int i01, .int i02, .int i03, .int i04, .int i05, .int i06, .int i07])] := hHas_s hW [0, 1, 7, 8] rfl rfl
  have nd : [b, b + 1, b + 14, b + 15].Nodup := (nd_inc ⟨by omega, by omega, by omega, trivial⟩)
  refine Cl.of (ini := false) kX9_keep (plainFor_of_name (by decide)) (by decide) (Nat.le_of_ble_eq_true rfl) rfl rfl (fun z => by cases z) ?_
  refine w_heq (hUs_id hw).symm ?_
  refine w_aload_n dX9_keep_0 rfl ?_
  refine w_get (v := .int ht) fX9_100 (hUs_at nd 0 rfl rfl) rfl dX9_keep_1 ?_
  refine w_if_eq (tgt := 20) dX9_keep_4 rfl (fun b4 => ?_) (fun b4 => ?_)
  · refine w_aload_n dX9_keep_20 rfl ?_
    refine w_iconst (v := 1) dX9_keep_21 (by decide) ?_
    refine w_callV (ci := 9) (d' := d + 1) (mc' := 0) (ms' := 0) (As := [.int 1]) (st := []) lX9_128 vX9_isRefused rfl (hUs_at nd 0 rfl rfl) rfl (Nat.le_of_ble_eq_true rfl) dX9_keep_22 (Nat.le_of_ble_eq_true rfl) (Nat.le_of_ble_eq_true rfl) (Nat.le_refl _) (c_isRefused (hHas_sub nd (as' := [b]) (cs' := [(oC 9 [.ref (b + 1), .ref (b + 14), .ref (b + 17), .ref (b + 19), .ref (b + 25), .ref (b + 29), .ref (b + 33), .ref pp, .int ht, .int (nI tp), .int sd, .int fa, .int pl, .int tr])]) [0] rfl rfl) (nd_sub nd (as' := [b]) [0] rfl rfl)  ?_)
    refine w_heq (hUs_in nd rfl [0] (cs2 := [(oC 9 [.ref (b + 1), .ref (b + 14), .ref (b + 17), .ref (b + 19), .ref (b + 25), .ref (b + 29), .ref (b + 33), .ref pp, .int ht, .int (nI tp), .int sd, .int fa, .int (-1), .int 1]), (oC 6 [.ref (b + 2), .ref (b + 6), .ref (b + 7), .ref (b + 8), .ref qw, .int go, .int ln, .int wn, .int rsd, .int (nI c)]), (aR RX2 2 (imR b)), (oC 2 [.int i01, .int i02, .int i03, .int i04, .int i05, .int i06, .int i07])]) rfl rfl) ?_
    refine w_zreturn rfl dX9_keep_25 rfl (Nat.le_of_ble_eq_true rfl) (Nat.le_of_ble_eq_true rfl) ?_
    have e : oKp ht (nI 0) = (0, 1) := by
      rw [oKp, if_pos (Or.inl b4)]
    have e09 : iKp ht (nI 0) 0 R sd i0 = i0 := by
      rw [iKp, if_pos (Or.inl b4)]
    have e19 : iKp ht (nI 0) 1 R sd i1 = i1 := by
      rw [iKp, if_pos (Or.inl b4)]
    rw [e, e09, e19] at k
    exact k _ (cI_i (cI_put hW (cAs_nd b) rfl [0, 1, 7, 8] (cs2 := [(oC 9 [.ref (b + 1), .ref (b + 14), .ref (b + 17), .ref (b + 19), .ref (b + 25), .ref (b + 29), .ref (b + 33), .ref pp, .int ht, .int (nI tp), .int sd, .int fa, .int (-1), .int 1]), (oC 6 [.ref (b + 2), .ref (b + 6), .ref (b + 7), .ref (b + 8), .ref qw, .int go, .int ln, .int wn, .int rsd, .int (nI c)]), (oC 0 [.ref (b + 3), .ref ql, .int cn, .int s.2.1, .int s.2.2]), (aI 3 s.1), (aB 4096 fo), (aI 4096 fg), (aI 3 fz), (aR RX2 2 (imR b)), (oC 2 [.int i01, .int i02, .int i03, .int i04, .int i05, .int i06, .int i07]), (oC 2 [.int i11, .int i12, .int i13, .int i14, .int i15, .int i16, .int i17]), (oC 8 [.ref (b + 18), .int wm]), (aI 94 fw), (oC 1 [.ref (b + 20), .ref (b + 24), .int f.2.2.1.1, .int f.2.2.1.2.1, .int f.2.2.2.1, .int f.2.2.1.2.2.1, .int f.2.2.1.2.2.2.1, .int f.2.2.1.2.2.2.2.1, .int f.2.2.1.2.2.2.2.2]), (oC 0 [.ref (b + 21), .ref q0, .int c0, .int f.1.2.1, .int f.1.2.2]), (aI 3 f.1.1), (aI 3 f.2.1), (oC 0 [.ref (b + 26), .ref q1, .int c1, .int s1.2.1, .int s1.2.2]), (aI 3 s1.1), (oC 0 [.ref (b + 30), .ref q2, .int c2, .int s2.2.1, .int s2.2.2]), (aI 3 s2.1), (oC 5 (rdF (b + 34) ps x)), (aB 600 ft)]) rfl rfl) hpp (hPl_o hP1 (by intro a ha; simp only [List.mem_cons, List.not_mem_nil, or_false] at ha; rcases hpp with hpp | hpp <;> omega)) (hPl_o hP2 (by intro a ha; simp only [List.mem_cons, List.not_mem_nil, or_false] at ha; rcases hpp with hpp | hpp <;> omega)) hR hi0 hi1 htp hpo hht) (cFr_of (by intro a ha; simp only [List.mem_cons, List.not_mem_nil, or_false] at ha; omega))
  · refine w_iload_n dX9_keep_7 rfl ?_
    refine w_if_lt_f (tgt := 20) dX9_keep_8 rfl (fun z => absurd ((nI_ltI (a := 0) (b := 0) (by omega) (by omega)).mp z) (by omega)) ?_
    refine w_iload_n dX9_keep_11 rfl ?_
    refine w_aload_n dX9_keep_12 rfl ?_
    refine w_get (v := .ref (b + 14)) fX9_19 (hUs_at nd 0 rfl rfl) rfl dX9_keep_13 ?_
    refine w_alen (v := (nI 2)) (hUs_at nd 2 rfl rfl) rfl dX9_keep_16 ?_
    refine w_icmp_lt_t (tgt := 26) dX9_keep_17 rfl ((nI_ltI (a := 0) (b := 2) (by omega) (by omega)).mpr (by omega)) ?_
    refine w_aload_n dX9_keep_26 rfl ?_
    refine w_get (v := .ref (b + 14)) fX9_19 (hUs_at nd 0 rfl rfl) rfl dX9_keep_27 ?_
    refine w_iload_n dX9_keep_30 rfl ?_
    refine w_aaloadN (hUs_at nd 2 rfl rfl) (by omega) (by omega) dX9_keep_31 ?_
    refine w_topV (z := .ref (b + 15)) rfl ?_
    refine w_aload_n dX9_keep_32 rfl ?_
    refine w_get (v := .ref (b + 1)) fX9_10 (hUs_at nd 0 rfl rfl) rfl dX9_keep_33 ?_
    refine w_aload_n dX9_keep_36 rfl ?_
    refine w_get (v := .int sd) fX9_61 (hUs_at nd 0 rfl rfl) rfl dX9_keep_37 ?_
    refine w_callV (ci := 2) (d' := d + 1) (mc' := 0) (ms' := 0) (As := [.ref (b + 1), .int sd]) (st := []) lX9_276 vX2_take rfl (hUs_at nd 3 rfl rfl) rfl (Nat.le_of_ble_eq_true rfl) dX9_keep_40 (Nat.le_of_ble_eq_true rfl) (Nat.le_of_ble_eq_true rfl) (Nat.le_refl _) (c_take (hHas_sub nd (as' := [b + 15, b + 1]) (cs' := [(oC 2 [.int i01, .int i02, .int i03, .int i04, .int i05, .int i06, .int i07]), (oC 6 [.ref (b + 2), .ref (b + 6), .ref (b + 7), .ref (b + 8), .ref qw, .int go, .int ln, .int wn, .int rsd, .int (nI c)])]) [3, 1] rfl rfl) (nd_sub nd (as' := [b + 15, b + 1]) [3, 1] rfl rfl) (go_b hR) ?_)
    refine w_heq (hUs_in nd rfl [3, 1] (cs2 := [(oC 9 [.ref (b + 1), .ref (b + 14), .ref (b + 17), .ref (b + 19), .ref (b + 25), .ref (b + 29), .ref (b + 33), .ref pp, .int ht, .int (nI tp), .int sd, .int fa, .int pl, .int tr]), (oC 6 [.ref (b + 2), .ref (b + 6), .ref (b + 7), .ref (b + 8), .ref qw, .int go, .int ln, .int wn, .int rsd, .int (nI c)]), (aR RX2 2 (imR b)), (oC 2 [.int 1, .int go, .int ln, .int wn, .int rsd, .int (nI c), .int sd])]) rfl rfl) ?_
    refine w_aload_n dX9_keep_43 rfl ?_
    refine w_callV (ci := 9) (d' := d + 1) (mc' := 0) (ms' := 0) (As := []) (st := []) lX9_131 vX9_isGranted rfl (hUs_at nd 0 rfl rfl) rfl (Nat.le_of_ble_eq_true rfl) dX9_keep_44 (Nat.le_of_ble_eq_true rfl) (Nat.le_of_ble_eq_true rfl) (Nat.le_refl _) (c_isGranted (hHas_sub nd (as' := [b]) (cs' := [(oC 9 [.ref (b + 1), .ref (b + 14), .ref (b + 17), .ref (b + 19), .ref (b + 25), .ref (b + 29), .ref (b + 33), .ref pp, .int ht, .int (nI tp), .int sd, .int fa, .int pl, .int tr])]) [0] rfl rfl) (nd_sub nd (as' := [b]) [0] rfl rfl)  ?_)
    refine w_heq (hUs_in nd rfl [0] (cs2 := [(oC 9 [.ref (b + 1), .ref (b + 14), .ref (b + 17), .ref (b + 19), .ref (b + 25), .ref (b + 29), .ref (b + 33), .ref pp, .int ht, .int (nI tp), .int sd, .int fa, .int (-1), .int 0]), (oC 6 [.ref (b + 2), .ref (b + 6), .ref (b + 7), .ref (b + 8), .ref qw, .int go, .int ln, .int wn, .int rsd, .int (nI c)]), (aR RX2 2 (imR b)), (oC 2 [.int 1, .int go, .int ln, .int wn, .int rsd, .int (nI c), .int sd])]) rfl rfl) ?_
    refine w_zreturn rfl dX9_keep_47 rfl (Nat.le_of_ble_eq_true rfl) (Nat.le_of_ble_eq_true rfl) ?_
    have e : oKp ht (nI 0) = (1, 0) := by
      rw [oKp, if_neg (fun z => z.elim b4 (by decide))]
    have e09 : iKp ht (nI 0) 0 R sd i0 = some (R, sd) := by
      rw [iKp, if_neg (fun z => z.elim b4 (fun z => z rfl))]
    have e19 : iKp ht (nI 0) 1 R sd i1 = i1 := by
      rw [iKp, if_pos (Or.inr (by decide))]
    rw [e, e09, e19] at k
    exact k _ (cI_i (cI_put hW (cAs_nd b) rfl [0, 1, 7, 8] (cs2 := [(oC 9 [.ref (b + 1), .ref (b + 14), .ref (b + 17), .ref (b + 19), .ref (b + 25), .ref (b + 29), .ref (b + 33), .ref pp, .int ht, .int (nI tp), .int sd, .int fa, .int (-1), .int 0]), (oC 6 [.ref (b + 2), .ref (b + 6), .ref (b + 7), .ref (b + 8), .ref qw, .int go, .int ln, .int wn, .int rsd, .int (nI c)]), (oC 0 [.ref (b + 3), .ref ql, .int cn, .int s.2.1, .int s.2.2]), (aI 3 s.1), (aB 4096 fo), (aI 4096 fg), (aI 3 fz), (aR RX2 2 (imR b)), (oC 2 [.int 1, .int go, .int ln, .int wn, .int rsd, .int (nI c), .int sd]), (oC 2 [.int i11, .int i12, .int i13, .int i14, .int i15, .int i16, .int i17]), (oC 8 [.ref (b + 18), .int wm]), (aI 94 fw), (oC 1 [.ref (b + 20), .ref (b + 24), .int f.2.2.1.1, .int f.2.2.1.2.1, .int f.2.2.2.1, .int f.2.2.1.2.2.1, .int f.2.2.1.2.2.2.1, .int f.2.2.1.2.2.2.2.1, .int f.2.2.1.2.2.2.2.2]), (oC 0 [.ref (b + 21), .ref q0, .int c0, .int f.1.2.1, .int f.1.2.2]), (aI 3 f.1.1), (aI 3 f.2.1), (oC 0 [.ref (b + 26), .ref q1, .int c1, .int s1.2.1, .int s1.2.2]), (aI 3 s1.1), (oC 0 [.ref (b + 30), .ref q2, .int c2, .int s2.2.1, .int s2.2.2]), (aI 3 s2.1), (oC 5 (rdF (b + 34) ps x)), (aB 600 ft)]) rfl rfl) hpp (hPl_o hP1 (by intro a ha; simp only [List.mem_cons, List.not_mem_nil, or_false] at ha; rcases hpp with hpp | hpp <;> omega)) (hPl_o hP2 (by intro a ha; simp only [List.mem_cons, List.not_mem_nil, or_false] at ha; rcases hpp with hpp | hpp <;> omega)) hR (iIv_t sd hR) hi1 htp hpo hht) (cFr_of (by intro a ha; simp only [List.mem_cons, List.not_mem_nil, or_false] at ha; omega))
set_option maxRecDepth 100000 in
set_option maxHeartbeats 4000000 in
theorem p_keep_1 {G : wG} {d : Nat} {h : hH} {Q : Option Value → hH → Prop} {b : Nat} {ft : Nat → Int32} {tp : Nat} {P : pD} {ht : Int32} {R : Option rnD} {i0 i1 : imD} {sd fa pl tr : Int32}  (hI : cI h b ft tp P ht R i0 i1 sd fa pl tr)  (k : ∀ h2, cI h2 b ft tp P ht R (iKp ht (nI 1) 0 R sd i0) (iKp ht (nI 1) 1 R sd i1) sd fa (-1) (oKp ht (nI 1)).2 → cFr b h h2 → Q (some (.int (oKp ht (nI 1)).1)) h2) : Cl G yX9_keep (d + 2) 0 0 [.ref b, .int (nI 1)] h Q := by
  refine cI_e hI ?_
  intro pp ps P2 go ln wn rsd c qw ql cn s fo fg fz i01 i02 i03 i04 i05 i06 i07 i11 i12 i13 i14 i15 i16 i17 wm fw f q0 c0 s1 q1 c1 s2 q2 c2 x hW hpp hP1 hP2 hR hi0 hi1 htp hpo hht
  have hw : hHas h [b, b + 1, b + 14, b + 16] [(oC 9 [.ref (b + 1), .ref (b + 14), .ref (b + 17), .ref (b + 19), .ref (b + 25), .ref (b + 29), .ref (b + 33), .ref pp, .int ht, .int (nI tp), .int sd, .int fa, .int pl, .int tr]), (oC 6 [.ref (b + 2), .ref (b + 6), .ref (b + 7), .ref (b + 8), .ref qw, .int go, .int ln, .int wn, .int rsd, .int (nI c)]), (aR RX2 2 (imR b)), (oC 2 [.int i11, .int i12, .int i13, .int i14, .int i15, .int i16, .int i17])] := hHas_s hW [0, 1, 7, 9] rfl rfl
  have nd : [b, b + 1, b + 14, b + 16].Nodup := (nd_inc ⟨by omega, by omega, by omega, trivial⟩)
  refine Cl.of (ini := false) kX9_keep (plainFor_of_name (by decide)) (by decide) (Nat.le_of_ble_eq_true rfl) rfl rfl (fun z => by cases z) ?_
  refine w_heq (hUs_id hw).symm ?_
  refine w_aload_n dX9_keep_0 rfl ?_
  refine w_get (v := .int ht) fX9_100 (hUs_at nd 0 rfl rfl) rfl dX9_keep_1 ?_
  refine w_if_eq (tgt := 20) dX9_keep_4 rfl (fun b4 => ?_) (fun b4 => ?_)
  · refine w_aload_n dX9_keep_20 rfl ?_
    refine w_iconst (v := 1) dX9_keep_21 (by decide) ?_
    refine w_callV (ci := 9) (d' := d + 1) (mc' := 0) (ms' := 0) (As := [.int 1]) (st := []) lX9_128 vX9_isRefused rfl (hUs_at nd 0 rfl rfl) rfl (Nat.le_of_ble_eq_true rfl) dX9_keep_22 (Nat.le_of_ble_eq_true rfl) (Nat.le_of_ble_eq_true rfl) (Nat.le_refl _) (c_isRefused (hHas_sub nd (as' := [b]) (cs' := [(oC 9 [.ref (b + 1), .ref (b + 14), .ref (b + 17), .ref (b + 19), .ref (b + 25), .ref (b + 29), .ref (b + 33), .ref pp, .int ht, .int (nI tp), .int sd, .int fa, .int pl, .int tr])]) [0] rfl rfl) (nd_sub nd (as' := [b]) [0] rfl rfl)  ?_)
    refine w_heq (hUs_in nd rfl [0] (cs2 := [(oC 9 [.ref (b + 1), .ref (b + 14), .ref (b + 17), .ref (b + 19), .ref (b + 25), .ref (b + 29), .ref (b + 33), .ref pp, .int ht, .int (nI tp), .int sd, .int fa, .int (-1), .int 1]), (oC 6 [.ref (b + 2), .ref (b + 6), .ref (b + 7), .ref (b + 8), .ref qw, .int go, .int ln, .int wn, .int rsd, .int (nI c)]), (aR RX2 2 (imR b)), (oC 2 [.int i11, .int i12, .int i13, .int i14, .int i15, .int i16, .int i17])]) rfl rfl) ?_
    refine w_zreturn rfl dX9_keep_25 rfl (Nat.le_of_ble_eq_true rfl) (Nat.le_of_ble_eq_true rfl) ?_
    have e : oKp ht (nI 1) = (0, 1) := by
      rw [oKp, if_pos (Or.inl b4)]
    have e09 : iKp ht (nI 1) 0 R sd i0 = i0 := by
      rw [iKp, if_pos (Or.inl b4)]
    have e19 : iKp ht (nI 1) 1 R sd i1 = i1 := by
      rw [iKp, if_pos (Or.inl b4)]
    rw [e, e09, e19] at k
    exact k _ (cI_i (cI_put hW (cAs_nd b) rfl [0, 1, 7, 9] (cs2 := [(oC 9 [.ref (b + 1), .ref (b + 14), .ref (b + 17), .ref (b + 19), .ref (b + 25), .ref (b + 29), .ref (b + 33), .ref pp, .int ht, .int (nI tp), .int sd, .int fa, .int (-1), .int 1]), (oC 6 [.ref (b + 2), .ref (b + 6), .ref (b + 7), .ref (b + 8), .ref qw, .int go, .int ln, .int wn, .int rsd, .int (nI c)]), (oC 0 [.ref (b + 3), .ref ql, .int cn, .int s.2.1, .int s.2.2]), (aI 3 s.1), (aB 4096 fo), (aI 4096 fg), (aI 3 fz), (aR RX2 2 (imR b)), (oC 2 [.int i01, .int i02, .int i03, .int i04, .int i05, .int i06, .int i07]), (oC 2 [.int i11, .int i12, .int i13, .int i14, .int i15, .int i16, .int i17]), (oC 8 [.ref (b + 18), .int wm]), (aI 94 fw), (oC 1 [.ref (b + 20), .ref (b + 24), .int f.2.2.1.1, .int f.2.2.1.2.1, .int f.2.2.2.1, .int f.2.2.1.2.2.1, .int f.2.2.1.2.2.2.1, .int f.2.2.1.2.2.2.2.1, .int f.2.2.1.2.2.2.2.2]), (oC 0 [.ref (b + 21), .ref q0, .int c0, .int f.1.2.1, .int f.1.2.2]), (aI 3 f.1.1), (aI 3 f.2.1), (oC 0 [.ref (b + 26), .ref q1, .int c1, .int s1.2.1, .int s1.2.2]), (aI 3 s1.1), (oC 0 [.ref (b + 30), .ref q2, .int c2, .int s2.2.1, .int s2.2.2]), (aI 3 s2.1), (oC 5 (rdF (b + 34) ps x)), (aB 600 ft)]) rfl rfl) hpp (hPl_o hP1 (by intro a ha; simp only [List.mem_cons, List.not_mem_nil, or_false] at ha; rcases hpp with hpp | hpp <;> omega)) (hPl_o hP2 (by intro a ha; simp only [List.mem_cons, List.not_mem_nil, or_false] at ha; rcases hpp with hpp | hpp <;> omega)) hR hi0 hi1 htp hpo hht) (cFr_of (by intro a ha; simp only [List.mem_cons, List.not_mem_nil, or_false] at ha; omega))
  · refine w_iload_n dX9_keep_7 rfl ?_
    refine w_if_lt_f (tgt := 20) dX9_keep_8 rfl (fun z => absurd ((nI_ltI (a := 1) (b := 0) (by omega) (by omega)).mp z) (by omega)) ?_
    refine w_iload_n dX9_keep_11 rfl ?_
    refine w_aload_n dX9_keep_12 rfl ?_
    refine w_get (v := .ref (b + 14)) fX9_19 (hUs_at nd 0 rfl rfl) rfl dX9_keep_13 ?_
    refine w_alen (v := (nI 2)) (hUs_at nd 2 rfl rfl) rfl dX9_keep_16 ?_
    refine w_icmp_lt_t (tgt := 26) dX9_keep_17 rfl ((nI_ltI (a := 1) (b := 2) (by omega) (by omega)).mpr (by omega)) ?_
    refine w_aload_n dX9_keep_26 rfl ?_
    refine w_get (v := .ref (b + 14)) fX9_19 (hUs_at nd 0 rfl rfl) rfl dX9_keep_27 ?_
    refine w_iload_n dX9_keep_30 rfl ?_
    refine w_aaloadN (hUs_at nd 2 rfl rfl) (by omega) (by omega) dX9_keep_31 ?_
    refine w_topV (z := .ref (b + 16)) rfl ?_
    refine w_aload_n dX9_keep_32 rfl ?_
    refine w_get (v := .ref (b + 1)) fX9_10 (hUs_at nd 0 rfl rfl) rfl dX9_keep_33 ?_
    refine w_aload_n dX9_keep_36 rfl ?_
    refine w_get (v := .int sd) fX9_61 (hUs_at nd 0 rfl rfl) rfl dX9_keep_37 ?_
    refine w_callV (ci := 2) (d' := d + 1) (mc' := 0) (ms' := 0) (As := [.ref (b + 1), .int sd]) (st := []) lX9_276 vX2_take rfl (hUs_at nd 3 rfl rfl) rfl (Nat.le_of_ble_eq_true rfl) dX9_keep_40 (Nat.le_of_ble_eq_true rfl) (Nat.le_of_ble_eq_true rfl) (Nat.le_refl _) (c_take (hHas_sub nd (as' := [b + 16, b + 1]) (cs' := [(oC 2 [.int i11, .int i12, .int i13, .int i14, .int i15, .int i16, .int i17]), (oC 6 [.ref (b + 2), .ref (b + 6), .ref (b + 7), .ref (b + 8), .ref qw, .int go, .int ln, .int wn, .int rsd, .int (nI c)])]) [3, 1] rfl rfl) (nd_sub nd (as' := [b + 16, b + 1]) [3, 1] rfl rfl) (go_b hR) ?_)
    refine w_heq (hUs_in nd rfl [3, 1] (cs2 := [(oC 9 [.ref (b + 1), .ref (b + 14), .ref (b + 17), .ref (b + 19), .ref (b + 25), .ref (b + 29), .ref (b + 33), .ref pp, .int ht, .int (nI tp), .int sd, .int fa, .int pl, .int tr]), (oC 6 [.ref (b + 2), .ref (b + 6), .ref (b + 7), .ref (b + 8), .ref qw, .int go, .int ln, .int wn, .int rsd, .int (nI c)]), (aR RX2 2 (imR b)), (oC 2 [.int 1, .int go, .int ln, .int wn, .int rsd, .int (nI c), .int sd])]) rfl rfl) ?_
    refine w_aload_n dX9_keep_43 rfl ?_
    refine w_callV (ci := 9) (d' := d + 1) (mc' := 0) (ms' := 0) (As := []) (st := []) lX9_131 vX9_isGranted rfl (hUs_at nd 0 rfl rfl) rfl (Nat.le_of_ble_eq_true rfl) dX9_keep_44 (Nat.le_of_ble_eq_true rfl) (Nat.le_of_ble_eq_true rfl) (Nat.le_refl _) (c_isGranted (hHas_sub nd (as' := [b]) (cs' := [(oC 9 [.ref (b + 1), .ref (b + 14), .ref (b + 17), .ref (b + 19), .ref (b + 25), .ref (b + 29), .ref (b + 33), .ref pp, .int ht, .int (nI tp), .int sd, .int fa, .int pl, .int tr])]) [0] rfl rfl) (nd_sub nd (as' := [b]) [0] rfl rfl)  ?_)
    refine w_heq (hUs_in nd rfl [0] (cs2 := [(oC 9 [.ref (b + 1), .ref (b + 14), .ref (b + 17), .ref (b + 19), .ref (b + 25), .ref (b + 29), .ref (b + 33), .ref pp, .int ht, .int (nI tp), .int sd, .int fa, .int (-1), .int 0]), (oC 6 [.ref (b + 2), .ref (b + 6), .ref (b + 7), .ref (b + 8), .ref qw, .int go, .int ln, .int wn, .int rsd, .int (nI c)]), (aR RX2 2 (imR b)), (oC 2 [.int 1, .int go, .int ln, .int wn, .int rsd, .int (nI c), .int sd])]) rfl rfl) ?_
    refine w_zreturn rfl dX9_keep_47 rfl (Nat.le_of_ble_eq_true rfl) (Nat.le_of_ble_eq_true rfl) ?_
    have e : oKp ht (nI 1) = (1, 0) := by
      rw [oKp, if_neg (fun z => z.elim b4 (by decide))]
    have e09 : iKp ht (nI 1) 0 R sd i0 = i0 := by
      rw [iKp, if_pos (Or.inr (by decide))]
    have e19 : iKp ht (nI 1) 1 R sd i1 = some (R, sd) := by
      rw [iKp, if_neg (fun z => z.elim b4 (fun z => z rfl))]
    rw [e, e09, e19] at k
    exact k _ (cI_i (cI_put hW (cAs_nd b) rfl [0, 1, 7, 9] (cs2 := [(oC 9 [.ref (b + 1), .ref (b + 14), .ref (b + 17), .ref (b + 19), .ref (b + 25), .ref (b + 29), .ref (b + 33), .ref pp, .int ht, .int (nI tp), .int sd, .int fa, .int (-1), .int 0]), (oC 6 [.ref (b + 2), .ref (b + 6), .ref (b + 7), .ref (b + 8), .ref qw, .int go, .int ln, .int wn, .int rsd, .int (nI c)]), (oC 0 [.ref (b + 3), .ref ql, .int cn, .int s.2.1, .int s.2.2]), (aI 3 s.1), (aB 4096 fo), (aI 4096 fg), (aI 3 fz), (aR RX2 2 (imR b)), (oC 2 [.int i01, .int i02, .int i03, .int i04, .int i05, .int i06, .int i07]), (oC 2 [.int 1, .int go, .int ln, .int wn, .int rsd, .int (nI c), .int sd]), (oC 8 [.ref (b + 18), .int wm]), (aI 94 fw), (oC 1 [.ref (b + 20), .ref (b + 24), .int f.2.2.1.1, .int f.2.2.1.2.1, .int f.2.2.2.1, .int f.2.2.1.2.2.1, .int f.2.2.1.2.2.2.1, .int f.2.2.1.2.2.2.2.1, .int f.2.2.1.2.2.2.2.2]), (oC 0 [.ref (b + 21), .ref q0, .int c0, .int f.1.2.1, .int f.1.2.2]), (aI 3 f.1.1), (aI 3 f.2.1), (oC 0 [.ref (b + 26), .ref q1, .int c1, .int s1.2.1, .int s1.2.2]), (aI 3 s1.1), (oC 0 [.ref (b + 30), .ref q2, .int c2, .int s2.2.1, .int s2.2.2]), (aI 3 s2.1), (oC 5 (rdF (b + 34) ps x)), (aB 600 ft)]) rfl rfl) hpp (hPl_o hP1 (by intro a ha; simp only [List.mem_cons, List.not_mem_nil, or_false] at ha; rcases hpp with hpp | hpp <;> omega)) (hPl_o hP2 (by intro a ha; simp only [List.mem_cons, List.not_mem_nil, or_false] at ha; rcases hpp with hpp | hpp <;> omega)) hR hi0 (iIv_t sd hR) htp hpo hht) (cFr_of (by intro a ha; simp only [List.mem_cons, List.not_mem_nil, or_false] at ha; omega))
set_option maxRecDepth 100000 in
set_option maxHeartbeats 4000000 in
theorem p_keep_n {G : wG} {d : Nat} {h : hH} {Q : Option Value → hH → Prop} {b : Nat} {ft : Nat → Int32} {tp : Nat} {P : pD} {ht : Int32} {R : Option rnD} {i0 i1 : imD} {sd fa pl tr : Int32}  {y : Int32} (hI : cI h b ft tp P ht R i0 i1 sd fa pl tr) (hy : ¬ ∃ w, w < 2 ∧ y = nI w) (k : ∀ h2, cI h2 b ft tp P ht R (iKp ht y 0 R sd i0) (iKp ht y 1 R sd i1) sd fa (-1) (oKp ht y).2 → cFr b h h2 → Q (some (.int (oKp ht y).1)) h2) : Cl G yX9_keep (d + 2) 0 0 [.ref b, .int y] h Q := by
  refine cI_e hI ?_
  intro pp ps P2 go ln wn rsd c qw ql cn s fo fg fz i01 i02 i03 i04 i05 i06 i07 i11 i12 i13 i14 i15 i16 i17 wm fw f q0 c0 s1 q1 c1 s2 q2 c2 x hW hpp hP1 hP2 hR hi0 hi1 htp hpo hht
  have hw : hHas h [b, b + 14] [(oC 9 [.ref (b + 1), .ref (b + 14), .ref (b + 17), .ref (b + 19), .ref (b + 25), .ref (b + 29), .ref (b + 33), .ref pp, .int ht, .int (nI tp), .int sd, .int fa, .int pl, .int tr]), (aR RX2 2 (imR b))] := hHas_s hW [0, 7] rfl rfl
  have nd : [b, b + 14].Nodup := (nd_inc ⟨by omega, trivial⟩)
  refine Cl.of (ini := false) kX9_keep (plainFor_of_name (by decide)) (by decide) (Nat.le_of_ble_eq_true rfl) rfl rfl (fun z => by cases z) ?_
  refine w_heq (hUs_id hw).symm ?_
  refine w_aload_n dX9_keep_0 rfl ?_
  refine w_get (v := .int ht) fX9_100 (hUs_at nd 0 rfl rfl) rfl dX9_keep_1 ?_
  refine w_if_eq (tgt := 20) dX9_keep_4 rfl (fun b4 => ?_) (fun b4 => ?_)
  · refine w_aload_n dX9_keep_20 rfl ?_
    refine w_iconst (v := 1) dX9_keep_21 (by decide) ?_
    refine w_callV (ci := 9) (d' := d + 1) (mc' := 0) (ms' := 0) (As := [.int 1]) (st := []) lX9_128 vX9_isRefused rfl (hUs_at nd 0 rfl rfl) rfl (Nat.le_of_ble_eq_true rfl) dX9_keep_22 (Nat.le_of_ble_eq_true rfl) (Nat.le_of_ble_eq_true rfl) (Nat.le_refl _) (c_isRefused (hHas_sub nd (as' := [b]) (cs' := [(oC 9 [.ref (b + 1), .ref (b + 14), .ref (b + 17), .ref (b + 19), .ref (b + 25), .ref (b + 29), .ref (b + 33), .ref pp, .int ht, .int (nI tp), .int sd, .int fa, .int pl, .int tr])]) [0] rfl rfl) (nd_sub nd (as' := [b]) [0] rfl rfl)  ?_)
    refine w_heq (hUs_in nd rfl [0] (cs2 := [(oC 9 [.ref (b + 1), .ref (b + 14), .ref (b + 17), .ref (b + 19), .ref (b + 25), .ref (b + 29), .ref (b + 33), .ref pp, .int ht, .int (nI tp), .int sd, .int fa, .int (-1), .int 1]), (aR RX2 2 (imR b))]) rfl rfl) ?_
    refine w_zreturn rfl dX9_keep_25 rfl (Nat.le_of_ble_eq_true rfl) (Nat.le_of_ble_eq_true rfl) ?_
    have e : oKp ht y = (0, 1) := by
      rw [oKp, if_pos (Or.inl b4)]
    have e09 : iKp ht y 0 R sd i0 = i0 := by
      rw [iKp, if_pos (Or.inr (fun z => hy ⟨0, by decide, z⟩))]
    have e19 : iKp ht y 1 R sd i1 = i1 := by
      rw [iKp, if_pos (Or.inr (fun z => hy ⟨1, by decide, z⟩))]
    rw [e, e09, e19] at k
    exact k _ (cI_i (cI_put hW (cAs_nd b) rfl [0, 7] (cs2 := [(oC 9 [.ref (b + 1), .ref (b + 14), .ref (b + 17), .ref (b + 19), .ref (b + 25), .ref (b + 29), .ref (b + 33), .ref pp, .int ht, .int (nI tp), .int sd, .int fa, .int (-1), .int 1]), (oC 6 [.ref (b + 2), .ref (b + 6), .ref (b + 7), .ref (b + 8), .ref qw, .int go, .int ln, .int wn, .int rsd, .int (nI c)]), (oC 0 [.ref (b + 3), .ref ql, .int cn, .int s.2.1, .int s.2.2]), (aI 3 s.1), (aB 4096 fo), (aI 4096 fg), (aI 3 fz), (aR RX2 2 (imR b)), (oC 2 [.int i01, .int i02, .int i03, .int i04, .int i05, .int i06, .int i07]), (oC 2 [.int i11, .int i12, .int i13, .int i14, .int i15, .int i16, .int i17]), (oC 8 [.ref (b + 18), .int wm]), (aI 94 fw), (oC 1 [.ref (b + 20), .ref (b + 24), .int f.2.2.1.1, .int f.2.2.1.2.1, .int f.2.2.2.1, .int f.2.2.1.2.2.1, .int f.2.2.1.2.2.2.1, .int f.2.2.1.2.2.2.2.1, .int f.2.2.1.2.2.2.2.2]), (oC 0 [.ref (b + 21), .ref q0, .int c0, .int f.1.2.1, .int f.1.2.2]), (aI 3 f.1.1), (aI 3 f.2.1), (oC 0 [.ref (b + 26), .ref q1, .int c1, .int s1.2.1, .int s1.2.2]), (aI 3 s1.1), (oC 0 [.ref (b + 30), .ref q2, .int c2, .int s2.2.1, .int s2.2.2]), (aI 3 s2.1), (oC 5 (rdF (b + 34) ps x)), (aB 600 ft)]) rfl rfl) hpp (hPl_o hP1 (by intro a ha; simp only [List.mem_cons, List.not_mem_nil, or_false] at ha; rcases hpp with hpp | hpp <;> omega)) (hPl_o hP2 (by intro a ha; simp only [List.mem_cons, List.not_mem_nil, or_false] at ha; rcases hpp with hpp | hpp <;> omega)) hR hi0 hi1 htp hpo hht) (cFr_of (by intro a ha; simp only [List.mem_cons, List.not_mem_nil, or_false] at ha; omega))
  · refine w_iload_n dX9_keep_7 rfl ?_
    refine w_if_lt (tgt := 20) dX9_keep_8 rfl (fun b8 => ?_) (fun b8 => ?_)
    · refine w_aload_n dX9_keep_20 rfl ?_
      refine w_iconst (v := 1) dX9_keep_21 (by decide) ?_
      refine w_callV (ci := 9) (d' := d + 1) (mc' := 0) (ms' := 0) (As := [.int 1]) (st := []) lX9_128 vX9_isRefused rfl (hUs_at nd 0 rfl rfl) rfl (Nat.le_of_ble_eq_true rfl) dX9_keep_22 (Nat.le_of_ble_eq_true rfl) (Nat.le_of_ble_eq_true rfl) (Nat.le_refl _) (c_isRefused (hHas_sub nd (as' := [b]) (cs' := [(oC 9 [.ref (b + 1), .ref (b + 14), .ref (b + 17), .ref (b + 19), .ref (b + 25), .ref (b + 29), .ref (b + 33), .ref pp, .int ht, .int (nI tp), .int sd, .int fa, .int pl, .int tr])]) [0] rfl rfl) (nd_sub nd (as' := [b]) [0] rfl rfl)  ?_)
      refine w_heq (hUs_in nd rfl [0] (cs2 := [(oC 9 [.ref (b + 1), .ref (b + 14), .ref (b + 17), .ref (b + 19), .ref (b + 25), .ref (b + 29), .ref (b + 33), .ref pp, .int ht, .int (nI tp), .int sd, .int fa, .int (-1), .int 1]), (aR RX2 2 (imR b))]) rfl rfl) ?_
      refine w_zreturn rfl dX9_keep_25 rfl (Nat.le_of_ble_eq_true rfl) (Nat.le_of_ble_eq_true rfl) ?_
      have e : oKp ht y = (0, 1) := by
        rw [oKp, if_pos (Or.inr (Or.inl b8))]
      have e09 : iKp ht y 0 R sd i0 = i0 := by
        rw [iKp, if_pos (Or.inr (fun z => hy ⟨0, by decide, z⟩))]
      have e19 : iKp ht y 1 R sd i1 = i1 := by
        rw [iKp, if_pos (Or.inr (fun z => hy ⟨1, by decide, z⟩))]
      rw [e, e09, e19] at k
      exact k _ (cI_i (cI_put hW (cAs_nd b) rfl [0, 7] (cs2 := [(oC 9 [.ref (b + 1), .ref (b + 14), .ref (b + 17), .ref (b + 19), .ref (b + 25), .ref (b + 29), .ref (b + 33), .ref pp, .int ht, .int (nI tp), .int sd, .int fa, .int (-1), .int 1]), (oC 6 [.ref (b + 2), .ref (b + 6), .ref (b + 7), .ref (b + 8), .ref qw, .int go, .int ln, .int wn, .int rsd, .int (nI c)]), (oC 0 [.ref (b + 3), .ref ql, .int cn, .int s.2.1, .int s.2.2]), (aI 3 s.1), (aB 4096 fo), (aI 4096 fg), (aI 3 fz), (aR RX2 2 (imR b)), (oC 2 [.int i01, .int i02, .int i03, .int i04, .int i05, .int i06, .int i07]), (oC 2 [.int i11, .int i12, .int i13, .int i14, .int i15, .int i16, .int i17]), (oC 8 [.ref (b + 18), .int wm]), (aI 94 fw), (oC 1 [.ref (b + 20), .ref (b + 24), .int f.2.2.1.1, .int f.2.2.1.2.1, .int f.2.2.2.1, .int f.2.2.1.2.2.1, .int f.2.2.1.2.2.2.1, .int f.2.2.1.2.2.2.2.1, .int f.2.2.1.2.2.2.2.2]), (oC 0 [.ref (b + 21), .ref q0, .int c0, .int f.1.2.1, .int f.1.2.2]), (aI 3 f.1.1), (aI 3 f.2.1), (oC 0 [.ref (b + 26), .ref q1, .int c1, .int s1.2.1, .int s1.2.2]), (aI 3 s1.1), (oC 0 [.ref (b + 30), .ref q2, .int c2, .int s2.2.1, .int s2.2.2]), (aI 3 s2.1), (oC 5 (rdF (b + 34) ps x)), (aB 600 ft)]) rfl rfl) hpp (hPl_o hP1 (by intro a ha; simp only [List.mem_cons, List.not_mem_nil, or_false] at ha; rcases hpp with hpp | hpp <;> omega)) (hPl_o hP2 (by intro a ha; simp only [List.mem_cons, List.not_mem_nil, or_false] at ha; rcases hpp with hpp | hpp <;> omega)) hR hi0 hi1 htp hpo hht) (cFr_of (by intro a ha; simp only [List.mem_cons, List.not_mem_nil, or_false] at ha; omega))
    · refine w_iload_n dX9_keep_11 rfl ?_
      refine w_aload_n dX9_keep_12 rfl ?_
      refine w_get (v := .ref (b + 14)) fX9_19 (hUs_at nd 0 rfl rfl) rfl dX9_keep_13 ?_
      refine w_alen (v := 2) (hUs_at nd 1 rfl rfl) rfl dX9_keep_16 ?_
      refine w_icmp_lt_f (tgt := 26) dX9_keep_17 rfl (fun z => by obtain ⟨w9, h9, e9⟩ := in3 (m := 2) b8 z (by decide); exact hy ⟨w9, h9, e9⟩) ?_
      refine w_aload_n dX9_keep_20 rfl ?_
      refine w_iconst (v := 1) dX9_keep_21 (by decide) ?_
      refine w_callV (ci := 9) (d' := d + 1) (mc' := 0) (ms' := 0) (As := [.int 1]) (st := []) lX9_128 vX9_isRefused rfl (hUs_at nd 0 rfl rfl) rfl (Nat.le_of_ble_eq_true rfl) dX9_keep_22 (Nat.le_of_ble_eq_true rfl) (Nat.le_of_ble_eq_true rfl) (Nat.le_refl _) (c_isRefused (hHas_sub nd (as' := [b]) (cs' := [(oC 9 [.ref (b + 1), .ref (b + 14), .ref (b + 17), .ref (b + 19), .ref (b + 25), .ref (b + 29), .ref (b + 33), .ref pp, .int ht, .int (nI tp), .int sd, .int fa, .int pl, .int tr])]) [0] rfl rfl) (nd_sub nd (as' := [b]) [0] rfl rfl)  ?_)
      refine w_heq (hUs_in nd rfl [0] (cs2 := [(oC 9 [.ref (b + 1), .ref (b + 14), .ref (b + 17), .ref (b + 19), .ref (b + 25), .ref (b + 29), .ref (b + 33), .ref pp, .int ht, .int (nI tp), .int sd, .int fa, .int (-1), .int 1]), (aR RX2 2 (imR b))]) rfl rfl) ?_
      refine w_zreturn rfl dX9_keep_25 rfl (Nat.le_of_ble_eq_true rfl) (Nat.le_of_ble_eq_true rfl) ?_
      have e : oKp ht y = (0, 1) := by
        rw [oKp, if_pos (Or.inr (Or.inr (Int32.not_lt.mp (fun z => by obtain ⟨w9, h9, e9⟩ := in3 (m := 2) b8 z (by decide); exact hy ⟨w9, h9, e9⟩))))]
      have e09 : iKp ht y 0 R sd i0 = i0 := by
        rw [iKp, if_pos (Or.inr (fun z => hy ⟨0, by decide, z⟩))]
      have e19 : iKp ht y 1 R sd i1 = i1 := by
        rw [iKp, if_pos (Or.inr (fun z => hy ⟨1, by decide, z⟩))]
      rw [e, e09, e19] at k
      exact k _ (cI_i (cI_put hW (cAs_nd b) rfl [0, 7] (cs2 := [(oC 9 [.ref (b + 1), .ref (b + 14), .ref (b + 17), .ref (b + 19), .ref (b + 25), .ref (b + 29), .ref (b + 33), .ref pp, .int ht, .int (nI tp), .int sd, .int fa, .int (-1), .int 1]), (oC 6 [.ref (b + 2), .ref (b + 6), .ref (b + 7), .ref (b + 8), .ref qw, .int go, .int ln, .int wn, .int rsd, .int (nI c)]), (oC 0 [.ref (b + 3), .ref ql, .int cn, .int s.2.1, .int s.2.2]), (aI 3 s.1), (aB 4096 fo), (aI 4096 fg), (aI 3 fz), (aR RX2 2 (imR b)), (oC 2 [.int i01, .int i02, .int i03, .int i04, .int i05, .int i06, .int i07]), (oC 2 [.int i11, .int i12, .int i13, .int i14, .int i15, .int i16, .int i17]), (oC 8 [.ref (b + 18), .int wm]), (aI 94 fw), (oC 1 [.ref (b + 20), .ref (b + 24), .int f.2.2.1.1, .int f.2.2.1.2.1, .int f.2.2.2.1, .int f.2.2.1.2.2.1, .int f.2.2.1.2.2.2.1, .int f.2.2.1.2.2.2.2.1, .int f.2.2.1.2.2.2.2.2]), (oC 0 [.ref (b + 21), .ref q0, .int c0, .int f.1.2.1, .int f.1.2.2]), (aI 3 f.1.1), (aI 3 f.2.1), (oC 0 [.ref (b + 26), .ref q1, .int c1, .int s1.2.1, .int s1.2.2]), (aI 3 s1.1), (oC 0 [.ref (b + 30), .ref q2, .int c2, .int s2.2.1, .int s2.2.2]), (aI 3 s2.1), (oC 5 (rdF (b + 34) ps x)), (aB 600 ft)]) rfl rfl) hpp (hPl_o hP1 (by intro a ha; simp only [List.mem_cons, List.not_mem_nil, or_false] at ha; rcases hpp with hpp | hpp <;> omega)) (hPl_o hP2 (by intro a ha; simp only [List.mem_cons, List.not_mem_nil, or_false] at ha; rcases hpp with hpp | hpp <;> omega)) hR hi0 hi1 htp hpo hht) (cFr_of (by intro a ha; simp only [List.mem_cons, List.not_mem_nil, or_false] at ha; omega))
theorem p_keep {G : wG} {d : Nat} {h : hH} {Q : Option Value → hH → Prop} {b : Nat} {ft : Nat → Int32} {tp : Nat} {P : pD} {ht : Int32} {R : Option rnD} {i0 i1 : imD} {sd fa pl tr : Int32}  {y : Int32} (hI : cI h b ft tp P ht R i0 i1 sd fa pl tr) (k : ∀ h2, cI h2 b ft tp P ht R (iKp ht y 0 R sd i0) (iKp ht y 1 R sd i1) sd fa (-1) (oKp ht y).2 → cFr b h h2 → Q (some (.int (oKp ht y).1)) h2) : Cl G yX9_keep (d + 2) 0 0 [.ref b, .int y] h Q := by
  by_cases hy : ∃ w, w < 2 ∧ y = nI w
  · obtain ⟨w, hw, rfl⟩ := hy
    rcases (show w = 0 ∨ w = 1 by omega) with rfl | rfl
    · exact p_keep_0 hI k
    · exact p_keep_1 hI k
  · exact p_keep_n hI hy k
