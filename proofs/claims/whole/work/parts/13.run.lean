/-- a run's numbers: its loop's, its noise, its wave's, its seed -/
abbrev rQ : Type := lP × Int32 × wP × Int32
/-- the core as clock c begins -/
def rS (r : rQ) : Nat → cS
  | 0 => (fun _ => 0, r.2.2.2, 0)
  | c + 1 => cStp r.1 r.2.1 (lvlT r.2.2.1 (nI c)) (rS r c)
/-- the OUT of clock c -/
def rO (r : rQ) (c : Nat) : Int32 := cOut r.1 r.2.1 (rS r c)
def rV (r : rQ) (c : Nat) : Int32 := lvlT r.2.2.1 (nI c)
def rG (r : rQ) (c : Nat) : Int32 := 1000 * rO r c - rV r c
/-- the greatest sizes as clock c begins -/
def rZ (r : rQ) : Nat → Nat → Int32
  | 0 => fun _ => 0
  | c + 1 => fun j => mxI (rZ r c j) (abI ((rS r (c + 1)).1 j))
/-- a row with n places from a on written -/
def putF (f g : Nat → Int32) (a n : Nat) : Nat → Int32 := fun j => if a ≤ j ∧ j < a + n then g j else f j
theorem putF_0 (f g : Nat → Int32) (a : Nat) : putF f g a 0 = f := by
  funext j
  unfold putF
  rw [if_neg (by omega)]
theorem putF_s (f g : Nat → Int32) (a n : Nat) : upd (putF f g a n) (a + n) (g (a + n)) = putF f g a (n + 1) := by
  funext j
  unfold upd putF
  by_cases e : j = a + n
  · subst e
    rw [if_pos rfl, if_pos (by omega)]
  · rw [if_neg e]
    by_cases e2 : a ≤ j ∧ j < a + n
    · rw [if_pos e2, if_pos (by omega)]
    · rw [if_neg e2, if_neg (by omega)]
theorem valF_in (th q : Int32) : valF th q = -1 ∨ valF th q = 0 ∨ valF th q = 1 := by
  unfold valF
  split
  · split
    · exact Or.inl rfl
    · exact Or.inr (Or.inr rfl)
  · split
    · split
      · exact Or.inr (Or.inl rfl)
      · exact Or.inl rfl
    · exact Or.inr (Or.inr rfl)
theorem rO_in (r : rQ) (c : Nat) : rO r c = -1 ∨ rO r c = 0 ∨ rO r c = 1 := valF_in _ _
theorem nar_out {x : Int32} (h : x = -1 ∨ x = 0 ∨ x = 1) : vp_nar .byte x.toInt8.toInt32 = x := by
  rcases h with rfl | rfl | rfl <;> decide
set_option maxRecDepth 100000 in
set_option maxHeartbeats 4000000 in
theorem c_Plan_clear {G : wG} {d : Nat} {h : hH} {Q : Option Value → hH → Prop} {q qlr qwr : Nat} {x y : Int32} (hw : hHas h [q] [(oC 4 [.ref qlr, .ref qwr, .int x, .int y])]) (nd : [q].Nodup)  (k : Q none (hUs h [q] [oC 4 [.ref qlr, .ref qwr, .int 0, .int 0]])) : Cl G yX4_clear d 0 0 [.ref q] h Q := by
  refine Cl.of (ini := false) kX4_clear (plainFor_of_name (by decide)) (by decide) (Nat.le_of_ble_eq_true rfl) rfl rfl (fun z => by cases z) ?_
  refine w_heq (hUs_id hw).symm ?_
  refine w_aload_n dX4_clear_0 rfl ?_
  refine w_iconst (v := 0) dX4_clear_1 (by decide) ?_
  refine w_put (fs' := [.ref qlr, .ref qwr, .int 0, .int y]) fX4_25 (hUs_at nd 0 rfl rfl) rfl rfl (Nat.le_of_ble_eq_true rfl) rfl dX4_clear_2 ?_
  refine w_heq (hUs_set nd rfl 0 (cs' := [(oC 4 [.ref qlr, .ref qwr, .int 0, .int y])]) rfl rfl) ?_
  refine w_aload_n dX4_clear_5 rfl ?_
  refine w_iconst (v := 0) dX4_clear_6 (by decide) ?_
  refine w_put (fs' := [.ref qlr, .ref qwr, .int 0, .int 0]) fX4_29 (hUs_at nd 0 rfl rfl) rfl rfl (Nat.le_of_ble_eq_true rfl) rfl dX4_clear_7 ?_
  refine w_heq (hUs_set nd rfl 0 (cs' := [(oC 4 [.ref qlr, .ref qwr, .int 0, .int 0])]) rfl rfl) ?_
  refine w_return rfl dX4_clear_10 (Nat.le_of_ble_eq_true rfl) (Nat.le_of_ble_eq_true rfl) ?_
  exact k
set_option maxRecDepth 100000 in
set_option maxHeartbeats 4000000 in
theorem c_loopAt_s {G : wG} {d : Nat} {h : hH} {Q : Option Value → hH → Prop} {q qlr qwr nl nw j a : Nat} {fr : Nat → Option Nat} (hw : hHas h [q, qlr] [(oC 4 [.ref qlr, .ref qwr, .int (nI nl), .int (nI nw)]), (aR RX3 4 fr)]) (hj : j < nl) (hn : nl ≤ 4) (ha : fr j = some a) (k : Q (some (.ref a)) h) : Cl G yX4_loopAt d 0 0 [.ref q, .int (nI j)] h Q := by
  refine Cl.of (ini := false) kX4_loopAt (plainFor_of_name (by decide)) (by decide) (Nat.le_of_ble_eq_true rfl) rfl rfl (fun z => by cases z) ?_
  refine w_iload_n dX4_loopAt_0 rfl ?_
  refine w_if_lt_f (tgt := 21) dX4_loopAt_1 rfl (fun z => absurd ((nI_ltI (a := j) (b := 0) (by omega) (by omega)).mp z) (by omega)) ?_
  refine w_iload_n dX4_loopAt_4 rfl ?_
  refine w_aload_n dX4_loopAt_5 rfl ?_
  refine w_get (v := .int (nI nl)) fX4_25 (hw 0 _ _ rfl rfl) rfl dX4_loopAt_6 ?_
  refine w_icmp_ge_f (tgt := 21) dX4_loopAt_9 rfl (fun z => absurd ((nI_leI (a := nl) (b := j) (by omega) (by omega)).mp z) (by omega)) ?_
  refine w_aload_n dX4_loopAt_12 rfl ?_
  refine w_get (v := .ref qlr) fX4_12 (hw 0 _ _ rfl rfl) rfl dX4_loopAt_13 ?_
  refine w_iload_n dX4_loopAt_16 rfl ?_
  refine w_aaloadN (hw 1 _ _ rfl rfl) (by omega) (by omega) dX4_loopAt_17 ?_
  refine w_topV (z := .ref a) (by rw [ha]; rfl) ?_
  refine w_goto (tgt := 22) dX4_loopAt_18 rfl ?_
  refine w_areturn rfl dX4_loopAt_22 (Or.inl ⟨_, rfl⟩) (Or.inr ⟨_, rfl⟩) (Nat.le_of_ble_eq_true rfl) (Nat.le_of_ble_eq_true rfl) ?_
  exact k
set_option maxRecDepth 100000 in
set_option maxHeartbeats 4000000 in
theorem c_loopAt_n {G : wG} {d : Nat} {h : hH} {Q : Option Value → hH → Prop} {q qlr qwr nl nw : Nat} {x : Int32} (hw : hHas h [q] [(oC 4 [.ref qlr, .ref qwr, .int (nI nl), .int (nI nw)])]) (hx : ¬ ∃ j, j < nl ∧ x = nI j) (hn : nl ≤ 4) (k : Q (some .null) h) : Cl G yX4_loopAt d 0 0 [.ref q, .int x] h Q := by
  refine Cl.of (ini := false) kX4_loopAt (plainFor_of_name (by decide)) (by decide) (Nat.le_of_ble_eq_true rfl) rfl rfl (fun z => by cases z) ?_
  refine w_iload_n dX4_loopAt_0 rfl ?_
  refine w_if_lt (tgt := 21) dX4_loopAt_1 rfl (fun b1 => ?_) (fun b1 => ?_)
  · refine w_null dX4_loopAt_21 ?_
    refine w_areturn rfl dX4_loopAt_22 (Or.inl ⟨_, rfl⟩) (Or.inl rfl) (Nat.le_of_ble_eq_true rfl) (Nat.le_of_ble_eq_true rfl) ?_
    exact k
  · refine w_iload_n dX4_loopAt_4 rfl ?_
    refine w_aload_n dX4_loopAt_5 rfl ?_
    refine w_get (v := .int (nI nl)) fX4_25 (hw 0 _ _ rfl rfl) rfl dX4_loopAt_6 ?_
    refine w_icmp_ge_t (tgt := 21) dX4_loopAt_9 rfl (by rcases nI_of (x := x) (by simpa using b1) with ⟨j, hj, rfl⟩; exact (nI_leI (by omega) hj).mpr (by rcases Nat.lt_or_ge j nl with z | z; exact absurd ⟨j, z, rfl⟩ hx; exact z)) ?_
    refine w_null dX4_loopAt_21 ?_
    refine w_areturn rfl dX4_loopAt_22 (Or.inl ⟨_, rfl⟩) (Or.inl rfl) (Nat.le_of_ble_eq_true rfl) (Nat.le_of_ble_eq_true rfl) ?_
    exact k
set_option maxRecDepth 100000 in
set_option maxHeartbeats 4000000 in
theorem c_waveAt_s {G : wG} {d : Nat} {h : hH} {Q : Option Value → hH → Prop} {q qlr qwr nl nw j a : Nat} {fr : Nat → Option Nat} (hw : hHas h [q, qwr] [(oC 4 [.ref qlr, .ref qwr, .int (nI nl), .int (nI nw)]), (aR RX7 4 fr)]) (hj : j < nw) (hn : nw ≤ 4) (ha : fr j = some a) (k : Q (some (.ref a)) h) : Cl G yX4_waveAt d 0 0 [.ref q, .int (nI j)] h Q := by
  refine Cl.of (ini := false) kX4_waveAt (plainFor_of_name (by decide)) (by decide) (Nat.le_of_ble_eq_true rfl) rfl rfl (fun z => by cases z) ?_
  refine w_iload_n dX4_waveAt_0 rfl ?_
  refine w_if_lt_f (tgt := 21) dX4_waveAt_1 rfl (fun z => absurd ((nI_ltI (a := j) (b := 0) (by omega) (by omega)).mp z) (by omega)) ?_
  refine w_iload_n dX4_waveAt_4 rfl ?_
  refine w_aload_n dX4_waveAt_5 rfl ?_
  refine w_get (v := .int (nI nw)) fX4_29 (hw 0 _ _ rfl rfl) rfl dX4_waveAt_6 ?_
  refine w_icmp_ge_f (tgt := 21) dX4_waveAt_9 rfl (fun z => absurd ((nI_leI (a := nw) (b := j) (by omega) (by omega)).mp z) (by omega)) ?_
  refine w_aload_n dX4_waveAt_12 rfl ?_
  refine w_get (v := .ref qwr) fX4_21 (hw 0 _ _ rfl rfl) rfl dX4_waveAt_13 ?_
  refine w_iload_n dX4_waveAt_16 rfl ?_
  refine w_aaloadN (hw 1 _ _ rfl rfl) (by omega) (by omega) dX4_waveAt_17 ?_
  refine w_topV (z := .ref a) (by rw [ha]; rfl) ?_
  refine w_goto (tgt := 22) dX4_waveAt_18 rfl ?_
  refine w_areturn rfl dX4_waveAt_22 (Or.inl ⟨_, rfl⟩) (Or.inr ⟨_, rfl⟩) (Nat.le_of_ble_eq_true rfl) (Nat.le_of_ble_eq_true rfl) ?_
  exact k
set_option maxRecDepth 100000 in
set_option maxHeartbeats 4000000 in
theorem c_waveAt_n {G : wG} {d : Nat} {h : hH} {Q : Option Value → hH → Prop} {q qlr qwr nl nw : Nat} {x : Int32} (hw : hHas h [q] [(oC 4 [.ref qlr, .ref qwr, .int (nI nl), .int (nI nw)])]) (hx : ¬ ∃ j, j < nw ∧ x = nI j) (hn : nw ≤ 4) (k : Q (some .null) h) : Cl G yX4_waveAt d 0 0 [.ref q, .int x] h Q := by
  refine Cl.of (ini := false) kX4_waveAt (plainFor_of_name (by decide)) (by decide) (Nat.le_of_ble_eq_true rfl) rfl rfl (fun z => by cases z) ?_
  refine w_iload_n dX4_waveAt_0 rfl ?_
  refine w_if_lt (tgt := 21) dX4_waveAt_1 rfl (fun b1 => ?_) (fun b1 => ?_)
  · refine w_null dX4_waveAt_21 ?_
    refine w_areturn rfl dX4_waveAt_22 (Or.inl ⟨_, rfl⟩) (Or.inl rfl) (Nat.le_of_ble_eq_true rfl) (Nat.le_of_ble_eq_true rfl) ?_
    exact k
  · refine w_iload_n dX4_waveAt_4 rfl ?_
    refine w_aload_n dX4_waveAt_5 rfl ?_
    refine w_get (v := .int (nI nw)) fX4_29 (hw 0 _ _ rfl rfl) rfl dX4_waveAt_6 ?_
    refine w_icmp_ge_t (tgt := 21) dX4_waveAt_9 rfl (by rcases nI_of (x := x) (by simpa using b1) with ⟨j, hj, rfl⟩; exact (nI_leI (by omega) hj).mpr (by rcases Nat.lt_or_ge j nw with z | z; exact absurd ⟨j, z, rfl⟩ hx; exact z)) ?_
    refine w_null dX4_waveAt_21 ?_
    refine w_areturn rfl dX4_waveAt_22 (Or.inl ⟨_, rfl⟩) (Or.inl rfl) (Nat.le_of_ble_eq_true rfl) (Nat.le_of_ble_eq_true rfl) ?_
    exact k
set_option maxRecDepth 100000 in
set_option maxHeartbeats 4000000 in
theorem c_noteSizes {G : wG} {d : Nat} {h : hH} {Q : Option Value → hH → Prop} {q qc qo qg qz qw : Nat} {go ln wn sd : Int32} {c : Nat} {qs ql : Nat} {cn rg cl : Int32} {su fz : Nat → Int32} (hw : hHas h [q, qc, qs, qz] [(oC 6 [.ref qc, .ref qo, .ref qg, .ref qz, .ref qw, .int go, .int ln, .int wn, .int sd, .int (nI c)]), (oC 0 [.ref qs, .ref ql, .int cn, .int rg, .int cl]), (aI 3 su), (aI 3 fz)]) (nd : [q, qc, qs, qz].Nodup)  (k : Q none (hUs h [q, qc, qs, qz] [(oC 6 [.ref qc, .ref qo, .ref qg, .ref qz, .ref qw, .int go, .int ln, .int wn, .int sd, .int (nI c)]), (oC 0 [.ref qs, .ref ql, .int cn, .int rg, .int cl]), aI 3 su, aI 3 (fun j => mxI (fz j) (abI (su j)))])) : Cl G yX6_noteSizes (d + 1) 0 0 [.ref q] h Q := by
  refine Cl.of (ini := false) kX6_noteSizes (plainFor_of_name (by decide)) (by decide) (Nat.le_of_ble_eq_true rfl) rfl rfl (fun z => by cases z) ?_
  refine w_heq (hUs_id hw).symm ?_
  refine w_iconst (v := (nI 0)) dX6_noteSizes_0 (by decide) ?_
  refine w_istore_n (ls2 := [some (.ref q), some (.int (nI 0))]) dX6_noteSizes_1 (by decide) rfl rfl ?_
  refine w_iload_n dX6_noteSizes_2 rfl ?_
  refine w_aload_n dX6_noteSizes_3 rfl ?_
  refine w_get (v := .ref qz) fX6_26 (hUs_at nd 0 rfl rfl) rfl dX6_noteSizes_4 ?_
  refine w_alen (v := (nI 3)) (hUs_at nd 3 rfl rfl) rfl dX6_noteSizes_7 ?_
  refine w_icmp_ge_f (tgt := 44) dX6_noteSizes_8 rfl (fun z => absurd ((nI_leI (a := 3) (b := 0) (by omega) (by omega)).mp z) (by omega)) ?_
  refine w_aload_n dX6_noteSizes_11 rfl ?_
  refine w_get (v := .ref qz) fX6_26 (hUs_at nd 0 rfl rfl) rfl dX6_noteSizes_12 ?_
  refine w_iload_n dX6_noteSizes_15 rfl ?_
  refine w_aload_n dX6_noteSizes_16 rfl ?_
  refine w_get (v := .ref qz) fX6_26 (hUs_at nd 0 rfl rfl) rfl dX6_noteSizes_17 ?_
  refine w_iload_n dX6_noteSizes_20 rfl ?_
  refine w_ialoadN (hUs_at nd 3 rfl rfl) (by omega) (by omega) dX6_noteSizes_21 ?_
  refine w_aload_n dX6_noteSizes_22 rfl ?_
  refine w_get (v := .ref qc) fX6_12 (hUs_at nd 0 rfl rfl) rfl dX6_noteSizes_23 ?_
  refine w_get (v := .ref qs) fX6_83 (hUs_at nd 1 rfl rfl) rfl dX6_noteSizes_26 ?_
  refine w_iload_n dX6_noteSizes_29 rfl ?_
  refine w_ialoadN (hUs_at nd 2 rfl rfl) (by omega) (by omega) dX6_noteSizes_30 ?_
  refine w_callS (d' := d) (mc' := 0) (ms' := 0) (As := [.int (su 0)]) (st := [.int (fz 0), .int (nI 0), .ref qz]) lX6_86 vJ9_abs_0f7a4 rfl (Nat.le_of_ble_eq_true rfl) dX6_noteSizes_31 (Nat.le_of_ble_eq_true rfl) (Nat.le_of_ble_eq_true rfl) (Nat.le_refl _) (c_abs ?_)
  refine w_callS (d' := d) (mc' := 0) (ms' := 0) (As := [.int (fz 0), .int (abI (su 0))]) (st := [.int (nI 0), .ref qz]) lX6_91 vJ9_max_7cf53 rfl (Nat.le_of_ble_eq_true rfl) dX6_noteSizes_34 (Nat.le_of_ble_eq_true rfl) (Nat.le_of_ble_eq_true rfl) (Nat.le_refl _) (c_max ?_)
  refine w_iastoreN (hUs_at nd 3 rfl rfl) (by omega) (by omega) dX6_noteSizes_37 ?_
  refine w_heq (hUs_set nd rfl 3 (cs' := [(oC 6 [.ref qc, .ref qo, .ref qg, .ref qz, .ref qw, .int go, .int ln, .int wn, .int sd, .int (nI c)]), (oC 0 [.ref qs, .ref ql, .int cn, .int rg, .int cl]), (aI 3 su), (aI 3 (upd fz 0 (mxI (fz 0) (abI (su 0)))))]) rfl rfl) ?_
  refine w_iinc (v := nI (0 + 1)) (ls2 := [some (.ref q), some (.int (nI (0 + 1)))]) dX6_noteSizes_38 rfl (nI_1 _) (by decide) rfl rfl ?_
  refine w_goto (tgt := 2) dX6_noteSizes_41 rfl ?_
  refine w_iload_n dX6_noteSizes_2 rfl ?_
  refine w_aload_n dX6_noteSizes_3 rfl ?_
  refine w_get (v := .ref qz) fX6_26 (hUs_at nd 0 rfl rfl) rfl dX6_noteSizes_4 ?_
  refine w_alen (v := (nI 3)) (hUs_at nd 3 rfl rfl) rfl dX6_noteSizes_7 ?_
  refine w_icmp_ge_f (tgt := 44) dX6_noteSizes_8 rfl (fun z => absurd ((nI_leI (a := 3) (b := (0 + 1)) (by omega) (by omega)).mp z) (by omega)) ?_
  refine w_aload_n dX6_noteSizes_11 rfl ?_
  refine w_get (v := .ref qz) fX6_26 (hUs_at nd 0 rfl rfl) rfl dX6_noteSizes_12 ?_
  refine w_iload_n dX6_noteSizes_15 rfl ?_
  refine w_aload_n dX6_noteSizes_16 rfl ?_
  refine w_get (v := .ref qz) fX6_26 (hUs_at nd 0 rfl rfl) rfl dX6_noteSizes_17 ?_
  refine w_iload_n dX6_noteSizes_20 rfl ?_
  refine w_ialoadN (hUs_at nd 3 rfl rfl) (by omega) (by omega) dX6_noteSizes_21 ?_
  refine w_aload_n dX6_noteSizes_22 rfl ?_
  refine w_get (v := .ref qc) fX6_12 (hUs_at nd 0 rfl rfl) rfl dX6_noteSizes_23 ?_
  refine w_get (v := .ref qs) fX6_83 (hUs_at nd 1 rfl rfl) rfl dX6_noteSizes_26 ?_
  refine w_iload_n dX6_noteSizes_29 rfl ?_
  refine w_ialoadN (hUs_at nd 2 rfl rfl) (by omega) (by omega) dX6_noteSizes_30 ?_
  refine w_callS (d' := d) (mc' := 0) (ms' := 0) (As := [.int (su (0 + 1))]) (st := [.int ((upd fz 0 (mxI (fz 0) (abI (su 0)))) (0 + 1)), .int (nI (0 + 1)), .ref qz]) lX6_86 vJ9_abs_0f7a4 rfl (Nat.le_of_ble_eq_true rfl) dX6_noteSizes_31 (Nat.le_of_ble_eq_true rfl) (Nat.le_of_ble_eq_true rfl) (Nat.le_refl _) (c_abs ?_)
  refine w_callS (d' := d) (mc' := 0) (ms' := 0) (As := [.int ((upd fz 0 (mxI (fz 0) (abI (su 0)))) (0 + 1)), .int (abI (su (0 + 1)))]) (st := [.int (nI (0 + 1)), .ref qz]) lX6_91 vJ9_max_7cf53 rfl (Nat.le_of_ble_eq_true rfl) dX6_noteSizes_34 (Nat.le_of_ble_eq_true rfl) (Nat.le_of_ble_eq_true rfl) (Nat.le_refl _) (c_max ?_)
  refine w_iastoreN (hUs_at nd 3 rfl rfl) (by omega) (by omega) dX6_noteSizes_37 ?_
  refine w_heq (hUs_set nd rfl 3 (cs' := [(oC 6 [.ref qc, .ref qo, .ref qg, .ref qz, .ref qw, .int go, .int ln, .int wn, .int sd, .int (nI c)]), (oC 0 [.ref qs, .ref ql, .int cn, .int rg, .int cl]), (aI 3 su), (aI 3 (upd (upd fz 0 (mxI (fz 0) (abI (su 0)))) (0 + 1) (mxI ((upd fz 0 (mxI (fz 0) (abI (su 0)))) (0 + 1)) (abI (su (0 + 1))))))]) rfl rfl) ?_
  refine w_iinc (v := nI ((0 + 1) + 1)) (ls2 := [some (.ref q), some (.int (nI ((0 + 1) + 1)))]) dX6_noteSizes_38 rfl (nI_1 _) (by decide) rfl rfl ?_
  refine w_goto (tgt := 2) dX6_noteSizes_41 rfl ?_
  refine w_iload_n dX6_noteSizes_2 rfl ?_
  refine w_aload_n dX6_noteSizes_3 rfl ?_
  refine w_get (v := .ref qz) fX6_26 (hUs_at nd 0 rfl rfl) rfl dX6_noteSizes_4 ?_
  refine w_alen (v := (nI 3)) (hUs_at nd 3 rfl rfl) rfl dX6_noteSizes_7 ?_
  refine w_icmp_ge_f (tgt := 44) dX6_noteSizes_8 rfl (fun z => absurd ((nI_leI (a := 3) (b := ((0 + 1) + 1)) (by omega) (by omega)).mp z) (by omega)) ?_
  refine w_aload_n dX6_noteSizes_11 rfl ?_
  refine w_get (v := .ref qz) fX6_26 (hUs_at nd 0 rfl rfl) rfl dX6_noteSizes_12 ?_
  refine w_iload_n dX6_noteSizes_15 rfl ?_
  refine w_aload_n dX6_noteSizes_16 rfl ?_
  refine w_get (v := .ref qz) fX6_26 (hUs_at nd 0 rfl rfl) rfl dX6_noteSizes_17 ?_
  refine w_iload_n dX6_noteSizes_20 rfl ?_
  refine w_ialoadN (hUs_at nd 3 rfl rfl) (by omega) (by omega) dX6_noteSizes_21 ?_
  refine w_aload_n dX6_noteSizes_22 rfl ?_
  refine w_get (v := .ref qc) fX6_12 (hUs_at nd 0 rfl rfl) rfl dX6_noteSizes_23 ?_
  refine w_get (v := .ref qs) fX6_83 (hUs_at nd 1 rfl rfl) rfl dX6_noteSizes_26 ?_
  refine w_iload_n dX6_noteSizes_29 rfl ?_
  refine w_ialoadN (hUs_at nd 2 rfl rfl) (by omega) (by omega) dX6_noteSizes_30 ?_
  refine w_callS (d' := d) (mc' := 0) (ms' := 0) (As := [.int (su ((0 + 1) + 1))]) (st := [.int ((upd (upd fz 0 (mxI (fz 0) (abI (su 0)))) (0 + 1) (mxI ((upd fz 0 (mxI (fz 0) (abI (su 0)))) (0 + 1)) (abI (su (0 + 1))))) ((0 + 1) + 1)), .int (nI ((0 + 1) + 1)), .ref qz]) lX6_86 vJ9_abs_0f7a4 rfl (Nat.le_of_ble_eq_true rfl) dX6_noteSizes_31 (Nat.le_of_ble_eq_true rfl) (Nat.le_of_ble_eq_true rfl) (Nat.le_refl _) (c_abs ?_)
  refine w_callS (d' := d) (mc' := 0) (ms' := 0) (As := [.int ((upd (upd fz 0 (mxI (fz 0) (abI (su 0)))) (0 + 1) (mxI ((upd fz 0 (mxI (fz 0) (abI (su 0)))) (0 + 1)) (abI (su (0 + 1))))) ((0 + 1) + 1)), .int (abI (su ((0 + 1) + 1)))]) (st := [.int (nI ((0 + 1) + 1)), .ref qz]) lX6_91 vJ9_max_7cf53 rfl (Nat.le_of_ble_eq_true rfl) dX6_noteSizes_34 (Nat.le_of_ble_eq_true rfl) (Nat.le_of_ble_eq_true rfl) (Nat.le_refl _) (c_max ?_)
  refine w_iastoreN (hUs_at nd 3 rfl rfl) (by omega) (by omega) dX6_noteSizes_37 ?_
  refine w_heq (hUs_set nd rfl 3 (cs' := [(oC 6 [.ref qc, .ref qo, .ref qg, .ref qz, .ref qw, .int go, .int ln, .int wn, .int sd, .int (nI c)]), (oC 0 [.ref qs, .ref ql, .int cn, .int rg, .int cl]), (aI 3 su), (aI 3 (upd (upd (upd fz 0 (mxI (fz 0) (abI (su 0)))) (0 + 1) (mxI ((upd fz 0 (mxI (fz 0) (abI (su 0)))) (0 + 1)) (abI (su (0 + 1))))) ((0 + 1) + 1) (mxI ((upd (upd fz 0 (mxI (fz 0) (abI (su 0)))) (0 + 1) (mxI ((upd fz 0 (mxI (fz 0) (abI (su 0)))) (0 + 1)) (abI (su (0 + 1))))) ((0 + 1) + 1)) (abI (su ((0 + 1) + 1))))))]) rfl rfl) ?_
  refine w_iinc (v := nI (((0 + 1) + 1) + 1)) (ls2 := [some (.ref q), some (.int (nI (((0 + 1) + 1) + 1)))]) dX6_noteSizes_38 rfl (nI_1 _) (by decide) rfl rfl ?_
  refine w_goto (tgt := 2) dX6_noteSizes_41 rfl ?_
  refine w_iload_n dX6_noteSizes_2 rfl ?_
  refine w_aload_n dX6_noteSizes_3 rfl ?_
  refine w_get (v := .ref qz) fX6_26 (hUs_at nd 0 rfl rfl) rfl dX6_noteSizes_4 ?_
  refine w_alen (v := (nI 3)) (hUs_at nd 3 rfl rfl) rfl dX6_noteSizes_7 ?_
  refine w_icmp_ge_t (tgt := 44) dX6_noteSizes_8 rfl ((nI_leI (a := 3) (b := (((0 + 1) + 1) + 1)) (by omega) (by omega)).mpr (by omega)) ?_
  refine w_wext nd rfl 3 (fun j => mxI (fz j) (abI (su j))) rfl rfl rfl (fun j hj => by
    rcases (show j = 0 ∨ j = 1 ∨ j = 2 by omega) with rfl | rfl | rfl <;> simp [upd]) ?_
  exact w_return rfl dX6_noteSizes_44 (Nat.le_of_ble_eq_true rfl) (Nat.le_of_ble_eq_true rfl) k
def hasS (a b : Int32) (c : Nat) : Int32 := if 0 ≤ a ∧ a ≤ b ∧ b < nI c then 1 else 0
set_option maxRecDepth 100000 in
set_option maxHeartbeats 4000000 in
theorem c_hasStretch {G : wG} {d : Nat} {h : hH} {Q : Option Value → hH → Prop} {q qc qo qg qz qw : Nat} {go ln wn sd : Int32} {c : Nat} {a b : Int32} (hw : hHas h [q] [(oC 6 [.ref qc, .ref qo, .ref qg, .ref qz, .ref qw, .int go, .int ln, .int wn, .int sd, .int (nI c)])])  (k : Q (some (.int (hasS a b c))) h) : Cl G yX6_hasStretch d 0 0 [.ref q, .int a, .int b] h Q := by
  refine Cl.of (ini := false) kX6_hasStretch (plainFor_of_name (by decide)) (by decide) (Nat.le_of_ble_eq_true rfl) rfl rfl (fun z => by cases z) ?_
  refine w_iload_n dX6_hasStretch_0 rfl ?_
  refine w_if_lt (tgt := 21) dX6_hasStretch_1 rfl (fun b1 => ?_) (fun b1 => ?_)
  · refine w_iconst (v := 0) dX6_hasStretch_21 (by decide) ?_
    refine w_zreturn rfl dX6_hasStretch_22 rfl (Nat.le_of_ble_eq_true rfl) (Nat.le_of_ble_eq_true rfl) ?_
    have e0 : hasS a b c = 0 := by
      rw [hasS, if_neg (fun z => absurd z.1 (by simpa using b1))]
    rw [e0] at k
    exact k
  · refine w_iload_n dX6_hasStretch_4 rfl ?_
    refine w_iload_n dX6_hasStretch_5 rfl ?_
    refine w_icmp_gt (tgt := 21) dX6_hasStretch_6 rfl (fun b6 => ?_) (fun b6 => ?_)
    · refine w_iconst (v := 0) dX6_hasStretch_21 (by decide) ?_
      refine w_zreturn rfl dX6_hasStretch_22 rfl (Nat.le_of_ble_eq_true rfl) (Nat.le_of_ble_eq_true rfl) ?_
      have e0 : hasS a b c = 0 := by
        rw [hasS, if_neg (fun z => absurd z.2.1 (by simpa using b6))]
      rw [e0] at k
      exact k
    · refine w_iload_n dX6_hasStretch_9 rfl ?_
      refine w_aload_n dX6_hasStretch_10 rfl ?_
      refine w_get (v := .int (nI c)) fX6_60 (hw 0 _ _ rfl rfl) rfl dX6_hasStretch_11 ?_
      refine w_icmp_ge (tgt := 21) dX6_hasStretch_14 rfl (fun b14 => ?_) (fun b14 => ?_)
      · refine w_iconst (v := 0) dX6_hasStretch_21 (by decide) ?_
        refine w_zreturn rfl dX6_hasStretch_22 rfl (Nat.le_of_ble_eq_true rfl) (Nat.le_of_ble_eq_true rfl) ?_
        have e0 : hasS a b c = 0 := by
          rw [hasS, if_neg (fun z => absurd z.2.2 (by simpa using b14))]
        rw [e0] at k
        exact k
      · refine w_iconst (v := 1) dX6_hasStretch_17 (by decide) ?_
        refine w_goto (tgt := 22) dX6_hasStretch_18 rfl ?_
        refine w_zreturn rfl dX6_hasStretch_22 rfl (Nat.le_of_ble_eq_true rfl) (Nat.le_of_ble_eq_true rfl) ?_
        have e0 : hasS a b c = 1 := by
          rw [hasS, if_pos ⟨by simpa using b1, by simpa using b6, by simpa using b14⟩]
        rw [e0] at k
        exact k
set_option maxRecDepth 100000 in
set_option maxHeartbeats 4000000 in
theorem l_countOf {G : wG} {d : Nat} {h : hH} {Q : Option Value → hH → Prop} {q qc qo qg qz qw : Nat} {go ln wn sd : Int32} {c : Nat} {A B : Nat} {fo : Nat → Int32} {v : Int32} (hw : hHas h [q, qo] [(oC 6 [.ref qc, .ref qo, .ref qg, .ref qz, .ref qw, .int go, .int ln, .int wn, .int sd, .int (nI c)]), (aB 4096 fo)]) (hA : A ≤ B) (hB : B < 4096) (k : Q (some (.int (fld (fun t s => s + (if fo t = v then 1 else 0)) (A) (B + 1 - A) 0))) h) : ∀ (n : Nat) (i : Nat) (x : Int32), i + n = B + 1 - A → x = fld (fun t s => s + (if fo t = v then 1 else 0)) (A) (i) 0 → WP G RX6 cX6_countOf 6 (some .int) false d 0 0 0 0 Q 6 [some (.ref q), some (.int v), some (.int (nI A)), some (.int (nI B)), some (.int x), some (.int (nI (A + i)))] [] h := by
  intro n
  induction n with
  | zero =>
    intro i x hi e
    refine w_iload dX6_countOf_6 rfl ?_
    refine w_iload_n dX6_countOf_8 rfl ?_
    refine w_icmp_gt_t (tgt := 39) dX6_countOf_9 rfl ((nI_ltI (a := B) (b := (A + i)) (by omega) (by omega)).mpr (by omega)) ?_
    refine w_iload dX6_countOf_39 rfl ?_
    refine w_ireturn rfl dX6_countOf_41 (Nat.le_of_ble_eq_true rfl) (Nat.le_of_ble_eq_true rfl) ?_
    have z : i = B + 1 - A := by omega
    subst z
    rw [← e] at k
    exact k
  | succ n ih =>
    intro i x hi e
    refine w_iload dX6_countOf_6 rfl ?_
    refine w_iload_n dX6_countOf_8 rfl ?_
    refine w_icmp_gt_f (tgt := 39) dX6_countOf_9 rfl (fun z => absurd ((nI_ltI (a := B) (b := (A + i)) (by omega) (by omega)).mp z) (by omega)) ?_
    refine w_iload dX6_countOf_12 rfl ?_
    refine w_aload_n dX6_countOf_14 rfl ?_
    refine w_get (v := .ref qo) fX6_18 (hw 0 _ _ rfl rfl) rfl dX6_countOf_15 ?_
    refine w_iload dX6_countOf_18 rfl ?_
    refine w_baloadN (hw 1 _ _ rfl rfl) (by omega) (by omega) dX6_countOf_20 ?_
    refine w_iload_n dX6_countOf_21 rfl ?_
    refine w_icmp_ne (tgt := 29) dX6_countOf_22 rfl (fun b22 => ?_) (fun b22 => ?_)
    · refine w_iconst (v := 0) dX6_countOf_29 (by decide) ?_
      refine w_iadd dX6_countOf_30 ?_
      refine w_istore (ls2 := [some (.ref q), some (.int v), some (.int (nI A)), some (.int (nI B)), some (.int (x + 0)), some (.int (nI (A + i)))]) dX6_countOf_31 (by decide) rfl rfl ?_
      refine w_iinc (v := nI ((A + i) + 1)) (ls2 := [some (.ref q), some (.int v), some (.int (nI A)), some (.int (nI B)), some (.int (x + 0)), some (.int (nI ((A + i) + 1)))]) dX6_countOf_33 rfl (nI_1 _) (by decide) rfl rfl ?_
      refine w_goto (tgt := 6) dX6_countOf_36 rfl ?_
      exact ih (i + 1) _ (by omega) (by rw [e]; simp [fld, *])
    · refine w_iconst (v := 1) dX6_countOf_25 (by decide) ?_
      refine w_goto (tgt := 30) dX6_countOf_26 rfl ?_
      refine w_iadd dX6_countOf_30 ?_
      refine w_istore (ls2 := [some (.ref q), some (.int v), some (.int (nI A)), some (.int (nI B)), some (.int (x + 1)), some (.int (nI (A + i)))]) dX6_countOf_31 (by decide) rfl rfl ?_
      refine w_iinc (v := nI ((A + i) + 1)) (ls2 := [some (.ref q), some (.int v), some (.int (nI A)), some (.int (nI B)), some (.int (x + 1)), some (.int (nI ((A + i) + 1)))]) dX6_countOf_33 rfl (nI_1 _) (by decide) rfl rfl ?_
      refine w_goto (tgt := 6) dX6_countOf_36 rfl ?_
      exact ih (i + 1) _ (by omega) (by rw [e]; simp [fld, *])
set_option maxRecDepth 100000 in
set_option maxHeartbeats 4000000 in
theorem c_countOf {G : wG} {d : Nat} {h : hH} {Q : Option Value → hH → Prop} {q qc qo qg qz qw : Nat} {go ln wn sd : Int32} {c : Nat} {A B : Nat} {fo : Nat → Int32} {v : Int32} (hw : hHas h [q, qo] [(oC 6 [.ref qc, .ref qo, .ref qg, .ref qz, .ref qw, .int go, .int ln, .int wn, .int sd, .int (nI c)]), (aB 4096 fo)]) (hA : A ≤ B) (hB : B < 4096) (k : Q (some (.int (fld (fun t s => s + (if fo t = v then 1 else 0)) (A) (B + 1 - A) 0))) h) : Cl G yX6_countOf d 0 0 [.ref q, .int v, .int (nI A), .int (nI B)] h Q := by
  refine Cl.of (ini := false) kX6_countOf (plainFor_of_name (by decide)) (by decide) (Nat.le_of_ble_eq_true rfl) rfl rfl (fun z => by cases z) ?_
  refine w_iconst (v := 0) dX6_countOf_0 (by decide) ?_
  refine w_istore (ls2 := [some (.ref q), some (.int v), some (.int (nI A)), some (.int (nI B)), some (.int 0), none]) dX6_countOf_1 (by decide) rfl rfl ?_
  refine w_iload_n dX6_countOf_3 rfl ?_
  refine w_istore (ls2 := [some (.ref q), some (.int v), some (.int (nI A)), some (.int (nI B)), some (.int 0), some (.int (nI A))]) dX6_countOf_4 (by decide) rfl rfl ?_
  exact l_countOf hw hA hB k (B + 1 - A) 0 _ (by omega) rfl
set_option maxRecDepth 100000 in
set_option maxHeartbeats 4000000 in
theorem l_gapsAdded {G : wG} {d : Nat} {h : hH} {Q : Option Value → hH → Prop} {q qc qo qg qz qw : Nat} {go ln wn sd : Int32} {c : Nat} {A B : Nat} {fg : Nat → Int32} (hw : hHas h [q, qg] [(oC 6 [.ref qc, .ref qo, .ref qg, .ref qz, .ref qw, .int go, .int ln, .int wn, .int sd, .int (nI c)]), (aI 4096 fg)]) (hA : A ≤ B) (hB : B < 4096) (k : Q (some (.int (fld (fun t s => s + fg t) (A) (B + 1 - A) 0))) h) : ∀ (n : Nat) (i : Nat) (x : Int32), i + n = B + 1 - A → x = fld (fun t s => s + fg t) (A) (i) 0 → WP G RX6 cX6_gapsAdded 5 (some .int) false d 0 0 0 0 Q 5 [some (.ref q), some (.int (nI A)), some (.int (nI B)), some (.int x), some (.int (nI (A + i)))] [] h := by
  intro n
  induction n with
  | zero =>
    intro i x hi e
    refine w_iload dX6_gapsAdded_5 rfl ?_
    refine w_iload_n dX6_gapsAdded_7 rfl ?_
    refine w_icmp_gt_t (tgt := 27) dX6_gapsAdded_8 rfl ((nI_ltI (a := B) (b := (A + i)) (by omega) (by omega)).mpr (by omega)) ?_
    refine w_iload_n dX6_gapsAdded_27 rfl ?_
    refine w_ireturn rfl dX6_gapsAdded_28 (Nat.le_of_ble_eq_true rfl) (Nat.le_of_ble_eq_true rfl) ?_
    have z : i = B + 1 - A := by omega
    subst z
    rw [← e] at k
    exact k
  | succ n ih =>
    intro i x hi e
    refine w_iload dX6_gapsAdded_5 rfl ?_
    refine w_iload_n dX6_gapsAdded_7 rfl ?_
    refine w_icmp_gt_f (tgt := 27) dX6_gapsAdded_8 rfl (fun z => absurd ((nI_ltI (a := B) (b := (A + i)) (by omega) (by omega)).mp z) (by omega)) ?_
    refine w_iload_n dX6_gapsAdded_11 rfl ?_
    refine w_aload_n dX6_gapsAdded_12 rfl ?_
    refine w_get (v := .ref qg) fX6_22 (hw 0 _ _ rfl rfl) rfl dX6_gapsAdded_13 ?_
    refine w_iload dX6_gapsAdded_16 rfl ?_
    refine w_ialoadN (hw 1 _ _ rfl rfl) (by omega) (by omega) dX6_gapsAdded_18 ?_
    refine w_iadd dX6_gapsAdded_19 ?_
    refine w_istore_n (ls2 := [some (.ref q), some (.int (nI A)), some (.int (nI B)), some (.int (x + (fg (A + i)))), some (.int (nI (A + i)))]) dX6_gapsAdded_20 (by decide) rfl rfl ?_
    refine w_iinc (v := nI ((A + i) + 1)) (ls2 := [some (.ref q), some (.int (nI A)), some (.int (nI B)), some (.int (x + (fg (A + i)))), some (.int (nI ((A + i) + 1)))]) dX6_gapsAdded_21 rfl (nI_1 _) (by decide) rfl rfl ?_
    refine w_goto (tgt := 5) dX6_gapsAdded_24 rfl ?_
    exact ih (i + 1) _ (by omega) (by rw [e]; simp [fld, *])
set_option maxRecDepth 100000 in
set_option maxHeartbeats 4000000 in
theorem c_gapsAdded {G : wG} {d : Nat} {h : hH} {Q : Option Value → hH → Prop} {q qc qo qg qz qw : Nat} {go ln wn sd : Int32} {c : Nat} {A B : Nat} {fg : Nat → Int32} (hw : hHas h [q, qg] [(oC 6 [.ref qc, .ref qo, .ref qg, .ref qz, .ref qw, .int go, .int ln, .int wn, .int sd, .int (nI c)]), (aI 4096 fg)]) (hA : A ≤ B) (hB : B < 4096) (k : Q (some (.int (fld (fun t s => s + fg t) (A) (B + 1 - A) 0))) h) : Cl G yX6_gapsAdded d 0 0 [.ref q, .int (nI A), .int (nI B)] h Q := by
  refine Cl.of (ini := false) kX6_gapsAdded (plainFor_of_name (by decide)) (by decide) (Nat.le_of_ble_eq_true rfl) rfl rfl (fun z => by cases z) ?_
  refine w_iconst (v := 0) dX6_gapsAdded_0 (by decide) ?_
  refine w_istore_n (ls2 := [some (.ref q), some (.int (nI A)), some (.int (nI B)), some (.int 0), none]) dX6_gapsAdded_1 (by decide) rfl rfl ?_
  refine w_iload_n dX6_gapsAdded_2 rfl ?_
  refine w_istore (ls2 := [some (.ref q), some (.int (nI A)), some (.int (nI B)), some (.int 0), some (.int (nI A))]) dX6_gapsAdded_3 (by decide) rfl rfl ?_
  exact l_gapsAdded hw hA hB k (B + 1 - A) 0 _ (by omega) rfl
set_option maxRecDepth 100000 in
set_option maxHeartbeats 4000000 in
theorem l_outsAdded {G : wG} {d : Nat} {h : hH} {Q : Option Value → hH → Prop} {q qc qo qg qz qw : Nat} {go ln wn sd : Int32} {c : Nat} {A B : Nat} {fo : Nat → Int32} (hw : hHas h [q, qo] [(oC 6 [.ref qc, .ref qo, .ref qg, .ref qz, .ref qw, .int go, .int ln, .int wn, .int sd, .int (nI c)]), (aB 4096 fo)]) (hA : A ≤ B) (hB : B < 4096) (k : Q (some (.int (fld (fun t s => s + fo t) (A) (B + 1 - A) 0))) h) : ∀ (n : Nat) (i : Nat) (x : Int32), i + n = B + 1 - A → x = fld (fun t s => s + fo t) (A) (i) 0 → WP G RX6 cX6_outsAdded 5 (some .int) false d 0 0 0 0 Q 5 [some (.ref q), some (.int (nI A)), some (.int (nI B)), some (.int x), some (.int (nI (A + i)))] [] h := by
  intro n
  induction n with
  | zero =>
    intro i x hi e
    refine w_iload dX6_outsAdded_5 rfl ?_
    refine w_iload_n dX6_outsAdded_7 rfl ?_
    refine w_icmp_gt_t (tgt := 27) dX6_outsAdded_8 rfl ((nI_ltI (a := B) (b := (A + i)) (by omega) (by omega)).mpr (by omega)) ?_
    refine w_iload_n dX6_outsAdded_27 rfl ?_
    refine w_ireturn rfl dX6_outsAdded_28 (Nat.le_of_ble_eq_true rfl) (Nat.le_of_ble_eq_true rfl) ?_
    have z : i = B + 1 - A := by omega
    subst z
    rw [← e] at k
    exact k
  | succ n ih =>
    intro i x hi e
    refine w_iload dX6_outsAdded_5 rfl ?_
    refine w_iload_n dX6_outsAdded_7 rfl ?_
    refine w_icmp_gt_f (tgt := 27) dX6_outsAdded_8 rfl (fun z => absurd ((nI_ltI (a := B) (b := (A + i)) (by omega) (by omega)).mp z) (by omega)) ?_
    refine w_iload_n dX6_outsAdded_11 rfl ?_
    refine w_aload_n dX6_outsAdded_12 rfl ?_
    refine w_get (v := .ref qo) fX6_18 (hw 0 _ _ rfl rfl) rfl dX6_outsAdded_13 ?_
    refine w_iload dX6_outsAdded_16 rfl ?_
    refine w_baloadN (hw 1 _ _ rfl rfl) (by omega) (by omega) dX6_outsAdded_18 ?_
    refine w_iadd dX6_outsAdded_19 ?_
    refine w_istore_n (ls2 := [some (.ref q), some (.int (nI A)), some (.int (nI B)), some (.int (x + (fo (A + i)))), some (.int (nI (A + i)))]) dX6_outsAdded_20 (by decide) rfl rfl ?_
    refine w_iinc (v := nI ((A + i) + 1)) (ls2 := [some (.ref q), some (.int (nI A)), some (.int (nI B)), some (.int (x + (fo (A + i)))), some (.int (nI ((A + i) + 1)))]) dX6_outsAdded_21 rfl (nI_1 _) (by decide) rfl rfl ?_
    refine w_goto (tgt := 5) dX6_outsAdded_24 rfl ?_
    exact ih (i + 1) _ (by omega) (by rw [e]; simp [fld, *])
set_option maxRecDepth 100000 in
set_option maxHeartbeats 4000000 in
theorem c_outsAdded {G : wG} {d : Nat} {h : hH} {Q : Option Value → hH → Prop} {q qc qo qg qz qw : Nat} {go ln wn sd : Int32} {c : Nat} {A B : Nat} {fo : Nat → Int32} (hw : hHas h [q, qo] [(oC 6 [.ref qc, .ref qo, .ref qg, .ref qz, .ref qw, .int go, .int ln, .int wn, .int sd, .int (nI c)]), (aB 4096 fo)]) (hA : A ≤ B) (hB : B < 4096) (k : Q (some (.int (fld (fun t s => s + fo t) (A) (B + 1 - A) 0))) h) : Cl G yX6_outsAdded d 0 0 [.ref q, .int (nI A), .int (nI B)] h Q := by
  refine Cl.of (ini := false) kX6_outsAdded (plainFor_of_name (by decide)) (by decide) (Nat.le_of_ble_eq_true rfl) rfl rfl (fun z => by cases z) ?_
  refine w_iconst (v := 0) dX6_outsAdded_0 (by decide) ?_
  refine w_istore_n (ls2 := [some (.ref q), some (.int (nI A)), some (.int (nI B)), some (.int 0), none]) dX6_outsAdded_1 (by decide) rfl rfl ?_
  refine w_iload_n dX6_outsAdded_2 rfl ?_
  refine w_istore (ls2 := [some (.ref q), some (.int (nI A)), some (.int (nI B)), some (.int 0), some (.int (nI A))]) dX6_outsAdded_3 (by decide) rfl rfl ?_
  exact l_outsAdded hw hA hB k (B + 1 - A) 0 _ (by omega) rfl
