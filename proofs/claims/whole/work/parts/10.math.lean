set_option maxRecDepth 100000 in
set_option maxHeartbeats 4000000 in
theorem c_max {G : wG} {d : Nat} {h : hH} {Q : Option Value → hH → Prop} {x y : Int32}  (k : Q (some (.int (mxI x y))) h) : Cl G yJ9_max_7cf53 d 0 0 [.int x, .int y] h Q := by
  refine Cl.of (ini := false) kJ9_max_7cf53 (by decide +kernel) (by decide) (Nat.le_of_ble_eq_true rfl) rfl rfl (fun z => by cases z) ?_
  refine w_iload_n dJ9_max_7cf53_0 rfl ?_
  refine w_iload_n dJ9_max_7cf53_1 rfl ?_
  refine w_icmp_lt (tgt := 9) dJ9_max_7cf53_2 rfl (fun b2 => ?_) (fun b2 => ?_)
  · refine w_iload_n dJ9_max_7cf53_9 rfl ?_
    refine w_ireturn rfl dJ9_max_7cf53_10 (Nat.le_of_ble_eq_true rfl) (Nat.le_of_ble_eq_true rfl) ?_
    have e : mxI x y = y := by
      simp [mxI, *]
    rw [e] at k
    exact k
  · refine w_iload_n dJ9_max_7cf53_5 rfl ?_
    refine w_goto (tgt := 10) dJ9_max_7cf53_6 rfl ?_
    refine w_ireturn rfl dJ9_max_7cf53_10 (Nat.le_of_ble_eq_true rfl) (Nat.le_of_ble_eq_true rfl) ?_
    have e : mxI x y = x := by
      simp [mxI, *]
    rw [e] at k
    exact k
set_option maxRecDepth 100000 in
set_option maxHeartbeats 4000000 in
theorem c_min {G : wG} {d : Nat} {h : hH} {Q : Option Value → hH → Prop} {x y : Int32}  (k : Q (some (.int (mnI x y))) h) : Cl G yJ9_min_7cf53 d 0 0 [.int x, .int y] h Q := by
  refine Cl.of (ini := false) kJ9_min_7cf53 (by decide +kernel) (by decide) (Nat.le_of_ble_eq_true rfl) rfl rfl (fun z => by cases z) ?_
  refine w_iload_n dJ9_min_7cf53_0 rfl ?_
  refine w_iload_n dJ9_min_7cf53_1 rfl ?_
  refine w_icmp_gt (tgt := 9) dJ9_min_7cf53_2 rfl (fun b2 => ?_) (fun b2 => ?_)
  · refine w_iload_n dJ9_min_7cf53_9 rfl ?_
    refine w_ireturn rfl dJ9_min_7cf53_10 (Nat.le_of_ble_eq_true rfl) (Nat.le_of_ble_eq_true rfl) ?_
    have e : mnI x y = y := by
      simp [mnI, *]
    rw [e] at k
    exact k
  · refine w_iload_n dJ9_min_7cf53_5 rfl ?_
    refine w_goto (tgt := 10) dJ9_min_7cf53_6 rfl ?_
    refine w_ireturn rfl dJ9_min_7cf53_10 (Nat.le_of_ble_eq_true rfl) (Nat.le_of_ble_eq_true rfl) ?_
    have e : mnI x y = x := by
      simp [mnI, *]
    rw [e] at k
    exact k
set_option maxRecDepth 100000 in
set_option maxHeartbeats 4000000 in
theorem c_abs {G : wG} {d : Nat} {h : hH} {Q : Option Value → hH → Prop} {x : Int32}  (k : Q (some (.int (abI x))) h) : Cl G yJ9_abs_0f7a4 d 0 0 [.int x] h Q := by
  refine Cl.of (ini := false) kJ9_abs_0f7a4 (by decide +kernel) (by decide) (Nat.le_of_ble_eq_true rfl) rfl rfl (fun z => by cases z) ?_
  refine w_iload_n dJ9_abs_0f7a4_0 rfl ?_
  refine w_if_ge (tgt := 9) dJ9_abs_0f7a4_1 rfl (fun b1 => ?_) (fun b1 => ?_)
  · refine w_iload_n dJ9_abs_0f7a4_9 rfl ?_
    refine w_ireturn rfl dJ9_abs_0f7a4_10 (Nat.le_of_ble_eq_true rfl) (Nat.le_of_ble_eq_true rfl) ?_
    have e : abI x = x := by
      simp [abI, *]
    rw [e] at k
    exact k
  · refine w_iload_n dJ9_abs_0f7a4_4 rfl ?_
    refine w_ineg dJ9_abs_0f7a4_5 ?_
    refine w_goto (tgt := 10) dJ9_abs_0f7a4_6 rfl ?_
    refine w_ireturn rfl dJ9_abs_0f7a4_10 (Nat.le_of_ble_eq_true rfl) (Nat.le_of_ble_eq_true rfl) ?_
    have e : abI x = -x := by
      simp [abI, *]
    rw [e] at k
    exact k
set_option maxRecDepth 100000 in
set_option maxHeartbeats 4000000 in
theorem c_floorDiv {G : wG} {d : Nat} {h : hH} {Q : Option Value → hH → Prop} {x y : Int32} (hy : ¬ y = 0) (k : Q (some (.int (fdvI x y))) h) : Cl G yJ9_floorDiv_7cf53 d 0 0 [.int x, .int y] h Q := by
  refine Cl.of (ini := false) kJ9_floorDiv_7cf53 (by decide +kernel) (by decide) (Nat.le_of_ble_eq_true rfl) rfl rfl (fun z => by cases z) ?_
  refine w_iload_n dJ9_floorDiv_7cf53_0 rfl ?_
  refine w_iload_n dJ9_floorDiv_7cf53_1 rfl ?_
  refine w_idiv dJ9_floorDiv_7cf53_2 hy ?_
  refine w_istore_n (ls2 := [some (.int x), some (.int y), some (.int (x / y))]) dJ9_floorDiv_7cf53_3 (by decide) rfl rfl ?_
  refine w_iload_n dJ9_floorDiv_7cf53_4 rfl ?_
  refine w_iload_n dJ9_floorDiv_7cf53_5 rfl ?_
  refine w_ixor dJ9_floorDiv_7cf53_6 ?_
  refine w_if_ge (tgt := 21) dJ9_floorDiv_7cf53_7 rfl (fun b7 => ?_) (fun b7 => ?_)
  · refine w_iload_n dJ9_floorDiv_7cf53_21 rfl ?_
    refine w_ireturn rfl dJ9_floorDiv_7cf53_22 (Nat.le_of_ble_eq_true rfl) (Nat.le_of_ble_eq_true rfl) ?_
    have e : fdvI x y = x / y := by
      simp [fdvI, *]
    rw [e] at k
    exact k
  · refine w_iload_n dJ9_floorDiv_7cf53_10 rfl ?_
    refine w_iload_n dJ9_floorDiv_7cf53_11 rfl ?_
    refine w_imul dJ9_floorDiv_7cf53_12 ?_
    refine w_iload_n dJ9_floorDiv_7cf53_13 rfl ?_
    refine w_icmp_eq (tgt := 21) dJ9_floorDiv_7cf53_14 rfl (fun b14 => ?_) (fun b14 => ?_)
    · refine w_iload_n dJ9_floorDiv_7cf53_21 rfl ?_
      refine w_ireturn rfl dJ9_floorDiv_7cf53_22 (Nat.le_of_ble_eq_true rfl) (Nat.le_of_ble_eq_true rfl) ?_
      have e : fdvI x y = x / y := by
        simp [fdvI, *]
      rw [e] at k
      exact k
    · refine w_iload_n dJ9_floorDiv_7cf53_17 rfl ?_
      refine w_iconst (v := 1) dJ9_floorDiv_7cf53_18 (by decide) ?_
      refine w_isub dJ9_floorDiv_7cf53_19 ?_
      refine w_ireturn rfl dJ9_floorDiv_7cf53_20 (Nat.le_of_ble_eq_true rfl) (Nat.le_of_ble_eq_true rfl) ?_
      have e : fdvI x y = (x / y) - 1 := by
        simp [fdvI, *]
      rw [e] at k
      exact k
set_option maxRecDepth 100000 in
set_option maxHeartbeats 4000000 in
theorem c_floorMod {G : wG} {d : Nat} {h : hH} {Q : Option Value → hH → Prop} {x y : Int32} (hy : ¬ y = 0) (k : Q (some (.int (fmdI x y))) h) : Cl G yJ9_floorMod_7cf53 d 0 0 [.int x, .int y] h Q := by
  refine Cl.of (ini := false) kJ9_floorMod_7cf53 (by decide +kernel) (by decide) (Nat.le_of_ble_eq_true rfl) rfl rfl (fun z => by cases z) ?_
  refine w_iload_n dJ9_floorMod_7cf53_0 rfl ?_
  refine w_iload_n dJ9_floorMod_7cf53_1 rfl ?_
  refine w_irem dJ9_floorMod_7cf53_2 hy ?_
  refine w_istore_n (ls2 := [some (.int x), some (.int y), some (.int (x - x / y * y))]) dJ9_floorMod_7cf53_3 (by decide) rfl rfl ?_
  refine w_iload_n dJ9_floorMod_7cf53_4 rfl ?_
  refine w_iload_n dJ9_floorMod_7cf53_5 rfl ?_
  refine w_ixor dJ9_floorMod_7cf53_6 ?_
  refine w_if_ge (tgt := 18) dJ9_floorMod_7cf53_7 rfl (fun b7 => ?_) (fun b7 => ?_)
  · refine w_iload_n dJ9_floorMod_7cf53_18 rfl ?_
    refine w_ireturn rfl dJ9_floorMod_7cf53_19 (Nat.le_of_ble_eq_true rfl) (Nat.le_of_ble_eq_true rfl) ?_
    have e : fmdI x y = x - x / y * y := by
      simp [fmdI, *]
    rw [e] at k
    exact k
  · refine w_iload_n dJ9_floorMod_7cf53_10 rfl ?_
    refine w_if_eq (tgt := 18) dJ9_floorMod_7cf53_11 rfl (fun b11 => ?_) (fun b11 => ?_)
    · refine w_iload_n dJ9_floorMod_7cf53_18 rfl ?_
      refine w_ireturn rfl dJ9_floorMod_7cf53_19 (Nat.le_of_ble_eq_true rfl) (Nat.le_of_ble_eq_true rfl) ?_
      have e : fmdI x y = x - x / y * y := by
        simp [fmdI, *]
      rw [e] at k
      exact k
    · refine w_iload_n dJ9_floorMod_7cf53_14 rfl ?_
      refine w_iload_n dJ9_floorMod_7cf53_15 rfl ?_
      refine w_iadd dJ9_floorMod_7cf53_16 ?_
      refine w_ireturn rfl dJ9_floorMod_7cf53_17 (Nat.le_of_ble_eq_true rfl) (Nat.le_of_ble_eq_true rfl) ?_
      have e : fmdI x y = (x - x / y * y) + y := by
        simp [fmdI, *]
      rw [e] at k
      exact k
set_option maxRecDepth 100000 in
set_option maxHeartbeats 4000000 in
theorem l_fill {G : wG} {d : Nat} {h : hH} {Q : Option Value → hH → Prop} {q N : Nat} {x : Int32} (nd : [q].Nodup) (hN : N < 2 ^ 31) (k : Q none (hUs h [q] [aI N (fun _ => x)])) : ∀ (n : Nat) (i : Nat) (f : Nat → Int32), i + n = N → (∀ j, j < i → f j = x) → WP G RJ7 cJ7_fill_53178 4 none false d 0 0 0 0 Q 5 [some (.ref q), some (.int x), some (.int (nI i)), some (.int (nI N))] [] (hUs h [q] [(aI N f)]) := by
  intro n
  induction n with
  | zero =>
    intro i f hi hf
    refine w_wext nd rfl 0 (fun _ => x) rfl rfl rfl (fun j hj => hf j (by omega)) ?_
    refine w_iload_n dJ7_fill_53178_5 rfl ?_
    refine w_iload_n dJ7_fill_53178_6 rfl ?_
    refine w_icmp_ge_t (tgt := 20) dJ7_fill_53178_7 rfl ((nI_leI (a := N) (b := i) (by omega) (by omega)).mpr (by omega)) ?_
    refine w_return rfl dJ7_fill_53178_20 (Nat.le_of_ble_eq_true rfl) (Nat.le_of_ble_eq_true rfl) ?_
    exact k
  | succ n ih =>
    intro i f hi hf
    refine w_iload_n dJ7_fill_53178_5 rfl ?_
    refine w_iload_n dJ7_fill_53178_6 rfl ?_
    refine w_icmp_ge_f (tgt := 20) dJ7_fill_53178_7 rfl (fun z => absurd ((nI_leI (a := N) (b := i) (by omega) (by omega)).mp z) (by omega)) ?_
    refine w_aload_n dJ7_fill_53178_10 rfl ?_
    refine w_iload_n dJ7_fill_53178_11 rfl ?_
    refine w_iload_n dJ7_fill_53178_12 rfl ?_
    refine w_iastoreN (hUs_at nd 0 rfl rfl) (by omega) (by omega) dJ7_fill_53178_13 ?_
    refine w_heq (hUs_set nd rfl 0 (cs' := [(aI N (upd f i x))]) rfl rfl) ?_
    refine w_iinc (v := nI (i + 1)) (ls2 := [some (.ref q), some (.int x), some (.int (nI (i + 1))), some (.int (nI N))]) dJ7_fill_53178_14 rfl (nI_1 _) (by decide) rfl rfl ?_
    refine w_goto (tgt := 5) dJ7_fill_53178_17 rfl ?_
    exact ih (i + 1) _ (by omega) (fun j hj => by
      by_cases e : j = i
      · subst e; simp [upd]
      · simp only [upd, if_neg e]; exact hf j (by omega))
set_option maxRecDepth 100000 in
set_option maxHeartbeats 4000000 in
theorem c_fill {G : wG} {d : Nat} {h : hH} {Q : Option Value → hH → Prop} {q N : Nat} {x : Int32} {f : Nat → Int32} (hw : hHas h [q] [(aI N f)]) (nd : [q].Nodup) (hN : N < 2 ^ 31) (k : Q none (hUs h [q] [aI N (fun _ => x)])) : Cl G yJ7_fill_53178 d 0 0 [.ref q, .int x] h Q := by
  refine Cl.of (ini := false) kJ7_fill_53178 (by decide +kernel) (by decide) (Nat.le_of_ble_eq_true rfl) rfl rfl (fun z => by cases z) ?_
  refine w_heq (hUs_id hw).symm ?_
  refine w_iconst (v := (nI 0)) dJ7_fill_53178_0 (by decide) ?_
  refine w_istore_n (ls2 := [some (.ref q), some (.int x), some (.int (nI 0)), none]) dJ7_fill_53178_1 (by decide) rfl rfl ?_
  refine w_aload_n dJ7_fill_53178_2 rfl ?_
  refine w_alen (v := (nI N)) (hUs_at nd 0 rfl rfl) rfl dJ7_fill_53178_3 ?_
  refine w_istore_n (ls2 := [some (.ref q), some (.int x), some (.int (nI 0)), some (.int (nI N))]) dJ7_fill_53178_4 (by decide) rfl rfl ?_
  exact l_fill nd hN k N 0 f (by omega) (fun j hj => absurd hj (by omega))
