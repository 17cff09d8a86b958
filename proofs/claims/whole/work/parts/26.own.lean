set_option maxRecDepth 100000 in
set_option maxHeartbeats 4000000 in
theorem c_isValue {G : wG} {d : Nat} {h : hH} {Q : Option Value → hH → Prop} {x : Int32}  (k : Q (some (.int (vlB x))) h) : Cl G yX9_isValue d 0 0 [.int x] h Q := by
  refine Cl.of (ini := false) kX9_isValue (plainFor_of_name (by decide)) (by decide) (Nat.le_of_ble_eq_true rfl) rfl rfl (fun z => by cases z) ?_
  refine w_iload_n dX9_isValue_0 rfl ?_
  refine w_iconst (v := (-1)) dX9_isValue_1 (by decide) ?_
  refine w_icmp_lt (tgt := 14) dX9_isValue_2 rfl (fun b2 => ?_) (fun b2 => ?_)
  · refine w_iconst (v := 0) dX9_isValue_14 (by decide) ?_
    refine w_zreturn rfl dX9_isValue_15 rfl (Nat.le_of_ble_eq_true rfl) (Nat.le_of_ble_eq_true rfl) ?_
    have e0 : vlB x = 0 := by
      rw [vlB, if_neg (fun z => absurd z.1 (by simpa using b2))]
    rw [e0] at k
    exact k
  · refine w_iload_n dX9_isValue_5 rfl ?_
    refine w_iconst (v := 1) dX9_isValue_6 (by decide) ?_
    refine w_icmp_gt (tgt := 14) dX9_isValue_7 rfl (fun b7 => ?_) (fun b7 => ?_)
    · refine w_iconst (v := 0) dX9_isValue_14 (by decide) ?_
      refine w_zreturn rfl dX9_isValue_15 rfl (Nat.le_of_ble_eq_true rfl) (Nat.le_of_ble_eq_true rfl) ?_
      have e0 : vlB x = 0 := by
        rw [vlB, if_neg (fun z => absurd z.2 (by simpa using b7))]
      rw [e0] at k
      exact k
    · refine w_iconst (v := 1) dX9_isValue_10 (by decide) ?_
      refine w_goto (tgt := 15) dX9_isValue_11 rfl ?_
      refine w_zreturn rfl dX9_isValue_15 rfl (Nat.le_of_ble_eq_true rfl) (Nat.le_of_ble_eq_true rfl) ?_
      have e0 : vlB x = 1 := by
        rw [vlB, if_pos ⟨by simpa using b2, by simpa using b7⟩]
      rw [e0] at k
      exact k
set_option maxRecDepth 100000 in
set_option maxHeartbeats 4000000 in
theorem c_isLevel {G : wG} {d : Nat} {h : hH} {Q : Option Value → hH → Prop} {x : Int64}  (k : Q (some (.int (lvB x))) h) : Cl G yX9_isLevel d 0 0 [.long x] h Q := by
  refine Cl.of (ini := false) kX9_isLevel (plainFor_of_name (by decide)) (by decide) (Nat.le_of_ble_eq_true rfl) rfl rfl (fun z => by cases z) ?_
  refine w_lload_n dX9_isLevel_0 rfl ?_
  refine w_ldc2 nX9_312 dX9_isLevel_1 ?_
  refine w_lcmp dX9_isLevel_4 ?_
  refine w_if_lt (tgt := 20) dX9_isLevel_5 rfl (fun b5 => ?_) (fun b5 => ?_)
  · refine w_iconst (v := 0) dX9_isLevel_20 (by decide) ?_
    refine w_zreturn rfl dX9_isLevel_21 rfl (Nat.le_of_ble_eq_true rfl) (Nat.le_of_ble_eq_true rfl) ?_
    have e0 : lvB x = 0 := by
      rw [lvB, if_neg (fun z => absurd z.1 (Int64.not_le.mpr ((lg_cmp_lt _ _).mp b5)))]
    rw [e0] at k
    exact k
  · refine w_lload_n dX9_isLevel_8 rfl ?_
    refine w_ldc2 nX9_314 dX9_isLevel_9 ?_
    refine w_lcmp dX9_isLevel_12 ?_
    refine w_if_gt (tgt := 20) dX9_isLevel_13 rfl (fun b13 => ?_) (fun b13 => ?_)
    · refine w_iconst (v := 0) dX9_isLevel_20 (by decide) ?_
      refine w_zreturn rfl dX9_isLevel_21 rfl (Nat.le_of_ble_eq_true rfl) (Nat.le_of_ble_eq_true rfl) ?_
      have e0 : lvB x = 0 := by
        rw [lvB, if_neg (fun z => absurd z.2 (Int64.not_le.mpr ((lg_cmp_gt _ _).mp b13)))]
      rw [e0] at k
      exact k
    · refine w_iconst (v := 1) dX9_isLevel_16 (by decide) ?_
      refine w_goto (tgt := 21) dX9_isLevel_17 rfl ?_
      refine w_zreturn rfl dX9_isLevel_21 rfl (Nat.le_of_ble_eq_true rfl) (Nat.le_of_ble_eq_true rfl) ?_
      have e0 : lvB x = 1 := by
        rw [lvB, if_pos ⟨Int64.not_lt.mp (fun z => b5 ((lg_cmp_lt _ _).mpr z)), Int64.not_lt.mp (fun z => b13 ((lg_cmp_gt _ _).mpr z))⟩]
      rw [e0] at k
      exact k
set_option maxRecDepth 100000 in
set_option maxHeartbeats 4000000 in
theorem c_isSumming {G : wG} {d : Nat} {h : hH} {Q : Option Value → hH → Prop} {x y : Int32}  (k : Q (some (.int (smB x y))) h) : Cl G yX9_isSumming d 0 0 [.int x, .int y] h Q := by
  refine Cl.of (ini := false) kX9_isSumming (plainFor_of_name (by decide)) (by decide) (Nat.le_of_ble_eq_true rfl) rfl rfl (fun z => by cases z) ?_
  refine w_iload_n dX9_isSumming_0 rfl ?_
  refine w_iconst (v := 1) dX9_isSumming_1 (by decide) ?_
  refine w_icmp_lt (tgt := 25) dX9_isSumming_2 rfl (fun b2 => ?_) (fun b2 => ?_)
  · refine w_iconst (v := 0) dX9_isSumming_25 (by decide) ?_
    refine w_zreturn rfl dX9_isSumming_26 rfl (Nat.le_of_ble_eq_true rfl) (Nat.le_of_ble_eq_true rfl) ?_
    have e0 : smB x y = 0 := by
      rw [smB, if_neg (fun z => absurd z.1.1 (by simpa using b2))]
    rw [e0] at k
    exact k
  · refine w_iload_n dX9_isSumming_5 rfl ?_
    refine w_iconst (v := 3) dX9_isSumming_6 (by decide) ?_
    refine w_icmp_gt (tgt := 25) dX9_isSumming_7 rfl (fun b7 => ?_) (fun b7 => ?_)
    · refine w_iconst (v := 0) dX9_isSumming_25 (by decide) ?_
      refine w_zreturn rfl dX9_isSumming_26 rfl (Nat.le_of_ble_eq_true rfl) (Nat.le_of_ble_eq_true rfl) ?_
      have e0 : smB x y = 0 := by
        rw [smB, if_neg (fun z => absurd z.1.2 (by simpa using b7))]
      rw [e0] at k
      exact k
    · refine w_iload_n dX9_isSumming_10 rfl ?_
      refine w_iconst (v := 2) dX9_isSumming_11 (by decide) ?_
      refine w_icmp_lt (tgt := 25) dX9_isSumming_12 rfl (fun b12 => ?_) (fun b12 => ?_)
      · refine w_iconst (v := 0) dX9_isSumming_25 (by decide) ?_
        refine w_zreturn rfl dX9_isSumming_26 rfl (Nat.le_of_ble_eq_true rfl) (Nat.le_of_ble_eq_true rfl) ?_
        have e0 : smB x y = 0 := by
          rw [smB, if_neg (fun z => absurd z.2.1 (by simpa using b12))]
        rw [e0] at k
        exact k
      · refine w_iload_n dX9_isSumming_15 rfl ?_
        refine w_bipush (v := 32) dX9_isSumming_16 (by decide) ?_
        refine w_icmp_gt (tgt := 25) dX9_isSumming_18 rfl (fun b18 => ?_) (fun b18 => ?_)
        · refine w_iconst (v := 0) dX9_isSumming_25 (by decide) ?_
          refine w_zreturn rfl dX9_isSumming_26 rfl (Nat.le_of_ble_eq_true rfl) (Nat.le_of_ble_eq_true rfl) ?_
          have e0 : smB x y = 0 := by
            rw [smB, if_neg (fun z => absurd z.2.2 (by simpa using b18))]
          rw [e0] at k
          exact k
        · refine w_iconst (v := 1) dX9_isSumming_21 (by decide) ?_
          refine w_goto (tgt := 26) dX9_isSumming_22 rfl ?_
          refine w_zreturn rfl dX9_isSumming_26 rfl (Nat.le_of_ble_eq_true rfl) (Nat.le_of_ble_eq_true rfl) ?_
          have e0 : smB x y = 1 := by
            rw [smB, if_pos ⟨⟨by simpa using b2, by simpa using b7⟩, by simpa using b12, by simpa using b18⟩]
          rw [e0] at k
          exact k
set_option maxRecDepth 100000 in
set_option maxHeartbeats 4000000 in
theorem c_isSweep {G : wG} {d : Nat} {h : hH} {Q : Option Value → hH → Prop} {f s m : Int32}  (k : Q (some (.int (swB f s m))) h) : Cl G yX9_isSweep (d + 1) 0 0 [.int f, .int s, .int m] h Q := by
  refine Cl.of (ini := false) kX9_isSweep (plainFor_of_name (by decide)) (by decide) (Nat.le_of_ble_eq_true rfl) rfl rfl (fun z => by cases z) ?_
  refine w_iload_n dX9_isSweep_0 rfl ?_
  refine w_iconst (v := 1) dX9_isSweep_1 (by decide) ?_
  refine w_icmp_lt (tgt := 39) dX9_isSweep_2 rfl (fun b2 => ?_) (fun b2 => ?_)
  · refine w_iconst (v := 0) dX9_isSweep_39 (by decide) ?_
    refine w_zreturn rfl dX9_isSweep_40 rfl (Nat.le_of_ble_eq_true rfl) (Nat.le_of_ble_eq_true rfl) ?_
    have e0 : swB f s m = 0 := by
      rw [swB, if_neg (fun z => absurd z.1.1 (by simpa using b2))]
    rw [e0] at k
    exact k
  · refine w_iload_n dX9_isSweep_5 rfl ?_
    refine w_bipush (v := 50) dX9_isSweep_6 (by decide) ?_
    refine w_icmp_gt (tgt := 39) dX9_isSweep_8 rfl (fun b8 => ?_) (fun b8 => ?_)
    · refine w_iconst (v := 0) dX9_isSweep_39 (by decide) ?_
      refine w_zreturn rfl dX9_isSweep_40 rfl (Nat.le_of_ble_eq_true rfl) (Nat.le_of_ble_eq_true rfl) ?_
      have e0 : swB f s m = 0 := by
        rw [swB, if_neg (fun z => absurd z.1.2 (by simpa using b8))]
      rw [e0] at k
      exact k
    · refine w_iload_n dX9_isSweep_11 rfl ?_
      refine w_i2l dX9_isSweep_12 ?_
      refine w_callS (d' := d) (mc' := 0) (ms' := 0) (As := [.long f.toInt64]) (st := []) lX9_229 vX9_isLevel rfl (Nat.le_of_ble_eq_true rfl) dX9_isSweep_13 (Nat.le_of_ble_eq_true rfl) (Nat.le_of_ble_eq_true rfl) (Nat.le_refl _) (c_isLevel ?_)
      refine w_if_eq (tgt := 39) dX9_isSweep_16 rfl (fun b16 => ?_) (fun b16 => ?_)
      · refine w_iconst (v := 0) dX9_isSweep_39 (by decide) ?_
        refine w_zreturn rfl dX9_isSweep_40 rfl (Nat.le_of_ble_eq_true rfl) (Nat.le_of_ble_eq_true rfl) ?_
        have e0 : swB f s m = 0 := by
          rw [swB, if_neg (fun z => absurd (z.2.1.symm.trans b16) (by decide))]
        rw [e0] at k
        exact k
      · refine w_iload_n dX9_isSweep_19 rfl ?_
        refine w_i2l dX9_isSweep_20 ?_
        refine w_iload_n dX9_isSweep_21 rfl ?_
        refine w_i2l dX9_isSweep_22 ?_
        refine w_iload_n dX9_isSweep_23 rfl ?_
        refine w_iconst (v := 1) dX9_isSweep_24 (by decide) ?_
        refine w_isub dX9_isSweep_25 ?_
        refine w_i2l dX9_isSweep_26 ?_
        refine w_lmul dX9_isSweep_27 ?_
        refine w_ladd dX9_isSweep_28 ?_
        refine w_callS (d' := d) (mc' := 0) (ms' := 0) (As := [.long (f.toInt64 + (s.toInt64 * ((m - 1).toInt64)))]) (st := []) lX9_229 vX9_isLevel rfl (Nat.le_of_ble_eq_true rfl) dX9_isSweep_29 (Nat.le_of_ble_eq_true rfl) (Nat.le_of_ble_eq_true rfl) (Nat.le_refl _) (c_isLevel ?_)
        refine w_if_eq (tgt := 39) dX9_isSweep_32 rfl (fun b32 => ?_) (fun b32 => ?_)
        · refine w_iconst (v := 0) dX9_isSweep_39 (by decide) ?_
          refine w_zreturn rfl dX9_isSweep_40 rfl (Nat.le_of_ble_eq_true rfl) (Nat.le_of_ble_eq_true rfl) ?_
          have e0 : swB f s m = 0 := by
            rw [swB, if_neg (fun z => absurd (z.2.2.symm.trans b32) (by decide))]
          rw [e0] at k
          exact k
        · refine w_iconst (v := 1) dX9_isSweep_35 (by decide) ?_
          refine w_goto (tgt := 40) dX9_isSweep_36 rfl ?_
          refine w_zreturn rfl dX9_isSweep_40 rfl (Nat.le_of_ble_eq_true rfl) (Nat.le_of_ble_eq_true rfl) ?_
          have e0 : swB f s m = 1 := by
            rw [swB, if_pos ⟨⟨by simpa using b2, by simpa using b8⟩, (lvB_01 _).resolve_left b16, (lvB_01 _).resolve_left b32⟩]
          rw [e0] at k
          exact k
set_option maxRecDepth 100000 in
set_option maxHeartbeats 4000000 in
theorem c_letterOf {G : wG} {d : Nat} {h : hH} {Q : Option Value → hH → Prop} {nm x : Int32}  (k : Q (some (.int (ltF nm x))) h) : Cl G yX9_letterOf d 0 0 [.int nm, .int x] h Q := by
  refine Cl.of (ini := false) kX9_letterOf (plainFor_of_name (by decide)) (by decide) (Nat.le_of_ble_eq_true rfl) rfl rfl (fun z => by cases z) ?_
  refine w_iload_n dX9_letterOf_0 rfl ?_
  refine w_if_lt (tgt := 10) dX9_letterOf_1 rfl (fun b1 => ?_) (fun b1 => ?_)
  · refine w_iconst (v := (-1)) dX9_letterOf_10 (by decide) ?_
    refine w_goto (tgt := 24) dX9_letterOf_11 rfl ?_
    refine w_ireturn rfl dX9_letterOf_24 (Nat.le_of_ble_eq_true rfl) (Nat.le_of_ble_eq_true rfl) ?_
    have e0 : ltF nm x = (-1) := by
      rw [ltF, if_pos (Or.inl b1)]
    rw [e0] at k
    exact k
  · refine w_iload_n dX9_letterOf_4 rfl ?_
    refine w_bipush (v := 6) dX9_letterOf_5 (by decide) ?_
    refine w_icmp_lt (tgt := 14) dX9_letterOf_7 rfl (fun b7 => ?_) (fun b7 => ?_)
    · refine w_iload_n dX9_letterOf_14 rfl ?_
      refine w_iconst (v := 5) dX9_letterOf_15 (by decide) ?_
      refine w_iload_n dX9_letterOf_16 rfl ?_
      refine w_imul dX9_letterOf_17 ?_
      refine w_ishr dX9_letterOf_18 ?_
      refine w_bipush (v := 31) dX9_letterOf_19 (by decide) ?_
      refine w_iand dX9_letterOf_21 ?_
      refine w_iconst (v := 1) dX9_letterOf_22 (by decide) ?_
      refine w_isub dX9_letterOf_23 ?_
      refine w_ireturn rfl dX9_letterOf_24 (Nat.le_of_ble_eq_true rfl) (Nat.le_of_ble_eq_true rfl) ?_
      have e0 : ltF nm x = ((nm >>> ((5 * x) &&& 31)) &&& 31) - 1 := by
        rw [ltF, if_neg (fun z => z.elim b1 (fun z => absurd z (by simpa using b7)))]
      rw [e0] at k
      exact k
    · refine w_iconst (v := (-1)) dX9_letterOf_10 (by decide) ?_
      refine w_goto (tgt := 24) dX9_letterOf_11 rfl ?_
      refine w_ireturn rfl dX9_letterOf_24 (Nat.le_of_ble_eq_true rfl) (Nat.le_of_ble_eq_true rfl) ?_
      have e0 : ltF nm x = (-1) := by
        rw [ltF, if_pos (Or.inr (by simpa using b7))]
      rw [e0] at k
      exact k
def gdF : Nat → Int32 → Int32 → Int32
  | 0, m, _ => m
  | n + 1, m, l => if l ≤ 0 then m else gdF n l (m - m / l * l)
set_option maxRecDepth 100000 in
set_option maxHeartbeats 4000000 in
theorem l_gd {G : wG} {d : Nat} {h : hH} {Q : Option Value → hH → Prop} {a b : Int32}  : ∀ (n : Nat) (i : Nat) (m l : Int32), i + n = 64 → Q (some (.int (mxI 1 (gdF n m l)))) h → WP G RX9 cX9_greatestDivisor 6 (some .int) false (d + 1) 0 0 0 0 Q 7 [some (.int a), some (.int b), some (.int m), some (.int l), some (.int (nI i)), none] [] h := by
  intro n
  induction n with
  | zero =>
    intro i m l hi k
    refine w_iload dX9_greatestDivisor_7 rfl ?_
    refine w_bipush (v := 64) dX9_greatestDivisor_9 (by decide) ?_
    refine w_icmp_ge_t (tgt := 34) dX9_greatestDivisor_11 rfl ((nI_leI (a := 64) (b := i) (by omega) (by omega)).mpr (by omega)) ?_
    refine w_iconst (v := 1) dX9_greatestDivisor_34 (by decide) ?_
    refine w_iload_n dX9_greatestDivisor_35 rfl ?_
    refine w_callS (d' := d) (mc' := 0) (ms' := 0) (As := [.int 1, .int m]) (st := []) lX9_226 vJ9_max_7cf53 rfl (Nat.le_of_ble_eq_true rfl) dX9_greatestDivisor_36 (Nat.le_of_ble_eq_true rfl) (Nat.le_of_ble_eq_true rfl) (Nat.le_refl _) (c_max ?_)
    refine w_ireturn rfl dX9_greatestDivisor_39 (Nat.le_of_ble_eq_true rfl) (Nat.le_of_ble_eq_true rfl) ?_
    exact k
  | succ n ih =>
    intro i m l hi k
    refine w_iload dX9_greatestDivisor_7 rfl ?_
    refine w_bipush (v := 64) dX9_greatestDivisor_9 (by decide) ?_
    refine w_icmp_ge_f (tgt := 34) dX9_greatestDivisor_11 rfl (fun z => absurd ((nI_leI (a := 64) (b := i) (by omega) (by omega)).mp z) (by omega)) ?_
    refine w_iload_n dX9_greatestDivisor_14 rfl ?_
    refine w_if_le (tgt := 34) dX9_greatestDivisor_15 rfl (fun b15 => ?_) (fun b15 => ?_)
    · refine w_iconst (v := 1) dX9_greatestDivisor_34 (by decide) ?_
      refine w_iload_n dX9_greatestDivisor_35 rfl ?_
      refine w_callS (d' := d) (mc' := 0) (ms' := 0) (As := [.int 1, .int m]) (st := []) lX9_226 vJ9_max_7cf53 rfl (Nat.le_of_ble_eq_true rfl) dX9_greatestDivisor_36 (Nat.le_of_ble_eq_true rfl) (Nat.le_of_ble_eq_true rfl) (Nat.le_refl _) (c_max ?_)
      refine w_ireturn rfl dX9_greatestDivisor_39 (Nat.le_of_ble_eq_true rfl) (Nat.le_of_ble_eq_true rfl) ?_
      rw [gdF, if_pos b15] at k
      exact k
    · refine w_iload_n dX9_greatestDivisor_18 rfl ?_
      refine w_iload_n dX9_greatestDivisor_19 rfl ?_
      refine w_irem dX9_greatestDivisor_20 (fun z => b15 (by rw [z]; decide)) ?_
      refine w_istore (ls2 := [some (.int a), some (.int b), some (.int m), some (.int l), some (.int (nI i)), some (.int (m - m / l * l))]) dX9_greatestDivisor_21 (by decide) rfl rfl ?_
      refine w_iload_n dX9_greatestDivisor_23 rfl ?_
      refine w_istore_n (ls2 := [some (.int a), some (.int b), some (.int l), some (.int l), some (.int (nI i)), some (.int (m - m / l * l))]) dX9_greatestDivisor_24 (by decide) rfl rfl ?_
      refine w_iload dX9_greatestDivisor_25 rfl ?_
      refine w_istore_n (ls2 := [some (.int a), some (.int b), some (.int l), some (.int (m - m / l * l)), some (.int (nI i)), some (.int (m - m / l * l))]) dX9_greatestDivisor_27 (by decide) rfl rfl ?_
      refine w_iinc (v := nI (i + 1)) (ls2 := [some (.int a), some (.int b), some (.int l), some (.int (m - m / l * l)), some (.int (nI (i + 1))), some (.int (m - m / l * l))]) dX9_greatestDivisor_28 rfl (nI_1 _) (by decide) rfl rfl ?_
      refine w_goto (tgt := 7) dX9_greatestDivisor_31 rfl ?_
      refine w_less (ls2 := [some (.int a), some (.int b), some (.int l), some (.int (m - m / l * l)), some (.int (nI (i + 1))), none]) ⟨Or.inr rfl, Or.inr rfl, Or.inr rfl, Or.inr rfl, Or.inr rfl, Or.inl rfl, trivial⟩ ?_
      rw [gdF, if_neg b15] at k
      exact ih (i + 1) _ _ (by omega) k
set_option maxRecDepth 100000 in
set_option maxHeartbeats 4000000 in
theorem c_gd {G : wG} {d : Nat} {h : hH} {Q : Option Value → hH → Prop} {a b : Int32}  (k : Q (some (.int (mxI 1 (gdF 64 b a)))) h) : Cl G yX9_greatestDivisor (d + 1) 0 0 [.int a, .int b] h Q := by
  refine Cl.of (ini := false) kX9_greatestDivisor (plainFor_of_name (by decide)) (by decide) (Nat.le_of_ble_eq_true rfl) rfl rfl (fun z => by cases z) ?_
  refine w_iload_n dX9_greatestDivisor_0 rfl ?_
  refine w_istore_n (ls2 := [some (.int a), some (.int b), some (.int b), none, none, none]) dX9_greatestDivisor_1 (by decide) rfl rfl ?_
  refine w_iload_n dX9_greatestDivisor_2 rfl ?_
  refine w_istore_n (ls2 := [some (.int a), some (.int b), some (.int b), some (.int a), none, none]) dX9_greatestDivisor_3 (by decide) rfl rfl ?_
  refine w_iconst (v := (nI 0)) dX9_greatestDivisor_4 (by decide) ?_
  refine w_istore (ls2 := [some (.int a), some (.int b), some (.int b), some (.int a), some (.int (nI 0)), none]) dX9_greatestDivisor_5 (by decide) rfl rfl ?_
  exact l_gd 64 0 _ _ rfl k
def byF (x s : Int32) : Int32 := vp_nar .byte (x >>> (s &&& 31)).toInt8.toInt32
def tp4 (ft : Nat → Int32) (tp : Nat) (x : Int32) : Nat → Int32 := upd (upd (upd (upd ft tp (byF x 24)) (tp + 1) (byF x 16)) (tp + 2) (byF x 8)) (tp + 3) (byF x 0)
def imR (b : Nat) : Nat → Option Nat := fun j => some (b + 15 + j)
set_option maxRecDepth 100000 in
set_option maxHeartbeats 4000000 in
theorem c_tapeNumber {G : wG} {d : Nat} {h : hH} {Q : Option Value → hH → Prop} {b pp tp : Nat} {ht sd fa pl tr : Int32} {ps : Nat} {xr : rD} {x : Int32} {ft : Nat → Int32} (hw : hHas h [b, b + 33, b + 34] [(oC 9 [.ref (b + 1), .ref (b + 14), .ref (b + 17), .ref (b + 19), .ref (b + 25), .ref (b + 29), .ref (b + 33), .ref pp, .int ht, .int (nI tp), .int sd, .int fa, .int pl, .int tr]), (oC 5 (rdF (b + 34) ps xr)), (aB 600 ft)]) (nd : [b, b + 33, b + 34].Nodup) (hT : tp + 4 ≤ 600) (k : Q none (hUs h [b, b + 33, b + 34] [(oC 9 [.ref (b + 1), .ref (b + 14), .ref (b + 17), .ref (b + 19), .ref (b + 25), .ref (b + 29), .ref (b + 33), .ref pp, .int ht, .int (nI (tp + 4)), .int sd, .int fa, .int pl, .int tr]), (oC 5 (rdF (b + 34) ps xr)), aB 600 (tp4 ft tp x)])) : Cl G yX9_tapeNumber d 0 0 [.ref b, .int x] h Q := by
  refine Cl.of (ini := false) kX9_tapeNumber (plainFor_of_name (by decide)) (by decide) (Nat.le_of_ble_eq_true rfl) rfl rfl (fun z => by cases z) ?_
  refine w_heq (hUs_id hw).symm ?_
  refine w_bipush (v := 24) dX9_tapeNumber_0 (by decide) ?_
  refine w_istore_n (ls2 := [some (.ref b), some (.int x), some (.int 24)]) dX9_tapeNumber_2 (by decide) rfl rfl ?_
  refine w_iload_n dX9_tapeNumber_3 rfl ?_
  refine w_if_lt_f (tgt := 54) dX9_tapeNumber_4 rfl (by decide) ?_
  refine w_aload_n dX9_tapeNumber_7 rfl ?_
  refine w_get (v := .int (nI tp)) fX9_68 (hUs_at nd 0 rfl rfl) rfl dX9_tapeNumber_8 ?_
  refine w_aload_n dX9_tapeNumber_11 rfl ?_
  refine w_get (v := .ref (b + 33)) fX9_50 (hUs_at nd 0 rfl rfl) rfl dX9_tapeNumber_12 ?_
  refine w_get (v := .ref (b + 34)) fX9_300 (hUs_at nd 1 rfl rfl) rfl dX9_tapeNumber_15 ?_
  refine w_alen (v := (nI 600)) (hUs_at nd 2 rfl rfl) rfl dX9_tapeNumber_18 ?_
  refine w_icmp_ge_f (tgt := 54) dX9_tapeNumber_19 rfl (fun z => absurd ((nI_leI (a := 600) (b := tp) (by omega) (by omega)).mp z) (by omega)) ?_
  refine w_aload_n dX9_tapeNumber_22 rfl ?_
  refine w_get (v := .ref (b + 33)) fX9_50 (hUs_at nd 0 rfl rfl) rfl dX9_tapeNumber_23 ?_
  refine w_get (v := .ref (b + 34)) fX9_300 (hUs_at nd 1 rfl rfl) rfl dX9_tapeNumber_26 ?_
  refine w_aload_n dX9_tapeNumber_29 rfl ?_
  refine w_get (v := .int (nI tp)) fX9_68 (hUs_at nd 0 rfl rfl) rfl dX9_tapeNumber_30 ?_
  refine w_iload_n dX9_tapeNumber_33 rfl ?_
  refine w_iload_n dX9_tapeNumber_34 rfl ?_
  refine w_ishr dX9_tapeNumber_35 ?_
  refine w_i2b dX9_tapeNumber_36 ?_
  refine w_bastoreN (hUs_at nd 2 rfl rfl) (by omega) (by omega) dX9_tapeNumber_37 ?_
  refine w_heq (hUs_set nd rfl 2 (cs' := [(oC 9 [.ref (b + 1), .ref (b + 14), .ref (b + 17), .ref (b + 19), .ref (b + 25), .ref (b + 29), .ref (b + 33), .ref pp, .int ht, .int (nI tp), .int sd, .int fa, .int pl, .int tr]), (oC 5 (rdF (b + 34) ps xr)), (aB 600 (upd ft tp (vp_nar .byte ((x >>> ((24 : Int32) &&& 31)).toInt8.toInt32))))]) rfl rfl) ?_
  refine w_aload_n dX9_tapeNumber_38 rfl ?_
  refine w_dup dX9_tapeNumber_39 rfl ?_
  refine w_get (v := .int (nI tp)) fX9_68 (hUs_at nd 0 rfl rfl) rfl dX9_tapeNumber_40 ?_
  refine w_iconst (v := 1) dX9_tapeNumber_43 (by decide) ?_
  refine w_iaddE (z := nI (tp + 1)) dX9_tapeNumber_44 (nI_add (tp) (1)) ?_
  refine w_put (fs' := [.ref (b + 1), .ref (b + 14), .ref (b + 17), .ref (b + 19), .ref (b + 25), .ref (b + 29), .ref (b + 33), .ref pp, .int ht, .int (nI (tp + 1)), .int sd, .int fa, .int pl, .int tr]) fX9_68 (hUs_at nd 0 rfl rfl) rfl rfl (Nat.le_of_ble_eq_true rfl) rfl dX9_tapeNumber_45 ?_
  refine w_heq (hUs_set nd rfl 0 (cs' := [(oC 9 [.ref (b + 1), .ref (b + 14), .ref (b + 17), .ref (b + 19), .ref (b + 25), .ref (b + 29), .ref (b + 33), .ref pp, .int ht, .int (nI (tp + 1)), .int sd, .int fa, .int pl, .int tr]), (oC 5 (rdF (b + 34) ps xr)), (aB 600 (upd ft tp (vp_nar .byte ((x >>> ((24 : Int32) &&& 31)).toInt8.toInt32))))]) rfl rfl) ?_
  refine w_iinc (v := 16) (ls2 := [some (.ref b), some (.int x), some (.int 16)]) dX9_tapeNumber_48 rfl (by decide) (by decide) rfl rfl ?_
  refine w_goto (tgt := 3) dX9_tapeNumber_51 rfl ?_
  refine w_iload_n dX9_tapeNumber_3 rfl ?_
  refine w_if_lt_f (tgt := 54) dX9_tapeNumber_4 rfl (by decide) ?_
  refine w_aload_n dX9_tapeNumber_7 rfl ?_
  refine w_get (v := .int (nI (tp + 1))) fX9_68 (hUs_at nd 0 rfl rfl) rfl dX9_tapeNumber_8 ?_
  refine w_aload_n dX9_tapeNumber_11 rfl ?_
  refine w_get (v := .ref (b + 33)) fX9_50 (hUs_at nd 0 rfl rfl) rfl dX9_tapeNumber_12 ?_
  refine w_get (v := .ref (b + 34)) fX9_300 (hUs_at nd 1 rfl rfl) rfl dX9_tapeNumber_15 ?_
  refine w_alen (v := (nI 600)) (hUs_at nd 2 rfl rfl) rfl dX9_tapeNumber_18 ?_
  refine w_icmp_ge_f (tgt := 54) dX9_tapeNumber_19 rfl (fun z => absurd ((nI_leI (a := 600) (b := (tp + 1)) (by omega) (by omega)).mp z) (by omega)) ?_
  refine w_aload_n dX9_tapeNumber_22 rfl ?_
  refine w_get (v := .ref (b + 33)) fX9_50 (hUs_at nd 0 rfl rfl) rfl dX9_tapeNumber_23 ?_
  refine w_get (v := .ref (b + 34)) fX9_300 (hUs_at nd 1 rfl rfl) rfl dX9_tapeNumber_26 ?_
  refine w_aload_n dX9_tapeNumber_29 rfl ?_
  refine w_get (v := .int (nI (tp + 1))) fX9_68 (hUs_at nd 0 rfl rfl) rfl dX9_tapeNumber_30 ?_
  refine w_iload_n dX9_tapeNumber_33 rfl ?_
  refine w_iload_n dX9_tapeNumber_34 rfl ?_
  refine w_ishr dX9_tapeNumber_35 ?_
  refine w_i2b dX9_tapeNumber_36 ?_
  refine w_bastoreN (hUs_at nd 2 rfl rfl) (by omega) (by omega) dX9_tapeNumber_37 ?_
  refine w_heq (hUs_set nd rfl 2 (cs' := [(oC 9 [.ref (b + 1), .ref (b + 14), .ref (b + 17), .ref (b + 19), .ref (b + 25), .ref (b + 29), .ref (b + 33), .ref pp, .int ht, .int (nI (tp + 1)), .int sd, .int fa, .int pl, .int tr]), (oC 5 (rdF (b + 34) ps xr)), (aB 600 (upd (upd ft tp (vp_nar .byte ((x >>> ((24 : Int32) &&& 31)).toInt8.toInt32))) (tp + 1) (vp_nar .byte ((x >>> ((16 : Int32) &&& 31)).toInt8.toInt32))))]) rfl rfl) ?_
  refine w_aload_n dX9_tapeNumber_38 rfl ?_
  refine w_dup dX9_tapeNumber_39 rfl ?_
  refine w_get (v := .int (nI (tp + 1))) fX9_68 (hUs_at nd 0 rfl rfl) rfl dX9_tapeNumber_40 ?_
  refine w_iconst (v := 1) dX9_tapeNumber_43 (by decide) ?_
  refine w_iaddE (z := nI ((tp + 1) + 1)) dX9_tapeNumber_44 (nI_add ((tp + 1)) (1)) ?_
  refine w_put (fs' := [.ref (b + 1), .ref (b + 14), .ref (b + 17), .ref (b + 19), .ref (b + 25), .ref (b + 29), .ref (b + 33), .ref pp, .int ht, .int (nI ((tp + 1) + 1)), .int sd, .int fa, .int pl, .int tr]) fX9_68 (hUs_at nd 0 rfl rfl) rfl rfl (Nat.le_of_ble_eq_true rfl) rfl dX9_tapeNumber_45 ?_
  refine w_heq (hUs_set nd rfl 0 (cs' := [(oC 9 [.ref (b + 1), .ref (b + 14), .ref (b + 17), .ref (b + 19), .ref (b + 25), .ref (b + 29), .ref (b + 33), .ref pp, .int ht, .int (nI ((tp + 1) + 1)), .int sd, .int fa, .int pl, .int tr]), (oC 5 (rdF (b + 34) ps xr)), (aB 600 (upd (upd ft tp (vp_nar .byte ((x >>> ((24 : Int32) &&& 31)).toInt8.toInt32))) (tp + 1) (vp_nar .byte ((x >>> ((16 : Int32) &&& 31)).toInt8.toInt32))))]) rfl rfl) ?_
  refine w_iinc (v := 8) (ls2 := [some (.ref b), some (.int x), some (.int 8)]) dX9_tapeNumber_48 rfl (by decide) (by decide) rfl rfl ?_
  refine w_goto (tgt := 3) dX9_tapeNumber_51 rfl ?_
  refine w_iload_n dX9_tapeNumber_3 rfl ?_
  refine w_if_lt_f (tgt := 54) dX9_tapeNumber_4 rfl (by decide) ?_
  refine w_aload_n dX9_tapeNumber_7 rfl ?_
  refine w_get (v := .int (nI ((tp + 1) + 1))) fX9_68 (hUs_at nd 0 rfl rfl) rfl dX9_tapeNumber_8 ?_
  refine w_aload_n dX9_tapeNumber_11 rfl ?_
  refine w_get (v := .ref (b + 33)) fX9_50 (hUs_at nd 0 rfl rfl) rfl dX9_tapeNumber_12 ?_
  refine w_get (v := .ref (b + 34)) fX9_300 (hUs_at nd 1 rfl rfl) rfl dX9_tapeNumber_15 ?_
  refine w_alen (v := (nI 600)) (hUs_at nd 2 rfl rfl) rfl dX9_tapeNumber_18 ?_
  refine w_icmp_ge_f (tgt := 54) dX9_tapeNumber_19 rfl (fun z => absurd ((nI_leI (a := 600) (b := ((tp + 1) + 1)) (by omega) (by omega)).mp z) (by omega)) ?_
  refine w_aload_n dX9_tapeNumber_22 rfl ?_
  refine w_get (v := .ref (b + 33)) fX9_50 (hUs_at nd 0 rfl rfl) rfl dX9_tapeNumber_23 ?_
  refine w_get (v := .ref (b + 34)) fX9_300 (hUs_at nd 1 rfl rfl) rfl dX9_tapeNumber_26 ?_
  refine w_aload_n dX9_tapeNumber_29 rfl ?_
  refine w_get (v := .int (nI ((tp + 1) + 1))) fX9_68 (hUs_at nd 0 rfl rfl) rfl dX9_tapeNumber_30 ?_
  refine w_iload_n dX9_tapeNumber_33 rfl ?_
  refine w_iload_n dX9_tapeNumber_34 rfl ?_
  refine w_ishr dX9_tapeNumber_35 ?_
  refine w_i2b dX9_tapeNumber_36 ?_
  refine w_bastoreN (hUs_at nd 2 rfl rfl) (by omega) (by omega) dX9_tapeNumber_37 ?_
  refine w_heq (hUs_set nd rfl 2 (cs' := [(oC 9 [.ref (b + 1), .ref (b + 14), .ref (b + 17), .ref (b + 19), .ref (b + 25), .ref (b + 29), .ref (b + 33), .ref pp, .int ht, .int (nI ((tp + 1) + 1)), .int sd, .int fa, .int pl, .int tr]), (oC 5 (rdF (b + 34) ps xr)), (aB 600 (upd (upd (upd ft tp (vp_nar .byte ((x >>> ((24 : Int32) &&& 31)).toInt8.toInt32))) (tp + 1) (vp_nar .byte ((x >>> ((16 : Int32) &&& 31)).toInt8.toInt32))) ((tp + 1) + 1) (vp_nar .byte ((x >>> ((8 : Int32) &&& 31)).toInt8.toInt32))))]) rfl rfl) ?_
  refine w_aload_n dX9_tapeNumber_38 rfl ?_
  refine w_dup dX9_tapeNumber_39 rfl ?_
  refine w_get (v := .int (nI ((tp + 1) + 1))) fX9_68 (hUs_at nd 0 rfl rfl) rfl dX9_tapeNumber_40 ?_
  refine w_iconst (v := 1) dX9_tapeNumber_43 (by decide) ?_
  refine w_iaddE (z := nI (((tp + 1) + 1) + 1)) dX9_tapeNumber_44 (nI_add (((tp + 1) + 1)) (1)) ?_
  refine w_put (fs' := [.ref (b + 1), .ref (b + 14), .ref (b + 17), .ref (b + 19), .ref (b + 25), .ref (b + 29), .ref (b + 33), .ref pp, .int ht, .int (nI (((tp + 1) + 1) + 1)), .int sd, .int fa, .int pl, .int tr]) fX9_68 (hUs_at nd 0 rfl rfl) rfl rfl (Nat.le_of_ble_eq_true rfl) rfl dX9_tapeNumber_45 ?_
  refine w_heq (hUs_set nd rfl 0 (cs' := [(oC 9 [.ref (b + 1), .ref (b + 14), .ref (b + 17), .ref (b + 19), .ref (b + 25), .ref (b + 29), .ref (b + 33), .ref pp, .int ht, .int (nI (((tp + 1) + 1) + 1)), .int sd, .int fa, .int pl, .int tr]), (oC 5 (rdF (b + 34) ps xr)), (aB 600 (upd (upd (upd ft tp (vp_nar .byte ((x >>> ((24 : Int32) &&& 31)).toInt8.toInt32))) (tp + 1) (vp_nar .byte ((x >>> ((16 : Int32) &&& 31)).toInt8.toInt32))) ((tp + 1) + 1) (vp_nar .byte ((x >>> ((8 : Int32) &&& 31)).toInt8.toInt32))))]) rfl rfl) ?_
  refine w_iinc (v := 0) (ls2 := [some (.ref b), some (.int x), some (.int 0)]) dX9_tapeNumber_48 rfl (by decide) (by decide) rfl rfl ?_
  refine w_goto (tgt := 3) dX9_tapeNumber_51 rfl ?_
  refine w_iload_n dX9_tapeNumber_3 rfl ?_
  refine w_if_lt_f (tgt := 54) dX9_tapeNumber_4 rfl (by decide) ?_
  refine w_aload_n dX9_tapeNumber_7 rfl ?_
  refine w_get (v := .int (nI (((tp + 1) + 1) + 1))) fX9_68 (hUs_at nd 0 rfl rfl) rfl dX9_tapeNumber_8 ?_
  refine w_aload_n dX9_tapeNumber_11 rfl ?_
  refine w_get (v := .ref (b + 33)) fX9_50 (hUs_at nd 0 rfl rfl) rfl dX9_tapeNumber_12 ?_
  refine w_get (v := .ref (b + 34)) fX9_300 (hUs_at nd 1 rfl rfl) rfl dX9_tapeNumber_15 ?_
  refine w_alen (v := (nI 600)) (hUs_at nd 2 rfl rfl) rfl dX9_tapeNumber_18 ?_
  refine w_icmp_ge_f (tgt := 54) dX9_tapeNumber_19 rfl (fun z => absurd ((nI_leI (a := 600) (b := (((tp + 1) + 1) + 1)) (by omega) (by omega)).mp z) (by omega)) ?_
  refine w_aload_n dX9_tapeNumber_22 rfl ?_
  refine w_get (v := .ref (b + 33)) fX9_50 (hUs_at nd 0 rfl rfl) rfl dX9_tapeNumber_23 ?_
  refine w_get (v := .ref (b + 34)) fX9_300 (hUs_at nd 1 rfl rfl) rfl dX9_tapeNumber_26 ?_
  refine w_aload_n dX9_tapeNumber_29 rfl ?_
  refine w_get (v := .int (nI (((tp + 1) + 1) + 1))) fX9_68 (hUs_at nd 0 rfl rfl) rfl dX9_tapeNumber_30 ?_
  refine w_iload_n dX9_tapeNumber_33 rfl ?_
  refine w_iload_n dX9_tapeNumber_34 rfl ?_
  refine w_ishr dX9_tapeNumber_35 ?_
  refine w_i2b dX9_tapeNumber_36 ?_
  refine w_bastoreN (hUs_at nd 2 rfl rfl) (by omega) (by omega) dX9_tapeNumber_37 ?_
  refine w_heq (hUs_set nd rfl 2 (cs' := [(oC 9 [.ref (b + 1), .ref (b + 14), .ref (b + 17), .ref (b + 19), .ref (b + 25), .ref (b + 29), .ref (b + 33), .ref pp, .int ht, .int (nI (((tp + 1) + 1) + 1)), .int sd, .int fa, .int pl, .int tr]), (oC 5 (rdF (b + 34) ps xr)), (aB 600 (upd (upd (upd (upd ft tp (vp_nar .byte ((x >>> ((24 : Int32) &&& 31)).toInt8.toInt32))) (tp + 1) (vp_nar .byte ((x >>> ((16 : Int32) &&& 31)).toInt8.toInt32))) ((tp + 1) + 1) (vp_nar .byte ((x >>> ((8 : Int32) &&& 31)).toInt8.toInt32))) (((tp + 1) + 1) + 1) (vp_nar .byte ((x >>> ((0 : Int32) &&& 31)).toInt8.toInt32))))]) rfl rfl) ?_
  refine w_aload_n dX9_tapeNumber_38 rfl ?_
  refine w_dup dX9_tapeNumber_39 rfl ?_
  refine w_get (v := .int (nI (((tp + 1) + 1) + 1))) fX9_68 (hUs_at nd 0 rfl rfl) rfl dX9_tapeNumber_40 ?_
  refine w_iconst (v := 1) dX9_tapeNumber_43 (by decide) ?_
  refine w_iaddE (z := nI ((((tp + 1) + 1) + 1) + 1)) dX9_tapeNumber_44 (nI_add ((((tp + 1) + 1) + 1)) (1)) ?_
  refine w_put (fs' := [.ref (b + 1), .ref (b + 14), .ref (b + 17), .ref (b + 19), .ref (b + 25), .ref (b + 29), .ref (b + 33), .ref pp, .int ht, .int (nI ((((tp + 1) + 1) + 1) + 1)), .int sd, .int fa, .int pl, .int tr]) fX9_68 (hUs_at nd 0 rfl rfl) rfl rfl (Nat.le_of_ble_eq_true rfl) rfl dX9_tapeNumber_45 ?_
  refine w_heq (hUs_set nd rfl 0 (cs' := [(oC 9 [.ref (b + 1), .ref (b + 14), .ref (b + 17), .ref (b + 19), .ref (b + 25), .ref (b + 29), .ref (b + 33), .ref pp, .int ht, .int (nI ((((tp + 1) + 1) + 1) + 1)), .int sd, .int fa, .int pl, .int tr]), (oC 5 (rdF (b + 34) ps xr)), (aB 600 (upd (upd (upd (upd ft tp (vp_nar .byte ((x >>> ((24 : Int32) &&& 31)).toInt8.toInt32))) (tp + 1) (vp_nar .byte ((x >>> ((16 : Int32) &&& 31)).toInt8.toInt32))) ((tp + 1) + 1) (vp_nar .byte ((x >>> ((8 : Int32) &&& 31)).toInt8.toInt32))) (((tp + 1) + 1) + 1) (vp_nar .byte ((x >>> ((0 : Int32) &&& 31)).toInt8.toInt32))))]) rfl rfl) ?_
  refine w_iinc (v := (-8)) (ls2 := [some (.ref b), some (.int x), some (.int (-8))]) dX9_tapeNumber_48 rfl (by decide) (by decide) rfl rfl ?_
  refine w_goto (tgt := 3) dX9_tapeNumber_51 rfl ?_
  refine w_iload_n dX9_tapeNumber_3 rfl ?_
  refine w_if_lt_t (tgt := 54) dX9_tapeNumber_4 rfl (by decide) ?_
  refine w_return rfl dX9_tapeNumber_54 (Nat.le_of_ble_eq_true rfl) (Nat.le_of_ble_eq_true rfl) ?_
  exact k
set_option maxRecDepth 100000 in
set_option maxHeartbeats 4000000 in
theorem c_takePlan {G : wG} {d : Nat} {h : hH} {Q : Option Value → hH → Prop} {b pp tp : Nat} {ht sd fa pl tr : Int32} {ps : Nat} {xr : rD} {qw : Nat} {go ln wn rsd c : Int32} {i01 i02 i03 i04 i05 i06 i07 i11 i12 i13 i14 i15 i16 i17 : Int32} (hw : hHas h [b, b + 1, b + 14, b + 15, b + 16, b + 33] [(oC 9 [.ref (b + 1), .ref (b + 14), .ref (b + 17), .ref (b + 19), .ref (b + 25), .ref (b + 29), .ref (b + 33), .ref pp, .int ht, .int (nI tp), .int sd, .int fa, .int pl, .int tr]), (oC 6 [.ref (b + 2), .ref (b + 6), .ref (b + 7), .ref (b + 8), .ref qw, .int go, .int ln, .int wn, .int rsd, .int c]), (aR RX2 2 (imR b)), (oC 2 [.int i01, .int i02, .int i03, .int i04, .int i05, .int i06, .int i07]), (oC 2 [.int i11, .int i12, .int i13, .int i14, .int i15, .int i16, .int i17]), (oC 5 (rdF (b + 34) ps xr))]) (nd : [b, b + 1, b + 14, b + 15, b + 16, b + 33].Nodup)  (k : Q none (hUs h [b, b + 1, b + 14, b + 15, b + 16, b + 33] [(oC 9 [.ref (b + 1), .ref (b + 14), .ref (b + 17), .ref (b + 19), .ref (b + 25), .ref (b + 29), .ref (b + 33), .ref ps, .int 1, .int (nI tp), .int sd, .int fa, .int pl, .int tr]), (oC 6 [.ref (b + 2), .ref (b + 6), .ref (b + 7), .ref (b + 8), .ref qw, .int 0, .int ln, .int wn, .int rsd, .int c]), (aR RX2 2 (imR b)), (oC 2 [.int 0, .int i02, .int i03, .int i04, .int i05, .int i06, .int i07]), (oC 2 [.int 0, .int i12, .int i13, .int i14, .int i15, .int i16, .int i17]), (oC 5 (rdF (b + 34) pp xr))])) : Cl G yX9_takePlan d 0 0 [.ref b] h Q := by
  refine Cl.of (ini := false) kX9_takePlan (plainFor_of_name (by decide)) (by decide) (Nat.le_of_ble_eq_true rfl) rfl rfl (fun z => by cases z) ?_
  refine w_heq (hUs_id hw).symm ?_
  refine w_aload_n dX9_takePlan_0 rfl ?_
  refine w_get (v := .ref pp) fX9_57 (hUs_at nd 0 rfl rfl) rfl dX9_takePlan_1 ?_
  refine w_astore_n (ls2 := [some (.ref b), some (.ref pp), none]) dX9_takePlan_4 (by decide) rfl rfl ?_
  refine w_aload_n dX9_takePlan_5 rfl ?_
  refine w_aload_n dX9_takePlan_6 rfl ?_
  refine w_get (v := .ref (b + 33)) fX9_50 (hUs_at nd 0 rfl rfl) rfl dX9_takePlan_7 ?_
  refine w_get (v := .ref ps) fX9_303 (hUs_at nd 5 rfl rfl) rfl dX9_takePlan_10 ?_
  refine w_put (fs' := [.ref (b + 1), .ref (b + 14), .ref (b + 17), .ref (b + 19), .ref (b + 25), .ref (b + 29), .ref (b + 33), .ref ps, .int ht, .int (nI tp), .int sd, .int fa, .int pl, .int tr]) fX9_57 (hUs_at nd 0 rfl rfl) rfl rfl (Nat.le_of_ble_eq_true rfl) rfl dX9_takePlan_13 ?_
  refine w_heq (hUs_set nd rfl 0 (cs' := [(oC 9 [.ref (b + 1), .ref (b + 14), .ref (b + 17), .ref (b + 19), .ref (b + 25), .ref (b + 29), .ref (b + 33), .ref ps, .int ht, .int (nI tp), .int sd, .int fa, .int pl, .int tr]), (oC 6 [.ref (b + 2), .ref (b + 6), .ref (b + 7), .ref (b + 8), .ref qw, .int go, .int ln, .int wn, .int rsd, .int c]), (aR RX2 2 (imR b)), (oC 2 [.int i01, .int i02, .int i03, .int i04, .int i05, .int i06, .int i07]), (oC 2 [.int i11, .int i12, .int i13, .int i14, .int i15, .int i16, .int i17]), (oC 5 (rdF (b + 34) ps xr))]) rfl rfl) ?_
  refine w_aload_n dX9_takePlan_16 rfl ?_
  refine w_get (v := .ref (b + 33)) fX9_50 (hUs_at nd 0 rfl rfl) rfl dX9_takePlan_17 ?_
  refine w_aload_n dX9_takePlan_20 rfl ?_
  refine w_put (fs' := (rdF (b + 34) pp xr)) fX9_303 (hUs_at nd 5 rfl rfl) rfl rfl (Nat.le_of_ble_eq_true rfl) rfl dX9_takePlan_21 ?_
  refine w_heq (hUs_set nd rfl 5 (cs' := [(oC 9 [.ref (b + 1), .ref (b + 14), .ref (b + 17), .ref (b + 19), .ref (b + 25), .ref (b + 29), .ref (b + 33), .ref ps, .int ht, .int (nI tp), .int sd, .int fa, .int pl, .int tr]), (oC 6 [.ref (b + 2), .ref (b + 6), .ref (b + 7), .ref (b + 8), .ref qw, .int go, .int ln, .int wn, .int rsd, .int c]), (aR RX2 2 (imR b)), (oC 2 [.int i01, .int i02, .int i03, .int i04, .int i05, .int i06, .int i07]), (oC 2 [.int i11, .int i12, .int i13, .int i14, .int i15, .int i16, .int i17]), (oC 5 (rdF (b + 34) pp xr))]) rfl rfl) ?_
  refine w_aload_n dX9_takePlan_24 rfl ?_
  refine w_iconst (v := 1) dX9_takePlan_25 (by decide) ?_
  refine w_put (fs' := [.ref (b + 1), .ref (b + 14), .ref (b + 17), .ref (b + 19), .ref (b + 25), .ref (b + 29), .ref (b + 33), .ref ps, .int 1, .int (nI tp), .int sd, .int fa, .int pl, .int tr]) fX9_100 (hUs_at nd 0 rfl rfl) rfl rfl (Nat.le_of_ble_eq_true rfl) rfl dX9_takePlan_26 ?_
  refine w_heq (hUs_set nd rfl 0 (cs' := [(oC 9 [.ref (b + 1), .ref (b + 14), .ref (b + 17), .ref (b + 19), .ref (b + 25), .ref (b + 29), .ref (b + 33), .ref ps, .int 1, .int (nI tp), .int sd, .int fa, .int pl, .int tr]), (oC 6 [.ref (b + 2), .ref (b + 6), .ref (b + 7), .ref (b + 8), .ref qw, .int go, .int ln, .int wn, .int rsd, .int c]), (aR RX2 2 (imR b)), (oC 2 [.int i01, .int i02, .int i03, .int i04, .int i05, .int i06, .int i07]), (oC 2 [.int i11, .int i12, .int i13, .int i14, .int i15, .int i16, .int i17]), (oC 5 (rdF (b + 34) pp xr))]) rfl rfl) ?_
  refine w_aload_n dX9_takePlan_29 rfl ?_
  refine w_get (v := .ref (b + 1)) fX9_10 (hUs_at nd 0 rfl rfl) rfl dX9_takePlan_30 ?_
  refine w_iconst (v := 0) dX9_takePlan_33 (by decide) ?_
  refine w_put (fs' := [.ref (b + 2), .ref (b + 6), .ref (b + 7), .ref (b + 8), .ref qw, .int 0, .int ln, .int wn, .int rsd, .int c]) fX9_139 (hUs_at nd 1 rfl rfl) rfl rfl (Nat.le_of_ble_eq_true rfl) rfl dX9_takePlan_34 ?_
  refine w_heq (hUs_set nd rfl 1 (cs' := [(oC 9 [.ref (b + 1), .ref (b + 14), .ref (b + 17), .ref (b + 19), .ref (b + 25), .ref (b + 29), .ref (b + 33), .ref ps, .int 1, .int (nI tp), .int sd, .int fa, .int pl, .int tr]), (oC 6 [.ref (b + 2), .ref (b + 6), .ref (b + 7), .ref (b + 8), .ref qw, .int 0, .int ln, .int wn, .int rsd, .int c]), (aR RX2 2 (imR b)), (oC 2 [.int i01, .int i02, .int i03, .int i04, .int i05, .int i06, .int i07]), (oC 2 [.int i11, .int i12, .int i13, .int i14, .int i15, .int i16, .int i17]), (oC 5 (rdF (b + 34) pp xr))]) rfl rfl) ?_
  refine w_iconst (v := (nI 0)) dX9_takePlan_37 (by decide) ?_
  refine w_istore_n (ls2 := [some (.ref b), some (.ref pp), some (.int (nI 0))]) dX9_takePlan_38 (by decide) rfl rfl ?_
  refine w_iload_n dX9_takePlan_39 rfl ?_
  refine w_aload_n dX9_takePlan_40 rfl ?_
  refine w_get (v := .ref (b + 14)) fX9_19 (hUs_at nd 0 rfl rfl) rfl dX9_takePlan_41 ?_
  refine w_alen (v := (nI 2)) (hUs_at nd 2 rfl rfl) rfl dX9_takePlan_44 ?_
  refine w_icmp_ge_f (tgt := 64) dX9_takePlan_45 rfl (fun z => absurd ((nI_leI (a := 2) (b := 0) (by omega) (by omega)).mp z) (by omega)) ?_
  refine w_aload_n dX9_takePlan_48 rfl ?_
  refine w_get (v := .ref (b + 14)) fX9_19 (hUs_at nd 0 rfl rfl) rfl dX9_takePlan_49 ?_
  refine w_iload_n dX9_takePlan_52 rfl ?_
  refine w_aaloadN (hUs_at nd 2 rfl rfl) (by omega) (by omega) dX9_takePlan_53 ?_
  refine w_topV (z := .ref (b + 15)) rfl ?_
  refine w_iconst (v := 0) dX9_takePlan_54 (by decide) ?_
  refine w_put (fs' := [.int 0, .int i02, .int i03, .int i04, .int i05, .int i06, .int i07]) fX9_280 (hUs_at nd 3 rfl rfl) rfl rfl (Nat.le_of_ble_eq_true rfl) rfl dX9_takePlan_55 ?_
  refine w_heq (hUs_set nd rfl 3 (cs' := [(oC 9 [.ref (b + 1), .ref (b + 14), .ref (b + 17), .ref (b + 19), .ref (b + 25), .ref (b + 29), .ref (b + 33), .ref ps, .int 1, .int (nI tp), .int sd, .int fa, .int pl, .int tr]), (oC 6 [.ref (b + 2), .ref (b + 6), .ref (b + 7), .ref (b + 8), .ref qw, .int 0, .int ln, .int wn, .int rsd, .int c]), (aR RX2 2 (imR b)), (oC 2 [.int 0, .int i02, .int i03, .int i04, .int i05, .int i06, .int i07]), (oC 2 [.int i11, .int i12, .int i13, .int i14, .int i15, .int i16, .int i17]), (oC 5 (rdF (b + 34) pp xr))]) rfl rfl) ?_
  refine w_iinc (v := nI (0 + 1)) (ls2 := [some (.ref b), some (.ref pp), some (.int (nI (0 + 1)))]) dX9_takePlan_58 rfl (nI_1 _) (by decide) rfl rfl ?_
  refine w_goto (tgt := 39) dX9_takePlan_61 rfl ?_
  refine w_iload_n dX9_takePlan_39 rfl ?_
  refine w_aload_n dX9_takePlan_40 rfl ?_
  refine w_get (v := .ref (b + 14)) fX9_19 (hUs_at nd 0 rfl rfl) rfl dX9_takePlan_41 ?_
  refine w_alen (v := (nI 2)) (hUs_at nd 2 rfl rfl) rfl dX9_takePlan_44 ?_
  refine w_icmp_ge_f (tgt := 64) dX9_takePlan_45 rfl (fun z => absurd ((nI_leI (a := 2) (b := (0 + 1)) (by omega) (by omega)).mp z) (by omega)) ?_
  refine w_aload_n dX9_takePlan_48 rfl ?_
  refine w_get (v := .ref (b + 14)) fX9_19 (hUs_at nd 0 rfl rfl) rfl dX9_takePlan_49 ?_
  refine w_iload_n dX9_takePlan_52 rfl ?_
  refine w_aaloadN (hUs_at nd 2 rfl rfl) (by omega) (by omega) dX9_takePlan_53 ?_
  refine w_topV (z := .ref (b + 16)) rfl ?_
  refine w_iconst (v := 0) dX9_takePlan_54 (by decide) ?_
  refine w_put (fs' := [.int 0, .int i12, .int i13, .int i14, .int i15, .int i16, .int i17]) fX9_280 (hUs_at nd 4 rfl rfl) rfl rfl (Nat.le_of_ble_eq_true rfl) rfl dX9_takePlan_55 ?_
  refine w_heq (hUs_set nd rfl 4 (cs' := [(oC 9 [.ref (b + 1), .ref (b + 14), .ref (b + 17), .ref (b + 19), .ref (b + 25), .ref (b + 29), .ref (b + 33), .ref ps, .int 1, .int (nI tp), .int sd, .int fa, .int pl, .int tr]), (oC 6 [.ref (b + 2), .ref (b + 6), .ref (b + 7), .ref (b + 8), .ref qw, .int 0, .int ln, .int wn, .int rsd, .int c]), (aR RX2 2 (imR b)), (oC 2 [.int 0, .int i02, .int i03, .int i04, .int i05, .int i06, .int i07]), (oC 2 [.int 0, .int i12, .int i13, .int i14, .int i15, .int i16, .int i17]), (oC 5 (rdF (b + 34) pp xr))]) rfl rfl) ?_
  refine w_iinc (v := nI ((0 + 1) + 1)) (ls2 := [some (.ref b), some (.ref pp), some (.int (nI ((0 + 1) + 1)))]) dX9_takePlan_58 rfl (nI_1 _) (by decide) rfl rfl ?_
  refine w_goto (tgt := 39) dX9_takePlan_61 rfl ?_
  refine w_iload_n dX9_takePlan_39 rfl ?_
  refine w_aload_n dX9_takePlan_40 rfl ?_
  refine w_get (v := .ref (b + 14)) fX9_19 (hUs_at nd 0 rfl rfl) rfl dX9_takePlan_41 ?_
  refine w_alen (v := (nI 2)) (hUs_at nd 2 rfl rfl) rfl dX9_takePlan_44 ?_
  refine w_icmp_ge_t (tgt := 64) dX9_takePlan_45 rfl ((nI_leI (a := 2) (b := ((0 + 1) + 1)) (by omega) (by omega)).mpr (by omega)) ?_
  refine w_return rfl dX9_takePlan_64 (Nat.le_of_ble_eq_true rfl) (Nat.le_of_ble_eq_true rfl) ?_
  exact k
