theorem acN_30 (N : Nat) {i : Nat} (h : i ≤ 6) : acN N i < 2 ^ 30 := Nat.lt_of_lt_of_le (acN_lt N i) (Nat.le_trans (Nat.pow_le_pow_right (by decide) h) (by decide))
set_option maxRecDepth 100000 in
set_option maxHeartbeats 4000000 in
theorem l_len {G : wG} {d : Nat} {h : hH} {Q : Option Value → hH → Prop} {w : Int64} {N C : Nat} (hN : 1 ≤ N % 32) (k : Q (some (.int (nI C))) h) : ∀ (n c : Nat), n ≤ 6 → c + n = C → WP G RX10 cX10_lettersIn 5 (some .int) false d 0 0 0 0 Q 4 [some (.long w), none, some (.int (nI c)), some (.long (Int64.ofNat (acN N n))), none] [] h := by
  intro n
  induction n with
  | zero =>
    intro c hi hc
    refine w_lload_n dX10_lettersIn_4 rfl ?_
    refine w_lconst (v := 0) dX10_lettersIn_5 (by decide) ?_
    refine w_lcmp dX10_lettersIn_6 ?_
    refine w_if_le_t (tgt := 22) dX10_lettersIn_7 rfl (show lg_cmp (Int64.ofNat 0) 0 ≤ 0 by decide) ?_
    refine w_iload_n dX10_lettersIn_22 rfl ?_
    refine w_ireturn rfl dX10_lettersIn_23 (Nat.le_of_ble_eq_true rfl) (Nat.le_of_ble_eq_true rfl) ?_
    have z : c = C := by omega
    subst z
    exact k
  | succ n ih =>
    intro c hi hc
    refine w_lload_n dX10_lettersIn_4 rfl ?_
    refine w_lconst (v := 0) dX10_lettersIn_5 (by decide) ?_
    refine w_lcmp dX10_lettersIn_6 ?_
    refine w_if_le_f (tgt := 22) dX10_lettersIn_7 rfl (fun z => absurd ((lg_cmp_gt _ _).mpr ((i64_pos (acN_30 N hi)).mpr (acN_pos hN n))) (Int32.not_lt.mpr z)) ?_
    refine w_iinc (v := nI (c + 1)) (ls2 := [some (.long w), none, some (.int (nI (c + 1))), some (.long (Int64.ofNat (acN N (n + 1)))), none]) dX10_lettersIn_10 rfl (nI_1 _) (by decide) rfl rfl ?_
    refine w_lload_n dX10_lettersIn_13 rfl ?_
    refine w_ldc2 nX10_129 dX10_lettersIn_14 ?_
    refine w_ldiv dX10_lettersIn_17 (by decide) ?_
    refine w_topV (z := .long (Int64.ofNat (acN N n))) (by rw [i64_dv (acN_30 N hi), acN_dv]) ?_
    refine w_lstore_n (ls2 := [some (.long w), none, some (.int (nI (c + 1))), some (.long (Int64.ofNat (acN N n))), none]) dX10_lettersIn_18 (by decide) rfl rfl ?_
    refine w_goto (tgt := 4) dX10_lettersIn_19 rfl ?_
    exact ih (c + 1) (by omega) (by omega)
