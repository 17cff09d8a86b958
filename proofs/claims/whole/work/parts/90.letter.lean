set_option maxRecDepth 100000 in
set_option maxHeartbeats 4000000 in
theorem m_lettersIn {G : wG} {d : Nat} {h : hH} {Q : Option Value → hH → Prop} {N i : Nat} (hN : 1 ≤ N % 32) (hi : i ≤ 6) (k : Q (some (.int (nI i))) h) : Cl G yX10_lettersIn d 0 0 [.long (Int64.ofNat (acN N i))] h Q := by
  refine Cl.of (ini := false) kX10_lettersIn (plainFor_of_name (by decide)) (by decide) (Nat.le_of_ble_eq_true rfl) rfl rfl (fun z => by cases z) ?_
  refine w_iconst (v := 0) dX10_lettersIn_0 (by decide) ?_
  refine w_istore_n (ls2 := [some (.long (Int64.ofNat (acN N i))), none, some (.int 0), none, none]) dX10_lettersIn_1 (by decide) rfl rfl ?_
  refine w_lload_n dX10_lettersIn_2 rfl ?_
  refine w_lstore_n (ls2 := [some (.long (Int64.ofNat (acN N i))), none, some (.int 0), some (.long (Int64.ofNat (acN N i))), none]) dX10_lettersIn_3 (by decide) rfl rfl ?_
  exact l_len hN k i 0 hi (Nat.zero_add i)
