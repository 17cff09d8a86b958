theorem nI_dec (n : Nat) : nI (n + 1) + (-1) = nI n := by
  rw [nI_1 n |>.symm, Int32.add_assoc, show (1 : Int32) + -1 = 0 from rfl, Int32.add_zero]
set_option maxRecDepth 100000 in
set_option maxHeartbeats 4000000 in
theorem l_lt {G : wG} {d : Nat} {h : hH} {Q : Option Value → hH → Prop} {m : Nat} {y u : Int32} {w : Int64} {N K : Nat} (k : WP G RX10 cX10_letter 10 (some .int) false (d + 2) 0 0 0 0 Q 122 [some (.ref m), some (.int y), some (.int u), some (.int (nI K)), none, some (.long w), none, some (.long (Int64.ofNat (acN N (K + 1)))), none, none] [] h) : ∀ (n : Nat), K + n + 1 ≤ 6 → WP G RX10 cX10_letter 10 (some .int) false (d + 2) 0 0 0 0 Q 102 [some (.ref m), some (.int y), some (.int u), some (.int (nI K)), none, some (.long w), none, some (.long (Int64.ofNat (acN N (K + n + 1)))), none, some (.int (nI (K + n)))] [] h := by
  intro n
  induction n with
  | zero =>
    intro hi
    refine w_iload dX10_letter_102 rfl ?_
    refine w_iload_n dX10_letter_104 rfl ?_
    refine w_icmp_le_t (tgt := 122) dX10_letter_105 rfl (Int32.le_refl _) ?_
    refine w_less (ls2 := [some (.ref m), some (.int y), some (.int u), some (.int (nI K)), none, some (.long w), none, some (.long (Int64.ofNat (acN N (K + 0 + 1)))), none, none]) ⟨Or.inr rfl, Or.inr rfl, Or.inr rfl, Or.inr rfl, Or.inl rfl, Or.inr rfl, Or.inl rfl, Or.inr rfl, Or.inl rfl, Or.inl rfl, trivial⟩ ?_
    exact k
  | succ n ih =>
    intro hi
    refine w_iload dX10_letter_102 rfl ?_
    refine w_iload_n dX10_letter_104 rfl ?_
    refine w_icmp_le_f (tgt := 122) dX10_letter_105 rfl (Int32.not_le.mpr ((nI_ltI (a := K) (b := K + (n + 1)) (by omega) (by omega)).mpr (by omega))) ?_
    refine w_lload dX10_letter_108 rfl ?_
    refine w_ldc2 nX10_129 dX10_letter_110 ?_
    refine w_ldiv dX10_letter_113 (by decide) ?_
    refine w_topV (z := .long (Int64.ofNat (acN N (K + n + 1)))) (by rw [i64_dv (acN_30 N hi), show K + (n + 1) + 1 = (K + n + 1) + 1 by omega, acN_dv]) ?_
    refine w_lstore (ls2 := [some (.ref m), some (.int y), some (.int u), some (.int (nI K)), none, some (.long w), none, some (.long (Int64.ofNat (acN N (K + n + 1)))), none, some (.int (nI (K + (n + 1))))]) dX10_letter_114 (by decide) rfl rfl ?_
    refine w_iinc (v := nI (K + n)) (ls2 := [some (.ref m), some (.int y), some (.int u), some (.int (nI K)), none, some (.long w), none, some (.long (Int64.ofNat (acN N (K + n + 1)))), none, some (.int (nI (K + n)))]) dX10_letter_116 rfl (nI_dec (K + n)) (by decide) rfl rfl ?_
    refine w_goto (tgt := 102) dX10_letter_119 rfl ?_
    exact ih (by omega)
