/-- a count over clocks -/
theorem cnt_n (p : Nat → Prop) [∀ t, Decidable (p t)] (a : Nat) : ∀ n, ∃ N, N ≤ n ∧ fld (fun t (s : Int32) => s + (if p t then 1 else 0)) a n 0 = nI N
  | 0 => ⟨0, Nat.le_refl _, rfl⟩
  | n + 1 => by
    obtain ⟨N, h1, h2⟩ := cnt_n p a n
    rw [fld, h2]
    by_cases e : p (a + n)
    · exact ⟨N + 1, by omega, by rw [if_pos e]; exact nI_1 N⟩
    · exact ⟨N, by omega, by rw [if_neg e]; exact Int32.add_zero _⟩
theorem lik_n (fo : Nat → Int32) (A B g : Nat) : ∃ N, N ≤ B + 1 - (A + g) ∧ likF fo A B g = nI N := cnt_n (fun t => fo t = fo (t + g)) A (B + 1 - (A + g))
theorem mul_lt4 {a b : Nat} (ha : a ≤ 4096) (hb : b ≤ 4096) : a * b ≤ 16777216 := Nat.le_trans (Nat.mul_le_mul ha hb) (by decide)
theorem pr64 {a b c d : Nat} (ha : a ≤ 4096) (hb : b ≤ 4096) (hc : c ≤ 4096) (hd : d ≤ 4096) : (nI a).toInt64 * (nI b).toInt64 < (nI c).toInt64 * (nI d).toInt64 ↔ nI a * nI b < nI c * nI d := by
  have h1 := mul_lt4 ha hb
  have h2 := mul_lt4 hc hd
  rw [pk_mul, pk_mul, nI_ltI (by omega) (by omega), Int64.lt_iff_toInt_lt, Int64.toInt_mul, Int64.toInt_mul, Int32.toInt_toInt64, Int32.toInt_toInt64, Int32.toInt_toInt64, Int32.toInt_toInt64, nI_toInt (by omega), nI_toInt (by omega), nI_toInt (by omega), nI_toInt (by omega)]
  have e1 : ((a : Int) * (b : Int)).bmod (2 ^ 64) = ((a * b : Nat) : Int) := by
    rw [← Int.natCast_mul]; exact Int.bmod_eq_of_le (by omega) (by omega)
  have e2 : ((c : Int) * (d : Int)).bmod (2 ^ 64) = ((c * d : Nat) : Int) := by
    rw [← Int.natCast_mul]; exact Int.bmod_eq_of_le (by omega) (by omega)
  rw [e1, e2]
  exact Int.ofNat_lt
/-- tone: where the reference stands after i lags -/
def tnP (fo : Nat → Int32) (A B i : Nat) (p : Int32 × Int32 × Int32) : Prop := (i = 0 ∧ p = (-2, 0, 1)) ∨ (p = fld (bstF fo A B) 1 i (-2, 0, 0) ∧ ¬ p.1 = -2 ∧ ∃ Y Z, Y ≤ 4096 ∧ Z ≤ 4096 ∧ p.2.1 = nI Y ∧ p.2.2 = nI Z)
theorem tnP_1 {fo : Nat → Int32} {A B i : Nat} {p : Int32 × Int32 × Int32} (h : tnP fo A B i p) : p.1 = (fld (bstF fo A B) 1 i (-2, 0, 0)).1 := by
  rcases h with ⟨h1, h2⟩ | ⟨h1, h2⟩
  · subst h1; rw [h2]; rfl
  · rw [← h1]
theorem nI_n2 {j : Nat} (h : j < 2 ^ 31) : ¬ nI j = -2 := by
  intro e
  have := nI_toInt h
  rw [e] at this
  have z : (-2 : Int32).toInt = -2 := rfl
  omega
theorem tnP_take {fo : Nat → Int32} {A B i : Nat} {p : Int32 × Int32 × Int32} (h : tnP fo A B i p) (hi : A + (1 + i) ≤ B) (hB : B < 4096) (c : p.1 = -2 ∨ p.2.1 * nI (B - A + 1 - (1 + i)) < likF fo A B (1 + i) * p.2.2) : tnP fo A B (i + 1) (nI (1 + i), likF fo A B (1 + i), nI (B - A + 1 - (1 + i))) := by
  obtain ⟨N, h1, h2⟩ := lik_n fo A B (1 + i)
  refine Or.inr ⟨?_, nI_n2 (by omega), N, B - A + 1 - (1 + i), by omega, by omega, h2, rfl⟩
  rw [fld]
  rcases h with ⟨z1, z2⟩ | ⟨z1, z2, z3⟩
  · subst z1
    rw [fld, bstF, if_pos (Or.inl rfl)]
  · rw [← z1, bstF, if_pos c]
theorem tnP_leave {fo : Nat → Int32} {A B i : Nat} {p : Int32 × Int32 × Int32} (h : tnP fo A B i p) (c1 : ¬ p.1 = -2) (c2 : ¬ p.2.1 * nI (B - A + 1 - (1 + i)) < likF fo A B (1 + i) * p.2.2) : tnP fo A B (i + 1) p := by
  rcases h with ⟨z1, z2⟩ | ⟨z1, z2, z3⟩
  · rw [z2] at c1; exact absurd rfl c1
  · refine Or.inr ⟨?_, z2, z3⟩
    rw [fld, ← z1, bstF, if_neg (fun z => z.elim c1 c2)]
theorem tnP_cmp {fo : Nat → Int32} {A B i : Nat} {p : Int32 × Int32 × Int32} (h : tnP fo A B i p) (c1 : ¬ p.1 = -2) (hB : B < 4096) : p.2.1.toInt64 * (nI (B - (1 + i) - A + 1)).toInt64 < (likF fo A B (1 + i)).toInt64 * p.2.2.toInt64 ↔ p.2.1 * nI (B - (1 + i) - A + 1) < likF fo A B (1 + i) * p.2.2 := by
  obtain ⟨N, h1, h2⟩ := lik_n fo A B (1 + i)
  rcases h with ⟨z1, z2⟩ | ⟨z1, z2, Y, Z, hY, hZ, y1, y2⟩
  · rw [z2] at c1; exact absurd rfl c1
  · rw [y1, y2, h2]
    exact pr64 hY (by omega) (by omega) hZ
set_option maxRecDepth 100000 in
set_option maxHeartbeats 4000000 in
theorem lq_tone {G : wG} {d : Nat} {h : hH} {Q : Option Value → hH → Prop} {m tp : Nat} {P : pD} {ht sd fa pl tr sz sp fl tk ta sg nu : Int32} {wd : Int64} {rl rw ah cl : Int32} {fr : Nat → Int32} {fo : Nat → Int32} {A B g : Nat} (nd : [m, m + 14, m + 18].Nodup) (hA : A ≤ B) (hB : B < 4096) (hg : g ≤ 200) (k : WP G RX10 cX10_tone 10 (some .int) false (d + 3) 0 0 0 0 Q 137 [some (.ref m), some (.int (nI A)), some (.int (nI B)), some (.int (nI g)), some (.int (fld (bstF fo A B) 1 (min g (B - A)) (-2, 0, 0)).1), none, none, none, none, none] [] (hUs h [m, m + 14, m + 18] [(oC 10 (mF m 0 tr pl (nI tp) sz sp fa fl tk ta sg nu wd (nI P.1) (nI P.2.1) rl rw ht sd ah cl)), (aI 11 fr), (aB 4096 fo)])) : ∀ (n : Nat) (i : Nat) (x y z : Int32), i + n = min g (B - A) → tnP fo A B i (x, y, z) → WP G RX10 cX10_tone 10 (some .int) false (d + 3) 0 0 0 0 Q 57 [some (.ref m), some (.int (nI A)), some (.int (nI B)), some (.int (nI g)), some (.int x), some (.int y), some (.int z), some (.int (nI (1 + i))), none, none] [] (hUs h [m, m + 14, m + 18] [(oC 10 (mF m 0 tr pl (nI tp) sz sp fa fl tk ta sg nu wd (nI P.1) (nI P.2.1) rl rw ht sd ah cl)), (aI 11 fr), (aB 4096 fo)]) := by
  intro n
  induction n with
  | zero =>
    intro i x y z hi e
    refine w_iload dX10_tone_57 rfl ?_
    refine w_iload_n dX10_tone_59 rfl ?_
    refine w_icmp_gt (tgt := 137) dX10_tone_60 rfl (fun b60 => ?_) (fun b60 => ?_)
    · have b60 := (nI_ltI (a := g) (b := (1 + i)) (by omega) (by omega)).mp b60
      
      refine w_less (ls2 := [some (.ref m), some (.int (nI A)), some (.int (nI B)), some (.int (nI g)), some (.int x), none, none, none, none, none]) ⟨Or.inr rfl, Or.inr rfl, Or.inr rfl, Or.inr rfl, Or.inr rfl, Or.inl rfl, Or.inl rfl, Or.inl rfl, Or.inl rfl, Or.inl rfl, trivial⟩ ?_
      have z9 : i = min g (B - A) := by omega
      have e9 := tnP_1 e
      rw [z9] at e9
      rw [← e9] at k
      exact k
    · have b60 : ¬ g < (1 + i) := fun z => b60 ((nI_ltI (a := g) (b := (1 + i)) (by omega) (by omega)).mpr z)
      refine w_iload_n dX10_tone_63 rfl ?_
      refine w_iload dX10_tone_64 rfl ?_
      refine w_iaddE (z := nI (A + (1 + i))) dX10_tone_66 (nI_add (A) ((1 + i))) ?_
      refine w_iload_n dX10_tone_67 rfl ?_
      refine w_icmp_gt (tgt := 137) dX10_tone_68 rfl (fun b68 => ?_) (fun b68 => ?_)
      · have b68 := (nI_ltI (a := B) (b := (A + (1 + i))) (by omega) (by omega)).mp b68
        refine w_less (ls2 := [some (.ref m), some (.int (nI A)), some (.int (nI B)), some (.int (nI g)), some (.int x), none, none, none, none, none]) ⟨Or.inr rfl, Or.inr rfl, Or.inr rfl, Or.inr rfl, Or.inr rfl, Or.inl rfl, Or.inl rfl, Or.inl rfl, Or.inl rfl, Or.inl rfl, trivial⟩ ?_
        have z9 : i = min g (B - A) := by omega
        have e9 := tnP_1 e
        rw [z9] at e9
        rw [← e9] at k
        exact k
      · have b68 : ¬ B < (A + (1 + i)) := fun z => b68 ((nI_ltI (a := B) (b := (A + (1 + i))) (by omega) (by omega)).mpr z)
        exact absurd b68 (by omega)
  | succ n ih =>
    intro i x y z hi e
    refine w_iload dX10_tone_57 rfl ?_
    refine w_iload_n dX10_tone_59 rfl ?_
    refine w_icmp_gt_f (tgt := 137) dX10_tone_60 rfl (fun z => absurd ((nI_ltI (a := g) (b := (1 + i)) (by omega) (by omega)).mp z) (by omega)) ?_
    refine w_iload_n dX10_tone_63 rfl ?_
    refine w_iload dX10_tone_64 rfl ?_
    refine w_iaddE (z := nI (A + (1 + i))) dX10_tone_66 (nI_add (A) ((1 + i))) ?_
    refine w_iload_n dX10_tone_67 rfl ?_
    refine w_icmp_gt_f (tgt := 137) dX10_tone_68 rfl (fun z => absurd ((nI_ltI (a := B) (b := (A + (1 + i))) (by omega) (by omega)).mp z) (by omega)) ?_
    refine w_aload_n dX10_tone_71 rfl ?_
    refine w_iload_n dX10_tone_72 rfl ?_
    refine w_iload_n dX10_tone_73 rfl ?_
    refine w_iload dX10_tone_74 rfl ?_
    refine w_callV (ci := 10) (d' := d + 2) (mc' := 0) (ms' := 0) (As := [.int (nI A), .int (nI B), .int (nI (1 + i))]) (st := []) lX10_304 vX10_likeBy rfl (hUs_at nd 0 rfl rfl) rfl (Nat.le_of_ble_eq_true rfl) dX10_tone_76 (Nat.le_of_ble_eq_true rfl) (Nat.le_of_ble_eq_true rfl) (Nat.le_refl _) (m_likeBy (hHas_sub nd (as' := [m, m + 18]) (cs' := [(oC 10 (mF m 0 tr pl (nI tp) sz sp fa fl tk ta sg nu wd (nI P.1) (nI P.2.1) rl rw ht sd ah cl)), (aB 4096 fo)]) [0, 2] rfl rfl) (by omega) (by omega) (by omega) ?_)
    refine w_istore (ls2 := [some (.ref m), some (.int (nI A)), some (.int (nI B)), some (.int (nI g)), some (.int x), some (.int y), some (.int z), some (.int (nI (1 + i))), some (.int (likF fo A B (1 + i))), none]) dX10_tone_79 (by decide) rfl rfl ?_
    refine w_iload_n dX10_tone_81 rfl ?_
    refine w_iload dX10_tone_82 rfl ?_
    refine w_isubE (z := nI (B - (1 + i))) dX10_tone_84 (pk_sub (a := B) (b := (1 + i)) (by omega)) ?_
    refine w_iload_n dX10_tone_85 rfl ?_
    refine w_isubE (z := nI ((B - (1 + i)) - A)) dX10_tone_86 (pk_sub (a := (B - (1 + i))) (b := A) (by omega)) ?_
    refine w_iconst (v := 1) dX10_tone_87 (by decide) ?_
    refine w_iaddE (z := nI (((B - (1 + i)) - A) + 1)) dX10_tone_88 (nI_add (((B - (1 + i)) - A)) (1)) ?_
    refine w_istore (ls2 := [some (.ref m), some (.int (nI A)), some (.int (nI B)), some (.int (nI g)), some (.int x), some (.int y), some (.int z), some (.int (nI (1 + i))), some (.int (likF fo A B (1 + i))), some (.int (nI (((B - (1 + i)) - A) + 1)))]) dX10_tone_89 (by decide) rfl rfl ?_
    refine w_iload dX10_tone_91 rfl ?_
    refine w_bipush (v := (-2)) dX10_tone_93 (by decide) ?_
    refine w_icmp_eq (tgt := 119) dX10_tone_95 rfl (fun b95 => ?_) (fun b95 => ?_)
    · refine w_iload dX10_tone_119 rfl ?_
      refine w_istore (ls2 := [some (.ref m), some (.int (nI A)), some (.int (nI B)), some (.int (nI g)), some (.int (nI (1 + i))), some (.int y), some (.int z), some (.int (nI (1 + i))), some (.int (likF fo A B (1 + i))), some (.int (nI (((B - (1 + i)) - A) + 1)))]) dX10_tone_121 (by decide) rfl rfl ?_
      refine w_iload dX10_tone_123 rfl ?_
      refine w_istore (ls2 := [some (.ref m), some (.int (nI A)), some (.int (nI B)), some (.int (nI g)), some (.int (nI (1 + i))), some (.int (likF fo A B (1 + i))), some (.int z), some (.int (nI (1 + i))), some (.int (likF fo A B (1 + i))), some (.int (nI (((B - (1 + i)) - A) + 1)))]) dX10_tone_125 (by decide) rfl rfl ?_
      refine w_iload dX10_tone_127 rfl ?_
      refine w_istore (ls2 := [some (.ref m), some (.int (nI A)), some (.int (nI B)), some (.int (nI g)), some (.int (nI (1 + i))), some (.int (likF fo A B (1 + i))), some (.int (nI (((B - (1 + i)) - A) + 1))), some (.int (nI (1 + i))), some (.int (likF fo A B (1 + i))), some (.int (nI (((B - (1 + i)) - A) + 1)))]) dX10_tone_129 (by decide) rfl rfl ?_
      refine w_iinc (v := nI ((1 + i) + 1)) (ls2 := [some (.ref m), some (.int (nI A)), some (.int (nI B)), some (.int (nI g)), some (.int (nI (1 + i))), some (.int (likF fo A B (1 + i))), some (.int (nI (((B - (1 + i)) - A) + 1))), some (.int (nI ((1 + i) + 1))), some (.int (likF fo A B (1 + i))), some (.int (nI (((B - (1 + i)) - A) + 1)))]) dX10_tone_131 rfl (nI_1 _) (by decide) rfl rfl ?_
      refine w_goto (tgt := 57) dX10_tone_134 rfl ?_
      refine w_less (ls2 := [some (.ref m), some (.int (nI A)), some (.int (nI B)), some (.int (nI g)), some (.int (nI (1 + i))), some (.int (likF fo A B (1 + i))), some (.int (nI (((B - (1 + i)) - A) + 1))), some (.int (nI ((1 + i) + 1))), none, none]) ⟨Or.inr rfl, Or.inr rfl, Or.inr rfl, Or.inr rfl, Or.inr rfl, Or.inr rfl, Or.inr rfl, Or.inr rfl, Or.inl rfl, Or.inl rfl, trivial⟩ ?_
      have e1 : B - (1 + i) - A + 1 = B - A + 1 - (1 + i) := by omega
      rw [e1]
      exact ih (i + 1) _ _ _ (by omega) (tnP_take e (by omega) hB (Or.inl b95))
    · refine w_iload dX10_tone_98 rfl ?_
      refine w_i2l dX10_tone_100 ?_
      refine w_iload dX10_tone_101 rfl ?_
      refine w_i2l dX10_tone_103 ?_
      refine w_lmul dX10_tone_104 ?_
      refine w_iload dX10_tone_105 rfl ?_
      refine w_i2l dX10_tone_107 ?_
      refine w_iload dX10_tone_108 rfl ?_
      refine w_i2l dX10_tone_110 ?_
      refine w_lmul dX10_tone_111 ?_
      refine w_lcmp dX10_tone_112 ?_
      refine w_if_gt (tgt := 119) dX10_tone_113 rfl (fun b113 => ?_) (fun b113 => ?_)
      · refine w_iload dX10_tone_119 rfl ?_
        refine w_istore (ls2 := [some (.ref m), some (.int (nI A)), some (.int (nI B)), some (.int (nI g)), some (.int (nI (1 + i))), some (.int y), some (.int z), some (.int (nI (1 + i))), some (.int (likF fo A B (1 + i))), some (.int (nI (((B - (1 + i)) - A) + 1)))]) dX10_tone_121 (by decide) rfl rfl ?_
        refine w_iload dX10_tone_123 rfl ?_
        refine w_istore (ls2 := [some (.ref m), some (.int (nI A)), some (.int (nI B)), some (.int (nI g)), some (.int (nI (1 + i))), some (.int (likF fo A B (1 + i))), some (.int z), some (.int (nI (1 + i))), some (.int (likF fo A B (1 + i))), some (.int (nI (((B - (1 + i)) - A) + 1)))]) dX10_tone_125 (by decide) rfl rfl ?_
        refine w_iload dX10_tone_127 rfl ?_
        refine w_istore (ls2 := [some (.ref m), some (.int (nI A)), some (.int (nI B)), some (.int (nI g)), some (.int (nI (1 + i))), some (.int (likF fo A B (1 + i))), some (.int (nI (((B - (1 + i)) - A) + 1))), some (.int (nI (1 + i))), some (.int (likF fo A B (1 + i))), some (.int (nI (((B - (1 + i)) - A) + 1)))]) dX10_tone_129 (by decide) rfl rfl ?_
        refine w_iinc (v := nI ((1 + i) + 1)) (ls2 := [some (.ref m), some (.int (nI A)), some (.int (nI B)), some (.int (nI g)), some (.int (nI (1 + i))), some (.int (likF fo A B (1 + i))), some (.int (nI (((B - (1 + i)) - A) + 1))), some (.int (nI ((1 + i) + 1))), some (.int (likF fo A B (1 + i))), some (.int (nI (((B - (1 + i)) - A) + 1)))]) dX10_tone_131 rfl (nI_1 _) (by decide) rfl rfl ?_
        refine w_goto (tgt := 57) dX10_tone_134 rfl ?_
        refine w_less (ls2 := [some (.ref m), some (.int (nI A)), some (.int (nI B)), some (.int (nI g)), some (.int (nI (1 + i))), some (.int (likF fo A B (1 + i))), some (.int (nI (((B - (1 + i)) - A) + 1))), some (.int (nI ((1 + i) + 1))), none, none]) ⟨Or.inr rfl, Or.inr rfl, Or.inr rfl, Or.inr rfl, Or.inr rfl, Or.inr rfl, Or.inr rfl, Or.inr rfl, Or.inl rfl, Or.inl rfl, trivial⟩ ?_
        have e1 : B - (1 + i) - A + 1 = B - A + 1 - (1 + i) := by omega
        rw [e1]
        exact ih (i + 1) _ _ _ (by omega) (tnP_take e (by omega) hB (Or.inr (by rw [← e1]; exact (tnP_cmp e b95 hB).mp ((lg_cmp_gt _ _).mp b113))))
      · refine w_goto (tgt := 131) dX10_tone_116 rfl ?_
        refine w_iinc (v := nI ((1 + i) + 1)) (ls2 := [some (.ref m), some (.int (nI A)), some (.int (nI B)), some (.int (nI g)), some (.int x), some (.int y), some (.int z), some (.int (nI ((1 + i) + 1))), some (.int (likF fo A B (1 + i))), some (.int (nI (((B - (1 + i)) - A) + 1)))]) dX10_tone_131 rfl (nI_1 _) (by decide) rfl rfl ?_
        refine w_goto (tgt := 57) dX10_tone_134 rfl ?_
        refine w_less (ls2 := [some (.ref m), some (.int (nI A)), some (.int (nI B)), some (.int (nI g)), some (.int x), some (.int y), some (.int z), some (.int (nI ((1 + i) + 1))), none, none]) ⟨Or.inr rfl, Or.inr rfl, Or.inr rfl, Or.inr rfl, Or.inr rfl, Or.inr rfl, Or.inr rfl, Or.inr rfl, Or.inl rfl, Or.inl rfl, trivial⟩ ?_
        have e1 : B - (1 + i) - A + 1 = B - A + 1 - (1 + i) := by omega
        exact ih (i + 1) _ _ _ (by omega) (tnP_leave e b95 (by rw [← e1]; exact fun z => b113 ((lg_cmp_gt _ _).mpr ((tnP_cmp e b95 hB).mpr z))))
set_option maxRecDepth 100000 in
set_option maxHeartbeats 4000000 in
theorem q_tone_n {G : wG} {d : Nat} {h : hH} {Q : Option Value → hH → Prop} {m : Nat} {ft : Nat → Int32} {tp : Nat} {P : pD} {ht : Int32} {i0 i1 : imD} {sd fa pl tr : Int32} {th : Int32}  {a u y : Int32} (hI : mI h m ft tp P ht none i0 i1 sd fa pl tr th)  (k : ∀ h2, mI h2 m ft tp P ht none i0 i1 sd fa (-1) (oTon P (none) a u y).2 0 → mFr m h h2 → Q (some (.int (oTon P (none) a u y).1)) h2) : Cl G yX10_tone (d + 3) 0 0 [.ref m, .int a, .int u, .int y] h Q := by
  refine mI_e hI ?_
  intro sz sp fl tk ta sg nu wd rl rw ah cl gt ln wn fs ff fb fn fp f3 fk fx fy fc fr f1 f2 fi fo fq fh fj fw fz hW hT hPm hG hRm hm0 hm1 hsd hht htp
  have hnL : P.1 ≤ 4096 := Nat.le_trans hG.2.2.1 (by decide)
  have hnW : P.2.1 ≤ 4096 := Nat.le_trans hG.2.2.2 (by decide)
  have hhL : (ht = 0 ∧ P.1 = 0) ∨ ht = 1 := hht.imp (fun z => ⟨z.1, z.2.1⟩) id
  have hhW : (ht = 0 ∧ P.2.1 = 0) ∨ ht = 1 := hht.imp (fun z => ⟨z.1, z.2.2⟩) id
  have hw : hHas h [m, m + 14] [(oC 10 (mF m th tr pl (nI tp) sz sp fa fl tk ta sg nu wd (nI P.1) (nI P.2.1) rl rw ht sd ah cl)), (aI 11 fr)] := hHas_s hW [0, 14] rfl rfl
  have nd : [m, m + 14].Nodup := (nd_inc ⟨by omega, trivial⟩)
  refine Cl.of (ini := false) kX10_tone (plainFor_of_name (by decide)) (by decide) (Nat.le_of_ble_eq_true rfl) rfl rfl (fun z => by cases z) ?_
  refine w_heq (hUs_id hw).symm ?_
  refine w_aload_n dX10_tone_0 rfl ?_
  refine w_iconst (v := 0) dX10_tone_1 (by decide) ?_
  refine w_put (fs' := (mF m 0 tr pl (nI tp) sz sp fa fl tk ta sg nu wd (nI P.1) (nI P.2.1) rl rw ht sd ah cl)) fX10_89 (hUs_at nd 0 rfl rfl) rfl rfl (Nat.le_of_ble_eq_true rfl) rfl dX10_tone_2 ?_
  refine w_heq (hUs_set nd rfl 0 (cs' := [(oC 10 (mF m 0 tr pl (nI tp) sz sp fa fl tk ta sg nu wd (nI P.1) (nI P.2.1) rl rw ht sd ah cl)), (aI 11 fr)]) rfl rfl) ?_
  refine w_aload_n dX10_tone_5 rfl ?_
  refine w_callV (ci := 10) (d' := d + 2) (mc' := 0) (ms' := 0) (As := []) (st := []) lX10_284 vX10_hasRun rfl (hUs_at nd 0 rfl rfl) rfl (Nat.le_of_ble_eq_true rfl) dX10_tone_6 (Nat.le_of_ble_eq_true rfl) (Nat.le_of_ble_eq_true rfl) (Nat.le_refl _) (m_hasRun_n (hHas_sub nd (as' := [m, m + 14]) (cs' := [(oC 10 (mF m 0 tr pl (nI tp) sz sp fa fl tk ta sg nu wd (nI P.1) (nI P.2.1) rl rw ht sd ah cl)), (aI 11 fr)]) [0, 1] rfl rfl) hRm ?_)
  refine w_if_ne_f (tgt := 18) dX10_tone_9 rfl (by decide) ?_
  refine w_aload_n dX10_tone_12 rfl ?_
  refine w_iconst (v := 1) dX10_tone_13 (by decide) ?_
  refine w_callV (ci := 10) (d' := d + 2) (mc' := 0) (ms' := 0) (As := [.int 1]) (st := []) lX10_228 vX10_refused rfl (hUs_at nd 0 rfl rfl) rfl (Nat.le_of_ble_eq_true rfl) dX10_tone_14 (Nat.le_of_ble_eq_true rfl) (Nat.le_of_ble_eq_true rfl) (Nat.le_refl _) (m_refused (hHas_sub nd (as' := [m]) (cs' := [(oC 10 (mF m 0 tr pl (nI tp) sz sp fa fl tk ta sg nu wd (nI P.1) (nI P.2.1) rl rw ht sd ah cl))]) [0] rfl rfl) (nd_sub nd (as' := [m]) [0] rfl rfl)  ?_)
  refine w_heq (hUs_in nd rfl [0] (cs2 := [(oC 10 (mF m 0 1 (-1) (nI tp) sz sp fa fl tk ta sg nu wd (nI P.1) (nI P.2.1) rl rw ht sd ah cl)), (aI 11 fr)]) rfl rfl) ?_
  refine w_ireturn rfl dX10_tone_17 (Nat.le_of_ble_eq_true rfl) (Nat.le_of_ble_eq_true rfl) ?_
  have e : oTon P none a u y = ((-1), 1) := by
    rfl
  rw [e] at k
  exact k _ (mI_i (cI_put hW (mAs_nd m) rfl [0, 14] (cs2 := [(oC 10 (mF m 0 1 (-1) (nI tp) sz sp fa fl tk ta sg nu wd (nI P.1) (nI P.2.1) rl rw ht sd ah cl)), (aI 600 gt), (aL 8 ln), (aL 8 wn), (aI 8 fs), (aI 24 ff), (aI 8 fb), (aI 8 fn), (aI 8 fp), (aZ 8 f3), (aI 64 fk), (aI 64 fx), (aI 64 fy), (aI 64 fc), (aI 11 fr), (aI 11 f1), (aI 11 f2), (aI 22 fi), (aB 4096 fo), (aB 8192 fq), (aZ 2 fh), (aI 2 fj), (aI 4096 fw), (aI 2100 fz)]) rfl rfl) hT hPm hG hRm hm0 hm1 hsd hht htp) (mFr_of (by intro a ha; simp only [List.mem_cons, List.not_mem_nil, or_false] at ha; omega))
set_option maxRecDepth 100000 in
set_option maxHeartbeats 4000000 in
theorem q_tone_s {G : wG} {d : Nat} {h : hH} {Q : Option Value → hH → Prop} {m : Nat} {ft : Nat → Int32} {tp : Nat} {P : pD} {ht : Int32} {i0 i1 : imD} {sd fa pl tr : Int32} {th : Int32}  {l w c : Nat} {rs : Int32} {a u y : Int32} (hI : mI h m ft tp P ht (some (l, w, rs, c)) i0 i1 sd fa pl tr th)  (k : ∀ h2, mI h2 m ft tp P ht (some (l, w, rs, c)) i0 i1 sd fa (-1) (oTon P (some (l, w, rs, c)) a u y).2 0 → mFr m h h2 → Q (some (.int (oTon P (some (l, w, rs, c)) a u y).1)) h2) : Cl G yX10_tone (d + 3) 0 0 [.ref m, .int a, .int u, .int y] h Q := by
  refine mI_e hI ?_
  intro sz sp fl tk ta sg nu wd rl rw ah cl gt ln wn fs ff fb fn fp f3 fk fx fy fc fr f1 f2 fi fo fq fh fj fw fz hW hT hPm hG hRm hm0 hm1 hsd hht htp
  have hnL : P.1 ≤ 4096 := Nat.le_trans hG.2.2.1 (by decide)
  have hnW : P.2.1 ≤ 4096 := Nat.le_trans hG.2.2.2 (by decide)
  have hhL : (ht = 0 ∧ P.1 = 0) ∨ ht = 1 := hht.imp (fun z => ⟨z.1, z.2.1⟩) id
  have hhW : (ht = 0 ∧ P.2.1 = 0) ∨ ht = 1 := hht.imp (fun z => ⟨z.1, z.2.2⟩) id
  obtain ⟨hht1, hok, hsr, hrn, hsz, hfo⟩ : ht = 1 ∧ mRr P (l, w, rs, c) fr fo := id hRm
  have hl : l < P.1 := hok.1
  have hwv9 : w < P.2.1 := hok.2.1
  have hc4 : c ≤ 4096 := hok.2.2
  have hl4 : l < 4 := Nat.lt_of_lt_of_le hl hG.2.2.1
  have hl31 : l < 2 ^ 31 := by omega
  have hLp := hPm.1 l hl
  rw [Nat.zero_add] at hLp
  have hGl := hG.1 l hl
  have hrc : fr 2 = nI c := hrn.2.2.1
  rw [show oTon P (some (l, w, rs, c)) a u y = oTonF fo c a u y from (oTonF_c hfo hc4 a u y).symm] at k
  have hw : hHas h [m, m + 14, m + 18] [(oC 10 (mF m th tr pl (nI tp) sz sp fa fl tk ta sg nu wd (nI P.1) (nI P.2.1) rl rw ht sd ah cl)), (aI 11 fr), (aB 4096 fo)] := hHas_s hW [0, 14, 18] rfl rfl
  have nd : [m, m + 14, m + 18].Nodup := (nd_inc ⟨by omega, by omega, trivial⟩)
  refine Cl.of (ini := false) kX10_tone (plainFor_of_name (by decide)) (by decide) (Nat.le_of_ble_eq_true rfl) rfl rfl (fun z => by cases z) ?_
  refine w_heq (hUs_id hw).symm ?_
  refine w_aload_n dX10_tone_0 rfl ?_
  refine w_iconst (v := 0) dX10_tone_1 (by decide) ?_
  refine w_put (fs' := (mF m 0 tr pl (nI tp) sz sp fa fl tk ta sg nu wd (nI P.1) (nI P.2.1) rl rw ht sd ah cl)) fX10_89 (hUs_at nd 0 rfl rfl) rfl rfl (Nat.le_of_ble_eq_true rfl) rfl dX10_tone_2 ?_
  refine w_heq (hUs_set nd rfl 0 (cs' := [(oC 10 (mF m 0 tr pl (nI tp) sz sp fa fl tk ta sg nu wd (nI P.1) (nI P.2.1) rl rw ht sd ah cl)), (aI 11 fr), (aB 4096 fo)]) rfl rfl) ?_
  refine w_aload_n dX10_tone_5 rfl ?_
  refine w_callV (ci := 10) (d' := d + 2) (mc' := 0) (ms' := 0) (As := []) (st := []) lX10_284 vX10_hasRun rfl (hUs_at nd 0 rfl rfl) rfl (Nat.le_of_ble_eq_true rfl) dX10_tone_6 (Nat.le_of_ble_eq_true rfl) (Nat.le_of_ble_eq_true rfl) (Nat.le_refl _) (m_hasRun_s (hHas_sub nd (as' := [m, m + 14]) (cs' := [(oC 10 (mF m 0 tr pl (nI tp) sz sp fa fl tk ta sg nu wd (nI P.1) (nI P.2.1) rl rw ht sd ah cl)), (aI 11 fr)]) [0, 1] rfl rfl) hht1 hrn.1 hl31 ?_)
  refine w_if_ne_t (tgt := 18) dX10_tone_9 rfl (by decide) ?_
  refine w_aload_n dX10_tone_18 rfl ?_
  refine w_iload_n dX10_tone_19 rfl ?_
  refine w_iload_n dX10_tone_20 rfl ?_
  refine w_callV (ci := 10) (d' := d + 2) (mc' := 0) (ms' := 0) (As := [.int a, .int u]) (st := []) lX10_297 vX10_isStretch rfl (hUs_at nd 0 rfl rfl) rfl (Nat.le_of_ble_eq_true rfl) dX10_tone_21 (Nat.le_of_ble_eq_true rfl) (Nat.le_of_ble_eq_true rfl) (Nat.le_refl _) (m_isStretch (hHas_sub nd (as' := [m, m + 14]) (cs' := [(oC 10 (mF m 0 tr pl (nI tp) sz sp fa fl tk ta sg nu wd (nI P.1) (nI P.2.1) rl rw ht sd ah cl)), (aI 11 fr)]) [0, 1] rfl rfl) hrc hc4 ?_)
  refine w_if_eq (tgt := 38) dX10_tone_24 rfl (fun b24 => ?_) (fun b24 => ?_)
  · refine w_aload_n dX10_tone_38 rfl ?_
    refine w_iconst (v := 2) dX10_tone_39 (by decide) ?_
    refine w_callV (ci := 10) (d' := d + 2) (mc' := 0) (ms' := 0) (As := [.int 2]) (st := []) lX10_228 vX10_refused rfl (hUs_at nd 0 rfl rfl) rfl (Nat.le_of_ble_eq_true rfl) dX10_tone_40 (Nat.le_of_ble_eq_true rfl) (Nat.le_of_ble_eq_true rfl) (Nat.le_refl _) (m_refused (hHas_sub nd (as' := [m]) (cs' := [(oC 10 (mF m 0 tr pl (nI tp) sz sp fa fl tk ta sg nu wd (nI P.1) (nI P.2.1) rl rw ht sd ah cl))]) [0] rfl rfl) (nd_sub nd (as' := [m]) [0] rfl rfl)  ?_)
    refine w_heq (hUs_in nd rfl [0] (cs2 := [(oC 10 (mF m 0 2 (-1) (nI tp) sz sp fa fl tk ta sg nu wd (nI P.1) (nI P.2.1) rl rw ht sd ah cl)), (aI 11 fr), (aB 4096 fo)]) rfl rfl) ?_
    refine w_ireturn rfl dX10_tone_43 (Nat.le_of_ble_eq_true rfl) (Nat.le_of_ble_eq_true rfl) ?_
    have e : oTonF fo c a u y = ((-1), 2) := by
      simp only [oTonF]
      exact if_pos (Or.inl b24)
    rw [e] at k
    exact k _ (mI_i (cI_put hW (mAs_nd m) rfl [0, 14, 18] (cs2 := [(oC 10 (mF m 0 2 (-1) (nI tp) sz sp fa fl tk ta sg nu wd (nI P.1) (nI P.2.1) rl rw ht sd ah cl)), (aI 600 gt), (aL 8 ln), (aL 8 wn), (aI 8 fs), (aI 24 ff), (aI 8 fb), (aI 8 fn), (aI 8 fp), (aZ 8 f3), (aI 64 fk), (aI 64 fx), (aI 64 fy), (aI 64 fc), (aI 11 fr), (aI 11 f1), (aI 11 f2), (aI 22 fi), (aB 4096 fo), (aB 8192 fq), (aZ 2 fh), (aI 2 fj), (aI 4096 fw), (aI 2100 fz)]) rfl rfl) hT hPm hG hRm hm0 hm1 hsd hht htp) (mFr_of (by intro a ha; simp only [List.mem_cons, List.not_mem_nil, or_false] at ha; omega))
  · refine w_iload_n dX10_tone_27 rfl ?_
    refine w_iconst (v := 1) dX10_tone_28 (by decide) ?_
    refine w_sipush (v := 200) dX10_tone_29 (by decide) ?_
    refine w_callS (d' := d + 2) (mc' := 0) (ms' := 0) (As := [.int y, .int 1, .int 200]) (st := []) lX10_111 vX10_in rfl (Nat.le_of_ble_eq_true rfl) dX10_tone_32 (Nat.le_of_ble_eq_true rfl) (Nat.le_of_ble_eq_true rfl) (Nat.le_refl _) (c_in ?_)
    refine w_if_ne (tgt := 44) dX10_tone_35 rfl (fun b35 => ?_) (fun b35 => ?_)
    · obtain ⟨A, B, hA, hB, rfl, rfl⟩ := hasS_n b24 hc4
      have hAc : tN (nI A) = A := nI_clamp (by omega)
      have hBc : tN (nI B) = B := nI_clamp (by omega)
      obtain ⟨w9, hw9, rfl⟩ := in2 (m := 200) (fun z => absurd (Int32.lt_of_lt_of_le z (by decide)) (Int32.not_lt.mpr (inB_1 b35).1)) (inB_1 b35).2 (by decide)
      have hwc : tN (nI w9) = w9 := nI_clamp (by omega)
      refine w_bipush (v := (-2)) dX10_tone_44 (by decide) ?_
      refine w_istore (ls2 := [some (.ref m), some (.int (nI A)), some (.int (nI B)), some (.int (nI w9)), some (.int (-2)), none, none, none, none, none]) dX10_tone_46 (by decide) rfl rfl ?_
      refine w_iconst (v := 0) dX10_tone_48 (by decide) ?_
      refine w_istore (ls2 := [some (.ref m), some (.int (nI A)), some (.int (nI B)), some (.int (nI w9)), some (.int (-2)), some (.int 0), none, none, none, none]) dX10_tone_49 (by decide) rfl rfl ?_
      refine w_iconst (v := 1) dX10_tone_51 (by decide) ?_
      refine w_istore (ls2 := [some (.ref m), some (.int (nI A)), some (.int (nI B)), some (.int (nI w9)), some (.int (-2)), some (.int 0), some (.int 1), none, none, none]) dX10_tone_52 (by decide) rfl rfl ?_
      refine w_iconst (v := (nI 1)) dX10_tone_54 (by decide) ?_
      refine w_istore (ls2 := [some (.ref m), some (.int (nI A)), some (.int (nI B)), some (.int (nI w9)), some (.int (-2)), some (.int 0), some (.int 1), some (.int (nI 1)), none, none]) dX10_tone_55 (by decide) rfl rfl ?_
      refine lq_tone nd hA (by omega) hw9 ?_ (min w9 (B - A)) 0 (-2) 0 1 (by omega) (Or.inl ⟨rfl, rfl⟩)
      refine w_aload_n dX10_tone_137 rfl ?_
      refine w_iload dX10_tone_138 rfl ?_
      refine w_callV (ci := 10) (d' := d + 2) (mc' := 0) (ms' := 0) (As := [.int (fld (bstF fo A B) 1 (min w9 (B - A)) (-2, 0, 0)).1]) (st := []) lX10_241 vX10_good rfl (hUs_at nd 0 rfl rfl) rfl (Nat.le_of_ble_eq_true rfl) dX10_tone_140 (Nat.le_of_ble_eq_true rfl) (Nat.le_of_ble_eq_true rfl) (Nat.le_refl _) (m_good (hHas_sub nd (as' := [m]) (cs' := [(oC 10 (mF m 0 tr pl (nI tp) sz sp fa fl tk ta sg nu wd (nI P.1) (nI P.2.1) rl rw ht sd ah cl))]) [0] rfl rfl) (nd_sub nd (as' := [m]) [0] rfl rfl)  ?_)
      refine w_heq (hUs_in nd rfl [0] (cs2 := [(oC 10 (mF m 0 0 (-1) (nI tp) sz sp fa fl tk ta sg nu wd (nI P.1) (nI P.2.1) rl rw ht sd ah cl)), (aI 11 fr), (aB 4096 fo)]) rfl rfl) ?_
      refine w_ireturn rfl dX10_tone_143 (Nat.le_of_ble_eq_true rfl) (Nat.le_of_ble_eq_true rfl) ?_
      have e : oTonF fo c (nI A) (nI B) (nI w9) = ((fld (bstF fo A B) 1 (min w9 (B - A)) (-2, 0, 0)).1, 0) := by
        simp only [oTonF]
        rw [if_neg (fun z => z.elim b24 (fun z => z.elim (fun z => absurd (inB_1 b35).1 (Int32.not_le.mpr z)) (fun z => absurd (inB_1 b35).2 (Int32.not_le.mpr z)))), hAc, hBc, hwc]
      rw [e] at k
      exact k _ (mI_i (cI_put hW (mAs_nd m) rfl [0, 14, 18] (cs2 := [(oC 10 (mF m 0 0 (-1) (nI tp) sz sp fa fl tk ta sg nu wd (nI P.1) (nI P.2.1) rl rw ht sd ah cl)), (aI 600 gt), (aL 8 ln), (aL 8 wn), (aI 8 fs), (aI 24 ff), (aI 8 fb), (aI 8 fn), (aI 8 fp), (aZ 8 f3), (aI 64 fk), (aI 64 fx), (aI 64 fy), (aI 64 fc), (aI 11 fr), (aI 11 f1), (aI 11 f2), (aI 22 fi), (aB 4096 fo), (aB 8192 fq), (aZ 2 fh), (aI 2 fj), (aI 4096 fw), (aI 2100 fz)]) rfl rfl) hT hPm hG hRm hm0 hm1 hsd hht htp) (mFr_of (by intro a ha; simp only [List.mem_cons, List.not_mem_nil, or_false] at ha; omega))
    · refine w_aload_n dX10_tone_38 rfl ?_
      refine w_iconst (v := 2) dX10_tone_39 (by decide) ?_
      refine w_callV (ci := 10) (d' := d + 2) (mc' := 0) (ms' := 0) (As := [.int 2]) (st := []) lX10_228 vX10_refused rfl (hUs_at nd 0 rfl rfl) rfl (Nat.le_of_ble_eq_true rfl) dX10_tone_40 (Nat.le_of_ble_eq_true rfl) (Nat.le_of_ble_eq_true rfl) (Nat.le_refl _) (m_refused (hHas_sub nd (as' := [m]) (cs' := [(oC 10 (mF m 0 tr pl (nI tp) sz sp fa fl tk ta sg nu wd (nI P.1) (nI P.2.1) rl rw ht sd ah cl))]) [0] rfl rfl) (nd_sub nd (as' := [m]) [0] rfl rfl)  ?_)
      refine w_heq (hUs_in nd rfl [0] (cs2 := [(oC 10 (mF m 0 2 (-1) (nI tp) sz sp fa fl tk ta sg nu wd (nI P.1) (nI P.2.1) rl rw ht sd ah cl)), (aI 11 fr), (aB 4096 fo)]) rfl rfl) ?_
      refine w_ireturn rfl dX10_tone_43 (Nat.le_of_ble_eq_true rfl) (Nat.le_of_ble_eq_true rfl) ?_
      have e : oTonF fo c a u y = ((-1), 2) := by
        simp only [oTonF]
        exact if_pos (Or.inr (inB_0 b35))
      rw [e] at k
      exact k _ (mI_i (cI_put hW (mAs_nd m) rfl [0, 14, 18] (cs2 := [(oC 10 (mF m 0 2 (-1) (nI tp) sz sp fa fl tk ta sg nu wd (nI P.1) (nI P.2.1) rl rw ht sd ah cl)), (aI 600 gt), (aL 8 ln), (aL 8 wn), (aI 8 fs), (aI 24 ff), (aI 8 fb), (aI 8 fn), (aI 8 fp), (aZ 8 f3), (aI 64 fk), (aI 64 fx), (aI 64 fy), (aI 64 fc), (aI 11 fr), (aI 11 f1), (aI 11 f2), (aI 22 fi), (aB 4096 fo), (aB 8192 fq), (aZ 2 fh), (aI 2 fj), (aI 4096 fw), (aI 2100 fz)]) rfl rfl) hT hPm hG hRm hm0 hm1 hsd hht htp) (mFr_of (by intro a ha; simp only [List.mem_cons, List.not_mem_nil, or_false] at ha; omega))
theorem q_tone {G : wG} {d : Nat} {h : hH} {Q : Option Value → hH → Prop} {m : Nat} {ft : Nat → Int32} {tp : Nat} {P : pD} {ht : Int32} {R : Option rnD} {i0 i1 : imD} {sd fa pl tr : Int32} {th : Int32}  {a u y : Int32} (hI : mI h m ft tp P ht R i0 i1 sd fa pl tr th) (k : ∀ h2, mI h2 m ft tp P ht R i0 i1 sd fa (-1) (oTon P (R) a u y).2 0 → mFr m h h2 → Q (some (.int (oTon P (R) a u y).1)) h2) : Cl G yX10_tone (d + 3) 0 0 [.ref m, .int a, .int u, .int y] h Q := by
  cases R with
  | none => exact q_tone_n hI k
  | some r => obtain ⟨l, w, rs, c⟩ := r; exact q_tone_s hI k
theorem nth_s (y s : Int32) : y - s + (-1) = y - (s + 1) := by
  rw [← Int32.sub_eq_add_neg, Int32.sub_sub]
set_option maxRecDepth 100000 in
set_option maxHeartbeats 4000000 in
theorem lq_nth {G : wG} {d : Nat} {h : hH} {Q : Option Value → hH → Prop} {m tp : Nat} {P : pD} {ht sd fa pl tr sz sp fl tk ta sg nu : Int32} {wd : Int64} {rl rw ah cl : Int32} {fr : Nat → Int32} {fo : Nat → Int32} {v y : Int32} {c : Nat} (nd : [m, m + 14, m + 18].Nodup) (hrc : fr 2 = nI c) (hc4 : c ≤ 4096) (k1 : ∀ j : Nat, nthF fo v y c 0 0 = nI j → WP G RX10 cX10_nth 5 (some .int) false (d + 1) 0 0 0 0 Q 74 [some (.ref m), some (.int v), some (.int y), none, none] [.int (nI j), .ref m] (hUs h [m, m + 14, m + 18] [(oC 10 (mF m 0 tr pl (nI tp) sz sp fa fl tk ta sg nu wd (nI P.1) (nI P.2.1) rl rw ht sd ah cl)), (aI 11 fr), (aB 4096 fo)])) (k2 : nthF fo v y c 0 0 = -2 → WP G RX10 cX10_nth 5 (some .int) false (d + 1) 0 0 0 0 Q 90 [some (.ref m), some (.int v), some (.int y), none, none] [.int (-2), .ref m] (hUs h [m, m + 14, m + 18] [(oC 10 (mF m 0 tr pl (nI tp) sz sp fa fl tk ta sg nu wd (nI P.1) (nI P.2.1) rl rw ht sd ah cl)), (aI 11 fr), (aB 4096 fo)])) : ∀ (n : Nat) (i : Nat) (q s : Int32), i + n = c → q = y - s → nthF fo v y c 0 0 = nthF fo v y n i s → WP G RX10 cX10_nth 5 (some .int) false (d + 1) 0 0 0 0 Q 42 [some (.ref m), some (.int v), some (.int y), some (.int q), some (.int (nI i))] [] (hUs h [m, m + 14, m + 18] [(oC 10 (mF m 0 tr pl (nI tp) sz sp fa fl tk ta sg nu wd (nI P.1) (nI P.2.1) rl rw ht sd ah cl)), (aI 11 fr), (aB 4096 fo)]) := by
  intro n
  induction n with
  | zero =>
    intro i q s hi hq e
    refine w_iload dX10_nth_42 rfl ?_
    refine w_aload_n dX10_nth_44 rfl ?_
    refine w_get (v := .ref (m + 14)) fX10_55 (hUs_at nd 0 rfl rfl) rfl dX10_nth_45 ?_
    refine w_iconst (v := (nI 2)) dX10_nth_48 (by decide) ?_
    refine w_ialoadN (hUs_at nd 1 rfl rfl) (by omega) (by omega) dX10_nth_49 ?_
    refine w_top (z := nI c) hrc ?_
    refine w_icmp_ge_t (tgt := 87) dX10_nth_50 rfl ((nI_leI (a := c) (b := i) (by omega) (by omega)).mpr (by omega)) ?_
    refine w_aload_n dX10_nth_87 rfl ?_
    refine w_bipush (v := (-2)) dX10_nth_88 (by decide) ?_
    refine w_less (ls2 := [some (.ref m), some (.int v), some (.int y), none, none]) ⟨Or.inr rfl, Or.inr rfl, Or.inr rfl, Or.inl rfl, Or.inl rfl, trivial⟩ ?_
    exact k2 e
  | succ n ih =>
    intro i q s hi hq e
    refine w_iload dX10_nth_42 rfl ?_
    refine w_aload_n dX10_nth_44 rfl ?_
    refine w_get (v := .ref (m + 14)) fX10_55 (hUs_at nd 0 rfl rfl) rfl dX10_nth_45 ?_
    refine w_iconst (v := (nI 2)) dX10_nth_48 (by decide) ?_
    refine w_ialoadN (hUs_at nd 1 rfl rfl) (by omega) (by omega) dX10_nth_49 ?_
    refine w_top (z := nI c) hrc ?_
    refine w_icmp_ge_f (tgt := 87) dX10_nth_50 rfl (fun z => absurd ((nI_leI (a := c) (b := i) (by omega) (by omega)).mp z) (by omega)) ?_
    refine w_aload_n dX10_nth_53 rfl ?_
    refine w_get (v := .ref (m + 18)) fX10_67 (hUs_at nd 0 rfl rfl) rfl dX10_nth_54 ?_
    refine w_iload dX10_nth_57 rfl ?_
    refine w_baloadN (hUs_at nd 2 rfl rfl) (by omega) (by omega) dX10_nth_59 ?_
    refine w_iload_n dX10_nth_60 rfl ?_
    refine w_icmp_eq (tgt := 67) dX10_nth_61 rfl (fun b61 => ?_) (fun b61 => ?_)
    · refine w_iload_n dX10_nth_67 rfl ?_
      refine w_if_ne (tgt := 78) dX10_nth_68 rfl (fun b68 => ?_) (fun b68 => ?_)
      · refine w_iinc (v := q + (-1)) (ls2 := [some (.ref m), some (.int v), some (.int y), some (.int (q + (-1))), some (.int (nI i))]) dX10_nth_78 rfl rfl (by decide) rfl rfl ?_
        refine w_iinc (v := nI (i + 1)) (ls2 := [some (.ref m), some (.int v), some (.int y), some (.int (q + (-1))), some (.int (nI (i + 1)))]) dX10_nth_81 rfl (nI_1 _) (by decide) rfl rfl ?_
        refine w_goto (tgt := 42) dX10_nth_84 rfl ?_
        rw [nthF, if_pos b61, if_neg (fun z => b68 (by rw [hq, z, Int32.sub_self]))] at e
        exact ih (i + 1) _ (s + 1) (by omega) (by rw [hq]; exact nth_s y s) e
      · refine w_aload_n dX10_nth_71 rfl ?_
        refine w_iload dX10_nth_72 rfl ?_
        refine w_less (ls2 := [some (.ref m), some (.int v), some (.int y), none, none]) ⟨Or.inr rfl, Or.inr rfl, Or.inr rfl, Or.inl rfl, Or.inl rfl, trivial⟩ ?_
        rw [nthF, if_pos b61, if_pos (by rw [hq] at b68; exact (sub_0 b68).symm)] at e
        exact k1 i e
    · refine w_goto (tgt := 81) dX10_nth_64 rfl ?_
      refine w_iinc (v := nI (i + 1)) (ls2 := [some (.ref m), some (.int v), some (.int y), some (.int q), some (.int (nI (i + 1)))]) dX10_nth_81 rfl (nI_1 _) (by decide) rfl rfl ?_
      refine w_goto (tgt := 42) dX10_nth_84 rfl ?_
      rw [nthF, if_neg b61] at e
      exact ih (i + 1) _ s (by omega) hq e
set_option maxRecDepth 100000 in
set_option maxHeartbeats 4000000 in
theorem q_nth_n {G : wG} {d : Nat} {h : hH} {Q : Option Value → hH → Prop} {m : Nat} {ft : Nat → Int32} {tp : Nat} {P : pD} {ht : Int32} {i0 i1 : imD} {sd fa pl tr : Int32} {th : Int32}  {v y : Int32} (hI : mI h m ft tp P ht none i0 i1 sd fa pl tr th)  (k : ∀ h2, mI h2 m ft tp P ht none i0 i1 sd fa (-1) (oNth P (none) v y).2 0 → mFr m h h2 → Q (some (.int (oNth P (none) v y).1)) h2) : Cl G yX10_nth (d + 1) 0 0 [.ref m, .int v, .int y] h Q := by
  refine mI_e hI ?_
  intro sz sp fl tk ta sg nu wd rl rw ah cl gt ln wn fs ff fb fn fp f3 fk fx fy fc fr f1 f2 fi fo fq fh fj fw fz hW hT hPm hG hRm hm0 hm1 hsd hht htp
  have hnL : P.1 ≤ 4096 := Nat.le_trans hG.2.2.1 (by decide)
  have hnW : P.2.1 ≤ 4096 := Nat.le_trans hG.2.2.2 (by decide)
  have hhL : (ht = 0 ∧ P.1 = 0) ∨ ht = 1 := hht.imp (fun z => ⟨z.1, z.2.1⟩) id
  have hhW : (ht = 0 ∧ P.2.1 = 0) ∨ ht = 1 := hht.imp (fun z => ⟨z.1, z.2.2⟩) id
  have hw : hHas h [m, m + 14] [(oC 10 (mF m th tr pl (nI tp) sz sp fa fl tk ta sg nu wd (nI P.1) (nI P.2.1) rl rw ht sd ah cl)), (aI 11 fr)] := hHas_s hW [0, 14] rfl rfl
  have nd : [m, m + 14].Nodup := (nd_inc ⟨by omega, trivial⟩)
  refine Cl.of (ini := false) kX10_nth (plainFor_of_name (by decide)) (by decide) (Nat.le_of_ble_eq_true rfl) rfl rfl (fun z => by cases z) ?_
  refine w_heq (hUs_id hw).symm ?_
  refine w_aload_n dX10_nth_0 rfl ?_
  refine w_iconst (v := 0) dX10_nth_1 (by decide) ?_
  refine w_put (fs' := (mF m 0 tr pl (nI tp) sz sp fa fl tk ta sg nu wd (nI P.1) (nI P.2.1) rl rw ht sd ah cl)) fX10_89 (hUs_at nd 0 rfl rfl) rfl rfl (Nat.le_of_ble_eq_true rfl) rfl dX10_nth_2 ?_
  refine w_heq (hUs_set nd rfl 0 (cs' := [(oC 10 (mF m 0 tr pl (nI tp) sz sp fa fl tk ta sg nu wd (nI P.1) (nI P.2.1) rl rw ht sd ah cl)), (aI 11 fr)]) rfl rfl) ?_
  refine w_aload_n dX10_nth_5 rfl ?_
  refine w_callV (ci := 10) (d' := d) (mc' := 0) (ms' := 0) (As := []) (st := []) lX10_284 vX10_hasRun rfl (hUs_at nd 0 rfl rfl) rfl (Nat.le_of_ble_eq_true rfl) dX10_nth_6 (Nat.le_of_ble_eq_true rfl) (Nat.le_of_ble_eq_true rfl) (Nat.le_refl _) (m_hasRun_n (hHas_sub nd (as' := [m, m + 14]) (cs' := [(oC 10 (mF m 0 tr pl (nI tp) sz sp fa fl tk ta sg nu wd (nI P.1) (nI P.2.1) rl rw ht sd ah cl)), (aI 11 fr)]) [0, 1] rfl rfl) hRm ?_)
  refine w_if_ne_f (tgt := 18) dX10_nth_9 rfl (by decide) ?_
  refine w_aload_n dX10_nth_12 rfl ?_
  refine w_iconst (v := 1) dX10_nth_13 (by decide) ?_
  refine w_callV (ci := 10) (d' := d) (mc' := 0) (ms' := 0) (As := [.int 1]) (st := []) lX10_228 vX10_refused rfl (hUs_at nd 0 rfl rfl) rfl (Nat.le_of_ble_eq_true rfl) dX10_nth_14 (Nat.le_of_ble_eq_true rfl) (Nat.le_of_ble_eq_true rfl) (Nat.le_refl _) (m_refused (hHas_sub nd (as' := [m]) (cs' := [(oC 10 (mF m 0 tr pl (nI tp) sz sp fa fl tk ta sg nu wd (nI P.1) (nI P.2.1) rl rw ht sd ah cl))]) [0] rfl rfl) (nd_sub nd (as' := [m]) [0] rfl rfl)  ?_)
  refine w_heq (hUs_in nd rfl [0] (cs2 := [(oC 10 (mF m 0 1 (-1) (nI tp) sz sp fa fl tk ta sg nu wd (nI P.1) (nI P.2.1) rl rw ht sd ah cl)), (aI 11 fr)]) rfl rfl) ?_
  refine w_ireturn rfl dX10_nth_17 (Nat.le_of_ble_eq_true rfl) (Nat.le_of_ble_eq_true rfl) ?_
  have e : oNth P none v y = ((-1), 1) := by
    rfl
  rw [e] at k
  exact k _ (mI_i (cI_put hW (mAs_nd m) rfl [0, 14] (cs2 := [(oC 10 (mF m 0 1 (-1) (nI tp) sz sp fa fl tk ta sg nu wd (nI P.1) (nI P.2.1) rl rw ht sd ah cl)), (aI 600 gt), (aL 8 ln), (aL 8 wn), (aI 8 fs), (aI 24 ff), (aI 8 fb), (aI 8 fn), (aI 8 fp), (aZ 8 f3), (aI 64 fk), (aI 64 fx), (aI 64 fy), (aI 64 fc), (aI 11 fr), (aI 11 f1), (aI 11 f2), (aI 22 fi), (aB 4096 fo), (aB 8192 fq), (aZ 2 fh), (aI 2 fj), (aI 4096 fw), (aI 2100 fz)]) rfl rfl) hT hPm hG hRm hm0 hm1 hsd hht htp) (mFr_of (by intro a ha; simp only [List.mem_cons, List.not_mem_nil, or_false] at ha; omega))
set_option maxRecDepth 100000 in
set_option maxHeartbeats 4000000 in
theorem q_nth_s {G : wG} {d : Nat} {h : hH} {Q : Option Value → hH → Prop} {m : Nat} {ft : Nat → Int32} {tp : Nat} {P : pD} {ht : Int32} {i0 i1 : imD} {sd fa pl tr : Int32} {th : Int32}  {l w c : Nat} {rs : Int32} {v y : Int32} (hI : mI h m ft tp P ht (some (l, w, rs, c)) i0 i1 sd fa pl tr th)  (k : ∀ h2, mI h2 m ft tp P ht (some (l, w, rs, c)) i0 i1 sd fa (-1) (oNth P (some (l, w, rs, c)) v y).2 0 → mFr m h h2 → Q (some (.int (oNth P (some (l, w, rs, c)) v y).1)) h2) : Cl G yX10_nth (d + 1) 0 0 [.ref m, .int v, .int y] h Q := by
  refine mI_e hI ?_
  intro sz sp fl tk ta sg nu wd rl rw ah cl gt ln wn fs ff fb fn fp f3 fk fx fy fc fr f1 f2 fi fo fq fh fj fw fz hW hT hPm hG hRm hm0 hm1 hsd hht htp
  have hnL : P.1 ≤ 4096 := Nat.le_trans hG.2.2.1 (by decide)
  have hnW : P.2.1 ≤ 4096 := Nat.le_trans hG.2.2.2 (by decide)
  have hhL : (ht = 0 ∧ P.1 = 0) ∨ ht = 1 := hht.imp (fun z => ⟨z.1, z.2.1⟩) id
  have hhW : (ht = 0 ∧ P.2.1 = 0) ∨ ht = 1 := hht.imp (fun z => ⟨z.1, z.2.2⟩) id
  obtain ⟨hht1, hok, hsr, hrn, hsz, hfo⟩ : ht = 1 ∧ mRr P (l, w, rs, c) fr fo := id hRm
  have hl : l < P.1 := hok.1
  have hwv9 : w < P.2.1 := hok.2.1
  have hc4 : c ≤ 4096 := hok.2.2
  have hl4 : l < 4 := Nat.lt_of_lt_of_le hl hG.2.2.1
  have hl31 : l < 2 ^ 31 := by omega
  have hLp := hPm.1 l hl
  rw [Nat.zero_add] at hLp
  have hGl := hG.1 l hl
  have hrc : fr 2 = nI c := hrn.2.2.1
  rw [show oNth P (some (l, w, rs, c)) v y = oNthF fo c v y from (oNthF_c hfo hc4 v y).symm] at k
  have hw : hHas h [m, m + 14, m + 18] [(oC 10 (mF m th tr pl (nI tp) sz sp fa fl tk ta sg nu wd (nI P.1) (nI P.2.1) rl rw ht sd ah cl)), (aI 11 fr), (aB 4096 fo)] := hHas_s hW [0, 14, 18] rfl rfl
  have nd : [m, m + 14, m + 18].Nodup := (nd_inc ⟨by omega, by omega, trivial⟩)
  refine Cl.of (ini := false) kX10_nth (plainFor_of_name (by decide)) (by decide) (Nat.le_of_ble_eq_true rfl) rfl rfl (fun z => by cases z) ?_
  refine w_heq (hUs_id hw).symm ?_
  refine w_aload_n dX10_nth_0 rfl ?_
  refine w_iconst (v := 0) dX10_nth_1 (by decide) ?_
  refine w_put (fs' := (mF m 0 tr pl (nI tp) sz sp fa fl tk ta sg nu wd (nI P.1) (nI P.2.1) rl rw ht sd ah cl)) fX10_89 (hUs_at nd 0 rfl rfl) rfl rfl (Nat.le_of_ble_eq_true rfl) rfl dX10_nth_2 ?_
  refine w_heq (hUs_set nd rfl 0 (cs' := [(oC 10 (mF m 0 tr pl (nI tp) sz sp fa fl tk ta sg nu wd (nI P.1) (nI P.2.1) rl rw ht sd ah cl)), (aI 11 fr), (aB 4096 fo)]) rfl rfl) ?_
  refine w_aload_n dX10_nth_5 rfl ?_
  refine w_callV (ci := 10) (d' := d) (mc' := 0) (ms' := 0) (As := []) (st := []) lX10_284 vX10_hasRun rfl (hUs_at nd 0 rfl rfl) rfl (Nat.le_of_ble_eq_true rfl) dX10_nth_6 (Nat.le_of_ble_eq_true rfl) (Nat.le_of_ble_eq_true rfl) (Nat.le_refl _) (m_hasRun_s (hHas_sub nd (as' := [m, m + 14]) (cs' := [(oC 10 (mF m 0 tr pl (nI tp) sz sp fa fl tk ta sg nu wd (nI P.1) (nI P.2.1) rl rw ht sd ah cl)), (aI 11 fr)]) [0, 1] rfl rfl) hht1 hrn.1 hl31 ?_)
  refine w_if_ne_t (tgt := 18) dX10_nth_9 rfl (by decide) ?_
  refine w_iload_n dX10_nth_18 rfl ?_
  refine w_iconst (v := (-1)) dX10_nth_19 (by decide) ?_
  refine w_iconst (v := 1) dX10_nth_20 (by decide) ?_
  refine w_callS (d' := d) (mc' := 0) (ms' := 0) (As := [.int v, .int (-1), .int 1]) (st := []) lX10_111 vX10_in rfl (Nat.le_of_ble_eq_true rfl) dX10_nth_21 (Nat.le_of_ble_eq_true rfl) (Nat.le_of_ble_eq_true rfl) (Nat.le_refl _) (c_in ?_)
  refine w_if_eq (tgt := 31) dX10_nth_24 rfl (fun b24 => ?_) (fun b24 => ?_)
  · refine w_aload_n dX10_nth_31 rfl ?_
    refine w_iconst (v := 2) dX10_nth_32 (by decide) ?_
    refine w_callV (ci := 10) (d' := d) (mc' := 0) (ms' := 0) (As := [.int 2]) (st := []) lX10_228 vX10_refused rfl (hUs_at nd 0 rfl rfl) rfl (Nat.le_of_ble_eq_true rfl) dX10_nth_33 (Nat.le_of_ble_eq_true rfl) (Nat.le_of_ble_eq_true rfl) (Nat.le_refl _) (m_refused (hHas_sub nd (as' := [m]) (cs' := [(oC 10 (mF m 0 tr pl (nI tp) sz sp fa fl tk ta sg nu wd (nI P.1) (nI P.2.1) rl rw ht sd ah cl))]) [0] rfl rfl) (nd_sub nd (as' := [m]) [0] rfl rfl)  ?_)
    refine w_heq (hUs_in nd rfl [0] (cs2 := [(oC 10 (mF m 0 2 (-1) (nI tp) sz sp fa fl tk ta sg nu wd (nI P.1) (nI P.2.1) rl rw ht sd ah cl)), (aI 11 fr), (aB 4096 fo)]) rfl rfl) ?_
    refine w_ireturn rfl dX10_nth_36 (Nat.le_of_ble_eq_true rfl) (Nat.le_of_ble_eq_true rfl) ?_
    have e : oNthF fo c v y = ((-1), 2) := by
      simp only [oNthF]
      exact if_pos (Or.inl (by rw [vlB]; exact if_neg (fun z => (inB_0 b24).elim (fun y => absurd z.1 (Int32.not_le.mpr y)) (fun y => absurd z.2 (Int32.not_le.mpr y)))))
    rw [e] at k
    exact k _ (mI_i (cI_put hW (mAs_nd m) rfl [0, 14, 18] (cs2 := [(oC 10 (mF m 0 2 (-1) (nI tp) sz sp fa fl tk ta sg nu wd (nI P.1) (nI P.2.1) rl rw ht sd ah cl)), (aI 600 gt), (aL 8 ln), (aL 8 wn), (aI 8 fs), (aI 24 ff), (aI 8 fb), (aI 8 fn), (aI 8 fp), (aZ 8 f3), (aI 64 fk), (aI 64 fx), (aI 64 fy), (aI 64 fc), (aI 11 fr), (aI 11 f1), (aI 11 f2), (aI 22 fi), (aB 4096 fo), (aB 8192 fq), (aZ 2 fh), (aI 2 fj), (aI 4096 fw), (aI 2100 fz)]) rfl rfl) hT hPm hG hRm hm0 hm1 hsd hht htp) (mFr_of (by intro a ha; simp only [List.mem_cons, List.not_mem_nil, or_false] at ha; omega))
  · refine w_iload_n dX10_nth_27 rfl ?_
    refine w_if_ge (tgt := 37) dX10_nth_28 rfl (fun b28 => ?_) (fun b28 => ?_)
    · refine w_iload_n dX10_nth_37 rfl ?_
      refine w_istore_n (ls2 := [some (.ref m), some (.int v), some (.int y), some (.int y), none]) dX10_nth_38 (by decide) rfl rfl ?_
      refine w_iconst (v := (nI 0)) dX10_nth_39 (by decide) ?_
      refine w_istore (ls2 := [some (.ref m), some (.int v), some (.int y), some (.int y), some (.int (nI 0))]) dX10_nth_40 (by decide) rfl rfl ?_
      refine lq_nth nd hrc hc4 (fun j9 e9 => ?_) (fun e9 => ?_) c 0 y 0 (by omega) (Int32.sub_zero y).symm rfl
      · refine w_callV (ci := 10) (d' := d) (mc' := 0) (ms' := 0) (As := [.int (nI j9)]) (st := []) lX10_241 vX10_good rfl (hUs_at nd 0 rfl rfl) rfl (Nat.le_of_ble_eq_true rfl) dX10_nth_74 (Nat.le_of_ble_eq_true rfl) (Nat.le_of_ble_eq_true rfl) (Nat.le_refl _) (m_good (hHas_sub nd (as' := [m]) (cs' := [(oC 10 (mF m 0 tr pl (nI tp) sz sp fa fl tk ta sg nu wd (nI P.1) (nI P.2.1) rl rw ht sd ah cl))]) [0] rfl rfl) (nd_sub nd (as' := [m]) [0] rfl rfl)  ?_)
        refine w_heq (hUs_in nd rfl [0] (cs2 := [(oC 10 (mF m 0 0 (-1) (nI tp) sz sp fa fl tk ta sg nu wd (nI P.1) (nI P.2.1) rl rw ht sd ah cl)), (aI 11 fr), (aB 4096 fo)]) rfl rfl) ?_
        refine w_ireturn rfl dX10_nth_77 (Nat.le_of_ble_eq_true rfl) (Nat.le_of_ble_eq_true rfl) ?_
        have e : oNthF fo c v y = (nI j9, 0) := by
          simp only [oNthF]
          rw [if_neg (fun z => z.elim (fun z => by rw [vlB, if_pos (inB_1 b24)] at z; exact absurd z (by decide)) (fun z => absurd b28 (Int32.not_le.mpr z))), e9]
        rw [e] at k
        exact k _ (mI_i (cI_put hW (mAs_nd m) rfl [0, 14, 18] (cs2 := [(oC 10 (mF m 0 0 (-1) (nI tp) sz sp fa fl tk ta sg nu wd (nI P.1) (nI P.2.1) rl rw ht sd ah cl)), (aI 600 gt), (aL 8 ln), (aL 8 wn), (aI 8 fs), (aI 24 ff), (aI 8 fb), (aI 8 fn), (aI 8 fp), (aZ 8 f3), (aI 64 fk), (aI 64 fx), (aI 64 fy), (aI 64 fc), (aI 11 fr), (aI 11 f1), (aI 11 f2), (aI 22 fi), (aB 4096 fo), (aB 8192 fq), (aZ 2 fh), (aI 2 fj), (aI 4096 fw), (aI 2100 fz)]) rfl rfl) hT hPm hG hRm hm0 hm1 hsd hht htp) (mFr_of (by intro a ha; simp only [List.mem_cons, List.not_mem_nil, or_false] at ha; omega))
      · refine w_callV (ci := 10) (d' := d) (mc' := 0) (ms' := 0) (As := [.int (-2)]) (st := []) lX10_241 vX10_good rfl (hUs_at nd 0 rfl rfl) rfl (Nat.le_of_ble_eq_true rfl) dX10_nth_90 (Nat.le_of_ble_eq_true rfl) (Nat.le_of_ble_eq_true rfl) (Nat.le_refl _) (m_good (hHas_sub nd (as' := [m]) (cs' := [(oC 10 (mF m 0 tr pl (nI tp) sz sp fa fl tk ta sg nu wd (nI P.1) (nI P.2.1) rl rw ht sd ah cl))]) [0] rfl rfl) (nd_sub nd (as' := [m]) [0] rfl rfl)  ?_)
        refine w_heq (hUs_in nd rfl [0] (cs2 := [(oC 10 (mF m 0 0 (-1) (nI tp) sz sp fa fl tk ta sg nu wd (nI P.1) (nI P.2.1) rl rw ht sd ah cl)), (aI 11 fr), (aB 4096 fo)]) rfl rfl) ?_
        refine w_ireturn rfl dX10_nth_93 (Nat.le_of_ble_eq_true rfl) (Nat.le_of_ble_eq_true rfl) ?_
        have e : oNthF fo c v y = ((-2), 0) := by
          simp only [oNthF]
          rw [if_neg (fun z => z.elim (fun z => by rw [vlB, if_pos (inB_1 b24)] at z; exact absurd z (by decide)) (fun z => absurd b28 (Int32.not_le.mpr z))), e9]
        rw [e] at k
        exact k _ (mI_i (cI_put hW (mAs_nd m) rfl [0, 14, 18] (cs2 := [(oC 10 (mF m 0 0 (-1) (nI tp) sz sp fa fl tk ta sg nu wd (nI P.1) (nI P.2.1) rl rw ht sd ah cl)), (aI 600 gt), (aL 8 ln), (aL 8 wn), (aI 8 fs), (aI 24 ff), (aI 8 fb), (aI 8 fn), (aI 8 fp), (aZ 8 f3), (aI 64 fk), (aI 64 fx), (aI 64 fy), (aI 64 fc), (aI 11 fr), (aI 11 f1), (aI 11 f2), (aI 22 fi), (aB 4096 fo), (aB 8192 fq), (aZ 2 fh), (aI 2 fj), (aI 4096 fw), (aI 2100 fz)]) rfl rfl) hT hPm hG hRm hm0 hm1 hsd hht htp) (mFr_of (by intro a ha; simp only [List.mem_cons, List.not_mem_nil, or_false] at ha; omega))
    · refine w_aload_n dX10_nth_31 rfl ?_
      refine w_iconst (v := 2) dX10_nth_32 (by decide) ?_
      refine w_callV (ci := 10) (d' := d) (mc' := 0) (ms' := 0) (As := [.int 2]) (st := []) lX10_228 vX10_refused rfl (hUs_at nd 0 rfl rfl) rfl (Nat.le_of_ble_eq_true rfl) dX10_nth_33 (Nat.le_of_ble_eq_true rfl) (Nat.le_of_ble_eq_true rfl) (Nat.le_refl _) (m_refused (hHas_sub nd (as' := [m]) (cs' := [(oC 10 (mF m 0 tr pl (nI tp) sz sp fa fl tk ta sg nu wd (nI P.1) (nI P.2.1) rl rw ht sd ah cl))]) [0] rfl rfl) (nd_sub nd (as' := [m]) [0] rfl rfl)  ?_)
      refine w_heq (hUs_in nd rfl [0] (cs2 := [(oC 10 (mF m 0 2 (-1) (nI tp) sz sp fa fl tk ta sg nu wd (nI P.1) (nI P.2.1) rl rw ht sd ah cl)), (aI 11 fr), (aB 4096 fo)]) rfl rfl) ?_
      refine w_ireturn rfl dX10_nth_36 (Nat.le_of_ble_eq_true rfl) (Nat.le_of_ble_eq_true rfl) ?_
      have e : oNthF fo c v y = ((-1), 2) := by
        simp only [oNthF]
        exact if_pos (Or.inr (Int32.not_le.mp b28))
      rw [e] at k
      exact k _ (mI_i (cI_put hW (mAs_nd m) rfl [0, 14, 18] (cs2 := [(oC 10 (mF m 0 2 (-1) (nI tp) sz sp fa fl tk ta sg nu wd (nI P.1) (nI P.2.1) rl rw ht sd ah cl)), (aI 600 gt), (aL 8 ln), (aL 8 wn), (aI 8 fs), (aI 24 ff), (aI 8 fb), (aI 8 fn), (aI 8 fp), (aZ 8 f3), (aI 64 fk), (aI 64 fx), (aI 64 fy), (aI 64 fc), (aI 11 fr), (aI 11 f1), (aI 11 f2), (aI 22 fi), (aB 4096 fo), (aB 8192 fq), (aZ 2 fh), (aI 2 fj), (aI 4096 fw), (aI 2100 fz)]) rfl rfl) hT hPm hG hRm hm0 hm1 hsd hht htp) (mFr_of (by intro a ha; simp only [List.mem_cons, List.not_mem_nil, or_false] at ha; omega))
theorem q_nth {G : wG} {d : Nat} {h : hH} {Q : Option Value → hH → Prop} {m : Nat} {ft : Nat → Int32} {tp : Nat} {P : pD} {ht : Int32} {R : Option rnD} {i0 i1 : imD} {sd fa pl tr : Int32} {th : Int32}  {v y : Int32} (hI : mI h m ft tp P ht R i0 i1 sd fa pl tr th) (k : ∀ h2, mI h2 m ft tp P ht R i0 i1 sd fa (-1) (oNth P (R) v y).2 0 → mFr m h h2 → Q (some (.int (oNth P (R) v y).1)) h2) : Cl G yX10_nth (d + 1) 0 0 [.ref m, .int v, .int y] h Q := by
  cases R with
  | none => exact q_nth_n hI k
  | some r => obtain ⟨l, w, rs, c⟩ := r; exact q_nth_s hI k
set_option maxRecDepth 100000 in
set_option maxHeartbeats 4000000 in
theorem lq_octet {G : wG} {d : Nat} {h : hH} {Q : Option Value → hH → Prop} {m tp : Nat} {P : pD} {ht sd fa pl tr sz sp fl tk ta sg nu : Int32} {wd : Int64} {rl rw ah cl : Int32} {fr : Nat → Int32} {fo : Nat → Int32} {w9 : Nat} (nd : [m, m + 14, m + 18].Nodup) (hw9 : 8 * w9 + 8 ≤ 4096) (k : WP G RX10 cX10_octet 4 (some .int) false (d + 1) 0 0 0 0 Q 92 [some (.ref m), some (.int (nI w9)), some (.int (fld (fun t s => s * 2 + (if fo t = 1 then 1 else 0)) (8 * w9) 8 0)), none] [] (hUs h [m, m + 14, m + 18] [(oC 10 (mF m 0 tr pl (nI tp) sz sp fa fl tk ta sg nu wd (nI P.1) (nI P.2.1) rl rw ht sd ah cl)), (aI 11 fr), (aB 4096 fo)])) : ∀ (n : Nat) (i : Nat) (x : Int32), i + n = 8 → x = fld (fun t s => s * 2 + (if fo t = 1 then 1 else 0)) (8 * w9) i 0 → WP G RX10 cX10_octet 4 (some .int) false (d + 1) 0 0 0 0 Q 55 [some (.ref m), some (.int (nI w9)), some (.int x), some (.int (nI i))] [] (hUs h [m, m + 14, m + 18] [(oC 10 (mF m 0 tr pl (nI tp) sz sp fa fl tk ta sg nu wd (nI P.1) (nI P.2.1) rl rw ht sd ah cl)), (aI 11 fr), (aB 4096 fo)]) := by
  intro n
  induction n with
  | zero =>
    intro i x hi e
    refine w_iload_n dX10_octet_55 rfl ?_
    refine w_bipush (v := 8) dX10_octet_56 (by decide) ?_
    refine w_icmp_ge_t (tgt := 92) dX10_octet_58 rfl ((nI_leI (a := 8) (b := i) (by omega) (by omega)).mpr (by omega)) ?_
    refine w_less (ls2 := [some (.ref m), some (.int (nI w9)), some (.int x), none]) ⟨Or.inr rfl, Or.inr rfl, Or.inr rfl, Or.inl rfl, trivial⟩ ?_
    have z : i = 8 := by omega
    rw [z] at e
    rw [← e] at k
    exact k
  | succ n ih =>
    intro i x hi e
    refine w_iload_n dX10_octet_55 rfl ?_
    refine w_bipush (v := 8) dX10_octet_56 (by decide) ?_
    refine w_icmp_ge_f (tgt := 92) dX10_octet_58 rfl (fun z => absurd ((nI_leI (a := 8) (b := i) (by omega) (by omega)).mp z) (by omega)) ?_
    refine w_iconst (v := 2) dX10_octet_61 (by decide) ?_
    refine w_iload_n dX10_octet_62 rfl ?_
    refine w_imul dX10_octet_63 ?_
    refine w_aload_n dX10_octet_64 rfl ?_
    refine w_get (v := .ref (m + 18)) fX10_67 (hUs_at nd 0 rfl rfl) rfl dX10_octet_65 ?_
    refine w_bipush (v := 8) dX10_octet_68 (by decide) ?_
    refine w_iload_n dX10_octet_70 rfl ?_
    refine w_imulE (z := nI (8 * w9)) dX10_octet_71 (pk_mul (8) (w9)) ?_
    refine w_iload_n dX10_octet_72 rfl ?_
    refine w_iaddE (z := nI ((8 * w9) + i)) dX10_octet_73 (nI_add ((8 * w9)) (i)) ?_
    refine w_baloadN (hUs_at nd 2 rfl rfl) (by omega) (by omega) dX10_octet_74 ?_
    refine w_iconst (v := 1) dX10_octet_75 (by decide) ?_
    refine w_icmp_ne (tgt := 83) dX10_octet_76 rfl (fun b76 => ?_) (fun b76 => ?_)
    · refine w_iconst (v := 0) dX10_octet_83 (by decide) ?_
      refine w_iadd dX10_octet_84 ?_
      refine w_istore_n (ls2 := [some (.ref m), some (.int (nI w9)), some (.int ((2 * x) + 0)), some (.int (nI i))]) dX10_octet_85 (by decide) rfl rfl ?_
      refine w_iinc (v := nI (i + 1)) (ls2 := [some (.ref m), some (.int (nI w9)), some (.int ((2 * x) + 0)), some (.int (nI (i + 1)))]) dX10_octet_86 rfl (nI_1 _) (by decide) rfl rfl ?_
      refine w_goto (tgt := 55) dX10_octet_89 rfl ?_
      exact ih (i + 1) _ (by omega) (by rw [fld, ← e, Int32.mul_comm x 2]; simp only [if_neg b76])
    · refine w_iconst (v := 1) dX10_octet_79 (by decide) ?_
      refine w_goto (tgt := 84) dX10_octet_80 rfl ?_
      refine w_iadd dX10_octet_84 ?_
      refine w_istore_n (ls2 := [some (.ref m), some (.int (nI w9)), some (.int ((2 * x) + 1)), some (.int (nI i))]) dX10_octet_85 (by decide) rfl rfl ?_
      refine w_iinc (v := nI (i + 1)) (ls2 := [some (.ref m), some (.int (nI w9)), some (.int ((2 * x) + 1)), some (.int (nI (i + 1)))]) dX10_octet_86 rfl (nI_1 _) (by decide) rfl rfl ?_
      refine w_goto (tgt := 55) dX10_octet_89 rfl ?_
      exact ih (i + 1) _ (by omega) (by rw [fld, ← e, Int32.mul_comm x 2]; simp only [if_pos b76])
theorem i512 {y : Int32} {c : Nat} (h : 511 < y) (hc : c ≤ 4096) : nI (c / 8) ≤ y := by
  rw [Int32.le_iff_toInt_le, nI_toInt (by omega)]
  have := Int32.lt_iff_toInt_lt.mp h
  have z : (511 : Int32).toInt = 511 := rfl
  omega
set_option maxRecDepth 100000 in
set_option maxHeartbeats 4000000 in
theorem q_octet_n {G : wG} {d : Nat} {h : hH} {Q : Option Value → hH → Prop} {m : Nat} {ft : Nat → Int32} {tp : Nat} {P : pD} {ht : Int32} {i0 i1 : imD} {sd fa pl tr : Int32} {th : Int32}  {y : Int32} (hI : mI h m ft tp P ht none i0 i1 sd fa pl tr th)  (k : ∀ h2, mI h2 m ft tp P ht none i0 i1 sd fa (-1) (oOct P (none) y).2 0 → mFr m h h2 → Q (some (.int (oOct P (none) y).1)) h2) : Cl G yX10_octet (d + 1) 0 0 [.ref m, .int y] h Q := by
  refine mI_e hI ?_
  intro sz sp fl tk ta sg nu wd rl rw ah cl gt ln wn fs ff fb fn fp f3 fk fx fy fc fr f1 f2 fi fo fq fh fj fw fz hW hT hPm hG hRm hm0 hm1 hsd hht htp
  have hnL : P.1 ≤ 4096 := Nat.le_trans hG.2.2.1 (by decide)
  have hnW : P.2.1 ≤ 4096 := Nat.le_trans hG.2.2.2 (by decide)
  have hhL : (ht = 0 ∧ P.1 = 0) ∨ ht = 1 := hht.imp (fun z => ⟨z.1, z.2.1⟩) id
  have hhW : (ht = 0 ∧ P.2.1 = 0) ∨ ht = 1 := hht.imp (fun z => ⟨z.1, z.2.2⟩) id
  have hw : hHas h [m, m + 14] [(oC 10 (mF m th tr pl (nI tp) sz sp fa fl tk ta sg nu wd (nI P.1) (nI P.2.1) rl rw ht sd ah cl)), (aI 11 fr)] := hHas_s hW [0, 14] rfl rfl
  have nd : [m, m + 14].Nodup := (nd_inc ⟨by omega, trivial⟩)
  refine Cl.of (ini := false) kX10_octet (plainFor_of_name (by decide)) (by decide) (Nat.le_of_ble_eq_true rfl) rfl rfl (fun z => by cases z) ?_
  refine w_heq (hUs_id hw).symm ?_
  refine w_aload_n dX10_octet_0 rfl ?_
  refine w_iconst (v := 0) dX10_octet_1 (by decide) ?_
  refine w_put (fs' := (mF m 0 tr pl (nI tp) sz sp fa fl tk ta sg nu wd (nI P.1) (nI P.2.1) rl rw ht sd ah cl)) fX10_89 (hUs_at nd 0 rfl rfl) rfl rfl (Nat.le_of_ble_eq_true rfl) rfl dX10_octet_2 ?_
  refine w_heq (hUs_set nd rfl 0 (cs' := [(oC 10 (mF m 0 tr pl (nI tp) sz sp fa fl tk ta sg nu wd (nI P.1) (nI P.2.1) rl rw ht sd ah cl)), (aI 11 fr)]) rfl rfl) ?_
  refine w_aload_n dX10_octet_5 rfl ?_
  refine w_callV (ci := 10) (d' := d) (mc' := 0) (ms' := 0) (As := []) (st := []) lX10_284 vX10_hasRun rfl (hUs_at nd 0 rfl rfl) rfl (Nat.le_of_ble_eq_true rfl) dX10_octet_6 (Nat.le_of_ble_eq_true rfl) (Nat.le_of_ble_eq_true rfl) (Nat.le_refl _) (m_hasRun_n (hHas_sub nd (as' := [m, m + 14]) (cs' := [(oC 10 (mF m 0 tr pl (nI tp) sz sp fa fl tk ta sg nu wd (nI P.1) (nI P.2.1) rl rw ht sd ah cl)), (aI 11 fr)]) [0, 1] rfl rfl) hRm ?_)
  refine w_if_ne_f (tgt := 18) dX10_octet_9 rfl (by decide) ?_
  refine w_aload_n dX10_octet_12 rfl ?_
  refine w_iconst (v := 1) dX10_octet_13 (by decide) ?_
  refine w_callV (ci := 10) (d' := d) (mc' := 0) (ms' := 0) (As := [.int 1]) (st := []) lX10_228 vX10_refused rfl (hUs_at nd 0 rfl rfl) rfl (Nat.le_of_ble_eq_true rfl) dX10_octet_14 (Nat.le_of_ble_eq_true rfl) (Nat.le_of_ble_eq_true rfl) (Nat.le_refl _) (m_refused (hHas_sub nd (as' := [m]) (cs' := [(oC 10 (mF m 0 tr pl (nI tp) sz sp fa fl tk ta sg nu wd (nI P.1) (nI P.2.1) rl rw ht sd ah cl))]) [0] rfl rfl) (nd_sub nd (as' := [m]) [0] rfl rfl)  ?_)
  refine w_heq (hUs_in nd rfl [0] (cs2 := [(oC 10 (mF m 0 1 (-1) (nI tp) sz sp fa fl tk ta sg nu wd (nI P.1) (nI P.2.1) rl rw ht sd ah cl)), (aI 11 fr)]) rfl rfl) ?_
  refine w_ireturn rfl dX10_octet_17 (Nat.le_of_ble_eq_true rfl) (Nat.le_of_ble_eq_true rfl) ?_
  have e : oOct P none y = ((-1), 1) := by
    rfl
  rw [e] at k
  exact k _ (mI_i (cI_put hW (mAs_nd m) rfl [0, 14] (cs2 := [(oC 10 (mF m 0 1 (-1) (nI tp) sz sp fa fl tk ta sg nu wd (nI P.1) (nI P.2.1) rl rw ht sd ah cl)), (aI 600 gt), (aL 8 ln), (aL 8 wn), (aI 8 fs), (aI 24 ff), (aI 8 fb), (aI 8 fn), (aI 8 fp), (aZ 8 f3), (aI 64 fk), (aI 64 fx), (aI 64 fy), (aI 64 fc), (aI 11 fr), (aI 11 f1), (aI 11 f2), (aI 22 fi), (aB 4096 fo), (aB 8192 fq), (aZ 2 fh), (aI 2 fj), (aI 4096 fw), (aI 2100 fz)]) rfl rfl) hT hPm hG hRm hm0 hm1 hsd hht htp) (mFr_of (by intro a ha; simp only [List.mem_cons, List.not_mem_nil, or_false] at ha; omega))
set_option maxRecDepth 100000 in
set_option maxHeartbeats 4000000 in
theorem q_octet_s {G : wG} {d : Nat} {h : hH} {Q : Option Value → hH → Prop} {m : Nat} {ft : Nat → Int32} {tp : Nat} {P : pD} {ht : Int32} {i0 i1 : imD} {sd fa pl tr : Int32} {th : Int32}  {l w c : Nat} {rs : Int32} {y : Int32} (hI : mI h m ft tp P ht (some (l, w, rs, c)) i0 i1 sd fa pl tr th)  (k : ∀ h2, mI h2 m ft tp P ht (some (l, w, rs, c)) i0 i1 sd fa (-1) (oOct P (some (l, w, rs, c)) y).2 0 → mFr m h h2 → Q (some (.int (oOct P (some (l, w, rs, c)) y).1)) h2) : Cl G yX10_octet (d + 1) 0 0 [.ref m, .int y] h Q := by
  refine mI_e hI ?_
  intro sz sp fl tk ta sg nu wd rl rw ah cl gt ln wn fs ff fb fn fp f3 fk fx fy fc fr f1 f2 fi fo fq fh fj fw fz hW hT hPm hG hRm hm0 hm1 hsd hht htp
  have hnL : P.1 ≤ 4096 := Nat.le_trans hG.2.2.1 (by decide)
  have hnW : P.2.1 ≤ 4096 := Nat.le_trans hG.2.2.2 (by decide)
  have hhL : (ht = 0 ∧ P.1 = 0) ∨ ht = 1 := hht.imp (fun z => ⟨z.1, z.2.1⟩) id
  have hhW : (ht = 0 ∧ P.2.1 = 0) ∨ ht = 1 := hht.imp (fun z => ⟨z.1, z.2.2⟩) id
  obtain ⟨hht1, hok, hsr, hrn, hsz, hfo⟩ : ht = 1 ∧ mRr P (l, w, rs, c) fr fo := id hRm
  have hl : l < P.1 := hok.1
  have hwv9 : w < P.2.1 := hok.2.1
  have hc4 : c ≤ 4096 := hok.2.2
  have hl4 : l < 4 := Nat.lt_of_lt_of_le hl hG.2.2.1
  have hl31 : l < 2 ^ 31 := by omega
  have hLp := hPm.1 l hl
  rw [Nat.zero_add] at hLp
  have hGl := hG.1 l hl
  have hrc : fr 2 = nI c := hrn.2.2.1
  rw [show oOct P (some (l, w, rs, c)) y = oOctF fo c y from (oOctF_c hfo hc4 y).symm] at k
  have hw : hHas h [m, m + 14, m + 18] [(oC 10 (mF m th tr pl (nI tp) sz sp fa fl tk ta sg nu wd (nI P.1) (nI P.2.1) rl rw ht sd ah cl)), (aI 11 fr), (aB 4096 fo)] := hHas_s hW [0, 14, 18] rfl rfl
  have nd : [m, m + 14, m + 18].Nodup := (nd_inc ⟨by omega, by omega, trivial⟩)
  refine Cl.of (ini := false) kX10_octet (plainFor_of_name (by decide)) (by decide) (Nat.le_of_ble_eq_true rfl) rfl rfl (fun z => by cases z) ?_
  refine w_heq (hUs_id hw).symm ?_
  refine w_aload_n dX10_octet_0 rfl ?_
  refine w_iconst (v := 0) dX10_octet_1 (by decide) ?_
  refine w_put (fs' := (mF m 0 tr pl (nI tp) sz sp fa fl tk ta sg nu wd (nI P.1) (nI P.2.1) rl rw ht sd ah cl)) fX10_89 (hUs_at nd 0 rfl rfl) rfl rfl (Nat.le_of_ble_eq_true rfl) rfl dX10_octet_2 ?_
  refine w_heq (hUs_set nd rfl 0 (cs' := [(oC 10 (mF m 0 tr pl (nI tp) sz sp fa fl tk ta sg nu wd (nI P.1) (nI P.2.1) rl rw ht sd ah cl)), (aI 11 fr), (aB 4096 fo)]) rfl rfl) ?_
  refine w_aload_n dX10_octet_5 rfl ?_
  refine w_callV (ci := 10) (d' := d) (mc' := 0) (ms' := 0) (As := []) (st := []) lX10_284 vX10_hasRun rfl (hUs_at nd 0 rfl rfl) rfl (Nat.le_of_ble_eq_true rfl) dX10_octet_6 (Nat.le_of_ble_eq_true rfl) (Nat.le_of_ble_eq_true rfl) (Nat.le_refl _) (m_hasRun_s (hHas_sub nd (as' := [m, m + 14]) (cs' := [(oC 10 (mF m 0 tr pl (nI tp) sz sp fa fl tk ta sg nu wd (nI P.1) (nI P.2.1) rl rw ht sd ah cl)), (aI 11 fr)]) [0, 1] rfl rfl) hht1 hrn.1 hl31 ?_)
  refine w_if_ne_t (tgt := 18) dX10_octet_9 rfl (by decide) ?_
  refine w_iload_n dX10_octet_18 rfl ?_
  refine w_if_lt (tgt := 45) dX10_octet_19 rfl (fun b19 => ?_) (fun b19 => ?_)
  · refine w_aload_n dX10_octet_45 rfl ?_
    refine w_iconst (v := 2) dX10_octet_46 (by decide) ?_
    refine w_callV (ci := 10) (d' := d) (mc' := 0) (ms' := 0) (As := [.int 2]) (st := []) lX10_228 vX10_refused rfl (hUs_at nd 0 rfl rfl) rfl (Nat.le_of_ble_eq_true rfl) dX10_octet_47 (Nat.le_of_ble_eq_true rfl) (Nat.le_of_ble_eq_true rfl) (Nat.le_refl _) (m_refused (hHas_sub nd (as' := [m]) (cs' := [(oC 10 (mF m 0 tr pl (nI tp) sz sp fa fl tk ta sg nu wd (nI P.1) (nI P.2.1) rl rw ht sd ah cl))]) [0] rfl rfl) (nd_sub nd (as' := [m]) [0] rfl rfl)  ?_)
    refine w_heq (hUs_in nd rfl [0] (cs2 := [(oC 10 (mF m 0 2 (-1) (nI tp) sz sp fa fl tk ta sg nu wd (nI P.1) (nI P.2.1) rl rw ht sd ah cl)), (aI 11 fr), (aB 4096 fo)]) rfl rfl) ?_
    refine w_ireturn rfl dX10_octet_50 (Nat.le_of_ble_eq_true rfl) (Nat.le_of_ble_eq_true rfl) ?_
    have e : oOctF fo c y = ((-1), 2) := by
      simp only [oOctF]
      exact if_pos (Or.inl b19)
    rw [e] at k
    exact k _ (mI_i (cI_put hW (mAs_nd m) rfl [0, 14, 18] (cs2 := [(oC 10 (mF m 0 2 (-1) (nI tp) sz sp fa fl tk ta sg nu wd (nI P.1) (nI P.2.1) rl rw ht sd ah cl)), (aI 600 gt), (aL 8 ln), (aL 8 wn), (aI 8 fs), (aI 24 ff), (aI 8 fb), (aI 8 fn), (aI 8 fp), (aZ 8 f3), (aI 64 fk), (aI 64 fx), (aI 64 fy), (aI 64 fc), (aI 11 fr), (aI 11 f1), (aI 11 f2), (aI 22 fi), (aB 4096 fo), (aB 8192 fq), (aZ 2 fh), (aI 2 fj), (aI 4096 fw), (aI 2100 fz)]) rfl rfl) hT hPm hG hRm hm0 hm1 hsd hht htp) (mFr_of (by intro a ha; simp only [List.mem_cons, List.not_mem_nil, or_false] at ha; omega))
  · refine w_iload_n dX10_octet_22 rfl ?_
    refine w_sipush (v := 511) dX10_octet_23 (by decide) ?_
    refine w_icmp_gt (tgt := 45) dX10_octet_26 rfl (fun b26 => ?_) (fun b26 => ?_)
    · refine w_aload_n dX10_octet_45 rfl ?_
      refine w_iconst (v := 2) dX10_octet_46 (by decide) ?_
      refine w_callV (ci := 10) (d' := d) (mc' := 0) (ms' := 0) (As := [.int 2]) (st := []) lX10_228 vX10_refused rfl (hUs_at nd 0 rfl rfl) rfl (Nat.le_of_ble_eq_true rfl) dX10_octet_47 (Nat.le_of_ble_eq_true rfl) (Nat.le_of_ble_eq_true rfl) (Nat.le_refl _) (m_refused (hHas_sub nd (as' := [m]) (cs' := [(oC 10 (mF m 0 tr pl (nI tp) sz sp fa fl tk ta sg nu wd (nI P.1) (nI P.2.1) rl rw ht sd ah cl))]) [0] rfl rfl) (nd_sub nd (as' := [m]) [0] rfl rfl)  ?_)
      refine w_heq (hUs_in nd rfl [0] (cs2 := [(oC 10 (mF m 0 2 (-1) (nI tp) sz sp fa fl tk ta sg nu wd (nI P.1) (nI P.2.1) rl rw ht sd ah cl)), (aI 11 fr), (aB 4096 fo)]) rfl rfl) ?_
      refine w_ireturn rfl dX10_octet_50 (Nat.le_of_ble_eq_true rfl) (Nat.le_of_ble_eq_true rfl) ?_
      have e : oOctF fo c y = ((-1), 2) := by
        simp only [oOctF]
        exact if_pos (Or.inr (i512 b26 hc4))
      rw [e] at k
      exact k _ (mI_i (cI_put hW (mAs_nd m) rfl [0, 14, 18] (cs2 := [(oC 10 (mF m 0 2 (-1) (nI tp) sz sp fa fl tk ta sg nu wd (nI P.1) (nI P.2.1) rl rw ht sd ah cl)), (aI 600 gt), (aL 8 ln), (aL 8 wn), (aI 8 fs), (aI 24 ff), (aI 8 fb), (aI 8 fn), (aI 8 fp), (aZ 8 f3), (aI 64 fk), (aI 64 fx), (aI 64 fy), (aI 64 fc), (aI 11 fr), (aI 11 f1), (aI 11 f2), (aI 22 fi), (aB 4096 fo), (aB 8192 fq), (aZ 2 fh), (aI 2 fj), (aI 4096 fw), (aI 2100 fz)]) rfl rfl) hT hPm hG hRm hm0 hm1 hsd hht htp) (mFr_of (by intro a ha; simp only [List.mem_cons, List.not_mem_nil, or_false] at ha; omega))
    · obtain ⟨w9, hw9, rfl⟩ := in2 (m := 511) b19 (Int32.not_lt.mp b26) (by decide)
      have hwc : tN (nI w9) = w9 := nI_clamp (by omega)
      refine w_bipush (v := 8) dX10_octet_29 (by decide) ?_
      refine w_iload_n dX10_octet_31 rfl ?_
      refine w_imulE (z := nI (8 * w9)) dX10_octet_32 (pk_mul (8) (w9)) ?_
      refine w_bipush (v := 8) dX10_octet_33 (by decide) ?_
      refine w_iaddE (z := nI ((8 * w9) + 8)) dX10_octet_35 (nI_add ((8 * w9)) (8)) ?_
      refine w_aload_n dX10_octet_36 rfl ?_
      refine w_get (v := .ref (m + 14)) fX10_55 (hUs_at nd 0 rfl rfl) rfl dX10_octet_37 ?_
      refine w_iconst (v := (nI 2)) dX10_octet_40 (by decide) ?_
      refine w_ialoadN (hUs_at nd 1 rfl rfl) (by omega) (by omega) dX10_octet_41 ?_
      refine w_top (z := nI c) hrc ?_
      refine w_icmp_le (tgt := 51) dX10_octet_42 rfl (fun b42 => ?_) (fun b42 => ?_)
      · have b42 := (nI_leI (a := ((8 * w9) + 8)) (b := c) (by omega) (by omega)).mp b42
        refine w_iconst (v := 0) dX10_octet_51 (by decide) ?_
        refine w_istore_n (ls2 := [some (.ref m), some (.int (nI w9)), some (.int 0), none]) dX10_octet_52 (by decide) rfl rfl ?_
        refine w_iconst (v := (nI 0)) dX10_octet_53 (by decide) ?_
        refine w_istore_n (ls2 := [some (.ref m), some (.int (nI w9)), some (.int 0), some (.int (nI 0))]) dX10_octet_54 (by decide) rfl rfl ?_
        refine lq_octet nd (by omega) ?_ 8 0 0 (by omega) rfl
        refine w_aload_n dX10_octet_92 rfl ?_
        refine w_iload_n dX10_octet_93 rfl ?_
        refine w_callV (ci := 10) (d' := d) (mc' := 0) (ms' := 0) (As := [.int (fld (fun t s => s * 2 + (if fo t = 1 then 1 else 0)) (8 * w9) 8 0)]) (st := []) lX10_241 vX10_good rfl (hUs_at nd 0 rfl rfl) rfl (Nat.le_of_ble_eq_true rfl) dX10_octet_94 (Nat.le_of_ble_eq_true rfl) (Nat.le_of_ble_eq_true rfl) (Nat.le_refl _) (m_good (hHas_sub nd (as' := [m]) (cs' := [(oC 10 (mF m 0 tr pl (nI tp) sz sp fa fl tk ta sg nu wd (nI P.1) (nI P.2.1) rl rw ht sd ah cl))]) [0] rfl rfl) (nd_sub nd (as' := [m]) [0] rfl rfl)  ?_)
        refine w_heq (hUs_in nd rfl [0] (cs2 := [(oC 10 (mF m 0 0 (-1) (nI tp) sz sp fa fl tk ta sg nu wd (nI P.1) (nI P.2.1) rl rw ht sd ah cl)), (aI 11 fr), (aB 4096 fo)]) rfl rfl) ?_
        refine w_ireturn rfl dX10_octet_97 (Nat.le_of_ble_eq_true rfl) (Nat.le_of_ble_eq_true rfl) ?_
        have e : oOctF fo c (nI w9) = (fld (fun t s => s * 2 + (if fo t = 1 then 1 else 0)) (8 * w9) 8 0, 0) := by
          simp only [oOctF]
          rw [if_neg (fun z => z.elim (fun z => absurd z (nI_pos (by omega))) (fun z => absurd ((nI_leI (by omega) (by omega)).mp z) (by omega))), hwc]
        rw [e] at k
        exact k _ (mI_i (cI_put hW (mAs_nd m) rfl [0, 14, 18] (cs2 := [(oC 10 (mF m 0 0 (-1) (nI tp) sz sp fa fl tk ta sg nu wd (nI P.1) (nI P.2.1) rl rw ht sd ah cl)), (aI 600 gt), (aL 8 ln), (aL 8 wn), (aI 8 fs), (aI 24 ff), (aI 8 fb), (aI 8 fn), (aI 8 fp), (aZ 8 f3), (aI 64 fk), (aI 64 fx), (aI 64 fy), (aI 64 fc), (aI 11 fr), (aI 11 f1), (aI 11 f2), (aI 22 fi), (aB 4096 fo), (aB 8192 fq), (aZ 2 fh), (aI 2 fj), (aI 4096 fw), (aI 2100 fz)]) rfl rfl) hT hPm hG hRm hm0 hm1 hsd hht htp) (mFr_of (by intro a ha; simp only [List.mem_cons, List.not_mem_nil, or_false] at ha; omega))
      · have b42 : ¬ ((8 * w9) + 8) ≤ c := fun z => b42 ((nI_leI (a := ((8 * w9) + 8)) (b := c) (by omega) (by omega)).mpr z)
        refine w_aload_n dX10_octet_45 rfl ?_
        refine w_iconst (v := 2) dX10_octet_46 (by decide) ?_
        refine w_callV (ci := 10) (d' := d) (mc' := 0) (ms' := 0) (As := [.int 2]) (st := []) lX10_228 vX10_refused rfl (hUs_at nd 0 rfl rfl) rfl (Nat.le_of_ble_eq_true rfl) dX10_octet_47 (Nat.le_of_ble_eq_true rfl) (Nat.le_of_ble_eq_true rfl) (Nat.le_refl _) (m_refused (hHas_sub nd (as' := [m]) (cs' := [(oC 10 (mF m 0 tr pl (nI tp) sz sp fa fl tk ta sg nu wd (nI P.1) (nI P.2.1) rl rw ht sd ah cl))]) [0] rfl rfl) (nd_sub nd (as' := [m]) [0] rfl rfl)  ?_)
        refine w_heq (hUs_in nd rfl [0] (cs2 := [(oC 10 (mF m 0 2 (-1) (nI tp) sz sp fa fl tk ta sg nu wd (nI P.1) (nI P.2.1) rl rw ht sd ah cl)), (aI 11 fr), (aB 4096 fo)]) rfl rfl) ?_
        refine w_ireturn rfl dX10_octet_50 (Nat.le_of_ble_eq_true rfl) (Nat.le_of_ble_eq_true rfl) ?_
        have e : oOctF fo c (nI w9) = ((-1), 2) := by
          simp only [oOctF]
          exact if_pos (Or.inr ((nI_leI (by omega) (by omega)).mpr (by omega)))
        rw [e] at k
        exact k _ (mI_i (cI_put hW (mAs_nd m) rfl [0, 14, 18] (cs2 := [(oC 10 (mF m 0 2 (-1) (nI tp) sz sp fa fl tk ta sg nu wd (nI P.1) (nI P.2.1) rl rw ht sd ah cl)), (aI 600 gt), (aL 8 ln), (aL 8 wn), (aI 8 fs), (aI 24 ff), (aI 8 fb), (aI 8 fn), (aI 8 fp), (aZ 8 f3), (aI 64 fk), (aI 64 fx), (aI 64 fy), (aI 64 fc), (aI 11 fr), (aI 11 f1), (aI 11 f2), (aI 22 fi), (aB 4096 fo), (aB 8192 fq), (aZ 2 fh), (aI 2 fj), (aI 4096 fw), (aI 2100 fz)]) rfl rfl) hT hPm hG hRm hm0 hm1 hsd hht htp) (mFr_of (by intro a ha; simp only [List.mem_cons, List.not_mem_nil, or_false] at ha; omega))
theorem q_octet {G : wG} {d : Nat} {h : hH} {Q : Option Value → hH → Prop} {m : Nat} {ft : Nat → Int32} {tp : Nat} {P : pD} {ht : Int32} {R : Option rnD} {i0 i1 : imD} {sd fa pl tr : Int32} {th : Int32}  {y : Int32} (hI : mI h m ft tp P ht R i0 i1 sd fa pl tr th) (k : ∀ h2, mI h2 m ft tp P ht R i0 i1 sd fa (-1) (oOct P (R) y).2 0 → mFr m h h2 → Q (some (.int (oOct P (R) y).1)) h2) : Cl G yX10_octet (d + 1) 0 0 [.ref m, .int y] h Q := by
  cases R with
  | none => exact q_octet_n hI k
  | some r => obtain ⟨l, w, rs, c⟩ := r; exact q_octet_s hI k
set_option maxRecDepth 100000 in
set_option maxHeartbeats 4000000 in
theorem m_summedMany {G : wG} {d : Nat} {h : hH} {Q : Option Value → hH → Prop} {m : Nat} {th tr wa tp sz sp fa fl tk ta sg nu : Int32} {wd : Int64} {lo wv rl rw ht sd ah cl : Int32} {fr : Nat → Int32} {M Y c : Nat} (hw : hHas h [m, m + 14] [(oC 10 (mF m th tr wa tp sz sp fa fl tk ta sg nu wd lo wv rl rw ht sd ah cl)), (aI 11 fr)]) (hrc : fr 2 = nI c) (hc4 : c ≤ 4096) (hM : M ≤ 3) (hY : 2 ≤ Y) (hY2 : Y ≤ 32) (k : Q (some (.int (nI (smN M Y c)))) h) : Cl G yX10_summedMany d 0 0 [.ref m, .int (nI M), .int (nI Y)] h Q := by
  refine Cl.of (ini := false) kX10_summedMany (plainFor_of_name (by decide)) (by decide) (Nat.le_of_ble_eq_true rfl) rfl rfl (fun z => by cases z) ?_
  have hMY : M * (Y - 1) ≤ 93 := Nat.le_trans (Nat.mul_le_mul hM (show Y - 1 ≤ 31 by omega)) (by decide)
  refine w_iload_n dX10_summedMany_0 rfl ?_
  refine w_iload_n dX10_summedMany_1 rfl ?_
  refine w_iconst (v := 1) dX10_summedMany_2 (by decide) ?_
  refine w_isubE (z := nI (Y - 1)) dX10_summedMany_3 (pk_sub (a := Y) (b := 1) (by omega)) ?_
  refine w_imulE (z := nI (M * (Y - 1))) dX10_summedMany_4 (pk_mul (M) ((Y - 1))) ?_
  refine w_iconst (v := 1) dX10_summedMany_5 (by decide) ?_
  refine w_iaddE (z := nI ((M * (Y - 1)) + 1)) dX10_summedMany_6 (nI_add ((M * (Y - 1))) (1)) ?_
  refine w_istore_n (ls2 := [some (.ref m), some (.int (nI M)), some (.int (nI Y)), some (.int (nI ((M * (Y - 1)) + 1)))]) dX10_summedMany_7 (by decide) rfl rfl ?_
  refine w_aload_n dX10_summedMany_8 rfl ?_
  refine w_get (v := .ref (m + 14)) fX10_55 (hw 0 _ _ rfl rfl) rfl dX10_summedMany_9 ?_
  refine w_iconst (v := (nI 2)) dX10_summedMany_12 (by decide) ?_
  refine w_ialoadN (hw 1 _ _ rfl rfl) (by omega) (by omega) dX10_summedMany_13 ?_
  refine w_top (z := nI c) hrc ?_
  refine w_iload_n dX10_summedMany_14 rfl ?_
  refine w_icmp_ge (tgt := 22) dX10_summedMany_15 rfl (fun b15 => ?_) (fun b15 => ?_)
  · have b15 := (nI_leI (a := ((M * (Y - 1)) + 1)) (b := c) (by omega) (by omega)).mp b15
    refine w_aload_n dX10_summedMany_22 rfl ?_
    refine w_get (v := .ref (m + 14)) fX10_55 (hw 0 _ _ rfl rfl) rfl dX10_summedMany_23 ?_
    refine w_iconst (v := (nI 2)) dX10_summedMany_26 (by decide) ?_
    refine w_ialoadN (hw 1 _ _ rfl rfl) (by omega) (by omega) dX10_summedMany_27 ?_
    refine w_top (z := nI c) hrc ?_
    refine w_iload_n dX10_summedMany_28 rfl ?_
    refine w_isubE (z := nI (c - ((M * (Y - 1)) + 1))) dX10_summedMany_29 (pk_sub (a := c) (b := ((M * (Y - 1)) + 1)) (by omega)) ?_
    refine w_iload_n dX10_summedMany_30 rfl ?_
    refine w_idivE (z := nI ((c - ((M * (Y - 1)) + 1)) / Y)) dX10_summedMany_31 (nI_ne0 (by omega) (by omega)) (pk_div (a := (c - ((M * (Y - 1)) + 1))) (d := Y) (by omega) (by omega) (by omega)) ?_
    refine w_iconst (v := 1) dX10_summedMany_32 (by decide) ?_
    refine w_iaddE (z := nI (((c - ((M * (Y - 1)) + 1)) / Y) + 1)) dX10_summedMany_33 (nI_add (((c - ((M * (Y - 1)) + 1)) / Y)) (1)) ?_
    refine w_ireturn rfl dX10_summedMany_34 (Nat.le_of_ble_eq_true rfl) (Nat.le_of_ble_eq_true rfl) ?_
    rw [smN, if_pos (by omega), show c - 1 - M * (Y - 1) = c - (M * (Y - 1) + 1) by omega] at k
    exact k
  · have b15 : ¬ ((M * (Y - 1)) + 1) ≤ c := fun z => b15 ((nI_leI (a := ((M * (Y - 1)) + 1)) (b := c) (by omega) (by omega)).mpr z)
    refine w_iconst (v := 0) dX10_summedMany_18 (by decide) ?_
    refine w_goto (tgt := 34) dX10_summedMany_19 rfl ?_
    refine w_ireturn rfl dX10_summedMany_34 (Nat.le_of_ble_eq_true rfl) (Nat.le_of_ble_eq_true rfl) ?_
    rw [smN, if_neg (by omega)] at k
    exact k
set_option maxRecDepth 100000 in
set_option maxHeartbeats 4000000 in
theorem m_refSum_n {G : wG} {d : Nat} {h : hH} {Q : Option Value → hH → Prop} {m : Nat} {th tr wa tp sz sp fa fl tk ta sg nu : Int32} {wd : Int64} {lo wv rl rw ht sd ah cl : Int32} {fr : Nat → Int32} {x y : Int32} (hw : hHas h [m, m + 14] [(oC 10 (mF m th tr wa tp sz sp fa fl tk ta sg nu wd lo wv rl rw ht sd ah cl)), (aI 11 fr)]) (hRm : ht = 0 ∨ fr 0 = -1) (k : Q (some (.int 1)) h) : Cl G yX10_refusesSummed (d + 1) 0 0 [.ref m, .int x, .int y] h Q := by
  refine Cl.of (ini := false) kX10_refusesSummed (plainFor_of_name (by decide)) (by decide) (Nat.le_of_ble_eq_true rfl) rfl rfl (fun z => by cases z) ?_
  refine w_aload_n dX10_refusesSummed_0 rfl ?_
  refine w_callV (ci := 10) (d' := d) (mc' := 0) (ms' := 0) (As := []) (st := []) lX10_284 vX10_hasRun rfl (hw 0 _ _ rfl rfl) rfl (Nat.le_of_ble_eq_true rfl) dX10_refusesSummed_1 (Nat.le_of_ble_eq_true rfl) (Nat.le_of_ble_eq_true rfl) (Nat.le_refl _) (m_hasRun_n (hHas_s hw (as' := [m, m + 14]) (cs' := [(oC 10 (mF m th tr wa tp sz sp fa fl tk ta sg nu wd lo wv rl rw ht sd ah cl)), (aI 11 fr)]) [0, 1] rfl rfl) hRm ?_)
  refine w_if_ne_f (tgt := 11) dX10_refusesSummed_4 rfl (by decide) ?_
  refine w_iconst (v := 1) dX10_refusesSummed_7 (by decide) ?_
  refine w_goto (tgt := 35) dX10_refusesSummed_8 rfl ?_
  refine w_ireturn rfl dX10_refusesSummed_35 (Nat.le_of_ble_eq_true rfl) (Nat.le_of_ble_eq_true rfl) ?_
  exact k
set_option maxRecDepth 100000 in
set_option maxHeartbeats 4000000 in
theorem m_refSum_s {G : wG} {d : Nat} {h : hH} {Q : Option Value → hH → Prop} {m : Nat} {th tr wa tp sz sp fa fl tk ta sg nu : Int32} {wd : Int64} {lo wv rl rw ht sd ah cl : Int32} {fr : Nat → Int32} {x y w9 c9 : Int32} {j : Nat} {s : cS} (hw : hHas h [m, m + 14] [(oC 10 (mF m th tr wa tp sz sp fa fl tk ta sg nu wd lo wv rl rw ht sd ah cl)), (aI 11 fr)]) (hht1 : ht = 1) (hrn : mRn fr (nI j) w9 c9 s) (hl31 : j < 2 ^ 31) (k : Q (some (.int (if smB x y = 0 then 2 else 0))) h) : Cl G yX10_refusesSummed (d + 1) 0 0 [.ref m, .int x, .int y] h Q := by
  refine Cl.of (ini := false) kX10_refusesSummed (plainFor_of_name (by decide)) (by decide) (Nat.le_of_ble_eq_true rfl) rfl rfl (fun z => by cases z) ?_
  refine w_aload_n dX10_refusesSummed_0 rfl ?_
  refine w_callV (ci := 10) (d' := d) (mc' := 0) (ms' := 0) (As := []) (st := []) lX10_284 vX10_hasRun rfl (hw 0 _ _ rfl rfl) rfl (Nat.le_of_ble_eq_true rfl) dX10_refusesSummed_1 (Nat.le_of_ble_eq_true rfl) (Nat.le_of_ble_eq_true rfl) (Nat.le_refl _) (m_hasRun_s (hHas_s hw (as' := [m, m + 14]) (cs' := [(oC 10 (mF m th tr wa tp sz sp fa fl tk ta sg nu wd lo wv rl rw ht sd ah cl)), (aI 11 fr)]) [0, 1] rfl rfl) hht1 hrn.1 hl31 ?_)
  refine w_if_ne_t (tgt := 11) dX10_refusesSummed_4 rfl (by decide) ?_
  refine w_iload_n dX10_refusesSummed_11 rfl ?_
  refine w_iconst (v := 1) dX10_refusesSummed_12 (by decide) ?_
  refine w_iconst (v := 3) dX10_refusesSummed_13 (by decide) ?_
  refine w_callS (d' := d) (mc' := 0) (ms' := 0) (As := [.int x, .int 1, .int 3]) (st := []) lX10_111 vX10_in rfl (Nat.le_of_ble_eq_true rfl) dX10_refusesSummed_14 (Nat.le_of_ble_eq_true rfl) (Nat.le_of_ble_eq_true rfl) (Nat.le_refl _) (c_in ?_)
  refine w_if_eq (tgt := 30) dX10_refusesSummed_17 rfl (fun b17 => ?_) (fun b17 => ?_)
  · refine w_iconst (v := 2) dX10_refusesSummed_30 (by decide) ?_
    refine w_goto (tgt := 35) dX10_refusesSummed_31 rfl ?_
    refine w_ireturn rfl dX10_refusesSummed_35 (Nat.le_of_ble_eq_true rfl) (Nat.le_of_ble_eq_true rfl) ?_
    have e : (if smB x y = 0 then (2 : Int32) else 0) = 2 := by
      exact if_pos (show smB x y = 0 from if_neg (fun z => (inB_0 b17).elim (fun y => absurd z.1.1 (Int32.not_le.mpr y)) (fun y => absurd z.1.2 (Int32.not_le.mpr y))))
    rw [e] at k
    exact k
  · refine w_iload_n dX10_refusesSummed_20 rfl ?_
    refine w_iconst (v := 2) dX10_refusesSummed_21 (by decide) ?_
    refine w_bipush (v := 32) dX10_refusesSummed_22 (by decide) ?_
    refine w_callS (d' := d) (mc' := 0) (ms' := 0) (As := [.int y, .int 2, .int 32]) (st := []) lX10_111 vX10_in rfl (Nat.le_of_ble_eq_true rfl) dX10_refusesSummed_24 (Nat.le_of_ble_eq_true rfl) (Nat.le_of_ble_eq_true rfl) (Nat.le_refl _) (c_in ?_)
    refine w_if_ne (tgt := 34) dX10_refusesSummed_27 rfl (fun b27 => ?_) (fun b27 => ?_)
    · refine w_iconst (v := 0) dX10_refusesSummed_34 (by decide) ?_
      refine w_ireturn rfl dX10_refusesSummed_35 (Nat.le_of_ble_eq_true rfl) (Nat.le_of_ble_eq_true rfl) ?_
      have e : (if smB x y = 0 then (2 : Int32) else 0) = 0 := by
        exact if_neg (show ¬ smB x y = 0 by rw [smB, if_pos ⟨inB_1 b17, inB_1 b27⟩]; decide)
      rw [e] at k
      exact k
    · refine w_iconst (v := 2) dX10_refusesSummed_30 (by decide) ?_
      refine w_goto (tgt := 35) dX10_refusesSummed_31 rfl ?_
      refine w_ireturn rfl dX10_refusesSummed_35 (Nat.le_of_ble_eq_true rfl) (Nat.le_of_ble_eq_true rfl) ?_
      have e : (if smB x y = 0 then (2 : Int32) else 0) = 2 := by
        exact if_pos (show smB x y = 0 from if_neg (fun z => (inB_0 b27).elim (fun y => absurd z.2.1 (Int32.not_le.mpr y)) (fun y => absurd z.2.2 (Int32.not_le.mpr y))))
      rw [e] at k
      exact k
theorem rs_le {m y : Int32} : (if smB m y = 0 then (2 : Int32) else 0) ≤ 0 ↔ ¬ smB m y = 0 := by
  by_cases e : smB m y = 0
  · rw [if_pos e]; exact ⟨fun z => absurd z (by decide), fun z => absurd e z⟩
  · rw [if_neg e]; exact ⟨fun _ => e, fun _ => by decide⟩
set_option maxRecDepth 100000 in
set_option maxHeartbeats 4000000 in
theorem q_summed_n {G : wG} {d : Nat} {h : hH} {Q : Option Value → hH → Prop} {m : Nat} {ft : Nat → Int32} {tp : Nat} {P : pD} {ht : Int32} {i0 i1 : imD} {sd fa pl tr : Int32} {th : Int32}  {y1 y : Int32} (hI : mI h m ft tp P ht none i0 i1 sd fa pl tr th)  (k : ∀ h2, mI h2 m ft tp P ht none i0 i1 sd fa (-1) (oSum P (none) y1 y).2 0 → mFr m h h2 → Q (some (.int (oSum P (none) y1 y).1)) h2) : Cl G yX10_summed (d + 2) 0 0 [.ref m, .int y1, .int y] h Q := by
  refine mI_e hI ?_
  intro sz sp fl tk ta sg nu wd rl rw ah cl gt ln wn fs ff fb fn fp f3 fk fx fy fc fr f1 f2 fi fo fq fh fj fw fz hW hT hPm hG hRm hm0 hm1 hsd hht htp
  have hnL : P.1 ≤ 4096 := Nat.le_trans hG.2.2.1 (by decide)
  have hnW : P.2.1 ≤ 4096 := Nat.le_trans hG.2.2.2 (by decide)
  have hhL : (ht = 0 ∧ P.1 = 0) ∨ ht = 1 := hht.imp (fun z => ⟨z.1, z.2.1⟩) id
  have hhW : (ht = 0 ∧ P.2.1 = 0) ∨ ht = 1 := hht.imp (fun z => ⟨z.1, z.2.2⟩) id
  have hw : hHas h [m, m + 14] [(oC 10 (mF m th tr pl (nI tp) sz sp fa fl tk ta sg nu wd (nI P.1) (nI P.2.1) rl rw ht sd ah cl)), (aI 11 fr)] := hHas_s hW [0, 14] rfl rfl
  have nd : [m, m + 14].Nodup := (nd_inc ⟨by omega, trivial⟩)
  refine Cl.of (ini := false) kX10_summed (plainFor_of_name (by decide)) (by decide) (Nat.le_of_ble_eq_true rfl) rfl rfl (fun z => by cases z) ?_
  refine w_heq (hUs_id hw).symm ?_
  refine w_aload_n dX10_summed_0 rfl ?_
  refine w_iconst (v := 0) dX10_summed_1 (by decide) ?_
  refine w_put (fs' := (mF m 0 tr pl (nI tp) sz sp fa fl tk ta sg nu wd (nI P.1) (nI P.2.1) rl rw ht sd ah cl)) fX10_89 (hUs_at nd 0 rfl rfl) rfl rfl (Nat.le_of_ble_eq_true rfl) rfl dX10_summed_2 ?_
  refine w_heq (hUs_set nd rfl 0 (cs' := [(oC 10 (mF m 0 tr pl (nI tp) sz sp fa fl tk ta sg nu wd (nI P.1) (nI P.2.1) rl rw ht sd ah cl)), (aI 11 fr)]) rfl rfl) ?_
  refine w_aload_n dX10_summed_5 rfl ?_
  refine w_iload_n dX10_summed_6 rfl ?_
  refine w_iload_n dX10_summed_7 rfl ?_
  refine w_callV (ci := 10) (d' := d + 1) (mc' := 0) (ms' := 0) (As := [.int y1, .int y]) (st := []) lX10_308 vX10_refusesSummed rfl (hUs_at nd 0 rfl rfl) rfl (Nat.le_of_ble_eq_true rfl) dX10_summed_8 (Nat.le_of_ble_eq_true rfl) (Nat.le_of_ble_eq_true rfl) (Nat.le_refl _) (m_refSum_n (hHas_sub nd (as' := [m, m + 14]) (cs' := [(oC 10 (mF m 0 tr pl (nI tp) sz sp fa fl tk ta sg nu wd (nI P.1) (nI P.2.1) rl rw ht sd ah cl)), (aI 11 fr)]) [0, 1] rfl rfl) hRm ?_)
  refine w_istore_n (ls2 := [some (.ref m), some (.int y1), some (.int y), some (.int 1)]) dX10_summed_11 (by decide) rfl rfl ?_
  refine w_iload_n dX10_summed_12 rfl ?_
  refine w_if_le_f (tgt := 24) dX10_summed_13 rfl (by decide) ?_
  refine w_aload_n dX10_summed_16 rfl ?_
  refine w_iload_n dX10_summed_17 rfl ?_
  refine w_callV (ci := 10) (d' := d + 1) (mc' := 0) (ms' := 0) (As := [.int 1]) (st := []) lX10_228 vX10_refused rfl (hUs_at nd 0 rfl rfl) rfl (Nat.le_of_ble_eq_true rfl) dX10_summed_18 (Nat.le_of_ble_eq_true rfl) (Nat.le_of_ble_eq_true rfl) (Nat.le_refl _) (m_refused (hHas_sub nd (as' := [m]) (cs' := [(oC 10 (mF m 0 tr pl (nI tp) sz sp fa fl tk ta sg nu wd (nI P.1) (nI P.2.1) rl rw ht sd ah cl))]) [0] rfl rfl) (nd_sub nd (as' := [m]) [0] rfl rfl)  ?_)
  refine w_heq (hUs_in nd rfl [0] (cs2 := [(oC 10 (mF m 0 1 (-1) (nI tp) sz sp fa fl tk ta sg nu wd (nI P.1) (nI P.2.1) rl rw ht sd ah cl)), (aI 11 fr)]) rfl rfl) ?_
  refine w_goto (tgt := 34) dX10_summed_21 rfl ?_
  refine w_ireturn rfl dX10_summed_34 (Nat.le_of_ble_eq_true rfl) (Nat.le_of_ble_eq_true rfl) ?_
  have e : oSum P none y1 y = ((-1), 1) := by
    rfl
  rw [e] at k
  exact k _ (mI_i (cI_put hW (mAs_nd m) rfl [0, 14] (cs2 := [(oC 10 (mF m 0 1 (-1) (nI tp) sz sp fa fl tk ta sg nu wd (nI P.1) (nI P.2.1) rl rw ht sd ah cl)), (aI 600 gt), (aL 8 ln), (aL 8 wn), (aI 8 fs), (aI 24 ff), (aI 8 fb), (aI 8 fn), (aI 8 fp), (aZ 8 f3), (aI 64 fk), (aI 64 fx), (aI 64 fy), (aI 64 fc), (aI 11 fr), (aI 11 f1), (aI 11 f2), (aI 22 fi), (aB 4096 fo), (aB 8192 fq), (aZ 2 fh), (aI 2 fj), (aI 4096 fw), (aI 2100 fz)]) rfl rfl) hT hPm hG hRm hm0 hm1 hsd hht htp) (mFr_of (by intro a ha; simp only [List.mem_cons, List.not_mem_nil, or_false] at ha; omega))
set_option maxRecDepth 100000 in
set_option maxHeartbeats 4000000 in
theorem q_summed_s {G : wG} {d : Nat} {h : hH} {Q : Option Value → hH → Prop} {m : Nat} {ft : Nat → Int32} {tp : Nat} {P : pD} {ht : Int32} {i0 i1 : imD} {sd fa pl tr : Int32} {th : Int32}  {l w c : Nat} {rs : Int32} {y1 y : Int32} (hI : mI h m ft tp P ht (some (l, w, rs, c)) i0 i1 sd fa pl tr th)  (k : ∀ h2, mI h2 m ft tp P ht (some (l, w, rs, c)) i0 i1 sd fa (-1) (oSum P (some (l, w, rs, c)) y1 y).2 0 → mFr m h h2 → Q (some (.int (oSum P (some (l, w, rs, c)) y1 y).1)) h2) : Cl G yX10_summed (d + 2) 0 0 [.ref m, .int y1, .int y] h Q := by
  refine mI_e hI ?_
  intro sz sp fl tk ta sg nu wd rl rw ah cl gt ln wn fs ff fb fn fp f3 fk fx fy fc fr f1 f2 fi fo fq fh fj fw fz hW hT hPm hG hRm hm0 hm1 hsd hht htp
  have hnL : P.1 ≤ 4096 := Nat.le_trans hG.2.2.1 (by decide)
  have hnW : P.2.1 ≤ 4096 := Nat.le_trans hG.2.2.2 (by decide)
  have hhL : (ht = 0 ∧ P.1 = 0) ∨ ht = 1 := hht.imp (fun z => ⟨z.1, z.2.1⟩) id
  have hhW : (ht = 0 ∧ P.2.1 = 0) ∨ ht = 1 := hht.imp (fun z => ⟨z.1, z.2.2⟩) id
  obtain ⟨hht1, hok, hsr, hrn, hsz, hfo⟩ : ht = 1 ∧ mRr P (l, w, rs, c) fr fo := id hRm
  have hl : l < P.1 := hok.1
  have hwv9 : w < P.2.1 := hok.2.1
  have hc4 : c ≤ 4096 := hok.2.2
  have hl4 : l < 4 := Nat.lt_of_lt_of_le hl hG.2.2.1
  have hl31 : l < 2 ^ 31 := by omega
  have hLp := hPm.1 l hl
  rw [Nat.zero_add] at hLp
  have hGl := hG.1 l hl
  have hrc : fr 2 = nI c := hrn.2.2.1
  have hw : hHas h [m, m + 14] [(oC 10 (mF m th tr pl (nI tp) sz sp fa fl tk ta sg nu wd (nI P.1) (nI P.2.1) rl rw ht sd ah cl)), (aI 11 fr)] := hHas_s hW [0, 14] rfl rfl
  have nd : [m, m + 14].Nodup := (nd_inc ⟨by omega, trivial⟩)
  refine Cl.of (ini := false) kX10_summed (plainFor_of_name (by decide)) (by decide) (Nat.le_of_ble_eq_true rfl) rfl rfl (fun z => by cases z) ?_
  refine w_heq (hUs_id hw).symm ?_
  refine w_aload_n dX10_summed_0 rfl ?_
  refine w_iconst (v := 0) dX10_summed_1 (by decide) ?_
  refine w_put (fs' := (mF m 0 tr pl (nI tp) sz sp fa fl tk ta sg nu wd (nI P.1) (nI P.2.1) rl rw ht sd ah cl)) fX10_89 (hUs_at nd 0 rfl rfl) rfl rfl (Nat.le_of_ble_eq_true rfl) rfl dX10_summed_2 ?_
  refine w_heq (hUs_set nd rfl 0 (cs' := [(oC 10 (mF m 0 tr pl (nI tp) sz sp fa fl tk ta sg nu wd (nI P.1) (nI P.2.1) rl rw ht sd ah cl)), (aI 11 fr)]) rfl rfl) ?_
  refine w_aload_n dX10_summed_5 rfl ?_
  refine w_iload_n dX10_summed_6 rfl ?_
  refine w_iload_n dX10_summed_7 rfl ?_
  refine w_callV (ci := 10) (d' := d + 1) (mc' := 0) (ms' := 0) (As := [.int y1, .int y]) (st := []) lX10_308 vX10_refusesSummed rfl (hUs_at nd 0 rfl rfl) rfl (Nat.le_of_ble_eq_true rfl) dX10_summed_8 (Nat.le_of_ble_eq_true rfl) (Nat.le_of_ble_eq_true rfl) (Nat.le_refl _) (m_refSum_s (hHas_sub nd (as' := [m, m + 14]) (cs' := [(oC 10 (mF m 0 tr pl (nI tp) sz sp fa fl tk ta sg nu wd (nI P.1) (nI P.2.1) rl rw ht sd ah cl)), (aI 11 fr)]) [0, 1] rfl rfl) hht1 hrn hl31 ?_)
  refine w_istore_n (ls2 := [some (.ref m), some (.int y1), some (.int y), some (.int (if smB y1 y = 0 then 2 else 0))]) dX10_summed_11 (by decide) rfl rfl ?_
  refine w_iload_n dX10_summed_12 rfl ?_
  refine w_if_le (tgt := 24) dX10_summed_13 rfl (fun b13 => ?_) (fun b13 => ?_)
  · have hsm := rs_le.mp b13
    obtain ⟨M, Y, hM, hY, hY2, rfl, rfl⟩ := smB_n hsm
    have hMc : tN (nI M) = M := nI_clamp (by omega)
    have hYc : tN (nI Y) = Y := nI_clamp (by omega)
    have hMY : M * (Y - 1) ≤ 93 := Nat.le_trans (Nat.mul_le_mul hM (show Y - 1 ≤ 31 by omega)) (by decide)
    have hsl := smN_le (M := M) (c := c) hY
    refine w_aload_n dX10_summed_24 rfl ?_
    refine w_aload_n dX10_summed_25 rfl ?_
    refine w_iload_n dX10_summed_26 rfl ?_
    refine w_iload_n dX10_summed_27 rfl ?_
    refine w_callV (ci := 10) (d' := d + 1) (mc' := 0) (ms' := 0) (As := [.int (nI M), .int (nI Y)]) (st := [.ref m]) lX10_311 vX10_summedMany rfl (hUs_at nd 0 rfl rfl) rfl (Nat.le_of_ble_eq_true rfl) dX10_summed_28 (Nat.le_of_ble_eq_true rfl) (Nat.le_of_ble_eq_true rfl) (Nat.le_refl _) (m_summedMany (hHas_sub nd (as' := [m, m + 14]) (cs' := [(oC 10 (mF m 0 tr pl (nI tp) sz sp fa fl tk ta sg nu wd (nI P.1) (nI P.2.1) rl rw ht sd ah cl)), (aI 11 fr)]) [0, 1] rfl rfl) hrc hc4 (by omega) (by omega) (by omega) ?_)
    refine w_callV (ci := 10) (d' := d + 1) (mc' := 0) (ms' := 0) (As := [.int (nI (smN M Y c))]) (st := []) lX10_241 vX10_good rfl (hUs_at nd 0 rfl rfl) rfl (Nat.le_of_ble_eq_true rfl) dX10_summed_31 (Nat.le_of_ble_eq_true rfl) (Nat.le_of_ble_eq_true rfl) (Nat.le_refl _) (m_good (hHas_sub nd (as' := [m]) (cs' := [(oC 10 (mF m 0 tr pl (nI tp) sz sp fa fl tk ta sg nu wd (nI P.1) (nI P.2.1) rl rw ht sd ah cl))]) [0] rfl rfl) (nd_sub nd (as' := [m]) [0] rfl rfl)  ?_)
    refine w_heq (hUs_in nd rfl [0] (cs2 := [(oC 10 (mF m 0 0 (-1) (nI tp) sz sp fa fl tk ta sg nu wd (nI P.1) (nI P.2.1) rl rw ht sd ah cl)), (aI 11 fr)]) rfl rfl) ?_
    refine w_ireturn rfl dX10_summed_34 (Nat.le_of_ble_eq_true rfl) (Nat.le_of_ble_eq_true rfl) ?_
    have e : oSum P (some (l, w, rs, c)) (nI M) (nI Y) = (nI (smN M Y c), 0) := by
      simp only [oSum, oSumF]
      rw [if_neg hsm, hMc, hYc]
    rw [e] at k
    exact k _ (mI_i (cI_put hW (mAs_nd m) rfl [0, 14] (cs2 := [(oC 10 (mF m 0 0 (-1) (nI tp) sz sp fa fl tk ta sg nu wd (nI P.1) (nI P.2.1) rl rw ht sd ah cl)), (aI 600 gt), (aL 8 ln), (aL 8 wn), (aI 8 fs), (aI 24 ff), (aI 8 fb), (aI 8 fn), (aI 8 fp), (aZ 8 f3), (aI 64 fk), (aI 64 fx), (aI 64 fy), (aI 64 fc), (aI 11 fr), (aI 11 f1), (aI 11 f2), (aI 22 fi), (aB 4096 fo), (aB 8192 fq), (aZ 2 fh), (aI 2 fj), (aI 4096 fw), (aI 2100 fz)]) rfl rfl) hT hPm hG hRm hm0 hm1 hsd hht htp) (mFr_of (by intro a ha; simp only [List.mem_cons, List.not_mem_nil, or_false] at ha; omega))
  · have hsm0 : smB y1 y = 0 := Classical.byContradiction (fun z => b13 (rs_le.mpr z))
    rw [if_pos hsm0]
    refine w_aload_n dX10_summed_16 rfl ?_
    refine w_iload_n dX10_summed_17 rfl ?_
    refine w_callV (ci := 10) (d' := d + 1) (mc' := 0) (ms' := 0) (As := [.int 2]) (st := []) lX10_228 vX10_refused rfl (hUs_at nd 0 rfl rfl) rfl (Nat.le_of_ble_eq_true rfl) dX10_summed_18 (Nat.le_of_ble_eq_true rfl) (Nat.le_of_ble_eq_true rfl) (Nat.le_refl _) (m_refused (hHas_sub nd (as' := [m]) (cs' := [(oC 10 (mF m 0 tr pl (nI tp) sz sp fa fl tk ta sg nu wd (nI P.1) (nI P.2.1) rl rw ht sd ah cl))]) [0] rfl rfl) (nd_sub nd (as' := [m]) [0] rfl rfl)  ?_)
    refine w_heq (hUs_in nd rfl [0] (cs2 := [(oC 10 (mF m 0 2 (-1) (nI tp) sz sp fa fl tk ta sg nu wd (nI P.1) (nI P.2.1) rl rw ht sd ah cl)), (aI 11 fr)]) rfl rfl) ?_
    refine w_goto (tgt := 34) dX10_summed_21 rfl ?_
    refine w_ireturn rfl dX10_summed_34 (Nat.le_of_ble_eq_true rfl) (Nat.le_of_ble_eq_true rfl) ?_
    have e : oSum P (some (l, w, rs, c)) y1 y = ((-1), 2) := by
      simp only [oSum, oSumF]
      exact if_pos hsm0
    rw [e] at k
    exact k _ (mI_i (cI_put hW (mAs_nd m) rfl [0, 14] (cs2 := [(oC 10 (mF m 0 2 (-1) (nI tp) sz sp fa fl tk ta sg nu wd (nI P.1) (nI P.2.1) rl rw ht sd ah cl)), (aI 600 gt), (aL 8 ln), (aL 8 wn), (aI 8 fs), (aI 24 ff), (aI 8 fb), (aI 8 fn), (aI 8 fp), (aZ 8 f3), (aI 64 fk), (aI 64 fx), (aI 64 fy), (aI 64 fc), (aI 11 fr), (aI 11 f1), (aI 11 f2), (aI 22 fi), (aB 4096 fo), (aB 8192 fq), (aZ 2 fh), (aI 2 fj), (aI 4096 fw), (aI 2100 fz)]) rfl rfl) hT hPm hG hRm hm0 hm1 hsd hht htp) (mFr_of (by intro a ha; simp only [List.mem_cons, List.not_mem_nil, or_false] at ha; omega))
theorem q_summed {G : wG} {d : Nat} {h : hH} {Q : Option Value → hH → Prop} {m : Nat} {ft : Nat → Int32} {tp : Nat} {P : pD} {ht : Int32} {R : Option rnD} {i0 i1 : imD} {sd fa pl tr : Int32} {th : Int32}  {y1 y : Int32} (hI : mI h m ft tp P ht R i0 i1 sd fa pl tr th) (k : ∀ h2, mI h2 m ft tp P ht R i0 i1 sd fa (-1) (oSum P (R) y1 y).2 0 → mFr m h h2 → Q (some (.int (oSum P (R) y1 y).1)) h2) : Cl G yX10_summed (d + 2) 0 0 [.ref m, .int y1, .int y] h Q := by
  cases R with
  | none => exact q_summed_n hI k
  | some r => obtain ⟨l, w, rs, c⟩ := r; exact q_summed_s hI k
