/-! bytes and words -/
theorem u_toInt (b : Int32) : (b &&& 255).toInt = b.toInt % 256 := by
  have e : b.toBitVec.toNat % 256 = (b.toInt % 256).toNat := by
    have h1 := BitVec.toInt_eq_toNat_bmod b.toBitVec
    rw [Int32.toInt_toBitVec] at h1
    have h2 : b.toInt % 256 = ((b.toBitVec.toNat : Int)) % 256 := by
      rw [h1, Int.bmod_def]
      split <;> omega
    omega
  rw [pk_and b 8 rfl]
  show (nI (b.toBitVec.toNat % 256)).toInt = _
  rw [nI_toInt (by omega), e]
  omega
theorem by_in {b c d : Int32} (h1 : -128 ≤ b) (h2 : b ≤ 127) (hc : 0 ≤ c) (hd : d ≤ 127) : (c ≤ b &&& 255 ∧ b &&& 255 ≤ d) ↔ (c ≤ b ∧ b ≤ d) := by
  rw [Int32.le_iff_toInt_le] at h1 h2 hc hd
  rw [Int32.le_iff_toInt_le, Int32.le_iff_toInt_le, Int32.le_iff_toInt_le, Int32.le_iff_toInt_le, u_toInt]
  have e1 : (-128 : Int32).toInt = -128 := rfl
  have e2 : (127 : Int32).toInt = 127 := rfl
  have e3 : (0 : Int32).toInt = 0 := rfl
  omega
theorem by_id {b : Int32} (h1 : 0 ≤ b) (h2 : b ≤ 127) : b &&& 255 = b := by
  apply Int32.toInt_inj.mp
  rw [Int32.le_iff_toInt_le] at h1 h2
  rw [u_toInt]
  have e2 : (127 : Int32).toInt = 127 := rfl
  have e3 : (0 : Int32).toInt = 0 := rfl
  omega
theorem by_eq {b c : Int32} (h1 : -128 ≤ b) (h2 : b ≤ 127) (hc : 0 ≤ c) (hd : c ≤ 127) : b &&& 255 = c ↔ b = c := by
  rw [← Int32.toInt_inj, ← Int32.toInt_inj (x := b), u_toInt]
  rw [Int32.le_iff_toInt_le] at h1 h2 hc hd
  have e1 : (-128 : Int32).toInt = -128 := rfl
  have e2 : (127 : Int32).toInt = 127 := rfl
  have e3 : (0 : Int32).toInt = 0 := rfl
  omega
/-- just k letters -/
def nmD : Nat → Nat → Prop
  | 0, N => N = 0
  | k + 1, N => (1 ≤ N % 32 ∧ N % 32 ≤ 26) ∧ nmD k (N / 32)
theorem nm_top : ∀ (k N : Nat), nmD (k + 1) N → ∃ M d, N = M + d * 32 ^ k ∧ nmD k M ∧ 1 ≤ d ∧ d ≤ 26
  | 0, N, h => ⟨0, N, by omega, rfl, by have h1 := h.1; have h2 : N / 32 = 0 := h.2; omega, by have h1 := h.1; have h2 : N / 32 = 0 := h.2; omega⟩
  | k + 1, N, h => by
    obtain ⟨M, d, h1, h2, h3, h4⟩ := nm_top k (N / 32) h.2
    refine ⟨N % 32 + 32 * M, d, ?_, ?_, h3, h4⟩
    · have e : 32 ^ (k + 1) = 32 * 32 ^ k := by rw [Nat.pow_succ, Nat.mul_comm]
      have e2 : d * 32 ^ (k + 1) = 32 * (d * 32 ^ k) := by rw [e, Nat.mul_left_comm]
      rw [e2]
      omega
    · have a1 : (N % 32 + 32 * M) % 32 = N % 32 := by omega
      have a2 : (N % 32 + 32 * M) / 32 = M := by omega
      exact ⟨by rw [a1]; exact h.1, by rw [a2]; exact h2⟩
theorem nmD_lt : ∀ (k N : Nat), nmD k N → N < 32 ^ k
  | 0, N, h => by have h1 : N = 0 := h; omega
  | k + 1, N, h => by
    have ih := nmD_lt k (N / 32) h.2
    have e : 32 ^ (k + 1) = 32 * 32 ^ k := by rw [Nat.pow_succ, Nat.mul_comm]
    omega
theorem nm_push : ∀ (k N d a : Nat), nmD k N → 1 ≤ d → d ≤ 26 → nmD (k + 1) (N + d * 32 ^ k) ∧ nmN (k + 1) (N + d * 32 ^ k) a = nmN k N a * 32 + d
  | 0, N, d, a, h, h1, h2 => by
    have z : N = 0 := h
    subst z
    have e : 0 + d * 32 ^ 0 = d := by omega
    rw [e]
    refine ⟨⟨by omega, show d / 32 = 0 by omega⟩, ?_⟩
    simp only [nmN]
    rw [if_neg (by omega), show d % 32 = d by omega]
  | k + 1, N, d, a, h, h1, h2 => by
    have e : 32 ^ (k + 1) = 32 * 32 ^ k := by rw [Nat.pow_succ, Nat.mul_comm]
    have e2 : d * 32 ^ (k + 1) = 32 * (d * 32 ^ k) := by rw [e, Nat.mul_left_comm]
    have a1 : (N + d * 32 ^ (k + 1)) % 32 = N % 32 := by rw [e2]; omega
    have a2 : (N + d * 32 ^ (k + 1)) / 32 = N / 32 + d * 32 ^ k := by rw [e2]; omega
    have ih := nm_push k (N / 32) d (a * 32 + N % 32) h.2 h1 h2
    refine ⟨⟨by rw [a1]; exact h.1, by rw [a2]; exact ih.1⟩, ?_⟩
    have hN : ¬ N = 0 := fun z => by have := h.1; omega
    have hN2 : ¬ N + d * 32 ^ (k + 1) = 0 := by omega
    rw [nmN, if_neg hN2, a1, a2, ih.2, nmN, if_neg hN]
theorem nm_fuel : ∀ (k K N a : Nat), nmD k N → k ≤ K → nmN K N a = nmN k N a
  | 0, K, N, a, h, _ => by
    have z : N = 0 := h
    subst z
    cases K with
    | zero => rfl
    | succ K => simp only [nmN, if_true]
  | k + 1, K, N, a, h, hK => by
    obtain ⟨K, rfl⟩ : ∃ j, K = j + 1 := ⟨K - 1, by omega⟩
    have hN : ¬ N = 0 := fun z => by have := h.1; omega
    rw [nmN, if_neg hN, nmN, if_neg hN]
    exact nm_fuel k K (N / 32) _ h.2 (by omega)
theorem nmD_G : ∀ (k K N : Nat), nmD k N → k ≤ K → nmG K N
  | 0, 0, N, h, _ => h
  | 0, K + 1, N, h, _ => Or.inl h
  | k + 1, 0, N, h, hK => absurd hK (by omega)
  | k + 1, K + 1, N, h, hK => Or.inr ⟨h.1, nmD_G k K (N / 32) h.2 (by omega)⟩
theorem nmG_D : ∀ (K N : Nat), nmG K N → ∃ k, k ≤ K ∧ nmD k N
  | 0, N, h => ⟨0, Nat.le_refl _, h⟩
  | K + 1, N, h => by
    rcases h with h | h
    · exact ⟨0, Nat.zero_le _, h⟩
    · obtain ⟨k, h1, h2⟩ := nmG_D K (N / 32) h.2
      exact ⟨k + 1, by omega, h.1, h2⟩
theorem nm_inj : ∀ (k l M N : Nat), nmD k M → nmD l N → nmN k M 0 = nmN l N 0 → k = l ∧ M = N
  | 0, 0, M, N, h1, h2, _ => ⟨rfl, by have a : M = 0 := h1; have b : N = 0 := h2; omega⟩
  | 0, l + 1, M, N, h1, h2, e => by
    obtain ⟨A, d, a1, a2, a3, a4⟩ := nm_top l N h2
    rw [a1, (nm_push l A d 0 a2 a3 a4).2, nmN] at e
    omega
  | k + 1, 0, M, N, h1, h2, e => by
    obtain ⟨A, d, a1, a2, a3, a4⟩ := nm_top k M h1
    rw [a1, (nm_push k A d 0 a2 a3 a4).2, nmN] at e
    omega
  | k + 1, l + 1, M, N, h1, h2, e => by
    obtain ⟨A, d, a1, a2, a3, a4⟩ := nm_top k M h1
    obtain ⟨B, c, b1, b2, b3, b4⟩ := nm_top l N h2
    rw [a1, b1, (nm_push k A d 0 a2 a3 a4).2, (nm_push l B c 0 b2 b3 b4).2] at e
    have e1 : d = c := by omega
    obtain ⟨f1, f2⟩ := nm_inj k l A B a2 b2 (by omega)
    subst f1; subst f2; subst e1
    exact ⟨rfl, a1.trans b1.symm⟩
theorem nm_le : ∀ (k N a K : Nat), a < 32 ^ K → nmN k N a < 32 ^ (K + k)
  | 0, N, a, K, h => h
  | k + 1, N, a, K, h => by
    rw [nmN]
    split
    · exact Nat.lt_of_lt_of_le h (Nat.pow_le_pow_right (by decide) (by omega))
    · have e : 32 ^ (K + 1) = 32 * 32 ^ K := by rw [Nat.pow_succ, Nat.mul_comm]
      have := nm_le k (N / 32) (a * 32 + N % 32) (K + 1) (by omega)
      rw [show K + (k + 1) = K + 1 + k by omega]
      exact this
theorem nmX_inj {a b : Int32} (ha : nmOk a) (hb : nmOk b) (h : nmX a = nmX b) : a = b := by
  obtain ⟨M, rfl, m1, m2, m3⟩ := ha
  obtain ⟨N, rfl, n1, n2, n3⟩ := hb
  obtain ⟨k, k1, k2⟩ := nmG_D 6 M m3
  obtain ⟨l, l1, l2⟩ := nmG_D 6 N n3
  unfold nmX at h
  rw [show tN (nI M) = M from nI_clamp (by omega), show tN (nI N) = N from nI_clamp (by omega)] at h
  have b1 := nm_le 6 M 0 0 (by decide)
  have b2 := nm_le 6 N 0 0 (by decide)
  have h2 : nmN 6 M 0 = nmN 6 N 0 := by
    have h3 := congrArg Int64.toInt h
    rw [Int64.toInt_ofNat_of_lt (by omega), Int64.toInt_ofNat_of_lt (by omega)] at h3
    omega
  rw [nm_fuel k 6 M 0 k2 k1, nm_fuel l 6 N 0 l2 l1] at h2
  rw [(nm_inj k l M N k2 l2 h2).2]
theorem nI_or {a b : Nat} (ha : a < 2 ^ 32) (hb : b < 2 ^ 32) (hc : a ||| b < 2 ^ 32) : nI a ||| nI b = nI (a ||| b) := by
  apply Int32.toBitVec_inj.mp
  apply BitVec.eq_of_toNat_eq
  rw [Int32.toBitVec_or, BitVec.toNat_or, pk_tn ha, pk_tn hb, pk_tn hc]
theorem or_push {N d c : Nat} (hc : c < 6) (hN : N < 32 ^ c) (hd : d ≤ 31) : nI N ||| (nI d <<< (nI (5 * c) &&& 31)) = nI (N + d * 32 ^ c) := by
  have e : 32 ^ c = 2 ^ (5 * c) := by rw [Nat.pow_mul]
  have hs : ((nI (5 * c) &&& 31).toBitVec.smod 32).toNat = 5 * c := by
    rcases (show c = 0 ∨ c = 1 ∨ c = 2 ∨ c = 3 ∨ c = 4 ∨ c = 5 by omega) with rfl | rfl | rfl | rfl | rfl | rfl <;> decide
  have hp : 2 ^ (5 * c) ≤ 2 ^ 25 := Nat.pow_le_pow_right (by decide) (by omega)
  have hm : d * 2 ^ (5 * c) ≤ 31 * 2 ^ 25 := Nat.mul_le_mul hd hp
  rw [e] at hN ⊢
  rw [pk_shlN _ (5 * c) hs (by omega)]
  have ho : N ||| d * 2 ^ (5 * c) = N + d * 2 ^ (5 * c) := by
    rw [Nat.or_comm, Nat.mul_comm, ← Nat.two_pow_add_eq_or_of_lt hN d, Nat.add_comm]
  rw [nI_or (by omega) (by omega) (by omega), ho]
/-- the letters so far, on both sides -/
def wRl (c : Nat) (v : Int32) (wd : Int64) : Prop := ∃ N, v = nI N ∧ nmD (min c 6) N ∧ wd = Int64.ofNat (nmN (min c 6) N 0)
theorem wRl_0 : wRl 0 0 0 := ⟨0, rfl, rfl, rfl⟩
theorem wRl_s {c u : Nat} {v : Int32} {wd : Int64} (h : wRl c v wd) (hc : c < 6) (h1 : 97 ≤ u) (h2 : u ≤ 122) : wRl (c + 1) (v ||| ((nI u - 97 + 1) <<< (nI (5 * c) &&& 31))) (wd * 32 + (nI u).toInt64 - 97 + 1) := by
  obtain ⟨N, rfl, n1, rfl⟩ := h
  rw [show min c 6 = c by omega] at n1 ⊢
  have hp := nm_push c N (u - 96) 0 n1 (by omega) (by omega)
  have hN := nmD_lt c N n1
  have e1 : nI u - 97 + 1 = nI (u - 96) := by
    rw [show (97 : Int32) = nI 97 from rfl, pk_sub (by omega), nI_1, show u - 97 + 1 = u - 96 by omega]
  refine ⟨N + (u - 96) * 32 ^ c, ?_, ?_, ?_⟩
  · rw [e1, or_push hc hN (by omega)]
  · rw [show min (c + 1) 6 = c + 1 by omega]; exact hp.1
  · rw [show min (c + 1) 6 = c + 1 by omega, hp.2, nI_l (by omega)]
    show lN (nmN c N 0) * lN 32 + lN u - lN 97 + lN 1 = lN (nmN c N 0 * 32 + (u - 96))
    rw [lN_mul, lN_add, lN_sub (by omega), lN_add]
    congr 1
    omega
theorem wRl_ok {c : Nat} {v : Int32} {wd : Int64} (h : wRl c v wd) (h1 : 1 ≤ c) (h2 : c ≤ 6) : nmOk v ∧ wd = nmX v := by
  obtain ⟨N, rfl, n1, rfl⟩ := h
  rw [show min c 6 = c by omega] at n1 ⊢
  have hN := nmD_lt c N n1
  have hp : (32 : Nat) ^ c ≤ 32 ^ 6 := Nat.pow_le_pow_right (by decide) h2
  have h0 : 0 < N := by
    obtain ⟨k, rfl⟩ : ∃ k, c = k + 1 := ⟨c - 1, by omega⟩
    have := n1.1
    omega
  refine ⟨⟨N, rfl, by omega, h0, nmD_G c 6 N n1 h2⟩, ?_⟩
  unfold nmX
  rw [show tN (nI N) = N from nI_clamp (by omega), nm_fuel c 6 N 0 n1 h2]
