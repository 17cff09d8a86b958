/-- how many letters a name has; its first i letters, as the reference packs them -/
def dgs : Nat → Nat → Nat
  | 0, _ => 0
  | k + 1, v => if v = 0 then 0 else dgs k (v / 32) + 1
def acN (N : Nat) : Nat → Nat
  | 0 => 0
  | i + 1 => acN N i * 32 + N / 32 ^ i % 32
theorem dv_s (N i : Nat) : N / 32 ^ i / 32 = N / 32 ^ (i + 1) := by
  rw [Nat.div_div_eq_div_mul, Nat.pow_succ]
theorem nmN_ac (N : Nat) : ∀ (k i : Nat), nmN k (N / 32 ^ i) (acN N i) = acN N (i + dgs k (N / 32 ^ i))
  | 0, i => rfl
  | k + 1, i => by
    rw [nmN, dgs]
    by_cases e : N / 32 ^ i = 0
    · rw [if_pos e, if_pos e]; rfl
    · rw [if_neg e, if_neg e, dv_s]
      have := nmN_ac N k (i + 1)
      rw [show acN N i * 32 + N / 32 ^ i % 32 = acN N (i + 1) from rfl, this]
      congr 1; omega
theorem acN_lt (N : Nat) : ∀ i, acN N i < 32 ^ i
  | 0 => Nat.zero_lt_one
  | i + 1 => by
    have := acN_lt N i
    have h : N / 32 ^ i % 32 < 32 := Nat.mod_lt _ (by decide)
    rw [acN, Nat.pow_succ]
    omega
theorem acN_dv (N i : Nat) : acN N (i + 1) / 32 = acN N i := by
  have h : N / 32 ^ i % 32 < 32 := Nat.mod_lt _ (by decide)
  rw [acN]; omega
theorem acN_md (N i : Nat) : acN N (i + 1) % 32 = N / 32 ^ i % 32 := by
  have h : N / 32 ^ i % 32 < 32 := Nat.mod_lt _ (by decide)
  rw [acN]; omega
theorem acN_pos {N : Nat} (h : 1 ≤ N % 32) : ∀ i, 0 < acN N (i + 1)
  | 0 => by
    rw [acN, acN, Nat.pow_zero, Nat.div_one]; omega
  | i + 1 => by
    have := acN_pos h i
    rw [acN]; omega
theorem dgs_le : ∀ (k v : Nat), dgs k v ≤ k
  | 0, _ => Nat.le_refl _
  | k + 1, v => by
    rw [dgs]
    split
    · omega
    · have := dgs_le k (v / 32); omega
/-- a letter for each place below the length, none from there on -/
theorem nmG_dg : ∀ (k v : Nat), nmG k v → ∀ j, (j < dgs k v → 1 ≤ v / 32 ^ j % 32 ∧ v / 32 ^ j % 32 ≤ 26) ∧ (dgs k v ≤ j → v / 32 ^ j = 0)
  | 0, v, h, j => ⟨fun z => absurd z (Nat.not_lt_zero j), fun _ => by
    have h0 : v = 0 := h
    rw [h0, Nat.zero_div]⟩
  | k + 1, v, h, j => by
    rw [dgs]
    by_cases e : v = 0
    · rw [if_pos e]
      exact ⟨fun z => absurd z (Nat.not_lt_zero j), fun _ => by rw [e, Nat.zero_div]⟩
    · rw [if_neg e]
      have h2 := h.resolve_left e
      cases j with
      | zero =>
        rw [Nat.pow_zero, Nat.div_one]
        exact ⟨fun _ => h2.1, fun z => absurd z (by omega)⟩
      | succ j =>
        have ih := nmG_dg k (v / 32) h2.2 j
        rw [Nat.div_div_eq_div_mul, Nat.mul_comm, ← Nat.pow_succ] at ih
        exact ⟨fun z => ih.1 (by omega), fun z => ih.2 (by omega)⟩
theorem nmX_ac {N : Nat} (h : N < 2 ^ 30) : nmX (nI N) = Int64.ofNat (acN N (dgs 6 N)) := by
  have e := nmN_ac N 6 0
  rw [Nat.pow_zero, Nat.div_one, Nat.zero_add] at e
  rw [nmX, show tN (nI N) = N from nI_clamp (by omega)]
  exact congrArg Int64.ofNat e
theorem i64_toInt {a : Nat} (h : a < 2 ^ 30) : (Int64.ofNat a).toInt = a := by
  rw [Int64.toInt_ofNat', show Int64.size = 18446744073709551616 from rfl]
  exact Int.bmod_eq_of_le (by omega) (by omega)
theorem i64_dv {a : Nat} (h : a < 2 ^ 30) : Int64.ofNat a / 32 = Int64.ofNat (a / 32) := by
  apply Int64.toInt_inj.mp
  rw [Int64.toInt_div, i64_toInt h, i64_toInt (by omega), show (32 : Int64).toInt = 32 from rfl, show ((a : Int).tdiv 32) = ((a / 32 : Nat) : Int) from rfl]
  exact Int.bmod_eq_of_le (by omega) (by omega)
theorem i64_pos {a : Nat} (h : a < 2 ^ 30) : 0 < Int64.ofNat a ↔ 0 < a := by
  rw [Int64.lt_iff_toInt_lt, i64_toInt h, show (0 : Int64).toInt = 0 from rfl]
  omega
theorem i64_md {a : Nat} (h : a < 2 ^ 30) : (Int64.ofNat a % 32).toInt32 = nI (a % 32) := by
  have e : Int64.ofNat a % 32 = Int64.ofNat (a % 32) := by
    apply Int64.toInt_inj.mp
    rw [Int64.toInt_mod, i64_toInt h, i64_toInt (by omega), show (32 : Int64).toInt = 32 from rfl]
    rfl
  rw [e]
  apply Int32.toInt_inj.mp
  rw [Int64.toInt_toInt32, i64_toInt (by omega), show nI (a % 32) = Int32.ofNat (a % 32) from rfl, Int32.toInt_ofNat']
