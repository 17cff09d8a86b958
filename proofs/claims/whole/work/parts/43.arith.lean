/-! numbers: divisions downwards, the register, what is held -/
theorem sub_0 {a b : Int32} (h : a - b = 0) : a = b := by
  have : a = (a - b) + b := (Int32.sub_add_cancel a b).symm
  rw [h, Int32.zero_add] at this
  exact this
theorem toI_pos {y : Int32} (h : 0 < y) : 0 < y.toInt := Int32.lt_iff_toInt_lt.mp h
theorem dv_toInt {x y : Int32} (hy : 0 < y) : (x / y).toInt = x.toInt.tdiv y.toInt := Int32.toInt_div_of_ne_right x y (by intro e; subst e; exact absurd hy (by decide))
theorem bm_id {n : Int} (h1 : -2147483648 ≤ n) (h2 : n < 2147483648) : n.bmod (2 ^ 32) = n := Int.bmod_eq_of_le (by simpa using h1) (by simpa using h2)
theorem rm_toInt {x y : Int32} (hy : 0 < y) : (x - x / y * y).toInt = x.toInt.tmod y.toInt := by
  have h0 := toI_pos hy
  have h1 := y.toInt_lt
  rw [Int32.toInt_sub, Int32.toInt_mul, dv_toInt hy, Int.sub_bmod_bmod]
  have e : x.toInt - x.toInt.tdiv y.toInt * y.toInt = x.toInt.tmod y.toInt := by
    have := Int.tmod_add_mul_tdiv x.toInt y.toInt
    rw [Int.mul_comm] at this
    omega
  rw [e]
  have h2 := Int.tmod_lt_of_pos x.toInt h0
  exact bm_id (by
    have := Int.tmod_lt_of_pos (-x.toInt) h0
    rw [Int.neg_tmod] at this
    omega) (by omega)
/-- v / by, downwards, as the reference does it -/
def dnI (x y : Int32) : Int32 := if x - x / y * y < 0 then x / y - 1 else x / y
theorem dn_toInt {x y : Int32} (hy : 0 < y) : (dnI x y).toInt = x.toInt / y.toInt := by
  have h0 := toI_pos hy
  have hr := rm_toInt (x := x) hy
  have hq := dv_toInt (x := x) hy
  have hd := Int.tmod_add_mul_tdiv x.toInt y.toInt
  have hl := Int.tmod_lt_of_pos x.toInt h0
  have hl2 := Int.tmod_lt_of_pos (-x.toInt) h0
  rw [Int.neg_tmod] at hl2
  have hxl := x.le_toInt
  have hql := (x / y).le_toInt
  rw [hq] at hql
  unfold dnI
  by_cases e : x - x / y * y < 0
  · rw [if_pos e]
    have e1 : x.toInt.tmod y.toInt < 0 := by rw [← hr]; exact Int32.lt_iff_toInt_lt.mp e
    have e2 : ¬ x.toInt.tdiv y.toInt = -2147483648 := by
      intro z
      rw [z] at hd
      have : y.toInt = 1 := by omega
      rw [this] at e1
      rw [Int.tmod_one] at e1
      omega
    rw [Int32.toInt_sub, hq, show (1 : Int32).toInt = 1 from rfl, bm_id (by omega) (by
      have := (x / y).toInt_lt
      rw [hq] at this
      omega)]
    exact ((Int.ediv_emod_unique h0).mpr ⟨show (x.toInt.tmod y.toInt + y.toInt) + y.toInt * (x.toInt.tdiv y.toInt - 1) = x.toInt by rw [Int.mul_sub]; omega, by omega, by omega⟩).1.symm
  · rw [if_neg e, hq]
    have e1 : 0 ≤ x.toInt.tmod y.toInt := by
      have := fun z => e (Int32.lt_iff_toInt_lt.mpr z)
      rw [hr] at this
      exact Int.not_lt.mp this
    exact ((Int.ediv_emod_unique h0).mpr ⟨hd, e1, hl⟩).1.symm
theorem xr_pos {x y : Int32} (hy : 0 < y) : 0 ≤ x ^^^ y ↔ 0 ≤ x := by
  have h0 := toI_pos hy
  have e : decide ((x ^^^ y).toInt < 0) = decide (x.toInt < 0) := by
    rw [← Int32.toInt_toBitVec, ← BitVec.msb_eq_toInt, Int32.toBitVec_xor, BitVec.msb_xor, BitVec.msb_eq_toInt, BitVec.msb_eq_toInt, Int32.toInt_toBitVec, Int32.toInt_toBitVec]
    rw [show decide (y.toInt < 0) = false from decide_eq_false (by omega), Bool.xor_false]
  rw [decide_eq_decide] at e
  rw [Int32.le_iff_toInt_le, Int32.le_iff_toInt_le, show (0 : Int32).toInt = 0 from rfl]
  omega
theorem fdv_dn {x y : Int32} (hy : 0 < y) : fdvI x y = dnI x y := by
  have hr := rm_toInt (x := x) hy
  have h0 := toI_pos hy
  unfold fdvI dnI
  by_cases e : 0 ≤ x ^^^ y
  · rw [if_pos e, if_neg]
    rw [Int32.lt_iff_toInt_lt, hr, show (0 : Int32).toInt = 0 from rfl]
    have := Int.tmod_nonneg y.toInt (Int32.le_iff_toInt_le.mp ((xr_pos hy).mp e))
    omega
  · rw [if_neg e]
    have hx : x.toInt < 0 := by
      have := fun z => e ((xr_pos hy).mpr (Int32.le_iff_toInt_le.mpr z))
      exact Int.not_le.mp this
    have h3 := Int.tmod_nonneg y.toInt (show 0 ≤ -x.toInt by omega)
    rw [Int.neg_tmod] at h3
    by_cases e2 : x / y * y = x
    · rw [if_pos e2, if_neg]
      rw [e2, Int32.sub_self]; decide
    · rw [if_neg e2, if_pos]
      rw [Int32.lt_iff_toInt_lt, hr, show (0 : Int32).toInt = 0 from rfl]
      have : ¬ x.toInt.tmod y.toInt = 0 := by
        intro z
        rw [← hr] at z
        exact e2 (sub_0 (Int32.toInt_inj.mp z)).symm
      omega
theorem sh4_dn (x : Int32) : dnI x 16 = x >>> ((4 : Int32) &&& 31) := by
  apply Int32.toInt_inj.mp
  rw [dn_toInt (by decide)]
  show x.toInt / 16 = _
  have e : (x >>> ((4 : Int32) &&& 31)).toInt = x.toInt >>> 4 := by
    rw [← Int32.toInt_toBitVec, show (x >>> ((4 : Int32) &&& 31)).toBitVec = x.toBitVec.sshiftRight 4 from rfl, BitVec.toInt_sshiftRight, Int32.toInt_toBitVec]
  rw [e, Int.shiftRight_eq_div_pow]
  rfl
theorem neg_toInt {b : Int32} (h : 0 ≤ b) : (-b).toInt = -b.toInt := by
  have h0 := Int32.le_iff_toInt_le.mp h
  have h1 := b.toInt_lt
  rw [show (0 : Int32).toInt = 0 from rfl] at h0
  rw [Int32.toInt_neg, bm_id (by omega) (by omega)]
theorem hld_hi {bd x : Int32} (h : 0 < bd) (hx : bd < x) : hldF bd x = bd ∧ 0 < x ∧ ¬ bd = x := by
  have h0 := toI_pos h
  have hn := neg_toInt (Int32.le_of_lt h)
  have hx1 := Int32.lt_iff_toInt_lt.mp hx
  refine ⟨?_, Int32.lt_trans h hx, fun z => by rw [z] at hx; exact absurd hx (Int32.lt_irrefl)⟩
  unfold hldF mxI mnI
  rw [if_neg (show ¬ x < bd by rw [Int32.lt_iff_toInt_lt]; omega), if_pos (show -bd < bd by rw [Int32.lt_iff_toInt_lt]; omega)]
theorem hld_lo {bd x : Int32} (h : 0 < bd) (hx : x < -bd) : hldF bd x = -bd ∧ ¬ 0 < x ∧ ¬ -bd = x := by
  have h0 := toI_pos h
  have hn := neg_toInt (Int32.le_of_lt h)
  have hx1 := Int32.lt_iff_toInt_lt.mp hx
  refine ⟨?_, fun z => by have := Int32.lt_iff_toInt_lt.mp z; rw [show (0 : Int32).toInt = 0 from rfl] at this; omega, fun z => by rw [z] at hx; exact absurd hx (Int32.lt_irrefl)⟩
  unfold hldF mxI mnI
  rw [if_pos (show x < bd by rw [Int32.lt_iff_toInt_lt]; omega), if_neg (show ¬ -bd < x by rw [Int32.lt_iff_toInt_lt]; omega)]
theorem hld_in {bd x : Int32} (h : 0 < bd) (h1 : ¬ bd < x) (h2 : ¬ x < -bd) : hldF bd x = x := by
  have h0 := toI_pos h
  have hn := neg_toInt (Int32.le_of_lt h)
  rw [Int32.lt_iff_toInt_lt] at h1 h2
  have e1 : mnI bd x = x := by
    unfold mnI
    by_cases e : x < bd
    · rw [if_pos e]
    · rw [if_neg e]
      rw [Int32.lt_iff_toInt_lt] at e
      exact Int32.toInt_inj.mp (by omega)
  unfold hldF
  rw [e1]
  unfold mxI
  by_cases e : -bd < x
  · rw [if_pos e]
  · rw [if_neg e]
    rw [Int32.lt_iff_toInt_lt] at e
    exact Int32.toInt_inj.mp (by omega)
theorem odd_and {x : Int32} (h : 0 ≤ x) : x - x / 2 * 2 = x &&& 1 := by
  obtain ⟨n, hn, rfl⟩ := nI_of (Int32.not_lt.mpr h)
  rw [show (2 : Int32) = nI 2 from rfl, pk_rem hn (by decide) (by decide), pk_andN (m := 1) (by omega) 1 rfl]
theorem reg_in {r : Int32} (h0 : 0 ≤ r) (h1 : r ≤ 65535) : 0 ≤ regF r ∧ regF r ≤ 65535 := by
  obtain ⟨n, hn, rfl⟩ := in2 (m := 65535) (Int32.not_lt.mpr h0) h1 (by decide)
  unfold regF
  generalize (nI n ^^^ nI n >>> ((2 : Int32) &&& 31)) ^^^ nI n >>> ((3 : Int32) &&& 31) = z
  obtain ⟨j, hj, e⟩ := pk_andE (z ^^^ nI n >>> ((5 : Int32) &&& 31)) (m := 1) 1 rfl
  rw [e, show (2 : Int32) = nI 2 from rfl, pk_div (by omega) (by decide) (by decide), show (32768 : Int32) = nI 32768 from rfl, pk_mul, nI_add]
  have h2 : n / 2 + 32768 * j ≤ 65535 := by omega
  exact ⟨nI_pos' (by omega), (nI_leI (b := 65535) (by omega) (by decide)).mpr h2⟩
theorem fmd_nn {x y : Int32} (hx : 0 ≤ x) (hy : 0 < y) : fmdI x y = x - x / y * y := if_pos ((xr_pos hy).mpr hx)
theorem mx_if (a b : Int32) : (if a < b then b else a) = mxI a b := rfl
theorem ab_if (a : Int32) : (if 0 ≤ a then a else -a) = abI a := rfl
