theorem likF_c {f g : Nat → Int32} {c A B n : Nat} (h : ∀ t, t < c → f t = g t) (hB : B < c) : likF f A B n = likF g A B n := by
  unfold likF
  exact fld_c A _ _ (fun t h1 h2 => by funext s; rw [h t (by omega), h (t + n) (by omega)])
theorem bstF_c {f g : Nat → Int32} {c A B : Nat} (h : ∀ t, t < c → f t = g t) (hB : B < c) (t : Nat) : bstF f A B t = bstF g A B t := by
  funext s
  unfold bstF
  rw [likF_c h hB]
theorem nthF_c {f g : Nat → Int32} {c : Nat} (h : ∀ t, t < c → f t = g t) (v k : Int32) : ∀ (n t : Nat) (s : Int32), t + n ≤ c → nthF f v k n t s = nthF g v k n t s
  | 0, _, _, _ => rfl
  | n + 1, t, s, e => by rw [nthF, nthF, h t (by omega), nthF_c h v k n (t + 1) (s + 1) (by omega), nthF_c h v k n (t + 1) s (by omega)]
theorem mxI1_ne (x : Int32) : ¬ mxI 1 x = 0 := by
  unfold mxI
  split
  · rename_i z; intro e; rw [e] at z; exact absurd z (by decide)
  · decide
theorem in3 {y : Int32} {m : Nat} (h0 : ¬ y < 0) (h1 : y < nI m) (hm : m < 2 ^ 31) : ∃ w, w < m ∧ y = nI w := by
  obtain ⟨j, hj, rfl⟩ := nI_of h0
  exact ⟨j, (nI_ltI hj hm).mp h1, rfl⟩
theorem smB_n {m y : Int32} (h : ¬ smB m y = 0) : ∃ M Y, M ≤ 3 ∧ 2 ≤ Y ∧ Y ≤ 32 ∧ m = nI M ∧ y = nI Y := by
  unfold smB at h
  by_cases e : (1 ≤ m ∧ m ≤ 3) ∧ 2 ≤ y ∧ y ≤ 32
  · obtain ⟨⟨e1, e2⟩, e3, e4⟩ := e
    obtain ⟨M, hM, rfl⟩ := in2 (m := 3) (fun z => absurd (Int32.lt_of_lt_of_le z (by decide)) (Int32.not_lt.mpr e1)) e2 (by decide)
    obtain ⟨Y, hY, rfl⟩ := in2 (m := 32) (fun z => absurd (Int32.lt_of_lt_of_le z (by decide)) (Int32.not_lt.mpr e3)) e4 (by decide)
    exact ⟨M, Y, hM, (nI_leI (a := 2) (b := Y) (by omega) (by omega)).mp e3, hY, rfl, rfl⟩
  · rw [if_neg e] at h; exact absurd rfl h
