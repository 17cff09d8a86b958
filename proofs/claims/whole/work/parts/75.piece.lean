theorem isW_1 {kd vl : Int32} {bs : List Int32} {n : Nat} (h : ¬ isW kd vl bs n = 0) : kd = 1 ∧ vl = pkF bs n := by
  unfold isW at h
  by_cases e : kd = 1 ∧ vl = pkF bs n
  · exact e
  · rw [if_neg e] at h; exact absurd rfl h
theorem isW_no {kd vl : Int32} {bs cs : List Int32} {n m : Nat} (h : ¬ isW kd vl bs n = 0) (hn : ¬ pkF bs n = pkF cs m) : isW kd vl cs m = 0 := by
  unfold isW
  rw [if_neg (fun z => hn ((isW_1 h).2.symm.trans z.2))]
/-- a piece more, in the reference's rows -/
def pcO (l q : Nat) (f g : Nat → Int32) : Prop := ∀ j, ¬ j = 8 * l + q → g j = f j
theorem pcO_u {l q : Nat} {f : Nat → Int32} {x : Int32} : pcO l q f (upd f (8 * l + q) x) := fun j hj => pk_un hj
theorem wAt_px {W : wP} {kd a b c : Int32} {g : Nat} {fk fx fy fc gk gx gy gc : Nat → Int32} (h : wAt W g fk fx fy fc) (h1 : ∀ j, ¬ j = g + W.2.2.2.2.1 → gk j = fk j) (h2 : ∀ j, ¬ j = g + W.2.2.2.2.1 → gx j = fx j) (h3 : ∀ j, ¬ j = g + W.2.2.2.2.1 → gy j = fy j) (h4 : ∀ j, ¬ j = g + W.2.2.2.2.1 → gc j = fc j) (e1 : gk (g + W.2.2.2.2.1) = kd) (e2 : gx (g + W.2.2.2.2.1) = a) (e3 : ¬ kd = 0 → gy (g + W.2.2.2.2.1) = b) (e4 : gc (g + W.2.2.2.2.1) = c) : wAt (wPx W kd a b c) g gk gx gy gc := by
  intro p hp
  have hp' : p < W.2.2.2.2.1 + 1 := hp
  show gk (g + p) = upd W.1 W.2.2.2.2.1 kd p ∧ gx (g + p) = upd W.2.1 W.2.2.2.2.1 a p ∧ gc (g + p) = upd W.2.2.2.1 W.2.2.2.2.1 c p ∧ (¬ upd W.1 W.2.2.2.2.1 kd p = 0 → gy (g + p) = upd W.2.2.1 W.2.2.2.2.1 b p)
  by_cases z : p = W.2.2.2.2.1
  · subst z
    rw [pk_us, pk_us, pk_us, pk_us]
    exact ⟨e1, e2, e4, e3⟩
  · rw [pk_un z, pk_un z, pk_un z, pk_un z, h1 _ (by omega), h2 _ (by omega), h3 _ (by omega), h4 _ (by omega)]
    exact h p (by omega)
theorem sumL_px {W : wP} {kd a b c : Int32} : ∀ (n p : Nat), p + n ≤ W.2.2.2.2.1 → sumL (wPx W kd a b c) n p = sumL W n p
  | 0, _, _ => rfl
  | n + 1, p, h => by
    rw [sumL, sumL, sumL_px n (p + 1) (by omega)]
    show tN (upd W.2.2.2.1 W.2.2.2.2.1 c p) + _ = _
    rw [pk_un (by omega)]
theorem sumL_end (W : wP) : ∀ (n p : Nat), sumL W (n + 1) p = sumL W n p + tN (W.2.2.2.1 (p + n))
  | 0, p => by rw [sumL, sumL, sumL, Nat.add_zero p]; omega
  | n + 1, p => by
    rw [sumL, sumL_end W n (p + 1), sumL, show p + 1 + n = p + (n + 1) by omega]
    omega
/-- a wave so far -/
def wGs (W : wP) : Prop := W.2.2.2.2.1 ≤ 8 ∧ W.2.2.2.2.2 = sumL W W.2.2.2.2.1 0 ∧ ∀ p, p < W.2.2.2.2.1 → (∃ c, 1 ≤ c ∧ c ≤ 500 ∧ W.2.2.2.1 p = nI c) ∧ (-1000 ≤ W.2.1 p ∧ W.2.1 p ≤ 1000) ∧ (W.1 p = 0 ∨ (W.1 p = 1 ∧ -1000 ≤ W.2.2.1 p ∧ W.2.2.1 p ≤ 1000) ∨ (W.1 p = 2 ∧ ∃ b, 2 ≤ b ∧ b ≤ 99 ∧ W.2.2.1 p = nI b))
theorem wGs_px {W : wP} {kd a b c : Int32} (h : wGs W) (h8 : W.2.2.2.2.1 < 8) (hc : 1 ≤ c ∧ c ≤ 500) (ha : -1000 ≤ a ∧ a ≤ 1000) (hk : kd = 0 ∨ (kd = 1 ∧ -1000 ≤ b ∧ b ≤ 1000) ∨ (kd = 2 ∧ ∃ d, 2 ≤ d ∧ d ≤ 99 ∧ b = nI d)) : wGs (wPx W kd a b c) := by
  refine ⟨by show W.2.2.2.2.1 + 1 ≤ 8; omega, ?_, fun p hp => ?_⟩
  · show W.2.2.2.2.2 + c.toNatClampNeg = sumL (wPx W kd a b c) (W.2.2.2.2.1 + 1) 0
    rw [sumL_end, sumL_px _ _ (by omega), ← h.2.1, Nat.zero_add]
    show _ = W.2.2.2.2.2 + tN (upd W.2.2.2.1 W.2.2.2.2.1 c W.2.2.2.2.1)
    rw [pk_us]
  · have hp' : p < W.2.2.2.2.1 + 1 := hp
    show (∃ d, 1 ≤ d ∧ d ≤ 500 ∧ upd W.2.2.2.1 W.2.2.2.2.1 c p = nI d) ∧ (-1000 ≤ upd W.2.1 W.2.2.2.2.1 a p ∧ upd W.2.1 W.2.2.2.2.1 a p ≤ 1000) ∧ (upd W.1 W.2.2.2.2.1 kd p = 0 ∨ (upd W.1 W.2.2.2.2.1 kd p = 1 ∧ -1000 ≤ upd W.2.2.1 W.2.2.2.2.1 b p ∧ upd W.2.2.1 W.2.2.2.2.1 b p ≤ 1000) ∨ (upd W.1 W.2.2.2.2.1 kd p = 2 ∧ ∃ d, 2 ≤ d ∧ d ≤ 99 ∧ upd W.2.2.1 W.2.2.2.2.1 b p = nI d))
    by_cases z : p = W.2.2.2.2.1
    · subst z
      rw [pk_us, pk_us, pk_us, pk_us]
      refine ⟨?_, ha, hk⟩
      obtain ⟨d, hd, e⟩ := in2 (m := 500) (fun y => absurd (Int32.lt_of_lt_of_le y (by decide)) (Int32.not_lt.mpr hc.1)) hc.2 (by decide)
      refine ⟨d, ?_, hd, e⟩
      have := hc.1
      rw [e] at this
      exact (nI_leI (a := 1) (by decide) (by omega)).mp this
    · rw [pk_un z, pk_un z, pk_un z, pk_un z]
      exact h.2.2 p (by omega)
theorem ri_rng {ft : Nat → Int32} {s : pS} {y : rD} (h : riS ft s = .inl y) : -1000 ≤ y.2.2.2.2.2.1 ∧ y.2.2.2.2.2.1 ≤ 1000 := by
  cases s with
  | inr b => cases h
  | inl x =>
    have h2 : rcS (rTN ft (-1000) 1000 x) = .inl y := h
    have key : ∀ (ng : Int32) (x : rD), rcS (rTN1 ft (-1000) 1000 ng x) = .inl y → -1000 ≤ y.2.2.2.2.2.1 ∧ y.2.2.2.2.2.1 ≤ 1000 := fun ng x h3 => by
      rw [rTN1] at h3
      by_cases e : x.2.2.1 = 2
      · rw [if_pos e, rTN2] at h3
        generalize (if ng = 0 then x.2.2.2.2.1 else -x.2.2.2.2.1) = v at h3
        by_cases z : (rTk x v).2.2.2.2.2.1 < -1000 ∨ 1000 < (rTk x v).2.2.2.2.2.1
        · rw [if_pos z] at h3; cases h3
        · rw [if_neg z] at h3
          have h4 : (.inl (rStp ft (rTk x v)) : pS) = .inl y := h3
          cases h4
          rw [rStp_t9]
          exact ⟨Int32.not_lt.mp (fun q => z (Or.inl q)), Int32.not_lt.mp (fun q => z (Or.inr q))⟩
      · rw [if_neg e] at h3; cases h3
    rw [rTN] at h2
    split at h2
    · exact key _ _ h2
    · exact key _ _ h2
theorem riS_l {ft : Nat → Int32} {x : rD} : riS ft (.inl x) = rcS (rTN ft (-1000) 1000 x) := rfl
/-- what stands behind a piece's first number -/
def e6S (ft : Nat → Int32) (s : pS) : pS := rwS ft 1 500 (ndS ft [102, 111, 114] 3 s)
theorem e6_r (ft : Nat → Int32) (b : Int32 × Int32) : e6S ft (.inr b) = .inr b := rfl
theorem e6_l (ft : Nat → Int32) (kd a : Int32) (x : rD) (W : wP) : e6S ft (.inl x) = rcS ((rPc3 ft kd a x W).1, (rPc3 ft kd a x W).2.1) ∧ (∀ y, e6S ft (.inl x) = .inl y → (rPc3 ft kd a x W).2.2 = wPx W kd a x.2.2.2.2.2.1 y.2.2.2.2.2.1) := by
  unfold e6S
  rw [ndS_l, rPc3]
  by_cases e1 : (rTW ft [102, 111, 114] 3 x).1 = 0
  · rw [rcS_0 e1, if_pos e1]
    exact ⟨rfl, fun y z => by cases z⟩
  · rw [rcS_1 e1, if_neg e1, rPc4, rwS_l (by decide)]
    by_cases e2 : (rTN ft 1 500 (rTW ft [102, 111, 114] 3 x).2).1 = 0
    · rw [rcS_0 e2, if_pos e2]
      exact ⟨rfl, fun y z => by cases z⟩
    · rw [rcS_1 e2, if_neg e2]
      refine ⟨rfl, fun y z => ?_⟩
      cases z; rfl
theorem pc_hold {ft : Nat → Int32} {x : rD} {W : wP} (h8 : W.2.2.2.2.1 < 8) (h1 : ¬ isW x.2.2.1 x.2.2.2.2.1 [104, 111, 108, 100] 4 = 0) : e6S ft (riS ft (gS ft (.inl x))) = rcS ((rPc ft x W).1, (rPc ft x W).2.1) ∧ (∀ y, e6S ft (riS ft (gS ft (.inl x))) = .inl y → ∃ (y4 y5 : rD), (riS ft (gS ft (.inl x))) = .inl y4 ∧ (Sum.inl y4 : pS) = .inl y5 ∧ (rPc ft x W).2.2 = wPx W 0 y4.2.2.2.2.2.1 y5.2.2.2.2.2.1 y.2.2.2.2.2.1) := by
  rw [rPc, if_neg h1, rPc1, if_pos h8]
  have e0 : (riS ft (gS ft (.inl x))) = rcS (rTN ft (-1000) 1000 (rStp ft x)) := rfl
  rw [e0]
  by_cases e1 : (rTN ft (-1000) 1000 (rStp ft x)).1 = 0
  · rw [rcS_0 e1, if_pos e1]
    exact ⟨rfl, fun y z => by cases z⟩
  · rw [rcS_1 e1, if_neg e1]
    · generalize (rTN ft (-1000) 1000 (rStp ft x)).2 = y4
      have h6 := e6_l ft 0 y4.2.2.2.2.2.1 y4 W
      rw [rPc2, if_neg (by decide), if_neg (by decide)]
      exact ⟨h6.1, fun y z => ⟨y4, y4, rfl, rfl, h6.2 y z⟩⟩
theorem pc_ramp {ft : Nat → Int32} {x : rD} {W : wP} (h8 : W.2.2.2.2.1 < 8) (h1 : isW x.2.2.1 x.2.2.2.2.1 [104, 111, 108, 100] 4 = 0) (h2 : ¬ isW x.2.2.1 x.2.2.2.2.1 [114, 97, 109, 112] 4 = 0) : e6S ft (riS ft (ndS ft [116, 111] 2 (riS ft (gS ft (.inl x))))) = rcS ((rPc ft x W).1, (rPc ft x W).2.1) ∧ (∀ y, e6S ft (riS ft (ndS ft [116, 111] 2 (riS ft (gS ft (.inl x))))) = .inl y → ∃ (y4 y5 : rD), (riS ft (gS ft (.inl x))) = .inl y4 ∧ (riS ft (ndS ft [116, 111] 2 (Sum.inl y4 : pS))) = .inl y5 ∧ (rPc ft x W).2.2 = wPx W 1 y4.2.2.2.2.2.1 y5.2.2.2.2.2.1 y.2.2.2.2.2.1) := by
  rw [rPc, if_pos h1, if_neg h2, rPc1, if_pos h8]
  have e0 : (riS ft (gS ft (.inl x))) = rcS (rTN ft (-1000) 1000 (rStp ft x)) := rfl
  rw [e0]
  by_cases e1 : (rTN ft (-1000) 1000 (rStp ft x)).1 = 0
  · rw [rcS_0 e1, if_pos e1]
    exact ⟨rfl, fun y z => by cases z⟩
  · rw [rcS_1 e1, if_neg e1]
    · generalize (rTN ft (-1000) 1000 (rStp ft x)).2 = y4
      rw [rPc2, if_pos rfl]
      show e6S ft (riS ft (ndS ft [116, 111] 2 (.inl y4))) = _ ∧ _
      rw [ndS_l]
      by_cases e3 : (rTW ft [116, 111] 2 y4).1 = 0
      · rw [rcS_0 e3, if_pos e3]
        exact ⟨rfl, fun y z => by cases z⟩
      · rw [rcS_1 e3, if_neg e3, rPcR, riS_l]
        by_cases e4 : (rTN ft (-1000) 1000 (rTW ft [116, 111] 2 y4).2).1 = 0
        · rw [rcS_0 e4, if_pos e4]
          exact ⟨rfl, fun y z => by cases z⟩
        · rw [rcS_1 e4, if_neg e4]
          have h6 := e6_l ft 1 y4.2.2.2.2.2.1 (rTN ft (-1000) 1000 (rTW ft [116, 111] 2 y4).2).2 W
          exact ⟨h6.1, fun y z => ⟨y4, _, rfl, by rw [ndS_l, rcS_1 e3, riS_l, rcS_1 e4], h6.2 y z⟩⟩
theorem pc_swing {ft : Nat → Int32} {x : rD} {W : wP} (h8 : W.2.2.2.2.1 < 8) (h1 : isW x.2.2.1 x.2.2.2.2.1 [104, 111, 108, 100] 4 = 0) (h2 : isW x.2.2.1 x.2.2.2.2.1 [114, 97, 109, 112] 4 = 0) (h3 : ¬ isW x.2.2.1 x.2.2.2.2.1 [115, 119, 105, 110, 103] 5 = 0) : e6S ft (rwS ft 2 99 (ndS ft [101, 118, 101, 114, 121] 5 (riS ft (gS ft (.inl x))))) = rcS ((rPc ft x W).1, (rPc ft x W).2.1) ∧ (∀ y, e6S ft (rwS ft 2 99 (ndS ft [101, 118, 101, 114, 121] 5 (riS ft (gS ft (.inl x))))) = .inl y → ∃ (y4 y5 : rD), (riS ft (gS ft (.inl x))) = .inl y4 ∧ (rwS ft 2 99 (ndS ft [101, 118, 101, 114, 121] 5 (Sum.inl y4 : pS))) = .inl y5 ∧ (rPc ft x W).2.2 = wPx W 2 y4.2.2.2.2.2.1 y5.2.2.2.2.2.1 y.2.2.2.2.2.1) := by
  rw [rPc, if_pos h1, if_pos h2, if_neg h3, rPc1, if_pos h8]
  have e0 : (riS ft (gS ft (.inl x))) = rcS (rTN ft (-1000) 1000 (rStp ft x)) := rfl
  rw [e0]
  by_cases e1 : (rTN ft (-1000) 1000 (rStp ft x)).1 = 0
  · rw [rcS_0 e1, if_pos e1]
    exact ⟨rfl, fun y z => by cases z⟩
  · rw [rcS_1 e1, if_neg e1]
    · generalize (rTN ft (-1000) 1000 (rStp ft x)).2 = y4
      rw [rPc2, if_neg (by decide), if_pos rfl]
      show e6S ft (rwS ft 2 99 (ndS ft [101, 118, 101, 114, 121] 5 (.inl y4))) = _ ∧ _
      rw [ndS_l]
      by_cases e3 : (rTW ft [101, 118, 101, 114, 121] 5 y4).1 = 0
      · rw [rcS_0 e3, if_pos e3]
        exact ⟨rfl, fun y z => by cases z⟩
      · rw [rcS_1 e3, if_neg e3, rPcR, rwS_l (by decide)]
        by_cases e4 : (rTN ft 2 99 (rTW ft [101, 118, 101, 114, 121] 5 y4).2).1 = 0
        · rw [rcS_0 e4, if_pos e4]
          exact ⟨rfl, fun y z => by cases z⟩
        · rw [rcS_1 e4, if_neg e4]
          have h6 := e6_l ft 2 y4.2.2.2.2.2.1 (rTN ft 2 99 (rTW ft [101, 118, 101, 114, 121] 5 y4).2).2 W
          exact ⟨h6.1, fun y z => ⟨y4, _, rfl, by rw [ndS_l, rcS_1 e3, rwS_l (by decide), rcS_1 e4], h6.2 y z⟩⟩
