def c1S (ft : Nat → Int32) (s : pS) : pS := rwS ft 1000 9999 (ndS ft [98, 111, 117, 110, 100] 5 s)
def c2S (ft : Nat → Int32) (s : pS) : pS := psS ft [116, 104, 114, 101, 101] 5 (c1S ft s)
def c3S (ft : Nat → Int32) (s : pS) : pS := psS ft [110, 111, 105, 115, 101] 5 (c2S ft s)
def c4S (ft : Nat → Int32) (s : pS) : pS := if isS (c2S ft s) [110, 111, 105, 115, 101] 5 = 0 then c3S ft s else rwS ft 1 999 (c3S ft s)
theorem c4_r (ft : Nat → Int32) (b : Int32 × Int32) : c4S ft (.inr b) = .inr b := rfl
theorem bo01 {x : Int32} (h : x = 0 ∨ x = 1) : (if x = 0 then (0 : Int32) else 1) = x := by
  rcases h with rfl | rfl <;> rfl
theorem rNz_01 (ft : Nat → Int32) (x : rD) : (rNz ft x 0).1 = 0 ∨ (rNz ft x 0).1 = 1 := by
  unfold rNz
  split
  · exact Or.inl rfl
  · exact Or.inr rfl
theorem c4_l (ft : Nat → Int32) (nm : Int32) (q : Nat) (f : Nat → Int32) (x : rD) : c4S ft (.inl x) = rcS ((rLp4 ft nm q f x).1, (rLp4 ft nm q f x).2.1) ∧ (∀ y, c4S ft (.inl x) = .inl y → ∃ y1, c1S ft (.inl x) = .inl y1 ∧ (rLp4 ft nm q f x).2.2 = (nm, q, f, y1.2.2.2.2.2.1, (if isS (c2S ft (.inl x)) [110, 111, 105, 115, 101] 5 = 0 then 0 else y.2.2.2.2.2.1), isS (.inl y1) [116, 104, 114, 101, 101] 5)) := by
  by_cases e1 : (rTW ft [98, 111, 117, 110, 100] 5 x).1 = 0
  · have h1 : ndS ft [98, 111, 117, 110, 100] 5 (.inl x) = .inr ((rTW ft [98, 111, 117, 110, 100] 5 x).2.2.2.2.2.2.2.1, (rTW ft [98, 111, 117, 110, 100] 5 x).2.2.2.2.2.2.2.2) := by rw [ndS_l, rcS_0 e1]
    have h2 : c4S ft (.inl x) = .inr ((rTW ft [98, 111, 117, 110, 100] 5 x).2.2.2.2.2.2.2.1, (rTW ft [98, 111, 117, 110, 100] 5 x).2.2.2.2.2.2.2.2) := by
      unfold c4S c3S c2S c1S
      rw [h1]; rfl
    have h3 : rLp4 ft nm q f x = (0, (rTW ft [98, 111, 117, 110, 100] 5 x).2, (nm, q, f, 0, 0, 0)) := by rw [rLp4, if_pos e1]
    rw [h2, h3]
    exact ⟨rfl, fun y z => by cases z⟩
  · obtain ⟨x1, hx1⟩ : ∃ x1, x1 = (rTW ft [98, 111, 117, 110, 100] 5 x).2 := ⟨_, rfl⟩
    have h1 : ndS ft [98, 111, 117, 110, 100] 5 (.inl x) = .inl x1 := by rw [ndS_l, rcS_1 e1, hx1]
    have g1 : rLp4 ft nm q f x = rLp5 ft nm q f x1 := by rw [rLp4, if_neg e1, hx1]
    have k1 : c1S ft (.inl x) = rcS (rTN ft 1000 9999 x1) := by unfold c1S; rw [h1, rwS_l (by decide)]
    rw [g1]
    by_cases e2 : (rTN ft 1000 9999 x1).1 = 0
    · have k2 : c1S ft (.inl x) = .inr ((rTN ft 1000 9999 x1).2.2.2.2.2.2.2.1, (rTN ft 1000 9999 x1).2.2.2.2.2.2.2.2) := by rw [k1, rcS_0 e2]
      have h2 : c4S ft (.inl x) = .inr ((rTN ft 1000 9999 x1).2.2.2.2.2.2.2.1, (rTN ft 1000 9999 x1).2.2.2.2.2.2.2.2) := by
        unfold c4S c3S c2S
        rw [k2]; rfl
      rw [h2, show rLp5 ft nm q f x1 = (0, (rTN ft 1000 9999 x1).2, (nm, q, f, 0, 0, 0)) by rw [rLp5, if_pos e2]]
      exact ⟨rfl, fun y z => by cases z⟩
    · obtain ⟨x2, hx2⟩ : ∃ x2, x2 = (rTN ft 1000 9999 x1).2 := ⟨_, rfl⟩
      have k2 : c1S ft (.inl x) = .inl x2 := by rw [k1, rcS_1 e2, hx2]
      have g2 : rLp5 ft nm q f x1 = rLp6 ft nm q f x2.2.2.2.2.2.1 x2 := by rw [rLp5, if_neg e2, hx2]
      rw [g2]
      obtain ⟨x3, hx3⟩ : ∃ x3, x3 = (if isW x2.2.2.1 x2.2.2.2.2.1 [116, 104, 114, 101, 101] 5 = 0 then x2 else rStp ft x2) := ⟨_, rfl⟩
      have k3 : c2S ft (.inl x) = .inl x3 := by
        unfold c2S psS
        rw [k2]
        show (if isW x2.2.2.1 x2.2.2.2.2.1 [116, 104, 114, 101, 101] 5 = 0 then (.inl x2 : pS) else .inl (rStp ft x2)) = .inl x3
        rw [hx3]
        split <;> rfl
      have g3 : rLp6 ft nm q f x2.2.2.2.2.2.1 x2 = rLp7 ft nm q f x2.2.2.2.2.2.1 (isW x2.2.2.1 x2.2.2.2.2.1 [116, 104, 114, 101, 101] 5) x3 := by
        rw [rLp6, hx3]
        split <;> rfl
      rw [g3, k3]
      by_cases e3 : isW x3.2.2.1 x3.2.2.2.2.1 [110, 111, 105, 115, 101] 5 = 0
      · have h2 : c4S ft (.inl x) = .inl x3 := by
          unfold c4S c3S psS
          rw [k3]
          show (if isW x3.2.2.1 x3.2.2.2.2.1 [110, 111, 105, 115, 101] 5 = 0 then (if isW x3.2.2.1 x3.2.2.2.2.1 [110, 111, 105, 115, 101] 5 = 0 then (.inl x3 : pS) else _) else _) = _
          rw [if_pos e3, if_pos e3]
        rw [h2, rLp7, if_pos e3]
        refine ⟨rfl, fun y z => ⟨x2, k2, ?_⟩⟩
        rw [show isS (.inl x3) [110, 111, 105, 115, 101] 5 = isW x3.2.2.1 x3.2.2.2.2.1 [110, 111, 105, 115, 101] 5 from rfl, if_pos e3]
        rfl
      · have h2 : c4S ft (.inl x) = rcS (rTN ft 1 999 (rStp ft x3)) := by
          unfold c4S c3S psS
          rw [k3]
          show (if isW x3.2.2.1 x3.2.2.2.2.1 [110, 111, 105, 115, 101] 5 = 0 then _ else rwS ft 1 999 (if isW x3.2.2.1 x3.2.2.2.2.1 [110, 111, 105, 115, 101] 5 = 0 then (.inl x3 : pS) else .inl (rStp ft x3))) = _
          rw [if_neg e3, if_neg e3, rwS_l (by decide)]
        rw [rLp7, if_neg e3, bo01 (rNz_01 ft x3)]
        rw [h2]
        by_cases e4 : (rTN ft 1 999 (rStp ft x3)).1 = 0
        · have g4 : rNz ft x3 0 = (0, (rTN ft 1 999 (rStp ft x3)).2, 0) := by rw [rNz, if_pos e4]
          rw [rcS_0 e4, g4]
          exact ⟨rfl, fun y z => by cases z⟩
        · have g4 : rNz ft x3 0 = (1, (rTN ft 1 999 (rStp ft x3)).2, (rTN ft 1 999 (rStp ft x3)).2.2.2.2.2.2.1) := by rw [rNz, if_neg e4]
          rw [rcS_1 e4, g4]
          refine ⟨rfl, fun y z => ⟨x2, k2, ?_⟩⟩
          cases z
          rw [show isS (.inl x3) [110, 111, 105, 115, 101] 5 = isW x3.2.2.1 x3.2.2.2.2.1 [110, 111, 105, 115, 101] 5 from rfl, if_neg e3]
          rfl
