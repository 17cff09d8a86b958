/-! cycles: the sums of a loop at a level that stands, clock by clock; what comes again -/
theorem hldC_add (bd x c d : Int32) : hldC bd x (c + d) = c + hldC bd x d := by
  unfold hldC
  by_cases e : hldF bd x = x
  · rw [if_pos e, if_pos e]
  · rw [if_neg e, if_neg e, Int32.add_assoc]
theorem stgF_cl (fac : Nat → Int32) (bd out v : Int32) (su : Nat → Int32) (c : Int32) : ∀ k, stgF fac bd out v su c k = ((stgF fac bd out v su 0 k).1, c + (stgF fac bd out v su 0 k).2.1, (stgF fac bd out v su 0 k).2.2)
  | 0 => by
    show (su, c, v) = (su, c + 0, v)
    rw [Int32.add_zero]
  | k + 1 => by
    have ih := stgF_cl fac bd out v su c k
    simp only [stgF, ih, hldC_add]
theorem stgF_o (fac : Nat → Int32) (bd out v : Int32) (su : Nat → Int32) (c : Int32) (j : Nat) : ∀ k, k ≤ j → (stgF fac bd out v su c k).1 j = su j
  | 0, _ => rfl
  | k + 1, h => by
    show upd (stgF fac bd out v su c k).1 k _ j = su j
    rw [pk_un (by omega)]
    exact stgF_o fac bd out v su c j k (by omega)
theorem cSt_i (L : lP) (v r c : Int32) (a : Nat → Int32) : cStp L 0 v (a, r, c) = ((cStp L 0 v (a, 1, 0)).1, r, c + (cStp L 0 v (a, 1, 0)).2.2) := by
  rw [cSt_r L v r 1 a c]
  have e := stgF_cl L.2.1 L.2.2.1 (cOut L 0 (a, 1, c)) v a c L.1
  have eo : cOut L 0 (a, 1, c) = cOut L 0 (a, 1, 0) := cOu_r L 1 1 a c 0
  simp only [cStp]
  rw [eo] at e ⊢
  rw [e]
def qO (L : lP) (v : Int32) (t : Nat) : Int32 := cOut L 0 (qS L v t, 1, 0)
def qD (L : lP) (v : Int32) (t : Nat) : Int32 := (cStp L 0 v (qS L v t, 1, 0)).2.2
theorem qS_s (L : lP) (v : Int32) (t : Nat) : qS L v (t + 1) = (cStp L 0 v (qS L v t, 1, 0)).1 := by
  show (cStp L 0 v (qS L v t, (cItr L 0 v t cS0).2.1, qC L v t)).1 = _
  rw [cSt_i]
theorem qC_s (L : lP) (v : Int32) (t : Nat) : qC L v (t + 1) = qC L v t + qD L v t := by
  show (cStp L 0 v (qS L v t, (cItr L 0 v t cS0).2.1, qC L v t)).2.2 = _
  rw [cSt_i]
  rfl
theorem qS_3 (L : lP) (v : Int32) (hL : L.1 ≤ 3) (j : Nat) (hj : 3 ≤ j) : ∀ t, qS L v t j = 0
  | 0 => rfl
  | t + 1 => by
    rw [qS_s]
    show (stgF _ _ _ _ _ _ L.1).1 j = 0
    rw [stgF_o _ _ _ _ _ _ j L.1 (by omega)]
    exact qS_3 L v hL j hj t
theorem eq_q {L : lP} {v : Int32} (hL : L.1 ≤ 3) {a b : Nat} : eqS (qS L v a) (qS L v b) = 0 ↔ ¬ qS L v a = qS L v b := by
  unfold eqS
  by_cases e : qS L v a 0 = qS L v b 0 ∧ qS L v a 1 = qS L v b 1 ∧ qS L v a 2 = qS L v b 2
  · rw [if_pos e]
    refine ⟨fun z => absurd z (by decide), fun z => absurd ?_ z⟩
    funext j
    match j with
    | 0 => exact e.1
    | 1 => exact e.2.1
    | 2 => exact e.2.2
    | j + 3 => rw [qS_3 L v hL _ (by omega), qS_3 L v hL _ (by omega)]
  · rw [if_neg e]
    exact ⟨fun _ z => e (by rw [z]; exact ⟨rfl, rfl, rfl⟩), fun _ => rfl⟩
theorem per_n {L : lP} {v : Int32} {a b : Nat} (h : qS L v a = qS L v b) : ∀ n, qS L v (a + n) = qS L v (b + n)
  | 0 => h
  | n + 1 => by
    show qS L v (a + n + 1) = qS L v (b + n + 1)
    rw [qS_s, qS_s, per_n h n]
theorem per_t {L : lP} {v : Int32} {A l t : Nat} (h : qS L v A = qS L v (A + l)) (ht : A ≤ t) : qS L v t = qS L v (t + l) := by
  have := per_n h (t - A)
  rw [show A + (t - A) = t by omega, show A + l + (t - A) = t + l by omega] at this
  exact this
theorem per_m {L : lP} {v : Int32} {A l t : Nat} (h : qS L v A = qS L v (A + l)) (ht : A ≤ t) : ∀ m, qS L v t = qS L v (t + m * l)
  | 0 => by rw [Nat.zero_mul]; rfl
  | m + 1 => by
    rw [per_m h ht m, per_t h (show A ≤ t + m * l by omega), Nat.succ_mul, Nat.add_assoc]
/-- the first return is the same wherever in the cycle -/
theorem per_len {L : lP} {v : Int32} {A l B r : Nat} (h : qS L v A = qS L v (A + l)) (hl : 1 ≤ l) (hr : qS L v B = qS L v (B + r)) : qS L v A = qS L v (A + r) := by
  have h1 : qS L v (A + B * l) = qS L v (A + B * l + r) := per_t hr (by
    have : B * 1 ≤ B * l := Nat.mul_le_mul_left B hl
    omega)
  rw [per_m h (Nat.le_refl A) B, h1, per_m h (show A ≤ A + r by omega) B]
  congr 1
  omega
/-! what is counted from a clock A on, over n clocks -/
def kO (L : lP) (v : Int32) (A n : Nat) : Int32 := sS (fun k => qO L v (A + k)) n
def kC (L : lP) (v : Int32) (A n : Nat) : Int32 := sS (fun k => qD L v (A + k)) n
def kG (L : lP) (v : Int32) (A n : Nat) : Int32 := fld (fun k s => mxI s (abI (lstF L.1 (qS L v (A + k))))) 0 n 0
def cgF (L : lP) (v : Int32) (A k : Nat) : Int32 := if qO L v (A + k + 1) = qO L v (A + k) then 0 else 1
def kH (L : lP) (v : Int32) (A n : Nat) : Int32 := sS (cgF L v A) n
theorem sS_rot (g : Nat → Int32) (A : Nat) : ∀ n, sS (fun k => g (A + 1 + k)) n + g A = sS (fun k => g (A + k)) n + g (A + n)
  | 0 => rfl
  | n + 1 => by
    have ih := sS_rot g A n
    have e : A + 1 + n = A + (n + 1) := by omega
    show sS (fun k => g (A + 1 + k)) n + g (A + 1 + n) + g A = sS (fun k => g (A + k)) n + g (A + n) + g (A + (n + 1))
    rw [e, ← ih]
    grind
theorem sS_per {g : Nat → Int32} {l : Nat} (A : Nat) : ∀ n, (∀ t, A ≤ t → g (t + l) = g t) → sS (fun k => g (A + n + k)) l = sS (fun k => g (A + k)) l
  | 0, _ => rfl
  | n + 1, h => by
    have ih := sS_per (g := g) A n h
    have r := sS_rot g (A + n) l
    rw [h (A + n) (by omega), ih] at r
    have r2 : sS (fun k => g (A + n + 1 + k)) l = sS (fun k => g (A + k)) l := by
      have := congrArg (fun z => z - g (A + n)) r
      simpa [Int32.add_sub_cancel] using this
    exact r2
theorem sS_two {g : Nat → Int32} {l A B : Nat} (hA : ∀ t, A ≤ t → g (t + l) = g t) (hB : ∀ t, B ≤ t → g (t + l) = g t) : sS (fun k => g (A + k)) l = sS (fun k => g (B + k)) l := by
  rcases Nat.le_total A B with h | h
  · have := sS_per A (B - A) hA
    rw [show A + (B - A) = B by omega] at this
    exact this.symm
  · have := sS_per B (A - B) hB
    rw [show B + (A - B) = A by omega] at this
    exact this
theorem mx_toInt (a b : Int32) : (mxI a b).toInt = max a.toInt b.toInt := by
  unfold mxI
  by_cases e : a < b
  · rw [if_pos e]
    have := Int32.lt_iff_toInt_lt.mp e
    omega
  · rw [if_neg e]
    rw [Int32.lt_iff_toInt_lt] at e
    omega
theorem mx_rc (a b c : Int32) : mxI (mxI a b) c = mxI (mxI a c) b := by
  apply Int32.toInt_inj.mp
  rw [mx_toInt, mx_toInt, mx_toInt, mx_toInt]
  omega
def gF (g : Nat → Int32) (A n : Nat) : Int32 := fld (fun k s => mxI s (g (A + k))) 0 n 0
theorem gF_s (g : Nat → Int32) (A n : Nat) : gF g A (n + 1) = mxI (gF g A n) (g (A + n)) := by
  unfold gF
  rw [fld, Nat.zero_add]
theorem gF_f (g : Nat → Int32) (A : Nat) : ∀ n, gF g A (n + 1) = mxI (gF g (A + 1) n) (g A)
  | 0 => rfl
  | n + 1 => by
    rw [gF_s, gF_f g A n, mx_rc, gF_s, show A + 1 + n = A + (n + 1) by omega]
theorem gF_1 {g : Nat → Int32} {l A : Nat} (h : g (A + l) = g A) : gF g (A + 1) l = gF g A l := by
  cases l with
  | zero => simp only [gF, fld]
  | succ l => rw [gF_f g A l, gF_s, show A + 1 + l = A + (l + 1) by omega, h]
theorem gF_per {g : Nat → Int32} {l : Nat} (A : Nat) (h : ∀ t, A ≤ t → g (t + l) = g t) : ∀ n, gF g (A + n) l = gF g A l
  | 0 => rfl
  | n + 1 => (gF_1 (A := A + n) (h (A + n) (by omega))).trans (gF_per A h n)
theorem gF_two {g : Nat → Int32} {l A B : Nat} (hA : ∀ t, A ≤ t → g (t + l) = g t) (hB : ∀ t, B ≤ t → g (t + l) = g t) : gF g A l = gF g B l := by
  rcases Nat.le_total A B with h | h
  · have := gF_per A hA (B - A)
    rw [show A + (B - A) = B by omega] at this
    exact this.symm
  · have := gF_per B hB (A - B)
    rw [show B + (A - B) = A by omega] at this
    exact this
/-- whatever is counted over a whole cycle is the same from any clock of it on -/
theorem k_two {L : lP} {v : Int32} {l A B : Nat} (hA : qS L v A = qS L v (A + l)) (hB : qS L v B = qS L v (B + l)) : kO L v A l = kO L v B l ∧ kC L v A l = kC L v B l ∧ kG L v A l = kG L v B l ∧ kH L v A l = kH L v B l := by
  have hO : ∀ {C : Nat}, qS L v C = qS L v (C + l) → ∀ t, C ≤ t → qO L v (t + l) = qO L v t := fun h t ht => by
    unfold qO; rw [← per_t h ht]
  have hD : ∀ {C : Nat}, qS L v C = qS L v (C + l) → ∀ t, C ≤ t → qD L v (t + l) = qD L v t := fun h t ht => by
    unfold qD; rw [← per_t h ht]
  have hG : ∀ {C : Nat}, qS L v C = qS L v (C + l) → ∀ t, C ≤ t → abI (lstF L.1 (qS L v (t + l))) = abI (lstF L.1 (qS L v t)) := fun h t ht => by
    rw [← per_t h ht]
  refine ⟨sS_two (hO hA) (hO hB), sS_two (hD hA) (hD hB), ?_, ?_⟩
  · exact gF_two (g := fun t => abI (lstF L.1 (qS L v t))) (hG hA) (hG hB)
  · have e : ∀ C : Nat, kH L v C l = sS (fun k => (fun t => if qO L v (t + 1) = qO L v t then (0 : Int32) else 1) (C + k)) l := fun C => rfl
    rw [e, e]
    have hc : ∀ {C : Nat}, qS L v C = qS L v (C + l) → ∀ t, C ≤ t → (if qO L v (t + l + 1) = qO L v (t + l) then (0 : Int32) else 1) = if qO L v (t + 1) = qO L v t then 0 else 1 := fun h t ht => by
      rw [show t + l + 1 = t + 1 + l by omega, hO h t ht, hO h (t + 1) (by omega)]
    exact sS_two (g := fun t => if qO L v (t + 1) = qO L v t then (0 : Int32) else 1) (hc hA) (hc hB)
/-- what a walk from A on has counted after n clocks -/
def yIv (L : lP) (v : Int32) (A n : Nat) (y : cyS) : Prop := y.1 = nI n ∧ y.2.1 = kO L v A n ∧ y.2.2.1 = kG L v A n ∧ y.2.2.2.1 = kH L v A (n - 1) ∧ (0 < n → y.2.2.2.2.1 = qO L v A ∧ y.2.2.2.2.2 = qO L v (A + n - 1))
theorem yIv_s {L : lP} {v : Int32} {A n : Nat} {y : cyS} {s : cS} (h : yIv L v A n y) (hs : s.1 = qS L v (A + n)) (hn : n < 2 ^ 30) : yIv L v A (n + 1) (wlkF L (qO L v (A + n)) s y) := by
  obtain ⟨h1, h2, h3, h4, h5⟩ := h
  refine ⟨?_, ?_, ?_, ?_, fun _ => ⟨?_, ?_⟩⟩
  · show y.1 + 1 = _
    rw [h1]; exact nI_1 n
  · show y.2.1 + qO L v (A + n) = _
    rw [h2]; rfl
  · show mxI y.2.2.1 (abI (lstF L.1 s.1)) = _
    rw [h3, hs]
    unfold kG
    rw [fld, Nat.zero_add]
  · show (if y.1 = 0 then y.2.2.2.1 else if qO L v (A + n) = y.2.2.2.2.2 then y.2.2.2.1 else y.2.2.2.1 + 1) = kH L v A n
    by_cases e : n = 0
    · subst e
      rw [if_pos (by rw [h1]; rfl), h4]
    · rw [if_neg (by rw [h1]; exact nI_ne0 (by omega) (by omega)), (h5 (by omega)).2, h4]
      obtain ⟨k, rfl⟩ : ∃ k, n = k + 1 := ⟨n - 1, by omega⟩
      show (if qO L v (A + (k + 1)) = qO L v (A + (k + 1) - 1) then kH L v A k else kH L v A k + 1) = kH L v A k + cgF L v A k
      unfold cgF
      rw [show A + (k + 1) - 1 = A + k by omega, show A + k + 1 = A + (k + 1) by omega]
      by_cases z : qO L v (A + (k + 1)) = qO L v (A + k)
      · rw [if_pos z, if_pos z, Int32.add_zero]
      · rw [if_neg z, if_neg z]
  · show (if y.1 = 0 then qO L v (A + n) else y.2.2.2.2.1) = qO L v A
    by_cases e : n = 0
    · subst e; rw [if_pos (by rw [h1]; rfl)]; rfl
    · rw [if_neg (by rw [h1]; exact nI_ne0 (by omega) (by omega))]; exact (h5 (by omega)).1
  · show qO L v (A + n) = _
    rw [show A + (n + 1) - 1 = A + n by omega]
theorem yIv_0 (L : lP) (v : Int32) (A : Nat) (a b : Int32) : yIv L v A 0 (0, 0, 0, 0, a, b) := ⟨rfl, rfl, rfl, rfl, fun h => absurd h (Nat.lt_irrefl 0)⟩
/-- a search: its walk stands at the clock u, its anchor at A -/
def fIv (L : lP) (v : Int32) (A u : Nat) (f : fS) : Prop := f.1.1 = qS L v u ∧ f.1.2.2 = kC L v A (u - A) ∧ f.2.1 = qS L v A ∧ yIv L v A (u - A) f.2.2.1 ∧ A ≤ u ∧ (∀ k, A < k → k ≤ u → ¬ qS L v k = qS L v A) ∧ ((A = 0 ∧ u = 0 ∧ f.2.2.2.2 = 1) ∨ (1 ≤ A ∧ A < 3000 ∧ u < min (2 * A) 3000 ∧ f.2.2.2.2 = nI (min (2 * A) 3000)) ∨ (A = 3000 ∧ f.2.2.2.2 = nI 3000))
/-- what a search has found -/
def fOk (L : lP) (v : Int32) (f : fS) : Prop := ∃ A l, 1 ≤ l ∧ l ≤ 3000 ∧ A ≤ 3000 ∧ qS L v A = qS L v (A + l) ∧ (∀ k, 0 < k → k < l → ¬ qS L v (A + k) = qS L v A) ∧ f.2.2.1.1 = nI l ∧ f.2.2.1.2.1 = kO L v A l ∧ f.2.2.2.1 = kC L v A l ∧ f.2.2.1.2.2.1 = kG L v A l ∧ f.2.2.1.2.2.2.1 = kH L v A l
theorem fIv_X {L : lP} {v : Int32} {A u : Nat} {f : fS} (h : fIv L v A u f) (hu : u < 2 ^ 30) : (fnX L v f).1.1 = qS L v (u + 1) ∧ (fnX L v f).1.2.2 = kC L v A (u + 1 - A) ∧ (fnX L v f).2.1 = qS L v A ∧ yIv L v A (u + 1 - A) (fnX L v f).2.2.1 ∧ (fnX L v f).2.2.2.2 = f.2.2.2.2 := by
  obtain ⟨h1, h2, h3, h4, h5, h6, h7⟩ := h
  have hf : f.1 = (qS L v u, f.1.2.1, f.1.2.2) := by rw [← h1]
  have eo : cOut L 0 f.1 = qO L v u := by rw [hf]; exact cOu_r L _ _ _ _ _
  have es : cStp L 0 v f.1 = (qS L v (u + 1), f.1.2.1, f.1.2.2 + qD L v u) := by
    rw [hf, cSt_i, qS_s]; rfl
  obtain ⟨n, hn⟩ : ∃ n, u = A + n := ⟨u - A, by omega⟩
  have e1 : u + 1 - A = (u - A) + 1 := by omega
  refine ⟨by show (cStp L 0 v f.1).1 = _; rw [es], ?_, h3, ?_, rfl⟩
  · show (cStp L 0 v f.1).2.2 = _
    rw [es, h2, e1]
    show kC L v A (u - A) + qD L v u = kC L v A (u - A) + qD L v (A + (u - A))
    rw [show A + (u - A) = u by omega]
  · show yIv L v A (u + 1 - A) (wlkF L (cOut L 0 f.1) f.1 f.2.2.1)
    rw [eo, e1]
    have e2 : A + (u - A) = u := by omega
    have := yIv_s (s := f.1) h4 (by rw [e2]; exact h1) (by omega)
    rw [e2] at this
    exact this
theorem mnI_n {a b : Nat} (ha : a < 2 ^ 31) (hb : b < 2 ^ 31) : mnI (nI a) (nI b) = nI (min a b) := by
  unfold mnI
  by_cases e : b < a
  · rw [if_pos (nI_lt e ha), show min a b = b by omega]
  · rw [if_neg (nI_nlt (by omega) hb), show min a b = a by omega]
theorem fnd_ok {L : lP} {v : Int32} (hL : L.1 ≤ 3) : ∀ (n u A : Nat) (f : fS), u + n = 6000 → fIv L v A u f → ((fndF L v n (u + 1) f).1 = true → fOk L v (fndF L v n (u + 1) f).2) ∧ ((fndF L v n (u + 1) f).1 = false → ∀ k, 1 ≤ k → k ≤ 3000 → ¬ qS L v (3000 + k) = qS L v 3000)
  | 0, u, A, f, hu, h => by
    refine ⟨fun z => by simp [fndF] at z, fun _ k hk hk2 => ?_⟩
    obtain ⟨h1, h2, h3, h4, h5, h6, h7⟩ := h
    rcases h7 with z | z | z
    · omega
    · omega
    · have := h6 (3000 + k) (by omega) (by omega)
      rw [z.1] at this
      exact this
  | n + 1, u, A, f, hu, h => by
    obtain ⟨x1, x2, x3, x4, x5⟩ := fIv_X h (by omega)
    obtain ⟨h1, h2, h3, h4, h5, h6, h7⟩ := h
    rw [fndF, x1, x3, x5]
    by_cases e : eqS (qS L v (u + 1)) (qS L v A) = 0
    · have hne := (eq_q hL).mp e
      rw [if_pos e]
      have h6' : ∀ k, A < k → k ≤ u + 1 → ¬ qS L v k = qS L v A := fun k hk hk2 => by
        by_cases z : k = u + 1
        · rw [z]; exact hne
        · exact h6 k hk (by omega)
      by_cases e2 : nI (u + 1) = f.2.2.2.2
      · rw [if_pos e2]
        refine fnd_ok hL n (u + 1) (u + 1) _ (by omega) ⟨x1, ?_, x1, ?_, Nat.le_refl _, fun k hk hk2 => by omega, ?_⟩
        · rw [Nat.sub_self]; rfl
        · rw [Nat.sub_self]; exact yIv_0 L v (u + 1) _ _
        · have hM : (fnD (u + 1) (fnX L v f)).2.2.2.2 = nI (min (2 * (u + 1)) 3000) := mnI_n (a := 2 * (u + 1)) (b := 3000) (by omega) (by decide)
          rcases h7 with z | z | z
          · refine Or.inr (Or.inl ⟨by omega, by omega, by omega, hM⟩)
          · rw [z.2.2.2] at e2
            have e3 := (nI_eq (by omega) (by omega)).mp e2
            by_cases z3 : u + 1 = 3000
            · refine Or.inr (Or.inr ⟨z3, ?_⟩)
              rw [hM, z3, show min (2 * 3000) 3000 = 3000 by omega]
            · exact Or.inr (Or.inl ⟨by omega, by omega, by omega, hM⟩)
          · rw [z.2] at e2
            have e3 := (nI_eq (by omega) (by decide)).mp e2
            omega
      · rw [if_neg e2]
        refine fnd_ok hL n (u + 1) A _ (by omega) ⟨x1, x2, x3, x4, by omega, h6', ?_⟩
        rw [x5]
        rcases h7 with z | z | z
        · exact absurd (by rw [z.2.1, z.2.2]; rfl) e2
        · refine Or.inr (Or.inl ⟨z.1, z.2.1, ?_, z.2.2.2⟩)
          have : ¬ u + 1 = min (2 * A) 3000 := fun y => e2 (by rw [z.2.2.2, y])
          omega
        · exact Or.inr (Or.inr z)
    · rw [if_neg e]
      refine ⟨fun _ => ?_, fun z => by simp at z⟩
      have hq : qS L v (u + 1) = qS L v A := Classical.byContradiction (fun z => e ((eq_q hL).mpr z))
      have hl3 : u + 1 - A ≤ 3000 ∧ A ≤ 3000 := by
        rcases h7 with z | z | z <;> omega
      have el : A + (u + 1 - A) = u + 1 := by omega
      refine ⟨A, u + 1 - A, by omega, hl3.1, hl3.2, by rw [el]; exact hq.symm, fun k hk hk2 => h6 (A + k) (by omega) (by omega), x4.1, x4.2.1, x2, x4.2.2.1, ?_⟩
      show (fnX L v f).2.2.1.2.2.2.1 + (if (fnX L v f).2.2.1.2.2.2.2.1 = (fnX L v f).2.2.1.2.2.2.2.2 then 0 else 1) = kH L v A (u + 1 - A)
      have x6 := x4.2.2.2.2 (by omega)
      rw [x4.2.2.2.1, x6.1, x6.2]
      obtain ⟨m, hm⟩ : ∃ m, u + 1 - A = m + 1 := ⟨u - A, by omega⟩
      rw [hm]
      show kH L v A m + (if qO L v A = qO L v (A + (m + 1) - 1) then 0 else 1) = kH L v A m + cgF L v A m
      unfold cgF
      have e9 : qO L v (A + m + 1) = qO L v A := by
        unfold qO
        rw [show A + m + 1 = u + 1 by omega, hq]
      rw [e9, show A + (m + 1) - 1 = A + m by omega]
theorem fnd0_ok {L : lP} {v : Int32} (hL : L.1 ≤ 3) : ((fnd0 L v).1 = true → fOk L v (fnd0 L v).2) ∧ ((fnd0 L v).1 = false → ∀ k, 1 ≤ k → k ≤ 3000 → ¬ qS L v (3000 + k) = qS L v 3000) :=
  fnd_ok hL 6000 0 0 _ rfl ⟨rfl, rfl, rfl, yIv_0 L v 0 0 0, Nat.le_refl _, fun k hk hk2 => by omega, Or.inl ⟨rfl, rfl, rfl⟩⟩
/-- the cycle, as the reference finds it -/
theorem fOk_3000 {L : lP} {v : Int32} {f : fS} (h : fOk L v f) : ∃ l, 1 ≤ l ∧ l ≤ 3000 ∧ f.2.2.1.1 = nI l ∧ qS L v 3000 = qS L v (3000 + l) ∧ (∀ k, 0 < k → k < l → ¬ qS L v (3000 + k) = qS L v 3000) ∧ (∀ B, qS L v B = qS L v (B + l) → f.2.2.1.2.1 = kO L v B l ∧ f.2.2.2.1 = kC L v B l ∧ f.2.2.1.2.2.1 = kG L v B l ∧ f.2.2.1.2.2.2.1 = kH L v B l) := by
  obtain ⟨A, l, h1, h2, h3, h4, h5, h6, h7, h8, h9, h10⟩ := h
  refine ⟨l, h1, h2, h6, per_t h4 h3, fun k hk hk2 z => ?_, fun B hB => ?_⟩
  · exact h5 k hk hk2 (per_len h4 h1 z.symm).symm
  · obtain ⟨k1, k2, k3, k4⟩ := k_two h4 hB
    exact ⟨h7.trans k1, h8.trans k2, h9.trans k3, h10.trans k4⟩
