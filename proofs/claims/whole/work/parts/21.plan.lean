theorem hUs_ne {h : hH} : ∀ {as : List Nat} {cs : List hC} {a : Nat}, ¬ a ∈ as → (hUs h as cs).1 a = h.1 a
  | [], _, _, _ => rfl
  | _ :: _, [], _, _ => rfl
  | b :: as, c :: cs, a, n => by
    show (hU (hUs h as cs) b c).1 a = _
    rw [hU_n (show a ≠ b from fun z => n (by rw [z]; exact List.mem_cons_self ..)), hUs_ne (fun z => n (List.mem_cons_of_mem _ z))]
theorem hUs_2 {h : hH} : ∀ {as : List Nat} {cs : List hC}, (hUs h as cs).2 = h.2
  | [], _ => rfl
  | _ :: _, [] => rfl
  | _ :: as, _ :: cs => hUs_2 (as := as) (cs := cs)
theorem hHas_nil {h : hH} : hHas h [] [] := fun _ _ _ e _ => by simp at e
theorem hHas_cons {h : hH} {a : Nat} {c : hC} {as : List Nat} {cs : List hC} (e : h.1 a = some c) (k : hHas h as cs) : hHas h (a :: as) (c :: cs) := by
  intro i q c' h1 h2
  cases i with
  | zero => simp only [List.getElem?_cons_zero, Option.some.injEq] at h1 h2; subst h1; subst h2; exact e
  | succ i => exact k i q c' (by simpa using h1) (by simpa using h2)
/-- a loop's lines: name, stages, factors, bound, noise, three -/
abbrev lD : Type := Int32 × Nat × (Nat → Int32) × Int32 × Int32 × Int32
abbrev wD : Type := Int32 × wP
/-- a plan: how many loops, waves; the loops, the waves -/
abbrev pD : Type := Nat × Nat × (Nat → lD) × (Nat → wD)
def lpF (l : Nat) (D : lD) : List Value := [.ref (l + 1), .int D.1, .int (nI D.2.1), .int D.2.2.2.1, .int D.2.2.2.2.1, .int D.2.2.2.2.2]
def wvF (w : Nat) (D : wD) : List Value := [.ref (w + 1), .ref (w + 2), .ref (w + 3), .ref (w + 4), .int D.1, .int (nI D.2.2.2.2.2.1), .int (nI D.2.2.2.2.2.2)]
def plF (p nl nw : Nat) : List Value := [.ref (p + 1), .ref (p + 10), .int (nI nl), .int (nI nw)]
def plL (p : Nat) : Nat → Option Nat := fun j => some (p + 2 + 2 * j)
def plW (p : Nat) : Nat → Option Nat := fun j => some (p + 11 + 5 * j)
def hPl (h : hH) (p : Nat) (P : pD) : Prop :=
  (P.1 ≤ 4 ∧ P.2.1 ≤ 4) ∧ h.1 p = some (oC 4 (plF p P.1 P.2.1)) ∧ h.1 (p + 1) = some (aR RX3 4 (plL p)) ∧ h.1 (p + 10) = some (aR RX7 4 (plW p)) ∧
  (∀ j, j < 4 → hHas h [p + 2 + 2 * j, p + 2 + 2 * j + 1] [oC 3 (lpF (p + 2 + 2 * j) (P.2.2.1 j)), aI 3 (P.2.2.1 j).2.2.1]) ∧
  (∀ j, j < 4 → hHas h [p + 11 + 5 * j, p + 11 + 5 * j + 1, p + 11 + 5 * j + 2, p + 11 + 5 * j + 3, p + 11 + 5 * j + 4] [oC 7 (wvF (p + 11 + 5 * j) (P.2.2.2 j)), aI 8 (P.2.2.2 j).2.1, aI 8 (P.2.2.2 j).2.2.1, aI 8 (P.2.2.2 j).2.2.2.1, aI 8 (P.2.2.2 j).2.2.2.2.1])
def updD {α : Type} (f : Nat → α) (k : Nat) (x : α) : Nat → α := fun j => if j = k then x else f j
/-- nothing beyond the reader and the plan moves -/
def rFr (q p : Nat) (h h2 : hH) : Prop := h2.2 = h.2 ∧ ∀ a, a ≠ q → (a < p ∨ p + 31 ≤ a) → h2.1 a = h.1 a
def rAp (q qt p : Nat) : Prop := q ≠ qt ∧ (q < p ∨ p + 31 ≤ q) ∧ (qt < p ∨ p + 31 ≤ qt)
def rB (h : hH) (q qt p : Nat) (ft : Nat → Int32) (x : rD) (P : pD) : Prop := h.1 q = some (oC 5 (rdF qt p x)) ∧ h.1 qt = some (aB 600 ft) ∧ hPl h p P ∧ rAp q qt p
theorem hHas_ne {h h2 : hH} {as : List Nat} {cs : List hC} (w : hHas h as cs) (n : ∀ a, a ∈ as → h2.1 a = h.1 a) : hHas h2 as cs := by
  intro i q c h1 h2
  rw [n q (List.mem_of_getElem? h1)]
  exact w i q c h1 h2
theorem ndL {q qt p j l : Nat} (a : rAp q qt p) (hj : j < 4) (hl : l = p + 2 + 2 * j) : [q, qt, p, p + 1, l, l + 1].Nodup := by
  obtain ⟨a1, a2, a3⟩ := a
  simp only [List.nodup_cons, List.mem_cons, List.not_mem_nil, or_false, not_or, not_false_eq_true, List.nodup_nil, and_true]
  omega
theorem ndW {q qt p j l : Nat} (a : rAp q qt p) (hj : j < 4) (hl : l = p + 11 + 5 * j) : [q, qt, p, p + 10, l, l + 1, l + 2, l + 3, l + 4].Nodup := by
  obtain ⟨a1, a2, a3⟩ := a
  simp only [List.nodup_cons, List.mem_cons, List.not_mem_nil, or_false, not_or, not_false_eq_true, List.nodup_nil, and_true]
  omega
/-- the plan after a walk over one loop -/
theorem hPl_L {h : hH} {q qt p j l nl : Nat} {P : pD} {D : lD} {c1 c2 : hC} (hp : hPl h p P) (a : rAp q qt p) (hj : j < 4) (hl : l = p + 2 + 2 * j) (hn : nl ≤ 4) : hPl (hUs h [q, qt, p, p + 1, l, l + 1] [c1, c2, oC 4 (plF p nl P.2.1), aR RX3 4 (plL p), oC 3 (lpF l D), aI 3 D.2.2.1]) p (nl, P.2.1, updD P.2.2.1 j D, P.2.2.2) := by
  have nd := ndL a hj hl
  obtain ⟨a1, a2, a3⟩ := a
  obtain ⟨p1, p2, p3, p4, p5, p6⟩ := hp
  refine ⟨⟨hn, p1.2⟩, hUs_at nd 2 rfl rfl, hUs_at nd 3 rfl rfl, ?_, ?_, ?_⟩
  · rw [hUs_ne (by simp; omega)]; exact p4
  · intro i hi
    by_cases e : i = j
    · subst e; subst hl
      have z : updD P.2.2.1 i D i = D := if_pos rfl
      simp only [z]
      exact hHas_cons (hUs_at nd 4 rfl rfl) (hHas_cons (hUs_at nd 5 rfl rfl) hHas_nil)
    · have z : updD P.2.2.1 j D i = P.2.2.1 i := if_neg e
      simp only [z]
      exact hHas_ne (p5 i hi) (fun b hb => hUs_ne (by simp at hb ⊢; omega))
  · intro i hi
    exact hHas_ne (p6 i hi) (fun b hb => hUs_ne (by simp at hb ⊢; omega))
theorem hPl_W {h : hH} {q qt p j l nw : Nat} {P : pD} {D : wD} {c1 c2 : hC} (hp : hPl h p P) (a : rAp q qt p) (hj : j < 4) (hl : l = p + 11 + 5 * j) (hn : nw ≤ 4) : hPl (hUs h [q, qt, p, p + 10, l, l + 1, l + 2, l + 3, l + 4] [c1, c2, oC 4 (plF p P.1 nw), aR RX7 4 (plW p), oC 7 (wvF l D), aI 8 D.2.1, aI 8 D.2.2.1, aI 8 D.2.2.2.1, aI 8 D.2.2.2.2.1]) p (P.1, nw, P.2.2.1, updD P.2.2.2 j D) := by
  have nd := ndW a hj hl
  obtain ⟨a1, a2, a3⟩ := a
  obtain ⟨p1, p2, p3, p4, p5, p6⟩ := hp
  refine ⟨⟨p1.1, hn⟩, hUs_at nd 2 rfl rfl, ?_, hUs_at nd 3 rfl rfl, ?_, ?_⟩
  · rw [hUs_ne (by simp; omega)]; exact p3
  · intro i hi
    exact hHas_ne (p5 i hi) (fun b hb => hUs_ne (by simp at hb ⊢; omega))
  · intro i hi
    by_cases e : i = j
    · subst e; subst hl
      have z : updD P.2.2.2 i D i = D := if_pos rfl
      simp only [z]
      exact hHas_cons (hUs_at nd 4 rfl rfl) (hHas_cons (hUs_at nd 5 rfl rfl) (hHas_cons (hUs_at nd 6 rfl rfl) (hHas_cons (hUs_at nd 7 rfl rfl) (hHas_cons (hUs_at nd 8 rfl rfl) hHas_nil))))
    · have z : updD P.2.2.2 j D i = P.2.2.2 i := if_neg e
      simp only [z]
      exact hHas_ne (p6 i hi) (fun b hb => hUs_ne (by simp at hb ⊢; omega))
theorem rFr_L {h : hH} {q qt p j l : Nat} {cs : List hC} (e : h.1 qt = (hUs h [q, qt, p, p + 1, l, l + 1] cs).1 qt) (hj : j < 4) (hl : l = p + 2 + 2 * j) : rFr q p h (hUs h [q, qt, p, p + 1, l, l + 1] cs) := by
  refine ⟨hUs_2, fun a h1 h2 => ?_⟩
  by_cases z : a = qt
  · subst z; exact e.symm
  · exact hUs_ne (by simp; omega)
theorem rFr_W {h : hH} {q qt p j l : Nat} {cs : List hC} (e : h.1 qt = (hUs h [q, qt, p, p + 10, l, l + 1, l + 2, l + 3, l + 4] cs).1 qt) (hj : j < 4) (hl : l = p + 11 + 5 * j) : rFr q p h (hUs h [q, qt, p, p + 10, l, l + 1, l + 2, l + 3, l + 4] cs) := by
  refine ⟨hUs_2, fun a h1 h2 => ?_⟩
  by_cases z : a = qt
  · subst z; exact e.symm
  · exact hUs_ne (by simp; omega)
/-! names -/
def nmL (P : pD) (i : Nat) : Int32 := if i < P.1 then (P.2.2.1 i).1 else 0
def nmW (P : pD) (i : Nat) : Int32 := if i < P.2.1 then (P.2.2.2 i).1 else 0
def hasN (P : pD) (x : Int32) : Nat → Nat → Int32
  | 0, _ => 0
  | n + 1, i => if nmL P i = x ∨ nmW P i = x then 1 else hasN P x n (i + 1)
def rNm (ft : Nat → Int32) (P : pD) (x : rD) : Int32 × rD :=
  if x.2.2.1 = 1 ∧ rRs x.2.2.1 x.2.2.2.2.1 = 0 then (if hasN P x.2.2.2.2.1 4 0 = 0 then (1, rStp ft (rTk x x.2.2.2.2.1)) else (0, rFl x 3 (nI x.2.2.2.1))) else (0, rFl x 1 (nI x.2.2.2.1))
theorem rNm_ok (ft : Nat → Int32) (P : pD) {x : rD} (h : rOk x) : rOk (rNm ft P x).2 := by
  unfold rNm; split
  · split
    · exact rStp_ok ft (rTk_ok _ h)
    · exact h
  · exact h
theorem isW_b (kd vl : Int32) (bs : List Int32) (n : Nat) : narrow .boolean (.int (isW kd vl bs n)) = .int (isW kd vl bs n) := by
  unfold isW; split <;> rfl
theorem isW_f (kd vl : Int32) (bs : List Int32) (n : Nat) : fits .boolean (.int (isW kd vl bs n)) = true := by
  unfold isW; split <;> rfl
set_option maxRecDepth 100000 in
set_option maxHeartbeats 4000000 in
theorem c_nameOf0_s {G : wG} {d : Nat} {h : hH} {Q : Option Value → hH → Prop} {p : Nat} {P : pD} {i : Nat} (hp : hPl h p P) (hi4 : i < 4) (hi : i < P.1) (k : Q (some (.int (P.2.2.1 i).1)) h) : Cl G yX4_nameOf (d + 1) 0 0 [.ref p, .int 0, .int (nI i)] h Q := by
  have hw : hHas h [p, p + 1, p + 2 + 2 * i] [(oC 4 [.ref (p + 1), .ref (p + 10), .int (nI P.1), .int (nI P.2.1)]), (aR RX3 4 (plL p)), (oC 3 [.ref (p + 2 + 2 * i + 1), .int (P.2.2.1 i).1, .int (nI (P.2.2.1 i).2.1), .int (P.2.2.1 i).2.2.2.1, .int (P.2.2.1 i).2.2.2.2.1, .int (P.2.2.1 i).2.2.2.2.2])] := hHas_cons hp.2.1 (hHas_cons hp.2.2.1 (hHas_cons ((hp.2.2.2.2.1 i hi4) 0 _ _ rfl rfl) hHas_nil))
  refine Cl.of (ini := false) kX4_nameOf (plainFor_of_name (by decide)) (by decide) (Nat.le_of_ble_eq_true rfl) rfl rfl (fun z => by cases z) ?_
  refine w_iload_n dX4_nameOf_0 rfl ?_
  refine w_if_ne_f (tgt := 23) dX4_nameOf_1 rfl (by decide) ?_
  refine w_aload_n dX4_nameOf_4 rfl ?_
  refine w_iload_n dX4_nameOf_5 rfl ?_
  refine w_callV (ci := 4) (d' := d) (mc' := 0) (ms' := 0) (As := [.int (nI i)]) (st := []) lX4_36 vX4_loopAt rfl (hw 0 _ _ rfl rfl) rfl (Nat.le_of_ble_eq_true rfl) dX4_nameOf_6 (Nat.le_of_ble_eq_true rfl) (Nat.le_of_ble_eq_true rfl) (Nat.le_refl _) (c_loopAt_s (hHas_s hw (as' := [p, p + 1]) (cs' := [(oC 4 [.ref (p + 1), .ref (p + 10), .int (nI P.1), .int (nI P.2.1)]), (aR RX3 4 (plL p))]) [0, 1] rfl rfl) hi hp.1.1 rfl ?_)
  refine w_astore_n (ls2 := [some (.ref p), some (.int 0), some (.int (nI i)), some (.ref (p + 2 + 2 * i))]) dX4_nameOf_9 (by decide) rfl rfl ?_
  refine w_aload_n dX4_nameOf_10 rfl ?_
  refine w_ifnonnull (tgt := 18) dX4_nameOf_11 rfl ?_
  refine w_aload_n dX4_nameOf_18 rfl ?_
  refine w_get (v := .int (P.2.2.1 i).1) fX4_40 (hw 2 _ _ rfl rfl) rfl dX4_nameOf_19 ?_
  refine w_ireturn rfl dX4_nameOf_22 (Nat.le_of_ble_eq_true rfl) (Nat.le_of_ble_eq_true rfl) ?_
  exact k
set_option maxRecDepth 100000 in
set_option maxHeartbeats 4000000 in
theorem c_nameOf0_n {G : wG} {d : Nat} {h : hH} {Q : Option Value → hH → Prop} {p : Nat} {P : pD} {i : Nat} (hp : hPl h p P) (hi4 : i < 4) (hi : ¬ i < P.1) (k : Q (some (.int 0)) h) : Cl G yX4_nameOf (d + 1) 0 0 [.ref p, .int 0, .int (nI i)] h Q := by
  have hw : hHas h [p] [(oC 4 [.ref (p + 1), .ref (p + 10), .int (nI P.1), .int (nI P.2.1)])] := hHas_cons hp.2.1 hHas_nil
  refine Cl.of (ini := false) kX4_nameOf (plainFor_of_name (by decide)) (by decide) (Nat.le_of_ble_eq_true rfl) rfl rfl (fun z => by cases z) ?_
  refine w_iload_n dX4_nameOf_0 rfl ?_
  refine w_if_ne_f (tgt := 23) dX4_nameOf_1 rfl (by decide) ?_
  refine w_aload_n dX4_nameOf_4 rfl ?_
  refine w_iload_n dX4_nameOf_5 rfl ?_
  refine w_callV (ci := 4) (d' := d) (mc' := 0) (ms' := 0) (As := [.int (nI i)]) (st := []) lX4_36 vX4_loopAt rfl (hw 0 _ _ rfl rfl) rfl (Nat.le_of_ble_eq_true rfl) dX4_nameOf_6 (Nat.le_of_ble_eq_true rfl) (Nat.le_of_ble_eq_true rfl) (Nat.le_refl _) (c_loopAt_n (hHas_s hw (as' := [p]) (cs' := [(oC 4 [.ref (p + 1), .ref (p + 10), .int (nI P.1), .int (nI P.2.1)])]) [0] rfl rfl) (fun ⟨j, z, e⟩ => by have := (nI_eq (a := i) (b := j) (by omega) (by have := hp.1; omega)).mp e; omega) hp.1.1 ?_)
  refine w_astore_nN (ls2 := [some (.ref p), some (.int 0), some (.int (nI i)), some (.null)]) dX4_nameOf_9 (by decide) rfl rfl ?_
  refine w_aload_nN dX4_nameOf_10 rfl ?_
  refine w_ifnonnullN dX4_nameOf_11 ?_
  refine w_iconst (v := 0) dX4_nameOf_14 (by decide) ?_
  refine w_goto (tgt := 22) dX4_nameOf_15 rfl ?_
  refine w_ireturn rfl dX4_nameOf_22 (Nat.le_of_ble_eq_true rfl) (Nat.le_of_ble_eq_true rfl) ?_
  exact k
theorem c_nameOf0 {G : wG} {d : Nat} {h : hH} {Q : Option Value → hH → Prop} {p : Nat} {P : pD} {i : Nat} (hp : hPl h p P) (hi4 : i < 4) (k : Q (some (.int (nmL P i))) h) : Cl G yX4_nameOf (d + 1) 0 0 [.ref p, .int 0, .int (nI i)] h Q := by
  unfold nmL at k
  by_cases z : i < P.1
  · rw [if_pos z] at k; exact c_nameOf0_s hp hi4 z k
  · rw [if_neg z] at k; exact c_nameOf0_n hp hi4 z k
set_option maxRecDepth 100000 in
set_option maxHeartbeats 4000000 in
theorem c_nameOf1_s {G : wG} {d : Nat} {h : hH} {Q : Option Value → hH → Prop} {p : Nat} {P : pD} {i : Nat} (hp : hPl h p P) (hi4 : i < 4) (hi : i < P.2.1) (k : Q (some (.int (P.2.2.2 i).1)) h) : Cl G yX4_nameOf (d + 1) 0 0 [.ref p, .int 1, .int (nI i)] h Q := by
  have hw : hHas h [p, p + 10, p + 11 + 5 * i] [(oC 4 [.ref (p + 1), .ref (p + 10), .int (nI P.1), .int (nI P.2.1)]), (aR RX7 4 (plW p)), (oC 7 [.ref (p + 11 + 5 * i + 1), .ref (p + 11 + 5 * i + 2), .ref (p + 11 + 5 * i + 3), .ref (p + 11 + 5 * i + 4), .int (P.2.2.2 i).1, .int (nI (P.2.2.2 i).2.2.2.2.2.1), .int (nI (P.2.2.2 i).2.2.2.2.2.2)])] := hHas_cons hp.2.1 (hHas_cons hp.2.2.2.1 (hHas_cons ((hp.2.2.2.2.2 i hi4) 0 _ _ rfl rfl) hHas_nil))
  refine Cl.of (ini := false) kX4_nameOf (plainFor_of_name (by decide)) (by decide) (Nat.le_of_ble_eq_true rfl) rfl rfl (fun z => by cases z) ?_
  refine w_iload_n dX4_nameOf_0 rfl ?_
  refine w_if_ne_t (tgt := 23) dX4_nameOf_1 rfl (by decide) ?_
  refine w_aload_n dX4_nameOf_23 rfl ?_
  refine w_iload_n dX4_nameOf_24 rfl ?_
  refine w_callV (ci := 4) (d' := d) (mc' := 0) (ms' := 0) (As := [.int (nI i)]) (st := []) lX4_43 vX4_waveAt rfl (hw 0 _ _ rfl rfl) rfl (Nat.le_of_ble_eq_true rfl) dX4_nameOf_25 (Nat.le_of_ble_eq_true rfl) (Nat.le_of_ble_eq_true rfl) (Nat.le_refl _) (c_waveAt_s (hHas_s hw (as' := [p, p + 10]) (cs' := [(oC 4 [.ref (p + 1), .ref (p + 10), .int (nI P.1), .int (nI P.2.1)]), (aR RX7 4 (plW p))]) [0, 1] rfl rfl) hi hp.1.2 rfl ?_)
  refine w_astore_n (ls2 := [some (.ref p), some (.int 1), some (.int (nI i)), some (.ref (p + 11 + 5 * i))]) dX4_nameOf_28 (by decide) rfl rfl ?_
  refine w_aload_n dX4_nameOf_29 rfl ?_
  refine w_ifnonnull (tgt := 37) dX4_nameOf_30 rfl ?_
  refine w_aload_n dX4_nameOf_37 rfl ?_
  refine w_get (v := .int (P.2.2.2 i).1) fX4_47 (hw 2 _ _ rfl rfl) rfl dX4_nameOf_38 ?_
  refine w_ireturn rfl dX4_nameOf_41 (Nat.le_of_ble_eq_true rfl) (Nat.le_of_ble_eq_true rfl) ?_
  exact k
set_option maxRecDepth 100000 in
set_option maxHeartbeats 4000000 in
theorem c_nameOf1_n {G : wG} {d : Nat} {h : hH} {Q : Option Value → hH → Prop} {p : Nat} {P : pD} {i : Nat} (hp : hPl h p P) (hi4 : i < 4) (hi : ¬ i < P.2.1) (k : Q (some (.int 0)) h) : Cl G yX4_nameOf (d + 1) 0 0 [.ref p, .int 1, .int (nI i)] h Q := by
  have hw : hHas h [p] [(oC 4 [.ref (p + 1), .ref (p + 10), .int (nI P.1), .int (nI P.2.1)])] := hHas_cons hp.2.1 hHas_nil
  refine Cl.of (ini := false) kX4_nameOf (plainFor_of_name (by decide)) (by decide) (Nat.le_of_ble_eq_true rfl) rfl rfl (fun z => by cases z) ?_
  refine w_iload_n dX4_nameOf_0 rfl ?_
  refine w_if_ne_t (tgt := 23) dX4_nameOf_1 rfl (by decide) ?_
  refine w_aload_n dX4_nameOf_23 rfl ?_
  refine w_iload_n dX4_nameOf_24 rfl ?_
  refine w_callV (ci := 4) (d' := d) (mc' := 0) (ms' := 0) (As := [.int (nI i)]) (st := []) lX4_43 vX4_waveAt rfl (hw 0 _ _ rfl rfl) rfl (Nat.le_of_ble_eq_true rfl) dX4_nameOf_25 (Nat.le_of_ble_eq_true rfl) (Nat.le_of_ble_eq_true rfl) (Nat.le_refl _) (c_waveAt_n (hHas_s hw (as' := [p]) (cs' := [(oC 4 [.ref (p + 1), .ref (p + 10), .int (nI P.1), .int (nI P.2.1)])]) [0] rfl rfl) (fun ⟨j, z, e⟩ => by have := (nI_eq (a := i) (b := j) (by omega) (by have := hp.1; omega)).mp e; omega) hp.1.2 ?_)
  refine w_astore_nN (ls2 := [some (.ref p), some (.int 1), some (.int (nI i)), some (.null)]) dX4_nameOf_28 (by decide) rfl rfl ?_
  refine w_aload_nN dX4_nameOf_29 rfl ?_
  refine w_ifnonnullN dX4_nameOf_30 ?_
  refine w_iconst (v := 0) dX4_nameOf_33 (by decide) ?_
  refine w_goto (tgt := 41) dX4_nameOf_34 rfl ?_
  refine w_ireturn rfl dX4_nameOf_41 (Nat.le_of_ble_eq_true rfl) (Nat.le_of_ble_eq_true rfl) ?_
  exact k
theorem c_nameOf1 {G : wG} {d : Nat} {h : hH} {Q : Option Value → hH → Prop} {p : Nat} {P : pD} {i : Nat} (hp : hPl h p P) (hi4 : i < 4) (k : Q (some (.int (nmW P i))) h) : Cl G yX4_nameOf (d + 1) 0 0 [.ref p, .int 1, .int (nI i)] h Q := by
  unfold nmW at k
  by_cases z : i < P.2.1
  · rw [if_pos z] at k; exact c_nameOf1_s hp hi4 z k
  · rw [if_neg z] at k; exact c_nameOf1_n hp hi4 z k
set_option maxRecDepth 100000 in
set_option maxHeartbeats 4000000 in
theorem l_hasName {G : wG} {d : Nat} {h : hH} {Q : Option Value → hH → Prop} {p : Nat} {P : pD} {x : Int32} (hw : hHas h [p] [(oC 4 [.ref (p + 1), .ref (p + 10), .int (nI P.1), .int (nI P.2.1)])]) (hp : hPl h p P) : ∀ (n : Nat) (i : Nat), i + n = 4 → Q (some (.int (hasN P x n i))) h → WP G RX4 cX4_hasName 3 (some .boolean) false (d + 2) 0 0 0 0 Q 2 [some (.ref p), some (.int x), some (.int (nI i))] [] h := by
  intro n
  induction n with
  | zero =>
    intro i hi k
    refine w_iload_n dX4_hasName_2 rfl ?_
    refine w_iconst (v := 4) dX4_hasName_3 (by decide) ?_
    refine w_icmp_ge_t (tgt := 35) dX4_hasName_4 rfl ((nI_leI (a := 4) (b := i) (by omega) (by omega)).mpr (by omega)) ?_
    refine w_iconst (v := 0) dX4_hasName_35 (by decide) ?_
    refine w_zreturn rfl dX4_hasName_36 rfl (Nat.le_of_ble_eq_true rfl) (Nat.le_of_ble_eq_true rfl) ?_
    exact k
  | succ n ih =>
    intro i hi k
    refine w_iload_n dX4_hasName_2 rfl ?_
    refine w_iconst (v := 4) dX4_hasName_3 (by decide) ?_
    refine w_icmp_ge_f (tgt := 35) dX4_hasName_4 rfl (fun z => absurd ((nI_leI (a := 4) (b := i) (by omega) (by omega)).mp z) (by omega)) ?_
    refine w_aload_n dX4_hasName_7 rfl ?_
    refine w_iconst (v := 0) dX4_hasName_8 (by decide) ?_
    refine w_iload_n dX4_hasName_9 rfl ?_
    refine w_callV (ci := 4) (d' := d + 1) (mc' := 0) (ms' := 0) (As := [.int 0, .int (nI i)]) (st := []) lX4_48 vX4_nameOf rfl (hw 0 _ _ rfl rfl) rfl (Nat.le_of_ble_eq_true rfl) dX4_hasName_10 (Nat.le_of_ble_eq_true rfl) (Nat.le_of_ble_eq_true rfl) (Nat.le_refl _) (c_nameOf0 hp (by omega) ?_)
    refine w_iload_n dX4_hasName_13 rfl ?_
    refine w_icmp_eq (tgt := 27) dX4_hasName_14 rfl (fun b14 => ?_) (fun b14 => ?_)
    · refine w_iconst (v := 1) dX4_hasName_27 (by decide) ?_
      refine w_zreturn rfl dX4_hasName_28 rfl (Nat.le_of_ble_eq_true rfl) (Nat.le_of_ble_eq_true rfl) ?_
      rw [hasN, if_pos (Or.inl b14)] at k
      exact k
    · refine w_aload_n dX4_hasName_17 rfl ?_
      refine w_iconst (v := 1) dX4_hasName_18 (by decide) ?_
      refine w_iload_n dX4_hasName_19 rfl ?_
      refine w_callV (ci := 4) (d' := d + 1) (mc' := 0) (ms' := 0) (As := [.int 1, .int (nI i)]) (st := []) lX4_48 vX4_nameOf rfl (hw 0 _ _ rfl rfl) rfl (Nat.le_of_ble_eq_true rfl) dX4_hasName_20 (Nat.le_of_ble_eq_true rfl) (Nat.le_of_ble_eq_true rfl) (Nat.le_refl _) (c_nameOf1 hp (by omega) ?_)
      refine w_iload_n dX4_hasName_23 rfl ?_
      refine w_icmp_ne (tgt := 29) dX4_hasName_24 rfl (fun b24 => ?_) (fun b24 => ?_)
      · refine w_iinc (v := nI (i + 1)) (ls2 := [some (.ref p), some (.int x), some (.int (nI (i + 1)))]) dX4_hasName_29 rfl (nI_1 _) (by decide) rfl rfl ?_
        refine w_goto (tgt := 2) dX4_hasName_32 rfl ?_
        rw [hasN, if_neg (fun z => z.elim b14 b24)] at k
        exact ih (i + 1) (by omega) k
      · refine w_iconst (v := 1) dX4_hasName_27 (by decide) ?_
        refine w_zreturn rfl dX4_hasName_28 rfl (Nat.le_of_ble_eq_true rfl) (Nat.le_of_ble_eq_true rfl) ?_
        rw [hasN, if_pos (Or.inr b24)] at k
        exact k
set_option maxRecDepth 100000 in
set_option maxHeartbeats 4000000 in
theorem c_hasName {G : wG} {d : Nat} {h : hH} {Q : Option Value → hH → Prop} {p : Nat} {P : pD} {x : Int32} (hp : hPl h p P) (k : Q (some (.int (hasN P x 4 0))) h) : Cl G yX4_hasName (d + 2) 0 0 [.ref p, .int x] h Q := by
  have hw : hHas h [p] [(oC 4 [.ref (p + 1), .ref (p + 10), .int (nI P.1), .int (nI P.2.1)])] := hHas_cons hp.2.1 hHas_nil
  refine Cl.of (ini := false) kX4_hasName (plainFor_of_name (by decide)) (by decide) (Nat.le_of_ble_eq_true rfl) rfl rfl (fun z => by cases z) ?_
  refine w_iconst (v := (nI 0)) dX4_hasName_0 (by decide) ?_
  refine w_istore_n (ls2 := [some (.ref p), some (.int x), some (.int (nI 0))]) dX4_hasName_1 (by decide) rfl rfl ?_
  exact l_hasName hw hp 4 0 rfl k
set_option maxRecDepth 100000 in
set_option maxHeartbeats 4000000 in
theorem c_takeName {G : wG} {d : Nat} {h : hH} {Q : Option Value → hH → Prop} {q qt p : Nat} {x : rD} {ft : Nat → Int32} {P : pD} (hw : hHas h [q, qt, p] [(oC 5 (rdF qt p x)), (aB 600 ft), (oC 4 [.ref (p + 1), .ref (p + 10), .int (nI P.1), .int (nI P.2.1)])]) (nd : [q, qt, p].Nodup) (hok : rOk x) (hp : hPl h p P) (k : Q (some (.int (rNm ft P x).1)) (hUs h [q, qt, p] [oC 5 (rdF qt p (rNm ft P x).2), aB 600 ft, (oC 4 [.ref (p + 1), .ref (p + 10), .int (nI P.1), .int (nI P.2.1)])])) : Cl G yX5_takeName (d + 9) 0 0 [.ref q] h Q := by
  refine Cl.of (ini := false) kX5_takeName (plainFor_of_name (by decide)) (by decide) (Nat.le_of_ble_eq_true rfl) rfl rfl (fun z => by cases z) ?_
  refine w_heq (hUs_id hw).symm ?_
  refine w_aload_n dX5_takeName_0 rfl ?_
  refine w_get (v := .int x.2.2.1) fX5_63 (hUs_at nd 0 rfl rfl) rfl dX5_takeName_1 ?_
  refine w_iconst (v := 1) dX5_takeName_4 (by decide) ?_
  refine w_icmp_ne (tgt := 15) dX5_takeName_5 rfl (fun b5 => ?_) (fun b5 => ?_)
  · refine w_aload_n dX5_takeName_15 rfl ?_
    refine w_iconst (v := 1) dX5_takeName_16 (by decide) ?_
    refine w_callV (ci := 5) (d' := d + 8) (mc' := 0) (ms' := 0) (As := [.int 1]) (st := []) lX5_59 vX5_failed rfl (hUs_at nd 0 rfl rfl) rfl (Nat.le_of_ble_eq_true rfl) dX5_takeName_17 (Nat.le_of_ble_eq_true rfl) (Nat.le_of_ble_eq_true rfl) (Nat.le_refl _) (c_failed (hHas_sub nd (as' := [q]) (cs' := [(oC 5 (rdF qt p x))]) [0] rfl rfl) (nd_sub nd (as' := [q]) [0] rfl rfl) ?_)
    refine w_heq (hUs_in nd rfl [0] (cs2 := [(oC 5 (rdF qt p (rFl x 1 (nI x.2.2.2.1)))), (aB 600 ft), (oC 4 [.ref (p + 1), .ref (p + 10), .int (nI P.1), .int (nI P.2.1)])]) rfl rfl) ?_
    refine w_zreturn rfl dX5_takeName_20 rfl (Nat.le_of_ble_eq_true rfl) (Nat.le_of_ble_eq_true rfl) ?_
    have e : rNm ft P x = (0, rFl x 1 (nI x.2.2.2.1)) := by
      rw [rNm, if_neg (fun z => b5 z.1)]
    rw [e] at k
    exact k
  · refine w_aload_n dX5_takeName_8 rfl ?_
    refine w_callV (ci := 5) (d' := d + 8) (mc' := 0) (ms' := 0) (As := []) (st := []) lX5_156 vX5_isReserved rfl (hUs_at nd 0 rfl rfl) rfl (Nat.le_of_ble_eq_true rfl) dX5_takeName_9 (Nat.le_of_ble_eq_true rfl) (Nat.le_of_ble_eq_true rfl) (Nat.le_refl _) (c_isReserved (hHas_sub nd (as' := [q]) (cs' := [(oC 5 (rdF qt p x))]) [0] rfl rfl)  ?_)
    refine w_if_eq (tgt := 21) dX5_takeName_12 rfl (fun b12 => ?_) (fun b12 => ?_)
    · refine w_aload_n dX5_takeName_21 rfl ?_
      refine w_get (v := .ref p) fX5_18 (hUs_at nd 0 rfl rfl) rfl dX5_takeName_22 ?_
      refine w_aload_n dX5_takeName_25 rfl ?_
      refine w_get (v := .int x.2.2.2.2.1) fX5_159 (hUs_at nd 0 rfl rfl) rfl dX5_takeName_26 ?_
      refine w_callV (ci := 4) (d' := d + 8) (mc' := 0) (ms' := 0) (As := [.int x.2.2.2.2.1]) (st := []) lX5_162 vX4_hasName rfl (hUs_at nd 2 rfl rfl) rfl (Nat.le_of_ble_eq_true rfl) dX5_takeName_29 (Nat.le_of_ble_eq_true rfl) (Nat.le_of_ble_eq_true rfl) (Nat.le_refl _) (c_hasName ((hUs_id hw).symm ▸ hp) ?_)
      refine w_if_eq (tgt := 41) dX5_takeName_32 rfl (fun b32 => ?_) (fun b32 => ?_)
      · refine w_aload_n dX5_takeName_41 rfl ?_
        refine w_aload_n dX5_takeName_42 rfl ?_
        refine w_get (v := .int x.2.2.2.2.1) fX5_159 (hUs_at nd 0 rfl rfl) rfl dX5_takeName_43 ?_
        refine w_put (fs' := (rdF qt p (rTk x x.2.2.2.2.1))) fX5_77 (hUs_at nd 0 rfl rfl) rfl rfl (Nat.le_of_ble_eq_true rfl) rfl dX5_takeName_46 ?_
        refine w_heq (hUs_set nd rfl 0 (cs' := [(oC 5 (rdF qt p (rTk x x.2.2.2.2.1))), (aB 600 ft), (oC 4 [.ref (p + 1), .ref (p + 10), .int (nI P.1), .int (nI P.2.1)])]) rfl rfl) ?_
        refine w_aload_n dX5_takeName_49 rfl ?_
        refine w_callV (ci := 5) (d' := d + 8) (mc' := 0) (ms' := 0) (As := []) (st := []) lX5_41 vX5_step rfl (hUs_at nd 0 rfl rfl) rfl (Nat.le_of_ble_eq_true rfl) dX5_takeName_50 (Nat.le_of_ble_eq_true rfl) (Nat.le_of_ble_eq_true rfl) (Nat.le_refl _) (c_step  (hHas_sub nd (as' := [q, qt]) (cs' := [(oC 5 (rdF qt p (rTk x x.2.2.2.2.1))), (aB 600 ft)]) [0, 1] rfl rfl) (nd_sub nd (as' := [q, qt]) [0, 1] rfl rfl) (rTk_ok _ hok) ?_)
        refine w_heq (hUs_in nd rfl [0, 1] (cs2 := [(oC 5 (rdF qt p (rStp ft (rTk x x.2.2.2.2.1)))), (aB 600 ft), (oC 4 [.ref (p + 1), .ref (p + 10), .int (nI P.1), .int (nI P.2.1)])]) rfl rfl) ?_
        refine w_iconst (v := 1) dX5_takeName_53 (by decide) ?_
        refine w_zreturn rfl dX5_takeName_54 rfl (Nat.le_of_ble_eq_true rfl) (Nat.le_of_ble_eq_true rfl) ?_
        have e : rNm ft P x = (1, rStp ft (rTk x x.2.2.2.2.1)) := by
          rw [rNm, if_pos ⟨by simpa using b5, b12⟩, if_pos b32]
        rw [e] at k
        exact k
      · refine w_aload_n dX5_takeName_35 rfl ?_
        refine w_iconst (v := 3) dX5_takeName_36 (by decide) ?_
        refine w_callV (ci := 5) (d' := d + 8) (mc' := 0) (ms' := 0) (As := [.int 3]) (st := []) lX5_59 vX5_failed rfl (hUs_at nd 0 rfl rfl) rfl (Nat.le_of_ble_eq_true rfl) dX5_takeName_37 (Nat.le_of_ble_eq_true rfl) (Nat.le_of_ble_eq_true rfl) (Nat.le_refl _) (c_failed (hHas_sub nd (as' := [q]) (cs' := [(oC 5 (rdF qt p x))]) [0] rfl rfl) (nd_sub nd (as' := [q]) [0] rfl rfl) ?_)
        refine w_heq (hUs_in nd rfl [0] (cs2 := [(oC 5 (rdF qt p (rFl x 3 (nI x.2.2.2.1)))), (aB 600 ft), (oC 4 [.ref (p + 1), .ref (p + 10), .int (nI P.1), .int (nI P.2.1)])]) rfl rfl) ?_
        refine w_zreturn rfl dX5_takeName_40 rfl (Nat.le_of_ble_eq_true rfl) (Nat.le_of_ble_eq_true rfl) ?_
        have e : rNm ft P x = (0, rFl x 3 (nI x.2.2.2.1)) := by
          rw [rNm, if_pos ⟨by simpa using b5, b12⟩, if_neg b32]
        rw [e] at k
        exact k
    · refine w_aload_n dX5_takeName_15 rfl ?_
      refine w_iconst (v := 1) dX5_takeName_16 (by decide) ?_
      refine w_callV (ci := 5) (d' := d + 8) (mc' := 0) (ms' := 0) (As := [.int 1]) (st := []) lX5_59 vX5_failed rfl (hUs_at nd 0 rfl rfl) rfl (Nat.le_of_ble_eq_true rfl) dX5_takeName_17 (Nat.le_of_ble_eq_true rfl) (Nat.le_of_ble_eq_true rfl) (Nat.le_refl _) (c_failed (hHas_sub nd (as' := [q]) (cs' := [(oC 5 (rdF qt p x))]) [0] rfl rfl) (nd_sub nd (as' := [q]) [0] rfl rfl) ?_)
      refine w_heq (hUs_in nd rfl [0] (cs2 := [(oC 5 (rdF qt p (rFl x 1 (nI x.2.2.2.1)))), (aB 600 ft), (oC 4 [.ref (p + 1), .ref (p + 10), .int (nI P.1), .int (nI P.2.1)])]) rfl rfl) ?_
      refine w_zreturn rfl dX5_takeName_20 rfl (Nat.le_of_ble_eq_true rfl) (Nat.le_of_ble_eq_true rfl) ?_
      have e : rNm ft P x = (0, rFl x 1 (nI x.2.2.2.1)) := by
        rw [rNm, if_neg (fun z => b12 z.2)]
      rw [e] at k
      exact k
