/-! worlds: cells put at a list of addresses that are apart -/
def hUs (h : hH) : List Nat → List hC → hH
  | a :: as, c :: cs => hU (hUs h as cs) a c
  | _, _ => h
def hHas (h : hH) (as : List Nat) (cs : List hC) : Prop := ∀ (i q : Nat) (c : hC), as[i]? = some q → cs[i]? = some c → h.1 q = some c
theorem hUs_at : ∀ {h : hH} {as : List Nat} {cs : List hC}, as.Nodup → ∀ (i : Nat) {q : Nat} {c : hC}, as[i]? = some q → cs[i]? = some c → (hUs h as cs).1 q = some c
  | h, [], cs, _, i, q, c, ha, _ => by simp at ha
  | h, a :: as, [], _, i, q, c, _, hc => by simp at hc
  | h, a :: as, b :: cs, nd, 0, q, c, ha, hc => by
    cases ha
    cases hc
    exact hU_s
  | h, a :: as, b :: cs, nd, i + 1, q, c, ha, hc => by
    have h1 := List.nodup_cons.mp nd
    have hm : q ∈ as := List.mem_of_getElem? (i := i) ha
    exact hU_e (fun e => h1.1 (e ▸ hm)) (hUs_at h1.2 i ha hc)
theorem hUs_set : ∀ {h : hH} {as : List Nat} {cs : List hC}, as.Nodup → as.length = cs.length → ∀ (i : Nat) {q : Nat} {c : hC} {cs' : List hC}, as[i]? = some q → cs.set i c = cs' → hU (hUs h as cs) q c = hUs h as cs'
  | h, [], cs, _, _, i, q, c, cs', ha, _ => by simp at ha
  | h, a :: as, [], _, hl, i, q, c, cs', _, _ => by cases hl
  | h, a :: as, b :: cs, nd, hl, 0, q, c, cs', ha, hs => by
    cases ha
    subst hs
    exact hU_hU
  | h, a :: as, b :: cs, nd, hl, i + 1, q, c, cs', ha, hs => by
    have h1 := List.nodup_cons.mp nd
    have hm : q ∈ as := List.mem_of_getElem? (i := i) ha
    have hne : a ≠ q := fun e => h1.1 (e ▸ hm)
    subst hs
    show hU (hU (hUs h as cs) a b) q c = hU (hUs h as (cs.set i c)) a b
    rw [hU_sw hne, hUs_set h1.2 (Nat.succ.inj hl) i ha rfl]
theorem hUs_id : ∀ {h : hH} {as : List Nat} {cs : List hC}, hHas h as cs → hUs h as cs = h
  | h, [], [], _ => rfl
  | h, [], _ :: _, _ => rfl
  | h, _ :: _, [], _ => rfl
  | h, a :: as, c :: cs, hw => by
    show hU (hUs h as cs) a c = h
    rw [hUs_id (fun i q c ha hc => hw (i + 1) q c ha hc)]
    exact hU_id (hw 0 a c rfl rfl)
theorem hUs_has {h : hH} {as : List Nat} {cs : List hC} (nd : as.Nodup) : hHas (hUs h as cs) as cs := fun i _ _ ha hc => hUs_at nd i ha hc
theorem wPk {α : Type} {xs ys : List α} {ps : List Nat} (h : ps.map (fun i => xs[i]?) = ys.map some) {k : Nat} {y : α} (hk : ys[k]? = some y) : ∃ i, ps[k]? = some i ∧ xs[i]? = some y := by
  have h1 : (ps.map (fun i => xs[i]?))[k]? = some (some y) := by rw [h, List.getElem?_map, hk]; rfl
  rw [List.getElem?_map] at h1
  cases hi : ps[k]? with
  | none => rw [hi] at h1; cases h1
  | some i => rw [hi] at h1; exact ⟨i, rfl, Option.some.inj h1⟩
theorem hHas_sub {h : hH} {as as' : List Nat} {cs cs' : List hC} (nd : as.Nodup) (ps : List Nat) (ha : ps.map (fun i => as[i]?) = as'.map some) (hc : ps.map (fun i => cs[i]?) = cs'.map some) : hHas (hUs h as cs) as' cs' := by
  intro k q c hq hcq
  obtain ⟨i, h1, h2⟩ := wPk ha hq
  obtain ⟨j, h3, h4⟩ := wPk hc hcq
  cases h1.symm.trans h3
  exact hUs_at nd i h2 h4
theorem hHas_s {h : hH} {as as' : List Nat} {cs cs' : List hC} (hw : hHas h as cs) (ps : List Nat) (ha : ps.map (fun i => as[i]?) = as'.map some) (hc : ps.map (fun i => cs[i]?) = cs'.map some) : hHas h as' cs' := by
  intro k q c hq hcq
  obtain ⟨i, h1, h2⟩ := wPk ha hq
  obtain ⟨j, h3, h4⟩ := wPk hc hcq
  cases h1.symm.trans h3
  exact hw i q c h2 h4
theorem nd_get {as : List Nat} (nd : as.Nodup) {i j q : Nat} (hi : as[i]? = some q) (hj : as[j]? = some q) : i = j := by
  have hl := (List.getElem?_eq_some_iff.mp hi).1
  exact (List.getElem?_inj hl nd).mp (hi.trans hj.symm)
theorem nd_sub {as as' : List Nat} (nd : as.Nodup) (ps : List Nat) (hp : va_nd ps = true) (ha : ps.map (fun i => as[i]?) = as'.map some) : as'.Nodup := by
  rw [List.nodup_iff_pairwise_ne, List.pairwise_iff_getElem]
  intro i j hi hj hij e
  obtain ⟨a, h1, h2⟩ := wPk ha (List.getElem?_eq_getElem hi)
  obtain ⟨b, h3, h4⟩ := wPk ha (List.getElem?_eq_getElem hj)
  rw [← e] at h4
  have hab := nd_get nd h2 h4
  subst hab
  have := va_nd_inj ps hp i j a h1 h3
  omega
theorem nd_ne {as : List Nat} (nd : as.Nodup) (i j : Nat) {a b : Nat} (hi : as[i]? = some a) (hj : as[j]? = some b) (hn : Nat.beq i j = false) : a ≠ b := by
  intro e
  subst e
  have := nd_get nd hi hj
  subst this
  rw [Nat.beq_refl] at hn
  cases hn
def wSets (cs : List hC) : List Nat → List hC → List hC
  | p :: ps, c :: cs1 => (wSets cs ps cs1).set p c
  | _, _ => cs
theorem wSets_len (cs : List hC) : ∀ (ps : List Nat) (cs1 : List hC), (wSets cs ps cs1).length = cs.length
  | [], _ => rfl
  | _ :: _, [] => rfl
  | p :: ps, c :: cs1 => by
    show ((wSets cs ps cs1).set p c).length = _
    rw [List.length_set]
    exact wSets_len cs ps cs1
theorem hUs_in {h : hH} {as : List Nat} {cs : List hC} (nd : as.Nodup) (hl : as.length = cs.length) : ∀ (ps : List Nat) {as' : List Nat} {cs1 cs2 : List hC}, ps.map (fun i => as[i]?) = as'.map some → wSets cs ps cs1 = cs2 → hUs (hUs h as cs) as' cs1 = hUs h as cs2
  | [], as', cs1, cs2, ha, hs => by
    subst hs
    cases as' with
    | nil => rfl
    | cons a l => cases ha
  | p :: ps, as', cs1, cs2, ha, hs => by
    subst hs
    cases as' with
    | nil => cases ha
    | cons a l =>
      cases cs1 with
      | nil => rfl
      | cons c cs1 =>
        have h1 : as[p]? = some a ∧ ps.map (fun i => as[i]?) = l.map some := by
          simp only [List.map_cons, List.cons.injEq] at ha
          exact ha
        show hU (hUs (hUs h as cs) l cs1) a c = hUs h as ((wSets cs ps cs1).set p c)
        rw [hUs_in nd hl ps h1.2 rfl]
        exact hUs_set nd (by rw [wSets_len]; exact hl) p h1.1 rfl
theorem hUs_hUs {h : hH} {as : List Nat} {cs cs1 : List hC} (nd : as.Nodup) (hl : as.length = cs.length) (hl1 : cs1.length = cs.length) : hUs (hUs h as cs) as cs1 = hUs h as cs1 := by
  induction as generalizing cs cs1 with
  | nil => cases cs <;> cases cs1 <;> rfl
  | cons a l ih =>
    cases cs with
    | nil => cases hl
    | cons c cs =>
      cases cs1 with
      | nil => cases hl1
      | cons c1 cs1 =>
        have h1 := List.nodup_cons.mp nd
        have key : ∀ (l2 : List Nat) (ds : List hC), a ∉ l2 → hUs (hU (hUs h l cs) a c) l2 ds = hU (hUs (hUs h l cs) l2 ds) a c := by
          intro l2
          induction l2 with
          | nil => intro ds _; cases ds <;> rfl
          | cons b l2 ih2 =>
            intro ds hb
            cases ds with
            | nil => rfl
            | cons e ds =>
              have hb1 : a ≠ b := fun z => hb (z ▸ List.mem_cons_self)
              show hU (hUs (hU (hUs h l cs) a c) l2 ds) b e = _
              rw [ih2 ds (fun z => hb (List.mem_cons_of_mem _ z)), hU_sw hb1]
              rfl
        show hU (hUs (hU (hUs h l cs) a c) l cs1) a c1 = hU (hUs h l cs1) a c1
        rw [key l cs1 h1.1, hU_hU, ih h1.2 (Nat.succ.inj hl) (Nat.succ.inj hl1)]
section
variable {G : wG} {own : String} {cc : ByteArray} {nL : Nat} {ret : Option FieldType} {ini : Bool} {d mc ms cells slots : Nat} {Q : Option Value → hH → Prop} {pc : Nat} {ls : List (Option Value)} {st : List Value} {h h2 : hH}
theorem w_heq (e : h = h2) (k : WP G own cc nL ret ini d mc ms cells slots Q pc ls st h2) : WP G own cc nL ret ini d mc ms cells slots Q pc ls st h := e ▸ k
/-- an array's contents, where its world has them -/
theorem w_wext {as : List Nat} {cs cs' : List hC} (nd : as.Nodup) (hl : as.length = cs.length) (i : Nat) {q n : Nat} {ty : FieldType} {f : Nat → Int32} (g : Nat → Int32) (ha : as[i]? = some q) (hc : cs[i]? = some (.inl (ty, n, .inl f))) (hs : cs.set i (.inl (ty, n, .inl g)) = cs') (he : ∀ j, j < n → f j = g j) (k : WP G own cc nL ret ini d mc ms cells slots Q pc ls st (hUs h as cs')) : WP G own cc nL ret ini d mc ms cells slots Q pc ls st (hUs h as cs) := by
  rw [← hUs_set (h := h) nd hl i ha hs] at k
  rw [← hU_id (hUs_at (h := h) nd i ha hc)]
  exact w_aext g he k
end
theorem Cl_heq {G : wG} {y : MethodName} {d mc ms : Nat} {as : List Value} {h h2 : hH} {Q : Option Value → hH → Prop} (e : h = h2) (k : Cl G y d mc ms as h2 Q) : Cl G y d mc ms as h Q := e ▸ k
section
variable {G : wG} {own : String} {cc : ByteArray} {nL : Nat} {ret : Option FieldType} {ini : Bool} {d mc ms cells slots : Nat} {Q : Option Value → hH → Prop} {pc : Nat} {ls : List (Option Value)} {st : List Value} {h : hH}
theorem w_iaddE {x y z : Int32} (hd : decode cc pc = .ok (.iadd, 1)) (e : x + y = z) (k : WP G own cc nL ret ini d mc ms cells slots Q (pc + 1) ls (.int z :: st) h) : WP G own cc nL ret ini d mc ms cells slots Q pc ls (.int y :: .int x :: st) h := w_iadd hd (e ▸ k)
theorem w_isubE {x y z : Int32} (hd : decode cc pc = .ok (.isub, 1)) (e : x - y = z) (k : WP G own cc nL ret ini d mc ms cells slots Q (pc + 1) ls (.int z :: st) h) : WP G own cc nL ret ini d mc ms cells slots Q pc ls (.int y :: .int x :: st) h := w_isub hd (e ▸ k)
theorem w_imulE {x y z : Int32} (hd : decode cc pc = .ok (.imul, 1)) (e : x * y = z) (k : WP G own cc nL ret ini d mc ms cells slots Q (pc + 1) ls (.int z :: st) h) : WP G own cc nL ret ini d mc ms cells slots Q pc ls (.int y :: .int x :: st) h := w_imul hd (e ▸ k)
theorem w_idivE {x y z : Int32} (hd : decode cc pc = .ok (.idiv, 1)) (hn : ¬ y = 0) (e : x / y = z) (k : WP G own cc nL ret ini d mc ms cells slots Q (pc + 1) ls (.int z :: st) h) : WP G own cc nL ret ini d mc ms cells slots Q pc ls (.int y :: .int x :: st) h := w_idiv hd hn (e ▸ k)
theorem w_iremE {x y z : Int32} (hd : decode cc pc = .ok (.irem, 1)) (hn : ¬ y = 0) (e : x - x / y * y = z) (k : WP G own cc nL ret ini d mc ms cells slots Q (pc + 1) ls (.int z :: st) h) : WP G own cc nL ret ini d mc ms cells slots Q pc ls (.int y :: .int x :: st) h := w_irem hd hn (e ▸ k)
/-- the number on top, by another term -/
theorem w_top {x z : Int32} (e : x = z) (k : WP G own cc nL ret ini d mc ms cells slots Q pc ls (.int z :: st) h) : WP G own cc nL ret ini d mc ms cells slots Q pc ls (.int x :: st) h := e ▸ k
theorem w_topV {x z : Value} (e : x = z) (k : WP G own cc nL ret ini d mc ms cells slots Q pc ls (z :: st) h) : WP G own cc nL ret ini d mc ms cells slots Q pc ls (x :: st) h := e ▸ k
end
