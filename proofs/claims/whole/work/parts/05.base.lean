/-! THE PURE LAYER: an abstract heap (a partial map from addresses to cells, and its size), and a judgement WP over it, one row an instruction. -/
/-- the words that stay true, whatever is resolved meanwhile -/
def wOk (w : Cond) : Bool := match w with
  | .fieldLinkNest .. => true
  | .methodLinkNest .. => true
  | .arrayOver (.object _) => true
  | .arrayOver _ => false
  | w => goodWord w
def wTb (s : State) : Prop := ∀ w ∈ lw_tbl, wOk w = true → w.before #[] s = true
theorem wTb.warm {s U : State} (hW : s.WarmedH U.vm) (h : wTb s) : wTb U := by
  intro w hw hk
  have h1 := h w hw hk
  cases w with
  | fieldLinkNest a i b n d h => exact va_Nw.warmF hW h1
  | methodLinkNest a i x h => exact va_Nw.warmM hW h1
  | arrayOver t =>
    cases t with
    | object C => exact va_AO.moved hW.alike h1
    | _ => cases hk
  | _ => exact word_at hW (good_of_word hk) h1
theorem wTb.at {s : State} (h : wTb s) {w : Cond} (hw : w ∈ lw_tbl) (hk : wOk w = true) {A : Array Value} (ht : w.onTables = true) : w.before A s = true := va_tabs ht rfl (h w hw hk)
/-- the String constants: whose, which entry, its text, how many bytes, its bytes -/
def wSL : List (String × Nat × String × Nat × List Int32) := [("LevelBits$Reader", 44, "loop", 4, [108, 111, 111, 112]), ("LevelBits$Reader", 54, "wave", 4, [119, 97, 118, 101]), ("LevelBits$Reader", 85, "by", 2, [98, 121]), ("LevelBits$Reader", 94, "bound", 5, [98, 111, 117, 110, 100]), ("LevelBits$Reader", 102, "three", 5, [116, 104, 114, 101, 101]), ("LevelBits$Reader", 107, "noise", 5, [110, 111, 105, 115, 101]), ("LevelBits$Reader", 137, "hold", 4, [104, 111, 108, 100]), ("LevelBits$Reader", 139, "ramp", 4, [114, 97, 109, 112]), ("LevelBits$Reader", 141, "swing", 5, [115, 119, 105, 110, 103]), ("LevelBits$Reader", 146, "to", 2, [116, 111]), ("LevelBits$Reader", 148, "every", 5, [101, 118, 101, 114, 121]), ("LevelBits$Reader", 150, "for", 3, [102, 111, 114]),
  ("LevelBitsModel", 167, "loop", 4, [108, 111, 111, 112]), ("LevelBitsModel", 169, "wave", 4, [119, 97, 118, 101]), ("LevelBitsModel", 171, "by", 2, [98, 121]), ("LevelBitsModel", 173, "bound", 5, [98, 111, 117, 110, 100]), ("LevelBitsModel", 174, "three", 5, [116, 104, 114, 101, 101]), ("LevelBitsModel", 176, "noise", 5, [110, 111, 105, 115, 101]), ("LevelBitsModel", 177, "hold", 4, [104, 111, 108, 100]), ("LevelBitsModel", 179, "ramp", 4, [114, 97, 109, 112]), ("LevelBitsModel", 181, "swing", 5, [115, 119, 105, 110, 103]), ("LevelBitsModel", 183, "to", 2, [116, 111]), ("LevelBitsModel", 184, "every", 5, [101, 118, 101, 114, 121]), ("LevelBitsModel", 186, "for", 3, [102, 111, 114])]
/-- the launch, the first address that is ours, where the String constants and their bytes lie -/
abbrev wG : Type := Launch × Nat × (Nat → Nat) × (Nat → Nat)
abbrev wA (G : wG) : Nat → Prop := fun q => G.2.1 ≤ q
def wStr (G : wG) (s : State) (H : Heap) : Prop := ∀ (i : Nat) (r : String × Nat × String × Nat × List Int32), wSL[i]? = some r →
  vk_R r.1 r.2.1 r.2.2.1 (G.2.2.1 i) s ∧ va_O "java/lang/String" (G.2.2.1 i) (wA G) s H ∧ va_OF "java/lang/String" "coder" "B" (.int 0) (G.2.2.1 i) (wA G) s H ∧ va_OF "java/lang/String" "value" "[B" (.ref (G.2.2.2 i)) (G.2.2.1 i) (wA G) s H ∧ va_T .byte (G.2.2.2 i) r.2.2.2.1 (fun j => .int (r.2.2.2.2.getD j 0)) (wA G) s H
def wSt (G : wG) (s : State) (H : Heap) : Prop := va_Z "java/lang/String" "COMPACT_STRINGS" "Z" (.int 1) (wA G) s H ∧ va_Zq "jdk/internal/util/Preconditions" "SIOOBE_FORMATTER" "Ljava/util/function/BiFunction;" (wA G) s H ∧ vx_Zq Bundle.tN "UNASSIGNED_STACK" Bundle.steD (wA G) s H ∧ vx_Zq Bundle.tN "SUPPRESSED_SENTINEL" Bundle.listD (wA G) s H ∧ G.1.stackTraces = false
theorem wStr.warm {G : wG} {s U : State} {H : Heap} (hW : s.WarmedH U.vm) (h : wStr G s H) : wStr G U H := fun i r hr =>
  ⟨(h i r hr).1.warm hW, va_O.moved hW.alike (h i r hr).2.1, va_OF.moved hW.alike (h i r hr).2.2.1, va_OF.moved hW.alike (h i r hr).2.2.2.1, va_T.moved hW.alike (h i r hr).2.2.2.2⟩
theorem wStr.kept {G : wG} {s : State} {H H1 : Heap} (h : wStr G s H) (hq : ∀ a : Nat, a < H.size → ¬ wA G a → H1[a]? = H[a]?) : wStr G s H1 := fun i r hr =>
  ⟨(h i r hr).1, (h i r hr).2.1.kept hq, (h i r hr).2.2.1.kept hq, (h i r hr).2.2.2.1.kept hq, (h i r hr).2.2.2.2.kept hq⟩
theorem wSt.warm {G : wG} {s U : State} {H : Heap} (hW : s.WarmedH U.vm) (h : wSt G s H) : wSt G U H := ⟨va_Z.moved hW.alike h.1, va_Zq.moved hW.alike h.2.1, vx_Zq.moved hW.alike h.2.2.1, vx_Zq.moved hW.alike h.2.2.2.1, h.2.2.2.2⟩
theorem wSt.kept {G : wG} {s : State} {H H1 : Heap} (h : wSt G s H) (hq : ∀ a : Nat, a < H.size → ¬ wA G a → H1[a]? = H[a]?) : wSt G s H1 := ⟨h.1.kept hq, h.2.1.kept hq, h.2.2.1.kept hq, h.2.2.2.1.kept hq, h.2.2.2.2⟩
/-- a cell: an array (its elements' type, its length and contents), or an object (the number of its class, its fields) -/
abbrev hC : Type := (FieldType × vp_A) ⊕ (Nat × List Value)
/-- a heap: its cells, its size -/
abbrev hH : Type := (Nat → Option hC) × Nat
abbrev aI (n : Nat) (f : Nat → Int32) : hC := .inl (.int, n, .inl f)
abbrev aB (n : Nat) (f : Nat → Int32) : hC := .inl (.byte, n, .inl f)
abbrev aZ (n : Nat) (f : Nat → Int32) : hC := .inl (.boolean, n, .inl f)
abbrev aL (n : Nat) (f : Nat → Int64) : hC := .inl (.long, n, .inr (.inl f))
abbrev aR (C : String) (n : Nat) (f : Nat → Option Nat) : hC := .inl (.object C, n, .inr (.inr (.inr (.inr f))))
abbrev oC (ci : Nat) (fs : List Value) : hC := .inr (ci, fs)
def hAt (D : va_G) (s : State) (q : Nat) (c : hC) (H : Heap) : Prop := match c with
  | .inl a => ∃ cA : ClassId, ArrOfT s cA a.1 ∧ va_RA s cA a.1 ∧ H[q]? = some (vp_cell cA a.2)
  | .inr o => ∃ r : vw_C, vwCl[o.1]? = some r ∧ t_OB q (D.1 o.1) r.2.2 (D.2 o.1) H (vp_V o.2)
def hR (G : wG) (h : hH) (H : Heap) (s : State) : Prop :=
  H.size = h.2 ∧ wTb s ∧ wStr G s H ∧ wSt G s H ∧ (∀ (q : Nat) (c : hC), h.1 q = some c → G.2.1 ≤ q) ∧ G.2.1 ≤ h.2 ∧ ∃ D : va_G, va_K D vwCl [] s ∧ ∀ (q : Nat) (c : hC), h.1 q = some c → hAt D s q c H
theorem hAt.moved {D : va_G} {s U : State} {q : Nat} {c : hC} {H : Heap} (hvm : s.vm.Alike U.vm) (h : hAt D s q c H) : hAt D U q c H := by
  cases c with
  | inl a =>
    obtain ⟨cA, h1, h2, h3⟩ := h
    exact ⟨cA, arrOfT_moved hvm h1, h2.moved hvm, h3⟩
  | inr o => exact h
theorem hAt.kept {D : va_G} {s : State} {q : Nat} {c : hC} {H H1 : Heap} (h : hAt D s q c H) (hq : H1[q]? = H[q]?) : hAt D s q c H1 := by
  cases c with
  | inl a =>
    obtain ⟨cA, h1, h2, h3⟩ := h
    exact ⟨cA, h1, h2, hq.trans h3⟩
  | inr o =>
    obtain ⟨r, h1, h2⟩ := h
    exact ⟨r, h1, h2.kept hq⟩
theorem hAt.lt {D : va_G} {s : State} {q : Nat} {c : hC} {H : Heap} (h : hAt D s q c H) : q < H.size := by
  cases c with
  | inl a =>
    obtain ⟨cA, h1, h2, h3⟩ := h
    exact (Array.getElem?_eq_some_iff.mp h3).1
  | inr o =>
    obtain ⟨r, h1, cell, h2, -⟩ := h
    exact (Array.getElem?_eq_some_iff.mp h2).1
theorem hR.warm {G : wG} {h : hH} {H : Heap} {s U : State} (hW : s.WarmedH U.vm) (k : hR G h H s) : hR G h H U := by
  obtain ⟨k1, k2, k3, k4, k5, k6, D, k7, k8⟩ := k
  exact ⟨k1, k2.warm hW, k3.warm hW, k4.warm hW, k5, k6, D, va_K.moved hW.alike k7, fun q c hq => (k8 q c hq).moved hW.alike⟩
/-- a cell put at an address -/
def hU (h : hH) (q : Nat) (c : hC) : hH := (fun x => if x = q then some c else h.1 x, h.2)
/-- a new cell -/
def hN (h : hH) (c : hC) : hH := (fun x => if x = h.2 then some c else h.1 x, h.2 + 1)
theorem hU_s {h : hH} {q : Nat} {c : hC} : (hU h q c).1 q = some c := if_pos rfl
theorem hU_n {h : hH} {q x : Nat} {c : hC} (n : x ≠ q) : (hU h q c).1 x = h.1 x := if_neg n
theorem hU_e {h : hH} {q x : Nat} {c d : hC} (n : x ≠ q) (e : h.1 x = some d) : (hU h q c).1 x = some d := (if_neg n).trans e
theorem hN_s {h : hH} {c : hC} : (hN h c).1 h.2 = some c := if_pos rfl
theorem hN_e {h : hH} {x : Nat} {c d : hC} (n : x ≠ h.2) (e : h.1 x = some d) : (hN h c).1 x = some d := (if_neg n).trans e
/-- one cell was written: the others stand -/
theorem hR.put {G : wG} {h : hH} {H H1 : Heap} {s : State} {q : Nat} {c0 c : hC} (k : hR G h H s) (hq : h.1 q = some c0) (hz : H1.size = H.size) (ho : ∀ x : Nat, x ≠ q → H1[x]? = H[x]?) (hc : ∀ D : va_G, va_K D vwCl [] s → hAt D s q c0 H → hAt D s q c H1) : hR G (hU h q c) H1 s := by
  obtain ⟨k1, k2, k3, k4, k5, k6, D, k7, k8⟩ := k
  have hb := k5 q c0 hq
  have hk : ∀ a : Nat, a < H.size → ¬ wA G a → H1[a]? = H[a]? := fun a _ n => ho a (fun e => n (by rw [e]; exact hb))
  refine ⟨hz.trans k1, k2, k3.kept hk, k4.kept hk, fun x d hx => ?_, k6, D, k7, fun x d hx => ?_⟩
  · by_cases e : x = q
    · rw [e]; exact hb
    · rw [hU_n e] at hx; exact k5 x d hx
  · by_cases e : x = q
    · subst e
      rw [hU_s] at hx
      cases hx
      exact hc D k7 (k8 x c0 hq)
    · rw [hU_n e] at hx
      exact (k8 x d hx).kept (ho x e)
/-- one cell is new -/
theorem hR.new {G : wG} {h : hH} {H H1 : Heap} {s : State} {c : hC} (k : hR G h H s) (hz : H1.size = H.size + 1) (ho : ∀ x : Nat, x < H.size → H1[x]? = H[x]?) (hc : ∀ D : va_G, va_K D vwCl [] s → hAt D s H.size c H1) : hR G (hN h c) H1 s := by
  obtain ⟨k1, k2, k3, k4, k5, k6, D, k7, k8⟩ := k
  have hk : ∀ a : Nat, a < H.size → ¬ wA G a → H1[a]? = H[a]? := fun a l _ => ho a l
  refine ⟨by rw [hz, k1]; rfl, k2, k3.kept hk, k4.kept hk, fun x d hx => ?_, Nat.le_succ_of_le k6, D, k7, fun x d hx => ?_⟩
  · by_cases e : x = h.2
    · rw [e]; exact k6
    · rw [show (hN h c).1 x = h.1 x from if_neg e] at hx; exact k5 x d hx
  · by_cases e : x = h.2
    · subst e
      rw [hN_s] at hx
      cases hx
      rw [← k1]
      exact hc D k7
    · rw [show (hN h c).1 x = h.1 x from if_neg e] at hx
      exact (k8 x d hx).kept (ho x (k8 x d hx).lt)
/-- cells nobody asks for have come -/
theorem hR.more {G : wG} {h : hH} {H H1 : Heap} {s : State} {n : Nat} (k : hR G h H s) (hz : H1.size = n) (hn : H.size ≤ n) (ho : ∀ x : Nat, x < H.size → H1[x]? = H[x]?) : hR G (h.1, n) H1 s := by
  obtain ⟨k1, k2, k3, k4, k5, k6, D, k7, k8⟩ := k
  have hk : ∀ a : Nat, a < H.size → ¬ wA G a → H1[a]? = H[a]? := fun a l _ => ho a l
  refine ⟨hz, k2, k3.kept hk, k4.kept hk, k5, ?_, D, k7, fun x d hx => (k8 x d hx).kept (ho x (k8 x d hx).lt)⟩
  show G.2.1 ≤ n
  omega
/-- the locals: by their places; none: nothing is known -/
def wLo (lsA : Array Slot) (nL : Nat) (ls : List (Option Value)) : Prop := lsA.size = nL ∧ lv_wf lsA ∧ ∀ (i : Nat) (v : Value), ls[i]? = some (some v) → lsA[i]? = some (.val v)
/-- what a method's end owes -/
def wQc (G : wG) (Q : Option Value → hH → Prop) : Array Value → State → Outcome → State → Prop := fun _ st oc t => ∃ (r : Option Value) (h : hH), oc = .returned r ∧ Q r h ∧ hR G h t.heap t ∧ va_F (wA G) st t
abbrev wR (d mc ms : Nat) : Room := { frames := d, cells := mc, slots := ms, locals := 37 * d }
/-- THE JUDGEMENT: at pc of the code cc (of a method of the class own, nL locals, its answer's type ret; ini: a constructor), at depth d, with so many cells and slots used of mc, ms: the method comes to its end with Q -/
def WP (G : wG) (own : String) (cc : ByteArray) (nL : Nat) (ret : Option FieldType) (ini : Bool) (d mc ms cells slots : Nat) (Q : Option Value → hH → Prop) (pc : Nat) (ls : List (Option Value)) (st : List Value) (h : hH) : Prop :=
  ∀ (p : Program) (e : Env) (s : State) (m : MethodId) (args : Array Value) (below : List Frame) (meth : Method) (c : Code) (H : Heap) (locs : List Loc) (lsA : Array Slot),
    p.tables.exec = Jvm.exec → c.code = cc → meth.sig.returnType = ret → c.maxLocals = nL → s.vm.findClass own = some m.cls → meth.locks = false → (ini = true → meth.name = "<init>") →
    hR G h H s → va_S (wA G) s.heap H locs → wLo lsA nL ls →
    W p G.1 e (wR d mc ms) s m args below meth c H locs cells slots (MQ below (wQc G Q) args s mc ms (wA G)) (F0 m pc lsA st)
/-- A CALL of y with these arguments in this heap, at depth d, making at most mc cells of ms slots: it returns, with Q -/
def Cl (G : wG) (y : MethodName) (d mc ms : Nat) (as : List Value) (h : hH) (Q : Option Value → hH → Prop) : Prop :=
  ∃ (cc : ByteArray) (maxL : Nat) (ret : Option FieldType), Cond.code y cc maxL ret ∈ lw_tbl ∧ maxL ≤ 18 ∧ Met G.1 y [Cond.code y cc maxL ret] (wR d mc ms) (va_Pc as (fun U => hR G h U.heap U)) (wQc G Q) mc ms (wA G)
theorem wLo_entry (vs : List Value) {n : Nat} (h : (lg_sl vs).length ≤ n) {ls : List (Option Value)} (hs : ∀ (i : Nat) (v : Value), ls[i]? = some (some v) → (i, v) ∈ lv_args 0 vs) : wLo ((lg_sl vs ++ List.replicate (n - (lg_sl vs).length) Slot.unset).toArray) n ls := by
  have h0 := lv_entry vs h
  exact ⟨h0.1, h0.2.1, fun i v hv => h0.2.2 (i, v) (hs i v hv)⟩
/-- which locals the arguments are -/
def wAr : List Value → List (Option Value)
  | [] => []
  | v :: vs => if v.category = 2 then some v :: none :: wAr vs else some v :: wAr vs
theorem wAr_in : ∀ (vs : List Value) (k i : Nat) (v : Value), (wAr vs)[i]? = some (some v) → (k + i, v) ∈ lv_args k vs
  | [], k, i, v, h => by simp [wAr] at h
  | w :: vs, k, i, v, h => by
    unfold wAr at h
    unfold lv_args
    by_cases hc : w.category = 2
    · rw [if_pos hc] at h ⊢
      match i, h with
      | 0, h => cases h; exact List.mem_cons_self
      | 1, h => cases h
      | i + 2, h =>
        refine List.mem_cons_of_mem _ ?_
        rw [show k + (i + 2) = k + 2 + i by omega]
        exact wAr_in vs (k + 2) i v h
    · rw [if_neg hc] at h ⊢
      match i, h with
      | 0, h => cases h; exact List.mem_cons_self
      | i + 1, h =>
        refine List.mem_cons_of_mem _ ?_
        rw [show k + (i + 1) = k + 1 + i by omega]
        exact wAr_in vs (k + 1) i v h
theorem wPad_in {as : List Value} {n i : Nat} {v : Value} (hi : (wAr as ++ List.replicate n none)[i]? = some (some v)) : (i, v) ∈ lv_args 0 as := by
  by_cases hl : i < (wAr as).length
  · rw [List.getElem?_append_left hl] at hi
    have := wAr_in as 0 i v hi
    rwa [Nat.zero_add] at this
  · rw [List.getElem?_append_right (by omega)] at hi
    have h2 := List.eq_of_mem_replicate (List.mem_of_getElem? hi)
    cases h2
/-- as Met.ofW, of any class whose method nothing overrides -/
theorem wMet_ofW {l : Launch} {y : MethodName} {ws ws' : List Cond} {rm : Room} {Pc : Array Value → State → Prop} {Qc : Array Value → State → Outcome → State → Prop} {mc ms : Nat} {free : Addr → Prop} {cc : ByteArray} {maxL : Nat} {ret : Option FieldType}
    (hy : plainFor y = true) (hw : ws = Cond.code y cc maxL ret :: ws')
    (body : ∀ p e s m args below meth c s₁, BodyLoose p l y (headSpec ws rm) cc maxL ret e s m args below meth c s₁ → c.maxLocals = maxL → Pc args s →
      W p l e (headSpec ws rm).room s m args below meth c s.heap [] 0 0 (MQ below Qc args s mc ms free) (entryFrame m args maxL)) : Met l y ws rm Pc Qc mc ms free := by
  refine MetFree.of_bodySF (code := cc) (maxLocals := maxL) (ret := ret) hy ?_ ?_
  · intro args s m h hn
    obtain ⟨meth, c, h1, h2, h3, h4, h5, h6, -, -⟩ := Cond.code_spec hn (atoms_spec (ws := ws) h _ (by rw [hw]; exact List.mem_cons_self))
    exact ⟨meth, c, h1, h2, h3, h4, h5, h6⟩
  · intro p e s m args below meth c s₁ B hml hP _
    have hh0 : s₁.heap = s.heap := by rw [B.state]; rfl
    obtain ⟨t, a1, o, b1, b2, b3⟩ := body p e s m args below meth c s₁ B hml hP s₁ hh0 (Stand.of_body B)
    exact ⟨t, o, a1, b1, b2, ⟨b3.1, b3.2⟩⟩
/-- a call out of the walk of its body -/
theorem Cl.of {G : wG} {y : MethodName} {d mc ms : Nat} {as : List Value} {h : hH} {Q : Option Value → hH → Prop} {cc : ByteArray} {maxL : Nat} {ret : Option FieldType} (hc : Cond.code y cc maxL ret ∈ lw_tbl) (hy : plainFor y = true) (hm : maxL ≤ 18) (hl : (lg_sl as).length ≤ maxL) {ls : List (Option Value)} (hls : wAr as ++ List.replicate (maxL - (wAr as).length) none = ls) {own : String} (hown : y.cls = own) {ini : Bool} (hini : ini = true → y.name = "<init>")
    (k : WP G own cc maxL ret ini d mc ms 0 0 Q 0 ls [] h) : Cl G y d mc ms as h Q := by
  subst hown
  subst hls
  refine ⟨cc, maxL, ret, hc, hm, ?_⟩
  refine wMet_ofW (cc := cc) (maxL := maxL) (ret := ret) hy rfl ?_
  intro p e s m args below meth c s₁ B hml hv
  obtain ⟨rfl, hR⟩ := hv
  have hin : ini = true → meth.name = "<init>" := fun z => (name_of_methodNamed B.named B.method).1.trans (hini z)
  rw [lg_entry_eq]
  exact k p e s m _ below meth c s.heap [] _ B.exec B.bytes B.returns hml (findClass_of_methodNamed B.named) B.notSynchronized hin hR va_S.rf (wLo_entry as hl (fun i v hi => wPad_in hi))
/-- less is asked at the end -/
theorem WP.mono {G : wG} {own : String} {cc : ByteArray} {nL : Nat} {ret : Option FieldType} {ini : Bool} {d mc ms cells slots : Nat} {Q Q' : Option Value → hH → Prop} {pc : Nat} {ls : List (Option Value)} {st : List Value} {h : hH} (hq : ∀ r t, Q r t → Q' r t) (k : WP G own cc nL ret ini d mc ms cells slots Q pc ls st h) : WP G own cc nL ret ini d mc ms cells slots Q' pc ls st h := by
  intro p e s m args below meth c H locs lsA h1 h2 h3 h4 h5 h6 h7 h8 h9 h10 T hT X
  obtain ⟨t, a, o, b1, b2, ⟨r, h', b3, b4, b5, b6⟩, b7⟩ := k p e s m args below meth c H locs lsA h1 h2 h3 h4 h5 h6 h7 h8 h9 h10 T hT X
  exact ⟨t, a, o, b1, b2, ⟨r, h', b3, hq r h' b4, b5, b6⟩, b7⟩
theorem Cl.mono {G : wG} {y : MethodName} {d mc ms : Nat} {as : List Value} {h : hH} {Q Q' : Option Value → hH → Prop} (hq : ∀ r t, Q r t → Q' r t) (k : Cl G y d mc ms as h Q) : Cl G y d mc ms as h Q' := by
  obtain ⟨cc, maxL, ret, h1, h2, h3⟩ := k
  refine ⟨cc, maxL, ret, h1, h2, ?_⟩
  intro p e ha hc hk s m args below hf happ hP hT
  obtain ⟨kk, o, g1, g2, g3, ⟨r, h', b3, b4, b5, b6⟩, g5⟩ := h3 p e ha hc hk s m args below hf happ hP hT
  exact ⟨kk, o, g1, g2, g3, ⟨r, h', b3, hq r h' b4, b5, b6⟩, g5⟩
