/-! rows of one instruction -/
/-- the locals as the kit lists them -/
def wAs (ls : List (Option Value)) : List (Nat × Value) := (List.range ls.length).filterMap (fun i => match ls[i]? with
  | some (some v) => some (i, v)
  | _ => none)
theorem wAs_in {ls : List (Option Value)} {i : Nat} {v : Value} : (i, v) ∈ wAs ls ↔ ls[i]? = some (some v) := by
  unfold wAs
  rw [List.mem_filterMap]
  constructor
  · rintro ⟨j, -, hj⟩
    split at hj
    · next w e => cases hj; exact e
    · cases hj
  · intro e
    exact ⟨i, List.mem_range.mpr (List.getElem?_eq_some_iff.mp e).1, by rw [e]⟩
theorem wLo.has {lsA : Array Slot} {nL : Nat} {ls : List (Option Value)} (h : wLo lsA nL ls) : lv_has lsA nL (wAs ls) := ⟨h.1, h.2.1, fun q hq => h.2.2 q.1 q.2 (wAs_in.mp hq)⟩
/-- no long lies across the place i -/
def wNl (ls : List (Option Value)) (i : Nat) : Bool := match i with
  | 0 => true
  | j + 1 => match ls[j]? with
    | some (some w) => !(w.category == 2)
    | _ => true
theorem wNl_ne {ls : List (Option Value)} {i j : Nat} {w : Value} (h : wNl ls i = true) (hj : ls[j]? = some (some w)) (e : j + 1 = i) : ¬ w.category = 2 := by
  subst e
  intro q
  simp [wNl, hj, q] at h
theorem wLo.st1 {ls2 : Array Slot} {nL i : Nat} {v : Value} {ls : List (Option Value)} (hn : wNl ls i = true) (h : lv_has ls2 nL ((i, v) :: (wAs ls).filter (fun q => !(q.1 == i) && !(q.1 + 1 == i && q.2.category == 2)))) : wLo ls2 nL (ls.set i (some v)) := by
  refine ⟨h.1, h.2.1, fun j w hj => ?_⟩
  by_cases e : j = i
  · subst e
    rw [List.getElem?_set] at hj
    rw [if_pos rfl] at hj
    split at hj
    · cases hj; exact h.2.2 _ List.mem_cons_self
    · cases hj
  · rw [List.getElem?_set_ne (Ne.symm e)] at hj
    refine h.2.2 (j, w) (List.mem_cons_of_mem _ (List.mem_filter.mpr ⟨wAs_in.mpr hj, ?_⟩))
    have h1 : ¬ (j + 1 = i ∧ w.category = 2) := fun q => wNl_ne hn hj q.1 q.2
    by_cases g : j + 1 = i
    · have g2 : ¬ w.category = 2 := fun z => h1 ⟨g, z⟩
      simp [e, g2]
    · simp [e, g]
theorem wLo.st2 {ls2 : Array Slot} {nL i : Nat} {v : Value} {ls : List (Option Value)} (hn : wNl ls i = true) (h : lv_has ls2 nL ((i, v) :: (wAs ls).filter (fun q => !(q.1 == i) && (!(q.1 == i + 1) && !(q.1 + 1 == i && q.2.category == 2))))) : wLo ls2 nL ((ls.set i (some v)).set (i + 1) none) := by
  refine ⟨h.1, h.2.1, fun j w hj => ?_⟩
  by_cases e1 : j = i + 1
  · subst e1
    rw [List.getElem?_set] at hj
    rw [if_pos rfl] at hj
    split at hj <;> cases hj
  · rw [List.getElem?_set_ne (Ne.symm e1)] at hj
    by_cases e : j = i
    · subst e
      rw [List.getElem?_set] at hj
      rw [if_pos rfl] at hj
      split at hj
      · cases hj; exact h.2.2 _ List.mem_cons_self
      · cases hj
    · rw [List.getElem?_set_ne (Ne.symm e)] at hj
      refine h.2.2 (j, w) (List.mem_cons_of_mem _ (List.mem_filter.mpr ⟨wAs_in.mpr hj, ?_⟩))
      have h1 : ¬ (j + 1 = i ∧ w.category = 2) := fun q => wNl_ne hn hj q.1 q.2
      by_cases g : j + 1 = i
      · have g2 : ¬ w.category = 2 := fun z => h1 ⟨g, z⟩
        simp [e, e1, g2]
      · simp [e, e1, g]
section
variable {G : wG} {own : String} {cc : ByteArray} {nL : Nat} {ret : Option FieldType} {ini : Bool} {d mc ms cells slots : Nat} {Q : Option Value → hH → Prop} {pc : Nat} {ls : List (Option Value)} {st : List Value} {h : hH}
theorem w_iconst {n : Int} {v : Int32} (hd : decode cc pc = .ok (.iconst n, 1)) (hv : Int32.ofInt n = v) (k : WP G own cc nL ret ini d mc ms cells slots Q (pc + 1) ls (.int v :: st) h) : WP G own cc nL ret ini d mc ms cells slots Q pc ls st h := by
  intro p e s m args below meth c H locs lsA h1 h2 h3 h4 h5 h6 h7 h8 h9 h10
  exact lv_iconst h1 h2 hd hv (k p e s m args below meth c H locs lsA h1 h2 h3 h4 h5 h6 h7 h8 h9 h10)
theorem w_bipush {n : Int} {v : Int32} (hd : decode cc pc = .ok (.bipush n, 2)) (hv : (Int8.ofInt n).toInt32 = v) (k : WP G own cc nL ret ini d mc ms cells slots Q (pc + 2) ls (.int v :: st) h) : WP G own cc nL ret ini d mc ms cells slots Q pc ls st h := by
  intro p e s m args below meth c H locs lsA h1 h2 h3 h4 h5 h6 h7 h8 h9 h10
  exact lv_bipush h1 h2 hd hv (k p e s m args below meth c H locs lsA h1 h2 h3 h4 h5 h6 h7 h8 h9 h10)
theorem w_sipush {n : Int} {v : Int32} (hd : decode cc pc = .ok (.sipush n, 3)) (hv : (Int16.ofInt n).toInt32 = v) (k : WP G own cc nL ret ini d mc ms cells slots Q (pc + 3) ls (.int v :: st) h) : WP G own cc nL ret ini d mc ms cells slots Q pc ls st h := by
  intro p e s m args below meth c H locs lsA h1 h2 h3 h4 h5 h6 h7 h8 h9 h10
  exact lv_sipush h1 h2 hd hv (k p e s m args below meth c H locs lsA h1 h2 h3 h4 h5 h6 h7 h8 h9 h10)
theorem w_lconst {n : Fin 2} {v : Int64} (hd : decode cc pc = .ok (.lconst n, 1)) (hv : Int64.ofNat (n : Nat) = v) (k : WP G own cc nL ret ini d mc ms cells slots Q (pc + 1) ls (.long v :: st) h) : WP G own cc nL ret ini d mc ms cells slots Q pc ls st h := by
  intro p e s m args below meth c H locs lsA h1 h2 h3 h4 h5 h6 h7 h8 h9 h10
  exact lv_lconst h1 h2 hd hv (k p e s m args below meth c H locs lsA h1 h2 h3 h4 h5 h6 h7 h8 h9 h10)
theorem w_iadd {x y : Int32} (hd : decode cc pc = .ok (.iadd, 1)) (k : WP G own cc nL ret ini d mc ms cells slots Q (pc + 1) ls (.int (x + y) :: st) h) : WP G own cc nL ret ini d mc ms cells slots Q pc ls (.int y :: .int x :: st) h := by
  intro p e s m args below meth c H locs lsA h1 h2 h3 h4 h5 h6 h7 h8 h9 h10
  exact lv_iadd h1 h2 hd  (k p e s m args below meth c H locs lsA h1 h2 h3 h4 h5 h6 h7 h8 h9 h10)
theorem w_isub {x y : Int32} (hd : decode cc pc = .ok (.isub, 1)) (k : WP G own cc nL ret ini d mc ms cells slots Q (pc + 1) ls (.int (x - y) :: st) h) : WP G own cc nL ret ini d mc ms cells slots Q pc ls (.int y :: .int x :: st) h := by
  intro p e s m args below meth c H locs lsA h1 h2 h3 h4 h5 h6 h7 h8 h9 h10
  exact lv_isub h1 h2 hd  (k p e s m args below meth c H locs lsA h1 h2 h3 h4 h5 h6 h7 h8 h9 h10)
theorem w_imul {x y : Int32} (hd : decode cc pc = .ok (.imul, 1)) (k : WP G own cc nL ret ini d mc ms cells slots Q (pc + 1) ls (.int (x * y) :: st) h) : WP G own cc nL ret ini d mc ms cells slots Q pc ls (.int y :: .int x :: st) h := by
  intro p e s m args below meth c H locs lsA h1 h2 h3 h4 h5 h6 h7 h8 h9 h10
  exact lv_imul h1 h2 hd  (k p e s m args below meth c H locs lsA h1 h2 h3 h4 h5 h6 h7 h8 h9 h10)
theorem w_iand {x y : Int32} (hd : decode cc pc = .ok (.iand, 1)) (k : WP G own cc nL ret ini d mc ms cells slots Q (pc + 1) ls (.int (x &&& y) :: st) h) : WP G own cc nL ret ini d mc ms cells slots Q pc ls (.int y :: .int x :: st) h := by
  intro p e s m args below meth c H locs lsA h1 h2 h3 h4 h5 h6 h7 h8 h9 h10
  exact lv_iand h1 h2 hd  (k p e s m args below meth c H locs lsA h1 h2 h3 h4 h5 h6 h7 h8 h9 h10)
theorem w_ior {x y : Int32} (hd : decode cc pc = .ok (.ior, 1)) (k : WP G own cc nL ret ini d mc ms cells slots Q (pc + 1) ls (.int (x ||| y) :: st) h) : WP G own cc nL ret ini d mc ms cells slots Q pc ls (.int y :: .int x :: st) h := by
  intro p e s m args below meth c H locs lsA h1 h2 h3 h4 h5 h6 h7 h8 h9 h10
  exact lv_ior h1 h2 hd  (k p e s m args below meth c H locs lsA h1 h2 h3 h4 h5 h6 h7 h8 h9 h10)
theorem w_ixor {x y : Int32} (hd : decode cc pc = .ok (.ixor, 1)) (k : WP G own cc nL ret ini d mc ms cells slots Q (pc + 1) ls (.int (x ^^^ y) :: st) h) : WP G own cc nL ret ini d mc ms cells slots Q pc ls (.int y :: .int x :: st) h := by
  intro p e s m args below meth c H locs lsA h1 h2 h3 h4 h5 h6 h7 h8 h9 h10
  exact lv_ixor h1 h2 hd  (k p e s m args below meth c H locs lsA h1 h2 h3 h4 h5 h6 h7 h8 h9 h10)
theorem w_ishl {x y : Int32} (hd : decode cc pc = .ok (.ishl, 1)) (k : WP G own cc nL ret ini d mc ms cells slots Q (pc + 1) ls (.int (x <<< (y &&& 31)) :: st) h) : WP G own cc nL ret ini d mc ms cells slots Q pc ls (.int y :: .int x :: st) h := by
  intro p e s m args below meth c H locs lsA h1 h2 h3 h4 h5 h6 h7 h8 h9 h10
  exact lv_ishl h1 h2 hd  (k p e s m args below meth c H locs lsA h1 h2 h3 h4 h5 h6 h7 h8 h9 h10)
theorem w_ishr {x y : Int32} (hd : decode cc pc = .ok (.ishr, 1)) (k : WP G own cc nL ret ini d mc ms cells slots Q (pc + 1) ls (.int (x >>> (y &&& 31)) :: st) h) : WP G own cc nL ret ini d mc ms cells slots Q pc ls (.int y :: .int x :: st) h := by
  intro p e s m args below meth c H locs lsA h1 h2 h3 h4 h5 h6 h7 h8 h9 h10
  exact lv_ishr h1 h2 hd  (k p e s m args below meth c H locs lsA h1 h2 h3 h4 h5 h6 h7 h8 h9 h10)
theorem w_idiv {x y : Int32} (hd : decode cc pc = .ok (.idiv, 1)) (hn : ¬ y = 0) (k : WP G own cc nL ret ini d mc ms cells slots Q (pc + 1) ls (.int (x / y) :: st) h) : WP G own cc nL ret ini d mc ms cells slots Q pc ls (.int y :: .int x :: st) h := by
  intro p e s m args below meth c H locs lsA h1 h2 h3 h4 h5 h6 h7 h8 h9 h10
  exact lv_idiv h1 h2 hd hn (k p e s m args below meth c H locs lsA h1 h2 h3 h4 h5 h6 h7 h8 h9 h10)
theorem w_irem {x y : Int32} (hd : decode cc pc = .ok (.irem, 1)) (hn : ¬ y = 0) (k : WP G own cc nL ret ini d mc ms cells slots Q (pc + 1) ls (.int (x - x / y * y) :: st) h) : WP G own cc nL ret ini d mc ms cells slots Q pc ls (.int y :: .int x :: st) h := by
  intro p e s m args below meth c H locs lsA h1 h2 h3 h4 h5 h6 h7 h8 h9 h10
  exact lv_irem h1 h2 hd hn (k p e s m args below meth c H locs lsA h1 h2 h3 h4 h5 h6 h7 h8 h9 h10)
theorem w_ineg {x : Int32} (hd : decode cc pc = .ok (.ineg, 1)) (k : WP G own cc nL ret ini d mc ms cells slots Q (pc + 1) ls (.int (-x) :: st) h) : WP G own cc nL ret ini d mc ms cells slots Q pc ls (.int x :: st) h := by
  intro p e s m args below meth c H locs lsA h1 h2 h3 h4 h5 h6 h7 h8 h9 h10
  exact lv_ineg h1 h2 hd  (k p e s m args below meth c H locs lsA h1 h2 h3 h4 h5 h6 h7 h8 h9 h10)
theorem w_ladd {x y : Int64} (hd : decode cc pc = .ok (.ladd, 1)) (k : WP G own cc nL ret ini d mc ms cells slots Q (pc + 1) ls (.long (x + y) :: st) h) : WP G own cc nL ret ini d mc ms cells slots Q pc ls (.long y :: .long x :: st) h := by
  intro p e s m args below meth c H locs lsA h1 h2 h3 h4 h5 h6 h7 h8 h9 h10
  exact lv_ladd h1 h2 hd  (k p e s m args below meth c H locs lsA h1 h2 h3 h4 h5 h6 h7 h8 h9 h10)
theorem w_lsub {x y : Int64} (hd : decode cc pc = .ok (.lsub, 1)) (k : WP G own cc nL ret ini d mc ms cells slots Q (pc + 1) ls (.long (x - y) :: st) h) : WP G own cc nL ret ini d mc ms cells slots Q pc ls (.long y :: .long x :: st) h := by
  intro p e s m args below meth c H locs lsA h1 h2 h3 h4 h5 h6 h7 h8 h9 h10
  exact lv_lsub h1 h2 hd  (k p e s m args below meth c H locs lsA h1 h2 h3 h4 h5 h6 h7 h8 h9 h10)
theorem w_lmul {x y : Int64} (hd : decode cc pc = .ok (.lmul, 1)) (k : WP G own cc nL ret ini d mc ms cells slots Q (pc + 1) ls (.long (x * y) :: st) h) : WP G own cc nL ret ini d mc ms cells slots Q pc ls (.long y :: .long x :: st) h := by
  intro p e s m args below meth c H locs lsA h1 h2 h3 h4 h5 h6 h7 h8 h9 h10
  exact lv_lmul h1 h2 hd  (k p e s m args below meth c H locs lsA h1 h2 h3 h4 h5 h6 h7 h8 h9 h10)
theorem w_ldiv {x y : Int64} (hd : decode cc pc = .ok (.ldiv, 1)) (hn : ¬ y = 0) (k : WP G own cc nL ret ini d mc ms cells slots Q (pc + 1) ls (.long (x / y) :: st) h) : WP G own cc nL ret ini d mc ms cells slots Q pc ls (.long y :: .long x :: st) h := by
  intro p e s m args below meth c H locs lsA h1 h2 h3 h4 h5 h6 h7 h8 h9 h10
  exact lv_ldiv h1 h2 hd hn (k p e s m args below meth c H locs lsA h1 h2 h3 h4 h5 h6 h7 h8 h9 h10)
theorem w_lrem {x y : Int64} (hd : decode cc pc = .ok (.lrem, 1)) (hn : ¬ y = 0) (k : WP G own cc nL ret ini d mc ms cells slots Q (pc + 1) ls (.long (x - x / y * y) :: st) h) : WP G own cc nL ret ini d mc ms cells slots Q pc ls (.long y :: .long x :: st) h := by
  intro p e s m args below meth c H locs lsA h1 h2 h3 h4 h5 h6 h7 h8 h9 h10
  exact lv_lrem h1 h2 hd hn (k p e s m args below meth c H locs lsA h1 h2 h3 h4 h5 h6 h7 h8 h9 h10)
theorem w_i2l {x : Int32}  (hd : decode cc pc = .ok (.i2l, 1)) (k : WP G own cc nL ret ini d mc ms cells slots Q (pc + 1) ls (.long x.toInt64 :: st) h) : WP G own cc nL ret ini d mc ms cells slots Q pc ls (.int x :: st) h := by
  intro p e s m args below meth c H locs lsA h1 h2 h3 h4 h5 h6 h7 h8 h9 h10
  exact lv_i2l h1 h2 hd rfl (k p e s m args below meth c H locs lsA h1 h2 h3 h4 h5 h6 h7 h8 h9 h10)
theorem w_i2b {x : Int32}  (hd : decode cc pc = .ok (.i2b, 1)) (k : WP G own cc nL ret ini d mc ms cells slots Q (pc + 1) ls (.int x.toInt8.toInt32 :: st) h) : WP G own cc nL ret ini d mc ms cells slots Q pc ls (.int x :: st) h := by
  intro p e s m args below meth c H locs lsA h1 h2 h3 h4 h5 h6 h7 h8 h9 h10
  exact lv_i2b h1 h2 hd rfl (k p e s m args below meth c H locs lsA h1 h2 h3 h4 h5 h6 h7 h8 h9 h10)
theorem w_i2c {x : Int32}  (hd : decode cc pc = .ok (.i2c, 1)) (k : WP G own cc nL ret ini d mc ms cells slots Q (pc + 1) ls (.int (x.toUInt32 % 65536).toInt32 :: st) h) : WP G own cc nL ret ini d mc ms cells slots Q pc ls (.int x :: st) h := by
  intro p e s m args below meth c H locs lsA h1 h2 h3 h4 h5 h6 h7 h8 h9 h10
  exact lv_i2c h1 h2 hd rfl (k p e s m args below meth c H locs lsA h1 h2 h3 h4 h5 h6 h7 h8 h9 h10)
theorem w_l2i {x : Int64}  (hd : decode cc pc = .ok (.l2i, 1)) (k : WP G own cc nL ret ini d mc ms cells slots Q (pc + 1) ls (.int x.toInt32 :: st) h) : WP G own cc nL ret ini d mc ms cells slots Q pc ls (.long x :: st) h := by
  intro p e s m args below meth c H locs lsA h1 h2 h3 h4 h5 h6 h7 h8 h9 h10
  exact lv_l2i h1 h2 hd rfl (k p e s m args below meth c H locs lsA h1 h2 h3 h4 h5 h6 h7 h8 h9 h10)
theorem w_pop {v : Value} (hd : decode cc pc = .ok (.pop, 1)) (hv : v.category = 1) (k : WP G own cc nL ret ini d mc ms cells slots Q (pc + 1) ls st h) : WP G own cc nL ret ini d mc ms cells slots Q pc ls (v :: st) h := by
  intro p e s m args below meth c H locs lsA h1 h2 h3 h4 h5 h6 h7 h8 h9 h10
  exact lv_pop h1 h2 hd hv (k p e s m args below meth c H locs lsA h1 h2 h3 h4 h5 h6 h7 h8 h9 h10)
theorem w_dup {v : Value} (hd : decode cc pc = .ok (.dup, 1)) (hv : v.category = 1) (k : WP G own cc nL ret ini d mc ms cells slots Q (pc + 1) ls (v :: v :: st) h) : WP G own cc nL ret ini d mc ms cells slots Q pc ls (v :: st) h := by
  intro p e s m args below meth c H locs lsA h1 h2 h3 h4 h5 h6 h7 h8 h9 h10
  exact lv_dup h1 h2 hd hv (k p e s m args below meth c H locs lsA h1 h2 h3 h4 h5 h6 h7 h8 h9 h10)
theorem w_dup2_11 {v w : Value} (hd : decode cc pc = .ok (.dup2, 1)) (hv : v.category = 1) (hw : w.category = 1) (k : WP G own cc nL ret ini d mc ms cells slots Q (pc + 1) ls (v :: w :: v :: w :: st) h) : WP G own cc nL ret ini d mc ms cells slots Q pc ls (v :: w :: st) h := by
  intro p e s m args below meth c H locs lsA h1 h2 h3 h4 h5 h6 h7 h8 h9 h10
  exact lv_dup2_11 h1 h2 hd hv hw (k p e s m args below meth c H locs lsA h1 h2 h3 h4 h5 h6 h7 h8 h9 h10)
theorem w_null  (hd : decode cc pc = .ok (.aconst_null, 1)) (k : WP G own cc nL ret ini d mc ms cells slots Q (pc + 1) ls (.null :: st) h) : WP G own cc nL ret ini d mc ms cells slots Q pc ls st h := by
  intro p e s m args below meth c H locs lsA h1 h2 h3 h4 h5 h6 h7 h8 h9 h10
  exact lv_null h1 h2 hd  (k p e s m args below meth c H locs lsA h1 h2 h3 h4 h5 h6 h7 h8 h9 h10)
theorem w_lcmp {x y : Int64} (hd : decode cc pc = .ok (.lcmp, 1)) (k : WP G own cc nL ret ini d mc ms cells slots Q (pc + 1) ls (.int (lg_cmp x y) :: st) h) : WP G own cc nL ret ini d mc ms cells slots Q pc ls (.long y :: .long x :: st) h := by
  intro p e s m args below meth c H locs lsA h1 h2 h3 h4 h5 h6 h7 h8 h9 h10
  exact W.lcmp h1 h2 hd (k p e s m args below meth c H locs lsA h1 h2 h3 h4 h5 h6 h7 h8 h9 h10)
theorem w_iload_n {kf : Fin 4} {x : Int32} (hd : decode cc pc = .ok (.iload_n kf, 1)) (hl : ls[kf.val]? = some (some (.int x))) (k : WP G own cc nL ret ini d mc ms cells slots Q (pc + 1) ls (.int x :: st) h) : WP G own cc nL ret ini d mc ms cells slots Q pc ls st h := by
  intro p e s m args below meth c H locs lsA h1 h2 h3 h4 h5 h6 h7 h8 h9 h10
  exact lv_iload_n h1 h2 hd rfl (h10.2.2 _ _ hl) (k p e s m args below meth c H locs lsA h1 h2 h3 h4 h5 h6 h7 h8 h9 h10)
theorem w_iload {i : Nat} {x : Int32} (hd : decode cc pc = .ok (.iload i, 2)) (hl : ls[i]? = some (some (.int x))) (k : WP G own cc nL ret ini d mc ms cells slots Q (pc + 2) ls (.int x :: st) h) : WP G own cc nL ret ini d mc ms cells slots Q pc ls st h := by
  intro p e s m args below meth c H locs lsA h1 h2 h3 h4 h5 h6 h7 h8 h9 h10
  exact lv_iload h1 h2 hd (h10.2.2 _ _ hl) (k p e s m args below meth c H locs lsA h1 h2 h3 h4 h5 h6 h7 h8 h9 h10)
theorem w_lload_n {kf : Fin 4} {x : Int64} (hd : decode cc pc = .ok (.lload_n kf, 1)) (hl : ls[kf.val]? = some (some (.long x))) (k : WP G own cc nL ret ini d mc ms cells slots Q (pc + 1) ls (.long x :: st) h) : WP G own cc nL ret ini d mc ms cells slots Q pc ls st h := by
  intro p e s m args below meth c H locs lsA h1 h2 h3 h4 h5 h6 h7 h8 h9 h10
  exact lv_lload_n h1 h2 hd rfl (h10.2.2 _ _ hl) (k p e s m args below meth c H locs lsA h1 h2 h3 h4 h5 h6 h7 h8 h9 h10)
theorem w_lload {i : Nat} {x : Int64} (hd : decode cc pc = .ok (.lload i, 2)) (hl : ls[i]? = some (some (.long x))) (k : WP G own cc nL ret ini d mc ms cells slots Q (pc + 2) ls (.long x :: st) h) : WP G own cc nL ret ini d mc ms cells slots Q pc ls st h := by
  intro p e s m args below meth c H locs lsA h1 h2 h3 h4 h5 h6 h7 h8 h9 h10
  exact lv_lload h1 h2 hd (h10.2.2 _ _ hl) (k p e s m args below meth c H locs lsA h1 h2 h3 h4 h5 h6 h7 h8 h9 h10)
theorem w_aload_n {kf : Fin 4} {x : Nat} (hd : decode cc pc = .ok (.aload_n kf, 1)) (hl : ls[kf.val]? = some (some (.ref x))) (k : WP G own cc nL ret ini d mc ms cells slots Q (pc + 1) ls (.ref x :: st) h) : WP G own cc nL ret ini d mc ms cells slots Q pc ls st h := by
  intro p e s m args below meth c H locs lsA h1 h2 h3 h4 h5 h6 h7 h8 h9 h10
  exact lv_aload_n h1 h2 hd rfl (h10.2.2 _ _ hl) (k p e s m args below meth c H locs lsA h1 h2 h3 h4 h5 h6 h7 h8 h9 h10)
theorem w_aload {i : Nat} {x : Nat} (hd : decode cc pc = .ok (.aload i, 2)) (hl : ls[i]? = some (some (.ref x))) (k : WP G own cc nL ret ini d mc ms cells slots Q (pc + 2) ls (.ref x :: st) h) : WP G own cc nL ret ini d mc ms cells slots Q pc ls st h := by
  intro p e s m args below meth c H locs lsA h1 h2 h3 h4 h5 h6 h7 h8 h9 h10
  exact lv_aload h1 h2 hd (h10.2.2 _ _ hl) (k p e s m args below meth c H locs lsA h1 h2 h3 h4 h5 h6 h7 h8 h9 h10)
theorem w_aload_nN {kf : Fin 4} (hd : decode cc pc = .ok (.aload_n kf, 1)) (hl : ls[kf.val]? = some (some .null)) (k : WP G own cc nL ret ini d mc ms cells slots Q (pc + 1) ls (.null :: st) h) : WP G own cc nL ret ini d mc ms cells slots Q pc ls st h := by
  intro p e s m args below meth c H locs lsA h1 h2 h3 h4 h5 h6 h7 h8 h9 h10
  exact lv_aload_nN h1 h2 hd rfl (h10.2.2 _ _ hl) (k p e s m args below meth c H locs lsA h1 h2 h3 h4 h5 h6 h7 h8 h9 h10)
theorem w_aloadN {i : Nat} (hd : decode cc pc = .ok (.aload i, 2)) (hl : ls[i]? = some (some .null)) (k : WP G own cc nL ret ini d mc ms cells slots Q (pc + 2) ls (.null :: st) h) : WP G own cc nL ret ini d mc ms cells slots Q pc ls st h := by
  intro p e s m args below meth c H locs lsA h1 h2 h3 h4 h5 h6 h7 h8 h9 h10
  exact lv_aloadN h1 h2 hd (h10.2.2 _ _ hl) (k p e s m args below meth c H locs lsA h1 h2 h3 h4 h5 h6 h7 h8 h9 h10)
theorem w_istore_n {kf : Fin 4} {x : Int32} (hd : decode cc pc = .ok (.istore_n kf, 1)) (hi : kf.val < nL) (hn : wNl ls kf.val = true) {ls2 : List (Option Value)} (hs : ls.set kf.val (some (.int x)) = ls2) (k : WP G own cc nL ret ini d mc ms cells slots Q (pc + 1) ls2 st h) : WP G own cc nL ret ini d mc ms cells slots Q pc ls (.int x :: st) h := by
  intro p e s m args below meth c H locs lsA h1 h2 h3 h4 h5 h6 h7 h8 h9 h10
  exact lv_istore_n h1 h2 hd rfl h10.has hi rfl (fun ls9 g9 => (k p e s m args below meth c H locs ls9 h1 h2 h3 h4 h5 h6 h7 h8 h9 (hs ▸ wLo.st1 hn g9)))
theorem w_istore {i : Nat} {x : Int32} (hd : decode cc pc = .ok (.istore i, 2)) (hi : i < nL) (hn : wNl ls i = true) {ls2 : List (Option Value)} (hs : ls.set i (some (.int x)) = ls2) (k : WP G own cc nL ret ini d mc ms cells slots Q (pc + 2) ls2 st h) : WP G own cc nL ret ini d mc ms cells slots Q pc ls (.int x :: st) h := by
  intro p e s m args below meth c H locs lsA h1 h2 h3 h4 h5 h6 h7 h8 h9 h10
  exact lv_istore h1 h2 hd h10.has hi rfl (fun ls9 g9 => (k p e s m args below meth c H locs ls9 h1 h2 h3 h4 h5 h6 h7 h8 h9 (hs ▸ wLo.st1 hn g9)))
theorem w_astore_n {kf : Fin 4} {x : Nat} (hd : decode cc pc = .ok (.astore_n kf, 1)) (hi : kf.val < nL) (hn : wNl ls kf.val = true) {ls2 : List (Option Value)} (hs : ls.set kf.val (some (.ref x)) = ls2) (k : WP G own cc nL ret ini d mc ms cells slots Q (pc + 1) ls2 st h) : WP G own cc nL ret ini d mc ms cells slots Q pc ls (.ref x :: st) h := by
  intro p e s m args below meth c H locs lsA h1 h2 h3 h4 h5 h6 h7 h8 h9 h10
  exact lv_astore_n h1 h2 hd rfl h10.has hi rfl (fun ls9 g9 => (k p e s m args below meth c H locs ls9 h1 h2 h3 h4 h5 h6 h7 h8 h9 (hs ▸ wLo.st1 hn g9)))
theorem w_astore {i : Nat} {x : Nat} (hd : decode cc pc = .ok (.astore i, 2)) (hi : i < nL) (hn : wNl ls i = true) {ls2 : List (Option Value)} (hs : ls.set i (some (.ref x)) = ls2) (k : WP G own cc nL ret ini d mc ms cells slots Q (pc + 2) ls2 st h) : WP G own cc nL ret ini d mc ms cells slots Q pc ls (.ref x :: st) h := by
  intro p e s m args below meth c H locs lsA h1 h2 h3 h4 h5 h6 h7 h8 h9 h10
  exact lv_astore h1 h2 hd h10.has hi rfl (fun ls9 g9 => (k p e s m args below meth c H locs ls9 h1 h2 h3 h4 h5 h6 h7 h8 h9 (hs ▸ wLo.st1 hn g9)))
theorem w_astore_nN {kf : Fin 4} (hd : decode cc pc = .ok (.astore_n kf, 1)) (hi : kf.val < nL) (hn : wNl ls kf.val = true) {ls2 : List (Option Value)} (hs : ls.set kf.val (some .null) = ls2) (k : WP G own cc nL ret ini d mc ms cells slots Q (pc + 1) ls2 st h) : WP G own cc nL ret ini d mc ms cells slots Q pc ls (.null :: st) h := by
  intro p e s m args below meth c H locs lsA h1 h2 h3 h4 h5 h6 h7 h8 h9 h10
  exact lv_astore_nN h1 h2 hd rfl h10.has hi rfl (fun ls9 g9 => (k p e s m args below meth c H locs ls9 h1 h2 h3 h4 h5 h6 h7 h8 h9 (hs ▸ wLo.st1 hn g9)))
theorem w_astoreN {i : Nat} (hd : decode cc pc = .ok (.astore i, 2)) (hi : i < nL) (hn : wNl ls i = true) {ls2 : List (Option Value)} (hs : ls.set i (some .null) = ls2) (k : WP G own cc nL ret ini d mc ms cells slots Q (pc + 2) ls2 st h) : WP G own cc nL ret ini d mc ms cells slots Q pc ls (.null :: st) h := by
  intro p e s m args below meth c H locs lsA h1 h2 h3 h4 h5 h6 h7 h8 h9 h10
  exact lv_astoreN h1 h2 hd h10.has hi rfl (fun ls9 g9 => (k p e s m args below meth c H locs ls9 h1 h2 h3 h4 h5 h6 h7 h8 h9 (hs ▸ wLo.st1 hn g9)))
theorem w_lstore_n {kf : Fin 4} {x : Int64} (hd : decode cc pc = .ok (.lstore_n kf, 1)) (hi : kf.val + 1 < nL) (hn : wNl ls kf.val = true) {ls2 : List (Option Value)} (hs : (ls.set kf.val (some (.long x))).set (kf.val + 1) none = ls2) (k : WP G own cc nL ret ini d mc ms cells slots Q (pc + 1) ls2 st h) : WP G own cc nL ret ini d mc ms cells slots Q pc ls (.long x :: st) h := by
  intro p e s m args below meth c H locs lsA h1 h2 h3 h4 h5 h6 h7 h8 h9 h10
  exact lv_lstore_n h1 h2 hd rfl h10.has hi rfl (fun ls9 g9 => (k p e s m args below meth c H locs ls9 h1 h2 h3 h4 h5 h6 h7 h8 h9 (hs ▸ wLo.st2 hn g9)))
theorem w_lstore {i : Nat} {x : Int64} (hd : decode cc pc = .ok (.lstore i, 2)) (hi : i + 1 < nL) (hn : wNl ls i = true) {ls2 : List (Option Value)} (hs : (ls.set i (some (.long x))).set (i + 1) none = ls2) (k : WP G own cc nL ret ini d mc ms cells slots Q (pc + 2) ls2 st h) : WP G own cc nL ret ini d mc ms cells slots Q pc ls (.long x :: st) h := by
  intro p e s m args below meth c H locs lsA h1 h2 h3 h4 h5 h6 h7 h8 h9 h10
  exact lv_lstore h1 h2 hd h10.has hi rfl (fun ls9 g9 => (k p e s m args below meth c H locs ls9 h1 h2 h3 h4 h5 h6 h7 h8 h9 (hs ▸ wLo.st2 hn g9)))
theorem w_iinc {i : Nat} {n : Int} {x v : Int32} (hd : decode cc pc = .ok (.iinc i n, 3)) (hl : ls[i]? = some (some (.int x))) (hv : x + Int32.ofInt n = v) (hi : i < nL) (hn : wNl ls i = true) {ls2 : List (Option Value)} (hs : ls.set i (some (.int v)) = ls2) (k : WP G own cc nL ret ini d mc ms cells slots Q (pc + 3) ls2 st h) : WP G own cc nL ret ini d mc ms cells slots Q pc ls st h := by
  intro p e s m args below meth c H locs lsA h1 h2 h3 h4 h5 h6 h7 h8 h9 h10
  obtain ⟨j, hj⟩ := List.getElem?_of_mem (wAs_in.mpr hl)
  exact lv_iinc h1 h2 hd h10.has hj hv hi rfl (fun ls9 g9 => (k p e s m args below meth c H locs ls9 h1 h2 h3 h4 h5 h6 h7 h8 h9 (hs ▸ wLo.st1 hn g9)))
theorem w_icmp_eq {x y : Int32} {off : Int} {tgt : Nat} (hd : decode cc pc = .ok (.if_icmp .eq off, 3)) (ht : (pc : Int) + off = (tgt : Int)) (kt : x = y → WP G own cc nL ret ini d mc ms cells slots Q tgt ls st h) (kf : ¬ (x = y) → WP G own cc nL ret ini d mc ms cells slots Q (pc + 3) ls st h) : WP G own cc nL ret ini d mc ms cells slots Q pc ls (.int y :: .int x :: st) h := by
  intro p e s m args below meth c H locs lsA h1 h2 h3 h4 h5 h6 h7 h8 h9 h10
  exact lv_icmp_eq h1 h2 hd ht (fun z => (kt z p e s m args below meth c H locs lsA h1 h2 h3 h4 h5 h6 h7 h8 h9 h10)) (fun z => (kf z p e s m args below meth c H locs lsA h1 h2 h3 h4 h5 h6 h7 h8 h9 h10))
theorem w_icmp_eq_t {x y : Int32} {off : Int} {tgt : Nat} (hd : decode cc pc = .ok (.if_icmp .eq off, 3)) (ht : (pc : Int) + off = (tgt : Int)) (hc : x = y) (k : WP G own cc nL ret ini d mc ms cells slots Q tgt ls st h) : WP G own cc nL ret ini d mc ms cells slots Q pc ls (.int y :: .int x :: st) h := w_icmp_eq hd ht (fun _ => k) (fun z => absurd hc z)
theorem w_icmp_eq_f {x y : Int32} {off : Int} (hd : decode cc pc = .ok (.if_icmp .eq off, 3)) {tgt : Nat} (ht : (pc : Int) + off = (tgt : Int)) (hc : ¬ (x = y)) (k : WP G own cc nL ret ini d mc ms cells slots Q (pc + 3) ls st h) : WP G own cc nL ret ini d mc ms cells slots Q pc ls (.int y :: .int x :: st) h := w_icmp_eq hd ht (fun z => absurd z hc) (fun _ => k)
theorem w_if_eq {x : Int32} {off : Int} {tgt : Nat} (hd : decode cc pc = .ok (.ifCond .eq off, 3)) (ht : (pc : Int) + off = (tgt : Int)) (kt : x = 0 → WP G own cc nL ret ini d mc ms cells slots Q tgt ls st h) (kf : ¬ (x = 0) → WP G own cc nL ret ini d mc ms cells slots Q (pc + 3) ls st h) : WP G own cc nL ret ini d mc ms cells slots Q pc ls (.int x :: st) h := by
  intro p e s m args below meth c H locs lsA h1 h2 h3 h4 h5 h6 h7 h8 h9 h10
  exact lv_if_eq h1 h2 hd ht (fun z => (kt z p e s m args below meth c H locs lsA h1 h2 h3 h4 h5 h6 h7 h8 h9 h10)) (fun z => (kf z p e s m args below meth c H locs lsA h1 h2 h3 h4 h5 h6 h7 h8 h9 h10))
theorem w_if_eq_t {x : Int32} {off : Int} {tgt : Nat} (hd : decode cc pc = .ok (.ifCond .eq off, 3)) (ht : (pc : Int) + off = (tgt : Int)) (hc : x = 0) (k : WP G own cc nL ret ini d mc ms cells slots Q tgt ls st h) : WP G own cc nL ret ini d mc ms cells slots Q pc ls (.int x :: st) h := w_if_eq hd ht (fun _ => k) (fun z => absurd hc z)
theorem w_if_eq_f {x : Int32} {off : Int} (hd : decode cc pc = .ok (.ifCond .eq off, 3)) {tgt : Nat} (ht : (pc : Int) + off = (tgt : Int)) (hc : ¬ (x = 0)) (k : WP G own cc nL ret ini d mc ms cells slots Q (pc + 3) ls st h) : WP G own cc nL ret ini d mc ms cells slots Q pc ls (.int x :: st) h := w_if_eq hd ht (fun z => absurd z hc) (fun _ => k)
theorem w_icmp_ne {x y : Int32} {off : Int} {tgt : Nat} (hd : decode cc pc = .ok (.if_icmp .ne off, 3)) (ht : (pc : Int) + off = (tgt : Int)) (kt : ¬ x = y → WP G own cc nL ret ini d mc ms cells slots Q tgt ls st h) (kf : x = y → WP G own cc nL ret ini d mc ms cells slots Q (pc + 3) ls st h) : WP G own cc nL ret ini d mc ms cells slots Q pc ls (.int y :: .int x :: st) h := by
  intro p e s m args below meth c H locs lsA h1 h2 h3 h4 h5 h6 h7 h8 h9 h10
  exact lv_icmp_ne h1 h2 hd ht (fun z => (kt z p e s m args below meth c H locs lsA h1 h2 h3 h4 h5 h6 h7 h8 h9 h10)) (fun z => (kf z p e s m args below meth c H locs lsA h1 h2 h3 h4 h5 h6 h7 h8 h9 h10))
theorem w_icmp_ne_t {x y : Int32} {off : Int} {tgt : Nat} (hd : decode cc pc = .ok (.if_icmp .ne off, 3)) (ht : (pc : Int) + off = (tgt : Int)) (hc : ¬ x = y) (k : WP G own cc nL ret ini d mc ms cells slots Q tgt ls st h) : WP G own cc nL ret ini d mc ms cells slots Q pc ls (.int y :: .int x :: st) h := w_icmp_ne hd ht (fun _ => k) (fun z => absurd z hc)
theorem w_icmp_ne_f {x y : Int32} {off : Int} (hd : decode cc pc = .ok (.if_icmp .ne off, 3)) {tgt : Nat} (ht : (pc : Int) + off = (tgt : Int)) (hc : x = y) (k : WP G own cc nL ret ini d mc ms cells slots Q (pc + 3) ls st h) : WP G own cc nL ret ini d mc ms cells slots Q pc ls (.int y :: .int x :: st) h := w_icmp_ne hd ht (fun z => absurd hc z) (fun _ => k)
theorem w_if_ne {x : Int32} {off : Int} {tgt : Nat} (hd : decode cc pc = .ok (.ifCond .ne off, 3)) (ht : (pc : Int) + off = (tgt : Int)) (kt : ¬ x = 0 → WP G own cc nL ret ini d mc ms cells slots Q tgt ls st h) (kf : x = 0 → WP G own cc nL ret ini d mc ms cells slots Q (pc + 3) ls st h) : WP G own cc nL ret ini d mc ms cells slots Q pc ls (.int x :: st) h := by
  intro p e s m args below meth c H locs lsA h1 h2 h3 h4 h5 h6 h7 h8 h9 h10
  exact lv_if_ne h1 h2 hd ht (fun z => (kt z p e s m args below meth c H locs lsA h1 h2 h3 h4 h5 h6 h7 h8 h9 h10)) (fun z => (kf z p e s m args below meth c H locs lsA h1 h2 h3 h4 h5 h6 h7 h8 h9 h10))
theorem w_if_ne_t {x : Int32} {off : Int} {tgt : Nat} (hd : decode cc pc = .ok (.ifCond .ne off, 3)) (ht : (pc : Int) + off = (tgt : Int)) (hc : ¬ x = 0) (k : WP G own cc nL ret ini d mc ms cells slots Q tgt ls st h) : WP G own cc nL ret ini d mc ms cells slots Q pc ls (.int x :: st) h := w_if_ne hd ht (fun _ => k) (fun z => absurd z hc)
theorem w_if_ne_f {x : Int32} {off : Int} (hd : decode cc pc = .ok (.ifCond .ne off, 3)) {tgt : Nat} (ht : (pc : Int) + off = (tgt : Int)) (hc : x = 0) (k : WP G own cc nL ret ini d mc ms cells slots Q (pc + 3) ls st h) : WP G own cc nL ret ini d mc ms cells slots Q pc ls (.int x :: st) h := w_if_ne hd ht (fun z => absurd hc z) (fun _ => k)
theorem w_icmp_lt {x y : Int32} {off : Int} {tgt : Nat} (hd : decode cc pc = .ok (.if_icmp .lt off, 3)) (ht : (pc : Int) + off = (tgt : Int)) (kt : x < y → WP G own cc nL ret ini d mc ms cells slots Q tgt ls st h) (kf : ¬ (x < y) → WP G own cc nL ret ini d mc ms cells slots Q (pc + 3) ls st h) : WP G own cc nL ret ini d mc ms cells slots Q pc ls (.int y :: .int x :: st) h := by
  intro p e s m args below meth c H locs lsA h1 h2 h3 h4 h5 h6 h7 h8 h9 h10
  exact lv_icmp_lt h1 h2 hd ht (fun z => (kt z p e s m args below meth c H locs lsA h1 h2 h3 h4 h5 h6 h7 h8 h9 h10)) (fun z => (kf z p e s m args below meth c H locs lsA h1 h2 h3 h4 h5 h6 h7 h8 h9 h10))
theorem w_icmp_lt_t {x y : Int32} {off : Int} {tgt : Nat} (hd : decode cc pc = .ok (.if_icmp .lt off, 3)) (ht : (pc : Int) + off = (tgt : Int)) (hc : x < y) (k : WP G own cc nL ret ini d mc ms cells slots Q tgt ls st h) : WP G own cc nL ret ini d mc ms cells slots Q pc ls (.int y :: .int x :: st) h := w_icmp_lt hd ht (fun _ => k) (fun z => absurd hc z)
theorem w_icmp_lt_f {x y : Int32} {off : Int} (hd : decode cc pc = .ok (.if_icmp .lt off, 3)) {tgt : Nat} (ht : (pc : Int) + off = (tgt : Int)) (hc : ¬ (x < y)) (k : WP G own cc nL ret ini d mc ms cells slots Q (pc + 3) ls st h) : WP G own cc nL ret ini d mc ms cells slots Q pc ls (.int y :: .int x :: st) h := w_icmp_lt hd ht (fun z => absurd z hc) (fun _ => k)
theorem w_if_lt {x : Int32} {off : Int} {tgt : Nat} (hd : decode cc pc = .ok (.ifCond .lt off, 3)) (ht : (pc : Int) + off = (tgt : Int)) (kt : x < 0 → WP G own cc nL ret ini d mc ms cells slots Q tgt ls st h) (kf : ¬ (x < 0) → WP G own cc nL ret ini d mc ms cells slots Q (pc + 3) ls st h) : WP G own cc nL ret ini d mc ms cells slots Q pc ls (.int x :: st) h := by
  intro p e s m args below meth c H locs lsA h1 h2 h3 h4 h5 h6 h7 h8 h9 h10
  exact lv_if_lt h1 h2 hd ht (fun z => (kt z p e s m args below meth c H locs lsA h1 h2 h3 h4 h5 h6 h7 h8 h9 h10)) (fun z => (kf z p e s m args below meth c H locs lsA h1 h2 h3 h4 h5 h6 h7 h8 h9 h10))
theorem w_if_lt_t {x : Int32} {off : Int} {tgt : Nat} (hd : decode cc pc = .ok (.ifCond .lt off, 3)) (ht : (pc : Int) + off = (tgt : Int)) (hc : x < 0) (k : WP G own cc nL ret ini d mc ms cells slots Q tgt ls st h) : WP G own cc nL ret ini d mc ms cells slots Q pc ls (.int x :: st) h := w_if_lt hd ht (fun _ => k) (fun z => absurd hc z)
theorem w_if_lt_f {x : Int32} {off : Int} (hd : decode cc pc = .ok (.ifCond .lt off, 3)) {tgt : Nat} (ht : (pc : Int) + off = (tgt : Int)) (hc : ¬ (x < 0)) (k : WP G own cc nL ret ini d mc ms cells slots Q (pc + 3) ls st h) : WP G own cc nL ret ini d mc ms cells slots Q pc ls (.int x :: st) h := w_if_lt hd ht (fun z => absurd z hc) (fun _ => k)
theorem w_icmp_ge {x y : Int32} {off : Int} {tgt : Nat} (hd : decode cc pc = .ok (.if_icmp .ge off, 3)) (ht : (pc : Int) + off = (tgt : Int)) (kt : y ≤ x → WP G own cc nL ret ini d mc ms cells slots Q tgt ls st h) (kf : ¬ (y ≤ x) → WP G own cc nL ret ini d mc ms cells slots Q (pc + 3) ls st h) : WP G own cc nL ret ini d mc ms cells slots Q pc ls (.int y :: .int x :: st) h := by
  intro p e s m args below meth c H locs lsA h1 h2 h3 h4 h5 h6 h7 h8 h9 h10
  exact lv_icmp_ge h1 h2 hd ht (fun z => (kt z p e s m args below meth c H locs lsA h1 h2 h3 h4 h5 h6 h7 h8 h9 h10)) (fun z => (kf z p e s m args below meth c H locs lsA h1 h2 h3 h4 h5 h6 h7 h8 h9 h10))
theorem w_icmp_ge_t {x y : Int32} {off : Int} {tgt : Nat} (hd : decode cc pc = .ok (.if_icmp .ge off, 3)) (ht : (pc : Int) + off = (tgt : Int)) (hc : y ≤ x) (k : WP G own cc nL ret ini d mc ms cells slots Q tgt ls st h) : WP G own cc nL ret ini d mc ms cells slots Q pc ls (.int y :: .int x :: st) h := w_icmp_ge hd ht (fun _ => k) (fun z => absurd hc z)
theorem w_icmp_ge_f {x y : Int32} {off : Int} (hd : decode cc pc = .ok (.if_icmp .ge off, 3)) {tgt : Nat} (ht : (pc : Int) + off = (tgt : Int)) (hc : ¬ (y ≤ x)) (k : WP G own cc nL ret ini d mc ms cells slots Q (pc + 3) ls st h) : WP G own cc nL ret ini d mc ms cells slots Q pc ls (.int y :: .int x :: st) h := w_icmp_ge hd ht (fun z => absurd z hc) (fun _ => k)
theorem w_if_ge {x : Int32} {off : Int} {tgt : Nat} (hd : decode cc pc = .ok (.ifCond .ge off, 3)) (ht : (pc : Int) + off = (tgt : Int)) (kt : 0 ≤ x → WP G own cc nL ret ini d mc ms cells slots Q tgt ls st h) (kf : ¬ (0 ≤ x) → WP G own cc nL ret ini d mc ms cells slots Q (pc + 3) ls st h) : WP G own cc nL ret ini d mc ms cells slots Q pc ls (.int x :: st) h := by
  intro p e s m args below meth c H locs lsA h1 h2 h3 h4 h5 h6 h7 h8 h9 h10
  exact lv_if_ge h1 h2 hd ht (fun z => (kt z p e s m args below meth c H locs lsA h1 h2 h3 h4 h5 h6 h7 h8 h9 h10)) (fun z => (kf z p e s m args below meth c H locs lsA h1 h2 h3 h4 h5 h6 h7 h8 h9 h10))
theorem w_if_ge_t {x : Int32} {off : Int} {tgt : Nat} (hd : decode cc pc = .ok (.ifCond .ge off, 3)) (ht : (pc : Int) + off = (tgt : Int)) (hc : 0 ≤ x) (k : WP G own cc nL ret ini d mc ms cells slots Q tgt ls st h) : WP G own cc nL ret ini d mc ms cells slots Q pc ls (.int x :: st) h := w_if_ge hd ht (fun _ => k) (fun z => absurd hc z)
theorem w_if_ge_f {x : Int32} {off : Int} (hd : decode cc pc = .ok (.ifCond .ge off, 3)) {tgt : Nat} (ht : (pc : Int) + off = (tgt : Int)) (hc : ¬ (0 ≤ x)) (k : WP G own cc nL ret ini d mc ms cells slots Q (pc + 3) ls st h) : WP G own cc nL ret ini d mc ms cells slots Q pc ls (.int x :: st) h := w_if_ge hd ht (fun z => absurd z hc) (fun _ => k)
theorem w_icmp_gt {x y : Int32} {off : Int} {tgt : Nat} (hd : decode cc pc = .ok (.if_icmp .gt off, 3)) (ht : (pc : Int) + off = (tgt : Int)) (kt : y < x → WP G own cc nL ret ini d mc ms cells slots Q tgt ls st h) (kf : ¬ (y < x) → WP G own cc nL ret ini d mc ms cells slots Q (pc + 3) ls st h) : WP G own cc nL ret ini d mc ms cells slots Q pc ls (.int y :: .int x :: st) h := by
  intro p e s m args below meth c H locs lsA h1 h2 h3 h4 h5 h6 h7 h8 h9 h10
  exact lv_icmp_gt h1 h2 hd ht (fun z => (kt z p e s m args below meth c H locs lsA h1 h2 h3 h4 h5 h6 h7 h8 h9 h10)) (fun z => (kf z p e s m args below meth c H locs lsA h1 h2 h3 h4 h5 h6 h7 h8 h9 h10))
theorem w_icmp_gt_t {x y : Int32} {off : Int} {tgt : Nat} (hd : decode cc pc = .ok (.if_icmp .gt off, 3)) (ht : (pc : Int) + off = (tgt : Int)) (hc : y < x) (k : WP G own cc nL ret ini d mc ms cells slots Q tgt ls st h) : WP G own cc nL ret ini d mc ms cells slots Q pc ls (.int y :: .int x :: st) h := w_icmp_gt hd ht (fun _ => k) (fun z => absurd hc z)
theorem w_icmp_gt_f {x y : Int32} {off : Int} (hd : decode cc pc = .ok (.if_icmp .gt off, 3)) {tgt : Nat} (ht : (pc : Int) + off = (tgt : Int)) (hc : ¬ (y < x)) (k : WP G own cc nL ret ini d mc ms cells slots Q (pc + 3) ls st h) : WP G own cc nL ret ini d mc ms cells slots Q pc ls (.int y :: .int x :: st) h := w_icmp_gt hd ht (fun z => absurd z hc) (fun _ => k)
theorem w_if_gt {x : Int32} {off : Int} {tgt : Nat} (hd : decode cc pc = .ok (.ifCond .gt off, 3)) (ht : (pc : Int) + off = (tgt : Int)) (kt : 0 < x → WP G own cc nL ret ini d mc ms cells slots Q tgt ls st h) (kf : ¬ (0 < x) → WP G own cc nL ret ini d mc ms cells slots Q (pc + 3) ls st h) : WP G own cc nL ret ini d mc ms cells slots Q pc ls (.int x :: st) h := by
  intro p e s m args below meth c H locs lsA h1 h2 h3 h4 h5 h6 h7 h8 h9 h10
  exact lv_if_gt h1 h2 hd ht (fun z => (kt z p e s m args below meth c H locs lsA h1 h2 h3 h4 h5 h6 h7 h8 h9 h10)) (fun z => (kf z p e s m args below meth c H locs lsA h1 h2 h3 h4 h5 h6 h7 h8 h9 h10))
theorem w_if_gt_t {x : Int32} {off : Int} {tgt : Nat} (hd : decode cc pc = .ok (.ifCond .gt off, 3)) (ht : (pc : Int) + off = (tgt : Int)) (hc : 0 < x) (k : WP G own cc nL ret ini d mc ms cells slots Q tgt ls st h) : WP G own cc nL ret ini d mc ms cells slots Q pc ls (.int x :: st) h := w_if_gt hd ht (fun _ => k) (fun z => absurd hc z)
theorem w_if_gt_f {x : Int32} {off : Int} (hd : decode cc pc = .ok (.ifCond .gt off, 3)) {tgt : Nat} (ht : (pc : Int) + off = (tgt : Int)) (hc : ¬ (0 < x)) (k : WP G own cc nL ret ini d mc ms cells slots Q (pc + 3) ls st h) : WP G own cc nL ret ini d mc ms cells slots Q pc ls (.int x :: st) h := w_if_gt hd ht (fun z => absurd z hc) (fun _ => k)
theorem w_icmp_le {x y : Int32} {off : Int} {tgt : Nat} (hd : decode cc pc = .ok (.if_icmp .le off, 3)) (ht : (pc : Int) + off = (tgt : Int)) (kt : x ≤ y → WP G own cc nL ret ini d mc ms cells slots Q tgt ls st h) (kf : ¬ (x ≤ y) → WP G own cc nL ret ini d mc ms cells slots Q (pc + 3) ls st h) : WP G own cc nL ret ini d mc ms cells slots Q pc ls (.int y :: .int x :: st) h := by
  intro p e s m args below meth c H locs lsA h1 h2 h3 h4 h5 h6 h7 h8 h9 h10
  exact lv_icmp_le h1 h2 hd ht (fun z => (kt z p e s m args below meth c H locs lsA h1 h2 h3 h4 h5 h6 h7 h8 h9 h10)) (fun z => (kf z p e s m args below meth c H locs lsA h1 h2 h3 h4 h5 h6 h7 h8 h9 h10))
theorem w_icmp_le_t {x y : Int32} {off : Int} {tgt : Nat} (hd : decode cc pc = .ok (.if_icmp .le off, 3)) (ht : (pc : Int) + off = (tgt : Int)) (hc : x ≤ y) (k : WP G own cc nL ret ini d mc ms cells slots Q tgt ls st h) : WP G own cc nL ret ini d mc ms cells slots Q pc ls (.int y :: .int x :: st) h := w_icmp_le hd ht (fun _ => k) (fun z => absurd hc z)
theorem w_icmp_le_f {x y : Int32} {off : Int} (hd : decode cc pc = .ok (.if_icmp .le off, 3)) {tgt : Nat} (ht : (pc : Int) + off = (tgt : Int)) (hc : ¬ (x ≤ y)) (k : WP G own cc nL ret ini d mc ms cells slots Q (pc + 3) ls st h) : WP G own cc nL ret ini d mc ms cells slots Q pc ls (.int y :: .int x :: st) h := w_icmp_le hd ht (fun z => absurd z hc) (fun _ => k)
theorem w_if_le {x : Int32} {off : Int} {tgt : Nat} (hd : decode cc pc = .ok (.ifCond .le off, 3)) (ht : (pc : Int) + off = (tgt : Int)) (kt : x ≤ 0 → WP G own cc nL ret ini d mc ms cells slots Q tgt ls st h) (kf : ¬ (x ≤ 0) → WP G own cc nL ret ini d mc ms cells slots Q (pc + 3) ls st h) : WP G own cc nL ret ini d mc ms cells slots Q pc ls (.int x :: st) h := by
  intro p e s m args below meth c H locs lsA h1 h2 h3 h4 h5 h6 h7 h8 h9 h10
  exact lv_if_le h1 h2 hd ht (fun z => (kt z p e s m args below meth c H locs lsA h1 h2 h3 h4 h5 h6 h7 h8 h9 h10)) (fun z => (kf z p e s m args below meth c H locs lsA h1 h2 h3 h4 h5 h6 h7 h8 h9 h10))
theorem w_if_le_t {x : Int32} {off : Int} {tgt : Nat} (hd : decode cc pc = .ok (.ifCond .le off, 3)) (ht : (pc : Int) + off = (tgt : Int)) (hc : x ≤ 0) (k : WP G own cc nL ret ini d mc ms cells slots Q tgt ls st h) : WP G own cc nL ret ini d mc ms cells slots Q pc ls (.int x :: st) h := w_if_le hd ht (fun _ => k) (fun z => absurd hc z)
theorem w_if_le_f {x : Int32} {off : Int} (hd : decode cc pc = .ok (.ifCond .le off, 3)) {tgt : Nat} (ht : (pc : Int) + off = (tgt : Int)) (hc : ¬ (x ≤ 0)) (k : WP G own cc nL ret ini d mc ms cells slots Q (pc + 3) ls st h) : WP G own cc nL ret ini d mc ms cells slots Q pc ls (.int x :: st) h := w_if_le hd ht (fun z => absurd z hc) (fun _ => k)
theorem w_goto {off : Int} {tgt : Nat} (hd : decode cc pc = .ok (.goto off, 3)) (ht : (pc : Int) + off = (tgt : Int)) (k : WP G own cc nL ret ini d mc ms cells slots Q tgt ls st h) : WP G own cc nL ret ini d mc ms cells slots Q pc ls st h := by
  intro p e s m args below meth c H locs lsA h1 h2 h3 h4 h5 h6 h7 h8 h9 h10
  exact lv_goto h1 h2 hd ht (k p e s m args below meth c H locs lsA h1 h2 h3 h4 h5 h6 h7 h8 h9 h10)
theorem w_ifnull {x : Nat} {off : Int} (hd : decode cc pc = .ok (.ifnull off, 3)) (k : WP G own cc nL ret ini d mc ms cells slots Q (pc + 3) ls st h) : WP G own cc nL ret ini d mc ms cells slots Q pc ls (.ref x :: st) h := by
  intro p e s m args below meth c H locs lsA h1 h2 h3 h4 h5 h6 h7 h8 h9 h10
  exact lv_ifnull h1 h2 hd (k p e s m args below meth c H locs lsA h1 h2 h3 h4 h5 h6 h7 h8 h9 h10)
theorem w_ifnullN {off : Int} {tgt : Nat} (hd : decode cc pc = .ok (.ifnull off, 3)) (ht : (pc : Int) + off = (tgt : Int)) (k : WP G own cc nL ret ini d mc ms cells slots Q tgt ls st h) : WP G own cc nL ret ini d mc ms cells slots Q pc ls (.null :: st) h := by
  intro p e s m args below meth c H locs lsA h1 h2 h3 h4 h5 h6 h7 h8 h9 h10
  exact lv_ifnullN h1 h2 hd ht (k p e s m args below meth c H locs lsA h1 h2 h3 h4 h5 h6 h7 h8 h9 h10)
theorem w_ifnonnull {x : Nat} {off : Int} {tgt : Nat} (hd : decode cc pc = .ok (.ifnonnull off, 3)) (ht : (pc : Int) + off = (tgt : Int)) (k : WP G own cc nL ret ini d mc ms cells slots Q tgt ls st h) : WP G own cc nL ret ini d mc ms cells slots Q pc ls (.ref x :: st) h := by
  intro p e s m args below meth c H locs lsA h1 h2 h3 h4 h5 h6 h7 h8 h9 h10
  exact lv_ifnonnull h1 h2 hd ht (k p e s m args below meth c H locs lsA h1 h2 h3 h4 h5 h6 h7 h8 h9 h10)
theorem w_ifnonnullN {off : Int} (hd : decode cc pc = .ok (.ifnonnull off, 3)) (k : WP G own cc nL ret ini d mc ms cells slots Q (pc + 3) ls st h) : WP G own cc nL ret ini d mc ms cells slots Q pc ls (.null :: st) h := by
  intro p e s m args below meth c H locs lsA h1 h2 h3 h4 h5 h6 h7 h8 h9 h10
  exact lv_ifnonnullN h1 h2 hd (k p e s m args below meth c H locs lsA h1 h2 h3 h4 h5 h6 h7 h8 h9 h10)
theorem w_tableOut {dflt lo hi : Int} {offs : Array Int} {len : Nat} {x : Int32} {tgt : Nat} (hd : decode cc pc = .ok (.tableswitch dflt lo hi offs, len)) (hx : x.toInt < lo ∨ hi < x.toInt) (ht : (pc : Int) + dflt = (tgt : Int)) (k : WP G own cc nL ret ini d mc ms cells slots Q tgt ls st h) : WP G own cc nL ret ini d mc ms cells slots Q pc ls (.int x :: st) h := by
  intro p e s m args below meth c H locs lsA h1 h2 h3 h4 h5 h6 h7 h8 h9 h10
  exact lv_tableOut h1 h2 hd hx ht (k p e s m args below meth c H locs lsA h1 h2 h3 h4 h5 h6 h7 h8 h9 h10)
theorem w_tableIn {dflt lo hi : Int} {offs : Array Int} {len : Nat} {x : Int32} {off : Int} {tgt : Nat} (hd : decode cc pc = .ok (.tableswitch dflt lo hi offs, len)) (hx1 : ¬ x.toInt < lo) (hx2 : ¬ hi < x.toInt) (ho : offs[(x.toInt - lo).toNat]? = some off) (ht : (pc : Int) + off = (tgt : Int)) (k : WP G own cc nL ret ini d mc ms cells slots Q tgt ls st h) : WP G own cc nL ret ini d mc ms cells slots Q pc ls (.int x :: st) h := by
  intro p e s m args below meth c H locs lsA h1 h2 h3 h4 h5 h6 h7 h8 h9 h10
  exact lv_tableIn h1 h2 hd hx1 hx2 ho ht (k p e s m args below meth c H locs lsA h1 h2 h3 h4 h5 h6 h7 h8 h9 h10)
theorem w_ldc {idx : Nat} {v : Int32} (hw : Cond.constant own idx v ∈ lw_tbl) (hd : decode cc pc = .ok (.ldc idx, 2)) (k : WP G own cc nL ret ini d mc ms cells slots Q (pc + 2) ls (.int v :: st) h) : WP G own cc nL ret ini d mc ms cells slots Q pc ls st h := by
  intro p e s m args below meth c H locs lsA h1 h2 h3 h4 h5 h6 h7 h8 h9 h10
  exact lv_ldc h1 h2 h5 (h8.2.1.at hw rfl rfl) hd (k p e s m args below meth c H locs lsA h1 h2 h3 h4 h5 h6 h7 h8 h9 h10)
theorem w_ldcw {idx : Nat} {v : Int32} (hw : Cond.constant own idx v ∈ lw_tbl) (hd : decode cc pc = .ok (.ldc_w idx, 3)) (k : WP G own cc nL ret ini d mc ms cells slots Q (pc + 3) ls (.int v :: st) h) : WP G own cc nL ret ini d mc ms cells slots Q pc ls st h := by
  intro p e s m args below meth c H locs lsA h1 h2 h3 h4 h5 h6 h7 h8 h9 h10
  exact lv_ldcw h1 h2 h5 (h8.2.1.at hw rfl rfl) hd (k p e s m args below meth c H locs lsA h1 h2 h3 h4 h5 h6 h7 h8 h9 h10)
theorem w_ldc2 {idx : Nat} {v : Int64} (hw : Cond.constantLong own idx v ∈ lw_tbl) (hd : decode cc pc = .ok (.ldc2_w idx, 3)) (k : WP G own cc nL ret ini d mc ms cells slots Q (pc + 3) ls (.long v :: st) h) : WP G own cc nL ret ini d mc ms cells slots Q pc ls st h := by
  intro p e s m args below meth c H locs lsA h1 h2 h3 h4 h5 h6 h7 h8 h9 h10
  exact lv_ldc2 h1 h2 h5 (h8.2.1.at hw rfl rfl) hd (k p e s m args below meth c H locs lsA h1 h2 h3 h4 h5 h6 h7 h8 h9 h10)
theorem w_ldcS {idx i : Nat} {r : String × Nat × String × Nat × List Int32} (hr : wSL[i]? = some r) (ho : r.1 = own) (hx : r.2.1 = idx) (hd : decode cc pc = .ok (.ldc idx, 2)) (k : WP G own cc nL ret ini d mc ms cells slots Q (pc + 2) ls (.ref (G.2.2.1 i) :: st) h) : WP G own cc nL ret ini d mc ms cells slots Q pc ls st h := by
  intro p e s m args below meth c H locs lsA h1 h2 h3 h4 h5 h6 h7 h8 h9 h10
  subst ho; subst hx
  exact va_ldcS h1 h2 h5 (h8.2.2.1 i r hr).1 hd (k p e s m args below meth c H locs lsA h1 h2 h3 h4 h5 h6 h7 h8 h9 h10)
theorem w_ireturn {x : Int32} (hr : ret = some .int) (hd : decode cc pc = .ok (.ireturn, 1)) (hc : cells ≤ mc) (hs : slots ≤ ms) (k : Q (some (.int x)) h) : WP G own cc nL ret ini d mc ms cells slots Q pc ls [.int x] h := by
  intro p e s m args below meth c H locs lsA h1 h2 h3 h4 h5 h6 h7 h8 h9 h10
  subst hr
  refine W.widen (k := mc) (n := ms) hc hs ?_
  exact W.iret h1 h2 h3 (fun t ht hW => ⟨_, h, rfl, k, by rw [ht]; exact h8.warm hW, h9.F ht⟩) h9.2.2 hd h6
theorem w_zreturn {x : Int32} {ty : FieldType} (hr : ret = some ty) (hd : decode cc pc = .ok (.ireturn, 1)) (hn : narrow ty (.int x) = .int x) (hc : cells ≤ mc) (hs : slots ≤ ms) (k : Q (some (.int x)) h) : WP G own cc nL ret ini d mc ms cells slots Q pc ls [.int x] h := by
  intro p e s m args below meth c H locs lsA h1 h2 h3 h4 h5 h6 h7 h8 h9 h10
  subst hr
  refine W.widen (k := mc) (n := ms) hc hs ?_
  exact W.zret h1 h2 h3 hn (fun t ht hW => ⟨_, h, rfl, k, by rw [ht]; exact h8.warm hW, h9.F ht⟩) h9.2.2 hd h6
theorem w_lreturn {x : Int64} (hr : ret = some .long) (hd : decode cc pc = .ok (.lreturn, 1)) (hc : cells ≤ mc) (hs : slots ≤ ms) (k : Q (some (.long x)) h) : WP G own cc nL ret ini d mc ms cells slots Q pc ls [.long x] h := by
  intro p e s m args below meth c H locs lsA h1 h2 h3 h4 h5 h6 h7 h8 h9 h10
  subst hr
  refine W.widen (k := mc) (n := ms) hc hs ?_
  exact W.lret h1 h2 h3 (fun t ht hW => ⟨_, h, rfl, k, by rw [ht]; exact h8.warm hW, h9.F ht⟩) h9.2.2 hd h6
theorem w_return  (hr : ret = none) (hd : decode cc pc = .ok (.return_, 1)) (hc : cells ≤ mc) (hs : slots ≤ ms) (k : Q (none) h) : WP G own cc nL ret ini d mc ms cells slots Q pc ls [] h := by
  intro p e s m args below meth c H locs lsA h1 h2 h3 h4 h5 h6 h7 h8 h9 h10
  subst hr
  refine W.widen (k := mc) (n := ms) hc hs ?_
  exact W.vret h1 h2 h3 (fun t ht hW => ⟨_, h, rfl, k, by rw [ht]; exact h8.warm hW, h9.F ht⟩) h9.2.2 hd h6
theorem w_areturn {v : Value} {ty : FieldType} (hr : ret = some ty) (hd : decode cc pc = .ok (.areturn, 1)) (ha : (∃ n, ty = .object n) ∨ ∃ t, ty = .array t) (hv : v = .null ∨ ∃ a, v = .ref a) (hc : cells ≤ mc) (hs : slots ≤ ms) (k : Q (some v) h) : WP G own cc nL ret ini d mc ms cells slots Q pc ls [v] h := by
  intro p e s m args below meth c H locs lsA h1 h2 h3 h4 h5 h6 h7 h8 h9 h10
  subst hr
  refine W.widen (k := mc) (n := ms) hc hs ?_
  exact W.aret h1 h2 h3 ha hv (fun t ht hW => ⟨_, h, rfl, k, by rw [ht]; exact h8.warm hW, h9.F ht⟩) h9.2.2 hd h6
/-- fewer locals are known -/
def wSub : List (Option Value) → List (Option Value) → Prop
  | _, [] => True
  | [], b => ∀ x ∈ b, x = none
  | a :: l, b :: k => (b = none ∨ a = b) ∧ wSub l k
theorem wSub_at : ∀ {l k : List (Option Value)}, wSub l k → ∀ (i : Nat) (v : Value), k[i]? = some (some v) → l[i]? = some (some v)
  | [], [], _, i, v, h => by simp at h
  | _ :: _, [], _, i, v, h => by simp at h
  | [], b :: k, hs, i, v, h => by
    have := hs _ (List.mem_of_getElem? h)
    cases this
  | a :: l, b :: k, hs, 0, v, h => by
    cases h
    rcases hs.1 with z | z
    · cases z
    · rw [z]; rfl
  | a :: l, b :: k, hs, i + 1, v, h => wSub_at hs.2 i v h
theorem w_less {ls2 : List (Option Value)} (hs : wSub ls ls2) (k : WP G own cc nL ret ini d mc ms cells slots Q pc ls2 st h) : WP G own cc nL ret ini d mc ms cells slots Q pc ls st h := by
  intro p e s m args below meth c H locs lsA h1 h2 h3 h4 h5 h6 h7 h8 h9 h10
  exact k p e s m args below meth c H locs lsA h1 h2 h3 h4 h5 h6 h7 h8 h9 ⟨h10.1, h10.2.1, fun i v hv => h10.2.2 i v (wSub_at hs i v hv)⟩
theorem w_widen {k' n' : Nat} (hc : cells ≤ k') (hs : slots ≤ n') (k : WP G own cc nL ret ini d mc ms k' n' Q pc ls st h) : WP G own cc nL ret ini d mc ms cells slots Q pc ls st h := by
  intro p e s m args below meth c H locs lsA h1 h2 h3 h4 h5 h6 h7 h8 h9 h10
  exact W.widen hc hs (k p e s m args below meth c H locs lsA h1 h2 h3 h4 h5 h6 h7 h8 h9 h10)
end
