/-! one run of one method: for the law, that reads its script, and for the methods that throw and catch -/
abbrev lX : Type := Program × Env × State × MethodId × Array Value × List Frame × Method × Code × Room × (State → Prop)
def lK (X : lX) (own : String) (cc : ByteArray) (nL : Nat) : Prop := match X with
  | (p, _, s, m, _, _, meth, c, _, _) => p.tables.exec = Jvm.exec ∧ c.code = cc ∧ c.maxLocals = nL ∧ s.vm.findClass own = some m.cls ∧ meth.locks = false
def WL (X : lX) (G : wG) (nL cells slots pc : Nat) (ls : List (Option Value)) (st : List Value) (h : hH) : Prop := match X with
  | (p, e, s, m, args, below, meth, c, R, Z) => ∀ (H : Heap) (locs : List Loc) (lsA : Array Slot), hR G h H s → va_S (wA G) s.heap H locs → wLo lsA nL ls → W p G.1 e R s m args below meth c H locs cells slots Z (F0 m pc lsA st)
section
variable {X : lX} {G : wG} {own : String} {cc : ByteArray} {nL cells slots pc : Nat} {ls : List (Option Value)} {st : List Value} {h : hH}
theorem l_iconst {n : Int} {v : Int32} (C : lK X own cc nL) (hd : decode cc pc = .ok (.iconst n, 1)) (hv : Int32.ofInt n = v) (k : WL X G nL cells slots (pc + 1) ls (.int v :: st) h) : WL X G nL cells slots pc ls st h := by
  obtain ⟨p, e, s, m, args, below, meth, c, R, Z⟩ := X
  obtain ⟨h1, h2, h4, h5, h6⟩ := C
  intro H locs lsA h8 h9 h10
  exact lv_iconst h1 h2 hd hv (k H locs lsA h8 h9 h10)
theorem l_bipush {n : Int} {v : Int32} (C : lK X own cc nL) (hd : decode cc pc = .ok (.bipush n, 2)) (hv : (Int8.ofInt n).toInt32 = v) (k : WL X G nL cells slots (pc + 2) ls (.int v :: st) h) : WL X G nL cells slots pc ls st h := by
  obtain ⟨p, e, s, m, args, below, meth, c, R, Z⟩ := X
  obtain ⟨h1, h2, h4, h5, h6⟩ := C
  intro H locs lsA h8 h9 h10
  exact lv_bipush h1 h2 hd hv (k H locs lsA h8 h9 h10)
theorem l_iadd {x y : Int32} (C : lK X own cc nL) (hd : decode cc pc = .ok (.iadd, 1)) (k : WL X G nL cells slots (pc + 1) ls (.int (x + y) :: st) h) : WL X G nL cells slots pc ls (.int y :: .int x :: st) h := by
  obtain ⟨p, e, s, m, args, below, meth, c, R, Z⟩ := X
  obtain ⟨h1, h2, h4, h5, h6⟩ := C
  intro H locs lsA h8 h9 h10
  exact lv_iadd h1 h2 hd  (k H locs lsA h8 h9 h10)
theorem l_isub {x y : Int32} (C : lK X own cc nL) (hd : decode cc pc = .ok (.isub, 1)) (k : WL X G nL cells slots (pc + 1) ls (.int (x - y) :: st) h) : WL X G nL cells slots pc ls (.int y :: .int x :: st) h := by
  obtain ⟨p, e, s, m, args, below, meth, c, R, Z⟩ := X
  obtain ⟨h1, h2, h4, h5, h6⟩ := C
  intro H locs lsA h8 h9 h10
  exact lv_isub h1 h2 hd  (k H locs lsA h8 h9 h10)
theorem l_iand {x y : Int32} (C : lK X own cc nL) (hd : decode cc pc = .ok (.iand, 1)) (k : WL X G nL cells slots (pc + 1) ls (.int (x &&& y) :: st) h) : WL X G nL cells slots pc ls (.int y :: .int x :: st) h := by
  obtain ⟨p, e, s, m, args, below, meth, c, R, Z⟩ := X
  obtain ⟨h1, h2, h4, h5, h6⟩ := C
  intro H locs lsA h8 h9 h10
  exact lv_iand h1 h2 hd  (k H locs lsA h8 h9 h10)
theorem l_i2l {x : Int32}  (C : lK X own cc nL) (hd : decode cc pc = .ok (.i2l, 1)) (k : WL X G nL cells slots (pc + 1) ls (.long x.toInt64 :: st) h) : WL X G nL cells slots pc ls (.int x :: st) h := by
  obtain ⟨p, e, s, m, args, below, meth, c, R, Z⟩ := X
  obtain ⟨h1, h2, h4, h5, h6⟩ := C
  intro H locs lsA h8 h9 h10
  exact lv_i2l h1 h2 hd rfl (k H locs lsA h8 h9 h10)
theorem l_dup {v : Value} (C : lK X own cc nL) (hd : decode cc pc = .ok (.dup, 1)) (hv : v.category = 1) (k : WL X G nL cells slots (pc + 1) ls (v :: v :: st) h) : WL X G nL cells slots pc ls (v :: st) h := by
  obtain ⟨p, e, s, m, args, below, meth, c, R, Z⟩ := X
  obtain ⟨h1, h2, h4, h5, h6⟩ := C
  intro H locs lsA h8 h9 h10
  exact lv_dup h1 h2 hd hv (k H locs lsA h8 h9 h10)
theorem l_lcmp {x y : Int64} (C : lK X own cc nL) (hd : decode cc pc = .ok (.lcmp, 1)) (k : WL X G nL cells slots (pc + 1) ls (.int (lg_cmp x y) :: st) h) : WL X G nL cells slots pc ls (.long y :: .long x :: st) h := by
  obtain ⟨p, e, s, m, args, below, meth, c, R, Z⟩ := X
  obtain ⟨h1, h2, h4, h5, h6⟩ := C
  intro H locs lsA h8 h9 h10
  exact W.lcmp h1 h2 hd (k H locs lsA h8 h9 h10)
theorem l_iload_n {kf : Fin 4} {x : Int32} (C : lK X own cc nL) (hd : decode cc pc = .ok (.iload_n kf, 1)) (hl : ls[kf.val]? = some (some (.int x))) (k : WL X G nL cells slots (pc + 1) ls (.int x :: st) h) : WL X G nL cells slots pc ls st h := by
  obtain ⟨p, e, s, m, args, below, meth, c, R, Z⟩ := X
  obtain ⟨h1, h2, h4, h5, h6⟩ := C
  intro H locs lsA h8 h9 h10
  exact lv_iload_n h1 h2 hd rfl (h10.2.2 _ _ hl) (k H locs lsA h8 h9 h10)
theorem l_iload {i : Nat} {x : Int32} (C : lK X own cc nL) (hd : decode cc pc = .ok (.iload i, 2)) (hl : ls[i]? = some (some (.int x))) (k : WL X G nL cells slots (pc + 2) ls (.int x :: st) h) : WL X G nL cells slots pc ls st h := by
  obtain ⟨p, e, s, m, args, below, meth, c, R, Z⟩ := X
  obtain ⟨h1, h2, h4, h5, h6⟩ := C
  intro H locs lsA h8 h9 h10
  exact lv_iload h1 h2 hd (h10.2.2 _ _ hl) (k H locs lsA h8 h9 h10)
theorem l_aload_n {kf : Fin 4} {x : Nat} (C : lK X own cc nL) (hd : decode cc pc = .ok (.aload_n kf, 1)) (hl : ls[kf.val]? = some (some (.ref x))) (k : WL X G nL cells slots (pc + 1) ls (.ref x :: st) h) : WL X G nL cells slots pc ls st h := by
  obtain ⟨p, e, s, m, args, below, meth, c, R, Z⟩ := X
  obtain ⟨h1, h2, h4, h5, h6⟩ := C
  intro H locs lsA h8 h9 h10
  exact lv_aload_n h1 h2 hd rfl (h10.2.2 _ _ hl) (k H locs lsA h8 h9 h10)
theorem l_aload {i : Nat} {x : Nat} (C : lK X own cc nL) (hd : decode cc pc = .ok (.aload i, 2)) (hl : ls[i]? = some (some (.ref x))) (k : WL X G nL cells slots (pc + 2) ls (.ref x :: st) h) : WL X G nL cells slots pc ls st h := by
  obtain ⟨p, e, s, m, args, below, meth, c, R, Z⟩ := X
  obtain ⟨h1, h2, h4, h5, h6⟩ := C
  intro H locs lsA h8 h9 h10
  exact lv_aload h1 h2 hd (h10.2.2 _ _ hl) (k H locs lsA h8 h9 h10)
theorem l_istore_n {kf : Fin 4} {x : Int32} (C : lK X own cc nL) (hd : decode cc pc = .ok (.istore_n kf, 1)) (hi : kf.val < nL) (hn : wNl ls kf.val = true) {ls2 : List (Option Value)} (hs : ls.set kf.val (some (.int x)) = ls2) (k : WL X G nL cells slots (pc + 1) ls2 st h) : WL X G nL cells slots pc ls (.int x :: st) h := by
  obtain ⟨p, e, s, m, args, below, meth, c, R, Z⟩ := X
  obtain ⟨h1, h2, h4, h5, h6⟩ := C
  intro H locs lsA h8 h9 h10
  exact lv_istore_n h1 h2 hd rfl h10.has hi rfl (fun ls9 g9 => (k H locs ls9 h8 h9 (hs ▸ wLo.st1 hn g9)))
theorem l_istore {i : Nat} {x : Int32} (C : lK X own cc nL) (hd : decode cc pc = .ok (.istore i, 2)) (hi : i < nL) (hn : wNl ls i = true) {ls2 : List (Option Value)} (hs : ls.set i (some (.int x)) = ls2) (k : WL X G nL cells slots (pc + 2) ls2 st h) : WL X G nL cells slots pc ls (.int x :: st) h := by
  obtain ⟨p, e, s, m, args, below, meth, c, R, Z⟩ := X
  obtain ⟨h1, h2, h4, h5, h6⟩ := C
  intro H locs lsA h8 h9 h10
  exact lv_istore h1 h2 hd h10.has hi rfl (fun ls9 g9 => (k H locs ls9 h8 h9 (hs ▸ wLo.st1 hn g9)))
theorem l_astore_n {kf : Fin 4} {x : Nat} (C : lK X own cc nL) (hd : decode cc pc = .ok (.astore_n kf, 1)) (hi : kf.val < nL) (hn : wNl ls kf.val = true) {ls2 : List (Option Value)} (hs : ls.set kf.val (some (.ref x)) = ls2) (k : WL X G nL cells slots (pc + 1) ls2 st h) : WL X G nL cells slots pc ls (.ref x :: st) h := by
  obtain ⟨p, e, s, m, args, below, meth, c, R, Z⟩ := X
  obtain ⟨h1, h2, h4, h5, h6⟩ := C
  intro H locs lsA h8 h9 h10
  exact lv_astore_n h1 h2 hd rfl h10.has hi rfl (fun ls9 g9 => (k H locs ls9 h8 h9 (hs ▸ wLo.st1 hn g9)))
theorem l_astore {i : Nat} {x : Nat} (C : lK X own cc nL) (hd : decode cc pc = .ok (.astore i, 2)) (hi : i < nL) (hn : wNl ls i = true) {ls2 : List (Option Value)} (hs : ls.set i (some (.ref x)) = ls2) (k : WL X G nL cells slots (pc + 2) ls2 st h) : WL X G nL cells slots pc ls (.ref x :: st) h := by
  obtain ⟨p, e, s, m, args, below, meth, c, R, Z⟩ := X
  obtain ⟨h1, h2, h4, h5, h6⟩ := C
  intro H locs lsA h8 h9 h10
  exact lv_astore h1 h2 hd h10.has hi rfl (fun ls9 g9 => (k H locs ls9 h8 h9 (hs ▸ wLo.st1 hn g9)))
theorem l_iinc {i : Nat} {n : Int} {x v : Int32} (C : lK X own cc nL) (hd : decode cc pc = .ok (.iinc i n, 3)) (hl : ls[i]? = some (some (.int x))) (hv : x + Int32.ofInt n = v) (hi : i < nL) (hn : wNl ls i = true) {ls2 : List (Option Value)} (hs : ls.set i (some (.int v)) = ls2) (k : WL X G nL cells slots (pc + 3) ls2 st h) : WL X G nL cells slots pc ls st h := by
  obtain ⟨p, e, s, m, args, below, meth, c, R, Z⟩ := X
  obtain ⟨h1, h2, h4, h5, h6⟩ := C
  intro H locs lsA h8 h9 h10
  obtain ⟨j, hj⟩ := List.getElem?_of_mem (wAs_in.mpr hl)
  exact lv_iinc h1 h2 hd h10.has hj hv hi rfl (fun ls9 g9 => (k H locs ls9 h8 h9 (hs ▸ wLo.st1 hn g9)))
theorem l_icmp_eq {x y : Int32} {off : Int} {tgt : Nat} (C : lK X own cc nL) (hd : decode cc pc = .ok (.if_icmp .eq off, 3)) (ht : (pc : Int) + off = (tgt : Int)) (kt : x = y → WL X G nL cells slots tgt ls st h) (kf : ¬ (x = y) → WL X G nL cells slots (pc + 3) ls st h) : WL X G nL cells slots pc ls (.int y :: .int x :: st) h := by
  obtain ⟨p, e, s, m, args, below, meth, c, R, Z⟩ := X
  obtain ⟨h1, h2, h4, h5, h6⟩ := C
  intro H locs lsA h8 h9 h10
  exact lv_icmp_eq h1 h2 hd ht (fun z => (kt z H locs lsA h8 h9 h10)) (fun z => (kf z H locs lsA h8 h9 h10))
theorem l_if_eq {x : Int32} {off : Int} {tgt : Nat} (C : lK X own cc nL) (hd : decode cc pc = .ok (.ifCond .eq off, 3)) (ht : (pc : Int) + off = (tgt : Int)) (kt : x = 0 → WL X G nL cells slots tgt ls st h) (kf : ¬ (x = 0) → WL X G nL cells slots (pc + 3) ls st h) : WL X G nL cells slots pc ls (.int x :: st) h := by
  obtain ⟨p, e, s, m, args, below, meth, c, R, Z⟩ := X
  obtain ⟨h1, h2, h4, h5, h6⟩ := C
  intro H locs lsA h8 h9 h10
  exact lv_if_eq h1 h2 hd ht (fun z => (kt z H locs lsA h8 h9 h10)) (fun z => (kf z H locs lsA h8 h9 h10))
theorem l_icmp_ne {x y : Int32} {off : Int} {tgt : Nat} (C : lK X own cc nL) (hd : decode cc pc = .ok (.if_icmp .ne off, 3)) (ht : (pc : Int) + off = (tgt : Int)) (kt : ¬ x = y → WL X G nL cells slots tgt ls st h) (kf : x = y → WL X G nL cells slots (pc + 3) ls st h) : WL X G nL cells slots pc ls (.int y :: .int x :: st) h := by
  obtain ⟨p, e, s, m, args, below, meth, c, R, Z⟩ := X
  obtain ⟨h1, h2, h4, h5, h6⟩ := C
  intro H locs lsA h8 h9 h10
  exact lv_icmp_ne h1 h2 hd ht (fun z => (kt z H locs lsA h8 h9 h10)) (fun z => (kf z H locs lsA h8 h9 h10))
theorem l_if_ne {x : Int32} {off : Int} {tgt : Nat} (C : lK X own cc nL) (hd : decode cc pc = .ok (.ifCond .ne off, 3)) (ht : (pc : Int) + off = (tgt : Int)) (kt : ¬ x = 0 → WL X G nL cells slots tgt ls st h) (kf : x = 0 → WL X G nL cells slots (pc + 3) ls st h) : WL X G nL cells slots pc ls (.int x :: st) h := by
  obtain ⟨p, e, s, m, args, below, meth, c, R, Z⟩ := X
  obtain ⟨h1, h2, h4, h5, h6⟩ := C
  intro H locs lsA h8 h9 h10
  exact lv_if_ne h1 h2 hd ht (fun z => (kt z H locs lsA h8 h9 h10)) (fun z => (kf z H locs lsA h8 h9 h10))
theorem l_icmp_ge {x y : Int32} {off : Int} {tgt : Nat} (C : lK X own cc nL) (hd : decode cc pc = .ok (.if_icmp .ge off, 3)) (ht : (pc : Int) + off = (tgt : Int)) (kt : y ≤ x → WL X G nL cells slots tgt ls st h) (kf : ¬ (y ≤ x) → WL X G nL cells slots (pc + 3) ls st h) : WL X G nL cells slots pc ls (.int y :: .int x :: st) h := by
  obtain ⟨p, e, s, m, args, below, meth, c, R, Z⟩ := X
  obtain ⟨h1, h2, h4, h5, h6⟩ := C
  intro H locs lsA h8 h9 h10
  exact lv_icmp_ge h1 h2 hd ht (fun z => (kt z H locs lsA h8 h9 h10)) (fun z => (kf z H locs lsA h8 h9 h10))
theorem l_if_ge {x : Int32} {off : Int} {tgt : Nat} (C : lK X own cc nL) (hd : decode cc pc = .ok (.ifCond .ge off, 3)) (ht : (pc : Int) + off = (tgt : Int)) (kt : 0 ≤ x → WL X G nL cells slots tgt ls st h) (kf : ¬ (0 ≤ x) → WL X G nL cells slots (pc + 3) ls st h) : WL X G nL cells slots pc ls (.int x :: st) h := by
  obtain ⟨p, e, s, m, args, below, meth, c, R, Z⟩ := X
  obtain ⟨h1, h2, h4, h5, h6⟩ := C
  intro H locs lsA h8 h9 h10
  exact lv_if_ge h1 h2 hd ht (fun z => (kt z H locs lsA h8 h9 h10)) (fun z => (kf z H locs lsA h8 h9 h10))
theorem l_icmp_gt {x y : Int32} {off : Int} {tgt : Nat} (C : lK X own cc nL) (hd : decode cc pc = .ok (.if_icmp .gt off, 3)) (ht : (pc : Int) + off = (tgt : Int)) (kt : y < x → WL X G nL cells slots tgt ls st h) (kf : ¬ (y < x) → WL X G nL cells slots (pc + 3) ls st h) : WL X G nL cells slots pc ls (.int y :: .int x :: st) h := by
  obtain ⟨p, e, s, m, args, below, meth, c, R, Z⟩ := X
  obtain ⟨h1, h2, h4, h5, h6⟩ := C
  intro H locs lsA h8 h9 h10
  exact lv_icmp_gt h1 h2 hd ht (fun z => (kt z H locs lsA h8 h9 h10)) (fun z => (kf z H locs lsA h8 h9 h10))
theorem l_if_gt {x : Int32} {off : Int} {tgt : Nat} (C : lK X own cc nL) (hd : decode cc pc = .ok (.ifCond .gt off, 3)) (ht : (pc : Int) + off = (tgt : Int)) (kt : 0 < x → WL X G nL cells slots tgt ls st h) (kf : ¬ (0 < x) → WL X G nL cells slots (pc + 3) ls st h) : WL X G nL cells slots pc ls (.int x :: st) h := by
  obtain ⟨p, e, s, m, args, below, meth, c, R, Z⟩ := X
  obtain ⟨h1, h2, h4, h5, h6⟩ := C
  intro H locs lsA h8 h9 h10
  exact lv_if_gt h1 h2 hd ht (fun z => (kt z H locs lsA h8 h9 h10)) (fun z => (kf z H locs lsA h8 h9 h10))
theorem l_goto {off : Int} {tgt : Nat} (C : lK X own cc nL) (hd : decode cc pc = .ok (.goto off, 3)) (ht : (pc : Int) + off = (tgt : Int)) (k : WL X G nL cells slots tgt ls st h) : WL X G nL cells slots pc ls st h := by
  obtain ⟨p, e, s, m, args, below, meth, c, R, Z⟩ := X
  obtain ⟨h1, h2, h4, h5, h6⟩ := C
  intro H locs lsA h8 h9 h10
  exact lv_goto h1 h2 hd ht (k H locs lsA h8 h9 h10)
theorem l_tableOut {dflt lo hi : Int} {offs : Array Int} {len : Nat} {x : Int32} {tgt : Nat} (C : lK X own cc nL) (hd : decode cc pc = .ok (.tableswitch dflt lo hi offs, len)) (hx : x.toInt < lo ∨ hi < x.toInt) (ht : (pc : Int) + dflt = (tgt : Int)) (k : WL X G nL cells slots tgt ls st h) : WL X G nL cells slots pc ls (.int x :: st) h := by
  obtain ⟨p, e, s, m, args, below, meth, c, R, Z⟩ := X
  obtain ⟨h1, h2, h4, h5, h6⟩ := C
  intro H locs lsA h8 h9 h10
  exact lv_tableOut h1 h2 hd hx ht (k H locs lsA h8 h9 h10)
theorem l_tableIn {dflt lo hi : Int} {offs : Array Int} {len : Nat} {x : Int32} {off : Int} {tgt : Nat} (C : lK X own cc nL) (hd : decode cc pc = .ok (.tableswitch dflt lo hi offs, len)) (hx1 : ¬ x.toInt < lo) (hx2 : ¬ hi < x.toInt) (ho : offs[(x.toInt - lo).toNat]? = some off) (ht : (pc : Int) + off = (tgt : Int)) (k : WL X G nL cells slots tgt ls st h) : WL X G nL cells slots pc ls (.int x :: st) h := by
  obtain ⟨p, e, s, m, args, below, meth, c, R, Z⟩ := X
  obtain ⟨h1, h2, h4, h5, h6⟩ := C
  intro H locs lsA h8 h9 h10
  exact lv_tableIn h1 h2 hd hx1 hx2 ho ht (k H locs lsA h8 h9 h10)
theorem l_less {ls2 : List (Option Value)} (hs : wSub ls ls2) (k : WL X G nL cells slots pc ls2 st h) : WL X G nL cells slots pc ls st h := by
  obtain ⟨p, e, s, m, args, below, meth, c, R, Z⟩ := X
  intro H locs lsA h8 h9 h10
  exact k H locs lsA h8 h9 ⟨h10.1, h10.2.1, fun i v hv => h10.2.2 i v (wSub_at hs i v hv)⟩
theorem l_widen {k' n' : Nat} (hc : cells ≤ k') (hs : slots ≤ n') (k : WL X G nL k' n' pc ls st h) : WL X G nL cells slots pc ls st h := by
  obtain ⟨p, e, s, m, args, below, meth, c, R, Z⟩ := X
  intro H locs lsA h8 h9 h10
  exact W.widen hc hs (k H locs lsA h8 h9 h10)
theorem l_heq {h2 : hH} (e : h = h2) (k : WL X G nL cells slots pc ls st h2) : WL X G nL cells slots pc ls st h := e ▸ k
theorem l_topV {x z : Value} (e : x = z) (k : WL X G nL cells slots pc ls (z :: st) h) : WL X G nL cells slots pc ls (x :: st) h := e ▸ k
theorem l_get {idx ci k q : Nat} {ty : FieldType} {fin : Bool} {fs : List Value} {v : Value} (C : lK X own cc nL) (hF : wF own idx ci k ty fin) (hq : h.1 q = some (oC ci fs)) (hv : fs[k]? = some v) (hd : decode cc pc = .ok (.getfield idx, 3)) (kk : WL X G nL cells slots (pc + 3) ls (v :: st) h) : WL X G nL cells slots pc ls (.ref q :: st) h := by
  obtain ⟨p, e, s, m, args, below, meth, c, R, Z⟩ := X
  obtain ⟨h1, h2, h4, h5, h6⟩ := C
  intro H locs lsA h8 h9 h10
  have K9 := kk H locs lsA h8 h9 h10
  obtain ⟨C, T, N, ty0, hC, hk, hTC, -, -, hlink⟩ := hF
  obtain ⟨-, hts, -, -, -, -, D, hK, hcell⟩ := id h8
  obtain ⟨r, g1, cell, q1, q2, q3, q4⟩ := hcell q _ hq
  have hr : r = (C, T, N) := Option.some.inj (g1.symm.trans hC.1)
  subst hr
  obtain ⟨hS, hfc, kC, hkC, hkind⟩ := hK.1 ci _ hC.1
  obtain ⟨cf, kf, fi, f, hi, hsl⟩ := hS k hk
  have hst := (u_facts (args := args) hfc hkC (u_lays (hC.hts hts) (fun _ z => z) hk) hi).1
  have hsv : cell.slots[f.slot]? = some v := by
    rw [hsl, q4 k hk]
    simp [vp_V, hv]
  rw [hTC] at hi
  rcases hlink with hlink | ⟨host, hlink⟩
  · exact W.getf h1 h2 h5 (hts.at hlink rfl rfl) hi hst q1 (by rw [q3]; exact fun z => by cases z) (v := v) hsv rfl rfl hd K9
  · exact va_Wgetf h1 h2 h5 (hts.at hlink rfl rfl) hi hst q1 (by rw [q3]; exact fun z => by cases z) (v := v) hsv rfl rfl hd K9
theorem l_laload {q n : Nat} {f : Nat → Int64} {i : Int32} (C : lK X own cc nL) (hq : h.1 q = some (aL n f)) (hin : vp_in i n) (hd : decode cc pc = .ok (.laload, 1)) (kk : WL X G nL cells slots (pc + 1) ls (.long (f i.toNatClampNeg) :: st) h) : WL X G nL cells slots pc ls (.int i :: .ref q :: st) h := by
  obtain ⟨p, e, s, m, args, below, meth, c, R, Z⟩ := X
  obtain ⟨h1, h2, h4, h5, h6⟩ := C
  intro H locs lsA h8 h9 h10
  have K9 := kk H locs lsA h8 h9 h10
  obtain ⟨-, -, -, -, -, -, D, hK, hcell⟩ := id h8
  obtain ⟨cA, g1, g2, g3⟩ := hcell q _ hq
  have hlt : i.toNatClampNeg < n := Nat.not_le.mp fun z => hin (Or.inr z)
  exact W.lald (v := .long (f i.toNatClampNeg)) h1 h2 g3 (g1 n (fun j => .long (f j))) (fun z => by cases z) (by show ¬ (i < 0 ∨ (arrV _ _ _).slots.size ≤ _); rw [arrV_size]; exact hin) (by show (arrV _ _ _).slots[_]? = _; rw [arrV_read _ _ hlt]) rfl rfl hd K9
theorem l_lastore {q n : Nat} {f : Nat → Int64} {i : Int32} {x : Int64} (C : lK X own cc nL) (hq : h.1 q = some (aL n f)) (hin : vp_in i n) (hd : decode cc pc = .ok (.lastore, 1)) (kk : WL X G nL cells slots (pc + 1) ls st (hU h q (aL n (vp_updL f i.toNatClampNeg x)))) : WL X G nL cells slots pc ls (.long x :: .int i :: .ref q :: st) h := by
  obtain ⟨p, e, s, m, args, below, meth, c, R, Z⟩ := X
  obtain ⟨h1, h2, h4, h5, h6⟩ := C
  intro H locs lsA h8 h9 h10
  obtain ⟨-, -, -, -, hb0, -, D, hK, hcell⟩ := id h8
  obtain ⟨cA, g1, g2, g3⟩ := hcell q _ hq
  refine W.last h1 h2 g3 (g1 n (fun j => .long (f j))) (fun z => by cases z) (by show ¬ (i < 0 ∨ (arrV _ _ _).slots.size ≤ _); rw [arrV_size]; exact hin) rfl rfl hd fun H1 e1 z oq => ?_
  refine kk H1 _ lsA (h8.put hq z oq (fun D' hK' hc' => ?_)) (h9.put z oq (hb0 q _ hq)) h10
  refine ⟨cA, g1, g2, ?_⟩
  show H1[q]? = some (vp_cell _ _)
  rw [e1]
  rw [vp_cell_l, vp_cell_l, arrV_store]
  congr 2
  funext j
  by_cases hj : j = i.toNatClampNeg
  · subst hj
    simp [updV, vp_updL]
    try rfl
  · simp [updV, vp_updL, hj]
theorem l_new {idx ci N : Nat} {C' : String} {T : u_T} {ty : Nat → FieldType} {fs : List Value} (C : lK X own cc nL) (hC : wC ci C' T N ty) (hl : Cond.classLink own idx C' ∈ lw_tbl) (hi : Cond.instantiable C' N ∈ lw_tbl) (hz : Cond.initialized C' ∈ lw_tbl) (hfs : ∀ j, j < N → defaultValue (ty j) = vp_V fs j) (hcells : cells + 1 ≤ X.2.2.2.2.2.2.2.2.1.cells) (hslots : slots + N ≤ X.2.2.2.2.2.2.2.2.1.slots) (hd : decode cc pc = .ok (.new idx, 3)) (kk : WL X G nL (cells + 1) (slots + N) (pc + 3) ls (.ref h.2 :: st) (hN h (oC ci fs))) : WL X G nL cells slots pc ls st h := by
  obtain ⟨p, e, s, m, args, below, meth, c, R, Z⟩ := X
  obtain ⟨h1, h2, h4, h5, h6⟩ := C
  intro H locs lsA h8 h9 h10
  obtain ⟨hsz, hts, -, -, hb0, -, D, hK, hcell⟩ := id h8
  have hKn := hK.1 ci _ hC.1
  refine W.newcK h1 h2 h5 (hts.at hl rfl rfl) (hts.at hi rfl rfl) (hts.at hz rfl rfl) rfl hd hcells hslots hKn.2.1 rfl fun H1 kC hkC e1 z1 o1 => ?_
  have hX := kk H1 locs lsA (h8.new z1 o1 (fun D' hK' => ?_)) ⟨Nat.le_trans h9.1 (by omega), fun x g1 g2 => (o1 x (Nat.lt_of_lt_of_le g1 h9.1)).trans (h9.2.1 x g1 g2), h9.2.2⟩ h10
  · rw [← hsz] at hX
    exact hX
  · have hKn' := hK'.1 ci _ hC.1
    have hcc : D'.1 ci = D.1 ci := Option.some.inj (hKn'.2.1.symm.trans hKn.2.1)
    exact ⟨_, hC.1, (u_born (args := args) ty (hC.hts hts) (fun _ z => z) hKn' (hcc ▸ hkC) (by rw [hcc]; exact e1) hC.2.2.1).to hfs⟩
theorem l_newL {n : Int32} {N : Nat} (C : lK X own cc nL) (hw : Cond.arrayClass .long ∈ lw_tbl) (hn : ¬ n < 0) (hNn : n.toNatClampNeg = N) (hbig : N * componentBytes .long ≤ 536870912) (hcells : cells + 1 ≤ X.2.2.2.2.2.2.2.2.1.cells) (hslots : slots + N ≤ X.2.2.2.2.2.2.2.2.1.slots) (hd : decode cc pc = .ok (.newarray .long, 2)) (kk : WL X G nL (cells + 1) (slots + N) (pc + 2) ls (.ref h.2 :: st) (hN h (aL N (fun _ => 0)))) : WL X G nL cells slots pc ls (.int n :: st) h := by
  obtain ⟨p, e, s, m, args, below, meth, c, R, Z⟩ := X
  obtain ⟨h1, h2, h4, h5, h6⟩ := C
  intro H locs lsA h8 h9 h10
  obtain ⟨hsz, hts, -, -, hb0, -, D, hK, hcell⟩ := id h8
  have hwd : (Cond.arrayClass .long).before args s = true := by
    have h0 := hts _ hw rfl
    first
      | exact h0
      | exact va_tabs rfl rfl h0
  refine va_newaK (atype := .long) h1 h2 hwd rfl hd rfl hn hNn hbig hcells hslots rfl fun H1 cA e1 z1 o1 hAr hNm => ?_
  have hX := kk H1 locs lsA (h8.new z1 o1 (fun D' hK' => ?_)) ⟨Nat.le_trans h9.1 (by omega), fun x g1 g2 => (o1 x (Nat.lt_of_lt_of_le g1 h9.1)).trans (h9.2.1 x g1 g2), h9.2.2⟩ h10
  · rw [← hsz] at hX
    exact hX
  · refine ⟨cA, hAr, hNm, ?_⟩
    show H1[H.size]? = some (vp_cell _ _)
    rw [vp_cell_l]
    exact e1
/-- the script of L ints xs at the cell sb, below all that is ours -/
def lS (X : lX) (G : wG) (sb L : Nat) (xs : Nat → Int32) : Prop := va_X sb L xs X.2.2.1 X.2.2.1.heap ∧ sb < X.2.2.1.heap.size ∧ X.2.2.1.heap.size ≤ G.2.1
theorem l_sld {sb L : Nat} {xs : Nat → Int32} {i : Int32} (C : lK X own cc nL) (hS : lS X G sb L xs) (hin : vp_in i L) (hd : decode cc pc = .ok (.iaload, 1)) (k : WL X G nL cells slots (pc + 1) ls (.int (xs i.toNatClampNeg) :: st) h) : WL X G nL cells slots pc ls (.int i :: .ref sb :: st) h := by
  obtain ⟨p, e, s, m, args, below, meth, c, R, Z⟩ := X
  obtain ⟨h1, h2, h4, h5, h6⟩ := C
  intro H locs lsA h8 h9 h10
  obtain ⟨s1, s2, s3⟩ := hS
  exact va_sld h1 h2 s1 s2 (fun z => absurd (Nat.lt_of_lt_of_le s2 s3) (Nat.not_lt.mpr z)) h9 hin hd (k H locs lsA h8 h9 h10)
theorem l_slen {sb L : Nat} {xs : Nat → Int32} (C : lK X own cc nL) (hS : lS X G sb L xs) (hd : decode cc pc = .ok (.arraylength, 1)) (k : WL X G nL cells slots (pc + 1) ls (.int (Int32.ofNat L) :: st) h) : WL X G nL cells slots pc ls (.ref sb :: st) h := by
  obtain ⟨p, e, s, m, args, below, meth, c, R, Z⟩ := X
  obtain ⟨h1, h2, h4, h5, h6⟩ := C
  intro H locs lsA h8 h9 h10
  obtain ⟨s1, s2, s3⟩ := hS
  exact va_slen h1 h2 s1 s2 (fun z => absurd (Nat.lt_of_lt_of_le s2 s3) (Nat.not_lt.mpr z)) h9 hd (k H locs lsA h8 h9 h10)
theorem l_callV {idx n d' mc' ms' q ci : Nat} {y : MethodName} {As : List Value} {fs : List Value} (C : lK X own cc nL) (hL : wLk own idx y) (hY : wYv y n) (hn : As.length = n) (hq : h.1 q = some (oC ci fs)) (hcl : (vwCl[ci]?.map (fun z => z.1)) = some y.cls) (hst : (st.map fun v => v.category).sum ≤ 8) (hd : decode cc pc = .ok (.invokevirtual idx, 3)) (hcells : cells + mc' ≤ X.2.2.2.2.2.2.2.2.1.cells) (hslots : slots + ms' ≤ X.2.2.2.2.2.2.2.2.1.slots) (hdd : d' + 1 ≤ X.2.2.2.2.2.2.2.2.1.frames) (hdl : 37 * d' + 37 ≤ X.2.2.2.2.2.2.2.2.1.locals) (k : Cl G y d' mc' ms' (.ref q :: As) h (fun r h' => WL X G nL (cells + mc') (slots + ms') (pc + 3) ls (psh r st) h')) : WL X G nL cells slots pc ls (As.reverse ++ .ref q :: st) h := by
  obtain ⟨p, e, s, m, args, below, meth, c, R, Z⟩ := X
  obtain ⟨h1, h2, h4, h5, h6⟩ := C
  intro H locs lsA h8 h9 h10
  obtain ⟨bytes, maxL, rt, hcode, hmx, hM⟩ := k
  have hts := h8.2.1
  have hroom : 8 + (maxL + 11) + (wR d' mc' ms').locals ≤ R.locals := by
    refine Nat.le_trans ?_ hdl
    show 8 + (maxL + 11) + 37 * d' ≤ 37 * d' + 37
    omega
  have hww : ∀ w ∈ [Cond.code y bytes maxL rt], ∀ (a' : Array Value) (U : State), s.WarmedH U.vm → w.before a' U = true := by
    intro w hw a' U hW
    rw [List.mem_singleton.mp hw]
    exact (hts.warm hW).at hcode rfl rfl
  have hrv : ∃ cellB : Cell, H[q]? = some cellB ∧ cellB.vm.isStatics = false ∧ s.vm.findClass y.cls = some cellB.cls := by
    obtain ⟨-, -, -, -, -, -, D, hK, hcell⟩ := id h8
    obtain ⟨r, g1, cell, q1, q2, q3, -⟩ := hcell q _ hq
    rw [g1] at hcl
    have hcn : r.1 = y.cls := Option.some.inj hcl
    exact ⟨cell, q1, by rw [q3]; rfl, by rw [q2, ← hcn]; exact (hK.1 ci r g1).2.1⟩
  rcases hL with hL | ⟨host, hL⟩
  · refine w_after (va_runV (As := As) (rest := st) (C := y.cls) (Ts := []) ⟨h1, h2, h4, h5, fun _ z => nomatch z⟩ hM ⟨⟨rfl, rfl, hdd, hroom, hww, List.mem_singleton.mpr rfl, hts.at hcode rfl rfl, hts.at hY.1.1 rfl rfl, hY.1.2.1, hY.1.len, hts.at hL rfl rfl⟩, hts.at hY.2.1 rfl rfl, hts.at hY.2.2 rfl rfl⟩ ⟨hR.blind, hrv, fun U hU hW => ⟨rfl, hR.at hU (h8.warm hW)⟩⟩ rfl hn h10.1 rfl (lv_room hst) hd ⟨hcells, hslots⟩) h8 h9 (fun r h' hQ H1 locs1 hR1 hS1 => hQ H1 locs1 lsA hR1 hS1 h10)
  · refine w_after (va_runVN (As := As) (rest := st) (C := y.cls) (Ts := []) ⟨h1, h2, h4, h5, fun _ z => nomatch z⟩ hM ⟨⟨⟨rfl, rfl, hdd, hroom, hww, List.mem_singleton.mpr rfl⟩, hts.at hcode rfl rfl, hts.at hY.1.1 rfl rfl, hY.1.2.1, hY.1.len, hts.at hL rfl rfl⟩, hts.at hY.2.1 rfl rfl, hts.at hY.2.2 rfl rfl⟩ ⟨hR.blind, hrv, fun U hU hW => ⟨rfl, hR.at hU (h8.warm hW)⟩⟩ rfl hn h10.1 rfl (lv_room hst) hd ⟨hcells, hslots⟩) h8 h9 (fun r h' hQ H1 locs1 hR1 hS1 => hQ H1 locs1 lsA hR1 hS1 h10)
theorem l_callS {idx n d' mc' ms'  : Nat} {y : MethodName} {As : List Value} (C : lK X own cc nL) (hL : wLk own idx y) (hY : wYs y n) (hn : As.length = n) (hst : (st.map fun v => v.category).sum ≤ 8) (hd : decode cc pc = .ok (.invokestatic idx, 3)) (hcells : cells + mc' ≤ X.2.2.2.2.2.2.2.2.1.cells) (hslots : slots + ms' ≤ X.2.2.2.2.2.2.2.2.1.slots) (hdd : d' + 1 ≤ X.2.2.2.2.2.2.2.2.1.frames) (hdl : 37 * d' + 37 ≤ X.2.2.2.2.2.2.2.2.1.locals) (k : Cl G y d' mc' ms' As h (fun r h' => WL X G nL (cells + mc') (slots + ms') (pc + 3) ls (psh r st) h')) : WL X G nL cells slots pc ls (As.reverse ++ st) h := by
  obtain ⟨p, e, s, m, args, below, meth, c, R, Z⟩ := X
  obtain ⟨h1, h2, h4, h5, h6⟩ := C
  intro H locs lsA h8 h9 h10
  obtain ⟨bytes, maxL, rt, hcode, hmx, hM⟩ := k
  have hts := h8.2.1
  have hroom : 8 + (maxL + 11) + (wR d' mc' ms').locals ≤ R.locals := by
    refine Nat.le_trans ?_ hdl
    show 8 + (maxL + 11) + 37 * d' ≤ 37 * d' + 37
    omega
  have hww : ∀ w ∈ [Cond.code y bytes maxL rt], ∀ (a' : Array Value) (U : State), s.WarmedH U.vm → w.before a' U = true := by
    intro w hw a' U hW
    rw [List.mem_singleton.mp hw]
    exact (hts.warm hW).at hcode rfl rfl
  skip
  rcases hL with hL | ⟨host, hL⟩
  · refine w_after (va_runS (As := As) (rest := st) (Ts := []) ⟨h1, h2, h4, h5, fun _ z => nomatch z⟩ hM ⟨⟨rfl, rfl, hdd, hroom, hww, List.mem_singleton.mpr rfl, hts.at hcode rfl rfl, hts.at hY.1.1 rfl rfl, hY.1.2.1, hY.1.len, hts.at hL rfl rfl⟩, hts.at hY.2 rfl rfl⟩ ⟨hR.blind, fun U hU hW => ⟨rfl, hR.at hU (h8.warm hW)⟩⟩ rfl hn h10.1 rfl (lv_room hst) hd ⟨hcells, hslots⟩) h8 h9 (fun r h' hQ H1 locs1 hR1 hS1 => hQ H1 locs1 lsA hR1 hS1 h10)
  · refine w_after (va_runSN (As := As) (rest := st) (Ts := []) ⟨h1, h2, h4, h5, fun _ z => nomatch z⟩ hM ⟨⟨⟨rfl, rfl, hdd, hroom, hww, List.mem_singleton.mpr rfl⟩, hts.at hcode rfl rfl, hts.at hY.1.1 rfl rfl, hY.1.2.1, hY.1.len, hts.at hL rfl rfl⟩, hts.at hY.2 rfl rfl, trivial⟩ ⟨hR.blind, fun U hU hW => ⟨rfl, hR.at hU (h8.warm hW)⟩⟩ rfl hn h10.1 rfl (lv_room hst) hd ⟨hcells, hslots⟩) h8 h9 (fun r h' hQ H1 locs1 hR1 hS1 => hQ H1 locs1 lsA hR1 hS1 h10)
theorem l_callI {idx n d' mc' ms' q : Nat} {y : MethodName} {As : List Value} (C : lK X own cc nL) (hL : wLk own idx y) (hY : wYi y n) (hn : As.length = n) (hst : (st.map fun v => v.category).sum ≤ 8) (hd : decode cc pc = .ok (.invokespecial idx, 3)) (hcells : cells + mc' ≤ X.2.2.2.2.2.2.2.2.1.cells) (hslots : slots + ms' ≤ X.2.2.2.2.2.2.2.2.1.slots) (hdd : d' + 1 ≤ X.2.2.2.2.2.2.2.2.1.frames) (hdl : 37 * d' + 37 ≤ X.2.2.2.2.2.2.2.2.1.locals) (k : ClI G y d' mc' ms' (.ref q :: As) h (fun h' => WL X G nL (cells + mc') (slots + ms') (pc + 3) ls st h')) : WL X G nL cells slots pc ls (As.reverse ++ .ref q :: st) h := by
  obtain ⟨p, e, s, m, args, below, meth, c, R, Z⟩ := X
  obtain ⟨h1, h2, h4, h5, h6⟩ := C
  intro H locs lsA h8 h9 h10
  obtain ⟨bytes, maxL, hcode, hmx, hM⟩ := k
  have hts := h8.2.1
  have hroom : 8 + (maxL + 11) + (wR d' mc' ms').locals ≤ R.locals := by
    refine Nat.le_trans ?_ hdl
    show 8 + (maxL + 11) + 37 * d' ≤ 37 * d' + 37
    omega
  have hww : ∀ w ∈ [Cond.code y bytes maxL none], ∀ (a' : Array Value) (U : State), s.WarmedH U.vm → w.before a' U = true := by
    intro w hw a' U hW
    rw [List.mem_singleton.mp hw]
    exact (hts.warm hW).at hcode rfl rfl
  skip
  rcases hL with hL | ⟨host, hL⟩
  · refine w_after (va_runI (As := As) (rest := st) (Ts := []) ⟨h1, h2, h4, h5, fun _ z => nomatch z⟩ hM ⟨⟨rfl, rfl, hdd, hroom, hww, List.mem_singleton.mpr rfl, hts.at hcode rfl rfl, hts.at hY.1.1 rfl rfl, hY.1.2.1, hY.1.len, hts.at hL rfl rfl⟩, hY.2.2, hts.at hY.2.1 rfl rfl⟩ ⟨hR.blind, fun U hU hW => ⟨rfl, hR.at hU (h8.warm hW)⟩⟩ rfl hn h10.1 rfl (lv_room hst) hd ⟨hcells, hslots⟩) h8 h9 (fun r h' hQ H1 locs1 hR1 hS1 => by obtain ⟨rfl, hQ⟩ := hQ; exact hQ H1 locs1 lsA hR1 hS1 h10)
  · refine w_after (va_runIN (As := As) (rest := st) (Ts := []) ⟨h1, h2, h4, h5, fun _ z => nomatch z⟩ hM ⟨⟨⟨rfl, rfl, hdd, hroom, hww, List.mem_singleton.mpr rfl⟩, hts.at hcode rfl rfl, hts.at hY.1.1 rfl rfl, hY.1.2.1, hY.1.len, hts.at hL rfl rfl⟩, hY.2.2, hts.at hY.2.1 rfl rfl⟩ ⟨hR.blind, fun U hU hW => ⟨rfl, hR.at hU (h8.warm hW)⟩⟩ rfl hn h10.1 rfl (lv_room hst) hd ⟨hcells, hslots⟩) h8 h9 (fun r h' hQ H1 locs1 hR1 hS1 => by obtain ⟨rfl, hQ⟩ := hQ; exact hQ H1 locs1 lsA hR1 hS1 h10)
end
