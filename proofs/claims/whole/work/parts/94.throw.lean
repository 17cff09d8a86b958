/-! throwing and catching -/
def xE : String := "java/util/NoSuchElementException"
def xNm : List String := ["java/lang/RuntimeException", "java/lang/Exception"]
/-- the words of a throw that goodWord doesn't take; they stay all the same -/
def wXL : List Cond := [.castable "java/util/NoSuchElementException" "java/util/NoSuchElementException", .declares ⟨"java/lang/RuntimeException", "<init>", "()V"⟩, .declares ⟨"java/lang/Exception", "<init>", "()V"⟩, .declares ⟨"java/lang/Throwable", "<init>", "()V"⟩]
def wX (U : State) : Prop := ∀ w ∈ wXL, w.before #[] U = true
theorem declares_warm {x : MethodName} {s U : State} (hW : s.WarmedH U.vm) (h : (Cond.declares x).before #[] s = true) : (Cond.declares x).before #[] U = true := va_tabs rfl (rfl : (s.setVm U.vm).vm = U.vm) (by rw [Cond.declares_setVm hW.alike]; exact h)
theorem wX.warm {s U : State} (hW : s.WarmedH U.vm) (h : wX s) : wX U := by
  intro w hw
  have h0 := h w hw
  simp only [wXL, List.mem_cons, List.not_mem_nil, or_false] at hw
  rcases hw with rfl | rfl | rfl | rfl
  · exact va_Nw.warmC hW h0
  · exact declares_warm hW h0
  · exact declares_warm hW h0
  · exact declares_warm hW h0
theorem xAt_in : ∀ w ∈ vx_at0 RX9 296 xE xNm, ((w ∈ lw_tbl ∧ wOk w = true) ∨ w ∈ wXL) ∧ w.onTables = true := by decide +kernel
theorem xAt_ot : ∀ w ∈ Cond.classLink RX9 294 xE :: Cond.initialized xE :: vx_at0 RX9 296 xE xNm, vx_ot w = true := by decide +kernel
theorem xE_init : Cond.initialized xE ∈ lw_tbl := tq 22 (by decide +kernel)
theorem xE_link : Cond.classLink RX9 294 xE ∈ lw_tbl := tq 981 (by decide +kernel)
theorem xE_linkL : Cond.classLink RL 13 xE ∈ lw_tbl := tq 972 (by decide +kernel)
theorem xL_code : Cond.codeWith yL_letter cL_letter 6 (some .int) [(0, 12, 15, 13)] ∈ lw_tbl := tq 971 (by decide +kernel)
theorem xL_stat : Cond.static yL_letter ∈ lw_tbl := tq 970 (by decide +kernel)
theorem xL_init : Cond.initialized RL ∈ lw_tbl := tq 0 (by decide +kernel)
theorem xL_link : Cond.methodLink RL 158 yL_letter ∈ lw_tbl := tq 969 (by decide +kernel)
theorem xC_link : Cond.methodLink RL 7 yX9_letter ∈ lw_tbl := tq 973 (by decide +kernel)
theorem xAt_at {s : State} {args : Array Value} (ht : wTb s) (hx : wX s) : ∀ w ∈ vx_at0 RX9 296 xE xNm, w.before args s = true := by
  intro w hw
  obtain ⟨h1, h2⟩ := xAt_in w hw
  rcases h1 with ⟨h1, h3⟩ | h1
  · exact ht.at h1 h3 h2
  · exact va_tabs h2 rfl (hx w h1)
/-- a method's beginning -/
theorem lE {p : Program} {e : Env} {s : State} {m : MethodId} {as : List Value} {below : List Frame} {meth : Method} {c : Code} {R : Room} {Z : State → Prop} {G : wG} {nL : Nat} {ls : List (Option Value)} {h : hH} (hls : wAr as ++ List.replicate (nL - (wAr as).length) none = ls) (hl : (lg_sl as).length ≤ nL) (hr : hR G h s.heap s) (k : WL (p, e, s, m, as.toArray, below, meth, c, R, Z) G nL 0 0 0 ls [] h) : W p G.1 e R s m as.toArray below meth c s.heap [] 0 0 Z (entryFrame m as.toArray nL) := by
  subst hls
  rw [lg_entry_eq]
  exact k s.heap [] _ hr va_S.rf (wLo_entry as hl (fun i v hi => wPad_in hi))
/-- the heap, but for what the caller knows already -/
def hRw (G : wG) (h : hH) (H : Heap) (s : State) : Prop := H.size = h.2 ∧ (∀ (q : Nat) (c : hC), h.1 q = some c → G.2.1 ≤ q) ∧ G.2.1 ≤ h.2 ∧ ∃ D : va_G, va_K D vwCl [] s ∧ ∀ (q : Nat) (c : hC), h.1 q = some c → hAt D s q c H
theorem hR.w {G : wG} {h : hH} {H : Heap} {s : State} (k : hR G h H s) : hRw G h H s := ⟨k.1, k.2.2.2.2.1, k.2.2.2.2.2.1, k.2.2.2.2.2.2⟩
theorem hRw.moved {G : wG} {h : hH} {H : Heap} {s U : State} (hvm : s.vm.Alike U.vm) (k : hRw G h H s) : hRw G h H U := by
  obtain ⟨k1, k5, k6, D, k7, k8⟩ := k
  exact ⟨k1, k5, k6, D, va_K.moved hvm k7, fun q c hq => (k8 q c hq).moved hvm⟩
theorem hR.backw {G : wG} {h h' : hH} {H H1 : Heap} {s t : State} (hs : hR G h H s) (ht : hRw G h' H1 t) (hvm : s.vm.Alike t.vm) (hk : ∀ a : Nat, a < H.size → ¬ wA G a → H1[a]? = H[a]?) : hR G h' H1 s := by
  obtain ⟨k1, k2, k3, k4, -⟩ := hs
  obtain ⟨j1, j5, j6, D, j7, j8⟩ := ht
  exact ⟨j1, k2, k3.kept hk, k4.kept hk, j5, j6, D, va_K.moved hvm.symm j7, fun q c hq => (j8 q c hq).moved hvm.symm⟩
/-- where xE is thrown: T holds, the cells stand -/
def lXC (G : wG) (h : hH) (T : Prop) : String → State → State → Prop := fun E st t => E = xE ∧ T ∧ h.2 ≤ t.heap.size ∧ hRw G (h.1, t.heap.size) t.heap t ∧ va_F (wA G) st t
def xPc (G : wG) (h : hH) (as : List Value) : Array Value → State → Prop := va_Pc as (fun U => hR G h U.heap U ∧ wX U)
theorem xPc_blind {G : wG} {h : hH} {as : List Value} : FrameBlind (xPc G h as) := fun a U g mk q => ⟨q.1, hR.warm (s := U) (U := U.calling g mk a) (State.WarmedH.refl U) q.2.1, wX.warm (s := U) (U := U.calling g mk a) (State.WarmedH.refl U) q.2.2⟩
theorem lx_ireturn {p : Program} {e : Env} {s : State} {m : MethodId} {args : Array Value} {below : List Frame} {meth : Method} {c : Code} {R : Room} {Q : Option Value → hH → Prop} {XC : String → State → State → Prop} {G : wG} {own : String} {cc : ByteArray} {nL cells slots mc ms pc : Nat} {ls : List (Option Value)} {h : hH} {x : Int32} {X : lX} (hX : X = (p, e, s, m, args, below, meth, c, R, vx_MQ below (wQc G Q) XC args s mc ms (wA G))) (C : lK X own cc nL) (hr : meth.sig.returnType = some .int) (hd : decode cc pc = .ok (.ireturn, 1)) (hc : cells ≤ mc) (hs : slots ≤ ms) (k : Q (some (.int x)) h) : WL X G nL cells slots pc ls [.int x] h := by
  subst hX
  obtain ⟨h1, h2, h4, h5, h6⟩ := C
  intro H locs lsA h8 h9 h10
  refine vx_ret ?_
  refine W.widen (k := mc) (n := ms) hc hs ?_
  exact W.iret h1 h2 hr (fun t ht hW => ⟨_, h, rfl, k, by rw [ht]; exact h8.warm hW, h9.F ht⟩) h9.2.2 hd h6
theorem lm_ireturn {p : Program} {e : Env} {s : State} {m : MethodId} {args : Array Value} {below : List Frame} {meth : Method} {c : Code} {R : Room} {Q : Option Value → hH → Prop} {G : wG} {own : String} {cc : ByteArray} {nL cells slots mc ms pc : Nat} {ls : List (Option Value)} {h : hH} {x : Int32} {X : lX} (hX : X = (p, e, s, m, args, below, meth, c, R, MQ below (wQc G Q) args s mc ms (wA G))) (C : lK X own cc nL) (hr : meth.sig.returnType = some .int) (hd : decode cc pc = .ok (.ireturn, 1)) (hc : cells ≤ mc) (hs : slots ≤ ms) (k : Q (some (.int x)) h) : WL X G nL cells slots pc ls [.int x] h := by
  subst hX
  obtain ⟨h1, h2, h4, h5, h6⟩ := C
  intro H locs lsA h8 h9 h10
  refine W.widen (k := mc) (n := ms) hc hs ?_
  exact W.iret h1 h2 hr (fun t ht hW => ⟨_, h, rfl, k, by rw [ht]; exact h8.warm hW, h9.F ht⟩) h9.2.2 hd h6
/-- throw new NoSuchElementException() in the class's letter -/
theorem lx_throw {p : Program} {e : Env} {s : State} {m : MethodId} {args : Array Value} {below : List Frame} {meth : Method} {c : Code} {Q : Option Value → hH → Prop} {T : Prop} {G : wG} {d : Nat} {ls : List (Option Value)} {h h0 : hH} {X : lX} (hX : X = (p, e, s, m, args, below, meth, c, wR (d + 6) 1 6, vx_MQ below (wQc G Q) (lXC G h T) args s 1 6 (wA G))) (C : lK X RX9 cX9_letter 6) (h00 : hR G h0 s.heap s) (hx : wX s) (hout : ∀ x ∈ c.exceptionTable.toList, False) (hT : T) : WL X G 6 0 0 37 ls [] h := by
  subst hX
  obtain ⟨h1, h2, h4, h5, h6⟩ := C
  intro H locs lsA h8 h9 h10
  refine vx_throw0 (own := RX9) (cls := xE) (names := xNm) (ik := 294) (ic := 296) (A := wA G) h1 h2 h8.2.2.2.1.2.2.2.2 h5 (by decide +kernel) (by decide +kernel) (h8.2.1.at xE_link rfl rfl) (h8.2.1.at xE_init rfl rfl) (xAt_at h8.2.1 hx) xAt_ot h00.2.2.2.1.2.2.1 h00.2.2.2.1.2.2.2.1 h9 (h10.1.trans h4.symm) dX9_letter_37 dX9_letter_40 dX9_letter_41 dX9_letter_44 (fun x z => (hout x z).elim) (by show 2 + 3 < d + 6; omega) (by show 0 + (13 * (2 + 1) + 42) ≤ 37 * (d + 6); omega) (Nat.le_refl 1) (Nat.le_refl 6) h6 (fun t hvm hz ho => ?_) h9.2.2 (Nat.le_refl 1) (Nat.le_refl 6)
  have hm := (h8.more (n := t.heap.size) rfl hz ho).w.moved hvm
  exact ⟨rfl, hT, by rw [← h8.1]; exact hz, hm, Nat.le_trans h9.1 hz, fun q g1 g2 => (ho q (Nat.lt_of_lt_of_le g1 h9.1)).trans (h9.2.1 q g1 g2)⟩
set_option maxRecDepth 100000 in
set_option maxHeartbeats 4000000 in
theorem c_nameOf0_x {G : wG} {d : Nat} {h : hH} {Q : Option Value → hH → Prop} {p : Nat} {P : pD} {l : Int32} (hp : hPl h p P) (hl : ¬ ∃ j, j < P.1 ∧ l = nI j) (k : Q (some (.int 0)) h) : Cl G yX4_nameOf (d + 1) 0 0 [.ref p, .int 0, .int l] h Q := by
  have hw : hHas h [p] [(oC 4 [.ref (p + 1), .ref (p + 10), .int (nI P.1), .int (nI P.2.1)])] := hHas_cons hp.2.1 hHas_nil
  refine Cl.of (ini := false) kX4_nameOf (plainFor_of_name (by decide)) (by decide) (Nat.le_of_ble_eq_true rfl) rfl rfl (fun z => by cases z) ?_
  refine w_iload_n dX4_nameOf_0 rfl ?_
  refine w_if_ne_f (tgt := 23) dX4_nameOf_1 rfl (by decide) ?_
  refine w_aload_n dX4_nameOf_4 rfl ?_
  refine w_iload_n dX4_nameOf_5 rfl ?_
  refine w_callV (ci := 4) (d' := d) (mc' := 0) (ms' := 0) (As := [.int l]) (st := []) lX4_36 vX4_loopAt rfl (hw 0 _ _ rfl rfl) rfl (Nat.le_of_ble_eq_true rfl) dX4_nameOf_6 (Nat.le_of_ble_eq_true rfl) (Nat.le_of_ble_eq_true rfl) (Nat.le_refl _) (c_loopAt_n (hHas_s hw (as' := [p]) (cs' := [(oC 4 [.ref (p + 1), .ref (p + 10), .int (nI P.1), .int (nI P.2.1)])]) [0] rfl rfl) hl hp.1.1 ?_)
  refine w_astore_nN (ls2 := [some (.ref p), some (.int 0), some (.int l), some (.null)]) dX4_nameOf_9 (by decide) rfl rfl ?_
  refine w_aload_nN dX4_nameOf_10 rfl ?_
  refine w_ifnonnullN dX4_nameOf_11 ?_
  refine w_iconst (v := 0) dX4_nameOf_14 (by decide) ?_
  refine w_goto (tgt := 22) dX4_nameOf_15 rfl ?_
  refine w_ireturn rfl dX4_nameOf_22 (Nat.le_of_ble_eq_true rfl) (Nat.le_of_ble_eq_true rfl) ?_
  exact k
set_option maxRecDepth 100000 in
set_option maxHeartbeats 4000000 in
theorem c_nameOf1_x {G : wG} {d : Nat} {h : hH} {Q : Option Value → hH → Prop} {p : Nat} {P : pD} {l : Int32} (hp : hPl h p P) (hl : ¬ ∃ j, j < P.2.1 ∧ l = nI j) (k : Q (some (.int 0)) h) : Cl G yX4_nameOf (d + 1) 0 0 [.ref p, .int 1, .int l] h Q := by
  have hw : hHas h [p] [(oC 4 [.ref (p + 1), .ref (p + 10), .int (nI P.1), .int (nI P.2.1)])] := hHas_cons hp.2.1 hHas_nil
  refine Cl.of (ini := false) kX4_nameOf (plainFor_of_name (by decide)) (by decide) (Nat.le_of_ble_eq_true rfl) rfl rfl (fun z => by cases z) ?_
  refine w_iload_n dX4_nameOf_0 rfl ?_
  refine w_if_ne_t (tgt := 23) dX4_nameOf_1 rfl (by decide) ?_
  refine w_aload_n dX4_nameOf_23 rfl ?_
  refine w_iload_n dX4_nameOf_24 rfl ?_
  refine w_callV (ci := 4) (d' := d) (mc' := 0) (ms' := 0) (As := [.int l]) (st := []) lX4_43 vX4_waveAt rfl (hw 0 _ _ rfl rfl) rfl (Nat.le_of_ble_eq_true rfl) dX4_nameOf_25 (Nat.le_of_ble_eq_true rfl) (Nat.le_of_ble_eq_true rfl) (Nat.le_refl _) (c_waveAt_n (hHas_s hw (as' := [p]) (cs' := [(oC 4 [.ref (p + 1), .ref (p + 10), .int (nI P.1), .int (nI P.2.1)])]) [0] rfl rfl) hl hp.1.2 ?_)
  refine w_astore_nN (ls2 := [some (.ref p), some (.int 1), some (.int l), some (.null)]) dX4_nameOf_28 (by decide) rfl rfl ?_
  refine w_aload_nN dX4_nameOf_29 rfl ?_
  refine w_ifnonnullN dX4_nameOf_30 ?_
  refine w_iconst (v := 0) dX4_nameOf_33 (by decide) ?_
  refine w_goto (tgt := 41) dX4_nameOf_34 rfl ?_
  refine w_ireturn rfl dX4_nameOf_41 (Nat.le_of_ble_eq_true rfl) (Nat.le_of_ble_eq_true rfl) ?_
  exact k
theorem c_nameOfA {G : wG} {d : Nat} {h : hH} {Q : Option Value → hH → Prop} {p : Nat} {P : pD} {x i : Int32} (hp : hPl h p P) (hx : x = 0 ∨ x = 1) (k : Q (some (.int (nmA P x i))) h) : Cl G yX4_nameOf (d + 1) 0 0 [.ref p, .int x, .int i] h Q := by
  rcases hx with rfl | rfl
  · by_cases hl : ∃ j, j < P.1 ∧ i = nI j
    · obtain ⟨j, hj, rfl⟩ := hl
      rw [nmA, if_pos rfl, ixN_s hj (Nat.le_trans hp.1.1 (by decide))] at k
      exact c_nameOf0_s hp (Nat.lt_of_lt_of_le hj hp.1.1) hj k
    · rw [nmA, if_pos rfl, ixN_n hl (Nat.le_trans hp.1.1 (by decide))] at k
      exact c_nameOf0_x hp hl k
  · by_cases hl : ∃ j, j < P.2.1 ∧ i = nI j
    · obtain ⟨j, hj, rfl⟩ := hl
      rw [nmA, if_neg (by decide), if_pos rfl, ixN_s hj (Nat.le_trans hp.1.2 (by decide))] at k
      exact c_nameOf1_s hp (Nat.lt_of_lt_of_le hj hp.1.2) hj k
    · rw [nmA, if_neg (by decide), if_pos rfl, ixN_n hl (Nat.le_trans hp.1.2 (by decide))] at k
      exact c_nameOf1_x hp hl k
set_option maxRecDepth 100000 in
set_option maxHeartbeats 4000000 in
/-- the class's letter: its answer, or the throw -/
theorem x_letter {G : wG} {d : Nat} {h : hH} {Q : Option Value → hH → Prop} {b : Nat} {ft : Nat → Int32} {tp : Nat} {P : pD} {ht : Int32} {R : Option rnD} {i0 i1 : imD} {sd fa pl tr : Int32} {x i y : Int32} (hI : cI h b ft tp P ht R i0 i1 sd fa pl tr) (k : ¬ ltF (nmA P x i) y < 0 → Q (some (.int (ltF (nmA P x i) y))) h) : vx_Met G.1 yX9_letter [Cond.code yX9_letter cX9_letter 6 (some .int)] (wR (d + 6) 1 6) (xPc G h [.ref b, .int x, .int i, .int y]) (wQc G Q) (lXC G h (ltF (nmA P x i) y < 0)) 1 6 (wA G) := by
  refine vx_ofW (cc := cX9_letter) (maxL := 6) (ret := some .int) (by decide) rfl ?_
  intro p e s m args below meth c s₁ B hml hout hv
  obtain ⟨rfl, hR0, hwx⟩ := hv
  obtain ⟨X, hX⟩ : ∃ X : lX, X = (p, e, s, m, ([.ref b, .int x, .int i, .int y] : List Value).toArray, below, meth, c, wR (d + 6) 1 6, vx_MQ below (wQc G Q) (lXC G h (ltF (nmA P x i) y < 0)) ([.ref b, .int x, .int i, .int y] : List Value).toArray s 1 6 (wA G)) := ⟨_, rfl⟩
  have C : lK X RX9 cX9_letter 6 := by
    subst hX
    exact ⟨B.exec, B.bytes, hml, findClass_of_methodNamed B.named, B.notSynchronized⟩
  have hRm : X.2.2.2.2.2.2.2.2.1 = wR (d + 6) 1 6 := by rw [hX]
  have tail : ∀ (nm : Int32), nm = nmA P x i → WL X G 6 0 0 22 [some (.ref b), some (.int x), some (.int i), some (.int y), none, none] [.int nm] h := by
    intro nm hnm
    refine l_istore (ls2 := [some (.ref b), some (.int x), some (.int i), some (.int y), some (.int nm), none]) C dX9_letter_22 (by decide) rfl rfl ?_
    refine l_iload C dX9_letter_24 rfl ?_
    refine l_iload_n C dX9_letter_26 rfl ?_
    refine l_callS (d' := d + 5) (mc' := 0) (ms' := 0) (As := [.int nm, .int y]) (st := []) C lX9_291 vX9_letterOf rfl (Nat.le_of_ble_eq_true rfl) dX9_letter_27 (by rw [hRm]; exact Nat.zero_le _) (by rw [hRm]; exact Nat.zero_le _) (by rw [hRm]; exact Nat.le_refl _) (by rw [hRm]; show 37 * (d + 5) + 37 ≤ 37 * (d + 6); omega) (c_letterOf ?_)
    rw [hnm]
    refine l_istore (ls2 := [some (.ref b), some (.int x), some (.int i), some (.int y), some (.int (nmA P x i)), some (.int (ltF (nmA P x i) y))]) C dX9_letter_30 (by decide) rfl rfl ?_
    refine l_iload C dX9_letter_32 rfl ?_
    refine l_if_ge (tgt := 45) C dX9_letter_34 rfl (fun z => ?_) (fun z => ?_)
    · refine l_iload C dX9_letter_45 rfl ?_
      exact lx_ireturn hX C B.returns dX9_letter_47 (Nat.zero_le _) (Nat.zero_le _) (k (Int32.not_lt.mpr z))
    · exact lx_throw hX C hR0 hwx hout (Int32.not_le.mp z)
  have K : WL X G 6 0 0 0 [some (.ref b), some (.int x), some (.int i), some (.int y), none, none] [] h := by
    refine l_iload_n C dX9_letter_0 rfl ?_
    have look : (x = 0 ∨ x = 1) → WL X G 6 0 0 9 [some (.ref b), some (.int x), some (.int i), some (.int y), none, none] [] h := by
      intro hx
      refine cI_e hI ?_
      intro pp ps P2 go ln wn rsd c9 qw ql cn s9 fo fg fz i01 i02 i03 i04 i05 i06 i07 i11 i12 i13 i14 i15 i16 i17 wm fw f9 q0 c0 s1 q1 c1 s2 q2 c2 x9 hW hpp hP1 hP2 hR hi0 hi1 htp hpo hht
      refine l_aload_n C dX9_letter_9 rfl ?_
      refine l_get (v := .ref pp) C fX9_57 (hW 0 _ _ rfl rfl) rfl dX9_letter_10 ?_
      refine l_iload_n C dX9_letter_13 rfl ?_
      refine l_iload_n C dX9_letter_14 rfl ?_
      refine l_callV (ci := 4) (d' := d + 5) (mc' := 0) (ms' := 0) (As := [.int x, .int i]) (st := []) C lX9_288 vX4_nameOf rfl hP1.2.1 rfl (Nat.le_of_ble_eq_true rfl) dX9_letter_15 (by rw [hRm]; exact Nat.zero_le _) (by rw [hRm]; exact Nat.zero_le _) (by rw [hRm]; exact Nat.le_refl _) (by rw [hRm]; show 37 * (d + 5) + 37 ≤ 37 * (d + 6); omega) (c_nameOfA hP1 hx ?_)
      refine l_goto (tgt := 22) C dX9_letter_18 rfl ?_
      exact tail _ rfl
    refine l_if_eq (tgt := 9) C dX9_letter_1 rfl (fun z => look (Or.inl z)) (fun z0 => ?_)
    refine l_iload_n C dX9_letter_4 rfl ?_
    refine l_iconst (v := 1) C dX9_letter_5 (by decide) ?_
    refine l_icmp_ne (tgt := 21) C dX9_letter_6 rfl (fun z1 => ?_) (fun z1 => look (Or.inr z1))
    refine l_iconst (v := 0) C dX9_letter_21 (by decide) ?_
    exact tail 0 (by rw [nmA, if_neg z0, if_neg z1])
  rw [hX] at K
  exact lE rfl (Nat.le_of_ble_eq_true rfl) hR0 K
