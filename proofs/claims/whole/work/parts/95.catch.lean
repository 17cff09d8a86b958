/-- behind a call that returns or throws xE -/
theorem x_after {p : Program} {G : wG} {e : Env} {R : Room} {s : State} {m : MethodId} {args : Array Value} {below : List Frame} {meth : Method} {c : Code} {H : Heap} {locs : List Loc} {cells slots mc ms pc : Nat} {Q : State → Prop} {lsA : Array Slot} {st0 st : List Value} {a : Array Value} {h : hH} {Qk : Option Value → hH → Prop} {T : Prop}
    (hr : vx_Run p G.1 e R s m args below meth c H locs cells slots mc ms (F0 m pc lsA st0) st (wQc G Qk a) (lXC G h T) (wA G)) (h8 : hR G h H s) (h9 : va_S (wA G) s.heap H locs)
    (kk : ∀ (r : Option Value) (h' : hH), Qk r h' → ∀ (H1 : Heap) (locs1 : List Loc), hR G h' H1 s → va_S (wA G) s.heap H1 locs1 → W p G.1 e R s m args below meth c H1 locs1 (cells + mc) (slots + ms) Q (F0 m (pc + 3) lsA (psh r st)))
    (kx : T → ∀ n : Nat, h.2 ≤ n → ∀ (ce : Cell) (q9 : Addr) (H1 : Heap) (locs1 : List Loc), H1[q9]? = some ce → ce.vm = .none → s.vm.findClass xE = some ce.cls → hR G (h.1, n) H1 s → va_S (wA G) s.heap H1 locs1 → vx_W p G.1 e R s m args below meth c H1 locs1 (cells + mc) (slots + ms) Q (F0 m pc lsA st) q9) : W p G.1 e R s m args below meth c H locs cells slots Q (F0 m pc lsA st0) := by
  intro T0 hT X
  have hS1 : ∀ (T' t : State) (L : List Loc), T'.heap = t.heap → (∀ z ∈ L, wA G z.base) → H.size ≤ t.heap.size → (∀ q : Nat, q < H.size → ¬ wA G q → t.heap[q]? = H[q]?) → va_S (wA G) s.heap T'.heap (locs ++ L) := by
    intro T' t L e1 hL hz hk
    refine ⟨Nat.le_trans h9.1 (by rw [e1]; exact hz), fun q g1 g2 => by rw [e1, hk q (Nat.lt_of_lt_of_le g1 h9.1) g2]; exact h9.2.1 q g1 g2, fun q hq => ?_⟩
    rcases List.mem_append.mp hq with z | z
    · exact h9.2.2 q z
    · exact hL q z
  rcases hr T0 hT X with ⟨v, st₀, t, T', L, h0, X', hL, e1, e2, ⟨r, h', hv, hq, hRt, hz, hk⟩, st9⟩ | ⟨q, st₀, t, T', L, E, ce, h0, X', hL, e1, e2, ⟨rfl, hTT, hn, hRt, hz, hk⟩, hce, hcv, hcl, st9⟩
  · cases hv
    rw [h0] at hz hk
    have hvm : s.vm.Alike t.vm := by rw [← e2]; exact X'.warmed.alike
    obtain ⟨t2, a1, b1⟩ := kk v h' hq T'.heap (locs ++ L) (by rw [e1]; exact h8.back hRt hvm hk) (hS1 T' t L e1 hL hz hk) T' rfl X'
    exact ⟨t2, st9 t2 (by rw [psh_eq]; exact a1), b1⟩
  · rw [h0] at hz hk
    have hvm : s.vm.Alike t.vm := by rw [← e2]; exact X'.warmed.alike
    obtain ⟨t2, a1, b1⟩ := kx hTT t.heap.size hn ce q T'.heap (locs ++ L) (by rw [e1]; exact hce) hcv hcl (by rw [e1]; exact h8.backw hRt hvm hk) (hS1 T' t L e1 hL hz hk) T' rfl X'
    exact ⟨t2, st9.trans a1, b1⟩
set_option maxRecDepth 100000 in
set_option maxHeartbeats 4000000 in
/-- the law's letter: 1 where the class throws, else 0 and the letter in the row at q -/
theorem x_Lletter {G : wG} {d : Nat} {h : hH} {Q : Option Value → hH → Prop} {b q : Nat} {f : Nat → Int64} {ft : Nat → Int32} {tp : Nat} {P : pD} {ht : Int32} {R : Option rnD} {i0 i1 : imD} {sd fa pl tr : Int32} {x i y : Int32} (hI : cI h b ft tp P ht R i0 i1 sd fa pl tr) (hq : h.1 q = some (aL 1 f)) (k0 : ¬ ltF (nmA P x i) y < 0 → Q (some (.int 0)) (hU h q (aL 1 (vp_updL f 0 (ltF (nmA P x i) y).toInt64)))) (k1 : ltF (nmA P x i) y < 0 → ∀ n : Nat, h.2 ≤ n → Q (some (.int 1)) (h.1, n)) : Met G.1 yL_letter [Cond.codeWith yL_letter cL_letter 6 (some .int) [(0, 12, 15, 13)]] (wR (d + 7) 1 6) (xPc G h [.ref b, .int x, .int i, .int y, .ref q]) (wQc G Q) 1 6 (wA G) := by
  refine va_MetW (cc := cL_letter) (maxL := 6) (ret := some .int) (hh := [(0, 12, 15, 13)]) (by decide) rfl ?_
  intro p e s m args below meth c s₁ B hml hv
  obtain ⟨rfl, hR0, hwx⟩ := hv
  have htab : c.exceptionTable.toList = [] ++ (⟨0, 12, 15, 13⟩ : ExceptionTableEntry) :: [] := vx_table (x := yL_letter) B (hR0.2.1.at xL_code rfl rfl)
  obtain ⟨X, hX⟩ : ∃ X : lX, X = (p, e, s, m, ([.ref b, .int x, .int i, .int y, .ref q] : List Value).toArray, below, meth, c, wR (d + 7) 1 6, MQ below (wQc G Q) ([.ref b, .int x, .int i, .int y, .ref q] : List Value).toArray s 1 6 (wA G)) := ⟨_, rfl⟩
  have C : lK X RL cL_letter 6 := by
    subst hX
    exact ⟨B.exec, B.bytes, hml, findClass_of_methodNamed B.named, B.notSynchronized⟩
  have tail0 : ∀ h' : hH, Q (some (.int 0)) h' → WL X G 6 1 6 19 [some (.ref b), some (.int x), some (.int i), some (.int y), some (.ref q), none] [] h' := by
    intro h' hQ
    refine l_iconst (v := 0) C dL_letter_19 (by decide) ?_
    exact lm_ireturn hX C B.returns dL_letter_20 (Nat.le_refl 1) (Nat.le_refl 6) hQ
  have back : ∀ v : Int32, ¬ ltF (nmA P x i) y < 0 → v = ltF (nmA P x i) y → WL X G 6 1 6 10 [some (.ref b), some (.int x), some (.int i), some (.int y), some (.ref q), none] [.int v, .int 0, .ref q] h := by
    intro v hn hv
    refine l_i2l C dL_letter_10 ?_
    refine l_lastore C hq (vp_in_lit (k := 0) rfl rfl) dL_letter_11 ?_
    refine l_goto (tgt := 19) C dL_letter_12 rfl ?_
    exact tail0 _ (by rw [hv]; exact k0 hn)
  have caught : ∀ (q9 n : Nat), ltF (nmA P x i) y < 0 → h.2 ≤ n → WL X G 6 1 6 15 [some (.ref b), some (.int x), some (.int i), some (.int y), some (.ref q), none] [.ref q9] (h.1, n) := by
    intro q9 n hT hn
    refine l_astore (ls2 := [some (.ref b), some (.int x), some (.int i), some (.int y), some (.ref q), some (.ref q9)]) C dL_letter_15 (by decide) rfl rfl ?_
    refine l_iconst (v := 1) C dL_letter_17 (by decide) ?_
    exact lm_ireturn hX C B.returns dL_letter_18 (Nat.le_refl 1) (Nat.le_refl 6) (k1 hT n hn)
  have K : WL X G 6 0 0 0 [some (.ref b), some (.int x), some (.int i), some (.int y), some (.ref q), none] [] h := by
    refine l_aload C dL_letter_0 rfl ?_
    refine l_iconst (v := 0) C dL_letter_2 (by decide) ?_
    refine l_aload_n C dL_letter_3 rfl ?_
    refine l_iload_n C dL_letter_4 rfl ?_
    refine l_iload_n C dL_letter_5 rfl ?_
    refine l_iload_n C dL_letter_6 rfl ?_
    subst hX
    obtain ⟨h1, h2, h4, h5, h6⟩ := C
    intro H locs lsA h8 h9 h10
    have hts := h8.2.1
    have hww : ∀ w ∈ [Cond.code yX9_letter cX9_letter 6 (some .int)], ∀ (a' : Array Value) (U : State), s.WarmedH U.vm → w.before a' U = true := by
      intro w hw a' U hW
      rw [List.mem_singleton.mp hw]
      exact (hts.warm hW).at kX9_letter rfl rfl
    have hrv : ∃ cellB : Cell, H[b]? = some cellB ∧ cellB.vm.isStatics = false ∧ s.vm.findClass RX9 = some cellB.cls := by
      refine cI_e hI ?_
      intro pp ps P2 go ln wn rsd c9 qw ql cn s9 fo fg fz i01 i02 i03 i04 i05 i06 i07 i11 i12 i13 i14 i15 i16 i17 wm fw f9 q0 c0 s1 q1 c1 s2 q2 c2 x9 hW hpp hP1 hP2 hR hi0 hi1 htp hpo hht
      obtain ⟨-, -, -, -, -, -, D, hK, hcell⟩ := id h8
      obtain ⟨r, g1, cell, q1, q2, q3, -⟩ := hcell b _ (hW 0 _ _ rfl rfl)
      have hr : r = (RX9, TX9, 14) := Option.some.inj (g1.symm.trans wcX9.1)
      subst hr
      exact ⟨cell, q1, by rw [q3]; rfl, by rw [q2]; exact (hK.1 9 _ g1).2.1⟩
    refine x_after (vx_runV (As := [.int x, .int i, .int y]) (rest := [.int 0, .ref q]) (C := RX9) (Ts := []) (index := 7) (bytes := cX9_letter) (maxL := 6) (ret := some .int) (n := 3) (own := RL) ⟨h1, h2, h4, h5, fun _ z => nomatch z⟩ (x_letter (d := d) (Q := fun r h' => h' = h ∧ ∃ v : Int32, r = some (.int v) ∧ v = ltF (nmA P x i) y ∧ ¬ ltF (nmA P x i) y < 0) hI (fun hn => ⟨rfl, _, rfl, rfl, hn⟩))
      ⟨⟨rfl, rfl, Nat.le_refl _, by show 8 + (6 + 11) + 37 * (d + 6) ≤ 37 * (d + 7); omega, hww, List.mem_singleton.mpr rfl, hts.at kX9_letter rfl rfl, hts.at zX9 rfl rfl, vX9_letter.1.2.1, vX9_letter.1.len, hts.at xC_link rfl rfl⟩, hts.at vX9_letter.2.1 rfl rfl, hts.at vX9_letter.2.2 rfl rfl⟩
      ⟨xPc_blind, hrv, fun U hU hW => ⟨rfl, hR.at hU (h8.warm hW), wX.warm hW hwx⟩⟩ rfl rfl h10.1 rfl (lv_room (Nat.le_of_ble_eq_true rfl)) dL_letter_7 ⟨Nat.le_refl 1, Nat.le_refl 6⟩) h8 h9 (fun r h' hQ H1 locs1 hR1 hS1 => ?_) (fun hT n hn ce q9 H1 locs1 hce hcv hcl hR1 hS1 => ?_)
    · obtain ⟨rfl, v, rfl, hv, hn⟩ := hQ
      exact back v hn hv H1 locs1 lsA hR1 hS1 h10
    · refine vx_catch (own := RL) (name := xE) (E := xE) (ce := ce) h5 [] (⟨0, 12, 15, 13⟩ : ExceptionTableEntry) [] htab (fun z hz => nomatch hz) (by decide) (by decide) (hR1.2.1.at xE_linkL rfl rfl) (va_tabs rfl rfl (hwx _ (List.mem_cons_self))) hce hcv hcl ?_
      exact caught q9 n hT hn H1 locs1 lsA hR1 hS1 h10
  rw [hX] at K
  exact lE rfl (Nat.le_of_ble_eq_true rfl) hR0 K
