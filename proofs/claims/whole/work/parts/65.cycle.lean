theorem kH_end {L : lP} {v : Int32} {A l : Nat} {y : cyS} (h : yIv L v A l y) (hl : 1 ≤ l) (hq : qS L v A = qS L v (A + l)) : y.2.2.2.1 + (if y.2.2.2.2.1 = y.2.2.2.2.2 then 0 else 1) = kH L v A l := by
  obtain ⟨m, rfl⟩ : ∃ m, l = m + 1 := ⟨l - 1, by omega⟩
  have x6 := h.2.2.2.2 (by omega)
  rw [h.2.2.2.1, x6.1, x6.2]
  show kH L v A m + (if qO L v A = qO L v (A + (m + 1) - 1) then 0 else 1) = kH L v A m + cgF L v A m
  unfold cgF
  have e9 : qO L v (A + m + 1) = qO L v A := by
    unfold qO
    rw [show A + m + 1 = A + (m + 1) by omega, ← hq]
  rw [e9, show A + (m + 1) - 1 = A + m by omega]
theorem cyc_vals {L : lP} {v : Int32} {c a : Nat} (hL : L.1 ≤ 3) (hf : ¬ fndB L v = 0) (hc : (fnd0 L v).2.2.2.1.1 = nI c) (hc2 : c ≤ 3000) (ha : qS L v a = qS L v (a + c)) : (fnd0 L v).2.2.2.1.2.1 = kO L v a c ∧ (fnd0 L v).2.2.2.2.1 = kC L v a c ∧ (fnd0 L v).2.2.2.1.2.2.1 = kG L v a c ∧ (fnd0 L v).2.2.2.1.2.2.2.1 = kH L v a c := by
  obtain ⟨l, l1, l2, l3, l4, l5, l6⟩ := fOk_3000 ((fnd0_ok hL).1 (fndB_t hf))
  have e := (nI_eq (by omega) (by omega)).mp (hc.symm.trans l3)
  subst e
  exact l6 a ha
theorem kC_n {L : lP} {v : Int32} (hL : L.1 ≤ 3) (a : Nat) : ∀ n, ∃ d, d ≤ 3 * n ∧ kC L v a n = nI d
  | 0 => ⟨0, by omega, rfl⟩
  | n + 1 => by
    obtain ⟨d, d1, d2⟩ := kC_n (v := v) hL a n
    obtain ⟨e, e1, e2⟩ := cStC_n L 0 v hL (qS L v (a + n), 1, 0) 0 rfl
    refine ⟨d + e, by omega, ?_⟩
    show kC L v a n + qD L v (a + n) = _
    rw [d2, show qD L v (a + n) = nI (0 + e) from e2, nI_add, Nat.zero_add]
set_option maxRecDepth 100000 in
set_option maxHeartbeats 4000000 in
theorem l_cof1 {G : wG} {d : Nat} {h : hH} {Q : Option Value → hH → Prop} {m : Nat} {th tr wa tp sz sp fa fl tk ta sg nu : Int32} {wd : Int64} {lo wv rl rw ht sd : Int32} {ln : Nat → Int64} {fn : Nat → Int32} {fs : Nat → Int32} {ff : Nat → Int32} {fb : Nat → Int32} {f3 : Nat → Int32} {P : pD} {j : Nat} {v : Int32} {y : Int32} {a c : Nat} (nd : [m, m + 4, m + 5, m + 6, m + 9, m + 15].Nodup) (h8 : j < 8) (hLp : mLp (P.2.2.1 j) j ln fs ff fb fn f3) (hGl : lGd (P.2.2.1 j)) (ha : a ≤ 3000) (k : ∀ (x : Int32) (f1 : Nat → Int32), mRn f1 (nI j) 0 (nI a) (qS (lPo (P.2.2.1 j)) v a, sd, qC (lPo (P.2.2.1 j)) v a) → WP G RX10 cX10_cycleOf 12 (some .int) false (d + 2) 0 0 0 0 Q 43 [some (.ref m), some (.int (nI j)), some (.int v), some (.int y), some (.int x), none, none, none, none, none, none, none] [] (hUs h [m, m + 4, m + 5, m + 6, m + 9, m + 15] [(oC 10 (mF m th tr wa tp sz sp fa fl tk ta sg nu wd lo wv rl rw ht sd (nI a) (nI c))), (aI 8 fs), (aI 24 ff), (aI 8 fb), (aZ 8 f3), (aI 11 f1)])) : ∀ (n : Nat) (t : Nat) (x : Int32) (f : Nat → Int32), t + n = a → mRn f (nI j) 0 (nI t) (qS (lPo (P.2.2.1 j)) v t, sd, qC (lPo (P.2.2.1 j)) v t) → WP G RX10 cX10_cycleOf 12 (some .int) false (d + 2) 0 0 0 0 Q 16 [some (.ref m), some (.int (nI j)), some (.int v), some (.int y), some (.int x), some (.int (nI t)), none, none, none, none, none, none] [] (hUs h [m, m + 4, m + 5, m + 6, m + 9, m + 15] [(oC 10 (mF m th tr wa tp sz sp fa fl tk ta sg nu wd lo wv rl rw ht sd (nI a) (nI c))), (aI 8 fs), (aI 24 ff), (aI 8 fb), (aZ 8 f3), (aI 11 f)]) := by
  intro n
  induction n with
  | zero =>
    intro t x f hi hq
    refine w_iload dX10_cycleOf_16 rfl ?_
    refine w_aload_n dX10_cycleOf_18 rfl ?_
    refine w_get (v := .int (nI a)) fX10_325 (hUs_at nd 0 rfl rfl) rfl dX10_cycleOf_19 ?_
    refine w_icmp_ge_t (tgt := 43) dX10_cycleOf_22 rfl ((nI_leI (a := a) (b := t) (by omega) (by omega)).mpr (by omega)) ?_
    refine w_less (ls2 := [some (.ref m), some (.int (nI j)), some (.int v), some (.int y), some (.int x), none, none, none, none, none, none, none]) ⟨Or.inr rfl, Or.inr rfl, Or.inr rfl, Or.inr rfl, Or.inr rfl, Or.inl rfl, Or.inl rfl, Or.inl rfl, Or.inl rfl, Or.inl rfl, Or.inl rfl, Or.inl rfl, trivial⟩ ?_
    have z : t = a := by omega
    rw [z] at hq
    exact k x f hq
  | succ n ih =>
    intro t x f hi hq
    refine w_iload dX10_cycleOf_16 rfl ?_
    refine w_aload_n dX10_cycleOf_18 rfl ?_
    refine w_get (v := .int (nI a)) fX10_325 (hUs_at nd 0 rfl rfl) rfl dX10_cycleOf_19 ?_
    refine w_icmp_ge_f (tgt := 43) dX10_cycleOf_22 rfl (fun z => absurd ((nI_leI (a := a) (b := t) (by omega) (by omega)).mp z) (by omega)) ?_
    refine w_aload_n dX10_cycleOf_25 rfl ?_
    refine w_aload_n dX10_cycleOf_26 rfl ?_
    refine w_get (v := .ref (m + 15)) fX10_58 (hUs_at nd 0 rfl rfl) rfl dX10_cycleOf_27 ?_
    refine w_iload_n dX10_cycleOf_30 rfl ?_
    refine w_iconst (v := 0) dX10_cycleOf_31 (by decide) ?_
    refine w_callV (ci := 10) (d' := d + 1) (mc' := 0) (ms' := 0) (As := [.ref (m + 15), .int v, .int 0]) (st := []) lX10_287 vX10_clock rfl (hUs_at nd 0 rfl rfl) rfl (Nat.le_of_ble_eq_true rfl) dX10_cycleOf_32 (Nat.le_of_ble_eq_true rfl) (Nat.le_of_ble_eq_true rfl) (Nat.le_refl _) (m_clockL (D := (P.2.2.1 j)) (s := (qS (lPo (P.2.2.1 j)) v t, sd, qC (lPo (P.2.2.1 j)) v t)) (hHas_sub nd (as' := [m, m + 4, m + 5, m + 6, m + 9, m + 15]) (cs' := [(oC 10 (mF m th tr wa tp sz sp fa fl tk ta sg nu wd lo wv rl rw ht sd (nI a) (nI c))), (aI 8 fs), (aI 24 ff), (aI 8 fb), (aZ 8 f3), (aI 11 f)]) [0, 1, 2, 3, 4, 5] rfl rfl) (nd_sub nd (as' := [m, m + 4, m + 5, m + 6, m + 9, m + 15]) [0, 1, 2, 3, 4, 5] rfl rfl) h8 hLp hGl hq (by decide) (Or.inl rfl) (fun fk19 hfk19 zfk19 => ?_))
    refine w_heq (hUs_in nd rfl [0, 1, 2, 3, 4, 5] (cs2 := [(oC 10 (mF m th tr wa tp sz sp fa fl tk ta sg nu wd lo wv rl rw ht sd (nI a) (nI c))), (aI 8 fs), (aI 24 ff), (aI 8 fb), (aZ 8 f3), (aI 11 fk19)]) rfl rfl) ?_
    refine w_istore (ls2 := [some (.ref m), some (.int (nI j)), some (.int v), some (.int y), some (.int (cOut (lPo (P.2.2.1 j)) 0 (qS (lPo (P.2.2.1 j)) v t, sd, qC (lPo (P.2.2.1 j)) v t))), some (.int (nI t)), none, none, none, none, none, none]) dX10_cycleOf_35 (by decide) rfl rfl ?_
    refine w_iinc (v := nI (t + 1)) (ls2 := [some (.ref m), some (.int (nI j)), some (.int v), some (.int y), some (.int (cOut (lPo (P.2.2.1 j)) 0 (qS (lPo (P.2.2.1 j)) v t, sd, qC (lPo (P.2.2.1 j)) v t))), some (.int (nI (t + 1))), none, none, none, none, none, none]) dX10_cycleOf_37 rfl (nI_1 _) (by decide) rfl rfl ?_
    refine w_goto (tgt := 16) dX10_cycleOf_40 rfl ?_
    exact ih (t + 1) _ fk19 (by omega) (by
      have z := hfk19
      rw [nI_1, cSt_q] at z
      exact z)
set_option maxRecDepth 100000 in
set_option maxHeartbeats 4000000 in
theorem l_cof2 {G : wG} {d : Nat} {h : hH} {Q : Option Value → hH → Prop} {m : Nat} {th tr wa tp sz sp fa fl tk ta sg nu : Int32} {wd : Int64} {lo wv rl rw ht sd : Int32} {ln : Nat → Int64} {fn : Nat → Int32} {fs : Nat → Int32} {ff : Nat → Int32} {fb : Nat → Int32} {f3 : Nat → Int32} {P : pD} {j : Nat} {v : Int32} {y : Int32} {a c : Nat} (nd : [m, m + 4, m + 5, m + 6, m + 9, m + 15].Nodup) (h8 : j < 8) (hLp : mLp (P.2.2.1 j) j ln fs ff fb fn f3) (hGl : lGd (P.2.2.1 j)) (hc : c ≤ 3000) (ha : a ≤ 3000) (k : ∀ (x p1 p2 p3 p4 p5 : Int32) (f1 : Nat → Int32), mRn f1 (nI j) 0 (nI (a + c)) (qS (lPo (P.2.2.1 j)) v (a + c), sd, kC (lPo (P.2.2.1 j)) v a c) → yIv (lPo (P.2.2.1 j)) v a c (nI c, p1, p2, p3, p4, p5) → WP G RX10 cX10_cycleOf 12 (some .int) false (d + 2) 0 0 0 0 Q 171 [some (.ref m), some (.int (nI j)), some (.int v), some (.int y), some (.int x), some (.int p1), some (.int p2), some (.int p3), some (.int p4), some (.int p5), none, none] [] (hUs h [m, m + 4, m + 5, m + 6, m + 9, m + 15] [(oC 10 (mF m th tr wa tp sz sp fa fl tk ta sg nu wd lo wv rl rw ht sd (nI a) (nI c))), (aI 8 fs), (aI 24 ff), (aI 8 fb), (aZ 8 f3), (aI 11 f1)])) : ∀ (n : Nat) (t : Nat) (x p1 p2 p3 p4 p5 : Int32) (f : Nat → Int32), t + n = c → mRn f (nI j) 0 (nI (a + t)) (qS (lPo (P.2.2.1 j)) v (a + t), sd, kC (lPo (P.2.2.1 j)) v a t) → yIv (lPo (P.2.2.1 j)) v a t (nI t, p1, p2, p3, p4, p5) → WP G RX10 cX10_cycleOf 12 (some .int) false (d + 2) 0 0 0 0 Q 68 [some (.ref m), some (.int (nI j)), some (.int v), some (.int y), some (.int x), some (.int p1), some (.int p2), some (.int p3), some (.int p4), some (.int p5), some (.int (nI t)), none] [] (hUs h [m, m + 4, m + 5, m + 6, m + 9, m + 15] [(oC 10 (mF m th tr wa tp sz sp fa fl tk ta sg nu wd lo wv rl rw ht sd (nI a) (nI c))), (aI 8 fs), (aI 24 ff), (aI 8 fb), (aZ 8 f3), (aI 11 f)]) := by
  intro n
  induction n with
  | zero =>
    intro t x p1 p2 p3 p4 p5 f hi hq hy
    refine w_iload dX10_cycleOf_68 rfl ?_
    refine w_aload_n dX10_cycleOf_70 rfl ?_
    refine w_get (v := .int (nI c)) fX10_318 (hUs_at nd 0 rfl rfl) rfl dX10_cycleOf_71 ?_
    refine w_icmp_ge_t (tgt := 171) dX10_cycleOf_74 rfl ((nI_leI (a := c) (b := t) (by omega) (by omega)).mpr (by omega)) ?_
    refine w_less (ls2 := [some (.ref m), some (.int (nI j)), some (.int v), some (.int y), some (.int x), some (.int p1), some (.int p2), some (.int p3), some (.int p4), some (.int p5), none, none]) ⟨Or.inr rfl, Or.inr rfl, Or.inr rfl, Or.inr rfl, Or.inr rfl, Or.inr rfl, Or.inr rfl, Or.inr rfl, Or.inr rfl, Or.inr rfl, Or.inl rfl, Or.inl rfl, trivial⟩ ?_
    have z : t = c := by omega
    rw [z] at hq hy
    exact k x p1 p2 p3 p4 p5 f hq hy
  | succ n ih =>
    intro t x p1 p2 p3 p4 p5 f hi hq hy
    refine w_iload dX10_cycleOf_68 rfl ?_
    refine w_aload_n dX10_cycleOf_70 rfl ?_
    refine w_get (v := .int (nI c)) fX10_318 (hUs_at nd 0 rfl rfl) rfl dX10_cycleOf_71 ?_
    refine w_icmp_ge_f (tgt := 171) dX10_cycleOf_74 rfl (fun z => absurd ((nI_leI (a := c) (b := t) (by omega) (by omega)).mp z) (by omega)) ?_
    have h1 := hGl.1
    have h3 := hGl.2.1
    refine w_aload_n dX10_cycleOf_77 rfl ?_
    refine w_get (v := .ref (m + 15)) fX10_58 (hUs_at nd 0 rfl rfl) rfl dX10_cycleOf_78 ?_
    refine w_iconst (v := (nI 5)) dX10_cycleOf_81 (by decide) ?_
    refine w_aload_n dX10_cycleOf_82 rfl ?_
    refine w_get (v := .ref (m + 4)) fX10_24 (hUs_at nd 0 rfl rfl) rfl dX10_cycleOf_83 ?_
    refine w_iload_n dX10_cycleOf_86 rfl ?_
    refine w_ialoadN (hUs_at nd 1 rfl rfl) (by omega) (by omega) dX10_cycleOf_87 ?_
    refine w_top (z := nI (P.2.2.1 j).2.1) hLp.1 ?_
    refine w_iaddE (z := nI (5 + (P.2.2.1 j).2.1)) dX10_cycleOf_88 (nI_add (5) ((P.2.2.1 j).2.1)) ?_
    refine w_iconst (v := 1) dX10_cycleOf_89 (by decide) ?_
    refine w_isubE (z := nI ((5 + (P.2.2.1 j).2.1) - 1)) dX10_cycleOf_90 (pk_sub (a := (5 + (P.2.2.1 j).2.1)) (b := 1) (by omega)) ?_
    refine w_ialoadN (hUs_at nd 5 rfl rfl) (by omega) (by omega) dX10_cycleOf_91 ?_
    refine w_top (z := lstF (lPo (P.2.2.1 j)).1 (qS (lPo (P.2.2.1 j)) v (a + t))) (by
      have h1 := hGl.1
      have h3 := hGl.2.1
      show f (5 + (P.2.2.1 j).2.1 - 1) = lstF (P.2.2.1 j).2.1 _
      rw [lstF, if_neg (by omega)]
      rcases (show (P.2.2.1 j).2.1 = 1 ∨ (P.2.2.1 j).2.1 = 2 ∨ (P.2.2.1 j).2.1 = 3 by omega) with z | z | z <;> rw [z]
      · exact hq.2.2.2.2.2.1
      · exact hq.2.2.2.2.2.2.1
      · exact hq.2.2.2.2.2.2.2) ?_
    refine w_callS (d' := d + 1) (mc' := 0) (ms' := 0) (As := [.int (lstF (lPo (P.2.2.1 j)).1 (qS (lPo (P.2.2.1 j)) v (a + t)))]) (st := []) lX10_273 vX10_without rfl (Nat.le_of_ble_eq_true rfl) dX10_cycleOf_92 (Nat.le_of_ble_eq_true rfl) (Nat.le_of_ble_eq_true rfl) (Nat.le_refl _) (c_without ?_)
    refine w_istore (ls2 := [some (.ref m), some (.int (nI j)), some (.int v), some (.int y), some (.int x), some (.int p1), some (.int p2), some (.int p3), some (.int p4), some (.int p5), some (.int (nI t)), some (.int (abI (lstF (lPo (P.2.2.1 j)).1 (qS (lPo (P.2.2.1 j)) v (a + t)))))]) dX10_cycleOf_95 (by decide) rfl rfl ?_
    refine w_iload dX10_cycleOf_97 rfl ?_
    refine w_iload dX10_cycleOf_99 rfl ?_
    refine w_icmp_le (tgt := 109) dX10_cycleOf_101 rfl (fun b101 => ?_) (fun b101 => ?_)
    · refine w_iload dX10_cycleOf_109 rfl ?_
      refine w_istore (ls2 := [some (.ref m), some (.int (nI j)), some (.int v), some (.int y), some (.int x), some (.int p1), some (.int p2), some (.int p3), some (.int p4), some (.int p5), some (.int (nI t)), some (.int (abI (lstF (lPo (P.2.2.1 j)).1 (qS (lPo (P.2.2.1 j)) v (a + t)))))]) dX10_cycleOf_111 (by decide) rfl rfl ?_
      refine w_aload_n dX10_cycleOf_113 rfl ?_
      refine w_aload_n dX10_cycleOf_114 rfl ?_
      refine w_get (v := .ref (m + 15)) fX10_58 (hUs_at nd 0 rfl rfl) rfl dX10_cycleOf_115 ?_
      refine w_iload_n dX10_cycleOf_118 rfl ?_
      refine w_iconst (v := 0) dX10_cycleOf_119 (by decide) ?_
      refine w_callV (ci := 10) (d' := d + 1) (mc' := 0) (ms' := 0) (As := [.ref (m + 15), .int v, .int 0]) (st := []) lX10_287 vX10_clock rfl (hUs_at nd 0 rfl rfl) rfl (Nat.le_of_ble_eq_true rfl) dX10_cycleOf_120 (Nat.le_of_ble_eq_true rfl) (Nat.le_of_ble_eq_true rfl) (Nat.le_refl _) (m_clockL (D := (P.2.2.1 j)) (s := (qS (lPo (P.2.2.1 j)) v (a + t), sd, kC (lPo (P.2.2.1 j)) v a t)) (hHas_sub nd (as' := [m, m + 4, m + 5, m + 6, m + 9, m + 15]) (cs' := [(oC 10 (mF m th tr wa tp sz sp fa fl tk ta sg nu wd lo wv rl rw ht sd (nI a) (nI c))), (aI 8 fs), (aI 24 ff), (aI 8 fb), (aZ 8 f3), (aI 11 f)]) [0, 1, 2, 3, 4, 5] rfl rfl) (nd_sub nd (as' := [m, m + 4, m + 5, m + 6, m + 9, m + 15]) [0, 1, 2, 3, 4, 5] rfl rfl) h8 hLp hGl hq (by decide) (Or.inl rfl) (fun fk19 hfk19 zfk19 => ?_))
      refine w_heq (hUs_in nd rfl [0, 1, 2, 3, 4, 5] (cs2 := [(oC 10 (mF m th tr wa tp sz sp fa fl tk ta sg nu wd lo wv rl rw ht sd (nI a) (nI c))), (aI 8 fs), (aI 24 ff), (aI 8 fb), (aZ 8 f3), (aI 11 fk19)]) rfl rfl) ?_
      refine w_top (z := qO (lPo (P.2.2.1 j)) v (a + t)) (cOu_r _ _ _ _ _ _) ?_
      refine w_istore (ls2 := [some (.ref m), some (.int (nI j)), some (.int v), some (.int y), some (.int (qO (lPo (P.2.2.1 j)) v (a + t))), some (.int p1), some (.int p2), some (.int p3), some (.int p4), some (.int p5), some (.int (nI t)), some (.int (abI (lstF (lPo (P.2.2.1 j)).1 (qS (lPo (P.2.2.1 j)) v (a + t)))))]) dX10_cycleOf_123 (by decide) rfl rfl ?_
      refine w_iload dX10_cycleOf_125 rfl ?_
      refine w_iload dX10_cycleOf_127 rfl ?_
      refine w_iadd dX10_cycleOf_129 ?_
      refine w_istore (ls2 := [some (.ref m), some (.int (nI j)), some (.int v), some (.int y), some (.int (qO (lPo (P.2.2.1 j)) v (a + t))), some (.int (p1 + (qO (lPo (P.2.2.1 j)) v (a + t)))), some (.int p2), some (.int p3), some (.int p4), some (.int p5), some (.int (nI t)), some (.int (abI (lstF (lPo (P.2.2.1 j)).1 (qS (lPo (P.2.2.1 j)) v (a + t)))))]) dX10_cycleOf_130 (by decide) rfl rfl ?_
      refine w_iload dX10_cycleOf_132 rfl ?_
      refine w_if_ne (tgt := 144) dX10_cycleOf_134 rfl (fun b134 => ?_) (fun b134 => ?_)
      · have b134 : ¬ t = 0 := fun z => b134 ((nI_eq (a := t) (b := 0) (by omega) (by omega)).mpr z)
        refine w_iload dX10_cycleOf_144 rfl ?_
        refine w_iload dX10_cycleOf_146 rfl ?_
        refine w_iload dX10_cycleOf_148 rfl ?_
        refine w_icmp_ne (tgt := 157) dX10_cycleOf_150 rfl (fun b150 => ?_) (fun b150 => ?_)
        · refine w_iconst (v := 1) dX10_cycleOf_157 (by decide) ?_
          refine w_iadd dX10_cycleOf_158 ?_
          refine w_istore (ls2 := [some (.ref m), some (.int (nI j)), some (.int v), some (.int y), some (.int (qO (lPo (P.2.2.1 j)) v (a + t))), some (.int (p1 + (qO (lPo (P.2.2.1 j)) v (a + t)))), some (.int p2), some (.int (p3 + 1)), some (.int p4), some (.int p5), some (.int (nI t)), some (.int (abI (lstF (lPo (P.2.2.1 j)).1 (qS (lPo (P.2.2.1 j)) v (a + t)))))]) dX10_cycleOf_159 (by decide) rfl rfl ?_
          refine w_iload dX10_cycleOf_161 rfl ?_
          refine w_istore (ls2 := [some (.ref m), some (.int (nI j)), some (.int v), some (.int y), some (.int (qO (lPo (P.2.2.1 j)) v (a + t))), some (.int (p1 + (qO (lPo (P.2.2.1 j)) v (a + t)))), some (.int p2), some (.int (p3 + 1)), some (.int p4), some (.int (qO (lPo (P.2.2.1 j)) v (a + t))), some (.int (nI t)), some (.int (abI (lstF (lPo (P.2.2.1 j)).1 (qS (lPo (P.2.2.1 j)) v (a + t)))))]) dX10_cycleOf_163 (by decide) rfl rfl ?_
          refine w_iinc (v := nI (t + 1)) (ls2 := [some (.ref m), some (.int (nI j)), some (.int v), some (.int y), some (.int (qO (lPo (P.2.2.1 j)) v (a + t))), some (.int (p1 + (qO (lPo (P.2.2.1 j)) v (a + t)))), some (.int p2), some (.int (p3 + 1)), some (.int p4), some (.int (qO (lPo (P.2.2.1 j)) v (a + t))), some (.int (nI (t + 1))), some (.int (abI (lstF (lPo (P.2.2.1 j)).1 (qS (lPo (P.2.2.1 j)) v (a + t)))))]) dX10_cycleOf_165 rfl (nI_1 _) (by decide) rfl rfl ?_
          refine w_goto (tgt := 68) dX10_cycleOf_168 rfl ?_
          refine w_less (ls2 := [some (.ref m), some (.int (nI j)), some (.int v), some (.int y), some (.int (qO (lPo (P.2.2.1 j)) v (a + t))), some (.int (p1 + (qO (lPo (P.2.2.1 j)) v (a + t)))), some (.int p2), some (.int (p3 + 1)), some (.int p4), some (.int (qO (lPo (P.2.2.1 j)) v (a + t))), some (.int (nI (t + 1))), none]) ⟨Or.inr rfl, Or.inr rfl, Or.inr rfl, Or.inr rfl, Or.inr rfl, Or.inr rfl, Or.inr rfl, Or.inr rfl, Or.inr rfl, Or.inr rfl, Or.inr rfl, Or.inl rfl, trivial⟩ ?_
          have hy9 := yIv_s (s := (qS (lPo (P.2.2.1 j)) v (a + t), sd, kC (lPo (P.2.2.1 j)) v a t)) hy rfl (by omega)
          have hw9 : wlkF (lPo (P.2.2.1 j)) (qO (lPo (P.2.2.1 j)) v (a + t)) (qS (lPo (P.2.2.1 j)) v (a + t), sd, kC (lPo (P.2.2.1 j)) v a t) (nI t, p1, p2, p3, p4, p5) = (nI (t + 1), p1 + (qO (lPo (P.2.2.1 j)) v (a + t)), p2, p3 + 1, p4, qO (lPo (P.2.2.1 j)) v (a + t)) := by
            simp only [wlkF, mxI, if_neg (Int32.not_lt.mpr b101), if_neg (show ¬ nI t = 0 from nI_ne0 (by omega) (by omega)), if_neg b150, nI_1, Int32.add_zero]
          rw [hw9] at hy9
          refine ih (t + 1) _ _ _ _ _ _ fk19 (by omega) ?_ hy9
          have z := hfk19
          rw [nI_1, cSt_i, ← qS_s] at z
          exact z
        · refine w_iconst (v := 0) dX10_cycleOf_153 (by decide) ?_
          refine w_goto (tgt := 158) dX10_cycleOf_154 rfl ?_
          refine w_iadd dX10_cycleOf_158 ?_
          refine w_istore (ls2 := [some (.ref m), some (.int (nI j)), some (.int v), some (.int y), some (.int (qO (lPo (P.2.2.1 j)) v (a + t))), some (.int (p1 + (qO (lPo (P.2.2.1 j)) v (a + t)))), some (.int p2), some (.int (p3 + 0)), some (.int p4), some (.int p5), some (.int (nI t)), some (.int (abI (lstF (lPo (P.2.2.1 j)).1 (qS (lPo (P.2.2.1 j)) v (a + t)))))]) dX10_cycleOf_159 (by decide) rfl rfl ?_
          refine w_iload dX10_cycleOf_161 rfl ?_
          refine w_istore (ls2 := [some (.ref m), some (.int (nI j)), some (.int v), some (.int y), some (.int (qO (lPo (P.2.2.1 j)) v (a + t))), some (.int (p1 + (qO (lPo (P.2.2.1 j)) v (a + t)))), some (.int p2), some (.int (p3 + 0)), some (.int p4), some (.int (qO (lPo (P.2.2.1 j)) v (a + t))), some (.int (nI t)), some (.int (abI (lstF (lPo (P.2.2.1 j)).1 (qS (lPo (P.2.2.1 j)) v (a + t)))))]) dX10_cycleOf_163 (by decide) rfl rfl ?_
          refine w_iinc (v := nI (t + 1)) (ls2 := [some (.ref m), some (.int (nI j)), some (.int v), some (.int y), some (.int (qO (lPo (P.2.2.1 j)) v (a + t))), some (.int (p1 + (qO (lPo (P.2.2.1 j)) v (a + t)))), some (.int p2), some (.int (p3 + 0)), some (.int p4), some (.int (qO (lPo (P.2.2.1 j)) v (a + t))), some (.int (nI (t + 1))), some (.int (abI (lstF (lPo (P.2.2.1 j)).1 (qS (lPo (P.2.2.1 j)) v (a + t)))))]) dX10_cycleOf_165 rfl (nI_1 _) (by decide) rfl rfl ?_
          refine w_goto (tgt := 68) dX10_cycleOf_168 rfl ?_
          refine w_less (ls2 := [some (.ref m), some (.int (nI j)), some (.int v), some (.int y), some (.int (qO (lPo (P.2.2.1 j)) v (a + t))), some (.int (p1 + (qO (lPo (P.2.2.1 j)) v (a + t)))), some (.int p2), some (.int (p3 + 0)), some (.int p4), some (.int (qO (lPo (P.2.2.1 j)) v (a + t))), some (.int (nI (t + 1))), none]) ⟨Or.inr rfl, Or.inr rfl, Or.inr rfl, Or.inr rfl, Or.inr rfl, Or.inr rfl, Or.inr rfl, Or.inr rfl, Or.inr rfl, Or.inr rfl, Or.inr rfl, Or.inl rfl, trivial⟩ ?_
          have hy9 := yIv_s (s := (qS (lPo (P.2.2.1 j)) v (a + t), sd, kC (lPo (P.2.2.1 j)) v a t)) hy rfl (by omega)
          have hw9 : wlkF (lPo (P.2.2.1 j)) (qO (lPo (P.2.2.1 j)) v (a + t)) (qS (lPo (P.2.2.1 j)) v (a + t), sd, kC (lPo (P.2.2.1 j)) v a t) (nI t, p1, p2, p3, p4, p5) = (nI (t + 1), p1 + (qO (lPo (P.2.2.1 j)) v (a + t)), p2, p3 + 0, p4, qO (lPo (P.2.2.1 j)) v (a + t)) := by
            simp only [wlkF, mxI, if_neg (Int32.not_lt.mpr b101), if_neg (show ¬ nI t = 0 from nI_ne0 (by omega) (by omega)), if_pos b150, nI_1, Int32.add_zero]
          rw [hw9] at hy9
          refine ih (t + 1) _ _ _ _ _ _ fk19 (by omega) ?_ hy9
          have z := hfk19
          rw [nI_1, cSt_i, ← qS_s] at z
          exact z
      · have b134 := (nI_eq (a := t) (b := 0) (by omega) (by omega)).mp b134
        refine w_iload dX10_cycleOf_137 rfl ?_
        refine w_istore (ls2 := [some (.ref m), some (.int (nI j)), some (.int v), some (.int y), some (.int (qO (lPo (P.2.2.1 j)) v (a + t))), some (.int (p1 + (qO (lPo (P.2.2.1 j)) v (a + t)))), some (.int p2), some (.int p3), some (.int (qO (lPo (P.2.2.1 j)) v (a + t))), some (.int p5), some (.int (nI t)), some (.int (abI (lstF (lPo (P.2.2.1 j)).1 (qS (lPo (P.2.2.1 j)) v (a + t)))))]) dX10_cycleOf_139 (by decide) rfl rfl ?_
        refine w_goto (tgt := 161) dX10_cycleOf_141 rfl ?_
        refine w_iload dX10_cycleOf_161 rfl ?_
        refine w_istore (ls2 := [some (.ref m), some (.int (nI j)), some (.int v), some (.int y), some (.int (qO (lPo (P.2.2.1 j)) v (a + t))), some (.int (p1 + (qO (lPo (P.2.2.1 j)) v (a + t)))), some (.int p2), some (.int p3), some (.int (qO (lPo (P.2.2.1 j)) v (a + t))), some (.int (qO (lPo (P.2.2.1 j)) v (a + t))), some (.int (nI t)), some (.int (abI (lstF (lPo (P.2.2.1 j)).1 (qS (lPo (P.2.2.1 j)) v (a + t)))))]) dX10_cycleOf_163 (by decide) rfl rfl ?_
        refine w_iinc (v := nI (t + 1)) (ls2 := [some (.ref m), some (.int (nI j)), some (.int v), some (.int y), some (.int (qO (lPo (P.2.2.1 j)) v (a + t))), some (.int (p1 + (qO (lPo (P.2.2.1 j)) v (a + t)))), some (.int p2), some (.int p3), some (.int (qO (lPo (P.2.2.1 j)) v (a + t))), some (.int (qO (lPo (P.2.2.1 j)) v (a + t))), some (.int (nI (t + 1))), some (.int (abI (lstF (lPo (P.2.2.1 j)).1 (qS (lPo (P.2.2.1 j)) v (a + t)))))]) dX10_cycleOf_165 rfl (nI_1 _) (by decide) rfl rfl ?_
        refine w_goto (tgt := 68) dX10_cycleOf_168 rfl ?_
        refine w_less (ls2 := [some (.ref m), some (.int (nI j)), some (.int v), some (.int y), some (.int (qO (lPo (P.2.2.1 j)) v (a + t))), some (.int (p1 + (qO (lPo (P.2.2.1 j)) v (a + t)))), some (.int p2), some (.int p3), some (.int (qO (lPo (P.2.2.1 j)) v (a + t))), some (.int (qO (lPo (P.2.2.1 j)) v (a + t))), some (.int (nI (t + 1))), none]) ⟨Or.inr rfl, Or.inr rfl, Or.inr rfl, Or.inr rfl, Or.inr rfl, Or.inr rfl, Or.inr rfl, Or.inr rfl, Or.inr rfl, Or.inr rfl, Or.inr rfl, Or.inl rfl, trivial⟩ ?_
        have hy9 := yIv_s (s := (qS (lPo (P.2.2.1 j)) v (a + t), sd, kC (lPo (P.2.2.1 j)) v a t)) hy rfl (by omega)
        have hw9 : wlkF (lPo (P.2.2.1 j)) (qO (lPo (P.2.2.1 j)) v (a + t)) (qS (lPo (P.2.2.1 j)) v (a + t), sd, kC (lPo (P.2.2.1 j)) v a t) (nI t, p1, p2, p3, p4, p5) = (nI (t + 1), p1 + (qO (lPo (P.2.2.1 j)) v (a + t)), p2, p3, qO (lPo (P.2.2.1 j)) v (a + t), qO (lPo (P.2.2.1 j)) v (a + t)) := by
          simp only [wlkF, mxI, if_neg (Int32.not_lt.mpr b101), if_pos (show nI t = 0 by rw [b134]; rfl), nI_1, Int32.add_zero]
        rw [hw9] at hy9
        refine ih (t + 1) _ _ _ _ _ _ fk19 (by omega) ?_ hy9
        have z := hfk19
        rw [nI_1, cSt_i, ← qS_s] at z
        exact z
    · refine w_iload dX10_cycleOf_104 rfl ?_
      refine w_goto (tgt := 111) dX10_cycleOf_106 rfl ?_
      refine w_istore (ls2 := [some (.ref m), some (.int (nI j)), some (.int v), some (.int y), some (.int x), some (.int p1), some (.int (abI (lstF (lPo (P.2.2.1 j)).1 (qS (lPo (P.2.2.1 j)) v (a + t))))), some (.int p3), some (.int p4), some (.int p5), some (.int (nI t)), some (.int (abI (lstF (lPo (P.2.2.1 j)).1 (qS (lPo (P.2.2.1 j)) v (a + t)))))]) dX10_cycleOf_111 (by decide) rfl rfl ?_
      refine w_aload_n dX10_cycleOf_113 rfl ?_
      refine w_aload_n dX10_cycleOf_114 rfl ?_
      refine w_get (v := .ref (m + 15)) fX10_58 (hUs_at nd 0 rfl rfl) rfl dX10_cycleOf_115 ?_
      refine w_iload_n dX10_cycleOf_118 rfl ?_
      refine w_iconst (v := 0) dX10_cycleOf_119 (by decide) ?_
      refine w_callV (ci := 10) (d' := d + 1) (mc' := 0) (ms' := 0) (As := [.ref (m + 15), .int v, .int 0]) (st := []) lX10_287 vX10_clock rfl (hUs_at nd 0 rfl rfl) rfl (Nat.le_of_ble_eq_true rfl) dX10_cycleOf_120 (Nat.le_of_ble_eq_true rfl) (Nat.le_of_ble_eq_true rfl) (Nat.le_refl _) (m_clockL (D := (P.2.2.1 j)) (s := (qS (lPo (P.2.2.1 j)) v (a + t), sd, kC (lPo (P.2.2.1 j)) v a t)) (hHas_sub nd (as' := [m, m + 4, m + 5, m + 6, m + 9, m + 15]) (cs' := [(oC 10 (mF m th tr wa tp sz sp fa fl tk ta sg nu wd lo wv rl rw ht sd (nI a) (nI c))), (aI 8 fs), (aI 24 ff), (aI 8 fb), (aZ 8 f3), (aI 11 f)]) [0, 1, 2, 3, 4, 5] rfl rfl) (nd_sub nd (as' := [m, m + 4, m + 5, m + 6, m + 9, m + 15]) [0, 1, 2, 3, 4, 5] rfl rfl) h8 hLp hGl hq (by decide) (Or.inl rfl) (fun fk19 hfk19 zfk19 => ?_))
      refine w_heq (hUs_in nd rfl [0, 1, 2, 3, 4, 5] (cs2 := [(oC 10 (mF m th tr wa tp sz sp fa fl tk ta sg nu wd lo wv rl rw ht sd (nI a) (nI c))), (aI 8 fs), (aI 24 ff), (aI 8 fb), (aZ 8 f3), (aI 11 fk19)]) rfl rfl) ?_
      refine w_top (z := qO (lPo (P.2.2.1 j)) v (a + t)) (cOu_r _ _ _ _ _ _) ?_
      refine w_istore (ls2 := [some (.ref m), some (.int (nI j)), some (.int v), some (.int y), some (.int (qO (lPo (P.2.2.1 j)) v (a + t))), some (.int p1), some (.int (abI (lstF (lPo (P.2.2.1 j)).1 (qS (lPo (P.2.2.1 j)) v (a + t))))), some (.int p3), some (.int p4), some (.int p5), some (.int (nI t)), some (.int (abI (lstF (lPo (P.2.2.1 j)).1 (qS (lPo (P.2.2.1 j)) v (a + t)))))]) dX10_cycleOf_123 (by decide) rfl rfl ?_
      refine w_iload dX10_cycleOf_125 rfl ?_
      refine w_iload dX10_cycleOf_127 rfl ?_
      refine w_iadd dX10_cycleOf_129 ?_
      refine w_istore (ls2 := [some (.ref m), some (.int (nI j)), some (.int v), some (.int y), some (.int (qO (lPo (P.2.2.1 j)) v (a + t))), some (.int (p1 + (qO (lPo (P.2.2.1 j)) v (a + t)))), some (.int (abI (lstF (lPo (P.2.2.1 j)).1 (qS (lPo (P.2.2.1 j)) v (a + t))))), some (.int p3), some (.int p4), some (.int p5), some (.int (nI t)), some (.int (abI (lstF (lPo (P.2.2.1 j)).1 (qS (lPo (P.2.2.1 j)) v (a + t)))))]) dX10_cycleOf_130 (by decide) rfl rfl ?_
      refine w_iload dX10_cycleOf_132 rfl ?_
      refine w_if_ne (tgt := 144) dX10_cycleOf_134 rfl (fun b134 => ?_) (fun b134 => ?_)
      · have b134 : ¬ t = 0 := fun z => b134 ((nI_eq (a := t) (b := 0) (by omega) (by omega)).mpr z)
        refine w_iload dX10_cycleOf_144 rfl ?_
        refine w_iload dX10_cycleOf_146 rfl ?_
        refine w_iload dX10_cycleOf_148 rfl ?_
        refine w_icmp_ne (tgt := 157) dX10_cycleOf_150 rfl (fun b150 => ?_) (fun b150 => ?_)
        · refine w_iconst (v := 1) dX10_cycleOf_157 (by decide) ?_
          refine w_iadd dX10_cycleOf_158 ?_
          refine w_istore (ls2 := [some (.ref m), some (.int (nI j)), some (.int v), some (.int y), some (.int (qO (lPo (P.2.2.1 j)) v (a + t))), some (.int (p1 + (qO (lPo (P.2.2.1 j)) v (a + t)))), some (.int (abI (lstF (lPo (P.2.2.1 j)).1 (qS (lPo (P.2.2.1 j)) v (a + t))))), some (.int (p3 + 1)), some (.int p4), some (.int p5), some (.int (nI t)), some (.int (abI (lstF (lPo (P.2.2.1 j)).1 (qS (lPo (P.2.2.1 j)) v (a + t)))))]) dX10_cycleOf_159 (by decide) rfl rfl ?_
          refine w_iload dX10_cycleOf_161 rfl ?_
          refine w_istore (ls2 := [some (.ref m), some (.int (nI j)), some (.int v), some (.int y), some (.int (qO (lPo (P.2.2.1 j)) v (a + t))), some (.int (p1 + (qO (lPo (P.2.2.1 j)) v (a + t)))), some (.int (abI (lstF (lPo (P.2.2.1 j)).1 (qS (lPo (P.2.2.1 j)) v (a + t))))), some (.int (p3 + 1)), some (.int p4), some (.int (qO (lPo (P.2.2.1 j)) v (a + t))), some (.int (nI t)), some (.int (abI (lstF (lPo (P.2.2.1 j)).1 (qS (lPo (P.2.2.1 j)) v (a + t)))))]) dX10_cycleOf_163 (by decide) rfl rfl ?_
          refine w_iinc (v := nI (t + 1)) (ls2 := [some (.ref m), some (.int (nI j)), some (.int v), some (.int y), some (.int (qO (lPo (P.2.2.1 j)) v (a + t))), some (.int (p1 + (qO (lPo (P.2.2.1 j)) v (a + t)))), some (.int (abI (lstF (lPo (P.2.2.1 j)).1 (qS (lPo (P.2.2.1 j)) v (a + t))))), some (.int (p3 + 1)), some (.int p4), some (.int (qO (lPo (P.2.2.1 j)) v (a + t))), some (.int (nI (t + 1))), some (.int (abI (lstF (lPo (P.2.2.1 j)).1 (qS (lPo (P.2.2.1 j)) v (a + t)))))]) dX10_cycleOf_165 rfl (nI_1 _) (by decide) rfl rfl ?_
          refine w_goto (tgt := 68) dX10_cycleOf_168 rfl ?_
          refine w_less (ls2 := [some (.ref m), some (.int (nI j)), some (.int v), some (.int y), some (.int (qO (lPo (P.2.2.1 j)) v (a + t))), some (.int (p1 + (qO (lPo (P.2.2.1 j)) v (a + t)))), some (.int (abI (lstF (lPo (P.2.2.1 j)).1 (qS (lPo (P.2.2.1 j)) v (a + t))))), some (.int (p3 + 1)), some (.int p4), some (.int (qO (lPo (P.2.2.1 j)) v (a + t))), some (.int (nI (t + 1))), none]) ⟨Or.inr rfl, Or.inr rfl, Or.inr rfl, Or.inr rfl, Or.inr rfl, Or.inr rfl, Or.inr rfl, Or.inr rfl, Or.inr rfl, Or.inr rfl, Or.inr rfl, Or.inl rfl, trivial⟩ ?_
          have hy9 := yIv_s (s := (qS (lPo (P.2.2.1 j)) v (a + t), sd, kC (lPo (P.2.2.1 j)) v a t)) hy rfl (by omega)
          have hw9 : wlkF (lPo (P.2.2.1 j)) (qO (lPo (P.2.2.1 j)) v (a + t)) (qS (lPo (P.2.2.1 j)) v (a + t), sd, kC (lPo (P.2.2.1 j)) v a t) (nI t, p1, p2, p3, p4, p5) = (nI (t + 1), p1 + (qO (lPo (P.2.2.1 j)) v (a + t)), abI (lstF (lPo (P.2.2.1 j)).1 (qS (lPo (P.2.2.1 j)) v (a + t))), p3 + 1, p4, qO (lPo (P.2.2.1 j)) v (a + t)) := by
            simp only [wlkF, mxI, if_pos (Int32.not_le.mp b101), if_neg (show ¬ nI t = 0 from nI_ne0 (by omega) (by omega)), if_neg b150, nI_1, Int32.add_zero]
          rw [hw9] at hy9
          refine ih (t + 1) _ _ _ _ _ _ fk19 (by omega) ?_ hy9
          have z := hfk19
          rw [nI_1, cSt_i, ← qS_s] at z
          exact z
        · refine w_iconst (v := 0) dX10_cycleOf_153 (by decide) ?_
          refine w_goto (tgt := 158) dX10_cycleOf_154 rfl ?_
          refine w_iadd dX10_cycleOf_158 ?_
          refine w_istore (ls2 := [some (.ref m), some (.int (nI j)), some (.int v), some (.int y), some (.int (qO (lPo (P.2.2.1 j)) v (a + t))), some (.int (p1 + (qO (lPo (P.2.2.1 j)) v (a + t)))), some (.int (abI (lstF (lPo (P.2.2.1 j)).1 (qS (lPo (P.2.2.1 j)) v (a + t))))), some (.int (p3 + 0)), some (.int p4), some (.int p5), some (.int (nI t)), some (.int (abI (lstF (lPo (P.2.2.1 j)).1 (qS (lPo (P.2.2.1 j)) v (a + t)))))]) dX10_cycleOf_159 (by decide) rfl rfl ?_
          refine w_iload dX10_cycleOf_161 rfl ?_
          refine w_istore (ls2 := [some (.ref m), some (.int (nI j)), some (.int v), some (.int y), some (.int (qO (lPo (P.2.2.1 j)) v (a + t))), some (.int (p1 + (qO (lPo (P.2.2.1 j)) v (a + t)))), some (.int (abI (lstF (lPo (P.2.2.1 j)).1 (qS (lPo (P.2.2.1 j)) v (a + t))))), some (.int (p3 + 0)), some (.int p4), some (.int (qO (lPo (P.2.2.1 j)) v (a + t))), some (.int (nI t)), some (.int (abI (lstF (lPo (P.2.2.1 j)).1 (qS (lPo (P.2.2.1 j)) v (a + t)))))]) dX10_cycleOf_163 (by decide) rfl rfl ?_
          refine w_iinc (v := nI (t + 1)) (ls2 := [some (.ref m), some (.int (nI j)), some (.int v), some (.int y), some (.int (qO (lPo (P.2.2.1 j)) v (a + t))), some (.int (p1 + (qO (lPo (P.2.2.1 j)) v (a + t)))), some (.int (abI (lstF (lPo (P.2.2.1 j)).1 (qS (lPo (P.2.2.1 j)) v (a + t))))), some (.int (p3 + 0)), some (.int p4), some (.int (qO (lPo (P.2.2.1 j)) v (a + t))), some (.int (nI (t + 1))), some (.int (abI (lstF (lPo (P.2.2.1 j)).1 (qS (lPo (P.2.2.1 j)) v (a + t)))))]) dX10_cycleOf_165 rfl (nI_1 _) (by decide) rfl rfl ?_
          refine w_goto (tgt := 68) dX10_cycleOf_168 rfl ?_
          refine w_less (ls2 := [some (.ref m), some (.int (nI j)), some (.int v), some (.int y), some (.int (qO (lPo (P.2.2.1 j)) v (a + t))), some (.int (p1 + (qO (lPo (P.2.2.1 j)) v (a + t)))), some (.int (abI (lstF (lPo (P.2.2.1 j)).1 (qS (lPo (P.2.2.1 j)) v (a + t))))), some (.int (p3 + 0)), some (.int p4), some (.int (qO (lPo (P.2.2.1 j)) v (a + t))), some (.int (nI (t + 1))), none]) ⟨Or.inr rfl, Or.inr rfl, Or.inr rfl, Or.inr rfl, Or.inr rfl, Or.inr rfl, Or.inr rfl, Or.inr rfl, Or.inr rfl, Or.inr rfl, Or.inr rfl, Or.inl rfl, trivial⟩ ?_
          have hy9 := yIv_s (s := (qS (lPo (P.2.2.1 j)) v (a + t), sd, kC (lPo (P.2.2.1 j)) v a t)) hy rfl (by omega)
          have hw9 : wlkF (lPo (P.2.2.1 j)) (qO (lPo (P.2.2.1 j)) v (a + t)) (qS (lPo (P.2.2.1 j)) v (a + t), sd, kC (lPo (P.2.2.1 j)) v a t) (nI t, p1, p2, p3, p4, p5) = (nI (t + 1), p1 + (qO (lPo (P.2.2.1 j)) v (a + t)), abI (lstF (lPo (P.2.2.1 j)).1 (qS (lPo (P.2.2.1 j)) v (a + t))), p3 + 0, p4, qO (lPo (P.2.2.1 j)) v (a + t)) := by
            simp only [wlkF, mxI, if_pos (Int32.not_le.mp b101), if_neg (show ¬ nI t = 0 from nI_ne0 (by omega) (by omega)), if_pos b150, nI_1, Int32.add_zero]
          rw [hw9] at hy9
          refine ih (t + 1) _ _ _ _ _ _ fk19 (by omega) ?_ hy9
          have z := hfk19
          rw [nI_1, cSt_i, ← qS_s] at z
          exact z
      · have b134 := (nI_eq (a := t) (b := 0) (by omega) (by omega)).mp b134
        refine w_iload dX10_cycleOf_137 rfl ?_
        refine w_istore (ls2 := [some (.ref m), some (.int (nI j)), some (.int v), some (.int y), some (.int (qO (lPo (P.2.2.1 j)) v (a + t))), some (.int (p1 + (qO (lPo (P.2.2.1 j)) v (a + t)))), some (.int (abI (lstF (lPo (P.2.2.1 j)).1 (qS (lPo (P.2.2.1 j)) v (a + t))))), some (.int p3), some (.int (qO (lPo (P.2.2.1 j)) v (a + t))), some (.int p5), some (.int (nI t)), some (.int (abI (lstF (lPo (P.2.2.1 j)).1 (qS (lPo (P.2.2.1 j)) v (a + t)))))]) dX10_cycleOf_139 (by decide) rfl rfl ?_
        refine w_goto (tgt := 161) dX10_cycleOf_141 rfl ?_
        refine w_iload dX10_cycleOf_161 rfl ?_
        refine w_istore (ls2 := [some (.ref m), some (.int (nI j)), some (.int v), some (.int y), some (.int (qO (lPo (P.2.2.1 j)) v (a + t))), some (.int (p1 + (qO (lPo (P.2.2.1 j)) v (a + t)))), some (.int (abI (lstF (lPo (P.2.2.1 j)).1 (qS (lPo (P.2.2.1 j)) v (a + t))))), some (.int p3), some (.int (qO (lPo (P.2.2.1 j)) v (a + t))), some (.int (qO (lPo (P.2.2.1 j)) v (a + t))), some (.int (nI t)), some (.int (abI (lstF (lPo (P.2.2.1 j)).1 (qS (lPo (P.2.2.1 j)) v (a + t)))))]) dX10_cycleOf_163 (by decide) rfl rfl ?_
        refine w_iinc (v := nI (t + 1)) (ls2 := [some (.ref m), some (.int (nI j)), some (.int v), some (.int y), some (.int (qO (lPo (P.2.2.1 j)) v (a + t))), some (.int (p1 + (qO (lPo (P.2.2.1 j)) v (a + t)))), some (.int (abI (lstF (lPo (P.2.2.1 j)).1 (qS (lPo (P.2.2.1 j)) v (a + t))))), some (.int p3), some (.int (qO (lPo (P.2.2.1 j)) v (a + t))), some (.int (qO (lPo (P.2.2.1 j)) v (a + t))), some (.int (nI (t + 1))), some (.int (abI (lstF (lPo (P.2.2.1 j)).1 (qS (lPo (P.2.2.1 j)) v (a + t)))))]) dX10_cycleOf_165 rfl (nI_1 _) (by decide) rfl rfl ?_
        refine w_goto (tgt := 68) dX10_cycleOf_168 rfl ?_
        refine w_less (ls2 := [some (.ref m), some (.int (nI j)), some (.int v), some (.int y), some (.int (qO (lPo (P.2.2.1 j)) v (a + t))), some (.int (p1 + (qO (lPo (P.2.2.1 j)) v (a + t)))), some (.int (abI (lstF (lPo (P.2.2.1 j)).1 (qS (lPo (P.2.2.1 j)) v (a + t))))), some (.int p3), some (.int (qO (lPo (P.2.2.1 j)) v (a + t))), some (.int (qO (lPo (P.2.2.1 j)) v (a + t))), some (.int (nI (t + 1))), none]) ⟨Or.inr rfl, Or.inr rfl, Or.inr rfl, Or.inr rfl, Or.inr rfl, Or.inr rfl, Or.inr rfl, Or.inr rfl, Or.inr rfl, Or.inr rfl, Or.inr rfl, Or.inl rfl, trivial⟩ ?_
        have hy9 := yIv_s (s := (qS (lPo (P.2.2.1 j)) v (a + t), sd, kC (lPo (P.2.2.1 j)) v a t)) hy rfl (by omega)
        have hw9 : wlkF (lPo (P.2.2.1 j)) (qO (lPo (P.2.2.1 j)) v (a + t)) (qS (lPo (P.2.2.1 j)) v (a + t), sd, kC (lPo (P.2.2.1 j)) v a t) (nI t, p1, p2, p3, p4, p5) = (nI (t + 1), p1 + (qO (lPo (P.2.2.1 j)) v (a + t)), abI (lstF (lPo (P.2.2.1 j)).1 (qS (lPo (P.2.2.1 j)) v (a + t))), p3, qO (lPo (P.2.2.1 j)) v (a + t), qO (lPo (P.2.2.1 j)) v (a + t)) := by
          simp only [wlkF, mxI, if_pos (Int32.not_le.mp b101), if_pos (show nI t = 0 by rw [b134]; rfl), nI_1, Int32.add_zero]
        rw [hw9] at hy9
        refine ih (t + 1) _ _ _ _ _ _ fk19 (by omega) ?_ hy9
        have z := hfk19
        rw [nI_1, cSt_i, ← qS_s] at z
        exact z
set_option maxRecDepth 100000 in
set_option maxHeartbeats 4000000 in
theorem m_cycleOf2 {G : wG} {d : Nat} {h : hH} {Q : Option Value → hH → Prop} {m : Nat} {th tr wa tp sz sp fa fl tk ta sg nu : Int32} {wd : Int64} {lo wv rl rw ht sd : Int32} {ln : Nat → Int64} {fn : Nat → Int32} {fs : Nat → Int32} {ff : Nat → Int32} {fb : Nat → Int32} {f3 : Nat → Int32} {P : pD} {j : Nat} {v : Int32} {f1 : Nat → Int32} {a c : Nat} (hw : hHas h [m, m + 4, m + 5, m + 6, m + 9, m + 15] [(oC 10 (mF m th tr wa tp sz sp fa fl tk ta sg nu wd lo wv rl rw ht sd (nI a) (nI c))), (aI 8 fs), (aI 24 ff), (aI 8 fb), (aZ 8 f3), (aI 11 f1)]) (nd : [m, m + 4, m + 5, m + 6, m + 9, m + 15].Nodup) (h8 : j < 8) (hLp : mLp (P.2.2.1 j) j ln fs ff fb fn f3) (hGl : lGd (P.2.2.1 j)) (hc1 : 1 ≤ c) (hc : c ≤ 3000) (ha : a ≤ 3000) (hq9 : qS (lPo (P.2.2.1 j)) v a = qS (lPo (P.2.2.1 j)) v (a + c)) (k : ∀ f1 : Nat → Int32, Q (some (.int (kO (lPo (P.2.2.1 j)) v a c))) (hUs h [m, m + 4, m + 5, m + 6, m + 9, m + 15] [(oC 10 (mF m th tr wa tp sz sp fa fl tk ta sg nu wd lo wv rl rw ht sd (nI a) (nI c))), (aI 8 fs), (aI 24 ff), (aI 8 fb), (aZ 8 f3), (aI 11 f1)])) : Cl G yX10_cycleOf (d + 2) 0 0 [.ref m, .int (nI j), .int v, .int (nI 2)] h Q := by
  refine Cl.of (ini := false) kX10_cycleOf (plainFor_of_name (by decide)) (by decide) (Nat.le_of_ble_eq_true rfl) rfl rfl (fun z => by cases z) ?_
  refine w_heq (hUs_id hw).symm ?_
  refine w_aload_n dX10_cycleOf_0 rfl ?_
  refine w_aload_n dX10_cycleOf_1 rfl ?_
  refine w_get (v := .ref (m + 15)) fX10_58 (hUs_at nd 0 rfl rfl) rfl dX10_cycleOf_2 ?_
  refine w_iload_n dX10_cycleOf_5 rfl ?_
  refine w_iconst (v := 0) dX10_cycleOf_6 (by decide) ?_
  refine w_callV (ci := 10) (d' := d + 1) (mc' := 0) (ms' := 0) (As := [.ref (m + 15), .int (nI j), .int 0]) (st := []) lX10_280 vX10_starts rfl (hUs_at nd 0 rfl rfl) rfl (Nat.le_of_ble_eq_true rfl) dX10_cycleOf_7 (Nat.le_of_ble_eq_true rfl) (Nat.le_of_ble_eq_true rfl) (Nat.le_refl _) (m_starts (hHas_sub nd (as' := [m, m + 15]) (cs' := [(oC 10 (mF m th tr wa tp sz sp fa fl tk ta sg nu wd lo wv rl rw ht sd (nI a) (nI c))), (aI 11 f1)]) [0, 5] rfl rfl) (nd_sub nd (as' := [m, m + 15]) [0, 5] rfl rfl)  ?_)
  refine w_heq (hUs_in nd rfl [0, 5] (cs2 := [(oC 10 (mF m th tr wa tp sz sp fa fl tk ta sg nu wd lo wv rl rw ht sd (nI a) (nI c))), (aI 8 fs), (aI 24 ff), (aI 8 fb), (aZ 8 f3), (aI 11 (stA (nI j) 0 sd))]) rfl rfl) ?_
  refine w_iconst (v := 0) dX10_cycleOf_10 (by decide) ?_
  refine w_istore (ls2 := [some (.ref m), some (.int (nI j)), some (.int v), some (.int (nI 2)), some (.int 0), none, none, none, none, none, none, none]) dX10_cycleOf_11 (by decide) rfl rfl ?_
  refine w_iconst (v := (nI 0)) dX10_cycleOf_13 (by decide) ?_
  refine w_istore (ls2 := [some (.ref m), some (.int (nI j)), some (.int v), some (.int (nI 2)), some (.int 0), some (.int (nI 0)), none, none, none, none, none, none]) dX10_cycleOf_14 (by decide) rfl rfl ?_
  refine l_cof1 (ln := ln) (fn := fn) (P := P) nd h8 hLp hGl ha (fun x1 g1 hg1 => ?_) a 0 _ _ (by omega) (stA_rn _ _ _)
  refine w_aload_n dX10_cycleOf_43 rfl ?_
  refine w_get (v := .ref (m + 15)) fX10_58 (hUs_at nd 0 rfl rfl) rfl dX10_cycleOf_44 ?_
  refine w_iconst (v := (nI 4)) dX10_cycleOf_47 (by decide) ?_
  refine w_iconst (v := 0) dX10_cycleOf_48 (by decide) ?_
  refine w_iastoreN (hUs_at nd 5 rfl rfl) (by omega) (by omega) dX10_cycleOf_49 ?_
  refine w_heq (hUs_set nd rfl 5 (cs' := [(oC 10 (mF m th tr wa tp sz sp fa fl tk ta sg nu wd lo wv rl rw ht sd (nI a) (nI c))), (aI 8 fs), (aI 24 ff), (aI 8 fb), (aZ 8 f3), (aI 11 (upd g1 4 0))]) rfl rfl) ?_
  refine w_iconst (v := 0) dX10_cycleOf_50 (by decide) ?_
  refine w_istore (ls2 := [some (.ref m), some (.int (nI j)), some (.int v), some (.int (nI 2)), some (.int x1), some (.int 0), none, none, none, none, none, none]) dX10_cycleOf_51 (by decide) rfl rfl ?_
  refine w_iconst (v := 0) dX10_cycleOf_53 (by decide) ?_
  refine w_istore (ls2 := [some (.ref m), some (.int (nI j)), some (.int v), some (.int (nI 2)), some (.int x1), some (.int 0), some (.int 0), none, none, none, none, none]) dX10_cycleOf_54 (by decide) rfl rfl ?_
  refine w_iconst (v := 0) dX10_cycleOf_56 (by decide) ?_
  refine w_istore (ls2 := [some (.ref m), some (.int (nI j)), some (.int v), some (.int (nI 2)), some (.int x1), some (.int 0), some (.int 0), some (.int 0), none, none, none, none]) dX10_cycleOf_57 (by decide) rfl rfl ?_
  refine w_iconst (v := 0) dX10_cycleOf_59 (by decide) ?_
  refine w_istore (ls2 := [some (.ref m), some (.int (nI j)), some (.int v), some (.int (nI 2)), some (.int x1), some (.int 0), some (.int 0), some (.int 0), some (.int 0), none, none, none]) dX10_cycleOf_60 (by decide) rfl rfl ?_
  refine w_iconst (v := 0) dX10_cycleOf_62 (by decide) ?_
  refine w_istore (ls2 := [some (.ref m), some (.int (nI j)), some (.int v), some (.int (nI 2)), some (.int x1), some (.int 0), some (.int 0), some (.int 0), some (.int 0), some (.int 0), none, none]) dX10_cycleOf_63 (by decide) rfl rfl ?_
  refine w_iconst (v := (nI 0)) dX10_cycleOf_65 (by decide) ?_
  refine w_istore (ls2 := [some (.ref m), some (.int (nI j)), some (.int v), some (.int (nI 2)), some (.int x1), some (.int 0), some (.int 0), some (.int 0), some (.int 0), some (.int 0), some (.int (nI 0)), none]) dX10_cycleOf_66 (by decide) rfl rfl ?_
  have hg2 : mRn (upd g1 4 0) (nI j) 0 (nI (a + 0)) (qS (lPo (P.2.2.1 j)) v (a + 0), sd, kC (lPo (P.2.2.1 j)) v a 0) := ⟨hg1.1, hg1.2.1, hg1.2.2.1, hg1.2.2.2.1, rfl, hg1.2.2.2.2.2⟩
  refine l_cof2 (ln := ln) (fn := fn) (P := P) nd h8 hLp hGl hc ha (fun x2 p1 p2 p3 p4 p5 g2 hg3 hy3 => ?_) c 0 _ _ _ _ _ _ _ (by omega) hg2 (yIv_0 _ _ _ _ _)
  refine w_iload dX10_cycleOf_171 rfl ?_
  refine w_iload dX10_cycleOf_173 rfl ?_
  refine w_iload dX10_cycleOf_175 rfl ?_
  refine w_icmp_ne (tgt := 184) dX10_cycleOf_177 rfl (fun b177 => ?_) (fun b177 => ?_)
  · refine w_iconst (v := 1) dX10_cycleOf_184 (by decide) ?_
    refine w_iadd dX10_cycleOf_185 ?_
    refine w_istore (ls2 := [some (.ref m), some (.int (nI j)), some (.int v), some (.int (nI 2)), some (.int x2), some (.int p1), some (.int p2), some (.int (p3 + 1)), some (.int p4), some (.int p5), none, none]) dX10_cycleOf_186 (by decide) rfl rfl ?_
    refine w_iload_n dX10_cycleOf_188 rfl ?_
    refine w_tableIn (off := 27) (tgt := 216) dX10_cycleOf_189 (by decide) (by decide) rfl rfl ?_
    refine w_iload dX10_cycleOf_216 rfl ?_
    refine w_ireturn rfl dX10_cycleOf_218 (Nat.le_of_ble_eq_true rfl) (Nat.le_of_ble_eq_true rfl) ?_
    rw [show p1 = kO (lPo (P.2.2.1 j)) v a c from hy3.2.1]
    exact k g2
  · refine w_iconst (v := 0) dX10_cycleOf_180 (by decide) ?_
    refine w_goto (tgt := 185) dX10_cycleOf_181 rfl ?_
    refine w_iadd dX10_cycleOf_185 ?_
    refine w_istore (ls2 := [some (.ref m), some (.int (nI j)), some (.int v), some (.int (nI 2)), some (.int x2), some (.int p1), some (.int p2), some (.int (p3 + 0)), some (.int p4), some (.int p5), none, none]) dX10_cycleOf_186 (by decide) rfl rfl ?_
    refine w_iload_n dX10_cycleOf_188 rfl ?_
    refine w_tableIn (off := 27) (tgt := 216) dX10_cycleOf_189 (by decide) (by decide) rfl rfl ?_
    refine w_iload dX10_cycleOf_216 rfl ?_
    refine w_ireturn rfl dX10_cycleOf_218 (Nat.le_of_ble_eq_true rfl) (Nat.le_of_ble_eq_true rfl) ?_
    rw [show p1 = kO (lPo (P.2.2.1 j)) v a c from hy3.2.1]
    exact k g2
set_option maxRecDepth 100000 in
set_option maxHeartbeats 4000000 in
theorem m_cycleOf3 {G : wG} {d : Nat} {h : hH} {Q : Option Value → hH → Prop} {m : Nat} {th tr wa tp sz sp fa fl tk ta sg nu : Int32} {wd : Int64} {lo wv rl rw ht sd : Int32} {ln : Nat → Int64} {fn : Nat → Int32} {fs : Nat → Int32} {ff : Nat → Int32} {fb : Nat → Int32} {f3 : Nat → Int32} {P : pD} {j : Nat} {v : Int32} {f1 : Nat → Int32} {a c : Nat} (hw : hHas h [m, m + 4, m + 5, m + 6, m + 9, m + 15] [(oC 10 (mF m th tr wa tp sz sp fa fl tk ta sg nu wd lo wv rl rw ht sd (nI a) (nI c))), (aI 8 fs), (aI 24 ff), (aI 8 fb), (aZ 8 f3), (aI 11 f1)]) (nd : [m, m + 4, m + 5, m + 6, m + 9, m + 15].Nodup) (h8 : j < 8) (hLp : mLp (P.2.2.1 j) j ln fs ff fb fn f3) (hGl : lGd (P.2.2.1 j)) (hc1 : 1 ≤ c) (hc : c ≤ 3000) (ha : a ≤ 3000) (hq9 : qS (lPo (P.2.2.1 j)) v a = qS (lPo (P.2.2.1 j)) v (a + c)) (k : ∀ f1 : Nat → Int32, Q (some (.int (kC (lPo (P.2.2.1 j)) v a c))) (hUs h [m, m + 4, m + 5, m + 6, m + 9, m + 15] [(oC 10 (mF m th tr wa tp sz sp fa fl tk ta sg nu wd lo wv rl rw ht sd (nI a) (nI c))), (aI 8 fs), (aI 24 ff), (aI 8 fb), (aZ 8 f3), (aI 11 f1)])) : Cl G yX10_cycleOf (d + 2) 0 0 [.ref m, .int (nI j), .int v, .int (nI 3)] h Q := by
  refine Cl.of (ini := false) kX10_cycleOf (plainFor_of_name (by decide)) (by decide) (Nat.le_of_ble_eq_true rfl) rfl rfl (fun z => by cases z) ?_
  refine w_heq (hUs_id hw).symm ?_
  refine w_aload_n dX10_cycleOf_0 rfl ?_
  refine w_aload_n dX10_cycleOf_1 rfl ?_
  refine w_get (v := .ref (m + 15)) fX10_58 (hUs_at nd 0 rfl rfl) rfl dX10_cycleOf_2 ?_
  refine w_iload_n dX10_cycleOf_5 rfl ?_
  refine w_iconst (v := 0) dX10_cycleOf_6 (by decide) ?_
  refine w_callV (ci := 10) (d' := d + 1) (mc' := 0) (ms' := 0) (As := [.ref (m + 15), .int (nI j), .int 0]) (st := []) lX10_280 vX10_starts rfl (hUs_at nd 0 rfl rfl) rfl (Nat.le_of_ble_eq_true rfl) dX10_cycleOf_7 (Nat.le_of_ble_eq_true rfl) (Nat.le_of_ble_eq_true rfl) (Nat.le_refl _) (m_starts (hHas_sub nd (as' := [m, m + 15]) (cs' := [(oC 10 (mF m th tr wa tp sz sp fa fl tk ta sg nu wd lo wv rl rw ht sd (nI a) (nI c))), (aI 11 f1)]) [0, 5] rfl rfl) (nd_sub nd (as' := [m, m + 15]) [0, 5] rfl rfl)  ?_)
  refine w_heq (hUs_in nd rfl [0, 5] (cs2 := [(oC 10 (mF m th tr wa tp sz sp fa fl tk ta sg nu wd lo wv rl rw ht sd (nI a) (nI c))), (aI 8 fs), (aI 24 ff), (aI 8 fb), (aZ 8 f3), (aI 11 (stA (nI j) 0 sd))]) rfl rfl) ?_
  refine w_iconst (v := 0) dX10_cycleOf_10 (by decide) ?_
  refine w_istore (ls2 := [some (.ref m), some (.int (nI j)), some (.int v), some (.int (nI 3)), some (.int 0), none, none, none, none, none, none, none]) dX10_cycleOf_11 (by decide) rfl rfl ?_
  refine w_iconst (v := (nI 0)) dX10_cycleOf_13 (by decide) ?_
  refine w_istore (ls2 := [some (.ref m), some (.int (nI j)), some (.int v), some (.int (nI 3)), some (.int 0), some (.int (nI 0)), none, none, none, none, none, none]) dX10_cycleOf_14 (by decide) rfl rfl ?_
  refine l_cof1 (ln := ln) (fn := fn) (P := P) nd h8 hLp hGl ha (fun x1 g1 hg1 => ?_) a 0 _ _ (by omega) (stA_rn _ _ _)
  refine w_aload_n dX10_cycleOf_43 rfl ?_
  refine w_get (v := .ref (m + 15)) fX10_58 (hUs_at nd 0 rfl rfl) rfl dX10_cycleOf_44 ?_
  refine w_iconst (v := (nI 4)) dX10_cycleOf_47 (by decide) ?_
  refine w_iconst (v := 0) dX10_cycleOf_48 (by decide) ?_
  refine w_iastoreN (hUs_at nd 5 rfl rfl) (by omega) (by omega) dX10_cycleOf_49 ?_
  refine w_heq (hUs_set nd rfl 5 (cs' := [(oC 10 (mF m th tr wa tp sz sp fa fl tk ta sg nu wd lo wv rl rw ht sd (nI a) (nI c))), (aI 8 fs), (aI 24 ff), (aI 8 fb), (aZ 8 f3), (aI 11 (upd g1 4 0))]) rfl rfl) ?_
  refine w_iconst (v := 0) dX10_cycleOf_50 (by decide) ?_
  refine w_istore (ls2 := [some (.ref m), some (.int (nI j)), some (.int v), some (.int (nI 3)), some (.int x1), some (.int 0), none, none, none, none, none, none]) dX10_cycleOf_51 (by decide) rfl rfl ?_
  refine w_iconst (v := 0) dX10_cycleOf_53 (by decide) ?_
  refine w_istore (ls2 := [some (.ref m), some (.int (nI j)), some (.int v), some (.int (nI 3)), some (.int x1), some (.int 0), some (.int 0), none, none, none, none, none]) dX10_cycleOf_54 (by decide) rfl rfl ?_
  refine w_iconst (v := 0) dX10_cycleOf_56 (by decide) ?_
  refine w_istore (ls2 := [some (.ref m), some (.int (nI j)), some (.int v), some (.int (nI 3)), some (.int x1), some (.int 0), some (.int 0), some (.int 0), none, none, none, none]) dX10_cycleOf_57 (by decide) rfl rfl ?_
  refine w_iconst (v := 0) dX10_cycleOf_59 (by decide) ?_
  refine w_istore (ls2 := [some (.ref m), some (.int (nI j)), some (.int v), some (.int (nI 3)), some (.int x1), some (.int 0), some (.int 0), some (.int 0), some (.int 0), none, none, none]) dX10_cycleOf_60 (by decide) rfl rfl ?_
  refine w_iconst (v := 0) dX10_cycleOf_62 (by decide) ?_
  refine w_istore (ls2 := [some (.ref m), some (.int (nI j)), some (.int v), some (.int (nI 3)), some (.int x1), some (.int 0), some (.int 0), some (.int 0), some (.int 0), some (.int 0), none, none]) dX10_cycleOf_63 (by decide) rfl rfl ?_
  refine w_iconst (v := (nI 0)) dX10_cycleOf_65 (by decide) ?_
  refine w_istore (ls2 := [some (.ref m), some (.int (nI j)), some (.int v), some (.int (nI 3)), some (.int x1), some (.int 0), some (.int 0), some (.int 0), some (.int 0), some (.int 0), some (.int (nI 0)), none]) dX10_cycleOf_66 (by decide) rfl rfl ?_
  have hg2 : mRn (upd g1 4 0) (nI j) 0 (nI (a + 0)) (qS (lPo (P.2.2.1 j)) v (a + 0), sd, kC (lPo (P.2.2.1 j)) v a 0) := ⟨hg1.1, hg1.2.1, hg1.2.2.1, hg1.2.2.2.1, rfl, hg1.2.2.2.2.2⟩
  refine l_cof2 (ln := ln) (fn := fn) (P := P) nd h8 hLp hGl hc ha (fun x2 p1 p2 p3 p4 p5 g2 hg3 hy3 => ?_) c 0 _ _ _ _ _ _ _ (by omega) hg2 (yIv_0 _ _ _ _ _)
  refine w_iload dX10_cycleOf_171 rfl ?_
  refine w_iload dX10_cycleOf_173 rfl ?_
  refine w_iload dX10_cycleOf_175 rfl ?_
  refine w_icmp_ne (tgt := 184) dX10_cycleOf_177 rfl (fun b177 => ?_) (fun b177 => ?_)
  · refine w_iconst (v := 1) dX10_cycleOf_184 (by decide) ?_
    refine w_iadd dX10_cycleOf_185 ?_
    refine w_istore (ls2 := [some (.ref m), some (.int (nI j)), some (.int v), some (.int (nI 3)), some (.int x2), some (.int p1), some (.int p2), some (.int (p3 + 1)), some (.int p4), some (.int p5), none, none]) dX10_cycleOf_186 (by decide) rfl rfl ?_
    refine w_iload_n dX10_cycleOf_188 rfl ?_
    refine w_tableIn (off := 30) (tgt := 219) dX10_cycleOf_189 (by decide) (by decide) rfl rfl ?_
    refine w_aload_n dX10_cycleOf_219 rfl ?_
    refine w_get (v := .ref (m + 15)) fX10_58 (hUs_at nd 0 rfl rfl) rfl dX10_cycleOf_220 ?_
    refine w_iconst (v := (nI 4)) dX10_cycleOf_223 (by decide) ?_
    refine w_ialoadN (hUs_at nd 5 rfl rfl) (by omega) (by omega) dX10_cycleOf_224 ?_
    refine w_top (z := kC (lPo (P.2.2.1 j)) v a c) hg3.2.2.2.2.1 ?_
    refine w_ireturn rfl dX10_cycleOf_225 (Nat.le_of_ble_eq_true rfl) (Nat.le_of_ble_eq_true rfl) ?_
    exact k g2
  · refine w_iconst (v := 0) dX10_cycleOf_180 (by decide) ?_
    refine w_goto (tgt := 185) dX10_cycleOf_181 rfl ?_
    refine w_iadd dX10_cycleOf_185 ?_
    refine w_istore (ls2 := [some (.ref m), some (.int (nI j)), some (.int v), some (.int (nI 3)), some (.int x2), some (.int p1), some (.int p2), some (.int (p3 + 0)), some (.int p4), some (.int p5), none, none]) dX10_cycleOf_186 (by decide) rfl rfl ?_
    refine w_iload_n dX10_cycleOf_188 rfl ?_
    refine w_tableIn (off := 30) (tgt := 219) dX10_cycleOf_189 (by decide) (by decide) rfl rfl ?_
    refine w_aload_n dX10_cycleOf_219 rfl ?_
    refine w_get (v := .ref (m + 15)) fX10_58 (hUs_at nd 0 rfl rfl) rfl dX10_cycleOf_220 ?_
    refine w_iconst (v := (nI 4)) dX10_cycleOf_223 (by decide) ?_
    refine w_ialoadN (hUs_at nd 5 rfl rfl) (by omega) (by omega) dX10_cycleOf_224 ?_
    refine w_top (z := kC (lPo (P.2.2.1 j)) v a c) hg3.2.2.2.2.1 ?_
    refine w_ireturn rfl dX10_cycleOf_225 (Nat.le_of_ble_eq_true rfl) (Nat.le_of_ble_eq_true rfl) ?_
    exact k g2
set_option maxRecDepth 100000 in
set_option maxHeartbeats 4000000 in
theorem m_cycleOf4 {G : wG} {d : Nat} {h : hH} {Q : Option Value → hH → Prop} {m : Nat} {th tr wa tp sz sp fa fl tk ta sg nu : Int32} {wd : Int64} {lo wv rl rw ht sd : Int32} {ln : Nat → Int64} {fn : Nat → Int32} {fs : Nat → Int32} {ff : Nat → Int32} {fb : Nat → Int32} {f3 : Nat → Int32} {P : pD} {j : Nat} {v : Int32} {f1 : Nat → Int32} {a c : Nat} (hw : hHas h [m, m + 4, m + 5, m + 6, m + 9, m + 15] [(oC 10 (mF m th tr wa tp sz sp fa fl tk ta sg nu wd lo wv rl rw ht sd (nI a) (nI c))), (aI 8 fs), (aI 24 ff), (aI 8 fb), (aZ 8 f3), (aI 11 f1)]) (nd : [m, m + 4, m + 5, m + 6, m + 9, m + 15].Nodup) (h8 : j < 8) (hLp : mLp (P.2.2.1 j) j ln fs ff fb fn f3) (hGl : lGd (P.2.2.1 j)) (hc1 : 1 ≤ c) (hc : c ≤ 3000) (ha : a ≤ 3000) (hq9 : qS (lPo (P.2.2.1 j)) v a = qS (lPo (P.2.2.1 j)) v (a + c)) (k : ∀ f1 : Nat → Int32, Q (some (.int (kG (lPo (P.2.2.1 j)) v a c))) (hUs h [m, m + 4, m + 5, m + 6, m + 9, m + 15] [(oC 10 (mF m th tr wa tp sz sp fa fl tk ta sg nu wd lo wv rl rw ht sd (nI a) (nI c))), (aI 8 fs), (aI 24 ff), (aI 8 fb), (aZ 8 f3), (aI 11 f1)])) : Cl G yX10_cycleOf (d + 2) 0 0 [.ref m, .int (nI j), .int v, .int (nI 4)] h Q := by
  refine Cl.of (ini := false) kX10_cycleOf (plainFor_of_name (by decide)) (by decide) (Nat.le_of_ble_eq_true rfl) rfl rfl (fun z => by cases z) ?_
  refine w_heq (hUs_id hw).symm ?_
  refine w_aload_n dX10_cycleOf_0 rfl ?_
  refine w_aload_n dX10_cycleOf_1 rfl ?_
  refine w_get (v := .ref (m + 15)) fX10_58 (hUs_at nd 0 rfl rfl) rfl dX10_cycleOf_2 ?_
  refine w_iload_n dX10_cycleOf_5 rfl ?_
  refine w_iconst (v := 0) dX10_cycleOf_6 (by decide) ?_
  refine w_callV (ci := 10) (d' := d + 1) (mc' := 0) (ms' := 0) (As := [.ref (m + 15), .int (nI j), .int 0]) (st := []) lX10_280 vX10_starts rfl (hUs_at nd 0 rfl rfl) rfl (Nat.le_of_ble_eq_true rfl) dX10_cycleOf_7 (Nat.le_of_ble_eq_true rfl) (Nat.le_of_ble_eq_true rfl) (Nat.le_refl _) (m_starts (hHas_sub nd (as' := [m, m + 15]) (cs' := [(oC 10 (mF m th tr wa tp sz sp fa fl tk ta sg nu wd lo wv rl rw ht sd (nI a) (nI c))), (aI 11 f1)]) [0, 5] rfl rfl) (nd_sub nd (as' := [m, m + 15]) [0, 5] rfl rfl)  ?_)
  refine w_heq (hUs_in nd rfl [0, 5] (cs2 := [(oC 10 (mF m th tr wa tp sz sp fa fl tk ta sg nu wd lo wv rl rw ht sd (nI a) (nI c))), (aI 8 fs), (aI 24 ff), (aI 8 fb), (aZ 8 f3), (aI 11 (stA (nI j) 0 sd))]) rfl rfl) ?_
  refine w_iconst (v := 0) dX10_cycleOf_10 (by decide) ?_
  refine w_istore (ls2 := [some (.ref m), some (.int (nI j)), some (.int v), some (.int (nI 4)), some (.int 0), none, none, none, none, none, none, none]) dX10_cycleOf_11 (by decide) rfl rfl ?_
  refine w_iconst (v := (nI 0)) dX10_cycleOf_13 (by decide) ?_
  refine w_istore (ls2 := [some (.ref m), some (.int (nI j)), some (.int v), some (.int (nI 4)), some (.int 0), some (.int (nI 0)), none, none, none, none, none, none]) dX10_cycleOf_14 (by decide) rfl rfl ?_
  refine l_cof1 (ln := ln) (fn := fn) (P := P) nd h8 hLp hGl ha (fun x1 g1 hg1 => ?_) a 0 _ _ (by omega) (stA_rn _ _ _)
  refine w_aload_n dX10_cycleOf_43 rfl ?_
  refine w_get (v := .ref (m + 15)) fX10_58 (hUs_at nd 0 rfl rfl) rfl dX10_cycleOf_44 ?_
  refine w_iconst (v := (nI 4)) dX10_cycleOf_47 (by decide) ?_
  refine w_iconst (v := 0) dX10_cycleOf_48 (by decide) ?_
  refine w_iastoreN (hUs_at nd 5 rfl rfl) (by omega) (by omega) dX10_cycleOf_49 ?_
  refine w_heq (hUs_set nd rfl 5 (cs' := [(oC 10 (mF m th tr wa tp sz sp fa fl tk ta sg nu wd lo wv rl rw ht sd (nI a) (nI c))), (aI 8 fs), (aI 24 ff), (aI 8 fb), (aZ 8 f3), (aI 11 (upd g1 4 0))]) rfl rfl) ?_
  refine w_iconst (v := 0) dX10_cycleOf_50 (by decide) ?_
  refine w_istore (ls2 := [some (.ref m), some (.int (nI j)), some (.int v), some (.int (nI 4)), some (.int x1), some (.int 0), none, none, none, none, none, none]) dX10_cycleOf_51 (by decide) rfl rfl ?_
  refine w_iconst (v := 0) dX10_cycleOf_53 (by decide) ?_
  refine w_istore (ls2 := [some (.ref m), some (.int (nI j)), some (.int v), some (.int (nI 4)), some (.int x1), some (.int 0), some (.int 0), none, none, none, none, none]) dX10_cycleOf_54 (by decide) rfl rfl ?_
  refine w_iconst (v := 0) dX10_cycleOf_56 (by decide) ?_
  refine w_istore (ls2 := [some (.ref m), some (.int (nI j)), some (.int v), some (.int (nI 4)), some (.int x1), some (.int 0), some (.int 0), some (.int 0), none, none, none, none]) dX10_cycleOf_57 (by decide) rfl rfl ?_
  refine w_iconst (v := 0) dX10_cycleOf_59 (by decide) ?_
  refine w_istore (ls2 := [some (.ref m), some (.int (nI j)), some (.int v), some (.int (nI 4)), some (.int x1), some (.int 0), some (.int 0), some (.int 0), some (.int 0), none, none, none]) dX10_cycleOf_60 (by decide) rfl rfl ?_
  refine w_iconst (v := 0) dX10_cycleOf_62 (by decide) ?_
  refine w_istore (ls2 := [some (.ref m), some (.int (nI j)), some (.int v), some (.int (nI 4)), some (.int x1), some (.int 0), some (.int 0), some (.int 0), some (.int 0), some (.int 0), none, none]) dX10_cycleOf_63 (by decide) rfl rfl ?_
  refine w_iconst (v := (nI 0)) dX10_cycleOf_65 (by decide) ?_
  refine w_istore (ls2 := [some (.ref m), some (.int (nI j)), some (.int v), some (.int (nI 4)), some (.int x1), some (.int 0), some (.int 0), some (.int 0), some (.int 0), some (.int 0), some (.int (nI 0)), none]) dX10_cycleOf_66 (by decide) rfl rfl ?_
  have hg2 : mRn (upd g1 4 0) (nI j) 0 (nI (a + 0)) (qS (lPo (P.2.2.1 j)) v (a + 0), sd, kC (lPo (P.2.2.1 j)) v a 0) := ⟨hg1.1, hg1.2.1, hg1.2.2.1, hg1.2.2.2.1, rfl, hg1.2.2.2.2.2⟩
  refine l_cof2 (ln := ln) (fn := fn) (P := P) nd h8 hLp hGl hc ha (fun x2 p1 p2 p3 p4 p5 g2 hg3 hy3 => ?_) c 0 _ _ _ _ _ _ _ (by omega) hg2 (yIv_0 _ _ _ _ _)
  refine w_iload dX10_cycleOf_171 rfl ?_
  refine w_iload dX10_cycleOf_173 rfl ?_
  refine w_iload dX10_cycleOf_175 rfl ?_
  refine w_icmp_ne (tgt := 184) dX10_cycleOf_177 rfl (fun b177 => ?_) (fun b177 => ?_)
  · refine w_iconst (v := 1) dX10_cycleOf_184 (by decide) ?_
    refine w_iadd dX10_cycleOf_185 ?_
    refine w_istore (ls2 := [some (.ref m), some (.int (nI j)), some (.int v), some (.int (nI 4)), some (.int x2), some (.int p1), some (.int p2), some (.int (p3 + 1)), some (.int p4), some (.int p5), none, none]) dX10_cycleOf_186 (by decide) rfl rfl ?_
    refine w_iload_n dX10_cycleOf_188 rfl ?_
    refine w_tableIn (off := 37) (tgt := 226) dX10_cycleOf_189 (by decide) (by decide) rfl rfl ?_
    refine w_iload dX10_cycleOf_226 rfl ?_
    refine w_ireturn rfl dX10_cycleOf_228 (Nat.le_of_ble_eq_true rfl) (Nat.le_of_ble_eq_true rfl) ?_
    rw [show p2 = kG (lPo (P.2.2.1 j)) v a c from hy3.2.2.1]
    exact k g2
  · refine w_iconst (v := 0) dX10_cycleOf_180 (by decide) ?_
    refine w_goto (tgt := 185) dX10_cycleOf_181 rfl ?_
    refine w_iadd dX10_cycleOf_185 ?_
    refine w_istore (ls2 := [some (.ref m), some (.int (nI j)), some (.int v), some (.int (nI 4)), some (.int x2), some (.int p1), some (.int p2), some (.int (p3 + 0)), some (.int p4), some (.int p5), none, none]) dX10_cycleOf_186 (by decide) rfl rfl ?_
    refine w_iload_n dX10_cycleOf_188 rfl ?_
    refine w_tableIn (off := 37) (tgt := 226) dX10_cycleOf_189 (by decide) (by decide) rfl rfl ?_
    refine w_iload dX10_cycleOf_226 rfl ?_
    refine w_ireturn rfl dX10_cycleOf_228 (Nat.le_of_ble_eq_true rfl) (Nat.le_of_ble_eq_true rfl) ?_
    rw [show p2 = kG (lPo (P.2.2.1 j)) v a c from hy3.2.2.1]
    exact k g2
set_option maxRecDepth 100000 in
set_option maxHeartbeats 4000000 in
theorem m_cycleOf5 {G : wG} {d : Nat} {h : hH} {Q : Option Value → hH → Prop} {m : Nat} {th tr wa tp sz sp fa fl tk ta sg nu : Int32} {wd : Int64} {lo wv rl rw ht sd : Int32} {ln : Nat → Int64} {fn : Nat → Int32} {fs : Nat → Int32} {ff : Nat → Int32} {fb : Nat → Int32} {f3 : Nat → Int32} {P : pD} {j : Nat} {v : Int32} {f1 : Nat → Int32} {a c : Nat} (hw : hHas h [m, m + 4, m + 5, m + 6, m + 9, m + 15] [(oC 10 (mF m th tr wa tp sz sp fa fl tk ta sg nu wd lo wv rl rw ht sd (nI a) (nI c))), (aI 8 fs), (aI 24 ff), (aI 8 fb), (aZ 8 f3), (aI 11 f1)]) (nd : [m, m + 4, m + 5, m + 6, m + 9, m + 15].Nodup) (h8 : j < 8) (hLp : mLp (P.2.2.1 j) j ln fs ff fb fn f3) (hGl : lGd (P.2.2.1 j)) (hc1 : 1 ≤ c) (hc : c ≤ 3000) (ha : a ≤ 3000) (hq9 : qS (lPo (P.2.2.1 j)) v a = qS (lPo (P.2.2.1 j)) v (a + c)) (k : ∀ f1 : Nat → Int32, Q (some (.int (kH (lPo (P.2.2.1 j)) v a c))) (hUs h [m, m + 4, m + 5, m + 6, m + 9, m + 15] [(oC 10 (mF m th tr wa tp sz sp fa fl tk ta sg nu wd lo wv rl rw ht sd (nI a) (nI c))), (aI 8 fs), (aI 24 ff), (aI 8 fb), (aZ 8 f3), (aI 11 f1)])) : Cl G yX10_cycleOf (d + 2) 0 0 [.ref m, .int (nI j), .int v, .int (nI 5)] h Q := by
  refine Cl.of (ini := false) kX10_cycleOf (plainFor_of_name (by decide)) (by decide) (Nat.le_of_ble_eq_true rfl) rfl rfl (fun z => by cases z) ?_
  refine w_heq (hUs_id hw).symm ?_
  refine w_aload_n dX10_cycleOf_0 rfl ?_
  refine w_aload_n dX10_cycleOf_1 rfl ?_
  refine w_get (v := .ref (m + 15)) fX10_58 (hUs_at nd 0 rfl rfl) rfl dX10_cycleOf_2 ?_
  refine w_iload_n dX10_cycleOf_5 rfl ?_
  refine w_iconst (v := 0) dX10_cycleOf_6 (by decide) ?_
  refine w_callV (ci := 10) (d' := d + 1) (mc' := 0) (ms' := 0) (As := [.ref (m + 15), .int (nI j), .int 0]) (st := []) lX10_280 vX10_starts rfl (hUs_at nd 0 rfl rfl) rfl (Nat.le_of_ble_eq_true rfl) dX10_cycleOf_7 (Nat.le_of_ble_eq_true rfl) (Nat.le_of_ble_eq_true rfl) (Nat.le_refl _) (m_starts (hHas_sub nd (as' := [m, m + 15]) (cs' := [(oC 10 (mF m th tr wa tp sz sp fa fl tk ta sg nu wd lo wv rl rw ht sd (nI a) (nI c))), (aI 11 f1)]) [0, 5] rfl rfl) (nd_sub nd (as' := [m, m + 15]) [0, 5] rfl rfl)  ?_)
  refine w_heq (hUs_in nd rfl [0, 5] (cs2 := [(oC 10 (mF m th tr wa tp sz sp fa fl tk ta sg nu wd lo wv rl rw ht sd (nI a) (nI c))), (aI 8 fs), (aI 24 ff), (aI 8 fb), (aZ 8 f3), (aI 11 (stA (nI j) 0 sd))]) rfl rfl) ?_
  refine w_iconst (v := 0) dX10_cycleOf_10 (by decide) ?_
  refine w_istore (ls2 := [some (.ref m), some (.int (nI j)), some (.int v), some (.int (nI 5)), some (.int 0), none, none, none, none, none, none, none]) dX10_cycleOf_11 (by decide) rfl rfl ?_
  refine w_iconst (v := (nI 0)) dX10_cycleOf_13 (by decide) ?_
  refine w_istore (ls2 := [some (.ref m), some (.int (nI j)), some (.int v), some (.int (nI 5)), some (.int 0), some (.int (nI 0)), none, none, none, none, none, none]) dX10_cycleOf_14 (by decide) rfl rfl ?_
  refine l_cof1 (ln := ln) (fn := fn) (P := P) nd h8 hLp hGl ha (fun x1 g1 hg1 => ?_) a 0 _ _ (by omega) (stA_rn _ _ _)
  refine w_aload_n dX10_cycleOf_43 rfl ?_
  refine w_get (v := .ref (m + 15)) fX10_58 (hUs_at nd 0 rfl rfl) rfl dX10_cycleOf_44 ?_
  refine w_iconst (v := (nI 4)) dX10_cycleOf_47 (by decide) ?_
  refine w_iconst (v := 0) dX10_cycleOf_48 (by decide) ?_
  refine w_iastoreN (hUs_at nd 5 rfl rfl) (by omega) (by omega) dX10_cycleOf_49 ?_
  refine w_heq (hUs_set nd rfl 5 (cs' := [(oC 10 (mF m th tr wa tp sz sp fa fl tk ta sg nu wd lo wv rl rw ht sd (nI a) (nI c))), (aI 8 fs), (aI 24 ff), (aI 8 fb), (aZ 8 f3), (aI 11 (upd g1 4 0))]) rfl rfl) ?_
  refine w_iconst (v := 0) dX10_cycleOf_50 (by decide) ?_
  refine w_istore (ls2 := [some (.ref m), some (.int (nI j)), some (.int v), some (.int (nI 5)), some (.int x1), some (.int 0), none, none, none, none, none, none]) dX10_cycleOf_51 (by decide) rfl rfl ?_
  refine w_iconst (v := 0) dX10_cycleOf_53 (by decide) ?_
  refine w_istore (ls2 := [some (.ref m), some (.int (nI j)), some (.int v), some (.int (nI 5)), some (.int x1), some (.int 0), some (.int 0), none, none, none, none, none]) dX10_cycleOf_54 (by decide) rfl rfl ?_
  refine w_iconst (v := 0) dX10_cycleOf_56 (by decide) ?_
  refine w_istore (ls2 := [some (.ref m), some (.int (nI j)), some (.int v), some (.int (nI 5)), some (.int x1), some (.int 0), some (.int 0), some (.int 0), none, none, none, none]) dX10_cycleOf_57 (by decide) rfl rfl ?_
  refine w_iconst (v := 0) dX10_cycleOf_59 (by decide) ?_
  refine w_istore (ls2 := [some (.ref m), some (.int (nI j)), some (.int v), some (.int (nI 5)), some (.int x1), some (.int 0), some (.int 0), some (.int 0), some (.int 0), none, none, none]) dX10_cycleOf_60 (by decide) rfl rfl ?_
  refine w_iconst (v := 0) dX10_cycleOf_62 (by decide) ?_
  refine w_istore (ls2 := [some (.ref m), some (.int (nI j)), some (.int v), some (.int (nI 5)), some (.int x1), some (.int 0), some (.int 0), some (.int 0), some (.int 0), some (.int 0), none, none]) dX10_cycleOf_63 (by decide) rfl rfl ?_
  refine w_iconst (v := (nI 0)) dX10_cycleOf_65 (by decide) ?_
  refine w_istore (ls2 := [some (.ref m), some (.int (nI j)), some (.int v), some (.int (nI 5)), some (.int x1), some (.int 0), some (.int 0), some (.int 0), some (.int 0), some (.int 0), some (.int (nI 0)), none]) dX10_cycleOf_66 (by decide) rfl rfl ?_
  have hg2 : mRn (upd g1 4 0) (nI j) 0 (nI (a + 0)) (qS (lPo (P.2.2.1 j)) v (a + 0), sd, kC (lPo (P.2.2.1 j)) v a 0) := ⟨hg1.1, hg1.2.1, hg1.2.2.1, hg1.2.2.2.1, rfl, hg1.2.2.2.2.2⟩
  refine l_cof2 (ln := ln) (fn := fn) (P := P) nd h8 hLp hGl hc ha (fun x2 p1 p2 p3 p4 p5 g2 hg3 hy3 => ?_) c 0 _ _ _ _ _ _ _ (by omega) hg2 (yIv_0 _ _ _ _ _)
  refine w_iload dX10_cycleOf_171 rfl ?_
  refine w_iload dX10_cycleOf_173 rfl ?_
  refine w_iload dX10_cycleOf_175 rfl ?_
  refine w_icmp_ne (tgt := 184) dX10_cycleOf_177 rfl (fun b177 => ?_) (fun b177 => ?_)
  · refine w_iconst (v := 1) dX10_cycleOf_184 (by decide) ?_
    refine w_iadd dX10_cycleOf_185 ?_
    refine w_istore (ls2 := [some (.ref m), some (.int (nI j)), some (.int v), some (.int (nI 5)), some (.int x2), some (.int p1), some (.int p2), some (.int (p3 + 1)), some (.int p4), some (.int p5), none, none]) dX10_cycleOf_186 (by decide) rfl rfl ?_
    refine w_iload_n dX10_cycleOf_188 rfl ?_
    refine w_tableOut (tgt := 229) dX10_cycleOf_189 (by decide) rfl ?_
    refine w_iload dX10_cycleOf_229 rfl ?_
    refine w_ireturn rfl dX10_cycleOf_231 (Nat.le_of_ble_eq_true rfl) (Nat.le_of_ble_eq_true rfl) ?_
    rw [show p3 + 1 = kH (lPo (P.2.2.1 j)) v a c from (by
      have z := kH_end hy3 hc1 hq9
      rw [← z]
      simp only [if_neg b177, Int32.add_zero])]
    exact k g2
  · refine w_iconst (v := 0) dX10_cycleOf_180 (by decide) ?_
    refine w_goto (tgt := 185) dX10_cycleOf_181 rfl ?_
    refine w_iadd dX10_cycleOf_185 ?_
    refine w_istore (ls2 := [some (.ref m), some (.int (nI j)), some (.int v), some (.int (nI 5)), some (.int x2), some (.int p1), some (.int p2), some (.int (p3 + 0)), some (.int p4), some (.int p5), none, none]) dX10_cycleOf_186 (by decide) rfl rfl ?_
    refine w_iload_n dX10_cycleOf_188 rfl ?_
    refine w_tableOut (tgt := 229) dX10_cycleOf_189 (by decide) rfl ?_
    refine w_iload dX10_cycleOf_229 rfl ?_
    refine w_ireturn rfl dX10_cycleOf_231 (Nat.le_of_ble_eq_true rfl) (Nat.le_of_ble_eq_true rfl) ?_
    rw [show p3 + 0 = kH (lPo (P.2.2.1 j)) v a c from (by
      have z := kH_end hy3 hc1 hq9
      rw [← z]
      simp only [if_pos b177, Int32.add_zero])]
    exact k g2
set_option maxRecDepth 100000 in
set_option maxHeartbeats 4000000 in
theorem q_cycle_s {G : wG} {d : Nat} {h : hH} {Q : Option Value → hH → Prop} {m : Nat} {ft : Nat → Int32} {tp : Nat} {P : pD} {ht : Int32} {R : Option rnD} {i0 i1 : imD} {sd fa pl tr : Int32} {th : Int32}  {j : Nat} {v y : Int32} (hI : mI h m ft tp P ht R i0 i1 sd fa pl tr th) (hj : j < P.1) (k : ∀ h2, mI h2 m ft tp P ht R i0 i1 sd fa (-1) (oCy P (nI j) v y).2 0 → mFr m h h2 → Q (some (.int (oCy P (nI j) v y).1)) h2) : Cl G yX10_cycle (d + 3) 0 0 [.ref m, .int (nI j), .int v, .int y] h Q := by
  refine mI_e hI ?_
  intro sz sp fl tk ta sg nu wd rl rw ah cl gt ln wn fs ff fb fn fp f3 fk fx fy fc fr f1 f2 fi fo fq fh fj fw fz hW hT hPm hG hRm hm0 hm1 hsd hht htp
  have hnL : P.1 ≤ 4096 := Nat.le_trans hG.2.2.1 (by decide)
  have hnW : P.2.1 ≤ 4096 := Nat.le_trans hG.2.2.2 (by decide)
  have hhL : (ht = 0 ∧ P.1 = 0) ∨ ht = 1 := hht.imp (fun z => ⟨z.1, z.2.1⟩) id
  have hhW : (ht = 0 ∧ P.2.1 = 0) ∨ ht = 1 := hht.imp (fun z => ⟨z.1, z.2.2⟩) id
  have hLp := hPm.1 j hj
  rw [Nat.zero_add] at hLp
  have hGl := hG.1 j hj
  have hj4 : j < 4 := Nat.lt_of_lt_of_le hj hG.2.2.1
  have hs1 := hGl.1
  have hs3 := hGl.2.1
  have hw : hHas h [m, m + 4, m + 5, m + 6, m + 9, m + 15, m + 16] [(oC 10 (mF m th tr pl (nI tp) sz sp fa fl tk ta sg nu wd (nI P.1) (nI P.2.1) rl rw ht sd ah cl)), (aI 8 fs), (aI 24 ff), (aI 8 fb), (aZ 8 f3), (aI 11 f1), (aI 11 f2)] := hHas_s hW [0, 4, 5, 6, 9, 15, 16] rfl rfl
  have nd : [m, m + 4, m + 5, m + 6, m + 9, m + 15, m + 16].Nodup := (nd_inc ⟨by omega, by omega, by omega, by omega, by omega, by omega, trivial⟩)
  refine Cl.of (ini := false) kX10_cycle (plainFor_of_name (by decide)) (by decide) (Nat.le_of_ble_eq_true rfl) rfl rfl (fun z => by cases z) ?_
  refine w_heq (hUs_id hw).symm ?_
  refine w_aload_n dX10_cycle_0 rfl ?_
  refine w_iconst (v := 0) dX10_cycle_1 (by decide) ?_
  refine w_put (fs' := (mF m 0 tr pl (nI tp) sz sp fa fl tk ta sg nu wd (nI P.1) (nI P.2.1) rl rw ht sd ah cl)) fX10_89 (hUs_at nd 0 rfl rfl) rfl rfl (Nat.le_of_ble_eq_true rfl) rfl dX10_cycle_2 ?_
  refine w_heq (hUs_set nd rfl 0 (cs' := [(oC 10 (mF m 0 tr pl (nI tp) sz sp fa fl tk ta sg nu wd (nI P.1) (nI P.2.1) rl rw ht sd ah cl)), (aI 8 fs), (aI 24 ff), (aI 8 fb), (aZ 8 f3), (aI 11 f1), (aI 11 f2)]) rfl rfl) ?_
  refine w_aload_n dX10_cycle_5 rfl ?_
  refine w_iload_n dX10_cycle_6 rfl ?_
  refine w_callV (ci := 10) (d' := d + 2) (mc' := 0) (ms' := 0) (As := [.int (nI j)]) (st := []) lX10_251 vX10_isLoop rfl (hUs_at nd 0 rfl rfl) rfl (Nat.le_of_ble_eq_true rfl) dX10_cycle_7 (Nat.le_of_ble_eq_true rfl) (Nat.le_of_ble_eq_true rfl) (Nat.le_refl _) (m_isLoop (hHas_sub nd (as' := [m]) (cs' := [(oC 10 (mF m 0 tr pl (nI tp) sz sp fa fl tk ta sg nu wd (nI P.1) (nI P.2.1) rl rw ht sd ah cl))]) [0] rfl rfl) hnL hhL ?_)
  refine w_if_eq_f (tgt := 22) dX10_cycle_10 rfl (by rw [ixB_s hj hnL]; decide) ?_
  refine w_iload_n dX10_cycle_13 rfl ?_
  refine w_iconst (v := 0) dX10_cycle_14 (by decide) ?_
  refine w_iconst (v := 5) dX10_cycle_15 (by decide) ?_
  refine w_callS (d' := d + 2) (mc' := 0) (ms' := 0) (As := [.int y, .int 0, .int 5]) (st := []) lX10_111 vX10_in rfl (Nat.le_of_ble_eq_true rfl) dX10_cycle_16 (Nat.le_of_ble_eq_true rfl) (Nat.le_of_ble_eq_true rfl) (Nat.le_refl _) (c_in ?_)
  refine w_if_ne (tgt := 28) dX10_cycle_19 rfl (fun b19 => ?_) (fun b19 => ?_)
  · refine w_iload_n dX10_cycle_28 rfl ?_
    refine w_sipush (v := (-1000)) dX10_cycle_29 (by decide) ?_
    refine w_sipush (v := 1000) dX10_cycle_32 (by decide) ?_
    refine w_callS (d' := d + 2) (mc' := 0) (ms' := 0) (As := [.int v, .int (-1000), .int 1000]) (st := []) lX10_111 vX10_in rfl (Nat.le_of_ble_eq_true rfl) dX10_cycle_35 (Nat.le_of_ble_eq_true rfl) (Nat.le_of_ble_eq_true rfl) (Nat.le_refl _) (c_in ?_)
    refine w_top (z := lvB v.toInt64) (lvB_in v) ?_
    refine w_if_ne (tgt := 47) dX10_cycle_38 rfl (fun b38 => ?_) (fun b38 => ?_)
    · have h8 : j < 8 := by omega
      refine w_aload_n dX10_cycle_47 rfl ?_
      refine w_iload_n dX10_cycle_48 rfl ?_
      refine w_iload_n dX10_cycle_49 rfl ?_
      refine w_callV (ci := 10) (d' := d + 2) (mc' := 0) (ms' := 0) (As := [.int (nI j), .int v]) (st := []) lX10_328 vX10_cycles rfl (hUs_at nd 0 rfl rfl) rfl (Nat.le_of_ble_eq_true rfl) dX10_cycle_50 (Nat.le_of_ble_eq_true rfl) (Nat.le_of_ble_eq_true rfl) (Nat.le_refl _) (m_cycles (ln := ln) (fn := fn) (P := P) (hHas_sub nd (as' := [m, m + 4, m + 5, m + 6, m + 9, m + 15, m + 16]) (cs' := [(oC 10 (mF m 0 tr pl (nI tp) sz sp fa fl tk ta sg nu wd (nI P.1) (nI P.2.1) rl rw ht sd ah cl)), (aI 8 fs), (aI 24 ff), (aI 8 fb), (aZ 8 f3), (aI 11 f1), (aI 11 f2)]) [0, 1, 2, 3, 4, 5, 6] rfl rfl) (nd_sub nd (as' := [m, m + 4, m + 5, m + 6, m + 9, m + 15, m + 16]) [0, 1, 2, 3, 4, 5, 6] rfl rfl) h8 hLp hGl (fun hn9 g1 g2 c9 => ?_) (fun hy9 g1 g2 c a hc1 hc2 hc3 ha1 ha2 ha3 => ?_))
      · refine w_heq (hUs_in nd rfl [0, 1, 2, 3, 4, 5, 6] (cs2 := [(oC 10 (mF m 0 tr pl (nI tp) sz sp fa fl tk ta sg nu wd (nI P.1) (nI P.2.1) rl rw ht sd ah c9)), (aI 8 fs), (aI 24 ff), (aI 8 fb), (aZ 8 f3), (aI 11 g1), (aI 11 g2)]) rfl rfl) ?_
        refine w_if_ne_f (tgt := 62) dX10_cycle_53 rfl (by decide) ?_
        refine w_aload_n dX10_cycle_56 rfl ?_
        refine w_iconst (v := 5) dX10_cycle_57 (by decide) ?_
        refine w_callV (ci := 10) (d' := d + 2) (mc' := 0) (ms' := 0) (As := [.int 5]) (st := []) lX10_266 vX10_lost rfl (hUs_at nd 0 rfl rfl) rfl (Nat.le_of_ble_eq_true rfl) dX10_cycle_58 (Nat.le_of_ble_eq_true rfl) (Nat.le_of_ble_eq_true rfl) (Nat.le_refl _) (m_lost (hHas_sub nd (as' := [m]) (cs' := [(oC 10 (mF m 0 tr pl (nI tp) sz sp fa fl tk ta sg nu wd (nI P.1) (nI P.2.1) rl rw ht sd ah c9))]) [0] rfl rfl) (nd_sub nd (as' := [m]) [0] rfl rfl)  ?_)
        refine w_heq (hUs_in nd rfl [0] (cs2 := [(oC 10 (mF m 0 5 (-1) (nI tp) sz sp fa fl tk ta sg nu wd (nI P.1) (nI P.2.1) rl rw ht sd ah c9)), (aI 8 fs), (aI 24 ff), (aI 8 fb), (aZ 8 f3), (aI 11 g1), (aI 11 g2)]) rfl rfl) ?_
        refine w_ireturn rfl dX10_cycle_61 (Nat.le_of_ble_eq_true rfl) (Nat.le_of_ble_eq_true rfl) ?_
        have e : oCy P (nI j) v y = ((-1000000000), 5) := by
          simp only [oCy, ixN_s hj hnL]
          rw [if_neg (fun z => z.elim (fun z => absurd (inB_1 b19).1 (Int32.not_le.mpr z)) (fun z => absurd (inB_1 b19).2 (Int32.not_le.mpr z))), if_neg b38, if_pos hn9]
        rw [e] at k
        exact k _ (mI_i (cI_put hW (mAs_nd m) rfl [0, 4, 5, 6, 9, 15, 16] (cs2 := [(oC 10 (mF m 0 5 (-1) (nI tp) sz sp fa fl tk ta sg nu wd (nI P.1) (nI P.2.1) rl rw ht sd ah c9)), (aI 600 gt), (aL 8 ln), (aL 8 wn), (aI 8 fs), (aI 24 ff), (aI 8 fb), (aI 8 fn), (aI 8 fp), (aZ 8 f3), (aI 64 fk), (aI 64 fx), (aI 64 fy), (aI 64 fc), (aI 11 fr), (aI 11 g1), (aI 11 g2), (aI 22 fi), (aB 4096 fo), (aB 8192 fq), (aZ 2 fh), (aI 2 fj), (aI 4096 fw), (aI 2100 fz)]) rfl rfl) hT hPm hG hRm hm0 hm1 hsd hht htp) (mFr_of (by intro a ha; simp only [List.mem_cons, List.not_mem_nil, or_false] at ha; omega))
      · refine w_heq (hUs_in nd rfl [0, 1, 2, 3, 4, 5, 6] (cs2 := [(oC 10 (mF m 0 tr pl (nI tp) sz sp fa fl tk ta sg nu wd (nI P.1) (nI P.2.1) rl rw ht sd (nI a) (nI c))), (aI 8 fs), (aI 24 ff), (aI 8 fb), (aZ 8 f3), (aI 11 g1), (aI 11 g2)]) rfl rfl) ?_
        refine w_if_ne_t (tgt := 62) dX10_cycle_53 rfl (by decide) ?_
        obtain ⟨w9, hw9, rfl⟩ := in2 (m := 5) (Int32.not_lt.mpr (inB_1 b19).1) (inB_1 b19).2 (by decide)
        rcases (show w9 = 0 ∨ w9 = 1 ∨ w9 = 2 ∨ w9 = 3 ∨ w9 = 4 ∨ w9 = 5 by omega) with rfl | rfl | rfl | rfl | rfl | rfl
        · refine w_aload_n dX10_cycle_62 rfl ?_
          refine w_iload_n dX10_cycle_63 rfl ?_
          refine w_if_ne_f (tgt := 74) dX10_cycle_64 rfl ((nI_eq (a := 0) (b := 0) (by omega) (by omega)).mpr (by omega)) ?_
          refine w_aload_n dX10_cycle_67 rfl ?_
          refine w_get (v := .int (nI a)) fX10_325 (hUs_at nd 0 rfl rfl) rfl dX10_cycle_68 ?_
          refine w_goto (tgt := 93) dX10_cycle_71 rfl ?_
          refine w_callV (ci := 10) (d' := d + 2) (mc' := 0) (ms' := 0) (As := [.int (nI a)]) (st := []) lX10_241 vX10_good rfl (hUs_at nd 0 rfl rfl) rfl (Nat.le_of_ble_eq_true rfl) dX10_cycle_93 (Nat.le_of_ble_eq_true rfl) (Nat.le_of_ble_eq_true rfl) (Nat.le_refl _) (m_good (hHas_sub nd (as' := [m]) (cs' := [(oC 10 (mF m 0 tr pl (nI tp) sz sp fa fl tk ta sg nu wd (nI P.1) (nI P.2.1) rl rw ht sd (nI a) (nI c)))]) [0] rfl rfl) (nd_sub nd (as' := [m]) [0] rfl rfl)  ?_)
          refine w_heq (hUs_in nd rfl [0] (cs2 := [(oC 10 (mF m 0 0 (-1) (nI tp) sz sp fa fl tk ta sg nu wd (nI P.1) (nI P.2.1) rl rw ht sd (nI a) (nI c))), (aI 8 fs), (aI 24 ff), (aI 8 fb), (aZ 8 f3), (aI 11 g1), (aI 11 g2)]) rfl rfl) ?_
          refine w_ireturn rfl dX10_cycle_96 (Nat.le_of_ble_eq_true rfl) (Nat.le_of_ble_eq_true rfl) ?_
          have e : oCy P (nI j) v (nI 0) = (nI a, 0) := by
            simp only [oCy, ixN_s hj hnL]
            rw [if_neg (by decide), if_neg b38, if_neg hy9, if_pos (show nI 0 = 0 from rfl), ha2]
          rw [e] at k
          exact k _ (mI_i (cI_put hW (mAs_nd m) rfl [0, 4, 5, 6, 9, 15, 16] (cs2 := [(oC 10 (mF m 0 0 (-1) (nI tp) sz sp fa fl tk ta sg nu wd (nI P.1) (nI P.2.1) rl rw ht sd (nI a) (nI c))), (aI 600 gt), (aL 8 ln), (aL 8 wn), (aI 8 fs), (aI 24 ff), (aI 8 fb), (aI 8 fn), (aI 8 fp), (aZ 8 f3), (aI 64 fk), (aI 64 fx), (aI 64 fy), (aI 64 fc), (aI 11 fr), (aI 11 g1), (aI 11 g2), (aI 22 fi), (aB 4096 fo), (aB 8192 fq), (aZ 2 fh), (aI 2 fj), (aI 4096 fw), (aI 2100 fz)]) rfl rfl) hT hPm hG hRm hm0 hm1 hsd hht htp) (mFr_of (by intro a ha; simp only [List.mem_cons, List.not_mem_nil, or_false] at ha; omega))
        · refine w_aload_n dX10_cycle_62 rfl ?_
          refine w_iload_n dX10_cycle_63 rfl ?_
          refine w_if_ne_t (tgt := 74) dX10_cycle_64 rfl (fun z => absurd ((nI_eq (a := 1) (b := 0) (by omega) (by omega)).mp z) (by omega)) ?_
          refine w_iload_n dX10_cycle_74 rfl ?_
          refine w_iconst (v := 1) dX10_cycle_75 (by decide) ?_
          refine w_icmp_ne_f (tgt := 86) dX10_cycle_76 rfl ((nI_eq (a := 1) (b := 1) (by omega) (by omega)).mpr (by omega)) ?_
          refine w_aload_n dX10_cycle_79 rfl ?_
          refine w_get (v := .int (nI c)) fX10_318 (hUs_at nd 0 rfl rfl) rfl dX10_cycle_80 ?_
          refine w_goto (tgt := 93) dX10_cycle_83 rfl ?_
          refine w_callV (ci := 10) (d' := d + 2) (mc' := 0) (ms' := 0) (As := [.int (nI c)]) (st := []) lX10_241 vX10_good rfl (hUs_at nd 0 rfl rfl) rfl (Nat.le_of_ble_eq_true rfl) dX10_cycle_93 (Nat.le_of_ble_eq_true rfl) (Nat.le_of_ble_eq_true rfl) (Nat.le_refl _) (m_good (hHas_sub nd (as' := [m]) (cs' := [(oC 10 (mF m 0 tr pl (nI tp) sz sp fa fl tk ta sg nu wd (nI P.1) (nI P.2.1) rl rw ht sd (nI a) (nI c)))]) [0] rfl rfl) (nd_sub nd (as' := [m]) [0] rfl rfl)  ?_)
          refine w_heq (hUs_in nd rfl [0] (cs2 := [(oC 10 (mF m 0 0 (-1) (nI tp) sz sp fa fl tk ta sg nu wd (nI P.1) (nI P.2.1) rl rw ht sd (nI a) (nI c))), (aI 8 fs), (aI 24 ff), (aI 8 fb), (aZ 8 f3), (aI 11 g1), (aI 11 g2)]) rfl rfl) ?_
          refine w_ireturn rfl dX10_cycle_96 (Nat.le_of_ble_eq_true rfl) (Nat.le_of_ble_eq_true rfl) ?_
          have e : oCy P (nI j) v (nI 1) = (nI c, 0) := by
            simp only [oCy, ixN_s hj hnL]
            rw [if_neg (by decide), if_neg b38, if_neg hy9, if_neg (by decide), show tN (nI 1) = 1 from nI_clamp (by omega)]
            show ((fnd0 (lPo (P.2.2.1 j)) v).2.2.2.1.1, (0 : Int32)) = _
            rw [hc3]
          rw [e] at k
          exact k _ (mI_i (cI_put hW (mAs_nd m) rfl [0, 4, 5, 6, 9, 15, 16] (cs2 := [(oC 10 (mF m 0 0 (-1) (nI tp) sz sp fa fl tk ta sg nu wd (nI P.1) (nI P.2.1) rl rw ht sd (nI a) (nI c))), (aI 600 gt), (aL 8 ln), (aL 8 wn), (aI 8 fs), (aI 24 ff), (aI 8 fb), (aI 8 fn), (aI 8 fp), (aZ 8 f3), (aI 64 fk), (aI 64 fx), (aI 64 fy), (aI 64 fc), (aI 11 fr), (aI 11 g1), (aI 11 g2), (aI 22 fi), (aB 4096 fo), (aB 8192 fq), (aZ 2 fh), (aI 2 fj), (aI 4096 fw), (aI 2100 fz)]) rfl rfl) hT hPm hG hRm hm0 hm1 hsd hht htp) (mFr_of (by intro a ha; simp only [List.mem_cons, List.not_mem_nil, or_false] at ha; omega))
        · refine w_aload_n dX10_cycle_62 rfl ?_
          refine w_iload_n dX10_cycle_63 rfl ?_
          refine w_if_ne_t (tgt := 74) dX10_cycle_64 rfl (fun z => absurd ((nI_eq (a := 2) (b := 0) (by omega) (by omega)).mp z) (by omega)) ?_
          refine w_iload_n dX10_cycle_74 rfl ?_
          refine w_iconst (v := 1) dX10_cycle_75 (by decide) ?_
          refine w_icmp_ne_t (tgt := 86) dX10_cycle_76 rfl (fun z => absurd ((nI_eq (a := 2) (b := 1) (by omega) (by omega)).mp z) (by omega)) ?_
          refine w_aload_n dX10_cycle_86 rfl ?_
          refine w_iload_n dX10_cycle_87 rfl ?_
          refine w_iload_n dX10_cycle_88 rfl ?_
          refine w_iload_n dX10_cycle_89 rfl ?_
          refine w_callV (ci := 10) (d' := d + 2) (mc' := 0) (ms' := 0) (As := [.int (nI j), .int v, .int (nI 2)]) (st := [.ref m]) lX10_331 vX10_cycleOf rfl (hUs_at nd 0 rfl rfl) rfl (Nat.le_of_ble_eq_true rfl) dX10_cycle_90 (Nat.le_of_ble_eq_true rfl) (Nat.le_of_ble_eq_true rfl) (Nat.le_refl _) (m_cycleOf2 (ln := ln) (fn := fn) (P := P) (hHas_sub nd (as' := [m, m + 4, m + 5, m + 6, m + 9, m + 15]) (cs' := [(oC 10 (mF m 0 tr pl (nI tp) sz sp fa fl tk ta sg nu wd (nI P.1) (nI P.2.1) rl rw ht sd (nI a) (nI c))), (aI 8 fs), (aI 24 ff), (aI 8 fb), (aZ 8 f3), (aI 11 g1)]) [0, 1, 2, 3, 4, 5] rfl rfl) (nd_sub nd (as' := [m, m + 4, m + 5, m + 6, m + 9, m + 15]) [0, 1, 2, 3, 4, 5] rfl rfl) h8 hLp hGl hc1 hc2 ha1 ha3 (fun fc9 => ?_))
          refine w_heq (hUs_in nd rfl [0, 1, 2, 3, 4, 5] (cs2 := [(oC 10 (mF m 0 tr pl (nI tp) sz sp fa fl tk ta sg nu wd (nI P.1) (nI P.2.1) rl rw ht sd (nI a) (nI c))), (aI 8 fs), (aI 24 ff), (aI 8 fb), (aZ 8 f3), (aI 11 fc9), (aI 11 g2)]) rfl rfl) ?_
          refine w_callV (ci := 10) (d' := d + 2) (mc' := 0) (ms' := 0) (As := [.int (kO (lPo (P.2.2.1 j)) v a c)]) (st := []) lX10_241 vX10_good rfl (hUs_at nd 0 rfl rfl) rfl (Nat.le_of_ble_eq_true rfl) dX10_cycle_93 (Nat.le_of_ble_eq_true rfl) (Nat.le_of_ble_eq_true rfl) (Nat.le_refl _) (m_good (hHas_sub nd (as' := [m]) (cs' := [(oC 10 (mF m 0 tr pl (nI tp) sz sp fa fl tk ta sg nu wd (nI P.1) (nI P.2.1) rl rw ht sd (nI a) (nI c)))]) [0] rfl rfl) (nd_sub nd (as' := [m]) [0] rfl rfl)  ?_)
          refine w_heq (hUs_in nd rfl [0] (cs2 := [(oC 10 (mF m 0 0 (-1) (nI tp) sz sp fa fl tk ta sg nu wd (nI P.1) (nI P.2.1) rl rw ht sd (nI a) (nI c))), (aI 8 fs), (aI 24 ff), (aI 8 fb), (aZ 8 f3), (aI 11 fc9), (aI 11 g2)]) rfl rfl) ?_
          refine w_ireturn rfl dX10_cycle_96 (Nat.le_of_ble_eq_true rfl) (Nat.le_of_ble_eq_true rfl) ?_
          have e : oCy P (nI j) v (nI 2) = (kO (lPo (P.2.2.1 j)) v a c, 0) := by
            simp only [oCy, ixN_s hj hnL]
            rw [if_neg (by decide), if_neg b38, if_neg hy9, if_neg (by decide), show tN (nI 2) = 2 from nI_clamp (by omega)]
            exact congrArg (fun z => (z, (0 : Int32))) (cyc_vals hGl.2.1 hy9 hc3 hc2 ha3).1
          rw [e] at k
          exact k _ (mI_i (cI_put hW (mAs_nd m) rfl [0, 4, 5, 6, 9, 15, 16] (cs2 := [(oC 10 (mF m 0 0 (-1) (nI tp) sz sp fa fl tk ta sg nu wd (nI P.1) (nI P.2.1) rl rw ht sd (nI a) (nI c))), (aI 600 gt), (aL 8 ln), (aL 8 wn), (aI 8 fs), (aI 24 ff), (aI 8 fb), (aI 8 fn), (aI 8 fp), (aZ 8 f3), (aI 64 fk), (aI 64 fx), (aI 64 fy), (aI 64 fc), (aI 11 fr), (aI 11 fc9), (aI 11 g2), (aI 22 fi), (aB 4096 fo), (aB 8192 fq), (aZ 2 fh), (aI 2 fj), (aI 4096 fw), (aI 2100 fz)]) rfl rfl) hT hPm hG hRm hm0 hm1 hsd hht htp) (mFr_of (by intro a ha; simp only [List.mem_cons, List.not_mem_nil, or_false] at ha; omega))
        · refine w_aload_n dX10_cycle_62 rfl ?_
          refine w_iload_n dX10_cycle_63 rfl ?_
          refine w_if_ne_t (tgt := 74) dX10_cycle_64 rfl (fun z => absurd ((nI_eq (a := 3) (b := 0) (by omega) (by omega)).mp z) (by omega)) ?_
          refine w_iload_n dX10_cycle_74 rfl ?_
          refine w_iconst (v := 1) dX10_cycle_75 (by decide) ?_
          refine w_icmp_ne_t (tgt := 86) dX10_cycle_76 rfl (fun z => absurd ((nI_eq (a := 3) (b := 1) (by omega) (by omega)).mp z) (by omega)) ?_
          refine w_aload_n dX10_cycle_86 rfl ?_
          refine w_iload_n dX10_cycle_87 rfl ?_
          refine w_iload_n dX10_cycle_88 rfl ?_
          refine w_iload_n dX10_cycle_89 rfl ?_
          refine w_callV (ci := 10) (d' := d + 2) (mc' := 0) (ms' := 0) (As := [.int (nI j), .int v, .int (nI 3)]) (st := [.ref m]) lX10_331 vX10_cycleOf rfl (hUs_at nd 0 rfl rfl) rfl (Nat.le_of_ble_eq_true rfl) dX10_cycle_90 (Nat.le_of_ble_eq_true rfl) (Nat.le_of_ble_eq_true rfl) (Nat.le_refl _) (m_cycleOf3 (ln := ln) (fn := fn) (P := P) (hHas_sub nd (as' := [m, m + 4, m + 5, m + 6, m + 9, m + 15]) (cs' := [(oC 10 (mF m 0 tr pl (nI tp) sz sp fa fl tk ta sg nu wd (nI P.1) (nI P.2.1) rl rw ht sd (nI a) (nI c))), (aI 8 fs), (aI 24 ff), (aI 8 fb), (aZ 8 f3), (aI 11 g1)]) [0, 1, 2, 3, 4, 5] rfl rfl) (nd_sub nd (as' := [m, m + 4, m + 5, m + 6, m + 9, m + 15]) [0, 1, 2, 3, 4, 5] rfl rfl) h8 hLp hGl hc1 hc2 ha1 ha3 (fun fc9 => ?_))
          refine w_heq (hUs_in nd rfl [0, 1, 2, 3, 4, 5] (cs2 := [(oC 10 (mF m 0 tr pl (nI tp) sz sp fa fl tk ta sg nu wd (nI P.1) (nI P.2.1) rl rw ht sd (nI a) (nI c))), (aI 8 fs), (aI 24 ff), (aI 8 fb), (aZ 8 f3), (aI 11 fc9), (aI 11 g2)]) rfl rfl) ?_
          refine w_callV (ci := 10) (d' := d + 2) (mc' := 0) (ms' := 0) (As := [.int (kC (lPo (P.2.2.1 j)) v a c)]) (st := []) lX10_241 vX10_good rfl (hUs_at nd 0 rfl rfl) rfl (Nat.le_of_ble_eq_true rfl) dX10_cycle_93 (Nat.le_of_ble_eq_true rfl) (Nat.le_of_ble_eq_true rfl) (Nat.le_refl _) (m_good (hHas_sub nd (as' := [m]) (cs' := [(oC 10 (mF m 0 tr pl (nI tp) sz sp fa fl tk ta sg nu wd (nI P.1) (nI P.2.1) rl rw ht sd (nI a) (nI c)))]) [0] rfl rfl) (nd_sub nd (as' := [m]) [0] rfl rfl)  ?_)
          refine w_heq (hUs_in nd rfl [0] (cs2 := [(oC 10 (mF m 0 0 (-1) (nI tp) sz sp fa fl tk ta sg nu wd (nI P.1) (nI P.2.1) rl rw ht sd (nI a) (nI c))), (aI 8 fs), (aI 24 ff), (aI 8 fb), (aZ 8 f3), (aI 11 fc9), (aI 11 g2)]) rfl rfl) ?_
          refine w_ireturn rfl dX10_cycle_96 (Nat.le_of_ble_eq_true rfl) (Nat.le_of_ble_eq_true rfl) ?_
          have e : oCy P (nI j) v (nI 3) = (kC (lPo (P.2.2.1 j)) v a c, 0) := by
            simp only [oCy, ixN_s hj hnL]
            rw [if_neg (by decide), if_neg b38, if_neg hy9, if_neg (by decide), show tN (nI 3) = 3 from nI_clamp (by omega)]
            exact congrArg (fun z => (z, (0 : Int32))) (cyc_vals hGl.2.1 hy9 hc3 hc2 ha3).2.1
          rw [e] at k
          exact k _ (mI_i (cI_put hW (mAs_nd m) rfl [0, 4, 5, 6, 9, 15, 16] (cs2 := [(oC 10 (mF m 0 0 (-1) (nI tp) sz sp fa fl tk ta sg nu wd (nI P.1) (nI P.2.1) rl rw ht sd (nI a) (nI c))), (aI 600 gt), (aL 8 ln), (aL 8 wn), (aI 8 fs), (aI 24 ff), (aI 8 fb), (aI 8 fn), (aI 8 fp), (aZ 8 f3), (aI 64 fk), (aI 64 fx), (aI 64 fy), (aI 64 fc), (aI 11 fr), (aI 11 fc9), (aI 11 g2), (aI 22 fi), (aB 4096 fo), (aB 8192 fq), (aZ 2 fh), (aI 2 fj), (aI 4096 fw), (aI 2100 fz)]) rfl rfl) hT hPm hG hRm hm0 hm1 hsd hht htp) (mFr_of (by intro a ha; simp only [List.mem_cons, List.not_mem_nil, or_false] at ha; omega))
        · refine w_aload_n dX10_cycle_62 rfl ?_
          refine w_iload_n dX10_cycle_63 rfl ?_
          refine w_if_ne_t (tgt := 74) dX10_cycle_64 rfl (fun z => absurd ((nI_eq (a := 4) (b := 0) (by omega) (by omega)).mp z) (by omega)) ?_
          refine w_iload_n dX10_cycle_74 rfl ?_
          refine w_iconst (v := 1) dX10_cycle_75 (by decide) ?_
          refine w_icmp_ne_t (tgt := 86) dX10_cycle_76 rfl (fun z => absurd ((nI_eq (a := 4) (b := 1) (by omega) (by omega)).mp z) (by omega)) ?_
          refine w_aload_n dX10_cycle_86 rfl ?_
          refine w_iload_n dX10_cycle_87 rfl ?_
          refine w_iload_n dX10_cycle_88 rfl ?_
          refine w_iload_n dX10_cycle_89 rfl ?_
          refine w_callV (ci := 10) (d' := d + 2) (mc' := 0) (ms' := 0) (As := [.int (nI j), .int v, .int (nI 4)]) (st := [.ref m]) lX10_331 vX10_cycleOf rfl (hUs_at nd 0 rfl rfl) rfl (Nat.le_of_ble_eq_true rfl) dX10_cycle_90 (Nat.le_of_ble_eq_true rfl) (Nat.le_of_ble_eq_true rfl) (Nat.le_refl _) (m_cycleOf4 (ln := ln) (fn := fn) (P := P) (hHas_sub nd (as' := [m, m + 4, m + 5, m + 6, m + 9, m + 15]) (cs' := [(oC 10 (mF m 0 tr pl (nI tp) sz sp fa fl tk ta sg nu wd (nI P.1) (nI P.2.1) rl rw ht sd (nI a) (nI c))), (aI 8 fs), (aI 24 ff), (aI 8 fb), (aZ 8 f3), (aI 11 g1)]) [0, 1, 2, 3, 4, 5] rfl rfl) (nd_sub nd (as' := [m, m + 4, m + 5, m + 6, m + 9, m + 15]) [0, 1, 2, 3, 4, 5] rfl rfl) h8 hLp hGl hc1 hc2 ha1 ha3 (fun fc9 => ?_))
          refine w_heq (hUs_in nd rfl [0, 1, 2, 3, 4, 5] (cs2 := [(oC 10 (mF m 0 tr pl (nI tp) sz sp fa fl tk ta sg nu wd (nI P.1) (nI P.2.1) rl rw ht sd (nI a) (nI c))), (aI 8 fs), (aI 24 ff), (aI 8 fb), (aZ 8 f3), (aI 11 fc9), (aI 11 g2)]) rfl rfl) ?_
          refine w_callV (ci := 10) (d' := d + 2) (mc' := 0) (ms' := 0) (As := [.int (kG (lPo (P.2.2.1 j)) v a c)]) (st := []) lX10_241 vX10_good rfl (hUs_at nd 0 rfl rfl) rfl (Nat.le_of_ble_eq_true rfl) dX10_cycle_93 (Nat.le_of_ble_eq_true rfl) (Nat.le_of_ble_eq_true rfl) (Nat.le_refl _) (m_good (hHas_sub nd (as' := [m]) (cs' := [(oC 10 (mF m 0 tr pl (nI tp) sz sp fa fl tk ta sg nu wd (nI P.1) (nI P.2.1) rl rw ht sd (nI a) (nI c)))]) [0] rfl rfl) (nd_sub nd (as' := [m]) [0] rfl rfl)  ?_)
          refine w_heq (hUs_in nd rfl [0] (cs2 := [(oC 10 (mF m 0 0 (-1) (nI tp) sz sp fa fl tk ta sg nu wd (nI P.1) (nI P.2.1) rl rw ht sd (nI a) (nI c))), (aI 8 fs), (aI 24 ff), (aI 8 fb), (aZ 8 f3), (aI 11 fc9), (aI 11 g2)]) rfl rfl) ?_
          refine w_ireturn rfl dX10_cycle_96 (Nat.le_of_ble_eq_true rfl) (Nat.le_of_ble_eq_true rfl) ?_
          have e : oCy P (nI j) v (nI 4) = (kG (lPo (P.2.2.1 j)) v a c, 0) := by
            simp only [oCy, ixN_s hj hnL]
            rw [if_neg (by decide), if_neg b38, if_neg hy9, if_neg (by decide), show tN (nI 4) = 4 from nI_clamp (by omega)]
            exact congrArg (fun z => (z, (0 : Int32))) (cyc_vals hGl.2.1 hy9 hc3 hc2 ha3).2.2.1
          rw [e] at k
          exact k _ (mI_i (cI_put hW (mAs_nd m) rfl [0, 4, 5, 6, 9, 15, 16] (cs2 := [(oC 10 (mF m 0 0 (-1) (nI tp) sz sp fa fl tk ta sg nu wd (nI P.1) (nI P.2.1) rl rw ht sd (nI a) (nI c))), (aI 600 gt), (aL 8 ln), (aL 8 wn), (aI 8 fs), (aI 24 ff), (aI 8 fb), (aI 8 fn), (aI 8 fp), (aZ 8 f3), (aI 64 fk), (aI 64 fx), (aI 64 fy), (aI 64 fc), (aI 11 fr), (aI 11 fc9), (aI 11 g2), (aI 22 fi), (aB 4096 fo), (aB 8192 fq), (aZ 2 fh), (aI 2 fj), (aI 4096 fw), (aI 2100 fz)]) rfl rfl) hT hPm hG hRm hm0 hm1 hsd hht htp) (mFr_of (by intro a ha; simp only [List.mem_cons, List.not_mem_nil, or_false] at ha; omega))
        · refine w_aload_n dX10_cycle_62 rfl ?_
          refine w_iload_n dX10_cycle_63 rfl ?_
          refine w_if_ne_t (tgt := 74) dX10_cycle_64 rfl (fun z => absurd ((nI_eq (a := 5) (b := 0) (by omega) (by omega)).mp z) (by omega)) ?_
          refine w_iload_n dX10_cycle_74 rfl ?_
          refine w_iconst (v := 1) dX10_cycle_75 (by decide) ?_
          refine w_icmp_ne_t (tgt := 86) dX10_cycle_76 rfl (fun z => absurd ((nI_eq (a := 5) (b := 1) (by omega) (by omega)).mp z) (by omega)) ?_
          refine w_aload_n dX10_cycle_86 rfl ?_
          refine w_iload_n dX10_cycle_87 rfl ?_
          refine w_iload_n dX10_cycle_88 rfl ?_
          refine w_iload_n dX10_cycle_89 rfl ?_
          refine w_callV (ci := 10) (d' := d + 2) (mc' := 0) (ms' := 0) (As := [.int (nI j), .int v, .int (nI 5)]) (st := [.ref m]) lX10_331 vX10_cycleOf rfl (hUs_at nd 0 rfl rfl) rfl (Nat.le_of_ble_eq_true rfl) dX10_cycle_90 (Nat.le_of_ble_eq_true rfl) (Nat.le_of_ble_eq_true rfl) (Nat.le_refl _) (m_cycleOf5 (ln := ln) (fn := fn) (P := P) (hHas_sub nd (as' := [m, m + 4, m + 5, m + 6, m + 9, m + 15]) (cs' := [(oC 10 (mF m 0 tr pl (nI tp) sz sp fa fl tk ta sg nu wd (nI P.1) (nI P.2.1) rl rw ht sd (nI a) (nI c))), (aI 8 fs), (aI 24 ff), (aI 8 fb), (aZ 8 f3), (aI 11 g1)]) [0, 1, 2, 3, 4, 5] rfl rfl) (nd_sub nd (as' := [m, m + 4, m + 5, m + 6, m + 9, m + 15]) [0, 1, 2, 3, 4, 5] rfl rfl) h8 hLp hGl hc1 hc2 ha1 ha3 (fun fc9 => ?_))
          refine w_heq (hUs_in nd rfl [0, 1, 2, 3, 4, 5] (cs2 := [(oC 10 (mF m 0 tr pl (nI tp) sz sp fa fl tk ta sg nu wd (nI P.1) (nI P.2.1) rl rw ht sd (nI a) (nI c))), (aI 8 fs), (aI 24 ff), (aI 8 fb), (aZ 8 f3), (aI 11 fc9), (aI 11 g2)]) rfl rfl) ?_
          refine w_callV (ci := 10) (d' := d + 2) (mc' := 0) (ms' := 0) (As := [.int (kH (lPo (P.2.2.1 j)) v a c)]) (st := []) lX10_241 vX10_good rfl (hUs_at nd 0 rfl rfl) rfl (Nat.le_of_ble_eq_true rfl) dX10_cycle_93 (Nat.le_of_ble_eq_true rfl) (Nat.le_of_ble_eq_true rfl) (Nat.le_refl _) (m_good (hHas_sub nd (as' := [m]) (cs' := [(oC 10 (mF m 0 tr pl (nI tp) sz sp fa fl tk ta sg nu wd (nI P.1) (nI P.2.1) rl rw ht sd (nI a) (nI c)))]) [0] rfl rfl) (nd_sub nd (as' := [m]) [0] rfl rfl)  ?_)
          refine w_heq (hUs_in nd rfl [0] (cs2 := [(oC 10 (mF m 0 0 (-1) (nI tp) sz sp fa fl tk ta sg nu wd (nI P.1) (nI P.2.1) rl rw ht sd (nI a) (nI c))), (aI 8 fs), (aI 24 ff), (aI 8 fb), (aZ 8 f3), (aI 11 fc9), (aI 11 g2)]) rfl rfl) ?_
          refine w_ireturn rfl dX10_cycle_96 (Nat.le_of_ble_eq_true rfl) (Nat.le_of_ble_eq_true rfl) ?_
          have e : oCy P (nI j) v (nI 5) = (kH (lPo (P.2.2.1 j)) v a c, 0) := by
            simp only [oCy, ixN_s hj hnL]
            rw [if_neg (by decide), if_neg b38, if_neg hy9, if_neg (by decide), show tN (nI 5) = 5 from nI_clamp (by omega)]
            exact congrArg (fun z => (z, (0 : Int32))) (cyc_vals hGl.2.1 hy9 hc3 hc2 ha3).2.2.2
          rw [e] at k
          exact k _ (mI_i (cI_put hW (mAs_nd m) rfl [0, 4, 5, 6, 9, 15, 16] (cs2 := [(oC 10 (mF m 0 0 (-1) (nI tp) sz sp fa fl tk ta sg nu wd (nI P.1) (nI P.2.1) rl rw ht sd (nI a) (nI c))), (aI 600 gt), (aL 8 ln), (aL 8 wn), (aI 8 fs), (aI 24 ff), (aI 8 fb), (aI 8 fn), (aI 8 fp), (aZ 8 f3), (aI 64 fk), (aI 64 fx), (aI 64 fy), (aI 64 fc), (aI 11 fr), (aI 11 fc9), (aI 11 g2), (aI 22 fi), (aB 4096 fo), (aB 8192 fq), (aZ 2 fh), (aI 2 fj), (aI 4096 fw), (aI 2100 fz)]) rfl rfl) hT hPm hG hRm hm0 hm1 hsd hht htp) (mFr_of (by intro a ha; simp only [List.mem_cons, List.not_mem_nil, or_false] at ha; omega))
    · refine w_aload_n dX10_cycle_41 rfl ?_
      refine w_iconst (v := 2) dX10_cycle_42 (by decide) ?_
      refine w_callV (ci := 10) (d' := d + 2) (mc' := 0) (ms' := 0) (As := [.int 2]) (st := []) lX10_266 vX10_lost rfl (hUs_at nd 0 rfl rfl) rfl (Nat.le_of_ble_eq_true rfl) dX10_cycle_43 (Nat.le_of_ble_eq_true rfl) (Nat.le_of_ble_eq_true rfl) (Nat.le_refl _) (m_lost (hHas_sub nd (as' := [m]) (cs' := [(oC 10 (mF m 0 tr pl (nI tp) sz sp fa fl tk ta sg nu wd (nI P.1) (nI P.2.1) rl rw ht sd ah cl))]) [0] rfl rfl) (nd_sub nd (as' := [m]) [0] rfl rfl)  ?_)
      refine w_heq (hUs_in nd rfl [0] (cs2 := [(oC 10 (mF m 0 2 (-1) (nI tp) sz sp fa fl tk ta sg nu wd (nI P.1) (nI P.2.1) rl rw ht sd ah cl)), (aI 8 fs), (aI 24 ff), (aI 8 fb), (aZ 8 f3), (aI 11 f1), (aI 11 f2)]) rfl rfl) ?_
      refine w_ireturn rfl dX10_cycle_46 (Nat.le_of_ble_eq_true rfl) (Nat.le_of_ble_eq_true rfl) ?_
      have e : oCy P (nI j) v y = ((-1000000000), 2) := by
        simp only [oCy, ixN_s hj hnL]
        rw [if_neg (fun z => z.elim (fun z => absurd (inB_1 b19).1 (Int32.not_le.mpr z)) (fun z => absurd (inB_1 b19).2 (Int32.not_le.mpr z))), if_pos b38]
      rw [e] at k
      exact k _ (mI_i (cI_put hW (mAs_nd m) rfl [0, 4, 5, 6, 9, 15, 16] (cs2 := [(oC 10 (mF m 0 2 (-1) (nI tp) sz sp fa fl tk ta sg nu wd (nI P.1) (nI P.2.1) rl rw ht sd ah cl)), (aI 600 gt), (aL 8 ln), (aL 8 wn), (aI 8 fs), (aI 24 ff), (aI 8 fb), (aI 8 fn), (aI 8 fp), (aZ 8 f3), (aI 64 fk), (aI 64 fx), (aI 64 fy), (aI 64 fc), (aI 11 fr), (aI 11 f1), (aI 11 f2), (aI 22 fi), (aB 4096 fo), (aB 8192 fq), (aZ 2 fh), (aI 2 fj), (aI 4096 fw), (aI 2100 fz)]) rfl rfl) hT hPm hG hRm hm0 hm1 hsd hht htp) (mFr_of (by intro a ha; simp only [List.mem_cons, List.not_mem_nil, or_false] at ha; omega))
  · refine w_aload_n dX10_cycle_22 rfl ?_
    refine w_iconst (v := 1) dX10_cycle_23 (by decide) ?_
    refine w_callV (ci := 10) (d' := d + 2) (mc' := 0) (ms' := 0) (As := [.int 1]) (st := []) lX10_266 vX10_lost rfl (hUs_at nd 0 rfl rfl) rfl (Nat.le_of_ble_eq_true rfl) dX10_cycle_24 (Nat.le_of_ble_eq_true rfl) (Nat.le_of_ble_eq_true rfl) (Nat.le_refl _) (m_lost (hHas_sub nd (as' := [m]) (cs' := [(oC 10 (mF m 0 tr pl (nI tp) sz sp fa fl tk ta sg nu wd (nI P.1) (nI P.2.1) rl rw ht sd ah cl))]) [0] rfl rfl) (nd_sub nd (as' := [m]) [0] rfl rfl)  ?_)
    refine w_heq (hUs_in nd rfl [0] (cs2 := [(oC 10 (mF m 0 1 (-1) (nI tp) sz sp fa fl tk ta sg nu wd (nI P.1) (nI P.2.1) rl rw ht sd ah cl)), (aI 8 fs), (aI 24 ff), (aI 8 fb), (aZ 8 f3), (aI 11 f1), (aI 11 f2)]) rfl rfl) ?_
    refine w_ireturn rfl dX10_cycle_27 (Nat.le_of_ble_eq_true rfl) (Nat.le_of_ble_eq_true rfl) ?_
    have e : oCy P (nI j) v y = ((-1000000000), 1) := by
      simp only [oCy, ixN_s hj hnL]
      exact if_pos (inB_0 b19)
    rw [e] at k
    exact k _ (mI_i (cI_put hW (mAs_nd m) rfl [0, 4, 5, 6, 9, 15, 16] (cs2 := [(oC 10 (mF m 0 1 (-1) (nI tp) sz sp fa fl tk ta sg nu wd (nI P.1) (nI P.2.1) rl rw ht sd ah cl)), (aI 600 gt), (aL 8 ln), (aL 8 wn), (aI 8 fs), (aI 24 ff), (aI 8 fb), (aI 8 fn), (aI 8 fp), (aZ 8 f3), (aI 64 fk), (aI 64 fx), (aI 64 fy), (aI 64 fc), (aI 11 fr), (aI 11 f1), (aI 11 f2), (aI 22 fi), (aB 4096 fo), (aB 8192 fq), (aZ 2 fh), (aI 2 fj), (aI 4096 fw), (aI 2100 fz)]) rfl rfl) hT hPm hG hRm hm0 hm1 hsd hht htp) (mFr_of (by intro a ha; simp only [List.mem_cons, List.not_mem_nil, or_false] at ha; omega))
set_option maxRecDepth 100000 in
set_option maxHeartbeats 4000000 in
theorem q_cycle_n {G : wG} {d : Nat} {h : hH} {Q : Option Value → hH → Prop} {m : Nat} {ft : Nat → Int32} {tp : Nat} {P : pD} {ht : Int32} {R : Option rnD} {i0 i1 : imD} {sd fa pl tr : Int32} {th : Int32}  {l v y : Int32} (hI : mI h m ft tp P ht R i0 i1 sd fa pl tr th) (hl : ¬ ∃ j, j < P.1 ∧ l = nI j) (k : ∀ h2, mI h2 m ft tp P ht R i0 i1 sd fa (-1) (oCy P l v y).2 0 → mFr m h h2 → Q (some (.int (oCy P l v y).1)) h2) : Cl G yX10_cycle (d + 3) 0 0 [.ref m, .int l, .int v, .int y] h Q := by
  refine mI_e hI ?_
  intro sz sp fl tk ta sg nu wd rl rw ah cl gt ln wn fs ff fb fn fp f3 fk fx fy fc fr f1 f2 fi fo fq fh fj fw fz hW hT hPm hG hRm hm0 hm1 hsd hht htp
  have hnL : P.1 ≤ 4096 := Nat.le_trans hG.2.2.1 (by decide)
  have hnW : P.2.1 ≤ 4096 := Nat.le_trans hG.2.2.2 (by decide)
  have hhL : (ht = 0 ∧ P.1 = 0) ∨ ht = 1 := hht.imp (fun z => ⟨z.1, z.2.1⟩) id
  have hhW : (ht = 0 ∧ P.2.1 = 0) ∨ ht = 1 := hht.imp (fun z => ⟨z.1, z.2.2⟩) id
  have hw : hHas h [m] [(oC 10 (mF m th tr pl (nI tp) sz sp fa fl tk ta sg nu wd (nI P.1) (nI P.2.1) rl rw ht sd ah cl))] := hHas_s hW [0] rfl rfl
  have nd : [m].Nodup := (nd_inc trivial)
  refine Cl.of (ini := false) kX10_cycle (plainFor_of_name (by decide)) (by decide) (Nat.le_of_ble_eq_true rfl) rfl rfl (fun z => by cases z) ?_
  refine w_heq (hUs_id hw).symm ?_
  refine w_aload_n dX10_cycle_0 rfl ?_
  refine w_iconst (v := 0) dX10_cycle_1 (by decide) ?_
  refine w_put (fs' := (mF m 0 tr pl (nI tp) sz sp fa fl tk ta sg nu wd (nI P.1) (nI P.2.1) rl rw ht sd ah cl)) fX10_89 (hUs_at nd 0 rfl rfl) rfl rfl (Nat.le_of_ble_eq_true rfl) rfl dX10_cycle_2 ?_
  refine w_heq (hUs_set nd rfl 0 (cs' := [(oC 10 (mF m 0 tr pl (nI tp) sz sp fa fl tk ta sg nu wd (nI P.1) (nI P.2.1) rl rw ht sd ah cl))]) rfl rfl) ?_
  refine w_aload_n dX10_cycle_5 rfl ?_
  refine w_iload_n dX10_cycle_6 rfl ?_
  refine w_callV (ci := 10) (d' := d + 2) (mc' := 0) (ms' := 0) (As := [.int l]) (st := []) lX10_251 vX10_isLoop rfl (hUs_at nd 0 rfl rfl) rfl (Nat.le_of_ble_eq_true rfl) dX10_cycle_7 (Nat.le_of_ble_eq_true rfl) (Nat.le_of_ble_eq_true rfl) (Nat.le_refl _) (m_isLoop (hHas_sub nd (as' := [m]) (cs' := [(oC 10 (mF m 0 tr pl (nI tp) sz sp fa fl tk ta sg nu wd (nI P.1) (nI P.2.1) rl rw ht sd ah cl))]) [0] rfl rfl) hnL hhL ?_)
  refine w_if_eq_t (tgt := 22) dX10_cycle_10 rfl (ixB_n hl hnL) ?_
  refine w_aload_n dX10_cycle_22 rfl ?_
  refine w_iconst (v := 1) dX10_cycle_23 (by decide) ?_
  refine w_callV (ci := 10) (d' := d + 2) (mc' := 0) (ms' := 0) (As := [.int 1]) (st := []) lX10_266 vX10_lost rfl (hUs_at nd 0 rfl rfl) rfl (Nat.le_of_ble_eq_true rfl) dX10_cycle_24 (Nat.le_of_ble_eq_true rfl) (Nat.le_of_ble_eq_true rfl) (Nat.le_refl _) (m_lost (hHas_sub nd (as' := [m]) (cs' := [(oC 10 (mF m 0 tr pl (nI tp) sz sp fa fl tk ta sg nu wd (nI P.1) (nI P.2.1) rl rw ht sd ah cl))]) [0] rfl rfl) (nd_sub nd (as' := [m]) [0] rfl rfl)  ?_)
  refine w_heq (hUs_in nd rfl [0] (cs2 := [(oC 10 (mF m 0 1 (-1) (nI tp) sz sp fa fl tk ta sg nu wd (nI P.1) (nI P.2.1) rl rw ht sd ah cl))]) rfl rfl) ?_
  refine w_ireturn rfl dX10_cycle_27 (Nat.le_of_ble_eq_true rfl) (Nat.le_of_ble_eq_true rfl) ?_
  have e : oCy P l v y = ((-1000000000), 1) := by
    simp [oCy, ixN_n hl hnL]
  rw [e] at k
  exact k _ (mI_i (cI_put hW (mAs_nd m) rfl [0] (cs2 := [(oC 10 (mF m 0 1 (-1) (nI tp) sz sp fa fl tk ta sg nu wd (nI P.1) (nI P.2.1) rl rw ht sd ah cl)), (aI 600 gt), (aL 8 ln), (aL 8 wn), (aI 8 fs), (aI 24 ff), (aI 8 fb), (aI 8 fn), (aI 8 fp), (aZ 8 f3), (aI 64 fk), (aI 64 fx), (aI 64 fy), (aI 64 fc), (aI 11 fr), (aI 11 f1), (aI 11 f2), (aI 22 fi), (aB 4096 fo), (aB 8192 fq), (aZ 2 fh), (aI 2 fj), (aI 4096 fw), (aI 2100 fz)]) rfl rfl) hT hPm hG hRm hm0 hm1 hsd hht htp) (mFr_of (by intro a ha; simp only [List.mem_cons, List.not_mem_nil, or_false] at ha; omega))
theorem q_cycle {G : wG} {d : Nat} {h : hH} {Q : Option Value → hH → Prop} {m : Nat} {ft : Nat → Int32} {tp : Nat} {P : pD} {ht : Int32} {R : Option rnD} {i0 i1 : imD} {sd fa pl tr : Int32} {th : Int32} {l v y : Int32} (hI : mI h m ft tp P ht R i0 i1 sd fa pl tr th) (k : ∀ h2, mI h2 m ft tp P ht R i0 i1 sd fa (-1) (oCy P l v y).2 0 → mFr m h h2 → Q (some (.int (oCy P l v y).1)) h2) : Cl G yX10_cycle (d + 3) 0 0 [.ref m, .int l, .int v, .int y] h Q := by
  by_cases hl : ∃ j, j < P.1 ∧ l = nI j
  · obtain ⟨j, hj, rfl⟩ := hl
    exact q_cycle_s hI hj k
  · exact q_cycle_n hI hl k
