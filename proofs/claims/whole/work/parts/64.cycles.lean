set_option maxRecDepth 100000 in
set_option maxHeartbeats 4000000 in
theorem m_areLike {G : wG} {d : Nat} {h : hH} {Q : Option Value → hH → Prop} {m qa qb : Nat} {fa fb : Nat → Int32} {l1 w1 c1 l2 w2 c2 : Int32} {sa sb : cS} (hw : hHas h [qa, qb] [(aI 11 fa), (aI 11 fb)]) (ha : mRn fa l1 w1 c1 sa) (hb : mRn fb l2 w2 c2 sb) (k : Q (some (.int (eqS sa.1 sb.1))) h) : Cl G yX10_areLike d 0 0 [.ref m, .ref qa, .ref qb] h Q := by
  refine Cl.of (ini := false) kX10_areLike (plainFor_of_name (by decide)) (by decide) (Nat.le_of_ble_eq_true rfl) rfl rfl (fun z => by cases z) ?_
  refine w_aload_n dX10_areLike_0 rfl ?_
  refine w_iconst (v := (nI 5)) dX10_areLike_1 (by decide) ?_
  refine w_ialoadN (hw 0 _ _ rfl rfl) (by omega) (by omega) dX10_areLike_2 ?_
  refine w_top (z := sa.1 0) ha.2.2.2.2.2.1 ?_
  refine w_aload_n dX10_areLike_3 rfl ?_
  refine w_iconst (v := (nI 5)) dX10_areLike_4 (by decide) ?_
  refine w_ialoadN (hw 1 _ _ rfl rfl) (by omega) (by omega) dX10_areLike_5 ?_
  refine w_top (z := sb.1 0) hb.2.2.2.2.2.1 ?_
  refine w_icmp_ne (tgt := 35) dX10_areLike_6 rfl (fun b6 => ?_) (fun b6 => ?_)
  · refine w_iconst (v := 0) dX10_areLike_35 (by decide) ?_
    refine w_zreturn rfl dX10_areLike_36 rfl (Nat.le_of_ble_eq_true rfl) (Nat.le_of_ble_eq_true rfl) ?_
    have e : eqS sa.1 sb.1 = 0 := if_neg (fun z => b6 z.1)
    rw [e] at k
    exact k
  · refine w_aload_n dX10_areLike_9 rfl ?_
    refine w_bipush (v := (nI 6)) dX10_areLike_10 (by decide) ?_
    refine w_ialoadN (hw 0 _ _ rfl rfl) (by omega) (by omega) dX10_areLike_12 ?_
    refine w_top (z := sa.1 1) ha.2.2.2.2.2.2.1 ?_
    refine w_aload_n dX10_areLike_13 rfl ?_
    refine w_bipush (v := (nI 6)) dX10_areLike_14 (by decide) ?_
    refine w_ialoadN (hw 1 _ _ rfl rfl) (by omega) (by omega) dX10_areLike_16 ?_
    refine w_top (z := sb.1 1) hb.2.2.2.2.2.2.1 ?_
    refine w_icmp_ne (tgt := 35) dX10_areLike_17 rfl (fun b17 => ?_) (fun b17 => ?_)
    · refine w_iconst (v := 0) dX10_areLike_35 (by decide) ?_
      refine w_zreturn rfl dX10_areLike_36 rfl (Nat.le_of_ble_eq_true rfl) (Nat.le_of_ble_eq_true rfl) ?_
      have e : eqS sa.1 sb.1 = 0 := if_neg (fun z => b17 z.2.1)
      rw [e] at k
      exact k
    · refine w_aload_n dX10_areLike_20 rfl ?_
      refine w_bipush (v := (nI 7)) dX10_areLike_21 (by decide) ?_
      refine w_ialoadN (hw 0 _ _ rfl rfl) (by omega) (by omega) dX10_areLike_23 ?_
      refine w_top (z := sa.1 2) ha.2.2.2.2.2.2.2 ?_
      refine w_aload_n dX10_areLike_24 rfl ?_
      refine w_bipush (v := (nI 7)) dX10_areLike_25 (by decide) ?_
      refine w_ialoadN (hw 1 _ _ rfl rfl) (by omega) (by omega) dX10_areLike_27 ?_
      refine w_top (z := sb.1 2) hb.2.2.2.2.2.2.2 ?_
      refine w_icmp_ne (tgt := 35) dX10_areLike_28 rfl (fun b28 => ?_) (fun b28 => ?_)
      · refine w_iconst (v := 0) dX10_areLike_35 (by decide) ?_
        refine w_zreturn rfl dX10_areLike_36 rfl (Nat.le_of_ble_eq_true rfl) (Nat.le_of_ble_eq_true rfl) ?_
        have e : eqS sa.1 sb.1 = 0 := if_neg (fun z => b28 z.2.2)
        rw [e] at k
        exact k
      · refine w_iconst (v := 1) dX10_areLike_31 (by decide) ?_
        refine w_goto (tgt := 36) dX10_areLike_32 rfl ?_
        refine w_zreturn rfl dX10_areLike_36 rfl (Nat.le_of_ble_eq_true rfl) (Nat.le_of_ble_eq_true rfl) ?_
        have e : eqS sa.1 sb.1 = 1 := if_pos ⟨b6, b17, b28⟩
        rw [e] at k
        exact k
set_option maxRecDepth 100000 in
set_option maxHeartbeats 4000000 in
theorem l_cyc1 {G : wG} {d : Nat} {h : hH} {Q : Option Value → hH → Prop} {m : Nat} {th tr wa tp sz sp fa fl tk ta sg nu : Int32} {wd : Int64} {lo wv rl rw ht sd ah cl : Int32} {ln : Nat → Int64} {fn : Nat → Int32} {fs : Nat → Int32} {ff : Nat → Int32} {fb : Nat → Int32} {f3 : Nat → Int32} {P : pD} {j : Nat} {v : Int32} {f2 : Nat → Int32} (nd : [m, m + 4, m + 5, m + 6, m + 9, m + 15, m + 16].Nodup) (h8 : j < 8) (hLp : mLp (P.2.2.1 j) j ln fs ff fb fn f3) (hGl : lGd (P.2.2.1 j)) (k : ∀ (x : Int32) (f1 : Nat → Int32), mRn f1 (nI j) 0 (nI 3000) (qS (lPo (P.2.2.1 j)) v 3000, sd, qC (lPo (P.2.2.1 j)) v 3000) → WP G RX10 cX10_cycles 6 (some .boolean) false (d + 2) 0 0 0 0 Q 42 [some (.ref m), some (.int (nI j)), some (.int v), some (.int x), none, none] [] (hUs h [m, m + 4, m + 5, m + 6, m + 9, m + 15, m + 16] [(oC 10 (mF m th tr wa tp sz sp fa fl tk ta sg nu wd lo wv rl rw ht sd ah cl)), (aI 8 fs), (aI 24 ff), (aI 8 fb), (aZ 8 f3), (aI 11 f1), (aI 11 f2)])) : ∀ (n : Nat) (t : Nat) (x : Int32) (f : Nat → Int32), t + n = 3000 → mRn f (nI j) 0 (nI t) (qS (lPo (P.2.2.1 j)) v t, sd, qC (lPo (P.2.2.1 j)) v t) → WP G RX10 cX10_cycles 6 (some .boolean) false (d + 2) 0 0 0 0 Q 15 [some (.ref m), some (.int (nI j)), some (.int v), some (.int x), some (.int (nI t)), none] [] (hUs h [m, m + 4, m + 5, m + 6, m + 9, m + 15, m + 16] [(oC 10 (mF m th tr wa tp sz sp fa fl tk ta sg nu wd lo wv rl rw ht sd ah cl)), (aI 8 fs), (aI 24 ff), (aI 8 fb), (aZ 8 f3), (aI 11 f), (aI 11 f2)]) := by
  intro n
  induction n with
  | zero =>
    intro t x f hi hq
    refine w_iload dX10_cycles_15 rfl ?_
    refine w_sipush (v := 3000) dX10_cycles_17 (by decide) ?_
    refine w_icmp_ge_t (tgt := 42) dX10_cycles_20 rfl ((nI_leI (a := 3000) (b := t) (by omega) (by omega)).mpr (by omega)) ?_
    refine w_less (ls2 := [some (.ref m), some (.int (nI j)), some (.int v), some (.int x), none, none]) ⟨Or.inr rfl, Or.inr rfl, Or.inr rfl, Or.inr rfl, Or.inl rfl, Or.inl rfl, trivial⟩ ?_
    have z : t = 3000 := by omega
    rw [z] at hq
    exact k x f hq
  | succ n ih =>
    intro t x f hi hq
    refine w_iload dX10_cycles_15 rfl ?_
    refine w_sipush (v := 3000) dX10_cycles_17 (by decide) ?_
    refine w_icmp_ge_f (tgt := 42) dX10_cycles_20 rfl (fun z => absurd ((nI_leI (a := 3000) (b := t) (by omega) (by omega)).mp z) (by omega)) ?_
    refine w_iload_n dX10_cycles_23 rfl ?_
    refine w_aload_n dX10_cycles_24 rfl ?_
    refine w_aload_n dX10_cycles_25 rfl ?_
    refine w_get (v := .ref (m + 15)) fX10_58 (hUs_at nd 0 rfl rfl) rfl dX10_cycles_26 ?_
    refine w_iload_n dX10_cycles_29 rfl ?_
    refine w_iconst (v := 0) dX10_cycles_30 (by decide) ?_
    refine w_callV (ci := 10) (d' := d + 1) (mc' := 0) (ms' := 0) (As := [.ref (m + 15), .int v, .int 0]) (st := [.int x]) lX10_287 vX10_clock rfl (hUs_at nd 0 rfl rfl) rfl (Nat.le_of_ble_eq_true rfl) dX10_cycles_31 (Nat.le_of_ble_eq_true rfl) (Nat.le_of_ble_eq_true rfl) (Nat.le_refl _) (m_clockL (D := (P.2.2.1 j)) (s := (qS (lPo (P.2.2.1 j)) v t, sd, qC (lPo (P.2.2.1 j)) v t)) (hHas_sub nd (as' := [m, m + 4, m + 5, m + 6, m + 9, m + 15]) (cs' := [(oC 10 (mF m th tr wa tp sz sp fa fl tk ta sg nu wd lo wv rl rw ht sd ah cl)), (aI 8 fs), (aI 24 ff), (aI 8 fb), (aZ 8 f3), (aI 11 f)]) [0, 1, 2, 3, 4, 5] rfl rfl) (nd_sub nd (as' := [m, m + 4, m + 5, m + 6, m + 9, m + 15]) [0, 1, 2, 3, 4, 5] rfl rfl) h8 hLp hGl hq (by decide) (Or.inl rfl) (fun fk19 hfk19 zfk19 => ?_))
    refine w_heq (hUs_in nd rfl [0, 1, 2, 3, 4, 5] (cs2 := [(oC 10 (mF m th tr wa tp sz sp fa fl tk ta sg nu wd lo wv rl rw ht sd ah cl)), (aI 8 fs), (aI 24 ff), (aI 8 fb), (aZ 8 f3), (aI 11 fk19), (aI 11 f2)]) rfl rfl) ?_
    refine w_iadd dX10_cycles_34 ?_
    refine w_istore_n (ls2 := [some (.ref m), some (.int (nI j)), some (.int v), some (.int (x + (cOut (lPo (P.2.2.1 j)) 0 (qS (lPo (P.2.2.1 j)) v t, sd, qC (lPo (P.2.2.1 j)) v t)))), some (.int (nI t)), none]) dX10_cycles_35 (by decide) rfl rfl ?_
    refine w_iinc (v := nI (t + 1)) (ls2 := [some (.ref m), some (.int (nI j)), some (.int v), some (.int (x + (cOut (lPo (P.2.2.1 j)) 0 (qS (lPo (P.2.2.1 j)) v t, sd, qC (lPo (P.2.2.1 j)) v t)))), some (.int (nI (t + 1))), none]) dX10_cycles_36 rfl (nI_1 _) (by decide) rfl rfl ?_
    refine w_goto (tgt := 15) dX10_cycles_39 rfl ?_
    exact ih (t + 1) _ fk19 (by omega) (by
      have z := hfk19
      rw [nI_1, cSt_q] at z
      exact z)
set_option maxRecDepth 100000 in
set_option maxHeartbeats 4000000 in
theorem l_cyc2 {G : wG} {d : Nat} {h : hH} {Q : Option Value → hH → Prop} {m : Nat} {th tr wa tp sz sp fa fl tk ta sg nu : Int32} {wd : Int64} {lo wv rl rw ht sd ah cl : Int32} {fs : Nat → Int32} {ff : Nat → Int32} {fb : Nat → Int32} {f3 : Nat → Int32} {f1 : Nat → Int32} {j : Nat} {v x : Int32} (nd : [m, m + 4, m + 5, m + 6, m + 9, m + 15, m + 16].Nodup) (k : ∀ f2 : Nat → Int32, (∀ j, j < 11 → f2 j = f1 j) → WP G RX10 cX10_cycles 6 (some .boolean) false (d + 2) 0 0 0 0 Q 72 [some (.ref m), some (.int (nI j)), some (.int v), some (.int x), none, none] [] (hUs h [m, m + 4, m + 5, m + 6, m + 9, m + 15, m + 16] [(oC 10 (mF m th tr wa tp sz sp fa fl tk ta sg nu wd lo wv rl rw ht sd ah cl)), (aI 8 fs), (aI 24 ff), (aI 8 fb), (aZ 8 f3), (aI 11 f1), (aI 11 f2)])) : ∀ (n : Nat) (i : Nat) (f : Nat → Int32), i + n = 11 → (∀ j, j < i → f j = f1 j) → WP G RX10 cX10_cycles 6 (some .boolean) false (d + 2) 0 0 0 0 Q 45 [some (.ref m), some (.int (nI j)), some (.int v), some (.int x), some (.int (nI i)), none] [] (hUs h [m, m + 4, m + 5, m + 6, m + 9, m + 15, m + 16] [(oC 10 (mF m th tr wa tp sz sp fa fl tk ta sg nu wd lo wv rl rw ht sd ah cl)), (aI 8 fs), (aI 24 ff), (aI 8 fb), (aZ 8 f3), (aI 11 f1), (aI 11 f)]) := by
  intro n
  induction n with
  | zero =>
    intro i f hi hf
    refine w_iload dX10_cycles_45 rfl ?_
    refine w_bipush (v := 11) dX10_cycles_47 (by decide) ?_
    refine w_icmp_ge_t (tgt := 72) dX10_cycles_49 rfl ((nI_leI (a := 11) (b := i) (by omega) (by omega)).mpr (by omega)) ?_
    refine w_less (ls2 := [some (.ref m), some (.int (nI j)), some (.int v), some (.int x), none, none]) ⟨Or.inr rfl, Or.inr rfl, Or.inr rfl, Or.inr rfl, Or.inl rfl, Or.inl rfl, trivial⟩ ?_
    exact k f (fun j hj => hf j (by omega))
  | succ n ih =>
    intro i f hi hf
    refine w_iload dX10_cycles_45 rfl ?_
    refine w_bipush (v := 11) dX10_cycles_47 (by decide) ?_
    refine w_icmp_ge_f (tgt := 72) dX10_cycles_49 rfl (fun z => absurd ((nI_leI (a := 11) (b := i) (by omega) (by omega)).mp z) (by omega)) ?_
    refine w_aload_n dX10_cycles_52 rfl ?_
    refine w_get (v := .ref (m + 16)) fX10_61 (hUs_at nd 0 rfl rfl) rfl dX10_cycles_53 ?_
    refine w_iload dX10_cycles_56 rfl ?_
    refine w_aload_n dX10_cycles_58 rfl ?_
    refine w_get (v := .ref (m + 15)) fX10_58 (hUs_at nd 0 rfl rfl) rfl dX10_cycles_59 ?_
    refine w_iload dX10_cycles_62 rfl ?_
    refine w_ialoadN (hUs_at nd 5 rfl rfl) (by omega) (by omega) dX10_cycles_64 ?_
    refine w_iastoreN (hUs_at nd 6 rfl rfl) (by omega) (by omega) dX10_cycles_65 ?_
    refine w_heq (hUs_set nd rfl 6 (cs' := [(oC 10 (mF m th tr wa tp sz sp fa fl tk ta sg nu wd lo wv rl rw ht sd ah cl)), (aI 8 fs), (aI 24 ff), (aI 8 fb), (aZ 8 f3), (aI 11 f1), (aI 11 (upd f i (f1 i)))]) rfl rfl) ?_
    refine w_iinc (v := nI (i + 1)) (ls2 := [some (.ref m), some (.int (nI j)), some (.int v), some (.int x), some (.int (nI (i + 1))), none]) dX10_cycles_66 rfl (nI_1 _) (by decide) rfl rfl ?_
    refine w_goto (tgt := 45) dX10_cycles_69 rfl ?_
    exact ih (i + 1) _ (by omega) (fun j hj => by
      by_cases e : j = i
      · subst e; exact pk_us
      · rw [pk_un e]; exact hf j (by omega))
theorem eqS_01 (a b : Nat → Int32) : eqS a b = 0 ∨ eqS a b = 1 := by
  unfold eqS; split
  · exact Or.inr rfl
  · exact Or.inl rfl
theorem eqS_b (a b : Nat → Int32) : narrow .boolean (.int (eqS a b)) = .int (eqS a b) := by
  unfold eqS; split <;> rfl
set_option maxRecDepth 100000 in
set_option maxHeartbeats 4000000 in
theorem l_cyc3 {G : wG} {d : Nat} {h : hH} {Q : Option Value → hH → Prop} {m : Nat} {th tr wa tp sz sp fa fl tk ta sg nu : Int32} {wd : Int64} {lo wv rl rw ht sd ah : Int32} {ln : Nat → Int64} {fn : Nat → Int32} {fs : Nat → Int32} {ff : Nat → Int32} {fb : Nat → Int32} {f3 : Nat → Int32} {P : pD} {j : Nat} {v : Int32} {f1 : Nat → Int32} {T : Nat} (nd : [m, m + 4, m + 5, m + 6, m + 9, m + 15, m + 16].Nodup) (h8 : j < 8) (hLp : mLp (P.2.2.1 j) j ln fs ff fb fn f3) (hGl : lGd (P.2.2.1 j)) (h1 : mRn f1 (nI j) 0 (nI T) (qS (lPo (P.2.2.1 j)) v T, sd, qC (lPo (P.2.2.1 j)) v T)) (k0 : (∀ k, 1 ≤ k → k ≤ 3000 → ¬ qS (lPo (P.2.2.1 j)) v (T + k) = qS (lPo (P.2.2.1 j)) v T) → ∀ (x : Int32) (f2 : Nat → Int32), WP G RX10 cX10_cycles 6 (some .boolean) false (d + 2) 0 0 0 0 Q 135 [some (.ref m), some (.int (nI j)), some (.int v), some (.int x), some (.int 0), none] [] (hUs h [m, m + 4, m + 5, m + 6, m + 9, m + 15, m + 16] [(oC 10 (mF m th tr wa tp sz sp fa fl tk ta sg nu wd lo wv rl rw ht sd ah (nI 3000))), (aI 8 fs), (aI 24 ff), (aI 8 fb), (aZ 8 f3), (aI 11 f1), (aI 11 f2)])) (k1 : ∀ (c : Nat) (x : Int32) (f2 : Nat → Int32), 1 ≤ c → c ≤ 3000 → qS (lPo (P.2.2.1 j)) v T = qS (lPo (P.2.2.1 j)) v (T + c) → (∀ k, 0 < k → k < c → ¬ qS (lPo (P.2.2.1 j)) v (T + k) = qS (lPo (P.2.2.1 j)) v T) → WP G RX10 cX10_cycles 6 (some .boolean) false (d + 2) 0 0 0 0 Q 135 [some (.ref m), some (.int (nI j)), some (.int v), some (.int x), some (.int 1), none] [] (hUs h [m, m + 4, m + 5, m + 6, m + 9, m + 15, m + 16] [(oC 10 (mF m th tr wa tp sz sp fa fl tk ta sg nu wd lo wv rl rw ht sd ah (nI c))), (aI 8 fs), (aI 24 ff), (aI 8 fb), (aZ 8 f3), (aI 11 f1), (aI 11 f2)])) : ∀ (n : Nat) (c : Nat) (x : Int32) (f : Nat → Int32), c + n = 3000 → mRn f (nI j) 0 (nI (T + c)) (qS (lPo (P.2.2.1 j)) v (T + c), sd, qC (lPo (P.2.2.1 j)) v (T + c)) → (∀ k, 0 < k → k < c + 1 → ¬ qS (lPo (P.2.2.1 j)) v (T + k) = qS (lPo (P.2.2.1 j)) v T) → WP G RX10 cX10_cycles 6 (some .boolean) false (d + 2) 0 0 0 0 Q 80 [some (.ref m), some (.int (nI j)), some (.int v), some (.int x), some (.int 0), none] [] (hUs h [m, m + 4, m + 5, m + 6, m + 9, m + 15, m + 16] [(oC 10 (mF m th tr wa tp sz sp fa fl tk ta sg nu wd lo wv rl rw ht sd ah (nI c))), (aI 8 fs), (aI 24 ff), (aI 8 fb), (aZ 8 f3), (aI 11 f1), (aI 11 f)]) := by
  intro n
  induction n with
  | zero =>
    intro c x f hi hq hr
    refine w_iload dX10_cycles_80 rfl ?_
    refine w_if_ne_f (tgt := 135) dX10_cycles_82 rfl rfl ?_
    refine w_aload_n dX10_cycles_85 rfl ?_
    refine w_get (v := .int (nI c)) fX10_318 (hUs_at nd 0 rfl rfl) rfl dX10_cycles_86 ?_
    refine w_sipush (v := 3000) dX10_cycles_89 (by decide) ?_
    refine w_icmp_ge_t (tgt := 135) dX10_cycles_92 rfl ((nI_leI (a := 3000) (b := c) (by omega) (by omega)).mpr (by omega)) ?_
    have z : c = 3000 := by omega
    subst z
    exact k0 (fun k hk hk2 => hr k (by omega) (by omega)) x f
  | succ n ih =>
    intro c x f hi hq hr
    refine w_iload dX10_cycles_80 rfl ?_
    refine w_if_ne_f (tgt := 135) dX10_cycles_82 rfl rfl ?_
    refine w_aload_n dX10_cycles_85 rfl ?_
    refine w_get (v := .int (nI c)) fX10_318 (hUs_at nd 0 rfl rfl) rfl dX10_cycles_86 ?_
    refine w_sipush (v := 3000) dX10_cycles_89 (by decide) ?_
    refine w_icmp_ge_f (tgt := 135) dX10_cycles_92 rfl (fun z => absurd ((nI_leI (a := 3000) (b := c) (by omega) (by omega)).mp z) (by omega)) ?_
    refine w_iload_n dX10_cycles_95 rfl ?_
    refine w_aload_n dX10_cycles_96 rfl ?_
    refine w_aload_n dX10_cycles_97 rfl ?_
    refine w_get (v := .ref (m + 16)) fX10_61 (hUs_at nd 0 rfl rfl) rfl dX10_cycles_98 ?_
    refine w_iload_n dX10_cycles_101 rfl ?_
    refine w_iconst (v := 0) dX10_cycles_102 (by decide) ?_
    refine w_callV (ci := 10) (d' := d + 1) (mc' := 0) (ms' := 0) (As := [.ref (m + 16), .int v, .int 0]) (st := [.int x]) lX10_287 vX10_clock rfl (hUs_at nd 0 rfl rfl) rfl (Nat.le_of_ble_eq_true rfl) dX10_cycles_103 (Nat.le_of_ble_eq_true rfl) (Nat.le_of_ble_eq_true rfl) (Nat.le_refl _) (m_clockL (D := (P.2.2.1 j)) (s := (qS (lPo (P.2.2.1 j)) v (T + c), sd, qC (lPo (P.2.2.1 j)) v (T + c))) (hHas_sub nd (as' := [m, m + 4, m + 5, m + 6, m + 9, m + 16]) (cs' := [(oC 10 (mF m th tr wa tp sz sp fa fl tk ta sg nu wd lo wv rl rw ht sd ah (nI c))), (aI 8 fs), (aI 24 ff), (aI 8 fb), (aZ 8 f3), (aI 11 f)]) [0, 1, 2, 3, 4, 6] rfl rfl) (nd_sub nd (as' := [m, m + 4, m + 5, m + 6, m + 9, m + 16]) [0, 1, 2, 3, 4, 6] rfl rfl) h8 hLp hGl hq (by decide) (Or.inl rfl) (fun fk19 hfk19 zfk19 => ?_))
    refine w_heq (hUs_in nd rfl [0, 1, 2, 3, 4, 6] (cs2 := [(oC 10 (mF m th tr wa tp sz sp fa fl tk ta sg nu wd lo wv rl rw ht sd ah (nI c))), (aI 8 fs), (aI 24 ff), (aI 8 fb), (aZ 8 f3), (aI 11 f1), (aI 11 fk19)]) rfl rfl) ?_
    refine w_iadd dX10_cycles_106 ?_
    refine w_istore_n (ls2 := [some (.ref m), some (.int (nI j)), some (.int v), some (.int (x + (cOut (lPo (P.2.2.1 j)) 0 (qS (lPo (P.2.2.1 j)) v (T + c), sd, qC (lPo (P.2.2.1 j)) v (T + c))))), some (.int 0), none]) dX10_cycles_107 (by decide) rfl rfl ?_
    refine w_aload_n dX10_cycles_108 rfl ?_
    refine w_dup dX10_cycles_109 rfl ?_
    refine w_get (v := .int (nI c)) fX10_318 (hUs_at nd 0 rfl rfl) rfl dX10_cycles_110 ?_
    refine w_iconst (v := 1) dX10_cycles_113 (by decide) ?_
    refine w_iaddE (z := nI (c + 1)) dX10_cycles_114 (nI_add (c) (1)) ?_
    refine w_put (fs' := (mF m th tr wa tp sz sp fa fl tk ta sg nu wd lo wv rl rw ht sd ah (nI (c + 1)))) fX10_318 (hUs_at nd 0 rfl rfl) rfl rfl (Nat.le_of_ble_eq_true rfl) rfl dX10_cycles_115 ?_
    refine w_heq (hUs_set nd rfl 0 (cs' := [(oC 10 (mF m th tr wa tp sz sp fa fl tk ta sg nu wd lo wv rl rw ht sd ah (nI (c + 1)))), (aI 8 fs), (aI 24 ff), (aI 8 fb), (aZ 8 f3), (aI 11 f1), (aI 11 fk19)]) rfl rfl) ?_
    refine w_aload_n dX10_cycles_118 rfl ?_
    refine w_aload_n dX10_cycles_119 rfl ?_
    refine w_get (v := .ref (m + 15)) fX10_58 (hUs_at nd 0 rfl rfl) rfl dX10_cycles_120 ?_
    refine w_aload_n dX10_cycles_123 rfl ?_
    refine w_get (v := .ref (m + 16)) fX10_61 (hUs_at nd 0 rfl rfl) rfl dX10_cycles_124 ?_
    refine w_callV (ci := 10) (d' := d + 1) (mc' := 0) (ms' := 0) (As := [.ref (m + 15), .ref (m + 16)]) (st := []) lX10_321 vX10_areLike rfl (hUs_at nd 0 rfl rfl) rfl (Nat.le_of_ble_eq_true rfl) dX10_cycles_127 (Nat.le_of_ble_eq_true rfl) (Nat.le_of_ble_eq_true rfl) (Nat.le_refl _) (m_areLike (sa := (qS (lPo (P.2.2.1 j)) v T, sd, qC (lPo (P.2.2.1 j)) v T)) (sb := (cStp (lPo (P.2.2.1 j)) 0 v (qS (lPo (P.2.2.1 j)) v (T + c), sd, qC (lPo (P.2.2.1 j)) v (T + c)))) (hHas_sub nd (as' := [m + 15, m + 16]) (cs' := [(aI 11 f1), (aI 11 fk19)]) [5, 6] rfl rfl) h1 hfk19 ?_)
    refine w_top (z := eqS (qS (lPo (P.2.2.1 j)) v T) (qS (lPo (P.2.2.1 j)) v (T + (c + 1)))) (by rw [cSt_q]; rfl) ?_
    refine w_istore (ls2 := [some (.ref m), some (.int (nI j)), some (.int v), some (.int (x + (cOut (lPo (P.2.2.1 j)) 0 (qS (lPo (P.2.2.1 j)) v (T + c), sd, qC (lPo (P.2.2.1 j)) v (T + c))))), some (.int (eqS (qS (lPo (P.2.2.1 j)) v T) (qS (lPo (P.2.2.1 j)) v (T + (c + 1))))), none]) dX10_cycles_130 (by decide) rfl rfl ?_
    refine w_goto (tgt := 80) dX10_cycles_132 rfl ?_
    have hz9 : mRn fk19 (nI j) 0 (nI (T + (c + 1))) (qS (lPo (P.2.2.1 j)) v (T + (c + 1)), sd, qC (lPo (P.2.2.1 j)) v (T + (c + 1))) := (by
      have z := hfk19
      rw [nI_1, cSt_q] at z
      exact z)
    by_cases e9 : qS (lPo (P.2.2.1 j)) v (T + (c + 1)) = qS (lPo (P.2.2.1 j)) v T
    · have e8 : eqS (qS (lPo (P.2.2.1 j)) v T) (qS (lPo (P.2.2.1 j)) v (T + (c + 1))) = 1 := by
        rcases eqS_01 (qS (lPo (P.2.2.1 j)) v T) (qS (lPo (P.2.2.1 j)) v (T + (c + 1))) with z | z
        · exact absurd e9.symm ((eq_q hGl.2.1).mp z)
        · exact z
      rw [e8]
      refine w_iload dX10_cycles_80 rfl ?_
      refine w_if_ne_t (tgt := 135) dX10_cycles_82 rfl (by decide) ?_
      exact k1 (c + 1) _ _ (by omega) (by omega) e9.symm (fun k hk hk2 => hr k hk (by omega))
    · have e8 : eqS (qS (lPo (P.2.2.1 j)) v T) (qS (lPo (P.2.2.1 j)) v (T + (c + 1))) = 0 := (eq_q hGl.2.1).mpr (fun z => e9 z.symm)
      rw [e8]
      exact ih (c + 1) _ _ (by omega) hz9 (fun k hk hk2 => by
        by_cases z : k = c + 1
        · rw [z]; exact e9
        · exact hr k hk (by omega))
set_option maxRecDepth 100000 in
set_option maxHeartbeats 4000000 in
theorem l_cyc4 {G : wG} {d : Nat} {h : hH} {Q : Option Value → hH → Prop} {m : Nat} {th tr wa tp sz sp fa fl tk ta sg nu : Int32} {wd : Int64} {lo wv rl rw ht sd ah : Int32} {ln : Nat → Int64} {fn : Nat → Int32} {fs : Nat → Int32} {ff : Nat → Int32} {fb : Nat → Int32} {f3 : Nat → Int32} {P : pD} {j : Nat} {v : Int32} {f1 : Nat → Int32} {c : Nat} (nd : [m, m + 4, m + 5, m + 6, m + 9, m + 15, m + 16].Nodup) (h8 : j < 8) (hLp : mLp (P.2.2.1 j) j ln fs ff fb fn f3) (hGl : lGd (P.2.2.1 j)) (hc : c ≤ 3000) (k : ∀ (x : Int32) (f2 : Nat → Int32), mRn f2 (nI j) 0 (nI c) (qS (lPo (P.2.2.1 j)) v c, sd, qC (lPo (P.2.2.1 j)) v c) → WP G RX10 cX10_cycles 6 (some .boolean) false (d + 2) 0 0 0 0 Q 193 [some (.ref m), some (.int (nI j)), some (.int v), some (.int x), some (.int 1), none] [] (hUs h [m, m + 4, m + 5, m + 6, m + 9, m + 15, m + 16] [(oC 10 (mF m th tr wa tp sz sp fa fl tk ta sg nu wd lo wv rl rw ht sd ah (nI c))), (aI 8 fs), (aI 24 ff), (aI 8 fb), (aZ 8 f3), (aI 11 f1), (aI 11 f2)])) : ∀ (n : Nat) (t : Nat) (x : Int32) (f : Nat → Int32), t + n = c → mRn f (nI j) 0 (nI t) (qS (lPo (P.2.2.1 j)) v t, sd, qC (lPo (P.2.2.1 j)) v t) → WP G RX10 cX10_cycles 6 (some .boolean) false (d + 2) 0 0 0 0 Q 165 [some (.ref m), some (.int (nI j)), some (.int v), some (.int x), some (.int 1), some (.int (nI t))] [] (hUs h [m, m + 4, m + 5, m + 6, m + 9, m + 15, m + 16] [(oC 10 (mF m th tr wa tp sz sp fa fl tk ta sg nu wd lo wv rl rw ht sd ah (nI c))), (aI 8 fs), (aI 24 ff), (aI 8 fb), (aZ 8 f3), (aI 11 f1), (aI 11 f)]) := by
  intro n
  induction n with
  | zero =>
    intro t x f hi hq
    refine w_iload dX10_cycles_165 rfl ?_
    refine w_aload_n dX10_cycles_167 rfl ?_
    refine w_get (v := .int (nI c)) fX10_318 (hUs_at nd 0 rfl rfl) rfl dX10_cycles_168 ?_
    refine w_icmp_ge_t (tgt := 193) dX10_cycles_171 rfl ((nI_leI (a := c) (b := t) (by omega) (by omega)).mpr (by omega)) ?_
    refine w_less (ls2 := [some (.ref m), some (.int (nI j)), some (.int v), some (.int x), some (.int 1), none]) ⟨Or.inr rfl, Or.inr rfl, Or.inr rfl, Or.inr rfl, Or.inr rfl, Or.inl rfl, trivial⟩ ?_
    have z : t = c := by omega
    rw [z] at hq
    exact k x f hq
  | succ n ih =>
    intro t x f hi hq
    refine w_iload dX10_cycles_165 rfl ?_
    refine w_aload_n dX10_cycles_167 rfl ?_
    refine w_get (v := .int (nI c)) fX10_318 (hUs_at nd 0 rfl rfl) rfl dX10_cycles_168 ?_
    refine w_icmp_ge_f (tgt := 193) dX10_cycles_171 rfl (fun z => absurd ((nI_leI (a := c) (b := t) (by omega) (by omega)).mp z) (by omega)) ?_
    refine w_iload_n dX10_cycles_174 rfl ?_
    refine w_aload_n dX10_cycles_175 rfl ?_
    refine w_aload_n dX10_cycles_176 rfl ?_
    refine w_get (v := .ref (m + 16)) fX10_61 (hUs_at nd 0 rfl rfl) rfl dX10_cycles_177 ?_
    refine w_iload_n dX10_cycles_180 rfl ?_
    refine w_iconst (v := 0) dX10_cycles_181 (by decide) ?_
    refine w_callV (ci := 10) (d' := d + 1) (mc' := 0) (ms' := 0) (As := [.ref (m + 16), .int v, .int 0]) (st := [.int x]) lX10_287 vX10_clock rfl (hUs_at nd 0 rfl rfl) rfl (Nat.le_of_ble_eq_true rfl) dX10_cycles_182 (Nat.le_of_ble_eq_true rfl) (Nat.le_of_ble_eq_true rfl) (Nat.le_refl _) (m_clockL (D := (P.2.2.1 j)) (s := (qS (lPo (P.2.2.1 j)) v t, sd, qC (lPo (P.2.2.1 j)) v t)) (hHas_sub nd (as' := [m, m + 4, m + 5, m + 6, m + 9, m + 16]) (cs' := [(oC 10 (mF m th tr wa tp sz sp fa fl tk ta sg nu wd lo wv rl rw ht sd ah (nI c))), (aI 8 fs), (aI 24 ff), (aI 8 fb), (aZ 8 f3), (aI 11 f)]) [0, 1, 2, 3, 4, 6] rfl rfl) (nd_sub nd (as' := [m, m + 4, m + 5, m + 6, m + 9, m + 16]) [0, 1, 2, 3, 4, 6] rfl rfl) h8 hLp hGl hq (by decide) (Or.inl rfl) (fun fk19 hfk19 zfk19 => ?_))
    refine w_heq (hUs_in nd rfl [0, 1, 2, 3, 4, 6] (cs2 := [(oC 10 (mF m th tr wa tp sz sp fa fl tk ta sg nu wd lo wv rl rw ht sd ah (nI c))), (aI 8 fs), (aI 24 ff), (aI 8 fb), (aZ 8 f3), (aI 11 f1), (aI 11 fk19)]) rfl rfl) ?_
    refine w_iadd dX10_cycles_185 ?_
    refine w_istore_n (ls2 := [some (.ref m), some (.int (nI j)), some (.int v), some (.int (x + (cOut (lPo (P.2.2.1 j)) 0 (qS (lPo (P.2.2.1 j)) v t, sd, qC (lPo (P.2.2.1 j)) v t)))), some (.int 1), some (.int (nI t))]) dX10_cycles_186 (by decide) rfl rfl ?_
    refine w_iinc (v := nI (t + 1)) (ls2 := [some (.ref m), some (.int (nI j)), some (.int v), some (.int (x + (cOut (lPo (P.2.2.1 j)) 0 (qS (lPo (P.2.2.1 j)) v t, sd, qC (lPo (P.2.2.1 j)) v t)))), some (.int 1), some (.int (nI (t + 1)))]) dX10_cycles_187 rfl (nI_1 _) (by decide) rfl rfl ?_
    refine w_goto (tgt := 165) dX10_cycles_190 rfl ?_
    exact ih (t + 1) _ fk19 (by omega) (by
      have z := hfk19
      rw [nI_1, cSt_q] at z
      exact z)
set_option maxRecDepth 100000 in
set_option maxHeartbeats 4000000 in
theorem l_cyc5 {G : wG} {d : Nat} {h : hH} {Q : Option Value → hH → Prop} {m : Nat} {th tr wa tp sz sp fa fl tk ta sg nu : Int32} {wd : Int64} {lo wv rl rw ht sd : Int32} {ln : Nat → Int64} {fn : Nat → Int32} {fs : Nat → Int32} {ff : Nat → Int32} {fb : Nat → Int32} {f3 : Nat → Int32} {P : pD} {j : Nat} {v : Int32} {c R9 : Nat} (nd : [m, m + 4, m + 5, m + 6, m + 9, m + 15, m + 16].Nodup) (h8 : j < 8) (hLp : mLp (P.2.2.1 j) j ln fs ff fb fn f3) (hGl : lGd (P.2.2.1 j)) (hc : qS (lPo (P.2.2.1 j)) v 3000 = qS (lPo (P.2.2.1 j)) v (3000 + c)) (k : ∀ (f1 f2 : Nat → Int32) (a : Nat), a ≤ 3000 → R9 = a → qS (lPo (P.2.2.1 j)) v a = qS (lPo (P.2.2.1 j)) v (a + c) → Q (some (.int 1)) (hUs h [m, m + 4, m + 5, m + 6, m + 9, m + 15, m + 16] [(oC 10 (mF m th tr wa tp sz sp fa fl tk ta sg nu wd lo wv rl rw ht sd (nI a) (nI c))), (aI 8 fs), (aI 24 ff), (aI 8 fb), (aZ 8 f3), (aI 11 f1), (aI 11 f2)])) : ∀ (n : Nat) (i : Nat) (x : Int32) (f1 f2 : Nat → Int32), i + n = 3000 → mRn f1 (nI j) 0 (nI i) (qS (lPo (P.2.2.1 j)) v i, sd, qC (lPo (P.2.2.1 j)) v i) → mRn f2 (nI j) 0 (nI (i + c)) (qS (lPo (P.2.2.1 j)) v (i + c), sd, qC (lPo (P.2.2.1 j)) v (i + c)) → caF (lPo (P.2.2.1 j)) v n i (cItr (lPo (P.2.2.1 j)) 0 v i cS0) (cItr (lPo (P.2.2.1 j)) 0 v (i + c) cS0) = R9 → WP G RX10 cX10_cycles 6 (some .boolean) false (d + 2) 0 0 0 0 Q 198 [some (.ref m), some (.int (nI j)), some (.int v), some (.int x), some (.int 1), none] [] (hUs h [m, m + 4, m + 5, m + 6, m + 9, m + 15, m + 16] [(oC 10 (mF m th tr wa tp sz sp fa fl tk ta sg nu wd lo wv rl rw ht sd (nI i) (nI c))), (aI 8 fs), (aI 24 ff), (aI 8 fb), (aZ 8 f3), (aI 11 f1), (aI 11 f2)]) := by
  intro n
  induction n with
  | zero =>
    intro i x f1 f2 hi h1 h2 e
    refine w_aload_n dX10_cycles_198 rfl ?_
    refine w_aload_n dX10_cycles_199 rfl ?_
    refine w_get (v := .ref (m + 15)) fX10_58 (hUs_at nd 0 rfl rfl) rfl dX10_cycles_200 ?_
    refine w_aload_n dX10_cycles_203 rfl ?_
    refine w_get (v := .ref (m + 16)) fX10_61 (hUs_at nd 0 rfl rfl) rfl dX10_cycles_204 ?_
    refine w_callV (ci := 10) (d' := d + 1) (mc' := 0) (ms' := 0) (As := [.ref (m + 15), .ref (m + 16)]) (st := []) lX10_321 vX10_areLike rfl (hUs_at nd 0 rfl rfl) rfl (Nat.le_of_ble_eq_true rfl) dX10_cycles_207 (Nat.le_of_ble_eq_true rfl) (Nat.le_of_ble_eq_true rfl) (Nat.le_refl _) (m_areLike (sa := (qS (lPo (P.2.2.1 j)) v i, sd, qC (lPo (P.2.2.1 j)) v i)) (sb := (qS (lPo (P.2.2.1 j)) v (i + c), sd, qC (lPo (P.2.2.1 j)) v (i + c))) (hHas_sub nd (as' := [m + 15, m + 16]) (cs' := [(aI 11 f1), (aI 11 f2)]) [5, 6] rfl rfl) h1 h2 ?_)
    refine w_top (z := eqS (qS (lPo (P.2.2.1 j)) v i) (qS (lPo (P.2.2.1 j)) v (i + c))) rfl ?_
    refine w_if_ne_t (tgt := 250) dX10_cycles_210 rfl (fun z => (eq_q hGl.2.1).mp z (by have y : i = 3000 := (by omega); rw [y]; exact hc)) ?_
    refine w_iconst (v := 1) dX10_cycles_250 (by decide) ?_
    refine w_zreturn rfl dX10_cycles_251 rfl (Nat.le_of_ble_eq_true rfl) (Nat.le_of_ble_eq_true rfl) ?_
    have eq9 : qS (lPo (P.2.2.1 j)) v i = qS (lPo (P.2.2.1 j)) v (i + c) := by
      have y : i = 3000 := by omega
      rw [y]; exact hc
    exact k f1 f2 i (by omega) e.symm eq9
  | succ n ih =>
    intro i x f1 f2 hi h1 h2 e
    refine w_aload_n dX10_cycles_198 rfl ?_
    refine w_aload_n dX10_cycles_199 rfl ?_
    refine w_get (v := .ref (m + 15)) fX10_58 (hUs_at nd 0 rfl rfl) rfl dX10_cycles_200 ?_
    refine w_aload_n dX10_cycles_203 rfl ?_
    refine w_get (v := .ref (m + 16)) fX10_61 (hUs_at nd 0 rfl rfl) rfl dX10_cycles_204 ?_
    refine w_callV (ci := 10) (d' := d + 1) (mc' := 0) (ms' := 0) (As := [.ref (m + 15), .ref (m + 16)]) (st := []) lX10_321 vX10_areLike rfl (hUs_at nd 0 rfl rfl) rfl (Nat.le_of_ble_eq_true rfl) dX10_cycles_207 (Nat.le_of_ble_eq_true rfl) (Nat.le_of_ble_eq_true rfl) (Nat.le_refl _) (m_areLike (sa := (qS (lPo (P.2.2.1 j)) v i, sd, qC (lPo (P.2.2.1 j)) v i)) (sb := (qS (lPo (P.2.2.1 j)) v (i + c), sd, qC (lPo (P.2.2.1 j)) v (i + c))) (hHas_sub nd (as' := [m + 15, m + 16]) (cs' := [(aI 11 f1), (aI 11 f2)]) [5, 6] rfl rfl) h1 h2 ?_)
    refine w_top (z := eqS (qS (lPo (P.2.2.1 j)) v i) (qS (lPo (P.2.2.1 j)) v (i + c))) rfl ?_
    refine w_if_ne (tgt := 250) dX10_cycles_210 rfl (fun b210 => ?_) (fun b210 => ?_)
    · refine w_iconst (v := 1) dX10_cycles_250 (by decide) ?_
      refine w_zreturn rfl dX10_cycles_251 rfl (Nat.le_of_ble_eq_true rfl) (Nat.le_of_ble_eq_true rfl) ?_
      have eq9 : qS (lPo (P.2.2.1 j)) v i = qS (lPo (P.2.2.1 j)) v (i + c) := Classical.byContradiction (fun z => b210 ((eq_q hGl.2.1).mpr z))
      have b9 : ¬ eqS (cItr (lPo (P.2.2.1 j)) 0 v i cS0).1 (cItr (lPo (P.2.2.1 j)) 0 v (i + c) cS0).1 = 0 := b210
      rw [caF, if_neg b9] at e
      exact k f1 f2 i (by omega) e.symm eq9
    · refine w_iload_n dX10_cycles_213 rfl ?_
      refine w_aload_n dX10_cycles_214 rfl ?_
      refine w_aload_n dX10_cycles_215 rfl ?_
      refine w_get (v := .ref (m + 15)) fX10_58 (hUs_at nd 0 rfl rfl) rfl dX10_cycles_216 ?_
      refine w_iload_n dX10_cycles_219 rfl ?_
      refine w_iconst (v := 0) dX10_cycles_220 (by decide) ?_
      refine w_callV (ci := 10) (d' := d + 1) (mc' := 0) (ms' := 0) (As := [.ref (m + 15), .int v, .int 0]) (st := [.int x]) lX10_287 vX10_clock rfl (hUs_at nd 0 rfl rfl) rfl (Nat.le_of_ble_eq_true rfl) dX10_cycles_221 (Nat.le_of_ble_eq_true rfl) (Nat.le_of_ble_eq_true rfl) (Nat.le_refl _) (m_clockL (D := (P.2.2.1 j)) (s := (qS (lPo (P.2.2.1 j)) v i, sd, qC (lPo (P.2.2.1 j)) v i)) (hHas_sub nd (as' := [m, m + 4, m + 5, m + 6, m + 9, m + 15]) (cs' := [(oC 10 (mF m th tr wa tp sz sp fa fl tk ta sg nu wd lo wv rl rw ht sd (nI i) (nI c))), (aI 8 fs), (aI 24 ff), (aI 8 fb), (aZ 8 f3), (aI 11 f1)]) [0, 1, 2, 3, 4, 5] rfl rfl) (nd_sub nd (as' := [m, m + 4, m + 5, m + 6, m + 9, m + 15]) [0, 1, 2, 3, 4, 5] rfl rfl) h8 hLp hGl h1 (by decide) (Or.inl rfl) (fun fk19 hfk19 zfk19 => ?_))
      refine w_heq (hUs_in nd rfl [0, 1, 2, 3, 4, 5] (cs2 := [(oC 10 (mF m th tr wa tp sz sp fa fl tk ta sg nu wd lo wv rl rw ht sd (nI i) (nI c))), (aI 8 fs), (aI 24 ff), (aI 8 fb), (aZ 8 f3), (aI 11 fk19), (aI 11 f2)]) rfl rfl) ?_
      refine w_aload_n dX10_cycles_224 rfl ?_
      refine w_aload_n dX10_cycles_225 rfl ?_
      refine w_get (v := .ref (m + 16)) fX10_61 (hUs_at nd 0 rfl rfl) rfl dX10_cycles_226 ?_
      refine w_iload_n dX10_cycles_229 rfl ?_
      refine w_iconst (v := 0) dX10_cycles_230 (by decide) ?_
      refine w_callV (ci := 10) (d' := d + 1) (mc' := 0) (ms' := 0) (As := [.ref (m + 16), .int v, .int 0]) (st := [.int (cOut (lPo (P.2.2.1 j)) 0 (qS (lPo (P.2.2.1 j)) v i, sd, qC (lPo (P.2.2.1 j)) v i)), .int x]) lX10_287 vX10_clock rfl (hUs_at nd 0 rfl rfl) rfl (Nat.le_of_ble_eq_true rfl) dX10_cycles_231 (Nat.le_of_ble_eq_true rfl) (Nat.le_of_ble_eq_true rfl) (Nat.le_refl _) (m_clockL (D := (P.2.2.1 j)) (s := (qS (lPo (P.2.2.1 j)) v (i + c), sd, qC (lPo (P.2.2.1 j)) v (i + c))) (hHas_sub nd (as' := [m, m + 4, m + 5, m + 6, m + 9, m + 16]) (cs' := [(oC 10 (mF m th tr wa tp sz sp fa fl tk ta sg nu wd lo wv rl rw ht sd (nI i) (nI c))), (aI 8 fs), (aI 24 ff), (aI 8 fb), (aZ 8 f3), (aI 11 f2)]) [0, 1, 2, 3, 4, 6] rfl rfl) (nd_sub nd (as' := [m, m + 4, m + 5, m + 6, m + 9, m + 16]) [0, 1, 2, 3, 4, 6] rfl rfl) h8 hLp hGl h2 (by decide) (Or.inl rfl) (fun fk29 hfk29 zfk29 => ?_))
      refine w_heq (hUs_in nd rfl [0, 1, 2, 3, 4, 6] (cs2 := [(oC 10 (mF m th tr wa tp sz sp fa fl tk ta sg nu wd lo wv rl rw ht sd (nI i) (nI c))), (aI 8 fs), (aI 24 ff), (aI 8 fb), (aZ 8 f3), (aI 11 fk19), (aI 11 fk29)]) rfl rfl) ?_
      refine w_iadd dX10_cycles_234 ?_
      refine w_iadd dX10_cycles_235 ?_
      refine w_istore_n (ls2 := [some (.ref m), some (.int (nI j)), some (.int v), some (.int (x + ((cOut (lPo (P.2.2.1 j)) 0 (qS (lPo (P.2.2.1 j)) v i, sd, qC (lPo (P.2.2.1 j)) v i)) + (cOut (lPo (P.2.2.1 j)) 0 (qS (lPo (P.2.2.1 j)) v (i + c), sd, qC (lPo (P.2.2.1 j)) v (i + c)))))), some (.int 1), none]) dX10_cycles_236 (by decide) rfl rfl ?_
      refine w_aload_n dX10_cycles_237 rfl ?_
      refine w_dup dX10_cycles_238 rfl ?_
      refine w_get (v := .int (nI i)) fX10_325 (hUs_at nd 0 rfl rfl) rfl dX10_cycles_239 ?_
      refine w_iconst (v := 1) dX10_cycles_242 (by decide) ?_
      refine w_iaddE (z := nI (i + 1)) dX10_cycles_243 (nI_add (i) (1)) ?_
      refine w_put (fs' := (mF m th tr wa tp sz sp fa fl tk ta sg nu wd lo wv rl rw ht sd (nI (i + 1)) (nI c))) fX10_325 (hUs_at nd 0 rfl rfl) rfl rfl (Nat.le_of_ble_eq_true rfl) rfl dX10_cycles_244 ?_
      refine w_heq (hUs_set nd rfl 0 (cs' := [(oC 10 (mF m th tr wa tp sz sp fa fl tk ta sg nu wd lo wv rl rw ht sd (nI (i + 1)) (nI c))), (aI 8 fs), (aI 24 ff), (aI 8 fb), (aZ 8 f3), (aI 11 fk19), (aI 11 fk29)]) rfl rfl) ?_
      refine w_goto (tgt := 198) dX10_cycles_247 rfl ?_
      have hz2 := hfk29
      rw [nI_1, cSt_q, show i + c + 1 = i + 1 + c by omega] at hz2
      have b9 : eqS (cItr (lPo (P.2.2.1 j)) 0 v i cS0).1 (cItr (lPo (P.2.2.1 j)) 0 v (i + c) cS0).1 = 0 := b210
      rw [caF, if_pos b9] at e
      exact ih (i + 1) _ fk19 fk29 (by omega) (by
        have z := hfk19
        rw [nI_1, cSt_q] at z
        exact z) hz2 (by rw [show i + 1 + c = i + c + 1 by omega]; exact e)
theorem cyc_same {L : lP} {v : Int32} (hL : L.1 ≤ 3) {c : Nat} (h1 : 1 ≤ c) (h2 : c ≤ 3000) (h3 : qS L v 3000 = qS L v (3000 + c)) (h4 : ∀ k, 0 < k → k < c → ¬ qS L v (3000 + k) = qS L v 3000) : ¬ fndB L v = 0 ∧ (fnd0 L v).2.2.2.1.1 = nI c := by
  have ht : (fnd0 L v).1 = true := by
    cases e : (fnd0 L v).1 with
    | true => rfl
    | false => exact absurd h3.symm ((fnd0_ok hL).2 e c h1 h2)
  obtain ⟨l, l1, l2, l3, l4, l5, l6⟩ := fOk_3000 ((fnd0_ok hL).1 ht)
  refine ⟨by rw [fndB, if_pos ht]; decide, ?_⟩
  rcases Nat.lt_trichotomy c l with z | z | z
  · exact absurd h3.symm (l5 c (by omega) z)
  · rw [z]; exact l3
  · exact absurd l4.symm (h4 l (by omega) z)
theorem cyc_none {L : lP} {v : Int32} (hL : L.1 ≤ 3) (h : ∀ k, 1 ≤ k → k ≤ 3000 → ¬ qS L v (3000 + k) = qS L v 3000) : fndB L v = 0 := by
  cases e : (fnd0 L v).1 with
  | false => rw [fndB, e]; rfl
  | true =>
    obtain ⟨l, l1, l2, l3, l4, l5, l6⟩ := fOk_3000 ((fnd0_ok hL).1 e)
    exact absurd l4.symm (h l l1 l2)
set_option maxRecDepth 100000 in
set_option maxHeartbeats 4000000 in
theorem m_cycles {G : wG} {d : Nat} {h : hH} {Q : Option Value → hH → Prop} {m : Nat} {th tr wa tp sz sp fa fl tk ta sg nu : Int32} {wd : Int64} {lo wv rl rw ht sd ah cl : Int32} {ln : Nat → Int64} {fn : Nat → Int32} {fs : Nat → Int32} {ff : Nat → Int32} {fb : Nat → Int32} {f3 : Nat → Int32} {P : pD} {j : Nat} {v : Int32} {f1 : Nat → Int32} {f2 : Nat → Int32} (hw : hHas h [m, m + 4, m + 5, m + 6, m + 9, m + 15, m + 16] [(oC 10 (mF m th tr wa tp sz sp fa fl tk ta sg nu wd lo wv rl rw ht sd ah cl)), (aI 8 fs), (aI 24 ff), (aI 8 fb), (aZ 8 f3), (aI 11 f1), (aI 11 f2)]) (nd : [m, m + 4, m + 5, m + 6, m + 9, m + 15, m + 16].Nodup) (h8 : j < 8) (hLp : mLp (P.2.2.1 j) j ln fs ff fb fn f3) (hGl : lGd (P.2.2.1 j)) (k0 : fndB (lPo (P.2.2.1 j)) v = 0 → ∀ (f1 f2 : Nat → Int32) (cl : Int32), Q (some (.int 0)) (hUs h [m, m + 4, m + 5, m + 6, m + 9, m + 15, m + 16] [(oC 10 (mF m th tr wa tp sz sp fa fl tk ta sg nu wd lo wv rl rw ht sd ah cl)), (aI 8 fs), (aI 24 ff), (aI 8 fb), (aZ 8 f3), (aI 11 f1), (aI 11 f2)])) (k1 : ¬ fndB (lPo (P.2.2.1 j)) v = 0 → ∀ (f1 f2 : Nat → Int32) (c a : Nat), 1 ≤ c → c ≤ 3000 → (fnd0 (lPo (P.2.2.1 j)) v).2.2.2.1.1 = nI c → a ≤ 3000 → ahF (lPo (P.2.2.1 j)) v = a → qS (lPo (P.2.2.1 j)) v a = qS (lPo (P.2.2.1 j)) v (a + c) → Q (some (.int 1)) (hUs h [m, m + 4, m + 5, m + 6, m + 9, m + 15, m + 16] [(oC 10 (mF m th tr wa tp sz sp fa fl tk ta sg nu wd lo wv rl rw ht sd (nI a) (nI c))), (aI 8 fs), (aI 24 ff), (aI 8 fb), (aZ 8 f3), (aI 11 f1), (aI 11 f2)])) : Cl G yX10_cycles (d + 2) 0 0 [.ref m, .int (nI j), .int v] h Q := by
  refine Cl.of (ini := false) kX10_cycles (plainFor_of_name (by decide)) (by decide) (Nat.le_of_ble_eq_true rfl) rfl rfl (fun z => by cases z) ?_
  refine w_heq (hUs_id hw).symm ?_
  refine w_aload_n dX10_cycles_0 rfl ?_
  refine w_aload_n dX10_cycles_1 rfl ?_
  refine w_get (v := .ref (m + 15)) fX10_58 (hUs_at nd 0 rfl rfl) rfl dX10_cycles_2 ?_
  refine w_iload_n dX10_cycles_5 rfl ?_
  refine w_iconst (v := 0) dX10_cycles_6 (by decide) ?_
  refine w_callV (ci := 10) (d' := d + 1) (mc' := 0) (ms' := 0) (As := [.ref (m + 15), .int (nI j), .int 0]) (st := []) lX10_280 vX10_starts rfl (hUs_at nd 0 rfl rfl) rfl (Nat.le_of_ble_eq_true rfl) dX10_cycles_7 (Nat.le_of_ble_eq_true rfl) (Nat.le_of_ble_eq_true rfl) (Nat.le_refl _) (m_starts (hHas_sub nd (as' := [m, m + 15]) (cs' := [(oC 10 (mF m th tr wa tp sz sp fa fl tk ta sg nu wd lo wv rl rw ht sd ah cl)), (aI 11 f1)]) [0, 5] rfl rfl) (nd_sub nd (as' := [m, m + 15]) [0, 5] rfl rfl)  ?_)
  refine w_heq (hUs_in nd rfl [0, 5] (cs2 := [(oC 10 (mF m th tr wa tp sz sp fa fl tk ta sg nu wd lo wv rl rw ht sd ah cl)), (aI 8 fs), (aI 24 ff), (aI 8 fb), (aZ 8 f3), (aI 11 (stA (nI j) 0 sd)), (aI 11 f2)]) rfl rfl) ?_
  refine w_iconst (v := 0) dX10_cycles_10 (by decide) ?_
  refine w_istore_n (ls2 := [some (.ref m), some (.int (nI j)), some (.int v), some (.int 0), none, none]) dX10_cycles_11 (by decide) rfl rfl ?_
  refine w_iconst (v := (nI 0)) dX10_cycles_12 (by decide) ?_
  refine w_istore (ls2 := [some (.ref m), some (.int (nI j)), some (.int v), some (.int 0), some (.int (nI 0)), none]) dX10_cycles_13 (by decide) rfl rfl ?_
  refine l_cyc1 (ln := ln) (fn := fn) (P := P) nd h8 hLp hGl (fun x1 g1 hg1 => ?_) 3000 0 _ _ rfl (stA_rn _ _ _)
  refine w_iconst (v := (nI 0)) dX10_cycles_42 (by decide) ?_
  refine w_istore (ls2 := [some (.ref m), some (.int (nI j)), some (.int v), some (.int x1), some (.int (nI 0)), none]) dX10_cycles_43 (by decide) rfl rfl ?_
  refine l_cyc2 nd (fun g2 hg2 => ?_) 11 0 _ rfl (fun j hj => absurd hj (Nat.not_lt_zero j))
  refine w_aload_n dX10_cycles_72 rfl ?_
  refine w_iconst (v := 0) dX10_cycles_73 (by decide) ?_
  refine w_put (fs' := (mF m th tr wa tp sz sp fa fl tk ta sg nu wd lo wv rl rw ht sd ah 0)) fX10_318 (hUs_at nd 0 rfl rfl) rfl rfl (Nat.le_of_ble_eq_true rfl) rfl dX10_cycles_74 ?_
  refine w_heq (hUs_set nd rfl 0 (cs' := [(oC 10 (mF m th tr wa tp sz sp fa fl tk ta sg nu wd lo wv rl rw ht sd ah 0)), (aI 8 fs), (aI 24 ff), (aI 8 fb), (aZ 8 f3), (aI 11 g1), (aI 11 g2)]) rfl rfl) ?_
  refine w_iconst (v := 0) dX10_cycles_77 (by decide) ?_
  refine w_istore (ls2 := [some (.ref m), some (.int (nI j)), some (.int v), some (.int x1), some (.int 0), none]) dX10_cycles_78 (by decide) rfl rfl ?_
  have hq0 : mRn g2 (nI j) 0 (nI (3000 + 0)) (qS (lPo (P.2.2.1 j)) v (3000 + 0), sd, qC (lPo (P.2.2.1 j)) v (3000 + 0)) := ⟨(hg2 0 (by omega)).trans hg1.1, (hg2 1 (by omega)).trans hg1.2.1, (hg2 2 (by omega)).trans hg1.2.2.1, (hg2 3 (by omega)).trans hg1.2.2.2.1, (hg2 4 (by omega)).trans hg1.2.2.2.2.1, (hg2 5 (by omega)).trans hg1.2.2.2.2.2.1, (hg2 6 (by omega)).trans hg1.2.2.2.2.2.2.1, (hg2 7 (by omega)).trans hg1.2.2.2.2.2.2.2⟩
  refine l_cyc3 (ln := ln) (fn := fn) (P := P) nd h8 hLp hGl hg1 (fun hno x3 g3 => ?_) (fun c x3 g3 hc1 hc2 hc3 hc4 => ?_) 3000 0 _ _ rfl hq0 (fun k hk hk2 => by omega)
  · refine w_iload dX10_cycles_135 rfl ?_
    refine w_if_ne_f (tgt := 142) dX10_cycles_137 rfl (by decide) ?_
    refine w_iconst (v := 0) dX10_cycles_140 (by decide) ?_
    refine w_zreturn rfl dX10_cycles_141 rfl (Nat.le_of_ble_eq_true rfl) (Nat.le_of_ble_eq_true rfl) ?_
    exact k0 (cyc_none hGl.2.1 hno) _ _ _
  · refine w_iload dX10_cycles_135 rfl ?_
    refine w_if_ne_t (tgt := 142) dX10_cycles_137 rfl (by decide) ?_
    refine w_aload_n dX10_cycles_142 rfl ?_
    refine w_aload_n dX10_cycles_143 rfl ?_
    refine w_get (v := .ref (m + 15)) fX10_58 (hUs_at nd 0 rfl rfl) rfl dX10_cycles_144 ?_
    refine w_iload_n dX10_cycles_147 rfl ?_
    refine w_iconst (v := 0) dX10_cycles_148 (by decide) ?_
    refine w_callV (ci := 10) (d' := d + 1) (mc' := 0) (ms' := 0) (As := [.ref (m + 15), .int (nI j), .int 0]) (st := []) lX10_280 vX10_starts rfl (hUs_at nd 0 rfl rfl) rfl (Nat.le_of_ble_eq_true rfl) dX10_cycles_149 (Nat.le_of_ble_eq_true rfl) (Nat.le_of_ble_eq_true rfl) (Nat.le_refl _) (m_starts (hHas_sub nd (as' := [m, m + 15]) (cs' := [(oC 10 (mF m th tr wa tp sz sp fa fl tk ta sg nu wd lo wv rl rw ht sd ah (nI c))), (aI 11 g1)]) [0, 5] rfl rfl) (nd_sub nd (as' := [m, m + 15]) [0, 5] rfl rfl)  ?_)
    refine w_heq (hUs_in nd rfl [0, 5] (cs2 := [(oC 10 (mF m th tr wa tp sz sp fa fl tk ta sg nu wd lo wv rl rw ht sd ah (nI c))), (aI 8 fs), (aI 24 ff), (aI 8 fb), (aZ 8 f3), (aI 11 (stA (nI j) 0 sd)), (aI 11 g3)]) rfl rfl) ?_
    refine w_aload_n dX10_cycles_152 rfl ?_
    refine w_aload_n dX10_cycles_153 rfl ?_
    refine w_get (v := .ref (m + 16)) fX10_61 (hUs_at nd 0 rfl rfl) rfl dX10_cycles_154 ?_
    refine w_iload_n dX10_cycles_157 rfl ?_
    refine w_iconst (v := 0) dX10_cycles_158 (by decide) ?_
    refine w_callV (ci := 10) (d' := d + 1) (mc' := 0) (ms' := 0) (As := [.ref (m + 16), .int (nI j), .int 0]) (st := []) lX10_280 vX10_starts rfl (hUs_at nd 0 rfl rfl) rfl (Nat.le_of_ble_eq_true rfl) dX10_cycles_159 (Nat.le_of_ble_eq_true rfl) (Nat.le_of_ble_eq_true rfl) (Nat.le_refl _) (m_starts (hHas_sub nd (as' := [m, m + 16]) (cs' := [(oC 10 (mF m th tr wa tp sz sp fa fl tk ta sg nu wd lo wv rl rw ht sd ah (nI c))), (aI 11 g3)]) [0, 6] rfl rfl) (nd_sub nd (as' := [m, m + 16]) [0, 6] rfl rfl)  ?_)
    refine w_heq (hUs_in nd rfl [0, 6] (cs2 := [(oC 10 (mF m th tr wa tp sz sp fa fl tk ta sg nu wd lo wv rl rw ht sd ah (nI c))), (aI 8 fs), (aI 24 ff), (aI 8 fb), (aZ 8 f3), (aI 11 (stA (nI j) 0 sd)), (aI 11 (stA (nI j) 0 sd))]) rfl rfl) ?_
    refine w_iconst (v := (nI 0)) dX10_cycles_162 (by decide) ?_
    refine w_istore (ls2 := [some (.ref m), some (.int (nI j)), some (.int v), some (.int x3), some (.int 1), some (.int (nI 0))]) dX10_cycles_163 (by decide) rfl rfl ?_
    refine l_cyc4 (ln := ln) (fn := fn) (P := P) nd h8 hLp hGl hc2 (fun x4 g4 hg4 => ?_) c 0 _ _ (by omega) (stA_rn _ _ _)
    refine w_aload_n dX10_cycles_193 rfl ?_
    refine w_iconst (v := 0) dX10_cycles_194 (by decide) ?_
    refine w_put (fs' := (mF m th tr wa tp sz sp fa fl tk ta sg nu wd lo wv rl rw ht sd 0 (nI c))) fX10_325 (hUs_at nd 0 rfl rfl) rfl rfl (Nat.le_of_ble_eq_true rfl) rfl dX10_cycles_195 ?_
    refine w_heq (hUs_set nd rfl 0 (cs' := [(oC 10 (mF m th tr wa tp sz sp fa fl tk ta sg nu wd lo wv rl rw ht sd 0 (nI c))), (aI 8 fs), (aI 24 ff), (aI 8 fb), (aZ 8 f3), (aI 11 (stA (nI j) 0 sd)), (aI 11 g4)]) rfl rfl) ?_
    have hF := cyc_same hGl.2.1 hc1 hc2 hc3 hc4
    have hg5 : mRn g4 (nI j) 0 (nI (0 + c)) (qS (lPo (P.2.2.1 j)) v (0 + c), sd, qC (lPo (P.2.2.1 j)) v (0 + c)) := by
      rw [Nat.zero_add]; exact hg4
    refine l_cyc5 (ln := ln) (fn := fn) (P := P) nd h8 hLp hGl hc3 (fun f1 f2 a ha1 ha2 ha3 => k1 hF.1 f1 f2 c a hc1 hc2 hF.2 ha1 ?_ ha3) 3000 0 _ _ _ rfl (stA_rn _ _ _) hg5 rfl
    rw [← ha2, ahF, hF.2, show tN (nI c) = c from nI_clamp (by omega), Nat.zero_add, show cItr (lPo (P.2.2.1 j)) 0 v 0 cS0 = cS0 from rfl]
