/-- lengths of pieces p, p + 1 .. added -/
def sumL (W : wP) : Nat → Nat → Nat
  | 0, _ => 0
  | n + 1, p => tN (W.2.2.2.1 p) + sumL W n (p + 1)
/-- a wave that a text can tell -/
def wGd (W : wP) : Prop := 1 ≤ W.2.2.2.2.1 ∧ W.2.2.2.2.1 ≤ 8 ∧ W.2.2.2.2.2 = sumL W W.2.2.2.2.1 0 ∧ ∀ p, p < W.2.2.2.2.1 → (∃ c, 1 ≤ c ∧ c ≤ 500 ∧ W.2.2.2.1 p = nI c) ∧ (-1000 ≤ W.2.1 p ∧ W.2.1 p ≤ 1000) ∧ (W.1 p = 0 ∨ (W.1 p = 1 ∧ -1000 ≤ W.2.2.1 p ∧ W.2.2.1 p ≤ 1000) ∨ (W.1 p = 2 ∧ ∃ b, 2 ≤ b ∧ b ≤ 99 ∧ W.2.2.1 p = nI b))
/-- a wave in the reference's rows, from the place g on -/
def wAt (W : wP) (g : Nat) (fk fx fy fc : Nat → Int32) : Prop := ∀ p, p < W.2.2.2.2.1 → fk (g + p) = W.1 p ∧ fx (g + p) = W.2.1 p ∧ fc (g + p) = W.2.2.2.1 p ∧ (¬ W.1 p = 0 → fy (g + p) = W.2.2.1 p)
theorem sumL_le (W : wP) (N : Nat) (h : ∀ p, p < N → ∃ c, 1 ≤ c ∧ c ≤ 500 ∧ W.2.2.2.1 p = nI c) : ∀ (n p : Nat), p + n ≤ N → n ≤ sumL W n p ∧ sumL W n p ≤ 500 * n
  | 0, p, _ => ⟨Nat.le_refl _, Nat.le_refl _⟩
  | n + 1, p, e => by
    obtain ⟨c, h1, h2, h3⟩ := h p (by omega)
    have ih := sumL_le W N h n (p + 1) (by omega)
    have e2 : tN (W.2.2.2.1 p) = c := by rw [h3]; exact nI_clamp (by omega)
    rw [sumL, e2]
    omega
theorem wGd_tot {W : wP} (h : wGd W) : 1 ≤ W.2.2.2.2.2 ∧ W.2.2.2.2.2 ≤ 4000 := by
  have := sumL_le W W.2.2.2.2.1 (fun p hp => (h.2.2.2 p hp).1) W.2.2.2.2.1 0 (by omega)
  have h1 := h.1; have h2 := h.2.1; have h3 := h.2.2.1
  omega
set_option maxRecDepth 100000 in
set_option maxHeartbeats 4000000 in
theorem l_longOf {G : wG} {d : Nat} {h : hH} {Q : Option Value → hH → Prop} {m : Nat} {th tr wa tp sz sp fa fl tk ta sg nu : Int32} {wd : Int64} {lo wv rl rw ht sd ah cl : Int32} {fp : Nat → Int32} {fk : Nat → Int32} {fx : Nat → Int32} {fy : Nat → Int32} {fc : Nat → Int32} {w : Nat} {V : wP} (hw : hHas h [m, m + 8, m + 13] [(oC 10 (mF m th tr wa tp sz sp fa fl tk ta sg nu wd lo wv rl rw ht sd ah cl)), (aI 8 fp), (aI 64 fc)]) (hw8 : w < 8) (hfp : fp w = nI V.2.2.2.2.1) (hV : wGd V) (hA : wAt V (8 * w) fk fx fy fc) (k : Q (some (.int (nI V.2.2.2.2.2))) h) : ∀ (n : Nat) (p a : Nat), p + n = V.2.2.2.2.1 → a + sumL V n p = V.2.2.2.2.2 → WP G RX10 cX10_longOf 4 (some .int) false d 0 0 0 0 Q 4 [some (.ref m), some (.int (nI w)), some (.int (nI a)), some (.int (nI p))] [] h := by
  intro n
  induction n with
  | zero =>
    intro p a hi e
    have hv8 := hV.2.1
    refine w_iload_n dX10_longOf_4 rfl ?_
    refine w_aload_n dX10_longOf_5 rfl ?_
    refine w_get (v := .ref (m + 8)) fX10_36 (hw 0 _ _ rfl rfl) rfl dX10_longOf_6 ?_
    refine w_iload_n dX10_longOf_9 rfl ?_
    refine w_ialoadN (hw 1 _ _ rfl rfl) (by omega) (by omega) dX10_longOf_10 ?_
    refine w_top (z := nI V.2.2.2.2.1) hfp ?_
    refine w_icmp_ge_t (tgt := 34) dX10_longOf_11 rfl ((nI_leI (a := V.2.2.2.2.1) (b := p) (by omega) (by omega)).mpr (by omega)) ?_
    refine w_iload_n dX10_longOf_34 rfl ?_
    refine w_ireturn rfl dX10_longOf_35 (Nat.le_of_ble_eq_true rfl) (Nat.le_of_ble_eq_true rfl) ?_
    have z : a = V.2.2.2.2.2 := by rw [sumL] at e; omega
    subst z
    exact k
  | succ n ih =>
    intro p a hi e
    obtain ⟨c9, hc1, hc2, hc3⟩ := (hV.2.2.2 p (by omega)).1
    have hc9 : fc (8 * w + p) = nI c9 := (hA p (by omega)).2.2.1.trans hc3
    have hc4 : tN (V.2.2.2.1 p) = c9 := by rw [hc3]; exact nI_clamp (by omega)
    rw [sumL, hc4] at e
    have hv8 := hV.2.1
    have htt := (wGd_tot hV).2
    refine w_iload_n dX10_longOf_4 rfl ?_
    refine w_aload_n dX10_longOf_5 rfl ?_
    refine w_get (v := .ref (m + 8)) fX10_36 (hw 0 _ _ rfl rfl) rfl dX10_longOf_6 ?_
    refine w_iload_n dX10_longOf_9 rfl ?_
    refine w_ialoadN (hw 1 _ _ rfl rfl) (by omega) (by omega) dX10_longOf_10 ?_
    refine w_top (z := nI V.2.2.2.2.1) hfp ?_
    refine w_icmp_ge_f (tgt := 34) dX10_longOf_11 rfl (fun z => absurd ((nI_leI (a := V.2.2.2.2.1) (b := p) (by omega) (by omega)).mp z) (by omega)) ?_
    refine w_iload_n dX10_longOf_14 rfl ?_
    refine w_aload_n dX10_longOf_15 rfl ?_
    refine w_get (v := .ref (m + 13)) fX10_52 (hw 0 _ _ rfl rfl) rfl dX10_longOf_16 ?_
    refine w_bipush (v := 8) dX10_longOf_19 (by decide) ?_
    refine w_iload_n dX10_longOf_21 rfl ?_
    refine w_imulE (z := nI (8 * w)) dX10_longOf_22 (pk_mul (8) (w)) ?_
    refine w_iload_n dX10_longOf_23 rfl ?_
    refine w_iaddE (z := nI ((8 * w) + p)) dX10_longOf_24 (nI_add ((8 * w)) (p)) ?_
    refine w_ialoadN (hw 2 _ _ rfl rfl) (by omega) (by omega) dX10_longOf_25 ?_
    refine w_top (z := nI c9) hc9 ?_
    refine w_iaddE (z := nI (a + c9)) dX10_longOf_26 (nI_add (a) (c9)) ?_
    refine w_istore_n (ls2 := [some (.ref m), some (.int (nI w)), some (.int (nI (a + c9))), some (.int (nI p))]) dX10_longOf_27 (by decide) rfl rfl ?_
    refine w_iinc (v := nI (p + 1)) (ls2 := [some (.ref m), some (.int (nI w)), some (.int (nI (a + c9))), some (.int (nI (p + 1)))]) dX10_longOf_28 rfl (nI_1 _) (by decide) rfl rfl ?_
    refine w_goto (tgt := 4) dX10_longOf_31 rfl ?_
    exact ih (p + 1) _ (by omega) (by omega)
set_option maxRecDepth 100000 in
set_option maxHeartbeats 4000000 in
theorem m_longOf {G : wG} {d : Nat} {h : hH} {Q : Option Value → hH → Prop} {m : Nat} {th tr wa tp sz sp fa fl tk ta sg nu : Int32} {wd : Int64} {lo wv rl rw ht sd ah cl : Int32} {fp : Nat → Int32} {fk : Nat → Int32} {fx : Nat → Int32} {fy : Nat → Int32} {fc : Nat → Int32} {w : Nat} {V : wP} (hw : hHas h [m, m + 8, m + 13] [(oC 10 (mF m th tr wa tp sz sp fa fl tk ta sg nu wd lo wv rl rw ht sd ah cl)), (aI 8 fp), (aI 64 fc)]) (hw8 : w < 8) (hfp : fp w = nI V.2.2.2.2.1) (hV : wGd V) (hA : wAt V (8 * w) fk fx fy fc) (k : Q (some (.int (nI V.2.2.2.2.2))) h) : Cl G yX10_longOf d 0 0 [.ref m, .int (nI w)] h Q := by
  refine Cl.of (ini := false) kX10_longOf (plainFor_of_name (by decide)) (by decide) (Nat.le_of_ble_eq_true rfl) rfl rfl (fun z => by cases z) ?_
  refine w_iconst (v := (nI 0)) dX10_longOf_0 (by decide) ?_
  refine w_istore_n (ls2 := [some (.ref m), some (.int (nI w)), some (.int (nI 0)), none]) dX10_longOf_1 (by decide) rfl rfl ?_
  refine w_iconst (v := (nI 0)) dX10_longOf_2 (by decide) ?_
  refine w_istore_n (ls2 := [some (.ref m), some (.int (nI w)), some (.int (nI 0)), some (.int (nI 0))]) dX10_longOf_3 (by decide) rfl rfl ?_
  exact l_longOf hw hw8 hfp hV hA k V.2.2.2.2.1 0 0 (by omega) (by rw [Nat.zero_add]; exact hV.2.2.1.symm)
set_option maxRecDepth 100000 in
set_option maxHeartbeats 4000000 in
theorem m_levelIn {G : wG} {d : Nat} {h : hH} {Q : Option Value → hH → Prop} {m : Nat} {th tr wa tp sz sp fa fl tk ta sg nu : Int32} {wd : Int64} {lo wv rl rw ht sd ah cl : Int32} {fk : Nat → Int32} {fx : Nat → Int32} {fy : Nat → Int32} {fc : Nat → Int32} {g p : Nat} {t : Int32} {V : wP} (hw : hHas h [m, m + 10, m + 11, m + 12, m + 13] [(oC 10 (mF m th tr wa tp sz sp fa fl tk ta sg nu wd lo wv rl rw ht sd ah cl)), (aI 64 fk), (aI 64 fx), (aI 64 fy), (aI 64 fc)]) (hg : g < 64) (hG : (∃ c, 1 ≤ c ∧ c ≤ 500 ∧ V.2.2.2.1 p = nI c) ∧ (-1000 ≤ V.2.1 p ∧ V.2.1 p ≤ 1000) ∧ (V.1 p = 0 ∨ (V.1 p = 1 ∧ -1000 ≤ V.2.2.1 p ∧ V.2.2.1 p ≤ 1000) ∨ (V.1 p = 2 ∧ ∃ b, 2 ≤ b ∧ b ≤ 99 ∧ V.2.2.1 p = nI b))) (hk : fk g = V.1 p) (hx : fx g = V.2.1 p) (hc : fc g = V.2.2.2.1 p) (hy : ¬ V.1 p = 0 → fy g = V.2.2.1 p) (k : Q (some (.int (lvlI (V.1 p) (V.2.1 p) (V.2.2.1 p) (V.2.2.2.1 p) t))) h) : Cl G yX10_levelIn (d + 1) 0 0 [.ref m, .int (nI g), .int t] h Q := by
  refine Cl.of (ini := false) kX10_levelIn (plainFor_of_name (by decide)) (by decide) (Nat.le_of_ble_eq_true rfl) rfl rfl (fun z => by cases z) ?_
  have hln : 0 < V.2.2.2.1 p := by
    obtain ⟨c, h1, h2, h3⟩ := hG.1
    rw [h3]; exact nI_lt (a := 0) (by omega) (by omega)
  refine w_aload_n dX10_levelIn_0 rfl ?_
  refine w_get (v := .ref (m + 10)) fX10_43 (hw 0 _ _ rfl rfl) rfl dX10_levelIn_1 ?_
  refine w_iload_n dX10_levelIn_4 rfl ?_
  refine w_ialoadN (hw 1 _ _ rfl rfl) (by omega) (by omega) dX10_levelIn_5 ?_
  refine w_top (z := V.1 p) hk ?_
  refine w_if_ne (tgt := 16) dX10_levelIn_6 rfl (fun b6 => ?_) (fun b6 => ?_)
  · refine w_aload_n dX10_levelIn_16 rfl ?_
    refine w_get (v := .ref (m + 10)) fX10_43 (hw 0 _ _ rfl rfl) rfl dX10_levelIn_17 ?_
    refine w_iload_n dX10_levelIn_20 rfl ?_
    refine w_ialoadN (hw 1 _ _ rfl rfl) (by omega) (by omega) dX10_levelIn_21 ?_
    refine w_top (z := V.1 p) hk ?_
    refine w_iconst (v := 1) dX10_levelIn_22 (by decide) ?_
    refine w_icmp_ne (tgt := 58) dX10_levelIn_23 rfl (fun b23 => ?_) (fun b23 => ?_)
    · obtain ⟨b9, hb1, hb2, hb3⟩ : ∃ b, 2 ≤ b ∧ b ≤ 99 ∧ V.2.2.1 p = nI b := by
        rcases hG.2.2 with z | z | z
        · exact absurd z b6
        · exact absurd z.1 b23
        · exact z.2
      have hk2 : V.1 p = 2 := by
        rcases hG.2.2 with z | z | z
        · exact absurd z b6
        · exact absurd z.1 b23
        · exact z.1
      have hb0 : 0 < V.2.2.1 p := by rw [hb3]; exact nI_lt (a := 0) (by omega) (by omega)
      refine w_iload_n dX10_levelIn_58 rfl ?_
      refine w_aload_n dX10_levelIn_59 rfl ?_
      refine w_get (v := .ref (m + 12)) fX10_49 (hw 0 _ _ rfl rfl) rfl dX10_levelIn_60 ?_
      refine w_iload_n dX10_levelIn_63 rfl ?_
      refine w_ialoadN (hw 3 _ _ rfl rfl) (by omega) (by omega) dX10_levelIn_64 ?_
      refine w_top (z := V.2.2.1 p) (hy b6) ?_
      refine w_irem dX10_levelIn_65 (fun z => by rw [z] at hb0; exact absurd hb0 (by decide)) ?_
      refine w_istore_n (ls2 := [some (.ref m), some (.int (nI g)), some (.int t), some (.int (t - t / (V.2.2.1 p) * (V.2.2.1 p))), none]) dX10_levelIn_66 (by decide) rfl rfl ?_
      refine w_aload_n dX10_levelIn_67 rfl ?_
      refine w_get (v := .ref (m + 12)) fX10_49 (hw 0 _ _ rfl rfl) rfl dX10_levelIn_68 ?_
      refine w_iload_n dX10_levelIn_71 rfl ?_
      refine w_ialoadN (hw 3 _ _ rfl rfl) (by omega) (by omega) dX10_levelIn_72 ?_
      refine w_top (z := V.2.2.1 p) (hy b6) ?_
      refine w_iload_n dX10_levelIn_73 rfl ?_
      refine w_isub dX10_levelIn_74 ?_
      refine w_iload_n dX10_levelIn_75 rfl ?_
      refine w_icmp_ge (tgt := 90) dX10_levelIn_76 rfl (fun b76 => ?_) (fun b76 => ?_)
      · refine w_iload_n dX10_levelIn_90 rfl ?_
        refine w_istore (ls2 := [some (.ref m), some (.int (nI g)), some (.int t), some (.int (t - t / (V.2.2.1 p) * (V.2.2.1 p))), some (.int (t - t / (V.2.2.1 p) * (V.2.2.1 p)))]) dX10_levelIn_91 (by decide) rfl rfl ?_
        refine w_aload_n dX10_levelIn_93 rfl ?_
        refine w_get (v := .ref (m + 11)) fX10_46 (hw 0 _ _ rfl rfl) rfl dX10_levelIn_94 ?_
        refine w_iload_n dX10_levelIn_97 rfl ?_
        refine w_ialoadN (hw 2 _ _ rfl rfl) (by omega) (by omega) dX10_levelIn_98 ?_
        refine w_top (z := V.2.1 p) hx ?_
        refine w_aload_n dX10_levelIn_99 rfl ?_
        refine w_get (v := .ref (m + 12)) fX10_49 (hw 0 _ _ rfl rfl) rfl dX10_levelIn_100 ?_
        refine w_iload_n dX10_levelIn_103 rfl ?_
        refine w_ialoadN (hw 3 _ _ rfl rfl) (by omega) (by omega) dX10_levelIn_104 ?_
        refine w_top (z := V.2.2.1 p) (hy b6) ?_
        refine w_iconst (v := 4) dX10_levelIn_105 (by decide) ?_
        refine w_iload dX10_levelIn_106 rfl ?_
        refine w_imul dX10_levelIn_108 ?_
        refine w_isub dX10_levelIn_109 ?_
        refine w_imul dX10_levelIn_110 ?_
        refine w_aload_n dX10_levelIn_111 rfl ?_
        refine w_get (v := .ref (m + 12)) fX10_49 (hw 0 _ _ rfl rfl) rfl dX10_levelIn_112 ?_
        refine w_iload_n dX10_levelIn_115 rfl ?_
        refine w_ialoadN (hw 3 _ _ rfl rfl) (by omega) (by omega) dX10_levelIn_116 ?_
        refine w_top (z := V.2.2.1 p) (hy b6) ?_
        refine w_callS (d' := d) (mc' := 0) (ms' := 0) (As := [.int ((V.2.1 p) * ((V.2.2.1 p) - (4 * (t - t / (V.2.2.1 p) * (V.2.2.1 p))))), .int (V.2.2.1 p)]) (st := []) lX10_254 vX10_down rfl (Nat.le_of_ble_eq_true rfl) dX10_levelIn_117 (Nat.le_of_ble_eq_true rfl) (Nat.le_of_ble_eq_true rfl) (Nat.le_refl _) (c_down hb0 ?_)
        refine w_ireturn rfl dX10_levelIn_120 (Nat.le_of_ble_eq_true rfl) (Nat.le_of_ble_eq_true rfl) ?_
        have e : lvlI (V.1 p) (V.2.1 p) (V.2.2.1 p) (V.2.2.2.1 p) t = fdvI ((V.2.1 p) * ((V.2.2.1 p) - (4 * (t - t / (V.2.2.1 p) * (V.2.2.1 p))))) (V.2.2.1 p) := by
          rw [lvlI, if_neg (fun z => b23 z.1), if_pos ⟨hk2, hb0⟩, mnI, if_neg (Int32.not_lt.mpr b76)]
        rw [e] at k
        exact k
      · refine w_aload_n dX10_levelIn_79 rfl ?_
        refine w_get (v := .ref (m + 12)) fX10_49 (hw 0 _ _ rfl rfl) rfl dX10_levelIn_80 ?_
        refine w_iload_n dX10_levelIn_83 rfl ?_
        refine w_ialoadN (hw 3 _ _ rfl rfl) (by omega) (by omega) dX10_levelIn_84 ?_
        refine w_top (z := V.2.2.1 p) (hy b6) ?_
        refine w_iload_n dX10_levelIn_85 rfl ?_
        refine w_isub dX10_levelIn_86 ?_
        refine w_goto (tgt := 91) dX10_levelIn_87 rfl ?_
        refine w_istore (ls2 := [some (.ref m), some (.int (nI g)), some (.int t), some (.int (t - t / (V.2.2.1 p) * (V.2.2.1 p))), some (.int ((V.2.2.1 p) - (t - t / (V.2.2.1 p) * (V.2.2.1 p))))]) dX10_levelIn_91 (by decide) rfl rfl ?_
        refine w_aload_n dX10_levelIn_93 rfl ?_
        refine w_get (v := .ref (m + 11)) fX10_46 (hw 0 _ _ rfl rfl) rfl dX10_levelIn_94 ?_
        refine w_iload_n dX10_levelIn_97 rfl ?_
        refine w_ialoadN (hw 2 _ _ rfl rfl) (by omega) (by omega) dX10_levelIn_98 ?_
        refine w_top (z := V.2.1 p) hx ?_
        refine w_aload_n dX10_levelIn_99 rfl ?_
        refine w_get (v := .ref (m + 12)) fX10_49 (hw 0 _ _ rfl rfl) rfl dX10_levelIn_100 ?_
        refine w_iload_n dX10_levelIn_103 rfl ?_
        refine w_ialoadN (hw 3 _ _ rfl rfl) (by omega) (by omega) dX10_levelIn_104 ?_
        refine w_top (z := V.2.2.1 p) (hy b6) ?_
        refine w_iconst (v := 4) dX10_levelIn_105 (by decide) ?_
        refine w_iload dX10_levelIn_106 rfl ?_
        refine w_imul dX10_levelIn_108 ?_
        refine w_isub dX10_levelIn_109 ?_
        refine w_imul dX10_levelIn_110 ?_
        refine w_aload_n dX10_levelIn_111 rfl ?_
        refine w_get (v := .ref (m + 12)) fX10_49 (hw 0 _ _ rfl rfl) rfl dX10_levelIn_112 ?_
        refine w_iload_n dX10_levelIn_115 rfl ?_
        refine w_ialoadN (hw 3 _ _ rfl rfl) (by omega) (by omega) dX10_levelIn_116 ?_
        refine w_top (z := V.2.2.1 p) (hy b6) ?_
        refine w_callS (d' := d) (mc' := 0) (ms' := 0) (As := [.int ((V.2.1 p) * ((V.2.2.1 p) - (4 * ((V.2.2.1 p) - (t - t / (V.2.2.1 p) * (V.2.2.1 p)))))), .int (V.2.2.1 p)]) (st := []) lX10_254 vX10_down rfl (Nat.le_of_ble_eq_true rfl) dX10_levelIn_117 (Nat.le_of_ble_eq_true rfl) (Nat.le_of_ble_eq_true rfl) (Nat.le_refl _) (c_down hb0 ?_)
        refine w_ireturn rfl dX10_levelIn_120 (Nat.le_of_ble_eq_true rfl) (Nat.le_of_ble_eq_true rfl) ?_
        have e : lvlI (V.1 p) (V.2.1 p) (V.2.2.1 p) (V.2.2.2.1 p) t = fdvI ((V.2.1 p) * ((V.2.2.1 p) - (4 * ((V.2.2.1 p) - (t - t / (V.2.2.1 p) * (V.2.2.1 p)))))) (V.2.2.1 p) := by
          rw [lvlI, if_neg (fun z => b23 z.1), if_pos ⟨hk2, hb0⟩, mnI, if_pos (Int32.not_le.mp b76)]
        rw [e] at k
        exact k
    · refine w_aload_n dX10_levelIn_26 rfl ?_
      refine w_get (v := .ref (m + 11)) fX10_46 (hw 0 _ _ rfl rfl) rfl dX10_levelIn_27 ?_
      refine w_iload_n dX10_levelIn_30 rfl ?_
      refine w_ialoadN (hw 2 _ _ rfl rfl) (by omega) (by omega) dX10_levelIn_31 ?_
      refine w_top (z := V.2.1 p) hx ?_
      refine w_aload_n dX10_levelIn_32 rfl ?_
      refine w_get (v := .ref (m + 12)) fX10_49 (hw 0 _ _ rfl rfl) rfl dX10_levelIn_33 ?_
      refine w_iload_n dX10_levelIn_36 rfl ?_
      refine w_ialoadN (hw 3 _ _ rfl rfl) (by omega) (by omega) dX10_levelIn_37 ?_
      refine w_top (z := V.2.2.1 p) (hy b6) ?_
      refine w_aload_n dX10_levelIn_38 rfl ?_
      refine w_get (v := .ref (m + 11)) fX10_46 (hw 0 _ _ rfl rfl) rfl dX10_levelIn_39 ?_
      refine w_iload_n dX10_levelIn_42 rfl ?_
      refine w_ialoadN (hw 2 _ _ rfl rfl) (by omega) (by omega) dX10_levelIn_43 ?_
      refine w_top (z := V.2.1 p) hx ?_
      refine w_isub dX10_levelIn_44 ?_
      refine w_iload_n dX10_levelIn_45 rfl ?_
      refine w_imul dX10_levelIn_46 ?_
      refine w_aload_n dX10_levelIn_47 rfl ?_
      refine w_get (v := .ref (m + 13)) fX10_52 (hw 0 _ _ rfl rfl) rfl dX10_levelIn_48 ?_
      refine w_iload_n dX10_levelIn_51 rfl ?_
      refine w_ialoadN (hw 4 _ _ rfl rfl) (by omega) (by omega) dX10_levelIn_52 ?_
      refine w_top (z := V.2.2.2.1 p) hc ?_
      refine w_callS (d' := d) (mc' := 0) (ms' := 0) (As := [.int (((V.2.2.1 p) - (V.2.1 p)) * t), .int (V.2.2.2.1 p)]) (st := [.int (V.2.1 p)]) lX10_254 vX10_down rfl (Nat.le_of_ble_eq_true rfl) dX10_levelIn_53 (Nat.le_of_ble_eq_true rfl) (Nat.le_of_ble_eq_true rfl) (Nat.le_refl _) (c_down hln ?_)
      refine w_iadd dX10_levelIn_56 ?_
      refine w_ireturn rfl dX10_levelIn_57 (Nat.le_of_ble_eq_true rfl) (Nat.le_of_ble_eq_true rfl) ?_
      have e : lvlI (V.1 p) (V.2.1 p) (V.2.2.1 p) (V.2.2.2.1 p) t = (V.2.1 p) + (fdvI (((V.2.2.1 p) - (V.2.1 p)) * t) (V.2.2.2.1 p)) := by
        rw [lvlI, if_pos ⟨b23, hln⟩]
      rw [e] at k
      exact k
  · refine w_aload_n dX10_levelIn_9 rfl ?_
    refine w_get (v := .ref (m + 11)) fX10_46 (hw 0 _ _ rfl rfl) rfl dX10_levelIn_10 ?_
    refine w_iload_n dX10_levelIn_13 rfl ?_
    refine w_ialoadN (hw 2 _ _ rfl rfl) (by omega) (by omega) dX10_levelIn_14 ?_
    refine w_top (z := V.2.1 p) hx ?_
    refine w_ireturn rfl dX10_levelIn_15 (Nat.le_of_ble_eq_true rfl) (Nat.le_of_ble_eq_true rfl) ?_
    have e : lvlI (V.1 p) (V.2.1 p) (V.2.2.1 p) (V.2.2.2.1 p) t = V.2.1 p := by
      rw [lvlI, if_neg (fun z => absurd (b6.symm.trans z.1) (by decide)), if_neg (fun z => absurd (b6.symm.trans z.1) (by decide))]
    rw [e] at k
    exact k
set_option maxRecDepth 100000 in
set_option maxHeartbeats 4000000 in
theorem l_levelOf {G : wG} {d : Nat} {h : hH} {Q : Option Value → hH → Prop} {m : Nat} {th tr wa tp sz sp fa fl tk ta sg nu : Int32} {wd : Int64} {lo wv rl rw ht sd ah cl : Int32} {fp : Nat → Int32} {fk : Nat → Int32} {fx : Nat → Int32} {fy : Nat → Int32} {fc : Nat → Int32} {w : Nat} {t : Int32} {V : wP} (hw : hHas h [m, m + 8, m + 10, m + 11, m + 12, m + 13] [(oC 10 (mF m th tr wa tp sz sp fa fl tk ta sg nu wd lo wv rl rw ht sd ah cl)), (aI 8 fp), (aI 64 fk), (aI 64 fx), (aI 64 fy), (aI 64 fc)]) (hw8 : w < 8) (hfp : fp w = nI V.2.2.2.2.1) (hV : wGd V) (hA : wAt V (8 * w) fk fx fy fc) : ∀ (n : Nat) (p r : Nat), p + n = V.2.2.2.2.1 → r < sumL V n p → Q (some (.int (lvlG V n p (nI r)))) h → WP G RX10 cX10_levelOf 5 (some .int) false (d + 2) 0 0 0 0 Q 14 [some (.ref m), some (.int (nI w)), some (.int t), some (.int (nI r)), some (.int (nI (8 * w + p)))] [] h := by
  intro n
  induction n with
  | zero =>
    intro p r hi e k
    exact absurd e (Nat.not_lt_zero r)
  | succ n ih =>
    intro p r hi e k
    obtain ⟨c9, hc1, hc2, hc3⟩ := (hV.2.2.2 p (by omega)).1
    have hc9 : fc (8 * w + p) = nI c9 := (hA p (by omega)).2.2.1.trans hc3
    have hc4 : tN (V.2.2.2.1 p) = c9 := by rw [hc3]; exact nI_clamp (by omega)
    rw [sumL, hc4] at e
    have hv8 := hV.2.1
    have hs9 := sumL_le V V.2.2.2.2.1 (fun p hp => (hV.2.2.2 p hp).1) n (p + 1) (by omega)
    refine w_iload_n dX10_levelOf_14 rfl ?_
    refine w_aload_n dX10_levelOf_15 rfl ?_
    refine w_get (v := .ref (m + 13)) fX10_52 (hw 0 _ _ rfl rfl) rfl dX10_levelOf_16 ?_
    refine w_iload dX10_levelOf_19 rfl ?_
    refine w_ialoadN (hw 5 _ _ rfl rfl) (by omega) (by omega) dX10_levelOf_21 ?_
    refine w_top (z := nI c9) hc9 ?_
    refine w_icmp_lt (tgt := 41) dX10_levelOf_22 rfl (fun b22 => ?_) (fun b22 => ?_)
    · have b22 := (nI_ltI (a := r) (b := c9) (by omega) (by omega)).mp b22
      refine w_aload_n dX10_levelOf_41 rfl ?_
      refine w_iload dX10_levelOf_42 rfl ?_
      refine w_iload_n dX10_levelOf_44 rfl ?_
      refine w_callV (ci := 10) (d' := d + 1) (mc' := 0) (ms' := 0) (As := [.int (nI (8 * w + p)), .int (nI r)]) (st := []) lX10_260 vX10_levelIn rfl (hw 0 _ _ rfl rfl) rfl (Nat.le_of_ble_eq_true rfl) dX10_levelOf_45 (Nat.le_of_ble_eq_true rfl) (Nat.le_of_ble_eq_true rfl) (Nat.le_refl _) (m_levelIn (V := V) (p := p) (hHas_s hw (as' := [m, m + 10, m + 11, m + 12, m + 13]) (cs' := [(oC 10 (mF m th tr wa tp sz sp fa fl tk ta sg nu wd lo wv rl rw ht sd ah cl)), (aI 64 fk), (aI 64 fx), (aI 64 fy), (aI 64 fc)]) [0, 2, 3, 4, 5] rfl rfl) (by omega) (hV.2.2.2 p (by omega)) (hA p (by omega)).1 (hA p (by omega)).2.1 (hA p (by omega)).2.2.1 (hA p (by omega)).2.2.2 ?_)
      refine w_ireturn rfl dX10_levelOf_48 (Nat.le_of_ble_eq_true rfl) (Nat.le_of_ble_eq_true rfl) ?_
      rw [lvlG, if_pos (by rw [hc3]; exact (nI_ltI (by omega) (by omega)).mpr b22)] at k
      exact k
    · have b22 : ¬ r < c9 := fun z => b22 ((nI_ltI (a := r) (b := c9) (by omega) (by omega)).mpr z)
      refine w_iload_n dX10_levelOf_25 rfl ?_
      refine w_aload_n dX10_levelOf_26 rfl ?_
      refine w_get (v := .ref (m + 13)) fX10_52 (hw 0 _ _ rfl rfl) rfl dX10_levelOf_27 ?_
      refine w_iload dX10_levelOf_30 rfl ?_
      refine w_ialoadN (hw 5 _ _ rfl rfl) (by omega) (by omega) dX10_levelOf_32 ?_
      refine w_top (z := nI c9) hc9 ?_
      refine w_isubE (z := nI (r - c9)) dX10_levelOf_33 (pk_sub (a := r) (b := c9) (by omega)) ?_
      refine w_istore_n (ls2 := [some (.ref m), some (.int (nI w)), some (.int t), some (.int (nI (r - c9))), some (.int (nI (8 * w + p)))]) dX10_levelOf_34 (by decide) rfl rfl ?_
      refine w_iinc (v := nI ((8 * w + p) + 1)) (ls2 := [some (.ref m), some (.int (nI w)), some (.int t), some (.int (nI (r - c9))), some (.int (nI ((8 * w + p) + 1)))]) dX10_levelOf_35 rfl (nI_1 _) (by decide) rfl rfl ?_
      refine w_goto (tgt := 14) dX10_levelOf_38 rfl ?_
      rw [lvlG, if_neg (by rw [hc3]; exact fun z => b22 ((nI_ltI (by omega) (by omega)).mp z)), hc3, pk_sub (by omega)] at k
      exact ih (p + 1) _ (by omega) (by omega) k
set_option maxRecDepth 100000 in
set_option maxHeartbeats 4000000 in
theorem m_levelOf {G : wG} {d : Nat} {h : hH} {Q : Option Value → hH → Prop} {m : Nat} {th tr wa tp sz sp fa fl tk ta sg nu : Int32} {wd : Int64} {lo wv rl rw ht sd ah cl : Int32} {fp : Nat → Int32} {fk : Nat → Int32} {fx : Nat → Int32} {fy : Nat → Int32} {fc : Nat → Int32} {w : Nat} {t : Int32} {V : wP} (hw : hHas h [m, m + 8, m + 10, m + 11, m + 12, m + 13] [(oC 10 (mF m th tr wa tp sz sp fa fl tk ta sg nu wd lo wv rl rw ht sd ah cl)), (aI 8 fp), (aI 64 fk), (aI 64 fx), (aI 64 fy), (aI 64 fc)]) (hw8 : w < 8) (hfp : fp w = nI V.2.2.2.2.1) (hV : wGd V) (hA : wAt V (8 * w) fk fx fy fc) (ht0 : 0 ≤ t) (k : Q (some (.int (lvlT V t))) h) : Cl G yX10_levelOf (d + 2) 0 0 [.ref m, .int (nI w), .int t] h Q := by
  refine Cl.of (ini := false) kX10_levelOf (plainFor_of_name (by decide)) (by decide) (Nat.le_of_ble_eq_true rfl) rfl rfl (fun z => by cases z) ?_
  have htt := wGd_tot hV
  have hL0 : 0 < nI V.2.2.2.2.2 := nI_lt (a := 0) (by omega) (by omega)
  refine w_iload_n dX10_levelOf_0 rfl ?_
  refine w_aload_n dX10_levelOf_1 rfl ?_
  refine w_iload_n dX10_levelOf_2 rfl ?_
  refine w_callV (ci := 10) (d' := d + 1) (mc' := 0) (ms' := 0) (As := [.int (nI w)]) (st := [.int t]) lX10_257 vX10_longOf rfl (hw 0 _ _ rfl rfl) rfl (Nat.le_of_ble_eq_true rfl) dX10_levelOf_3 (Nat.le_of_ble_eq_true rfl) (Nat.le_of_ble_eq_true rfl) (Nat.le_refl _) (m_longOf (hHas_s hw (as' := [m, m + 8, m + 13]) (cs' := [(oC 10 (mF m th tr wa tp sz sp fa fl tk ta sg nu wd lo wv rl rw ht sd ah cl)), (aI 8 fp), (aI 64 fc)]) [0, 1, 5] rfl rfl) (V := V) hw8 hfp hV hA ?_)
  refine w_irem dX10_levelOf_6 (fun z => by rw [z] at hL0; exact absurd hL0 (by decide)) ?_
  obtain ⟨r9, hr9, hr8⟩ : ∃ r, r < V.2.2.2.2.2 ∧ fmdI t (nI V.2.2.2.2.2) = nI r := by
    obtain ⟨T, hT, rfl⟩ := nI_of (Int32.not_lt.mpr ht0)
    exact ⟨T % V.2.2.2.2.2, Nat.mod_lt _ (by omega), by rw [fmd_nn ht0 hL0]; exact pk_rem hT (by omega) (by omega)⟩
  refine w_top (z := nI r9) (by rw [← hr8, fmd_nn ht0 hL0]) ?_
  refine w_istore_n (ls2 := [some (.ref m), some (.int (nI w)), some (.int t), some (.int (nI r9)), none]) dX10_levelOf_7 (by decide) rfl rfl ?_
  refine w_bipush (v := 8) dX10_levelOf_8 (by decide) ?_
  refine w_iload_n dX10_levelOf_10 rfl ?_
  refine w_imulE (z := nI (8 * w)) dX10_levelOf_11 (pk_mul (8) (w)) ?_
  refine w_istore (ls2 := [some (.ref m), some (.int (nI w)), some (.int t), some (.int (nI r9)), some (.int (nI (8 * w)))]) dX10_levelOf_12 (by decide) rfl rfl ?_
  rw [lvlT, if_pos (by omega), hr8] at k
  exact l_levelOf hw hw8 hfp hV hA V.2.2.2.2.1 0 r9 (by omega) (by rw [← hV.2.2.1]; exact hr9) k
