def anyL (f : Nat → Int64) (w : Int64) : Nat → Nat → Bool
  | 0, _ => false
  | n + 1, i => (f (4 + i) == w) || anyL f w n (i + 1)
def aS (f : Nat → Int64) (w : Int64) (n i : Nat) (s : pS) : pS := if anyL f w n i = true then flS 3 s else s
theorem flS_2 (s : pS) : flS 3 (flS 3 s) = flS 3 s := by
  cases s <;> rfl
theorem aS_0 (f : Nat → Int64) (w : Int64) (i : Nat) (s : pS) : aS f w 0 i s = s := rfl
theorem aS_n {f : Nat → Int64} {w : Int64} {n i : Nat} {s : pS} (h : ¬ f (4 + i) = w) : aS f w (n + 1) i s = aS f w n (i + 1) s := by
  unfold aS
  rw [anyL, beq_eq_false_iff_ne.mpr h, Bool.false_or]
theorem aS_y {f : Nat → Int64} {w : Int64} {n i : Nat} {s : pS} (h : f (4 + i) = w) : aS f w (n + 1) i s = aS f w n (i + 1) (flS 3 s) := by
  unfold aS
  rw [anyL, beq_iff_eq.mpr h, Bool.true_or, if_pos rfl, flS_2]
  split <;> rfl
theorem aS_r (f : Nat → Int64) (w : Int64) (n i : Nat) (b : Int32 × Int32) : aS f w n i (.inr b) = .inr b := by
  unfold aS
  split <;> rfl
def nwS (ft : Nat → Int32) (P : pD) (s : pS) : pS := match s with
  | .inl x => rcS (rNm ft P x)
  | .inr b => .inr b
def n1S (s : pS) : pS := match s with
  | .inl x => if x.2.2.1 = 1 ∧ rRs x.2.2.1 x.2.2.2.2.1 = 0 then .inl x else .inr (1, nI x.2.2.2.1)
  | .inr b => .inr b
def hNm (P : pD) (ln wn : Nat → Int64) (nl nw : Nat) : Prop := ∀ v, nmOk v → (hasN P v 4 0 = 0 ↔ (anyL ln (nmX v) nl 0 = false ∧ anyL wn (nmX v) nw 0 = false))
def tnS (s : pS) (v : Int64) : Prop := ∀ y, s = .inl y → nmOk y.2.2.2.2.2.1 ∧ v = nmX y.2.2.2.2.2.1
theorem nw_eq {ft : Nat → Int32} {P : pD} {ln wn : Nat → Int64} {nl nw : Nat} {s : pS} {E : Nat} {sp fa fl tk ta sg nu : Int32} {wd : Int64} (hN : hNm P ln wn nl nw) (hp : pR s E sp fa fl tk ta sg nu wd) {E2 : Nat} {sp2 fa2 fl2 tk2 ta2 sg2 nu2 : Int32} {wd2 : Int64} (h : pR (gS ft (aS wn wd nw 0 (aS ln wd nl 0 (n1S s)))) E2 sp2 fa2 fl2 tk2 ta2 sg2 nu2 wd2) : pR (nwS ft P s) E2 sp2 fa2 fl2 tk2 ta2 sg2 nu2 wd2 ∧ tnS (nwS ft P s) wd := by
  cases s with
  | inr b =>
    rw [show n1S (.inr b) = .inr b from rfl, aS_r, aS_r] at h
    exact ⟨h, fun y z => by cases z⟩
  | inl x =>
    by_cases e : x.2.2.1 = 1 ∧ rRs x.2.2.1 x.2.2.2.2.1 = 0
    · have hw := (tkR_w hp.2.2.2).2.1 e.1
      rw [show n1S (.inl x) = .inl x from if_pos e, hw.2] at h
      have hn := hN x.2.2.2.2.1 hw.1
      show pR (rcS (rNm ft P x)) _ _ _ _ _ _ _ _ _ ∧ tnS (rcS (rNm ft P x)) wd
      by_cases z : hasN P x.2.2.2.2.1 4 0 = 0
      · have a := hn.mp z
        rw [aS, a.2, aS, a.1] at h
        have e2 : rNm ft P x = (1, rStp ft (rTk x x.2.2.2.2.1)) := by rw [rNm, if_pos e, if_pos z]
        rw [e2, show rcS (1, rStp ft (rTk x x.2.2.2.2.1)) = .inl (rStp ft (rTk x x.2.2.2.2.1)) from rfl, rStp_t9]
        refine ⟨pR_tk h, fun y q => ?_⟩
        cases q
        exact ⟨hw.1, hw.2⟩
      · have e2 : rNm ft P x = (0, rFl x 3 (nI x.2.2.2.1)) := by rw [rNm, if_pos e, if_neg z]
        rw [e2, show rcS (0, rFl x 3 (nI x.2.2.2.1)) = .inr (3, nI x.2.2.2.1) from rfl]
        refine ⟨?_, fun y q => by cases q⟩
        have h2 : aS wn (nmX x.2.2.2.2.1) nw 0 (aS ln (nmX x.2.2.2.2.1) nl 0 (.inl x)) = .inr (3, nI x.2.2.2.1) := by
          by_cases c1 : anyL ln (nmX x.2.2.2.2.1) nl 0 = true
          · rw [show aS ln (nmX x.2.2.2.2.1) nl 0 (.inl x) = .inr (3, nI x.2.2.2.1) from if_pos c1, aS_r]
          · rw [show aS ln (nmX x.2.2.2.2.1) nl 0 (.inl x) = .inl x from if_neg c1]
            have c2 : anyL wn (nmX x.2.2.2.2.1) nw 0 = true := by
              cases c3 : anyL wn (nmX x.2.2.2.2.1) nw 0 with
              | true => rfl
              | false => exact absurd (hn.mpr ⟨by simpa using c1, c3⟩) z
            exact if_pos c2
        rw [h2] at h
        exact h
    · rw [show n1S (.inl x) = .inr (1, nI x.2.2.2.1) from if_neg e, aS_r, aS_r] at h
      have e2 : rNm ft P x = (0, rFl x 1 (nI x.2.2.2.1)) := by rw [rNm, if_neg e]
      show pR (rcS (rNm ft P x)) _ _ _ _ _ _ _ _ _ ∧ tnS (rcS (rNm ft P x)) wd
      rw [e2]
      exact ⟨h, fun y q => by cases q⟩
set_option maxRecDepth 100000 in
set_option maxHeartbeats 4000000 in
theorem l_new1 {G : wG} {d : Nat} {h : hH} {Q : Option Value → hH → Prop} {m : Nat} {th tr wa tp sp tk ta sg nu : Int32} {wd : Int64} {lo wv ht sd ah cl : Int32} {gt : Nat → Int32} {E : Nat} {ln : Nat → Int64} {wn : Nat → Int64} {nl nw : Nat} {R9 : pS} (nd : [m, m + 1, m + 2, m + 3].Nodup) (hn : nl ≤ 4) (k : ∀ fa fl : Int32, pR R9 E sp fa fl tk ta sg nu wd → WP G RX10 cX10_readNew 3 (some .long) false (d + 9) 0 0 0 0 Q 64 [some (.ref m), none, none] [] (hUs h [m, m + 1, m + 2, m + 3] [(oC 10 (mF m th tr wa tp (nI E) sp fa fl tk ta sg nu wd lo wv (nI nl) (nI nw) ht sd ah cl)), (aI 600 gt), (aL 8 ln), (aL 8 wn)])) : ∀ (n : Nat) (i : Nat) (s : pS) (fa fl : Int32), i + n = nl → pR s E sp fa fl tk ta sg nu wd → aS ln wd n i s = R9 → WP G RX10 cX10_readNew 3 (some .long) false (d + 9) 0 0 0 0 Q 29 [some (.ref m), some (.int (nI i)), none] [] (hUs h [m, m + 1, m + 2, m + 3] [(oC 10 (mF m th tr wa tp (nI E) sp fa fl tk ta sg nu wd lo wv (nI nl) (nI nw) ht sd ah cl)), (aI 600 gt), (aL 8 ln), (aL 8 wn)]) := by
  intro n
  induction n with
  | zero =>
    intro i s fa fl hi hp e
    refine w_iload_n dX10_readNew_29 rfl ?_
    refine w_aload_n dX10_readNew_30 rfl ?_
    refine w_get (v := .int (nI nl)) fX10_199 (hUs_at nd 0 rfl rfl) rfl dX10_readNew_31 ?_
    refine w_icmp_ge_t (tgt := 64) dX10_readNew_34 rfl ((nI_leI (a := nl) (b := i) (by omega) (by omega)).mpr (by omega)) ?_
    refine w_less (ls2 := [some (.ref m), none, none]) ⟨Or.inr rfl, Or.inl rfl, Or.inl rfl, trivial⟩ ?_
    rw [aS_0] at e
    rw [← e] at k
    exact k _ _ hp
  | succ n ih =>
    intro i s fa fl hi hp e
    refine w_iload_n dX10_readNew_29 rfl ?_
    refine w_aload_n dX10_readNew_30 rfl ?_
    refine w_get (v := .int (nI nl)) fX10_199 (hUs_at nd 0 rfl rfl) rfl dX10_readNew_31 ?_
    refine w_icmp_ge_f (tgt := 64) dX10_readNew_34 rfl (fun z => absurd ((nI_leI (a := nl) (b := i) (by omega) (by omega)).mp z) (by omega)) ?_
    refine w_aload_n dX10_readNew_37 rfl ?_
    refine w_get (v := .ref (m + 2)) fX10_17 (hUs_at nd 0 rfl rfl) rfl dX10_readNew_38 ?_
    refine w_iconst (v := 4) dX10_readNew_41 (by decide) ?_
    refine w_iload_n dX10_readNew_42 rfl ?_
    refine w_iaddE (z := nI (4 + i)) dX10_readNew_43 (nI_add (4) (i)) ?_
    refine w_laloadN (hUs_at nd 2 rfl rfl) (by omega) (by omega) dX10_readNew_44 ?_
    refine w_aload_n dX10_readNew_45 rfl ?_
    refine w_get (v := .long wd) fX10_125 (hUs_at nd 0 rfl rfl) rfl dX10_readNew_46 ?_
    refine w_lcmp dX10_readNew_49 ?_
    refine w_if_ne (tgt := 58) dX10_readNew_50 rfl (fun b50 => ?_) (fun b50 => ?_)
    · refine w_iinc (v := nI (i + 1)) (ls2 := [some (.ref m), some (.int (nI (i + 1))), none]) dX10_readNew_58 rfl (nI_1 _) (by decide) rfl rfl ?_
      refine w_goto (tgt := 29) dX10_readNew_61 rfl ?_
      rw [aS_n (fun z => b50 ((lg_cmp_eq _ _).mpr z))] at e
      exact ih (i + 1) s _ _ (by omega) hp e
    · refine w_aload_n dX10_readNew_53 rfl ?_
      refine w_iconst (v := 3) dX10_readNew_54 (by decide) ?_
      refine w_callV (ci := 10) (d' := d + 8) (mc' := 0) (ms' := 0) (As := [.int 3]) (st := []) lX10_160 vX10_flaw rfl (hUs_at nd 0 rfl rfl) rfl (Nat.le_of_ble_eq_true rfl) dX10_readNew_55 (Nat.le_of_ble_eq_true rfl) (Nat.le_of_ble_eq_true rfl) (Nat.le_refl _) (m_flaw (s := s) (hHas_sub nd (as' := [m]) (cs' := [(oC 10 (mF m th tr wa tp (nI E) sp fa fl tk ta sg nu wd lo wv (nI nl) (nI nw) ht sd ah cl))]) [0] rfl rfl) (nd_sub nd (as' := [m]) [0] rfl rfl) (by decide) hp (fun fa1 fl1 hp1 => ?_))
      refine w_heq (hUs_in nd rfl [0] (cs2 := [(oC 10 (mF m th tr wa tp (nI E) sp fa1 fl1 tk ta sg nu wd lo wv (nI nl) (nI nw) ht sd ah cl)), (aI 600 gt), (aL 8 ln), (aL 8 wn)]) rfl rfl) ?_
      refine w_iinc (v := nI (i + 1)) (ls2 := [some (.ref m), some (.int (nI (i + 1))), none]) dX10_readNew_58 rfl (nI_1 _) (by decide) rfl rfl ?_
      refine w_goto (tgt := 29) dX10_readNew_61 rfl ?_
      rw [aS_y ((lg_cmp_eq _ _).mp b50)] at e
      exact ih (i + 1) (flS 3 s) _ _ (by omega) hp1 e
set_option maxRecDepth 100000 in
set_option maxHeartbeats 4000000 in
theorem l_new2 {G : wG} {d : Nat} {h : hH} {Q : Option Value → hH → Prop} {m : Nat} {th tr wa tp sp tk ta sg nu : Int32} {wd : Int64} {lo wv ht sd ah cl : Int32} {gt : Nat → Int32} {E : Nat} {ln : Nat → Int64} {wn : Nat → Int64} {nl nw : Nat} {R9 : pS} (nd : [m, m + 1, m + 2, m + 3].Nodup) (hn : nw ≤ 4) (k : ∀ fa fl : Int32, pR R9 E sp fa fl tk ta sg nu wd → WP G RX10 cX10_readNew 3 (some .long) false (d + 9) 0 0 0 0 Q 101 [some (.ref m), none, none] [] (hUs h [m, m + 1, m + 2, m + 3] [(oC 10 (mF m th tr wa tp (nI E) sp fa fl tk ta sg nu wd lo wv (nI nl) (nI nw) ht sd ah cl)), (aI 600 gt), (aL 8 ln), (aL 8 wn)])) : ∀ (n : Nat) (i : Nat) (s : pS) (fa fl : Int32), i + n = nw → pR s E sp fa fl tk ta sg nu wd → aS wn wd n i s = R9 → WP G RX10 cX10_readNew 3 (some .long) false (d + 9) 0 0 0 0 Q 66 [some (.ref m), some (.int (nI i)), none] [] (hUs h [m, m + 1, m + 2, m + 3] [(oC 10 (mF m th tr wa tp (nI E) sp fa fl tk ta sg nu wd lo wv (nI nl) (nI nw) ht sd ah cl)), (aI 600 gt), (aL 8 ln), (aL 8 wn)]) := by
  intro n
  induction n with
  | zero =>
    intro i s fa fl hi hp e
    refine w_iload_n dX10_readNew_66 rfl ?_
    refine w_aload_n dX10_readNew_67 rfl ?_
    refine w_get (v := .int (nI nw)) fX10_202 (hUs_at nd 0 rfl rfl) rfl dX10_readNew_68 ?_
    refine w_icmp_ge_t (tgt := 101) dX10_readNew_71 rfl ((nI_leI (a := nw) (b := i) (by omega) (by omega)).mpr (by omega)) ?_
    refine w_less (ls2 := [some (.ref m), none, none]) ⟨Or.inr rfl, Or.inl rfl, Or.inl rfl, trivial⟩ ?_
    rw [aS_0] at e
    rw [← e] at k
    exact k _ _ hp
  | succ n ih =>
    intro i s fa fl hi hp e
    refine w_iload_n dX10_readNew_66 rfl ?_
    refine w_aload_n dX10_readNew_67 rfl ?_
    refine w_get (v := .int (nI nw)) fX10_202 (hUs_at nd 0 rfl rfl) rfl dX10_readNew_68 ?_
    refine w_icmp_ge_f (tgt := 101) dX10_readNew_71 rfl (fun z => absurd ((nI_leI (a := nw) (b := i) (by omega) (by omega)).mp z) (by omega)) ?_
    refine w_aload_n dX10_readNew_74 rfl ?_
    refine w_get (v := .ref (m + 3)) fX10_21 (hUs_at nd 0 rfl rfl) rfl dX10_readNew_75 ?_
    refine w_iconst (v := 4) dX10_readNew_78 (by decide) ?_
    refine w_iload_n dX10_readNew_79 rfl ?_
    refine w_iaddE (z := nI (4 + i)) dX10_readNew_80 (nI_add (4) (i)) ?_
    refine w_laloadN (hUs_at nd 3 rfl rfl) (by omega) (by omega) dX10_readNew_81 ?_
    refine w_aload_n dX10_readNew_82 rfl ?_
    refine w_get (v := .long wd) fX10_125 (hUs_at nd 0 rfl rfl) rfl dX10_readNew_83 ?_
    refine w_lcmp dX10_readNew_86 ?_
    refine w_if_ne (tgt := 95) dX10_readNew_87 rfl (fun b87 => ?_) (fun b87 => ?_)
    · refine w_iinc (v := nI (i + 1)) (ls2 := [some (.ref m), some (.int (nI (i + 1))), none]) dX10_readNew_95 rfl (nI_1 _) (by decide) rfl rfl ?_
      refine w_goto (tgt := 66) dX10_readNew_98 rfl ?_
      rw [aS_n (fun z => b87 ((lg_cmp_eq _ _).mpr z))] at e
      exact ih (i + 1) s _ _ (by omega) hp e
    · refine w_aload_n dX10_readNew_90 rfl ?_
      refine w_iconst (v := 3) dX10_readNew_91 (by decide) ?_
      refine w_callV (ci := 10) (d' := d + 8) (mc' := 0) (ms' := 0) (As := [.int 3]) (st := []) lX10_160 vX10_flaw rfl (hUs_at nd 0 rfl rfl) rfl (Nat.le_of_ble_eq_true rfl) dX10_readNew_92 (Nat.le_of_ble_eq_true rfl) (Nat.le_of_ble_eq_true rfl) (Nat.le_refl _) (m_flaw (s := s) (hHas_sub nd (as' := [m]) (cs' := [(oC 10 (mF m th tr wa tp (nI E) sp fa fl tk ta sg nu wd lo wv (nI nl) (nI nw) ht sd ah cl))]) [0] rfl rfl) (nd_sub nd (as' := [m]) [0] rfl rfl) (by decide) hp (fun fa1 fl1 hp1 => ?_))
      refine w_heq (hUs_in nd rfl [0] (cs2 := [(oC 10 (mF m th tr wa tp (nI E) sp fa1 fl1 tk ta sg nu wd lo wv (nI nl) (nI nw) ht sd ah cl)), (aI 600 gt), (aL 8 ln), (aL 8 wn)]) rfl rfl) ?_
      refine w_iinc (v := nI (i + 1)) (ls2 := [some (.ref m), some (.int (nI (i + 1))), none]) dX10_readNew_95 rfl (nI_1 _) (by decide) rfl rfl ?_
      refine w_goto (tgt := 66) dX10_readNew_98 rfl ?_
      rw [aS_y ((lg_cmp_eq _ _).mp b87)] at e
      exact ih (i + 1) (flS 3 s) _ _ (by omega) hp1 e
set_option maxRecDepth 100000 in
set_option maxHeartbeats 4000000 in
theorem m_readNew_l {G : wG} {d : Nat} {h : hH} {Q : Option Value → hH → Prop} {m : Nat} {th tr wa tp sp fa fl tk ta sg nu : Int32} {wd : Int64} {lo wv ht sd ah cl : Int32} {ft gt : Nat → Int32} {E : Nat} {ln : Nat → Int64} {wn : Nat → Int64} {nl nw : Nat} {x : rD} {P9 : pD} (hw : hHas h [m, m + 1, m + 2, m + 3] [(oC 10 (mF m th tr wa tp (nI E) sp fa fl tk ta sg nu wd lo wv (nI nl) (nI nw) ht sd ah cl)), (aI 600 gt), (aL 8 ln), (aL 8 wn)]) (nd : [m, m + 1, m + 2, m + 3].Nodup) (hE : E ≤ 600) (hT : mT E ft gt) (hn4 : nl ≤ 4) (hw4 : nw ≤ 4) (hN : hNm P9 ln wn nl nw) (hp : pR (.inl x) E sp fa fl tk ta sg nu wd) (k : ∀ (sp fa fl tk ta sg nu : Int32) (wd : Int64) (v : Int64), pR (nwS ft P9 (.inl x)) E sp fa fl tk ta sg nu wd → tnS (nwS ft P9 (.inl x)) v → Q (some (.long v)) (hUs h [m, m + 1, m + 2, m + 3] [(oC 10 (mF m th tr wa tp (nI E) sp fa fl tk ta sg nu wd lo wv (nI nl) (nI nw) ht sd ah cl)), (aI 600 gt), (aL 8 ln), (aL 8 wn)])) : Cl G yX10_readNew (d + 9) 0 0 [.ref m] h Q := by
  have hk1 := tkR_w hp.2.2.2
  refine Cl.of (ini := false) kX10_readNew (plainFor_of_name (by decide)) (by decide) (Nat.le_of_ble_eq_true rfl) rfl rfl (fun z => by cases z) ?_
  refine w_heq (hUs_id hw).symm ?_
  refine w_aload_n dX10_readNew_0 rfl ?_
  refine w_get (v := .int fa) fX10_99 (hUs_at nd 0 rfl rfl) rfl dX10_readNew_1 ?_
  refine w_if_ne_f (tgt := 27) dX10_readNew_4 rfl hp.1 ?_
  refine w_aload_n dX10_readNew_7 rfl ?_
  refine w_get (v := .int tk) fX10_118 (hUs_at nd 0 rfl rfl) rfl dX10_readNew_8 ?_
  refine w_iconst (v := 2) dX10_readNew_11 (by decide) ?_
  refine w_icmp_ne (tgt := 22) dX10_readNew_12 rfl (fun b12 => ?_) (fun b12 => ?_)
  · refine w_aload_n dX10_readNew_22 rfl ?_
    refine w_iconst (v := 1) dX10_readNew_23 (by decide) ?_
    refine w_callV (ci := 10) (d' := d + 8) (mc' := 0) (ms' := 0) (As := [.int 1]) (st := []) lX10_160 vX10_flaw rfl (hUs_at nd 0 rfl rfl) rfl (Nat.le_of_ble_eq_true rfl) dX10_readNew_24 (Nat.le_of_ble_eq_true rfl) (Nat.le_of_ble_eq_true rfl) (Nat.le_refl _) (m_flaw (s := (.inl x)) (hHas_sub nd (as' := [m]) (cs' := [(oC 10 (mF m th tr wa tp (nI E) sp fa fl tk ta sg nu wd lo wv (nI nl) (nI nw) ht sd ah cl))]) [0] rfl rfl) (nd_sub nd (as' := [m]) [0] rfl rfl) (by decide) hp (fun fa1 fl1 hp1 => ?_))
    refine w_heq (hUs_in nd rfl [0] (cs2 := [(oC 10 (mF m th tr wa tp (nI E) sp fa1 fl1 tk ta sg nu wd lo wv (nI nl) (nI nw) ht sd ah cl)), (aI 600 gt), (aL 8 ln), (aL 8 wn)]) rfl rfl) ?_
    refine w_iconst (v := (nI 0)) dX10_readNew_27 (by decide) ?_
    refine w_istore_n (ls2 := [some (.ref m), some (.int (nI 0)), none]) dX10_readNew_28 (by decide) rfl rfl ?_
    have en : n1S (.inl x) = (flS 1 (.inl x)) := if_neg (fun z => b12 (hk1.1.mpr z.1))
    refine l_new1 (R9 := aS ln wd nl 0 (n1S (.inl x))) nd hn4 (fun fa2 fl2 hp2 => ?_) nl 0 (flS 1 (.inl x)) _ _ (by omega) hp1 (by rw [en])
    refine w_iconst (v := (nI 0)) dX10_readNew_64 (by decide) ?_
    refine w_istore_n (ls2 := [some (.ref m), some (.int (nI 0)), none]) dX10_readNew_65 (by decide) rfl rfl ?_
    refine l_new2 (R9 := (aS wn wd nw 0 (aS ln wd nl 0 (n1S (.inl x))))) nd hw4 (fun fa3 fl3 hp3 => ?_) nw 0 (aS ln wd nl 0 (n1S (.inl x))) _ _ (by omega) hp2 rfl
    refine w_aload_n dX10_readNew_101 rfl ?_
    refine w_get (v := .long wd) fX10_125 (hUs_at nd 0 rfl rfl) rfl dX10_readNew_102 ?_
    refine w_lstore_n (ls2 := [some (.ref m), some (.long wd), none]) dX10_readNew_105 (by decide) rfl rfl ?_
    refine w_aload_n dX10_readNew_106 rfl ?_
    refine w_callV (ci := 10) (d' := d + 8) (mc' := 0) (ms' := 0) (As := []) (st := []) lX10_164 vX10_goOn rfl (hUs_at nd 0 rfl rfl) rfl (Nat.le_of_ble_eq_true rfl) dX10_readNew_107 (Nat.le_of_ble_eq_true rfl) (Nat.le_of_ble_eq_true rfl) (Nat.le_refl _) (m_goOn (s := (aS wn wd nw 0 (aS ln wd nl 0 (n1S (.inl x))))) (hHas_sub nd (as' := [m, m + 1]) (cs' := [(oC 10 (mF m th tr wa tp (nI E) sp fa3 fl3 tk ta sg nu wd lo wv (nI nl) (nI nw) ht sd ah cl)), (aI 600 gt)]) [0, 1] rfl rfl) (nd_sub nd (as' := [m, m + 1]) [0, 1] rfl rfl) hE hT hp3 (fun sp4 fa4 fl4 tk4 ta4 sg4 nu4 wd4 hp4 => ?_))
    refine w_heq (hUs_in nd rfl [0, 1] (cs2 := [(oC 10 (mF m th tr wa tp (nI E) sp4 fa4 fl4 tk4 ta4 sg4 nu4 wd4 lo wv (nI nl) (nI nw) ht sd ah cl)), (aI 600 gt), (aL 8 ln), (aL 8 wn)]) rfl rfl) ?_
    refine w_lload_n dX10_readNew_110 rfl ?_
    refine w_lreturn rfl dX10_readNew_111 (Nat.le_of_ble_eq_true rfl) (Nat.le_of_ble_eq_true rfl) ?_
    have hq := nw_eq (P := P9) hN hp hp4
    exact k _ _ _ _ _ _ _ _ _ hq.1 hq.2
  · refine w_aload_n dX10_readNew_15 rfl ?_
    refine w_callV (ci := 10) (d' := d + 8) (mc' := 0) (ms' := 0) (As := []) (st := []) lX10_195 vX10_isOwn rfl (hUs_at nd 0 rfl rfl) rfl (Nat.le_of_ble_eq_true rfl) dX10_readNew_16 (Nat.le_of_ble_eq_true rfl) (Nat.le_of_ble_eq_true rfl) (Nat.le_refl _) (m_isOwn (s := (.inl x)) (hHas_sub nd (as' := [m]) (cs' := [(oC 10 (mF m th tr wa tp (nI E) sp fa fl tk ta sg nu wd lo wv (nI nl) (nI nw) ht sd ah cl))]) [0] rfl rfl) hp ?_)
    refine w_if_eq (tgt := 27) dX10_readNew_19 rfl (fun b19 => ?_) (fun b19 => ?_)
    · refine w_iconst (v := (nI 0)) dX10_readNew_27 (by decide) ?_
      refine w_istore_n (ls2 := [some (.ref m), some (.int (nI 0)), none]) dX10_readNew_28 (by decide) rfl rfl ?_
      have en : n1S (.inl x) = (.inl x) := (if_pos (show x.2.2.1 = 1 ∧ rRs x.2.2.1 x.2.2.2.2.1 = 0 from ⟨hk1.1.mp b12, b19⟩))
      refine l_new1 (R9 := aS ln wd nl 0 (n1S (.inl x))) nd hn4 (fun fa1 fl1 hp1 => ?_) nl 0 (.inl x) _ _ (by omega) hp (by rw [en])
      refine w_iconst (v := (nI 0)) dX10_readNew_64 (by decide) ?_
      refine w_istore_n (ls2 := [some (.ref m), some (.int (nI 0)), none]) dX10_readNew_65 (by decide) rfl rfl ?_
      refine l_new2 (R9 := (aS wn wd nw 0 (aS ln wd nl 0 (n1S (.inl x))))) nd hw4 (fun fa2 fl2 hp2 => ?_) nw 0 (aS ln wd nl 0 (n1S (.inl x))) _ _ (by omega) hp1 rfl
      refine w_aload_n dX10_readNew_101 rfl ?_
      refine w_get (v := .long wd) fX10_125 (hUs_at nd 0 rfl rfl) rfl dX10_readNew_102 ?_
      refine w_lstore_n (ls2 := [some (.ref m), some (.long wd), none]) dX10_readNew_105 (by decide) rfl rfl ?_
      refine w_aload_n dX10_readNew_106 rfl ?_
      refine w_callV (ci := 10) (d' := d + 8) (mc' := 0) (ms' := 0) (As := []) (st := []) lX10_164 vX10_goOn rfl (hUs_at nd 0 rfl rfl) rfl (Nat.le_of_ble_eq_true rfl) dX10_readNew_107 (Nat.le_of_ble_eq_true rfl) (Nat.le_of_ble_eq_true rfl) (Nat.le_refl _) (m_goOn (s := (aS wn wd nw 0 (aS ln wd nl 0 (n1S (.inl x))))) (hHas_sub nd (as' := [m, m + 1]) (cs' := [(oC 10 (mF m th tr wa tp (nI E) sp fa2 fl2 tk ta sg nu wd lo wv (nI nl) (nI nw) ht sd ah cl)), (aI 600 gt)]) [0, 1] rfl rfl) (nd_sub nd (as' := [m, m + 1]) [0, 1] rfl rfl) hE hT hp2 (fun sp3 fa3 fl3 tk3 ta3 sg3 nu3 wd3 hp3 => ?_))
      refine w_heq (hUs_in nd rfl [0, 1] (cs2 := [(oC 10 (mF m th tr wa tp (nI E) sp3 fa3 fl3 tk3 ta3 sg3 nu3 wd3 lo wv (nI nl) (nI nw) ht sd ah cl)), (aI 600 gt), (aL 8 ln), (aL 8 wn)]) rfl rfl) ?_
      refine w_lload_n dX10_readNew_110 rfl ?_
      refine w_lreturn rfl dX10_readNew_111 (Nat.le_of_ble_eq_true rfl) (Nat.le_of_ble_eq_true rfl) ?_
      have hq := nw_eq (P := P9) hN hp hp3
      exact k _ _ _ _ _ _ _ _ _ hq.1 hq.2
    · refine w_aload_n dX10_readNew_22 rfl ?_
      refine w_iconst (v := 1) dX10_readNew_23 (by decide) ?_
      refine w_callV (ci := 10) (d' := d + 8) (mc' := 0) (ms' := 0) (As := [.int 1]) (st := []) lX10_160 vX10_flaw rfl (hUs_at nd 0 rfl rfl) rfl (Nat.le_of_ble_eq_true rfl) dX10_readNew_24 (Nat.le_of_ble_eq_true rfl) (Nat.le_of_ble_eq_true rfl) (Nat.le_refl _) (m_flaw (s := (.inl x)) (hHas_sub nd (as' := [m]) (cs' := [(oC 10 (mF m th tr wa tp (nI E) sp fa fl tk ta sg nu wd lo wv (nI nl) (nI nw) ht sd ah cl))]) [0] rfl rfl) (nd_sub nd (as' := [m]) [0] rfl rfl) (by decide) hp (fun fa1 fl1 hp1 => ?_))
      refine w_heq (hUs_in nd rfl [0] (cs2 := [(oC 10 (mF m th tr wa tp (nI E) sp fa1 fl1 tk ta sg nu wd lo wv (nI nl) (nI nw) ht sd ah cl)), (aI 600 gt), (aL 8 ln), (aL 8 wn)]) rfl rfl) ?_
      refine w_iconst (v := (nI 0)) dX10_readNew_27 (by decide) ?_
      refine w_istore_n (ls2 := [some (.ref m), some (.int (nI 0)), none]) dX10_readNew_28 (by decide) rfl rfl ?_
      have en : n1S (.inl x) = (flS 1 (.inl x)) := if_neg (fun z => b19 z.2)
      refine l_new1 (R9 := aS ln wd nl 0 (n1S (.inl x))) nd hn4 (fun fa2 fl2 hp2 => ?_) nl 0 (flS 1 (.inl x)) _ _ (by omega) hp1 (by rw [en])
      refine w_iconst (v := (nI 0)) dX10_readNew_64 (by decide) ?_
      refine w_istore_n (ls2 := [some (.ref m), some (.int (nI 0)), none]) dX10_readNew_65 (by decide) rfl rfl ?_
      refine l_new2 (R9 := (aS wn wd nw 0 (aS ln wd nl 0 (n1S (.inl x))))) nd hw4 (fun fa3 fl3 hp3 => ?_) nw 0 (aS ln wd nl 0 (n1S (.inl x))) _ _ (by omega) hp2 rfl
      refine w_aload_n dX10_readNew_101 rfl ?_
      refine w_get (v := .long wd) fX10_125 (hUs_at nd 0 rfl rfl) rfl dX10_readNew_102 ?_
      refine w_lstore_n (ls2 := [some (.ref m), some (.long wd), none]) dX10_readNew_105 (by decide) rfl rfl ?_
      refine w_aload_n dX10_readNew_106 rfl ?_
      refine w_callV (ci := 10) (d' := d + 8) (mc' := 0) (ms' := 0) (As := []) (st := []) lX10_164 vX10_goOn rfl (hUs_at nd 0 rfl rfl) rfl (Nat.le_of_ble_eq_true rfl) dX10_readNew_107 (Nat.le_of_ble_eq_true rfl) (Nat.le_of_ble_eq_true rfl) (Nat.le_refl _) (m_goOn (s := (aS wn wd nw 0 (aS ln wd nl 0 (n1S (.inl x))))) (hHas_sub nd (as' := [m, m + 1]) (cs' := [(oC 10 (mF m th tr wa tp (nI E) sp fa3 fl3 tk ta sg nu wd lo wv (nI nl) (nI nw) ht sd ah cl)), (aI 600 gt)]) [0, 1] rfl rfl) (nd_sub nd (as' := [m, m + 1]) [0, 1] rfl rfl) hE hT hp3 (fun sp4 fa4 fl4 tk4 ta4 sg4 nu4 wd4 hp4 => ?_))
      refine w_heq (hUs_in nd rfl [0, 1] (cs2 := [(oC 10 (mF m th tr wa tp (nI E) sp4 fa4 fl4 tk4 ta4 sg4 nu4 wd4 lo wv (nI nl) (nI nw) ht sd ah cl)), (aI 600 gt), (aL 8 ln), (aL 8 wn)]) rfl rfl) ?_
      refine w_lload_n dX10_readNew_110 rfl ?_
      refine w_lreturn rfl dX10_readNew_111 (Nat.le_of_ble_eq_true rfl) (Nat.le_of_ble_eq_true rfl) ?_
      have hq := nw_eq (P := P9) hN hp hp4
      exact k _ _ _ _ _ _ _ _ _ hq.1 hq.2
set_option maxRecDepth 100000 in
set_option maxHeartbeats 4000000 in
theorem m_readNew_r {G : wG} {d : Nat} {h : hH} {Q : Option Value → hH → Prop} {m : Nat} {th tr wa tp sp fa fl tk ta sg nu : Int32} {wd : Int64} {lo wv ht sd ah cl : Int32} {ft gt : Nat → Int32} {E : Nat} {ln : Nat → Int64} {wn : Nat → Int64} {nl nw : Nat} {b : Int32 × Int32} {P9 : pD} (hw : hHas h [m, m + 1, m + 2, m + 3] [(oC 10 (mF m th tr wa tp (nI E) sp fa fl tk ta sg nu wd lo wv (nI nl) (nI nw) ht sd ah cl)), (aI 600 gt), (aL 8 ln), (aL 8 wn)]) (nd : [m, m + 1, m + 2, m + 3].Nodup) (hE : E ≤ 600) (hT : mT E ft gt) (hn4 : nl ≤ 4) (hw4 : nw ≤ 4) (hN : hNm P9 ln wn nl nw) (hp : pR (.inr b) E sp fa fl tk ta sg nu wd) (k : ∀ (sp fa fl tk ta sg nu : Int32) (wd : Int64) (v : Int64), pR (nwS ft P9 (.inr b)) E sp fa fl tk ta sg nu wd → tnS (nwS ft P9 (.inr b)) v → Q (some (.long v)) (hUs h [m, m + 1, m + 2, m + 3] [(oC 10 (mF m th tr wa tp (nI E) sp fa fl tk ta sg nu wd lo wv (nI nl) (nI nw) ht sd ah cl)), (aI 600 gt), (aL 8 ln), (aL 8 wn)])) : Cl G yX10_readNew (d + 9) 0 0 [.ref m] h Q := by
  refine Cl.of (ini := false) kX10_readNew (plainFor_of_name (by decide)) (by decide) (Nat.le_of_ble_eq_true rfl) rfl rfl (fun z => by cases z) ?_
  refine w_heq (hUs_id hw).symm ?_
  refine w_aload_n dX10_readNew_0 rfl ?_
  refine w_get (v := .int fa) fX10_99 (hUs_at nd 0 rfl rfl) rfl dX10_readNew_1 ?_
  refine w_if_ne_t (tgt := 27) dX10_readNew_4 rfl (fun z => absurd hp.2.1 (by rw [← hp.1, z]; decide)) ?_
  refine w_iconst (v := (nI 0)) dX10_readNew_27 (by decide) ?_
  refine w_istore_n (ls2 := [some (.ref m), some (.int (nI 0)), none]) dX10_readNew_28 (by decide) rfl rfl ?_
  have en : n1S (.inr b) = (.inr b) := rfl
  refine l_new1 (R9 := aS ln wd nl 0 (n1S (.inr b))) nd hn4 (fun fa1 fl1 hp1 => ?_) nl 0 (.inr b) _ _ (by omega) hp (by rw [en])
  refine w_iconst (v := (nI 0)) dX10_readNew_64 (by decide) ?_
  refine w_istore_n (ls2 := [some (.ref m), some (.int (nI 0)), none]) dX10_readNew_65 (by decide) rfl rfl ?_
  refine l_new2 (R9 := (aS wn wd nw 0 (aS ln wd nl 0 (n1S (.inr b))))) nd hw4 (fun fa2 fl2 hp2 => ?_) nw 0 (aS ln wd nl 0 (n1S (.inr b))) _ _ (by omega) hp1 rfl
  refine w_aload_n dX10_readNew_101 rfl ?_
  refine w_get (v := .long wd) fX10_125 (hUs_at nd 0 rfl rfl) rfl dX10_readNew_102 ?_
  refine w_lstore_n (ls2 := [some (.ref m), some (.long wd), none]) dX10_readNew_105 (by decide) rfl rfl ?_
  refine w_aload_n dX10_readNew_106 rfl ?_
  refine w_callV (ci := 10) (d' := d + 8) (mc' := 0) (ms' := 0) (As := []) (st := []) lX10_164 vX10_goOn rfl (hUs_at nd 0 rfl rfl) rfl (Nat.le_of_ble_eq_true rfl) dX10_readNew_107 (Nat.le_of_ble_eq_true rfl) (Nat.le_of_ble_eq_true rfl) (Nat.le_refl _) (m_goOn (s := (aS wn wd nw 0 (aS ln wd nl 0 (n1S (.inr b))))) (hHas_sub nd (as' := [m, m + 1]) (cs' := [(oC 10 (mF m th tr wa tp (nI E) sp fa2 fl2 tk ta sg nu wd lo wv (nI nl) (nI nw) ht sd ah cl)), (aI 600 gt)]) [0, 1] rfl rfl) (nd_sub nd (as' := [m, m + 1]) [0, 1] rfl rfl) hE hT hp2 (fun sp3 fa3 fl3 tk3 ta3 sg3 nu3 wd3 hp3 => ?_))
  refine w_heq (hUs_in nd rfl [0, 1] (cs2 := [(oC 10 (mF m th tr wa tp (nI E) sp3 fa3 fl3 tk3 ta3 sg3 nu3 wd3 lo wv (nI nl) (nI nw) ht sd ah cl)), (aI 600 gt), (aL 8 ln), (aL 8 wn)]) rfl rfl) ?_
  refine w_lload_n dX10_readNew_110 rfl ?_
  refine w_lreturn rfl dX10_readNew_111 (Nat.le_of_ble_eq_true rfl) (Nat.le_of_ble_eq_true rfl) ?_
  have hq := nw_eq (P := P9) hN hp hp3
  exact k _ _ _ _ _ _ _ _ _ hq.1 hq.2
theorem m_readNew {G : wG} {d : Nat} {h : hH} {Q : Option Value → hH → Prop} {m : Nat} {th tr wa tp sp fa fl tk ta sg nu : Int32} {wd : Int64} {lo wv ht sd ah cl : Int32} {ft gt : Nat → Int32} {E : Nat} {ln : Nat → Int64} {wn : Nat → Int64} {nl nw : Nat} {s : pS} {P9 : pD} (hw : hHas h [m, m + 1, m + 2, m + 3] [(oC 10 (mF m th tr wa tp (nI E) sp fa fl tk ta sg nu wd lo wv (nI nl) (nI nw) ht sd ah cl)), (aI 600 gt), (aL 8 ln), (aL 8 wn)]) (nd : [m, m + 1, m + 2, m + 3].Nodup) (hE : E ≤ 600) (hT : mT E ft gt) (hn4 : nl ≤ 4) (hw4 : nw ≤ 4) (hN : hNm P9 ln wn nl nw) (hp : pR s E sp fa fl tk ta sg nu wd) (k : ∀ (sp fa fl tk ta sg nu : Int32) (wd : Int64) (v : Int64), pR (nwS ft P9 s) E sp fa fl tk ta sg nu wd → tnS (nwS ft P9 s) v → Q (some (.long v)) (hUs h [m, m + 1, m + 2, m + 3] [(oC 10 (mF m th tr wa tp (nI E) sp fa fl tk ta sg nu wd lo wv (nI nl) (nI nw) ht sd ah cl)), (aI 600 gt), (aL 8 ln), (aL 8 wn)])) : Cl G yX10_readNew (d + 9) 0 0 [.ref m] h Q := by
  cases s with
  | inl x => exact m_readNew_l hw nd hE hT hn4 hw4 hN hp k
  | inr b => exact m_readNew_r hw nd hE hT hn4 hw4 hN hp k
