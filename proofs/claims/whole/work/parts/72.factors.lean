theorem rTN_p {ft : Nat → Int32} {lo hi : Int32} {x : rD} (h : ¬ lo < 0) : rTN ft lo hi x = rTN1 ft lo hi 0 x := by
  rw [rTN, if_neg (fun z => h z.1)]
theorem rwS_l {ft : Nat → Int32} {lo hi : Int32} {x : rD} (h : ¬ lo < 0) : rwS ft lo hi (.inl x) = rcS (rTN ft lo hi x) := by
  rw [rTN_p h]; rfl
theorem rcS_l {t : Int32 × rD} {y : rD} (h : rcS t = .inl y) : ¬ t.1 = 0 ∧ t.2 = y := by
  unfold rcS at h
  by_cases e : t.1 = 0
  · rw [if_pos e] at h; cases h
  · rw [if_neg e] at h; cases h; exact ⟨e, rfl⟩
theorem rcS_r {t : Int32 × rD} {b : Int32 × Int32} (h : rcS t = .inr b) : t.1 = 0 ∧ b = (t.2.2.2.2.2.2.2.1, t.2.2.2.2.2.2.2.2) := by
  unfold rcS at h
  by_cases e : t.1 = 0
  · rw [if_pos e] at h; cases h; exact ⟨e, rfl⟩
  · rw [if_neg e] at h; cases h
theorem rcS_0 {t : Int32 × rD} (h : t.1 = 0) : rcS t = .inr (t.2.2.2.2.2.2.2.1, t.2.2.2.2.2.2.2.2) := if_pos h
theorem rcS_1 {t : Int32 × rD} (h : ¬ t.1 = 0) : rcS t = .inl t.2 := if_neg h
theorem hasN_0 (P : pD) (v : Int32) : ∀ (n i : Nat), hasN P v n i = 0 ↔ ∀ k, k < n → ¬ (nmL P (i + k) = v ∨ nmW P (i + k) = v)
  | 0, i => ⟨fun _ k hk => absurd hk (Nat.not_lt_zero k), fun _ => rfl⟩
  | n + 1, i => by
    rw [hasN]
    by_cases e : nmL P i = v ∨ nmW P i = v
    · rw [if_pos e]
      exact ⟨fun z => absurd z (by decide), fun z => absurd e (z 0 (by omega))⟩
    · rw [if_neg e, hasN_0 P v n (i + 1)]
      refine ⟨fun z k hk => ?_, fun z k hk => ?_⟩
      · by_cases h0 : k = 0
        · rw [h0]; exact e
        · have := z (k - 1) (by omega)
          rw [show i + 1 + (k - 1) = i + k by omega] at this
          exact this
      · have := z (k + 1) (by omega)
        rw [show i + (k + 1) = i + 1 + k by omega] at this
        exact this
theorem anyL_f (f : Nat → Int64) (w : Int64) : ∀ (n i : Nat), anyL f w n i = false ↔ ∀ k, k < n → ¬ f (4 + (i + k)) = w
  | 0, i => ⟨fun _ k hk => absurd hk (Nat.not_lt_zero k), fun _ => rfl⟩
  | n + 1, i => by
    rw [anyL, Bool.or_eq_false_iff, beq_eq_false_iff_ne, anyL_f f w n (i + 1)]
    refine ⟨fun z k hk => ?_, fun z => ⟨z 0 (by omega), fun k hk => ?_⟩⟩
    · by_cases h0 : k = 0
      · rw [h0]; exact z.1
      · have := z.2 (k - 1) (by omega)
        rw [show i + 1 + (k - 1) = i + k by omega] at this
        exact this
    · have := z (k + 1) (by omega)
      rw [show i + (k + 1) = i + 1 + k by omega] at this
      exact this
/-- the names read so far, in the rows from 4 on -/
def nmS (P : pD) (ln wn : Nat → Int64) : Prop := (P.1 ≤ 4 ∧ P.2.1 ≤ 4) ∧ (∀ j, j < P.1 → nmOk (P.2.2.1 j).1 ∧ ln (4 + j) = nmX (P.2.2.1 j).1) ∧ (∀ j, j < P.2.1 → nmOk (P.2.2.2 j).1 ∧ wn (4 + j) = nmX (P.2.2.2 j).1)
theorem nmOk_0 {v : Int32} (h : nmOk v) : ¬ (0 : Int32) = v := by
  obtain ⟨N, rfl, h1, h2, _⟩ := h
  exact fun z => nI_ne0 h2 (by omega) z.symm
theorem nmS_any {P : pD} {ln wn : Nat → Int64} (h : nmS P ln wn) {v : Int32} (hv : nmOk v) : (anyL ln (nmX v) P.1 0 = false ∧ anyL wn (nmX v) P.2.1 0 = false) ↔ ((∀ j, j < P.1 → ¬ (P.2.2.1 j).1 = v) ∧ (∀ j, j < P.2.1 → ¬ (P.2.2.2 j).1 = v)) := by
  rw [anyL_f, anyL_f]
  refine ⟨fun z => ⟨fun j hj e => z.1 j hj ?_, fun j hj e => z.2 j hj ?_⟩, fun z => ⟨fun j hj e => z.1 j hj ?_, fun j hj e => z.2 j hj ?_⟩⟩
  · rw [Nat.zero_add, (h.2.1 j hj).2, e]
  · rw [Nat.zero_add, (h.2.2 j hj).2, e]
  · rw [Nat.zero_add, (h.2.1 j hj).2] at e
    exact nmX_inj (h.2.1 j hj).1 hv e
  · rw [Nat.zero_add, (h.2.2 j hj).2] at e
    exact nmX_inj (h.2.2 j hj).1 hv e
theorem hNm_L {P : pD} {ln wn : Nat → Int64} (h : nmS P ln wn) (h4 : P.1 < 4) : hNm (pL1 P) ln wn P.1 P.2.1 := by
  intro v hv
  rw [nmS_any h hv, hasN_0]
  have h0 := nmOk_0 hv
  refine ⟨fun z => ⟨fun j hj e => z j (by omega) (Or.inl ?_), fun j hj e => z j (by have := h.1.2; omega) (Or.inr ?_)⟩, fun z k hk y => ?_⟩
  · rw [Nat.zero_add]
    show (if j < P.1 + 1 then (updD P.2.2.1 P.1 lD0 j).1 else 0) = v
    rw [if_pos (by omega), updD, if_neg (by omega)]; exact e
  · rw [Nat.zero_add]
    show (if j < P.2.1 then (P.2.2.2 j).1 else 0) = v
    rw [if_pos hj]; exact e
  · rw [Nat.zero_add] at y
    rcases y with y | y
    · have y1 : (if k < P.1 + 1 then (updD P.2.2.1 P.1 lD0 k).1 else 0) = v := y
      by_cases c : k < P.1 + 1
      · rw [if_pos c, updD] at y1
        by_cases c2 : k = P.1
        · rw [if_pos c2] at y1; exact h0 y1
        · rw [if_neg c2] at y1; exact z.1 k (by omega) y1
      · rw [if_neg c] at y1; exact h0 y1
    · have y1 : (if k < P.2.1 then (P.2.2.2 k).1 else 0) = v := y
      by_cases c : k < P.2.1
      · rw [if_pos c] at y1; exact z.2 k c y1
      · rw [if_neg c] at y1; exact h0 y1
theorem hNm_W {P : pD} {ln wn : Nat → Int64} (h : nmS P ln wn) (h4 : P.2.1 < 4) : hNm (pW1 P) ln wn P.1 P.2.1 := by
  intro v hv
  rw [nmS_any h hv, hasN_0]
  have h0 := nmOk_0 hv
  refine ⟨fun z => ⟨fun j hj e => z j (by have := h.1.1; omega) (Or.inl ?_), fun j hj e => z j (by omega) (Or.inr ?_)⟩, fun z k hk y => ?_⟩
  · rw [Nat.zero_add]
    show (if j < P.1 then (P.2.2.1 j).1 else 0) = v
    rw [if_pos hj]; exact e
  · rw [Nat.zero_add]
    show (if j < P.2.1 + 1 then (updD P.2.2.2 P.2.1 (0, wvC (P.2.2.2 P.2.1).2) j).1 else 0) = v
    rw [if_pos (by omega), updD, if_neg (by omega)]; exact e
  · rw [Nat.zero_add] at y
    rcases y with y | y
    · have y1 : (if k < P.1 then (P.2.2.1 k).1 else 0) = v := y
      by_cases c : k < P.1
      · rw [if_pos c] at y1; exact z.1 k c y1
      · rw [if_neg c] at y1; exact h0 y1
    · have y1 : (if k < P.2.1 + 1 then (updD P.2.2.2 P.2.1 (0, wvC (P.2.2.2 P.2.1).2) k).1 else 0) = v := y
      by_cases c : k < P.2.1 + 1
      · rw [if_pos c, updD] at y1
        by_cases c2 : k = P.2.1
        · rw [if_pos c2] at y1; exact h0 y1
        · rw [if_neg c2] at y1; exact z.2 k (by omega) y1
      · rw [if_neg c] at y1; exact h0 y1
/-- outside the places l; outside 3 l, 3 l + 1, 3 l + 2 -/
def frO {α : Type} (l : Nat) (f g : Nat → α) : Prop := ∀ j, ¬ j = l → g j = f j
def frT (l : Nat) (f g : Nat → Int32) : Prop := ∀ j, (j < 3 * l ∨ 3 * l + 3 ≤ j) → g j = f j
theorem frO_u {l : Nat} {f g : Nat → Int32} {x : Int32} (h : frO l f g) : frO l f (upd g l x) := fun j hj => by rw [pk_un hj]; exact h j hj
theorem frO_r {α : Type} {l : Nat} {f : Nat → α} : frO l f f := fun _ _ => rfl
theorem frT_u {l n : Nat} {f g : Nat → Int32} {x : Int32} (h : frT l f g) (hn : n < 3) : frT l f (upd g (3 * l + n) x) := fun j hj => by rw [pk_un (by omega)]; exact h j hj
set_option maxRecDepth 100000 in
set_option maxHeartbeats 4000000 in
theorem l_fac {G : wG} {d : Nat} {h : hH} {Q : Option Value → hH → Prop} {m : Nat} {th tr wa tp : Int32} {lo wv rl rw ht sd ah cl : Int32} {ft gt : Nat → Int32} {E : Nat} {ln : Nat → Int64} {wn : Nat → Int64} {fs : Nat → Int32} {ff : Nat → Int32} {fb : Nat → Int32} {fn : Nat → Int32} {f3 : Nat → Int32} {l : Nat} {v0 : Int64} {R9 : Int32 × rD × Nat × (Nat → Int32)} (nd : [m, m + 1, m + 2, m + 3, m + 4, m + 5, m + 6, m + 7, m + 9].Nodup) (hE : E ≤ 600) (hT : mT E ft gt) (hl : l < 8) (k : ∀ (sp fa fl tk ta sg nu : Int32) (wd : Int64) (gs gf : Nat → Int32), pR (rcS (R9.1, R9.2.1)) E sp fa fl tk ta sg nu wd → (¬ R9.1 = 0 → gs l = nI R9.2.2.1 ∧ ∀ j, j < R9.2.2.1 → gf (3 * l + j) = R9.2.2.2 j) → frO l fs gs → frT l ff gf → WP G RX10 cX10_readLoop 6 none false (d + 10) 0 0 0 0 Q 162 [some (.ref m), some (.long v0), none, some (.int (nI l)), none, none] [] (hUs h [m, m + 1, m + 2, m + 3, m + 4, m + 5, m + 6, m + 7, m + 9] [(oC 10 (mF m th tr wa tp (nI E) sp fa fl tk ta sg nu wd lo wv rl rw ht sd ah cl)), (aI 600 gt), (aL 8 ln), (aL 8 wn), (aI 8 gs), (aI 24 gf), (aI 8 fb), (aI 8 fn), (aZ 8 f3)])) : ∀ (n : Nat) (q : Nat) (x : rD) (f gs gf : Nat → Int32) (sp fa fl tk ta sg nu : Int32) (wd : Int64), q + n = 4 → q ≤ 3 → gs l = nI q → (∀ j, j < q → gf (3 * l + j) = f j) → frO l fs gs → frT l ff gf → pR (.inl x) E sp fa fl tk ta sg nu wd → rFc ft n x q f = R9 → WP G RX10 cX10_readLoop 6 none false (d + 10) 0 0 0 0 Q 53 [some (.ref m), some (.long v0), none, some (.int (nI l)), some (.int 1), none] [] (hUs h [m, m + 1, m + 2, m + 3, m + 4, m + 5, m + 6, m + 7, m + 9] [(oC 10 (mF m th tr wa tp (nI E) sp fa fl tk ta sg nu wd lo wv rl rw ht sd ah cl)), (aI 600 gt), (aL 8 ln), (aL 8 wn), (aI 8 gs), (aI 24 gf), (aI 8 fb), (aI 8 fn), (aZ 8 f3)]) := by
  intro n
  induction n with
  | zero =>
    intro q x f gs gf sp fa fl tk ta sg nu wd hi hq hgs hgf hfs hff hp hR
    exact absurd hi (by omega)
  | succ n ih =>
    intro q x f gs gf sp fa fl tk ta sg nu wd hi hq hgs hgf hfs hff hp hR
    have hk1 := tkR_w hp.2.2.2
    refine w_iload dX10_readLoop_53 rfl ?_
    refine w_if_eq_f (tgt := 162) dX10_readLoop_55 rfl (by decide) ?_
    refine w_aload_n dX10_readLoop_58 rfl ?_
    refine w_get (v := .int tk) fX10_118 (hUs_at nd 0 rfl rfl) rfl dX10_readLoop_59 ?_
    refine w_iconst (v := 3) dX10_readLoop_62 (by decide) ?_
    refine w_icmp_ne (tgt := 94) dX10_readLoop_63 rfl (fun b63 => ?_) (fun b63 => ?_)
    · refine w_aload_n dX10_readLoop_94 rfl ?_
      refine w_iconst (v := 1) dX10_readLoop_95 (by decide) ?_
      refine w_bipush (v := 32) dX10_readLoop_96 (by decide) ?_
      refine w_callV (ci := 10) (d' := d + 9) (mc' := 0) (ms' := 0) (As := [.int 1, .int 32]) (st := []) lX10_191 vX10_readWhole rfl (hUs_at nd 0 rfl rfl) rfl (Nat.le_of_ble_eq_true rfl) dX10_readLoop_98 (Nat.le_of_ble_eq_true rfl) (Nat.le_of_ble_eq_true rfl) (Nat.le_refl _) (m_readWhole (s := (.inl x)) (hHas_sub nd (as' := [m, m + 1]) (cs' := [(oC 10 (mF m th tr wa tp (nI E) sp fa fl tk ta sg nu wd lo wv rl rw ht sd ah cl)), (aI 600 gt)]) [0, 1] rfl rfl) (nd_sub nd (as' := [m, m + 1]) [0, 1] rfl rfl) hE hT hp (fun sp1 fa1 fl1 tk1 ta1 sg1 nu1 wd1 v1 hp1 hv1 => ?_))
      refine w_heq (hUs_in nd rfl [0, 1] (cs2 := [(oC 10 (mF m th tr wa tp (nI E) sp1 fa1 fl1 tk1 ta1 sg1 nu1 wd1 lo wv rl rw ht sd ah cl)), (aI 600 gt), (aL 8 ln), (aL 8 wn), (aI 8 gs), (aI 24 gf), (aI 8 fb), (aI 8 fn), (aZ 8 f3)]) rfl rfl) ?_
      refine w_istore (ls2 := [some (.ref m), some (.long v0), none, some (.int (nI l)), some (.int 1), some (.int v1)]) dX10_readLoop_101 (by decide) rfl rfl ?_
      rcases e9 : (rwS ft 1 32 (.inl x)) with y9 | b9
      · rw [e9] at hp1
        have hu9 := rcS_l ((rwS_l (by decide)).symm.trans e9)
        have hk2 := tkR_w hp1.2.2.2
        have hq3 : q < 3 := by
          rcases Nat.lt_or_ge q 3 with z | z
          · exact z
          · exact absurd ((show q = 3 by omega)) (fun _ => by
              have t1 := hu9.1
              rw [rTN_p (by decide), rTN1, if_neg (fun y => b63 (hk1.2.2.1.mpr y))] at t1
              exact t1 rfl)
        refine w_aload_n dX10_readLoop_103 rfl ?_
        refine w_get (v := .int fa1) fX10_99 (hUs_at nd 0 rfl rfl) rfl dX10_readLoop_104 ?_
        refine w_if_ne_f (tgt := 137) dX10_readLoop_107 rfl hp1.1 ?_
        refine w_aload_n dX10_readLoop_110 rfl ?_
        refine w_get (v := .ref (m + 5)) fX10_27 (hUs_at nd 0 rfl rfl) rfl dX10_readLoop_111 ?_
        refine w_iconst (v := (nI 3)) dX10_readLoop_114 (by decide) ?_
        refine w_iload_n dX10_readLoop_115 rfl ?_
        refine w_imulE (z := nI (3 * l)) dX10_readLoop_116 (pk_mul (3) (l)) ?_
        refine w_aload_n dX10_readLoop_117 rfl ?_
        refine w_get (v := .ref (m + 4)) fX10_24 (hUs_at nd 0 rfl rfl) rfl dX10_readLoop_118 ?_
        refine w_iload_n dX10_readLoop_121 rfl ?_
        refine w_ialoadN (hUs_at nd 4 rfl rfl) (by omega) (by omega) dX10_readLoop_122 ?_
        refine w_top (z := nI q) hgs ?_
        refine w_iaddE (z := nI ((3 * l) + q)) dX10_readLoop_123 (nI_add ((3 * l)) (q)) ?_
        refine w_iload dX10_readLoop_124 rfl ?_
        refine w_iastoreN (hUs_at nd 5 rfl rfl) (by omega) (by omega) dX10_readLoop_126 ?_
        refine w_heq (hUs_set nd rfl 5 (cs' := [(oC 10 (mF m th tr wa tp (nI E) sp1 fa1 fl1 tk1 ta1 sg1 nu1 wd1 lo wv rl rw ht sd ah cl)), (aI 600 gt), (aL 8 ln), (aL 8 wn), (aI 8 gs), (aI 24 (upd gf ((3 * l) + q) v1)), (aI 8 fb), (aI 8 fn), (aZ 8 f3)]) rfl rfl) ?_
        refine w_aload_n dX10_readLoop_127 rfl ?_
        refine w_get (v := .ref (m + 4)) fX10_24 (hUs_at nd 0 rfl rfl) rfl dX10_readLoop_128 ?_
        refine w_iload_n dX10_readLoop_131 rfl ?_
        refine w_dup2_11 dX10_readLoop_132 rfl rfl ?_
        refine w_ialoadN (hUs_at nd 4 rfl rfl) (by omega) (by omega) dX10_readLoop_133 ?_
        refine w_top (z := nI q) hgs ?_
        refine w_iconst (v := 1) dX10_readLoop_134 (by decide) ?_
        refine w_iaddE (z := nI (q + 1)) dX10_readLoop_135 (nI_add (q) (1)) ?_
        refine w_iastoreN (hUs_at nd 4 rfl rfl) (by omega) (by omega) dX10_readLoop_136 ?_
        refine w_heq (hUs_set nd rfl 4 (cs' := [(oC 10 (mF m th tr wa tp (nI E) sp1 fa1 fl1 tk1 ta1 sg1 nu1 wd1 lo wv rl rw ht sd ah cl)), (aI 600 gt), (aL 8 ln), (aL 8 wn), (aI 8 (upd gs l (nI (q + 1)))), (aI 24 (upd gf ((3 * l) + q) v1)), (aI 8 fb), (aI 8 fn), (aZ 8 f3)]) rfl rfl) ?_
        refine w_aload_n dX10_readLoop_137 rfl ?_
        refine w_get (v := .int fa1) fX10_99 (hUs_at nd 0 rfl rfl) rfl dX10_readLoop_138 ?_
        refine w_if_ne_f (tgt := 156) dX10_readLoop_141 rfl hp1.1 ?_
        refine w_aload_n dX10_readLoop_144 rfl ?_
        refine w_get (v := .int tk1) fX10_118 (hUs_at nd 0 rfl rfl) rfl dX10_readLoop_145 ?_
        refine w_iconst (v := 3) dX10_readLoop_148 (by decide) ?_
        refine w_icmp_ne (tgt := 156) dX10_readLoop_149 rfl (fun b149 => ?_) (fun b149 => ?_)
        · refine w_iconst (v := 0) dX10_readLoop_156 (by decide) ?_
          refine w_istore (ls2 := [some (.ref m), some (.long v0), none, some (.int (nI l)), some (.int 0), some (.int v1)]) dX10_readLoop_157 (by decide) rfl rfl ?_
          refine w_goto (tgt := 53) dX10_readLoop_159 rfl ?_
          refine w_less (ls2 := [some (.ref m), some (.long v0), none, some (.int (nI l)), some (.int 0), none]) ⟨Or.inr rfl, Or.inr rfl, Or.inl rfl, Or.inr rfl, Or.inr rfl, Or.inl rfl, trivial⟩ ?_
          have hv9 : v1 = (rTN ft 1 32 x).2.2.2.2.2.2.1 := by
            rw [hu9.2]; exact hv1 y9 e9
          have hnf : ∀ j, j < q + 1 → upd gf (3 * l + q) v1 (3 * l + j) = upd f q (rTN ft 1 32 x).2.2.2.2.2.2.1 j := fun j hj => by
            by_cases z : j = q
            · subst z; rw [pk_us, pk_us, hv9]
            · rw [pk_un (by omega), pk_un z]; exact hgf j (by omega)
          have e8 : rFc ft (n + 1) x q f = (1, y9, q + 1, upd f q (rTN ft 1 32 x).2.2.2.2.2.2.1) := by
            rw [rFc, if_neg hu9.1, if_pos hq3, if_neg (by rw [hu9.2]; exact fun z => b149 (hk2.2.2.1.mpr z)), hu9.2]
          rw [e8] at hR
          refine w_iload dX10_readLoop_53 rfl ?_
          refine w_if_eq_t (tgt := 162) dX10_readLoop_55 rfl rfl ?_
          refine w_less (ls2 := [some (.ref m), some (.long v0), none, some (.int (nI l)), none, none]) ⟨Or.inr rfl, Or.inr rfl, Or.inl rfl, Or.inr rfl, Or.inl rfl, Or.inl rfl, trivial⟩ ?_
          exact k _ _ _ _ _ _ _ _ _ _ (by rw [← hR]; exact hp1) (fun _ => by rw [← hR]; exact ⟨pk_us, hnf⟩) (frO_u hfs) (frT_u hff hq3)
        · refine w_iconst (v := 1) dX10_readLoop_152 (by decide) ?_
          refine w_goto (tgt := 157) dX10_readLoop_153 rfl ?_
          refine w_istore (ls2 := [some (.ref m), some (.long v0), none, some (.int (nI l)), some (.int 1), some (.int v1)]) dX10_readLoop_157 (by decide) rfl rfl ?_
          refine w_goto (tgt := 53) dX10_readLoop_159 rfl ?_
          refine w_less (ls2 := [some (.ref m), some (.long v0), none, some (.int (nI l)), some (.int 1), none]) ⟨Or.inr rfl, Or.inr rfl, Or.inl rfl, Or.inr rfl, Or.inr rfl, Or.inl rfl, trivial⟩ ?_
          have hv9 : v1 = (rTN ft 1 32 x).2.2.2.2.2.2.1 := by
            rw [hu9.2]; exact hv1 y9 e9
          have hnf : ∀ j, j < q + 1 → upd gf (3 * l + q) v1 (3 * l + j) = upd f q (rTN ft 1 32 x).2.2.2.2.2.2.1 j := fun j hj => by
            by_cases z : j = q
            · subst z; rw [pk_us, pk_us, hv9]
            · rw [pk_un (by omega), pk_un z]; exact hgf j (by omega)
          have e8 : rFc ft (n + 1) x q f = rFc ft n y9 (q + 1) (upd f q (rTN ft 1 32 x).2.2.2.2.2.2.1) := by
            rw [rFc, if_neg hu9.1, if_pos hq3, if_pos (by rw [hu9.2]; exact hk2.2.2.1.mp b149), hu9.2]
          rw [e8] at hR
          exact ih (q + 1) y9 _ _ _ _ _ _ _ _ _ _ _ (by omega) (by omega) pk_us hnf (frO_u hfs) (frT_u hff hq3) hp1 hR
      · rw [e9] at hp1
        refine w_aload_n dX10_readLoop_103 rfl ?_
        refine w_get (v := .int fa1) fX10_99 (hUs_at nd 0 rfl rfl) rfl dX10_readLoop_104 ?_
        refine w_if_ne_t (tgt := 137) dX10_readLoop_107 rfl (fun z => absurd hp1.2.1 (by rw [← hp1.1, z]; decide)) ?_
        refine w_aload_n dX10_readLoop_137 rfl ?_
        refine w_get (v := .int fa1) fX10_99 (hUs_at nd 0 rfl rfl) rfl dX10_readLoop_138 ?_
        refine w_if_ne_t (tgt := 156) dX10_readLoop_141 rfl (fun z => absurd hp1.2.1 (by rw [← hp1.1, z]; decide)) ?_
        refine w_iconst (v := 0) dX10_readLoop_156 (by decide) ?_
        refine w_istore (ls2 := [some (.ref m), some (.long v0), none, some (.int (nI l)), some (.int 0), some (.int v1)]) dX10_readLoop_157 (by decide) rfl rfl ?_
        refine w_goto (tgt := 53) dX10_readLoop_159 rfl ?_
        refine w_less (ls2 := [some (.ref m), some (.long v0), none, some (.int (nI l)), some (.int 0), none]) ⟨Or.inr rfl, Or.inr rfl, Or.inl rfl, Or.inr rfl, Or.inr rfl, Or.inl rfl, trivial⟩ ?_
        have hb := rcS_r ((rwS_l (by decide)).symm.trans e9)
        have e8 : rFc ft (n + 1) x q f = (0, (rTN ft 1 32 x).2, q, f) := by
          rw [rFc, if_pos hb.1]
        rw [e8] at hR
        refine w_iload dX10_readLoop_53 rfl ?_
        refine w_if_eq_t (tgt := 162) dX10_readLoop_55 rfl rfl ?_
        refine w_less (ls2 := [some (.ref m), some (.long v0), none, some (.int (nI l)), none, none]) ⟨Or.inr rfl, Or.inr rfl, Or.inl rfl, Or.inr rfl, Or.inl rfl, Or.inl rfl, trivial⟩ ?_
        exact k _ _ _ _ _ _ _ _ _ _ (by rw [← hR]; show pR (.inr ((rTN ft 1 32 x).2.2.2.2.2.2.2.1, (rTN ft 1 32 x).2.2.2.2.2.2.2.2)) _ _ _ _ _ _ _ _ _; rw [← hb.2]; exact hp1) (fun z => absurd (show R9.1 = 0 by rw [← hR]) z) hfs hff
    · refine w_aload_n dX10_readLoop_66 rfl ?_
      refine w_get (v := .ref (m + 4)) fX10_24 (hUs_at nd 0 rfl rfl) rfl dX10_readLoop_67 ?_
      refine w_iload_n dX10_readLoop_70 rfl ?_
      refine w_ialoadN (hUs_at nd 4 rfl rfl) (by omega) (by omega) dX10_readLoop_71 ?_
      refine w_top (z := nI q) hgs ?_
      refine w_iconst (v := 3) dX10_readLoop_72 (by decide) ?_
      refine w_icmp_ne (tgt := 94) dX10_readLoop_73 rfl (fun b73 => ?_) (fun b73 => ?_)
      · have b73 : ¬ q = 3 := fun z => b73 ((nI_eq (a := q) (b := 3) (by omega) (by omega)).mpr z)
        refine w_aload_n dX10_readLoop_94 rfl ?_
        refine w_iconst (v := 1) dX10_readLoop_95 (by decide) ?_
        refine w_bipush (v := 32) dX10_readLoop_96 (by decide) ?_
        refine w_callV (ci := 10) (d' := d + 9) (mc' := 0) (ms' := 0) (As := [.int 1, .int 32]) (st := []) lX10_191 vX10_readWhole rfl (hUs_at nd 0 rfl rfl) rfl (Nat.le_of_ble_eq_true rfl) dX10_readLoop_98 (Nat.le_of_ble_eq_true rfl) (Nat.le_of_ble_eq_true rfl) (Nat.le_refl _) (m_readWhole (s := (.inl x)) (hHas_sub nd (as' := [m, m + 1]) (cs' := [(oC 10 (mF m th tr wa tp (nI E) sp fa fl tk ta sg nu wd lo wv rl rw ht sd ah cl)), (aI 600 gt)]) [0, 1] rfl rfl) (nd_sub nd (as' := [m, m + 1]) [0, 1] rfl rfl) hE hT hp (fun sp1 fa1 fl1 tk1 ta1 sg1 nu1 wd1 v1 hp1 hv1 => ?_))
        refine w_heq (hUs_in nd rfl [0, 1] (cs2 := [(oC 10 (mF m th tr wa tp (nI E) sp1 fa1 fl1 tk1 ta1 sg1 nu1 wd1 lo wv rl rw ht sd ah cl)), (aI 600 gt), (aL 8 ln), (aL 8 wn), (aI 8 gs), (aI 24 gf), (aI 8 fb), (aI 8 fn), (aZ 8 f3)]) rfl rfl) ?_
        refine w_istore (ls2 := [some (.ref m), some (.long v0), none, some (.int (nI l)), some (.int 1), some (.int v1)]) dX10_readLoop_101 (by decide) rfl rfl ?_
        rcases e9 : (rwS ft 1 32 (.inl x)) with y9 | b9
        · rw [e9] at hp1
          have hu9 := rcS_l ((rwS_l (by decide)).symm.trans e9)
          have hk2 := tkR_w hp1.2.2.2
          have hq3 : q < 3 := by
            rcases Nat.lt_or_ge q 3 with z | z
            · exact z
            · exact absurd ((show q = 3 by omega)) b73
          refine w_aload_n dX10_readLoop_103 rfl ?_
          refine w_get (v := .int fa1) fX10_99 (hUs_at nd 0 rfl rfl) rfl dX10_readLoop_104 ?_
          refine w_if_ne_f (tgt := 137) dX10_readLoop_107 rfl hp1.1 ?_
          refine w_aload_n dX10_readLoop_110 rfl ?_
          refine w_get (v := .ref (m + 5)) fX10_27 (hUs_at nd 0 rfl rfl) rfl dX10_readLoop_111 ?_
          refine w_iconst (v := (nI 3)) dX10_readLoop_114 (by decide) ?_
          refine w_iload_n dX10_readLoop_115 rfl ?_
          refine w_imulE (z := nI (3 * l)) dX10_readLoop_116 (pk_mul (3) (l)) ?_
          refine w_aload_n dX10_readLoop_117 rfl ?_
          refine w_get (v := .ref (m + 4)) fX10_24 (hUs_at nd 0 rfl rfl) rfl dX10_readLoop_118 ?_
          refine w_iload_n dX10_readLoop_121 rfl ?_
          refine w_ialoadN (hUs_at nd 4 rfl rfl) (by omega) (by omega) dX10_readLoop_122 ?_
          refine w_top (z := nI q) hgs ?_
          refine w_iaddE (z := nI ((3 * l) + q)) dX10_readLoop_123 (nI_add ((3 * l)) (q)) ?_
          refine w_iload dX10_readLoop_124 rfl ?_
          refine w_iastoreN (hUs_at nd 5 rfl rfl) (by omega) (by omega) dX10_readLoop_126 ?_
          refine w_heq (hUs_set nd rfl 5 (cs' := [(oC 10 (mF m th tr wa tp (nI E) sp1 fa1 fl1 tk1 ta1 sg1 nu1 wd1 lo wv rl rw ht sd ah cl)), (aI 600 gt), (aL 8 ln), (aL 8 wn), (aI 8 gs), (aI 24 (upd gf ((3 * l) + q) v1)), (aI 8 fb), (aI 8 fn), (aZ 8 f3)]) rfl rfl) ?_
          refine w_aload_n dX10_readLoop_127 rfl ?_
          refine w_get (v := .ref (m + 4)) fX10_24 (hUs_at nd 0 rfl rfl) rfl dX10_readLoop_128 ?_
          refine w_iload_n dX10_readLoop_131 rfl ?_
          refine w_dup2_11 dX10_readLoop_132 rfl rfl ?_
          refine w_ialoadN (hUs_at nd 4 rfl rfl) (by omega) (by omega) dX10_readLoop_133 ?_
          refine w_top (z := nI q) hgs ?_
          refine w_iconst (v := 1) dX10_readLoop_134 (by decide) ?_
          refine w_iaddE (z := nI (q + 1)) dX10_readLoop_135 (nI_add (q) (1)) ?_
          refine w_iastoreN (hUs_at nd 4 rfl rfl) (by omega) (by omega) dX10_readLoop_136 ?_
          refine w_heq (hUs_set nd rfl 4 (cs' := [(oC 10 (mF m th tr wa tp (nI E) sp1 fa1 fl1 tk1 ta1 sg1 nu1 wd1 lo wv rl rw ht sd ah cl)), (aI 600 gt), (aL 8 ln), (aL 8 wn), (aI 8 (upd gs l (nI (q + 1)))), (aI 24 (upd gf ((3 * l) + q) v1)), (aI 8 fb), (aI 8 fn), (aZ 8 f3)]) rfl rfl) ?_
          refine w_aload_n dX10_readLoop_137 rfl ?_
          refine w_get (v := .int fa1) fX10_99 (hUs_at nd 0 rfl rfl) rfl dX10_readLoop_138 ?_
          refine w_if_ne_f (tgt := 156) dX10_readLoop_141 rfl hp1.1 ?_
          refine w_aload_n dX10_readLoop_144 rfl ?_
          refine w_get (v := .int tk1) fX10_118 (hUs_at nd 0 rfl rfl) rfl dX10_readLoop_145 ?_
          refine w_iconst (v := 3) dX10_readLoop_148 (by decide) ?_
          refine w_icmp_ne (tgt := 156) dX10_readLoop_149 rfl (fun b149 => ?_) (fun b149 => ?_)
          · refine w_iconst (v := 0) dX10_readLoop_156 (by decide) ?_
            refine w_istore (ls2 := [some (.ref m), some (.long v0), none, some (.int (nI l)), some (.int 0), some (.int v1)]) dX10_readLoop_157 (by decide) rfl rfl ?_
            refine w_goto (tgt := 53) dX10_readLoop_159 rfl ?_
            refine w_less (ls2 := [some (.ref m), some (.long v0), none, some (.int (nI l)), some (.int 0), none]) ⟨Or.inr rfl, Or.inr rfl, Or.inl rfl, Or.inr rfl, Or.inr rfl, Or.inl rfl, trivial⟩ ?_
            have hv9 : v1 = (rTN ft 1 32 x).2.2.2.2.2.2.1 := by
              rw [hu9.2]; exact hv1 y9 e9
            have hnf : ∀ j, j < q + 1 → upd gf (3 * l + q) v1 (3 * l + j) = upd f q (rTN ft 1 32 x).2.2.2.2.2.2.1 j := fun j hj => by
              by_cases z : j = q
              · subst z; rw [pk_us, pk_us, hv9]
              · rw [pk_un (by omega), pk_un z]; exact hgf j (by omega)
            have e8 : rFc ft (n + 1) x q f = (1, y9, q + 1, upd f q (rTN ft 1 32 x).2.2.2.2.2.2.1) := by
              rw [rFc, if_neg hu9.1, if_pos hq3, if_neg (by rw [hu9.2]; exact fun z => b149 (hk2.2.2.1.mpr z)), hu9.2]
            rw [e8] at hR
            refine w_iload dX10_readLoop_53 rfl ?_
            refine w_if_eq_t (tgt := 162) dX10_readLoop_55 rfl rfl ?_
            refine w_less (ls2 := [some (.ref m), some (.long v0), none, some (.int (nI l)), none, none]) ⟨Or.inr rfl, Or.inr rfl, Or.inl rfl, Or.inr rfl, Or.inl rfl, Or.inl rfl, trivial⟩ ?_
            exact k _ _ _ _ _ _ _ _ _ _ (by rw [← hR]; exact hp1) (fun _ => by rw [← hR]; exact ⟨pk_us, hnf⟩) (frO_u hfs) (frT_u hff hq3)
          · refine w_iconst (v := 1) dX10_readLoop_152 (by decide) ?_
            refine w_goto (tgt := 157) dX10_readLoop_153 rfl ?_
            refine w_istore (ls2 := [some (.ref m), some (.long v0), none, some (.int (nI l)), some (.int 1), some (.int v1)]) dX10_readLoop_157 (by decide) rfl rfl ?_
            refine w_goto (tgt := 53) dX10_readLoop_159 rfl ?_
            refine w_less (ls2 := [some (.ref m), some (.long v0), none, some (.int (nI l)), some (.int 1), none]) ⟨Or.inr rfl, Or.inr rfl, Or.inl rfl, Or.inr rfl, Or.inr rfl, Or.inl rfl, trivial⟩ ?_
            have hv9 : v1 = (rTN ft 1 32 x).2.2.2.2.2.2.1 := by
              rw [hu9.2]; exact hv1 y9 e9
            have hnf : ∀ j, j < q + 1 → upd gf (3 * l + q) v1 (3 * l + j) = upd f q (rTN ft 1 32 x).2.2.2.2.2.2.1 j := fun j hj => by
              by_cases z : j = q
              · subst z; rw [pk_us, pk_us, hv9]
              · rw [pk_un (by omega), pk_un z]; exact hgf j (by omega)
            have e8 : rFc ft (n + 1) x q f = rFc ft n y9 (q + 1) (upd f q (rTN ft 1 32 x).2.2.2.2.2.2.1) := by
              rw [rFc, if_neg hu9.1, if_pos hq3, if_pos (by rw [hu9.2]; exact hk2.2.2.1.mp b149), hu9.2]
            rw [e8] at hR
            exact ih (q + 1) y9 _ _ _ _ _ _ _ _ _ _ _ (by omega) (by omega) pk_us hnf (frO_u hfs) (frT_u hff hq3) hp1 hR
        · rw [e9] at hp1
          refine w_aload_n dX10_readLoop_103 rfl ?_
          refine w_get (v := .int fa1) fX10_99 (hUs_at nd 0 rfl rfl) rfl dX10_readLoop_104 ?_
          refine w_if_ne_t (tgt := 137) dX10_readLoop_107 rfl (fun z => absurd hp1.2.1 (by rw [← hp1.1, z]; decide)) ?_
          refine w_aload_n dX10_readLoop_137 rfl ?_
          refine w_get (v := .int fa1) fX10_99 (hUs_at nd 0 rfl rfl) rfl dX10_readLoop_138 ?_
          refine w_if_ne_t (tgt := 156) dX10_readLoop_141 rfl (fun z => absurd hp1.2.1 (by rw [← hp1.1, z]; decide)) ?_
          refine w_iconst (v := 0) dX10_readLoop_156 (by decide) ?_
          refine w_istore (ls2 := [some (.ref m), some (.long v0), none, some (.int (nI l)), some (.int 0), some (.int v1)]) dX10_readLoop_157 (by decide) rfl rfl ?_
          refine w_goto (tgt := 53) dX10_readLoop_159 rfl ?_
          refine w_less (ls2 := [some (.ref m), some (.long v0), none, some (.int (nI l)), some (.int 0), none]) ⟨Or.inr rfl, Or.inr rfl, Or.inl rfl, Or.inr rfl, Or.inr rfl, Or.inl rfl, trivial⟩ ?_
          have hb := rcS_r ((rwS_l (by decide)).symm.trans e9)
          have e8 : rFc ft (n + 1) x q f = (0, (rTN ft 1 32 x).2, q, f) := by
            rw [rFc, if_pos hb.1]
          rw [e8] at hR
          refine w_iload dX10_readLoop_53 rfl ?_
          refine w_if_eq_t (tgt := 162) dX10_readLoop_55 rfl rfl ?_
          refine w_less (ls2 := [some (.ref m), some (.long v0), none, some (.int (nI l)), none, none]) ⟨Or.inr rfl, Or.inr rfl, Or.inl rfl, Or.inr rfl, Or.inl rfl, Or.inl rfl, trivial⟩ ?_
          exact k _ _ _ _ _ _ _ _ _ _ (by rw [← hR]; show pR (.inr ((rTN ft 1 32 x).2.2.2.2.2.2.2.1, (rTN ft 1 32 x).2.2.2.2.2.2.2.2)) _ _ _ _ _ _ _ _ _; rw [← hb.2]; exact hp1) (fun z => absurd (show R9.1 = 0 by rw [← hR]) z) hfs hff
      · have b73 := (nI_eq (a := q) (b := 3) (by omega) (by omega)).mp b73
        refine w_aload_n dX10_readLoop_76 rfl ?_
        refine w_get (v := .int nu) fX10_136 (hUs_at nd 0 rfl rfl) rfl dX10_readLoop_77 ?_
        refine w_iconst (v := 1) dX10_readLoop_80 (by decide) ?_
        refine w_bipush (v := 32) dX10_readLoop_81 (by decide) ?_
        refine w_callS (d' := d + 9) (mc' := 0) (ms' := 0) (As := [.int nu, .int 1, .int 32]) (st := []) lX10_111 vX10_in rfl (Nat.le_of_ble_eq_true rfl) dX10_readLoop_83 (Nat.le_of_ble_eq_true rfl) (Nat.le_of_ble_eq_true rfl) (Nat.le_refl _) (c_in ?_)
        refine w_if_eq (tgt := 94) dX10_readLoop_86 rfl (fun b86 => ?_) (fun b86 => ?_)
        · refine w_aload_n dX10_readLoop_94 rfl ?_
          refine w_iconst (v := 1) dX10_readLoop_95 (by decide) ?_
          refine w_bipush (v := 32) dX10_readLoop_96 (by decide) ?_
          refine w_callV (ci := 10) (d' := d + 9) (mc' := 0) (ms' := 0) (As := [.int 1, .int 32]) (st := []) lX10_191 vX10_readWhole rfl (hUs_at nd 0 rfl rfl) rfl (Nat.le_of_ble_eq_true rfl) dX10_readLoop_98 (Nat.le_of_ble_eq_true rfl) (Nat.le_of_ble_eq_true rfl) (Nat.le_refl _) (m_readWhole (s := (.inl x)) (hHas_sub nd (as' := [m, m + 1]) (cs' := [(oC 10 (mF m th tr wa tp (nI E) sp fa fl tk ta sg nu wd lo wv rl rw ht sd ah cl)), (aI 600 gt)]) [0, 1] rfl rfl) (nd_sub nd (as' := [m, m + 1]) [0, 1] rfl rfl) hE hT hp (fun sp1 fa1 fl1 tk1 ta1 sg1 nu1 wd1 v1 hp1 hv1 => ?_))
          refine w_heq (hUs_in nd rfl [0, 1] (cs2 := [(oC 10 (mF m th tr wa tp (nI E) sp1 fa1 fl1 tk1 ta1 sg1 nu1 wd1 lo wv rl rw ht sd ah cl)), (aI 600 gt), (aL 8 ln), (aL 8 wn), (aI 8 gs), (aI 24 gf), (aI 8 fb), (aI 8 fn), (aZ 8 f3)]) rfl rfl) ?_
          refine w_istore (ls2 := [some (.ref m), some (.long v0), none, some (.int (nI l)), some (.int 1), some (.int v1)]) dX10_readLoop_101 (by decide) rfl rfl ?_
          rcases e9 : (rwS ft 1 32 (.inl x)) with y9 | b9
          · rw [e9] at hp1
            have hu9 := rcS_l ((rwS_l (by decide)).symm.trans e9)
            have hk2 := tkR_w hp1.2.2.2
            have hq3 : q < 3 := by
              rcases Nat.lt_or_ge q 3 with z | z
              · exact z
              · exact absurd ((show q = 3 by omega)) (fun _ => by
                  have t1 := hu9.1
                  rw [rTN_p (by decide), rTN1_w (hk1.2.2.1.mp b63), if_pos (by rw [← (hk1.2.2.2.1 (hk1.2.2.1.mp b63)).1]; exact inB_0 b86)] at t1
                  exact t1 rfl)
            refine w_aload_n dX10_readLoop_103 rfl ?_
            refine w_get (v := .int fa1) fX10_99 (hUs_at nd 0 rfl rfl) rfl dX10_readLoop_104 ?_
            refine w_if_ne_f (tgt := 137) dX10_readLoop_107 rfl hp1.1 ?_
            refine w_aload_n dX10_readLoop_110 rfl ?_
            refine w_get (v := .ref (m + 5)) fX10_27 (hUs_at nd 0 rfl rfl) rfl dX10_readLoop_111 ?_
            refine w_iconst (v := (nI 3)) dX10_readLoop_114 (by decide) ?_
            refine w_iload_n dX10_readLoop_115 rfl ?_
            refine w_imulE (z := nI (3 * l)) dX10_readLoop_116 (pk_mul (3) (l)) ?_
            refine w_aload_n dX10_readLoop_117 rfl ?_
            refine w_get (v := .ref (m + 4)) fX10_24 (hUs_at nd 0 rfl rfl) rfl dX10_readLoop_118 ?_
            refine w_iload_n dX10_readLoop_121 rfl ?_
            refine w_ialoadN (hUs_at nd 4 rfl rfl) (by omega) (by omega) dX10_readLoop_122 ?_
            refine w_top (z := nI q) hgs ?_
            refine w_iaddE (z := nI ((3 * l) + q)) dX10_readLoop_123 (nI_add ((3 * l)) (q)) ?_
            refine w_iload dX10_readLoop_124 rfl ?_
            refine w_iastoreN (hUs_at nd 5 rfl rfl) (by omega) (by omega) dX10_readLoop_126 ?_
            refine w_heq (hUs_set nd rfl 5 (cs' := [(oC 10 (mF m th tr wa tp (nI E) sp1 fa1 fl1 tk1 ta1 sg1 nu1 wd1 lo wv rl rw ht sd ah cl)), (aI 600 gt), (aL 8 ln), (aL 8 wn), (aI 8 gs), (aI 24 (upd gf ((3 * l) + q) v1)), (aI 8 fb), (aI 8 fn), (aZ 8 f3)]) rfl rfl) ?_
            refine w_aload_n dX10_readLoop_127 rfl ?_
            refine w_get (v := .ref (m + 4)) fX10_24 (hUs_at nd 0 rfl rfl) rfl dX10_readLoop_128 ?_
            refine w_iload_n dX10_readLoop_131 rfl ?_
            refine w_dup2_11 dX10_readLoop_132 rfl rfl ?_
            refine w_ialoadN (hUs_at nd 4 rfl rfl) (by omega) (by omega) dX10_readLoop_133 ?_
            refine w_top (z := nI q) hgs ?_
            refine w_iconst (v := 1) dX10_readLoop_134 (by decide) ?_
            refine w_iaddE (z := nI (q + 1)) dX10_readLoop_135 (nI_add (q) (1)) ?_
            refine w_iastoreN (hUs_at nd 4 rfl rfl) (by omega) (by omega) dX10_readLoop_136 ?_
            refine w_heq (hUs_set nd rfl 4 (cs' := [(oC 10 (mF m th tr wa tp (nI E) sp1 fa1 fl1 tk1 ta1 sg1 nu1 wd1 lo wv rl rw ht sd ah cl)), (aI 600 gt), (aL 8 ln), (aL 8 wn), (aI 8 (upd gs l (nI (q + 1)))), (aI 24 (upd gf ((3 * l) + q) v1)), (aI 8 fb), (aI 8 fn), (aZ 8 f3)]) rfl rfl) ?_
            refine w_aload_n dX10_readLoop_137 rfl ?_
            refine w_get (v := .int fa1) fX10_99 (hUs_at nd 0 rfl rfl) rfl dX10_readLoop_138 ?_
            refine w_if_ne_f (tgt := 156) dX10_readLoop_141 rfl hp1.1 ?_
            refine w_aload_n dX10_readLoop_144 rfl ?_
            refine w_get (v := .int tk1) fX10_118 (hUs_at nd 0 rfl rfl) rfl dX10_readLoop_145 ?_
            refine w_iconst (v := 3) dX10_readLoop_148 (by decide) ?_
            refine w_icmp_ne (tgt := 156) dX10_readLoop_149 rfl (fun b149 => ?_) (fun b149 => ?_)
            · refine w_iconst (v := 0) dX10_readLoop_156 (by decide) ?_
              refine w_istore (ls2 := [some (.ref m), some (.long v0), none, some (.int (nI l)), some (.int 0), some (.int v1)]) dX10_readLoop_157 (by decide) rfl rfl ?_
              refine w_goto (tgt := 53) dX10_readLoop_159 rfl ?_
              refine w_less (ls2 := [some (.ref m), some (.long v0), none, some (.int (nI l)), some (.int 0), none]) ⟨Or.inr rfl, Or.inr rfl, Or.inl rfl, Or.inr rfl, Or.inr rfl, Or.inl rfl, trivial⟩ ?_
              have hv9 : v1 = (rTN ft 1 32 x).2.2.2.2.2.2.1 := by
                rw [hu9.2]; exact hv1 y9 e9
              have hnf : ∀ j, j < q + 1 → upd gf (3 * l + q) v1 (3 * l + j) = upd f q (rTN ft 1 32 x).2.2.2.2.2.2.1 j := fun j hj => by
                by_cases z : j = q
                · subst z; rw [pk_us, pk_us, hv9]
                · rw [pk_un (by omega), pk_un z]; exact hgf j (by omega)
              have e8 : rFc ft (n + 1) x q f = (1, y9, q + 1, upd f q (rTN ft 1 32 x).2.2.2.2.2.2.1) := by
                rw [rFc, if_neg hu9.1, if_pos hq3, if_neg (by rw [hu9.2]; exact fun z => b149 (hk2.2.2.1.mpr z)), hu9.2]
              rw [e8] at hR
              refine w_iload dX10_readLoop_53 rfl ?_
              refine w_if_eq_t (tgt := 162) dX10_readLoop_55 rfl rfl ?_
              refine w_less (ls2 := [some (.ref m), some (.long v0), none, some (.int (nI l)), none, none]) ⟨Or.inr rfl, Or.inr rfl, Or.inl rfl, Or.inr rfl, Or.inl rfl, Or.inl rfl, trivial⟩ ?_
              exact k _ _ _ _ _ _ _ _ _ _ (by rw [← hR]; exact hp1) (fun _ => by rw [← hR]; exact ⟨pk_us, hnf⟩) (frO_u hfs) (frT_u hff hq3)
            · refine w_iconst (v := 1) dX10_readLoop_152 (by decide) ?_
              refine w_goto (tgt := 157) dX10_readLoop_153 rfl ?_
              refine w_istore (ls2 := [some (.ref m), some (.long v0), none, some (.int (nI l)), some (.int 1), some (.int v1)]) dX10_readLoop_157 (by decide) rfl rfl ?_
              refine w_goto (tgt := 53) dX10_readLoop_159 rfl ?_
              refine w_less (ls2 := [some (.ref m), some (.long v0), none, some (.int (nI l)), some (.int 1), none]) ⟨Or.inr rfl, Or.inr rfl, Or.inl rfl, Or.inr rfl, Or.inr rfl, Or.inl rfl, trivial⟩ ?_
              have hv9 : v1 = (rTN ft 1 32 x).2.2.2.2.2.2.1 := by
                rw [hu9.2]; exact hv1 y9 e9
              have hnf : ∀ j, j < q + 1 → upd gf (3 * l + q) v1 (3 * l + j) = upd f q (rTN ft 1 32 x).2.2.2.2.2.2.1 j := fun j hj => by
                by_cases z : j = q
                · subst z; rw [pk_us, pk_us, hv9]
                · rw [pk_un (by omega), pk_un z]; exact hgf j (by omega)
              have e8 : rFc ft (n + 1) x q f = rFc ft n y9 (q + 1) (upd f q (rTN ft 1 32 x).2.2.2.2.2.2.1) := by
                rw [rFc, if_neg hu9.1, if_pos hq3, if_pos (by rw [hu9.2]; exact hk2.2.2.1.mp b149), hu9.2]
              rw [e8] at hR
              exact ih (q + 1) y9 _ _ _ _ _ _ _ _ _ _ _ (by omega) (by omega) pk_us hnf (frO_u hfs) (frT_u hff hq3) hp1 hR
          · rw [e9] at hp1
            refine w_aload_n dX10_readLoop_103 rfl ?_
            refine w_get (v := .int fa1) fX10_99 (hUs_at nd 0 rfl rfl) rfl dX10_readLoop_104 ?_
            refine w_if_ne_t (tgt := 137) dX10_readLoop_107 rfl (fun z => absurd hp1.2.1 (by rw [← hp1.1, z]; decide)) ?_
            refine w_aload_n dX10_readLoop_137 rfl ?_
            refine w_get (v := .int fa1) fX10_99 (hUs_at nd 0 rfl rfl) rfl dX10_readLoop_138 ?_
            refine w_if_ne_t (tgt := 156) dX10_readLoop_141 rfl (fun z => absurd hp1.2.1 (by rw [← hp1.1, z]; decide)) ?_
            refine w_iconst (v := 0) dX10_readLoop_156 (by decide) ?_
            refine w_istore (ls2 := [some (.ref m), some (.long v0), none, some (.int (nI l)), some (.int 0), some (.int v1)]) dX10_readLoop_157 (by decide) rfl rfl ?_
            refine w_goto (tgt := 53) dX10_readLoop_159 rfl ?_
            refine w_less (ls2 := [some (.ref m), some (.long v0), none, some (.int (nI l)), some (.int 0), none]) ⟨Or.inr rfl, Or.inr rfl, Or.inl rfl, Or.inr rfl, Or.inr rfl, Or.inl rfl, trivial⟩ ?_
            have hb := rcS_r ((rwS_l (by decide)).symm.trans e9)
            have e8 : rFc ft (n + 1) x q f = (0, (rTN ft 1 32 x).2, q, f) := by
              rw [rFc, if_pos hb.1]
            rw [e8] at hR
            refine w_iload dX10_readLoop_53 rfl ?_
            refine w_if_eq_t (tgt := 162) dX10_readLoop_55 rfl rfl ?_
            refine w_less (ls2 := [some (.ref m), some (.long v0), none, some (.int (nI l)), none, none]) ⟨Or.inr rfl, Or.inr rfl, Or.inl rfl, Or.inr rfl, Or.inl rfl, Or.inl rfl, trivial⟩ ?_
            exact k _ _ _ _ _ _ _ _ _ _ (by rw [← hR]; show pR (.inr ((rTN ft 1 32 x).2.2.2.2.2.2.2.1, (rTN ft 1 32 x).2.2.2.2.2.2.2.2)) _ _ _ _ _ _ _ _ _; rw [← hb.2]; exact hp1) (fun z => absurd (show R9.1 = 0 by rw [← hR]) z) hfs hff
        · refine w_aload_n dX10_readLoop_89 rfl ?_
          refine w_iconst (v := 4) dX10_readLoop_90 (by decide) ?_
          refine w_callV (ci := 10) (d' := d + 9) (mc' := 0) (ms' := 0) (As := [.int 4]) (st := []) lX10_160 vX10_flaw rfl (hUs_at nd 0 rfl rfl) rfl (Nat.le_of_ble_eq_true rfl) dX10_readLoop_91 (Nat.le_of_ble_eq_true rfl) (Nat.le_of_ble_eq_true rfl) (Nat.le_refl _) (m_flaw (s := (.inl x)) (hHas_sub nd (as' := [m]) (cs' := [(oC 10 (mF m th tr wa tp (nI E) sp fa fl tk ta sg nu wd lo wv rl rw ht sd ah cl))]) [0] rfl rfl) (nd_sub nd (as' := [m]) [0] rfl rfl) (by decide) hp (fun fa1 fl1 hp1 => ?_))
          refine w_heq (hUs_in nd rfl [0] (cs2 := [(oC 10 (mF m th tr wa tp (nI E) sp fa1 fl1 tk ta sg nu wd lo wv rl rw ht sd ah cl)), (aI 600 gt), (aL 8 ln), (aL 8 wn), (aI 8 gs), (aI 24 gf), (aI 8 fb), (aI 8 fn), (aZ 8 f3)]) rfl rfl) ?_
          refine w_aload_n dX10_readLoop_94 rfl ?_
          refine w_iconst (v := 1) dX10_readLoop_95 (by decide) ?_
          refine w_bipush (v := 32) dX10_readLoop_96 (by decide) ?_
          refine w_callV (ci := 10) (d' := d + 9) (mc' := 0) (ms' := 0) (As := [.int 1, .int 32]) (st := []) lX10_191 vX10_readWhole rfl (hUs_at nd 0 rfl rfl) rfl (Nat.le_of_ble_eq_true rfl) dX10_readLoop_98 (Nat.le_of_ble_eq_true rfl) (Nat.le_of_ble_eq_true rfl) (Nat.le_refl _) (m_readWhole (s := (flS 4 (.inl x))) (hHas_sub nd (as' := [m, m + 1]) (cs' := [(oC 10 (mF m th tr wa tp (nI E) sp fa1 fl1 tk ta sg nu wd lo wv rl rw ht sd ah cl)), (aI 600 gt)]) [0, 1] rfl rfl) (nd_sub nd (as' := [m, m + 1]) [0, 1] rfl rfl) hE hT hp1 (fun sp2 fa2 fl2 tk2 ta2 sg2 nu2 wd2 v2 hp2 hv2 => ?_))
          refine w_heq (hUs_in nd rfl [0, 1] (cs2 := [(oC 10 (mF m th tr wa tp (nI E) sp2 fa2 fl2 tk2 ta2 sg2 nu2 wd2 lo wv rl rw ht sd ah cl)), (aI 600 gt), (aL 8 ln), (aL 8 wn), (aI 8 gs), (aI 24 gf), (aI 8 fb), (aI 8 fn), (aZ 8 f3)]) rfl rfl) ?_
          refine w_istore (ls2 := [some (.ref m), some (.long v0), none, some (.int (nI l)), some (.int 1), some (.int v2)]) dX10_readLoop_101 (by decide) rfl rfl ?_
          rcases e9 : (rwS ft 1 32 (flS 4 (.inl x))) with y9 | b9
          · exact absurd e9 (by intro z; cases z)
          · rw [e9] at hp2
            refine w_aload_n dX10_readLoop_103 rfl ?_
            refine w_get (v := .int fa2) fX10_99 (hUs_at nd 0 rfl rfl) rfl dX10_readLoop_104 ?_
            refine w_if_ne_t (tgt := 137) dX10_readLoop_107 rfl (fun z => absurd hp2.2.1 (by rw [← hp2.1, z]; decide)) ?_
            refine w_aload_n dX10_readLoop_137 rfl ?_
            refine w_get (v := .int fa2) fX10_99 (hUs_at nd 0 rfl rfl) rfl dX10_readLoop_138 ?_
            refine w_if_ne_t (tgt := 156) dX10_readLoop_141 rfl (fun z => absurd hp2.2.1 (by rw [← hp2.1, z]; decide)) ?_
            refine w_iconst (v := 0) dX10_readLoop_156 (by decide) ?_
            refine w_istore (ls2 := [some (.ref m), some (.long v0), none, some (.int (nI l)), some (.int 0), some (.int v2)]) dX10_readLoop_157 (by decide) rfl rfl ?_
            refine w_goto (tgt := 53) dX10_readLoop_159 rfl ?_
            refine w_less (ls2 := [some (.ref m), some (.long v0), none, some (.int (nI l)), some (.int 0), none]) ⟨Or.inr rfl, Or.inr rfl, Or.inl rfl, Or.inr rfl, Or.inr rfl, Or.inl rfl, trivial⟩ ?_
            have e8 : rFc ft (n + 1) x q f = (0, rFl (rTN ft 1 32 x).2 4 (nI x.2.2.2.1), q, f) := by
              have e7 : ¬ (rTN ft 1 32 x).1 = 0 := by
                rw [rTN_p (by decide), rTN1_w (hk1.2.2.1.mp b63), if_neg (by
                  rw [← (hk1.2.2.2.1 (hk1.2.2.1.mp b63)).1]
                  exact fun z => z.elim (fun z => absurd (inB_1 b86).1 (Int32.not_le.mpr z)) (fun z => absurd (inB_1 b86).2 (Int32.not_le.mpr z)))]
                show ¬ (1 : Int32) = 0
                decide
              rw [rFc, if_neg e7, if_neg (by omega)]
            rw [e8] at hR
            have hb9 : b9 = (4, nI x.2.2.2.1) := by cases e9; rfl
            refine w_iload dX10_readLoop_53 rfl ?_
            refine w_if_eq_t (tgt := 162) dX10_readLoop_55 rfl rfl ?_
            refine w_less (ls2 := [some (.ref m), some (.long v0), none, some (.int (nI l)), none, none]) ⟨Or.inr rfl, Or.inr rfl, Or.inl rfl, Or.inr rfl, Or.inl rfl, Or.inl rfl, trivial⟩ ?_
            exact k _ _ _ _ _ _ _ _ _ _ (by rw [← hR]; show pR (.inr (4, nI x.2.2.2.1)) _ _ _ _ _ _ _ _ _; rw [← hb9]; exact hp2) (fun z => absurd (show R9.1 = 0 by rw [← hR]) z) hfs hff
