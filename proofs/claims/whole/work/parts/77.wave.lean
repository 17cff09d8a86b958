theorem rPc_n {ft : Nat → Int32} {x : rD} {W : wP} (h : ¬ (rPc ft x W).1 = 0) : (rPc ft x W).2.2.2.2.2.2.1 = W.2.2.2.2.1 + 1 := by
  by_cases h1 : isW x.2.2.1 x.2.2.2.2.1 [104, 111, 108, 100] 4 = 0
  · by_cases h2 : isW x.2.2.1 x.2.2.2.2.1 [114, 97, 109, 112] 4 = 0
    · by_cases h3 : isW x.2.2.1 x.2.2.2.2.1 [115, 119, 105, 110, 103] 5 = 0
      · exact absurd (by rw [rPc, if_pos h1, if_pos h2, if_pos h3]) h
      · by_cases h8 : W.2.2.2.2.1 < 8
        · have q := pc_swing (ft := ft) (x := x) (W := W) h8 h1 h2 h3
          obtain ⟨_, _, _, _, g⟩ := q.2 _ (q.1.trans (rcS_1 h))
          rw [g]; rfl
        · exact absurd (by rw [rPc, if_pos h1, if_pos h2, if_neg h3, rPc1, if_neg (by omega)]) h
    · by_cases h8 : W.2.2.2.2.1 < 8
      · have q := pc_ramp (ft := ft) (x := x) (W := W) h8 h1 h2
        obtain ⟨_, _, _, _, g⟩ := q.2 _ (q.1.trans (rcS_1 h))
        rw [g]; rfl
      · exact absurd (by rw [rPc, if_pos h1, if_neg h2, rPc1, if_neg (by omega)]) h
  · by_cases h8 : W.2.2.2.2.1 < 8
    · have q := pc_hold (ft := ft) (x := x) (W := W) h8 h1
      obtain ⟨_, _, _, _, g⟩ := q.2 _ (q.1.trans (rcS_1 h))
      rw [g]; rfl
    · exact absurd (by rw [rPc, if_neg h1, rPc1, if_neg (by omega)]) h
theorem rWvL_0 {ft : Nat → Int32} {T : Int32 × rD × wP} (h : siS (rcS (T.1, T.2.1)) 44 = 0) : ∀ (n : Nat), rWvL ft n T.1 T.2.1 T.2.2 = T
  | 0 => rfl
  | n + 1 => by
    rw [rWvL]
    by_cases e : T.1 = 0
    · rw [if_pos e]
    · rw [if_neg e]
      rw [show rcS (T.1, T.2.1) = .inl T.2.1 from rcS_1 e] at h
      rw [if_pos (show isM T.2.1.2.2.1 T.2.1.2.2.2.2.1 44 = 0 from h)]
theorem rWvL_1 {ft : Nat → Int32} {T : Int32 × rD × wP} (h : ¬ siS (rcS (T.1, T.2.1)) 44 = 0) : ¬ T.1 = 0 ∧ rcS (T.1, T.2.1) = .inl T.2.1 ∧ ∀ n, rWvL ft (n + 1) T.1 T.2.1 T.2.2 = rWvL ft n (rPc ft (rStp ft T.2.1) T.2.2).1 (rPc ft (rStp ft T.2.1) T.2.2).2.1 (rPc ft (rStp ft T.2.1) T.2.2).2.2 := by
  by_cases e : T.1 = 0
  · rw [show rcS (T.1, T.2.1) = _ from rcS_0 e] at h; exact absurd rfl h
  · have e2 : rcS (T.1, T.2.1) = .inl T.2.1 := rcS_1 e
    rw [e2] at h
    refine ⟨e, e2, fun n => ?_⟩
    rw [rWvL, if_neg e, if_neg (show ¬ isM T.2.1.2.2.1 T.2.1.2.2.2.2.1 44 = 0 from h)]
theorem wv_r {ft : Nat → Int32} {x : rD} {P : pD} (h4 : P.2.1 < 4) {b : Int32 × Int32} (h : nwS ft (pW1 P) (gS ft (.inl x)) = .inr b) : rcS ((rWv ft x P).1, (rWv ft x P).2.1) = .inr b := by
  have e0 : nwS ft (pW1 P) (gS ft (.inl x)) = rcS (rNm ft (pW1 P) (rStp ft x)) := rfl
  rw [e0] at h
  rw [rWv, if_pos h4, rWv1]
  by_cases e1 : (rNm ft (pW1 P) (rStp ft x)).1 = 0
  · rw [rcS_0 e1] at h
    rw [if_pos e1]
    exact h
  · rw [rcS_1 e1] at h; cases h
theorem wv_l {ft : Nat → Int32} {x : rD} {P : pD} (h4 : P.2.1 < 4) {y : rD} (h : nwS ft (pW1 P) (gS ft (.inl x)) = .inl y) {T R : Int32 × rD × wP} (hT : rPc ft y (wvC (P.2.2.2 P.2.1).2) = T) (hR : rWvL ft 9 T.1 T.2.1 T.2.2 = R) : rWv ft x P = (R.1, R.2.1, (P.1, P.2.1 + 1, P.2.2.1, updD P.2.2.2 P.2.1 (y.2.2.2.2.2.1, R.2.2))) := by
  have e0 : nwS ft (pW1 P) (gS ft (.inl x)) = rcS (rNm ft (pW1 P) (rStp ft x)) := rfl
  rw [e0] at h
  rw [rWv, if_pos h4, rWv1]
  have h2 := rcS_l h
  rw [if_neg h2.1, h2.2, rWv2, hT, hR]
/-- outside the eight places of a wave -/
def frE (l : Nat) (f g : Nat → Int32) : Prop := ∀ j, (j < 8 * l ∨ 8 * l + 8 ≤ j) → g j = f j
def fr4 (l : Nat) (fk fx fy fc gk gx gy gc : Nat → Int32) : Prop := ∀ j, (j < 8 * l ∨ 8 * l + 8 ≤ j) → gk j = fk j ∧ gx j = fx j ∧ gy j = fy j ∧ gc j = fc j
theorem fr4_t {l : Nat} {a b c d a2 b2 c2 d2 a3 b3 c3 d3 : Nat → Int32} (h : fr4 l a b c d a2 b2 c2 d2) (h2 : ∀ j, (j < 8 * l ∨ 8 * l + 8 ≤ j) → a3 j = a2 j ∧ b3 j = b2 j ∧ c3 j = c2 j ∧ d3 j = d2 j) : fr4 l a b c d a3 b3 c3 d3 := fun j hj => by
  have p := h j hj
  have q := h2 j hj
  exact ⟨q.1.trans p.1, q.2.1.trans p.2.1, q.2.2.1.trans p.2.2.1, q.2.2.2.trans p.2.2.2⟩
theorem frO_t {α : Type} {l : Nat} {f g k : Nat → α} (h : frO l f g) (h2 : frO l g k) : frO l f k := fun j hj => (h2 j hj).trans (h j hj)
theorem hNm_P {P : pD} {ln wn : Nat → Int64} (h : nmS P ln wn) : hNm P ln wn P.1 P.2.1 := by
  intro v hv
  rw [nmS_any h hv, hasN_0]
  have h0 := nmOk_0 hv
  refine ⟨fun z => ⟨fun j hj e => z j (by have := h.1.1; omega) (Or.inl ?_), fun j hj e => z j (by have := h.1.2; omega) (Or.inr ?_)⟩, fun z k hk y => ?_⟩
  · rw [Nat.zero_add]
    show (if j < P.1 then (P.2.2.1 j).1 else 0) = v
    rw [if_pos hj]; exact e
  · rw [Nat.zero_add]
    show (if j < P.2.1 then (P.2.2.2 j).1 else 0) = v
    rw [if_pos hj]; exact e
  · rw [Nat.zero_add] at y
    rcases y with y | y
    · have y1 : (if k < P.1 then (P.2.2.1 k).1 else 0) = v := y
      by_cases c : k < P.1
      · rw [if_pos c] at y1; exact z.1 k c y1
      · rw [if_neg c] at y1; exact h0 y1
    · have y1 : (if k < P.2.1 then (P.2.2.2 k).1 else 0) = v := y
      by_cases c : k < P.2.1
      · rw [if_pos c] at y1; exact z.2 k c y1
      · rw [if_neg c] at y1; exact h0 y1
theorem wGs_0 (W : wP) : wGs (wvC W) := ⟨Nat.zero_le _, rfl, fun p hp => absurd hp (Nat.not_lt_zero p)⟩
theorem wGs_g {W : wP} (h : wGs W) (h1 : 1 ≤ W.2.2.2.2.1) : wGd W := ⟨h1, h⟩
set_option maxRecDepth 100000 in
set_option maxHeartbeats 4000000 in
theorem l_wav {G : wG} {d : Nat} {h : hH} {Q : Option Value → hH → Prop} {m : Nat} {th tr wa tp : Int32} {lo wv rl rw ht sd ah cl : Int32} {ft gt : Nat → Int32} {E : Nat} {ln : Nat → Int64} {wn : Nat → Int64} {fp : Nat → Int32} {fk : Nat → Int32} {fx : Nat → Int32} {fy : Nat → Int32} {fc : Nat → Int32} {l : Nat} {v0 : Int64} {R9 : Int32 × rD × wP} (nd : [m, m + 1, m + 2, m + 3, m + 8, m + 10, m + 11, m + 12, m + 13].Nodup) (hE : E ≤ 600) (hT : mT E ft gt) (hl : l < 8) (k : ∀ (sp fa fl tk ta sg nu : Int32) (wd : Int64) (gp gk gx gy gc : Nat → Int32), pR (rcS (R9.1, R9.2.1)) E sp fa fl tk ta sg nu wd → frO l fp gp → fr4 l fk fx fy fc gk gx gy gc → (¬ R9.1 = 0 → gp l = nI R9.2.2.2.2.2.2.1 ∧ wAt R9.2.2 (8 * l) gk gx gy gc ∧ wGs R9.2.2) → (¬ R9.1 = 0 → 1 ≤ R9.2.2.2.2.2.2.1) → WP G RX10 cX10_readWave 4 none false (d + 10) 0 0 0 0 Q 70 [some (.ref m), some (.long v0), none, some (.int (nI l))] [] (hUs h [m, m + 1, m + 2, m + 3, m + 8, m + 10, m + 11, m + 12, m + 13] [(oC 10 (mF m th tr wa tp (nI E) sp fa fl tk ta sg nu wd lo wv rl rw ht sd ah cl)), (aI 600 gt), (aL 8 ln), (aL 8 wn), (aI 8 gp), (aI 64 gk), (aI 64 gx), (aI 64 gy), (aI 64 gc)])) : ∀ (n : Nat) (T : Int32 × rD × wP) (gp gk gx gy gc : Nat → Int32) (sp fa fl tk ta sg nu : Int32) (wd : Int64), (¬ T.1 = 0 → 1 ≤ T.2.2.2.2.2.2.1 ∧ T.2.2.2.2.2.2.1 + n = 10) → pR (rcS (T.1, T.2.1)) E sp fa fl tk ta sg nu wd → frO l fp gp → fr4 l fk fx fy fc gk gx gy gc → (¬ T.1 = 0 → gp l = nI T.2.2.2.2.2.2.1 ∧ wAt T.2.2 (8 * l) gk gx gy gc ∧ wGs T.2.2) → rWvL ft n T.1 T.2.1 T.2.2 = R9 → WP G RX10 cX10_readWave 4 none false (d + 10) 0 0 0 0 Q 49 [some (.ref m), some (.long v0), none, some (.int (nI l))] [] (hUs h [m, m + 1, m + 2, m + 3, m + 8, m + 10, m + 11, m + 12, m + 13] [(oC 10 (mF m th tr wa tp (nI E) sp fa fl tk ta sg nu wd lo wv rl rw ht sd ah cl)), (aI 600 gt), (aL 8 ln), (aL 8 wn), (aI 8 gp), (aI 64 gk), (aI 64 gx), (aI 64 gy), (aI 64 gc)]) := by
  intro n
  induction n with
  | zero =>
    intro T gp gk gx gy gc sp fa fl tk ta sg nu wd hc hp hf1 hf2 hgd hR
    have b55 : siS (rcS (T.1, T.2.1)) 44 = 0 := by
      by_cases e : T.1 = 0
      · rw [show rcS (T.1, T.2.1) = _ from rcS_0 e]; rfl
      · have a1 := (hc e).2
        have a2 := (hgd e).2.2.1
        omega
    refine w_aload_n dX10_readWave_49 rfl ?_
    refine w_bipush (v := 44) dX10_readWave_50 (by decide) ?_
    refine w_callV (ci := 10) (d' := d + 9) (mc' := 0) (ms' := 0) (As := [.int 44]) (st := []) lX10_188 vX10_isSign rfl (hUs_at nd 0 rfl rfl) rfl (Nat.le_of_ble_eq_true rfl) dX10_readWave_52 (Nat.le_of_ble_eq_true rfl) (Nat.le_of_ble_eq_true rfl) (Nat.le_refl _) (m_isSign (s := (rcS (T.1, T.2.1))) (hHas_sub nd (as' := [m]) (cs' := [(oC 10 (mF m th tr wa tp (nI E) sp fa fl tk ta sg nu wd lo wv rl rw ht sd ah cl))]) [0] rfl rfl) hp ?_)
    refine w_if_eq_t (tgt := 70) dX10_readWave_55 rfl b55 ?_
    rw [rWvL_0 b55] at hR
    rw [← hR] at k
    exact k _ _ _ _ _ _ _ _ _ _ _ _ _ hp hf1 hf2 hgd (fun z => (hc z).1)
  | succ n ih =>
    intro T gp gk gx gy gc sp fa fl tk ta sg nu wd hc hp hf1 hf2 hgd hR
    refine w_aload_n dX10_readWave_49 rfl ?_
    refine w_bipush (v := 44) dX10_readWave_50 (by decide) ?_
    refine w_callV (ci := 10) (d' := d + 9) (mc' := 0) (ms' := 0) (As := [.int 44]) (st := []) lX10_188 vX10_isSign rfl (hUs_at nd 0 rfl rfl) rfl (Nat.le_of_ble_eq_true rfl) dX10_readWave_52 (Nat.le_of_ble_eq_true rfl) (Nat.le_of_ble_eq_true rfl) (Nat.le_refl _) (m_isSign (s := (rcS (T.1, T.2.1))) (hHas_sub nd (as' := [m]) (cs' := [(oC 10 (mF m th tr wa tp (nI E) sp fa fl tk ta sg nu wd lo wv rl rw ht sd ah cl))]) [0] rfl rfl) hp ?_)
    refine w_if_eq (tgt := 70) dX10_readWave_55 rfl (fun b55 => ?_) (fun b55 => ?_)
    · rw [rWvL_0 b55] at hR
      rw [← hR] at k
      exact k _ _ _ _ _ _ _ _ _ _ _ _ _ hp hf1 hf2 hgd (fun z => (hc z).1)
    · have h1 := rWvL_1 (ft := ft) b55
      have hp0 := pR_q h1.2.1 hp
      have hg1 := hgd h1.1
      refine w_aload_n dX10_readWave_58 rfl ?_
      refine w_callV (ci := 10) (d' := d + 9) (mc' := 0) (ms' := 0) (As := []) (st := []) lX10_164 vX10_goOn rfl (hUs_at nd 0 rfl rfl) rfl (Nat.le_of_ble_eq_true rfl) dX10_readWave_59 (Nat.le_of_ble_eq_true rfl) (Nat.le_of_ble_eq_true rfl) (Nat.le_refl _) (m_goOn (s := (.inl T.2.1)) (hHas_sub nd (as' := [m, m + 1]) (cs' := [(oC 10 (mF m th tr wa tp (nI E) sp fa fl tk ta sg nu wd lo wv rl rw ht sd ah cl)), (aI 600 gt)]) [0, 1] rfl rfl) (nd_sub nd (as' := [m, m + 1]) [0, 1] rfl rfl) hE hT hp0 (fun sp1 fa1 fl1 tk1 ta1 sg1 nu1 wd1 hp1 => ?_))
      refine w_heq (hUs_in nd rfl [0, 1] (cs2 := [(oC 10 (mF m th tr wa tp (nI E) sp1 fa1 fl1 tk1 ta1 sg1 nu1 wd1 lo wv rl rw ht sd ah cl)), (aI 600 gt), (aL 8 ln), (aL 8 wn), (aI 8 gp), (aI 64 gk), (aI 64 gx), (aI 64 gy), (aI 64 gc)]) rfl rfl) ?_
      refine w_aload_n dX10_readWave_62 rfl ?_
      refine w_iload_n dX10_readWave_63 rfl ?_
      refine w_callV (ci := 10) (d' := d + 9) (mc' := 0) (ms' := 0) (As := [.int (nI l)]) (st := []) lX10_219 vX10_readPiece rfl (hUs_at nd 0 rfl rfl) rfl (Nat.le_of_ble_eq_true rfl) dX10_readWave_64 (Nat.le_of_ble_eq_true rfl) (Nat.le_of_ble_eq_true rfl) (Nat.le_refl _) (m_readPiece (l := l) (x := (rStp ft T.2.1)) (W := T.2.2) (hHas_sub nd (as' := [m, m + 1, m + 8, m + 10, m + 11, m + 12, m + 13]) (cs' := [(oC 10 (mF m th tr wa tp (nI E) sp1 fa1 fl1 tk1 ta1 sg1 nu1 wd1 lo wv rl rw ht sd ah cl)), (aI 600 gt), (aI 8 gp), (aI 64 gk), (aI 64 gx), (aI 64 gy), (aI 64 gc)]) [0, 1, 4, 5, 6, 7, 8] rfl rfl) (nd_sub nd (as' := [m, m + 1, m + 8, m + 10, m + 11, m + 12, m + 13]) [0, 1, 4, 5, 6, 7, 8] rfl rfl) hE hT (by omega) hg1.1 hg1.2.1 hg1.2.2 hp1 (fun sp2 fa2 fl2 tk2 ta2 sg2 nu2 wd2 gp2 gk2 gx2 gy2 gc2 hp2 hfp2 hfk2 hgd2 => ?_))
      refine w_heq (hUs_in nd rfl [0, 1, 4, 5, 6, 7, 8] (cs2 := [(oC 10 (mF m th tr wa tp (nI E) sp2 fa2 fl2 tk2 ta2 sg2 nu2 wd2 lo wv rl rw ht sd ah cl)), (aI 600 gt), (aL 8 ln), (aL 8 wn), (aI 8 gp2), (aI 64 gk2), (aI 64 gx2), (aI 64 gy2), (aI 64 gc2)]) rfl rfl) ?_
      refine w_goto (tgt := 49) dX10_readWave_67 rfl ?_
      rw [h1.2.2] at hR
      exact ih (rPc ft (rStp ft T.2.1) T.2.2) _ _ _ _ _ _ _ _ _ _ _ _ _ (fun z => ⟨by have := rPc_n z; omega, by have := rPc_n z; have := (hc h1.1).2; omega⟩) hp2 (frO_t hf1 hfp2) (fr4_t hf2 hfk2) hgd2 hR
