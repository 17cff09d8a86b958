theorem rw_rng {ft : Nat → Int32} {lo hi : Int32} {s : pS} {y : rD} (h : rwS ft lo hi s = .inl y) : lo ≤ y.2.2.2.2.2.1 ∧ y.2.2.2.2.2.1 ≤ hi := by
  cases s with
  | inr b => cases h
  | inl x =>
    have h2 : rcS (rTN1 ft lo hi 0 x) = .inl y := h
    by_cases e : x.2.2.1 = 2
    · rw [rTN1_w e] at h2
      by_cases z : x.2.2.2.2.1 < lo ∨ hi < x.2.2.2.2.1
      · rw [if_pos z] at h2; cases h2
      · rw [if_neg z] at h2
        have h3 : (.inl (rStp ft (rTk x x.2.2.2.2.1)) : pS) = .inl y := h2
        cases h3
        rw [rStp_t9]
        exact ⟨Int32.not_lt.mp (fun q => z (Or.inl q)), Int32.not_lt.mp (fun q => z (Or.inr q))⟩
    · rw [rTN1, if_neg e] at h2; cases h2
theorem rFc_g (ft : Nat → Int32) : ∀ (m : Nat) (x : rD) (n : Nat) (f : Nat → Int32), n ≤ 3 → (∀ s, n ≤ s → f s = 0) → n + m = 4 → ¬ (rFc ft m x n f).1 = 0 → 1 ≤ (rFc ft m x n f).2.2.1 ∧ (rFc ft m x n f).2.2.1 ≤ 3 ∧ ∀ s, (rFc ft m x n f).2.2.1 ≤ s → (rFc ft m x n f).2.2.2 s = 0
  | 0, x, n, f, h, h2, h3, _ => by omega
  | m + 1, x, n, f, h, h2, h3, h4 => by
    rw [rFc] at h4 ⊢
    by_cases e1 : (rTN ft 1 32 x).1 = 0
    · rw [if_pos e1] at h4; exact absurd rfl h4
    · rw [if_neg e1] at h4 ⊢
      by_cases e2 : n < 3
      · rw [if_pos e2] at h4 ⊢
        have hz : ∀ s, n + 1 ≤ s → upd f n (rTN ft 1 32 x).2.2.2.2.2.2.1 s = 0 := fun s hs => by rw [pk_un (by omega)]; exact h2 s (by omega)
        by_cases e3 : (rTN ft 1 32 x).2.2.2.1 = 2
        · rw [if_pos e3] at h4 ⊢
          exact rFc_g ft m _ (n + 1) _ (by omega) hz (by omega) h4
        · rw [if_neg e3] at h4 ⊢
          exact ⟨by show 1 ≤ n + 1; omega, by show n + 1 ≤ 3; omega, hz⟩
      · rw [if_neg e2] at h4; exact absurd rfl h4
theorem lp_r {ft : Nat → Int32} {x : rD} {P : pD} (h4 : P.1 < 4) {b : Int32 × Int32} (h : ndS ft [98, 121] 2 (nwS ft (pL1 P) (gS ft (.inl x))) = .inr b) : rcS ((rLp ft x P).1, (rLp ft x P).2.1) = .inr b := by
  rw [rLp, if_pos h4, rLp1]
  have e0 : nwS ft (pL1 P) (gS ft (.inl x)) = rcS (rNm ft (pL1 P) (rStp ft x)) := rfl
  rw [e0] at h
  by_cases e1 : (rNm ft (pL1 P) (rStp ft x)).1 = 0
  · rw [rcS_0 e1, ndS_r] at h
    rw [if_pos e1]
    exact h
  · rw [rcS_1 e1, ndS_l] at h
    rw [if_neg e1, rLp2]
    have h2 := rcS_r h
    rw [if_pos h2.1, h2.2]
    rfl
theorem lp_l {ft : Nat → Int32} {x : rD} {P : pD} (h4 : P.1 < 4) {y4 : rD} (h : ndS ft [98, 121] 2 (nwS ft (pL1 P) (gS ft (.inl x))) = .inl y4) : ∃ y3, nwS ft (pL1 P) (gS ft (.inl x)) = .inl y3 ∧ rcS ((rLp ft x P).1, (rLp ft x P).2.1) = c4S ft (rcS ((rFc ft 4 y4 0 (fun _ => 0)).1, (rFc ft 4 y4 0 (fun _ => 0)).2.1)) ∧ (∀ y5, c4S ft (rcS ((rFc ft 4 y4 0 (fun _ => 0)).1, (rFc ft 4 y4 0 (fun _ => 0)).2.1)) = .inl y5 → ¬ (rFc ft 4 y4 0 (fun _ => 0)).1 = 0 ∧ ∃ y1, c1S ft (rcS ((rFc ft 4 y4 0 (fun _ => 0)).1, (rFc ft 4 y4 0 (fun _ => 0)).2.1)) = .inl y1 ∧ (rLp ft x P).2.2.2.2.1 P.1 = (y3.2.2.2.2.2.1, (rFc ft 4 y4 0 (fun _ => 0)).2.2.1, (rFc ft 4 y4 0 (fun _ => 0)).2.2.2, y1.2.2.2.2.2.1, (if isS (c2S ft (rcS ((rFc ft 4 y4 0 (fun _ => 0)).1, (rFc ft 4 y4 0 (fun _ => 0)).2.1))) [110, 111, 105, 115, 101] 5 = 0 then 0 else y5.2.2.2.2.2.1), isS (.inl y1) [116, 104, 114, 101, 101] 5)) := by
  have e0 : nwS ft (pL1 P) (gS ft (.inl x)) = rcS (rNm ft (pL1 P) (rStp ft x)) := rfl
  rw [e0] at h ⊢
  by_cases e1 : (rNm ft (pL1 P) (rStp ft x)).1 = 0
  · rw [rcS_0 e1, ndS_r] at h; cases h
  · rw [rcS_1 e1] at h ⊢
    refine ⟨_, rfl, ?_⟩
    rw [ndS_l] at h
    have h2 := rcS_l h
    have hD : rLp ft x P = ((rLp3 ft (rNm ft (pL1 P) (rStp ft x)).2.2.2.2.2.2.1 y4).1, (rLp3 ft (rNm ft (pL1 P) (rStp ft x)).2.2.2.2.2.2.1 y4).2.1, (P.1 + 1, P.2.1, updD P.2.2.1 P.1 (rLp3 ft (rNm ft (pL1 P) (rStp ft x)).2.2.2.2.2.2.1 y4).2.2, P.2.2.2)) := by
      rw [rLp, if_pos h4, rLp1, if_neg e1, rLp2, if_neg h2.1, h2.2]
    rw [hD]
    show rcS ((rLp3 ft _ y4).1, (rLp3 ft _ y4).2.1) = _ ∧ ∀ y5, _ → _ ∧ ∃ y1, _ ∧ updD P.2.2.1 P.1 (rLp3 ft (rNm ft (pL1 P) (rStp ft x)).2.2.2.2.2.2.1 y4).2.2 P.1 = _
    rw [updD, if_pos rfl]
    by_cases e2 : (rFc ft 4 y4 0 (fun _ => 0)).1 = 0
    · rw [show rLp3 ft (rNm ft (pL1 P) (rStp ft x)).2.2.2.2.2.2.1 y4 = (0, (rFc ft 4 y4 0 (fun _ => 0)).2.1, ((rNm ft (pL1 P) (rStp ft x)).2.2.2.2.2.2.1, (rFc ft 4 y4 0 (fun _ => 0)).2.2.1, (rFc ft 4 y4 0 (fun _ => 0)).2.2.2, 0, 0, 0)) by rw [rLp3, if_pos e2]]
      rw [show rcS ((rFc ft 4 y4 0 (fun _ => 0)).1, (rFc ft 4 y4 0 (fun _ => 0)).2.1) = _ from rcS_0 e2, c4_r]
      exact ⟨rfl, fun y z => by cases z⟩
    · rw [show rLp3 ft (rNm ft (pL1 P) (rStp ft x)).2.2.2.2.2.2.1 y4 = rLp4 ft (rNm ft (pL1 P) (rStp ft x)).2.2.2.2.2.2.1 (rFc ft 4 y4 0 (fun _ => 0)).2.2.1 (rFc ft 4 y4 0 (fun _ => 0)).2.2.2 (rFc ft 4 y4 0 (fun _ => 0)).2.1 by rw [rLp3, if_neg e2]]
      rw [show rcS ((rFc ft 4 y4 0 (fun _ => 0)).1, (rFc ft 4 y4 0 (fun _ => 0)).2.1) = .inl (rFc ft 4 y4 0 (fun _ => 0)).2.1 from rcS_1 e2]
      have h5 := c4_l ft (rNm ft (pL1 P) (rStp ft x)).2.2.2.2.2.2.1 (rFc ft 4 y4 0 (fun _ => 0)).2.2.1 (rFc ft 4 y4 0 (fun _ => 0)).2.2.2 (rFc ft 4 y4 0 (fun _ => 0)).2.1
      exact ⟨h5.1.symm, fun y z => ⟨e2, h5.2 y z⟩⟩
theorem vz_nar {s : pS} {bs : List Int32} {n : Nat} : vp_nar .boolean (isS s bs n) = isS s bs n := by
  rcases isS_01 s bs n with e | e <;> rw [e] <;> rfl
set_option maxRecDepth 100000 in
set_option maxHeartbeats 4000000 in
theorem m_readLoop {G : wG} {d : Nat} {h : hH} {Q : Option Value → hH → Prop} {m : Nat} {th tr wa tp sp fa fl tk ta sg nu : Int32} {wd : Int64} {lo wv ht sd ah cl : Int32} {ft gt : Nat → Int32} {E : Nat} {ln : Nat → Int64} {wn : Nat → Int64} {fs : Nat → Int32} {ff : Nat → Int32} {fb : Nat → Int32} {fn : Nat → Int32} {f3 : Nat → Int32} {x : rD} {P : pD} (hw : hHas h [m, m + 1, m + 2, m + 3, m + 4, m + 5, m + 6, m + 7, m + 9] [(oC 10 (mF m th tr wa tp (nI E) sp fa fl tk ta sg nu wd lo wv (nI P.1) (nI P.2.1) ht sd ah cl)), (aI 600 gt), (aL 8 ln), (aL 8 wn), (aI 8 fs), (aI 24 ff), (aI 8 fb), (aI 8 fn), (aZ 8 f3)]) (nd : [m, m + 1, m + 2, m + 3, m + 4, m + 5, m + 6, m + 7, m + 9].Nodup) (hE : E ≤ 600) (hT : mT E ft gt) (hS : nmS P ln wn) (h4 : P.1 < 4) (hp : pR (.inl x) E sp fa fl tk ta sg nu wd) (k : ∀ (sp fa fl tk ta sg nu : Int32) (wd : Int64) (rl : Int32) (ln9 : Nat → Int64) (fs9 ff9 fb9 fn9 f39 : Nat → Int32), pR (rcS ((rLp ft x P).1, (rLp ft x P).2.1)) E sp fa fl tk ta sg nu wd → frO (4 + P.1) ln ln9 → frO (4 + P.1) fs fs9 → frT (4 + P.1) ff ff9 → frO (4 + P.1) fb fb9 → frO (4 + P.1) fn fn9 → frO (4 + P.1) f3 f39 → (¬ (rLp ft x P).1 = 0 → rl = nI (P.1 + 1) ∧ mLp ((rLp ft x P).2.2.2.2.1 P.1) (4 + P.1) ln9 fs9 ff9 fb9 fn9 f39 ∧ lGd ((rLp ft x P).2.2.2.2.1 P.1)) → Q none (hUs h [m, m + 1, m + 2, m + 3, m + 4, m + 5, m + 6, m + 7, m + 9] [(oC 10 (mF m th tr wa tp (nI E) sp fa fl tk ta sg nu wd lo wv rl (nI P.2.1) ht sd ah cl)), (aI 600 gt), (aL 8 ln9), (aL 8 wn), (aI 8 fs9), (aI 24 ff9), (aI 8 fb9), (aI 8 fn9), (aZ 8 f39)])) : Cl G yX10_readLoop (d + 10) 0 0 [.ref m] h Q := by
  have hw4 : P.2.1 ≤ 4 := hS.1.2
  refine Cl.of (ini := false) kX10_readLoop (plainFor_of_name (by decide)) (by decide) (Nat.le_of_ble_eq_true rfl) rfl rfl (fun z => by cases z) ?_
  refine w_heq (hUs_id hw).symm ?_
  refine w_aload_n dX10_readLoop_0 rfl ?_
  refine w_get (v := .int (nI P.1)) fX10_199 (hUs_at nd 0 rfl rfl) rfl dX10_readLoop_1 ?_
  refine w_iconst (v := 4) dX10_readLoop_4 (by decide) ?_
  refine w_icmp_ne_t (tgt := 13) dX10_readLoop_5 rfl (fun z => absurd ((nI_eq (a := P.1) (b := 4) (by omega) (by omega)).mp z) (by omega)) ?_
  refine w_aload_n dX10_readLoop_13 rfl ?_
  refine w_callV (ci := 10) (d' := d + 9) (mc' := 0) (ms' := 0) (As := []) (st := []) lX10_164 vX10_goOn rfl (hUs_at nd 0 rfl rfl) rfl (Nat.le_of_ble_eq_true rfl) dX10_readLoop_14 (Nat.le_of_ble_eq_true rfl) (Nat.le_of_ble_eq_true rfl) (Nat.le_refl _) (m_goOn (s := (.inl x)) (hHas_sub nd (as' := [m, m + 1]) (cs' := [(oC 10 (mF m th tr wa tp (nI E) sp fa fl tk ta sg nu wd lo wv (nI P.1) (nI P.2.1) ht sd ah cl)), (aI 600 gt)]) [0, 1] rfl rfl) (nd_sub nd (as' := [m, m + 1]) [0, 1] rfl rfl) hE hT hp (fun sp1 fa1 fl1 tk1 ta1 sg1 nu1 wd1 hp1 => ?_))
  refine w_heq (hUs_in nd rfl [0, 1] (cs2 := [(oC 10 (mF m th tr wa tp (nI E) sp1 fa1 fl1 tk1 ta1 sg1 nu1 wd1 lo wv (nI P.1) (nI P.2.1) ht sd ah cl)), (aI 600 gt), (aL 8 ln), (aL 8 wn), (aI 8 fs), (aI 24 ff), (aI 8 fb), (aI 8 fn), (aZ 8 f3)]) rfl rfl) ?_
  refine w_aload_n dX10_readLoop_17 rfl ?_
  refine w_callV (ci := 10) (d' := d + 9) (mc' := 0) (ms' := 0) (As := []) (st := []) lX10_205 vX10_readNew rfl (hUs_at nd 0 rfl rfl) rfl (Nat.le_of_ble_eq_true rfl) dX10_readLoop_18 (Nat.le_of_ble_eq_true rfl) (Nat.le_of_ble_eq_true rfl) (Nat.le_refl _) (m_readNew (s := (gS ft (.inl x))) (P9 := (pL1 P)) (hHas_sub nd (as' := [m, m + 1, m + 2, m + 3]) (cs' := [(oC 10 (mF m th tr wa tp (nI E) sp1 fa1 fl1 tk1 ta1 sg1 nu1 wd1 lo wv (nI P.1) (nI P.2.1) ht sd ah cl)), (aI 600 gt), (aL 8 ln), (aL 8 wn)]) [0, 1, 2, 3] rfl rfl) (nd_sub nd (as' := [m, m + 1, m + 2, m + 3]) [0, 1, 2, 3] rfl rfl) hE hT (by omega) (by omega) (hNm_L hS h4) hp1 (fun sp2 fa2 fl2 tk2 ta2 sg2 nu2 wd2 v2 hp2 hv2 => ?_))
  refine w_heq (hUs_in nd rfl [0, 1, 2, 3] (cs2 := [(oC 10 (mF m th tr wa tp (nI E) sp2 fa2 fl2 tk2 ta2 sg2 nu2 wd2 lo wv (nI P.1) (nI P.2.1) ht sd ah cl)), (aI 600 gt), (aL 8 ln), (aL 8 wn), (aI 8 fs), (aI 24 ff), (aI 8 fb), (aI 8 fn), (aZ 8 f3)]) rfl rfl) ?_
  refine w_lstore_n (ls2 := [some (.ref m), some (.long v2), none, none, none, none]) dX10_readLoop_21 (by decide) rfl rfl ?_
  refine w_aload_n dX10_readLoop_22 rfl ?_
  refine w_ldcS (i := 14) rfl rfl rfl dX10_readLoop_23 ?_
  refine w_callV (ci := 10) (d' := d + 9) (mc' := 0) (ms' := 0) (As := [.ref (G.2.2.1 14)]) (st := []) lX10_209 vX10_needs rfl (hUs_at nd 0 rfl rfl) rfl (Nat.le_of_ble_eq_true rfl) dX10_readLoop_25 (Nat.le_of_ble_eq_true rfl) (Nat.le_of_ble_eq_true rfl) (Nat.le_refl _) (m_needs (i := 14) (s := (nwS ft (pL1 P) (gS ft (.inl x)))) (hHas_sub nd (as' := [m, m + 1]) (cs' := [(oC 10 (mF m th tr wa tp (nI E) sp2 fa2 fl2 tk2 ta2 sg2 nu2 wd2 lo wv (nI P.1) (nI P.2.1) ht sd ah cl)), (aI 600 gt)]) [0, 1] rfl rfl) (nd_sub nd (as' := [m, m + 1]) [0, 1] rfl rfl) rfl hE hT hp2 (fun sp3 fa3 fl3 tk3 ta3 sg3 nu3 wd3 hp3 => ?_))
  refine w_heq (hUs_in nd rfl [0, 1] (cs2 := [(oC 10 (mF m th tr wa tp (nI E) sp3 fa3 fl3 tk3 ta3 sg3 nu3 wd3 lo wv (nI P.1) (nI P.2.1) ht sd ah cl)), (aI 600 gt), (aL 8 ln), (aL 8 wn), (aI 8 fs), (aI 24 ff), (aI 8 fb), (aI 8 fn), (aZ 8 f3)]) rfl rfl) ?_
  refine w_iconst (v := 4) dX10_readLoop_28 (by decide) ?_
  refine w_aload_n dX10_readLoop_29 rfl ?_
  refine w_get (v := .int (nI P.1)) fX10_199 (hUs_at nd 0 rfl rfl) rfl dX10_readLoop_30 ?_
  refine w_iaddE (z := nI (4 + P.1)) dX10_readLoop_33 (nI_add (4) (P.1)) ?_
  refine w_istore_n (ls2 := [some (.ref m), some (.long v2), none, some (.int (nI (4 + P.1))), none, none]) dX10_readLoop_34 (by decide) rfl rfl ?_
  rcases e4 : (ndS ft [98, 121] 2 (nwS ft (pL1 P) (gS ft (.inl x)))) with y4 | b4
  · rw [e4] at hp3
    obtain ⟨y3, hy3, hcs, hD⟩ := lp_l h4 e4
    have hrf := rFc_g ft 4 y4 0 (fun _ => 0) (by omega) (fun _ _ => rfl) rfl
    obtain ⟨R9, hR9⟩ : ∃ R, (rFc ft 4 y4 0 (fun _ => 0)) = R := ⟨_, rfl⟩
    rw [hR9] at hcs hD hrf
    obtain ⟨S9, hS9⟩ : ∃ S, rcS (R9.1, R9.2.1) = S := ⟨_, rfl⟩
    rw [hS9] at hcs hD
    refine w_aload_n dX10_readLoop_35 rfl ?_
    refine w_get (v := .int fa3) fX10_99 (hUs_at nd 0 rfl rfl) rfl dX10_readLoop_36 ?_
    refine w_if_le_t (tgt := 43) dX10_readLoop_39 rfl (by rw [hp3.1]; decide) ?_
    refine w_aload_n dX10_readLoop_43 rfl ?_
    refine w_get (v := .ref (m + 4)) fX10_24 (hUs_at nd 0 rfl rfl) rfl dX10_readLoop_44 ?_
    refine w_iload_n dX10_readLoop_47 rfl ?_
    refine w_iconst (v := (nI 0)) dX10_readLoop_48 (by decide) ?_
    refine w_iastoreN (hUs_at nd 4 rfl rfl) (by omega) (by omega) dX10_readLoop_49 ?_
    refine w_heq (hUs_set nd rfl 4 (cs' := [(oC 10 (mF m th tr wa tp (nI E) sp3 fa3 fl3 tk3 ta3 sg3 nu3 wd3 lo wv (nI P.1) (nI P.2.1) ht sd ah cl)), (aI 600 gt), (aL 8 ln), (aL 8 wn), (aI 8 (upd fs (4 + P.1) (nI 0))), (aI 24 ff), (aI 8 fb), (aI 8 fn), (aZ 8 f3)]) rfl rfl) ?_
    refine w_iconst (v := 1) dX10_readLoop_50 (by decide) ?_
    refine w_istore (ls2 := [some (.ref m), some (.long v2), none, some (.int (nI (4 + P.1))), some (.int 1), none]) dX10_readLoop_51 (by decide) rfl rfl ?_
    refine l_fac (l := 4 + P.1) (R9 := R9) nd hE hT (by omega) (fun sp4 fa4 fl4 tk4 ta4 sg4 nu4 wd4 gs gf hp4 hgs hfr1 hfr2 => ?_) 4 0 y4 (fun _ => 0) _ _ _ _ _ _ _ _ _ _ (by omega) (by omega) pk_us (fun j hj => absurd hj (Nat.not_lt_zero j)) (frO_u frO_r) (fun _ _ => rfl) hp3 hR9
    rw [hS9] at hp4
    refine w_aload_n dX10_readLoop_162 rfl ?_
    refine w_ldcS (i := 15) rfl rfl rfl dX10_readLoop_163 ?_
    refine w_callV (ci := 10) (d' := d + 9) (mc' := 0) (ms' := 0) (As := [.ref (G.2.2.1 15)]) (st := []) lX10_209 vX10_needs rfl (hUs_at nd 0 rfl rfl) rfl (Nat.le_of_ble_eq_true rfl) dX10_readLoop_165 (Nat.le_of_ble_eq_true rfl) (Nat.le_of_ble_eq_true rfl) (Nat.le_refl _) (m_needs (i := 15) (s := S9) (hHas_sub nd (as' := [m, m + 1]) (cs' := [(oC 10 (mF m th tr wa tp (nI E) sp4 fa4 fl4 tk4 ta4 sg4 nu4 wd4 lo wv (nI P.1) (nI P.2.1) ht sd ah cl)), (aI 600 gt)]) [0, 1] rfl rfl) (nd_sub nd (as' := [m, m + 1]) [0, 1] rfl rfl) rfl hE hT hp4 (fun sp5 fa5 fl5 tk5 ta5 sg5 nu5 wd5 hp5 => ?_))
    refine w_heq (hUs_in nd rfl [0, 1] (cs2 := [(oC 10 (mF m th tr wa tp (nI E) sp5 fa5 fl5 tk5 ta5 sg5 nu5 wd5 lo wv (nI P.1) (nI P.2.1) ht sd ah cl)), (aI 600 gt), (aL 8 ln), (aL 8 wn), (aI 8 gs), (aI 24 gf), (aI 8 fb), (aI 8 fn), (aZ 8 f3)]) rfl rfl) ?_
    refine w_aload_n dX10_readLoop_168 rfl ?_
    refine w_get (v := .ref (m + 6)) fX10_30 (hUs_at nd 0 rfl rfl) rfl dX10_readLoop_169 ?_
    refine w_iload_n dX10_readLoop_172 rfl ?_
    refine w_aload_n dX10_readLoop_173 rfl ?_
    refine w_sipush (v := 1000) dX10_readLoop_174 (by decide) ?_
    refine w_sipush (v := 9999) dX10_readLoop_177 (by decide) ?_
    refine w_callV (ci := 10) (d' := d + 9) (mc' := 0) (ms' := 0) (As := [.int 1000, .int 9999]) (st := [.int (nI (4 + P.1)), .ref (m + 6)]) lX10_191 vX10_readWhole rfl (hUs_at nd 0 rfl rfl) rfl (Nat.le_of_ble_eq_true rfl) dX10_readLoop_180 (Nat.le_of_ble_eq_true rfl) (Nat.le_of_ble_eq_true rfl) (Nat.le_refl _) (m_readWhole (s := (ndS ft [98, 111, 117, 110, 100] 5 S9)) (hHas_sub nd (as' := [m, m + 1]) (cs' := [(oC 10 (mF m th tr wa tp (nI E) sp5 fa5 fl5 tk5 ta5 sg5 nu5 wd5 lo wv (nI P.1) (nI P.2.1) ht sd ah cl)), (aI 600 gt)]) [0, 1] rfl rfl) (nd_sub nd (as' := [m, m + 1]) [0, 1] rfl rfl) hE hT hp5 (fun sp6 fa6 fl6 tk6 ta6 sg6 nu6 wd6 v6 hp6 hv6 => ?_))
    refine w_heq (hUs_in nd rfl [0, 1] (cs2 := [(oC 10 (mF m th tr wa tp (nI E) sp6 fa6 fl6 tk6 ta6 sg6 nu6 wd6 lo wv (nI P.1) (nI P.2.1) ht sd ah cl)), (aI 600 gt), (aL 8 ln), (aL 8 wn), (aI 8 gs), (aI 24 gf), (aI 8 fb), (aI 8 fn), (aZ 8 f3)]) rfl rfl) ?_
    refine w_iastoreN (hUs_at nd 6 rfl rfl) (by omega) (by omega) dX10_readLoop_183 ?_
    refine w_heq (hUs_set nd rfl 6 (cs' := [(oC 10 (mF m th tr wa tp (nI E) sp6 fa6 fl6 tk6 ta6 sg6 nu6 wd6 lo wv (nI P.1) (nI P.2.1) ht sd ah cl)), (aI 600 gt), (aL 8 ln), (aL 8 wn), (aI 8 gs), (aI 24 gf), (aI 8 (upd fb (4 + P.1) v6)), (aI 8 fn), (aZ 8 f3)]) rfl rfl) ?_
    refine w_aload_n dX10_readLoop_184 rfl ?_
    refine w_get (v := .ref (m + 9)) fX10_39 (hUs_at nd 0 rfl rfl) rfl dX10_readLoop_185 ?_
    refine w_iload_n dX10_readLoop_188 rfl ?_
    refine w_aload_n dX10_readLoop_189 rfl ?_
    refine w_ldcS (i := 16) rfl rfl rfl dX10_readLoop_190 ?_
    refine w_callV (ci := 10) (d' := d + 9) (mc' := 0) (ms' := 0) (As := [.ref (G.2.2.1 16)]) (st := [.int (nI (4 + P.1)), .ref (m + 9)]) lX10_213 vX10_passes rfl (hUs_at nd 0 rfl rfl) rfl (Nat.le_of_ble_eq_true rfl) dX10_readLoop_192 (Nat.le_of_ble_eq_true rfl) (Nat.le_of_ble_eq_true rfl) (Nat.le_refl _) (m_passes (i := 16) (s := (rwS ft 1000 9999 (ndS ft [98, 111, 117, 110, 100] 5 S9))) (hHas_sub nd (as' := [m, m + 1]) (cs' := [(oC 10 (mF m th tr wa tp (nI E) sp6 fa6 fl6 tk6 ta6 sg6 nu6 wd6 lo wv (nI P.1) (nI P.2.1) ht sd ah cl)), (aI 600 gt)]) [0, 1] rfl rfl) (nd_sub nd (as' := [m, m + 1]) [0, 1] rfl rfl) rfl hE hT hp6 (fun sp7 fa7 fl7 tk7 ta7 sg7 nu7 wd7 hp7 => ?_))
    refine w_heq (hUs_in nd rfl [0, 1] (cs2 := [(oC 10 (mF m th tr wa tp (nI E) sp7 fa7 fl7 tk7 ta7 sg7 nu7 wd7 lo wv (nI P.1) (nI P.2.1) ht sd ah cl)), (aI 600 gt), (aL 8 ln), (aL 8 wn), (aI 8 gs), (aI 24 gf), (aI 8 (upd fb (4 + P.1) v6)), (aI 8 fn), (aZ 8 f3)]) rfl rfl) ?_
    refine w_zastoreN (hUs_at nd 8 rfl rfl) (by omega) (by omega) dX10_readLoop_195 ?_
    refine w_heq (hUs_set nd rfl 8 (cs' := [(oC 10 (mF m th tr wa tp (nI E) sp7 fa7 fl7 tk7 ta7 sg7 nu7 wd7 lo wv (nI P.1) (nI P.2.1) ht sd ah cl)), (aI 600 gt), (aL 8 ln), (aL 8 wn), (aI 8 gs), (aI 24 gf), (aI 8 (upd fb (4 + P.1) v6)), (aI 8 fn), (aZ 8 (upd f3 (4 + P.1) (vp_nar .boolean (isS (rwS ft 1000 9999 (ndS ft [98, 111, 117, 110, 100] 5 S9)) [116, 104, 114, 101, 101] 5))))]) rfl rfl) ?_
    refine w_aload_n dX10_readLoop_196 rfl ?_
    refine w_get (v := .ref (m + 7)) fX10_33 (hUs_at nd 0 rfl rfl) rfl dX10_readLoop_197 ?_
    refine w_iload_n dX10_readLoop_200 rfl ?_
    refine w_aload_n dX10_readLoop_201 rfl ?_
    refine w_ldcS (i := 17) rfl rfl rfl dX10_readLoop_202 ?_
    refine w_callV (ci := 10) (d' := d + 9) (mc' := 0) (ms' := 0) (As := [.ref (G.2.2.1 17)]) (st := [.int (nI (4 + P.1)), .ref (m + 7)]) lX10_213 vX10_passes rfl (hUs_at nd 0 rfl rfl) rfl (Nat.le_of_ble_eq_true rfl) dX10_readLoop_204 (Nat.le_of_ble_eq_true rfl) (Nat.le_of_ble_eq_true rfl) (Nat.le_refl _) (m_passes (i := 17) (s := (psS ft [116, 104, 114, 101, 101] 5 (rwS ft 1000 9999 (ndS ft [98, 111, 117, 110, 100] 5 S9)))) (hHas_sub nd (as' := [m, m + 1]) (cs' := [(oC 10 (mF m th tr wa tp (nI E) sp7 fa7 fl7 tk7 ta7 sg7 nu7 wd7 lo wv (nI P.1) (nI P.2.1) ht sd ah cl)), (aI 600 gt)]) [0, 1] rfl rfl) (nd_sub nd (as' := [m, m + 1]) [0, 1] rfl rfl) rfl hE hT hp7 (fun sp8 fa8 fl8 tk8 ta8 sg8 nu8 wd8 hp8 => ?_))
    refine w_heq (hUs_in nd rfl [0, 1] (cs2 := [(oC 10 (mF m th tr wa tp (nI E) sp8 fa8 fl8 tk8 ta8 sg8 nu8 wd8 lo wv (nI P.1) (nI P.2.1) ht sd ah cl)), (aI 600 gt), (aL 8 ln), (aL 8 wn), (aI 8 gs), (aI 24 gf), (aI 8 (upd fb (4 + P.1) v6)), (aI 8 fn), (aZ 8 (upd f3 (4 + P.1) (vp_nar .boolean (isS (rwS ft 1000 9999 (ndS ft [98, 111, 117, 110, 100] 5 S9)) [116, 104, 114, 101, 101] 5))))]) rfl rfl) ?_
    refine w_if_eq (tgt := 221) dX10_readLoop_207 rfl (fun b207 => ?_) (fun b207 => ?_)
    · refine w_iconst (v := 0) dX10_readLoop_221 (by decide) ?_
      refine w_iastoreN (hUs_at nd 7 rfl rfl) (by omega) (by omega) dX10_readLoop_222 ?_
      refine w_heq (hUs_set nd rfl 7 (cs' := [(oC 10 (mF m th tr wa tp (nI E) sp8 fa8 fl8 tk8 ta8 sg8 nu8 wd8 lo wv (nI P.1) (nI P.2.1) ht sd ah cl)), (aI 600 gt), (aL 8 ln), (aL 8 wn), (aI 8 gs), (aI 24 gf), (aI 8 (upd fb (4 + P.1) v6)), (aI 8 (upd fn (4 + P.1) 0)), (aZ 8 (upd f3 (4 + P.1) (vp_nar .boolean (isS (rwS ft 1000 9999 (ndS ft [98, 111, 117, 110, 100] 5 S9)) [116, 104, 114, 101, 101] 5))))]) rfl rfl) ?_
      have e6 : c4S ft S9 = (psS ft [110, 111, 105, 115, 101] 5 (psS ft [116, 104, 114, 101, 101] 5 (rwS ft 1000 9999 (ndS ft [98, 111, 117, 110, 100] 5 S9)))) := if_pos (show isS (c2S ft S9) [110, 111, 105, 115, 101] 5 = 0 from b207)
      rcases e5 : c4S ft S9 with y5 | b5
      · rw [← e6, e5] at hp8
        obtain ⟨hR1, y1, hy1, hDD⟩ := hD y5 e5
        refine w_aload_n dX10_readLoop_223 rfl ?_
        refine w_get (v := .int fa8) fX10_99 (hUs_at nd 0 rfl rfl) rfl dX10_readLoop_224 ?_
        refine w_if_le_t (tgt := 231) dX10_readLoop_227 rfl (by rw [hp8.1]; decide) ?_
        refine w_aload_n dX10_readLoop_231 rfl ?_
        refine w_get (v := .ref (m + 2)) fX10_17 (hUs_at nd 0 rfl rfl) rfl dX10_readLoop_232 ?_
        refine w_iload_n dX10_readLoop_235 rfl ?_
        refine w_lload_n dX10_readLoop_236 rfl ?_
        refine w_lastoreN (hUs_at nd 2 rfl rfl) (by omega) (by omega) dX10_readLoop_237 ?_
        refine w_heq (hUs_set nd rfl 2 (cs' := [(oC 10 (mF m th tr wa tp (nI E) sp8 fa8 fl8 tk8 ta8 sg8 nu8 wd8 lo wv (nI P.1) (nI P.2.1) ht sd ah cl)), (aI 600 gt), (aL 8 (vp_updL ln (4 + P.1) v2)), (aL 8 wn), (aI 8 gs), (aI 24 gf), (aI 8 (upd fb (4 + P.1) v6)), (aI 8 (upd fn (4 + P.1) 0)), (aZ 8 (upd f3 (4 + P.1) (vp_nar .boolean (isS (rwS ft 1000 9999 (ndS ft [98, 111, 117, 110, 100] 5 S9)) [116, 104, 114, 101, 101] 5))))]) rfl rfl) ?_
        refine w_aload_n dX10_readLoop_238 rfl ?_
        refine w_dup dX10_readLoop_239 rfl ?_
        refine w_get (v := .int (nI P.1)) fX10_199 (hUs_at nd 0 rfl rfl) rfl dX10_readLoop_240 ?_
        refine w_iconst (v := 1) dX10_readLoop_243 (by decide) ?_
        refine w_iaddE (z := nI (P.1 + 1)) dX10_readLoop_244 (nI_add (P.1) (1)) ?_
        refine w_put (fs' := (mF m th tr wa tp (nI E) sp8 fa8 fl8 tk8 ta8 sg8 nu8 wd8 lo wv (nI (P.1 + 1)) (nI P.2.1) ht sd ah cl)) fX10_199 (hUs_at nd 0 rfl rfl) rfl rfl (Nat.le_of_ble_eq_true rfl) rfl dX10_readLoop_245 ?_
        refine w_heq (hUs_set nd rfl 0 (cs' := [(oC 10 (mF m th tr wa tp (nI E) sp8 fa8 fl8 tk8 ta8 sg8 nu8 wd8 lo wv (nI (P.1 + 1)) (nI P.2.1) ht sd ah cl)), (aI 600 gt), (aL 8 (vp_updL ln (4 + P.1) v2)), (aL 8 wn), (aI 8 gs), (aI 24 gf), (aI 8 (upd fb (4 + P.1) v6)), (aI 8 (upd fn (4 + P.1) 0)), (aZ 8 (upd f3 (4 + P.1) (vp_nar .boolean (isS (rwS ft 1000 9999 (ndS ft [98, 111, 117, 110, 100] 5 S9)) [116, 104, 114, 101, 101] 5))))]) rfl rfl) ?_
        refine w_return rfl dX10_readLoop_248 (Nat.le_of_ble_eq_true rfl) (Nat.le_of_ble_eq_true rfl) ?_
        have hnm := hv2 y3 hy3
        have hgs2 := hgs hR1
        have hrf := hrf hR1
        have hbd := rw_rng hy1
        refine k _ _ _ _ _ _ _ _ _ _ _ _ _ _ _ (by rw [hcs, e5]; exact hp8) (fun j hj => pk_uLn hj) hfr1 hfr2 (frO_u frO_r) (frO_u frO_r) (frO_u frO_r) (fun _ => ⟨rfl, ?_, ?_⟩)
        · rw [hDD]
          refine ⟨hgs2.1, hgs2.2, ?_, ?_, ?_, ?_⟩
          · exact pk_us.trans (hv6 y1 hy1)
          · show _ = (if isS (c2S ft S9) [110, 111, 105, 115, 101] 5 = 0 then (0 : Int32) else y5.2.2.2.2.2.1)
            rw [if_pos (show isS (c2S ft S9) [110, 111, 105, 115, 101] 5 = 0 from b207)]; exact pk_us
          · show upd f3 (4 + P.1) (vp_nar .boolean (isS (c1S ft S9) [116, 104, 114, 101, 101] 5)) (4 + P.1) = isS (.inl y1) [116, 104, 114, 101, 101] 5
            rw [pk_us, hy1, vz_nar]
          · exact pk_uLs.trans hnm.2
        · rw [hDD]
          refine ⟨hrf.1, hrf.2.1, fun s h1 h2 => hrf.2.2 s h1, hbd, ?_, (show isS (.inl y1) [116, 104, 114, 101, 101] 5 = 0 ∨ isS (.inl y1) [116, 104, 114, 101, 101] 5 = 1 from isS_01 _ _ _), hnm.1⟩
          show 0 ≤ (if isS (c2S ft S9) [110, 111, 105, 115, 101] 5 = 0 then (0 : Int32) else y5.2.2.2.2.2.1) ∧ (if isS (c2S ft S9) [110, 111, 105, 115, 101] 5 = 0 then (0 : Int32) else y5.2.2.2.2.2.1) ≤ 999
          rw [if_pos (show isS (c2S ft S9) [110, 111, 105, 115, 101] 5 = 0 from b207)]; decide
      · rw [← e6, e5] at hp8
        refine w_aload_n dX10_readLoop_223 rfl ?_
        refine w_get (v := .int fa8) fX10_99 (hUs_at nd 0 rfl rfl) rfl dX10_readLoop_224 ?_
        refine w_if_le_f (tgt := 231) dX10_readLoop_227 rfl (fun z => absurd hp8.2.1 (by rw [← hp8.1]; exact Int32.not_lt.mpr z)) ?_
        refine w_return rfl dX10_readLoop_230 (Nat.le_of_ble_eq_true rfl) (Nat.le_of_ble_eq_true rfl) ?_
        exact k _ _ _ _ _ _ _ _ _ _ _ _ _ _ _ (by rw [hcs, e5]; exact hp8) frO_r hfr1 hfr2 (frO_u frO_r) (frO_u frO_r) (frO_u frO_r) (fun z => absurd (rcS_r (hcs.trans e5)).1 z)
    · refine w_aload_n dX10_readLoop_210 rfl ?_
      refine w_iconst (v := 1) dX10_readLoop_211 (by decide) ?_
      refine w_sipush (v := 999) dX10_readLoop_212 (by decide) ?_
      refine w_callV (ci := 10) (d' := d + 9) (mc' := 0) (ms' := 0) (As := [.int 1, .int 999]) (st := [.int (nI (4 + P.1)), .ref (m + 7)]) lX10_191 vX10_readWhole rfl (hUs_at nd 0 rfl rfl) rfl (Nat.le_of_ble_eq_true rfl) dX10_readLoop_215 (Nat.le_of_ble_eq_true rfl) (Nat.le_of_ble_eq_true rfl) (Nat.le_refl _) (m_readWhole (s := (psS ft [110, 111, 105, 115, 101] 5 (psS ft [116, 104, 114, 101, 101] 5 (rwS ft 1000 9999 (ndS ft [98, 111, 117, 110, 100] 5 S9))))) (hHas_sub nd (as' := [m, m + 1]) (cs' := [(oC 10 (mF m th tr wa tp (nI E) sp8 fa8 fl8 tk8 ta8 sg8 nu8 wd8 lo wv (nI P.1) (nI P.2.1) ht sd ah cl)), (aI 600 gt)]) [0, 1] rfl rfl) (nd_sub nd (as' := [m, m + 1]) [0, 1] rfl rfl) hE hT hp8 (fun sp9 fa9 fl9 tk9 ta9 sg9 nu9 wd9 v9 hp9 hv9 => ?_))
      refine w_heq (hUs_in nd rfl [0, 1] (cs2 := [(oC 10 (mF m th tr wa tp (nI E) sp9 fa9 fl9 tk9 ta9 sg9 nu9 wd9 lo wv (nI P.1) (nI P.2.1) ht sd ah cl)), (aI 600 gt), (aL 8 ln), (aL 8 wn), (aI 8 gs), (aI 24 gf), (aI 8 (upd fb (4 + P.1) v6)), (aI 8 fn), (aZ 8 (upd f3 (4 + P.1) (vp_nar .boolean (isS (rwS ft 1000 9999 (ndS ft [98, 111, 117, 110, 100] 5 S9)) [116, 104, 114, 101, 101] 5))))]) rfl rfl) ?_
      refine w_goto (tgt := 222) dX10_readLoop_218 rfl ?_
      refine w_iastoreN (hUs_at nd 7 rfl rfl) (by omega) (by omega) dX10_readLoop_222 ?_
      refine w_heq (hUs_set nd rfl 7 (cs' := [(oC 10 (mF m th tr wa tp (nI E) sp9 fa9 fl9 tk9 ta9 sg9 nu9 wd9 lo wv (nI P.1) (nI P.2.1) ht sd ah cl)), (aI 600 gt), (aL 8 ln), (aL 8 wn), (aI 8 gs), (aI 24 gf), (aI 8 (upd fb (4 + P.1) v6)), (aI 8 (upd fn (4 + P.1) v9)), (aZ 8 (upd f3 (4 + P.1) (vp_nar .boolean (isS (rwS ft 1000 9999 (ndS ft [98, 111, 117, 110, 100] 5 S9)) [116, 104, 114, 101, 101] 5))))]) rfl rfl) ?_
      have e6 : c4S ft S9 = (rwS ft 1 999 (psS ft [110, 111, 105, 115, 101] 5 (psS ft [116, 104, 114, 101, 101] 5 (rwS ft 1000 9999 (ndS ft [98, 111, 117, 110, 100] 5 S9))))) := if_neg (show ¬ isS (c2S ft S9) [110, 111, 105, 115, 101] 5 = 0 from b207)
      rcases e5 : c4S ft S9 with y5 | b5
      · rw [← e6, e5] at hp9
        obtain ⟨hR1, y1, hy1, hDD⟩ := hD y5 e5
        refine w_aload_n dX10_readLoop_223 rfl ?_
        refine w_get (v := .int fa9) fX10_99 (hUs_at nd 0 rfl rfl) rfl dX10_readLoop_224 ?_
        refine w_if_le_t (tgt := 231) dX10_readLoop_227 rfl (by rw [hp9.1]; decide) ?_
        refine w_aload_n dX10_readLoop_231 rfl ?_
        refine w_get (v := .ref (m + 2)) fX10_17 (hUs_at nd 0 rfl rfl) rfl dX10_readLoop_232 ?_
        refine w_iload_n dX10_readLoop_235 rfl ?_
        refine w_lload_n dX10_readLoop_236 rfl ?_
        refine w_lastoreN (hUs_at nd 2 rfl rfl) (by omega) (by omega) dX10_readLoop_237 ?_
        refine w_heq (hUs_set nd rfl 2 (cs' := [(oC 10 (mF m th tr wa tp (nI E) sp9 fa9 fl9 tk9 ta9 sg9 nu9 wd9 lo wv (nI P.1) (nI P.2.1) ht sd ah cl)), (aI 600 gt), (aL 8 (vp_updL ln (4 + P.1) v2)), (aL 8 wn), (aI 8 gs), (aI 24 gf), (aI 8 (upd fb (4 + P.1) v6)), (aI 8 (upd fn (4 + P.1) v9)), (aZ 8 (upd f3 (4 + P.1) (vp_nar .boolean (isS (rwS ft 1000 9999 (ndS ft [98, 111, 117, 110, 100] 5 S9)) [116, 104, 114, 101, 101] 5))))]) rfl rfl) ?_
        refine w_aload_n dX10_readLoop_238 rfl ?_
        refine w_dup dX10_readLoop_239 rfl ?_
        refine w_get (v := .int (nI P.1)) fX10_199 (hUs_at nd 0 rfl rfl) rfl dX10_readLoop_240 ?_
        refine w_iconst (v := 1) dX10_readLoop_243 (by decide) ?_
        refine w_iaddE (z := nI (P.1 + 1)) dX10_readLoop_244 (nI_add (P.1) (1)) ?_
        refine w_put (fs' := (mF m th tr wa tp (nI E) sp9 fa9 fl9 tk9 ta9 sg9 nu9 wd9 lo wv (nI (P.1 + 1)) (nI P.2.1) ht sd ah cl)) fX10_199 (hUs_at nd 0 rfl rfl) rfl rfl (Nat.le_of_ble_eq_true rfl) rfl dX10_readLoop_245 ?_
        refine w_heq (hUs_set nd rfl 0 (cs' := [(oC 10 (mF m th tr wa tp (nI E) sp9 fa9 fl9 tk9 ta9 sg9 nu9 wd9 lo wv (nI (P.1 + 1)) (nI P.2.1) ht sd ah cl)), (aI 600 gt), (aL 8 (vp_updL ln (4 + P.1) v2)), (aL 8 wn), (aI 8 gs), (aI 24 gf), (aI 8 (upd fb (4 + P.1) v6)), (aI 8 (upd fn (4 + P.1) v9)), (aZ 8 (upd f3 (4 + P.1) (vp_nar .boolean (isS (rwS ft 1000 9999 (ndS ft [98, 111, 117, 110, 100] 5 S9)) [116, 104, 114, 101, 101] 5))))]) rfl rfl) ?_
        refine w_return rfl dX10_readLoop_248 (Nat.le_of_ble_eq_true rfl) (Nat.le_of_ble_eq_true rfl) ?_
        have hnm := hv2 y3 hy3
        have hgs2 := hgs hR1
        have hrf := hrf hR1
        have hbd := rw_rng hy1
        refine k _ _ _ _ _ _ _ _ _ _ _ _ _ _ _ (by rw [hcs, e5]; exact hp9) (fun j hj => pk_uLn hj) hfr1 hfr2 (frO_u frO_r) (frO_u frO_r) (frO_u frO_r) (fun _ => ⟨rfl, ?_, ?_⟩)
        · rw [hDD]
          refine ⟨hgs2.1, hgs2.2, ?_, ?_, ?_, ?_⟩
          · exact pk_us.trans (hv6 y1 hy1)
          · show _ = (if isS (c2S ft S9) [110, 111, 105, 115, 101] 5 = 0 then (0 : Int32) else y5.2.2.2.2.2.1)
            rw [if_neg (show ¬ isS (c2S ft S9) [110, 111, 105, 115, 101] 5 = 0 from b207)]; exact pk_us.trans (hv9 y5 (e6.symm.trans e5))
          · show upd f3 (4 + P.1) (vp_nar .boolean (isS (c1S ft S9) [116, 104, 114, 101, 101] 5)) (4 + P.1) = isS (.inl y1) [116, 104, 114, 101, 101] 5
            rw [pk_us, hy1, vz_nar]
          · exact pk_uLs.trans hnm.2
        · rw [hDD]
          refine ⟨hrf.1, hrf.2.1, fun s h1 h2 => hrf.2.2 s h1, hbd, ?_, (show isS (.inl y1) [116, 104, 114, 101, 101] 5 = 0 ∨ isS (.inl y1) [116, 104, 114, 101, 101] 5 = 1 from isS_01 _ _ _), hnm.1⟩
          show 0 ≤ (if isS (c2S ft S9) [110, 111, 105, 115, 101] 5 = 0 then (0 : Int32) else y5.2.2.2.2.2.1) ∧ (if isS (c2S ft S9) [110, 111, 105, 115, 101] 5 = 0 then (0 : Int32) else y5.2.2.2.2.2.1) ≤ 999
          rw [if_neg (show ¬ isS (c2S ft S9) [110, 111, 105, 115, 101] 5 = 0 from b207)]
          have hr9 := rw_rng (e6.symm.trans e5)
          exact ⟨Int32.le_trans (by decide) hr9.1, hr9.2⟩
      · rw [← e6, e5] at hp9
        refine w_aload_n dX10_readLoop_223 rfl ?_
        refine w_get (v := .int fa9) fX10_99 (hUs_at nd 0 rfl rfl) rfl dX10_readLoop_224 ?_
        refine w_if_le_f (tgt := 231) dX10_readLoop_227 rfl (fun z => absurd hp9.2.1 (by rw [← hp9.1]; exact Int32.not_lt.mpr z)) ?_
        refine w_return rfl dX10_readLoop_230 (Nat.le_of_ble_eq_true rfl) (Nat.le_of_ble_eq_true rfl) ?_
        exact k _ _ _ _ _ _ _ _ _ _ _ _ _ _ _ (by rw [hcs, e5]; exact hp9) frO_r hfr1 hfr2 (frO_u frO_r) (frO_u frO_r) (frO_u frO_r) (fun z => absurd (rcS_r (hcs.trans e5)).1 z)
  · rw [e4] at hp3
    refine w_aload_n dX10_readLoop_35 rfl ?_
    refine w_get (v := .int fa3) fX10_99 (hUs_at nd 0 rfl rfl) rfl dX10_readLoop_36 ?_
    refine w_if_le_f (tgt := 43) dX10_readLoop_39 rfl (fun z => absurd hp3.2.1 (by rw [← hp3.1]; exact Int32.not_lt.mpr z)) ?_
    refine w_return rfl dX10_readLoop_42 (Nat.le_of_ble_eq_true rfl) (Nat.le_of_ble_eq_true rfl) ?_
    exact k _ _ _ _ _ _ _ _ _ _ _ _ _ _ _ (by rw [lp_r h4 e4]; exact hp3) frO_r frO_r (fun _ _ => rfl) frO_r frO_r frO_r (fun z => absurd ((rcS_r (lp_r h4 e4)).1) z)
set_option maxRecDepth 100000 in
set_option maxHeartbeats 4000000 in
theorem m_readLoop4 {G : wG} {d : Nat} {h : hH} {Q : Option Value → hH → Prop} {m : Nat} {th tr wa tp sp fa fl tk ta sg nu : Int32} {wd : Int64} {lo wv ht sd ah cl : Int32} {ft gt : Nat → Int32} {E : Nat} {ln : Nat → Int64} {wn : Nat → Int64} {fs : Nat → Int32} {ff : Nat → Int32} {fb : Nat → Int32} {fn : Nat → Int32} {f3 : Nat → Int32} {x : rD} {P : pD} (hw : hHas h [m, m + 1, m + 2, m + 3, m + 4, m + 5, m + 6, m + 7, m + 9] [(oC 10 (mF m th tr wa tp (nI E) sp fa fl tk ta sg nu wd lo wv (nI P.1) (nI P.2.1) ht sd ah cl)), (aI 600 gt), (aL 8 ln), (aL 8 wn), (aI 8 fs), (aI 24 ff), (aI 8 fb), (aI 8 fn), (aZ 8 f3)]) (nd : [m, m + 1, m + 2, m + 3, m + 4, m + 5, m + 6, m + 7, m + 9].Nodup) (hE : E ≤ 600) (hT : mT E ft gt) (hS : nmS P ln wn) (h4 : P.1 = 4) (hN9 : hNm P ln wn P.1 P.2.1) (hp : pR (.inl x) E sp fa fl tk ta sg nu wd) (k : ∀ (sp fa fl tk ta sg nu : Int32) (wd : Int64), pR (rcS ((rLp ft x P).1, (rLp ft x P).2.1)) E sp fa fl tk ta sg nu wd → Q none (hUs h [m, m + 1, m + 2, m + 3, m + 4, m + 5, m + 6, m + 7, m + 9] [(oC 10 (mF m th tr wa tp (nI E) sp fa fl tk ta sg nu wd lo wv (nI P.1) (nI P.2.1) ht sd ah cl)), (aI 600 gt), (aL 8 ln), (aL 8 wn), (aI 8 fs), (aI 24 ff), (aI 8 fb), (aI 8 fn), (aZ 8 f3)])) : Cl G yX10_readLoop (d + 10) 0 0 [.ref m] h Q := by
  have hw4 : P.2.1 ≤ 4 := hS.1.2
  refine Cl.of (ini := false) kX10_readLoop (plainFor_of_name (by decide)) (by decide) (Nat.le_of_ble_eq_true rfl) rfl rfl (fun z => by cases z) ?_
  refine w_heq (hUs_id hw).symm ?_
  refine w_aload_n dX10_readLoop_0 rfl ?_
  refine w_get (v := .int (nI P.1)) fX10_199 (hUs_at nd 0 rfl rfl) rfl dX10_readLoop_1 ?_
  refine w_iconst (v := 4) dX10_readLoop_4 (by decide) ?_
  refine w_icmp_ne_f (tgt := 13) dX10_readLoop_5 rfl ((nI_eq (a := P.1) (b := 4) (by omega) (by omega)).mpr (by omega)) ?_
  refine w_aload_n dX10_readLoop_8 rfl ?_
  refine w_iconst (v := 4) dX10_readLoop_9 (by decide) ?_
  refine w_callV (ci := 10) (d' := d + 9) (mc' := 0) (ms' := 0) (As := [.int 4]) (st := []) lX10_160 vX10_flaw rfl (hUs_at nd 0 rfl rfl) rfl (Nat.le_of_ble_eq_true rfl) dX10_readLoop_10 (Nat.le_of_ble_eq_true rfl) (Nat.le_of_ble_eq_true rfl) (Nat.le_refl _) (m_flaw (s := (.inl x)) (hHas_sub nd (as' := [m]) (cs' := [(oC 10 (mF m th tr wa tp (nI E) sp fa fl tk ta sg nu wd lo wv (nI P.1) (nI P.2.1) ht sd ah cl))]) [0] rfl rfl) (nd_sub nd (as' := [m]) [0] rfl rfl) (by decide) hp (fun fa1 fl1 hp1 => ?_))
  refine w_heq (hUs_in nd rfl [0] (cs2 := [(oC 10 (mF m th tr wa tp (nI E) sp fa1 fl1 tk ta sg nu wd lo wv (nI P.1) (nI P.2.1) ht sd ah cl)), (aI 600 gt), (aL 8 ln), (aL 8 wn), (aI 8 fs), (aI 24 ff), (aI 8 fb), (aI 8 fn), (aZ 8 f3)]) rfl rfl) ?_
  refine w_aload_n dX10_readLoop_13 rfl ?_
  refine w_callV (ci := 10) (d' := d + 9) (mc' := 0) (ms' := 0) (As := []) (st := []) lX10_164 vX10_goOn rfl (hUs_at nd 0 rfl rfl) rfl (Nat.le_of_ble_eq_true rfl) dX10_readLoop_14 (Nat.le_of_ble_eq_true rfl) (Nat.le_of_ble_eq_true rfl) (Nat.le_refl _) (m_goOn (s := (flS 4 (.inl x))) (hHas_sub nd (as' := [m, m + 1]) (cs' := [(oC 10 (mF m th tr wa tp (nI E) sp fa1 fl1 tk ta sg nu wd lo wv (nI P.1) (nI P.2.1) ht sd ah cl)), (aI 600 gt)]) [0, 1] rfl rfl) (nd_sub nd (as' := [m, m + 1]) [0, 1] rfl rfl) hE hT hp1 (fun sp2 fa2 fl2 tk2 ta2 sg2 nu2 wd2 hp2 => ?_))
  refine w_heq (hUs_in nd rfl [0, 1] (cs2 := [(oC 10 (mF m th tr wa tp (nI E) sp2 fa2 fl2 tk2 ta2 sg2 nu2 wd2 lo wv (nI P.1) (nI P.2.1) ht sd ah cl)), (aI 600 gt), (aL 8 ln), (aL 8 wn), (aI 8 fs), (aI 24 ff), (aI 8 fb), (aI 8 fn), (aZ 8 f3)]) rfl rfl) ?_
  refine w_aload_n dX10_readLoop_17 rfl ?_
  refine w_callV (ci := 10) (d' := d + 9) (mc' := 0) (ms' := 0) (As := []) (st := []) lX10_205 vX10_readNew rfl (hUs_at nd 0 rfl rfl) rfl (Nat.le_of_ble_eq_true rfl) dX10_readLoop_18 (Nat.le_of_ble_eq_true rfl) (Nat.le_of_ble_eq_true rfl) (Nat.le_refl _) (m_readNew (s := (gS ft (flS 4 (.inl x)))) (P9 := P) (hHas_sub nd (as' := [m, m + 1, m + 2, m + 3]) (cs' := [(oC 10 (mF m th tr wa tp (nI E) sp2 fa2 fl2 tk2 ta2 sg2 nu2 wd2 lo wv (nI P.1) (nI P.2.1) ht sd ah cl)), (aI 600 gt), (aL 8 ln), (aL 8 wn)]) [0, 1, 2, 3] rfl rfl) (nd_sub nd (as' := [m, m + 1, m + 2, m + 3]) [0, 1, 2, 3] rfl rfl) hE hT (by omega) (by omega) hN9 hp2 (fun sp3 fa3 fl3 tk3 ta3 sg3 nu3 wd3 v3 hp3 hv3 => ?_))
  refine w_heq (hUs_in nd rfl [0, 1, 2, 3] (cs2 := [(oC 10 (mF m th tr wa tp (nI E) sp3 fa3 fl3 tk3 ta3 sg3 nu3 wd3 lo wv (nI P.1) (nI P.2.1) ht sd ah cl)), (aI 600 gt), (aL 8 ln), (aL 8 wn), (aI 8 fs), (aI 24 ff), (aI 8 fb), (aI 8 fn), (aZ 8 f3)]) rfl rfl) ?_
  refine w_lstore_n (ls2 := [some (.ref m), some (.long v3), none, none, none, none]) dX10_readLoop_21 (by decide) rfl rfl ?_
  refine w_aload_n dX10_readLoop_22 rfl ?_
  refine w_ldcS (i := 14) rfl rfl rfl dX10_readLoop_23 ?_
  refine w_callV (ci := 10) (d' := d + 9) (mc' := 0) (ms' := 0) (As := [.ref (G.2.2.1 14)]) (st := []) lX10_209 vX10_needs rfl (hUs_at nd 0 rfl rfl) rfl (Nat.le_of_ble_eq_true rfl) dX10_readLoop_25 (Nat.le_of_ble_eq_true rfl) (Nat.le_of_ble_eq_true rfl) (Nat.le_refl _) (m_needs (i := 14) (s := (nwS ft P (gS ft (flS 4 (.inl x))))) (hHas_sub nd (as' := [m, m + 1]) (cs' := [(oC 10 (mF m th tr wa tp (nI E) sp3 fa3 fl3 tk3 ta3 sg3 nu3 wd3 lo wv (nI P.1) (nI P.2.1) ht sd ah cl)), (aI 600 gt)]) [0, 1] rfl rfl) (nd_sub nd (as' := [m, m + 1]) [0, 1] rfl rfl) rfl hE hT hp3 (fun sp4 fa4 fl4 tk4 ta4 sg4 nu4 wd4 hp4 => ?_))
  refine w_heq (hUs_in nd rfl [0, 1] (cs2 := [(oC 10 (mF m th tr wa tp (nI E) sp4 fa4 fl4 tk4 ta4 sg4 nu4 wd4 lo wv (nI P.1) (nI P.2.1) ht sd ah cl)), (aI 600 gt), (aL 8 ln), (aL 8 wn), (aI 8 fs), (aI 24 ff), (aI 8 fb), (aI 8 fn), (aZ 8 f3)]) rfl rfl) ?_
  refine w_iconst (v := 4) dX10_readLoop_28 (by decide) ?_
  refine w_aload_n dX10_readLoop_29 rfl ?_
  refine w_get (v := .int (nI P.1)) fX10_199 (hUs_at nd 0 rfl rfl) rfl dX10_readLoop_30 ?_
  refine w_iaddE (z := nI (4 + P.1)) dX10_readLoop_33 (nI_add (4) (P.1)) ?_
  refine w_istore_n (ls2 := [some (.ref m), some (.long v3), none, some (.int (nI (4 + P.1))), none, none]) dX10_readLoop_34 (by decide) rfl rfl ?_
  refine w_aload_n dX10_readLoop_35 rfl ?_
  refine w_get (v := .int fa4) fX10_99 (hUs_at nd 0 rfl rfl) rfl dX10_readLoop_36 ?_
  refine w_if_le_f (tgt := 43) dX10_readLoop_39 rfl (fun z => absurd hp4.2.1 (by rw [← hp4.1]; exact Int32.not_lt.mpr z)) ?_
  refine w_return rfl dX10_readLoop_42 (Nat.le_of_ble_eq_true rfl) (Nat.le_of_ble_eq_true rfl) ?_
  exact k _ _ _ _ _ _ _ _ (by rw [show (rLp ft x P) = (0, rFl x 4 (nI x.2.2.2.1), P) by rw [rLp, if_neg (by omega)]]; exact hp4)
