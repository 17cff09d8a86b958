/-- the lower half of the rows stays -/
def frH (ln wn : Nat → Int64) (fs ff fb fn fp f3 fk fx fy fc : Nat → Int32) (ln9 wn9 : Nat → Int64) (fs9 ff9 fb9 fn9 fp9 f39 fk9 fx9 fy9 fc9 : Nat → Int32) : Prop := ∀ j, (j < 4 → ln9 j = ln j ∧ wn9 j = wn j ∧ fs9 j = fs j ∧ fb9 j = fb j ∧ fn9 j = fn j ∧ fp9 j = fp j ∧ f39 j = f3 j) ∧ (j < 12 → ff9 j = ff j) ∧ (j < 32 → fk9 j = fk j ∧ fx9 j = fx j ∧ fy9 j = fy j ∧ fc9 j = fc j)
theorem frH_r {ln wn : Nat → Int64} {fs ff fb fn fp f3 fk fx fy fc : Nat → Int32} : frH ln wn fs ff fb fn fp f3 fk fx fy fc ln wn fs ff fb fn fp f3 fk fx fy fc := fun _ => ⟨fun _ => ⟨rfl, rfl, rfl, rfl, rfl, rfl, rfl⟩, fun _ => rfl, fun _ => ⟨rfl, rfl, rfl, rfl⟩⟩
theorem frH_t {ln wn : Nat → Int64} {fs ff fb fn fp f3 fk fx fy fc : Nat → Int32} {ln8 wn8 : Nat → Int64} {fs8 ff8 fb8 fn8 fp8 f38 fk8 fx8 fy8 fc8 : Nat → Int32} {ln9 wn9 : Nat → Int64} {fs9 ff9 fb9 fn9 fp9 f39 fk9 fx9 fy9 fc9 : Nat → Int32} (a : frH ln wn fs ff fb fn fp f3 fk fx fy fc ln8 wn8 fs8 ff8 fb8 fn8 fp8 f38 fk8 fx8 fy8 fc8) (b : frH ln8 wn8 fs8 ff8 fb8 fn8 fp8 f38 fk8 fx8 fy8 fc8 ln9 wn9 fs9 ff9 fb9 fn9 fp9 f39 fk9 fx9 fy9 fc9) : frH ln wn fs ff fb fn fp f3 fk fx fy fc ln9 wn9 fs9 ff9 fb9 fn9 fp9 f39 fk9 fx9 fy9 fc9 := fun j => by
  obtain ⟨a1, a2, a3⟩ := a j
  obtain ⟨b1, b2, b3⟩ := b j
  refine ⟨fun h => ?_, fun h => (b2 h).trans (a2 h), fun h => ?_⟩
  · obtain ⟨c1, c2, c3, c4, c5, c6, c7⟩ := a1 h
    obtain ⟨d1, d2, d3, d4, d5, d6, d7⟩ := b1 h
    exact ⟨d1.trans c1, d2.trans c2, d3.trans c3, d4.trans c4, d5.trans c5, d6.trans c6, d7.trans c7⟩
  · obtain ⟨c1, c2, c3, c4⟩ := a3 h
    obtain ⟨d1, d2, d3, d4⟩ := b3 h
    exact ⟨d1.trans c1, d2.trans c2, d3.trans c3, d4.trans c4⟩
theorem frH_L {ln wn : Nat → Int64} {fs ff fb fn fp f3 fk fx fy fc : Nat → Int32} {ln9 : Nat → Int64} {fs9 ff9 fb9 fn9 f39 : Nat → Int32} {a : Nat} (h1 : frO (4 + a) ln ln9) (h2 : frO (4 + a) fs fs9) (h3 : frT (4 + a) ff ff9) (h4 : frO (4 + a) fb fb9) (h5 : frO (4 + a) fn fn9) (h6 : frO (4 + a) f3 f39) : frH ln wn fs ff fb fn fp f3 fk fx fy fc ln9 wn fs9 ff9 fb9 fn9 fp f39 fk fx fy fc := fun j => ⟨fun h => ⟨h1 j (by omega), rfl, h2 j (by omega), h4 j (by omega), h5 j (by omega), rfl, h6 j (by omega)⟩, fun h => h3 j (by omega), fun _ => ⟨rfl, rfl, rfl, rfl⟩⟩
theorem frH_W {ln wn : Nat → Int64} {fs ff fb fn fp f3 fk fx fy fc : Nat → Int32} {wn9 : Nat → Int64} {fp9 fk9 fx9 fy9 fc9 : Nat → Int32} {a : Nat} (h1 : frO (4 + a) wn wn9) (h2 : frO (4 + a) fp fp9) (h3 : fr4 (4 + a) fk fx fy fc fk9 fx9 fy9 fc9) : frH ln wn fs ff fb fn fp f3 fk fx fy fc ln wn9 fs ff fb fn fp9 f3 fk9 fx9 fy9 fc9 := fun j => ⟨fun h => ⟨rfl, h1 j (by omega), rfl, rfl, rfl, h2 j (by omega), rfl⟩, fun _ => rfl, fun h => h3 j (by omega)⟩
theorem nmS_m {P : pD} {ln wn : Nat → Int64} {fs ff fb fn fp f3 fk fx fy fc : Nat → Int32} (h : pGd P) (h2 : mPl P 4 ln wn fs ff fb fn fp f3 fk fx fy fc) : nmS P ln wn := ⟨h.2.2, fun j hj => ⟨(h.1 j hj).2.2.2.2.2.2, (h2.1 j hj).2.2.2.2.2⟩, fun j hj => ⟨(h.2.1 j hj).2, (h2.2 j hj).2.2⟩⟩
theorem pl_addL {P : pD} {D : lD} {ln wn : Nat → Int64} {fs ff fb fn fp f3 fk fx fy fc : Nat → Int32} {ln9 : Nat → Int64} {fs9 ff9 fb9 fn9 f39 : Nat → Int32} (g : pGd P) (p : mPl P 4 ln wn fs ff fb fn fp f3 fk fx fy fc) (hP : P.1 < 4) (h1 : frO (4 + P.1) ln ln9) (h2 : frO (4 + P.1) fs fs9) (h3 : frT (4 + P.1) ff ff9) (h4 : frO (4 + P.1) fb fb9) (h5 : frO (4 + P.1) fn fn9) (h6 : frO (4 + P.1) f3 f39) (hD : mLp D (4 + P.1) ln9 fs9 ff9 fb9 fn9 f39) (hG : lGd D) : pGd (P.1 + 1, P.2.1, updD P.2.2.1 P.1 D, P.2.2.2) ∧ mPl (P.1 + 1, P.2.1, updD P.2.2.1 P.1 D, P.2.2.2) 4 ln9 wn fs9 ff9 fb9 fn9 fp f39 fk fx fy fc := by
  refine ⟨⟨fun j hj => ?_, g.2.1, hP, g.2.2.2⟩, fun j hj => ?_, p.2⟩
  · have hj' : j < P.1 + 1 := hj
    show lGd (updD P.2.2.1 P.1 D j)
    by_cases z : j = P.1
    · rw [updD, if_pos z]; exact hG
    · rw [updD, if_neg z]; exact g.1 j (by omega)
  · have hj' : j < P.1 + 1 := hj
    show mLp (updD P.2.2.1 P.1 D j) (4 + j) ln9 fs9 ff9 fb9 fn9 f39
    by_cases z : j = P.1
    · rw [updD, if_pos z, z]; exact hD
    · rw [updD, if_neg z]
      obtain ⟨q1, q2, q3, q4, q5, q6⟩ := p.1 j (by omega)
      have l3 := (g.1 j (by omega)).2.1
      exact ⟨(h2 _ (by omega)).trans q1, fun s hs => (h3 _ (by omega)).trans (q2 s hs), (h4 _ (by omega)).trans q3, (h5 _ (by omega)).trans q4, (h6 _ (by omega)).trans q5, (h1 _ (by omega)).trans q6⟩
theorem pl_addW {P : pD} {D : wD} {ln wn : Nat → Int64} {fs ff fb fn fp f3 fk fx fy fc : Nat → Int32} {wn9 : Nat → Int64} {fp9 fk9 fx9 fy9 fc9 : Nat → Int32} (g : pGd P) (p : mPl P 4 ln wn fs ff fb fn fp f3 fk fx fy fc) (hP : P.2.1 < 4) (h1 : frO (4 + P.2.1) wn wn9) (h2 : frO (4 + P.2.1) fp fp9) (h3 : fr4 (4 + P.2.1) fk fx fy fc fk9 fx9 fy9 fc9) (hD : mWv D (4 + P.2.1) wn9 fp9 fk9 fx9 fy9 fc9) (hG : wGd D.2) (hN : nmOk D.1) : pGd (P.1, P.2.1 + 1, P.2.2.1, updD P.2.2.2 P.2.1 D) ∧ mPl (P.1, P.2.1 + 1, P.2.2.1, updD P.2.2.2 P.2.1 D) 4 ln wn9 fs ff fb fn fp9 f3 fk9 fx9 fy9 fc9 := by
  refine ⟨⟨g.1, fun j hj => ?_, g.2.2.1, hP⟩, p.1, fun j hj => ?_⟩
  · have hj' : j < P.2.1 + 1 := hj
    show wGd (updD P.2.2.2 P.2.1 D j).2 ∧ nmOk (updD P.2.2.2 P.2.1 D j).1
    by_cases z : j = P.2.1
    · rw [updD, if_pos z]; exact ⟨hG, hN⟩
    · rw [updD, if_neg z]; exact g.2.1 j (by omega)
  · have hj' : j < P.2.1 + 1 := hj
    show mWv (updD P.2.2.2 P.2.1 D j) (4 + j) wn9 fp9 fk9 fx9 fy9 fc9
    by_cases z : j = P.2.1
    · rw [updD, if_pos z, z]; exact hD
    · rw [updD, if_neg z]
      obtain ⟨q1, q2, q3⟩ := p.2 j (by omega)
      have l3 := (g.2.1 j (by omega)).1.2.1
      refine ⟨(h2 _ (by omega)).trans q1, fun s hs => ?_, (h1 _ (by omega)).trans q3⟩
      obtain ⟨r1, r2, r3, r4⟩ := q2 s hs
      obtain ⟨t1, t2, t3, t4⟩ := h3 (8 * (4 + j) + s) (by omega)
      exact ⟨t1.trans r1, t2.trans r2, t4.trans r3, fun z => t3.trans (r4 z)⟩
theorem rLp_P {ft : Nat → Int32} {x : rD} {P : pD} (h4 : P.1 < 4) : (rLp ft x P).2.2 = (P.1 + 1, P.2.1, updD P.2.2.1 P.1 ((rLp ft x P).2.2.2.2.1 P.1), P.2.2.2) := by
  have e : rLp ft x P = ((rLp1 ft P x).1, (rLp1 ft P x).2.1, (P.1 + 1, P.2.1, updD P.2.2.1 P.1 (rLp1 ft P x).2.2, P.2.2.2)) := by rw [rLp, if_pos h4]
  rw [e]
  show _ = (P.1 + 1, P.2.1, updD P.2.2.1 P.1 (updD P.2.2.1 P.1 (rLp1 ft P x).2.2 P.1), P.2.2.2)
  rw [show updD P.2.2.1 P.1 (rLp1 ft P x).2.2 P.1 = (rLp1 ft P x).2.2 by rw [updD, if_pos rfl]]
theorem rWv_P {ft : Nat → Int32} {x : rD} {P : pD} (h4 : P.2.1 < 4) : (rWv ft x P).2.2 = (P.1, P.2.1 + 1, P.2.2.1, updD P.2.2.2 P.2.1 ((rWv ft x P).2.2.2.2.2 P.2.1)) := by
  have e : rWv ft x P = ((rWv1 ft P x).1, (rWv1 ft P x).2.1, (P.1, P.2.1 + 1, P.2.2.1, updD P.2.2.2 P.2.1 (rWv1 ft P x).2.2)) := by rw [rWv, if_pos h4]
  rw [e]
  show _ = (P.1, P.2.1 + 1, P.2.2.1, updD P.2.2.2 P.2.1 (updD P.2.2.2 P.2.1 (rWv1 ft P x).2.2 P.2.1))
  rw [show updD P.2.2.2 P.2.1 (rWv1 ft P x).2.2 P.2.1 = (rWv1 ft P x).2.2 by rw [updD, if_pos rfl]]
set_option maxRecDepth 100000 in
set_option maxHeartbeats 4000000 in
theorem m_readLine {G : wG} {d : Nat} {h : hH} {Q : Option Value → hH → Prop} {m : Nat} {th tr wa tp sp fa fl tk ta sg nu : Int32} {wd : Int64} {lo wv ht sd ah cl : Int32} {ft gt : Nat → Int32} {E : Nat} {ln : Nat → Int64} {wn : Nat → Int64} {fs : Nat → Int32} {ff : Nat → Int32} {fb : Nat → Int32} {fn : Nat → Int32} {fp : Nat → Int32} {f3 : Nat → Int32} {fk : Nat → Int32} {fx : Nat → Int32} {fy : Nat → Int32} {fc : Nat → Int32} {x : rD} {P : pD} (hw : hHas h [m, m + 1, m + 2, m + 3, m + 4, m + 5, m + 6, m + 7, m + 8, m + 9, m + 10, m + 11, m + 12, m + 13] [(oC 10 (mF m th tr wa tp (nI E) sp fa fl tk ta sg nu wd lo wv (nI P.1) (nI P.2.1) ht sd ah cl)), (aI 600 gt), (aL 8 ln), (aL 8 wn), (aI 8 fs), (aI 24 ff), (aI 8 fb), (aI 8 fn), (aI 8 fp), (aZ 8 f3), (aI 64 fk), (aI 64 fx), (aI 64 fy), (aI 64 fc)]) (nd : [m, m + 1, m + 2, m + 3, m + 4, m + 5, m + 6, m + 7, m + 8, m + 9, m + 10, m + 11, m + 12, m + 13].Nodup) (hE : E ≤ 600) (hT : mT E ft gt) (hg : pGd P) (hM : mPl P 4 ln wn fs ff fb fn fp f3 fk fx fy fc) (hp : pR (.inl x) E sp fa fl tk ta sg nu wd) (k : ∀ (sp fa fl tk ta sg nu : Int32) (wd : Int64) (rl rw : Int32) (ln9 wn9 : Nat → Int64) (fs9 ff9 fb9 fn9 fp9 f39 fk9 fx9 fy9 fc9 : Nat → Int32), pR (rcS ((rLn ft x P).1, (rLn ft x P).2.1)) E sp fa fl tk ta sg nu wd → frH ln wn fs ff fb fn fp f3 fk fx fy fc ln9 wn9 fs9 ff9 fb9 fn9 fp9 f39 fk9 fx9 fy9 fc9 → (¬ (rLn ft x P).1 = 0 → rl = nI (rLn ft x P).2.2.1 ∧ rw = nI (rLn ft x P).2.2.2.1 ∧ pGd (rLn ft x P).2.2 ∧ mPl (rLn ft x P).2.2 4 ln9 wn9 fs9 ff9 fb9 fn9 fp9 f39 fk9 fx9 fy9 fc9 ∧ (rLn ft x P).2.2.1 + (rLn ft x P).2.2.2.1 = P.1 + P.2.1 + 1) → Q none (hUs h [m, m + 1, m + 2, m + 3, m + 4, m + 5, m + 6, m + 7, m + 8, m + 9, m + 10, m + 11, m + 12, m + 13] [(oC 10 (mF m th tr wa tp (nI E) sp fa fl tk ta sg nu wd lo wv rl rw ht sd ah cl)), (aI 600 gt), (aL 8 ln9), (aL 8 wn9), (aI 8 fs9), (aI 24 ff9), (aI 8 fb9), (aI 8 fn9), (aI 8 fp9), (aZ 8 f39), (aI 64 fk9), (aI 64 fx9), (aI 64 fy9), (aI 64 fc9)])) : Cl G yX10_readLine (d + 11) 0 0 [.ref m] h Q := by
  have hS := nmS_m hg hM
  refine Cl.of (ini := false) kX10_readLine (plainFor_of_name (by decide)) (by decide) (Nat.le_of_ble_eq_true rfl) rfl rfl (fun z => by cases z) ?_
  refine w_heq (hUs_id hw).symm ?_
  refine w_aload_n dX10_readLine_0 rfl ?_
  refine w_ldcS (i := 12) rfl rfl rfl dX10_readLine_1 ?_
  refine w_callV (ci := 10) (d' := d + 10) (mc' := 0) (ms' := 0) (As := [.ref (G.2.2.1 12)]) (st := []) lX10_156 vX10_isWord rfl (hUs_at nd 0 rfl rfl) rfl (Nat.le_of_ble_eq_true rfl) dX10_readLine_3 (Nat.le_of_ble_eq_true rfl) (Nat.le_of_ble_eq_true rfl) (Nat.le_refl _) (m_isWord (i := 12) (s := (.inl x)) rfl (hHas_sub nd (as' := [m]) (cs' := [(oC 10 (mF m th tr wa tp (nI E) sp fa fl tk ta sg nu wd lo wv (nI P.1) (nI P.2.1) ht sd ah cl))]) [0] rfl rfl) hp ?_)
  refine w_if_eq (tgt := 16) dX10_readLine_6 rfl (fun b6 => ?_) (fun b6 => ?_)
  · refine w_aload_n dX10_readLine_16 rfl ?_
    refine w_ldcS (i := 13) rfl rfl rfl dX10_readLine_17 ?_
    refine w_callV (ci := 10) (d' := d + 10) (mc' := 0) (ms' := 0) (As := [.ref (G.2.2.1 13)]) (st := []) lX10_156 vX10_isWord rfl (hUs_at nd 0 rfl rfl) rfl (Nat.le_of_ble_eq_true rfl) dX10_readLine_19 (Nat.le_of_ble_eq_true rfl) (Nat.le_of_ble_eq_true rfl) (Nat.le_refl _) (m_isWord (i := 13) (s := (.inl x)) rfl (hHas_sub nd (as' := [m]) (cs' := [(oC 10 (mF m th tr wa tp (nI E) sp fa fl tk ta sg nu wd lo wv (nI P.1) (nI P.2.1) ht sd ah cl))]) [0] rfl rfl) hp ?_)
    refine w_if_eq (tgt := 32) dX10_readLine_22 rfl (fun b22 => ?_) (fun b22 => ?_)
    · refine w_aload_n dX10_readLine_32 rfl ?_
      refine w_iconst (v := 1) dX10_readLine_33 (by decide) ?_
      refine w_callV (ci := 10) (d' := d + 10) (mc' := 0) (ms' := 0) (As := [.int 1]) (st := []) lX10_160 vX10_flaw rfl (hUs_at nd 0 rfl rfl) rfl (Nat.le_of_ble_eq_true rfl) dX10_readLine_34 (Nat.le_of_ble_eq_true rfl) (Nat.le_of_ble_eq_true rfl) (Nat.le_refl _) (m_flaw (s := (.inl x)) (hHas_sub nd (as' := [m]) (cs' := [(oC 10 (mF m th tr wa tp (nI E) sp fa fl tk ta sg nu wd lo wv (nI P.1) (nI P.2.1) ht sd ah cl))]) [0] rfl rfl) (nd_sub nd (as' := [m]) [0] rfl rfl) (by decide) hp (fun fa1 fl1 hp1 => ?_))
      refine w_heq (hUs_in nd rfl [0] (cs2 := [(oC 10 (mF m th tr wa tp (nI E) sp fa1 fl1 tk ta sg nu wd lo wv (nI P.1) (nI P.2.1) ht sd ah cl)), (aI 600 gt), (aL 8 ln), (aL 8 wn), (aI 8 fs), (aI 24 ff), (aI 8 fb), (aI 8 fn), (aI 8 fp), (aZ 8 f3), (aI 64 fk), (aI 64 fx), (aI 64 fy), (aI 64 fc)]) rfl rfl) ?_
      refine w_return rfl dX10_readLine_37 (Nat.le_of_ble_eq_true rfl) (Nat.le_of_ble_eq_true rfl) ?_
      have e8 : rLn ft x P = (0, rFl x 1 (nI x.2.2.2.1), P) := by rw [rLn, if_pos (show isW x.2.2.1 x.2.2.2.2.1 [108, 111, 111, 112] 4 = 0 from b6), if_pos (show isW x.2.2.1 x.2.2.2.2.1 [119, 97, 118, 101] 4 = 0 from b22)]
      rw [e8] at k
      exact k _ _ _ _ _ _ _ _ _ _ _ _ _ _ _ _ _ _ _ _ _ _ hp1 frH_r (fun z => absurd rfl z)
    · rcases Nat.lt_or_eq_of_le (show P.2.1 ≤ 4 from hg.2.2.2) with h4 | h4
      · refine w_aload_n dX10_readLine_25 rfl ?_
        refine w_callV (ci := 10) (d' := d + 10) (mc' := 0) (ms' := 0) (As := []) (st := []) lX10_225 vX10_readWave rfl (hUs_at nd 0 rfl rfl) rfl (Nat.le_of_ble_eq_true rfl) dX10_readLine_26 (Nat.le_of_ble_eq_true rfl) (Nat.le_of_ble_eq_true rfl) (Nat.le_refl _) (m_readWave (x := x) (P := P) (hHas_sub nd (as' := [m, m + 1, m + 2, m + 3, m + 8, m + 10, m + 11, m + 12, m + 13]) (cs' := [(oC 10 (mF m th tr wa tp (nI E) sp fa fl tk ta sg nu wd lo wv (nI P.1) (nI P.2.1) ht sd ah cl)), (aI 600 gt), (aL 8 ln), (aL 8 wn), (aI 8 fp), (aI 64 fk), (aI 64 fx), (aI 64 fy), (aI 64 fc)]) [0, 1, 2, 3, 8, 10, 11, 12, 13] rfl rfl) (nd_sub nd (as' := [m, m + 1, m + 2, m + 3, m + 8, m + 10, m + 11, m + 12, m + 13]) [0, 1, 2, 3, 8, 10, 11, 12, 13] rfl rfl) hE hT hS h4 hp (fun sp1 fa1 fl1 tk1 ta1 sg1 nu1 wd1 rw9 wn9 fp9 fk9 fx9 fy9 fc9 hp1 f1 f2 f3_ hgd => ?_))
        refine w_heq (hUs_in nd rfl [0, 1, 2, 3, 8, 10, 11, 12, 13] (cs2 := [(oC 10 (mF m th tr wa tp (nI E) sp1 fa1 fl1 tk1 ta1 sg1 nu1 wd1 lo wv (nI P.1) rw9 ht sd ah cl)), (aI 600 gt), (aL 8 ln), (aL 8 wn9), (aI 8 fs), (aI 24 ff), (aI 8 fb), (aI 8 fn), (aI 8 fp9), (aZ 8 f3), (aI 64 fk9), (aI 64 fx9), (aI 64 fy9), (aI 64 fc9)]) rfl rfl) ?_
        refine w_goto (tgt := 37) dX10_readLine_29 rfl ?_
        refine w_return rfl dX10_readLine_37 (Nat.le_of_ble_eq_true rfl) (Nat.le_of_ble_eq_true rfl) ?_
        have e8 : rLn ft x P = rWv ft x P := by rw [rLn, if_pos (show isW x.2.2.1 x.2.2.2.2.1 [108, 111, 111, 112] 4 = 0 from b6), if_neg (show ¬ isW x.2.2.1 x.2.2.2.2.1 [119, 97, 118, 101] 4 = 0 from b22)]
        rw [e8] at k
        refine k _ _ _ _ _ _ _ _ _ _ _ _ _ _ _ _ _ _ _ _ _ _ hp1 (frH_W f1 f2 f3_) (fun z => ?_)
        obtain ⟨g1, g2, g3, g4⟩ := hgd z
        have hA := pl_addW (ln := ln) (fs := fs) (ff := ff) (fb := fb) (fn := fn) (f3 := f3) hg hM h4 f1 f2 f3_ g2 g3 g4
        rw [rWv_P h4]
        exact ⟨rfl, g1, hA.1, hA.2, by show P.1 + (P.2.1 + 1) = P.1 + P.2.1 + 1; omega⟩
      · refine w_aload_n dX10_readLine_25 rfl ?_
        refine w_callV (ci := 10) (d' := d + 10) (mc' := 0) (ms' := 0) (As := []) (st := []) lX10_225 vX10_readWave rfl (hUs_at nd 0 rfl rfl) rfl (Nat.le_of_ble_eq_true rfl) dX10_readLine_26 (Nat.le_of_ble_eq_true rfl) (Nat.le_of_ble_eq_true rfl) (Nat.le_refl _) (m_readWave4 (x := x) (P := P) (hHas_sub nd (as' := [m, m + 1, m + 2, m + 3, m + 8, m + 10, m + 11, m + 12, m + 13]) (cs' := [(oC 10 (mF m th tr wa tp (nI E) sp fa fl tk ta sg nu wd lo wv (nI P.1) (nI P.2.1) ht sd ah cl)), (aI 600 gt), (aL 8 ln), (aL 8 wn), (aI 8 fp), (aI 64 fk), (aI 64 fx), (aI 64 fy), (aI 64 fc)]) [0, 1, 2, 3, 8, 10, 11, 12, 13] rfl rfl) (nd_sub nd (as' := [m, m + 1, m + 2, m + 3, m + 8, m + 10, m + 11, m + 12, m + 13]) [0, 1, 2, 3, 8, 10, 11, 12, 13] rfl rfl) hE hT hS h4 hp (fun sp1 fa1 fl1 tk1 ta1 sg1 nu1 wd1 hp1 => ?_))
        refine w_heq (hUs_in nd rfl [0, 1, 2, 3, 8, 10, 11, 12, 13] (cs2 := [(oC 10 (mF m th tr wa tp (nI E) sp1 fa1 fl1 tk1 ta1 sg1 nu1 wd1 lo wv (nI P.1) (nI P.2.1) ht sd ah cl)), (aI 600 gt), (aL 8 ln), (aL 8 wn), (aI 8 fs), (aI 24 ff), (aI 8 fb), (aI 8 fn), (aI 8 fp), (aZ 8 f3), (aI 64 fk), (aI 64 fx), (aI 64 fy), (aI 64 fc)]) rfl rfl) ?_
        refine w_goto (tgt := 37) dX10_readLine_29 rfl ?_
        refine w_return rfl dX10_readLine_37 (Nat.le_of_ble_eq_true rfl) (Nat.le_of_ble_eq_true rfl) ?_
        have e8 : rLn ft x P = rWv ft x P := by rw [rLn, if_pos (show isW x.2.2.1 x.2.2.2.2.1 [108, 111, 111, 112] 4 = 0 from b6), if_neg (show ¬ isW x.2.2.1 x.2.2.2.2.1 [119, 97, 118, 101] 4 = 0 from b22)]
        rw [e8] at k
        exact k _ _ _ _ _ _ _ _ _ _ _ _ _ _ _ _ _ _ _ _ _ _ hp1 frH_r (fun z => absurd (show (rWv ft x P).1 = 0 by rw [rWv, if_neg (by omega)]) z)
  · rcases Nat.lt_or_eq_of_le (show P.1 ≤ 4 from hg.2.2.1) with h4 | h4
    · refine w_aload_n dX10_readLine_9 rfl ?_
      refine w_callV (ci := 10) (d' := d + 10) (mc' := 0) (ms' := 0) (As := []) (st := []) lX10_222 vX10_readLoop rfl (hUs_at nd 0 rfl rfl) rfl (Nat.le_of_ble_eq_true rfl) dX10_readLine_10 (Nat.le_of_ble_eq_true rfl) (Nat.le_of_ble_eq_true rfl) (Nat.le_refl _) (m_readLoop (x := x) (P := P) (hHas_sub nd (as' := [m, m + 1, m + 2, m + 3, m + 4, m + 5, m + 6, m + 7, m + 9]) (cs' := [(oC 10 (mF m th tr wa tp (nI E) sp fa fl tk ta sg nu wd lo wv (nI P.1) (nI P.2.1) ht sd ah cl)), (aI 600 gt), (aL 8 ln), (aL 8 wn), (aI 8 fs), (aI 24 ff), (aI 8 fb), (aI 8 fn), (aZ 8 f3)]) [0, 1, 2, 3, 4, 5, 6, 7, 9] rfl rfl) (nd_sub nd (as' := [m, m + 1, m + 2, m + 3, m + 4, m + 5, m + 6, m + 7, m + 9]) [0, 1, 2, 3, 4, 5, 6, 7, 9] rfl rfl) hE hT hS h4 hp (fun sp1 fa1 fl1 tk1 ta1 sg1 nu1 wd1 rl9 ln9 fs9 ff9 fb9 fn9 f39 hp1 f1 f2 f3_ f4 f5 f6 hgd => ?_))
      refine w_heq (hUs_in nd rfl [0, 1, 2, 3, 4, 5, 6, 7, 9] (cs2 := [(oC 10 (mF m th tr wa tp (nI E) sp1 fa1 fl1 tk1 ta1 sg1 nu1 wd1 lo wv rl9 (nI P.2.1) ht sd ah cl)), (aI 600 gt), (aL 8 ln9), (aL 8 wn), (aI 8 fs9), (aI 24 ff9), (aI 8 fb9), (aI 8 fn9), (aI 8 fp), (aZ 8 f39), (aI 64 fk), (aI 64 fx), (aI 64 fy), (aI 64 fc)]) rfl rfl) ?_
      refine w_goto (tgt := 37) dX10_readLine_13 rfl ?_
      refine w_return rfl dX10_readLine_37 (Nat.le_of_ble_eq_true rfl) (Nat.le_of_ble_eq_true rfl) ?_
      have e8 : rLn ft x P = rLp ft x P := by rw [rLn, if_neg (show ¬ isW x.2.2.1 x.2.2.2.2.1 [108, 111, 111, 112] 4 = 0 from b6)]
      rw [e8] at k
      refine k _ _ _ _ _ _ _ _ _ _ _ _ _ _ _ _ _ _ _ _ _ _ hp1 (frH_L f1 f2 f3_ f4 f5 f6) (fun z => ?_)
      obtain ⟨g1, g2, g3⟩ := hgd z
      have hA := pl_addL (fp := fp) (fk := fk) (fx := fx) (fy := fy) (fc := fc) (wn := wn) hg hM h4 f1 f2 f3_ f4 f5 f6 g2 g3
      rw [rLp_P h4]
      exact ⟨g1, rfl, hA.1, hA.2, by show P.1 + 1 + P.2.1 = P.1 + P.2.1 + 1; omega⟩
    · refine w_aload_n dX10_readLine_9 rfl ?_
      refine w_callV (ci := 10) (d' := d + 10) (mc' := 0) (ms' := 0) (As := []) (st := []) lX10_222 vX10_readLoop rfl (hUs_at nd 0 rfl rfl) rfl (Nat.le_of_ble_eq_true rfl) dX10_readLine_10 (Nat.le_of_ble_eq_true rfl) (Nat.le_of_ble_eq_true rfl) (Nat.le_refl _) (m_readLoop4 (x := x) (P := P) (hHas_sub nd (as' := [m, m + 1, m + 2, m + 3, m + 4, m + 5, m + 6, m + 7, m + 9]) (cs' := [(oC 10 (mF m th tr wa tp (nI E) sp fa fl tk ta sg nu wd lo wv (nI P.1) (nI P.2.1) ht sd ah cl)), (aI 600 gt), (aL 8 ln), (aL 8 wn), (aI 8 fs), (aI 24 ff), (aI 8 fb), (aI 8 fn), (aZ 8 f3)]) [0, 1, 2, 3, 4, 5, 6, 7, 9] rfl rfl) (nd_sub nd (as' := [m, m + 1, m + 2, m + 3, m + 4, m + 5, m + 6, m + 7, m + 9]) [0, 1, 2, 3, 4, 5, 6, 7, 9] rfl rfl) hE hT hS h4 (hNm_P hS) hp (fun sp1 fa1 fl1 tk1 ta1 sg1 nu1 wd1 hp1 => ?_))
      refine w_heq (hUs_in nd rfl [0, 1, 2, 3, 4, 5, 6, 7, 9] (cs2 := [(oC 10 (mF m th tr wa tp (nI E) sp1 fa1 fl1 tk1 ta1 sg1 nu1 wd1 lo wv (nI P.1) (nI P.2.1) ht sd ah cl)), (aI 600 gt), (aL 8 ln), (aL 8 wn), (aI 8 fs), (aI 24 ff), (aI 8 fb), (aI 8 fn), (aI 8 fp), (aZ 8 f3), (aI 64 fk), (aI 64 fx), (aI 64 fy), (aI 64 fc)]) rfl rfl) ?_
      refine w_goto (tgt := 37) dX10_readLine_13 rfl ?_
      refine w_return rfl dX10_readLine_37 (Nat.le_of_ble_eq_true rfl) (Nat.le_of_ble_eq_true rfl) ?_
      have e8 : rLn ft x P = rLp ft x P := by rw [rLn, if_neg (show ¬ isW x.2.2.1 x.2.2.2.2.1 [108, 111, 111, 112] 4 = 0 from b6)]
      rw [e8] at k
      exact k _ _ _ _ _ _ _ _ _ _ _ _ _ _ _ _ _ _ _ _ _ _ hp1 frH_r (fun z => absurd (show (rLp ft x P).1 = 0 by rw [rLp, if_neg (by omega)]) z)
