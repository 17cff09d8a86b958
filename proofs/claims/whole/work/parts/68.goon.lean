/-- the reference's reader: a class reader's state, or what was wrong first, and where -/
abbrev pS : Type := rD ⊕ (Int32 × Int32)
def tkR (x : rD) (sp tk ta sg nu : Int32) (wd : Int64) : Prop := sp = nI x.2.1 ∧ ta = nI x.2.2.2.1 ∧ ((x.2.2.1 = 0 ∧ tk = 1) ∨ (x.2.2.1 = 1 ∧ tk = 2 ∧ nmOk x.2.2.2.2.1 ∧ wd = nmX x.2.2.2.2.1) ∨ (x.2.2.1 = 2 ∧ tk = 3 ∧ nu = x.2.2.2.2.1 ∧ 0 ≤ nu ∧ nu ≤ 9999) ∨ (x.2.2.1 = 3 ∧ tk = 4 ∧ sg = x.2.2.2.2.1) ∨ (x.2.2.1 = 4 ∧ tk = 0))
def pR (s : pS) (E : Nat) (sp fa fl tk ta sg nu : Int32) (wd : Int64) : Prop := match s with
  | .inl x => fa = 0 ∧ x.1 = E ∧ rOk x ∧ tkR x sp tk ta sg nu wd
  | .inr b => fa = b.1 ∧ 0 < b.1 ∧ fl = b.2
def gS (ft : Nat → Int32) (s : pS) : pS := match s with
  | .inl x => .inl (rStp ft x)
  | .inr b => .inr b
def ltB (ft : Nat → Int32) (E a : Nat) : Int32 := if a < E ∧ 97 ≤ ft a ∧ ft a ≤ 122 then 1 else 0
def dgB (ft : Nat → Int32) (E a : Nat) : Int32 := if a < E ∧ 48 ≤ ft a ∧ ft a ≤ 57 then 1 else 0
theorem scW_c (ft : Nat → Int32) (E : Nat) : ∀ (n a c : Nat) (v : Int32), (scW ft E n a c v).1 + c = (scW ft E n a c v).2.1 + a
  | 0, a, c, v => by rw [scW]; exact Nat.add_comm a c
  | n + 1, a, c, v => by
    rw [scW]
    split
    · have := scW_c ft E n (a + 1) (c + 1) (if c < 6 then v ||| ((ft a - 97 + 1) <<< (nI (5 * c) &&& 31)) else v)
      omega
    · exact Nat.add_comm a c
theorem scD_c (ft : Nat → Int32) (E : Nat) : ∀ (n a c : Nat) (v : Int32), (scD ft E n a c v).1 + c = (scD ft E n a c v).2.1 + a
  | 0, a, c, v => by rw [scD]; exact Nat.add_comm a c
  | n + 1, a, c, v => by
    rw [scD]
    split
    · have := scD_c ft E n (a + 1) (c + 1) (if c < 4 then v * 10 + ft a - 48 else v)
      omega
    · exact Nat.add_comm a c
theorem scD_v (ft : Nat → Int32) (E : Nat) : ∀ (n a c : Nat) (v : Int32) (V : Nat), v = nI V → V < 10 ^ min c 4 → ∃ W, (scD ft E n a c v).2.2 = nI W ∧ W ≤ 9999
  | 0, a, c, v, V, h, hV => ⟨V, h, by have : (10 : Nat) ^ min c 4 ≤ 10 ^ 4 := Nat.pow_le_pow_right (by decide) (by omega); omega⟩
  | n + 1, a, c, v, V, h, hV => by
    rw [scD]
    split
    · rename_i z
      obtain ⟨u, hu, hu2⟩ := in2 (m := 57) (fun y => absurd (Int32.lt_of_lt_of_le y (by decide)) (Int32.not_lt.mpr z.2.1)) z.2.2 (by decide)
      have hu3 : 48 ≤ u := by
        have := z.2.1
        rw [hu2] at this
        exact (nI_leI (a := 48) (by decide) (by omega)).mp this
      by_cases e : c < 4
      · rw [if_pos e, hu2, h]
        have e1 : nI V * 10 + nI u - 48 = nI (V * 10 + (u - 48)) := by
          rw [show (10 : Int32) = nI 10 from rfl, show (48 : Int32) = nI 48 from rfl, pk_mul, nI_add, pk_sub (by omega), show V * 10 + u - 48 = V * 10 + (u - 48) by omega]
        rw [e1]
        refine scD_v ft E n (a + 1) (c + 1) _ (V * 10 + (u - 48)) rfl ?_
        rw [show min (c + 1) 4 = c + 1 by omega, Nat.pow_succ]
        rw [show min c 4 = c by omega] at hV
        omega
      · rw [if_neg e]
        refine scD_v ft E n (a + 1) (c + 1) v V h ?_
        rw [show min (c + 1) 4 = min c 4 by omega]
        exact hV
    · exact ⟨V, h, by have : (10 : Nat) ^ min c 4 ≤ 10 ^ 4 := Nat.pow_le_pow_right (by decide) (by omega); omega⟩
theorem wRl_k {c : Nat} {v : Int32} {wd : Int64} (h : wRl c v wd) (hc : ¬ c < 6) : wRl (c + 1) v wd := by
  unfold wRl at h ⊢
  rw [show min (c + 1) 6 = min c 6 by omega]
  exact h
theorem ltB_n {ft : Nat → Int32} {E a : Nat} (h : ¬ ltB ft E a = 0) : a < E ∧ 97 ≤ ft a ∧ ft a ≤ 122 := by
  unfold ltB at h
  by_cases e : a < E ∧ 97 ≤ ft a ∧ ft a ≤ 122
  · exact e
  · rw [if_neg e] at h; exact absurd rfl h
theorem ltB_0 {ft : Nat → Int32} {E a : Nat} (h : ltB ft E a = 0) : ¬ (a < E ∧ 97 ≤ ft a ∧ ft a ≤ 122) := fun e => by
  unfold ltB at h
  rw [if_pos e] at h; exact absurd h (by decide)
theorem dgB_n {ft : Nat → Int32} {E a : Nat} (h : ¬ dgB ft E a = 0) : a < E ∧ 48 ≤ ft a ∧ ft a ≤ 57 := by
  unfold dgB at h
  by_cases e : a < E ∧ 48 ≤ ft a ∧ ft a ≤ 57
  · exact e
  · rw [if_neg e] at h; exact absurd rfl h
theorem dgB_0 {ft : Nat → Int32} {E a : Nat} (h : dgB ft E a = 0) : ¬ (a < E ∧ 48 ≤ ft a ∧ ft a ≤ 57) := fun e => by
  unfold dgB at h
  rw [if_pos e] at h; exact absurd h (by decide)
theorem by_u {b g : Int32} {c d : Nat} (hg : g = b &&& 255) (h1 : nI c ≤ b) (h2 : b ≤ nI d) (hd : d ≤ 127) (hcd : c ≤ d) : ∃ u, c ≤ u ∧ u ≤ d ∧ b = nI u ∧ g = nI u := by
  have h0 : 0 ≤ b := Int32.le_trans (nI_pos' (by omega)) h1
  obtain ⟨u, hu, rfl⟩ := in2 (m := d) (Int32.not_lt.mpr h0) h2 (by omega)
  refine ⟨u, (nI_leI (by omega) (by omega)).mp h1, hu, rfl, ?_⟩
  rw [hg]
  exact by_id h0 ((nI_leI (b := 127) (by omega) (by decide)).mpr (by omega))
set_option maxRecDepth 100000 in
set_option maxHeartbeats 4000000 in
theorem m_isLetterAt {G : wG} {d : Nat} {h : hH} {Q : Option Value → hH → Prop} {m : Nat} {th tr wa tp sp fa fl tk ta sg nu : Int32} {wd : Int64} {lo wv rl rw ht sd ah cl : Int32} {ft gt : Nat → Int32} {E : Nat} {a : Nat} (hw : hHas h [m, m + 1] [(oC 10 (mF m th tr wa tp (nI E) sp fa fl tk ta sg nu wd lo wv rl rw ht sd ah cl)), (aI 600 gt)]) (hE : E ≤ 600) (hT : mT E ft gt) (ha : a ≤ E) (k : Q (some (.int (ltB ft E a))) h) : Cl G yX10_isLetterAt (d + 1) 0 0 [.ref m, .int (nI a)] h Q := by
  refine Cl.of (ini := false) kX10_isLetterAt (plainFor_of_name (by decide)) (by decide) (Nat.le_of_ble_eq_true rfl) rfl rfl (fun z => by cases z) ?_
  refine w_iload_n dX10_isLetterAt_0 rfl ?_
  refine w_aload_n dX10_isLetterAt_1 rfl ?_
  refine w_get (v := .int (nI E)) fX10_108 (hw 0 _ _ rfl rfl) rfl dX10_isLetterAt_2 ?_
  refine w_icmp_ge (tgt := 28) dX10_isLetterAt_5 rfl (fun b5 => ?_) (fun b5 => ?_)
  · have b5 := (nI_leI (a := E) (b := a) (by omega) (by omega)).mp b5
    refine w_iconst (v := 0) dX10_isLetterAt_28 (by decide) ?_
    refine w_zreturn rfl dX10_isLetterAt_29 rfl (Nat.le_of_ble_eq_true rfl) (Nat.le_of_ble_eq_true rfl) ?_
    have e : ltB ft E a = 0 := if_neg (fun z => absurd z.1 (by omega))
    rw [e] at k
    exact k
  · have b5 : ¬ E ≤ a := fun z => b5 ((nI_leI (a := E) (b := a) (by omega) (by omega)).mpr z)
    refine w_aload_n dX10_isLetterAt_8 rfl ?_
    refine w_get (v := .ref (m + 1)) fX10_13 (hw 0 _ _ rfl rfl) rfl dX10_isLetterAt_9 ?_
    refine w_iload_n dX10_isLetterAt_12 rfl ?_
    refine w_ialoadN (hw 1 _ _ rfl rfl) (by omega) (by omega) dX10_isLetterAt_13 ?_
    refine w_top (z := ft a &&& 255) (hT a (by omega)).1 ?_
    refine w_bipush (v := 97) dX10_isLetterAt_14 (by decide) ?_
    refine w_bipush (v := 122) dX10_isLetterAt_16 (by decide) ?_
    refine w_callS (d' := d) (mc' := 0) (ms' := 0) (As := [.int (ft a &&& 255), .int 97, .int 122]) (st := []) lX10_111 vX10_in rfl (Nat.le_of_ble_eq_true rfl) dX10_isLetterAt_18 (Nat.le_of_ble_eq_true rfl) (Nat.le_of_ble_eq_true rfl) (Nat.le_refl _) (c_in ?_)
    refine w_if_eq (tgt := 28) dX10_isLetterAt_21 rfl (fun b21 => ?_) (fun b21 => ?_)
    · refine w_iconst (v := 0) dX10_isLetterAt_28 (by decide) ?_
      refine w_zreturn rfl dX10_isLetterAt_29 rfl (Nat.le_of_ble_eq_true rfl) (Nat.le_of_ble_eq_true rfl) ?_
      have e : ltB ft E a = 0 := if_neg (fun z => (inB_0 b21).elim (fun y => absurd (((by_in (hT a (by omega)).2.1 (hT a (by omega)).2.2 (by decide) (by decide)).mpr z.2)).1 (Int32.not_le.mpr y)) (fun y => absurd (((by_in (hT a (by omega)).2.1 (hT a (by omega)).2.2 (by decide) (by decide)).mpr z.2)).2 (Int32.not_le.mpr y)))
      rw [e] at k
      exact k
    · refine w_iconst (v := 1) dX10_isLetterAt_24 (by decide) ?_
      refine w_goto (tgt := 29) dX10_isLetterAt_25 rfl ?_
      refine w_zreturn rfl dX10_isLetterAt_29 rfl (Nat.le_of_ble_eq_true rfl) (Nat.le_of_ble_eq_true rfl) ?_
      have e : ltB ft E a = 1 := if_pos ⟨by omega, ((by_in (hT a (by omega)).2.1 (hT a (by omega)).2.2 (by decide) (by decide)).mp (inB_1 b21))⟩
      rw [e] at k
      exact k
set_option maxRecDepth 100000 in
set_option maxHeartbeats 4000000 in
theorem m_isDigitAt {G : wG} {d : Nat} {h : hH} {Q : Option Value → hH → Prop} {m : Nat} {th tr wa tp sp fa fl tk ta sg nu : Int32} {wd : Int64} {lo wv rl rw ht sd ah cl : Int32} {ft gt : Nat → Int32} {E : Nat} {a : Nat} (hw : hHas h [m, m + 1] [(oC 10 (mF m th tr wa tp (nI E) sp fa fl tk ta sg nu wd lo wv rl rw ht sd ah cl)), (aI 600 gt)]) (hE : E ≤ 600) (hT : mT E ft gt) (ha : a ≤ E) (k : Q (some (.int (dgB ft E a))) h) : Cl G yX10_isDigitAt (d + 1) 0 0 [.ref m, .int (nI a)] h Q := by
  refine Cl.of (ini := false) kX10_isDigitAt (plainFor_of_name (by decide)) (by decide) (Nat.le_of_ble_eq_true rfl) rfl rfl (fun z => by cases z) ?_
  refine w_iload_n dX10_isDigitAt_0 rfl ?_
  refine w_aload_n dX10_isDigitAt_1 rfl ?_
  refine w_get (v := .int (nI E)) fX10_108 (hw 0 _ _ rfl rfl) rfl dX10_isDigitAt_2 ?_
  refine w_icmp_ge (tgt := 28) dX10_isDigitAt_5 rfl (fun b5 => ?_) (fun b5 => ?_)
  · have b5 := (nI_leI (a := E) (b := a) (by omega) (by omega)).mp b5
    refine w_iconst (v := 0) dX10_isDigitAt_28 (by decide) ?_
    refine w_zreturn rfl dX10_isDigitAt_29 rfl (Nat.le_of_ble_eq_true rfl) (Nat.le_of_ble_eq_true rfl) ?_
    have e : dgB ft E a = 0 := if_neg (fun z => absurd z.1 (by omega))
    rw [e] at k
    exact k
  · have b5 : ¬ E ≤ a := fun z => b5 ((nI_leI (a := E) (b := a) (by omega) (by omega)).mpr z)
    refine w_aload_n dX10_isDigitAt_8 rfl ?_
    refine w_get (v := .ref (m + 1)) fX10_13 (hw 0 _ _ rfl rfl) rfl dX10_isDigitAt_9 ?_
    refine w_iload_n dX10_isDigitAt_12 rfl ?_
    refine w_ialoadN (hw 1 _ _ rfl rfl) (by omega) (by omega) dX10_isDigitAt_13 ?_
    refine w_top (z := ft a &&& 255) (hT a (by omega)).1 ?_
    refine w_bipush (v := 48) dX10_isDigitAt_14 (by decide) ?_
    refine w_bipush (v := 57) dX10_isDigitAt_16 (by decide) ?_
    refine w_callS (d' := d) (mc' := 0) (ms' := 0) (As := [.int (ft a &&& 255), .int 48, .int 57]) (st := []) lX10_111 vX10_in rfl (Nat.le_of_ble_eq_true rfl) dX10_isDigitAt_18 (Nat.le_of_ble_eq_true rfl) (Nat.le_of_ble_eq_true rfl) (Nat.le_refl _) (c_in ?_)
    refine w_if_eq (tgt := 28) dX10_isDigitAt_21 rfl (fun b21 => ?_) (fun b21 => ?_)
    · refine w_iconst (v := 0) dX10_isDigitAt_28 (by decide) ?_
      refine w_zreturn rfl dX10_isDigitAt_29 rfl (Nat.le_of_ble_eq_true rfl) (Nat.le_of_ble_eq_true rfl) ?_
      have e : dgB ft E a = 0 := if_neg (fun z => (inB_0 b21).elim (fun y => absurd (((by_in (hT a (by omega)).2.1 (hT a (by omega)).2.2 (by decide) (by decide)).mpr z.2)).1 (Int32.not_le.mpr y)) (fun y => absurd (((by_in (hT a (by omega)).2.1 (hT a (by omega)).2.2 (by decide) (by decide)).mpr z.2)).2 (Int32.not_le.mpr y)))
      rw [e] at k
      exact k
    · refine w_iconst (v := 1) dX10_isDigitAt_24 (by decide) ?_
      refine w_goto (tgt := 29) dX10_isDigitAt_25 rfl ?_
      refine w_zreturn rfl dX10_isDigitAt_29 rfl (Nat.le_of_ble_eq_true rfl) (Nat.le_of_ble_eq_true rfl) ?_
      have e : dgB ft E a = 1 := if_pos ⟨by omega, ((by_in (hT a (by omega)).2.1 (hT a (by omega)).2.2 (by decide) (by decide)).mp (inB_1 b21))⟩
      rw [e] at k
      exact k
def flS (k : Int32) (s : pS) : pS := match s with
  | .inl x => .inr (k, nI x.2.2.2.1)
  | .inr b => .inr b
set_option maxRecDepth 100000 in
set_option maxHeartbeats 4000000 in
theorem m_flaw_l {G : wG} {d : Nat} {h : hH} {Q : Option Value → hH → Prop} {m : Nat} {th tr wa tp sp fa fl tk ta sg nu : Int32} {wd : Int64} {lo wv rl rw ht sd ah cl : Int32} {E : Nat} {y : Int32} {x : rD} (hw : hHas h [m] [(oC 10 (mF m th tr wa tp (nI E) sp fa fl tk ta sg nu wd lo wv rl rw ht sd ah cl))]) (nd : [m].Nodup) (hy : 0 < y) (hp : pR (.inl x) E sp fa fl tk ta sg nu wd) (k : ∀ fa fl : Int32, pR (flS y (.inl x)) E sp fa fl tk ta sg nu wd → Q none (hUs h [m] [(oC 10 (mF m th tr wa tp (nI E) sp fa fl tk ta sg nu wd lo wv rl rw ht sd ah cl))])) : Cl G yX10_flaw d 0 0 [.ref m, .int y] h Q := by
  refine Cl.of (ini := false) kX10_flaw (plainFor_of_name (by decide)) (by decide) (Nat.le_of_ble_eq_true rfl) rfl rfl (fun z => by cases z) ?_
  refine w_heq (hUs_id hw).symm ?_
  refine w_aload_n dX10_flaw_0 rfl ?_
  refine w_get (v := .int fa) fX10_99 (hUs_at nd 0 rfl rfl) rfl dX10_flaw_1 ?_
  refine w_if_le_t (tgt := 8) dX10_flaw_4 rfl (by rw [hp.1]; decide) ?_
  refine w_aload_n dX10_flaw_8 rfl ?_
  refine w_iload_n dX10_flaw_9 rfl ?_
  refine w_put (fs' := (mF m th tr wa tp (nI E) sp y fl tk ta sg nu wd lo wv rl rw ht sd ah cl)) fX10_99 (hUs_at nd 0 rfl rfl) rfl rfl (Nat.le_of_ble_eq_true rfl) rfl dX10_flaw_10 ?_
  refine w_heq (hUs_set nd rfl 0 (cs' := [(oC 10 (mF m th tr wa tp (nI E) sp y fl tk ta sg nu wd lo wv rl rw ht sd ah cl))]) rfl rfl) ?_
  refine w_aload_n dX10_flaw_13 rfl ?_
  refine w_aload_n dX10_flaw_14 rfl ?_
  refine w_get (v := .int ta) fX10_102 (hUs_at nd 0 rfl rfl) rfl dX10_flaw_15 ?_
  refine w_put (fs' := (mF m th tr wa tp (nI E) sp y ta tk ta sg nu wd lo wv rl rw ht sd ah cl)) fX10_105 (hUs_at nd 0 rfl rfl) rfl rfl (Nat.le_of_ble_eq_true rfl) rfl dX10_flaw_18 ?_
  refine w_heq (hUs_set nd rfl 0 (cs' := [(oC 10 (mF m th tr wa tp (nI E) sp y ta tk ta sg nu wd lo wv rl rw ht sd ah cl))]) rfl rfl) ?_
  refine w_return rfl dX10_flaw_21 (Nat.le_of_ble_eq_true rfl) (Nat.le_of_ble_eq_true rfl) ?_
  exact k _ _ (show pR (.inr (y, nI x.2.2.2.1)) E sp y ta tk ta sg nu wd from ⟨rfl, hy, hp.2.2.2.2.1⟩)
set_option maxRecDepth 100000 in
set_option maxHeartbeats 4000000 in
theorem m_flaw_r {G : wG} {d : Nat} {h : hH} {Q : Option Value → hH → Prop} {m : Nat} {th tr wa tp sp fa fl tk ta sg nu : Int32} {wd : Int64} {lo wv rl rw ht sd ah cl : Int32} {E : Nat} {y : Int32} {x : Int32 × Int32} (hw : hHas h [m] [(oC 10 (mF m th tr wa tp (nI E) sp fa fl tk ta sg nu wd lo wv rl rw ht sd ah cl))]) (nd : [m].Nodup) (hy : 0 < y) (hp : pR (.inr x) E sp fa fl tk ta sg nu wd) (k : ∀ fa fl : Int32, pR (flS y (.inr x)) E sp fa fl tk ta sg nu wd → Q none (hUs h [m] [(oC 10 (mF m th tr wa tp (nI E) sp fa fl tk ta sg nu wd lo wv rl rw ht sd ah cl))])) : Cl G yX10_flaw d 0 0 [.ref m, .int y] h Q := by
  refine Cl.of (ini := false) kX10_flaw (plainFor_of_name (by decide)) (by decide) (Nat.le_of_ble_eq_true rfl) rfl rfl (fun z => by cases z) ?_
  refine w_heq (hUs_id hw).symm ?_
  refine w_aload_n dX10_flaw_0 rfl ?_
  refine w_get (v := .int fa) fX10_99 (hUs_at nd 0 rfl rfl) rfl dX10_flaw_1 ?_
  refine w_if_le_f (tgt := 8) dX10_flaw_4 rfl (fun z => absurd hp.2.1 (by rw [← hp.1]; exact Int32.not_lt.mpr z)) ?_
  refine w_return rfl dX10_flaw_7 (Nat.le_of_ble_eq_true rfl) (Nat.le_of_ble_eq_true rfl) ?_
  exact k _ _ hp
theorem m_flaw {G : wG} {d : Nat} {h : hH} {Q : Option Value → hH → Prop} {m : Nat} {th tr wa tp sp fa fl tk ta sg nu : Int32} {wd : Int64} {lo wv rl rw ht sd ah cl : Int32} {E : Nat} {y : Int32} {s : pS} (hw : hHas h [m] [(oC 10 (mF m th tr wa tp (nI E) sp fa fl tk ta sg nu wd lo wv rl rw ht sd ah cl))]) (nd : [m].Nodup) (hy : 0 < y) (hp : pR s E sp fa fl tk ta sg nu wd) (k : ∀ fa fl : Int32, pR (flS y s) E sp fa fl tk ta sg nu wd → Q none (hUs h [m] [(oC 10 (mF m th tr wa tp (nI E) sp fa fl tk ta sg nu wd lo wv rl rw ht sd ah cl))])) : Cl G yX10_flaw d 0 0 [.ref m, .int y] h Q := by
  cases s with
  | inl x => exact m_flaw_l hw nd hy hp k
  | inr x => exact m_flaw_r hw nd hy hp k
set_option maxRecDepth 100000 in
set_option maxHeartbeats 4000000 in
theorem l_go1 {G : wG} {d : Nat} {h : hH} {Q : Option Value → hH → Prop} {m : Nat} {th tr wa tp fl tk ta sg nu : Int32} {wd : Int64} {lo wv rl rw ht sd ah cl : Int32} {ft gt : Nat → Int32} {E : Nat} {r9 : Nat} (nd : [m, m + 1].Nodup) (hE : E ≤ 600) (hT : mT E ft gt) (k : WP G RX10 cX10_goOn 1 none false (d + 2) 0 0 0 0 Q 46 [some (.ref m)] [] (hUs h [m, m + 1] [(oC 10 (mF m th tr wa tp (nI E) (nI r9) 0 fl tk ta sg nu wd lo wv rl rw ht sd ah cl)), (aI 600 gt)])) : ∀ (n : Nat) (a : Nat), a + n = E → scB ft E n a = r9 → WP G RX10 cX10_goOn 1 none false (d + 2) 0 0 0 0 Q 8 [some (.ref m)] [] (hUs h [m, m + 1] [(oC 10 (mF m th tr wa tp (nI E) (nI a) 0 fl tk ta sg nu wd lo wv rl rw ht sd ah cl)), (aI 600 gt)]) := by
  intro n
  induction n with
  | zero =>
    intro a hi e
    refine w_aload_n dX10_goOn_8 rfl ?_
    refine w_get (v := .int (nI a)) fX10_115 (hUs_at nd 0 rfl rfl) rfl dX10_goOn_9 ?_
    refine w_aload_n dX10_goOn_12 rfl ?_
    refine w_get (v := .int (nI E)) fX10_108 (hUs_at nd 0 rfl rfl) rfl dX10_goOn_13 ?_
    refine w_icmp_ge_t (tgt := 46) dX10_goOn_16 rfl ((nI_leI (a := E) (b := a) (by omega) (by omega)).mpr (by omega)) ?_
    rw [scB] at e
    rw [← e] at k
    exact k
  | succ n ih =>
    intro a hi e
    refine w_aload_n dX10_goOn_8 rfl ?_
    refine w_get (v := .int (nI a)) fX10_115 (hUs_at nd 0 rfl rfl) rfl dX10_goOn_9 ?_
    refine w_aload_n dX10_goOn_12 rfl ?_
    refine w_get (v := .int (nI E)) fX10_108 (hUs_at nd 0 rfl rfl) rfl dX10_goOn_13 ?_
    refine w_icmp_ge_f (tgt := 46) dX10_goOn_16 rfl (fun z => absurd ((nI_leI (a := E) (b := a) (by omega) (by omega)).mp z) (by omega)) ?_
    refine w_aload_n dX10_goOn_19 rfl ?_
    refine w_get (v := .ref (m + 1)) fX10_13 (hUs_at nd 0 rfl rfl) rfl dX10_goOn_20 ?_
    refine w_aload_n dX10_goOn_23 rfl ?_
    refine w_get (v := .int (nI a)) fX10_115 (hUs_at nd 0 rfl rfl) rfl dX10_goOn_24 ?_
    refine w_ialoadN (hUs_at nd 1 rfl rfl) (by omega) (by omega) dX10_goOn_27 ?_
    refine w_top (z := ft a &&& 255) (hT a (by omega)).1 ?_
    refine w_bipush (v := 32) dX10_goOn_28 (by decide) ?_
    refine w_icmp_ne (tgt := 46) dX10_goOn_30 rfl (fun b30 => ?_) (fun b30 => ?_)
    · rw [scB, if_neg (fun z => b30 ((by_eq (hT a (by omega)).2.1 (hT a (by omega)).2.2 (by decide) (by decide)).mpr z.2))] at e
      rw [← e] at k
      exact k
    · refine w_aload_n dX10_goOn_33 rfl ?_
      refine w_dup dX10_goOn_34 rfl ?_
      refine w_get (v := .int (nI a)) fX10_115 (hUs_at nd 0 rfl rfl) rfl dX10_goOn_35 ?_
      refine w_iconst (v := 1) dX10_goOn_38 (by decide) ?_
      refine w_iaddE (z := nI (a + 1)) dX10_goOn_39 (nI_add (a) (1)) ?_
      refine w_put (fs' := (mF m th tr wa tp (nI E) (nI (a + 1)) 0 fl tk ta sg nu wd lo wv rl rw ht sd ah cl)) fX10_115 (hUs_at nd 0 rfl rfl) rfl rfl (Nat.le_of_ble_eq_true rfl) rfl dX10_goOn_40 ?_
      refine w_heq (hUs_set nd rfl 0 (cs' := [(oC 10 (mF m th tr wa tp (nI E) (nI (a + 1)) 0 fl tk ta sg nu wd lo wv rl rw ht sd ah cl)), (aI 600 gt)]) rfl rfl) ?_
      refine w_goto (tgt := 8) dX10_goOn_43 rfl ?_
      rw [scB, if_pos ⟨by omega, (by_eq (hT a (by omega)).2.1 (hT a (by omega)).2.2 (by decide) (by decide)).mp b30⟩] at e
      exact ih (a + 1) (by omega) e
set_option maxRecDepth 100000 in
set_option maxHeartbeats 4000000 in
theorem l_go2 {G : wG} {d : Nat} {h : hH} {Q : Option Value → hH → Prop} {m : Nat} {th tr wa tp fl tk sg nu : Int32} {lo wv rl rw ht sd ah cl : Int32} {ft gt : Nat → Int32} {E : Nat} {b : Nat} {R9 : Nat × Nat × Int32} (nd : [m, m + 1].Nodup) (hE : E ≤ 600) (hT : mT E ft gt) (k : ∀ wd : Int64, wRl R9.2.1 R9.2.2 wd → WP G RX10 cX10_goOn 1 none false (d + 2) 0 0 0 0 Q 156 [some (.ref m)] [] (hUs h [m, m + 1] [(oC 10 (mF m th tr wa tp (nI E) (nI R9.1) 0 fl tk (nI b) sg nu wd lo wv rl rw ht sd ah cl)), (aI 600 gt)])) : ∀ (n : Nat) (a : Nat) (v : Int32) (wd : Int64), a + n = E → b ≤ a → wRl (a - b) v wd → scW ft E n a (a - b) v = R9 → WP G RX10 cX10_goOn 1 none false (d + 2) 0 0 0 0 Q 89 [some (.ref m)] [] (hUs h [m, m + 1] [(oC 10 (mF m th tr wa tp (nI E) (nI a) 0 fl tk (nI b) sg nu wd lo wv rl rw ht sd ah cl)), (aI 600 gt)]) := by
  intro n
  induction n with
  | zero =>
    intro a v wd hi hab hr e
    refine w_aload_n dX10_goOn_89 rfl ?_
    refine w_aload_n dX10_goOn_90 rfl ?_
    refine w_get (v := .int (nI a)) fX10_115 (hUs_at nd 0 rfl rfl) rfl dX10_goOn_91 ?_
    refine w_callV (ci := 10) (d' := d + 1) (mc' := 0) (ms' := 0) (As := [.int (nI a)]) (st := []) lX10_121 vX10_isLetterAt rfl (hUs_at nd 0 rfl rfl) rfl (Nat.le_of_ble_eq_true rfl) dX10_goOn_94 (Nat.le_of_ble_eq_true rfl) (Nat.le_of_ble_eq_true rfl) (Nat.le_refl _) (m_isLetterAt (hHas_sub nd (as' := [m, m + 1]) (cs' := [(oC 10 (mF m th tr wa tp (nI E) (nI a) 0 fl tk (nI b) sg nu wd lo wv rl rw ht sd ah cl)), (aI 600 gt)]) [0, 1] rfl rfl) hE hT (by omega) ?_)
    refine w_if_eq_t (tgt := 156) dX10_goOn_97 rfl (if_neg (fun z => absurd z.1 (by omega))) ?_
    rw [scW] at e
    rw [← e] at k
    exact k wd hr
  | succ n ih =>
    intro a v wd hi hab hr e
    refine w_aload_n dX10_goOn_89 rfl ?_
    refine w_aload_n dX10_goOn_90 rfl ?_
    refine w_get (v := .int (nI a)) fX10_115 (hUs_at nd 0 rfl rfl) rfl dX10_goOn_91 ?_
    refine w_callV (ci := 10) (d' := d + 1) (mc' := 0) (ms' := 0) (As := [.int (nI a)]) (st := []) lX10_121 vX10_isLetterAt rfl (hUs_at nd 0 rfl rfl) rfl (Nat.le_of_ble_eq_true rfl) dX10_goOn_94 (Nat.le_of_ble_eq_true rfl) (Nat.le_of_ble_eq_true rfl) (Nat.le_refl _) (m_isLetterAt (hHas_sub nd (as' := [m, m + 1]) (cs' := [(oC 10 (mF m th tr wa tp (nI E) (nI a) 0 fl tk (nI b) sg nu wd lo wv rl rw ht sd ah cl)), (aI 600 gt)]) [0, 1] rfl rfl) hE hT (by omega) ?_)
    refine w_if_eq (tgt := 156) dX10_goOn_97 rfl (fun b97 => ?_) (fun b97 => ?_)
    · rw [scW, if_neg (ltB_0 b97)] at e
      rw [← e] at k
      exact k wd hr
    · have hlt := ltB_n b97
      obtain ⟨u9, hu1, hu2, hu3, hu4⟩ := by_u (c := 97) (d := 122) (hT a (by omega)).1 hlt.2.1 hlt.2.2 (by decide) (by decide)
      refine w_aload_n dX10_goOn_100 rfl ?_
      refine w_get (v := .int (nI a)) fX10_115 (hUs_at nd 0 rfl rfl) rfl dX10_goOn_101 ?_
      refine w_aload_n dX10_goOn_104 rfl ?_
      refine w_get (v := .int (nI b)) fX10_102 (hUs_at nd 0 rfl rfl) rfl dX10_goOn_105 ?_
      refine w_isubE (z := nI (a - b)) dX10_goOn_108 (pk_sub (a := a) (b := b) (by omega)) ?_
      refine w_bipush (v := 6) dX10_goOn_109 (by decide) ?_
      refine w_icmp_ge (tgt := 143) dX10_goOn_111 rfl (fun b111 => ?_) (fun b111 => ?_)
      · have b111 := (nI_leI (a := 6) (b := (a - b)) (by omega) (by omega)).mp b111
        refine w_aload_n dX10_goOn_143 rfl ?_
        refine w_dup dX10_goOn_144 rfl ?_
        refine w_get (v := .int (nI a)) fX10_115 (hUs_at nd 0 rfl rfl) rfl dX10_goOn_145 ?_
        refine w_iconst (v := 1) dX10_goOn_148 (by decide) ?_
        refine w_iaddE (z := nI (a + 1)) dX10_goOn_149 (nI_add (a) (1)) ?_
        refine w_put (fs' := (mF m th tr wa tp (nI E) (nI (a + 1)) 0 fl tk (nI b) sg nu wd lo wv rl rw ht sd ah cl)) fX10_115 (hUs_at nd 0 rfl rfl) rfl rfl (Nat.le_of_ble_eq_true rfl) rfl dX10_goOn_150 ?_
        refine w_heq (hUs_set nd rfl 0 (cs' := [(oC 10 (mF m th tr wa tp (nI E) (nI (a + 1)) 0 fl tk (nI b) sg nu wd lo wv rl rw ht sd ah cl)), (aI 600 gt)]) rfl rfl) ?_
        refine w_goto (tgt := 89) dX10_goOn_153 rfl ?_
        rw [scW, if_pos hlt, if_neg (show ¬ a - b < 6 by omega), show a - b + 1 = a + 1 - b by omega] at e
        exact ih (a + 1) v _ (by omega) (by omega) (by rw [show a + 1 - b = a - b + 1 by omega]; exact (wRl_k hr (by omega))) e
      · have b111 : ¬ 6 ≤ (a - b) := fun z => b111 ((nI_leI (a := 6) (b := (a - b)) (by omega) (by omega)).mpr z)
        refine w_aload_n dX10_goOn_114 rfl ?_
        refine w_aload_n dX10_goOn_115 rfl ?_
        refine w_get (v := .long wd) fX10_125 (hUs_at nd 0 rfl rfl) rfl dX10_goOn_116 ?_
        refine w_ldc2 nX10_129 dX10_goOn_119 ?_
        refine w_lmul dX10_goOn_122 ?_
        refine w_aload_n dX10_goOn_123 rfl ?_
        refine w_get (v := .ref (m + 1)) fX10_13 (hUs_at nd 0 rfl rfl) rfl dX10_goOn_124 ?_
        refine w_aload_n dX10_goOn_127 rfl ?_
        refine w_get (v := .int (nI a)) fX10_115 (hUs_at nd 0 rfl rfl) rfl dX10_goOn_128 ?_
        refine w_ialoadN (hUs_at nd 1 rfl rfl) (by omega) (by omega) dX10_goOn_131 ?_
        refine w_top (z := nI u9) hu4 ?_
        refine w_i2l dX10_goOn_132 ?_
        refine w_ladd dX10_goOn_133 ?_
        refine w_ldc2 nX10_131 dX10_goOn_134 ?_
        refine w_lsub dX10_goOn_137 ?_
        refine w_lconst (v := 1) dX10_goOn_138 (by decide) ?_
        refine w_ladd dX10_goOn_139 ?_
        refine w_put (fs' := (mF m th tr wa tp (nI E) (nI a) 0 fl tk (nI b) sg nu ((((wd * 32) + ((nI u9).toInt64)) - 97) + 1) lo wv rl rw ht sd ah cl)) fX10_125 (hUs_at nd 0 rfl rfl) rfl rfl (Nat.le_of_ble_eq_true rfl) rfl dX10_goOn_140 ?_
        refine w_heq (hUs_set nd rfl 0 (cs' := [(oC 10 (mF m th tr wa tp (nI E) (nI a) 0 fl tk (nI b) sg nu ((((wd * 32) + ((nI u9).toInt64)) - 97) + 1) lo wv rl rw ht sd ah cl)), (aI 600 gt)]) rfl rfl) ?_
        refine w_aload_n dX10_goOn_143 rfl ?_
        refine w_dup dX10_goOn_144 rfl ?_
        refine w_get (v := .int (nI a)) fX10_115 (hUs_at nd 0 rfl rfl) rfl dX10_goOn_145 ?_
        refine w_iconst (v := 1) dX10_goOn_148 (by decide) ?_
        refine w_iaddE (z := nI (a + 1)) dX10_goOn_149 (nI_add (a) (1)) ?_
        refine w_put (fs' := (mF m th tr wa tp (nI E) (nI (a + 1)) 0 fl tk (nI b) sg nu ((((wd * 32) + ((nI u9).toInt64)) - 97) + 1) lo wv rl rw ht sd ah cl)) fX10_115 (hUs_at nd 0 rfl rfl) rfl rfl (Nat.le_of_ble_eq_true rfl) rfl dX10_goOn_150 ?_
        refine w_heq (hUs_set nd rfl 0 (cs' := [(oC 10 (mF m th tr wa tp (nI E) (nI (a + 1)) 0 fl tk (nI b) sg nu ((((wd * 32) + ((nI u9).toInt64)) - 97) + 1) lo wv rl rw ht sd ah cl)), (aI 600 gt)]) rfl rfl) ?_
        refine w_goto (tgt := 89) dX10_goOn_153 rfl ?_
        rw [scW, if_pos hlt, if_pos (show a - b < 6 by omega), hu3, show a - b + 1 = a + 1 - b by omega] at e
        exact ih (a + 1) (v ||| ((nI u9 - 97 + 1) <<< (nI (5 * (a - b)) &&& 31))) _ (by omega) (by omega) (by rw [show a + 1 - b = a - b + 1 by omega]; exact (wRl_s hr (by omega) hu1 hu2)) e
set_option maxRecDepth 100000 in
set_option maxHeartbeats 4000000 in
theorem l_go3 {G : wG} {d : Nat} {h : hH} {Q : Option Value → hH → Prop} {m : Nat} {th tr wa tp fl tk sg : Int32} {wd : Int64} {lo wv rl rw ht sd ah cl : Int32} {ft gt : Nat → Int32} {E : Nat} {b : Nat} {R9 : Nat × Nat × Int32} (nd : [m, m + 1].Nodup) (hE : E ≤ 600) (hT : mT E ft gt) (k : WP G RX10 cX10_goOn 1 none false (d + 2) 0 0 0 0 Q 259 [some (.ref m)] [] (hUs h [m, m + 1] [(oC 10 (mF m th tr wa tp (nI E) (nI R9.1) 0 fl tk (nI b) sg R9.2.2 wd lo wv rl rw ht sd ah cl)), (aI 600 gt)])) : ∀ (n : Nat) (a : Nat) (v : Int32), a + n = E → b ≤ a → scD ft E n a (a - b) v = R9 → WP G RX10 cX10_goOn 1 none false (d + 2) 0 0 0 0 Q 198 [some (.ref m)] [] (hUs h [m, m + 1] [(oC 10 (mF m th tr wa tp (nI E) (nI a) 0 fl tk (nI b) sg v wd lo wv rl rw ht sd ah cl)), (aI 600 gt)]) := by
  intro n
  induction n with
  | zero =>
    intro a v hi hab e
    refine w_aload_n dX10_goOn_198 rfl ?_
    refine w_aload_n dX10_goOn_199 rfl ?_
    refine w_get (v := .int (nI a)) fX10_115 (hUs_at nd 0 rfl rfl) rfl dX10_goOn_200 ?_
    refine w_callV (ci := 10) (d' := d + 1) (mc' := 0) (ms' := 0) (As := [.int (nI a)]) (st := []) lX10_133 vX10_isDigitAt rfl (hUs_at nd 0 rfl rfl) rfl (Nat.le_of_ble_eq_true rfl) dX10_goOn_203 (Nat.le_of_ble_eq_true rfl) (Nat.le_of_ble_eq_true rfl) (Nat.le_refl _) (m_isDigitAt (hHas_sub nd (as' := [m, m + 1]) (cs' := [(oC 10 (mF m th tr wa tp (nI E) (nI a) 0 fl tk (nI b) sg v wd lo wv rl rw ht sd ah cl)), (aI 600 gt)]) [0, 1] rfl rfl) hE hT (by omega) ?_)
    refine w_if_eq_t (tgt := 259) dX10_goOn_206 rfl (if_neg (fun z => absurd z.1 (by omega))) ?_
    rw [scD] at e
    rw [← e] at k
    exact k
  | succ n ih =>
    intro a v hi hab e
    refine w_aload_n dX10_goOn_198 rfl ?_
    refine w_aload_n dX10_goOn_199 rfl ?_
    refine w_get (v := .int (nI a)) fX10_115 (hUs_at nd 0 rfl rfl) rfl dX10_goOn_200 ?_
    refine w_callV (ci := 10) (d' := d + 1) (mc' := 0) (ms' := 0) (As := [.int (nI a)]) (st := []) lX10_133 vX10_isDigitAt rfl (hUs_at nd 0 rfl rfl) rfl (Nat.le_of_ble_eq_true rfl) dX10_goOn_203 (Nat.le_of_ble_eq_true rfl) (Nat.le_of_ble_eq_true rfl) (Nat.le_refl _) (m_isDigitAt (hHas_sub nd (as' := [m, m + 1]) (cs' := [(oC 10 (mF m th tr wa tp (nI E) (nI a) 0 fl tk (nI b) sg v wd lo wv rl rw ht sd ah cl)), (aI 600 gt)]) [0, 1] rfl rfl) hE hT (by omega) ?_)
    refine w_if_eq (tgt := 259) dX10_goOn_206 rfl (fun b206 => ?_) (fun b206 => ?_)
    · rw [scD, if_neg (dgB_0 b206)] at e
      rw [← e] at k
      exact k
    · have hlt := dgB_n b206
      obtain ⟨u9, hu1, hu2, hu3, hu4⟩ := by_u (c := 48) (d := 57) (hT a (by omega)).1 hlt.2.1 hlt.2.2 (by decide) (by decide)
      refine w_aload_n dX10_goOn_209 rfl ?_
      refine w_get (v := .int (nI a)) fX10_115 (hUs_at nd 0 rfl rfl) rfl dX10_goOn_210 ?_
      refine w_aload_n dX10_goOn_213 rfl ?_
      refine w_get (v := .int (nI b)) fX10_102 (hUs_at nd 0 rfl rfl) rfl dX10_goOn_214 ?_
      refine w_isubE (z := nI (a - b)) dX10_goOn_217 (pk_sub (a := a) (b := b) (by omega)) ?_
      refine w_iconst (v := 4) dX10_goOn_218 (by decide) ?_
      refine w_icmp_ge (tgt := 246) dX10_goOn_219 rfl (fun b219 => ?_) (fun b219 => ?_)
      · have b219 := (nI_leI (a := 4) (b := (a - b)) (by omega) (by omega)).mp b219
        refine w_aload_n dX10_goOn_246 rfl ?_
        refine w_dup dX10_goOn_247 rfl ?_
        refine w_get (v := .int (nI a)) fX10_115 (hUs_at nd 0 rfl rfl) rfl dX10_goOn_248 ?_
        refine w_iconst (v := 1) dX10_goOn_251 (by decide) ?_
        refine w_iaddE (z := nI (a + 1)) dX10_goOn_252 (nI_add (a) (1)) ?_
        refine w_put (fs' := (mF m th tr wa tp (nI E) (nI (a + 1)) 0 fl tk (nI b) sg v wd lo wv rl rw ht sd ah cl)) fX10_115 (hUs_at nd 0 rfl rfl) rfl rfl (Nat.le_of_ble_eq_true rfl) rfl dX10_goOn_253 ?_
        refine w_heq (hUs_set nd rfl 0 (cs' := [(oC 10 (mF m th tr wa tp (nI E) (nI (a + 1)) 0 fl tk (nI b) sg v wd lo wv rl rw ht sd ah cl)), (aI 600 gt)]) rfl rfl) ?_
        refine w_goto (tgt := 198) dX10_goOn_256 rfl ?_
        rw [scD, if_pos hlt, if_neg (show ¬ a - b < 4 by omega), show a - b + 1 = a + 1 - b by omega] at e
        exact ih (a + 1) _ (by omega) (by omega) e
      · have b219 : ¬ 4 ≤ (a - b) := fun z => b219 ((nI_leI (a := 4) (b := (a - b)) (by omega) (by omega)).mpr z)
        refine w_aload_n dX10_goOn_222 rfl ?_
        refine w_bipush (v := 10) dX10_goOn_223 (by decide) ?_
        refine w_aload_n dX10_goOn_225 rfl ?_
        refine w_get (v := .int v) fX10_136 (hUs_at nd 0 rfl rfl) rfl dX10_goOn_226 ?_
        refine w_imul dX10_goOn_229 ?_
        refine w_aload_n dX10_goOn_230 rfl ?_
        refine w_get (v := .ref (m + 1)) fX10_13 (hUs_at nd 0 rfl rfl) rfl dX10_goOn_231 ?_
        refine w_aload_n dX10_goOn_234 rfl ?_
        refine w_get (v := .int (nI a)) fX10_115 (hUs_at nd 0 rfl rfl) rfl dX10_goOn_235 ?_
        refine w_ialoadN (hUs_at nd 1 rfl rfl) (by omega) (by omega) dX10_goOn_238 ?_
        refine w_top (z := ft a) (hu4.trans hu3.symm) ?_
        refine w_iadd dX10_goOn_239 ?_
        refine w_bipush (v := 48) dX10_goOn_240 (by decide) ?_
        refine w_isub dX10_goOn_242 ?_
        refine w_top (z := v * 10 + ft a - 48) (by rw [Int32.mul_comm]) ?_
        refine w_put (fs' := (mF m th tr wa tp (nI E) (nI a) 0 fl tk (nI b) sg (v * 10 + ft a - 48) wd lo wv rl rw ht sd ah cl)) fX10_136 (hUs_at nd 0 rfl rfl) rfl rfl (Nat.le_of_ble_eq_true rfl) rfl dX10_goOn_243 ?_
        refine w_heq (hUs_set nd rfl 0 (cs' := [(oC 10 (mF m th tr wa tp (nI E) (nI a) 0 fl tk (nI b) sg (v * 10 + ft a - 48) wd lo wv rl rw ht sd ah cl)), (aI 600 gt)]) rfl rfl) ?_
        refine w_aload_n dX10_goOn_246 rfl ?_
        refine w_dup dX10_goOn_247 rfl ?_
        refine w_get (v := .int (nI a)) fX10_115 (hUs_at nd 0 rfl rfl) rfl dX10_goOn_248 ?_
        refine w_iconst (v := 1) dX10_goOn_251 (by decide) ?_
        refine w_iaddE (z := nI (a + 1)) dX10_goOn_252 (nI_add (a) (1)) ?_
        refine w_put (fs' := (mF m th tr wa tp (nI E) (nI (a + 1)) 0 fl tk (nI b) sg (v * 10 + ft a - 48) wd lo wv rl rw ht sd ah cl)) fX10_115 (hUs_at nd 0 rfl rfl) rfl rfl (Nat.le_of_ble_eq_true rfl) rfl dX10_goOn_253 ?_
        refine w_heq (hUs_set nd rfl 0 (cs' := [(oC 10 (mF m th tr wa tp (nI E) (nI (a + 1)) 0 fl tk (nI b) sg (v * 10 + ft a - 48) wd lo wv rl rw ht sd ah cl)), (aI 600 gt)]) rfl rfl) ?_
        refine w_goto (tgt := 198) dX10_goOn_256 rfl ?_
        rw [scD, if_pos hlt, if_pos (show a - b < 4 by omega), show a - b + 1 = a + 1 - b by omega] at e
        exact ih (a + 1) _ (by omega) (by omega) e
