/-- refused, or no flaw -/
def nz (a : Int32) (x : rD) : Prop := a = 0 ∨ x.2.2.2.2.2.2.1 = 0
theorem rTok_z (ft : Nat → Int32) (E a : Nat) (vl tk fl pl : Int32) : (rTok ft E a vl tk fl pl).2.2.2.2.2.2.1 = fl := by
  unfold rTok
  split
  · split
    · rfl
    · split
      · rfl
      · rfl
  · rfl
theorem rStp_z (ft : Nat → Int32) {x : rD} (h : x.2.2.2.2.2.2.1 = 0) : (rStp ft x).2.2.2.2.2.2.1 = 0 := (rTok_z ft _ _ _ _ _ _).trans h
theorem rTW_z (ft : Nat → Int32) (bs : List Int32) (n : Nat) {x : rD} (h : x.2.2.2.2.2.2.1 = 0) : nz (rTW ft bs n x).1 (rTW ft bs n x).2 := by
  unfold rTW; split
  · exact Or.inl rfl
  · exact Or.inr (rStp_z ft h)
theorem rTM_z (ft : Nat → Int32) (c : Int32) {x : rD} (h : x.2.2.2.2.2.2.1 = 0) : nz (rTM ft c x).1 (rTM ft c x).2 := by
  unfold rTM; split
  · exact Or.inl rfl
  · exact Or.inr (rStp_z ft h)
theorem rTN2_z (ft : Nat → Int32) (lo hi : Int32) {x : rD} (h : x.2.2.2.2.2.2.1 = 0) : nz (rTN2 ft lo hi x).1 (rTN2 ft lo hi x).2 := by
  unfold rTN2; split
  · exact Or.inl rfl
  · exact Or.inr (rStp_z ft h)
theorem rTN1_z (ft : Nat → Int32) (lo hi ng : Int32) {x : rD} (h : x.2.2.2.2.2.2.1 = 0) : nz (rTN1 ft lo hi ng x).1 (rTN1 ft lo hi ng x).2 := by
  unfold rTN1
  by_cases e : x.2.2.1 = 2
  · rw [if_pos e]; exact rTN2_z ft lo hi (x := rTk x _) h
  · rw [if_neg e]; exact Or.inl rfl
theorem rTN_z (ft : Nat → Int32) (lo hi : Int32) {x : rD} (h : x.2.2.2.2.2.2.1 = 0) : nz (rTN ft lo hi x).1 (rTN ft lo hi x).2 := by
  unfold rTN; split
  · exact rTN1_z ft _ _ _ (rStp_z ft h)
  · exact rTN1_z ft _ _ _ h
theorem rNm_z (ft : Nat → Int32) (P : pD) {x : rD} (h : x.2.2.2.2.2.2.1 = 0) : nz (rNm ft P x).1 (rNm ft P x).2 := by
  unfold rNm; split
  · split
    · exact Or.inr (rStp_z ft (x := rTk x _) h)
    · exact Or.inl rfl
  · exact Or.inl rfl
theorem rFc_z (ft : Nat → Int32) : ∀ (m : Nat) {x : rD} (n : Nat) (f : Nat → Int32), x.2.2.2.2.2.2.1 = 0 → nz (rFc ft m x n f).1 (rFc ft m x n f).2.1 
  | 0, _, _, _, h => Or.inr h
  | m + 1, x, n, f, h => by
    rw [rFc]
    by_cases e4 : (rTN ft 1 32 x).1 = 0
    · rw [if_pos e4]; exact Or.inl rfl
    · rw [if_neg e4]
      have h4 := (rTN_z ft 1 32 h).resolve_left e4
      split
      · split
        · exact rFc_z ft m _ _ h4
        · exact Or.inr h4
      · exact Or.inl rfl
theorem rNz_z (ft : Nat → Int32) {x : rD} (z : Int32) (h : x.2.2.2.2.2.2.1 = 0) : nz (rNz ft x z).1 (rNz ft x z).2.1 := by
  unfold rNz
  by_cases e2 : (rTN ft 1 999 (rStp ft x)).1 = 0
  · rw [if_pos e2]; exact Or.inl rfl
  · rw [if_neg e2]
    have h2 := (rTN_z ft 1 999 (rStp_z ft h)).resolve_left e2
    exact Or.inr h2
theorem rLp7_z (ft : Nat → Int32) (nm : Int32) (n : Nat) (f : Nat → Int32) (bd th : Int32) {x : rD} (h : x.2.2.2.2.2.2.1 = 0) : nz (rLp7 ft nm n f bd th x).1 (rLp7 ft nm n f bd th x).2.1 := by
  unfold rLp7; split
  · exact Or.inr h
  · rcases rNz_z ft 0 h with e | e
    · exact Or.inl (if_pos e)
    · exact Or.inr e
theorem rLp6_z (ft : Nat → Int32) (nm : Int32) (n : Nat) (f : Nat → Int32) (bd : Int32) {x : rD} (h : x.2.2.2.2.2.2.1 = 0) : nz (rLp6 ft nm n f bd x).1 (rLp6 ft nm n f bd x).2.1 := by
  unfold rLp6; split
  · exact rLp7_z ft _ _ _ _ _ h
  · exact rLp7_z ft _ _ _ _ _ (rStp_z ft h)
theorem rLp5_z (ft : Nat → Int32) (nm : Int32) (n : Nat) (f : Nat → Int32) {x : rD} (h : x.2.2.2.2.2.2.1 = 0) : nz (rLp5 ft nm n f x).1 (rLp5 ft nm n f x).2.1 := by
  unfold rLp5
  by_cases e2 : (rTN ft 1000 9999 x).1 = 0
  · rw [if_pos e2]; exact Or.inl rfl
  · rw [if_neg e2]
    have h2 := (rTN_z ft 1000 9999 h).resolve_left e2
    exact rLp6_z ft _ _ _ _ h2
theorem rLp4_z (ft : Nat → Int32) (nm : Int32) (n : Nat) (f : Nat → Int32) {x : rD} (h : x.2.2.2.2.2.2.1 = 0) : nz (rLp4 ft nm n f x).1 (rLp4 ft nm n f x).2.1 := by
  unfold rLp4
  by_cases e2 : (rTW ft [98, 111, 117, 110, 100] 5 x).1 = 0
  · rw [if_pos e2]; exact Or.inl rfl
  · rw [if_neg e2]
    have h2 := (rTW_z ft [98, 111, 117, 110, 100] 5 h).resolve_left e2
    exact rLp5_z ft _ _ _ h2
theorem rLp3_z (ft : Nat → Int32) (nm : Int32) {x : rD} (h : x.2.2.2.2.2.2.1 = 0) : nz (rLp3 ft nm x).1 (rLp3 ft nm x).2.1 := by
  unfold rLp3
  by_cases e2 : (rFc ft 4 x 0 (fun _ => 0)).1 = 0
  · rw [if_pos e2]; exact Or.inl rfl
  · rw [if_neg e2]
    have h2 := (rFc_z ft 4 0 (fun _ => 0) h).resolve_left e2
    exact rLp4_z ft _ _ _ h2
theorem rLp2_z (ft : Nat → Int32) (nm : Int32) {x : rD} (h : x.2.2.2.2.2.2.1 = 0) : nz (rLp2 ft nm x).1 (rLp2 ft nm x).2.1 := by
  unfold rLp2
  by_cases e2 : (rTW ft [98, 121] 2 x).1 = 0
  · rw [if_pos e2]; exact Or.inl rfl
  · rw [if_neg e2]
    have h2 := (rTW_z ft [98, 121] 2 h).resolve_left e2
    exact rLp3_z ft _ h2
theorem rLp1_z (ft : Nat → Int32) (P : pD) {x : rD} (h : x.2.2.2.2.2.2.1 = 0) : nz (rLp1 ft P x).1 (rLp1 ft P x).2.1 := by
  unfold rLp1
  by_cases e2 : (rNm ft (pL1 P) (rStp ft x)).1 = 0
  · rw [if_pos e2]; exact Or.inl rfl
  · rw [if_neg e2]
    have h2 := (rNm_z ft (pL1 P) (rStp_z ft h)).resolve_left e2
    exact rLp2_z ft _ h2
theorem rLp_z (ft : Nat → Int32) (P : pD) {x : rD} (h : x.2.2.2.2.2.2.1 = 0) : nz (rLp ft x P).1 (rLp ft x P).2.1 := by
  unfold rLp; split
  · exact rLp1_z ft P h
  · exact Or.inl rfl
theorem rPc4_z (ft : Nat → Int32) (kd a b : Int32) (W : wP) {x : rD} (h : x.2.2.2.2.2.2.1 = 0) : nz (rPc4 ft kd a b x W).1 (rPc4 ft kd a b x W).2.1 := by
  unfold rPc4
  by_cases e2 : (rTN ft 1 500 x).1 = 0
  · rw [if_pos e2]; exact Or.inl rfl
  · rw [if_neg e2]
    have h2 := (rTN_z ft 1 500 h).resolve_left e2
    exact Or.inr h2
theorem rPc3_z (ft : Nat → Int32) (kd a : Int32) (W : wP) {x : rD} (h : x.2.2.2.2.2.2.1 = 0) : nz (rPc3 ft kd a x W).1 (rPc3 ft kd a x W).2.1 := by
  unfold rPc3
  by_cases e2 : (rTW ft [102, 111, 114] 3 x).1 = 0
  · rw [if_pos e2]; exact Or.inl rfl
  · rw [if_neg e2]
    have h2 := (rTW_z ft [102, 111, 114] 3 h).resolve_left e2
    exact rPc4_z ft _ _ _ _ h2
theorem rPcR_z (ft : Nat → Int32) (lo hi kd a : Int32) (W : wP) {x : rD} (h : x.2.2.2.2.2.2.1 = 0) : nz (rPcR ft lo hi kd a x W).1 (rPcR ft lo hi kd a x W).2.1 := by
  unfold rPcR
  by_cases e2 : (rTN ft lo hi x).1 = 0
  · rw [if_pos e2]; exact Or.inl rfl
  · rw [if_neg e2]
    have h2 := (rTN_z ft lo hi h).resolve_left e2
    exact rPc3_z ft _ _ _ h2
theorem rPc2_z (ft : Nat → Int32) (kd a : Int32) (W : wP) {x : rD} (h : x.2.2.2.2.2.2.1 = 0) : nz (rPc2 ft kd a x W).1 (rPc2 ft kd a x W).2.1 := by
  unfold rPc2; split
  · skip
    by_cases e4 : (rTW ft [116, 111] 2 x).1 = 0
    · rw [if_pos e4]; exact Or.inl rfl
    · rw [if_neg e4]
      have h4 := (rTW_z ft [116, 111] 2 h).resolve_left e4
      exact rPcR_z ft _ _ _ _ _ h4
  · split
    · skip
      by_cases e6 : (rTW ft [101, 118, 101, 114, 121] 5 x).1 = 0
      · rw [if_pos e6]; exact Or.inl rfl
      · rw [if_neg e6]
        have h6 := (rTW_z ft [101, 118, 101, 114, 121] 5 h).resolve_left e6
        exact rPcR_z ft _ _ _ _ _ h6
    · exact rPc3_z ft _ _ _ h
theorem rPc1_z (ft : Nat → Int32) (kd : Int32) (W : wP) {x : rD} (h : x.2.2.2.2.2.2.1 = 0) : nz (rPc1 ft kd x W).1 (rPc1 ft kd x W).2.1 := by
  unfold rPc1; split
  · skip
    by_cases e4 : (rTN ft (-1000) 1000 (rStp ft x)).1 = 0
    · rw [if_pos e4]; exact Or.inl rfl
    · rw [if_neg e4]
      have h4 := (rTN_z ft (-1000) 1000 (rStp_z ft h)).resolve_left e4
      exact rPc2_z ft _ _ _ h4
  · exact Or.inl rfl
theorem rPc_z (ft : Nat → Int32) (W : wP) {x : rD} (h : x.2.2.2.2.2.2.1 = 0) : nz (rPc ft x W).1 (rPc ft x W).2.1 := by
  unfold rPc; split
  · split
    · split
      · exact Or.inl rfl
      · exact rPc1_z ft _ _ h
    · exact rPc1_z ft _ _ h
  · exact rPc1_z ft _ _ h
theorem rWvL_z (ft : Nat → Int32) : ∀ (n : Nat) (mo : Int32) (x : rD) (W : wP), nz mo x → nz (rWvL ft n mo x W).1 (rWvL ft n mo x W).2.1
  | 0, _, _, _, h => h
  | n + 1, mo, x, W, h => by
    rw [rWvL]
    by_cases e1 : mo = 0
    · rw [if_pos e1]; exact h
    · rw [if_neg e1]
      split
      · exact h
      · exact rWvL_z ft n _ _ _ (rPc_z ft W (rStp_z ft (h.resolve_left e1)))
theorem rWv2_z (ft : Nat → Int32) (nm : Int32) (W : wP) {x : rD} (h : x.2.2.2.2.2.2.1 = 0) : nz (rWv2 ft nm x W).1 (rWv2 ft nm x W).2.1 := by
  have g := rPc_z ft W h
  unfold rWv2
  generalize rPc ft x W = T at g ⊢
  have g2 := rWvL_z ft 9 T.1 T.2.1 T.2.2 g
  generalize rWvL ft 9 T.1 T.2.1 T.2.2 = R at g2 ⊢
  exact g2
theorem rWv_z (ft : Nat → Int32) (P : pD) {x : rD} (h : x.2.2.2.2.2.2.1 = 0) : nz (rWv ft x P).1 (rWv ft x P).2.1 := by
  unfold rWv; split
  · show nz (rWv1 ft P x).1 (rWv1 ft P x).2.1
    unfold rWv1
    by_cases e4 : (rNm ft (pW1 P) (rStp ft x)).1 = 0
    · rw [if_pos e4]; exact Or.inl rfl
    · rw [if_neg e4]
      have h4 := (rNm_z ft (pW1 P) (rStp_z ft h)).resolve_left e4
      exact rWv2_z ft _ _ h4
  · exact Or.inl rfl
theorem rLn_z (ft : Nat → Int32) (P : pD) {x : rD} (h : x.2.2.2.2.2.2.1 = 0) : nz (rLn ft x P).1 (rLn ft x P).2.1 := by
  unfold rLn; split
  · split
    · exact Or.inl rfl
    · exact rWv_z ft P h
  · exact rLp_z ft P h
theorem rTx_z (ft : Nat → Int32) : ∀ (n : Nat) (x : rD) (P : pD), x.2.2.2.2.2.2.1 = 0 → nz (rTx ft n x P).1 (rTx ft n x P).2.1
  | 0, _, _, _ => Or.inl rfl
  | n + 1, x, P, h => by
    rw [rTx]
    by_cases e4 : (rLn ft x P).1 = 0
    · rw [if_pos e4]; exact Or.inl rfl
    · rw [if_neg e4]
      have h4 := (rLn_z ft P h).resolve_left e4
      split
      · exact Or.inr h4
      · by_cases e9 : (rTM ft 59 (rLn ft x P).2.1).1 = 0
        · rw [if_pos e9]; exact Or.inl rfl
        · rw [if_neg e9]
          exact rTx_z ft n _ _ ((rTM_z ft 59 h4).resolve_left e9)
theorem txX_z {ft : Nat → Int32} {E : Nat} {x : rD} {P : pD} (h : ¬ (txX ft E x P).1 = 0) : (txX ft E x P).2.1.2.2.2.2.2.2.1 = 0 :=
  (rTx_z ft 600 _ _ (rStp_z ft rfl)).resolve_left h
