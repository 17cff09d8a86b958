theorem rTok_tk (ft : Nat → Int32) (E a : Nat) (vl tk fl pl : Int32) : (rTok ft E a vl tk fl pl).2.2.2.2.2.1 = tk := by
  unfold rTok; split
  · split
    · rfl
    · split <;> rfl
  · rfl
theorem rStp_tk (ft : Nat → Int32) (x : rD) : (rStp ft x).2.2.2.2.2.1 = x.2.2.2.2.2.1 := rTok_tk ..
theorem rTN_in (ft : Nat → Int32) (lo hi : Int32) (x : rD) (h : ¬ (rTN ft lo hi x).1 = 0) : lo ≤ (rTN ft lo hi x).2.2.2.2.2.2.1 ∧ (rTN ft lo hi x).2.2.2.2.2.2.1 ≤ hi := by
  have key : ∀ (ng : Int32) (y : rD), ¬ (rTN1 ft lo hi ng y).1 = 0 → lo ≤ (rTN1 ft lo hi ng y).2.2.2.2.2.2.1 ∧ (rTN1 ft lo hi ng y).2.2.2.2.2.2.1 ≤ hi := by
    intro ng y
    unfold rTN1
    by_cases e : y.2.2.1 = 2
    · rw [if_pos e]
      unfold rTN2
      generalize (if ng = 0 then y.2.2.2.2.1 else -y.2.2.2.2.1) = v
      by_cases e2 : (rTk y v).2.2.2.2.2.1 < lo ∨ hi < (rTk y v).2.2.2.2.2.1
      · rw [if_pos e2]; intro z; exact absurd rfl z
      · rw [if_neg e2]; intro _
        simp only [rStp_tk]
        exact ⟨Int32.not_lt.mp (fun z => e2 (Or.inl z)), Int32.not_lt.mp (fun z => e2 (Or.inr z))⟩
    · rw [if_neg e]; intro z; exact absurd rfl z
  unfold rTN at h ⊢
  split
  · rename_i z; rw [if_pos z] at h; exact key _ _ h
  · rename_i z; rw [if_neg z] at h; exact key _ _ h
theorem nI_tn {x : Int32} (h : 0 ≤ x) : nI x.toNatClampNeg = x := by
  rcases nI_of (Int32.not_lt.mpr h) with ⟨j, hj, rfl⟩
  rw [nI_clamp hj]
def wPx (W : wP) (kd a b c : Int32) : wP := (upd W.1 W.2.2.2.2.1 kd, upd W.2.1 W.2.2.2.2.1 a, upd W.2.2.1 W.2.2.2.2.1 b, upd W.2.2.2.1 W.2.2.2.2.1 c, W.2.2.2.2.1 + 1, W.2.2.2.2.2 + c.toNatClampNeg)
def rPc4 (ft : Nat → Int32) (kd a b : Int32) (x : rD) (W : wP) : Int32 × rD × wP :=
  if (rTN ft 1 500 x).1 = 0 then (0, (rTN ft 1 500 x).2, W) else (1, (rTN ft 1 500 x).2, wPx W kd a b (rTN ft 1 500 x).2.2.2.2.2.2.1)
def rPc3 (ft : Nat → Int32) (kd a : Int32) (x : rD) (W : wP) : Int32 × rD × wP :=
  if (rTW ft [102, 111, 114] 3 x).1 = 0 then (0, (rTW ft [102, 111, 114] 3 x).2, W) else rPc4 ft kd a x.2.2.2.2.2.1 (rTW ft [102, 111, 114] 3 x).2 W
def rPcR (ft : Nat → Int32) (lo hi kd a : Int32) (x : rD) (W : wP) : Int32 × rD × wP :=
  if (rTN ft lo hi x).1 = 0 then (0, (rTN ft lo hi x).2, W) else rPc3 ft kd a (rTN ft lo hi x).2 W
def rPc2 (ft : Nat → Int32) (kd a : Int32) (x : rD) (W : wP) : Int32 × rD × wP :=
  if kd = 1 then (if (rTW ft [116, 111] 2 x).1 = 0 then (0, (rTW ft [116, 111] 2 x).2, W) else rPcR ft (-1000) 1000 kd a (rTW ft [116, 111] 2 x).2 W)
  else if kd = 2 then (if (rTW ft [101, 118, 101, 114, 121] 5 x).1 = 0 then (0, (rTW ft [101, 118, 101, 114, 121] 5 x).2, W) else rPcR ft 2 99 kd a (rTW ft [101, 118, 101, 114, 121] 5 x).2 W)
  else rPc3 ft kd a x W
def rPc1 (ft : Nat → Int32) (kd : Int32) (x : rD) (W : wP) : Int32 × rD × wP :=
  if W.2.2.2.2.1 < 8 then (if (rTN ft (-1000) 1000 (rStp ft x)).1 = 0 then (0, (rTN ft (-1000) 1000 (rStp ft x)).2, W) else rPc2 ft kd (rTN ft (-1000) 1000 (rStp ft x)).2.2.2.2.2.2.1 (rTN ft (-1000) 1000 (rStp ft x)).2 W)
  else (0, rFl x 4 (nI x.2.2.2.1), W)
def rPc (ft : Nat → Int32) (x : rD) (W : wP) : Int32 × rD × wP :=
  if isW x.2.2.1 x.2.2.2.2.1 [104, 111, 108, 100] 4 = 0 then
    if isW x.2.2.1 x.2.2.2.2.1 [114, 97, 109, 112] 4 = 0 then
      if isW x.2.2.1 x.2.2.2.2.1 [115, 119, 105, 110, 103] 5 = 0 then (0, rFl x 1 (nI x.2.2.2.1), W) else rPc1 ft 2 x W
    else rPc1 ft 1 x W
  else rPc1 ft 0 x W
/-- what each of them keeps -/
def rPk (ft : Nat → Int32) (W : wP) (t : Int32 × rD × wP) : Prop := rOk t.2.1 ∧ (t.1 = 0 ∨ t.1 = 1) ∧ t.2.2.2.2.2.2.1 ≤ 8 ∧ (t.2.2 = W ∨ ∃ kd a b c : Int32, 1 ≤ c ∧ c ≤ 500 ∧ t.2.2 = wPx W kd a b c)
theorem rPc3_k (ft : Nat → Int32) (kd a : Int32) {x : rD} {W : wP} (h : rOk x) (hn : W.2.2.2.2.1 < 8) : rPk ft W (rPc3 ft kd a x W) := by
  have h1 := rTW_ok ft [102, 111, 114] 3 h
  unfold rPc3; split
  · exact ⟨h1, Or.inl rfl, by show W.2.2.2.2.1 ≤ 8; omega, Or.inl rfl⟩
  · have h2 := rTN_ok ft 1 500 h1
    unfold rPc4
    by_cases e : (rTN ft 1 500 (rTW ft [102, 111, 114] 3 x).2).1 = 0
    · rw [if_pos e]; exact ⟨h2, Or.inl rfl, by show W.2.2.2.2.1 ≤ 8; omega, Or.inl rfl⟩
    · rw [if_neg e]
      have h3 := rTN_in ft 1 500 _ e
      exact ⟨h2, Or.inr rfl, by show W.2.2.2.2.1 + 1 ≤ 8; omega, Or.inr ⟨_, _, _, _, h3.1, h3.2, rfl⟩⟩
theorem rPcR_k (ft : Nat → Int32) (lo hi kd a : Int32) {x : rD} {W : wP} (h : rOk x) (hn : W.2.2.2.2.1 < 8) : rPk ft W (rPcR ft lo hi kd a x W) := by
  have h1 := rTN_ok ft lo hi h
  unfold rPcR; split
  · exact ⟨h1, Or.inl rfl, by show W.2.2.2.2.1 ≤ 8; omega, Or.inl rfl⟩
  · exact rPc3_k ft kd a h1 hn
theorem rPc1_k (ft : Nat → Int32) (kd : Int32) {x : rD} {W : wP} (h : rOk x) (hn : W.2.2.2.2.1 ≤ 8) : rPk ft W (rPc1 ft kd x W) := by
  have h1 := rTN_ok ft (-1000) 1000 (rStp_ok ft h)
  unfold rPc1
  by_cases e : W.2.2.2.2.1 < 8
  · rw [if_pos e]; split
    · exact ⟨h1, Or.inl rfl, hn, Or.inl rfl⟩
    · unfold rPc2; split
      · have h2 := rTW_ok ft [116, 111] 2 h1
        split
        · exact ⟨h2, Or.inl rfl, hn, Or.inl rfl⟩
        · exact rPcR_k ft _ _ kd _ h2 e
      · split
        · have h2 := rTW_ok ft [101, 118, 101, 114, 121] 5 h1
          split
          · exact ⟨h2, Or.inl rfl, hn, Or.inl rfl⟩
          · exact rPcR_k ft _ _ kd _ h2 e
        · exact rPc3_k ft kd _ h1 e
  · rw [if_neg e]; exact ⟨h, Or.inl rfl, hn, Or.inl rfl⟩
theorem rPc_k (ft : Nat → Int32) {x : rD} {W : wP} (h : rOk x) (hn : W.2.2.2.2.1 ≤ 8) : rPk ft W (rPc ft x W) := by
  unfold rPc; split
  · split
    · split
      · exact ⟨h, Or.inl rfl, hn, Or.inl rfl⟩
      · exact rPc1_k ft 2 h hn
    · exact rPc1_k ft 1 h hn
  · exact rPc1_k ft 0 h hn
theorem bo_n {x : Int32} (h : x = 0 ∨ x = 1) : narrow .boolean (.int x) = .int x := by
  rcases h with rfl | rfl <;> rfl
def rWvL (ft : Nat → Int32) : Nat → Int32 → rD → wP → Int32 × rD × wP
  | 0, mo, x, W => (mo, x, W)
  | n + 1, mo, x, W => if mo = 0 then (mo, x, W) else if isM x.2.2.1 x.2.2.2.2.1 44 = 0 then (mo, x, W) else rWvL ft n (rPc ft (rStp ft x) W).1 (rPc ft (rStp ft x) W).2.1 (rPc ft (rStp ft x) W).2.2
def wvC (W : wP) : wP := (W.1, W.2.1, W.2.2.1, W.2.2.2.1, 0, 0)
def pW1 (P : pD) : pD := (P.1, P.2.1 + 1, P.2.2.1, updD P.2.2.2 P.2.1 (0, wvC (P.2.2.2 P.2.1).2))
def rWv2 (ft : Nat → Int32) (nm : Int32) (x : rD) (W : wP) : Int32 × rD × wD :=
  ((rWvL ft 9 (rPc ft x W).1 (rPc ft x W).2.1 (rPc ft x W).2.2).1, (rWvL ft 9 (rPc ft x W).1 (rPc ft x W).2.1 (rPc ft x W).2.2).2.1, (nm, (rWvL ft 9 (rPc ft x W).1 (rPc ft x W).2.1 (rPc ft x W).2.2).2.2))
def rWv1 (ft : Nat → Int32) (P : pD) (x : rD) : Int32 × rD × wD :=
  if (rNm ft (pW1 P) (rStp ft x)).1 = 0 then (0, (rNm ft (pW1 P) (rStp ft x)).2, (0, wvC (P.2.2.2 P.2.1).2)) else rWv2 ft (rNm ft (pW1 P) (rStp ft x)).2.2.2.2.2.2.1 (rNm ft (pW1 P) (rStp ft x)).2 (wvC (P.2.2.2 P.2.1).2)
def rWv (ft : Nat → Int32) (x : rD) (P : pD) : Int32 × rD × pD :=
  if P.2.1 < 4 then ((rWv1 ft P x).1, (rWv1 ft P x).2.1, (P.1, P.2.1 + 1, P.2.2.1, updD P.2.2.2 P.2.1 (rWv1 ft P x).2.2)) else (0, rFl x 4 (nI x.2.2.2.1), P)
theorem c_addPieceN {G : wG} {d : Nat} {h : hH} {Q : Option Value → hH → Prop} {w : Nat} {nm x1 x2 x3 x4 : Int32} {W : wP} (hw : hHas h [w, w + 1, w + 2, w + 3, w + 4] [oC 7 (wvF w (nm, W)), aI 8 W.1, aI 8 W.2.1, aI 8 W.2.2.1, aI 8 W.2.2.2.1]) (nd : [w, w + 1, w + 2, w + 3, w + 4].Nodup) (hn : W.2.2.2.2.1 < 8) (h4 : 0 ≤ x4) (k : Q none (hUs h [w, w + 1, w + 2, w + 3, w + 4] [oC 7 (wvF w (nm, wPx W x1 x2 x3 x4)), aI 8 (wPx W x1 x2 x3 x4).1, aI 8 (wPx W x1 x2 x3 x4).2.1, aI 8 (wPx W x1 x2 x3 x4).2.2.1, aI 8 (wPx W x1 x2 x3 x4).2.2.2.1])) : Cl G yX7_addPiece d 0 0 [.ref w, .int x1, .int x2, .int x3, .int x4] h Q := by
  refine c_addPiece hw nd hn ?_
  have e : nI W.2.2.2.2.2 + x4 = nI (W.2.2.2.2.2 + x4.toNatClampNeg) := by
    rw [← nI_add, nI_tn h4]
  rw [e]
  exact k
set_option maxRecDepth 100000 in
set_option maxHeartbeats 4000000 in
theorem c_readPiece {G : wG} {d : Nat} {h : hH} {Q : Option Value → hH → Prop} {q qt p w : Nat} {ft : Nat → Int32} {x : rD} {nm : Int32} {W : wP} (hw : hHas h [q, qt, w, w + 1, w + 2, w + 3, w + 4] [(oC 5 (rdF qt p x)), (aB 600 ft), (oC 7 (wvF w (nm, W))), (aI 8 W.1), (aI 8 W.2.1), (aI 8 W.2.2.1), (aI 8 W.2.2.2.1)]) (nd : [q, qt, w, w + 1, w + 2, w + 3, w + 4].Nodup) (hok : rOk x) (hn : W.2.2.2.2.1 ≤ 8) (k : Q (some (.int (rPc ft x W).1)) (hUs h [q, qt, w, w + 1, w + 2, w + 3, w + 4] [oC 5 (rdF qt p (rPc ft x W).2.1), aB 600 ft, oC 7 (wvF w (nm, (rPc ft x W).2.2)), aI 8 (rPc ft x W).2.2.1, aI 8 (rPc ft x W).2.2.2.1, aI 8 (rPc ft x W).2.2.2.2.1, aI 8 (rPc ft x W).2.2.2.2.2.1])) : Cl G yX5_readPiece (d + 9) 0 0 [.ref q, .ref w] h Q := by
  refine Cl.of (ini := false) kX5_readPiece (plainFor_of_name (by decide)) (by decide) (Nat.le_of_ble_eq_true rfl) rfl rfl (fun z => by cases z) ?_
  refine w_heq (hUs_id hw).symm ?_
  refine w_aload_n dX5_readPiece_0 rfl ?_
  refine w_ldcS (i := 6) rfl rfl rfl dX5_readPiece_1 ?_
  refine w_callV (ci := 5) (d' := d + 8) (mc' := 0) (ms' := 0) (As := [.ref (G.2.2.1 6)]) (st := []) lX5_46 vX5_isWord rfl (hUs_at nd 0 rfl rfl) rfl (Nat.le_of_ble_eq_true rfl) dX5_readPiece_3 (Nat.le_of_ble_eq_true rfl) (Nat.le_of_ble_eq_true rfl) (Nat.le_refl _) (c_isWord (i := 6) rfl (hHas_sub nd (as' := [q]) (cs' := [(oC 5 (rdF qt p x))]) [0] rfl rfl) ?_)
  refine w_if_eq (tgt := 13) dX5_readPiece_6 rfl (fun b6 => ?_) (fun b6 => ?_)
  · refine w_aload_n dX5_readPiece_13 rfl ?_
    refine w_ldcS (i := 7) rfl rfl rfl dX5_readPiece_14 ?_
    refine w_callV (ci := 5) (d' := d + 8) (mc' := 0) (ms' := 0) (As := [.ref (G.2.2.1 7)]) (st := []) lX5_46 vX5_isWord rfl (hUs_at nd 0 rfl rfl) rfl (Nat.le_of_ble_eq_true rfl) dX5_readPiece_16 (Nat.le_of_ble_eq_true rfl) (Nat.le_of_ble_eq_true rfl) (Nat.le_refl _) (c_isWord (i := 7) rfl (hHas_sub nd (as' := [q]) (cs' := [(oC 5 (rdF qt p x))]) [0] rfl rfl) ?_)
    refine w_if_eq (tgt := 26) dX5_readPiece_19 rfl (fun b19 => ?_) (fun b19 => ?_)
    · refine w_iconst (v := 2) dX5_readPiece_26 (by decide) ?_
      refine w_istore_n (ls2 := [some (.ref q), some (.ref w), some (.int 2), none, none]) dX5_readPiece_27 (by decide) rfl rfl ?_
      refine w_iload_n dX5_readPiece_28 rfl ?_
      refine w_iconst (v := 2) dX5_readPiece_29 (by decide) ?_
      refine w_icmp_ne_f (tgt := 48) dX5_readPiece_30 rfl (by decide) ?_
      refine w_aload_n dX5_readPiece_33 rfl ?_
      refine w_ldcS (i := 8) rfl rfl rfl dX5_readPiece_34 ?_
      refine w_callV (ci := 5) (d' := d + 8) (mc' := 0) (ms' := 0) (As := [.ref (G.2.2.1 8)]) (st := []) lX5_46 vX5_isWord rfl (hUs_at nd 0 rfl rfl) rfl (Nat.le_of_ble_eq_true rfl) dX5_readPiece_36 (Nat.le_of_ble_eq_true rfl) (Nat.le_of_ble_eq_true rfl) (Nat.le_refl _) (c_isWord (i := 8) rfl (hHas_sub nd (as' := [q]) (cs' := [(oC 5 (rdF qt p x))]) [0] rfl rfl) ?_)
      refine w_if_ne (tgt := 48) dX5_readPiece_39 rfl (fun b39 => ?_) (fun b39 => ?_)
      · refine w_aload_n dX5_readPiece_48 rfl ?_
        refine w_get (v := .int (nI W.2.2.2.2.1)) fX5_143 (hUs_at nd 2 rfl rfl) rfl dX5_readPiece_49 ?_
        refine w_bipush (v := 8) dX5_readPiece_52 (by decide) ?_
        refine w_icmp_lt (tgt := 63) dX5_readPiece_54 rfl (fun b54 => ?_) (fun b54 => ?_)
        · have b54 := (nI_ltI (a := W.2.2.2.2.1) (b := 8) (by omega) (by omega)).mp b54
          have z8 : W.2.2.2.2.1 < 8 := b54
          refine w_aload_n dX5_readPiece_63 rfl ?_
          refine w_callV (ci := 5) (d' := d + 8) (mc' := 0) (ms' := 0) (As := []) (st := []) lX5_41 vX5_step rfl (hUs_at nd 0 rfl rfl) rfl (Nat.le_of_ble_eq_true rfl) dX5_readPiece_64 (Nat.le_of_ble_eq_true rfl) (Nat.le_of_ble_eq_true rfl) (Nat.le_refl _) (c_step  (hHas_sub nd (as' := [q, qt]) (cs' := [(oC 5 (rdF qt p x)), (aB 600 ft)]) [0, 1] rfl rfl) (nd_sub nd (as' := [q, qt]) [0, 1] rfl rfl) hok ?_)
          refine w_heq (hUs_in nd rfl [0, 1] (cs2 := [(oC 5 (rdF qt p (rStp ft x))), (aB 600 ft), (oC 7 (wvF w (nm, W))), (aI 8 W.1), (aI 8 W.2.1), (aI 8 W.2.2.1), (aI 8 W.2.2.2.1)]) rfl rfl) ?_
          have k64 : rOk (rStp ft x) := rStp_ok _ hok
          generalize e64 : rStp ft x = t64 at k64 ⊢
          refine w_aload_n dX5_readPiece_67 rfl ?_
          refine w_sipush (v := (-1000)) dX5_readPiece_68 (by decide) ?_
          refine w_sipush (v := 1000) dX5_readPiece_71 (by decide) ?_
          refine w_callV (ci := 5) (d' := d + 8) (mc' := 0) (ms' := 0) (As := [.int (-1000), .int 1000]) (st := []) lX5_96 vX5_takeNumber rfl (hUs_at nd 0 rfl rfl) rfl (Nat.le_of_ble_eq_true rfl) dX5_readPiece_74 (Nat.le_of_ble_eq_true rfl) (Nat.le_of_ble_eq_true rfl) (Nat.le_refl _) (c_takeNumber  (hHas_sub nd (as' := [q, qt]) (cs' := [(oC 5 (rdF qt p t64)), (aB 600 ft)]) [0, 1] rfl rfl) (nd_sub nd (as' := [q, qt]) [0, 1] rfl rfl) k64 ?_)
          refine w_heq (hUs_in nd rfl [0, 1] (cs2 := [(oC 5 (rdF qt p (rTN ft (-1000) 1000 t64).2)), (aB 600 ft), (oC 7 (wvF w (nm, W))), (aI 8 W.1), (aI 8 W.2.1), (aI 8 W.2.2.1), (aI 8 W.2.2.2.1)]) rfl rfl) ?_
          have k74 : rOk (rTN ft (-1000) 1000 t64).2 := rTN_ok _ _ _ k64
          generalize e74 : rTN ft (-1000) 1000 t64 = t74 at k74 ⊢
          refine w_if_ne (tgt := 82) dX5_readPiece_77 rfl (fun b77 => ?_) (fun b77 => ?_)
          · refine w_aload_n dX5_readPiece_82 rfl ?_
            refine w_get (v := .int t74.2.2.2.2.2.2.1) fX5_77 (hUs_at nd 0 rfl rfl) rfl dX5_readPiece_83 ?_
            refine w_istore_n (ls2 := [some (.ref q), some (.ref w), some (.int 2), some (.int t74.2.2.2.2.2.2.1), none]) dX5_readPiece_86 (by decide) rfl rfl ?_
            refine w_iload_n dX5_readPiece_87 rfl ?_
            refine w_iconst (v := 1) dX5_readPiece_88 (by decide) ?_
            refine w_icmp_ne_t (tgt := 116) dX5_readPiece_89 rfl (by decide) ?_
            refine w_iload_n dX5_readPiece_116 rfl ?_
            refine w_iconst (v := 2) dX5_readPiece_117 (by decide) ?_
            refine w_icmp_ne_f (tgt := 142) dX5_readPiece_118 rfl (by decide) ?_
            refine w_aload_n dX5_readPiece_121 rfl ?_
            refine w_ldcS (i := 10) rfl rfl rfl dX5_readPiece_122 ?_
            refine w_callV (ci := 5) (d' := d + 8) (mc' := 0) (ms' := 0) (As := [.ref (G.2.2.1 10)]) (st := []) lX5_87 vX5_takeWord rfl (hUs_at nd 0 rfl rfl) rfl (Nat.le_of_ble_eq_true rfl) dX5_readPiece_124 (Nat.le_of_ble_eq_true rfl) (Nat.le_of_ble_eq_true rfl) (Nat.le_refl _) (c_takeWord (i := 10) rfl  (hHas_sub nd (as' := [q, qt]) (cs' := [(oC 5 (rdF qt p t74.2)), (aB 600 ft)]) [0, 1] rfl rfl) (nd_sub nd (as' := [q, qt]) [0, 1] rfl rfl) k74 ?_)
            refine w_heq (hUs_in nd rfl [0, 1] (cs2 := [(oC 5 (rdF qt p (rTW ft [101, 118, 101, 114, 121] 5 t74.2).2)), (aB 600 ft), (oC 7 (wvF w (nm, W))), (aI 8 W.1), (aI 8 W.2.1), (aI 8 W.2.2.1), (aI 8 W.2.2.2.1)]) rfl rfl) ?_
            have k124 : rOk (rTW ft [101, 118, 101, 114, 121] 5 t74.2).2 := rTW_ok _ _ _ k74
            generalize e124 : rTW ft [101, 118, 101, 114, 121] 5 t74.2 = t124 at k124 ⊢
            refine w_if_eq (tgt := 140) dX5_readPiece_127 rfl (fun b127 => ?_) (fun b127 => ?_)
            · refine w_iconst (v := 0) dX5_readPiece_140 (by decide) ?_
              refine w_zreturn rfl dX5_readPiece_141 rfl (Nat.le_of_ble_eq_true rfl) (Nat.le_of_ble_eq_true rfl) ?_
              have e : rPc ft x W = (0, t124.2, W) := by
                rw [rPc, if_pos b6, if_pos b19, if_neg b39, rPc1, if_pos z8, e64, e74, if_neg b77, rPc2, if_neg (by decide), if_pos rfl, e124, if_pos b127]
              rw [e] at k
              exact k
            · refine w_aload_n dX5_readPiece_130 rfl ?_
              refine w_iconst (v := 2) dX5_readPiece_131 (by decide) ?_
              refine w_bipush (v := 99) dX5_readPiece_132 (by decide) ?_
              refine w_callV (ci := 5) (d' := d + 8) (mc' := 0) (ms' := 0) (As := [.int 2, .int 99]) (st := []) lX5_96 vX5_takeNumber rfl (hUs_at nd 0 rfl rfl) rfl (Nat.le_of_ble_eq_true rfl) dX5_readPiece_134 (Nat.le_of_ble_eq_true rfl) (Nat.le_of_ble_eq_true rfl) (Nat.le_refl _) (c_takeNumber  (hHas_sub nd (as' := [q, qt]) (cs' := [(oC 5 (rdF qt p t124.2)), (aB 600 ft)]) [0, 1] rfl rfl) (nd_sub nd (as' := [q, qt]) [0, 1] rfl rfl) k124 ?_)
              refine w_heq (hUs_in nd rfl [0, 1] (cs2 := [(oC 5 (rdF qt p (rTN ft 2 99 t124.2).2)), (aB 600 ft), (oC 7 (wvF w (nm, W))), (aI 8 W.1), (aI 8 W.2.1), (aI 8 W.2.2.1), (aI 8 W.2.2.2.1)]) rfl rfl) ?_
              have k134 : rOk (rTN ft 2 99 t124.2).2 := rTN_ok _ _ _ k124
              generalize e134 : rTN ft 2 99 t124.2 = t134 at k134 ⊢
              refine w_if_ne (tgt := 142) dX5_readPiece_137 rfl (fun b137 => ?_) (fun b137 => ?_)
              · refine w_aload_n dX5_readPiece_142 rfl ?_
                refine w_get (v := .int t134.2.2.2.2.2.2.1) fX5_77 (hUs_at nd 0 rfl rfl) rfl dX5_readPiece_143 ?_
                refine w_istore (ls2 := [some (.ref q), some (.ref w), some (.int 2), some (.int t74.2.2.2.2.2.2.1), some (.int t134.2.2.2.2.2.2.1)]) dX5_readPiece_146 (by decide) rfl rfl ?_
                refine w_aload_n dX5_readPiece_148 rfl ?_
                refine w_ldcS (i := 11) rfl rfl rfl dX5_readPiece_149 ?_
                refine w_callV (ci := 5) (d' := d + 8) (mc' := 0) (ms' := 0) (As := [.ref (G.2.2.1 11)]) (st := []) lX5_87 vX5_takeWord rfl (hUs_at nd 0 rfl rfl) rfl (Nat.le_of_ble_eq_true rfl) dX5_readPiece_151 (Nat.le_of_ble_eq_true rfl) (Nat.le_of_ble_eq_true rfl) (Nat.le_refl _) (c_takeWord (i := 11) rfl  (hHas_sub nd (as' := [q, qt]) (cs' := [(oC 5 (rdF qt p t134.2)), (aB 600 ft)]) [0, 1] rfl rfl) (nd_sub nd (as' := [q, qt]) [0, 1] rfl rfl) k134 ?_)
                refine w_heq (hUs_in nd rfl [0, 1] (cs2 := [(oC 5 (rdF qt p (rTW ft [102, 111, 114] 3 t134.2).2)), (aB 600 ft), (oC 7 (wvF w (nm, W))), (aI 8 W.1), (aI 8 W.2.1), (aI 8 W.2.2.1), (aI 8 W.2.2.2.1)]) rfl rfl) ?_
                have k151 : rOk (rTW ft [102, 111, 114] 3 t134.2).2 := rTW_ok _ _ _ k134
                generalize e151 : rTW ft [102, 111, 114] 3 t134.2 = t151 at k151 ⊢
                refine w_if_eq (tgt := 168) dX5_readPiece_154 rfl (fun b154 => ?_) (fun b154 => ?_)
                · refine w_iconst (v := 0) dX5_readPiece_168 (by decide) ?_
                  refine w_zreturn rfl dX5_readPiece_169 rfl (Nat.le_of_ble_eq_true rfl) (Nat.le_of_ble_eq_true rfl) ?_
                  have e : rPc ft x W = (0, t151.2, W) := by
                    rw [rPc, if_pos b6, if_pos b19, if_neg b39, rPc1, if_pos z8, e64, e74, if_neg b77, rPc2, if_neg (by decide), if_pos rfl, e124, if_neg b127, rPcR, e134, if_neg b137, rPc3, e151, if_pos b154]
                  rw [e] at k
                  exact k
                · refine w_aload_n dX5_readPiece_157 rfl ?_
                  refine w_iconst (v := 1) dX5_readPiece_158 (by decide) ?_
                  refine w_sipush (v := 500) dX5_readPiece_159 (by decide) ?_
                  refine w_callV (ci := 5) (d' := d + 8) (mc' := 0) (ms' := 0) (As := [.int 1, .int 500]) (st := []) lX5_96 vX5_takeNumber rfl (hUs_at nd 0 rfl rfl) rfl (Nat.le_of_ble_eq_true rfl) dX5_readPiece_162 (Nat.le_of_ble_eq_true rfl) (Nat.le_of_ble_eq_true rfl) (Nat.le_refl _) (c_takeNumber  (hHas_sub nd (as' := [q, qt]) (cs' := [(oC 5 (rdF qt p t151.2)), (aB 600 ft)]) [0, 1] rfl rfl) (nd_sub nd (as' := [q, qt]) [0, 1] rfl rfl) k151 ?_)
                  refine w_heq (hUs_in nd rfl [0, 1] (cs2 := [(oC 5 (rdF qt p (rTN ft 1 500 t151.2).2)), (aB 600 ft), (oC 7 (wvF w (nm, W))), (aI 8 W.1), (aI 8 W.2.1), (aI 8 W.2.2.1), (aI 8 W.2.2.2.1)]) rfl rfl) ?_
                  have k162 : rOk (rTN ft 1 500 t151.2).2 := rTN_ok _ _ _ k151
                  generalize e162 : rTN ft 1 500 t151.2 = t162 at k162 ⊢
                  refine w_if_ne (tgt := 170) dX5_readPiece_165 rfl (fun b165 => ?_) (fun b165 => ?_)
                  · have hin := rTN_in ft 1 500 t151.2 (by rw [e162]; exact b165)
                    rw [e162] at hin
                    refine w_aload_n dX5_readPiece_170 rfl ?_
                    refine w_iload_n dX5_readPiece_171 rfl ?_
                    refine w_iload_n dX5_readPiece_172 rfl ?_
                    refine w_iload dX5_readPiece_173 rfl ?_
                    refine w_aload_n dX5_readPiece_175 rfl ?_
                    refine w_get (v := .int t162.2.2.2.2.2.2.1) fX5_77 (hUs_at nd 0 rfl rfl) rfl dX5_readPiece_176 ?_
                    refine w_callV (ci := 7) (d' := d + 8) (mc' := 0) (ms' := 0) (As := [.int 2, .int t74.2.2.2.2.2.2.1, .int t134.2.2.2.2.2.2.1, .int t162.2.2.2.2.2.2.1]) (st := []) lX5_152 vX7_addPiece rfl (hUs_at nd 2 rfl rfl) rfl (Nat.le_of_ble_eq_true rfl) dX5_readPiece_179 (Nat.le_of_ble_eq_true rfl) (Nat.le_of_ble_eq_true rfl) (Nat.le_refl _) (c_addPieceN (hHas_sub nd (as' := [w, w + 1, w + 2, w + 3, w + 4]) (cs' := [(oC 7 (wvF w (nm, W))), (aI 8 W.1), (aI 8 W.2.1), (aI 8 W.2.2.1), (aI 8 W.2.2.2.1)]) [2, 3, 4, 5, 6] rfl rfl) (nd_sub nd (as' := [w, w + 1, w + 2, w + 3, w + 4]) [2, 3, 4, 5, 6] rfl rfl) z8 (Int32.le_trans (by decide) hin.1) ?_)
                    refine w_heq (hUs_in nd rfl [2, 3, 4, 5, 6] (cs2 := [(oC 5 (rdF qt p t162.2)), (aB 600 ft), (oC 7 (wvF w (nm, (wPx W 2 t74.2.2.2.2.2.2.1 t134.2.2.2.2.2.2.1 t162.2.2.2.2.2.2.1)))), (aI 8 (wPx W 2 t74.2.2.2.2.2.2.1 t134.2.2.2.2.2.2.1 t162.2.2.2.2.2.2.1).1), (aI 8 (wPx W 2 t74.2.2.2.2.2.2.1 t134.2.2.2.2.2.2.1 t162.2.2.2.2.2.2.1).2.1), (aI 8 (wPx W 2 t74.2.2.2.2.2.2.1 t134.2.2.2.2.2.2.1 t162.2.2.2.2.2.2.1).2.2.1), (aI 8 (wPx W 2 t74.2.2.2.2.2.2.1 t134.2.2.2.2.2.2.1 t162.2.2.2.2.2.2.1).2.2.2.1)]) rfl rfl) ?_
                    refine w_iconst (v := 1) dX5_readPiece_182 (by decide) ?_
                    refine w_zreturn rfl dX5_readPiece_183 rfl (Nat.le_of_ble_eq_true rfl) (Nat.le_of_ble_eq_true rfl) ?_
                    have e : rPc ft x W = (1, t162.2, (wPx W 2 t74.2.2.2.2.2.2.1 t134.2.2.2.2.2.2.1 t162.2.2.2.2.2.2.1)) := by
                      rw [rPc, if_pos b6, if_pos b19, if_neg b39, rPc1, if_pos z8, e64, e74, if_neg b77, rPc2, if_neg (by decide), if_pos rfl, e124, if_neg b127, rPcR, e134, if_neg b137, rPc3, e151, if_neg b154, rPc4, e162, if_neg b165]
                    rw [e] at k
                    exact k
                  · refine w_iconst (v := 0) dX5_readPiece_168 (by decide) ?_
                    refine w_zreturn rfl dX5_readPiece_169 rfl (Nat.le_of_ble_eq_true rfl) (Nat.le_of_ble_eq_true rfl) ?_
                    have e : rPc ft x W = (0, t162.2, W) := by
                      rw [rPc, if_pos b6, if_pos b19, if_neg b39, rPc1, if_pos z8, e64, e74, if_neg b77, rPc2, if_neg (by decide), if_pos rfl, e124, if_neg b127, rPcR, e134, if_neg b137, rPc3, e151, if_neg b154, rPc4, e162, if_pos b165]
                    rw [e] at k
                    exact k
              · refine w_iconst (v := 0) dX5_readPiece_140 (by decide) ?_
                refine w_zreturn rfl dX5_readPiece_141 rfl (Nat.le_of_ble_eq_true rfl) (Nat.le_of_ble_eq_true rfl) ?_
                have e : rPc ft x W = (0, t134.2, W) := by
                  rw [rPc, if_pos b6, if_pos b19, if_neg b39, rPc1, if_pos z8, e64, e74, if_neg b77, rPc2, if_neg (by decide), if_pos rfl, e124, if_neg b127, rPcR, e134, if_pos b137]
                rw [e] at k
                exact k
          · refine w_iconst (v := 0) dX5_readPiece_80 (by decide) ?_
            refine w_zreturn rfl dX5_readPiece_81 rfl (Nat.le_of_ble_eq_true rfl) (Nat.le_of_ble_eq_true rfl) ?_
            have e : rPc ft x W = (0, t74.2, W) := by
              rw [rPc, if_pos b6, if_pos b19, if_neg b39, rPc1, if_pos z8, e64, e74, if_pos b77]
            rw [e] at k
            exact k
        · have b54 : ¬ W.2.2.2.2.1 < 8 := fun z => b54 ((nI_ltI (a := W.2.2.2.2.1) (b := 8) (by omega) (by omega)).mpr z)
          refine w_aload_n dX5_readPiece_57 rfl ?_
          refine w_iconst (v := 4) dX5_readPiece_58 (by decide) ?_
          refine w_callV (ci := 5) (d' := d + 8) (mc' := 0) (ms' := 0) (As := [.int 4]) (st := []) lX5_59 vX5_failed rfl (hUs_at nd 0 rfl rfl) rfl (Nat.le_of_ble_eq_true rfl) dX5_readPiece_59 (Nat.le_of_ble_eq_true rfl) (Nat.le_of_ble_eq_true rfl) (Nat.le_refl _) (c_failed (hHas_sub nd (as' := [q]) (cs' := [(oC 5 (rdF qt p x))]) [0] rfl rfl) (nd_sub nd (as' := [q]) [0] rfl rfl) ?_)
          refine w_heq (hUs_in nd rfl [0] (cs2 := [(oC 5 (rdF qt p (rFl x 4 (nI x.2.2.2.1)))), (aB 600 ft), (oC 7 (wvF w (nm, W))), (aI 8 W.1), (aI 8 W.2.1), (aI 8 W.2.2.1), (aI 8 W.2.2.2.1)]) rfl rfl) ?_
          refine w_zreturn rfl dX5_readPiece_62 rfl (Nat.le_of_ble_eq_true rfl) (Nat.le_of_ble_eq_true rfl) ?_
          have e : rPc ft x W = (0, rFl x 4 (nI x.2.2.2.1), W) := by
            rw [rPc, if_pos b6, if_pos b19, if_neg b39, rPc1, if_neg (by omega)]
          rw [e] at k
          exact k
      · refine w_aload_n dX5_readPiece_42 rfl ?_
        refine w_iconst (v := 1) dX5_readPiece_43 (by decide) ?_
        refine w_callV (ci := 5) (d' := d + 8) (mc' := 0) (ms' := 0) (As := [.int 1]) (st := []) lX5_59 vX5_failed rfl (hUs_at nd 0 rfl rfl) rfl (Nat.le_of_ble_eq_true rfl) dX5_readPiece_44 (Nat.le_of_ble_eq_true rfl) (Nat.le_of_ble_eq_true rfl) (Nat.le_refl _) (c_failed (hHas_sub nd (as' := [q]) (cs' := [(oC 5 (rdF qt p x))]) [0] rfl rfl) (nd_sub nd (as' := [q]) [0] rfl rfl) ?_)
        refine w_heq (hUs_in nd rfl [0] (cs2 := [(oC 5 (rdF qt p (rFl x 1 (nI x.2.2.2.1)))), (aB 600 ft), (oC 7 (wvF w (nm, W))), (aI 8 W.1), (aI 8 W.2.1), (aI 8 W.2.2.1), (aI 8 W.2.2.2.1)]) rfl rfl) ?_
        refine w_zreturn rfl dX5_readPiece_47 rfl (Nat.le_of_ble_eq_true rfl) (Nat.le_of_ble_eq_true rfl) ?_
        have e : rPc ft x W = (0, rFl x 1 (nI x.2.2.2.1), W) := by
          rw [rPc, if_pos b6, if_pos b19, if_pos b39]
        rw [e] at k
        exact k
    · refine w_iconst (v := 1) dX5_readPiece_22 (by decide) ?_
      refine w_goto (tgt := 27) dX5_readPiece_23 rfl ?_
      refine w_istore_n (ls2 := [some (.ref q), some (.ref w), some (.int 1), none, none]) dX5_readPiece_27 (by decide) rfl rfl ?_
      refine w_iload_n dX5_readPiece_28 rfl ?_
      refine w_iconst (v := 2) dX5_readPiece_29 (by decide) ?_
      refine w_icmp_ne_t (tgt := 48) dX5_readPiece_30 rfl (by decide) ?_
      refine w_aload_n dX5_readPiece_48 rfl ?_
      refine w_get (v := .int (nI W.2.2.2.2.1)) fX5_143 (hUs_at nd 2 rfl rfl) rfl dX5_readPiece_49 ?_
      refine w_bipush (v := 8) dX5_readPiece_52 (by decide) ?_
      refine w_icmp_lt (tgt := 63) dX5_readPiece_54 rfl (fun b54 => ?_) (fun b54 => ?_)
      · have b54 := (nI_ltI (a := W.2.2.2.2.1) (b := 8) (by omega) (by omega)).mp b54
        have z8 : W.2.2.2.2.1 < 8 := b54
        refine w_aload_n dX5_readPiece_63 rfl ?_
        refine w_callV (ci := 5) (d' := d + 8) (mc' := 0) (ms' := 0) (As := []) (st := []) lX5_41 vX5_step rfl (hUs_at nd 0 rfl rfl) rfl (Nat.le_of_ble_eq_true rfl) dX5_readPiece_64 (Nat.le_of_ble_eq_true rfl) (Nat.le_of_ble_eq_true rfl) (Nat.le_refl _) (c_step  (hHas_sub nd (as' := [q, qt]) (cs' := [(oC 5 (rdF qt p x)), (aB 600 ft)]) [0, 1] rfl rfl) (nd_sub nd (as' := [q, qt]) [0, 1] rfl rfl) hok ?_)
        refine w_heq (hUs_in nd rfl [0, 1] (cs2 := [(oC 5 (rdF qt p (rStp ft x))), (aB 600 ft), (oC 7 (wvF w (nm, W))), (aI 8 W.1), (aI 8 W.2.1), (aI 8 W.2.2.1), (aI 8 W.2.2.2.1)]) rfl rfl) ?_
        have k64 : rOk (rStp ft x) := rStp_ok _ hok
        generalize e64 : rStp ft x = t64 at k64 ⊢
        refine w_aload_n dX5_readPiece_67 rfl ?_
        refine w_sipush (v := (-1000)) dX5_readPiece_68 (by decide) ?_
        refine w_sipush (v := 1000) dX5_readPiece_71 (by decide) ?_
        refine w_callV (ci := 5) (d' := d + 8) (mc' := 0) (ms' := 0) (As := [.int (-1000), .int 1000]) (st := []) lX5_96 vX5_takeNumber rfl (hUs_at nd 0 rfl rfl) rfl (Nat.le_of_ble_eq_true rfl) dX5_readPiece_74 (Nat.le_of_ble_eq_true rfl) (Nat.le_of_ble_eq_true rfl) (Nat.le_refl _) (c_takeNumber  (hHas_sub nd (as' := [q, qt]) (cs' := [(oC 5 (rdF qt p t64)), (aB 600 ft)]) [0, 1] rfl rfl) (nd_sub nd (as' := [q, qt]) [0, 1] rfl rfl) k64 ?_)
        refine w_heq (hUs_in nd rfl [0, 1] (cs2 := [(oC 5 (rdF qt p (rTN ft (-1000) 1000 t64).2)), (aB 600 ft), (oC 7 (wvF w (nm, W))), (aI 8 W.1), (aI 8 W.2.1), (aI 8 W.2.2.1), (aI 8 W.2.2.2.1)]) rfl rfl) ?_
        have k74 : rOk (rTN ft (-1000) 1000 t64).2 := rTN_ok _ _ _ k64
        generalize e74 : rTN ft (-1000) 1000 t64 = t74 at k74 ⊢
        refine w_if_ne (tgt := 82) dX5_readPiece_77 rfl (fun b77 => ?_) (fun b77 => ?_)
        · refine w_aload_n dX5_readPiece_82 rfl ?_
          refine w_get (v := .int t74.2.2.2.2.2.2.1) fX5_77 (hUs_at nd 0 rfl rfl) rfl dX5_readPiece_83 ?_
          refine w_istore_n (ls2 := [some (.ref q), some (.ref w), some (.int 1), some (.int t74.2.2.2.2.2.2.1), none]) dX5_readPiece_86 (by decide) rfl rfl ?_
          refine w_iload_n dX5_readPiece_87 rfl ?_
          refine w_iconst (v := 1) dX5_readPiece_88 (by decide) ?_
          refine w_icmp_ne_f (tgt := 116) dX5_readPiece_89 rfl (by decide) ?_
          refine w_aload_n dX5_readPiece_92 rfl ?_
          refine w_ldcS (i := 9) rfl rfl rfl dX5_readPiece_93 ?_
          refine w_callV (ci := 5) (d' := d + 8) (mc' := 0) (ms' := 0) (As := [.ref (G.2.2.1 9)]) (st := []) lX5_87 vX5_takeWord rfl (hUs_at nd 0 rfl rfl) rfl (Nat.le_of_ble_eq_true rfl) dX5_readPiece_95 (Nat.le_of_ble_eq_true rfl) (Nat.le_of_ble_eq_true rfl) (Nat.le_refl _) (c_takeWord (i := 9) rfl  (hHas_sub nd (as' := [q, qt]) (cs' := [(oC 5 (rdF qt p t74.2)), (aB 600 ft)]) [0, 1] rfl rfl) (nd_sub nd (as' := [q, qt]) [0, 1] rfl rfl) k74 ?_)
          refine w_heq (hUs_in nd rfl [0, 1] (cs2 := [(oC 5 (rdF qt p (rTW ft [116, 111] 2 t74.2).2)), (aB 600 ft), (oC 7 (wvF w (nm, W))), (aI 8 W.1), (aI 8 W.2.1), (aI 8 W.2.2.1), (aI 8 W.2.2.2.1)]) rfl rfl) ?_
          have k95 : rOk (rTW ft [116, 111] 2 t74.2).2 := rTW_ok _ _ _ k74
          generalize e95 : rTW ft [116, 111] 2 t74.2 = t95 at k95 ⊢
          refine w_if_eq (tgt := 114) dX5_readPiece_98 rfl (fun b98 => ?_) (fun b98 => ?_)
          · refine w_iconst (v := 0) dX5_readPiece_114 (by decide) ?_
            refine w_zreturn rfl dX5_readPiece_115 rfl (Nat.le_of_ble_eq_true rfl) (Nat.le_of_ble_eq_true rfl) ?_
            have e : rPc ft x W = (0, t95.2, W) := by
              rw [rPc, if_pos b6, if_neg b19, rPc1, if_pos z8, e64, e74, if_neg b77, rPc2, if_pos rfl, e95, if_pos b98]
            rw [e] at k
            exact k
          · refine w_aload_n dX5_readPiece_101 rfl ?_
            refine w_sipush (v := (-1000)) dX5_readPiece_102 (by decide) ?_
            refine w_sipush (v := 1000) dX5_readPiece_105 (by decide) ?_
            refine w_callV (ci := 5) (d' := d + 8) (mc' := 0) (ms' := 0) (As := [.int (-1000), .int 1000]) (st := []) lX5_96 vX5_takeNumber rfl (hUs_at nd 0 rfl rfl) rfl (Nat.le_of_ble_eq_true rfl) dX5_readPiece_108 (Nat.le_of_ble_eq_true rfl) (Nat.le_of_ble_eq_true rfl) (Nat.le_refl _) (c_takeNumber  (hHas_sub nd (as' := [q, qt]) (cs' := [(oC 5 (rdF qt p t95.2)), (aB 600 ft)]) [0, 1] rfl rfl) (nd_sub nd (as' := [q, qt]) [0, 1] rfl rfl) k95 ?_)
            refine w_heq (hUs_in nd rfl [0, 1] (cs2 := [(oC 5 (rdF qt p (rTN ft (-1000) 1000 t95.2).2)), (aB 600 ft), (oC 7 (wvF w (nm, W))), (aI 8 W.1), (aI 8 W.2.1), (aI 8 W.2.2.1), (aI 8 W.2.2.2.1)]) rfl rfl) ?_
            have k108 : rOk (rTN ft (-1000) 1000 t95.2).2 := rTN_ok _ _ _ k95
            generalize e108 : rTN ft (-1000) 1000 t95.2 = t108 at k108 ⊢
            refine w_if_ne (tgt := 116) dX5_readPiece_111 rfl (fun b111 => ?_) (fun b111 => ?_)
            · refine w_iload_n dX5_readPiece_116 rfl ?_
              refine w_iconst (v := 2) dX5_readPiece_117 (by decide) ?_
              refine w_icmp_ne_t (tgt := 142) dX5_readPiece_118 rfl (by decide) ?_
              refine w_aload_n dX5_readPiece_142 rfl ?_
              refine w_get (v := .int t108.2.2.2.2.2.2.1) fX5_77 (hUs_at nd 0 rfl rfl) rfl dX5_readPiece_143 ?_
              refine w_istore (ls2 := [some (.ref q), some (.ref w), some (.int 1), some (.int t74.2.2.2.2.2.2.1), some (.int t108.2.2.2.2.2.2.1)]) dX5_readPiece_146 (by decide) rfl rfl ?_
              refine w_aload_n dX5_readPiece_148 rfl ?_
              refine w_ldcS (i := 11) rfl rfl rfl dX5_readPiece_149 ?_
              refine w_callV (ci := 5) (d' := d + 8) (mc' := 0) (ms' := 0) (As := [.ref (G.2.2.1 11)]) (st := []) lX5_87 vX5_takeWord rfl (hUs_at nd 0 rfl rfl) rfl (Nat.le_of_ble_eq_true rfl) dX5_readPiece_151 (Nat.le_of_ble_eq_true rfl) (Nat.le_of_ble_eq_true rfl) (Nat.le_refl _) (c_takeWord (i := 11) rfl  (hHas_sub nd (as' := [q, qt]) (cs' := [(oC 5 (rdF qt p t108.2)), (aB 600 ft)]) [0, 1] rfl rfl) (nd_sub nd (as' := [q, qt]) [0, 1] rfl rfl) k108 ?_)
              refine w_heq (hUs_in nd rfl [0, 1] (cs2 := [(oC 5 (rdF qt p (rTW ft [102, 111, 114] 3 t108.2).2)), (aB 600 ft), (oC 7 (wvF w (nm, W))), (aI 8 W.1), (aI 8 W.2.1), (aI 8 W.2.2.1), (aI 8 W.2.2.2.1)]) rfl rfl) ?_
              have k151 : rOk (rTW ft [102, 111, 114] 3 t108.2).2 := rTW_ok _ _ _ k108
              generalize e151 : rTW ft [102, 111, 114] 3 t108.2 = t151 at k151 ⊢
              refine w_if_eq (tgt := 168) dX5_readPiece_154 rfl (fun b154 => ?_) (fun b154 => ?_)
              · refine w_iconst (v := 0) dX5_readPiece_168 (by decide) ?_
                refine w_zreturn rfl dX5_readPiece_169 rfl (Nat.le_of_ble_eq_true rfl) (Nat.le_of_ble_eq_true rfl) ?_
                have e : rPc ft x W = (0, t151.2, W) := by
                  rw [rPc, if_pos b6, if_neg b19, rPc1, if_pos z8, e64, e74, if_neg b77, rPc2, if_pos rfl, e95, if_neg b98, rPcR, e108, if_neg b111, rPc3, e151, if_pos b154]
                rw [e] at k
                exact k
              · refine w_aload_n dX5_readPiece_157 rfl ?_
                refine w_iconst (v := 1) dX5_readPiece_158 (by decide) ?_
                refine w_sipush (v := 500) dX5_readPiece_159 (by decide) ?_
                refine w_callV (ci := 5) (d' := d + 8) (mc' := 0) (ms' := 0) (As := [.int 1, .int 500]) (st := []) lX5_96 vX5_takeNumber rfl (hUs_at nd 0 rfl rfl) rfl (Nat.le_of_ble_eq_true rfl) dX5_readPiece_162 (Nat.le_of_ble_eq_true rfl) (Nat.le_of_ble_eq_true rfl) (Nat.le_refl _) (c_takeNumber  (hHas_sub nd (as' := [q, qt]) (cs' := [(oC 5 (rdF qt p t151.2)), (aB 600 ft)]) [0, 1] rfl rfl) (nd_sub nd (as' := [q, qt]) [0, 1] rfl rfl) k151 ?_)
                refine w_heq (hUs_in nd rfl [0, 1] (cs2 := [(oC 5 (rdF qt p (rTN ft 1 500 t151.2).2)), (aB 600 ft), (oC 7 (wvF w (nm, W))), (aI 8 W.1), (aI 8 W.2.1), (aI 8 W.2.2.1), (aI 8 W.2.2.2.1)]) rfl rfl) ?_
                have k162 : rOk (rTN ft 1 500 t151.2).2 := rTN_ok _ _ _ k151
                generalize e162 : rTN ft 1 500 t151.2 = t162 at k162 ⊢
                refine w_if_ne (tgt := 170) dX5_readPiece_165 rfl (fun b165 => ?_) (fun b165 => ?_)
                · have hin := rTN_in ft 1 500 t151.2 (by rw [e162]; exact b165)
                  rw [e162] at hin
                  refine w_aload_n dX5_readPiece_170 rfl ?_
                  refine w_iload_n dX5_readPiece_171 rfl ?_
                  refine w_iload_n dX5_readPiece_172 rfl ?_
                  refine w_iload dX5_readPiece_173 rfl ?_
                  refine w_aload_n dX5_readPiece_175 rfl ?_
                  refine w_get (v := .int t162.2.2.2.2.2.2.1) fX5_77 (hUs_at nd 0 rfl rfl) rfl dX5_readPiece_176 ?_
                  refine w_callV (ci := 7) (d' := d + 8) (mc' := 0) (ms' := 0) (As := [.int 1, .int t74.2.2.2.2.2.2.1, .int t108.2.2.2.2.2.2.1, .int t162.2.2.2.2.2.2.1]) (st := []) lX5_152 vX7_addPiece rfl (hUs_at nd 2 rfl rfl) rfl (Nat.le_of_ble_eq_true rfl) dX5_readPiece_179 (Nat.le_of_ble_eq_true rfl) (Nat.le_of_ble_eq_true rfl) (Nat.le_refl _) (c_addPieceN (hHas_sub nd (as' := [w, w + 1, w + 2, w + 3, w + 4]) (cs' := [(oC 7 (wvF w (nm, W))), (aI 8 W.1), (aI 8 W.2.1), (aI 8 W.2.2.1), (aI 8 W.2.2.2.1)]) [2, 3, 4, 5, 6] rfl rfl) (nd_sub nd (as' := [w, w + 1, w + 2, w + 3, w + 4]) [2, 3, 4, 5, 6] rfl rfl) z8 (Int32.le_trans (by decide) hin.1) ?_)
                  refine w_heq (hUs_in nd rfl [2, 3, 4, 5, 6] (cs2 := [(oC 5 (rdF qt p t162.2)), (aB 600 ft), (oC 7 (wvF w (nm, (wPx W 1 t74.2.2.2.2.2.2.1 t108.2.2.2.2.2.2.1 t162.2.2.2.2.2.2.1)))), (aI 8 (wPx W 1 t74.2.2.2.2.2.2.1 t108.2.2.2.2.2.2.1 t162.2.2.2.2.2.2.1).1), (aI 8 (wPx W 1 t74.2.2.2.2.2.2.1 t108.2.2.2.2.2.2.1 t162.2.2.2.2.2.2.1).2.1), (aI 8 (wPx W 1 t74.2.2.2.2.2.2.1 t108.2.2.2.2.2.2.1 t162.2.2.2.2.2.2.1).2.2.1), (aI 8 (wPx W 1 t74.2.2.2.2.2.2.1 t108.2.2.2.2.2.2.1 t162.2.2.2.2.2.2.1).2.2.2.1)]) rfl rfl) ?_
                  refine w_iconst (v := 1) dX5_readPiece_182 (by decide) ?_
                  refine w_zreturn rfl dX5_readPiece_183 rfl (Nat.le_of_ble_eq_true rfl) (Nat.le_of_ble_eq_true rfl) ?_
                  have e : rPc ft x W = (1, t162.2, (wPx W 1 t74.2.2.2.2.2.2.1 t108.2.2.2.2.2.2.1 t162.2.2.2.2.2.2.1)) := by
                    rw [rPc, if_pos b6, if_neg b19, rPc1, if_pos z8, e64, e74, if_neg b77, rPc2, if_pos rfl, e95, if_neg b98, rPcR, e108, if_neg b111, rPc3, e151, if_neg b154, rPc4, e162, if_neg b165]
                  rw [e] at k
                  exact k
                · refine w_iconst (v := 0) dX5_readPiece_168 (by decide) ?_
                  refine w_zreturn rfl dX5_readPiece_169 rfl (Nat.le_of_ble_eq_true rfl) (Nat.le_of_ble_eq_true rfl) ?_
                  have e : rPc ft x W = (0, t162.2, W) := by
                    rw [rPc, if_pos b6, if_neg b19, rPc1, if_pos z8, e64, e74, if_neg b77, rPc2, if_pos rfl, e95, if_neg b98, rPcR, e108, if_neg b111, rPc3, e151, if_neg b154, rPc4, e162, if_pos b165]
                  rw [e] at k
                  exact k
            · refine w_iconst (v := 0) dX5_readPiece_114 (by decide) ?_
              refine w_zreturn rfl dX5_readPiece_115 rfl (Nat.le_of_ble_eq_true rfl) (Nat.le_of_ble_eq_true rfl) ?_
              have e : rPc ft x W = (0, t108.2, W) := by
                rw [rPc, if_pos b6, if_neg b19, rPc1, if_pos z8, e64, e74, if_neg b77, rPc2, if_pos rfl, e95, if_neg b98, rPcR, e108, if_pos b111]
              rw [e] at k
              exact k
        · refine w_iconst (v := 0) dX5_readPiece_80 (by decide) ?_
          refine w_zreturn rfl dX5_readPiece_81 rfl (Nat.le_of_ble_eq_true rfl) (Nat.le_of_ble_eq_true rfl) ?_
          have e : rPc ft x W = (0, t74.2, W) := by
            rw [rPc, if_pos b6, if_neg b19, rPc1, if_pos z8, e64, e74, if_pos b77]
          rw [e] at k
          exact k
      · have b54 : ¬ W.2.2.2.2.1 < 8 := fun z => b54 ((nI_ltI (a := W.2.2.2.2.1) (b := 8) (by omega) (by omega)).mpr z)
        refine w_aload_n dX5_readPiece_57 rfl ?_
        refine w_iconst (v := 4) dX5_readPiece_58 (by decide) ?_
        refine w_callV (ci := 5) (d' := d + 8) (mc' := 0) (ms' := 0) (As := [.int 4]) (st := []) lX5_59 vX5_failed rfl (hUs_at nd 0 rfl rfl) rfl (Nat.le_of_ble_eq_true rfl) dX5_readPiece_59 (Nat.le_of_ble_eq_true rfl) (Nat.le_of_ble_eq_true rfl) (Nat.le_refl _) (c_failed (hHas_sub nd (as' := [q]) (cs' := [(oC 5 (rdF qt p x))]) [0] rfl rfl) (nd_sub nd (as' := [q]) [0] rfl rfl) ?_)
        refine w_heq (hUs_in nd rfl [0] (cs2 := [(oC 5 (rdF qt p (rFl x 4 (nI x.2.2.2.1)))), (aB 600 ft), (oC 7 (wvF w (nm, W))), (aI 8 W.1), (aI 8 W.2.1), (aI 8 W.2.2.1), (aI 8 W.2.2.2.1)]) rfl rfl) ?_
        refine w_zreturn rfl dX5_readPiece_62 rfl (Nat.le_of_ble_eq_true rfl) (Nat.le_of_ble_eq_true rfl) ?_
        have e : rPc ft x W = (0, rFl x 4 (nI x.2.2.2.1), W) := by
          rw [rPc, if_pos b6, if_neg b19, rPc1, if_neg (by omega)]
        rw [e] at k
        exact k
  · refine w_iconst (v := 0) dX5_readPiece_9 (by decide) ?_
    refine w_goto (tgt := 27) dX5_readPiece_10 rfl ?_
    refine w_istore_n (ls2 := [some (.ref q), some (.ref w), some (.int 0), none, none]) dX5_readPiece_27 (by decide) rfl rfl ?_
    refine w_iload_n dX5_readPiece_28 rfl ?_
    refine w_iconst (v := 2) dX5_readPiece_29 (by decide) ?_
    refine w_icmp_ne_t (tgt := 48) dX5_readPiece_30 rfl (by decide) ?_
    refine w_aload_n dX5_readPiece_48 rfl ?_
    refine w_get (v := .int (nI W.2.2.2.2.1)) fX5_143 (hUs_at nd 2 rfl rfl) rfl dX5_readPiece_49 ?_
    refine w_bipush (v := 8) dX5_readPiece_52 (by decide) ?_
    refine w_icmp_lt (tgt := 63) dX5_readPiece_54 rfl (fun b54 => ?_) (fun b54 => ?_)
    · have b54 := (nI_ltI (a := W.2.2.2.2.1) (b := 8) (by omega) (by omega)).mp b54
      have z8 : W.2.2.2.2.1 < 8 := b54
      refine w_aload_n dX5_readPiece_63 rfl ?_
      refine w_callV (ci := 5) (d' := d + 8) (mc' := 0) (ms' := 0) (As := []) (st := []) lX5_41 vX5_step rfl (hUs_at nd 0 rfl rfl) rfl (Nat.le_of_ble_eq_true rfl) dX5_readPiece_64 (Nat.le_of_ble_eq_true rfl) (Nat.le_of_ble_eq_true rfl) (Nat.le_refl _) (c_step  (hHas_sub nd (as' := [q, qt]) (cs' := [(oC 5 (rdF qt p x)), (aB 600 ft)]) [0, 1] rfl rfl) (nd_sub nd (as' := [q, qt]) [0, 1] rfl rfl) hok ?_)
      refine w_heq (hUs_in nd rfl [0, 1] (cs2 := [(oC 5 (rdF qt p (rStp ft x))), (aB 600 ft), (oC 7 (wvF w (nm, W))), (aI 8 W.1), (aI 8 W.2.1), (aI 8 W.2.2.1), (aI 8 W.2.2.2.1)]) rfl rfl) ?_
      have k64 : rOk (rStp ft x) := rStp_ok _ hok
      generalize e64 : rStp ft x = t64 at k64 ⊢
      refine w_aload_n dX5_readPiece_67 rfl ?_
      refine w_sipush (v := (-1000)) dX5_readPiece_68 (by decide) ?_
      refine w_sipush (v := 1000) dX5_readPiece_71 (by decide) ?_
      refine w_callV (ci := 5) (d' := d + 8) (mc' := 0) (ms' := 0) (As := [.int (-1000), .int 1000]) (st := []) lX5_96 vX5_takeNumber rfl (hUs_at nd 0 rfl rfl) rfl (Nat.le_of_ble_eq_true rfl) dX5_readPiece_74 (Nat.le_of_ble_eq_true rfl) (Nat.le_of_ble_eq_true rfl) (Nat.le_refl _) (c_takeNumber  (hHas_sub nd (as' := [q, qt]) (cs' := [(oC 5 (rdF qt p t64)), (aB 600 ft)]) [0, 1] rfl rfl) (nd_sub nd (as' := [q, qt]) [0, 1] rfl rfl) k64 ?_)
      refine w_heq (hUs_in nd rfl [0, 1] (cs2 := [(oC 5 (rdF qt p (rTN ft (-1000) 1000 t64).2)), (aB 600 ft), (oC 7 (wvF w (nm, W))), (aI 8 W.1), (aI 8 W.2.1), (aI 8 W.2.2.1), (aI 8 W.2.2.2.1)]) rfl rfl) ?_
      have k74 : rOk (rTN ft (-1000) 1000 t64).2 := rTN_ok _ _ _ k64
      generalize e74 : rTN ft (-1000) 1000 t64 = t74 at k74 ⊢
      refine w_if_ne (tgt := 82) dX5_readPiece_77 rfl (fun b77 => ?_) (fun b77 => ?_)
      · refine w_aload_n dX5_readPiece_82 rfl ?_
        refine w_get (v := .int t74.2.2.2.2.2.2.1) fX5_77 (hUs_at nd 0 rfl rfl) rfl dX5_readPiece_83 ?_
        refine w_istore_n (ls2 := [some (.ref q), some (.ref w), some (.int 0), some (.int t74.2.2.2.2.2.2.1), none]) dX5_readPiece_86 (by decide) rfl rfl ?_
        refine w_iload_n dX5_readPiece_87 rfl ?_
        refine w_iconst (v := 1) dX5_readPiece_88 (by decide) ?_
        refine w_icmp_ne_t (tgt := 116) dX5_readPiece_89 rfl (by decide) ?_
        refine w_iload_n dX5_readPiece_116 rfl ?_
        refine w_iconst (v := 2) dX5_readPiece_117 (by decide) ?_
        refine w_icmp_ne_t (tgt := 142) dX5_readPiece_118 rfl (by decide) ?_
        refine w_aload_n dX5_readPiece_142 rfl ?_
        refine w_get (v := .int t74.2.2.2.2.2.2.1) fX5_77 (hUs_at nd 0 rfl rfl) rfl dX5_readPiece_143 ?_
        refine w_istore (ls2 := [some (.ref q), some (.ref w), some (.int 0), some (.int t74.2.2.2.2.2.2.1), some (.int t74.2.2.2.2.2.2.1)]) dX5_readPiece_146 (by decide) rfl rfl ?_
        refine w_aload_n dX5_readPiece_148 rfl ?_
        refine w_ldcS (i := 11) rfl rfl rfl dX5_readPiece_149 ?_
        refine w_callV (ci := 5) (d' := d + 8) (mc' := 0) (ms' := 0) (As := [.ref (G.2.2.1 11)]) (st := []) lX5_87 vX5_takeWord rfl (hUs_at nd 0 rfl rfl) rfl (Nat.le_of_ble_eq_true rfl) dX5_readPiece_151 (Nat.le_of_ble_eq_true rfl) (Nat.le_of_ble_eq_true rfl) (Nat.le_refl _) (c_takeWord (i := 11) rfl  (hHas_sub nd (as' := [q, qt]) (cs' := [(oC 5 (rdF qt p t74.2)), (aB 600 ft)]) [0, 1] rfl rfl) (nd_sub nd (as' := [q, qt]) [0, 1] rfl rfl) k74 ?_)
        refine w_heq (hUs_in nd rfl [0, 1] (cs2 := [(oC 5 (rdF qt p (rTW ft [102, 111, 114] 3 t74.2).2)), (aB 600 ft), (oC 7 (wvF w (nm, W))), (aI 8 W.1), (aI 8 W.2.1), (aI 8 W.2.2.1), (aI 8 W.2.2.2.1)]) rfl rfl) ?_
        have k151 : rOk (rTW ft [102, 111, 114] 3 t74.2).2 := rTW_ok _ _ _ k74
        generalize e151 : rTW ft [102, 111, 114] 3 t74.2 = t151 at k151 ⊢
        refine w_if_eq (tgt := 168) dX5_readPiece_154 rfl (fun b154 => ?_) (fun b154 => ?_)
        · refine w_iconst (v := 0) dX5_readPiece_168 (by decide) ?_
          refine w_zreturn rfl dX5_readPiece_169 rfl (Nat.le_of_ble_eq_true rfl) (Nat.le_of_ble_eq_true rfl) ?_
          have e : rPc ft x W = (0, t151.2, W) := by
            rw [rPc, if_neg b6, rPc1, if_pos z8, e64, e74, if_neg b77, rPc2, if_neg (by decide), if_neg (by decide), rPc3, e151, if_pos b154]
          rw [e] at k
          exact k
        · refine w_aload_n dX5_readPiece_157 rfl ?_
          refine w_iconst (v := 1) dX5_readPiece_158 (by decide) ?_
          refine w_sipush (v := 500) dX5_readPiece_159 (by decide) ?_
          refine w_callV (ci := 5) (d' := d + 8) (mc' := 0) (ms' := 0) (As := [.int 1, .int 500]) (st := []) lX5_96 vX5_takeNumber rfl (hUs_at nd 0 rfl rfl) rfl (Nat.le_of_ble_eq_true rfl) dX5_readPiece_162 (Nat.le_of_ble_eq_true rfl) (Nat.le_of_ble_eq_true rfl) (Nat.le_refl _) (c_takeNumber  (hHas_sub nd (as' := [q, qt]) (cs' := [(oC 5 (rdF qt p t151.2)), (aB 600 ft)]) [0, 1] rfl rfl) (nd_sub nd (as' := [q, qt]) [0, 1] rfl rfl) k151 ?_)
          refine w_heq (hUs_in nd rfl [0, 1] (cs2 := [(oC 5 (rdF qt p (rTN ft 1 500 t151.2).2)), (aB 600 ft), (oC 7 (wvF w (nm, W))), (aI 8 W.1), (aI 8 W.2.1), (aI 8 W.2.2.1), (aI 8 W.2.2.2.1)]) rfl rfl) ?_
          have k162 : rOk (rTN ft 1 500 t151.2).2 := rTN_ok _ _ _ k151
          generalize e162 : rTN ft 1 500 t151.2 = t162 at k162 ⊢
          refine w_if_ne (tgt := 170) dX5_readPiece_165 rfl (fun b165 => ?_) (fun b165 => ?_)
          · have hin := rTN_in ft 1 500 t151.2 (by rw [e162]; exact b165)
            rw [e162] at hin
            refine w_aload_n dX5_readPiece_170 rfl ?_
            refine w_iload_n dX5_readPiece_171 rfl ?_
            refine w_iload_n dX5_readPiece_172 rfl ?_
            refine w_iload dX5_readPiece_173 rfl ?_
            refine w_aload_n dX5_readPiece_175 rfl ?_
            refine w_get (v := .int t162.2.2.2.2.2.2.1) fX5_77 (hUs_at nd 0 rfl rfl) rfl dX5_readPiece_176 ?_
            refine w_callV (ci := 7) (d' := d + 8) (mc' := 0) (ms' := 0) (As := [.int 0, .int t74.2.2.2.2.2.2.1, .int t74.2.2.2.2.2.2.1, .int t162.2.2.2.2.2.2.1]) (st := []) lX5_152 vX7_addPiece rfl (hUs_at nd 2 rfl rfl) rfl (Nat.le_of_ble_eq_true rfl) dX5_readPiece_179 (Nat.le_of_ble_eq_true rfl) (Nat.le_of_ble_eq_true rfl) (Nat.le_refl _) (c_addPieceN (hHas_sub nd (as' := [w, w + 1, w + 2, w + 3, w + 4]) (cs' := [(oC 7 (wvF w (nm, W))), (aI 8 W.1), (aI 8 W.2.1), (aI 8 W.2.2.1), (aI 8 W.2.2.2.1)]) [2, 3, 4, 5, 6] rfl rfl) (nd_sub nd (as' := [w, w + 1, w + 2, w + 3, w + 4]) [2, 3, 4, 5, 6] rfl rfl) z8 (Int32.le_trans (by decide) hin.1) ?_)
            refine w_heq (hUs_in nd rfl [2, 3, 4, 5, 6] (cs2 := [(oC 5 (rdF qt p t162.2)), (aB 600 ft), (oC 7 (wvF w (nm, (wPx W 0 t74.2.2.2.2.2.2.1 t74.2.2.2.2.2.2.1 t162.2.2.2.2.2.2.1)))), (aI 8 (wPx W 0 t74.2.2.2.2.2.2.1 t74.2.2.2.2.2.2.1 t162.2.2.2.2.2.2.1).1), (aI 8 (wPx W 0 t74.2.2.2.2.2.2.1 t74.2.2.2.2.2.2.1 t162.2.2.2.2.2.2.1).2.1), (aI 8 (wPx W 0 t74.2.2.2.2.2.2.1 t74.2.2.2.2.2.2.1 t162.2.2.2.2.2.2.1).2.2.1), (aI 8 (wPx W 0 t74.2.2.2.2.2.2.1 t74.2.2.2.2.2.2.1 t162.2.2.2.2.2.2.1).2.2.2.1)]) rfl rfl) ?_
            refine w_iconst (v := 1) dX5_readPiece_182 (by decide) ?_
            refine w_zreturn rfl dX5_readPiece_183 rfl (Nat.le_of_ble_eq_true rfl) (Nat.le_of_ble_eq_true rfl) ?_
            have e : rPc ft x W = (1, t162.2, (wPx W 0 t74.2.2.2.2.2.2.1 t74.2.2.2.2.2.2.1 t162.2.2.2.2.2.2.1)) := by
              rw [rPc, if_neg b6, rPc1, if_pos z8, e64, e74, if_neg b77, rPc2, if_neg (by decide), if_neg (by decide), rPc3, e151, if_neg b154, rPc4, e162, if_neg b165]
            rw [e] at k
            exact k
          · refine w_iconst (v := 0) dX5_readPiece_168 (by decide) ?_
            refine w_zreturn rfl dX5_readPiece_169 rfl (Nat.le_of_ble_eq_true rfl) (Nat.le_of_ble_eq_true rfl) ?_
            have e : rPc ft x W = (0, t162.2, W) := by
              rw [rPc, if_neg b6, rPc1, if_pos z8, e64, e74, if_neg b77, rPc2, if_neg (by decide), if_neg (by decide), rPc3, e151, if_neg b154, rPc4, e162, if_pos b165]
            rw [e] at k
            exact k
      · refine w_iconst (v := 0) dX5_readPiece_80 (by decide) ?_
        refine w_zreturn rfl dX5_readPiece_81 rfl (Nat.le_of_ble_eq_true rfl) (Nat.le_of_ble_eq_true rfl) ?_
        have e : rPc ft x W = (0, t74.2, W) := by
          rw [rPc, if_neg b6, rPc1, if_pos z8, e64, e74, if_pos b77]
        rw [e] at k
        exact k
    · have b54 : ¬ W.2.2.2.2.1 < 8 := fun z => b54 ((nI_ltI (a := W.2.2.2.2.1) (b := 8) (by omega) (by omega)).mpr z)
      refine w_aload_n dX5_readPiece_57 rfl ?_
      refine w_iconst (v := 4) dX5_readPiece_58 (by decide) ?_
      refine w_callV (ci := 5) (d' := d + 8) (mc' := 0) (ms' := 0) (As := [.int 4]) (st := []) lX5_59 vX5_failed rfl (hUs_at nd 0 rfl rfl) rfl (Nat.le_of_ble_eq_true rfl) dX5_readPiece_59 (Nat.le_of_ble_eq_true rfl) (Nat.le_of_ble_eq_true rfl) (Nat.le_refl _) (c_failed (hHas_sub nd (as' := [q]) (cs' := [(oC 5 (rdF qt p x))]) [0] rfl rfl) (nd_sub nd (as' := [q]) [0] rfl rfl) ?_)
      refine w_heq (hUs_in nd rfl [0] (cs2 := [(oC 5 (rdF qt p (rFl x 4 (nI x.2.2.2.1)))), (aB 600 ft), (oC 7 (wvF w (nm, W))), (aI 8 W.1), (aI 8 W.2.1), (aI 8 W.2.2.1), (aI 8 W.2.2.2.1)]) rfl rfl) ?_
      refine w_zreturn rfl dX5_readPiece_62 rfl (Nat.le_of_ble_eq_true rfl) (Nat.le_of_ble_eq_true rfl) ?_
      have e : rPc ft x W = (0, rFl x 4 (nI x.2.2.2.1), W) := by
        rw [rPc, if_neg b6, rPc1, if_neg (by omega)]
      rw [e] at k
      exact k
set_option maxRecDepth 100000 in
set_option maxHeartbeats 4000000 in
theorem l_readWave {G : wG} {d : Nat} {h : hH} {Q : Option Value → hH → Prop} {q qt p w nl nw : Nat} {ft : Nat → Int32} {nm : Int32} (nd : [q, qt, p, p + 10, w, w + 1, w + 2, w + 3, w + 4].Nodup)  : ∀ (n : Nat) (mo : Int32) (x : rD) (W : wP) (i : Nat), i + n = 9 → (mo = 0 ∨ mo = 1) → rOk x → W.2.2.2.2.1 ≤ 8 → Q (some (.int (rWvL ft n mo x W).1)) (hUs h [q, qt, p, p + 10, w, w + 1, w + 2, w + 3, w + 4] [oC 5 (rdF qt p (rWvL ft n mo x W).2.1), aB 600 ft, (oC 4 [.ref (p + 1), .ref (p + 10), .int (nI nl), .int (nI nw)]), (aR RX7 4 (plW p)), oC 7 (wvF w (nm, (rWvL ft n mo x W).2.2)), aI 8 (rWvL ft n mo x W).2.2.1, aI 8 (rWvL ft n mo x W).2.2.2.1, aI 8 (rWvL ft n mo x W).2.2.2.2.1, aI 8 (rWvL ft n mo x W).2.2.2.2.2.1]) → WP G RX5 cX5_readWave 4 (some .boolean) false (d + 10) 0 0 0 0 Q 47 [some (.ref q), some (.ref w), some (.int mo), some (.int (nI i))] [] (hUs h [q, qt, p, p + 10, w, w + 1, w + 2, w + 3, w + 4] [(oC 5 (rdF qt p x)), (aB 600 ft), (oC 4 [.ref (p + 1), .ref (p + 10), .int (nI nl), .int (nI nw)]), (aR RX7 4 (plW p)), (oC 7 (wvF w (nm, W))), (aI 8 W.1), (aI 8 W.2.1), (aI 8 W.2.2.1), (aI 8 W.2.2.2.1)]) := by
  intro n
  induction n with
  | zero =>
    intro mo x W i hi hm hok hn k
    refine w_iload_n dX5_readWave_47 rfl ?_
    refine w_bipush (v := 8) dX5_readWave_48 (by decide) ?_
    refine w_icmp_gt_t (tgt := 82) dX5_readWave_50 rfl ((nI_ltI (a := 8) (b := i) (by omega) (by omega)).mpr (by omega)) ?_
    refine w_iload_n dX5_readWave_82 rfl ?_
    refine w_zreturn rfl dX5_readWave_83 (bo_n hm) (Nat.le_of_ble_eq_true rfl) (Nat.le_of_ble_eq_true rfl) ?_
    exact k
  | succ n ih =>
    intro mo x W i hi hm hok hn k
    refine w_iload_n dX5_readWave_47 rfl ?_
    refine w_bipush (v := 8) dX5_readWave_48 (by decide) ?_
    refine w_icmp_gt_f (tgt := 82) dX5_readWave_50 rfl (fun z => absurd ((nI_ltI (a := 8) (b := i) (by omega) (by omega)).mp z) (by omega)) ?_
    refine w_iload_n dX5_readWave_53 rfl ?_
    refine w_if_eq (tgt := 82) dX5_readWave_54 rfl (fun b54 => ?_) (fun b54 => ?_)
    · refine w_iload_n dX5_readWave_82 rfl ?_
      refine w_zreturn rfl dX5_readWave_83 (bo_n hm) (Nat.le_of_ble_eq_true rfl) (Nat.le_of_ble_eq_true rfl) ?_
      rw [rWvL, if_pos b54] at k
      exact k
    · refine w_aload_n dX5_readWave_57 rfl ?_
      refine w_bipush (v := 44) dX5_readWave_58 (by decide) ?_
      refine w_callV (ci := 5) (d' := d + 9) (mc' := 0) (ms' := 0) (As := [.int 44]) (st := []) lX5_134 vX5_isMark rfl (hUs_at nd 0 rfl rfl) rfl (Nat.le_of_ble_eq_true rfl) dX5_readWave_60 (Nat.le_of_ble_eq_true rfl) (Nat.le_of_ble_eq_true rfl) (Nat.le_refl _) (c_isMark (hHas_sub nd (as' := [q]) (cs' := [(oC 5 (rdF qt p x))]) [0] rfl rfl)  ?_)
      refine w_if_eq (tgt := 82) dX5_readWave_63 rfl (fun b63 => ?_) (fun b63 => ?_)
      · refine w_iload_n dX5_readWave_82 rfl ?_
        refine w_zreturn rfl dX5_readWave_83 (bo_n hm) (Nat.le_of_ble_eq_true rfl) (Nat.le_of_ble_eq_true rfl) ?_
        rw [rWvL, if_neg b54, if_pos b63] at k
        exact k
      · refine w_aload_n dX5_readWave_66 rfl ?_
        refine w_callV (ci := 5) (d' := d + 9) (mc' := 0) (ms' := 0) (As := []) (st := []) lX5_41 vX5_step rfl (hUs_at nd 0 rfl rfl) rfl (Nat.le_of_ble_eq_true rfl) dX5_readWave_67 (Nat.le_of_ble_eq_true rfl) (Nat.le_of_ble_eq_true rfl) (Nat.le_refl _) (c_step  (hHas_sub nd (as' := [q, qt]) (cs' := [(oC 5 (rdF qt p x)), (aB 600 ft)]) [0, 1] rfl rfl) (nd_sub nd (as' := [q, qt]) [0, 1] rfl rfl) hok ?_)
        refine w_heq (hUs_in nd rfl [0, 1] (cs2 := [(oC 5 (rdF qt p (rStp ft x))), (aB 600 ft), (oC 4 [.ref (p + 1), .ref (p + 10), .int (nI nl), .int (nI nw)]), (aR RX7 4 (plW p)), (oC 7 (wvF w (nm, W))), (aI 8 W.1), (aI 8 W.2.1), (aI 8 W.2.2.1), (aI 8 W.2.2.2.1)]) rfl rfl) ?_
        have k67 : rOk (rStp ft x) := rStp_ok _ hok
        generalize e67 : rStp ft x = t67 at k67 ⊢
        refine w_aload_n dX5_readWave_70 rfl ?_
        refine w_aload_n dX5_readWave_71 rfl ?_
        refine w_callV (ci := 5) (d' := d + 9) (mc' := 0) (ms' := 0) (As := [.ref w]) (st := []) lX5_130 vX5_readPiece rfl (hUs_at nd 0 rfl rfl) rfl (Nat.le_of_ble_eq_true rfl) dX5_readWave_72 (Nat.le_of_ble_eq_true rfl) (Nat.le_of_ble_eq_true rfl) (Nat.le_refl _) (c_readPiece (hHas_sub nd (as' := [q, qt, w, w + 1, w + 2, w + 3, w + 4]) (cs' := [(oC 5 (rdF qt p t67)), (aB 600 ft), (oC 7 (wvF w (nm, W))), (aI 8 W.1), (aI 8 W.2.1), (aI 8 W.2.2.1), (aI 8 W.2.2.2.1)]) [0, 1, 4, 5, 6, 7, 8] rfl rfl) (nd_sub nd (as' := [q, qt, w, w + 1, w + 2, w + 3, w + 4]) [0, 1, 4, 5, 6, 7, 8] rfl rfl) k67 hn ?_)
        refine w_heq (hUs_in nd rfl [0, 1, 4, 5, 6, 7, 8] (cs2 := [(oC 5 (rdF qt p (rPc ft t67 W).2.1)), (aB 600 ft), (oC 4 [.ref (p + 1), .ref (p + 10), .int (nI nl), .int (nI nw)]), (aR RX7 4 (plW p)), (oC 7 (wvF w (nm, (rPc ft t67 W).2.2))), (aI 8 (rPc ft t67 W).2.2.1), (aI 8 (rPc ft t67 W).2.2.2.1), (aI 8 (rPc ft t67 W).2.2.2.2.1), (aI 8 (rPc ft t67 W).2.2.2.2.2.1)]) rfl rfl) ?_
        have k72 := rPc_k ft (W := W) k67 hn
        generalize e72 : rPc ft t67 W = t72 at k72 ⊢
        refine w_istore_n (ls2 := [some (.ref q), some (.ref w), some (.int t72.1), some (.int (nI i))]) dX5_readWave_75 (by decide) rfl rfl ?_
        refine w_iinc (v := nI (i + 1)) (ls2 := [some (.ref q), some (.ref w), some (.int t72.1), some (.int (nI (i + 1)))]) dX5_readWave_76 rfl (nI_1 _) (by decide) rfl rfl ?_
        refine w_goto (tgt := 47) dX5_readWave_79 rfl ?_
        rw [rWvL, if_neg b54, if_neg b63, e67, e72] at k
        exact ih _ _ _ (i + 1) (by omega) k72.2.1 k72.1 k72.2.2.1 k
set_option maxRecDepth 100000 in
set_option maxHeartbeats 4000000 in
theorem c_readWave_s {G : wG} {d : Nat} {h : hH} {Q : Option Value → hH → Prop} {q qt p : Nat} {x : rD} {ft : Nat → Int32} {P : pD} {w : Nat} (hb : rB h q qt p ft x P) (hok : rOk x) (hn : P.2.1 < 4) (hl : w = p + 11 + 5 * P.2.1) (k : ∀ h2, rB h2 q qt p ft (rWv ft x P).2.1 (rWv ft x P).2.2 → rFr q p h h2 → Q (some (.int (rWv ft x P).1)) h2) : Cl G yX5_readWave (d + 10) 0 0 [.ref q] h Q := by
  have nd := ndW hb.2.2.2 hn hl
  have hw : hHas h [q, qt, p, p + 10, w, w + 1, w + 2, w + 3, w + 4] [(oC 5 (rdF qt p x)), (aB 600 ft), (oC 4 [.ref (p + 1), .ref (p + 10), .int (nI P.1), .int (nI P.2.1)]), (aR RX7 4 (plW p)), (oC 7 (wvF w ((P.2.2.2 P.2.1).1, (P.2.2.2 P.2.1).2))), (aI 8 (P.2.2.2 P.2.1).2.1), (aI 8 (P.2.2.2 P.2.1).2.2.1), (aI 8 (P.2.2.2 P.2.1).2.2.2.1), (aI 8 (P.2.2.2 P.2.1).2.2.2.2.1)] := hHas_cons hb.1 (hHas_cons hb.2.1 (hHas_cons hb.2.2.1.2.1 (hHas_cons hb.2.2.1.2.2.2.1 (hl ▸ hb.2.2.1.2.2.2.2.2 P.2.1 hn))))
  refine Cl.of (ini := false) kX5_readWave (plainFor_of_name (by decide)) (by decide) (Nat.le_of_ble_eq_true rfl) rfl rfl (fun z => by cases z) ?_
  refine w_heq (hUs_id hw).symm ?_
  refine w_aload_n dX5_readWave_0 rfl ?_
  refine w_get (v := .ref p) fX5_18 (hUs_at nd 0 rfl rfl) rfl dX5_readWave_1 ?_
  refine w_callV (ci := 4) (d' := d + 9) (mc' := 0) (ms' := 0) (As := []) (st := []) lX5_123 vX4_addWave rfl (hUs_at nd 2 rfl rfl) rfl (Nat.le_of_ble_eq_true rfl) dX5_readWave_4 (Nat.le_of_ble_eq_true rfl) (Nat.le_of_ble_eq_true rfl) (Nat.le_refl _) (c_addWave_s (n := (P.2.2.2 P.2.1).2.2.2.2.2.1) (hHas_sub nd (as' := [p, p + 10, w]) (cs' := [(oC 4 [.ref (p + 1), .ref (p + 10), .int (nI P.1), .int (nI P.2.1)]), (aR RX7 4 (plW p)), (oC 7 (wvF w ((P.2.2.2 P.2.1).1, (P.2.2.2 P.2.1).2)))]) [2, 3, 4] rfl rfl) (nd_sub nd (as' := [p, p + 10, w]) [2, 3, 4] rfl rfl) hn hl ?_)
  refine w_heq (hUs_in nd rfl [2, 3, 4] (cs2 := [(oC 5 (rdF qt p x)), (aB 600 ft), (oC 4 [.ref (p + 1), .ref (p + 10), .int (nI P.1), .int (nI (P.2.1 + 1))]), (aR RX7 4 (plW p)), (oC 7 (wvF w (0, wvC (P.2.2.2 P.2.1).2))), (aI 8 (wvC (P.2.2.2 P.2.1).2).1), (aI 8 (wvC (P.2.2.2 P.2.1).2).2.1), (aI 8 (wvC (P.2.2.2 P.2.1).2).2.2.1), (aI 8 (wvC (P.2.2.2 P.2.1).2).2.2.2.1)]) rfl rfl) ?_
  refine w_astore_n (ls2 := [some (.ref q), some (.ref w), none, none]) dX5_readWave_7 (by decide) rfl rfl ?_
  refine w_aload_n dX5_readWave_8 rfl ?_
  refine w_ifnonnull (tgt := 18) dX5_readWave_9 rfl ?_
  refine w_aload_n dX5_readWave_18 rfl ?_
  refine w_callV (ci := 5) (d' := d + 9) (mc' := 0) (ms' := 0) (As := []) (st := []) lX5_41 vX5_step rfl (hUs_at nd 0 rfl rfl) rfl (Nat.le_of_ble_eq_true rfl) dX5_readWave_19 (Nat.le_of_ble_eq_true rfl) (Nat.le_of_ble_eq_true rfl) (Nat.le_refl _) (c_step  (hHas_sub nd (as' := [q, qt]) (cs' := [(oC 5 (rdF qt p x)), (aB 600 ft)]) [0, 1] rfl rfl) (nd_sub nd (as' := [q, qt]) [0, 1] rfl rfl) hok ?_)
  refine w_heq (hUs_in nd rfl [0, 1] (cs2 := [(oC 5 (rdF qt p (rStp ft x))), (aB 600 ft), (oC 4 [.ref (p + 1), .ref (p + 10), .int (nI P.1), .int (nI (P.2.1 + 1))]), (aR RX7 4 (plW p)), (oC 7 (wvF w (0, wvC (P.2.2.2 P.2.1).2))), (aI 8 (wvC (P.2.2.2 P.2.1).2).1), (aI 8 (wvC (P.2.2.2 P.2.1).2).2.1), (aI 8 (wvC (P.2.2.2 P.2.1).2).2.2.1), (aI 8 (wvC (P.2.2.2 P.2.1).2).2.2.2.1)]) rfl rfl) ?_
  have k19 : rOk (rStp ft x) := rStp_ok _ hok
  generalize e19 : rStp ft x = t19 at k19 ⊢
  refine w_aload_n dX5_readWave_22 rfl ?_
  refine w_callV (ci := 5) (d' := d + 9) (mc' := 0) (ms' := 0) (As := []) (st := []) lX5_74 vX5_takeName rfl (hUs_at nd 0 rfl rfl) rfl (Nat.le_of_ble_eq_true rfl) dX5_readWave_23 (Nat.le_of_ble_eq_true rfl) (Nat.le_of_ble_eq_true rfl) (Nat.le_refl _) (c_takeName (P := (pW1 P)) (hHas_sub nd (as' := [q, qt, p]) (cs' := [(oC 5 (rdF qt p t19)), (aB 600 ft), (oC 4 [.ref (p + 1), .ref (p + 10), .int (nI P.1), .int (nI (P.2.1 + 1))])]) [0, 1, 2] rfl rfl) (nd_sub nd (as' := [q, qt, p]) [0, 1, 2] rfl rfl) k19 (hPl_W (D := (0, wvC (P.2.2.2 P.2.1).2)) hb.2.2.1 hb.2.2.2 hn hl (by omega)) ?_)
  refine w_heq (hUs_in nd rfl [0, 1, 2] (cs2 := [(oC 5 (rdF qt p (rNm ft (pW1 P) t19).2)), (aB 600 ft), (oC 4 [.ref (p + 1), .ref (p + 10), .int (nI P.1), .int (nI (P.2.1 + 1))]), (aR RX7 4 (plW p)), (oC 7 (wvF w (0, wvC (P.2.2.2 P.2.1).2))), (aI 8 (wvC (P.2.2.2 P.2.1).2).1), (aI 8 (wvC (P.2.2.2 P.2.1).2).2.1), (aI 8 (wvC (P.2.2.2 P.2.1).2).2.2.1), (aI 8 (wvC (P.2.2.2 P.2.1).2).2.2.2.1)]) rfl rfl) ?_
  have k23 : rOk (rNm ft (pW1 P) t19).2 := rNm_ok ft (pW1 P) k19
  generalize e23 : rNm ft (pW1 P) t19 = t23 at k23 ⊢
  refine w_if_ne (tgt := 31) dX5_readWave_26 rfl (fun b26 => ?_) (fun b26 => ?_)
  · refine w_aload_n dX5_readWave_31 rfl ?_
    refine w_aload_n dX5_readWave_32 rfl ?_
    refine w_get (v := .int t23.2.2.2.2.2.2.1) fX5_77 (hUs_at nd 0 rfl rfl) rfl dX5_readWave_33 ?_
    refine w_put (fs' := (wvF w (t23.2.2.2.2.2.2.1, wvC (P.2.2.2 P.2.1).2))) fX5_127 (hUs_at nd 4 rfl rfl) rfl rfl (Nat.le_of_ble_eq_true rfl) rfl dX5_readWave_36 ?_
    refine w_heq (hUs_set nd rfl 4 (cs' := [(oC 5 (rdF qt p t23.2)), (aB 600 ft), (oC 4 [.ref (p + 1), .ref (p + 10), .int (nI P.1), .int (nI (P.2.1 + 1))]), (aR RX7 4 (plW p)), (oC 7 (wvF w (t23.2.2.2.2.2.2.1, wvC (P.2.2.2 P.2.1).2))), (aI 8 (wvC (P.2.2.2 P.2.1).2).1), (aI 8 (wvC (P.2.2.2 P.2.1).2).2.1), (aI 8 (wvC (P.2.2.2 P.2.1).2).2.2.1), (aI 8 (wvC (P.2.2.2 P.2.1).2).2.2.2.1)]) rfl rfl) ?_
    refine w_aload_n dX5_readWave_39 rfl ?_
    refine w_aload_n dX5_readWave_40 rfl ?_
    refine w_callV (ci := 5) (d' := d + 9) (mc' := 0) (ms' := 0) (As := [.ref w]) (st := []) lX5_130 vX5_readPiece rfl (hUs_at nd 0 rfl rfl) rfl (Nat.le_of_ble_eq_true rfl) dX5_readWave_41 (Nat.le_of_ble_eq_true rfl) (Nat.le_of_ble_eq_true rfl) (Nat.le_refl _) (c_readPiece (hHas_sub nd (as' := [q, qt, w, w + 1, w + 2, w + 3, w + 4]) (cs' := [(oC 5 (rdF qt p t23.2)), (aB 600 ft), (oC 7 (wvF w (t23.2.2.2.2.2.2.1, wvC (P.2.2.2 P.2.1).2))), (aI 8 (wvC (P.2.2.2 P.2.1).2).1), (aI 8 (wvC (P.2.2.2 P.2.1).2).2.1), (aI 8 (wvC (P.2.2.2 P.2.1).2).2.2.1), (aI 8 (wvC (P.2.2.2 P.2.1).2).2.2.2.1)]) [0, 1, 4, 5, 6, 7, 8] rfl rfl) (nd_sub nd (as' := [q, qt, w, w + 1, w + 2, w + 3, w + 4]) [0, 1, 4, 5, 6, 7, 8] rfl rfl) k23 (Nat.zero_le 8) ?_)
    refine w_heq (hUs_in nd rfl [0, 1, 4, 5, 6, 7, 8] (cs2 := [(oC 5 (rdF qt p (rPc ft t23.2 (wvC (P.2.2.2 P.2.1).2)).2.1)), (aB 600 ft), (oC 4 [.ref (p + 1), .ref (p + 10), .int (nI P.1), .int (nI (P.2.1 + 1))]), (aR RX7 4 (plW p)), (oC 7 (wvF w (t23.2.2.2.2.2.2.1, (rPc ft t23.2 (wvC (P.2.2.2 P.2.1).2)).2.2))), (aI 8 (rPc ft t23.2 (wvC (P.2.2.2 P.2.1).2)).2.2.1), (aI 8 (rPc ft t23.2 (wvC (P.2.2.2 P.2.1).2)).2.2.2.1), (aI 8 (rPc ft t23.2 (wvC (P.2.2.2 P.2.1).2)).2.2.2.2.1), (aI 8 (rPc ft t23.2 (wvC (P.2.2.2 P.2.1).2)).2.2.2.2.2.1)]) rfl rfl) ?_
    have k41 := rPc_k ft (W := wvC (P.2.2.2 P.2.1).2) k23 (Nat.zero_le 8)
    generalize e41 : rPc ft t23.2 (wvC (P.2.2.2 P.2.1).2) = t41 at k41 ⊢
    refine w_istore_n (ls2 := [some (.ref q), some (.ref w), some (.int t41.1), none]) dX5_readWave_44 (by decide) rfl rfl ?_
    refine w_iconst (v := (nI 0)) dX5_readWave_45 (by decide) ?_
    refine w_istore_n (ls2 := [some (.ref q), some (.ref w), some (.int t41.1), some (.int (nI 0))]) dX5_readWave_46 (by decide) rfl rfl ?_
    have e : rWv1 ft P x = ((rWvL ft 9 t41.1 t41.2.1 t41.2.2).1, (rWvL ft 9 t41.1 t41.2.1 t41.2.2).2.1, (t23.2.2.2.2.2.2.1, (rWvL ft 9 t41.1 t41.2.1 t41.2.2).2.2)) := by
      rw [rWv1, e19, e23, if_neg b26, rWv2, e41]
    rw [rWv, if_pos hn, e] at k
    refine l_readWave nd 9 _ _ _ 0 rfl k41.2.1 k41.1 k41.2.2.1 ?_
    exact k _ ⟨hUs_at nd 0 rfl rfl, hUs_at nd 1 rfl rfl, hPl_W hb.2.2.1 hb.2.2.2 hn hl (by omega), hb.2.2.2⟩ (rFr_W (hb.2.1.trans (hUs_at nd 1 rfl rfl).symm) hn hl)
  · refine w_iconst (v := 0) dX5_readWave_29 (by decide) ?_
    refine w_zreturn rfl dX5_readWave_30 rfl (Nat.le_of_ble_eq_true rfl) (Nat.le_of_ble_eq_true rfl) ?_
    have e : rWv1 ft P x = (0, t23.2, (0, wvC (P.2.2.2 P.2.1).2)) := by
      rw [rWv1, e19, e23, if_pos b26]
    rw [rWv, if_pos hn, e] at k
    exact k _ ⟨hUs_at nd 0 rfl rfl, hUs_at nd 1 rfl rfl, hPl_W hb.2.2.1 hb.2.2.2 hn hl (by omega), hb.2.2.2⟩ (rFr_W (hb.2.1.trans (hUs_at nd 1 rfl rfl).symm) hn hl)
set_option maxRecDepth 100000 in
set_option maxHeartbeats 4000000 in
theorem c_readWave_n {G : wG} {d : Nat} {h : hH} {Q : Option Value → hH → Prop} {q qt p : Nat} {x : rD} {ft : Nat → Int32} {P : pD} (hb : rB h q qt p ft x P) (hok : rOk x) (hn : P.2.1 = 4) (k : ∀ h2, rB h2 q qt p ft (rWv ft x P).2.1 (rWv ft x P).2.2 → rFr q p h h2 → Q (some (.int (rWv ft x P).1)) h2) : Cl G yX5_readWave (d + 10) 0 0 [.ref q] h Q := by
  have nd : [q, qt, p].Nodup := nd_sub (ndL hb.2.2.2 (j := 0) (by omega) rfl) [0, 1, 2] rfl rfl
  have hw : hHas h [q, qt, p] [(oC 5 (rdF qt p x)), (aB 600 ft), (oC 4 [.ref (p + 1), .ref (p + 10), .int (nI P.1), .int (nI P.2.1)])] := hHas_cons hb.1 (hHas_cons hb.2.1 (hHas_cons hb.2.2.1.2.1 hHas_nil))
  refine Cl.of (ini := false) kX5_readWave (plainFor_of_name (by decide)) (by decide) (Nat.le_of_ble_eq_true rfl) rfl rfl (fun z => by cases z) ?_
  refine w_heq (hUs_id hw).symm ?_
  refine w_aload_n dX5_readWave_0 rfl ?_
  refine w_get (v := .ref p) fX5_18 (hUs_at nd 0 rfl rfl) rfl dX5_readWave_1 ?_
  refine w_callV (ci := 4) (d' := d + 9) (mc' := 0) (ms' := 0) (As := []) (st := []) lX5_123 vX4_addWave rfl (hUs_at nd 2 rfl rfl) rfl (Nat.le_of_ble_eq_true rfl) dX5_readWave_4 (Nat.le_of_ble_eq_true rfl) (Nat.le_of_ble_eq_true rfl) (Nat.le_refl _) (c_addWave_n (hHas_sub nd (as' := [p]) (cs' := [(oC 4 [.ref (p + 1), .ref (p + 10), .int (nI P.1), .int (nI P.2.1)])]) [2] rfl rfl) hn ?_)
  refine w_astore_nN (ls2 := [some (.ref q), some (.null), none, none]) dX5_readWave_7 (by decide) rfl rfl ?_
  refine w_aload_nN dX5_readWave_8 rfl ?_
  refine w_ifnonnullN dX5_readWave_9 ?_
  refine w_aload_n dX5_readWave_12 rfl ?_
  refine w_iconst (v := 4) dX5_readWave_13 (by decide) ?_
  refine w_callV (ci := 5) (d' := d + 9) (mc' := 0) (ms' := 0) (As := [.int 4]) (st := []) lX5_59 vX5_failed rfl (hUs_at nd 0 rfl rfl) rfl (Nat.le_of_ble_eq_true rfl) dX5_readWave_14 (Nat.le_of_ble_eq_true rfl) (Nat.le_of_ble_eq_true rfl) (Nat.le_refl _) (c_failed (hHas_sub nd (as' := [q]) (cs' := [(oC 5 (rdF qt p x))]) [0] rfl rfl) (nd_sub nd (as' := [q]) [0] rfl rfl) ?_)
  refine w_heq (hUs_in nd rfl [0] (cs2 := [(oC 5 (rdF qt p (rFl x 4 (nI x.2.2.2.1)))), (aB 600 ft), (oC 4 [.ref (p + 1), .ref (p + 10), .int (nI P.1), .int (nI P.2.1)])]) rfl rfl) ?_
  refine w_zreturn rfl dX5_readWave_17 rfl (Nat.le_of_ble_eq_true rfl) (Nat.le_of_ble_eq_true rfl) ?_
  rw [rWv, if_neg (by omega)] at k
  exact k _ (rB_u hb) (rFr_u hb)
theorem c_readWave {G : wG} {d : Nat} {h : hH} {Q : Option Value → hH → Prop} {q qt p : Nat} {x : rD} {ft : Nat → Int32} {P : pD} (hb : rB h q qt p ft x P) (hok : rOk x) (k : ∀ h2, rB h2 q qt p ft (rWv ft x P).2.1 (rWv ft x P).2.2 → rFr q p h h2 → Q (some (.int (rWv ft x P).1)) h2) : Cl G yX5_readWave (d + 10) 0 0 [.ref q] h Q := by
  by_cases z : P.2.1 < 4
  · exact c_readWave_s hb hok z rfl k
  · exact c_readWave_n hb hok (by have := hb.2.2.1.1; omega) k
