def lD0 : lD := (0, 0, fun _ => 0, 0, 0, 0)
def rFc (ft : Nat → Int32) : Nat → rD → Nat → (Nat → Int32) → Int32 × rD × Nat × (Nat → Int32)
  | 0, x, n, f => (1, x, n, f)
  | m + 1, x, n, f =>
    if (rTN ft 1 32 x).1 = 0 then (0, (rTN ft 1 32 x).2, n, f)
    else if n < 3 then
      if (rTN ft 1 32 x).2.2.2.1 = 2 then rFc ft m (rTN ft 1 32 x).2 (n + 1) (upd f n (rTN ft 1 32 x).2.2.2.2.2.2.1)
      else (1, (rTN ft 1 32 x).2, n + 1, upd f n (rTN ft 1 32 x).2.2.2.2.2.2.1)
    else (0, rFl (rTN ft 1 32 x).2 4 (nI x.2.2.2.1), n, f)
theorem rFc_ok (ft : Nat → Int32) : ∀ (m : Nat) {x : rD} (n : Nat) (f : Nat → Int32), rOk x → rOk (rFc ft m x n f).2.1
  | 0, _, _, _, h => h
  | m + 1, x, n, f, h => by
    have h1 := rTN_ok ft 1 32 h
    rw [rFc]
    split
    · exact h1
    · split
      · split
        · exact rFc_ok ft m _ _ h1
        · exact h1
      · exact h1
theorem rFc_n (ft : Nat → Int32) : ∀ (m : Nat) (x : rD) (n : Nat) (f : Nat → Int32), n ≤ 3 → (rFc ft m x n f).2.2.1 ≤ 3
  | 0, _, _, _, h => h
  | m + 1, x, n, f, h => by
    rw [rFc]
    split
    · exact h
    · split
      · split
        · exact rFc_n ft m _ _ _ (by omega)
        · show n + 1 ≤ 3; omega
      · exact h
def rNz (ft : Nat → Int32) (x : rD) (nz : Int32) : Int32 × rD × Int32 :=
  if (rTN ft 1 999 (rStp ft x)).1 = 0 then (0, (rTN ft 1 999 (rStp ft x)).2, nz) else (1, (rTN ft 1 999 (rStp ft x)).2, (rTN ft 1 999 (rStp ft x)).2.2.2.2.2.2.1)
theorem rNz_ok (ft : Nat → Int32) {x : rD} (nz : Int32) (h : rOk x) : rOk (rNz ft x nz).2.1 := by
  unfold rNz; split <;> exact rTN_ok ft _ _ (rStp_ok ft h)
def rLp7 (ft : Nat → Int32) (nm : Int32) (n : Nat) (f : Nat → Int32) (bd th : Int32) (x : rD) : Int32 × rD × lD :=
  if isW x.2.2.1 x.2.2.2.2.1 [110, 111, 105, 115, 101] 5 = 0 then (1, x, (nm, n, f, bd, 0, th)) else ((if (rNz ft x 0).1 = 0 then 0 else 1), (rNz ft x 0).2.1, (nm, n, f, bd, (rNz ft x 0).2.2, th))
def rLp6 (ft : Nat → Int32) (nm : Int32) (n : Nat) (f : Nat → Int32) (bd : Int32) (x : rD) : Int32 × rD × lD :=
  if isW x.2.2.1 x.2.2.2.2.1 [116, 104, 114, 101, 101] 5 = 0 then rLp7 ft nm n f bd (isW x.2.2.1 x.2.2.2.2.1 [116, 104, 114, 101, 101] 5) x else rLp7 ft nm n f bd (isW x.2.2.1 x.2.2.2.2.1 [116, 104, 114, 101, 101] 5) (rStp ft x)
def rLp5 (ft : Nat → Int32) (nm : Int32) (n : Nat) (f : Nat → Int32) (x : rD) : Int32 × rD × lD :=
  if (rTN ft 1000 9999 x).1 = 0 then (0, (rTN ft 1000 9999 x).2, (nm, n, f, 0, 0, 0)) else rLp6 ft nm n f (rTN ft 1000 9999 x).2.2.2.2.2.2.1 (rTN ft 1000 9999 x).2
def rLp4 (ft : Nat → Int32) (nm : Int32) (n : Nat) (f : Nat → Int32) (x : rD) : Int32 × rD × lD :=
  if (rTW ft [98, 111, 117, 110, 100] 5 x).1 = 0 then (0, (rTW ft [98, 111, 117, 110, 100] 5 x).2, (nm, n, f, 0, 0, 0)) else rLp5 ft nm n f (rTW ft [98, 111, 117, 110, 100] 5 x).2
def rLp3 (ft : Nat → Int32) (nm : Int32) (x : rD) : Int32 × rD × lD :=
  if (rFc ft 4 x 0 (fun _ => 0)).1 = 0 then (0, (rFc ft 4 x 0 (fun _ => 0)).2.1, (nm, (rFc ft 4 x 0 (fun _ => 0)).2.2.1, (rFc ft 4 x 0 (fun _ => 0)).2.2.2, 0, 0, 0)) else rLp4 ft nm (rFc ft 4 x 0 (fun _ => 0)).2.2.1 (rFc ft 4 x 0 (fun _ => 0)).2.2.2 (rFc ft 4 x 0 (fun _ => 0)).2.1
def rLp2 (ft : Nat → Int32) (nm : Int32) (x : rD) : Int32 × rD × lD :=
  if (rTW ft [98, 121] 2 x).1 = 0 then (0, (rTW ft [98, 121] 2 x).2, (nm, 0, fun _ => 0, 0, 0, 0)) else rLp3 ft nm (rTW ft [98, 121] 2 x).2
/-- the plan with one loop, wave more, not yet read -/
def pL1 (P : pD) : pD := (P.1 + 1, P.2.1, updD P.2.2.1 P.1 lD0, P.2.2.2)
def rLp1 (ft : Nat → Int32) (P : pD) (x : rD) : Int32 × rD × lD :=
  if (rNm ft (pL1 P) (rStp ft x)).1 = 0 then (0, (rNm ft (pL1 P) (rStp ft x)).2, lD0) else rLp2 ft (rNm ft (pL1 P) (rStp ft x)).2.2.2.2.2.2.1 (rNm ft (pL1 P) (rStp ft x)).2
def rLp (ft : Nat → Int32) (x : rD) (P : pD) : Int32 × rD × pD :=
  if P.1 < 4 then ((rLp1 ft P x).1, (rLp1 ft P x).2.1, (P.1 + 1, P.2.1, updD P.2.2.1 P.1 (rLp1 ft P x).2.2, P.2.2.2)) else (0, rFl x 4 (nI x.2.2.2.1), P)
theorem c_addStage_s {G : wG} {d : Nat} {h : hH} {Q : Option Value → hH → Prop} {q qf n : Nat} {nm bd nz th x : Int32} {fac : Nat → Int32} (hw : hHas h [q, qf] [oC 3 [.ref qf, .int nm, .int (nI n), .int bd, .int nz, .int th], aI 3 fac]) (nd : [q, qf].Nodup) (hn : n < 3) (k : Q (some (.int 1)) (hUs h [q, qf] [oC 3 [.ref qf, .int nm, .int (nI (n + 1)), .int bd, .int nz, .int th], aI 3 (upd fac n x)])) : Cl G yX3_addStage d 0 0 [.ref q, .int x] h Q := c_addStage hw nd (by omega) (by rw [if_pos hn]; exact k)
theorem c_addStage_n {G : wG} {d : Nat} {h : hH} {Q : Option Value → hH → Prop} {q qf n : Nat} {nm bd nz th x : Int32} {fac : Nat → Int32} (hw : hHas h [q, qf] [oC 3 [.ref qf, .int nm, .int (nI n), .int bd, .int nz, .int th], aI 3 fac]) (nd : [q, qf].Nodup) (h3 : n ≤ 3) (hn : ¬ n < 3) (k : Q (some (.int 0)) (hUs h [q, qf] [oC 3 [.ref qf, .int nm, .int (nI n), .int bd, .int nz, .int th], aI 3 fac])) : Cl G yX3_addStage d 0 0 [.ref q, .int x] h Q := c_addStage hw nd h3 (by rw [if_neg hn]; exact k)
set_option maxRecDepth 100000 in
set_option maxHeartbeats 4000000 in
theorem c_addLoop_s {G : wG} {d : Nat} {h : hH} {Q : Option Value → hH → Prop} {p nl nw l n : Nat} {nm bd nz th : Int32} {f : Nat → Int32} (hw : hHas h [p, p + 1, l, l + 1] [(oC 4 [.ref (p + 1), .ref (p + 10), .int (nI nl), .int (nI nw)]), (aR RX3 4 (plL p)), (oC 3 [.ref (l + 1), .int nm, .int (nI n), .int bd, .int nz, .int th]), (aI 3 f)]) (nd : [p, p + 1, l, l + 1].Nodup) (hn : nl < 4) (hl : l = p + 2 + 2 * nl) (k : Q (some (.ref l)) (hUs h [p, p + 1, l, l + 1] [(oC 4 [.ref (p + 1), .ref (p + 10), .int (nI (nl + 1)), .int (nI nw)]), (aR RX3 4 (plL p)), (oC 3 [.ref (l + 1), .int 0, .int (nI 0), .int 0, .int 0, .int 0]), aI 3 (fun _ => 0)])) : Cl G yX4_addLoop (d + 2) 0 0 [.ref p] h Q := by
  refine Cl.of (ini := false) kX4_addLoop (plainFor_of_name (by decide)) (by decide) (Nat.le_of_ble_eq_true rfl) rfl rfl (fun z => by cases z) ?_
  refine w_heq (hUs_id hw).symm ?_
  refine w_aload_n dX4_addLoop_0 rfl ?_
  refine w_get (v := .int (nI nl)) fX4_25 (hUs_at nd 0 rfl rfl) rfl dX4_addLoop_1 ?_
  refine w_iconst (v := 4) dX4_addLoop_4 (by decide) ?_
  refine w_icmp_lt_t (tgt := 10) dX4_addLoop_5 rfl ((nI_ltI (a := nl) (b := 4) (by omega) (by omega)).mpr (by omega)) ?_
  refine w_aload_n dX4_addLoop_10 rfl ?_
  refine w_get (v := .ref (p + 1)) fX4_12 (hUs_at nd 0 rfl rfl) rfl dX4_addLoop_11 ?_
  refine w_aload_n dX4_addLoop_14 rfl ?_
  refine w_get (v := .int (nI nl)) fX4_25 (hUs_at nd 0 rfl rfl) rfl dX4_addLoop_15 ?_
  refine w_aaloadN (hUs_at nd 1 rfl rfl) (by omega) (by omega) dX4_addLoop_18 ?_
  refine w_topV (z := .ref l) (by rw [hl]; rfl) ?_
  refine w_astore_n (ls2 := [some (.ref p), some (.ref l)]) dX4_addLoop_19 (by decide) rfl rfl ?_
  refine w_aload_n dX4_addLoop_20 rfl ?_
  refine w_callV (ci := 3) (d' := d + 1) (mc' := 0) (ms' := 0) (As := []) (st := []) lX4_32 vX3_clear rfl (hUs_at nd 2 rfl rfl) rfl (Nat.le_of_ble_eq_true rfl) dX4_addLoop_21 (Nat.le_of_ble_eq_true rfl) (Nat.le_of_ble_eq_true rfl) (Nat.le_refl _) (c_Loop_clear (hHas_sub nd (as' := [l, l + 1]) (cs' := [(oC 3 [.ref (l + 1), .int nm, .int (nI n), .int bd, .int nz, .int th]), (aI 3 f)]) [2, 3] rfl rfl) (nd_sub nd (as' := [l, l + 1]) [2, 3] rfl rfl)  ?_)
  refine w_heq (hUs_in nd rfl [2, 3] (cs2 := [(oC 4 [.ref (p + 1), .ref (p + 10), .int (nI nl), .int (nI nw)]), (aR RX3 4 (plL p)), (oC 3 [.ref (l + 1), .int 0, .int 0, .int 0, .int 0, .int 0]), (aI 3 (fun _ => 0))]) rfl rfl) ?_
  refine w_aload_n dX4_addLoop_24 rfl ?_
  refine w_dup dX4_addLoop_25 rfl ?_
  refine w_get (v := .int (nI nl)) fX4_25 (hUs_at nd 0 rfl rfl) rfl dX4_addLoop_26 ?_
  refine w_iconst (v := 1) dX4_addLoop_29 (by decide) ?_
  refine w_iaddE (z := nI (nl + 1)) dX4_addLoop_30 (nI_add (nl) (1)) ?_
  refine w_put (fs' := [.ref (p + 1), .ref (p + 10), .int (nI (nl + 1)), .int (nI nw)]) fX4_25 (hUs_at nd 0 rfl rfl) rfl rfl (Nat.le_of_ble_eq_true rfl) rfl dX4_addLoop_31 ?_
  refine w_heq (hUs_set nd rfl 0 (cs' := [(oC 4 [.ref (p + 1), .ref (p + 10), .int (nI (nl + 1)), .int (nI nw)]), (aR RX3 4 (plL p)), (oC 3 [.ref (l + 1), .int 0, .int 0, .int 0, .int 0, .int 0]), (aI 3 (fun _ => 0))]) rfl rfl) ?_
  refine w_aload_n dX4_addLoop_34 rfl ?_
  refine w_areturn rfl dX4_addLoop_35 (Or.inl ⟨_, rfl⟩) (Or.inr ⟨_, rfl⟩) (Nat.le_of_ble_eq_true rfl) (Nat.le_of_ble_eq_true rfl) ?_
  exact k
set_option maxRecDepth 100000 in
set_option maxHeartbeats 4000000 in
theorem c_addLoop_n {G : wG} {d : Nat} {h : hH} {Q : Option Value → hH → Prop} {p nl nw : Nat} (hw : hHas h [p] [(oC 4 [.ref (p + 1), .ref (p + 10), .int (nI nl), .int (nI nw)])]) (hn : nl = 4) (k : Q (some .null) h) : Cl G yX4_addLoop (d + 2) 0 0 [.ref p] h Q := by
  refine Cl.of (ini := false) kX4_addLoop (plainFor_of_name (by decide)) (by decide) (Nat.le_of_ble_eq_true rfl) rfl rfl (fun z => by cases z) ?_
  refine w_aload_n dX4_addLoop_0 rfl ?_
  refine w_get (v := .int (nI nl)) fX4_25 (hw 0 _ _ rfl rfl) rfl dX4_addLoop_1 ?_
  refine w_iconst (v := 4) dX4_addLoop_4 (by decide) ?_
  refine w_icmp_lt_f (tgt := 10) dX4_addLoop_5 rfl (fun z => absurd ((nI_ltI (a := nl) (b := 4) (by omega) (by omega)).mp z) (by omega)) ?_
  refine w_null dX4_addLoop_8 ?_
  refine w_areturn rfl dX4_addLoop_9 (Or.inl ⟨_, rfl⟩) (Or.inl rfl) (Nat.le_of_ble_eq_true rfl) (Nat.le_of_ble_eq_true rfl) ?_
  exact k
set_option maxRecDepth 100000 in
set_option maxHeartbeats 4000000 in
theorem c_addWave_s {G : wG} {d : Nat} {h : hH} {Q : Option Value → hH → Prop} {p nl nw w n : Nat} {nm ck : Int32} (hw : hHas h [p, p + 10, w] [(oC 4 [.ref (p + 1), .ref (p + 10), .int (nI nl), .int (nI nw)]), (aR RX7 4 (plW p)), (oC 7 [.ref (w + 1), .ref (w + 2), .ref (w + 3), .ref (w + 4), .int nm, .int (nI n), .int ck])]) (nd : [p, p + 10, w].Nodup) (hn : nw < 4) (hl : w = p + 11 + 5 * nw) (k : Q (some (.ref w)) (hUs h [p, p + 10, w] [(oC 4 [.ref (p + 1), .ref (p + 10), .int (nI nl), .int (nI (nw + 1))]), (aR RX7 4 (plW p)), (oC 7 [.ref (w + 1), .ref (w + 2), .ref (w + 3), .ref (w + 4), .int 0, .int (nI 0), .int 0])])) : Cl G yX4_addWave (d + 1) 0 0 [.ref p] h Q := by
  refine Cl.of (ini := false) kX4_addWave (plainFor_of_name (by decide)) (by decide) (Nat.le_of_ble_eq_true rfl) rfl rfl (fun z => by cases z) ?_
  refine w_heq (hUs_id hw).symm ?_
  refine w_aload_n dX4_addWave_0 rfl ?_
  refine w_get (v := .int (nI nw)) fX4_29 (hUs_at nd 0 rfl rfl) rfl dX4_addWave_1 ?_
  refine w_iconst (v := 4) dX4_addWave_4 (by decide) ?_
  refine w_icmp_lt_t (tgt := 10) dX4_addWave_5 rfl ((nI_ltI (a := nw) (b := 4) (by omega) (by omega)).mpr (by omega)) ?_
  refine w_aload_n dX4_addWave_10 rfl ?_
  refine w_get (v := .ref (p + 10)) fX4_21 (hUs_at nd 0 rfl rfl) rfl dX4_addWave_11 ?_
  refine w_aload_n dX4_addWave_14 rfl ?_
  refine w_get (v := .int (nI nw)) fX4_29 (hUs_at nd 0 rfl rfl) rfl dX4_addWave_15 ?_
  refine w_aaloadN (hUs_at nd 1 rfl rfl) (by omega) (by omega) dX4_addWave_18 ?_
  refine w_topV (z := .ref w) (by rw [hl]; rfl) ?_
  refine w_astore_n (ls2 := [some (.ref p), some (.ref w)]) dX4_addWave_19 (by decide) rfl rfl ?_
  refine w_aload_n dX4_addWave_20 rfl ?_
  refine w_callV (ci := 7) (d' := d) (mc' := 0) (ms' := 0) (As := []) (st := []) lX4_35 vX7_clear rfl (hUs_at nd 2 rfl rfl) rfl (Nat.le_of_ble_eq_true rfl) dX4_addWave_21 (Nat.le_of_ble_eq_true rfl) (Nat.le_of_ble_eq_true rfl) (Nat.le_refl _) (c_Wave_clear (hHas_sub nd (as' := [w]) (cs' := [(oC 7 [.ref (w + 1), .ref (w + 2), .ref (w + 3), .ref (w + 4), .int nm, .int (nI n), .int ck])]) [2] rfl rfl) (nd_sub nd (as' := [w]) [2] rfl rfl)  ?_)
  refine w_heq (hUs_in nd rfl [2] (cs2 := [(oC 4 [.ref (p + 1), .ref (p + 10), .int (nI nl), .int (nI nw)]), (aR RX7 4 (plW p)), (oC 7 [.ref (w + 1), .ref (w + 2), .ref (w + 3), .ref (w + 4), .int 0, .int 0, .int 0])]) rfl rfl) ?_
  refine w_aload_n dX4_addWave_24 rfl ?_
  refine w_dup dX4_addWave_25 rfl ?_
  refine w_get (v := .int (nI nw)) fX4_29 (hUs_at nd 0 rfl rfl) rfl dX4_addWave_26 ?_
  refine w_iconst (v := 1) dX4_addWave_29 (by decide) ?_
  refine w_iaddE (z := nI (nw + 1)) dX4_addWave_30 (nI_add (nw) (1)) ?_
  refine w_put (fs' := [.ref (p + 1), .ref (p + 10), .int (nI nl), .int (nI (nw + 1))]) fX4_29 (hUs_at nd 0 rfl rfl) rfl rfl (Nat.le_of_ble_eq_true rfl) rfl dX4_addWave_31 ?_
  refine w_heq (hUs_set nd rfl 0 (cs' := [(oC 4 [.ref (p + 1), .ref (p + 10), .int (nI nl), .int (nI (nw + 1))]), (aR RX7 4 (plW p)), (oC 7 [.ref (w + 1), .ref (w + 2), .ref (w + 3), .ref (w + 4), .int 0, .int 0, .int 0])]) rfl rfl) ?_
  refine w_aload_n dX4_addWave_34 rfl ?_
  refine w_areturn rfl dX4_addWave_35 (Or.inl ⟨_, rfl⟩) (Or.inr ⟨_, rfl⟩) (Nat.le_of_ble_eq_true rfl) (Nat.le_of_ble_eq_true rfl) ?_
  exact k
set_option maxRecDepth 100000 in
set_option maxHeartbeats 4000000 in
theorem c_addWave_n {G : wG} {d : Nat} {h : hH} {Q : Option Value → hH → Prop} {p nl nw : Nat} (hw : hHas h [p] [(oC 4 [.ref (p + 1), .ref (p + 10), .int (nI nl), .int (nI nw)])]) (hn : nw = 4) (k : Q (some .null) h) : Cl G yX4_addWave (d + 1) 0 0 [.ref p] h Q := by
  refine Cl.of (ini := false) kX4_addWave (plainFor_of_name (by decide)) (by decide) (Nat.le_of_ble_eq_true rfl) rfl rfl (fun z => by cases z) ?_
  refine w_aload_n dX4_addWave_0 rfl ?_
  refine w_get (v := .int (nI nw)) fX4_29 (hw 0 _ _ rfl rfl) rfl dX4_addWave_1 ?_
  refine w_iconst (v := 4) dX4_addWave_4 (by decide) ?_
  refine w_icmp_lt_f (tgt := 10) dX4_addWave_5 rfl (fun z => absurd ((nI_ltI (a := nw) (b := 4) (by omega) (by omega)).mp z) (by omega)) ?_
  refine w_null dX4_addWave_8 ?_
  refine w_areturn rfl dX4_addWave_9 (Or.inl ⟨_, rfl⟩) (Or.inl rfl) (Nat.le_of_ble_eq_true rfl) (Nat.le_of_ble_eq_true rfl) ?_
  exact k
set_option maxRecDepth 100000 in
set_option maxHeartbeats 4000000 in
theorem e_readFactors {G : wG} {d : Nat} {h : hH} {Q : Option Value → hH → Prop} {q qt p l : Nat} {nm bd nz th : Int32} {ft : Nat → Int32} {x : rD} {n i : Nat} {f : Nat → Int32} (hi : i < 100) (k : Q (some (.int 1)) (hUs h [q, qt, l, l + 1] [(oC 5 (rdF qt p x)), (aB 600 ft), (oC 3 [.ref (l + 1), .int nm, .int (nI n), .int bd, .int nz, .int th]), (aI 3 f)])) : WP G RX5 cX5_readFactors 5 (some .boolean) false (d + 3) 0 0 0 0 Q 4 [some (.ref q), some (.ref l), some (.int 0), some (.int (nI i)), none] [] (hUs h [q, qt, l, l + 1] [(oC 5 (rdF qt p x)), (aB 600 ft), (oC 3 [.ref (l + 1), .int nm, .int (nI n), .int bd, .int nz, .int th]), (aI 3 f)]) := by
  refine w_iload_n dX5_readFactors_4 rfl ?_
  refine w_iconst (v := 3) dX5_readFactors_5 (by decide) ?_
  refine w_icmp_gt (tgt := 70) dX5_readFactors_6 rfl (fun b6 => ?_) (fun b6 => ?_)
  · have b6 := (nI_ltI (a := 3) (b := i) (by omega) (by omega)).mp b6
    refine w_iconst (v := 1) dX5_readFactors_70 (by decide) ?_
    refine w_zreturn rfl dX5_readFactors_71 rfl (Nat.le_of_ble_eq_true rfl) (Nat.le_of_ble_eq_true rfl) ?_
    exact k
  · have b6 : ¬ 3 < i := fun z => b6 ((nI_ltI (a := 3) (b := i) (by omega) (by omega)).mpr z)
    refine w_iload_n dX5_readFactors_9 rfl ?_
    refine w_if_eq_t (tgt := 70) dX5_readFactors_10 rfl (by decide) ?_
    refine w_iconst (v := 1) dX5_readFactors_70 (by decide) ?_
    refine w_zreturn rfl dX5_readFactors_71 rfl (Nat.le_of_ble_eq_true rfl) (Nat.le_of_ble_eq_true rfl) ?_
    exact k
set_option maxRecDepth 100000 in
set_option maxHeartbeats 4000000 in
theorem l_readFactors {G : wG} {d : Nat} {h : hH} {Q : Option Value → hH → Prop} {q qt p l : Nat} {nm bd nz th : Int32} {ft : Nat → Int32} (nd : [q, qt, l, l + 1].Nodup)  : ∀ (m : Nat) (x : rD) (n : Nat) (f : Nat → Int32) (i : Nat), i + m = 4 → n ≤ 3 → rOk x → Q (some (.int (rFc ft m x n f).1)) (hUs h [q, qt, l, l + 1] [oC 5 (rdF qt p (rFc ft m x n f).2.1), aB 600 ft, (oC 3 [.ref (l + 1), .int nm, .int (nI (rFc ft m x n f).2.2.1), .int bd, .int nz, .int th]), aI 3 (rFc ft m x n f).2.2.2]) → WP G RX5 cX5_readFactors 5 (some .boolean) false (d + 3) 0 0 0 0 Q 4 [some (.ref q), some (.ref l), some (.int 1), some (.int (nI i)), none] [] (hUs h [q, qt, l, l + 1] [(oC 5 (rdF qt p x)), (aB 600 ft), (oC 3 [.ref (l + 1), .int nm, .int (nI n), .int bd, .int nz, .int th]), (aI 3 f)]) := by
  intro m
  induction m with
  | zero =>
    intro x n f i hi hn hok k
    refine w_iload_n dX5_readFactors_4 rfl ?_
    refine w_iconst (v := 3) dX5_readFactors_5 (by decide) ?_
    refine w_icmp_gt_t (tgt := 70) dX5_readFactors_6 rfl ((nI_ltI (a := 3) (b := i) (by omega) (by omega)).mpr (by omega)) ?_
    refine w_iconst (v := 1) dX5_readFactors_70 (by decide) ?_
    refine w_zreturn rfl dX5_readFactors_71 rfl (Nat.le_of_ble_eq_true rfl) (Nat.le_of_ble_eq_true rfl) ?_
    exact k
  | succ m ih =>
    intro x n f i hi hn hok k
    refine w_iload_n dX5_readFactors_4 rfl ?_
    refine w_iconst (v := 3) dX5_readFactors_5 (by decide) ?_
    refine w_icmp_gt_f (tgt := 70) dX5_readFactors_6 rfl (fun z => absurd ((nI_ltI (a := 3) (b := i) (by omega) (by omega)).mp z) (by omega)) ?_
    refine w_iload_n dX5_readFactors_9 rfl ?_
    refine w_if_eq_f (tgt := 70) dX5_readFactors_10 rfl (by decide) ?_
    refine w_aload_n dX5_readFactors_13 rfl ?_
    refine w_get (v := .int (nI x.2.2.2.1)) fX5_112 (hUs_at nd 0 rfl rfl) rfl dX5_readFactors_14 ?_
    refine w_istore (ls2 := [some (.ref q), some (.ref l), some (.int 1), some (.int (nI i)), some (.int (nI x.2.2.2.1))]) dX5_readFactors_17 (by decide) rfl rfl ?_
    refine w_aload_n dX5_readFactors_19 rfl ?_
    refine w_iconst (v := 1) dX5_readFactors_20 (by decide) ?_
    refine w_bipush (v := 32) dX5_readFactors_21 (by decide) ?_
    refine w_callV (ci := 5) (d' := d + 2) (mc' := 0) (ms' := 0) (As := [.int 1, .int 32]) (st := []) lX5_96 vX5_takeNumber rfl (hUs_at nd 0 rfl rfl) rfl (Nat.le_of_ble_eq_true rfl) dX5_readFactors_23 (Nat.le_of_ble_eq_true rfl) (Nat.le_of_ble_eq_true rfl) (Nat.le_refl _) (c_takeNumber  (hHas_sub nd (as' := [q, qt]) (cs' := [(oC 5 (rdF qt p x)), (aB 600 ft)]) [0, 1] rfl rfl) (nd_sub nd (as' := [q, qt]) [0, 1] rfl rfl) hok ?_)
    refine w_heq (hUs_in nd rfl [0, 1] (cs2 := [(oC 5 (rdF qt p (rTN ft 1 32 x).2)), (aB 600 ft), (oC 3 [.ref (l + 1), .int nm, .int (nI n), .int bd, .int nz, .int th]), (aI 3 f)]) rfl rfl) ?_
    refine w_if_ne (tgt := 31) dX5_readFactors_26 rfl (fun b26 => ?_) (fun b26 => ?_)
    · refine w_aload_n dX5_readFactors_31 rfl ?_
      refine w_aload_n dX5_readFactors_32 rfl ?_
      refine w_get (v := .int (rTN ft 1 32 x).2.2.2.2.2.2.1) fX5_77 (hUs_at nd 0 rfl rfl) rfl dX5_readFactors_33 ?_
      rcases Nat.lt_or_ge n 3 with z3 | z3
      · refine w_callV (ci := 3) (d' := d + 2) (mc' := 0) (ms' := 0) (As := [.int (rTN ft 1 32 x).2.2.2.2.2.2.1]) (st := []) lX5_115 vX3_addStage rfl (hUs_at nd 2 rfl rfl) rfl (Nat.le_of_ble_eq_true rfl) dX5_readFactors_36 (Nat.le_of_ble_eq_true rfl) (Nat.le_of_ble_eq_true rfl) (Nat.le_refl _) (c_addStage_s (hHas_sub nd (as' := [l, l + 1]) (cs' := [(oC 3 [.ref (l + 1), .int nm, .int (nI n), .int bd, .int nz, .int th]), (aI 3 f)]) [2, 3] rfl rfl) (nd_sub nd (as' := [l, l + 1]) [2, 3] rfl rfl) z3 ?_)
        refine w_heq (hUs_in nd rfl [2, 3] (cs2 := [(oC 5 (rdF qt p (rTN ft 1 32 x).2)), (aB 600 ft), (oC 3 [.ref (l + 1), .int nm, .int (nI (n + 1)), .int bd, .int nz, .int th]), (aI 3 (upd f n (rTN ft 1 32 x).2.2.2.2.2.2.1))]) rfl rfl) ?_
        refine w_if_ne_t (tgt := 50) dX5_readFactors_39 rfl (by decide) ?_
        refine w_aload_n dX5_readFactors_50 rfl ?_
        refine w_get (v := .int (rTN ft 1 32 x).2.2.2.1) fX5_63 (hUs_at nd 0 rfl rfl) rfl dX5_readFactors_51 ?_
        refine w_iconst (v := 2) dX5_readFactors_54 (by decide) ?_
        refine w_icmp_ne (tgt := 62) dX5_readFactors_55 rfl (fun b55 => ?_) (fun b55 => ?_)
        · refine w_iconst (v := 0) dX5_readFactors_62 (by decide) ?_
          refine w_istore_n (ls2 := [some (.ref q), some (.ref l), some (.int 0), some (.int (nI i)), some (.int (nI x.2.2.2.1))]) dX5_readFactors_63 (by decide) rfl rfl ?_
          refine w_iinc (v := nI (i + 1)) (ls2 := [some (.ref q), some (.ref l), some (.int 0), some (.int (nI (i + 1))), some (.int (nI x.2.2.2.1))]) dX5_readFactors_64 rfl (nI_1 _) (by decide) rfl rfl ?_
          refine w_goto (tgt := 4) dX5_readFactors_67 rfl ?_
          refine w_less (ls2 := [some (.ref q), some (.ref l), some (.int 0), some (.int (nI (i + 1))), none]) ⟨Or.inr rfl, Or.inr rfl, Or.inr rfl, Or.inr rfl, Or.inl rfl, trivial⟩ ?_
          rw [rFc, if_neg b26, if_pos z3, if_neg b55] at k
          exact e_readFactors (by omega) k
        · refine w_iconst (v := 1) dX5_readFactors_58 (by decide) ?_
          refine w_goto (tgt := 63) dX5_readFactors_59 rfl ?_
          refine w_istore_n (ls2 := [some (.ref q), some (.ref l), some (.int 1), some (.int (nI i)), some (.int (nI x.2.2.2.1))]) dX5_readFactors_63 (by decide) rfl rfl ?_
          refine w_iinc (v := nI (i + 1)) (ls2 := [some (.ref q), some (.ref l), some (.int 1), some (.int (nI (i + 1))), some (.int (nI x.2.2.2.1))]) dX5_readFactors_64 rfl (nI_1 _) (by decide) rfl rfl ?_
          refine w_goto (tgt := 4) dX5_readFactors_67 rfl ?_
          refine w_less (ls2 := [some (.ref q), some (.ref l), some (.int 1), some (.int (nI (i + 1))), none]) ⟨Or.inr rfl, Or.inr rfl, Or.inr rfl, Or.inr rfl, Or.inl rfl, trivial⟩ ?_
          rw [rFc, if_neg b26, if_pos z3, if_pos b55] at k
          exact ih _ (n + 1) _ (i + 1) (by omega) (by omega) (rTN_ok _ _ _ hok) k
      · have z3 : ¬ n < 3 := by omega
        refine w_callV (ci := 3) (d' := d + 2) (mc' := 0) (ms' := 0) (As := [.int (rTN ft 1 32 x).2.2.2.2.2.2.1]) (st := []) lX5_115 vX3_addStage rfl (hUs_at nd 2 rfl rfl) rfl (Nat.le_of_ble_eq_true rfl) dX5_readFactors_36 (Nat.le_of_ble_eq_true rfl) (Nat.le_of_ble_eq_true rfl) (Nat.le_refl _) (c_addStage_n (hHas_sub nd (as' := [l, l + 1]) (cs' := [(oC 3 [.ref (l + 1), .int nm, .int (nI n), .int bd, .int nz, .int th]), (aI 3 f)]) [2, 3] rfl rfl) (nd_sub nd (as' := [l, l + 1]) [2, 3] rfl rfl) hn z3 ?_)
        refine w_heq (hUs_in nd rfl [2, 3] (cs2 := [(oC 5 (rdF qt p (rTN ft 1 32 x).2)), (aB 600 ft), (oC 3 [.ref (l + 1), .int nm, .int (nI n), .int bd, .int nz, .int th]), (aI 3 f)]) rfl rfl) ?_
        refine w_if_ne_f (tgt := 50) dX5_readFactors_39 rfl (by decide) ?_
        refine w_aload_n dX5_readFactors_42 rfl ?_
        refine w_iconst (v := 4) dX5_readFactors_43 (by decide) ?_
        refine w_iload dX5_readFactors_44 rfl ?_
        refine w_callV (ci := 5) (d' := d + 2) (mc' := 0) (ms' := 0) (As := [.int 4, .int (nI x.2.2.2.1)]) (st := []) lX5_118 vX5_failedAt rfl (hUs_at nd 0 rfl rfl) rfl (Nat.le_of_ble_eq_true rfl) dX5_readFactors_46 (Nat.le_of_ble_eq_true rfl) (Nat.le_of_ble_eq_true rfl) (Nat.le_refl _) (c_failedAt (hHas_sub nd (as' := [q]) (cs' := [(oC 5 (rdF qt p (rTN ft 1 32 x).2))]) [0] rfl rfl) (nd_sub nd (as' := [q]) [0] rfl rfl) ?_)
        refine w_heq (hUs_in nd rfl [0] (cs2 := [(oC 5 (rdF qt p (rFl (rTN ft 1 32 x).2 4 (nI x.2.2.2.1)))), (aB 600 ft), (oC 3 [.ref (l + 1), .int nm, .int (nI n), .int bd, .int nz, .int th]), (aI 3 f)]) rfl rfl) ?_
        refine w_zreturn rfl dX5_readFactors_49 rfl (Nat.le_of_ble_eq_true rfl) (Nat.le_of_ble_eq_true rfl) ?_
        rw [rFc, if_neg b26, if_neg z3] at k
        exact k
    · refine w_iconst (v := 0) dX5_readFactors_29 (by decide) ?_
      refine w_zreturn rfl dX5_readFactors_30 rfl (Nat.le_of_ble_eq_true rfl) (Nat.le_of_ble_eq_true rfl) ?_
      rw [rFc, if_pos b26] at k
      exact k
set_option maxRecDepth 100000 in
set_option maxHeartbeats 4000000 in
theorem c_readFactors {G : wG} {d : Nat} {h : hH} {Q : Option Value → hH → Prop} {q qt p l : Nat} {nm bd nz th : Int32} {ft : Nat → Int32} {x : rD} {n : Nat} {f : Nat → Int32} (hw : hHas h [q, qt, l, l + 1] [(oC 5 (rdF qt p x)), (aB 600 ft), (oC 3 [.ref (l + 1), .int nm, .int (nI n), .int bd, .int nz, .int th]), (aI 3 f)]) (nd : [q, qt, l, l + 1].Nodup) (hn : n ≤ 3) (hok : rOk x) (k : Q (some (.int (rFc ft 4 x n f).1)) (hUs h [q, qt, l, l + 1] [oC 5 (rdF qt p (rFc ft 4 x n f).2.1), aB 600 ft, (oC 3 [.ref (l + 1), .int nm, .int (nI (rFc ft 4 x n f).2.2.1), .int bd, .int nz, .int th]), aI 3 (rFc ft 4 x n f).2.2.2])) : Cl G yX5_readFactors (d + 3) 0 0 [.ref q, .ref l] h Q := by
  refine Cl.of (ini := false) kX5_readFactors (plainFor_of_name (by decide)) (by decide) (Nat.le_of_ble_eq_true rfl) rfl rfl (fun z => by cases z) ?_
  refine w_heq (hUs_id hw).symm ?_
  refine w_iconst (v := 1) dX5_readFactors_0 (by decide) ?_
  refine w_istore_n (ls2 := [some (.ref q), some (.ref l), some (.int 1), none, none]) dX5_readFactors_1 (by decide) rfl rfl ?_
  refine w_iconst (v := (nI 0)) dX5_readFactors_2 (by decide) ?_
  refine w_istore_n (ls2 := [some (.ref q), some (.ref l), some (.int 1), some (.int (nI 0)), none]) dX5_readFactors_3 (by decide) rfl rfl ?_
  exact l_readFactors nd 4 x n f 0 rfl hn hok k
set_option maxRecDepth 100000 in
set_option maxHeartbeats 4000000 in
theorem c_readNoise {G : wG} {d : Nat} {h : hH} {Q : Option Value → hH → Prop} {q qt p l : Nat} {nm bd nz th : Int32} {ft : Nat → Int32} {x : rD} {n : Nat} (hw : hHas h [q, qt, l] [(oC 5 (rdF qt p x)), (aB 600 ft), (oC 3 [.ref (l + 1), .int nm, .int (nI n), .int bd, .int nz, .int th])]) (nd : [q, qt, l].Nodup) (hok : rOk x) (k : Q (some (.int (rNz ft x nz).1)) (hUs h [q, qt, l] [oC 5 (rdF qt p (rNz ft x nz).2.1), aB 600 ft, (oC 3 [.ref (l + 1), .int nm, .int (nI n), .int bd, .int (rNz ft x nz).2.2, .int th])])) : Cl G yX5_readNoise (d + 3) 0 0 [.ref q, .ref l] h Q := by
  refine Cl.of (ini := false) kX5_readNoise (plainFor_of_name (by decide)) (by decide) (Nat.le_of_ble_eq_true rfl) rfl rfl (fun z => by cases z) ?_
  refine w_heq (hUs_id hw).symm ?_
  refine w_aload_n dX5_readNoise_0 rfl ?_
  refine w_callV (ci := 5) (d' := d + 2) (mc' := 0) (ms' := 0) (As := []) (st := []) lX5_41 vX5_step rfl (hUs_at nd 0 rfl rfl) rfl (Nat.le_of_ble_eq_true rfl) dX5_readNoise_1 (Nat.le_of_ble_eq_true rfl) (Nat.le_of_ble_eq_true rfl) (Nat.le_refl _) (c_step  (hHas_sub nd (as' := [q, qt]) (cs' := [(oC 5 (rdF qt p x)), (aB 600 ft)]) [0, 1] rfl rfl) (nd_sub nd (as' := [q, qt]) [0, 1] rfl rfl) hok ?_)
  refine w_heq (hUs_in nd rfl [0, 1] (cs2 := [(oC 5 (rdF qt p (rStp ft x))), (aB 600 ft), (oC 3 [.ref (l + 1), .int nm, .int (nI n), .int bd, .int nz, .int th])]) rfl rfl) ?_
  refine w_aload_n dX5_readNoise_4 rfl ?_
  refine w_iconst (v := 1) dX5_readNoise_5 (by decide) ?_
  refine w_sipush (v := 999) dX5_readNoise_6 (by decide) ?_
  refine w_callV (ci := 5) (d' := d + 2) (mc' := 0) (ms' := 0) (As := [.int 1, .int 999]) (st := []) lX5_96 vX5_takeNumber rfl (hUs_at nd 0 rfl rfl) rfl (Nat.le_of_ble_eq_true rfl) dX5_readNoise_9 (Nat.le_of_ble_eq_true rfl) (Nat.le_of_ble_eq_true rfl) (Nat.le_refl _) (c_takeNumber  (hHas_sub nd (as' := [q, qt]) (cs' := [(oC 5 (rdF qt p (rStp ft x))), (aB 600 ft)]) [0, 1] rfl rfl) (nd_sub nd (as' := [q, qt]) [0, 1] rfl rfl) (rStp_ok _ hok) ?_)
  refine w_heq (hUs_in nd rfl [0, 1] (cs2 := [(oC 5 (rdF qt p (rTN ft 1 999 (rStp ft x)).2)), (aB 600 ft), (oC 3 [.ref (l + 1), .int nm, .int (nI n), .int bd, .int nz, .int th])]) rfl rfl) ?_
  refine w_if_ne (tgt := 17) dX5_readNoise_12 rfl (fun b12 => ?_) (fun b12 => ?_)
  · refine w_aload_n dX5_readNoise_17 rfl ?_
    refine w_aload_n dX5_readNoise_18 rfl ?_
    refine w_get (v := .int (rTN ft 1 999 (rStp ft x)).2.2.2.2.2.2.1) fX5_77 (hUs_at nd 0 rfl rfl) rfl dX5_readNoise_19 ?_
    refine w_put (fs' := [.ref (l + 1), .int nm, .int (nI n), .int bd, .int (rTN ft 1 999 (rStp ft x)).2.2.2.2.2.2.1, .int th]) fX5_121 (hUs_at nd 2 rfl rfl) rfl rfl (Nat.le_of_ble_eq_true rfl) rfl dX5_readNoise_22 ?_
    refine w_heq (hUs_set nd rfl 2 (cs' := [(oC 5 (rdF qt p (rTN ft 1 999 (rStp ft x)).2)), (aB 600 ft), (oC 3 [.ref (l + 1), .int nm, .int (nI n), .int bd, .int (rTN ft 1 999 (rStp ft x)).2.2.2.2.2.2.1, .int th])]) rfl rfl) ?_
    refine w_iconst (v := 1) dX5_readNoise_25 (by decide) ?_
    refine w_zreturn rfl dX5_readNoise_26 rfl (Nat.le_of_ble_eq_true rfl) (Nat.le_of_ble_eq_true rfl) ?_
    have e : rNz ft x nz = (1, (rTN ft 1 999 (rStp ft x)).2, (rTN ft 1 999 (rStp ft x)).2.2.2.2.2.2.1) := by
      rw [rNz, if_neg b12]
    rw [e] at k
    exact k
  · refine w_iconst (v := 0) dX5_readNoise_15 (by decide) ?_
    refine w_zreturn rfl dX5_readNoise_16 rfl (Nat.le_of_ble_eq_true rfl) (Nat.le_of_ble_eq_true rfl) ?_
    have e : rNz ft x nz = (0, (rTN ft 1 999 (rStp ft x)).2, nz) := by
      rw [rNz, if_pos b12]
    rw [e] at k
    exact k
set_option maxRecDepth 100000 in
set_option maxHeartbeats 4000000 in
theorem c_readLoop_s {G : wG} {d : Nat} {h : hH} {Q : Option Value → hH → Prop} {q qt p : Nat} {x : rD} {ft : Nat → Int32} {P : pD} {l : Nat} (hb : rB h q qt p ft x P) (hok : rOk x) (hn : P.1 < 4) (hl : l = p + 2 + 2 * P.1) (k : ∀ h2, rB h2 q qt p ft (rLp ft x P).2.1 (rLp ft x P).2.2 → rFr q p h h2 → Q (some (.int (rLp ft x P).1)) h2) : Cl G yX5_readLoop (d + 10) 0 0 [.ref q] h Q := by
  have nd := ndL hb.2.2.2 hn hl
  have hw : hHas h [q, qt, p, p + 1, l, l + 1] [(oC 5 (rdF qt p x)), (aB 600 ft), (oC 4 [.ref (p + 1), .ref (p + 10), .int (nI P.1), .int (nI P.2.1)]), (aR RX3 4 (plL p)), (oC 3 [.ref (l + 1), .int (P.2.2.1 P.1).1, .int (nI (P.2.2.1 P.1).2.1), .int (P.2.2.1 P.1).2.2.2.1, .int (P.2.2.1 P.1).2.2.2.2.1, .int (P.2.2.1 P.1).2.2.2.2.2]), (aI 3 (P.2.2.1 P.1).2.2.1)] := hHas_cons hb.1 (hHas_cons hb.2.1 (hHas_cons hb.2.2.1.2.1 (hHas_cons hb.2.2.1.2.2.1 (hl ▸ hb.2.2.1.2.2.2.2.1 P.1 hn))))
  refine Cl.of (ini := false) kX5_readLoop (plainFor_of_name (by decide)) (by decide) (Nat.le_of_ble_eq_true rfl) rfl rfl (fun z => by cases z) ?_
  refine w_heq (hUs_id hw).symm ?_
  refine w_aload_n dX5_readLoop_0 rfl ?_
  refine w_get (v := .ref p) fX5_18 (hUs_at nd 0 rfl rfl) rfl dX5_readLoop_1 ?_
  refine w_callV (ci := 4) (d' := d + 9) (mc' := 0) (ms' := 0) (As := []) (st := []) lX5_70 vX4_addLoop rfl (hUs_at nd 2 rfl rfl) rfl (Nat.le_of_ble_eq_true rfl) dX5_readLoop_4 (Nat.le_of_ble_eq_true rfl) (Nat.le_of_ble_eq_true rfl) (Nat.le_refl _) (c_addLoop_s (n := (P.2.2.1 P.1).2.1) (hHas_sub nd (as' := [p, p + 1, l, l + 1]) (cs' := [(oC 4 [.ref (p + 1), .ref (p + 10), .int (nI P.1), .int (nI P.2.1)]), (aR RX3 4 (plL p)), (oC 3 [.ref (l + 1), .int (P.2.2.1 P.1).1, .int (nI (P.2.2.1 P.1).2.1), .int (P.2.2.1 P.1).2.2.2.1, .int (P.2.2.1 P.1).2.2.2.2.1, .int (P.2.2.1 P.1).2.2.2.2.2]), (aI 3 (P.2.2.1 P.1).2.2.1)]) [2, 3, 4, 5] rfl rfl) (nd_sub nd (as' := [p, p + 1, l, l + 1]) [2, 3, 4, 5] rfl rfl) hn hl ?_)
  refine w_heq (hUs_in nd rfl [2, 3, 4, 5] (cs2 := [(oC 5 (rdF qt p x)), (aB 600 ft), (oC 4 [.ref (p + 1), .ref (p + 10), .int (nI (P.1 + 1)), .int (nI P.2.1)]), (aR RX3 4 (plL p)), (oC 3 [.ref (l + 1), .int 0, .int (nI 0), .int 0, .int 0, .int 0]), (aI 3 (fun _ => 0))]) rfl rfl) ?_
  refine w_astore_n (ls2 := [some (.ref q), some (.ref l)]) dX5_readLoop_7 (by decide) rfl rfl ?_
  refine w_aload_n dX5_readLoop_8 rfl ?_
  refine w_ifnonnull (tgt := 18) dX5_readLoop_9 rfl ?_
  refine w_aload_n dX5_readLoop_18 rfl ?_
  refine w_callV (ci := 5) (d' := d + 9) (mc' := 0) (ms' := 0) (As := []) (st := []) lX5_41 vX5_step rfl (hUs_at nd 0 rfl rfl) rfl (Nat.le_of_ble_eq_true rfl) dX5_readLoop_19 (Nat.le_of_ble_eq_true rfl) (Nat.le_of_ble_eq_true rfl) (Nat.le_refl _) (c_step  (hHas_sub nd (as' := [q, qt]) (cs' := [(oC 5 (rdF qt p x)), (aB 600 ft)]) [0, 1] rfl rfl) (nd_sub nd (as' := [q, qt]) [0, 1] rfl rfl) hok ?_)
  refine w_heq (hUs_in nd rfl [0, 1] (cs2 := [(oC 5 (rdF qt p (rStp ft x))), (aB 600 ft), (oC 4 [.ref (p + 1), .ref (p + 10), .int (nI (P.1 + 1)), .int (nI P.2.1)]), (aR RX3 4 (plL p)), (oC 3 [.ref (l + 1), .int 0, .int (nI 0), .int 0, .int 0, .int 0]), (aI 3 (fun _ => 0))]) rfl rfl) ?_
  have k19 : rOk (rStp ft x) := rStp_ok _ hok
  generalize e19 : rStp ft x = t19 at k19 ⊢
  refine w_aload_n dX5_readLoop_22 rfl ?_
  refine w_callV (ci := 5) (d' := d + 9) (mc' := 0) (ms' := 0) (As := []) (st := []) lX5_74 vX5_takeName rfl (hUs_at nd 0 rfl rfl) rfl (Nat.le_of_ble_eq_true rfl) dX5_readLoop_23 (Nat.le_of_ble_eq_true rfl) (Nat.le_of_ble_eq_true rfl) (Nat.le_refl _) (c_takeName (P := (pL1 P)) (hHas_sub nd (as' := [q, qt, p]) (cs' := [(oC 5 (rdF qt p t19)), (aB 600 ft), (oC 4 [.ref (p + 1), .ref (p + 10), .int (nI (P.1 + 1)), .int (nI P.2.1)])]) [0, 1, 2] rfl rfl) (nd_sub nd (as' := [q, qt, p]) [0, 1, 2] rfl rfl) k19 (hPl_L (D := lD0) hb.2.2.1 hb.2.2.2 hn hl (by omega)) ?_)
  refine w_heq (hUs_in nd rfl [0, 1, 2] (cs2 := [(oC 5 (rdF qt p (rNm ft (pL1 P) t19).2)), (aB 600 ft), (oC 4 [.ref (p + 1), .ref (p + 10), .int (nI (P.1 + 1)), .int (nI P.2.1)]), (aR RX3 4 (plL p)), (oC 3 [.ref (l + 1), .int 0, .int (nI 0), .int 0, .int 0, .int 0]), (aI 3 (fun _ => 0))]) rfl rfl) ?_
  have k23 : rOk (rNm ft (pL1 P) t19).2 := rNm_ok ft (pL1 P) k19
  generalize e23 : rNm ft (pL1 P) t19 = t23 at k23 ⊢
  refine w_if_ne (tgt := 31) dX5_readLoop_26 rfl (fun b26 => ?_) (fun b26 => ?_)
  · refine w_aload_n dX5_readLoop_31 rfl ?_
    refine w_aload_n dX5_readLoop_32 rfl ?_
    refine w_get (v := .int t23.2.2.2.2.2.2.1) fX5_77 (hUs_at nd 0 rfl rfl) rfl dX5_readLoop_33 ?_
    refine w_put (fs' := [.ref (l + 1), .int t23.2.2.2.2.2.2.1, .int (nI 0), .int 0, .int 0, .int 0]) fX5_80 (hUs_at nd 4 rfl rfl) rfl rfl (Nat.le_of_ble_eq_true rfl) rfl dX5_readLoop_36 ?_
    refine w_heq (hUs_set nd rfl 4 (cs' := [(oC 5 (rdF qt p t23.2)), (aB 600 ft), (oC 4 [.ref (p + 1), .ref (p + 10), .int (nI (P.1 + 1)), .int (nI P.2.1)]), (aR RX3 4 (plL p)), (oC 3 [.ref (l + 1), .int t23.2.2.2.2.2.2.1, .int (nI 0), .int 0, .int 0, .int 0]), (aI 3 (fun _ => 0))]) rfl rfl) ?_
    refine w_aload_n dX5_readLoop_39 rfl ?_
    refine w_ldcS (i := 2) rfl rfl rfl dX5_readLoop_40 ?_
    refine w_callV (ci := 5) (d' := d + 9) (mc' := 0) (ms' := 0) (As := [.ref (G.2.2.1 2)]) (st := []) lX5_87 vX5_takeWord rfl (hUs_at nd 0 rfl rfl) rfl (Nat.le_of_ble_eq_true rfl) dX5_readLoop_42 (Nat.le_of_ble_eq_true rfl) (Nat.le_of_ble_eq_true rfl) (Nat.le_refl _) (c_takeWord (i := 2) rfl  (hHas_sub nd (as' := [q, qt]) (cs' := [(oC 5 (rdF qt p t23.2)), (aB 600 ft)]) [0, 1] rfl rfl) (nd_sub nd (as' := [q, qt]) [0, 1] rfl rfl) k23 ?_)
    refine w_heq (hUs_in nd rfl [0, 1] (cs2 := [(oC 5 (rdF qt p (rTW ft [98, 121] 2 t23.2).2)), (aB 600 ft), (oC 4 [.ref (p + 1), .ref (p + 10), .int (nI (P.1 + 1)), .int (nI P.2.1)]), (aR RX3 4 (plL p)), (oC 3 [.ref (l + 1), .int t23.2.2.2.2.2.2.1, .int (nI 0), .int 0, .int 0, .int 0]), (aI 3 (fun _ => 0))]) rfl rfl) ?_
    have k42 : rOk (rTW ft [98, 121] 2 t23.2).2 := rTW_ok _ _ _ k23
    generalize e42 : rTW ft [98, 121] 2 t23.2 = t42 at k42 ⊢
    refine w_if_eq (tgt := 56) dX5_readLoop_45 rfl (fun b45 => ?_) (fun b45 => ?_)
    · refine w_iconst (v := 0) dX5_readLoop_56 (by decide) ?_
      refine w_zreturn rfl dX5_readLoop_57 rfl (Nat.le_of_ble_eq_true rfl) (Nat.le_of_ble_eq_true rfl) ?_
      have e : rLp1 ft P x = (0, t42.2, (t23.2.2.2.2.2.2.1, 0, fun _ => 0, 0, 0, 0)) := by
        rw [rLp1, e19, e23, if_neg b26, rLp2, e42, if_pos b45]
      rw [rLp, if_pos hn, e] at k
      exact k _ ⟨hUs_at nd 0 rfl rfl, hUs_at nd 1 rfl rfl, hPl_L hb.2.2.1 hb.2.2.2 hn hl (by omega), hb.2.2.2⟩ (rFr_L (hb.2.1.trans (hUs_at nd 1 rfl rfl).symm) hn hl)
    · refine w_aload_n dX5_readLoop_48 rfl ?_
      refine w_aload_n dX5_readLoop_49 rfl ?_
      refine w_callV (ci := 5) (d' := d + 9) (mc' := 0) (ms' := 0) (As := [.ref l]) (st := []) lX5_90 vX5_readFactors rfl (hUs_at nd 0 rfl rfl) rfl (Nat.le_of_ble_eq_true rfl) dX5_readLoop_50 (Nat.le_of_ble_eq_true rfl) (Nat.le_of_ble_eq_true rfl) (Nat.le_refl _) (c_readFactors (n := 0) (f := fun _ => 0) (hHas_sub nd (as' := [q, qt, l, l + 1]) (cs' := [(oC 5 (rdF qt p t42.2)), (aB 600 ft), (oC 3 [.ref (l + 1), .int t23.2.2.2.2.2.2.1, .int (nI 0), .int 0, .int 0, .int 0]), (aI 3 (fun _ => 0))]) [0, 1, 4, 5] rfl rfl) (nd_sub nd (as' := [q, qt, l, l + 1]) [0, 1, 4, 5] rfl rfl) (by omega) k42 ?_)
      refine w_heq (hUs_in nd rfl [0, 1, 4, 5] (cs2 := [(oC 5 (rdF qt p (rFc ft 4 t42.2 0 (fun _ => 0)).2.1)), (aB 600 ft), (oC 4 [.ref (p + 1), .ref (p + 10), .int (nI (P.1 + 1)), .int (nI P.2.1)]), (aR RX3 4 (plL p)), (oC 3 [.ref (l + 1), .int t23.2.2.2.2.2.2.1, .int (nI (rFc ft 4 t42.2 0 (fun _ => 0)).2.2.1), .int 0, .int 0, .int 0]), (aI 3 (rFc ft 4 t42.2 0 (fun _ => 0)).2.2.2)]) rfl rfl) ?_
      have k50 : rOk (rFc ft 4 t42.2 0 (fun _ => 0)).2.1 := rFc_ok ft 4 0 (fun _ => 0) k42
      generalize e50 : rFc ft 4 t42.2 0 (fun _ => 0) = t50 at k50 ⊢
      refine w_if_ne (tgt := 58) dX5_readLoop_53 rfl (fun b53 => ?_) (fun b53 => ?_)
      · refine w_aload_n dX5_readLoop_58 rfl ?_
        refine w_ldcS (i := 3) rfl rfl rfl dX5_readLoop_59 ?_
        refine w_callV (ci := 5) (d' := d + 9) (mc' := 0) (ms' := 0) (As := [.ref (G.2.2.1 3)]) (st := []) lX5_87 vX5_takeWord rfl (hUs_at nd 0 rfl rfl) rfl (Nat.le_of_ble_eq_true rfl) dX5_readLoop_61 (Nat.le_of_ble_eq_true rfl) (Nat.le_of_ble_eq_true rfl) (Nat.le_refl _) (c_takeWord (i := 3) rfl  (hHas_sub nd (as' := [q, qt]) (cs' := [(oC 5 (rdF qt p t50.2.1)), (aB 600 ft)]) [0, 1] rfl rfl) (nd_sub nd (as' := [q, qt]) [0, 1] rfl rfl) k50 ?_)
        refine w_heq (hUs_in nd rfl [0, 1] (cs2 := [(oC 5 (rdF qt p (rTW ft [98, 111, 117, 110, 100] 5 t50.2.1).2)), (aB 600 ft), (oC 4 [.ref (p + 1), .ref (p + 10), .int (nI (P.1 + 1)), .int (nI P.2.1)]), (aR RX3 4 (plL p)), (oC 3 [.ref (l + 1), .int t23.2.2.2.2.2.2.1, .int (nI t50.2.2.1), .int 0, .int 0, .int 0]), (aI 3 t50.2.2.2)]) rfl rfl) ?_
        have k61 : rOk (rTW ft [98, 111, 117, 110, 100] 5 t50.2.1).2 := rTW_ok _ _ _ k50
        generalize e61 : rTW ft [98, 111, 117, 110, 100] 5 t50.2.1 = t61 at k61 ⊢
        refine w_if_eq (tgt := 80) dX5_readLoop_64 rfl (fun b64 => ?_) (fun b64 => ?_)
        · refine w_iconst (v := 0) dX5_readLoop_80 (by decide) ?_
          refine w_zreturn rfl dX5_readLoop_81 rfl (Nat.le_of_ble_eq_true rfl) (Nat.le_of_ble_eq_true rfl) ?_
          have e : rLp1 ft P x = (0, t61.2, (t23.2.2.2.2.2.2.1, t50.2.2.1, t50.2.2.2, 0, 0, 0)) := by
            rw [rLp1, e19, e23, if_neg b26, rLp2, e42, if_neg b45, rLp3, e50, if_neg b53, rLp4, e61, if_pos b64]
          rw [rLp, if_pos hn, e] at k
          exact k _ ⟨hUs_at nd 0 rfl rfl, hUs_at nd 1 rfl rfl, hPl_L hb.2.2.1 hb.2.2.2 hn hl (by omega), hb.2.2.2⟩ (rFr_L (hb.2.1.trans (hUs_at nd 1 rfl rfl).symm) hn hl)
        · refine w_aload_n dX5_readLoop_67 rfl ?_
          refine w_sipush (v := 1000) dX5_readLoop_68 (by decide) ?_
          refine w_sipush (v := 9999) dX5_readLoop_71 (by decide) ?_
          refine w_callV (ci := 5) (d' := d + 9) (mc' := 0) (ms' := 0) (As := [.int 1000, .int 9999]) (st := []) lX5_96 vX5_takeNumber rfl (hUs_at nd 0 rfl rfl) rfl (Nat.le_of_ble_eq_true rfl) dX5_readLoop_74 (Nat.le_of_ble_eq_true rfl) (Nat.le_of_ble_eq_true rfl) (Nat.le_refl _) (c_takeNumber  (hHas_sub nd (as' := [q, qt]) (cs' := [(oC 5 (rdF qt p t61.2)), (aB 600 ft)]) [0, 1] rfl rfl) (nd_sub nd (as' := [q, qt]) [0, 1] rfl rfl) k61 ?_)
          refine w_heq (hUs_in nd rfl [0, 1] (cs2 := [(oC 5 (rdF qt p (rTN ft 1000 9999 t61.2).2)), (aB 600 ft), (oC 4 [.ref (p + 1), .ref (p + 10), .int (nI (P.1 + 1)), .int (nI P.2.1)]), (aR RX3 4 (plL p)), (oC 3 [.ref (l + 1), .int t23.2.2.2.2.2.2.1, .int (nI t50.2.2.1), .int 0, .int 0, .int 0]), (aI 3 t50.2.2.2)]) rfl rfl) ?_
          have k74 : rOk (rTN ft 1000 9999 t61.2).2 := rTN_ok _ _ _ k61
          generalize e74 : rTN ft 1000 9999 t61.2 = t74 at k74 ⊢
          refine w_if_ne (tgt := 82) dX5_readLoop_77 rfl (fun b77 => ?_) (fun b77 => ?_)
          · refine w_aload_n dX5_readLoop_82 rfl ?_
            refine w_aload_n dX5_readLoop_83 rfl ?_
            refine w_get (v := .int t74.2.2.2.2.2.2.1) fX5_77 (hUs_at nd 0 rfl rfl) rfl dX5_readLoop_84 ?_
            refine w_put (fs' := [.ref (l + 1), .int t23.2.2.2.2.2.2.1, .int (nI t50.2.2.1), .int t74.2.2.2.2.2.2.1, .int 0, .int 0]) fX5_100 (hUs_at nd 4 rfl rfl) rfl rfl (Nat.le_of_ble_eq_true rfl) rfl dX5_readLoop_87 ?_
            refine w_heq (hUs_set nd rfl 4 (cs' := [(oC 5 (rdF qt p t74.2)), (aB 600 ft), (oC 4 [.ref (p + 1), .ref (p + 10), .int (nI (P.1 + 1)), .int (nI P.2.1)]), (aR RX3 4 (plL p)), (oC 3 [.ref (l + 1), .int t23.2.2.2.2.2.2.1, .int (nI t50.2.2.1), .int t74.2.2.2.2.2.2.1, .int 0, .int 0]), (aI 3 t50.2.2.2)]) rfl rfl) ?_
            refine w_aload_n dX5_readLoop_90 rfl ?_
            refine w_aload_n dX5_readLoop_91 rfl ?_
            refine w_ldcS (i := 4) rfl rfl rfl dX5_readLoop_92 ?_
            refine w_callV (ci := 5) (d' := d + 9) (mc' := 0) (ms' := 0) (As := [.ref (G.2.2.1 4)]) (st := [.ref l]) lX5_46 vX5_isWord rfl (hUs_at nd 0 rfl rfl) rfl (Nat.le_of_ble_eq_true rfl) dX5_readLoop_94 (Nat.le_of_ble_eq_true rfl) (Nat.le_of_ble_eq_true rfl) (Nat.le_refl _) (c_isWord (i := 4) rfl (hHas_sub nd (as' := [q]) (cs' := [(oC 5 (rdF qt p t74.2))]) [0] rfl rfl) ?_)
            refine w_put (fs' := [.ref (l + 1), .int t23.2.2.2.2.2.2.1, .int (nI t50.2.2.1), .int t74.2.2.2.2.2.2.1, .int 0, .int (isW t74.2.2.2.1 t74.2.2.2.2.2.1 [116, 104, 114, 101, 101] 5)]) fX5_104 (hUs_at nd 4 rfl rfl) (isW_b _ _ _ _) (isW_f _ _ _ _) (Nat.le_of_ble_eq_true rfl) rfl dX5_readLoop_97 ?_
            refine w_heq (hUs_set nd rfl 4 (cs' := [(oC 5 (rdF qt p t74.2)), (aB 600 ft), (oC 4 [.ref (p + 1), .ref (p + 10), .int (nI (P.1 + 1)), .int (nI P.2.1)]), (aR RX3 4 (plL p)), (oC 3 [.ref (l + 1), .int t23.2.2.2.2.2.2.1, .int (nI t50.2.2.1), .int t74.2.2.2.2.2.2.1, .int 0, .int (isW t74.2.2.2.1 t74.2.2.2.2.2.1 [116, 104, 114, 101, 101] 5)]), (aI 3 t50.2.2.2)]) rfl rfl) ?_
            refine w_aload_n dX5_readLoop_100 rfl ?_
            refine w_get (v := .int (isW t74.2.2.2.1 t74.2.2.2.2.2.1 [116, 104, 114, 101, 101] 5)) fX5_104 (hUs_at nd 4 rfl rfl) rfl dX5_readLoop_101 ?_
            refine w_if_eq (tgt := 111) dX5_readLoop_104 rfl (fun b104 => ?_) (fun b104 => ?_)
            · refine w_aload_n dX5_readLoop_111 rfl ?_
              refine w_ldcS (i := 5) rfl rfl rfl dX5_readLoop_112 ?_
              refine w_callV (ci := 5) (d' := d + 9) (mc' := 0) (ms' := 0) (As := [.ref (G.2.2.1 5)]) (st := []) lX5_46 vX5_isWord rfl (hUs_at nd 0 rfl rfl) rfl (Nat.le_of_ble_eq_true rfl) dX5_readLoop_114 (Nat.le_of_ble_eq_true rfl) (Nat.le_of_ble_eq_true rfl) (Nat.le_refl _) (c_isWord (i := 5) rfl (hHas_sub nd (as' := [q]) (cs' := [(oC 5 (rdF qt p t74.2))]) [0] rfl rfl) ?_)
              refine w_if_eq (tgt := 128) dX5_readLoop_117 rfl (fun b117 => ?_) (fun b117 => ?_)
              · refine w_iconst (v := 1) dX5_readLoop_128 (by decide) ?_
                refine w_goto (tgt := 133) dX5_readLoop_129 rfl ?_
                refine w_zreturn rfl dX5_readLoop_133 rfl (Nat.le_of_ble_eq_true rfl) (Nat.le_of_ble_eq_true rfl) ?_
                have e : rLp1 ft P x = (1, t74.2, (t23.2.2.2.2.2.2.1, t50.2.2.1, t50.2.2.2, t74.2.2.2.2.2.2.1, 0, isW t74.2.2.2.1 t74.2.2.2.2.2.1 [116, 104, 114, 101, 101] 5)) := by
                  rw [rLp1, e19, e23, if_neg b26, rLp2, e42, if_neg b45, rLp3, e50, if_neg b53, rLp4, e61, if_neg b64, rLp5, e74, if_neg b77, rLp6, if_pos b104, rLp7, if_pos b117]
                rw [rLp, if_pos hn, e] at k
                exact k _ ⟨hUs_at nd 0 rfl rfl, hUs_at nd 1 rfl rfl, hPl_L hb.2.2.1 hb.2.2.2 hn hl (by omega), hb.2.2.2⟩ (rFr_L (hb.2.1.trans (hUs_at nd 1 rfl rfl).symm) hn hl)
              · refine w_aload_n dX5_readLoop_120 rfl ?_
                refine w_aload_n dX5_readLoop_121 rfl ?_
                refine w_callV (ci := 5) (d' := d + 9) (mc' := 0) (ms' := 0) (As := [.ref l]) (st := []) lX5_109 vX5_readNoise rfl (hUs_at nd 0 rfl rfl) rfl (Nat.le_of_ble_eq_true rfl) dX5_readLoop_122 (Nat.le_of_ble_eq_true rfl) (Nat.le_of_ble_eq_true rfl) (Nat.le_refl _) (c_readNoise (n := t50.2.2.1) (hHas_sub nd (as' := [q, qt, l]) (cs' := [(oC 5 (rdF qt p t74.2)), (aB 600 ft), (oC 3 [.ref (l + 1), .int t23.2.2.2.2.2.2.1, .int (nI t50.2.2.1), .int t74.2.2.2.2.2.2.1, .int 0, .int (isW t74.2.2.2.1 t74.2.2.2.2.2.1 [116, 104, 114, 101, 101] 5)])]) [0, 1, 4] rfl rfl) (nd_sub nd (as' := [q, qt, l]) [0, 1, 4] rfl rfl) k74 ?_)
                refine w_heq (hUs_in nd rfl [0, 1, 4] (cs2 := [(oC 5 (rdF qt p (rNz ft t74.2 0).2.1)), (aB 600 ft), (oC 4 [.ref (p + 1), .ref (p + 10), .int (nI (P.1 + 1)), .int (nI P.2.1)]), (aR RX3 4 (plL p)), (oC 3 [.ref (l + 1), .int t23.2.2.2.2.2.2.1, .int (nI t50.2.2.1), .int t74.2.2.2.2.2.2.1, .int (rNz ft t74.2 0).2.2, .int (isW t74.2.2.2.1 t74.2.2.2.2.2.1 [116, 104, 114, 101, 101] 5)]), (aI 3 t50.2.2.2)]) rfl rfl) ?_
                have k122 : rOk (rNz ft t74.2 0).2.1 := rNz_ok ft 0 k74
                generalize e122 : rNz ft t74.2 0 = t122 at k122 ⊢
                refine w_if_eq (tgt := 132) dX5_readLoop_125 rfl (fun b125 => ?_) (fun b125 => ?_)
                · refine w_iconst (v := 0) dX5_readLoop_132 (by decide) ?_
                  refine w_zreturn rfl dX5_readLoop_133 rfl (Nat.le_of_ble_eq_true rfl) (Nat.le_of_ble_eq_true rfl) ?_
                  have e : rLp1 ft P x = (0, t122.2.1, (t23.2.2.2.2.2.2.1, t50.2.2.1, t50.2.2.2, t74.2.2.2.2.2.2.1, t122.2.2, isW t74.2.2.2.1 t74.2.2.2.2.2.1 [116, 104, 114, 101, 101] 5)) := by
                    rw [rLp1, e19, e23, if_neg b26, rLp2, e42, if_neg b45, rLp3, e50, if_neg b53, rLp4, e61, if_neg b64, rLp5, e74, if_neg b77, rLp6, if_pos b104, rLp7, if_neg b117, e122, if_pos b125]
                  rw [rLp, if_pos hn, e] at k
                  exact k _ ⟨hUs_at nd 0 rfl rfl, hUs_at nd 1 rfl rfl, hPl_L hb.2.2.1 hb.2.2.2 hn hl (by omega), hb.2.2.2⟩ (rFr_L (hb.2.1.trans (hUs_at nd 1 rfl rfl).symm) hn hl)
                · refine w_iconst (v := 1) dX5_readLoop_128 (by decide) ?_
                  refine w_goto (tgt := 133) dX5_readLoop_129 rfl ?_
                  refine w_zreturn rfl dX5_readLoop_133 rfl (Nat.le_of_ble_eq_true rfl) (Nat.le_of_ble_eq_true rfl) ?_
                  have e : rLp1 ft P x = (1, t122.2.1, (t23.2.2.2.2.2.2.1, t50.2.2.1, t50.2.2.2, t74.2.2.2.2.2.2.1, t122.2.2, isW t74.2.2.2.1 t74.2.2.2.2.2.1 [116, 104, 114, 101, 101] 5)) := by
                    rw [rLp1, e19, e23, if_neg b26, rLp2, e42, if_neg b45, rLp3, e50, if_neg b53, rLp4, e61, if_neg b64, rLp5, e74, if_neg b77, rLp6, if_pos b104, rLp7, if_neg b117, e122, if_neg b125]
                  rw [rLp, if_pos hn, e] at k
                  exact k _ ⟨hUs_at nd 0 rfl rfl, hUs_at nd 1 rfl rfl, hPl_L hb.2.2.1 hb.2.2.2 hn hl (by omega), hb.2.2.2⟩ (rFr_L (hb.2.1.trans (hUs_at nd 1 rfl rfl).symm) hn hl)
            · refine w_aload_n dX5_readLoop_107 rfl ?_
              refine w_callV (ci := 5) (d' := d + 9) (mc' := 0) (ms' := 0) (As := []) (st := []) lX5_41 vX5_step rfl (hUs_at nd 0 rfl rfl) rfl (Nat.le_of_ble_eq_true rfl) dX5_readLoop_108 (Nat.le_of_ble_eq_true rfl) (Nat.le_of_ble_eq_true rfl) (Nat.le_refl _) (c_step  (hHas_sub nd (as' := [q, qt]) (cs' := [(oC 5 (rdF qt p t74.2)), (aB 600 ft)]) [0, 1] rfl rfl) (nd_sub nd (as' := [q, qt]) [0, 1] rfl rfl) k74 ?_)
              refine w_heq (hUs_in nd rfl [0, 1] (cs2 := [(oC 5 (rdF qt p (rStp ft t74.2))), (aB 600 ft), (oC 4 [.ref (p + 1), .ref (p + 10), .int (nI (P.1 + 1)), .int (nI P.2.1)]), (aR RX3 4 (plL p)), (oC 3 [.ref (l + 1), .int t23.2.2.2.2.2.2.1, .int (nI t50.2.2.1), .int t74.2.2.2.2.2.2.1, .int 0, .int (isW t74.2.2.2.1 t74.2.2.2.2.2.1 [116, 104, 114, 101, 101] 5)]), (aI 3 t50.2.2.2)]) rfl rfl) ?_
              have k108 : rOk (rStp ft t74.2) := rStp_ok _ k74
              generalize e108 : rStp ft t74.2 = t108 at k108 ⊢
              refine w_aload_n dX5_readLoop_111 rfl ?_
              refine w_ldcS (i := 5) rfl rfl rfl dX5_readLoop_112 ?_
              refine w_callV (ci := 5) (d' := d + 9) (mc' := 0) (ms' := 0) (As := [.ref (G.2.2.1 5)]) (st := []) lX5_46 vX5_isWord rfl (hUs_at nd 0 rfl rfl) rfl (Nat.le_of_ble_eq_true rfl) dX5_readLoop_114 (Nat.le_of_ble_eq_true rfl) (Nat.le_of_ble_eq_true rfl) (Nat.le_refl _) (c_isWord (i := 5) rfl (hHas_sub nd (as' := [q]) (cs' := [(oC 5 (rdF qt p t108))]) [0] rfl rfl) ?_)
              refine w_if_eq (tgt := 128) dX5_readLoop_117 rfl (fun b117 => ?_) (fun b117 => ?_)
              · refine w_iconst (v := 1) dX5_readLoop_128 (by decide) ?_
                refine w_goto (tgt := 133) dX5_readLoop_129 rfl ?_
                refine w_zreturn rfl dX5_readLoop_133 rfl (Nat.le_of_ble_eq_true rfl) (Nat.le_of_ble_eq_true rfl) ?_
                have e : rLp1 ft P x = (1, t108, (t23.2.2.2.2.2.2.1, t50.2.2.1, t50.2.2.2, t74.2.2.2.2.2.2.1, 0, isW t74.2.2.2.1 t74.2.2.2.2.2.1 [116, 104, 114, 101, 101] 5)) := by
                  rw [rLp1, e19, e23, if_neg b26, rLp2, e42, if_neg b45, rLp3, e50, if_neg b53, rLp4, e61, if_neg b64, rLp5, e74, if_neg b77, rLp6, if_neg b104, e108, rLp7, if_pos b117]
                rw [rLp, if_pos hn, e] at k
                exact k _ ⟨hUs_at nd 0 rfl rfl, hUs_at nd 1 rfl rfl, hPl_L hb.2.2.1 hb.2.2.2 hn hl (by omega), hb.2.2.2⟩ (rFr_L (hb.2.1.trans (hUs_at nd 1 rfl rfl).symm) hn hl)
              · refine w_aload_n dX5_readLoop_120 rfl ?_
                refine w_aload_n dX5_readLoop_121 rfl ?_
                refine w_callV (ci := 5) (d' := d + 9) (mc' := 0) (ms' := 0) (As := [.ref l]) (st := []) lX5_109 vX5_readNoise rfl (hUs_at nd 0 rfl rfl) rfl (Nat.le_of_ble_eq_true rfl) dX5_readLoop_122 (Nat.le_of_ble_eq_true rfl) (Nat.le_of_ble_eq_true rfl) (Nat.le_refl _) (c_readNoise (n := t50.2.2.1) (hHas_sub nd (as' := [q, qt, l]) (cs' := [(oC 5 (rdF qt p t108)), (aB 600 ft), (oC 3 [.ref (l + 1), .int t23.2.2.2.2.2.2.1, .int (nI t50.2.2.1), .int t74.2.2.2.2.2.2.1, .int 0, .int (isW t74.2.2.2.1 t74.2.2.2.2.2.1 [116, 104, 114, 101, 101] 5)])]) [0, 1, 4] rfl rfl) (nd_sub nd (as' := [q, qt, l]) [0, 1, 4] rfl rfl) k108 ?_)
                refine w_heq (hUs_in nd rfl [0, 1, 4] (cs2 := [(oC 5 (rdF qt p (rNz ft t108 0).2.1)), (aB 600 ft), (oC 4 [.ref (p + 1), .ref (p + 10), .int (nI (P.1 + 1)), .int (nI P.2.1)]), (aR RX3 4 (plL p)), (oC 3 [.ref (l + 1), .int t23.2.2.2.2.2.2.1, .int (nI t50.2.2.1), .int t74.2.2.2.2.2.2.1, .int (rNz ft t108 0).2.2, .int (isW t74.2.2.2.1 t74.2.2.2.2.2.1 [116, 104, 114, 101, 101] 5)]), (aI 3 t50.2.2.2)]) rfl rfl) ?_
                have k122 : rOk (rNz ft t108 0).2.1 := rNz_ok ft 0 k108
                generalize e122 : rNz ft t108 0 = t122 at k122 ⊢
                refine w_if_eq (tgt := 132) dX5_readLoop_125 rfl (fun b125 => ?_) (fun b125 => ?_)
                · refine w_iconst (v := 0) dX5_readLoop_132 (by decide) ?_
                  refine w_zreturn rfl dX5_readLoop_133 rfl (Nat.le_of_ble_eq_true rfl) (Nat.le_of_ble_eq_true rfl) ?_
                  have e : rLp1 ft P x = (0, t122.2.1, (t23.2.2.2.2.2.2.1, t50.2.2.1, t50.2.2.2, t74.2.2.2.2.2.2.1, t122.2.2, isW t74.2.2.2.1 t74.2.2.2.2.2.1 [116, 104, 114, 101, 101] 5)) := by
                    rw [rLp1, e19, e23, if_neg b26, rLp2, e42, if_neg b45, rLp3, e50, if_neg b53, rLp4, e61, if_neg b64, rLp5, e74, if_neg b77, rLp6, if_neg b104, e108, rLp7, if_neg b117, e122, if_pos b125]
                  rw [rLp, if_pos hn, e] at k
                  exact k _ ⟨hUs_at nd 0 rfl rfl, hUs_at nd 1 rfl rfl, hPl_L hb.2.2.1 hb.2.2.2 hn hl (by omega), hb.2.2.2⟩ (rFr_L (hb.2.1.trans (hUs_at nd 1 rfl rfl).symm) hn hl)
                · refine w_iconst (v := 1) dX5_readLoop_128 (by decide) ?_
                  refine w_goto (tgt := 133) dX5_readLoop_129 rfl ?_
                  refine w_zreturn rfl dX5_readLoop_133 rfl (Nat.le_of_ble_eq_true rfl) (Nat.le_of_ble_eq_true rfl) ?_
                  have e : rLp1 ft P x = (1, t122.2.1, (t23.2.2.2.2.2.2.1, t50.2.2.1, t50.2.2.2, t74.2.2.2.2.2.2.1, t122.2.2, isW t74.2.2.2.1 t74.2.2.2.2.2.1 [116, 104, 114, 101, 101] 5)) := by
                    rw [rLp1, e19, e23, if_neg b26, rLp2, e42, if_neg b45, rLp3, e50, if_neg b53, rLp4, e61, if_neg b64, rLp5, e74, if_neg b77, rLp6, if_neg b104, e108, rLp7, if_neg b117, e122, if_neg b125]
                  rw [rLp, if_pos hn, e] at k
                  exact k _ ⟨hUs_at nd 0 rfl rfl, hUs_at nd 1 rfl rfl, hPl_L hb.2.2.1 hb.2.2.2 hn hl (by omega), hb.2.2.2⟩ (rFr_L (hb.2.1.trans (hUs_at nd 1 rfl rfl).symm) hn hl)
          · refine w_iconst (v := 0) dX5_readLoop_80 (by decide) ?_
            refine w_zreturn rfl dX5_readLoop_81 rfl (Nat.le_of_ble_eq_true rfl) (Nat.le_of_ble_eq_true rfl) ?_
            have e : rLp1 ft P x = (0, t74.2, (t23.2.2.2.2.2.2.1, t50.2.2.1, t50.2.2.2, 0, 0, 0)) := by
              rw [rLp1, e19, e23, if_neg b26, rLp2, e42, if_neg b45, rLp3, e50, if_neg b53, rLp4, e61, if_neg b64, rLp5, e74, if_pos b77]
            rw [rLp, if_pos hn, e] at k
            exact k _ ⟨hUs_at nd 0 rfl rfl, hUs_at nd 1 rfl rfl, hPl_L hb.2.2.1 hb.2.2.2 hn hl (by omega), hb.2.2.2⟩ (rFr_L (hb.2.1.trans (hUs_at nd 1 rfl rfl).symm) hn hl)
      · refine w_iconst (v := 0) dX5_readLoop_56 (by decide) ?_
        refine w_zreturn rfl dX5_readLoop_57 rfl (Nat.le_of_ble_eq_true rfl) (Nat.le_of_ble_eq_true rfl) ?_
        have e : rLp1 ft P x = (0, t50.2.1, (t23.2.2.2.2.2.2.1, t50.2.2.1, t50.2.2.2, 0, 0, 0)) := by
          rw [rLp1, e19, e23, if_neg b26, rLp2, e42, if_neg b45, rLp3, e50, if_pos b53]
        rw [rLp, if_pos hn, e] at k
        exact k _ ⟨hUs_at nd 0 rfl rfl, hUs_at nd 1 rfl rfl, hPl_L hb.2.2.1 hb.2.2.2 hn hl (by omega), hb.2.2.2⟩ (rFr_L (hb.2.1.trans (hUs_at nd 1 rfl rfl).symm) hn hl)
  · refine w_iconst (v := 0) dX5_readLoop_29 (by decide) ?_
    refine w_zreturn rfl dX5_readLoop_30 rfl (Nat.le_of_ble_eq_true rfl) (Nat.le_of_ble_eq_true rfl) ?_
    have e : rLp1 ft P x = (0, t23.2, (0, 0, fun _ => 0, 0, 0, 0)) := by
      rw [rLp1, e19, e23, if_pos b26]; rfl
    rw [rLp, if_pos hn, e] at k
    exact k _ ⟨hUs_at nd 0 rfl rfl, hUs_at nd 1 rfl rfl, hPl_L hb.2.2.1 hb.2.2.2 hn hl (by omega), hb.2.2.2⟩ (rFr_L (hb.2.1.trans (hUs_at nd 1 rfl rfl).symm) hn hl)
theorem rB_u {h : hH} {q qt p : Nat} {ft : Nat → Int32} {x x2 : rD} {P : pD} (hb : rB h q qt p ft x P) : rB (hUs h [q, qt, p] [oC 5 (rdF qt p x2), aB 600 ft, oC 4 (plF p P.1 P.2.1)]) q qt p ft x2 P := by
  obtain ⟨b1, b2, b3, b4⟩ := hb
  have nd : [q, qt, p].Nodup := nd_sub (ndL b4 (j := 0) (by omega) rfl) [0, 1, 2] rfl rfl
  refine ⟨hUs_at nd 0 rfl rfl, hUs_at nd 1 rfl rfl, ?_, b4⟩
  obtain ⟨a1, a2, a3⟩ := b4
  obtain ⟨p1, p2, p3, p4, p5, p6⟩ := b3
  refine ⟨p1, hUs_at nd 2 rfl rfl, ?_, ?_, ?_, ?_⟩
  · rw [hUs_ne (by simp; omega)]; exact p3
  · rw [hUs_ne (by simp; omega)]; exact p4
  · intro i hi
    exact hHas_ne (p5 i hi) (fun b hb => hUs_ne (by simp at hb ⊢; omega))
  · intro i hi
    exact hHas_ne (p6 i hi) (fun b hb => hUs_ne (by simp at hb ⊢; omega))
theorem rFr_u {h : hH} {q qt p : Nat} {ft : Nat → Int32} {x x2 : rD} {P : pD} (hb : rB h q qt p ft x P) : rFr q p h (hUs h [q, qt, p] [oC 5 (rdF qt p x2), aB 600 ft, oC 4 (plF p P.1 P.2.1)]) := by
  have nd : [q, qt, p].Nodup := nd_sub (ndL hb.2.2.2 (j := 0) (by omega) rfl) [0, 1, 2] rfl rfl
  refine ⟨hUs_2, fun a h1 h2 => ?_⟩
  by_cases z : a = qt
  · subst z; rw [hb.2.1]; exact hUs_at nd 1 rfl rfl
  · exact hUs_ne (by simp; omega)
set_option maxRecDepth 100000 in
set_option maxHeartbeats 4000000 in
theorem c_readLoop_n {G : wG} {d : Nat} {h : hH} {Q : Option Value → hH → Prop} {q qt p : Nat} {x : rD} {ft : Nat → Int32} {P : pD} (hb : rB h q qt p ft x P) (hok : rOk x) (hn : P.1 = 4) (k : ∀ h2, rB h2 q qt p ft (rLp ft x P).2.1 (rLp ft x P).2.2 → rFr q p h h2 → Q (some (.int (rLp ft x P).1)) h2) : Cl G yX5_readLoop (d + 10) 0 0 [.ref q] h Q := by
  have nd : [q, qt, p].Nodup := nd_sub (ndL hb.2.2.2 (j := 0) (by omega) rfl) [0, 1, 2] rfl rfl
  have hw : hHas h [q, qt, p] [(oC 5 (rdF qt p x)), (aB 600 ft), (oC 4 [.ref (p + 1), .ref (p + 10), .int (nI P.1), .int (nI P.2.1)])] := hHas_cons hb.1 (hHas_cons hb.2.1 (hHas_cons hb.2.2.1.2.1 hHas_nil))
  refine Cl.of (ini := false) kX5_readLoop (plainFor_of_name (by decide)) (by decide) (Nat.le_of_ble_eq_true rfl) rfl rfl (fun z => by cases z) ?_
  refine w_heq (hUs_id hw).symm ?_
  refine w_aload_n dX5_readLoop_0 rfl ?_
  refine w_get (v := .ref p) fX5_18 (hUs_at nd 0 rfl rfl) rfl dX5_readLoop_1 ?_
  refine w_callV (ci := 4) (d' := d + 9) (mc' := 0) (ms' := 0) (As := []) (st := []) lX5_70 vX4_addLoop rfl (hUs_at nd 2 rfl rfl) rfl (Nat.le_of_ble_eq_true rfl) dX5_readLoop_4 (Nat.le_of_ble_eq_true rfl) (Nat.le_of_ble_eq_true rfl) (Nat.le_refl _) (c_addLoop_n (hHas_sub nd (as' := [p]) (cs' := [(oC 4 [.ref (p + 1), .ref (p + 10), .int (nI P.1), .int (nI P.2.1)])]) [2] rfl rfl) hn ?_)
  refine w_astore_nN (ls2 := [some (.ref q), some (.null)]) dX5_readLoop_7 (by decide) rfl rfl ?_
  refine w_aload_nN dX5_readLoop_8 rfl ?_
  refine w_ifnonnullN dX5_readLoop_9 ?_
  refine w_aload_n dX5_readLoop_12 rfl ?_
  refine w_iconst (v := 4) dX5_readLoop_13 (by decide) ?_
  refine w_callV (ci := 5) (d' := d + 9) (mc' := 0) (ms' := 0) (As := [.int 4]) (st := []) lX5_59 vX5_failed rfl (hUs_at nd 0 rfl rfl) rfl (Nat.le_of_ble_eq_true rfl) dX5_readLoop_14 (Nat.le_of_ble_eq_true rfl) (Nat.le_of_ble_eq_true rfl) (Nat.le_refl _) (c_failed (hHas_sub nd (as' := [q]) (cs' := [(oC 5 (rdF qt p x))]) [0] rfl rfl) (nd_sub nd (as' := [q]) [0] rfl rfl) ?_)
  refine w_heq (hUs_in nd rfl [0] (cs2 := [(oC 5 (rdF qt p (rFl x 4 (nI x.2.2.2.1)))), (aB 600 ft), (oC 4 [.ref (p + 1), .ref (p + 10), .int (nI P.1), .int (nI P.2.1)])]) rfl rfl) ?_
  refine w_zreturn rfl dX5_readLoop_17 rfl (Nat.le_of_ble_eq_true rfl) (Nat.le_of_ble_eq_true rfl) ?_
  rw [rLp, if_neg (by omega)] at k
  exact k _ (rB_u hb) (rFr_u hb)
theorem c_readLoop {G : wG} {d : Nat} {h : hH} {Q : Option Value → hH → Prop} {q qt p : Nat} {x : rD} {ft : Nat → Int32} {P : pD} (hb : rB h q qt p ft x P) (hok : rOk x) (k : ∀ h2, rB h2 q qt p ft (rLp ft x P).2.1 (rLp ft x P).2.2 → rFr q p h h2 → Q (some (.int (rLp ft x P).1)) h2) : Cl G yX5_readLoop (d + 10) 0 0 [.ref q] h Q := by
  by_cases z : P.1 < 4
  · exact c_readLoop_s hb hok z rfl k
  · exact c_readLoop_n hb hok (by have := hb.2.2.1.1; omega) k
