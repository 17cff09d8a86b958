theorem wgt_step (Y i : Nat) : (fun t => if t < 1 + (i + 1) * (Y - 1) then wgtS (wgtF Y i) Y t else wgtF Y i t) = wgtF Y (i + 1) := rfl
theorem wgt_len {Y i : Nat} : 1 + i * (Y - 1) + (Y - 1) = 1 + (i + 1) * (Y - 1) := by
  rw [Nat.succ_mul]
  omega
set_option maxRecDepth 100000 in
set_option maxHeartbeats 4000000 in
theorem l_prepare {G : wG} {d : Nat} {h : hH} {Q : Option Value → hH → Prop} {q qr M Y : Nat} (nd : [q, qr].Nodup) (hM : M ≤ 3) (hY : 2 ≤ Y) (hY2 : Y ≤ 32) (k : Q none (hUs h [q, qr] [oC 8 [.ref qr, .int (nI (1 + M * (Y - 1)))], aI 94 (wgtF Y M)])) : ∀ (n : Nat) (i : Nat), i + n = M → WP G RX8 cX8_prepare 4 none false (d + 1) 0 0 0 0 Q 22 [some (.ref q), some (.int (nI M)), some (.int (nI Y)), some (.int (nI i))] [] (hUs h [q, qr] [(oC 8 [.ref qr, .int (nI (1 + i * (Y - 1)))]), (aI 94 (wgtF Y i))]) := by
  intro n
  induction n with
  | zero =>
    intro i hi
    refine w_iload_n dX8_prepare_22 rfl ?_
    refine w_iload_n dX8_prepare_23 rfl ?_
    refine w_icmp_ge_t (tgt := 66) dX8_prepare_24 rfl ((nI_leI (a := M) (b := i) (by omega) (by omega)).mpr (by omega)) ?_
    refine w_return rfl dX8_prepare_66 (Nat.le_of_ble_eq_true rfl) (Nat.le_of_ble_eq_true rfl) ?_
    have z : i = M := by omega
    subst z
    exact k
  | succ n ih =>
    intro i hi
    have hMY : M * (Y - 1) ≤ 93 := Nat.le_trans (Nat.mul_le_mul hM (show Y - 1 ≤ 31 by omega)) (by decide)
    have hiY : (i + 1) * (Y - 1) ≤ M * (Y - 1) := Nat.mul_le_mul_right _ (by omega)
    have hs := wgt_len (Y := Y) (i := i)
    refine w_iload_n dX8_prepare_22 rfl ?_
    refine w_iload_n dX8_prepare_23 rfl ?_
    refine w_icmp_ge_f (tgt := 66) dX8_prepare_24 rfl (fun z => absurd ((nI_leI (a := M) (b := i) (by omega) (by omega)).mp z) (by omega)) ?_
    refine w_aload_n dX8_prepare_27 rfl ?_
    refine w_get (v := .int (nI (1 + i * (Y - 1)))) fX8_21 (hUs_at nd 0 rfl rfl) rfl dX8_prepare_28 ?_
    refine w_iload_n dX8_prepare_31 rfl ?_
    refine w_iaddE (z := nI ((1 + i * (Y - 1)) + Y)) dX8_prepare_32 (nI_add ((1 + i * (Y - 1))) (Y)) ?_
    refine w_iconst (v := 1) dX8_prepare_33 (by decide) ?_
    refine w_isubE (z := nI (((1 + i * (Y - 1)) + Y) - 1)) dX8_prepare_34 (pk_sub (a := ((1 + i * (Y - 1)) + Y)) (b := 1) (by omega)) ?_
    refine w_aload_n dX8_prepare_35 rfl ?_
    refine w_get (v := .ref qr) fX8_9 (hUs_at nd 0 rfl rfl) rfl dX8_prepare_36 ?_
    refine w_alen (v := (nI 94)) (hUs_at nd 1 rfl rfl) rfl dX8_prepare_39 ?_
    refine w_icmp_gt_f (tgt := 66) dX8_prepare_40 rfl (fun z => absurd ((nI_ltI (a := 94) (b := (((1 + i * (Y - 1)) + Y) - 1)) (by omega) (by omega)).mp z) (by omega)) ?_
    refine w_aload_n dX8_prepare_43 rfl ?_
    refine w_dup dX8_prepare_44 rfl ?_
    refine w_get (v := .int (nI (1 + i * (Y - 1)))) fX8_21 (hUs_at nd 0 rfl rfl) rfl dX8_prepare_45 ?_
    refine w_iload_n dX8_prepare_48 rfl ?_
    refine w_iconst (v := 1) dX8_prepare_49 (by decide) ?_
    refine w_isubE (z := nI (Y - 1)) dX8_prepare_50 (pk_sub (a := Y) (b := 1) (by omega)) ?_
    refine w_iaddE (z := nI ((1 + i * (Y - 1)) + (Y - 1))) dX8_prepare_51 (nI_add ((1 + i * (Y - 1))) ((Y - 1))) ?_
    refine w_put (fs' := [.ref qr, .int (nI ((1 + i * (Y - 1)) + (Y - 1)))]) fX8_21 (hUs_at nd 0 rfl rfl) rfl rfl (Nat.le_of_ble_eq_true rfl) rfl dX8_prepare_52 ?_
    refine w_heq (hUs_set nd rfl 0 (cs' := [(oC 8 [.ref qr, .int (nI ((1 + i * (Y - 1)) + (Y - 1)))]), (aI 94 (wgtF Y i))]) rfl rfl) ?_
    refine w_heq (h2 := hUs h [q, qr] [(oC 8 [.ref qr, .int (nI (1 + (i + 1) * (Y - 1)))]), (aI 94 (wgtF Y i))]) (by rw [wgt_len]) ?_
    refine w_aload_n dX8_prepare_55 rfl ?_
    refine w_iload_n dX8_prepare_56 rfl ?_
    refine w_callV (ci := 8) (d' := d) (mc' := 0) (ms' := 0) (As := [.int (nI Y)]) (st := []) lX8_25 vX8_addUp rfl (hUs_at nd 0 rfl rfl) rfl (Nat.le_of_ble_eq_true rfl) dX8_prepare_57 (Nat.le_of_ble_eq_true rfl) (Nat.le_of_ble_eq_true rfl) (Nat.le_refl _) (c_addUp (hHas_sub nd (as' := [q, qr]) (cs' := [(oC 8 [.ref qr, .int (nI (1 + (i + 1) * (Y - 1)))]), (aI 94 (wgtF Y i))]) [0, 1] rfl rfl) (nd_sub nd (as' := [q, qr]) [0, 1] rfl rfl) (by omega) (by omega) ?_)
    refine w_heq (hUs_in nd rfl [0, 1] (cs2 := [(oC 8 [.ref qr, .int (nI (1 + (i + 1) * (Y - 1)))]), (aI 94 (fun t => if t < (1 + (i + 1) * (Y - 1)) then wgtS (wgtF Y i) Y t else (wgtF Y i) t))]) rfl rfl) ?_
    refine w_iinc (v := nI (i + 1)) (ls2 := [some (.ref q), some (.int (nI M)), some (.int (nI Y)), some (.int (nI (i + 1)))]) dX8_prepare_60 rfl (nI_1 _) (by decide) rfl rfl ?_
    refine w_goto (tgt := 22) dX8_prepare_63 rfl ?_
    exact ih (i + 1) (by omega)
set_option maxRecDepth 100000 in
set_option maxHeartbeats 4000000 in
theorem c_prepare {G : wG} {d : Nat} {h : hH} {Q : Option Value → hH → Prop} {q qr M Y : Nat} {x : Int32} {f : Nat → Int32} (hw : hHas h [q, qr] [(oC 8 [.ref qr, .int x]), (aI 94 f)]) (nd : [q, qr].Nodup) (hM : M ≤ 3) (hY : 2 ≤ Y) (hY2 : Y ≤ 32) (k : Q none (hUs h [q, qr] [oC 8 [.ref qr, .int (nI (1 + M * (Y - 1)))], aI 94 (wgtF Y M)])) : Cl G yX8_prepare (d + 1) 0 0 [.ref q, .int (nI M), .int (nI Y)] h Q := by
  refine Cl.of (ini := false) kX8_prepare (plainFor_of_name (by decide)) (by decide) (Nat.le_of_ble_eq_true rfl) rfl rfl (fun z => by cases z) ?_
  refine w_heq (hUs_id hw).symm ?_
  refine w_aload_n dX8_prepare_0 rfl ?_
  refine w_get (v := .ref qr) fX8_9 (hUs_at nd 0 rfl rfl) rfl dX8_prepare_1 ?_
  refine w_iconst (v := 0) dX8_prepare_4 (by decide) ?_
  refine w_callS (d' := d) (mc' := 0) (ms' := 0) (As := [.ref qr, .int 0]) (st := []) lX8_15 vJ7_fill_53178 rfl (Nat.le_of_ble_eq_true rfl) dX8_prepare_5 (Nat.le_of_ble_eq_true rfl) (Nat.le_of_ble_eq_true rfl) (Nat.le_refl _) (c_fill (hHas_sub nd (as' := [qr]) (cs' := [(aI 94 f)]) [1] rfl rfl) (nd_sub nd (as' := [qr]) [1] rfl rfl) (by decide) ?_)
  refine w_heq (hUs_in nd rfl [1] (cs2 := [(oC 8 [.ref qr, .int x]), (aI 94 (fun _ => 0))]) rfl rfl) ?_
  refine w_aload_n dX8_prepare_8 rfl ?_
  refine w_get (v := .ref qr) fX8_9 (hUs_at nd 0 rfl rfl) rfl dX8_prepare_9 ?_
  refine w_iconst (v := (nI 0)) dX8_prepare_12 (by decide) ?_
  refine w_iconst (v := 1) dX8_prepare_13 (by decide) ?_
  refine w_iastoreN (hUs_at nd 1 rfl rfl) (by omega) (by omega) dX8_prepare_14 ?_
  refine w_heq (hUs_set nd rfl 1 (cs' := [(oC 8 [.ref qr, .int x]), (aI 94 (upd (fun _ => 0) 0 1))]) rfl rfl) ?_
  refine w_aload_n dX8_prepare_15 rfl ?_
  refine w_iconst (v := (nI 1)) dX8_prepare_16 (by decide) ?_
  refine w_put (fs' := [.ref qr, .int (nI 1)]) fX8_21 (hUs_at nd 0 rfl rfl) rfl rfl (Nat.le_of_ble_eq_true rfl) rfl dX8_prepare_17 ?_
  refine w_heq (hUs_set nd rfl 0 (cs' := [(oC 8 [.ref qr, .int (nI 1)]), (aI 94 (upd (fun _ => 0) 0 1))]) rfl rfl) ?_
  refine w_iconst (v := (nI 0)) dX8_prepare_20 (by decide) ?_
  refine w_istore_n (ls2 := [some (.ref q), some (.int (nI M)), some (.int (nI Y)), some (.int (nI 0))]) dX8_prepare_21 (by decide) rfl rfl ?_
  refine w_wext nd rfl 1 (wgtF Y 0) rfl rfl rfl (fun t ht => by simp only [upd, wgtF]) ?_
  refine w_heq (h2 := hUs h [q, qr] [(oC 8 [.ref qr, .int (nI (1 + 0 * (Y - 1)))]), (aI 94 (wgtF Y 0))]) (by rw [Nat.zero_mul]; rfl) ?_
  exact l_prepare nd hM hY hY2 k M 0 (by omega)
set_option maxRecDepth 100000 in
set_option maxHeartbeats 4000000 in
theorem c_drop {G : wG} {d : Nat} {h : hH} {Q : Option Value → hH → Prop} {q qc qv qs ql : Nat} {y1 y2 y3 y4 y5 y6 y7 cn rg cl : Int32} {su sa : Nat → Int32} (hw : hHas h [q, qc, qs, qv] [(oC 1 [.ref qc, .ref qv, .int y1, .int y2, .int y3, .int y4, .int y5, .int y6, .int y7]), (oC 0 [.ref qs, .ref ql, .int cn, .int rg, .int cl]), (aI 3 su), (aI 3 sa)]) (nd : [q, qc, qs, qv].Nodup) (k : Q none (hUs h [q, qc, qs, qv] [(oC 1 [.ref qc, .ref qv, .int 0, .int 0, .int y3, .int 0, .int 0, .int y6, .int y7]), (oC 0 [.ref qs, .ref ql, .int cn, .int rg, .int 0]), aI 3 su, aI 3 su])) : Cl G yX1_drop (d + 1) 0 0 [.ref q] h Q := by
  refine Cl.of (ini := false) kX1_drop (plainFor_of_name (by decide)) (by decide) (Nat.le_of_ble_eq_true rfl) rfl rfl (fun z => by cases z) ?_
  refine w_heq (hUs_id hw).symm ?_
  refine w_aload_n dX1_drop_0 rfl ?_
  refine w_get (v := .ref qc) fX1_12 (hUs_at nd 0 rfl rfl) rfl dX1_drop_1 ?_
  refine w_get (v := .ref qs) fX1_57 (hUs_at nd 1 rfl rfl) rfl dX1_drop_4 ?_
  refine w_iconst (v := 0) dX1_drop_7 (by decide) ?_
  refine w_aload_n dX1_drop_8 rfl ?_
  refine w_get (v := .ref qv) fX1_18 (hUs_at nd 0 rfl rfl) rfl dX1_drop_9 ?_
  refine w_iconst (v := 0) dX1_drop_12 (by decide) ?_
  refine w_aload_n dX1_drop_13 rfl ?_
  refine w_get (v := .ref qv) fX1_18 (hUs_at nd 0 rfl rfl) rfl dX1_drop_14 ?_
  refine w_alen (v := 3) (hUs_at nd 3 rfl rfl) rfl dX1_drop_17 ?_
  refine w_copy3 (hUs_at nd 2 rfl rfl) (hUs_at nd 3 rfl rfl) dX1_drop_18 ?_
  refine w_heq (hUs_set nd rfl 3 (cs' := [(oC 1 [.ref qc, .ref qv, .int y1, .int y2, .int y3, .int y4, .int y5, .int y6, .int y7]), (oC 0 [.ref qs, .ref ql, .int cn, .int rg, .int cl]), (aI 3 su), (aI 3 su)]) rfl rfl) ?_
  refine w_aload_n dX1_drop_21 rfl ?_
  refine w_get (v := .ref qc) fX1_12 (hUs_at nd 0 rfl rfl) rfl dX1_drop_22 ?_
  refine w_iconst (v := 0) dX1_drop_25 (by decide) ?_
  refine w_put (fs' := [.ref qs, .ref ql, .int cn, .int rg, .int 0]) fX1_37 (hUs_at nd 1 rfl rfl) rfl rfl (Nat.le_of_ble_eq_true rfl) rfl dX1_drop_26 ?_
  refine w_heq (hUs_set nd rfl 1 (cs' := [(oC 1 [.ref qc, .ref qv, .int y1, .int y2, .int y3, .int y4, .int y5, .int y6, .int y7]), (oC 0 [.ref qs, .ref ql, .int cn, .int rg, .int 0]), (aI 3 su), (aI 3 su)]) rfl rfl) ?_
  refine w_aload_n dX1_drop_29 rfl ?_
  refine w_iconst (v := 0) dX1_drop_30 (by decide) ?_
  refine w_put (fs' := [.ref qc, .ref qv, .int 0, .int y2, .int y3, .int y4, .int y5, .int y6, .int y7]) fX1_66 (hUs_at nd 0 rfl rfl) rfl rfl (Nat.le_of_ble_eq_true rfl) rfl dX1_drop_31 ?_
  refine w_heq (hUs_set nd rfl 0 (cs' := [(oC 1 [.ref qc, .ref qv, .int 0, .int y2, .int y3, .int y4, .int y5, .int y6, .int y7]), (oC 0 [.ref qs, .ref ql, .int cn, .int rg, .int 0]), (aI 3 su), (aI 3 su)]) rfl rfl) ?_
  refine w_aload_n dX1_drop_34 rfl ?_
  refine w_iconst (v := 0) dX1_drop_35 (by decide) ?_
  refine w_put (fs' := [.ref qc, .ref qv, .int 0, .int 0, .int y3, .int y4, .int y5, .int y6, .int y7]) fX1_69 (hUs_at nd 0 rfl rfl) rfl rfl (Nat.le_of_ble_eq_true rfl) rfl dX1_drop_36 ?_
  refine w_heq (hUs_set nd rfl 0 (cs' := [(oC 1 [.ref qc, .ref qv, .int 0, .int 0, .int y3, .int y4, .int y5, .int y6, .int y7]), (oC 0 [.ref qs, .ref ql, .int cn, .int rg, .int 0]), (aI 3 su), (aI 3 su)]) rfl rfl) ?_
  refine w_aload_n dX1_drop_39 rfl ?_
  refine w_iconst (v := 0) dX1_drop_40 (by decide) ?_
  refine w_put (fs' := [.ref qc, .ref qv, .int 0, .int 0, .int y3, .int 0, .int y5, .int y6, .int y7]) fX1_72 (hUs_at nd 0 rfl rfl) rfl rfl (Nat.le_of_ble_eq_true rfl) rfl dX1_drop_41 ?_
  refine w_heq (hUs_set nd rfl 0 (cs' := [(oC 1 [.ref qc, .ref qv, .int 0, .int 0, .int y3, .int 0, .int y5, .int y6, .int y7]), (oC 0 [.ref qs, .ref ql, .int cn, .int rg, .int 0]), (aI 3 su), (aI 3 su)]) rfl rfl) ?_
  refine w_aload_n dX1_drop_44 rfl ?_
  refine w_iconst (v := 0) dX1_drop_45 (by decide) ?_
  refine w_put (fs' := [.ref qc, .ref qv, .int 0, .int 0, .int y3, .int 0, .int 0, .int y6, .int y7]) fX1_42 (hUs_at nd 0 rfl rfl) rfl rfl (Nat.le_of_ble_eq_true rfl) rfl dX1_drop_46 ?_
  refine w_heq (hUs_set nd rfl 0 (cs' := [(oC 1 [.ref qc, .ref qv, .int 0, .int 0, .int y3, .int 0, .int 0, .int y6, .int y7]), (oC 0 [.ref qs, .ref ql, .int cn, .int rg, .int 0]), (aI 3 su), (aI 3 su)]) rfl rfl) ?_
  refine w_return rfl dX1_drop_49 (Nat.le_of_ble_eq_true rfl) (Nat.le_of_ble_eq_true rfl) ?_
  exact k
/-- what a walk counts: lasting, outs, greatest, changes, first, last -/
abbrev cyS : Type := Int32 × Int32 × Int32 × Int32 × Int32 × Int32
def wlkF (L : lP) (o : Int32) (s : cS) (y : cyS) : cyS := (y.1 + 1, y.2.1 + o, mxI y.2.2.1 (abI (lstF L.1 s.1)), if y.1 = 0 then y.2.2.2.1 else if o = y.2.2.2.2.2 then y.2.2.2.1 else y.2.2.2.1 + 1, if y.1 = 0 then o else y.2.2.2.2.1, o)
set_option maxRecDepth 100000 in
set_option maxHeartbeats 4000000 in
theorem c_walk {G : wG} {d : Nat} {h : hH} {Q : Option Value → hH → Prop} {q qc qv qs ql qf : Nat} {yc nm nz v : Int32} {L : lP} {s : cS} {y : cyS} (hw : hHas h [q, qc, qs, ql, qf] [(oC 1 [.ref qc, .ref qv, .int y.1, .int y.2.1, .int yc, .int y.2.2.1, .int y.2.2.2.1, .int y.2.2.2.2.1, .int y.2.2.2.2.2]), (oC 0 [.ref qs, .ref ql, .int 0, .int s.2.1, .int s.2.2]), (aI 3 s.1), (oC 3 [.ref qf, .int nm, .int (nI L.1), .int L.2.2.1, .int nz, .int L.2.2.2]), (aI 3 L.2.1)]) (nd : [q, qc, qs, ql, qf].Nodup) (hn : L.1 ≤ 3) (k : Q none (hUs h [q, qc, qs, ql, qf] [(oC 1 [.ref qc, .ref qv, .int ((wlkF L (cOut L 0 s) s y).1), .int ((wlkF L (cOut L 0 s) s y).2.1), .int yc, .int ((wlkF L (cOut L 0 s) s y).2.2.1), .int ((wlkF L (cOut L 0 s) s y).2.2.2.1), .int ((wlkF L (cOut L 0 s) s y).2.2.2.2.1), .int ((wlkF L (cOut L 0 s) s y).2.2.2.2.2)]), (oC 0 [.ref qs, .ref ql, .int 0, .int ((cStp L 0 v s).2.1), .int ((cStp L 0 v s).2.2)]), (aI 3 ((cStp L 0 v s).1)), (oC 3 [.ref qf, .int nm, .int (nI L.1), .int L.2.2.1, .int nz, .int L.2.2.2]), (aI 3 L.2.1)])) : Cl G yX1_walk (d + 3) 0 0 [.ref q, .int v] h Q := by
  refine Cl.of (ini := false) kX1_walk (plainFor_of_name (by decide)) (by decide) (Nat.le_of_ble_eq_true rfl) rfl rfl (fun z => by cases z) ?_
  refine w_heq (hUs_id hw).symm ?_
  refine w_aload_n dX1_walk_0 rfl ?_
  refine w_aload_n dX1_walk_1 rfl ?_
  refine w_get (v := .int y.2.2.1) fX1_72 (hUs_at nd 0 rfl rfl) rfl dX1_walk_2 ?_
  refine w_aload_n dX1_walk_5 rfl ?_
  refine w_get (v := .ref qc) fX1_12 (hUs_at nd 0 rfl rfl) rfl dX1_walk_6 ?_
  refine w_callV (ci := 0) (d' := d + 2) (mc' := 0) (ms' := 0) (As := []) (st := [.int y.2.2.1, .ref q]) lX1_75 vX0_lastSum rfl (hUs_at nd 1 rfl rfl) rfl (Nat.le_of_ble_eq_true rfl) dX1_walk_9 (Nat.le_of_ble_eq_true rfl) (Nat.le_of_ble_eq_true rfl) (Nat.le_refl _) (c_lastSum (hHas_sub nd (as' := [qc, qs, ql]) (cs' := [(oC 0 [.ref qs, .ref ql, .int 0, .int s.2.1, .int s.2.2]), (aI 3 s.1), (oC 3 [.ref qf, .int nm, .int (nI L.1), .int L.2.2.1, .int nz, .int L.2.2.2])]) [1, 2, 3] rfl rfl) hn ?_)
  refine w_callS (d' := d + 2) (mc' := 0) (ms' := 0) (As := [.int (lstF L.1 s.1)]) (st := [.int y.2.2.1, .ref q]) lX1_79 vJ9_abs_0f7a4 rfl (Nat.le_of_ble_eq_true rfl) dX1_walk_12 (Nat.le_of_ble_eq_true rfl) (Nat.le_of_ble_eq_true rfl) (Nat.le_refl _) (c_abs ?_)
  refine w_callS (d' := d + 2) (mc' := 0) (ms' := 0) (As := [.int y.2.2.1, .int (abI (lstF L.1 s.1))]) (st := [.ref q]) lX1_83 vJ9_max_7cf53 rfl (Nat.le_of_ble_eq_true rfl) dX1_walk_15 (Nat.le_of_ble_eq_true rfl) (Nat.le_of_ble_eq_true rfl) (Nat.le_refl _) (c_max ?_)
  refine w_put (fs' := [.ref qc, .ref qv, .int y.1, .int y.2.1, .int yc, .int (mxI y.2.2.1 (abI (lstF L.1 s.1))), .int y.2.2.2.1, .int y.2.2.2.2.1, .int y.2.2.2.2.2]) fX1_72 (hUs_at nd 0 rfl rfl) rfl rfl (Nat.le_of_ble_eq_true rfl) rfl dX1_walk_18 ?_
  refine w_heq (hUs_set nd rfl 0 (cs' := [(oC 1 [.ref qc, .ref qv, .int y.1, .int y.2.1, .int yc, .int (mxI y.2.2.1 (abI (lstF L.1 s.1))), .int y.2.2.2.1, .int y.2.2.2.2.1, .int y.2.2.2.2.2]), (oC 0 [.ref qs, .ref ql, .int 0, .int s.2.1, .int s.2.2]), (aI 3 s.1), (oC 3 [.ref qf, .int nm, .int (nI L.1), .int L.2.2.1, .int nz, .int L.2.2.2]), (aI 3 L.2.1)]) rfl rfl) ?_
  refine w_aload_n dX1_walk_21 rfl ?_
  refine w_get (v := .ref qc) fX1_12 (hUs_at nd 0 rfl rfl) rfl dX1_walk_22 ?_
  refine w_iload_n dX1_walk_25 rfl ?_
  refine w_callV (ci := 0) (d' := d + 2) (mc' := 0) (ms' := 0) (As := [.int v]) (st := []) lX1_86 vX0_clock rfl (hUs_at nd 1 rfl rfl) rfl (Nat.le_of_ble_eq_true rfl) dX1_walk_26 (Nat.le_of_ble_eq_true rfl) (Nat.le_of_ble_eq_true rfl) (Nat.le_refl _) (c_clock (hHas_sub nd (as' := [qc, qs, ql, qf]) (cs' := [(oC 0 [.ref qs, .ref ql, .int 0, .int s.2.1, .int s.2.2]), (aI 3 s.1), (oC 3 [.ref qf, .int nm, .int (nI L.1), .int L.2.2.1, .int nz, .int L.2.2.2]), (aI 3 L.2.1)]) [1, 2, 3, 4] rfl rfl) (nd_sub nd (as' := [qc, qs, ql, qf]) [1, 2, 3, 4] rfl rfl) hn ?_)
  refine w_heq (hUs_in nd rfl [1, 2, 3, 4] (cs2 := [(oC 1 [.ref qc, .ref qv, .int y.1, .int y.2.1, .int yc, .int (mxI y.2.2.1 (abI (lstF L.1 s.1))), .int y.2.2.2.1, .int y.2.2.2.2.1, .int y.2.2.2.2.2]), (oC 0 [.ref qs, .ref ql, .int 0, .int ((cStp L 0 v s).2.1), .int ((cStp L 0 v s).2.2)]), (aI 3 ((cStp L 0 v s).1)), (oC 3 [.ref qf, .int nm, .int (nI L.1), .int L.2.2.1, .int nz, .int L.2.2.2]), (aI 3 L.2.1)]) rfl rfl) ?_
  refine w_istore_n (ls2 := [some (.ref q), some (.int v), some (.int (cOut L 0 s))]) dX1_walk_29 (by decide) rfl rfl ?_
  refine w_aload_n dX1_walk_30 rfl ?_
  refine w_get (v := .int y.1) fX1_66 (hUs_at nd 0 rfl rfl) rfl dX1_walk_31 ?_
  refine w_if_ne (tgt := 45) dX1_walk_34 rfl (fun b34 => ?_) (fun b34 => ?_)
  · refine w_iload_n dX1_walk_45 rfl ?_
    refine w_aload_n dX1_walk_46 rfl ?_
    refine w_get (v := .int y.2.2.2.2.2) fX1_48 (hUs_at nd 0 rfl rfl) rfl dX1_walk_47 ?_
    refine w_icmp_eq (tgt := 63) dX1_walk_50 rfl (fun b50 => ?_) (fun b50 => ?_)
    · refine w_aload_n dX1_walk_63 rfl ?_
      refine w_iload_n dX1_walk_64 rfl ?_
      refine w_put (fs' := [.ref qc, .ref qv, .int y.1, .int y.2.1, .int yc, .int (mxI y.2.2.1 (abI (lstF L.1 s.1))), .int y.2.2.2.1, .int y.2.2.2.2.1, .int (cOut L 0 s)]) fX1_48 (hUs_at nd 0 rfl rfl) rfl rfl (Nat.le_of_ble_eq_true rfl) rfl dX1_walk_65 ?_
      refine w_heq (hUs_set nd rfl 0 (cs' := [(oC 1 [.ref qc, .ref qv, .int y.1, .int y.2.1, .int yc, .int (mxI y.2.2.1 (abI (lstF L.1 s.1))), .int y.2.2.2.1, .int y.2.2.2.2.1, .int (cOut L 0 s)]), (oC 0 [.ref qs, .ref ql, .int 0, .int ((cStp L 0 v s).2.1), .int ((cStp L 0 v s).2.2)]), (aI 3 ((cStp L 0 v s).1)), (oC 3 [.ref qf, .int nm, .int (nI L.1), .int L.2.2.1, .int nz, .int L.2.2.2]), (aI 3 L.2.1)]) rfl rfl) ?_
      refine w_aload_n dX1_walk_68 rfl ?_
      refine w_dup dX1_walk_69 rfl ?_
      refine w_get (v := .int y.2.1) fX1_69 (hUs_at nd 0 rfl rfl) rfl dX1_walk_70 ?_
      refine w_iload_n dX1_walk_73 rfl ?_
      refine w_iadd dX1_walk_74 ?_
      refine w_put (fs' := [.ref qc, .ref qv, .int y.1, .int (y.2.1 + (cOut L 0 s)), .int yc, .int (mxI y.2.2.1 (abI (lstF L.1 s.1))), .int y.2.2.2.1, .int y.2.2.2.2.1, .int (cOut L 0 s)]) fX1_69 (hUs_at nd 0 rfl rfl) rfl rfl (Nat.le_of_ble_eq_true rfl) rfl dX1_walk_75 ?_
      refine w_heq (hUs_set nd rfl 0 (cs' := [(oC 1 [.ref qc, .ref qv, .int y.1, .int (y.2.1 + (cOut L 0 s)), .int yc, .int (mxI y.2.2.1 (abI (lstF L.1 s.1))), .int y.2.2.2.1, .int y.2.2.2.2.1, .int (cOut L 0 s)]), (oC 0 [.ref qs, .ref ql, .int 0, .int ((cStp L 0 v s).2.1), .int ((cStp L 0 v s).2.2)]), (aI 3 ((cStp L 0 v s).1)), (oC 3 [.ref qf, .int nm, .int (nI L.1), .int L.2.2.1, .int nz, .int L.2.2.2]), (aI 3 L.2.1)]) rfl rfl) ?_
      refine w_aload_n dX1_walk_78 rfl ?_
      refine w_dup dX1_walk_79 rfl ?_
      refine w_get (v := .int y.1) fX1_66 (hUs_at nd 0 rfl rfl) rfl dX1_walk_80 ?_
      refine w_iconst (v := 1) dX1_walk_83 (by decide) ?_
      refine w_iadd dX1_walk_84 ?_
      refine w_put (fs' := [.ref qc, .ref qv, .int (y.1 + 1), .int (y.2.1 + (cOut L 0 s)), .int yc, .int (mxI y.2.2.1 (abI (lstF L.1 s.1))), .int y.2.2.2.1, .int y.2.2.2.2.1, .int (cOut L 0 s)]) fX1_66 (hUs_at nd 0 rfl rfl) rfl rfl (Nat.le_of_ble_eq_true rfl) rfl dX1_walk_85 ?_
      refine w_heq (hUs_set nd rfl 0 (cs' := [(oC 1 [.ref qc, .ref qv, .int (y.1 + 1), .int (y.2.1 + (cOut L 0 s)), .int yc, .int (mxI y.2.2.1 (abI (lstF L.1 s.1))), .int y.2.2.2.1, .int y.2.2.2.2.1, .int (cOut L 0 s)]), (oC 0 [.ref qs, .ref ql, .int 0, .int ((cStp L 0 v s).2.1), .int ((cStp L 0 v s).2.2)]), (aI 3 ((cStp L 0 v s).1)), (oC 3 [.ref qf, .int nm, .int (nI L.1), .int L.2.2.1, .int nz, .int L.2.2.2]), (aI 3 L.2.1)]) rfl rfl) ?_
      refine w_return rfl dX1_walk_88 (Nat.le_of_ble_eq_true rfl) (Nat.le_of_ble_eq_true rfl) ?_
      simp only [wlkF, if_neg b34, if_pos b50] at k
      exact k
    · refine w_aload_n dX1_walk_53 rfl ?_
      refine w_dup dX1_walk_54 rfl ?_
      refine w_get (v := .int y.2.2.2.1) fX1_42 (hUs_at nd 0 rfl rfl) rfl dX1_walk_55 ?_
      refine w_iconst (v := 1) dX1_walk_58 (by decide) ?_
      refine w_iadd dX1_walk_59 ?_
      refine w_put (fs' := [.ref qc, .ref qv, .int y.1, .int y.2.1, .int yc, .int (mxI y.2.2.1 (abI (lstF L.1 s.1))), .int (y.2.2.2.1 + 1), .int y.2.2.2.2.1, .int y.2.2.2.2.2]) fX1_42 (hUs_at nd 0 rfl rfl) rfl rfl (Nat.le_of_ble_eq_true rfl) rfl dX1_walk_60 ?_
      refine w_heq (hUs_set nd rfl 0 (cs' := [(oC 1 [.ref qc, .ref qv, .int y.1, .int y.2.1, .int yc, .int (mxI y.2.2.1 (abI (lstF L.1 s.1))), .int (y.2.2.2.1 + 1), .int y.2.2.2.2.1, .int y.2.2.2.2.2]), (oC 0 [.ref qs, .ref ql, .int 0, .int ((cStp L 0 v s).2.1), .int ((cStp L 0 v s).2.2)]), (aI 3 ((cStp L 0 v s).1)), (oC 3 [.ref qf, .int nm, .int (nI L.1), .int L.2.2.1, .int nz, .int L.2.2.2]), (aI 3 L.2.1)]) rfl rfl) ?_
      refine w_aload_n dX1_walk_63 rfl ?_
      refine w_iload_n dX1_walk_64 rfl ?_
      refine w_put (fs' := [.ref qc, .ref qv, .int y.1, .int y.2.1, .int yc, .int (mxI y.2.2.1 (abI (lstF L.1 s.1))), .int (y.2.2.2.1 + 1), .int y.2.2.2.2.1, .int (cOut L 0 s)]) fX1_48 (hUs_at nd 0 rfl rfl) rfl rfl (Nat.le_of_ble_eq_true rfl) rfl dX1_walk_65 ?_
      refine w_heq (hUs_set nd rfl 0 (cs' := [(oC 1 [.ref qc, .ref qv, .int y.1, .int y.2.1, .int yc, .int (mxI y.2.2.1 (abI (lstF L.1 s.1))), .int (y.2.2.2.1 + 1), .int y.2.2.2.2.1, .int (cOut L 0 s)]), (oC 0 [.ref qs, .ref ql, .int 0, .int ((cStp L 0 v s).2.1), .int ((cStp L 0 v s).2.2)]), (aI 3 ((cStp L 0 v s).1)), (oC 3 [.ref qf, .int nm, .int (nI L.1), .int L.2.2.1, .int nz, .int L.2.2.2]), (aI 3 L.2.1)]) rfl rfl) ?_
      refine w_aload_n dX1_walk_68 rfl ?_
      refine w_dup dX1_walk_69 rfl ?_
      refine w_get (v := .int y.2.1) fX1_69 (hUs_at nd 0 rfl rfl) rfl dX1_walk_70 ?_
      refine w_iload_n dX1_walk_73 rfl ?_
      refine w_iadd dX1_walk_74 ?_
      refine w_put (fs' := [.ref qc, .ref qv, .int y.1, .int (y.2.1 + (cOut L 0 s)), .int yc, .int (mxI y.2.2.1 (abI (lstF L.1 s.1))), .int (y.2.2.2.1 + 1), .int y.2.2.2.2.1, .int (cOut L 0 s)]) fX1_69 (hUs_at nd 0 rfl rfl) rfl rfl (Nat.le_of_ble_eq_true rfl) rfl dX1_walk_75 ?_
      refine w_heq (hUs_set nd rfl 0 (cs' := [(oC 1 [.ref qc, .ref qv, .int y.1, .int (y.2.1 + (cOut L 0 s)), .int yc, .int (mxI y.2.2.1 (abI (lstF L.1 s.1))), .int (y.2.2.2.1 + 1), .int y.2.2.2.2.1, .int (cOut L 0 s)]), (oC 0 [.ref qs, .ref ql, .int 0, .int ((cStp L 0 v s).2.1), .int ((cStp L 0 v s).2.2)]), (aI 3 ((cStp L 0 v s).1)), (oC 3 [.ref qf, .int nm, .int (nI L.1), .int L.2.2.1, .int nz, .int L.2.2.2]), (aI 3 L.2.1)]) rfl rfl) ?_
      refine w_aload_n dX1_walk_78 rfl ?_
      refine w_dup dX1_walk_79 rfl ?_
      refine w_get (v := .int y.1) fX1_66 (hUs_at nd 0 rfl rfl) rfl dX1_walk_80 ?_
      refine w_iconst (v := 1) dX1_walk_83 (by decide) ?_
      refine w_iadd dX1_walk_84 ?_
      refine w_put (fs' := [.ref qc, .ref qv, .int (y.1 + 1), .int (y.2.1 + (cOut L 0 s)), .int yc, .int (mxI y.2.2.1 (abI (lstF L.1 s.1))), .int (y.2.2.2.1 + 1), .int y.2.2.2.2.1, .int (cOut L 0 s)]) fX1_66 (hUs_at nd 0 rfl rfl) rfl rfl (Nat.le_of_ble_eq_true rfl) rfl dX1_walk_85 ?_
      refine w_heq (hUs_set nd rfl 0 (cs' := [(oC 1 [.ref qc, .ref qv, .int (y.1 + 1), .int (y.2.1 + (cOut L 0 s)), .int yc, .int (mxI y.2.2.1 (abI (lstF L.1 s.1))), .int (y.2.2.2.1 + 1), .int y.2.2.2.2.1, .int (cOut L 0 s)]), (oC 0 [.ref qs, .ref ql, .int 0, .int ((cStp L 0 v s).2.1), .int ((cStp L 0 v s).2.2)]), (aI 3 ((cStp L 0 v s).1)), (oC 3 [.ref qf, .int nm, .int (nI L.1), .int L.2.2.1, .int nz, .int L.2.2.2]), (aI 3 L.2.1)]) rfl rfl) ?_
      refine w_return rfl dX1_walk_88 (Nat.le_of_ble_eq_true rfl) (Nat.le_of_ble_eq_true rfl) ?_
      simp only [wlkF, if_neg b34, if_neg b50] at k
      exact k
  · refine w_aload_n dX1_walk_37 rfl ?_
    refine w_iload_n dX1_walk_38 rfl ?_
    refine w_put (fs' := [.ref qc, .ref qv, .int y.1, .int y.2.1, .int yc, .int (mxI y.2.2.1 (abI (lstF L.1 s.1))), .int y.2.2.2.1, .int (cOut L 0 s), .int y.2.2.2.2.2]) fX1_45 (hUs_at nd 0 rfl rfl) rfl rfl (Nat.le_of_ble_eq_true rfl) rfl dX1_walk_39 ?_
    refine w_heq (hUs_set nd rfl 0 (cs' := [(oC 1 [.ref qc, .ref qv, .int y.1, .int y.2.1, .int yc, .int (mxI y.2.2.1 (abI (lstF L.1 s.1))), .int y.2.2.2.1, .int (cOut L 0 s), .int y.2.2.2.2.2]), (oC 0 [.ref qs, .ref ql, .int 0, .int ((cStp L 0 v s).2.1), .int ((cStp L 0 v s).2.2)]), (aI 3 ((cStp L 0 v s).1)), (oC 3 [.ref qf, .int nm, .int (nI L.1), .int L.2.2.1, .int nz, .int L.2.2.2]), (aI 3 L.2.1)]) rfl rfl) ?_
    refine w_goto (tgt := 63) dX1_walk_42 rfl ?_
    refine w_aload_n dX1_walk_63 rfl ?_
    refine w_iload_n dX1_walk_64 rfl ?_
    refine w_put (fs' := [.ref qc, .ref qv, .int y.1, .int y.2.1, .int yc, .int (mxI y.2.2.1 (abI (lstF L.1 s.1))), .int y.2.2.2.1, .int (cOut L 0 s), .int (cOut L 0 s)]) fX1_48 (hUs_at nd 0 rfl rfl) rfl rfl (Nat.le_of_ble_eq_true rfl) rfl dX1_walk_65 ?_
    refine w_heq (hUs_set nd rfl 0 (cs' := [(oC 1 [.ref qc, .ref qv, .int y.1, .int y.2.1, .int yc, .int (mxI y.2.2.1 (abI (lstF L.1 s.1))), .int y.2.2.2.1, .int (cOut L 0 s), .int (cOut L 0 s)]), (oC 0 [.ref qs, .ref ql, .int 0, .int ((cStp L 0 v s).2.1), .int ((cStp L 0 v s).2.2)]), (aI 3 ((cStp L 0 v s).1)), (oC 3 [.ref qf, .int nm, .int (nI L.1), .int L.2.2.1, .int nz, .int L.2.2.2]), (aI 3 L.2.1)]) rfl rfl) ?_
    refine w_aload_n dX1_walk_68 rfl ?_
    refine w_dup dX1_walk_69 rfl ?_
    refine w_get (v := .int y.2.1) fX1_69 (hUs_at nd 0 rfl rfl) rfl dX1_walk_70 ?_
    refine w_iload_n dX1_walk_73 rfl ?_
    refine w_iadd dX1_walk_74 ?_
    refine w_put (fs' := [.ref qc, .ref qv, .int y.1, .int (y.2.1 + (cOut L 0 s)), .int yc, .int (mxI y.2.2.1 (abI (lstF L.1 s.1))), .int y.2.2.2.1, .int (cOut L 0 s), .int (cOut L 0 s)]) fX1_69 (hUs_at nd 0 rfl rfl) rfl rfl (Nat.le_of_ble_eq_true rfl) rfl dX1_walk_75 ?_
    refine w_heq (hUs_set nd rfl 0 (cs' := [(oC 1 [.ref qc, .ref qv, .int y.1, .int (y.2.1 + (cOut L 0 s)), .int yc, .int (mxI y.2.2.1 (abI (lstF L.1 s.1))), .int y.2.2.2.1, .int (cOut L 0 s), .int (cOut L 0 s)]), (oC 0 [.ref qs, .ref ql, .int 0, .int ((cStp L 0 v s).2.1), .int ((cStp L 0 v s).2.2)]), (aI 3 ((cStp L 0 v s).1)), (oC 3 [.ref qf, .int nm, .int (nI L.1), .int L.2.2.1, .int nz, .int L.2.2.2]), (aI 3 L.2.1)]) rfl rfl) ?_
    refine w_aload_n dX1_walk_78 rfl ?_
    refine w_dup dX1_walk_79 rfl ?_
    refine w_get (v := .int y.1) fX1_66 (hUs_at nd 0 rfl rfl) rfl dX1_walk_80 ?_
    refine w_iconst (v := 1) dX1_walk_83 (by decide) ?_
    refine w_iadd dX1_walk_84 ?_
    refine w_put (fs' := [.ref qc, .ref qv, .int (y.1 + 1), .int (y.2.1 + (cOut L 0 s)), .int yc, .int (mxI y.2.2.1 (abI (lstF L.1 s.1))), .int y.2.2.2.1, .int (cOut L 0 s), .int (cOut L 0 s)]) fX1_66 (hUs_at nd 0 rfl rfl) rfl rfl (Nat.le_of_ble_eq_true rfl) rfl dX1_walk_85 ?_
    refine w_heq (hUs_set nd rfl 0 (cs' := [(oC 1 [.ref qc, .ref qv, .int (y.1 + 1), .int (y.2.1 + (cOut L 0 s)), .int yc, .int (mxI y.2.2.1 (abI (lstF L.1 s.1))), .int y.2.2.2.1, .int (cOut L 0 s), .int (cOut L 0 s)]), (oC 0 [.ref qs, .ref ql, .int 0, .int ((cStp L 0 v s).2.1), .int ((cStp L 0 v s).2.2)]), (aI 3 ((cStp L 0 v s).1)), (oC 3 [.ref qf, .int nm, .int (nI L.1), .int L.2.2.1, .int nz, .int L.2.2.2]), (aI 3 L.2.1)]) rfl rfl) ?_
    refine w_return rfl dX1_walk_88 (Nat.le_of_ble_eq_true rfl) (Nat.le_of_ble_eq_true rfl) ?_
    simp only [wlkF, if_pos b34] at k
    exact k
/-- what a search holds: the core, the anchor, what is counted, clips, when the anchor moves -/
abbrev fS : Type := cS × (Nat → Int32) × cyS × Int32 × Int32
def fnX (L : lP) (v : Int32) (f : fS) : fS := (cStp L 0 v f.1, f.2.1, wlkF L (cOut L 0 f.1) f.1 f.2.2.1, f.2.2.2.1, f.2.2.2.2)
def fnE (f : fS) : fS := (f.1, f.2.1, (f.2.2.1.1, f.2.2.1.2.1, f.2.2.1.2.2.1, f.2.2.1.2.2.2.1 + (if f.2.2.1.2.2.2.2.1 = f.2.2.1.2.2.2.2.2 then 0 else 1), f.2.2.1.2.2.2.2.1, f.2.2.1.2.2.2.2.2), f.1.2.2, f.2.2.2.2)
def fnD (t : Nat) (f : fS) : fS := ((f.1.1, f.1.2.1, 0), f.1.1, (0, 0, 0, 0, f.2.2.1.2.2.2.2.1, f.2.2.1.2.2.2.2.2), f.2.2.2.1, mnI (nI (2 * t)) 3000)
def fndF (L : lP) (v : Int32) : Nat → Nat → fS → Bool × fS
  | 0, _, f => (false, f)
  | n + 1, t, f =>
    if eqS (fnX L v f).1.1 (fnX L v f).2.1 = 0 then
      (if nI t = (fnX L v f).2.2.2.2 then fndF L v n (t + 1) (fnD t (fnX L v f)) else fndF L v n (t + 1) (fnX L v f))
    else (true, fnE (fnX L v f))
set_option maxRecDepth 100000 in
set_option maxHeartbeats 4000000 in
theorem l_find {G : wG} {d : Nat} {h : hH} {Q : Option Value → hH → Prop} {q qc qv qs ql qf : Nat} {nm nz v : Int32} {L : lP} (nd : [q, qc, qs, qv, ql, qf].Nodup) (hn : L.1 ≤ 3) : ∀ (n : Nat) (t : Nat) (f : fS), t + n = 6001 → Q (some (.int (if (fndF L v n t f).1 then 1 else 0))) (hUs h [q, qc, qs, qv, ql, qf] [(oC 1 [.ref qc, .ref qv, .int ((fndF L v n t f).2.2.2.1.1), .int ((fndF L v n t f).2.2.2.1.2.1), .int ((fndF L v n t f).2.2.2.2.1), .int ((fndF L v n t f).2.2.2.1.2.2.1), .int ((fndF L v n t f).2.2.2.1.2.2.2.1), .int ((fndF L v n t f).2.2.2.1.2.2.2.2.1), .int ((fndF L v n t f).2.2.2.1.2.2.2.2.2)]), (oC 0 [.ref qs, .ref ql, .int 0, .int ((fndF L v n t f).2.1.2.1), .int ((fndF L v n t f).2.1.2.2)]), (aI 3 ((fndF L v n t f).2.1.1)), (aI 3 ((fndF L v n t f).2.2.1)), (oC 3 [.ref qf, .int nm, .int (nI L.1), .int L.2.2.1, .int nz, .int L.2.2.2]), (aI 3 L.2.1)]) → WP G RX1 cX1_find 5 (some .boolean) false (d + 4) 0 0 0 0 Q 17 [some (.ref q), some (.ref ql), some (.int v), some (.int f.2.2.2.2), some (.int (nI t))] [] (hUs h [q, qc, qs, qv, ql, qf] [(oC 1 [.ref qc, .ref qv, .int f.2.2.1.1, .int f.2.2.1.2.1, .int f.2.2.2.1, .int f.2.2.1.2.2.1, .int f.2.2.1.2.2.2.1, .int f.2.2.1.2.2.2.2.1, .int f.2.2.1.2.2.2.2.2]), (oC 0 [.ref qs, .ref ql, .int 0, .int f.1.2.1, .int f.1.2.2]), (aI 3 f.1.1), (aI 3 f.2.1), (oC 3 [.ref qf, .int nm, .int (nI L.1), .int L.2.2.1, .int nz, .int L.2.2.2]), (aI 3 L.2.1)]) := by
  intro n
  induction n with
  | zero =>
    intro t f hi k
    refine w_iload dX1_find_17 rfl ?_
    refine w_sipush (v := 6000) dX1_find_19 (by decide) ?_
    refine w_icmp_gt_t (tgt := 109) dX1_find_22 rfl ((nI_ltI (a := 6000) (b := t) (by omega) (by omega)).mpr (by omega)) ?_
    refine w_iconst (v := 0) dX1_find_109 (by decide) ?_
    refine w_zreturn rfl dX1_find_110 rfl (Nat.le_of_ble_eq_true rfl) (Nat.le_of_ble_eq_true rfl) ?_
    exact k
  | succ n ih =>
    intro t f hi k
    refine w_iload dX1_find_17 rfl ?_
    refine w_sipush (v := 6000) dX1_find_19 (by decide) ?_
    refine w_icmp_gt_f (tgt := 109) dX1_find_22 rfl (fun z => absurd ((nI_ltI (a := 6000) (b := t) (by omega) (by omega)).mp z) (by omega)) ?_
    refine w_aload_n dX1_find_25 rfl ?_
    refine w_iload_n dX1_find_26 rfl ?_
    refine w_callV (ci := 1) (d' := d + 3) (mc' := 0) (ms' := 0) (As := [.int v]) (st := []) lX1_29 vX1_walk rfl (hUs_at nd 0 rfl rfl) rfl (Nat.le_of_ble_eq_true rfl) dX1_find_27 (Nat.le_of_ble_eq_true rfl) (Nat.le_of_ble_eq_true rfl) (Nat.le_refl _) (c_walk (hHas_sub nd (as' := [q, qc, qs, ql, qf]) (cs' := [(oC 1 [.ref qc, .ref qv, .int f.2.2.1.1, .int f.2.2.1.2.1, .int f.2.2.2.1, .int f.2.2.1.2.2.1, .int f.2.2.1.2.2.2.1, .int f.2.2.1.2.2.2.2.1, .int f.2.2.1.2.2.2.2.2]), (oC 0 [.ref qs, .ref ql, .int 0, .int f.1.2.1, .int f.1.2.2]), (aI 3 f.1.1), (oC 3 [.ref qf, .int nm, .int (nI L.1), .int L.2.2.1, .int nz, .int L.2.2.2]), (aI 3 L.2.1)]) [0, 1, 2, 4, 5] rfl rfl) (nd_sub nd (as' := [q, qc, qs, ql, qf]) [0, 1, 2, 4, 5] rfl rfl) hn ?_)
    refine w_heq (hUs_in nd rfl [0, 1, 2, 4, 5] (cs2 := [(oC 1 [.ref qc, .ref qv, .int ((wlkF L (cOut L 0 f.1) f.1 f.2.2.1).1), .int ((wlkF L (cOut L 0 f.1) f.1 f.2.2.1).2.1), .int f.2.2.2.1, .int ((wlkF L (cOut L 0 f.1) f.1 f.2.2.1).2.2.1), .int ((wlkF L (cOut L 0 f.1) f.1 f.2.2.1).2.2.2.1), .int ((wlkF L (cOut L 0 f.1) f.1 f.2.2.1).2.2.2.2.1), .int ((wlkF L (cOut L 0 f.1) f.1 f.2.2.1).2.2.2.2.2)]), (oC 0 [.ref qs, .ref ql, .int 0, .int ((cStp L 0 v f.1).2.1), .int ((cStp L 0 v f.1).2.2)]), (aI 3 ((cStp L 0 v f.1).1)), (aI 3 f.2.1), (oC 3 [.ref qf, .int nm, .int (nI L.1), .int L.2.2.1, .int nz, .int L.2.2.2]), (aI 3 L.2.1)]) rfl rfl) ?_
    refine w_aload_n dX1_find_30 rfl ?_
    refine w_get (v := .ref qc) fX1_12 (hUs_at nd 0 rfl rfl) rfl dX1_find_31 ?_
    refine w_aload_n dX1_find_34 rfl ?_
    refine w_get (v := .ref qv) fX1_18 (hUs_at nd 0 rfl rfl) rfl dX1_find_35 ?_
    refine w_callV (ci := 0) (d' := d + 3) (mc' := 0) (ms' := 0) (As := [.ref qv]) (st := []) lX1_33 vX0_isAt rfl (hUs_at nd 1 rfl rfl) rfl (Nat.le_of_ble_eq_true rfl) dX1_find_38 (Nat.le_of_ble_eq_true rfl) (Nat.le_of_ble_eq_true rfl) (Nat.le_refl _) (c_isAt (hHas_sub nd (as' := [qc, qs, qv]) (cs' := [(oC 0 [.ref qs, .ref ql, .int 0, .int ((cStp L 0 v f.1).2.1), .int ((cStp L 0 v f.1).2.2)]), (aI 3 ((cStp L 0 v f.1).1)), (aI 3 f.2.1)]) [1, 2, 3] rfl rfl)  ?_)
    refine w_if_eq (tgt := 82) dX1_find_41 rfl (fun b41 => ?_) (fun b41 => ?_)
    · refine w_iload dX1_find_82 rfl ?_
      refine w_iload_n dX1_find_84 rfl ?_
      refine w_icmp_ne (tgt := 103) dX1_find_85 rfl (fun b85 => ?_) (fun b85 => ?_)
      · refine w_iinc (v := nI (t + 1)) (ls2 := [some (.ref q), some (.ref ql), some (.int v), some (.int f.2.2.2.2), some (.int (nI (t + 1)))]) dX1_find_103 rfl (nI_1 _) (by decide) rfl rfl ?_
        refine w_goto (tgt := 17) dX1_find_106 rfl ?_
        have e : fndF L v (n + 1) t f = fndF L v n (t + 1) (fnX L v f) := by
          rw [fndF]
          refine (if_pos b41).trans ?_
          exact if_neg b85
        rw [e] at k
        exact ih (t + 1) (fnX L v f) (by omega) k
      · refine w_aload_n dX1_find_88 rfl ?_
        refine w_callV (ci := 1) (d' := d + 3) (mc' := 0) (ms' := 0) (As := []) (st := []) lX1_26 vX1_drop rfl (hUs_at nd 0 rfl rfl) rfl (Nat.le_of_ble_eq_true rfl) dX1_find_89 (Nat.le_of_ble_eq_true rfl) (Nat.le_of_ble_eq_true rfl) (Nat.le_refl _) (c_drop (hHas_sub nd (as' := [q, qc, qs, qv]) (cs' := [(oC 1 [.ref qc, .ref qv, .int ((wlkF L (cOut L 0 f.1) f.1 f.2.2.1).1), .int ((wlkF L (cOut L 0 f.1) f.1 f.2.2.1).2.1), .int f.2.2.2.1, .int ((wlkF L (cOut L 0 f.1) f.1 f.2.2.1).2.2.1), .int ((wlkF L (cOut L 0 f.1) f.1 f.2.2.1).2.2.2.1), .int ((wlkF L (cOut L 0 f.1) f.1 f.2.2.1).2.2.2.2.1), .int ((wlkF L (cOut L 0 f.1) f.1 f.2.2.1).2.2.2.2.2)]), (oC 0 [.ref qs, .ref ql, .int 0, .int ((cStp L 0 v f.1).2.1), .int ((cStp L 0 v f.1).2.2)]), (aI 3 ((cStp L 0 v f.1).1)), (aI 3 f.2.1)]) [0, 1, 2, 3] rfl rfl) (nd_sub nd (as' := [q, qc, qs, qv]) [0, 1, 2, 3] rfl rfl)  ?_)
        refine w_heq (hUs_in nd rfl [0, 1, 2, 3] (cs2 := [(oC 1 [.ref qc, .ref qv, .int 0, .int 0, .int f.2.2.2.1, .int 0, .int 0, .int ((wlkF L (cOut L 0 f.1) f.1 f.2.2.1).2.2.2.2.1), .int ((wlkF L (cOut L 0 f.1) f.1 f.2.2.1).2.2.2.2.2)]), (oC 0 [.ref qs, .ref ql, .int 0, .int ((cStp L 0 v f.1).2.1), .int 0]), (aI 3 ((cStp L 0 v f.1).1)), (aI 3 ((cStp L 0 v f.1).1)), (oC 3 [.ref qf, .int nm, .int (nI L.1), .int L.2.2.1, .int nz, .int L.2.2.2]), (aI 3 L.2.1)]) rfl rfl) ?_
        refine w_iconst (v := 2) dX1_find_92 (by decide) ?_
        refine w_iload dX1_find_93 rfl ?_
        refine w_imulE (z := nI (2 * t)) dX1_find_95 (pk_mul (2) (t)) ?_
        refine w_sipush (v := 3000) dX1_find_96 (by decide) ?_
        refine w_callS (d' := d + 3) (mc' := 0) (ms' := 0) (As := [.int (nI (2 * t)), .int 3000]) (st := []) lX1_51 vJ9_min_7cf53 rfl (Nat.le_of_ble_eq_true rfl) dX1_find_99 (Nat.le_of_ble_eq_true rfl) (Nat.le_of_ble_eq_true rfl) (Nat.le_refl _) (c_min ?_)
        refine w_istore_n (ls2 := [some (.ref q), some (.ref ql), some (.int v), some (.int (mnI (nI (2 * t)) 3000)), some (.int (nI t))]) dX1_find_102 (by decide) rfl rfl ?_
        refine w_iinc (v := nI (t + 1)) (ls2 := [some (.ref q), some (.ref ql), some (.int v), some (.int (mnI (nI (2 * t)) 3000)), some (.int (nI (t + 1)))]) dX1_find_103 rfl (nI_1 _) (by decide) rfl rfl ?_
        refine w_goto (tgt := 17) dX1_find_106 rfl ?_
        have e : fndF L v (n + 1) t f = fndF L v n (t + 1) (fnD t (fnX L v f)) := by
          rw [fndF]
          refine (if_pos b41).trans ?_
          exact if_pos b85
        rw [e] at k
        exact ih (t + 1) (fnD t (fnX L v f)) (by omega) k
    · refine w_aload_n dX1_find_44 rfl ?_
      refine w_aload_n dX1_find_45 rfl ?_
      refine w_get (v := .ref qc) fX1_12 (hUs_at nd 0 rfl rfl) rfl dX1_find_46 ?_
      refine w_get (v := .int ((cStp L 0 v f.1).2.2)) fX1_37 (hUs_at nd 1 rfl rfl) rfl dX1_find_49 ?_
      refine w_put (fs' := [.ref qc, .ref qv, .int ((wlkF L (cOut L 0 f.1) f.1 f.2.2.1).1), .int ((wlkF L (cOut L 0 f.1) f.1 f.2.2.1).2.1), .int ((cStp L 0 v f.1).2.2), .int ((wlkF L (cOut L 0 f.1) f.1 f.2.2.1).2.2.1), .int ((wlkF L (cOut L 0 f.1) f.1 f.2.2.1).2.2.2.1), .int ((wlkF L (cOut L 0 f.1) f.1 f.2.2.1).2.2.2.2.1), .int ((wlkF L (cOut L 0 f.1) f.1 f.2.2.1).2.2.2.2.2)]) fX1_41 (hUs_at nd 0 rfl rfl) rfl rfl (Nat.le_of_ble_eq_true rfl) rfl dX1_find_52 ?_
      refine w_heq (hUs_set nd rfl 0 (cs' := [(oC 1 [.ref qc, .ref qv, .int ((wlkF L (cOut L 0 f.1) f.1 f.2.2.1).1), .int ((wlkF L (cOut L 0 f.1) f.1 f.2.2.1).2.1), .int ((cStp L 0 v f.1).2.2), .int ((wlkF L (cOut L 0 f.1) f.1 f.2.2.1).2.2.1), .int ((wlkF L (cOut L 0 f.1) f.1 f.2.2.1).2.2.2.1), .int ((wlkF L (cOut L 0 f.1) f.1 f.2.2.1).2.2.2.2.1), .int ((wlkF L (cOut L 0 f.1) f.1 f.2.2.1).2.2.2.2.2)]), (oC 0 [.ref qs, .ref ql, .int 0, .int ((cStp L 0 v f.1).2.1), .int ((cStp L 0 v f.1).2.2)]), (aI 3 ((cStp L 0 v f.1).1)), (aI 3 f.2.1), (oC 3 [.ref qf, .int nm, .int (nI L.1), .int L.2.2.1, .int nz, .int L.2.2.2]), (aI 3 L.2.1)]) rfl rfl) ?_
      refine w_aload_n dX1_find_55 rfl ?_
      refine w_dup dX1_find_56 rfl ?_
      refine w_get (v := .int ((wlkF L (cOut L 0 f.1) f.1 f.2.2.1).2.2.2.1)) fX1_42 (hUs_at nd 0 rfl rfl) rfl dX1_find_57 ?_
      refine w_aload_n dX1_find_60 rfl ?_
      refine w_get (v := .int ((wlkF L (cOut L 0 f.1) f.1 f.2.2.1).2.2.2.2.1)) fX1_45 (hUs_at nd 0 rfl rfl) rfl dX1_find_61 ?_
      refine w_aload_n dX1_find_64 rfl ?_
      refine w_get (v := .int ((wlkF L (cOut L 0 f.1) f.1 f.2.2.1).2.2.2.2.2)) fX1_48 (hUs_at nd 0 rfl rfl) rfl dX1_find_65 ?_
      refine w_icmp_eq (tgt := 75) dX1_find_68 rfl (fun b68 => ?_) (fun b68 => ?_)
      · refine w_iconst (v := 0) dX1_find_75 (by decide) ?_
        refine w_iadd dX1_find_76 ?_
        refine w_put (fs' := [.ref qc, .ref qv, .int ((wlkF L (cOut L 0 f.1) f.1 f.2.2.1).1), .int ((wlkF L (cOut L 0 f.1) f.1 f.2.2.1).2.1), .int ((cStp L 0 v f.1).2.2), .int ((wlkF L (cOut L 0 f.1) f.1 f.2.2.1).2.2.1), .int (((wlkF L (cOut L 0 f.1) f.1 f.2.2.1).2.2.2.1) + 0), .int ((wlkF L (cOut L 0 f.1) f.1 f.2.2.1).2.2.2.2.1), .int ((wlkF L (cOut L 0 f.1) f.1 f.2.2.1).2.2.2.2.2)]) fX1_42 (hUs_at nd 0 rfl rfl) rfl rfl (Nat.le_of_ble_eq_true rfl) rfl dX1_find_77 ?_
        refine w_heq (hUs_set nd rfl 0 (cs' := [(oC 1 [.ref qc, .ref qv, .int ((wlkF L (cOut L 0 f.1) f.1 f.2.2.1).1), .int ((wlkF L (cOut L 0 f.1) f.1 f.2.2.1).2.1), .int ((cStp L 0 v f.1).2.2), .int ((wlkF L (cOut L 0 f.1) f.1 f.2.2.1).2.2.1), .int (((wlkF L (cOut L 0 f.1) f.1 f.2.2.1).2.2.2.1) + 0), .int ((wlkF L (cOut L 0 f.1) f.1 f.2.2.1).2.2.2.2.1), .int ((wlkF L (cOut L 0 f.1) f.1 f.2.2.1).2.2.2.2.2)]), (oC 0 [.ref qs, .ref ql, .int 0, .int ((cStp L 0 v f.1).2.1), .int ((cStp L 0 v f.1).2.2)]), (aI 3 ((cStp L 0 v f.1).1)), (aI 3 f.2.1), (oC 3 [.ref qf, .int nm, .int (nI L.1), .int L.2.2.1, .int nz, .int L.2.2.2]), (aI 3 L.2.1)]) rfl rfl) ?_
        refine w_iconst (v := 1) dX1_find_80 (by decide) ?_
        refine w_zreturn rfl dX1_find_81 rfl (Nat.le_of_ble_eq_true rfl) (Nat.le_of_ble_eq_true rfl) ?_
        have e : fndF L v (n + 1) t f = (true, fnE (fnX L v f)) := by
          rw [fndF]
          exact if_neg b41
        rw [e] at k
        have k2 : Q (some (.int 1)) (hUs h [q, qc, qs, qv, ql, qf] [(oC 1 [.ref qc, .ref qv, .int ((wlkF L (cOut L 0 f.1) f.1 f.2.2.1).1), .int ((wlkF L (cOut L 0 f.1) f.1 f.2.2.1).2.1), .int ((cStp L 0 v f.1).2.2), .int ((wlkF L (cOut L 0 f.1) f.1 f.2.2.1).2.2.1), .int (((wlkF L (cOut L 0 f.1) f.1 f.2.2.1).2.2.2.1) + (if (wlkF L (cOut L 0 f.1) f.1 f.2.2.1).2.2.2.2.1 = (wlkF L (cOut L 0 f.1) f.1 f.2.2.1).2.2.2.2.2 then 0 else 1)), .int ((wlkF L (cOut L 0 f.1) f.1 f.2.2.1).2.2.2.2.1), .int ((wlkF L (cOut L 0 f.1) f.1 f.2.2.1).2.2.2.2.2)]), (oC 0 [.ref qs, .ref ql, .int 0, .int ((cStp L 0 v f.1).2.1), .int ((cStp L 0 v f.1).2.2)]), (aI 3 ((cStp L 0 v f.1).1)), (aI 3 f.2.1), (oC 3 [.ref qf, .int nm, .int (nI L.1), .int L.2.2.1, .int nz, .int L.2.2.2]), (aI 3 L.2.1)]) := k
        rw [if_pos b68] at k2
        exact k2
      · refine w_iconst (v := 1) dX1_find_71 (by decide) ?_
        refine w_goto (tgt := 76) dX1_find_72 rfl ?_
        refine w_iadd dX1_find_76 ?_
        refine w_put (fs' := [.ref qc, .ref qv, .int ((wlkF L (cOut L 0 f.1) f.1 f.2.2.1).1), .int ((wlkF L (cOut L 0 f.1) f.1 f.2.2.1).2.1), .int ((cStp L 0 v f.1).2.2), .int ((wlkF L (cOut L 0 f.1) f.1 f.2.2.1).2.2.1), .int (((wlkF L (cOut L 0 f.1) f.1 f.2.2.1).2.2.2.1) + 1), .int ((wlkF L (cOut L 0 f.1) f.1 f.2.2.1).2.2.2.2.1), .int ((wlkF L (cOut L 0 f.1) f.1 f.2.2.1).2.2.2.2.2)]) fX1_42 (hUs_at nd 0 rfl rfl) rfl rfl (Nat.le_of_ble_eq_true rfl) rfl dX1_find_77 ?_
        refine w_heq (hUs_set nd rfl 0 (cs' := [(oC 1 [.ref qc, .ref qv, .int ((wlkF L (cOut L 0 f.1) f.1 f.2.2.1).1), .int ((wlkF L (cOut L 0 f.1) f.1 f.2.2.1).2.1), .int ((cStp L 0 v f.1).2.2), .int ((wlkF L (cOut L 0 f.1) f.1 f.2.2.1).2.2.1), .int (((wlkF L (cOut L 0 f.1) f.1 f.2.2.1).2.2.2.1) + 1), .int ((wlkF L (cOut L 0 f.1) f.1 f.2.2.1).2.2.2.2.1), .int ((wlkF L (cOut L 0 f.1) f.1 f.2.2.1).2.2.2.2.2)]), (oC 0 [.ref qs, .ref ql, .int 0, .int ((cStp L 0 v f.1).2.1), .int ((cStp L 0 v f.1).2.2)]), (aI 3 ((cStp L 0 v f.1).1)), (aI 3 f.2.1), (oC 3 [.ref qf, .int nm, .int (nI L.1), .int L.2.2.1, .int nz, .int L.2.2.2]), (aI 3 L.2.1)]) rfl rfl) ?_
        refine w_iconst (v := 1) dX1_find_80 (by decide) ?_
        refine w_zreturn rfl dX1_find_81 rfl (Nat.le_of_ble_eq_true rfl) (Nat.le_of_ble_eq_true rfl) ?_
        have e : fndF L v (n + 1) t f = (true, fnE (fnX L v f)) := by
          rw [fndF]
          exact if_neg b41
        rw [e] at k
        have k2 : Q (some (.int 1)) (hUs h [q, qc, qs, qv, ql, qf] [(oC 1 [.ref qc, .ref qv, .int ((wlkF L (cOut L 0 f.1) f.1 f.2.2.1).1), .int ((wlkF L (cOut L 0 f.1) f.1 f.2.2.1).2.1), .int ((cStp L 0 v f.1).2.2), .int ((wlkF L (cOut L 0 f.1) f.1 f.2.2.1).2.2.1), .int (((wlkF L (cOut L 0 f.1) f.1 f.2.2.1).2.2.2.1) + (if (wlkF L (cOut L 0 f.1) f.1 f.2.2.1).2.2.2.2.1 = (wlkF L (cOut L 0 f.1) f.1 f.2.2.1).2.2.2.2.2 then 0 else 1)), .int ((wlkF L (cOut L 0 f.1) f.1 f.2.2.1).2.2.2.2.1), .int ((wlkF L (cOut L 0 f.1) f.1 f.2.2.1).2.2.2.2.2)]), (oC 0 [.ref qs, .ref ql, .int 0, .int ((cStp L 0 v f.1).2.1), .int ((cStp L 0 v f.1).2.2)]), (aI 3 ((cStp L 0 v f.1).1)), (aI 3 f.2.1), (oC 3 [.ref qf, .int nm, .int (nI L.1), .int L.2.2.1, .int nz, .int L.2.2.2]), (aI 3 L.2.1)]) := k
        rw [if_neg b68] at k2
        exact k2
set_option maxRecDepth 100000 in
set_option maxHeartbeats 4000000 in
theorem c_find {G : wG} {d : Nat} {h : hH} {Q : Option Value → hH → Prop} {q qc qv qs ql qf : Nat} {nm nz v : Int32} {L : lP} {ql0 : Nat} {y1 y2 y3 y4 y5 y6 y7 cn rg cl : Int32} {su sa : Nat → Int32} (hw : hHas h [q, qc, qs, qv, ql, qf] [(oC 1 [.ref qc, .ref qv, .int y1, .int y2, .int y3, .int y4, .int y5, .int y6, .int y7]), (oC 0 [.ref qs, .ref ql0, .int cn, .int rg, .int cl]), (aI 3 su), (aI 3 sa), (oC 3 [.ref qf, .int nm, .int (nI L.1), .int L.2.2.1, .int nz, .int L.2.2.2]), (aI 3 L.2.1)]) (nd : [q, qc, qs, qv, ql, qf].Nodup) (hn : L.1 ≤ 3) (k : Q (some (.int (if (fndF L v 6000 1 ((fun _ => 0, 1, 0), (fun _ => 0), (0, 0, 0, 0, y6, y7), y3, 1)).1 then 1 else 0))) (hUs h [q, qc, qs, qv, ql, qf] [(oC 1 [.ref qc, .ref qv, .int ((fndF L v 6000 1 ((fun _ => 0, 1, 0), (fun _ => 0), (0, 0, 0, 0, y6, y7), y3, 1)).2.2.2.1.1), .int ((fndF L v 6000 1 ((fun _ => 0, 1, 0), (fun _ => 0), (0, 0, 0, 0, y6, y7), y3, 1)).2.2.2.1.2.1), .int ((fndF L v 6000 1 ((fun _ => 0, 1, 0), (fun _ => 0), (0, 0, 0, 0, y6, y7), y3, 1)).2.2.2.2.1), .int ((fndF L v 6000 1 ((fun _ => 0, 1, 0), (fun _ => 0), (0, 0, 0, 0, y6, y7), y3, 1)).2.2.2.1.2.2.1), .int ((fndF L v 6000 1 ((fun _ => 0, 1, 0), (fun _ => 0), (0, 0, 0, 0, y6, y7), y3, 1)).2.2.2.1.2.2.2.1), .int ((fndF L v 6000 1 ((fun _ => 0, 1, 0), (fun _ => 0), (0, 0, 0, 0, y6, y7), y3, 1)).2.2.2.1.2.2.2.2.1), .int ((fndF L v 6000 1 ((fun _ => 0, 1, 0), (fun _ => 0), (0, 0, 0, 0, y6, y7), y3, 1)).2.2.2.1.2.2.2.2.2)]), (oC 0 [.ref qs, .ref ql, .int 0, .int ((fndF L v 6000 1 ((fun _ => 0, 1, 0), (fun _ => 0), (0, 0, 0, 0, y6, y7), y3, 1)).2.1.2.1), .int ((fndF L v 6000 1 ((fun _ => 0, 1, 0), (fun _ => 0), (0, 0, 0, 0, y6, y7), y3, 1)).2.1.2.2)]), (aI 3 ((fndF L v 6000 1 ((fun _ => 0, 1, 0), (fun _ => 0), (0, 0, 0, 0, y6, y7), y3, 1)).2.1.1)), (aI 3 ((fndF L v 6000 1 ((fun _ => 0, 1, 0), (fun _ => 0), (0, 0, 0, 0, y6, y7), y3, 1)).2.2.1)), (oC 3 [.ref qf, .int nm, .int (nI L.1), .int L.2.2.1, .int nz, .int L.2.2.2]), (aI 3 L.2.1)])) : Cl G yX1_find (d + 4) 0 0 [.ref q, .ref ql, .int v] h Q := by
  refine Cl.of (ini := false) kX1_find (plainFor_of_name (by decide)) (by decide) (Nat.le_of_ble_eq_true rfl) rfl rfl (fun z => by cases z) ?_
  refine w_heq (hUs_id hw).symm ?_
  refine w_aload_n dX1_find_0 rfl ?_
  refine w_get (v := .ref qc) fX1_12 (hUs_at nd 0 rfl rfl) rfl dX1_find_1 ?_
  refine w_aload_n dX1_find_4 rfl ?_
  refine w_callV (ci := 0) (d' := d + 3) (mc' := 0) (ms' := 0) (As := [.ref ql]) (st := []) lX1_22 vX0_startQuiet rfl (hUs_at nd 1 rfl rfl) rfl (Nat.le_of_ble_eq_true rfl) dX1_find_5 (Nat.le_of_ble_eq_true rfl) (Nat.le_of_ble_eq_true rfl) (Nat.le_refl _) (c_startQuiet (hHas_sub nd (as' := [qc, qs, ql]) (cs' := [(oC 0 [.ref qs, .ref ql0, .int cn, .int rg, .int cl]), (aI 3 su), (oC 3 [.ref qf, .int nm, .int (nI L.1), .int L.2.2.1, .int nz, .int L.2.2.2])]) [1, 2, 4] rfl rfl) (nd_sub nd (as' := [qc, qs, ql]) [1, 2, 4] rfl rfl)  ?_)
  refine w_heq (hUs_in nd rfl [1, 2, 4] (cs2 := [(oC 1 [.ref qc, .ref qv, .int y1, .int y2, .int y3, .int y4, .int y5, .int y6, .int y7]), (oC 0 [.ref qs, .ref ql, .int 0, .int 1, .int 0]), (aI 3 (fun _ => 0)), (aI 3 sa), (oC 3 [.ref qf, .int nm, .int (nI L.1), .int L.2.2.1, .int nz, .int L.2.2.2]), (aI 3 L.2.1)]) rfl rfl) ?_
  refine w_aload_n dX1_find_8 rfl ?_
  refine w_callV (ci := 1) (d' := d + 3) (mc' := 0) (ms' := 0) (As := []) (st := []) lX1_26 vX1_drop rfl (hUs_at nd 0 rfl rfl) rfl (Nat.le_of_ble_eq_true rfl) dX1_find_9 (Nat.le_of_ble_eq_true rfl) (Nat.le_of_ble_eq_true rfl) (Nat.le_refl _) (c_drop (hHas_sub nd (as' := [q, qc, qs, qv]) (cs' := [(oC 1 [.ref qc, .ref qv, .int y1, .int y2, .int y3, .int y4, .int y5, .int y6, .int y7]), (oC 0 [.ref qs, .ref ql, .int 0, .int 1, .int 0]), (aI 3 (fun _ => 0)), (aI 3 sa)]) [0, 1, 2, 3] rfl rfl) (nd_sub nd (as' := [q, qc, qs, qv]) [0, 1, 2, 3] rfl rfl)  ?_)
  refine w_heq (hUs_in nd rfl [0, 1, 2, 3] (cs2 := [(oC 1 [.ref qc, .ref qv, .int 0, .int 0, .int y3, .int 0, .int 0, .int y6, .int y7]), (oC 0 [.ref qs, .ref ql, .int 0, .int 1, .int 0]), (aI 3 (fun _ => 0)), (aI 3 (fun _ => 0)), (oC 3 [.ref qf, .int nm, .int (nI L.1), .int L.2.2.1, .int nz, .int L.2.2.2]), (aI 3 L.2.1)]) rfl rfl) ?_
  refine w_iconst (v := 1) dX1_find_12 (by decide) ?_
  refine w_istore_n (ls2 := [some (.ref q), some (.ref ql), some (.int v), some (.int 1), none]) dX1_find_13 (by decide) rfl rfl ?_
  refine w_iconst (v := (nI 1)) dX1_find_14 (by decide) ?_
  refine w_istore (ls2 := [some (.ref q), some (.ref ql), some (.int v), some (.int 1), some (.int (nI 1))]) dX1_find_15 (by decide) rfl rfl ?_
  exact l_find nd hn 6000 1 ((fun _ => 0, 1, 0), (fun _ => 0), (0, 0, 0, 0, y6, y7), y3, 1) (by omega) k
