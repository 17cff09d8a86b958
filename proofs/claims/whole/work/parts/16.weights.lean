set_option maxRecDepth 100000 in
set_option maxHeartbeats 4000000 in
theorem c_Run_start {G : wG} {d : Nat} {h : hH} {Q : Option Value → hH → Prop} {q qc qo qg qz qw : Nat} {go ln wn sd : Int32} {c : Nat} {qs ql p qlr qwr al qg2 aw nl nw j i : Nat} {fl fw : Nat → Option Nat} {cn rg cl nm sg bd nz th x : Int32} {su fz : Nat → Int32} (hw : hHas h [q, qc, qs, qz, p, qlr, qwr, al] [(oC 6 [.ref qc, .ref qo, .ref qg, .ref qz, .ref qw, .int go, .int ln, .int wn, .int sd, .int (nI c)]), (oC 0 [.ref qs, .ref ql, .int cn, .int rg, .int cl]), (aI 3 su), (aI 3 fz), (oC 4 [.ref qlr, .ref qwr, .int (nI nl), .int (nI nw)]), (aR RX3 4 fl), (aR RX7 4 fw), (oC 3 [.ref qg2, .int nm, .int sg, .int bd, .int nz, .int th])]) (nd : [q, qc, qs, qz, p, qlr, qwr, al].Nodup) (hj : j < nl) (hnl : nl ≤ 4) (hal : fl j = some al) (hi : i < nw) (hnw : nw ≤ 4) (haw : fw i = some aw) (k : Q none (hUs h [q, qc, qs, qz, p, qlr, qwr, al] [(oC 6 [.ref qc, .ref qo, .ref qg, .ref qz, .ref aw, .int 1, .int (nI j), .int (nI i), .int x, .int 0]), (oC 0 [.ref qs, .ref al, .int nz, .int x, .int 0]), aI 3 (fun _ => 0), aI 3 (fun _ => 0), (oC 4 [.ref qlr, .ref qwr, .int (nI nl), .int (nI nw)]), aR RX3 4 fl, aR RX7 4 fw, (oC 3 [.ref qg2, .int nm, .int sg, .int bd, .int nz, .int th])])) : Cl G yX6_start (d + 2) 0 0 [.ref q, .ref p, .int (nI j), .int (nI i), .int x] h Q := by
  refine Cl.of (ini := false) kX6_start (plainFor_of_name (by decide)) (by decide) (Nat.le_of_ble_eq_true rfl) rfl rfl (fun z => by cases z) ?_
  refine w_heq (hUs_id hw).symm ?_
  refine w_aload_n dX6_start_0 rfl ?_
  refine w_iload_n dX6_start_1 rfl ?_
  refine w_callV (ci := 4) (d' := d + 1) (mc' := 0) (ms' := 0) (As := [.int (nI j)]) (st := []) lX6_36 vX4_loopAt rfl (hUs_at nd 4 rfl rfl) rfl (Nat.le_of_ble_eq_true rfl) dX6_start_2 (Nat.le_of_ble_eq_true rfl) (Nat.le_of_ble_eq_true rfl) (Nat.le_refl _) (c_loopAt_s (hHas_sub nd (as' := [p, qlr]) (cs' := [(oC 4 [.ref qlr, .ref qwr, .int (nI nl), .int (nI nw)]), (aR RX3 4 fl)]) [4, 5] rfl rfl) hj hnl hal ?_)
  refine w_astore (ls2 := [some (.ref q), some (.ref p), some (.int (nI j)), some (.int (nI i)), some (.int x), some (.ref al), none]) dX6_start_5 (by decide) rfl rfl ?_
  refine w_aload_n dX6_start_7 rfl ?_
  refine w_iload_n dX6_start_8 rfl ?_
  refine w_callV (ci := 4) (d' := d + 1) (mc' := 0) (ms' := 0) (As := [.int (nI i)]) (st := []) lX6_42 vX4_waveAt rfl (hUs_at nd 4 rfl rfl) rfl (Nat.le_of_ble_eq_true rfl) dX6_start_9 (Nat.le_of_ble_eq_true rfl) (Nat.le_of_ble_eq_true rfl) (Nat.le_refl _) (c_waveAt_s (hHas_sub nd (as' := [p, qwr]) (cs' := [(oC 4 [.ref qlr, .ref qwr, .int (nI nl), .int (nI nw)]), (aR RX7 4 fw)]) [4, 6] rfl rfl) hi hnw haw ?_)
  refine w_astore (ls2 := [some (.ref q), some (.ref p), some (.int (nI j)), some (.int (nI i)), some (.int x), some (.ref al), some (.ref aw)]) dX6_start_12 (by decide) rfl rfl ?_
  refine w_aload dX6_start_14 rfl ?_
  refine w_ifnull dX6_start_16 ?_
  refine w_aload dX6_start_19 rfl ?_
  refine w_ifnonnull (tgt := 25) dX6_start_21 rfl ?_
  refine w_aload_n dX6_start_25 rfl ?_
  refine w_get (v := .ref qc) fX6_12 (hUs_at nd 0 rfl rfl) rfl dX6_start_26 ?_
  refine w_aload dX6_start_29 rfl ?_
  refine w_iload dX6_start_31 rfl ?_
  refine w_callV (ci := 0) (d' := d + 1) (mc' := 0) (ms' := 0) (As := [.ref al, .int x]) (st := []) lX6_46 vX0_start rfl (hUs_at nd 1 rfl rfl) rfl (Nat.le_of_ble_eq_true rfl) dX6_start_33 (Nat.le_of_ble_eq_true rfl) (Nat.le_of_ble_eq_true rfl) (Nat.le_refl _) (c_start (hHas_sub nd (as' := [qc, qs, al]) (cs' := [(oC 0 [.ref qs, .ref ql, .int cn, .int rg, .int cl]), (aI 3 su), (oC 3 [.ref qg2, .int nm, .int sg, .int bd, .int nz, .int th])]) [1, 2, 7] rfl rfl) (nd_sub nd (as' := [qc, qs, al]) [1, 2, 7] rfl rfl)  ?_)
  refine w_heq (hUs_in nd rfl [1, 2, 7] (cs2 := [(oC 6 [.ref qc, .ref qo, .ref qg, .ref qz, .ref qw, .int go, .int ln, .int wn, .int sd, .int (nI c)]), (oC 0 [.ref qs, .ref al, .int nz, .int x, .int 0]), (aI 3 (fun _ => 0)), (aI 3 fz), (oC 4 [.ref qlr, .ref qwr, .int (nI nl), .int (nI nw)]), (aR RX3 4 fl), (aR RX7 4 fw), (oC 3 [.ref qg2, .int nm, .int sg, .int bd, .int nz, .int th])]) rfl rfl) ?_
  refine w_aload_n dX6_start_36 rfl ?_
  refine w_aload dX6_start_37 rfl ?_
  refine w_put (fs' := [.ref qc, .ref qo, .ref qg, .ref qz, .ref aw, .int go, .int ln, .int wn, .int sd, .int (nI c)]) fX6_32 (hUs_at nd 0 rfl rfl) rfl rfl (Nat.le_of_ble_eq_true rfl) rfl dX6_start_39 ?_
  refine w_heq (hUs_set nd rfl 0 (cs' := [(oC 6 [.ref qc, .ref qo, .ref qg, .ref qz, .ref aw, .int go, .int ln, .int wn, .int sd, .int (nI c)]), (oC 0 [.ref qs, .ref al, .int nz, .int x, .int 0]), (aI 3 (fun _ => 0)), (aI 3 fz), (oC 4 [.ref qlr, .ref qwr, .int (nI nl), .int (nI nw)]), (aR RX3 4 fl), (aR RX7 4 fw), (oC 3 [.ref qg2, .int nm, .int sg, .int bd, .int nz, .int th])]) rfl rfl) ?_
  refine w_aload_n dX6_start_42 rfl ?_
  refine w_iload_n dX6_start_43 rfl ?_
  refine w_put (fs' := [.ref qc, .ref qo, .ref qg, .ref qz, .ref aw, .int go, .int (nI j), .int wn, .int sd, .int (nI c)]) fX6_50 (hUs_at nd 0 rfl rfl) rfl rfl (Nat.le_of_ble_eq_true rfl) rfl dX6_start_44 ?_
  refine w_heq (hUs_set nd rfl 0 (cs' := [(oC 6 [.ref qc, .ref qo, .ref qg, .ref qz, .ref aw, .int go, .int (nI j), .int wn, .int sd, .int (nI c)]), (oC 0 [.ref qs, .ref al, .int nz, .int x, .int 0]), (aI 3 (fun _ => 0)), (aI 3 fz), (oC 4 [.ref qlr, .ref qwr, .int (nI nl), .int (nI nw)]), (aR RX3 4 fl), (aR RX7 4 fw), (oC 3 [.ref qg2, .int nm, .int sg, .int bd, .int nz, .int th])]) rfl rfl) ?_
  refine w_aload_n dX6_start_47 rfl ?_
  refine w_iload_n dX6_start_48 rfl ?_
  refine w_put (fs' := [.ref qc, .ref qo, .ref qg, .ref qz, .ref aw, .int go, .int (nI j), .int (nI i), .int sd, .int (nI c)]) fX6_54 (hUs_at nd 0 rfl rfl) rfl rfl (Nat.le_of_ble_eq_true rfl) rfl dX6_start_49 ?_
  refine w_heq (hUs_set nd rfl 0 (cs' := [(oC 6 [.ref qc, .ref qo, .ref qg, .ref qz, .ref aw, .int go, .int (nI j), .int (nI i), .int sd, .int (nI c)]), (oC 0 [.ref qs, .ref al, .int nz, .int x, .int 0]), (aI 3 (fun _ => 0)), (aI 3 fz), (oC 4 [.ref qlr, .ref qwr, .int (nI nl), .int (nI nw)]), (aR RX3 4 fl), (aR RX7 4 fw), (oC 3 [.ref qg2, .int nm, .int sg, .int bd, .int nz, .int th])]) rfl rfl) ?_
  refine w_aload_n dX6_start_52 rfl ?_
  refine w_iload dX6_start_53 rfl ?_
  refine w_put (fs' := [.ref qc, .ref qo, .ref qg, .ref qz, .ref aw, .int go, .int (nI j), .int (nI i), .int x, .int (nI c)]) fX6_57 (hUs_at nd 0 rfl rfl) rfl rfl (Nat.le_of_ble_eq_true rfl) rfl dX6_start_55 ?_
  refine w_heq (hUs_set nd rfl 0 (cs' := [(oC 6 [.ref qc, .ref qo, .ref qg, .ref qz, .ref aw, .int go, .int (nI j), .int (nI i), .int x, .int (nI c)]), (oC 0 [.ref qs, .ref al, .int nz, .int x, .int 0]), (aI 3 (fun _ => 0)), (aI 3 fz), (oC 4 [.ref qlr, .ref qwr, .int (nI nl), .int (nI nw)]), (aR RX3 4 fl), (aR RX7 4 fw), (oC 3 [.ref qg2, .int nm, .int sg, .int bd, .int nz, .int th])]) rfl rfl) ?_
  refine w_aload_n dX6_start_58 rfl ?_
  refine w_iconst (v := 0) dX6_start_59 (by decide) ?_
  refine w_put (fs' := [.ref qc, .ref qo, .ref qg, .ref qz, .ref aw, .int go, .int (nI j), .int (nI i), .int x, .int 0]) fX6_60 (hUs_at nd 0 rfl rfl) rfl rfl (Nat.le_of_ble_eq_true rfl) rfl dX6_start_60 ?_
  refine w_heq (hUs_set nd rfl 0 (cs' := [(oC 6 [.ref qc, .ref qo, .ref qg, .ref qz, .ref aw, .int go, .int (nI j), .int (nI i), .int x, .int 0]), (oC 0 [.ref qs, .ref al, .int nz, .int x, .int 0]), (aI 3 (fun _ => 0)), (aI 3 fz), (oC 4 [.ref qlr, .ref qwr, .int (nI nl), .int (nI nw)]), (aR RX3 4 fl), (aR RX7 4 fw), (oC 3 [.ref qg2, .int nm, .int sg, .int bd, .int nz, .int th])]) rfl rfl) ?_
  refine w_aload_n dX6_start_63 rfl ?_
  refine w_get (v := .ref qz) fX6_26 (hUs_at nd 0 rfl rfl) rfl dX6_start_64 ?_
  refine w_iconst (v := 0) dX6_start_67 (by decide) ?_
  refine w_callS (d' := d + 1) (mc' := 0) (ms' := 0) (As := [.ref qz, .int 0]) (st := []) lX6_63 vJ7_fill_53178 rfl (Nat.le_of_ble_eq_true rfl) dX6_start_68 (Nat.le_of_ble_eq_true rfl) (Nat.le_of_ble_eq_true rfl) (Nat.le_refl _) (c_fill (hHas_sub nd (as' := [qz]) (cs' := [(aI 3 fz)]) [3] rfl rfl) (nd_sub nd (as' := [qz]) [3] rfl rfl) (by decide) ?_)
  refine w_heq (hUs_in nd rfl [3] (cs2 := [(oC 6 [.ref qc, .ref qo, .ref qg, .ref qz, .ref aw, .int go, .int (nI j), .int (nI i), .int x, .int 0]), (oC 0 [.ref qs, .ref al, .int nz, .int x, .int 0]), (aI 3 (fun _ => 0)), (aI 3 (fun _ => 0)), (oC 4 [.ref qlr, .ref qwr, .int (nI nl), .int (nI nw)]), (aR RX3 4 fl), (aR RX7 4 fw), (oC 3 [.ref qg2, .int nm, .int sg, .int bd, .int nz, .int th])]) rfl rfl) ?_
  refine w_aload_n dX6_start_71 rfl ?_
  refine w_iconst (v := 1) dX6_start_72 (by decide) ?_
  refine w_put (fs' := [.ref qc, .ref qo, .ref qg, .ref qz, .ref aw, .int 1, .int (nI j), .int (nI i), .int x, .int 0]) fX6_69 (hUs_at nd 0 rfl rfl) rfl rfl (Nat.le_of_ble_eq_true rfl) rfl dX6_start_73 ?_
  refine w_heq (hUs_set nd rfl 0 (cs' := [(oC 6 [.ref qc, .ref qo, .ref qg, .ref qz, .ref aw, .int 1, .int (nI j), .int (nI i), .int x, .int 0]), (oC 0 [.ref qs, .ref al, .int nz, .int x, .int 0]), (aI 3 (fun _ => 0)), (aI 3 (fun _ => 0)), (oC 4 [.ref qlr, .ref qwr, .int (nI nl), .int (nI nw)]), (aR RX3 4 fl), (aR RX7 4 fw), (oC 3 [.ref qg2, .int nm, .int sg, .int bd, .int nz, .int th])]) rfl rfl) ?_
  refine w_return rfl dX6_start_76 (Nat.le_of_ble_eq_true rfl) (Nat.le_of_ble_eq_true rfl) ?_
  exact k
set_option maxRecDepth 100000 in
set_option maxHeartbeats 4000000 in
theorem c_take {G : wG} {d : Nat} {h : hH} {Q : Option Value → hH → Prop} {p q qc qo qg qz qw : Nat} {i1 i2 i3 i4 i5 i6 i7 go ln wn sd x y : Int32} (hw : hHas h [p, q] [(oC 2 [.int i1, .int i2, .int i3, .int i4, .int i5, .int i6, .int i7]), (oC 6 [.ref qc, .ref qo, .ref qg, .ref qz, .ref qw, .int go, .int ln, .int wn, .int sd, .int y])]) (nd : [p, q].Nodup) (hz : narrow .boolean (.int go) = .int go ∧ fits .boolean (.int go) = true) (k : Q none (hUs h [p, q] [(oC 2 [.int 1, .int go, .int ln, .int wn, .int sd, .int y, .int x]), (oC 6 [.ref qc, .ref qo, .ref qg, .ref qz, .ref qw, .int go, .int ln, .int wn, .int sd, .int y])])) : Cl G yX2_take d 0 0 [.ref p, .ref q, .int x] h Q := by
  refine Cl.of (ini := false) kX2_take (plainFor_of_name (by decide)) (by decide) (Nat.le_of_ble_eq_true rfl) rfl rfl (fun z => by cases z) ?_
  refine w_heq (hUs_id hw).symm ?_
  refine w_aload_n dX2_take_0 rfl ?_
  refine w_iconst (v := 1) dX2_take_1 (by decide) ?_
  refine w_put (fs' := [.int 1, .int i2, .int i3, .int i4, .int i5, .int i6, .int i7]) fX2_7 (hUs_at nd 0 rfl rfl) rfl rfl (Nat.le_of_ble_eq_true rfl) rfl dX2_take_2 ?_
  refine w_heq (hUs_set nd rfl 0 (cs' := [(oC 2 [.int 1, .int i2, .int i3, .int i4, .int i5, .int i6, .int i7]), (oC 6 [.ref qc, .ref qo, .ref qg, .ref qz, .ref qw, .int go, .int ln, .int wn, .int sd, .int y])]) rfl rfl) ?_
  refine w_aload_n dX2_take_5 rfl ?_
  refine w_aload_n dX2_take_6 rfl ?_
  refine w_get (v := .int go) fX2_13 (hUs_at nd 1 rfl rfl) rfl dX2_take_7 ?_
  refine w_put (fs' := [.int 1, .int go, .int i3, .int i4, .int i5, .int i6, .int i7]) fX2_18 (hUs_at nd 0 rfl rfl) hz.1 hz.2 (Nat.le_of_ble_eq_true rfl) rfl dX2_take_10 ?_
  refine w_heq (hUs_set nd rfl 0 (cs' := [(oC 2 [.int 1, .int go, .int i3, .int i4, .int i5, .int i6, .int i7]), (oC 6 [.ref qc, .ref qo, .ref qg, .ref qz, .ref qw, .int go, .int ln, .int wn, .int sd, .int y])]) rfl rfl) ?_
  refine w_aload_n dX2_take_13 rfl ?_
  refine w_aload_n dX2_take_14 rfl ?_
  refine w_get (v := .int ln) fX2_19 (hUs_at nd 1 rfl rfl) rfl dX2_take_15 ?_
  refine w_put (fs' := [.int 1, .int go, .int ln, .int i4, .int i5, .int i6, .int i7]) fX2_23 (hUs_at nd 0 rfl rfl) rfl rfl (Nat.le_of_ble_eq_true rfl) rfl dX2_take_18 ?_
  refine w_heq (hUs_set nd rfl 0 (cs' := [(oC 2 [.int 1, .int go, .int ln, .int i4, .int i5, .int i6, .int i7]), (oC 6 [.ref qc, .ref qo, .ref qg, .ref qz, .ref qw, .int go, .int ln, .int wn, .int sd, .int y])]) rfl rfl) ?_
  refine w_aload_n dX2_take_21 rfl ?_
  refine w_aload_n dX2_take_22 rfl ?_
  refine w_get (v := .int wn) fX2_24 (hUs_at nd 1 rfl rfl) rfl dX2_take_23 ?_
  refine w_put (fs' := [.int 1, .int go, .int ln, .int wn, .int i5, .int i6, .int i7]) fX2_27 (hUs_at nd 0 rfl rfl) rfl rfl (Nat.le_of_ble_eq_true rfl) rfl dX2_take_26 ?_
  refine w_heq (hUs_set nd rfl 0 (cs' := [(oC 2 [.int 1, .int go, .int ln, .int wn, .int i5, .int i6, .int i7]), (oC 6 [.ref qc, .ref qo, .ref qg, .ref qz, .ref qw, .int go, .int ln, .int wn, .int sd, .int y])]) rfl rfl) ?_
  refine w_aload_n dX2_take_29 rfl ?_
  refine w_aload_n dX2_take_30 rfl ?_
  refine w_get (v := .int sd) fX2_28 (hUs_at nd 1 rfl rfl) rfl dX2_take_31 ?_
  refine w_put (fs' := [.int 1, .int go, .int ln, .int wn, .int sd, .int i6, .int i7]) fX2_31 (hUs_at nd 0 rfl rfl) rfl rfl (Nat.le_of_ble_eq_true rfl) rfl dX2_take_34 ?_
  refine w_heq (hUs_set nd rfl 0 (cs' := [(oC 2 [.int 1, .int go, .int ln, .int wn, .int sd, .int i6, .int i7]), (oC 6 [.ref qc, .ref qo, .ref qg, .ref qz, .ref qw, .int go, .int ln, .int wn, .int sd, .int y])]) rfl rfl) ?_
  refine w_aload_n dX2_take_37 rfl ?_
  refine w_aload_n dX2_take_38 rfl ?_
  refine w_get (v := .int y) fX2_32 (hUs_at nd 1 rfl rfl) rfl dX2_take_39 ?_
  refine w_put (fs' := [.int 1, .int go, .int ln, .int wn, .int sd, .int y, .int i7]) fX2_35 (hUs_at nd 0 rfl rfl) rfl rfl (Nat.le_of_ble_eq_true rfl) rfl dX2_take_42 ?_
  refine w_heq (hUs_set nd rfl 0 (cs' := [(oC 2 [.int 1, .int go, .int ln, .int wn, .int sd, .int y, .int i7]), (oC 6 [.ref qc, .ref qo, .ref qg, .ref qz, .ref qw, .int go, .int ln, .int wn, .int sd, .int y])]) rfl rfl) ?_
  refine w_aload_n dX2_take_45 rfl ?_
  refine w_iload_n dX2_take_46 rfl ?_
  refine w_put (fs' := [.int 1, .int go, .int ln, .int wn, .int sd, .int y, .int x]) fX2_36 (hUs_at nd 0 rfl rfl) rfl rfl (Nat.le_of_ble_eq_true rfl) rfl dX2_take_47 ?_
  refine w_heq (hUs_set nd rfl 0 (cs' := [(oC 2 [.int 1, .int go, .int ln, .int wn, .int sd, .int y, .int x]), (oC 6 [.ref qc, .ref qo, .ref qg, .ref qz, .ref qw, .int go, .int ln, .int wn, .int sd, .int y])]) rfl rfl) ?_
  refine w_return rfl dX2_take_50 (Nat.le_of_ble_eq_true rfl) (Nat.le_of_ble_eq_true rfl) ?_
  exact k
theorem wgt_up {r : Nat → Int32} {by_ M j : Nat} {f : Nat → Int32} {x : Int32} (hf : ∀ t, f t = if j + 1 ≤ t ∧ t < M then wgtS r by_ t else r t) (hj : j < M) (hx : x = wgtS r by_ j) : ∀ t, upd f j x t = if j ≤ t ∧ t < M then wgtS r by_ t else r t := by
  intro t
  unfold upd
  by_cases e : t = j
  · subst e
    rw [if_pos rfl, if_pos (by omega)]
    exact hx
  · rw [if_neg e, hf t]
    by_cases e2 : j + 1 ≤ t ∧ t < M
    · rw [if_pos e2, if_pos (by omega)]
    · rw [if_neg e2, if_neg (by omega)]
set_option maxRecDepth 100000 in
set_option maxHeartbeats 4000000 in
theorem l_addUp_in {G : wG} {d : Nat} {h : hH} {Q : Option Value → hH → Prop} {q qr M Y : Nat} {r : Nat → Int32} {j : Nat} {f : Nat → Int32} (nd : [q, qr].Nodup) (hj : j < 94) (hY : Y ≤ 32) (hf : ∀ t, t ≤ j → f t = r t) (k : ∀ x : Int32, x = fld (fun i s => s + r (j - i)) 0 (min Y (j + 1)) 0 → WP G RX8 cX8_addUp 5 none false d 0 0 0 0 Q 46 [some (.ref q), some (.int (nI Y)), some (.int (nI j)), some (.int x), some (.int (nI (min Y (j + 1))))] [] (hUs h [q, qr] [(oC 8 [.ref qr, .int (nI M)]), (aI 94 f)])) : ∀ (n : Nat) (i : Nat) (x : Int32), i + n = min Y (j + 1) → x = fld (fun i s => s + r (j - i)) 0 i 0 → WP G RX8 cX8_addUp 5 none false d 0 0 0 0 Q 16 [some (.ref q), some (.int (nI Y)), some (.int (nI j)), some (.int x), some (.int (nI i))] [] (hUs h [q, qr] [(oC 8 [.ref qr, .int (nI M)]), (aI 94 f)]) := by
  intro n
  induction n with
  | zero =>
    intro i x hi e
    refine w_iload dX8_addUp_16 rfl ?_
    refine w_iload_n dX8_addUp_18 rfl ?_
    refine w_icmp_ge (tgt := 46) dX8_addUp_19 rfl (fun b19 => ?_) (fun b19 => ?_)
    · have b19 := (nI_leI (a := Y) (b := i) (by omega) (by omega)).mp b19
      
      have z : i = min Y (j + 1) := by omega
      subst z
      exact k x e
    · have b19 : ¬ Y ≤ i := fun z => b19 ((nI_leI (a := Y) (b := i) (by omega) (by omega)).mpr z)
      refine w_iload dX8_addUp_22 rfl ?_
      refine w_iload_n dX8_addUp_24 rfl ?_
      refine w_icmp_gt (tgt := 46) dX8_addUp_25 rfl (fun b25 => ?_) (fun b25 => ?_)
      · have b25 := (nI_ltI (a := j) (b := i) (by omega) (by omega)).mp b25
        have z : i = min Y (j + 1) := by omega
        subst z
        exact k x e
      · have b25 : ¬ j < i := fun z => b25 ((nI_ltI (a := j) (b := i) (by omega) (by omega)).mpr z)
        exact absurd b25 (by omega)
  | succ n ih =>
    intro i x hi e
    refine w_iload dX8_addUp_16 rfl ?_
    refine w_iload_n dX8_addUp_18 rfl ?_
    refine w_icmp_ge_f (tgt := 46) dX8_addUp_19 rfl (fun z => absurd ((nI_leI (a := Y) (b := i) (by omega) (by omega)).mp z) (by omega)) ?_
    refine w_iload dX8_addUp_22 rfl ?_
    refine w_iload_n dX8_addUp_24 rfl ?_
    refine w_icmp_gt_f (tgt := 46) dX8_addUp_25 rfl (fun z => absurd ((nI_ltI (a := j) (b := i) (by omega) (by omega)).mp z) (by omega)) ?_
    refine w_iload_n dX8_addUp_28 rfl ?_
    refine w_aload_n dX8_addUp_29 rfl ?_
    refine w_get (v := .ref qr) fX8_9 (hUs_at nd 0 rfl rfl) rfl dX8_addUp_30 ?_
    refine w_iload_n dX8_addUp_33 rfl ?_
    refine w_iload dX8_addUp_34 rfl ?_
    refine w_isubE (z := nI (j - i)) dX8_addUp_36 (pk_sub (a := j) (b := i) (by omega)) ?_
    refine w_ialoadN (hUs_at nd 1 rfl rfl) (by omega) (by omega) dX8_addUp_37 ?_
    refine w_iadd dX8_addUp_38 ?_
    refine w_istore_n (ls2 := [some (.ref q), some (.int (nI Y)), some (.int (nI j)), some (.int (x + (f (j - i)))), some (.int (nI i))]) dX8_addUp_39 (by decide) rfl rfl ?_
    refine w_iinc (v := nI (i + 1)) (ls2 := [some (.ref q), some (.int (nI Y)), some (.int (nI j)), some (.int (x + (f (j - i)))), some (.int (nI (i + 1)))]) dX8_addUp_40 rfl (nI_1 _) (by decide) rfl rfl ?_
    refine w_goto (tgt := 16) dX8_addUp_43 rfl ?_
    exact ih (i + 1) _ (by omega) (by rw [fld, ← e, hf (j - i) (by omega), Nat.zero_add])
set_option maxRecDepth 100000 in
set_option maxHeartbeats 4000000 in
theorem l_addUp {G : wG} {d : Nat} {h : hH} {Q : Option Value → hH → Prop} {q qr M Y : Nat} {r : Nat → Int32} (nd : [q, qr].Nodup) (hM : M ≤ 94) (hY : Y ≤ 32) (k : Q none (hUs h [q, qr] [oC 8 [.ref qr, .int (nI M)], aI 94 (fun t => if t < M then wgtS r Y t else r t)])) : ∀ (n : Nat) (f : Nat → Int32), n ≤ M → (∀ t, f t = if n ≤ t ∧ t < M then wgtS r Y t else r t) → ∀ z : Int32, z = nI n - 1 → WP G RX8 cX8_addUp 5 none false d 0 0 0 0 Q 7 [some (.ref q), some (.int (nI Y)), some (.int z), none, none] [] (hUs h [q, qr] [(oC 8 [.ref qr, .int (nI M)]), (aI 94 f)]) := by
  intro n
  induction n with
  | zero =>
    intro f hn hf z hz
    have hz1 : z = -1 := hz
    subst hz1
    refine w_wext nd rfl 1 (fun t => if t < M then wgtS r Y t else r t) rfl rfl rfl (fun t ht => by rw [hf t]; by_cases e : t < M <;> simp [e]) ?_
    refine w_iload_n dX8_addUp_7 rfl ?_
    refine w_if_lt_t (tgt := 59) dX8_addUp_8 rfl (by decide) ?_
    refine w_return rfl dX8_addUp_59 (Nat.le_of_ble_eq_true rfl) (Nat.le_of_ble_eq_true rfl) ?_
    exact k
  | succ n ih =>
    intro f hn hf z hz
    rw [nI_pred] at hz
    subst hz
    refine w_iload_n dX8_addUp_7 rfl ?_
    refine w_if_lt_f (tgt := 59) dX8_addUp_8 rfl (fun z => absurd ((nI_ltI (a := n) (b := 0) (by omega) (by omega)).mp z) (by omega)) ?_
    refine w_iconst (v := 0) dX8_addUp_11 (by decide) ?_
    refine w_istore_n (ls2 := [some (.ref q), some (.int (nI Y)), some (.int (nI n)), some (.int 0), none]) dX8_addUp_12 (by decide) rfl rfl ?_
    refine w_iconst (v := (nI 0)) dX8_addUp_13 (by decide) ?_
    refine w_istore (ls2 := [some (.ref q), some (.int (nI Y)), some (.int (nI n)), some (.int 0), some (.int (nI 0))]) dX8_addUp_14 (by decide) rfl rfl ?_
    refine l_addUp_in (r := r) nd (by omega) hY (fun t ht => by rw [hf t, if_neg (by omega)]) (fun x e => ?_) (min Y (n + 1)) 0 _ (by omega) rfl
    refine w_aload_n dX8_addUp_46 rfl ?_
    refine w_get (v := .ref qr) fX8_9 (hUs_at nd 0 rfl rfl) rfl dX8_addUp_47 ?_
    refine w_iload_n dX8_addUp_50 rfl ?_
    refine w_iload_n dX8_addUp_51 rfl ?_
    refine w_iastoreN (hUs_at nd 1 rfl rfl) (by omega) (by omega) dX8_addUp_52 ?_
    refine w_heq (hUs_set nd rfl 1 (cs' := [(oC 8 [.ref qr, .int (nI M)]), (aI 94 (upd f n x))]) rfl rfl) ?_
    refine w_iinc (v := (nI n) + (-1)) (ls2 := [some (.ref q), some (.int (nI Y)), some (.int ((nI n) + (-1))), some (.int x), some (.int (nI (min Y (n + 1))))]) dX8_addUp_53 rfl rfl (by decide) rfl rfl ?_
    refine w_goto (tgt := 7) dX8_addUp_56 rfl ?_
    refine w_less (ls2 := [some (.ref q), some (.int (nI Y)), some (.int ((nI n) + (-1))), none, none]) ⟨Or.inr rfl, Or.inr rfl, Or.inr rfl, Or.inl rfl, Or.inl rfl, trivial⟩ ?_
    exact ih _ (by omega) (wgt_up hf (by omega) e) _ (Int32.sub_eq_add_neg (nI n) 1).symm
set_option maxRecDepth 100000 in
set_option maxHeartbeats 4000000 in
theorem c_addUp {G : wG} {d : Nat} {h : hH} {Q : Option Value → hH → Prop} {q qr M Y : Nat} {r : Nat → Int32} (hw : hHas h [q, qr] [(oC 8 [.ref qr, .int (nI M)]), (aI 94 r)]) (nd : [q, qr].Nodup) (hM : M ≤ 94) (hY : Y ≤ 32) (k : Q none (hUs h [q, qr] [oC 8 [.ref qr, .int (nI M)], aI 94 (fun t => if t < M then wgtS r Y t else r t)])) : Cl G yX8_addUp d 0 0 [.ref q, .int (nI Y)] h Q := by
  refine Cl.of (ini := false) kX8_addUp (plainFor_of_name (by decide)) (by decide) (Nat.le_of_ble_eq_true rfl) rfl rfl (fun z => by cases z) ?_
  refine w_heq (hUs_id hw).symm ?_
  refine w_aload_n dX8_addUp_0 rfl ?_
  refine w_get (v := .int (nI M)) fX8_21 (hUs_at nd 0 rfl rfl) rfl dX8_addUp_1 ?_
  refine w_iconst (v := 1) dX8_addUp_4 (by decide) ?_
  refine w_isub dX8_addUp_5 ?_
  refine w_istore_n (ls2 := [some (.ref q), some (.int (nI Y)), some (.int ((nI M) - 1)), none, none]) dX8_addUp_6 (by decide) rfl rfl ?_
  exact l_addUp nd hM hY k M r (Nat.le_refl _) (fun t => by rw [if_neg (by omega)]) _ rfl
