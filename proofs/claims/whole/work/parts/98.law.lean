theorem room_a (k : Nat) : 8 + (6 + 11) + k ≤ k + 37 := by omega
/-- the call of the law's letter -/
theorem l_letter {X : lX} {G : wG} {d nL cells slots pc : Nat} {cc : ByteArray} {ls : List (Option Value)} {As st : List Value} {h : hH} (C : lK X RL cc nL) (hx : wX X.2.2.1) (hn : As.length = 5) (hst : (st.map fun v => v.category).sum ≤ 8) (hd : decode cc pc = .ok (.invokestatic 158, 3)) (hcells : cells + 1 ≤ X.2.2.2.2.2.2.2.2.1.cells) (hslots : slots + 6 ≤ X.2.2.2.2.2.2.2.2.1.slots) (hdd : d + 7 + 1 ≤ X.2.2.2.2.2.2.2.2.1.frames) (hdl : 37 * (d + 7) + 37 ≤ X.2.2.2.2.2.2.2.2.1.locals) (hM : Met G.1 yL_letter [Cond.codeWith yL_letter cL_letter 6 (some .int) [(0, 12, 15, 13)]] (wR (d + 7) 1 6) (xPc G h As) (wQc G (fun r h' => WL X G nL (cells + 1) (slots + 6) (pc + 3) ls (psh r st) h')) 1 6 (wA G)) : WL X G nL cells slots pc ls (As.reverse ++ st) h := by
  obtain ⟨p, e, s, m, args, below, meth, c, R, Z⟩ := X
  obtain ⟨h1, h2, h4, h5, h6⟩ := C
  intro H locs lsA h8 h9 h10
  have hts := h8.2.1
  have hww : ∀ w ∈ [Cond.codeWith yL_letter cL_letter 6 (some .int) [(0, 12, 15, 13)]], ∀ (a' : Array Value) (U : State), s.WarmedH U.vm → w.before a' U = true := by
    intro w hw a' U hW
    rw [List.mem_singleton.mp hw]
    exact (hts.warm hW).at xL_code rfl rfl
  have hroom : 8 + (6 + 11) + (wR (d + 7) 1 6).locals ≤ R.locals := by
    exact Nat.le_trans (room_a (37 * (d + 7))) hdl
  exact w_after (vx_runSW (hh := [(0, 12, 15, 13)]) (bytes := cL_letter) (maxL := 6) (ret := some .int) (As := As) (rest := st) (own := RL) (n := 5) (Ts := []) ⟨h1, h2, h4, h5, fun _ z => nomatch z⟩ hM ⟨⟨rfl, rfl, hdd, hroom, hww, List.mem_singleton.mpr rfl⟩, hts.at xL_code rfl rfl, hts.at xL_init rfl rfl, ⟨by decide +kernel, by decide +kernel⟩, (show wY yL_letter 5 from ⟨xL_init, ⟨by decide +kernel, by decide +kernel⟩, by decide +kernel⟩).len, hts.at xL_link rfl rfl, hts.at xL_stat rfl rfl⟩ ⟨xPc_blind, fun U hU hW => ⟨rfl, hR.at hU (h8.warm hW), wX.warm hW hx⟩⟩ rfl hn h10.1 rfl (lv_room hst) hd ⟨hcells, hslots⟩) h8 h9 (fun r h' hQ H1 locs1 hR1 hS1 => hQ H1 locs1 lsA hR1 hS1 h10)
set_option maxRecDepth 100000 in
set_option maxHeartbeats 4000000 in
theorem k_letter {X : lX} {G : wG} {sb L b j cells slots : Nat} {xs : Nat → Int32} {h : hH} (C : lK X RL cL_law 7) (hRm : X.2.2.2.2.2.2.2.2.1 = room_1) (hS : lS X G sb L xs) (hL : L ≤ 3072) (hj : j + 6 ≤ L) (hc : cells + 1 ≤ 1147) (hs : slots + 6 ≤ 37190) (hwx : wX X.2.2.1) (hI : LI b h) (next : ∀ h', LI b h' → WL X G 7 (cells + 1) (slots + 6) 1539 (lL sb b j) [] h') : WL X G 7 cells slots 1433 (lL sb b j) [] h := by
  obtain ⟨ft, tp, P, ht, R, i0, i1, sd, fa, pl, tr, th, f, hC, hM, hq⟩ := hI
  obtain ⟨fs1, hb⟩ := cI_at hC
  refine l_aload_n C dL_law_1433 rfl ?_
  refine l_arg (n := 1) C hS hL (by omega) rfl rfl dL_law_1434 dL_law_1435 dL_law_1437 dL_law_1438 dL_law_1439 (by decide) ?_
  refine l_arg (n := 2) C hS hL (by omega) rfl rfl dL_law_1440 dL_law_1441 dL_law_1443 dL_law_1444 dL_law_1445 (by decide) ?_
  refine l_arg (n := 3) C hS hL (by omega) rfl rfl dL_law_1446 dL_law_1447 dL_law_1449 dL_law_1450 dL_law_1451 (by decide) ?_
  refine l_aload_n C dL_law_1452 rfl ?_
  refine l_letter (d := 5) (As := [.ref b, .int (xs (j + 1)), .int (xs (j + 2)), .int (xs (j + 3)), .ref (b + 121)]) (st := []) C hwx rfl (Nat.le_of_ble_eq_true rfl) dL_law_1453 (by rw [hRm]; exact hc) (by rw [hRm]; exact hs) (by rw [hRm]; exact Nat.le_of_ble_eq_true rfl) (by rw [hRm]; exact Nat.le_of_ble_eq_true rfl) (x_Lletter hC hq (fun hn => ?_) (fun hT n hn9 => ?_))
  · have hC2 := cI_fr (h2 := hU h (b + 121) (aL 1 (vp_updL f 0 (ltF (nmA P (xs (j + 1)) (xs (j + 2))) (xs (j + 3))).toInt64))) hC (fun a a1 a2 => hU_n (by omega))
    have hM2 := mI_fr (h2 := hU h (b + 121) (aL 1 (vp_updL f 0 (ltF (nmA P (xs (j + 1)) (xs (j + 2))) (xs (j + 3))).toInt64))) hM (fun a a1 a2 => hU_n (by omega))
    have hq2 : (hU h (b + 121) (aL 1 (vp_updL f 0 (ltF (nmA P (xs (j + 1)) (xs (j + 2))) (xs (j + 3))).toInt64))).1 (b + 121) = some (aL 1 (vp_updL f 0 (ltF (nmA P (xs (j + 1)) (xs (j + 2))) (xs (j + 3))).toInt64)) := hU_s
    generalize hU h (b + 121) (aL 1 (vp_updL f 0 (ltF (nmA P (xs (j + 1)) (xs (j + 2))) (xs (j + 3))).toInt64)) = h2 at hC2 hM2 hq2 ⊢
    refine l_istore (ls2 := [some (.ref sb), some (.ref b), some (.ref (b + 97)), some (.ref (b + 121)), some (.int (nI j)), some (.int (0)), none]) C dL_law_1456 (by decide) rfl rfl ?_
    obtain ⟨fs2, hm⟩ := mI_at hM2
    refine l_aload_n C dL_law_1458 rfl ?_
    refine l_arg (n := 1) C hS hL (by omega) rfl rfl dL_law_1459 dL_law_1460 dL_law_1462 dL_law_1463 dL_law_1464 (by decide) ?_
    refine l_arg (n := 2) C hS hL (by omega) rfl rfl dL_law_1465 dL_law_1466 dL_law_1468 dL_law_1469 dL_law_1470 (by decide) ?_
    refine l_arg (n := 3) C hS hL (by omega) rfl rfl dL_law_1471 dL_law_1472 dL_law_1474 dL_law_1475 dL_law_1476 (by decide) ?_
    refine l_callV (ci := 10) (d' := 13) (mc' := 0) (ms' := 0) (As := [.int (xs (j + 1)), .int (xs (j + 2)), .int (xs (j + 3))]) (st := []) C lL_163 vX10_letter rfl hm rfl (Nat.le_of_ble_eq_true rfl) dL_law_1477 (by rw [hRm]; show cells + 1 + 0 ≤ 1147; omega) (by rw [hRm]; show slots + 6 + 0 ≤ 37190; omega) (by rw [hRm]; exact Nat.le_of_ble_eq_true rfl) (by rw [hRm]; exact Nat.le_of_ble_eq_true rfl) (q_letter hM2 ?_)
    intro h3 hM3 hf3
    rw [if_neg hn] at hM3
    rw [if_neg hn]
    refine l_istore (ls2 := [some (.ref sb), some (.ref b), some (.ref (b + 97)), some (.ref (b + 121)), some (.int (nI j)), some (.int (0)), some (.int (ltF (nmA P (xs (j + 1)) (xs (j + 2))) (xs (j + 3))))]) C dL_law_1480 (by decide) rfl rfl ?_
    obtain ⟨fs3, hm3⟩ := mI_at hM3
    refine l_aload_n C dL_law_1482 rfl ?_
    refine l_callV (ci := 10) (d' := 13) (mc' := 0) (ms' := 0) (As := []) (st := []) C lL_164 vX10_thrown rfl hm3 rfl (Nat.le_of_ble_eq_true rfl) dL_law_1483 (by rw [hRm]; show cells + 1 + 0 + 0 ≤ 1147; omega) (by rw [hRm]; show slots + 6 + 0 + 0 ≤ 37190; omega) (by rw [hRm]; exact Nat.le_of_ble_eq_true rfl) (by rw [hRm]; exact Nat.le_of_ble_eq_true rfl) (q_thrown hM3 ?_)
    refine l_iload C dL_law_1486 rfl ?_
    refine l_icmp_eq (tgt := 1493) C dL_law_1488 rfl (fun _ => ?_) (fun z => absurd rfl z)
    refine l_iload C dL_law_1493 rfl ?_
    refine l_if_ne (tgt := 1510) C dL_law_1495 rfl (fun z => absurd rfl z) (fun _ => ?_)
    have hq3 := (hf3.2 (b + 121) (by omega)).trans hq2
    refine l_aload_n C dL_law_1498 rfl ?_
    refine l_iconst (v := 0) C dL_law_1499 (by decide) ?_
    refine l_laload C hq3 (vp_in_lit (k := 0) rfl rfl) dL_law_1500 ?_
    refine l_iload C dL_law_1501 rfl ?_
    refine l_i2l C dL_law_1503 ?_
    refine l_lcmp C dL_law_1504 ?_
    refine l_if_eq (tgt := 1510) C dL_law_1505 rfl (fun _ => ?_) (fun z => absurd ((lg_cmp_eq _ _).mpr pk_uLs) z)
    refine l_goto (tgt := 1539) C dL_law_1510 rfl ?_
    refine l_less (ls2 := lL sb b j) ⟨Or.inr rfl, Or.inr rfl, Or.inr rfl, Or.inr rfl, Or.inr rfl, Or.inl rfl, Or.inl rfl, trivial⟩ ?_
    exact next h3 (LI_m hf3 hC2 hq2 hM3)
  · have hC2 := cI_fr (h2 := ((h.1, n) : hH)) hC (fun a a1 a2 => rfl)
    have hM2 := mI_fr (h2 := ((h.1, n) : hH)) hM (fun a a1 a2 => rfl)
    have hq2 : ((h.1, n) : hH).1 (b + 121) = some (aL 1 f) := hq
    generalize ((h.1, n) : hH) = h2 at hC2 hM2 hq2 ⊢
    refine l_istore (ls2 := [some (.ref sb), some (.ref b), some (.ref (b + 97)), some (.ref (b + 121)), some (.int (nI j)), some (.int (1)), none]) C dL_law_1456 (by decide) rfl rfl ?_
    obtain ⟨fs2, hm⟩ := mI_at hM2
    refine l_aload_n C dL_law_1458 rfl ?_
    refine l_arg (n := 1) C hS hL (by omega) rfl rfl dL_law_1459 dL_law_1460 dL_law_1462 dL_law_1463 dL_law_1464 (by decide) ?_
    refine l_arg (n := 2) C hS hL (by omega) rfl rfl dL_law_1465 dL_law_1466 dL_law_1468 dL_law_1469 dL_law_1470 (by decide) ?_
    refine l_arg (n := 3) C hS hL (by omega) rfl rfl dL_law_1471 dL_law_1472 dL_law_1474 dL_law_1475 dL_law_1476 (by decide) ?_
    refine l_callV (ci := 10) (d' := 13) (mc' := 0) (ms' := 0) (As := [.int (xs (j + 1)), .int (xs (j + 2)), .int (xs (j + 3))]) (st := []) C lL_163 vX10_letter rfl hm rfl (Nat.le_of_ble_eq_true rfl) dL_law_1477 (by rw [hRm]; show cells + 1 + 0 ≤ 1147; omega) (by rw [hRm]; show slots + 6 + 0 ≤ 37190; omega) (by rw [hRm]; exact Nat.le_of_ble_eq_true rfl) (by rw [hRm]; exact Nat.le_of_ble_eq_true rfl) (q_letter hM2 ?_)
    intro h3 hM3 hf3
    rw [if_pos hT] at hM3
    rw [if_pos hT]
    refine l_istore (ls2 := [some (.ref sb), some (.ref b), some (.ref (b + 97)), some (.ref (b + 121)), some (.int (nI j)), some (.int (1)), some (.int (0))]) C dL_law_1480 (by decide) rfl rfl ?_
    obtain ⟨fs3, hm3⟩ := mI_at hM3
    refine l_aload_n C dL_law_1482 rfl ?_
    refine l_callV (ci := 10) (d' := 13) (mc' := 0) (ms' := 0) (As := []) (st := []) C lL_164 vX10_thrown rfl hm3 rfl (Nat.le_of_ble_eq_true rfl) dL_law_1483 (by rw [hRm]; show cells + 1 + 0 + 0 ≤ 1147; omega) (by rw [hRm]; show slots + 6 + 0 + 0 ≤ 37190; omega) (by rw [hRm]; exact Nat.le_of_ble_eq_true rfl) (by rw [hRm]; exact Nat.le_of_ble_eq_true rfl) (q_thrown hM3 ?_)
    refine l_iload C dL_law_1486 rfl ?_
    refine l_icmp_eq (tgt := 1493) C dL_law_1488 rfl (fun _ => ?_) (fun z => absurd rfl z)
    refine l_iload C dL_law_1493 rfl ?_
    refine l_if_ne (tgt := 1510) C dL_law_1495 rfl (fun _ => ?_) (fun z => absurd z (by decide))
    refine l_goto (tgt := 1539) C dL_law_1510 rfl ?_
    refine l_less (ls2 := lL sb b j) ⟨Or.inr rfl, Or.inr rfl, Or.inr rfl, Or.inr rfl, Or.inr rfl, Or.inl rfl, Or.inl rfl, trivial⟩ ?_
    exact next h3 (LI_m hf3 hC2 hq2 hM3)
set_option maxRecDepth 100000 in
set_option maxHeartbeats 4000000 in
theorem k_switch {X : lX} {G : wG} {sb L b j cells slots : Nat} {xs : Nat → Int32} {h : hH} (C : lK X RL cL_law 7) (hRm : X.2.2.2.2.2.2.2.2.1 = room_1) (hS : lS X G sb L xs) (hL : L ≤ 3072) (hj : j + 6 ≤ L) (hc : cells + 1 ≤ 1147) (hs : slots + 6 ≤ 37190) (hwx : wX X.2.2.1) (hI : LI b h) (next : ∀ h', LI b h' → WL X G 7 (cells + 1) (slots + 6) 1539 (lL sb b j) [] h') : WL X G 7 cells slots 33 (lL sb b j) [] h := by
  refine l_aload_n C dL_law_33 rfl ?_
  refine l_iload C dL_law_34 rfl ?_
  refine l_sld C hS (vp_in_nI (by omega) (by omega)) dL_law_36 ?_
  refine l_bipush (v := 63) C dL_law_37 (by decide) ?_
  refine l_iand C dL_law_39 ?_
  obtain ⟨t, ht, e⟩ := pk_andE (xs (nI j).toNatClampNeg) (m := 63) 6 rfl
  rw [e]
  rcases (show t = 0 ∨ t = 1 ∨ t = 2 ∨ t = 3 ∨ t = 4 ∨ t = 5 ∨ t = 6 ∨ t = 7 ∨ t = 8 ∨ t = 9 ∨ t = 10 ∨ t = 11 ∨ t = 12 ∨ t = 13 ∨ t = 14 ∨ t = 15 ∨ t = 16 ∨ t = 17 ∨ t = 18 ∨ t = 19 ∨ t = 20 ∨ t = 21 ∨ t = 22 ∨ t = 23 ∨ t = 24 ∨ t = 25 ∨ t = 26 ∨ t = 27 ∨ t = 28 ∨ t = 29 ∨ t = 30 ∨ t = 31 ∨ t = 32 ∨ t = 33 ∨ t = 34 ∨ t = 35 ∨ 36 ≤ t by omega) with rfl | rfl | rfl | rfl | rfl | rfl | rfl | rfl | rfl | rfl | rfl | rfl | rfl | rfl | rfl | rfl | rfl | rfl | rfl | rfl | rfl | rfl | rfl | rfl | rfl | rfl | rfl | rfl | rfl | rfl | rfl | rfl | rfl | rfl | rfl | rfl | h36
  · exact l_tableIn (off := 160) (tgt := 200) C dL_law_40 (by decide) (by decide) rfl rfl (k_feed C hRm hS hL hj hc hs hI next)
  · exact l_tableIn (off := 233) (tgt := 273) C dL_law_40 (by decide) (by decide) rfl rfl (k_text C hRm hS hL hj hc hs hI next)
  · exact l_tableIn (off := 258) (tgt := 298) C dL_law_40 (by decide) (by decide) rfl rfl (k_fault C hRm hS hL hj hc hs hI next)
  · exact l_tableIn (off := 271) (tgt := 311) C dL_law_40 (by decide) (by decide) rfl rfl (k_where C hRm hS hL hj hc hs hI next)
  · exact l_tableIn (off := 284) (tgt := 324) C dL_law_40 (by decide) (by decide) rfl rfl (k_about C hRm hS hL hj hc hs hI next)
  · exact l_tableIn (off := 309) (tgt := 349) C dL_law_40 (by decide) (by decide) rfl rfl (k_loop C hRm hS hL hj hc hs hI next)
  · exact l_tableIn (off := 346) (tgt := 386) C dL_law_40 (by decide) (by decide) rfl rfl (k_wave C hRm hS hL hj hc hs hI next)
  · exact l_tableIn (off := 383) (tgt := 423) C dL_law_40 (by decide) (by decide) rfl rfl (k_level C hRm hS hL hj hc hs hI next)
  · exact l_tableIn (off := 420) (tgt := 460) C dL_law_40 (by decide) (by decide) rfl rfl (k_seed C hRm hS hL hj hc hs hI next)
  · exact l_tableIn (off := 445) (tgt := 485) C dL_law_40 (by decide) (by decide) rfl rfl (k_begin C hRm hS hL hj hc hs hI next)
  · exact l_tableIn (off := 482) (tgt := 522) C dL_law_40 (by decide) (by decide) rfl rfl (k_run C hRm hS hL hj hc hs hI next)
  · exact l_tableIn (off := 507) (tgt := 547) C dL_law_40 (by decide) (by decide) rfl rfl (k_now C hRm hS hL hj hc hs hI next)
  · exact l_tableIn (off := 532) (tgt := 572) C dL_law_40 (by decide) (by decide) rfl rfl (k_sum C hRm hS hL hj hc hs hI next)
  · exact l_tableIn (off := 557) (tgt := 597) C dL_law_40 (by decide) (by decide) rfl rfl (k_size C hRm hS hL hj hc hs hI next)
  · exact l_tableIn (off := 582) (tgt := 622) C dL_law_40 (by decide) (by decide) rfl rfl (k_out C hRm hS hL hj hc hs hI next)
  · exact l_tableIn (off := 607) (tgt := 647) C dL_law_40 (by decide) (by decide) rfl rfl (k_often C hRm hS hL hj hc hs hI next)
  · exact l_tableIn (off := 656) (tgt := 696) C dL_law_40 (by decide) (by decide) rfl rfl (k_astray C hRm hS hL hj hc hs hI next)
  · exact l_tableIn (off := 693) (tgt := 733) C dL_law_40 (by decide) (by decide) rfl rfl (k_rows C hRm hS hL hj hc hs hI next)
  · exact l_tableIn (off := 742) (tgt := 782) C dL_law_40 (by decide) (by decide) rfl rfl (k_like C hRm hS hL hj hc hs hI next)
  · exact l_tableIn (off := 791) (tgt := 831) C dL_law_40 (by decide) (by decide) rfl rfl (k_tone C hRm hS hL hj hc hs hI next)
  · exact l_tableIn (off := 840) (tgt := 880) C dL_law_40 (by decide) (by decide) rfl rfl (k_nth C hRm hS hL hj hc hs hI next)
  · exact l_tableIn (off := 877) (tgt := 917) C dL_law_40 (by decide) (by decide) rfl rfl (k_mean C hRm hS hL hj hc hs hI next)
  · exact l_tableIn (off := 926) (tgt := 966) C dL_law_40 (by decide) (by decide) rfl rfl (k_octet C hRm hS hL hj hc hs hI next)
  · exact l_tableIn (off := 951) (tgt := 991) C dL_law_40 (by decide) (by decide) rfl rfl (k_summed C hRm hS hL hj hc hs hI next)
  · exact l_tableIn (off := 988) (tgt := 1028) C dL_law_40 (by decide) (by decide) rfl rfl (k_summedAt C hRm hS hL hj hc hs hI next)
  · exact l_tableIn (off := 1037) (tgt := 1077) C dL_law_40 (by decide) (by decide) rfl rfl (k_worst C hRm hS hL hj hc hs hI next)
  · exact l_tableIn (off := 1074) (tgt := 1114) C dL_law_40 (by decide) (by decide) rfl rfl (k_cycle C hRm hS hL hj hc hs hI next)
  · exact l_tableIn (off := 1123) (tgt := 1163) C dL_law_40 (by decide) (by decide) rfl rfl (k_fed C hRm hS hL hj hc hs hI next)
  · exact l_tableIn (off := 1184) (tgt := 1224) C dL_law_40 (by decide) (by decide) rfl rfl (k_sweep C hRm hS hL hj hc hs hI next)
  · exact l_tableIn (off := 1257) (tgt := 1297) C dL_law_40 (by decide) (by decide) rfl rfl (k_steady C hRm hS hL hj hc hs hI next)
  · exact l_tableIn (off := 1282) (tgt := 1322) C dL_law_40 (by decide) (by decide) rfl rfl (k_apart C hRm hS hL hj hc hs hI next)
  · exact l_tableIn (off := 1343) (tgt := 1383) C dL_law_40 (by decide) (by decide) rfl rfl (k_keep C hRm hS hL hj hc hs hI next)
  · exact l_tableIn (off := 1368) (tgt := 1408) C dL_law_40 (by decide) (by decide) rfl rfl (k_back C hRm hS hL hj hc hs hI next)
  · exact l_tableIn (off := 1393) (tgt := 1433) C dL_law_40 (by decide) (by decide) rfl rfl (k_letter C hRm hS hL hj hc hs hwx hI next)
  · exact l_tableIn (off := 1473) (tgt := 1513) C dL_law_40 (by decide) (by decide) rfl rfl (k_bytes C hRm hS hL hj hc hs hI next)
  · exact l_tableIn (off := 1486) (tgt := 1526) C dL_law_40 (by decide) (by decide) rfl rfl (k_trouble C hRm hS hL hj hc hs hI next)
  · refine l_tableOut (tgt := 1539) C dL_law_40 (Or.inr ?_) rfl (l_widen (by omega) (by omega) (next h hI))
    rw [nI_toInt (by omega)]
    omega
set_option maxRecDepth 100000 in
set_option maxHeartbeats 4000000 in
theorem law_loop {X : lX} {G : wG} {sb L b : Nat} {xs : Nat → Int32} (C : lK X RL cL_law 7) (hRm : X.2.2.2.2.2.2.2.2.1 = room_1) (hS : lS X G sb L xs) (hL : L ≤ 3072) (hwx : wX X.2.2.1) (fin : ∀ (cells slots : Nat) (ls : List (Option Value)) (h : hH), cells ≤ 1147 → slots ≤ 37190 → WL X G 7 cells slots 1546 ls [.int 1] h) : ∀ (n r : Nat) (h : hH), L < 6 * r + 6 * n + 6 → 6 * r ≤ L → LI b h → WL X G 7 (122 + r) (28992 + 6 * r) 23 (lL sb b (6 * r)) [] h := by
  intro n
  induction n with
  | zero =>
    intro r h hn hr hI
    refine l_iload C dL_law_23 rfl ?_
    refine l_aload_n C dL_law_25 rfl ?_
    refine l_slen C hS dL_law_26 ?_
    refine l_bipush (v := nI 6) C dL_law_27 (by decide) ?_
    refine l_isub C dL_law_29 ?_
    refine l_icmp_gt (tgt := 1545) C dL_law_30 rfl (fun _ => ?_) (fun z => ?_)
    · refine l_iconst (v := 1) C dL_law_1545 (by decide) ?_
      exact fin _ _ _ _ (by omega) (by omega)
    · exfalso
      have e1 : (Int32.ofNat L - nI 6).toInt = (L : Int) - (6 : Nat) := pk_sub_toInt (by omega) (by omega)
      rw [Int32.lt_iff_toInt_lt, e1, nI_toInt (by omega)] at z
      omega
  | succ n ih =>
    intro r h hn hr hI
    refine l_iload C dL_law_23 rfl ?_
    refine l_aload_n C dL_law_25 rfl ?_
    refine l_slen C hS dL_law_26 ?_
    refine l_bipush (v := nI 6) C dL_law_27 (by decide) ?_
    refine l_isub C dL_law_29 ?_
    refine l_icmp_gt (tgt := 1545) C dL_law_30 rfl (fun _ => ?_) (fun z => ?_)
    · refine l_iconst (v := 1) C dL_law_1545 (by decide) ?_
      exact fin _ _ _ _ (by omega) (by omega)
    · have e1 : (Int32.ofNat L - nI 6).toInt = (L : Int) - (6 : Nat) := pk_sub_toInt (by omega) (by omega)
      rw [Int32.lt_iff_toInt_lt, e1, nI_toInt (by omega)] at z
      have hj : 6 * r + 6 ≤ L := by omega
      refine k_switch C hRm hS hL hj (by omega) (by omega) hwx hI (fun h2 hI2 => ?_)
      refine l_iinc (v := nI (6 * (r + 1))) (ls2 := lL sb b (6 * (r + 1))) C dL_law_1539 rfl (nI_add (6 * r) 6) (by decide) rfl rfl ?_
      refine l_goto (tgt := 23) C dL_law_1542 rfl ?_
      exact l_widen (by omega) (by omega) (ih (r + 1) h2 (by omega) (by omega) hI2)
