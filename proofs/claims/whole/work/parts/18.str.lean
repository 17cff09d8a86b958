theorem tw_val : Cond.fieldLink RJ0 9 "java/lang/String" "value" "[B" ∈ lw_tbl := tq 1545 (by decide +kernel)
theorem tw_cod : Cond.fieldLink RJ0 15 "java/lang/String" "coder" "B" ∈ lw_tbl := tq 1546 (by decide +kernel)
theorem tw_cmp : Cond.fieldLink RJ0 38 "java/lang/String" "COMPACT_STRINGS" "Z" ∈ lw_tbl := tq 431 (by decide +kernel)
theorem tw_sio : Cond.fieldLink RJ0 1053 "jdk/internal/util/Preconditions" "SIOOBE_FORMATTER" "Ljava/util/function/BiFunction;" ∈ lw_tbl := tq 447 (by decide +kernel)
theorem wSL_len : ∀ (i : Nat) (r : String × Nat × String × Nat × List Int32), wSL[i]? = some r → r.2.2.2.1 ≤ 5 ∧ 2 ≤ r.2.2.2.1 := by
  intro i r h
  have hm := List.mem_of_getElem? h
  revert r
  intro r _ hm
  have : ∀ r ∈ wSL, r.2.2.2.1 ≤ 5 ∧ 2 ≤ r.2.2.2.1 := by decide +kernel
  exact this r hm
section
variable {G : wG} {own : String} {cc : ByteArray} {nL : Nat} {ret : Option FieldType} {ini : Bool} {d mc ms cells slots : Nat} {Q : Option Value → hH → Prop} {pc : Nat} {ls : List (Option Value)} {st : List Value} {h : hH} {i : Nat} {r : String × Nat × String × Nat × List Int32}
theorem w_getstr {idx : Nat} (hr : wSL[i]? = some r) (hl : Cond.fieldLink own idx "java/lang/String" "value" "[B" ∈ lw_tbl) (hd : decode cc pc = .ok (.getfield idx, 3)) (k : WP G own cc nL ret ini d mc ms cells slots Q (pc + 3) ls (.ref (G.2.2.2 i) :: st) h) : WP G own cc nL ret ini d mc ms cells slots Q pc ls (.ref (G.2.2.1 i) :: st) h := by
  intro p e s m args below meth c H locs lsA h1 h2 h3 h4 h5 h6 h7 h8 h9 h10
  obtain ⟨cf, kf, fi, f, cell, g1, g2, g3, g4, g5, g6⟩ := (h8.2.2.1 i r hr).2.2.2.1
  exact W.getf h1 h2 h5 (h8.2.1.at hl rfl rfl) g1 g2 g3 g4 (v := .ref (G.2.2.2 i)) g5 rfl rfl hd (k p e s m args below meth c H locs lsA h1 h2 h3 h4 h5 h6 h7 h8 h9 h10)
theorem w_getcod {idx : Nat} (hr : wSL[i]? = some r) (hl : Cond.fieldLink own idx "java/lang/String" "coder" "B" ∈ lw_tbl) (hd : decode cc pc = .ok (.getfield idx, 3)) (k : WP G own cc nL ret ini d mc ms cells slots Q (pc + 3) ls (.int 0 :: st) h) : WP G own cc nL ret ini d mc ms cells slots Q pc ls (.ref (G.2.2.1 i) :: st) h := by
  intro p e s m args below meth c H locs lsA h1 h2 h3 h4 h5 h6 h7 h8 h9 h10
  obtain ⟨cf, kf, fi, f, cell, g1, g2, g3, g4, g5, g6⟩ := (h8.2.2.1 i r hr).2.2.1
  exact W.getf h1 h2 h5 (h8.2.1.at hl rfl rfl) g1 g2 g3 g4 (v := .int 0) g5 rfl rfl hd (k p e s m args below meth c H locs lsA h1 h2 h3 h4 h5 h6 h7 h8 h9 h10)
theorem w_gstat (hd : decode cc pc = .ok (.getstatic 38, 3)) (k : WP G RJ0 cc nL ret ini d mc ms cells slots Q (pc + 3) ls (.int 1 :: st) h) : WP G RJ0 cc nL ret ini d mc ms cells slots Q pc ls st h := by
  intro p e s m args below meth c H locs lsA h1 h2 h3 h4 h5 h6 h7 h8 h9 h10
  obtain ⟨cf, kf, fi, f, a, cell, g1, g2, g3, g4, g5, g6, g7, g8⟩ := h8.2.2.2.1.1
  exact W.gets h1 h2 h5 (h8.2.1.at tw_cmp rfl rfl) g1 g2 g3 g4 g5 (fun z => by rw [z] at g6; cases g6) g7 rfl hd (k p e s m args below meth c H locs lsA h1 h2 h3 h4 h5 h6 h7 h8 h9 h10)
theorem w_gstatF (hd : decode cc pc = .ok (.getstatic 1053, 3)) (k0 : WP G RJ0 cc nL ret ini d mc ms cells slots Q (pc + 3) ls (.null :: st) h) (k1 : ∀ t : Nat, WP G RJ0 cc nL ret ini d mc ms cells slots Q (pc + 3) ls (.ref t :: st) h) : WP G RJ0 cc nL ret ini d mc ms cells slots Q pc ls st h := by
  intro p e s m args below meth c H locs lsA h1 h2 h3 h4 h5 h6 h7 h8 h9 h10
  rcases h8.2.2.2.1.2.1 with ⟨cf, kf, fi, f, a, cell, g1, g2, g3, g4, g5, g6, g7, g8⟩ | ⟨t, cf, kf, fi, f, a, cell, g1, g2, g3, g4, g5, g6, g7, g8⟩
  · exact W.gets h1 h2 h5 (h8.2.1.at tw_sio rfl rfl) g1 g2 g3 g4 g5 (fun z => by rw [z] at g6; cases g6) g7 rfl hd (k0 p e s m args below meth c H locs lsA h1 h2 h3 h4 h5 h6 h7 h8 h9 h10)
  · exact W.gets h1 h2 h5 (h8.2.1.at tw_sio rfl rfl) g1 g2 g3 g4 g5 (fun z => by rw [z] at g6; cases g6) g7 rfl hd (k1 t p e s m args below meth c H locs lsA h1 h2 h3 h4 h5 h6 h7 h8 h9 h10)
theorem w_alenS (hr : wSL[i]? = some r) (hd : decode cc pc = .ok (.arraylength, 1)) (k : WP G own cc nL ret ini d mc ms cells slots Q (pc + 1) ls (.int (nI r.2.2.2.1) :: st) h) : WP G own cc nL ret ini d mc ms cells slots Q pc ls (.ref (G.2.2.2 i) :: st) h := by
  intro p e s m args below meth c H locs lsA h1 h2 h3 h4 h5 h6 h7 h8 h9 h10
  obtain ⟨cell, g1, g2, g3, g4, g5, g6, g7⟩ := (h8.2.2.1 i r hr).2.2.2.2
  exact W.alen (n := nI r.2.2.2.1) h1 h2 g1 g2 g5 rfl rfl hd (k p e s m args below meth c H locs lsA h1 h2 h3 h4 h5 h6 h7 h8 h9 h10)
theorem w_baloadS {j : Nat} (hr : wSL[i]? = some r) (hj : j < r.2.2.2.1) (hj2 : j < 2 ^ 31) (hd : decode cc pc = .ok (.baload, 1)) (k : WP G own cc nL ret ini d mc ms cells slots Q (pc + 1) ls (.int (r.2.2.2.2.getD j 0) :: st) h) : WP G own cc nL ret ini d mc ms cells slots Q pc ls (.int (nI j) :: .ref (G.2.2.2 i) :: st) h := by
  intro p e s m args below meth c H locs lsA h1 h2 h3 h4 h5 h6 h7 h8 h9 h10
  obtain ⟨cell, g1, g2, g3, g4, g5, g6, g7⟩ := (h8.2.2.1 i r hr).2.2.2.2
  have hc := nI_clamp hj2
  exact W.bald (v := .int (r.2.2.2.2.getD j 0)) h1 h2 g1 g2 g3 (by
    rintro (z | z)
    · exact nI_pos hj2 z
    · rw [hc] at z; omega) (by rw [hc]; exact g6 j hj) rfl rfl hd (k p e s m args below meth c H locs lsA h1 h2 h3 h4 h5 h6 h7 h8 h9 h10)
theorem w_callVS {idx n d' mc' ms' : Nat} {y : MethodName} {As : List Value} (hL : wLk own idx y) (hY : wYv y n) (hn : As.length = n) (hr : wSL[i]? = some r) (hcl : y.cls = "java/lang/String") (hst : (st.map fun v => v.category).sum ≤ 8) (hd : decode cc pc = .ok (.invokevirtual idx, 3)) (hcells : cells + mc' ≤ mc) (hslots : slots + ms' ≤ ms) (hdd : d' + 1 ≤ d) (k : Cl G y d' mc' ms' (.ref (G.2.2.1 i) :: As) h (fun r h' => WP G own cc nL ret ini d mc ms (cells + mc') (slots + ms') Q (pc + 3) ls (psh r st) h')) : WP G own cc nL ret ini d mc ms cells slots Q pc ls (As.reverse ++ .ref (G.2.2.1 i) :: st) h := by
  intro p e s m args below meth c H locs lsA h1 h2 h3 h4 h5 h6 h7 h8 h9 h10
  obtain ⟨bytes, maxL, rt, hcode, hmx, hM⟩ := k
  have hts := h8.2.1
  have hroom : 8 + (maxL + 11) + (wR d' mc' ms').locals ≤ (wR d mc ms).locals := by
    show 8 + (maxL + 11) + 37 * d' ≤ 37 * d
    omega
  have hww : ∀ w ∈ [Cond.code y bytes maxL rt], ∀ (a' : Array Value) (U : State), s.WarmedH U.vm → w.before a' U = true := by
    intro w hw a' U hW
    rw [List.mem_singleton.mp hw]
    exact (hts.warm hW).at hcode rfl rfl
  have hrv : ∃ cellB : Cell, H[G.2.2.1 i]? = some cellB ∧ cellB.vm.isStatics = false ∧ s.vm.findClass y.cls = some cellB.cls := by
    obtain ⟨cell, g1, g2, g3, g4⟩ := (h8.2.2.1 i r hr).2.1
    exact ⟨cell, g1, g2, by rw [hcl]; exact g3⟩
  rcases hL with hL | ⟨host, hL⟩
  · refine w_after (va_runV (As := As) (rest := st) (C := y.cls) (Ts := []) ⟨h1, h2, h4, h5, fun _ z => nomatch z⟩ hM ⟨⟨rfl, rfl, hdd, hroom, hww, List.mem_singleton.mpr rfl, hts.at hcode rfl rfl, hts.at hY.1.1 rfl rfl, hY.1.2.1, hY.1.len, hts.at hL rfl rfl⟩, hts.at hY.2.1 rfl rfl, hts.at hY.2.2 rfl rfl⟩ ⟨hR.blind, hrv, fun U hU hW => ⟨rfl, hR.at hU (h8.warm hW)⟩⟩ rfl hn h10.1 rfl (lv_room hst) hd ⟨hcells, hslots⟩) h8 h9 (fun r h' hQ H1 locs1 hR1 hS1 => hQ p e s m args below meth c H1 locs1 lsA h1 h2 h3 h4 h5 h6 h7 hR1 hS1 h10)
  · refine w_after (va_runVN (As := As) (rest := st) (C := y.cls) (Ts := []) ⟨h1, h2, h4, h5, fun _ z => nomatch z⟩ hM ⟨⟨⟨rfl, rfl, hdd, hroom, hww, List.mem_singleton.mpr rfl⟩, hts.at hcode rfl rfl, hts.at hY.1.1 rfl rfl, hY.1.2.1, hY.1.len, hts.at hL rfl rfl⟩, hts.at hY.2.1 rfl rfl, hts.at hY.2.2 rfl rfl⟩ ⟨hR.blind, hrv, fun U hU hW => ⟨rfl, hR.at hU (h8.warm hW)⟩⟩ rfl hn h10.1 rfl (lv_room hst) hd ⟨hcells, hslots⟩) h8 h9 (fun r h' hQ H1 locs1 hR1 hS1 => hQ p e s m args below meth c H1 locs1 lsA h1 h2 h3 h4 h5 h6 h7 hR1 hS1 h10)
end
set_option maxRecDepth 100000 in
set_option maxHeartbeats 4000000 in
theorem c_coder {G : wG} {d : Nat} {h : hH} {Q : Option Value → hH → Prop} {i : Nat} {r : String × Nat × String × Nat × List Int32}  (hr : wSL[i]? = some r)  (k : Q (some (.int 0)) h) : Cl G yJ0_coder_7d493 d 0 0 [.ref (G.2.2.1 i)] h Q := by
  refine Cl.of (ini := false) kJ0_coder_7d493 (by decide +kernel) (by decide) (Nat.le_of_ble_eq_true rfl) rfl rfl (fun z => by cases z) ?_
  refine w_gstat dJ0_coder_7d493_0 ?_
  refine w_if_eq_f (tgt := 13) dJ0_coder_7d493_3 rfl (by decide) ?_
  refine w_aload_n dJ0_coder_7d493_6 rfl ?_
  refine w_getcod hr tw_cod dJ0_coder_7d493_7 ?_
  refine w_goto (tgt := 14) dJ0_coder_7d493_10 rfl ?_
  refine w_zreturn rfl dJ0_coder_7d493_14 rfl (Nat.le_of_ble_eq_true rfl) (Nat.le_of_ble_eq_true rfl) ?_
  exact k
set_option maxRecDepth 100000 in
set_option maxHeartbeats 4000000 in
theorem c_isLatin1 {G : wG} {d : Nat} {h : hH} {Q : Option Value → hH → Prop} {i : Nat} {r : String × Nat × String × Nat × List Int32}  (hr : wSL[i]? = some r)  (k : Q (some (.int 1)) h) : Cl G yJ0_isLatin1_aae02 d 0 0 [.ref (G.2.2.1 i)] h Q := by
  refine Cl.of (ini := false) kJ0_isLatin1_aae02 (by decide +kernel) (by decide) (Nat.le_of_ble_eq_true rfl) rfl rfl (fun z => by cases z) ?_
  refine w_gstat dJ0_isLatin1_aae02_0 ?_
  refine w_if_eq_f (tgt := 17) dJ0_isLatin1_aae02_3 rfl (by decide) ?_
  refine w_aload_n dJ0_isLatin1_aae02_6 rfl ?_
  refine w_getcod hr tw_cod dJ0_isLatin1_aae02_7 ?_
  refine w_if_ne_f (tgt := 17) dJ0_isLatin1_aae02_10 rfl rfl ?_
  refine w_iconst (v := 1) dJ0_isLatin1_aae02_13 (by decide) ?_
  refine w_goto (tgt := 18) dJ0_isLatin1_aae02_14 rfl ?_
  refine w_zreturn rfl dJ0_isLatin1_aae02_18 rfl (Nat.le_of_ble_eq_true rfl) (Nat.le_of_ble_eq_true rfl) ?_
  exact k
set_option maxRecDepth 100000 in
set_option maxHeartbeats 4000000 in
theorem c_length {G : wG} {d : Nat} {h : hH} {Q : Option Value → hH → Prop} {i : Nat} {r : String × Nat × String × Nat × List Int32}  (hr : wSL[i]? = some r)  (k : Q (some (.int (nI r.2.2.2.1))) h) : Cl G yJ0_length_8abf5 (d + 1) 0 0 [.ref (G.2.2.1 i)] h Q := by
  refine Cl.of (ini := false) kJ0_length_8abf5 (by decide +kernel) (by decide) (Nat.le_of_ble_eq_true rfl) rfl rfl (fun z => by cases z) ?_
  refine w_aload_n dJ0_length_8abf5_0 rfl ?_
  refine w_getstr hr tw_val dJ0_length_8abf5_1 ?_
  refine w_alenS hr dJ0_length_8abf5_4 ?_
  refine w_aload_n dJ0_length_8abf5_5 rfl ?_
  refine w_callVS (d' := d) (mc' := 0) (ms' := 0) (As := []) (st := [.int (nI r.2.2.2.1)]) lJ0_335 vJ0_coder_7d493 rfl hr rfl (Nat.le_of_ble_eq_true rfl) dJ0_length_8abf5_6 (Nat.le_of_ble_eq_true rfl) (Nat.le_of_ble_eq_true rfl) (Nat.le_refl _) (c_coder hr ?_)
  refine w_ishr dJ0_length_8abf5_9 ?_
  refine w_ireturn rfl dJ0_length_8abf5_10 (Nat.le_of_ble_eq_true rfl) (Nat.le_of_ble_eq_true rfl) ?_
  rw [sc_shr0 (by have := wSL_len i r hr; omega)]
  exact k
set_option maxRecDepth 100000 in
set_option maxHeartbeats 4000000 in
theorem c_pre_n {G : wG} {d : Nat} {h : hH} {Q : Option Value → hH → Prop} {i : Nat} {r : String × Nat × String × Nat × List Int32} {j n : Nat} (hr : wSL[i]? = some r) (hj : j < n) (hn : n < 2 ^ 31) (k : Q (some (.int (nI j))) h) : Cl G yJ3_checkIndex_8e157 (d + 1) 0 0 [.int (nI j), .int (nI n), .null] h Q := by
  refine Cl.of (ini := false) kJ3_checkIndex_8e157 (by decide +kernel) (by decide) (Nat.le_of_ble_eq_true rfl) rfl rfl (fun z => by cases z) ?_
  refine w_iload_n dJ3_checkIndex_8e157_0 rfl ?_
  refine w_if_lt_f (tgt := 9) dJ3_checkIndex_8e157_1 rfl (fun z => absurd ((nI_ltI (a := j) (b := 0) (by omega) (by omega)).mp z) (by omega)) ?_
  refine w_iload_n dJ3_checkIndex_8e157_4 rfl ?_
  refine w_iload_n dJ3_checkIndex_8e157_5 rfl ?_
  refine w_icmp_lt_t (tgt := 16) dJ3_checkIndex_8e157_6 rfl ((nI_ltI (a := j) (b := n) (by omega) (by omega)).mpr (by omega)) ?_
  refine w_iload_n dJ3_checkIndex_8e157_16 rfl ?_
  refine w_ireturn rfl dJ3_checkIndex_8e157_17 (Nat.le_of_ble_eq_true rfl) (Nat.le_of_ble_eq_true rfl) ?_
  exact k
set_option maxRecDepth 100000 in
set_option maxHeartbeats 4000000 in
theorem c_pre_r {G : wG} {d : Nat} {h : hH} {Q : Option Value → hH → Prop} {i : Nat} {r : String × Nat × String × Nat × List Int32} {j n : Nat} {t : Nat} (hr : wSL[i]? = some r) (hj : j < n) (hn : n < 2 ^ 31) (k : Q (some (.int (nI j))) h) : Cl G yJ3_checkIndex_8e157 (d + 1) 0 0 [.int (nI j), .int (nI n), .ref t] h Q := by
  refine Cl.of (ini := false) kJ3_checkIndex_8e157 (by decide +kernel) (by decide) (Nat.le_of_ble_eq_true rfl) rfl rfl (fun z => by cases z) ?_
  refine w_iload_n dJ3_checkIndex_8e157_0 rfl ?_
  refine w_if_lt_f (tgt := 9) dJ3_checkIndex_8e157_1 rfl (fun z => absurd ((nI_ltI (a := j) (b := 0) (by omega) (by omega)).mp z) (by omega)) ?_
  refine w_iload_n dJ3_checkIndex_8e157_4 rfl ?_
  refine w_iload_n dJ3_checkIndex_8e157_5 rfl ?_
  refine w_icmp_lt_t (tgt := 16) dJ3_checkIndex_8e157_6 rfl ((nI_ltI (a := j) (b := n) (by omega) (by omega)).mpr (by omega)) ?_
  refine w_iload_n dJ3_checkIndex_8e157_16 rfl ?_
  refine w_ireturn rfl dJ3_checkIndex_8e157_17 (Nat.le_of_ble_eq_true rfl) (Nat.le_of_ble_eq_true rfl) ?_
  exact k
set_option maxRecDepth 100000 in
set_option maxHeartbeats 4000000 in
theorem c_chk {G : wG} {d : Nat} {h : hH} {Q : Option Value → hH → Prop} {i : Nat} {r : String × Nat × String × Nat × List Int32} {j n : Nat} (hr : wSL[i]? = some r) (hj : j < n) (hn : n < 2 ^ 31) (k : Q none h) : Cl G yJ0_checkIndex_df160 (d + 2) 0 0 [.int (nI j), .int (nI n)] h Q := by
  refine Cl.of (ini := false) kJ0_checkIndex_df160 (by decide +kernel) (by decide) (Nat.le_of_ble_eq_true rfl) rfl rfl (fun z => by cases z) ?_
  refine w_iload_n dJ0_checkIndex_df160_0 rfl ?_
  refine w_iload_n dJ0_checkIndex_df160_1 rfl ?_
  refine w_gstatF dJ0_checkIndex_df160_2 ?_ (fun t9 => ?_)
  · refine w_callS (d' := d + 1) (mc' := 0) (ms' := 0) (As := [.int (nI j), .int (nI n), .null]) (st := []) lJ0_1059 vJ3_checkIndex_8e157 rfl (Nat.le_of_ble_eq_true rfl) dJ0_checkIndex_df160_5 (Nat.le_of_ble_eq_true rfl) (Nat.le_of_ble_eq_true rfl) (Nat.le_refl _) (c_pre_n hr hj hn ?_)
    refine w_pop dJ0_checkIndex_df160_8 rfl ?_
    refine w_return rfl dJ0_checkIndex_df160_9 (Nat.le_of_ble_eq_true rfl) (Nat.le_of_ble_eq_true rfl) ?_
    exact k
  · refine w_callS (d' := d + 1) (mc' := 0) (ms' := 0) (As := [.int (nI j), .int (nI n), .ref t9]) (st := []) lJ0_1059 vJ3_checkIndex_8e157 rfl (Nat.le_of_ble_eq_true rfl) dJ0_checkIndex_df160_5 (Nat.le_of_ble_eq_true rfl) (Nat.le_of_ble_eq_true rfl) (Nat.le_refl _) (c_pre_r hr hj hn ?_)
    refine w_pop dJ0_checkIndex_df160_8 rfl ?_
    refine w_return rfl dJ0_checkIndex_df160_9 (Nat.le_of_ble_eq_true rfl) (Nat.le_of_ble_eq_true rfl) ?_
    exact k
set_option maxRecDepth 100000 in
set_option maxHeartbeats 4000000 in
theorem c_latin {G : wG} {d : Nat} {h : hH} {Q : Option Value → hH → Prop} {i : Nat} {r : String × Nat × String × Nat × List Int32} {j : Nat} (hr : wSL[i]? = some r) (hj : j < r.2.2.2.1) (hj2 : j < 2 ^ 31) (k : Q (some (.int (r.2.2.2.2.getD j 0 &&& 255))) h) : Cl G yJ1_charAt_3b067 (d + 3) 0 0 [.ref (G.2.2.2 i), .int (nI j)] h Q := by
  refine Cl.of (ini := false) kJ1_charAt_3b067 (by decide +kernel) (by decide) (Nat.le_of_ble_eq_true rfl) rfl rfl (fun z => by cases z) ?_
  refine w_iload_n dJ1_charAt_3b067_0 rfl ?_
  refine w_aload_n dJ1_charAt_3b067_1 rfl ?_
  refine w_alenS hr dJ1_charAt_3b067_2 ?_
  refine w_callS (d' := d + 2) (mc' := 0) (ms' := 0) (As := [.int (nI j), .int (nI r.2.2.2.1)]) (st := []) lJ1_9 vJ0_checkIndex_df160 rfl (Nat.le_of_ble_eq_true rfl) dJ1_charAt_3b067_3 (Nat.le_of_ble_eq_true rfl) (Nat.le_of_ble_eq_true rfl) (Nat.le_refl _) (c_chk hr hj (by have := wSL_len i r hr; omega) ?_)
  refine w_aload_n dJ1_charAt_3b067_6 rfl ?_
  refine w_iload_n dJ1_charAt_3b067_7 rfl ?_
  refine w_baloadS hr hj (by omega) dJ1_charAt_3b067_8 ?_
  refine w_sipush (v := 255) dJ1_charAt_3b067_9 (by decide) ?_
  refine w_iand dJ1_charAt_3b067_12 ?_
  refine w_i2c dJ1_charAt_3b067_13 ?_
  refine w_zreturn rfl dJ1_charAt_3b067_14 (by rw [sc_c2]; exact sc_nar _) (Nat.le_of_ble_eq_true rfl) (Nat.le_of_ble_eq_true rfl) ?_
  rw [sc_c2]
  exact k
set_option maxRecDepth 100000 in
set_option maxHeartbeats 4000000 in
theorem c_charAt {G : wG} {d : Nat} {h : hH} {Q : Option Value → hH → Prop} {i : Nat} {r : String × Nat × String × Nat × List Int32} {j : Nat} (hr : wSL[i]? = some r) (hj : j < r.2.2.2.1) (hj2 : j < 2 ^ 31) (k : Q (some (.int (r.2.2.2.2.getD j 0 &&& 255))) h) : Cl G yJ0_charAt_5068e (d + 5) 0 0 [.ref (G.2.2.1 i), .int (nI j)] h Q := by
  refine Cl.of (ini := false) kJ0_charAt_5068e (by decide +kernel) (by decide) (Nat.le_of_ble_eq_true rfl) rfl rfl (fun z => by cases z) ?_
  refine w_aload_n dJ0_charAt_5068e_0 rfl ?_
  refine w_callVS (d' := d + 4) (mc' := 0) (ms' := 0) (As := []) (st := []) lJ0_492 vJ0_isLatin1_aae02 rfl hr rfl (Nat.le_of_ble_eq_true rfl) dJ0_charAt_5068e_1 (Nat.le_of_ble_eq_true rfl) (Nat.le_of_ble_eq_true rfl) (Nat.le_refl _) (c_isLatin1 hr ?_)
  refine w_if_eq_f (tgt := 16) dJ0_charAt_5068e_4 rfl (by decide) ?_
  refine w_aload_n dJ0_charAt_5068e_7 rfl ?_
  refine w_getstr hr tw_val dJ0_charAt_5068e_8 ?_
  refine w_iload_n dJ0_charAt_5068e_11 rfl ?_
  refine w_callS (d' := d + 4) (mc' := 0) (ms' := 0) (As := [.ref (G.2.2.2 i), .int (nI j)]) (st := []) lJ0_495 vJ1_charAt_3b067 rfl (Nat.le_of_ble_eq_true rfl) dJ0_charAt_5068e_12 (Nat.le_of_ble_eq_true rfl) (Nat.le_of_ble_eq_true rfl) (Nat.le_refl _) (c_latin hr hj hj2 ?_)
  refine w_zreturn rfl dJ0_charAt_5068e_15 (sc_nar _) (Nat.le_of_ble_eq_true rfl) (Nat.le_of_ble_eq_true rfl) ?_
  exact k
