theorem cI_tp {h : hH} {b : Nat} {ft : Nat → Int32} {tp : Nat} {P : pD} {ht : Int32} {R : Option rnD} {i0 i1 : imD} {sd fa pl tr : Int32} (hI : cI h b ft tp P ht R i0 i1 sd fa pl tr) : tp ≤ 600 := by
  refine cI_e hI ?_
  intro pp ps P2 go ln wn rsd c qw ql cn s fo fg fz i01 i02 i03 i04 i05 i06 i07 i11 i12 i13 i14 i15 i16 i17 wm fw f q0 c0 s1 q1 c1 s2 q2 c2 x hW hpp hP1 hP2 hR hi0 hi1 htp hpo hht
  exact htp
theorem tx_out {y : Int32} {tp : Nat} (ht : tp ≤ 600) (hy : ¬ ∃ E, E ≤ tp ∧ y = nI E) : inB y 0 (nI tp) = 0 := by
  refine inB_n ?_
  rintro ⟨z1, z2⟩
  exact hy (in2 (Int32.not_lt.mpr z1) z2 (by omega))
set_option maxRecDepth 100000 in
set_option maxHeartbeats 4000000 in
theorem k_feed {X : lX} {G : wG} {sb L b j cells slots : Nat} {xs : Nat → Int32} {h : hH} (C : lK X RL cL_law 7) (hRm : X.2.2.2.2.2.2.2.2.1 = room_1) (hS : lS X G sb L xs) (hL : L ≤ 3072) (hj : j + 6 ≤ L) (hc : cells + 1 ≤ 1147) (hs : slots + 6 ≤ 37190) (hI : LI b h) (next : ∀ h', LI b h' → WL X G 7 (cells + 1) (slots + 6) 1539 (lL sb b j) [] h') : WL X G 7 cells slots 200 (lL sb b j) [] h := by
  obtain ⟨ft, tp, P, ht, R, i0, i1, sd, fa, pl, tr, th, f, hC, hM, hq⟩ := hI
  obtain ⟨fs1, hb⟩ := cI_at hC
  refine l_aload_n C dL_law_200 rfl ?_
  refine l_arg (n := 1) C hS hL (by omega) rfl rfl dL_law_201 dL_law_202 dL_law_204 dL_law_205 dL_law_206 (by decide) ?_
  refine l_arg (n := 2) C hS hL (by omega) rfl rfl dL_law_207 dL_law_208 dL_law_210 dL_law_211 dL_law_212 (by decide) ?_
  refine l_arg (n := 3) C hS hL (by omega) rfl rfl dL_law_213 dL_law_214 dL_law_216 dL_law_217 dL_law_218 (by decide) ?_
  refine l_arg (n := 4) C hS hL (by omega) rfl rfl dL_law_219 dL_law_220 dL_law_222 dL_law_223 dL_law_224 (by decide) ?_
  refine l_arg (n := 5) C hS hL (by omega) rfl rfl dL_law_225 dL_law_226 dL_law_228 dL_law_229 dL_law_230 (by decide) ?_
  refine l_callV (ci := 9) (d' := 13) (mc' := 0) (ms' := 0) (As := [.int (xs (j + 1)), .int (xs (j + 2)), .int (xs (j + 3)), .int (xs (j + 4)), .int (xs (j + 5))]) (st := []) C lL_19 vX9_feed rfl hb rfl (Nat.le_of_ble_eq_true rfl) dL_law_231 (by rw [hRm]; show cells + 0 ≤ 1147; omega) (by rw [hRm]; show slots + 0 ≤ 37190; omega) (by rw [hRm]; exact Nat.le_of_ble_eq_true rfl) (by rw [hRm]; exact Nat.le_of_ble_eq_true rfl) (p_feed hC ?_)
  by_cases e : tp + 20 ≤ 600
  · rw [if_pos e]
    intro h2 hC2 hf2
    obtain ⟨hM2, hq2⟩ := LI_c hf2 hM hq
    obtain ⟨fs2, hm⟩ := mI_at hM2
    refine l_aload_n C dL_law_234 rfl ?_
    refine l_arg (n := 1) C hS hL (by omega) rfl rfl dL_law_235 dL_law_236 dL_law_238 dL_law_239 dL_law_240 (by decide) ?_
    refine l_arg (n := 2) C hS hL (by omega) rfl rfl dL_law_241 dL_law_242 dL_law_244 dL_law_245 dL_law_246 (by decide) ?_
    refine l_arg (n := 3) C hS hL (by omega) rfl rfl dL_law_247 dL_law_248 dL_law_250 dL_law_251 dL_law_252 (by decide) ?_
    refine l_arg (n := 4) C hS hL (by omega) rfl rfl dL_law_253 dL_law_254 dL_law_256 dL_law_257 dL_law_258 (by decide) ?_
    refine l_arg (n := 5) C hS hL (by omega) rfl rfl dL_law_259 dL_law_260 dL_law_262 dL_law_263 dL_law_264 (by decide) ?_
    refine l_callV (ci := 10) (d' := 13) (mc' := 0) (ms' := 0) (As := [.int (xs (j + 1)), .int (xs (j + 2)), .int (xs (j + 3)), .int (xs (j + 4)), .int (xs (j + 5))]) (st := [.int (nI (tp + 20))]) C lL_23 vX10_feed rfl hm rfl (Nat.le_of_ble_eq_true rfl) dL_law_265 (by rw [hRm]; show cells + 0 + 0 ≤ 1147; omega) (by rw [hRm]; show slots + 0 + 0 ≤ 37190; omega) (by rw [hRm]; exact Nat.le_of_ble_eq_true rfl) (by rw [hRm]; exact Nat.le_of_ble_eq_true rfl) (q_feed hM2 ?_)
    rw [if_pos e]
    intro h3 hM3 hf3
    exact l_icmp_eq (tgt := 1539) C dL_law_268 rfl (fun _ => l_widen (by omega) (by omega) (next _ (LI_m hf3 hC2 hq2 hM3))) (fun z => absurd rfl z)
  · rw [if_neg e]
    intro h2 hC2 hf2
    obtain ⟨hM2, hq2⟩ := LI_c hf2 hM hq
    obtain ⟨fs2, hm⟩ := mI_at hM2
    refine l_aload_n C dL_law_234 rfl ?_
    refine l_arg (n := 1) C hS hL (by omega) rfl rfl dL_law_235 dL_law_236 dL_law_238 dL_law_239 dL_law_240 (by decide) ?_
    refine l_arg (n := 2) C hS hL (by omega) rfl rfl dL_law_241 dL_law_242 dL_law_244 dL_law_245 dL_law_246 (by decide) ?_
    refine l_arg (n := 3) C hS hL (by omega) rfl rfl dL_law_247 dL_law_248 dL_law_250 dL_law_251 dL_law_252 (by decide) ?_
    refine l_arg (n := 4) C hS hL (by omega) rfl rfl dL_law_253 dL_law_254 dL_law_256 dL_law_257 dL_law_258 (by decide) ?_
    refine l_arg (n := 5) C hS hL (by omega) rfl rfl dL_law_259 dL_law_260 dL_law_262 dL_law_263 dL_law_264 (by decide) ?_
    refine l_callV (ci := 10) (d' := 13) (mc' := 0) (ms' := 0) (As := [.int (xs (j + 1)), .int (xs (j + 2)), .int (xs (j + 3)), .int (xs (j + 4)), .int (xs (j + 5))]) (st := [.int (-1)]) C lL_23 vX10_feed rfl hm rfl (Nat.le_of_ble_eq_true rfl) dL_law_265 (by rw [hRm]; show cells + 0 + 0 ≤ 1147; omega) (by rw [hRm]; show slots + 0 + 0 ≤ 37190; omega) (by rw [hRm]; exact Nat.le_of_ble_eq_true rfl) (by rw [hRm]; exact Nat.le_of_ble_eq_true rfl) (q_feed hM2 ?_)
    rw [if_neg e]
    intro h3 hM3 hf3
    exact l_icmp_eq (tgt := 1539) C dL_law_268 rfl (fun _ => l_widen (by omega) (by omega) (next _ (LI_m hf3 hC2 hq2 hM3))) (fun z => absurd rfl z)
set_option maxRecDepth 100000 in
set_option maxHeartbeats 4000000 in
theorem k_fault {X : lX} {G : wG} {sb L b j cells slots : Nat} {xs : Nat → Int32} {h : hH} (C : lK X RL cL_law 7) (hRm : X.2.2.2.2.2.2.2.2.1 = room_1) (hS : lS X G sb L xs) (hL : L ≤ 3072) (hj : j + 6 ≤ L) (hc : cells + 1 ≤ 1147) (hs : slots + 6 ≤ 37190) (hI : LI b h) (next : ∀ h', LI b h' → WL X G 7 (cells + 1) (slots + 6) 1539 (lL sb b j) [] h') : WL X G 7 cells slots 298 (lL sb b j) [] h := by
  obtain ⟨ft, tp, P, ht, R, i0, i1, sd, fa, pl, tr, th, f, hC, hM, hq⟩ := hI
  obtain ⟨fs1, hb⟩ := cI_at hC
  refine l_aload_n C dL_law_298 rfl ?_
  refine l_callV (ci := 9) (d' := 13) (mc' := 0) (ms' := 0) (As := []) (st := []) C lL_29 vX9_fault rfl hb rfl (Nat.le_of_ble_eq_true rfl) dL_law_299 (by rw [hRm]; show cells + 0 ≤ 1147; omega) (by rw [hRm]; show slots + 0 ≤ 37190; omega) (by rw [hRm]; exact Nat.le_of_ble_eq_true rfl) (by rw [hRm]; exact Nat.le_of_ble_eq_true rfl) (p_fault hC ?_)
  obtain ⟨fs2, hm⟩ := mI_at hM
  refine l_aload_n C dL_law_302 rfl ?_
  refine l_callV (ci := 10) (d' := 13) (mc' := 0) (ms' := 0) (As := []) (st := [.int (fa)]) C lL_33 vX10_fault rfl hm rfl (Nat.le_of_ble_eq_true rfl) dL_law_303 (by rw [hRm]; show cells + 0 + 0 ≤ 1147; omega) (by rw [hRm]; show slots + 0 + 0 ≤ 37190; omega) (by rw [hRm]; exact Nat.le_of_ble_eq_true rfl) (by rw [hRm]; exact Nat.le_of_ble_eq_true rfl) (q_fault hM ?_)
  intro h3 hM3 hf3
  exact l_icmp_eq (tgt := 1539) C dL_law_306 rfl (fun _ => l_widen (by omega) (by omega) (next _ (LI_m hf3 hC hq hM3))) (fun z => absurd rfl z)
set_option maxRecDepth 100000 in
set_option maxHeartbeats 4000000 in
theorem k_where {X : lX} {G : wG} {sb L b j cells slots : Nat} {xs : Nat → Int32} {h : hH} (C : lK X RL cL_law 7) (hRm : X.2.2.2.2.2.2.2.2.1 = room_1) (hS : lS X G sb L xs) (hL : L ≤ 3072) (hj : j + 6 ≤ L) (hc : cells + 1 ≤ 1147) (hs : slots + 6 ≤ 37190) (hI : LI b h) (next : ∀ h', LI b h' → WL X G 7 (cells + 1) (slots + 6) 1539 (lL sb b j) [] h') : WL X G 7 cells slots 311 (lL sb b j) [] h := by
  obtain ⟨ft, tp, P, ht, R, i0, i1, sd, fa, pl, tr, th, f, hC, hM, hq⟩ := hI
  obtain ⟨fs1, hb⟩ := cI_at hC
  refine l_aload_n C dL_law_311 rfl ?_
  refine l_callV (ci := 9) (d' := 13) (mc' := 0) (ms' := 0) (As := []) (st := []) C lL_34 vX9_where rfl hb rfl (Nat.le_of_ble_eq_true rfl) dL_law_312 (by rw [hRm]; show cells + 0 ≤ 1147; omega) (by rw [hRm]; show slots + 0 ≤ 37190; omega) (by rw [hRm]; exact Nat.le_of_ble_eq_true rfl) (by rw [hRm]; exact Nat.le_of_ble_eq_true rfl) (p_where hC ?_)
  obtain ⟨fs2, hm⟩ := mI_at hM
  refine l_aload_n C dL_law_315 rfl ?_
  refine l_callV (ci := 10) (d' := 13) (mc' := 0) (ms' := 0) (As := []) (st := [.int (pl)]) C lL_37 vX10_where rfl hm rfl (Nat.le_of_ble_eq_true rfl) dL_law_316 (by rw [hRm]; show cells + 0 + 0 ≤ 1147; omega) (by rw [hRm]; show slots + 0 + 0 ≤ 37190; omega) (by rw [hRm]; exact Nat.le_of_ble_eq_true rfl) (by rw [hRm]; exact Nat.le_of_ble_eq_true rfl) (q_where hM ?_)
  intro h3 hM3 hf3
  exact l_icmp_eq (tgt := 1539) C dL_law_319 rfl (fun _ => l_widen (by omega) (by omega) (next _ (LI_m hf3 hC hq hM3))) (fun z => absurd rfl z)
set_option maxRecDepth 100000 in
set_option maxHeartbeats 4000000 in
theorem k_about {X : lX} {G : wG} {sb L b j cells slots : Nat} {xs : Nat → Int32} {h : hH} (C : lK X RL cL_law 7) (hRm : X.2.2.2.2.2.2.2.2.1 = room_1) (hS : lS X G sb L xs) (hL : L ≤ 3072) (hj : j + 6 ≤ L) (hc : cells + 1 ≤ 1147) (hs : slots + 6 ≤ 37190) (hI : LI b h) (next : ∀ h', LI b h' → WL X G 7 (cells + 1) (slots + 6) 1539 (lL sb b j) [] h') : WL X G 7 cells slots 324 (lL sb b j) [] h := by
  obtain ⟨ft, tp, P, ht, R, i0, i1, sd, fa, pl, tr, th, f, hC, hM, hq⟩ := hI
  obtain ⟨fs1, hb⟩ := cI_at hC
  refine l_aload_n C dL_law_324 rfl ?_
  refine l_arg (n := 1) C hS hL (by omega) rfl rfl dL_law_325 dL_law_326 dL_law_328 dL_law_329 dL_law_330 (by decide) ?_
  refine l_callV (ci := 9) (d' := 13) (mc' := 0) (ms' := 0) (As := [.int (xs (j + 1))]) (st := []) C lL_38 vX9_about rfl hb rfl (Nat.le_of_ble_eq_true rfl) dL_law_331 (by rw [hRm]; show cells + 0 ≤ 1147; omega) (by rw [hRm]; show slots + 0 ≤ 37190; omega) (by rw [hRm]; exact Nat.le_of_ble_eq_true rfl) (by rw [hRm]; exact Nat.le_of_ble_eq_true rfl) (p_about hC ?_)
  intro h2 hC2 hf2
  obtain ⟨hM2, hq2⟩ := LI_c hf2 hM hq
  obtain ⟨fs2, hm⟩ := mI_at hM2
  refine l_aload_n C dL_law_334 rfl ?_
  refine l_arg (n := 1) C hS hL (by omega) rfl rfl dL_law_335 dL_law_336 dL_law_338 dL_law_339 dL_law_340 (by decide) ?_
  refine l_callV (ci := 10) (d' := 13) (mc' := 0) (ms' := 0) (As := [.int (xs (j + 1))]) (st := [.int _]) C lL_41 vX10_about rfl hm rfl (Nat.le_of_ble_eq_true rfl) dL_law_341 (by rw [hRm]; show cells + 0 + 0 ≤ 1147; omega) (by rw [hRm]; show slots + 0 + 0 ≤ 37190; omega) (by rw [hRm]; exact Nat.le_of_ble_eq_true rfl) (by rw [hRm]; exact Nat.le_of_ble_eq_true rfl) (q_about hM2 ?_)
  intro h3 hM3 hf3
  exact l_icmp_eq (tgt := 1539) C dL_law_344 rfl (fun _ => l_widen (by omega) (by omega) (next _ (LI_m hf3 hC2 hq2 hM3))) (fun z => absurd rfl z)
set_option maxRecDepth 100000 in
set_option maxHeartbeats 4000000 in
theorem k_loop {X : lX} {G : wG} {sb L b j cells slots : Nat} {xs : Nat → Int32} {h : hH} (C : lK X RL cL_law 7) (hRm : X.2.2.2.2.2.2.2.2.1 = room_1) (hS : lS X G sb L xs) (hL : L ≤ 3072) (hj : j + 6 ≤ L) (hc : cells + 1 ≤ 1147) (hs : slots + 6 ≤ 37190) (hI : LI b h) (next : ∀ h', LI b h' → WL X G 7 (cells + 1) (slots + 6) 1539 (lL sb b j) [] h') : WL X G 7 cells slots 349 (lL sb b j) [] h := by
  obtain ⟨ft, tp, P, ht, R, i0, i1, sd, fa, pl, tr, th, f, hC, hM, hq⟩ := hI
  obtain ⟨fs1, hb⟩ := cI_at hC
  refine l_aload_n C dL_law_349 rfl ?_
  refine l_arg (n := 1) C hS hL (by omega) rfl rfl dL_law_350 dL_law_351 dL_law_353 dL_law_354 dL_law_355 (by decide) ?_
  refine l_arg (n := 2) C hS hL (by omega) rfl rfl dL_law_356 dL_law_357 dL_law_359 dL_law_360 dL_law_361 (by decide) ?_
  refine l_callV (ci := 9) (d' := 13) (mc' := 0) (ms' := 0) (As := [.int (xs (j + 1)), .int (xs (j + 2))]) (st := []) C lL_42 vX9_loop rfl hb rfl (Nat.le_of_ble_eq_true rfl) dL_law_362 (by rw [hRm]; show cells + 0 ≤ 1147; omega) (by rw [hRm]; show slots + 0 ≤ 37190; omega) (by rw [hRm]; exact Nat.le_of_ble_eq_true rfl) (by rw [hRm]; exact Nat.le_of_ble_eq_true rfl) (p_loop hC ?_)
  intro h2 hC2 hf2
  obtain ⟨hM2, hq2⟩ := LI_c hf2 hM hq
  obtain ⟨fs2, hm⟩ := mI_at hM2
  refine l_aload_n C dL_law_365 rfl ?_
  refine l_arg (n := 1) C hS hL (by omega) rfl rfl dL_law_366 dL_law_367 dL_law_369 dL_law_370 dL_law_371 (by decide) ?_
  refine l_arg (n := 2) C hS hL (by omega) rfl rfl dL_law_372 dL_law_373 dL_law_375 dL_law_376 dL_law_377 (by decide) ?_
  refine l_callV (ci := 10) (d' := 13) (mc' := 0) (ms' := 0) (As := [.int (xs (j + 1)), .int (xs (j + 2))]) (st := [.int _]) C lL_46 vX10_loop rfl hm rfl (Nat.le_of_ble_eq_true rfl) dL_law_378 (by rw [hRm]; show cells + 0 + 0 ≤ 1147; omega) (by rw [hRm]; show slots + 0 + 0 ≤ 37190; omega) (by rw [hRm]; exact Nat.le_of_ble_eq_true rfl) (by rw [hRm]; exact Nat.le_of_ble_eq_true rfl) (q_loop hM2 ?_)
  intro h3 hM3 hf3
  exact l_icmp_eq (tgt := 1539) C dL_law_381 rfl (fun _ => l_widen (by omega) (by omega) (next _ (LI_m hf3 hC2 hq2 hM3))) (fun z => absurd rfl z)
set_option maxRecDepth 100000 in
set_option maxHeartbeats 4000000 in
theorem k_wave {X : lX} {G : wG} {sb L b j cells slots : Nat} {xs : Nat → Int32} {h : hH} (C : lK X RL cL_law 7) (hRm : X.2.2.2.2.2.2.2.2.1 = room_1) (hS : lS X G sb L xs) (hL : L ≤ 3072) (hj : j + 6 ≤ L) (hc : cells + 1 ≤ 1147) (hs : slots + 6 ≤ 37190) (hI : LI b h) (next : ∀ h', LI b h' → WL X G 7 (cells + 1) (slots + 6) 1539 (lL sb b j) [] h') : WL X G 7 cells slots 386 (lL sb b j) [] h := by
  obtain ⟨ft, tp, P, ht, R, i0, i1, sd, fa, pl, tr, th, f, hC, hM, hq⟩ := hI
  obtain ⟨fs1, hb⟩ := cI_at hC
  refine l_aload_n C dL_law_386 rfl ?_
  refine l_arg (n := 1) C hS hL (by omega) rfl rfl dL_law_387 dL_law_388 dL_law_390 dL_law_391 dL_law_392 (by decide) ?_
  refine l_arg (n := 2) C hS hL (by omega) rfl rfl dL_law_393 dL_law_394 dL_law_396 dL_law_397 dL_law_398 (by decide) ?_
  refine l_callV (ci := 9) (d' := 13) (mc' := 0) (ms' := 0) (As := [.int (xs (j + 1)), .int (xs (j + 2))]) (st := []) C lL_47 vX9_wave rfl hb rfl (Nat.le_of_ble_eq_true rfl) dL_law_399 (by rw [hRm]; show cells + 0 ≤ 1147; omega) (by rw [hRm]; show slots + 0 ≤ 37190; omega) (by rw [hRm]; exact Nat.le_of_ble_eq_true rfl) (by rw [hRm]; exact Nat.le_of_ble_eq_true rfl) (p_wave hC ?_)
  intro h2 hC2 hf2
  obtain ⟨hM2, hq2⟩ := LI_c hf2 hM hq
  obtain ⟨fs2, hm⟩ := mI_at hM2
  refine l_aload_n C dL_law_402 rfl ?_
  refine l_arg (n := 1) C hS hL (by omega) rfl rfl dL_law_403 dL_law_404 dL_law_406 dL_law_407 dL_law_408 (by decide) ?_
  refine l_arg (n := 2) C hS hL (by omega) rfl rfl dL_law_409 dL_law_410 dL_law_412 dL_law_413 dL_law_414 (by decide) ?_
  refine l_callV (ci := 10) (d' := 13) (mc' := 0) (ms' := 0) (As := [.int (xs (j + 1)), .int (xs (j + 2))]) (st := [.int _]) C lL_50 vX10_wave rfl hm rfl (Nat.le_of_ble_eq_true rfl) dL_law_415 (by rw [hRm]; show cells + 0 + 0 ≤ 1147; omega) (by rw [hRm]; show slots + 0 + 0 ≤ 37190; omega) (by rw [hRm]; exact Nat.le_of_ble_eq_true rfl) (by rw [hRm]; exact Nat.le_of_ble_eq_true rfl) (q_wave hM2 ?_)
  intro h3 hM3 hf3
  exact l_icmp_eq (tgt := 1539) C dL_law_418 rfl (fun _ => l_widen (by omega) (by omega) (next _ (LI_m hf3 hC2 hq2 hM3))) (fun z => absurd rfl z)
set_option maxRecDepth 100000 in
set_option maxHeartbeats 4000000 in
theorem k_level {X : lX} {G : wG} {sb L b j cells slots : Nat} {xs : Nat → Int32} {h : hH} (C : lK X RL cL_law 7) (hRm : X.2.2.2.2.2.2.2.2.1 = room_1) (hS : lS X G sb L xs) (hL : L ≤ 3072) (hj : j + 6 ≤ L) (hc : cells + 1 ≤ 1147) (hs : slots + 6 ≤ 37190) (hI : LI b h) (next : ∀ h', LI b h' → WL X G 7 (cells + 1) (slots + 6) 1539 (lL sb b j) [] h') : WL X G 7 cells slots 423 (lL sb b j) [] h := by
  obtain ⟨ft, tp, P, ht, R, i0, i1, sd, fa, pl, tr, th, f, hC, hM, hq⟩ := hI
  obtain ⟨fs1, hb⟩ := cI_at hC
  refine l_aload_n C dL_law_423 rfl ?_
  refine l_arg (n := 1) C hS hL (by omega) rfl rfl dL_law_424 dL_law_425 dL_law_427 dL_law_428 dL_law_429 (by decide) ?_
  refine l_arg (n := 2) C hS hL (by omega) rfl rfl dL_law_430 dL_law_431 dL_law_433 dL_law_434 dL_law_435 (by decide) ?_
  refine l_callV (ci := 9) (d' := 13) (mc' := 0) (ms' := 0) (As := [.int (xs (j + 1)), .int (xs (j + 2))]) (st := []) C lL_51 vX9_level rfl hb rfl (Nat.le_of_ble_eq_true rfl) dL_law_436 (by rw [hRm]; show cells + 0 ≤ 1147; omega) (by rw [hRm]; show slots + 0 ≤ 37190; omega) (by rw [hRm]; exact Nat.le_of_ble_eq_true rfl) (by rw [hRm]; exact Nat.le_of_ble_eq_true rfl) (p_level hC ?_)
  intro h2 hC2 hf2
  obtain ⟨hM2, hq2⟩ := LI_c hf2 hM hq
  obtain ⟨fs2, hm⟩ := mI_at hM2
  refine l_aload_n C dL_law_439 rfl ?_
  refine l_arg (n := 1) C hS hL (by omega) rfl rfl dL_law_440 dL_law_441 dL_law_443 dL_law_444 dL_law_445 (by decide) ?_
  refine l_arg (n := 2) C hS hL (by omega) rfl rfl dL_law_446 dL_law_447 dL_law_449 dL_law_450 dL_law_451 (by decide) ?_
  refine l_callV (ci := 10) (d' := 13) (mc' := 0) (ms' := 0) (As := [.int (xs (j + 1)), .int (xs (j + 2))]) (st := [.int _]) C lL_54 vX10_level rfl hm rfl (Nat.le_of_ble_eq_true rfl) dL_law_452 (by rw [hRm]; show cells + 0 + 0 ≤ 1147; omega) (by rw [hRm]; show slots + 0 + 0 ≤ 37190; omega) (by rw [hRm]; exact Nat.le_of_ble_eq_true rfl) (by rw [hRm]; exact Nat.le_of_ble_eq_true rfl) (q_level hM2 ?_)
  intro h3 hM3 hf3
  exact l_icmp_eq (tgt := 1539) C dL_law_455 rfl (fun _ => l_widen (by omega) (by omega) (next _ (LI_m hf3 hC2 hq2 hM3))) (fun z => absurd rfl z)
set_option maxRecDepth 100000 in
set_option maxHeartbeats 4000000 in
theorem k_seed {X : lX} {G : wG} {sb L b j cells slots : Nat} {xs : Nat → Int32} {h : hH} (C : lK X RL cL_law 7) (hRm : X.2.2.2.2.2.2.2.2.1 = room_1) (hS : lS X G sb L xs) (hL : L ≤ 3072) (hj : j + 6 ≤ L) (hc : cells + 1 ≤ 1147) (hs : slots + 6 ≤ 37190) (hI : LI b h) (next : ∀ h', LI b h' → WL X G 7 (cells + 1) (slots + 6) 1539 (lL sb b j) [] h') : WL X G 7 cells slots 460 (lL sb b j) [] h := by
  obtain ⟨ft, tp, P, ht, R, i0, i1, sd, fa, pl, tr, th, f, hC, hM, hq⟩ := hI
  obtain ⟨fs1, hb⟩ := cI_at hC
  refine l_aload_n C dL_law_460 rfl ?_
  refine l_arg (n := 1) C hS hL (by omega) rfl rfl dL_law_461 dL_law_462 dL_law_464 dL_law_465 dL_law_466 (by decide) ?_
  refine l_callV (ci := 9) (d' := 13) (mc' := 0) (ms' := 0) (As := [.int (xs (j + 1))]) (st := []) C lL_55 vX9_seed rfl hb rfl (Nat.le_of_ble_eq_true rfl) dL_law_467 (by rw [hRm]; show cells + 0 ≤ 1147; omega) (by rw [hRm]; show slots + 0 ≤ 37190; omega) (by rw [hRm]; exact Nat.le_of_ble_eq_true rfl) (by rw [hRm]; exact Nat.le_of_ble_eq_true rfl) (p_seed hC ?_)
  intro h2 hC2 hf2
  obtain ⟨hM2, hq2⟩ := LI_c hf2 hM hq
  obtain ⟨fs2, hm⟩ := mI_at hM2
  refine l_aload_n C dL_law_470 rfl ?_
  refine l_arg (n := 1) C hS hL (by omega) rfl rfl dL_law_471 dL_law_472 dL_law_474 dL_law_475 dL_law_476 (by decide) ?_
  refine l_callV (ci := 10) (d' := 13) (mc' := 0) (ms' := 0) (As := [.int (xs (j + 1))]) (st := [.int _]) C lL_59 vX10_seed rfl hm rfl (Nat.le_of_ble_eq_true rfl) dL_law_477 (by rw [hRm]; show cells + 0 + 0 ≤ 1147; omega) (by rw [hRm]; show slots + 0 + 0 ≤ 37190; omega) (by rw [hRm]; exact Nat.le_of_ble_eq_true rfl) (by rw [hRm]; exact Nat.le_of_ble_eq_true rfl) (q_seed hM2 ?_)
  intro h3 hM3 hf3
  exact l_icmp_eq (tgt := 1539) C dL_law_480 rfl (fun _ => l_widen (by omega) (by omega) (next _ (LI_m hf3 hC2 hq2 hM3))) (fun z => absurd rfl z)
set_option maxRecDepth 100000 in
set_option maxHeartbeats 4000000 in
theorem k_begin {X : lX} {G : wG} {sb L b j cells slots : Nat} {xs : Nat → Int32} {h : hH} (C : lK X RL cL_law 7) (hRm : X.2.2.2.2.2.2.2.2.1 = room_1) (hS : lS X G sb L xs) (hL : L ≤ 3072) (hj : j + 6 ≤ L) (hc : cells + 1 ≤ 1147) (hs : slots + 6 ≤ 37190) (hI : LI b h) (next : ∀ h', LI b h' → WL X G 7 (cells + 1) (slots + 6) 1539 (lL sb b j) [] h') : WL X G 7 cells slots 485 (lL sb b j) [] h := by
  obtain ⟨ft, tp, P, ht, R, i0, i1, sd, fa, pl, tr, th, f, hC, hM, hq⟩ := hI
  obtain ⟨fs1, hb⟩ := cI_at hC
  refine l_aload_n C dL_law_485 rfl ?_
  refine l_arg (n := 1) C hS hL (by omega) rfl rfl dL_law_486 dL_law_487 dL_law_489 dL_law_490 dL_law_491 (by decide) ?_
  refine l_arg (n := 2) C hS hL (by omega) rfl rfl dL_law_492 dL_law_493 dL_law_495 dL_law_496 dL_law_497 (by decide) ?_
  refine l_callV (ci := 9) (d' := 13) (mc' := 0) (ms' := 0) (As := [.int (xs (j + 1)), .int (xs (j + 2))]) (st := []) C lL_60 vX9_begin rfl hb rfl (Nat.le_of_ble_eq_true rfl) dL_law_498 (by rw [hRm]; show cells + 0 ≤ 1147; omega) (by rw [hRm]; show slots + 0 ≤ 37190; omega) (by rw [hRm]; exact Nat.le_of_ble_eq_true rfl) (by rw [hRm]; exact Nat.le_of_ble_eq_true rfl) (p_begin hC ?_)
  intro h2 hC2 hf2
  obtain ⟨hM2, hq2⟩ := LI_c hf2 hM hq
  obtain ⟨fs2, hm⟩ := mI_at hM2
  refine l_aload_n C dL_law_501 rfl ?_
  refine l_arg (n := 1) C hS hL (by omega) rfl rfl dL_law_502 dL_law_503 dL_law_505 dL_law_506 dL_law_507 (by decide) ?_
  refine l_arg (n := 2) C hS hL (by omega) rfl rfl dL_law_508 dL_law_509 dL_law_511 dL_law_512 dL_law_513 (by decide) ?_
  refine l_callV (ci := 10) (d' := 13) (mc' := 0) (ms' := 0) (As := [.int (xs (j + 1)), .int (xs (j + 2))]) (st := [.int _]) C lL_64 vX10_begin rfl hm rfl (Nat.le_of_ble_eq_true rfl) dL_law_514 (by rw [hRm]; show cells + 0 + 0 ≤ 1147; omega) (by rw [hRm]; show slots + 0 + 0 ≤ 37190; omega) (by rw [hRm]; exact Nat.le_of_ble_eq_true rfl) (by rw [hRm]; exact Nat.le_of_ble_eq_true rfl) (q_begin hM2 ?_)
  intro h3 hM3 hf3
  exact l_icmp_eq (tgt := 1539) C dL_law_517 rfl (fun _ => l_widen (by omega) (by omega) (next _ (LI_m hf3 hC2 hq2 hM3))) (fun z => absurd rfl z)
set_option maxRecDepth 100000 in
set_option maxHeartbeats 4000000 in
theorem k_run {X : lX} {G : wG} {sb L b j cells slots : Nat} {xs : Nat → Int32} {h : hH} (C : lK X RL cL_law 7) (hRm : X.2.2.2.2.2.2.2.2.1 = room_1) (hS : lS X G sb L xs) (hL : L ≤ 3072) (hj : j + 6 ≤ L) (hc : cells + 1 ≤ 1147) (hs : slots + 6 ≤ 37190) (hI : LI b h) (next : ∀ h', LI b h' → WL X G 7 (cells + 1) (slots + 6) 1539 (lL sb b j) [] h') : WL X G 7 cells slots 522 (lL sb b j) [] h := by
  obtain ⟨ft, tp, P, ht, R, i0, i1, sd, fa, pl, tr, th, f, hC, hM, hq⟩ := hI
  obtain ⟨fs1, hb⟩ := cI_at hC
  refine l_aload_n C dL_law_522 rfl ?_
  refine l_arg (n := 1) C hS hL (by omega) rfl rfl dL_law_523 dL_law_524 dL_law_526 dL_law_527 dL_law_528 (by decide) ?_
  refine l_callV (ci := 9) (d' := 13) (mc' := 0) (ms' := 0) (As := [.int (xs (j + 1))]) (st := []) C lL_65 vX9_run rfl hb rfl (Nat.le_of_ble_eq_true rfl) dL_law_529 (by rw [hRm]; show cells + 0 ≤ 1147; omega) (by rw [hRm]; show slots + 0 ≤ 37190; omega) (by rw [hRm]; exact Nat.le_of_ble_eq_true rfl) (by rw [hRm]; exact Nat.le_of_ble_eq_true rfl) (p_run hC ?_)
  intro h2 hC2 hf2
  obtain ⟨hM2, hq2⟩ := LI_c hf2 hM hq
  obtain ⟨fs2, hm⟩ := mI_at hM2
  refine l_aload_n C dL_law_532 rfl ?_
  refine l_arg (n := 1) C hS hL (by omega) rfl rfl dL_law_533 dL_law_534 dL_law_536 dL_law_537 dL_law_538 (by decide) ?_
  refine l_callV (ci := 10) (d' := 13) (mc' := 0) (ms' := 0) (As := [.int (xs (j + 1))]) (st := [.int _]) C lL_68 vX10_run rfl hm rfl (Nat.le_of_ble_eq_true rfl) dL_law_539 (by rw [hRm]; show cells + 0 + 0 ≤ 1147; omega) (by rw [hRm]; show slots + 0 + 0 ≤ 37190; omega) (by rw [hRm]; exact Nat.le_of_ble_eq_true rfl) (by rw [hRm]; exact Nat.le_of_ble_eq_true rfl) (q_run hM2 ?_)
  intro h3 hM3 hf3
  exact l_icmp_eq (tgt := 1539) C dL_law_542 rfl (fun _ => l_widen (by omega) (by omega) (next _ (LI_m hf3 hC2 hq2 hM3))) (fun z => absurd rfl z)
set_option maxRecDepth 100000 in
set_option maxHeartbeats 4000000 in
theorem k_now {X : lX} {G : wG} {sb L b j cells slots : Nat} {xs : Nat → Int32} {h : hH} (C : lK X RL cL_law 7) (hRm : X.2.2.2.2.2.2.2.2.1 = room_1) (hS : lS X G sb L xs) (hL : L ≤ 3072) (hj : j + 6 ≤ L) (hc : cells + 1 ≤ 1147) (hs : slots + 6 ≤ 37190) (hI : LI b h) (next : ∀ h', LI b h' → WL X G 7 (cells + 1) (slots + 6) 1539 (lL sb b j) [] h') : WL X G 7 cells slots 547 (lL sb b j) [] h := by
  obtain ⟨ft, tp, P, ht, R, i0, i1, sd, fa, pl, tr, th, f, hC, hM, hq⟩ := hI
  obtain ⟨fs1, hb⟩ := cI_at hC
  refine l_aload_n C dL_law_547 rfl ?_
  refine l_arg (n := 1) C hS hL (by omega) rfl rfl dL_law_548 dL_law_549 dL_law_551 dL_law_552 dL_law_553 (by decide) ?_
  refine l_callV (ci := 9) (d' := 13) (mc' := 0) (ms' := 0) (As := [.int (xs (j + 1))]) (st := []) C lL_69 vX9_now rfl hb rfl (Nat.le_of_ble_eq_true rfl) dL_law_554 (by rw [hRm]; show cells + 0 ≤ 1147; omega) (by rw [hRm]; show slots + 0 ≤ 37190; omega) (by rw [hRm]; exact Nat.le_of_ble_eq_true rfl) (by rw [hRm]; exact Nat.le_of_ble_eq_true rfl) (p_now hC ?_)
  intro h2 hC2 hf2
  obtain ⟨hM2, hq2⟩ := LI_c hf2 hM hq
  obtain ⟨fs2, hm⟩ := mI_at hM2
  refine l_aload_n C dL_law_557 rfl ?_
  refine l_arg (n := 1) C hS hL (by omega) rfl rfl dL_law_558 dL_law_559 dL_law_561 dL_law_562 dL_law_563 (by decide) ?_
  refine l_callV (ci := 10) (d' := 13) (mc' := 0) (ms' := 0) (As := [.int (xs (j + 1))]) (st := [.int _]) C lL_72 vX10_now rfl hm rfl (Nat.le_of_ble_eq_true rfl) dL_law_564 (by rw [hRm]; show cells + 0 + 0 ≤ 1147; omega) (by rw [hRm]; show slots + 0 + 0 ≤ 37190; omega) (by rw [hRm]; exact Nat.le_of_ble_eq_true rfl) (by rw [hRm]; exact Nat.le_of_ble_eq_true rfl) (q_now hM2 ?_)
  intro h3 hM3 hf3
  exact l_icmp_eq (tgt := 1539) C dL_law_567 rfl (fun _ => l_widen (by omega) (by omega) (next _ (LI_m hf3 hC2 hq2 hM3))) (fun z => absurd rfl z)
set_option maxRecDepth 100000 in
set_option maxHeartbeats 4000000 in
theorem k_sum {X : lX} {G : wG} {sb L b j cells slots : Nat} {xs : Nat → Int32} {h : hH} (C : lK X RL cL_law 7) (hRm : X.2.2.2.2.2.2.2.2.1 = room_1) (hS : lS X G sb L xs) (hL : L ≤ 3072) (hj : j + 6 ≤ L) (hc : cells + 1 ≤ 1147) (hs : slots + 6 ≤ 37190) (hI : LI b h) (next : ∀ h', LI b h' → WL X G 7 (cells + 1) (slots + 6) 1539 (lL sb b j) [] h') : WL X G 7 cells slots 572 (lL sb b j) [] h := by
  obtain ⟨ft, tp, P, ht, R, i0, i1, sd, fa, pl, tr, th, f, hC, hM, hq⟩ := hI
  obtain ⟨fs1, hb⟩ := cI_at hC
  refine l_aload_n C dL_law_572 rfl ?_
  refine l_arg (n := 1) C hS hL (by omega) rfl rfl dL_law_573 dL_law_574 dL_law_576 dL_law_577 dL_law_578 (by decide) ?_
  refine l_callV (ci := 9) (d' := 13) (mc' := 0) (ms' := 0) (As := [.int (xs (j + 1))]) (st := []) C lL_73 vX9_sum rfl hb rfl (Nat.le_of_ble_eq_true rfl) dL_law_579 (by rw [hRm]; show cells + 0 ≤ 1147; omega) (by rw [hRm]; show slots + 0 ≤ 37190; omega) (by rw [hRm]; exact Nat.le_of_ble_eq_true rfl) (by rw [hRm]; exact Nat.le_of_ble_eq_true rfl) (p_sum hC ?_)
  intro h2 hC2 hf2
  obtain ⟨hM2, hq2⟩ := LI_c hf2 hM hq
  obtain ⟨fs2, hm⟩ := mI_at hM2
  refine l_aload_n C dL_law_582 rfl ?_
  refine l_arg (n := 1) C hS hL (by omega) rfl rfl dL_law_583 dL_law_584 dL_law_586 dL_law_587 dL_law_588 (by decide) ?_
  refine l_callV (ci := 10) (d' := 13) (mc' := 0) (ms' := 0) (As := [.int (xs (j + 1))]) (st := [.int _]) C lL_76 vX10_sum rfl hm rfl (Nat.le_of_ble_eq_true rfl) dL_law_589 (by rw [hRm]; show cells + 0 + 0 ≤ 1147; omega) (by rw [hRm]; show slots + 0 + 0 ≤ 37190; omega) (by rw [hRm]; exact Nat.le_of_ble_eq_true rfl) (by rw [hRm]; exact Nat.le_of_ble_eq_true rfl) (q_sum hM2 ?_)
  intro h3 hM3 hf3
  exact l_icmp_eq (tgt := 1539) C dL_law_592 rfl (fun _ => l_widen (by omega) (by omega) (next _ (LI_m hf3 hC2 hq2 hM3))) (fun z => absurd rfl z)
set_option maxRecDepth 100000 in
set_option maxHeartbeats 4000000 in
theorem k_size {X : lX} {G : wG} {sb L b j cells slots : Nat} {xs : Nat → Int32} {h : hH} (C : lK X RL cL_law 7) (hRm : X.2.2.2.2.2.2.2.2.1 = room_1) (hS : lS X G sb L xs) (hL : L ≤ 3072) (hj : j + 6 ≤ L) (hc : cells + 1 ≤ 1147) (hs : slots + 6 ≤ 37190) (hI : LI b h) (next : ∀ h', LI b h' → WL X G 7 (cells + 1) (slots + 6) 1539 (lL sb b j) [] h') : WL X G 7 cells slots 597 (lL sb b j) [] h := by
  obtain ⟨ft, tp, P, ht, R, i0, i1, sd, fa, pl, tr, th, f, hC, hM, hq⟩ := hI
  obtain ⟨fs1, hb⟩ := cI_at hC
  refine l_aload_n C dL_law_597 rfl ?_
  refine l_arg (n := 1) C hS hL (by omega) rfl rfl dL_law_598 dL_law_599 dL_law_601 dL_law_602 dL_law_603 (by decide) ?_
  refine l_callV (ci := 9) (d' := 13) (mc' := 0) (ms' := 0) (As := [.int (xs (j + 1))]) (st := []) C lL_77 vX9_size rfl hb rfl (Nat.le_of_ble_eq_true rfl) dL_law_604 (by rw [hRm]; show cells + 0 ≤ 1147; omega) (by rw [hRm]; show slots + 0 ≤ 37190; omega) (by rw [hRm]; exact Nat.le_of_ble_eq_true rfl) (by rw [hRm]; exact Nat.le_of_ble_eq_true rfl) (p_size hC ?_)
  intro h2 hC2 hf2
  obtain ⟨hM2, hq2⟩ := LI_c hf2 hM hq
  obtain ⟨fs2, hm⟩ := mI_at hM2
  refine l_aload_n C dL_law_607 rfl ?_
  refine l_arg (n := 1) C hS hL (by omega) rfl rfl dL_law_608 dL_law_609 dL_law_611 dL_law_612 dL_law_613 (by decide) ?_
  refine l_callV (ci := 10) (d' := 13) (mc' := 0) (ms' := 0) (As := [.int (xs (j + 1))]) (st := [.int _]) C lL_80 vX10_size rfl hm rfl (Nat.le_of_ble_eq_true rfl) dL_law_614 (by rw [hRm]; show cells + 0 + 0 ≤ 1147; omega) (by rw [hRm]; show slots + 0 + 0 ≤ 37190; omega) (by rw [hRm]; exact Nat.le_of_ble_eq_true rfl) (by rw [hRm]; exact Nat.le_of_ble_eq_true rfl) (q_size hM2 ?_)
  intro h3 hM3 hf3
  exact l_icmp_eq (tgt := 1539) C dL_law_617 rfl (fun _ => l_widen (by omega) (by omega) (next _ (LI_m hf3 hC2 hq2 hM3))) (fun z => absurd rfl z)
set_option maxRecDepth 100000 in
set_option maxHeartbeats 4000000 in
theorem k_out {X : lX} {G : wG} {sb L b j cells slots : Nat} {xs : Nat → Int32} {h : hH} (C : lK X RL cL_law 7) (hRm : X.2.2.2.2.2.2.2.2.1 = room_1) (hS : lS X G sb L xs) (hL : L ≤ 3072) (hj : j + 6 ≤ L) (hc : cells + 1 ≤ 1147) (hs : slots + 6 ≤ 37190) (hI : LI b h) (next : ∀ h', LI b h' → WL X G 7 (cells + 1) (slots + 6) 1539 (lL sb b j) [] h') : WL X G 7 cells slots 622 (lL sb b j) [] h := by
  obtain ⟨ft, tp, P, ht, R, i0, i1, sd, fa, pl, tr, th, f, hC, hM, hq⟩ := hI
  obtain ⟨fs1, hb⟩ := cI_at hC
  refine l_aload_n C dL_law_622 rfl ?_
  refine l_arg (n := 1) C hS hL (by omega) rfl rfl dL_law_623 dL_law_624 dL_law_626 dL_law_627 dL_law_628 (by decide) ?_
  refine l_callV (ci := 9) (d' := 13) (mc' := 0) (ms' := 0) (As := [.int (xs (j + 1))]) (st := []) C lL_81 vX9_out rfl hb rfl (Nat.le_of_ble_eq_true rfl) dL_law_629 (by rw [hRm]; show cells + 0 ≤ 1147; omega) (by rw [hRm]; show slots + 0 ≤ 37190; omega) (by rw [hRm]; exact Nat.le_of_ble_eq_true rfl) (by rw [hRm]; exact Nat.le_of_ble_eq_true rfl) (p_out hC ?_)
  intro h2 hC2 hf2
  obtain ⟨hM2, hq2⟩ := LI_c hf2 hM hq
  obtain ⟨fs2, hm⟩ := mI_at hM2
  refine l_aload_n C dL_law_632 rfl ?_
  refine l_arg (n := 1) C hS hL (by omega) rfl rfl dL_law_633 dL_law_634 dL_law_636 dL_law_637 dL_law_638 (by decide) ?_
  refine l_callV (ci := 10) (d' := 13) (mc' := 0) (ms' := 0) (As := [.int (xs (j + 1))]) (st := [.int _]) C lL_84 vX10_out rfl hm rfl (Nat.le_of_ble_eq_true rfl) dL_law_639 (by rw [hRm]; show cells + 0 + 0 ≤ 1147; omega) (by rw [hRm]; show slots + 0 + 0 ≤ 37190; omega) (by rw [hRm]; exact Nat.le_of_ble_eq_true rfl) (by rw [hRm]; exact Nat.le_of_ble_eq_true rfl) (q_out hM2 ?_)
  intro h3 hM3 hf3
  exact l_icmp_eq (tgt := 1539) C dL_law_642 rfl (fun _ => l_widen (by omega) (by omega) (next _ (LI_m hf3 hC2 hq2 hM3))) (fun z => absurd rfl z)
set_option maxRecDepth 100000 in
set_option maxHeartbeats 4000000 in
theorem k_often {X : lX} {G : wG} {sb L b j cells slots : Nat} {xs : Nat → Int32} {h : hH} (C : lK X RL cL_law 7) (hRm : X.2.2.2.2.2.2.2.2.1 = room_1) (hS : lS X G sb L xs) (hL : L ≤ 3072) (hj : j + 6 ≤ L) (hc : cells + 1 ≤ 1147) (hs : slots + 6 ≤ 37190) (hI : LI b h) (next : ∀ h', LI b h' → WL X G 7 (cells + 1) (slots + 6) 1539 (lL sb b j) [] h') : WL X G 7 cells slots 647 (lL sb b j) [] h := by
  obtain ⟨ft, tp, P, ht, R, i0, i1, sd, fa, pl, tr, th, f, hC, hM, hq⟩ := hI
  obtain ⟨fs1, hb⟩ := cI_at hC
  refine l_aload_n C dL_law_647 rfl ?_
  refine l_arg (n := 1) C hS hL (by omega) rfl rfl dL_law_648 dL_law_649 dL_law_651 dL_law_652 dL_law_653 (by decide) ?_
  refine l_arg (n := 2) C hS hL (by omega) rfl rfl dL_law_654 dL_law_655 dL_law_657 dL_law_658 dL_law_659 (by decide) ?_
  refine l_arg (n := 3) C hS hL (by omega) rfl rfl dL_law_660 dL_law_661 dL_law_663 dL_law_664 dL_law_665 (by decide) ?_
  refine l_callV (ci := 9) (d' := 13) (mc' := 0) (ms' := 0) (As := [.int (xs (j + 1)), .int (xs (j + 2)), .int (xs (j + 3))]) (st := []) C lL_85 vX9_often rfl hb rfl (Nat.le_of_ble_eq_true rfl) dL_law_666 (by rw [hRm]; show cells + 0 ≤ 1147; omega) (by rw [hRm]; show slots + 0 ≤ 37190; omega) (by rw [hRm]; exact Nat.le_of_ble_eq_true rfl) (by rw [hRm]; exact Nat.le_of_ble_eq_true rfl) (p_often hC ?_)
  intro h2 hC2 hf2
  obtain ⟨hM2, hq2⟩ := LI_c hf2 hM hq
  obtain ⟨fs2, hm⟩ := mI_at hM2
  refine l_aload_n C dL_law_669 rfl ?_
  refine l_arg (n := 1) C hS hL (by omega) rfl rfl dL_law_670 dL_law_671 dL_law_673 dL_law_674 dL_law_675 (by decide) ?_
  refine l_arg (n := 2) C hS hL (by omega) rfl rfl dL_law_676 dL_law_677 dL_law_679 dL_law_680 dL_law_681 (by decide) ?_
  refine l_arg (n := 3) C hS hL (by omega) rfl rfl dL_law_682 dL_law_683 dL_law_685 dL_law_686 dL_law_687 (by decide) ?_
  refine l_callV (ci := 10) (d' := 13) (mc' := 0) (ms' := 0) (As := [.int (xs (j + 1)), .int (xs (j + 2)), .int (xs (j + 3))]) (st := [.int _]) C lL_88 vX10_often rfl hm rfl (Nat.le_of_ble_eq_true rfl) dL_law_688 (by rw [hRm]; show cells + 0 + 0 ≤ 1147; omega) (by rw [hRm]; show slots + 0 + 0 ≤ 37190; omega) (by rw [hRm]; exact Nat.le_of_ble_eq_true rfl) (by rw [hRm]; exact Nat.le_of_ble_eq_true rfl) (q_often hM2 ?_)
  intro h3 hM3 hf3
  exact l_icmp_eq (tgt := 1539) C dL_law_691 rfl (fun _ => l_widen (by omega) (by omega) (next _ (LI_m hf3 hC2 hq2 hM3))) (fun z => absurd rfl z)
set_option maxRecDepth 100000 in
set_option maxHeartbeats 4000000 in
theorem k_astray {X : lX} {G : wG} {sb L b j cells slots : Nat} {xs : Nat → Int32} {h : hH} (C : lK X RL cL_law 7) (hRm : X.2.2.2.2.2.2.2.2.1 = room_1) (hS : lS X G sb L xs) (hL : L ≤ 3072) (hj : j + 6 ≤ L) (hc : cells + 1 ≤ 1147) (hs : slots + 6 ≤ 37190) (hI : LI b h) (next : ∀ h', LI b h' → WL X G 7 (cells + 1) (slots + 6) 1539 (lL sb b j) [] h') : WL X G 7 cells slots 696 (lL sb b j) [] h := by
  obtain ⟨ft, tp, P, ht, R, i0, i1, sd, fa, pl, tr, th, f, hC, hM, hq⟩ := hI
  obtain ⟨fs1, hb⟩ := cI_at hC
  refine l_aload_n C dL_law_696 rfl ?_
  refine l_arg (n := 1) C hS hL (by omega) rfl rfl dL_law_697 dL_law_698 dL_law_700 dL_law_701 dL_law_702 (by decide) ?_
  refine l_arg (n := 2) C hS hL (by omega) rfl rfl dL_law_703 dL_law_704 dL_law_706 dL_law_707 dL_law_708 (by decide) ?_
  refine l_callV (ci := 9) (d' := 13) (mc' := 0) (ms' := 0) (As := [.int (xs (j + 1)), .int (xs (j + 2))]) (st := []) C lL_89 vX9_astray rfl hb rfl (Nat.le_of_ble_eq_true rfl) dL_law_709 (by rw [hRm]; show cells + 0 ≤ 1147; omega) (by rw [hRm]; show slots + 0 ≤ 37190; omega) (by rw [hRm]; exact Nat.le_of_ble_eq_true rfl) (by rw [hRm]; exact Nat.le_of_ble_eq_true rfl) (p_astray hC ?_)
  intro h2 hC2 hf2
  obtain ⟨hM2, hq2⟩ := LI_c hf2 hM hq
  obtain ⟨fs2, hm⟩ := mI_at hM2
  refine l_aload_n C dL_law_712 rfl ?_
  refine l_arg (n := 1) C hS hL (by omega) rfl rfl dL_law_713 dL_law_714 dL_law_716 dL_law_717 dL_law_718 (by decide) ?_
  refine l_arg (n := 2) C hS hL (by omega) rfl rfl dL_law_719 dL_law_720 dL_law_722 dL_law_723 dL_law_724 (by decide) ?_
  refine l_callV (ci := 10) (d' := 13) (mc' := 0) (ms' := 0) (As := [.int (xs (j + 1)), .int (xs (j + 2))]) (st := [.int _]) C lL_92 vX10_astray rfl hm rfl (Nat.le_of_ble_eq_true rfl) dL_law_725 (by rw [hRm]; show cells + 0 + 0 ≤ 1147; omega) (by rw [hRm]; show slots + 0 + 0 ≤ 37190; omega) (by rw [hRm]; exact Nat.le_of_ble_eq_true rfl) (by rw [hRm]; exact Nat.le_of_ble_eq_true rfl) (q_astray hM2 ?_)
  intro h3 hM3 hf3
  exact l_icmp_eq (tgt := 1539) C dL_law_728 rfl (fun _ => l_widen (by omega) (by omega) (next _ (LI_m hf3 hC2 hq2 hM3))) (fun z => absurd rfl z)
set_option maxRecDepth 100000 in
set_option maxHeartbeats 4000000 in
theorem k_rows {X : lX} {G : wG} {sb L b j cells slots : Nat} {xs : Nat → Int32} {h : hH} (C : lK X RL cL_law 7) (hRm : X.2.2.2.2.2.2.2.2.1 = room_1) (hS : lS X G sb L xs) (hL : L ≤ 3072) (hj : j + 6 ≤ L) (hc : cells + 1 ≤ 1147) (hs : slots + 6 ≤ 37190) (hI : LI b h) (next : ∀ h', LI b h' → WL X G 7 (cells + 1) (slots + 6) 1539 (lL sb b j) [] h') : WL X G 7 cells slots 733 (lL sb b j) [] h := by
  obtain ⟨ft, tp, P, ht, R, i0, i1, sd, fa, pl, tr, th, f, hC, hM, hq⟩ := hI
  obtain ⟨fs1, hb⟩ := cI_at hC
  refine l_aload_n C dL_law_733 rfl ?_
  refine l_arg (n := 1) C hS hL (by omega) rfl rfl dL_law_734 dL_law_735 dL_law_737 dL_law_738 dL_law_739 (by decide) ?_
  refine l_arg (n := 2) C hS hL (by omega) rfl rfl dL_law_740 dL_law_741 dL_law_743 dL_law_744 dL_law_745 (by decide) ?_
  refine l_arg (n := 3) C hS hL (by omega) rfl rfl dL_law_746 dL_law_747 dL_law_749 dL_law_750 dL_law_751 (by decide) ?_
  refine l_callV (ci := 9) (d' := 13) (mc' := 0) (ms' := 0) (As := [.int (xs (j + 1)), .int (xs (j + 2)), .int (xs (j + 3))]) (st := []) C lL_93 vX9_rows rfl hb rfl (Nat.le_of_ble_eq_true rfl) dL_law_752 (by rw [hRm]; show cells + 0 ≤ 1147; omega) (by rw [hRm]; show slots + 0 ≤ 37190; omega) (by rw [hRm]; exact Nat.le_of_ble_eq_true rfl) (by rw [hRm]; exact Nat.le_of_ble_eq_true rfl) (p_rows hC ?_)
  intro h2 hC2 hf2
  obtain ⟨hM2, hq2⟩ := LI_c hf2 hM hq
  obtain ⟨fs2, hm⟩ := mI_at hM2
  refine l_aload_n C dL_law_755 rfl ?_
  refine l_arg (n := 1) C hS hL (by omega) rfl rfl dL_law_756 dL_law_757 dL_law_759 dL_law_760 dL_law_761 (by decide) ?_
  refine l_arg (n := 2) C hS hL (by omega) rfl rfl dL_law_762 dL_law_763 dL_law_765 dL_law_766 dL_law_767 (by decide) ?_
  refine l_arg (n := 3) C hS hL (by omega) rfl rfl dL_law_768 dL_law_769 dL_law_771 dL_law_772 dL_law_773 (by decide) ?_
  refine l_callV (ci := 10) (d' := 13) (mc' := 0) (ms' := 0) (As := [.int (xs (j + 1)), .int (xs (j + 2)), .int (xs (j + 3))]) (st := [.int _]) C lL_96 vX10_rows rfl hm rfl (Nat.le_of_ble_eq_true rfl) dL_law_774 (by rw [hRm]; show cells + 0 + 0 ≤ 1147; omega) (by rw [hRm]; show slots + 0 + 0 ≤ 37190; omega) (by rw [hRm]; exact Nat.le_of_ble_eq_true rfl) (by rw [hRm]; exact Nat.le_of_ble_eq_true rfl) (q_rows hM2 ?_)
  intro h3 hM3 hf3
  exact l_icmp_eq (tgt := 1539) C dL_law_777 rfl (fun _ => l_widen (by omega) (by omega) (next _ (LI_m hf3 hC2 hq2 hM3))) (fun z => absurd rfl z)
set_option maxRecDepth 100000 in
set_option maxHeartbeats 4000000 in
theorem k_like {X : lX} {G : wG} {sb L b j cells slots : Nat} {xs : Nat → Int32} {h : hH} (C : lK X RL cL_law 7) (hRm : X.2.2.2.2.2.2.2.2.1 = room_1) (hS : lS X G sb L xs) (hL : L ≤ 3072) (hj : j + 6 ≤ L) (hc : cells + 1 ≤ 1147) (hs : slots + 6 ≤ 37190) (hI : LI b h) (next : ∀ h', LI b h' → WL X G 7 (cells + 1) (slots + 6) 1539 (lL sb b j) [] h') : WL X G 7 cells slots 782 (lL sb b j) [] h := by
  obtain ⟨ft, tp, P, ht, R, i0, i1, sd, fa, pl, tr, th, f, hC, hM, hq⟩ := hI
  obtain ⟨fs1, hb⟩ := cI_at hC
  refine l_aload_n C dL_law_782 rfl ?_
  refine l_arg (n := 1) C hS hL (by omega) rfl rfl dL_law_783 dL_law_784 dL_law_786 dL_law_787 dL_law_788 (by decide) ?_
  refine l_arg (n := 2) C hS hL (by omega) rfl rfl dL_law_789 dL_law_790 dL_law_792 dL_law_793 dL_law_794 (by decide) ?_
  refine l_arg (n := 3) C hS hL (by omega) rfl rfl dL_law_795 dL_law_796 dL_law_798 dL_law_799 dL_law_800 (by decide) ?_
  refine l_callV (ci := 9) (d' := 13) (mc' := 0) (ms' := 0) (As := [.int (xs (j + 1)), .int (xs (j + 2)), .int (xs (j + 3))]) (st := []) C lL_97 vX9_like rfl hb rfl (Nat.le_of_ble_eq_true rfl) dL_law_801 (by rw [hRm]; show cells + 0 ≤ 1147; omega) (by rw [hRm]; show slots + 0 ≤ 37190; omega) (by rw [hRm]; exact Nat.le_of_ble_eq_true rfl) (by rw [hRm]; exact Nat.le_of_ble_eq_true rfl) (p_like hC ?_)
  intro h2 hC2 hf2
  obtain ⟨hM2, hq2⟩ := LI_c hf2 hM hq
  obtain ⟨fs2, hm⟩ := mI_at hM2
  refine l_aload_n C dL_law_804 rfl ?_
  refine l_arg (n := 1) C hS hL (by omega) rfl rfl dL_law_805 dL_law_806 dL_law_808 dL_law_809 dL_law_810 (by decide) ?_
  refine l_arg (n := 2) C hS hL (by omega) rfl rfl dL_law_811 dL_law_812 dL_law_814 dL_law_815 dL_law_816 (by decide) ?_
  refine l_arg (n := 3) C hS hL (by omega) rfl rfl dL_law_817 dL_law_818 dL_law_820 dL_law_821 dL_law_822 (by decide) ?_
  refine l_callV (ci := 10) (d' := 13) (mc' := 0) (ms' := 0) (As := [.int (xs (j + 1)), .int (xs (j + 2)), .int (xs (j + 3))]) (st := [.int _]) C lL_100 vX10_like rfl hm rfl (Nat.le_of_ble_eq_true rfl) dL_law_823 (by rw [hRm]; show cells + 0 + 0 ≤ 1147; omega) (by rw [hRm]; show slots + 0 + 0 ≤ 37190; omega) (by rw [hRm]; exact Nat.le_of_ble_eq_true rfl) (by rw [hRm]; exact Nat.le_of_ble_eq_true rfl) (q_like hM2 ?_)
  intro h3 hM3 hf3
  exact l_icmp_eq (tgt := 1539) C dL_law_826 rfl (fun _ => l_widen (by omega) (by omega) (next _ (LI_m hf3 hC2 hq2 hM3))) (fun z => absurd rfl z)
set_option maxRecDepth 100000 in
set_option maxHeartbeats 4000000 in
theorem k_tone {X : lX} {G : wG} {sb L b j cells slots : Nat} {xs : Nat → Int32} {h : hH} (C : lK X RL cL_law 7) (hRm : X.2.2.2.2.2.2.2.2.1 = room_1) (hS : lS X G sb L xs) (hL : L ≤ 3072) (hj : j + 6 ≤ L) (hc : cells + 1 ≤ 1147) (hs : slots + 6 ≤ 37190) (hI : LI b h) (next : ∀ h', LI b h' → WL X G 7 (cells + 1) (slots + 6) 1539 (lL sb b j) [] h') : WL X G 7 cells slots 831 (lL sb b j) [] h := by
  obtain ⟨ft, tp, P, ht, R, i0, i1, sd, fa, pl, tr, th, f, hC, hM, hq⟩ := hI
  obtain ⟨fs1, hb⟩ := cI_at hC
  refine l_aload_n C dL_law_831 rfl ?_
  refine l_arg (n := 1) C hS hL (by omega) rfl rfl dL_law_832 dL_law_833 dL_law_835 dL_law_836 dL_law_837 (by decide) ?_
  refine l_arg (n := 2) C hS hL (by omega) rfl rfl dL_law_838 dL_law_839 dL_law_841 dL_law_842 dL_law_843 (by decide) ?_
  refine l_arg (n := 3) C hS hL (by omega) rfl rfl dL_law_844 dL_law_845 dL_law_847 dL_law_848 dL_law_849 (by decide) ?_
  refine l_callV (ci := 9) (d' := 13) (mc' := 0) (ms' := 0) (As := [.int (xs (j + 1)), .int (xs (j + 2)), .int (xs (j + 3))]) (st := []) C lL_101 vX9_tone rfl hb rfl (Nat.le_of_ble_eq_true rfl) dL_law_850 (by rw [hRm]; show cells + 0 ≤ 1147; omega) (by rw [hRm]; show slots + 0 ≤ 37190; omega) (by rw [hRm]; exact Nat.le_of_ble_eq_true rfl) (by rw [hRm]; exact Nat.le_of_ble_eq_true rfl) (p_tone hC ?_)
  intro h2 hC2 hf2
  obtain ⟨hM2, hq2⟩ := LI_c hf2 hM hq
  obtain ⟨fs2, hm⟩ := mI_at hM2
  refine l_aload_n C dL_law_853 rfl ?_
  refine l_arg (n := 1) C hS hL (by omega) rfl rfl dL_law_854 dL_law_855 dL_law_857 dL_law_858 dL_law_859 (by decide) ?_
  refine l_arg (n := 2) C hS hL (by omega) rfl rfl dL_law_860 dL_law_861 dL_law_863 dL_law_864 dL_law_865 (by decide) ?_
  refine l_arg (n := 3) C hS hL (by omega) rfl rfl dL_law_866 dL_law_867 dL_law_869 dL_law_870 dL_law_871 (by decide) ?_
  refine l_callV (ci := 10) (d' := 13) (mc' := 0) (ms' := 0) (As := [.int (xs (j + 1)), .int (xs (j + 2)), .int (xs (j + 3))]) (st := [.int _]) C lL_104 vX10_tone rfl hm rfl (Nat.le_of_ble_eq_true rfl) dL_law_872 (by rw [hRm]; show cells + 0 + 0 ≤ 1147; omega) (by rw [hRm]; show slots + 0 + 0 ≤ 37190; omega) (by rw [hRm]; exact Nat.le_of_ble_eq_true rfl) (by rw [hRm]; exact Nat.le_of_ble_eq_true rfl) (q_tone hM2 ?_)
  intro h3 hM3 hf3
  exact l_icmp_eq (tgt := 1539) C dL_law_875 rfl (fun _ => l_widen (by omega) (by omega) (next _ (LI_m hf3 hC2 hq2 hM3))) (fun z => absurd rfl z)
set_option maxRecDepth 100000 in
set_option maxHeartbeats 4000000 in
theorem k_nth {X : lX} {G : wG} {sb L b j cells slots : Nat} {xs : Nat → Int32} {h : hH} (C : lK X RL cL_law 7) (hRm : X.2.2.2.2.2.2.2.2.1 = room_1) (hS : lS X G sb L xs) (hL : L ≤ 3072) (hj : j + 6 ≤ L) (hc : cells + 1 ≤ 1147) (hs : slots + 6 ≤ 37190) (hI : LI b h) (next : ∀ h', LI b h' → WL X G 7 (cells + 1) (slots + 6) 1539 (lL sb b j) [] h') : WL X G 7 cells slots 880 (lL sb b j) [] h := by
  obtain ⟨ft, tp, P, ht, R, i0, i1, sd, fa, pl, tr, th, f, hC, hM, hq⟩ := hI
  obtain ⟨fs1, hb⟩ := cI_at hC
  refine l_aload_n C dL_law_880 rfl ?_
  refine l_arg (n := 1) C hS hL (by omega) rfl rfl dL_law_881 dL_law_882 dL_law_884 dL_law_885 dL_law_886 (by decide) ?_
  refine l_arg (n := 2) C hS hL (by omega) rfl rfl dL_law_887 dL_law_888 dL_law_890 dL_law_891 dL_law_892 (by decide) ?_
  refine l_callV (ci := 9) (d' := 13) (mc' := 0) (ms' := 0) (As := [.int (xs (j + 1)), .int (xs (j + 2))]) (st := []) C lL_105 vX9_nth rfl hb rfl (Nat.le_of_ble_eq_true rfl) dL_law_893 (by rw [hRm]; show cells + 0 ≤ 1147; omega) (by rw [hRm]; show slots + 0 ≤ 37190; omega) (by rw [hRm]; exact Nat.le_of_ble_eq_true rfl) (by rw [hRm]; exact Nat.le_of_ble_eq_true rfl) (p_nth hC ?_)
  intro h2 hC2 hf2
  obtain ⟨hM2, hq2⟩ := LI_c hf2 hM hq
  obtain ⟨fs2, hm⟩ := mI_at hM2
  refine l_aload_n C dL_law_896 rfl ?_
  refine l_arg (n := 1) C hS hL (by omega) rfl rfl dL_law_897 dL_law_898 dL_law_900 dL_law_901 dL_law_902 (by decide) ?_
  refine l_arg (n := 2) C hS hL (by omega) rfl rfl dL_law_903 dL_law_904 dL_law_906 dL_law_907 dL_law_908 (by decide) ?_
  refine l_callV (ci := 10) (d' := 13) (mc' := 0) (ms' := 0) (As := [.int (xs (j + 1)), .int (xs (j + 2))]) (st := [.int _]) C lL_108 vX10_nth rfl hm rfl (Nat.le_of_ble_eq_true rfl) dL_law_909 (by rw [hRm]; show cells + 0 + 0 ≤ 1147; omega) (by rw [hRm]; show slots + 0 + 0 ≤ 37190; omega) (by rw [hRm]; exact Nat.le_of_ble_eq_true rfl) (by rw [hRm]; exact Nat.le_of_ble_eq_true rfl) (q_nth hM2 ?_)
  intro h3 hM3 hf3
  exact l_icmp_eq (tgt := 1539) C dL_law_912 rfl (fun _ => l_widen (by omega) (by omega) (next _ (LI_m hf3 hC2 hq2 hM3))) (fun z => absurd rfl z)
set_option maxRecDepth 100000 in
set_option maxHeartbeats 4000000 in
theorem k_mean {X : lX} {G : wG} {sb L b j cells slots : Nat} {xs : Nat → Int32} {h : hH} (C : lK X RL cL_law 7) (hRm : X.2.2.2.2.2.2.2.2.1 = room_1) (hS : lS X G sb L xs) (hL : L ≤ 3072) (hj : j + 6 ≤ L) (hc : cells + 1 ≤ 1147) (hs : slots + 6 ≤ 37190) (hI : LI b h) (next : ∀ h', LI b h' → WL X G 7 (cells + 1) (slots + 6) 1539 (lL sb b j) [] h') : WL X G 7 cells slots 917 (lL sb b j) [] h := by
  obtain ⟨ft, tp, P, ht, R, i0, i1, sd, fa, pl, tr, th, f, hC, hM, hq⟩ := hI
  obtain ⟨fs1, hb⟩ := cI_at hC
  refine l_aload_n C dL_law_917 rfl ?_
  refine l_arg (n := 1) C hS hL (by omega) rfl rfl dL_law_918 dL_law_919 dL_law_921 dL_law_922 dL_law_923 (by decide) ?_
  refine l_arg (n := 2) C hS hL (by omega) rfl rfl dL_law_924 dL_law_925 dL_law_927 dL_law_928 dL_law_929 (by decide) ?_
  refine l_arg (n := 3) C hS hL (by omega) rfl rfl dL_law_930 dL_law_931 dL_law_933 dL_law_934 dL_law_935 (by decide) ?_
  refine l_callV (ci := 9) (d' := 13) (mc' := 0) (ms' := 0) (As := [.int (xs (j + 1)), .int (xs (j + 2)), .int (xs (j + 3))]) (st := []) C lL_109 vX9_mean rfl hb rfl (Nat.le_of_ble_eq_true rfl) dL_law_936 (by rw [hRm]; show cells + 0 ≤ 1147; omega) (by rw [hRm]; show slots + 0 ≤ 37190; omega) (by rw [hRm]; exact Nat.le_of_ble_eq_true rfl) (by rw [hRm]; exact Nat.le_of_ble_eq_true rfl) (p_mean hC ?_)
  intro h2 hC2 hf2
  obtain ⟨hM2, hq2⟩ := LI_c hf2 hM hq
  obtain ⟨fs2, hm⟩ := mI_at hM2
  refine l_aload_n C dL_law_939 rfl ?_
  refine l_arg (n := 1) C hS hL (by omega) rfl rfl dL_law_940 dL_law_941 dL_law_943 dL_law_944 dL_law_945 (by decide) ?_
  refine l_arg (n := 2) C hS hL (by omega) rfl rfl dL_law_946 dL_law_947 dL_law_949 dL_law_950 dL_law_951 (by decide) ?_
  refine l_arg (n := 3) C hS hL (by omega) rfl rfl dL_law_952 dL_law_953 dL_law_955 dL_law_956 dL_law_957 (by decide) ?_
  refine l_callV (ci := 10) (d' := 13) (mc' := 0) (ms' := 0) (As := [.int (xs (j + 1)), .int (xs (j + 2)), .int (xs (j + 3))]) (st := [.int _]) C lL_112 vX10_mean rfl hm rfl (Nat.le_of_ble_eq_true rfl) dL_law_958 (by rw [hRm]; show cells + 0 + 0 ≤ 1147; omega) (by rw [hRm]; show slots + 0 + 0 ≤ 37190; omega) (by rw [hRm]; exact Nat.le_of_ble_eq_true rfl) (by rw [hRm]; exact Nat.le_of_ble_eq_true rfl) (q_mean hM2 ?_)
  intro h3 hM3 hf3
  exact l_icmp_eq (tgt := 1539) C dL_law_961 rfl (fun _ => l_widen (by omega) (by omega) (next _ (LI_m hf3 hC2 hq2 hM3))) (fun z => absurd rfl z)
set_option maxRecDepth 100000 in
set_option maxHeartbeats 4000000 in
theorem k_octet {X : lX} {G : wG} {sb L b j cells slots : Nat} {xs : Nat → Int32} {h : hH} (C : lK X RL cL_law 7) (hRm : X.2.2.2.2.2.2.2.2.1 = room_1) (hS : lS X G sb L xs) (hL : L ≤ 3072) (hj : j + 6 ≤ L) (hc : cells + 1 ≤ 1147) (hs : slots + 6 ≤ 37190) (hI : LI b h) (next : ∀ h', LI b h' → WL X G 7 (cells + 1) (slots + 6) 1539 (lL sb b j) [] h') : WL X G 7 cells slots 966 (lL sb b j) [] h := by
  obtain ⟨ft, tp, P, ht, R, i0, i1, sd, fa, pl, tr, th, f, hC, hM, hq⟩ := hI
  obtain ⟨fs1, hb⟩ := cI_at hC
  refine l_aload_n C dL_law_966 rfl ?_
  refine l_arg (n := 1) C hS hL (by omega) rfl rfl dL_law_967 dL_law_968 dL_law_970 dL_law_971 dL_law_972 (by decide) ?_
  refine l_callV (ci := 9) (d' := 13) (mc' := 0) (ms' := 0) (As := [.int (xs (j + 1))]) (st := []) C lL_113 vX9_octet rfl hb rfl (Nat.le_of_ble_eq_true rfl) dL_law_973 (by rw [hRm]; show cells + 0 ≤ 1147; omega) (by rw [hRm]; show slots + 0 ≤ 37190; omega) (by rw [hRm]; exact Nat.le_of_ble_eq_true rfl) (by rw [hRm]; exact Nat.le_of_ble_eq_true rfl) (p_octet hC ?_)
  intro h2 hC2 hf2
  obtain ⟨hM2, hq2⟩ := LI_c hf2 hM hq
  obtain ⟨fs2, hm⟩ := mI_at hM2
  refine l_aload_n C dL_law_976 rfl ?_
  refine l_arg (n := 1) C hS hL (by omega) rfl rfl dL_law_977 dL_law_978 dL_law_980 dL_law_981 dL_law_982 (by decide) ?_
  refine l_callV (ci := 10) (d' := 13) (mc' := 0) (ms' := 0) (As := [.int (xs (j + 1))]) (st := [.int _]) C lL_116 vX10_octet rfl hm rfl (Nat.le_of_ble_eq_true rfl) dL_law_983 (by rw [hRm]; show cells + 0 + 0 ≤ 1147; omega) (by rw [hRm]; show slots + 0 + 0 ≤ 37190; omega) (by rw [hRm]; exact Nat.le_of_ble_eq_true rfl) (by rw [hRm]; exact Nat.le_of_ble_eq_true rfl) (q_octet hM2 ?_)
  intro h3 hM3 hf3
  exact l_icmp_eq (tgt := 1539) C dL_law_986 rfl (fun _ => l_widen (by omega) (by omega) (next _ (LI_m hf3 hC2 hq2 hM3))) (fun z => absurd rfl z)
set_option maxRecDepth 100000 in
set_option maxHeartbeats 4000000 in
theorem k_summed {X : lX} {G : wG} {sb L b j cells slots : Nat} {xs : Nat → Int32} {h : hH} (C : lK X RL cL_law 7) (hRm : X.2.2.2.2.2.2.2.2.1 = room_1) (hS : lS X G sb L xs) (hL : L ≤ 3072) (hj : j + 6 ≤ L) (hc : cells + 1 ≤ 1147) (hs : slots + 6 ≤ 37190) (hI : LI b h) (next : ∀ h', LI b h' → WL X G 7 (cells + 1) (slots + 6) 1539 (lL sb b j) [] h') : WL X G 7 cells slots 991 (lL sb b j) [] h := by
  obtain ⟨ft, tp, P, ht, R, i0, i1, sd, fa, pl, tr, th, f, hC, hM, hq⟩ := hI
  obtain ⟨fs1, hb⟩ := cI_at hC
  refine l_aload_n C dL_law_991 rfl ?_
  refine l_arg (n := 1) C hS hL (by omega) rfl rfl dL_law_992 dL_law_993 dL_law_995 dL_law_996 dL_law_997 (by decide) ?_
  refine l_arg (n := 2) C hS hL (by omega) rfl rfl dL_law_998 dL_law_999 dL_law_1001 dL_law_1002 dL_law_1003 (by decide) ?_
  refine l_callV (ci := 9) (d' := 13) (mc' := 0) (ms' := 0) (As := [.int (xs (j + 1)), .int (xs (j + 2))]) (st := []) C lL_117 vX9_summed rfl hb rfl (Nat.le_of_ble_eq_true rfl) dL_law_1004 (by rw [hRm]; show cells + 0 ≤ 1147; omega) (by rw [hRm]; show slots + 0 ≤ 37190; omega) (by rw [hRm]; exact Nat.le_of_ble_eq_true rfl) (by rw [hRm]; exact Nat.le_of_ble_eq_true rfl) (p_summed hC ?_)
  intro h2 hC2 hf2
  obtain ⟨hM2, hq2⟩ := LI_c hf2 hM hq
  obtain ⟨fs2, hm⟩ := mI_at hM2
  refine l_aload_n C dL_law_1007 rfl ?_
  refine l_arg (n := 1) C hS hL (by omega) rfl rfl dL_law_1008 dL_law_1009 dL_law_1011 dL_law_1012 dL_law_1013 (by decide) ?_
  refine l_arg (n := 2) C hS hL (by omega) rfl rfl dL_law_1014 dL_law_1015 dL_law_1017 dL_law_1018 dL_law_1019 (by decide) ?_
  refine l_callV (ci := 10) (d' := 13) (mc' := 0) (ms' := 0) (As := [.int (xs (j + 1)), .int (xs (j + 2))]) (st := [.int _]) C lL_120 vX10_summed rfl hm rfl (Nat.le_of_ble_eq_true rfl) dL_law_1020 (by rw [hRm]; show cells + 0 + 0 ≤ 1147; omega) (by rw [hRm]; show slots + 0 + 0 ≤ 37190; omega) (by rw [hRm]; exact Nat.le_of_ble_eq_true rfl) (by rw [hRm]; exact Nat.le_of_ble_eq_true rfl) (q_summed hM2 ?_)
  intro h3 hM3 hf3
  exact l_icmp_eq (tgt := 1539) C dL_law_1023 rfl (fun _ => l_widen (by omega) (by omega) (next _ (LI_m hf3 hC2 hq2 hM3))) (fun z => absurd rfl z)
set_option maxRecDepth 100000 in
set_option maxHeartbeats 4000000 in
theorem k_summedAt {X : lX} {G : wG} {sb L b j cells slots : Nat} {xs : Nat → Int32} {h : hH} (C : lK X RL cL_law 7) (hRm : X.2.2.2.2.2.2.2.2.1 = room_1) (hS : lS X G sb L xs) (hL : L ≤ 3072) (hj : j + 6 ≤ L) (hc : cells + 1 ≤ 1147) (hs : slots + 6 ≤ 37190) (hI : LI b h) (next : ∀ h', LI b h' → WL X G 7 (cells + 1) (slots + 6) 1539 (lL sb b j) [] h') : WL X G 7 cells slots 1028 (lL sb b j) [] h := by
  obtain ⟨ft, tp, P, ht, R, i0, i1, sd, fa, pl, tr, th, f, hC, hM, hq⟩ := hI
  obtain ⟨fs1, hb⟩ := cI_at hC
  refine l_aload_n C dL_law_1028 rfl ?_
  refine l_arg (n := 1) C hS hL (by omega) rfl rfl dL_law_1029 dL_law_1030 dL_law_1032 dL_law_1033 dL_law_1034 (by decide) ?_
  refine l_arg (n := 2) C hS hL (by omega) rfl rfl dL_law_1035 dL_law_1036 dL_law_1038 dL_law_1039 dL_law_1040 (by decide) ?_
  refine l_arg (n := 3) C hS hL (by omega) rfl rfl dL_law_1041 dL_law_1042 dL_law_1044 dL_law_1045 dL_law_1046 (by decide) ?_
  refine l_callV (ci := 9) (d' := 13) (mc' := 0) (ms' := 0) (As := [.int (xs (j + 1)), .int (xs (j + 2)), .int (xs (j + 3))]) (st := []) C lL_121 vX9_summedAt rfl hb rfl (Nat.le_of_ble_eq_true rfl) dL_law_1047 (by rw [hRm]; show cells + 0 ≤ 1147; omega) (by rw [hRm]; show slots + 0 ≤ 37190; omega) (by rw [hRm]; exact Nat.le_of_ble_eq_true rfl) (by rw [hRm]; exact Nat.le_of_ble_eq_true rfl) (p_summedAt hC ?_)
  intro h2 hC2 hf2
  obtain ⟨hM2, hq2⟩ := LI_c hf2 hM hq
  obtain ⟨fs2, hm⟩ := mI_at hM2
  refine l_aload_n C dL_law_1050 rfl ?_
  refine l_arg (n := 1) C hS hL (by omega) rfl rfl dL_law_1051 dL_law_1052 dL_law_1054 dL_law_1055 dL_law_1056 (by decide) ?_
  refine l_arg (n := 2) C hS hL (by omega) rfl rfl dL_law_1057 dL_law_1058 dL_law_1060 dL_law_1061 dL_law_1062 (by decide) ?_
  refine l_arg (n := 3) C hS hL (by omega) rfl rfl dL_law_1063 dL_law_1064 dL_law_1066 dL_law_1067 dL_law_1068 (by decide) ?_
  refine l_callV (ci := 10) (d' := 13) (mc' := 0) (ms' := 0) (As := [.int (xs (j + 1)), .int (xs (j + 2)), .int (xs (j + 3))]) (st := [.int _]) C lL_124 vX10_summedAt rfl hm rfl (Nat.le_of_ble_eq_true rfl) dL_law_1069 (by rw [hRm]; show cells + 0 + 0 ≤ 1147; omega) (by rw [hRm]; show slots + 0 + 0 ≤ 37190; omega) (by rw [hRm]; exact Nat.le_of_ble_eq_true rfl) (by rw [hRm]; exact Nat.le_of_ble_eq_true rfl) (q_summedAt hM2 ?_)
  intro h3 hM3 hf3
  exact l_icmp_eq (tgt := 1539) C dL_law_1072 rfl (fun _ => l_widen (by omega) (by omega) (next _ (LI_m hf3 hC2 hq2 hM3))) (fun z => absurd rfl z)
set_option maxRecDepth 100000 in
set_option maxHeartbeats 4000000 in
theorem k_worst {X : lX} {G : wG} {sb L b j cells slots : Nat} {xs : Nat → Int32} {h : hH} (C : lK X RL cL_law 7) (hRm : X.2.2.2.2.2.2.2.2.1 = room_1) (hS : lS X G sb L xs) (hL : L ≤ 3072) (hj : j + 6 ≤ L) (hc : cells + 1 ≤ 1147) (hs : slots + 6 ≤ 37190) (hI : LI b h) (next : ∀ h', LI b h' → WL X G 7 (cells + 1) (slots + 6) 1539 (lL sb b j) [] h') : WL X G 7 cells slots 1077 (lL sb b j) [] h := by
  obtain ⟨ft, tp, P, ht, R, i0, i1, sd, fa, pl, tr, th, f, hC, hM, hq⟩ := hI
  obtain ⟨fs1, hb⟩ := cI_at hC
  refine l_aload_n C dL_law_1077 rfl ?_
  refine l_arg (n := 1) C hS hL (by omega) rfl rfl dL_law_1078 dL_law_1079 dL_law_1081 dL_law_1082 dL_law_1083 (by decide) ?_
  refine l_arg (n := 2) C hS hL (by omega) rfl rfl dL_law_1084 dL_law_1085 dL_law_1087 dL_law_1088 dL_law_1089 (by decide) ?_
  refine l_callV (ci := 9) (d' := 13) (mc' := 0) (ms' := 0) (As := [.int (xs (j + 1)), .int (xs (j + 2))]) (st := []) C lL_125 vX9_worst rfl hb rfl (Nat.le_of_ble_eq_true rfl) dL_law_1090 (by rw [hRm]; show cells + 0 ≤ 1147; omega) (by rw [hRm]; show slots + 0 ≤ 37190; omega) (by rw [hRm]; exact Nat.le_of_ble_eq_true rfl) (by rw [hRm]; exact Nat.le_of_ble_eq_true rfl) (p_worst hC ?_)
  intro h2 hC2 hf2
  obtain ⟨hM2, hq2⟩ := LI_c hf2 hM hq
  obtain ⟨fs2, hm⟩ := mI_at hM2
  refine l_aload_n C dL_law_1093 rfl ?_
  refine l_arg (n := 1) C hS hL (by omega) rfl rfl dL_law_1094 dL_law_1095 dL_law_1097 dL_law_1098 dL_law_1099 (by decide) ?_
  refine l_arg (n := 2) C hS hL (by omega) rfl rfl dL_law_1100 dL_law_1101 dL_law_1103 dL_law_1104 dL_law_1105 (by decide) ?_
  refine l_callV (ci := 10) (d' := 13) (mc' := 0) (ms' := 0) (As := [.int (xs (j + 1)), .int (xs (j + 2))]) (st := [.int _]) C lL_128 vX10_worst rfl hm rfl (Nat.le_of_ble_eq_true rfl) dL_law_1106 (by rw [hRm]; show cells + 0 + 0 ≤ 1147; omega) (by rw [hRm]; show slots + 0 + 0 ≤ 37190; omega) (by rw [hRm]; exact Nat.le_of_ble_eq_true rfl) (by rw [hRm]; exact Nat.le_of_ble_eq_true rfl) (q_worst hM2 ?_)
  intro h3 hM3 hf3
  exact l_icmp_eq (tgt := 1539) C dL_law_1109 rfl (fun _ => l_widen (by omega) (by omega) (next _ (LI_m hf3 hC2 hq2 hM3))) (fun z => absurd rfl z)
set_option maxRecDepth 100000 in
set_option maxHeartbeats 4000000 in
theorem k_cycle {X : lX} {G : wG} {sb L b j cells slots : Nat} {xs : Nat → Int32} {h : hH} (C : lK X RL cL_law 7) (hRm : X.2.2.2.2.2.2.2.2.1 = room_1) (hS : lS X G sb L xs) (hL : L ≤ 3072) (hj : j + 6 ≤ L) (hc : cells + 1 ≤ 1147) (hs : slots + 6 ≤ 37190) (hI : LI b h) (next : ∀ h', LI b h' → WL X G 7 (cells + 1) (slots + 6) 1539 (lL sb b j) [] h') : WL X G 7 cells slots 1114 (lL sb b j) [] h := by
  obtain ⟨ft, tp, P, ht, R, i0, i1, sd, fa, pl, tr, th, f, hC, hM, hq⟩ := hI
  obtain ⟨fs1, hb⟩ := cI_at hC
  refine l_aload_n C dL_law_1114 rfl ?_
  refine l_arg (n := 1) C hS hL (by omega) rfl rfl dL_law_1115 dL_law_1116 dL_law_1118 dL_law_1119 dL_law_1120 (by decide) ?_
  refine l_arg (n := 2) C hS hL (by omega) rfl rfl dL_law_1121 dL_law_1122 dL_law_1124 dL_law_1125 dL_law_1126 (by decide) ?_
  refine l_arg (n := 3) C hS hL (by omega) rfl rfl dL_law_1127 dL_law_1128 dL_law_1130 dL_law_1131 dL_law_1132 (by decide) ?_
  refine l_callV (ci := 9) (d' := 13) (mc' := 0) (ms' := 0) (As := [.int (xs (j + 1)), .int (xs (j + 2)), .int (xs (j + 3))]) (st := []) C lL_129 vX9_cycle rfl hb rfl (Nat.le_of_ble_eq_true rfl) dL_law_1133 (by rw [hRm]; show cells + 0 ≤ 1147; omega) (by rw [hRm]; show slots + 0 ≤ 37190; omega) (by rw [hRm]; exact Nat.le_of_ble_eq_true rfl) (by rw [hRm]; exact Nat.le_of_ble_eq_true rfl) (p_cycle hC ?_)
  intro h2 hC2 hf2
  obtain ⟨hM2, hq2⟩ := LI_c hf2 hM hq
  obtain ⟨fs2, hm⟩ := mI_at hM2
  refine l_aload_n C dL_law_1136 rfl ?_
  refine l_arg (n := 1) C hS hL (by omega) rfl rfl dL_law_1137 dL_law_1138 dL_law_1140 dL_law_1141 dL_law_1142 (by decide) ?_
  refine l_arg (n := 2) C hS hL (by omega) rfl rfl dL_law_1143 dL_law_1144 dL_law_1146 dL_law_1147 dL_law_1148 (by decide) ?_
  refine l_arg (n := 3) C hS hL (by omega) rfl rfl dL_law_1149 dL_law_1150 dL_law_1152 dL_law_1153 dL_law_1154 (by decide) ?_
  refine l_callV (ci := 10) (d' := 13) (mc' := 0) (ms' := 0) (As := [.int (xs (j + 1)), .int (xs (j + 2)), .int (xs (j + 3))]) (st := [.int _]) C lL_132 vX10_cycle rfl hm rfl (Nat.le_of_ble_eq_true rfl) dL_law_1155 (by rw [hRm]; show cells + 0 + 0 ≤ 1147; omega) (by rw [hRm]; show slots + 0 + 0 ≤ 37190; omega) (by rw [hRm]; exact Nat.le_of_ble_eq_true rfl) (by rw [hRm]; exact Nat.le_of_ble_eq_true rfl) (q_cycle hM2 ?_)
  intro h3 hM3 hf3
  exact l_icmp_eq (tgt := 1539) C dL_law_1158 rfl (fun _ => l_widen (by omega) (by omega) (next _ (LI_m hf3 hC2 hq2 hM3))) (fun z => absurd rfl z)
set_option maxRecDepth 100000 in
set_option maxHeartbeats 4000000 in
theorem k_fed {X : lX} {G : wG} {sb L b j cells slots : Nat} {xs : Nat → Int32} {h : hH} (C : lK X RL cL_law 7) (hRm : X.2.2.2.2.2.2.2.2.1 = room_1) (hS : lS X G sb L xs) (hL : L ≤ 3072) (hj : j + 6 ≤ L) (hc : cells + 1 ≤ 1147) (hs : slots + 6 ≤ 37190) (hI : LI b h) (next : ∀ h', LI b h' → WL X G 7 (cells + 1) (slots + 6) 1539 (lL sb b j) [] h') : WL X G 7 cells slots 1163 (lL sb b j) [] h := by
  obtain ⟨ft, tp, P, ht, R, i0, i1, sd, fa, pl, tr, th, f, hC, hM, hq⟩ := hI
  obtain ⟨fs1, hb⟩ := cI_at hC
  refine l_aload_n C dL_law_1163 rfl ?_
  refine l_arg (n := 1) C hS hL (by omega) rfl rfl dL_law_1164 dL_law_1165 dL_law_1167 dL_law_1168 dL_law_1169 (by decide) ?_
  refine l_arg (n := 2) C hS hL (by omega) rfl rfl dL_law_1170 dL_law_1171 dL_law_1173 dL_law_1174 dL_law_1175 (by decide) ?_
  refine l_arg (n := 3) C hS hL (by omega) rfl rfl dL_law_1176 dL_law_1177 dL_law_1179 dL_law_1180 dL_law_1181 (by decide) ?_
  refine l_arg (n := 4) C hS hL (by omega) rfl rfl dL_law_1182 dL_law_1183 dL_law_1185 dL_law_1186 dL_law_1187 (by decide) ?_
  refine l_callV (ci := 9) (d' := 13) (mc' := 0) (ms' := 0) (As := [.int (xs (j + 1)), .int (xs (j + 2)), .int (xs (j + 3)), .int (xs (j + 4))]) (st := []) C lL_133 vX9_fed rfl hb rfl (Nat.le_of_ble_eq_true rfl) dL_law_1188 (by rw [hRm]; show cells + 0 ≤ 1147; omega) (by rw [hRm]; show slots + 0 ≤ 37190; omega) (by rw [hRm]; exact Nat.le_of_ble_eq_true rfl) (by rw [hRm]; exact Nat.le_of_ble_eq_true rfl) (p_fed hC ?_)
  intro h2 hC2 hf2
  obtain ⟨hM2, hq2⟩ := LI_c hf2 hM hq
  obtain ⟨fs2, hm⟩ := mI_at hM2
  refine l_aload_n C dL_law_1191 rfl ?_
  refine l_arg (n := 1) C hS hL (by omega) rfl rfl dL_law_1192 dL_law_1193 dL_law_1195 dL_law_1196 dL_law_1197 (by decide) ?_
  refine l_arg (n := 2) C hS hL (by omega) rfl rfl dL_law_1198 dL_law_1199 dL_law_1201 dL_law_1202 dL_law_1203 (by decide) ?_
  refine l_arg (n := 3) C hS hL (by omega) rfl rfl dL_law_1204 dL_law_1205 dL_law_1207 dL_law_1208 dL_law_1209 (by decide) ?_
  refine l_arg (n := 4) C hS hL (by omega) rfl rfl dL_law_1210 dL_law_1211 dL_law_1213 dL_law_1214 dL_law_1215 (by decide) ?_
  refine l_callV (ci := 10) (d' := 13) (mc' := 0) (ms' := 0) (As := [.int (xs (j + 1)), .int (xs (j + 2)), .int (xs (j + 3)), .int (xs (j + 4))]) (st := [.int _]) C lL_137 vX10_fed rfl hm rfl (Nat.le_of_ble_eq_true rfl) dL_law_1216 (by rw [hRm]; show cells + 0 + 0 ≤ 1147; omega) (by rw [hRm]; show slots + 0 + 0 ≤ 37190; omega) (by rw [hRm]; exact Nat.le_of_ble_eq_true rfl) (by rw [hRm]; exact Nat.le_of_ble_eq_true rfl) (q_fed hM2 ?_)
  intro h3 hM3 hf3
  exact l_icmp_eq (tgt := 1539) C dL_law_1219 rfl (fun _ => l_widen (by omega) (by omega) (next _ (LI_m hf3 hC2 hq2 hM3))) (fun z => absurd rfl z)
set_option maxRecDepth 100000 in
set_option maxHeartbeats 4000000 in
theorem k_sweep {X : lX} {G : wG} {sb L b j cells slots : Nat} {xs : Nat → Int32} {h : hH} (C : lK X RL cL_law 7) (hRm : X.2.2.2.2.2.2.2.2.1 = room_1) (hS : lS X G sb L xs) (hL : L ≤ 3072) (hj : j + 6 ≤ L) (hc : cells + 1 ≤ 1147) (hs : slots + 6 ≤ 37190) (hI : LI b h) (next : ∀ h', LI b h' → WL X G 7 (cells + 1) (slots + 6) 1539 (lL sb b j) [] h') : WL X G 7 cells slots 1224 (lL sb b j) [] h := by
  obtain ⟨ft, tp, P, ht, R, i0, i1, sd, fa, pl, tr, th, f, hC, hM, hq⟩ := hI
  obtain ⟨fs1, hb⟩ := cI_at hC
  refine l_aload_n C dL_law_1224 rfl ?_
  refine l_arg (n := 1) C hS hL (by omega) rfl rfl dL_law_1225 dL_law_1226 dL_law_1228 dL_law_1229 dL_law_1230 (by decide) ?_
  refine l_arg (n := 2) C hS hL (by omega) rfl rfl dL_law_1231 dL_law_1232 dL_law_1234 dL_law_1235 dL_law_1236 (by decide) ?_
  refine l_arg (n := 3) C hS hL (by omega) rfl rfl dL_law_1237 dL_law_1238 dL_law_1240 dL_law_1241 dL_law_1242 (by decide) ?_
  refine l_arg (n := 4) C hS hL (by omega) rfl rfl dL_law_1243 dL_law_1244 dL_law_1246 dL_law_1247 dL_law_1248 (by decide) ?_
  refine l_arg (n := 5) C hS hL (by omega) rfl rfl dL_law_1249 dL_law_1250 dL_law_1252 dL_law_1253 dL_law_1254 (by decide) ?_
  refine l_callV (ci := 9) (d' := 13) (mc' := 0) (ms' := 0) (As := [.int (xs (j + 1)), .int (xs (j + 2)), .int (xs (j + 3)), .int (xs (j + 4)), .int (xs (j + 5))]) (st := []) C lL_138 vX9_sweep rfl hb rfl (Nat.le_of_ble_eq_true rfl) dL_law_1255 (by rw [hRm]; show cells + 0 ≤ 1147; omega) (by rw [hRm]; show slots + 0 ≤ 37190; omega) (by rw [hRm]; exact Nat.le_of_ble_eq_true rfl) (by rw [hRm]; exact Nat.le_of_ble_eq_true rfl) (p_sweep hC ?_)
  intro h2 hC2 hf2
  obtain ⟨hM2, hq2⟩ := LI_c hf2 hM hq
  obtain ⟨fs2, hm⟩ := mI_at hM2
  refine l_aload_n C dL_law_1258 rfl ?_
  refine l_arg (n := 1) C hS hL (by omega) rfl rfl dL_law_1259 dL_law_1260 dL_law_1262 dL_law_1263 dL_law_1264 (by decide) ?_
  refine l_arg (n := 2) C hS hL (by omega) rfl rfl dL_law_1265 dL_law_1266 dL_law_1268 dL_law_1269 dL_law_1270 (by decide) ?_
  refine l_arg (n := 3) C hS hL (by omega) rfl rfl dL_law_1271 dL_law_1272 dL_law_1274 dL_law_1275 dL_law_1276 (by decide) ?_
  refine l_arg (n := 4) C hS hL (by omega) rfl rfl dL_law_1277 dL_law_1278 dL_law_1280 dL_law_1281 dL_law_1282 (by decide) ?_
  refine l_arg (n := 5) C hS hL (by omega) rfl rfl dL_law_1283 dL_law_1284 dL_law_1286 dL_law_1287 dL_law_1288 (by decide) ?_
  refine l_callV (ci := 10) (d' := 13) (mc' := 0) (ms' := 0) (As := [.int (xs (j + 1)), .int (xs (j + 2)), .int (xs (j + 3)), .int (xs (j + 4)), .int (xs (j + 5))]) (st := [.int _]) C lL_141 vX10_sweep rfl hm rfl (Nat.le_of_ble_eq_true rfl) dL_law_1289 (by rw [hRm]; show cells + 0 + 0 ≤ 1147; omega) (by rw [hRm]; show slots + 0 + 0 ≤ 37190; omega) (by rw [hRm]; exact Nat.le_of_ble_eq_true rfl) (by rw [hRm]; exact Nat.le_of_ble_eq_true rfl) (q_sweep hM2 ?_)
  intro h3 hM3 hf3
  exact l_icmp_eq (tgt := 1539) C dL_law_1292 rfl (fun _ => l_widen (by omega) (by omega) (next _ (LI_m hf3 hC2 hq2 hM3))) (fun z => absurd rfl z)
set_option maxRecDepth 100000 in
set_option maxHeartbeats 4000000 in
theorem k_steady {X : lX} {G : wG} {sb L b j cells slots : Nat} {xs : Nat → Int32} {h : hH} (C : lK X RL cL_law 7) (hRm : X.2.2.2.2.2.2.2.2.1 = room_1) (hS : lS X G sb L xs) (hL : L ≤ 3072) (hj : j + 6 ≤ L) (hc : cells + 1 ≤ 1147) (hs : slots + 6 ≤ 37190) (hI : LI b h) (next : ∀ h', LI b h' → WL X G 7 (cells + 1) (slots + 6) 1539 (lL sb b j) [] h') : WL X G 7 cells slots 1297 (lL sb b j) [] h := by
  obtain ⟨ft, tp, P, ht, R, i0, i1, sd, fa, pl, tr, th, f, hC, hM, hq⟩ := hI
  obtain ⟨fs1, hb⟩ := cI_at hC
  refine l_aload_n C dL_law_1297 rfl ?_
  refine l_arg (n := 1) C hS hL (by omega) rfl rfl dL_law_1298 dL_law_1299 dL_law_1301 dL_law_1302 dL_law_1303 (by decide) ?_
  refine l_callV (ci := 9) (d' := 13) (mc' := 0) (ms' := 0) (As := [.int (xs (j + 1))]) (st := []) C lL_142 vX9_steady rfl hb rfl (Nat.le_of_ble_eq_true rfl) dL_law_1304 (by rw [hRm]; show cells + 0 ≤ 1147; omega) (by rw [hRm]; show slots + 0 ≤ 37190; omega) (by rw [hRm]; exact Nat.le_of_ble_eq_true rfl) (by rw [hRm]; exact Nat.le_of_ble_eq_true rfl) (p_steady hC ?_)
  intro h2 hC2 hf2
  obtain ⟨hM2, hq2⟩ := LI_c hf2 hM hq
  obtain ⟨fs2, hm⟩ := mI_at hM2
  refine l_aload_n C dL_law_1307 rfl ?_
  refine l_arg (n := 1) C hS hL (by omega) rfl rfl dL_law_1308 dL_law_1309 dL_law_1311 dL_law_1312 dL_law_1313 (by decide) ?_
  refine l_callV (ci := 10) (d' := 13) (mc' := 0) (ms' := 0) (As := [.int (xs (j + 1))]) (st := [.int _]) C lL_145 vX10_steady rfl hm rfl (Nat.le_of_ble_eq_true rfl) dL_law_1314 (by rw [hRm]; show cells + 0 + 0 ≤ 1147; omega) (by rw [hRm]; show slots + 0 + 0 ≤ 37190; omega) (by rw [hRm]; exact Nat.le_of_ble_eq_true rfl) (by rw [hRm]; exact Nat.le_of_ble_eq_true rfl) (q_steady hM2 ?_)
  intro h3 hM3 hf3
  exact l_icmp_eq (tgt := 1539) C dL_law_1317 rfl (fun _ => l_widen (by omega) (by omega) (next _ (LI_m hf3 hC2 hq2 hM3))) (fun z => absurd rfl z)
set_option maxRecDepth 100000 in
set_option maxHeartbeats 4000000 in
theorem k_apart {X : lX} {G : wG} {sb L b j cells slots : Nat} {xs : Nat → Int32} {h : hH} (C : lK X RL cL_law 7) (hRm : X.2.2.2.2.2.2.2.2.1 = room_1) (hS : lS X G sb L xs) (hL : L ≤ 3072) (hj : j + 6 ≤ L) (hc : cells + 1 ≤ 1147) (hs : slots + 6 ≤ 37190) (hI : LI b h) (next : ∀ h', LI b h' → WL X G 7 (cells + 1) (slots + 6) 1539 (lL sb b j) [] h') : WL X G 7 cells slots 1322 (lL sb b j) [] h := by
  obtain ⟨ft, tp, P, ht, R, i0, i1, sd, fa, pl, tr, th, f, hC, hM, hq⟩ := hI
  obtain ⟨fs1, hb⟩ := cI_at hC
  refine l_aload_n C dL_law_1322 rfl ?_
  refine l_arg (n := 1) C hS hL (by omega) rfl rfl dL_law_1323 dL_law_1324 dL_law_1326 dL_law_1327 dL_law_1328 (by decide) ?_
  refine l_arg (n := 2) C hS hL (by omega) rfl rfl dL_law_1329 dL_law_1330 dL_law_1332 dL_law_1333 dL_law_1334 (by decide) ?_
  refine l_arg (n := 3) C hS hL (by omega) rfl rfl dL_law_1335 dL_law_1336 dL_law_1338 dL_law_1339 dL_law_1340 (by decide) ?_
  refine l_arg (n := 4) C hS hL (by omega) rfl rfl dL_law_1341 dL_law_1342 dL_law_1344 dL_law_1345 dL_law_1346 (by decide) ?_
  refine l_callV (ci := 9) (d' := 13) (mc' := 0) (ms' := 0) (As := [.int (xs (j + 1)), .int (xs (j + 2)), .int (xs (j + 3)), .int (xs (j + 4))]) (st := []) C lL_146 vX9_apart rfl hb rfl (Nat.le_of_ble_eq_true rfl) dL_law_1347 (by rw [hRm]; show cells + 0 ≤ 1147; omega) (by rw [hRm]; show slots + 0 ≤ 37190; omega) (by rw [hRm]; exact Nat.le_of_ble_eq_true rfl) (by rw [hRm]; exact Nat.le_of_ble_eq_true rfl) (p_apart hC ?_)
  intro h2 hC2 hf2
  obtain ⟨hM2, hq2⟩ := LI_c hf2 hM hq
  obtain ⟨fs2, hm⟩ := mI_at hM2
  refine l_aload_n C dL_law_1350 rfl ?_
  refine l_arg (n := 1) C hS hL (by omega) rfl rfl dL_law_1351 dL_law_1352 dL_law_1354 dL_law_1355 dL_law_1356 (by decide) ?_
  refine l_arg (n := 2) C hS hL (by omega) rfl rfl dL_law_1357 dL_law_1358 dL_law_1360 dL_law_1361 dL_law_1362 (by decide) ?_
  refine l_arg (n := 3) C hS hL (by omega) rfl rfl dL_law_1363 dL_law_1364 dL_law_1366 dL_law_1367 dL_law_1368 (by decide) ?_
  refine l_arg (n := 4) C hS hL (by omega) rfl rfl dL_law_1369 dL_law_1370 dL_law_1372 dL_law_1373 dL_law_1374 (by decide) ?_
  refine l_callV (ci := 10) (d' := 13) (mc' := 0) (ms' := 0) (As := [.int (xs (j + 1)), .int (xs (j + 2)), .int (xs (j + 3)), .int (xs (j + 4))]) (st := [.int _]) C lL_149 vX10_apart rfl hm rfl (Nat.le_of_ble_eq_true rfl) dL_law_1375 (by rw [hRm]; show cells + 0 + 0 ≤ 1147; omega) (by rw [hRm]; show slots + 0 + 0 ≤ 37190; omega) (by rw [hRm]; exact Nat.le_of_ble_eq_true rfl) (by rw [hRm]; exact Nat.le_of_ble_eq_true rfl) (q_apart hM2 ?_)
  intro h3 hM3 hf3
  exact l_icmp_eq (tgt := 1539) C dL_law_1378 rfl (fun _ => l_widen (by omega) (by omega) (next _ (LI_m hf3 hC2 hq2 hM3))) (fun z => absurd rfl z)
set_option maxRecDepth 100000 in
set_option maxHeartbeats 4000000 in
theorem k_keep {X : lX} {G : wG} {sb L b j cells slots : Nat} {xs : Nat → Int32} {h : hH} (C : lK X RL cL_law 7) (hRm : X.2.2.2.2.2.2.2.2.1 = room_1) (hS : lS X G sb L xs) (hL : L ≤ 3072) (hj : j + 6 ≤ L) (hc : cells + 1 ≤ 1147) (hs : slots + 6 ≤ 37190) (hI : LI b h) (next : ∀ h', LI b h' → WL X G 7 (cells + 1) (slots + 6) 1539 (lL sb b j) [] h') : WL X G 7 cells slots 1383 (lL sb b j) [] h := by
  obtain ⟨ft, tp, P, ht, R, i0, i1, sd, fa, pl, tr, th, f, hC, hM, hq⟩ := hI
  obtain ⟨fs1, hb⟩ := cI_at hC
  refine l_aload_n C dL_law_1383 rfl ?_
  refine l_arg (n := 1) C hS hL (by omega) rfl rfl dL_law_1384 dL_law_1385 dL_law_1387 dL_law_1388 dL_law_1389 (by decide) ?_
  refine l_callV (ci := 9) (d' := 13) (mc' := 0) (ms' := 0) (As := [.int (xs (j + 1))]) (st := []) C lL_150 vX9_keep rfl hb rfl (Nat.le_of_ble_eq_true rfl) dL_law_1390 (by rw [hRm]; show cells + 0 ≤ 1147; omega) (by rw [hRm]; show slots + 0 ≤ 37190; omega) (by rw [hRm]; exact Nat.le_of_ble_eq_true rfl) (by rw [hRm]; exact Nat.le_of_ble_eq_true rfl) (p_keep hC ?_)
  intro h2 hC2 hf2
  obtain ⟨hM2, hq2⟩ := LI_c hf2 hM hq
  obtain ⟨fs2, hm⟩ := mI_at hM2
  refine l_aload_n C dL_law_1393 rfl ?_
  refine l_arg (n := 1) C hS hL (by omega) rfl rfl dL_law_1394 dL_law_1395 dL_law_1397 dL_law_1398 dL_law_1399 (by decide) ?_
  refine l_callV (ci := 10) (d' := 13) (mc' := 0) (ms' := 0) (As := [.int (xs (j + 1))]) (st := [.int _]) C lL_153 vX10_keep rfl hm rfl (Nat.le_of_ble_eq_true rfl) dL_law_1400 (by rw [hRm]; show cells + 0 + 0 ≤ 1147; omega) (by rw [hRm]; show slots + 0 + 0 ≤ 37190; omega) (by rw [hRm]; exact Nat.le_of_ble_eq_true rfl) (by rw [hRm]; exact Nat.le_of_ble_eq_true rfl) (q_keep hM2 ?_)
  intro h3 hM3 hf3
  exact l_icmp_eq (tgt := 1539) C dL_law_1403 rfl (fun _ => l_widen (by omega) (by omega) (next _ (LI_m hf3 hC2 hq2 hM3))) (fun z => absurd rfl z)
set_option maxRecDepth 100000 in
set_option maxHeartbeats 4000000 in
theorem k_back {X : lX} {G : wG} {sb L b j cells slots : Nat} {xs : Nat → Int32} {h : hH} (C : lK X RL cL_law 7) (hRm : X.2.2.2.2.2.2.2.2.1 = room_1) (hS : lS X G sb L xs) (hL : L ≤ 3072) (hj : j + 6 ≤ L) (hc : cells + 1 ≤ 1147) (hs : slots + 6 ≤ 37190) (hI : LI b h) (next : ∀ h', LI b h' → WL X G 7 (cells + 1) (slots + 6) 1539 (lL sb b j) [] h') : WL X G 7 cells slots 1408 (lL sb b j) [] h := by
  obtain ⟨ft, tp, P, ht, R, i0, i1, sd, fa, pl, tr, th, f, hC, hM, hq⟩ := hI
  obtain ⟨fs1, hb⟩ := cI_at hC
  refine l_aload_n C dL_law_1408 rfl ?_
  refine l_arg (n := 1) C hS hL (by omega) rfl rfl dL_law_1409 dL_law_1410 dL_law_1412 dL_law_1413 dL_law_1414 (by decide) ?_
  refine l_callV (ci := 9) (d' := 13) (mc' := 0) (ms' := 0) (As := [.int (xs (j + 1))]) (st := []) C lL_154 vX9_back rfl hb rfl (Nat.le_of_ble_eq_true rfl) dL_law_1415 (by rw [hRm]; show cells + 0 ≤ 1147; omega) (by rw [hRm]; show slots + 0 ≤ 37190; omega) (by rw [hRm]; exact Nat.le_of_ble_eq_true rfl) (by rw [hRm]; exact Nat.le_of_ble_eq_true rfl) (p_back hC ?_)
  intro h2 hC2 hf2
  obtain ⟨hM2, hq2⟩ := LI_c hf2 hM hq
  obtain ⟨fs2, hm⟩ := mI_at hM2
  refine l_aload_n C dL_law_1418 rfl ?_
  refine l_arg (n := 1) C hS hL (by omega) rfl rfl dL_law_1419 dL_law_1420 dL_law_1422 dL_law_1423 dL_law_1424 (by decide) ?_
  refine l_callV (ci := 10) (d' := 13) (mc' := 0) (ms' := 0) (As := [.int (xs (j + 1))]) (st := [.int _]) C lL_157 vX10_back rfl hm rfl (Nat.le_of_ble_eq_true rfl) dL_law_1425 (by rw [hRm]; show cells + 0 + 0 ≤ 1147; omega) (by rw [hRm]; show slots + 0 + 0 ≤ 37190; omega) (by rw [hRm]; exact Nat.le_of_ble_eq_true rfl) (by rw [hRm]; exact Nat.le_of_ble_eq_true rfl) (q_back hM2 ?_)
  intro h3 hM3 hf3
  exact l_icmp_eq (tgt := 1539) C dL_law_1428 rfl (fun _ => l_widen (by omega) (by omega) (next _ (LI_m hf3 hC2 hq2 hM3))) (fun z => absurd rfl z)
set_option maxRecDepth 100000 in
set_option maxHeartbeats 4000000 in
theorem k_bytes {X : lX} {G : wG} {sb L b j cells slots : Nat} {xs : Nat → Int32} {h : hH} (C : lK X RL cL_law 7) (hRm : X.2.2.2.2.2.2.2.2.1 = room_1) (hS : lS X G sb L xs) (hL : L ≤ 3072) (hj : j + 6 ≤ L) (hc : cells + 1 ≤ 1147) (hs : slots + 6 ≤ 37190) (hI : LI b h) (next : ∀ h', LI b h' → WL X G 7 (cells + 1) (slots + 6) 1539 (lL sb b j) [] h') : WL X G 7 cells slots 1513 (lL sb b j) [] h := by
  obtain ⟨ft, tp, P, ht, R, i0, i1, sd, fa, pl, tr, th, f, hC, hM, hq⟩ := hI
  obtain ⟨fs1, hb⟩ := cI_at hC
  refine l_aload_n C dL_law_1513 rfl ?_
  refine l_callV (ci := 9) (d' := 13) (mc' := 0) (ms' := 0) (As := []) (st := []) C lL_167 vX9_bytes rfl hb rfl (Nat.le_of_ble_eq_true rfl) dL_law_1514 (by rw [hRm]; show cells + 0 ≤ 1147; omega) (by rw [hRm]; show slots + 0 ≤ 37190; omega) (by rw [hRm]; exact Nat.le_of_ble_eq_true rfl) (by rw [hRm]; exact Nat.le_of_ble_eq_true rfl) (p_bytes hC ?_)
  obtain ⟨fs2, hm⟩ := mI_at hM
  refine l_aload_n C dL_law_1517 rfl ?_
  refine l_callV (ci := 10) (d' := 13) (mc' := 0) (ms' := 0) (As := []) (st := [.int (nI tp)]) C lL_170 vX10_bytes rfl hm rfl (Nat.le_of_ble_eq_true rfl) dL_law_1518 (by rw [hRm]; show cells + 0 + 0 ≤ 1147; omega) (by rw [hRm]; show slots + 0 + 0 ≤ 37190; omega) (by rw [hRm]; exact Nat.le_of_ble_eq_true rfl) (by rw [hRm]; exact Nat.le_of_ble_eq_true rfl) (q_bytes hM ?_)
  intro h3 hM3 hf3
  exact l_icmp_eq (tgt := 1539) C dL_law_1521 rfl (fun _ => l_widen (by omega) (by omega) (next _ (LI_m hf3 hC hq hM3))) (fun z => absurd rfl z)
set_option maxRecDepth 100000 in
set_option maxHeartbeats 4000000 in
theorem k_trouble {X : lX} {G : wG} {sb L b j cells slots : Nat} {xs : Nat → Int32} {h : hH} (C : lK X RL cL_law 7) (hRm : X.2.2.2.2.2.2.2.2.1 = room_1) (hS : lS X G sb L xs) (hL : L ≤ 3072) (hj : j + 6 ≤ L) (hc : cells + 1 ≤ 1147) (hs : slots + 6 ≤ 37190) (hI : LI b h) (next : ∀ h', LI b h' → WL X G 7 (cells + 1) (slots + 6) 1539 (lL sb b j) [] h') : WL X G 7 cells slots 1526 (lL sb b j) [] h := by
  obtain ⟨ft, tp, P, ht, R, i0, i1, sd, fa, pl, tr, th, f, hC, hM, hq⟩ := hI
  obtain ⟨fs1, hb⟩ := cI_at hC
  refine l_aload_n C dL_law_1526 rfl ?_
  refine l_callV (ci := 9) (d' := 13) (mc' := 0) (ms' := 0) (As := []) (st := []) C lL_171 vX9_trouble rfl hb rfl (Nat.le_of_ble_eq_true rfl) dL_law_1527 (by rw [hRm]; show cells + 0 ≤ 1147; omega) (by rw [hRm]; show slots + 0 ≤ 37190; omega) (by rw [hRm]; exact Nat.le_of_ble_eq_true rfl) (by rw [hRm]; exact Nat.le_of_ble_eq_true rfl) (p_trouble hC ?_)
  obtain ⟨fs2, hm⟩ := mI_at hM
  refine l_aload_n C dL_law_1530 rfl ?_
  refine l_callV (ci := 10) (d' := 13) (mc' := 0) (ms' := 0) (As := []) (st := [.int (tr)]) C lL_174 vX10_trouble rfl hm rfl (Nat.le_of_ble_eq_true rfl) dL_law_1531 (by rw [hRm]; show cells + 0 + 0 ≤ 1147; omega) (by rw [hRm]; show slots + 0 + 0 ≤ 37190; omega) (by rw [hRm]; exact Nat.le_of_ble_eq_true rfl) (by rw [hRm]; exact Nat.le_of_ble_eq_true rfl) (q_trouble hM ?_)
  intro h3 hM3 hf3
  exact l_icmp_eq (tgt := 1539) C dL_law_1534 rfl (fun _ => l_widen (by omega) (by omega) (next _ (LI_m hf3 hC hq hM3))) (fun z => absurd rfl z)
set_option maxRecDepth 100000 in
set_option maxHeartbeats 4000000 in
theorem k_text {X : lX} {G : wG} {sb L b j cells slots : Nat} {xs : Nat → Int32} {h : hH} (C : lK X RL cL_law 7) (hRm : X.2.2.2.2.2.2.2.2.1 = room_1) (hS : lS X G sb L xs) (hL : L ≤ 3072) (hj : j + 6 ≤ L) (hc : cells + 1 ≤ 1147) (hs : slots + 6 ≤ 37190) (hI : LI b h) (next : ∀ h', LI b h' → WL X G 7 (cells + 1) (slots + 6) 1539 (lL sb b j) [] h') : WL X G 7 cells slots 273 (lL sb b j) [] h := by
  obtain ⟨ft, tp, P, ht, R, i0, i1, sd, fa, pl, tr, th, f, hC, hM, hq⟩ := hI
  obtain ⟨fs1, hb⟩ := cI_at hC
  refine l_aload_n C dL_law_273 rfl ?_
  refine l_arg (n := 1) C hS hL (by omega) rfl rfl dL_law_274 dL_law_275 dL_law_277 dL_law_278 dL_law_279 (by decide) ?_
  by_cases hy : ∃ E, E ≤ tp ∧ xs (j + 1) = nI E
  · obtain ⟨E, hE, hy⟩ := hy
    rw [hy]
    refine l_callV (ci := 9) (d' := 13) (mc' := 0) (ms' := 0) (As := [.int (nI E)]) (st := []) C lL_24 vX9_text rfl hb rfl (Nat.le_of_ble_eq_true rfl) dL_law_280 (by rw [hRm]; show cells + 0 ≤ 1147; omega) (by rw [hRm]; show slots + 0 ≤ 37190; omega) (by rw [hRm]; exact Nat.le_of_ble_eq_true rfl) (by rw [hRm]; exact Nat.le_of_ble_eq_true rfl) (p_text_s hC hE (fun x P2 hn => txX_ok x P2 hn) ?_)
    intro h2 x P2 hC2 hf2
    obtain ⟨hM2, hq2⟩ := LI_c hf2 hM hq
    obtain ⟨fs2, hm⟩ := mI_at hM2
    refine l_aload_n C dL_law_283 rfl ?_
    refine l_arg (n := 1) C hS hL (by omega) rfl rfl dL_law_284 dL_law_285 dL_law_287 dL_law_288 dL_law_289 (by decide) ?_
    rw [hy]
    refine l_callV (ci := 10) (d' := 13) (mc' := 0) (ms' := 0) (As := [.int (nI E)]) (st := [.int _]) C lL_28 vX10_text rfl hm rfl (Nat.le_of_ble_eq_true rfl) dL_law_290 (by rw [hRm]; show cells + 0 + 0 ≤ 1147; omega) (by rw [hRm]; show slots + 0 + 0 ≤ 37190; omega) (by rw [hRm]; exact Nat.le_of_ble_eq_true rfl) (by rw [hRm]; exact Nat.le_of_ble_eq_true rfl) (q_text_s (x := x) (P2 := P2) hM2 hE ?_)
    intro h3 hM3 hf3
    by_cases e : (txX ft E x P2).1 = 0
    · rw [if_pos e] at hC2 hM3
      exact l_icmp_eq (tgt := 1539) C dL_law_293 rfl (fun _ => l_widen (by omega) (by omega) (next _ (LI_m hf3 hC2 hq2 hM3))) (fun z => absurd rfl z)
    · rw [if_neg e] at hC2 hM3
      rw [txX_z e] at hC2
      exact l_icmp_eq (tgt := 1539) C dL_law_293 rfl (fun _ => l_widen (by omega) (by omega) (next _ (LI_m hf3 hC2 hq2 hM3))) (fun z => absurd rfl z)
  · refine l_callV (ci := 9) (d' := 13) (mc' := 0) (ms' := 0) (As := [.int (xs (j + 1))]) (st := []) C lL_24 vX9_text rfl hb rfl (Nat.le_of_ble_eq_true rfl) dL_law_280 (by rw [hRm]; show cells + 0 ≤ 1147; omega) (by rw [hRm]; show slots + 0 ≤ 37190; omega) (by rw [hRm]; exact Nat.le_of_ble_eq_true rfl) (by rw [hRm]; exact Nat.le_of_ble_eq_true rfl) (p_text_n hC hy ?_)
    intro h2 hC2 hf2
    obtain ⟨hM2, hq2⟩ := LI_c hf2 hM hq
    obtain ⟨fs2, hm⟩ := mI_at hM2
    refine l_aload_n C dL_law_283 rfl ?_
    refine l_arg (n := 1) C hS hL (by omega) rfl rfl dL_law_284 dL_law_285 dL_law_287 dL_law_288 dL_law_289 (by decide) ?_
    refine l_callV (ci := 10) (d' := 13) (mc' := 0) (ms' := 0) (As := [.int (xs (j + 1))]) (st := [.int _]) C lL_28 vX10_text rfl hm rfl (Nat.le_of_ble_eq_true rfl) dL_law_290 (by rw [hRm]; show cells + 0 + 0 ≤ 1147; omega) (by rw [hRm]; show slots + 0 + 0 ≤ 37190; omega) (by rw [hRm]; exact Nat.le_of_ble_eq_true rfl) (by rw [hRm]; exact Nat.le_of_ble_eq_true rfl) (q_text_n hM2 (tx_out (cI_tp hC) hy) ?_)
    intro h3 hM3 hf3
    exact l_icmp_eq (tgt := 1539) C dL_law_293 rfl (fun _ => l_widen (by omega) (by omega) (next _ (LI_m hf3 hC2 hq2 hM3))) (fun z => absurd rfl z)
