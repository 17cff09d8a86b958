theorem new_c {G : wG} {d : Nat} {h0 : hH} {Q : hH → Prop} {b : Nat} (hb : h0.2 = b) (k : ∀ h1, cI h1 b (fun _ => 0) 0 P00 0 none none none 1 0 (-1) 0 → h1.2 = b + 97 → Q h1) : ClI G yX9_init (d + 4) 96 9454 [.ref b] (hN h0 (oC 9 [.null, .null, .null, .null, .null, .null, .null, .null, .int 0, .int 0, .int 0, .int 0, .int 0, .int 0])) Q := i_LevelBits hb (k _ (cI_new hb) (hNs_2 hb 97 rfl))
theorem new_m {G : wG} {d : Nat} {h0 : hH} {Q : hH → Prop} {b : Nat} (hb : h0.2 = b) (k : ∀ h1, mI h1 b (fun _ => 0) 0 P00 0 none none none 1 0 (-1) 0 0 → h1.2 = b + 24 → (∀ a, a < b → h1.1 a = h0.1 a) → Q h1) : ClI G yX10_init (d + 1) 23 19479 [.ref b] (hN h0 (oC 10 [.int 0, .int 0, .int 0, .null, .int 0, .int 0, .int 0, .int 0, .int 0, .int 0, .int 0, .int 0, .int 0, .long 0, .null, .null, .null, .null, .null, .null, .null, .null, .null, .null, .null, .null, .int 0, .int 0, .int 0, .int 0, .int 0, .null, .null, .null, .null, .null, .null, .null, .null, .int 0, .null, .null, .int 0, .int 0])) Q := i_LevelBitsModel hb (k _ (mI_new hb (fun _ => 0)) (hNs_2 hb 24 rfl) (fun a ha => hNs_lt (by omega)))
set_option maxRecDepth 100000 in
set_option maxHeartbeats 4000000 in
/-- the law's body -/
theorem whole_body {X : lX} {G : wG} {sb L : Nat} {xs : Nat → Int32} (C : lK X RL cL_law 7) (hRm : X.2.2.2.2.2.2.2.2.1 = room_1) (hS : lS X G sb L xs) (hL : L ≤ 3072) (hwx : wX X.2.2.1) (fin : ∀ (cells slots : Nat) (ls : List (Option Value)) (h : hH), cells ≤ 1147 → slots ≤ 37190 → WL X G 7 cells slots 1546 ls [.int 1] h) (h0 : hH) : WL X G 7 0 0 0 [some (.ref sb), none, none, none, none, none, none] [] h0 := by
  obtain ⟨b, hb⟩ : ∃ b, h0.2 = b := ⟨_, rfl⟩
  refine l_new (fs := [.null, .null, .null, .null, .null, .null, .null, .null, .int 0, .int 0, .int 0, .int 0, .int 0, .int 0]) C wcX9 qL_8 iX9 zX9 df_X9 (by rw [hRm]; exact Nat.le_of_ble_eq_true rfl) (by rw [hRm]; exact Nat.le_of_ble_eq_true rfl) dL_law_0 ?_
  refine l_dup C dL_law_3 rfl ?_
  rw [hb]
  refine l_callI (d' := 13) (mc' := 96) (ms' := 9454) (q := b) (As := []) (st := [.ref b]) C lL_15 vX9_init rfl (Nat.le_of_ble_eq_true rfl) dL_law_4 (by rw [hRm]; exact Nat.le_of_ble_eq_true rfl) (by rw [hRm]; exact Nat.le_of_ble_eq_true rfl) (by rw [hRm]; exact Nat.le_of_ble_eq_true rfl) (by rw [hRm]; exact Nat.le_of_ble_eq_true rfl) (new_c hb (fun h1 hC hz1 => ?_))
  refine l_astore_n (ls2 := [some (.ref sb), some (.ref b), none, none, none, none, none]) C dL_law_7 (by decide) rfl rfl ?_
  refine l_new (fs := [.int 0, .int 0, .int 0, .null, .int 0, .int 0, .int 0, .int 0, .int 0, .int 0, .int 0, .int 0, .int 0, .long 0, .null, .null, .null, .null, .null, .null, .null, .null, .null, .null, .null, .null, .int 0, .int 0, .int 0, .int 0, .int 0, .null, .null, .null, .null, .null, .null, .null, .null, .int 0, .null, .null, .int 0, .int 0]) C wcX10 qL_16 iX10 zX10 df_X10 (by rw [hRm]; exact Nat.le_of_ble_eq_true rfl) (by rw [hRm]; exact Nat.le_of_ble_eq_true rfl) dL_law_8 ?_
  refine l_dup C dL_law_11 rfl ?_
  rw [hz1]
  refine l_callI (d' := 13) (mc' := 23) (ms' := 19479) (q := b + 97) (As := []) (st := [.ref (b + 97)]) C lL_18 vX10_init rfl (Nat.le_of_ble_eq_true rfl) dL_law_12 (by rw [hRm]; exact Nat.le_of_ble_eq_true rfl) (by rw [hRm]; exact Nat.le_of_ble_eq_true rfl) (by rw [hRm]; exact Nat.le_of_ble_eq_true rfl) (by rw [hRm]; exact Nat.le_of_ble_eq_true rfl) (new_m hz1 (fun h2 hM hz2 hlt => ?_))
  have hz2 : h2.2 = b + 121 := hz2
  have hC2 := cI_fr (h2 := h2) hC (fun a a1 a2 => hlt a (by omega))
  refine l_astore_n (ls2 := [some (.ref sb), some (.ref b), some (.ref (b + 97)), none, none, none, none]) C dL_law_15 (by decide) rfl rfl ?_
  refine l_iconst (v := 1) C dL_law_16 (by decide) ?_
  refine l_newL (N := 1) C ac_long (by decide) (by decide) (Nat.le_of_ble_eq_true rfl) (by rw [hRm]; exact Nat.le_of_ble_eq_true rfl) (by rw [hRm]; exact Nat.le_of_ble_eq_true rfl) dL_law_17 ?_
  have hq := hN_s (h := h2) (c := aL 1 (fun _ => 0))
  have hM3 := mI_fr (h2 := hN h2 (aL 1 (fun _ => 0))) hM (fun a a1 a2 => if_neg (by omega))
  have hC3 := cI_fr (h2 := hN h2 (aL 1 (fun _ => 0))) hC2 (fun a a1 a2 => if_neg (by omega))
  rw [hz2] at hq ⊢
  generalize hN h2 (aL 1 (fun _ => 0)) = h3 at hq hM3 hC3 ⊢
  refine l_astore_n (ls2 := [some (.ref sb), some (.ref b), some (.ref (b + 97)), some (.ref (b + 121)), none, none, none]) C dL_law_19 (by decide) rfl rfl ?_
  refine l_iconst (v := nI 0) C dL_law_20 (by decide) ?_
  refine l_istore (ls2 := lL sb b 0) C dL_law_21 (by decide) rfl rfl ?_
  exact law_loop C hRm hS hL hwx fin L 0 h3 (by omega) (Nat.zero_le _) ⟨_, _, _, _, _, _, _, _, _, _, _, _, _, hC3, hM3, hq⟩
