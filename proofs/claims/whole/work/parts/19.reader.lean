/-- a word's number: five bits a letter -/
def pkF (bs : List Int32) (n : Nat) : Int32 := fld (fun i s => s ||| ((bs.getD i 0 &&& 255) - 97 + 1) <<< (nI (5 * i) &&& 31)) 0 n 0
set_option maxRecDepth 100000 in
set_option maxHeartbeats 4000000 in
theorem l_packed {G : wG} {d : Nat} {h : hH} {Q : Option Value → hH → Prop} {i : Nat} {r : String × Nat × String × Nat × List Int32} (hr : wSL[i]? = some r) (kk : Q (some (.int (pkF r.2.2.2.2 r.2.2.2.1))) h) : ∀ (n : Nat) (k : Nat) (x : Int32), k + n = r.2.2.2.1 → x = pkF r.2.2.2.2 k → WP G RX9 cX9_packed 3 (some .int) false (d + 6) 0 0 0 0 Q 4 [some (.ref (G.2.2.1 i)), some (.int x), some (.int (nI k))] [] h := by
  intro n
  induction n with
  | zero =>
    intro k x hi e
    have hlen := wSL_len i r hr
    refine w_iload_n dX9_packed_4 rfl ?_
    refine w_aload_n dX9_packed_5 rfl ?_
    refine w_callVS (d' := d + 5) (mc' := 0) (ms' := 0) (As := []) (st := [.int (nI k)]) lX9_316 vJ0_length_8abf5 rfl hr rfl (Nat.le_of_ble_eq_true rfl) dX9_packed_6 (Nat.le_of_ble_eq_true rfl) (Nat.le_of_ble_eq_true rfl) (Nat.le_refl _) (c_length hr ?_)
    refine w_icmp_ge_t (tgt := 41) dX9_packed_9 rfl ((nI_leI (a := r.2.2.2.1) (b := k) (by omega) (by omega)).mpr (by omega)) ?_
    refine w_iload_n dX9_packed_41 rfl ?_
    refine w_ireturn rfl dX9_packed_42 (Nat.le_of_ble_eq_true rfl) (Nat.le_of_ble_eq_true rfl) ?_
    have z : k = r.2.2.2.1 := by omega
    rw [← z, ← e] at kk
    exact kk
  | succ n ih =>
    intro k x hi e
    have hlen := wSL_len i r hr
    refine w_iload_n dX9_packed_4 rfl ?_
    refine w_aload_n dX9_packed_5 rfl ?_
    refine w_callVS (d' := d + 5) (mc' := 0) (ms' := 0) (As := []) (st := [.int (nI k)]) lX9_316 vJ0_length_8abf5 rfl hr rfl (Nat.le_of_ble_eq_true rfl) dX9_packed_6 (Nat.le_of_ble_eq_true rfl) (Nat.le_of_ble_eq_true rfl) (Nat.le_refl _) (c_length hr ?_)
    refine w_icmp_ge_f (tgt := 41) dX9_packed_9 rfl (fun z => absurd ((nI_leI (a := r.2.2.2.1) (b := k) (by omega) (by omega)).mp z) (by omega)) ?_
    refine w_iload_n dX9_packed_12 rfl ?_
    refine w_bipush (v := 6) dX9_packed_13 (by decide) ?_
    refine w_icmp_ge_f (tgt := 41) dX9_packed_15 rfl (fun z => absurd ((nI_leI (a := 6) (b := k) (by omega) (by omega)).mp z) (by omega)) ?_
    refine w_iload_n dX9_packed_18 rfl ?_
    refine w_aload_n dX9_packed_19 rfl ?_
    refine w_iload_n dX9_packed_20 rfl ?_
    refine w_callVS (d' := d + 5) (mc' := 0) (ms' := 0) (As := [.int (nI k)]) (st := [.int x]) lX9_322 vJ0_charAt_5068e rfl hr rfl (Nat.le_of_ble_eq_true rfl) dX9_packed_21 (Nat.le_of_ble_eq_true rfl) (Nat.le_of_ble_eq_true rfl) (Nat.le_refl _) (c_charAt hr (by omega) (by omega) ?_)
    refine w_bipush (v := 97) dX9_packed_24 (by decide) ?_
    refine w_isub dX9_packed_26 ?_
    refine w_iconst (v := 1) dX9_packed_27 (by decide) ?_
    refine w_iadd dX9_packed_28 ?_
    refine w_iconst (v := 5) dX9_packed_29 (by decide) ?_
    refine w_iload_n dX9_packed_30 rfl ?_
    refine w_imulE (z := nI (5 * k)) dX9_packed_31 (pk_mul (5) (k)) ?_
    refine w_ishl dX9_packed_32 ?_
    refine w_ior dX9_packed_33 ?_
    refine w_istore_n (ls2 := [some (.ref (G.2.2.1 i)), some (.int (x ||| ((((r.2.2.2.2.getD k 0 &&& 255) - 97) + 1) <<< ((nI (5 * k)) &&& 31)))), some (.int (nI k))]) dX9_packed_34 (by decide) rfl rfl ?_
    refine w_iinc (v := nI (k + 1)) (ls2 := [some (.ref (G.2.2.1 i)), some (.int (x ||| ((((r.2.2.2.2.getD k 0 &&& 255) - 97) + 1) <<< ((nI (5 * k)) &&& 31)))), some (.int (nI (k + 1)))]) dX9_packed_35 rfl (nI_1 _) (by decide) rfl rfl ?_
    refine w_goto (tgt := 4) dX9_packed_38 rfl ?_
    exact ih (k + 1) _ (by omega) (by rw [e, pkF, pkF, fld, Nat.zero_add])
set_option maxRecDepth 100000 in
set_option maxHeartbeats 4000000 in
theorem c_packed {G : wG} {d : Nat} {h : hH} {Q : Option Value → hH → Prop} {i : Nat} {r : String × Nat × String × Nat × List Int32}  (hr : wSL[i]? = some r)  (kk : Q (some (.int (pkF r.2.2.2.2 r.2.2.2.1))) h) : Cl G yX9_packed (d + 6) 0 0 [.ref (G.2.2.1 i)] h Q := by
  refine Cl.of (ini := false) kX9_packed (plainFor_of_name (by decide)) (by decide) (Nat.le_of_ble_eq_true rfl) rfl rfl (fun z => by cases z) ?_
  refine w_iconst (v := 0) dX9_packed_0 (by decide) ?_
  refine w_istore_n (ls2 := [some (.ref (G.2.2.1 i)), some (.int 0), none]) dX9_packed_1 (by decide) rfl rfl ?_
  refine w_iconst (v := (nI 0)) dX9_packed_2 (by decide) ?_
  refine w_istore_n (ls2 := [some (.ref (G.2.2.1 i)), some (.int 0), some (.int (nI 0))]) dX9_packed_3 (by decide) rfl rfl ?_
  exact l_packed hr kk r.2.2.2.1 0 _ (by omega) rfl
def isW (kd vl : Int32) (bs : List Int32) (n : Nat) : Int32 := if kd = 1 ∧ vl = pkF bs n then 1 else 0
set_option maxRecDepth 100000 in
set_option maxHeartbeats 4000000 in
theorem c_isWord {G : wG} {d : Nat} {h : hH} {Q : Option Value → hH → Prop} {i : Nat} {r : String × Nat × String × Nat × List Int32} {q qt p E a b : Nat} {kd vl tk fl pl : Int32} (hr : wSL[i]? = some r) (hw : hHas h [q] [(oC 5 [.ref qt, .ref p, .int (nI E), .int (nI a), .int kd, .int (nI b), .int vl, .int tk, .int fl, .int pl])])  (k : Q (some (.int (isW kd vl r.2.2.2.2 r.2.2.2.1))) h) : Cl G yX5_isWord (d + 7) 0 0 [.ref q, .ref (G.2.2.1 i)] h Q := by
  refine Cl.of (ini := false) kX5_isWord (plainFor_of_name (by decide)) (by decide) (Nat.le_of_ble_eq_true rfl) rfl rfl (fun z => by cases z) ?_
  refine w_aload_n dX5_isWord_0 rfl ?_
  refine w_get (v := .int kd) fX5_63 (hw 0 _ _ rfl rfl) rfl dX5_isWord_1 ?_
  refine w_iconst (v := 1) dX5_isWord_4 (by decide) ?_
  refine w_icmp_ne (tgt := 23) dX5_isWord_5 rfl (fun b5 => ?_) (fun b5 => ?_)
  · refine w_iconst (v := 0) dX5_isWord_23 (by decide) ?_
    refine w_zreturn rfl dX5_isWord_24 rfl (Nat.le_of_ble_eq_true rfl) (Nat.le_of_ble_eq_true rfl) ?_
    have e0 : isW kd vl r.2.2.2.2 r.2.2.2.1 = 0 := by
      rw [isW, if_neg (fun z => b5 z.1)]
    rw [e0] at k
    exact k
  · refine w_aload_n dX5_isWord_8 rfl ?_
    refine w_get (v := .int vl) fX5_159 (hw 0 _ _ rfl rfl) rfl dX5_isWord_9 ?_
    refine w_aload_n dX5_isWord_12 rfl ?_
    refine w_callS (d' := d + 6) (mc' := 0) (ms' := 0) (As := [.ref (G.2.2.1 i)]) (st := [.int vl]) lX5_165 vX9_packed rfl (Nat.le_of_ble_eq_true rfl) dX5_isWord_13 (Nat.le_of_ble_eq_true rfl) (Nat.le_of_ble_eq_true rfl) (Nat.le_refl _) (c_packed hr ?_)
    refine w_icmp_ne (tgt := 23) dX5_isWord_16 rfl (fun b16 => ?_) (fun b16 => ?_)
    · refine w_iconst (v := 0) dX5_isWord_23 (by decide) ?_
      refine w_zreturn rfl dX5_isWord_24 rfl (Nat.le_of_ble_eq_true rfl) (Nat.le_of_ble_eq_true rfl) ?_
      have e0 : isW kd vl r.2.2.2.2 r.2.2.2.1 = 0 := by
        rw [isW, if_neg (fun z => b16 z.2)]
      rw [e0] at k
      exact k
    · refine w_iconst (v := 1) dX5_isWord_19 (by decide) ?_
      refine w_goto (tgt := 24) dX5_isWord_20 rfl ?_
      refine w_zreturn rfl dX5_isWord_24 rfl (Nat.le_of_ble_eq_true rfl) (Nat.le_of_ble_eq_true rfl) ?_
      have e0 : isW kd vl r.2.2.2.2 r.2.2.2.1 = 1 := by
        rw [isW, if_pos ⟨b5, b16⟩]
      rw [e0] at k
      exact k
def isM (kd vl c : Int32) : Int32 := if kd = 3 ∧ vl = c then 1 else 0
set_option maxRecDepth 100000 in
set_option maxHeartbeats 4000000 in
theorem c_isMark {G : wG} {d : Nat} {h : hH} {Q : Option Value → hH → Prop} {q qt p E a b : Nat} {kd vl tk fl pl : Int32} {x : Int32} (hw : hHas h [q] [(oC 5 [.ref qt, .ref p, .int (nI E), .int (nI a), .int kd, .int (nI b), .int vl, .int tk, .int fl, .int pl])])  (k : Q (some (.int (isM kd vl x))) h) : Cl G yX5_isMark d 0 0 [.ref q, .int x] h Q := by
  refine Cl.of (ini := false) kX5_isMark (plainFor_of_name (by decide)) (by decide) (Nat.le_of_ble_eq_true rfl) rfl rfl (fun z => by cases z) ?_
  refine w_aload_n dX5_isMark_0 rfl ?_
  refine w_get (v := .int kd) fX5_63 (hw 0 _ _ rfl rfl) rfl dX5_isMark_1 ?_
  refine w_iconst (v := 3) dX5_isMark_4 (by decide) ?_
  refine w_icmp_ne (tgt := 20) dX5_isMark_5 rfl (fun b5 => ?_) (fun b5 => ?_)
  · refine w_iconst (v := 0) dX5_isMark_20 (by decide) ?_
    refine w_zreturn rfl dX5_isMark_21 rfl (Nat.le_of_ble_eq_true rfl) (Nat.le_of_ble_eq_true rfl) ?_
    have e0 : isM kd vl x = 0 := by
      rw [isM, if_neg (fun z => b5 z.1)]
    rw [e0] at k
    exact k
  · refine w_aload_n dX5_isMark_8 rfl ?_
    refine w_get (v := .int vl) fX5_159 (hw 0 _ _ rfl rfl) rfl dX5_isMark_9 ?_
    refine w_iload_n dX5_isMark_12 rfl ?_
    refine w_icmp_ne (tgt := 20) dX5_isMark_13 rfl (fun b13 => ?_) (fun b13 => ?_)
    · refine w_iconst (v := 0) dX5_isMark_20 (by decide) ?_
      refine w_zreturn rfl dX5_isMark_21 rfl (Nat.le_of_ble_eq_true rfl) (Nat.le_of_ble_eq_true rfl) ?_
      have e0 : isM kd vl x = 0 := by
        rw [isM, if_neg (fun z => b13 z.2)]
      rw [e0] at k
      exact k
    · refine w_iconst (v := 1) dX5_isMark_16 (by decide) ?_
      refine w_goto (tgt := 21) dX5_isMark_17 rfl ?_
      refine w_zreturn rfl dX5_isMark_21 rfl (Nat.le_of_ble_eq_true rfl) (Nat.le_of_ble_eq_true rfl) ?_
      have e0 : isM kd vl x = 1 := by
        rw [isM, if_pos ⟨b5, b13⟩]
      rw [e0] at k
      exact k
set_option maxRecDepth 100000 in
set_option maxHeartbeats 4000000 in
theorem c_failedAt {G : wG} {d : Nat} {h : hH} {Q : Option Value → hH → Prop} {q qt p E a b : Nat} {kd vl tk fl pl : Int32} {x y : Int32} (hw : hHas h [q] [(oC 5 [.ref qt, .ref p, .int (nI E), .int (nI a), .int kd, .int (nI b), .int vl, .int tk, .int fl, .int pl])]) (nd : [q].Nodup)  (k : Q (some (.int 0)) (hUs h [q] [(oC 5 [.ref qt, .ref p, .int (nI E), .int (nI a), .int kd, .int (nI b), .int vl, .int tk, .int x, .int y])])) : Cl G yX5_failedAt d 0 0 [.ref q, .int x, .int y] h Q := by
  refine Cl.of (ini := false) kX5_failedAt (plainFor_of_name (by decide)) (by decide) (Nat.le_of_ble_eq_true rfl) rfl rfl (fun z => by cases z) ?_
  refine w_heq (hUs_id hw).symm ?_
  refine w_aload_n dX5_failedAt_0 rfl ?_
  refine w_iload_n dX5_failedAt_1 rfl ?_
  refine w_put (fs' := [.ref qt, .ref p, .int (nI E), .int (nI a), .int kd, .int (nI b), .int vl, .int tk, .int x, .int pl]) fX5_38 (hUs_at nd 0 rfl rfl) rfl rfl (Nat.le_of_ble_eq_true rfl) rfl dX5_failedAt_2 ?_
  refine w_heq (hUs_set nd rfl 0 (cs' := [(oC 5 [.ref qt, .ref p, .int (nI E), .int (nI a), .int kd, .int (nI b), .int vl, .int tk, .int x, .int pl])]) rfl rfl) ?_
  refine w_aload_n dX5_failedAt_5 rfl ?_
  refine w_iload_n dX5_failedAt_6 rfl ?_
  refine w_put (fs' := [.ref qt, .ref p, .int (nI E), .int (nI a), .int kd, .int (nI b), .int vl, .int tk, .int x, .int y]) fX5_169 (hUs_at nd 0 rfl rfl) rfl rfl (Nat.le_of_ble_eq_true rfl) rfl dX5_failedAt_7 ?_
  refine w_heq (hUs_set nd rfl 0 (cs' := [(oC 5 [.ref qt, .ref p, .int (nI E), .int (nI a), .int kd, .int (nI b), .int vl, .int tk, .int x, .int y])]) rfl rfl) ?_
  refine w_iconst (v := 0) dX5_failedAt_10 (by decide) ?_
  refine w_zreturn rfl dX5_failedAt_11 rfl (Nat.le_of_ble_eq_true rfl) (Nat.le_of_ble_eq_true rfl) ?_
  exact k
set_option maxRecDepth 100000 in
set_option maxHeartbeats 4000000 in
theorem c_failed {G : wG} {d : Nat} {h : hH} {Q : Option Value → hH → Prop} {q qt p E a b : Nat} {kd vl tk fl pl : Int32} {x : Int32} (hw : hHas h [q] [(oC 5 [.ref qt, .ref p, .int (nI E), .int (nI a), .int kd, .int (nI b), .int vl, .int tk, .int fl, .int pl])]) (nd : [q].Nodup)  (k : Q (some (.int 0)) (hUs h [q] [(oC 5 [.ref qt, .ref p, .int (nI E), .int (nI a), .int kd, .int (nI b), .int vl, .int tk, .int x, .int (nI b)])])) : Cl G yX5_failed (d + 1) 0 0 [.ref q, .int x] h Q := by
  refine Cl.of (ini := false) kX5_failed (plainFor_of_name (by decide)) (by decide) (Nat.le_of_ble_eq_true rfl) rfl rfl (fun z => by cases z) ?_
  refine w_heq (hUs_id hw).symm ?_
  refine w_aload_n dX5_failed_0 rfl ?_
  refine w_iload_n dX5_failed_1 rfl ?_
  refine w_aload_n dX5_failed_2 rfl ?_
  refine w_get (v := .int (nI b)) fX5_112 (hUs_at nd 0 rfl rfl) rfl dX5_failed_3 ?_
  refine w_callV (ci := 5) (d' := d) (mc' := 0) (ms' := 0) (As := [.int x, .int (nI b)]) (st := []) lX5_118 vX5_failedAt rfl (hUs_at nd 0 rfl rfl) rfl (Nat.le_of_ble_eq_true rfl) dX5_failed_6 (Nat.le_of_ble_eq_true rfl) (Nat.le_of_ble_eq_true rfl) (Nat.le_refl _) (c_failedAt (hHas_sub nd (as' := [q]) (cs' := [(oC 5 [.ref qt, .ref p, .int (nI E), .int (nI a), .int kd, .int (nI b), .int vl, .int tk, .int fl, .int pl])]) [0] rfl rfl) (nd_sub nd (as' := [q]) [0] rfl rfl)  ?_)
  refine w_heq (hUs_in nd rfl [0] (cs2 := [(oC 5 [.ref qt, .ref p, .int (nI E), .int (nI a), .int kd, .int (nI b), .int vl, .int tk, .int x, .int (nI b)])]) rfl rfl) ?_
  refine w_zreturn rfl dX5_failed_9 rfl (Nat.le_of_ble_eq_true rfl) (Nat.le_of_ble_eq_true rfl) ?_
  exact k
/-- letters from a on: how many so far, their number; where they end -/
def scW (ft : Nat → Int32) (E : Nat) : Nat → Nat → Nat → Int32 → Nat × Nat × Int32
  | 0, a, c, v => (a, c, v)
  | n + 1, a, c, v => if a < E ∧ 97 ≤ ft a ∧ ft a ≤ 122 then scW ft E n (a + 1) (c + 1) (if c < 6 then v ||| ((ft a - 97 + 1) <<< (nI (5 * c) &&& 31)) else v) else (a, c, v)
def scD (ft : Nat → Int32) (E : Nat) : Nat → Nat → Nat → Int32 → Nat × Nat × Int32
  | 0, a, c, v => (a, c, v)
  | n + 1, a, c, v => if a < E ∧ 48 ≤ ft a ∧ ft a ≤ 57 then scD ft E n (a + 1) (c + 1) (if c < 4 then v * 10 + ft a - 48 else v) else (a, c, v)
def scB (ft : Nat → Int32) (E : Nat) : Nat → Nat → Nat
  | 0, a => a
  | n + 1, a => if a < E ∧ ft a = 32 then scB ft E n (a + 1) else a
set_option maxRecDepth 100000 in
set_option maxHeartbeats 4000000 in
theorem l_scanWord {G : wG} {d : Nat} {h : hH} {Q : Option Value → hH → Prop} {q qt p E b : Nat} {kd tk fl pl : Int32} {ft : Nat → Int32} (nd : [q, qt].Nodup) (hE : E ≤ 600) : ∀ (n : Nat) (a c : Nat) (v : Int32), a + n = E → a ≤ E → c ≤ a → Q none (hUs h [q, qt] [(oC 5 [.ref qt, .ref p, .int (nI E), .int (nI ((scW ft E n a c v).1)), .int (if 6 < (scW ft E n a c v).2.1 then 4 else 1), .int (nI b), .int ((scW ft E n a c v).2.2), .int tk, .int fl, .int pl]), aB 600 ft]) → WP G RX5 cX5_scanWord 2 none false d 0 0 0 0 Q 7 [some (.ref q), some (.int (nI c))] [] (hUs h [q, qt] [(oC 5 [.ref qt, .ref p, .int (nI E), .int (nI a), .int kd, .int (nI b), .int v, .int tk, .int fl, .int pl]), (aB 600 ft)]) := by
  intro n
  induction n with
  | zero =>
    intro a c v hi ha hca k
    refine w_aload_n dX5_scanWord_7 rfl ?_
    refine w_get (v := .int (nI a)) fX5_35 (hUs_at nd 0 rfl rfl) rfl dX5_scanWord_8 ?_
    refine w_aload_n dX5_scanWord_11 rfl ?_
    refine w_get (v := .int (nI E)) fX5_31 (hUs_at nd 0 rfl rfl) rfl dX5_scanWord_12 ?_
    refine w_icmp_ge_t (tgt := 95) dX5_scanWord_15 rfl ((nI_leI (a := E) (b := a) (by omega) (by omega)).mpr (by omega)) ?_
    refine w_aload_n dX5_scanWord_95 rfl ?_
    refine w_iload_n dX5_scanWord_96 rfl ?_
    refine w_bipush (v := 6) dX5_scanWord_97 (by decide) ?_
    refine w_icmp_le (tgt := 106) dX5_scanWord_99 rfl (fun b99 => ?_) (fun b99 => ?_)
    · have b99 := (nI_leI (a := c) (b := 6) (by omega) (by omega)).mp b99
      refine w_iconst (v := 1) dX5_scanWord_106 (by decide) ?_
      refine w_put (fs' := [.ref qt, .ref p, .int (nI E), .int (nI a), .int 1, .int (nI b), .int v, .int tk, .int fl, .int pl]) fX5_63 (hUs_at nd 0 rfl rfl) rfl rfl (Nat.le_of_ble_eq_true rfl) rfl dX5_scanWord_107 ?_
      refine w_heq (hUs_set nd rfl 0 (cs' := [(oC 5 [.ref qt, .ref p, .int (nI E), .int (nI a), .int 1, .int (nI b), .int v, .int tk, .int fl, .int pl]), (aB 600 ft)]) rfl rfl) ?_
      refine w_return rfl dX5_scanWord_110 (Nat.le_of_ble_eq_true rfl) (Nat.le_of_ble_eq_true rfl) ?_
      have e : scW ft E 0 a c v = (a, c, v) := rfl
      rw [e] at k
      simp only [if_neg (show ¬ 6 < c by omega)] at k
      exact k
    · have b99 : ¬ c ≤ 6 := fun z => b99 ((nI_leI (a := c) (b := 6) (by omega) (by omega)).mpr z)
      refine w_iconst (v := 4) dX5_scanWord_102 (by decide) ?_
      refine w_goto (tgt := 107) dX5_scanWord_103 rfl ?_
      refine w_put (fs' := [.ref qt, .ref p, .int (nI E), .int (nI a), .int 4, .int (nI b), .int v, .int tk, .int fl, .int pl]) fX5_63 (hUs_at nd 0 rfl rfl) rfl rfl (Nat.le_of_ble_eq_true rfl) rfl dX5_scanWord_107 ?_
      refine w_heq (hUs_set nd rfl 0 (cs' := [(oC 5 [.ref qt, .ref p, .int (nI E), .int (nI a), .int 4, .int (nI b), .int v, .int tk, .int fl, .int pl]), (aB 600 ft)]) rfl rfl) ?_
      refine w_return rfl dX5_scanWord_110 (Nat.le_of_ble_eq_true rfl) (Nat.le_of_ble_eq_true rfl) ?_
      have e : scW ft E 0 a c v = (a, c, v) := rfl
      rw [e] at k
      simp only [if_pos (show 6 < c by omega)] at k
      exact k
  | succ n ih =>
    intro a c v hi ha hca k
    refine w_aload_n dX5_scanWord_7 rfl ?_
    refine w_get (v := .int (nI a)) fX5_35 (hUs_at nd 0 rfl rfl) rfl dX5_scanWord_8 ?_
    refine w_aload_n dX5_scanWord_11 rfl ?_
    refine w_get (v := .int (nI E)) fX5_31 (hUs_at nd 0 rfl rfl) rfl dX5_scanWord_12 ?_
    refine w_icmp_ge_f (tgt := 95) dX5_scanWord_15 rfl (fun z => absurd ((nI_leI (a := E) (b := a) (by omega) (by omega)).mp z) (by omega)) ?_
    refine w_aload_n dX5_scanWord_18 rfl ?_
    refine w_get (v := .ref qt) fX5_9 (hUs_at nd 0 rfl rfl) rfl dX5_scanWord_19 ?_
    refine w_aload_n dX5_scanWord_22 rfl ?_
    refine w_get (v := .int (nI a)) fX5_35 (hUs_at nd 0 rfl rfl) rfl dX5_scanWord_23 ?_
    refine w_baloadN (hUs_at nd 1 rfl rfl) (by omega) (by omega) dX5_scanWord_26 ?_
    refine w_bipush (v := 97) dX5_scanWord_27 (by decide) ?_
    refine w_icmp_lt (tgt := 95) dX5_scanWord_29 rfl (fun b29 => ?_) (fun b29 => ?_)
    · refine w_aload_n dX5_scanWord_95 rfl ?_
      refine w_iload_n dX5_scanWord_96 rfl ?_
      refine w_bipush (v := 6) dX5_scanWord_97 (by decide) ?_
      refine w_icmp_le (tgt := 106) dX5_scanWord_99 rfl (fun b99 => ?_) (fun b99 => ?_)
      · have b99 := (nI_leI (a := c) (b := 6) (by omega) (by omega)).mp b99
        refine w_iconst (v := 1) dX5_scanWord_106 (by decide) ?_
        refine w_put (fs' := [.ref qt, .ref p, .int (nI E), .int (nI a), .int 1, .int (nI b), .int v, .int tk, .int fl, .int pl]) fX5_63 (hUs_at nd 0 rfl rfl) rfl rfl (Nat.le_of_ble_eq_true rfl) rfl dX5_scanWord_107 ?_
        refine w_heq (hUs_set nd rfl 0 (cs' := [(oC 5 [.ref qt, .ref p, .int (nI E), .int (nI a), .int 1, .int (nI b), .int v, .int tk, .int fl, .int pl]), (aB 600 ft)]) rfl rfl) ?_
        refine w_return rfl dX5_scanWord_110 (Nat.le_of_ble_eq_true rfl) (Nat.le_of_ble_eq_true rfl) ?_
        have e : scW ft E (n + 1) a c v = (a, c, v) := by
          rw [scW, if_neg (fun z => absurd z.2.1 (by simpa using b29))]
        rw [e] at k
        simp only [if_neg (show ¬ 6 < c by omega)] at k
        exact k
      · have b99 : ¬ c ≤ 6 := fun z => b99 ((nI_leI (a := c) (b := 6) (by omega) (by omega)).mpr z)
        refine w_iconst (v := 4) dX5_scanWord_102 (by decide) ?_
        refine w_goto (tgt := 107) dX5_scanWord_103 rfl ?_
        refine w_put (fs' := [.ref qt, .ref p, .int (nI E), .int (nI a), .int 4, .int (nI b), .int v, .int tk, .int fl, .int pl]) fX5_63 (hUs_at nd 0 rfl rfl) rfl rfl (Nat.le_of_ble_eq_true rfl) rfl dX5_scanWord_107 ?_
        refine w_heq (hUs_set nd rfl 0 (cs' := [(oC 5 [.ref qt, .ref p, .int (nI E), .int (nI a), .int 4, .int (nI b), .int v, .int tk, .int fl, .int pl]), (aB 600 ft)]) rfl rfl) ?_
        refine w_return rfl dX5_scanWord_110 (Nat.le_of_ble_eq_true rfl) (Nat.le_of_ble_eq_true rfl) ?_
        have e : scW ft E (n + 1) a c v = (a, c, v) := by
          rw [scW, if_neg (fun z => absurd z.2.1 (by simpa using b29))]
        rw [e] at k
        simp only [if_pos (show 6 < c by omega)] at k
        exact k
    · refine w_aload_n dX5_scanWord_32 rfl ?_
      refine w_get (v := .ref qt) fX5_9 (hUs_at nd 0 rfl rfl) rfl dX5_scanWord_33 ?_
      refine w_aload_n dX5_scanWord_36 rfl ?_
      refine w_get (v := .int (nI a)) fX5_35 (hUs_at nd 0 rfl rfl) rfl dX5_scanWord_37 ?_
      refine w_baloadN (hUs_at nd 1 rfl rfl) (by omega) (by omega) dX5_scanWord_40 ?_
      refine w_bipush (v := 122) dX5_scanWord_41 (by decide) ?_
      refine w_icmp_gt (tgt := 95) dX5_scanWord_43 rfl (fun b43 => ?_) (fun b43 => ?_)
      · refine w_aload_n dX5_scanWord_95 rfl ?_
        refine w_iload_n dX5_scanWord_96 rfl ?_
        refine w_bipush (v := 6) dX5_scanWord_97 (by decide) ?_
        refine w_icmp_le (tgt := 106) dX5_scanWord_99 rfl (fun b99 => ?_) (fun b99 => ?_)
        · have b99 := (nI_leI (a := c) (b := 6) (by omega) (by omega)).mp b99
          refine w_iconst (v := 1) dX5_scanWord_106 (by decide) ?_
          refine w_put (fs' := [.ref qt, .ref p, .int (nI E), .int (nI a), .int 1, .int (nI b), .int v, .int tk, .int fl, .int pl]) fX5_63 (hUs_at nd 0 rfl rfl) rfl rfl (Nat.le_of_ble_eq_true rfl) rfl dX5_scanWord_107 ?_
          refine w_heq (hUs_set nd rfl 0 (cs' := [(oC 5 [.ref qt, .ref p, .int (nI E), .int (nI a), .int 1, .int (nI b), .int v, .int tk, .int fl, .int pl]), (aB 600 ft)]) rfl rfl) ?_
          refine w_return rfl dX5_scanWord_110 (Nat.le_of_ble_eq_true rfl) (Nat.le_of_ble_eq_true rfl) ?_
          have e : scW ft E (n + 1) a c v = (a, c, v) := by
            rw [scW, if_neg (fun z => absurd z.2.2 (by simpa using b43))]
          rw [e] at k
          simp only [if_neg (show ¬ 6 < c by omega)] at k
          exact k
        · have b99 : ¬ c ≤ 6 := fun z => b99 ((nI_leI (a := c) (b := 6) (by omega) (by omega)).mpr z)
          refine w_iconst (v := 4) dX5_scanWord_102 (by decide) ?_
          refine w_goto (tgt := 107) dX5_scanWord_103 rfl ?_
          refine w_put (fs' := [.ref qt, .ref p, .int (nI E), .int (nI a), .int 4, .int (nI b), .int v, .int tk, .int fl, .int pl]) fX5_63 (hUs_at nd 0 rfl rfl) rfl rfl (Nat.le_of_ble_eq_true rfl) rfl dX5_scanWord_107 ?_
          refine w_heq (hUs_set nd rfl 0 (cs' := [(oC 5 [.ref qt, .ref p, .int (nI E), .int (nI a), .int 4, .int (nI b), .int v, .int tk, .int fl, .int pl]), (aB 600 ft)]) rfl rfl) ?_
          refine w_return rfl dX5_scanWord_110 (Nat.le_of_ble_eq_true rfl) (Nat.le_of_ble_eq_true rfl) ?_
          have e : scW ft E (n + 1) a c v = (a, c, v) := by
            rw [scW, if_neg (fun z => absurd z.2.2 (by simpa using b43))]
          rw [e] at k
          simp only [if_pos (show 6 < c by omega)] at k
          exact k
      · refine w_iload_n dX5_scanWord_46 rfl ?_
        refine w_bipush (v := 6) dX5_scanWord_47 (by decide) ?_
        refine w_icmp_ge (tgt := 79) dX5_scanWord_49 rfl (fun b49 => ?_) (fun b49 => ?_)
        · have b49 := (nI_leI (a := 6) (b := c) (by omega) (by omega)).mp b49
          refine w_iinc (v := nI (c + 1)) (ls2 := [some (.ref q), some (.int (nI (c + 1)))]) dX5_scanWord_79 rfl (nI_1 _) (by decide) rfl rfl ?_
          refine w_aload_n dX5_scanWord_82 rfl ?_
          refine w_dup dX5_scanWord_83 rfl ?_
          refine w_get (v := .int (nI a)) fX5_35 (hUs_at nd 0 rfl rfl) rfl dX5_scanWord_84 ?_
          refine w_iconst (v := 1) dX5_scanWord_87 (by decide) ?_
          refine w_iaddE (z := nI (a + 1)) dX5_scanWord_88 (nI_add (a) (1)) ?_
          refine w_put (fs' := [.ref qt, .ref p, .int (nI E), .int (nI (a + 1)), .int kd, .int (nI b), .int v, .int tk, .int fl, .int pl]) fX5_35 (hUs_at nd 0 rfl rfl) rfl rfl (Nat.le_of_ble_eq_true rfl) rfl dX5_scanWord_89 ?_
          refine w_heq (hUs_set nd rfl 0 (cs' := [(oC 5 [.ref qt, .ref p, .int (nI E), .int (nI (a + 1)), .int kd, .int (nI b), .int v, .int tk, .int fl, .int pl]), (aB 600 ft)]) rfl rfl) ?_
          refine w_goto (tgt := 7) dX5_scanWord_92 rfl ?_
          have e := (show scW ft E (n + 1) a c v = scW ft E n (a + 1) (c + 1) _ by rw [scW, if_pos ⟨by omega, by simpa using b29, by simpa using b43⟩, if_neg (show ¬ c < 6 by omega)])
          rw [e] at k
          exact ih (a + 1) (c + 1) _ (by omega) (by omega) (by omega) k
        · have b49 : ¬ 6 ≤ c := fun z => b49 ((nI_leI (a := 6) (b := c) (by omega) (by omega)).mpr z)
          refine w_aload_n dX5_scanWord_52 rfl ?_
          refine w_dup dX5_scanWord_53 rfl ?_
          refine w_get (v := .int v) fX5_159 (hUs_at nd 0 rfl rfl) rfl dX5_scanWord_54 ?_
          refine w_aload_n dX5_scanWord_57 rfl ?_
          refine w_get (v := .ref qt) fX5_9 (hUs_at nd 0 rfl rfl) rfl dX5_scanWord_58 ?_
          refine w_aload_n dX5_scanWord_61 rfl ?_
          refine w_get (v := .int (nI a)) fX5_35 (hUs_at nd 0 rfl rfl) rfl dX5_scanWord_62 ?_
          refine w_baloadN (hUs_at nd 1 rfl rfl) (by omega) (by omega) dX5_scanWord_65 ?_
          refine w_bipush (v := 97) dX5_scanWord_66 (by decide) ?_
          refine w_isub dX5_scanWord_68 ?_
          refine w_iconst (v := 1) dX5_scanWord_69 (by decide) ?_
          refine w_iadd dX5_scanWord_70 ?_
          refine w_iconst (v := 5) dX5_scanWord_71 (by decide) ?_
          refine w_iload_n dX5_scanWord_72 rfl ?_
          refine w_imulE (z := nI (5 * c)) dX5_scanWord_73 (pk_mul (5) (c)) ?_
          refine w_ishl dX5_scanWord_74 ?_
          refine w_ior dX5_scanWord_75 ?_
          refine w_put (fs' := [.ref qt, .ref p, .int (nI E), .int (nI a), .int kd, .int (nI b), .int (v ||| ((((ft a) - 97) + 1) <<< ((nI (5 * c)) &&& 31))), .int tk, .int fl, .int pl]) fX5_159 (hUs_at nd 0 rfl rfl) rfl rfl (Nat.le_of_ble_eq_true rfl) rfl dX5_scanWord_76 ?_
          refine w_heq (hUs_set nd rfl 0 (cs' := [(oC 5 [.ref qt, .ref p, .int (nI E), .int (nI a), .int kd, .int (nI b), .int (v ||| ((((ft a) - 97) + 1) <<< ((nI (5 * c)) &&& 31))), .int tk, .int fl, .int pl]), (aB 600 ft)]) rfl rfl) ?_
          refine w_iinc (v := nI (c + 1)) (ls2 := [some (.ref q), some (.int (nI (c + 1)))]) dX5_scanWord_79 rfl (nI_1 _) (by decide) rfl rfl ?_
          refine w_aload_n dX5_scanWord_82 rfl ?_
          refine w_dup dX5_scanWord_83 rfl ?_
          refine w_get (v := .int (nI a)) fX5_35 (hUs_at nd 0 rfl rfl) rfl dX5_scanWord_84 ?_
          refine w_iconst (v := 1) dX5_scanWord_87 (by decide) ?_
          refine w_iaddE (z := nI (a + 1)) dX5_scanWord_88 (nI_add (a) (1)) ?_
          refine w_put (fs' := [.ref qt, .ref p, .int (nI E), .int (nI (a + 1)), .int kd, .int (nI b), .int (v ||| ((((ft a) - 97) + 1) <<< ((nI (5 * c)) &&& 31))), .int tk, .int fl, .int pl]) fX5_35 (hUs_at nd 0 rfl rfl) rfl rfl (Nat.le_of_ble_eq_true rfl) rfl dX5_scanWord_89 ?_
          refine w_heq (hUs_set nd rfl 0 (cs' := [(oC 5 [.ref qt, .ref p, .int (nI E), .int (nI (a + 1)), .int kd, .int (nI b), .int (v ||| ((((ft a) - 97) + 1) <<< ((nI (5 * c)) &&& 31))), .int tk, .int fl, .int pl]), (aB 600 ft)]) rfl rfl) ?_
          refine w_goto (tgt := 7) dX5_scanWord_92 rfl ?_
          have e := (show scW ft E (n + 1) a c v = scW ft E n (a + 1) (c + 1) _ by rw [scW, if_pos ⟨by omega, by simpa using b29, by simpa using b43⟩, if_pos (show c < 6 by omega)])
          rw [e] at k
          exact ih (a + 1) (c + 1) _ (by omega) (by omega) (by omega) k
set_option maxRecDepth 100000 in
set_option maxHeartbeats 4000000 in
theorem c_scanWord {G : wG} {d : Nat} {h : hH} {Q : Option Value → hH → Prop} {q qt p E a b : Nat} {kd vl tk fl pl : Int32} {ft : Nat → Int32} (hw : hHas h [q, qt] [(oC 5 [.ref qt, .ref p, .int (nI E), .int (nI a), .int kd, .int (nI b), .int vl, .int tk, .int fl, .int pl]), (aB 600 ft)]) (nd : [q, qt].Nodup) (hE : E ≤ 600) (ha : a ≤ E) (k : Q none (hUs h [q, qt] [(oC 5 [.ref qt, .ref p, .int (nI E), .int (nI ((scW ft E (E - a) a 0 0).1)), .int (if 6 < (scW ft E (E - a) a 0 0).2.1 then 4 else 1), .int (nI b), .int ((scW ft E (E - a) a 0 0).2.2), .int tk, .int fl, .int pl]), aB 600 ft])) : Cl G yX5_scanWord d 0 0 [.ref q] h Q := by
  refine Cl.of (ini := false) kX5_scanWord (plainFor_of_name (by decide)) (by decide) (Nat.le_of_ble_eq_true rfl) rfl rfl (fun z => by cases z) ?_
  refine w_heq (hUs_id hw).symm ?_
  refine w_iconst (v := (nI 0)) dX5_scanWord_0 (by decide) ?_
  refine w_istore_n (ls2 := [some (.ref q), some (.int (nI 0))]) dX5_scanWord_1 (by decide) rfl rfl ?_
  refine w_aload_n dX5_scanWord_2 rfl ?_
  refine w_iconst (v := 0) dX5_scanWord_3 (by decide) ?_
  refine w_put (fs' := [.ref qt, .ref p, .int (nI E), .int (nI a), .int kd, .int (nI b), .int 0, .int tk, .int fl, .int pl]) fX5_159 (hUs_at nd 0 rfl rfl) rfl rfl (Nat.le_of_ble_eq_true rfl) rfl dX5_scanWord_4 ?_
  refine w_heq (hUs_set nd rfl 0 (cs' := [(oC 5 [.ref qt, .ref p, .int (nI E), .int (nI a), .int kd, .int (nI b), .int 0, .int tk, .int fl, .int pl]), (aB 600 ft)]) rfl rfl) ?_
  exact l_scanWord nd hE (E - a) a 0 0 (by omega) ha (by omega) k
set_option maxRecDepth 100000 in
set_option maxHeartbeats 4000000 in
theorem l_scanWhole {G : wG} {d : Nat} {h : hH} {Q : Option Value → hH → Prop} {q qt p E b : Nat} {kd tk fl pl : Int32} {ft : Nat → Int32} (nd : [q, qt].Nodup) (hE : E ≤ 600) : ∀ (n : Nat) (a c : Nat) (v : Int32), a + n = E → a ≤ E → c ≤ a → Q none (hUs h [q, qt] [(oC 5 [.ref qt, .ref p, .int (nI E), .int (nI ((scD ft E n a c v).1)), .int (if 4 < (scD ft E n a c v).2.1 then 4 else 2), .int (nI b), .int ((scD ft E n a c v).2.2), .int tk, .int fl, .int pl]), aB 600 ft]) → WP G RX5 cX5_scanWhole 2 none false d 0 0 0 0 Q 7 [some (.ref q), some (.int (nI c))] [] (hUs h [q, qt] [(oC 5 [.ref qt, .ref p, .int (nI E), .int (nI a), .int kd, .int (nI b), .int v, .int tk, .int fl, .int pl]), (aB 600 ft)]) := by
  intro n
  induction n with
  | zero =>
    intro a c v hi ha hca k
    refine w_aload_n dX5_scanWhole_7 rfl ?_
    refine w_get (v := .int (nI a)) fX5_35 (hUs_at nd 0 rfl rfl) rfl dX5_scanWhole_8 ?_
    refine w_aload_n dX5_scanWhole_11 rfl ?_
    refine w_get (v := .int (nI E)) fX5_31 (hUs_at nd 0 rfl rfl) rfl dX5_scanWhole_12 ?_
    refine w_icmp_ge_t (tgt := 91) dX5_scanWhole_15 rfl ((nI_leI (a := E) (b := a) (by omega) (by omega)).mpr (by omega)) ?_
    refine w_aload_n dX5_scanWhole_91 rfl ?_
    refine w_iload_n dX5_scanWhole_92 rfl ?_
    refine w_iconst (v := 4) dX5_scanWhole_93 (by decide) ?_
    refine w_icmp_le (tgt := 101) dX5_scanWhole_94 rfl (fun b94 => ?_) (fun b94 => ?_)
    · have b94 := (nI_leI (a := c) (b := 4) (by omega) (by omega)).mp b94
      refine w_iconst (v := 2) dX5_scanWhole_101 (by decide) ?_
      refine w_put (fs' := [.ref qt, .ref p, .int (nI E), .int (nI a), .int 2, .int (nI b), .int v, .int tk, .int fl, .int pl]) fX5_63 (hUs_at nd 0 rfl rfl) rfl rfl (Nat.le_of_ble_eq_true rfl) rfl dX5_scanWhole_102 ?_
      refine w_heq (hUs_set nd rfl 0 (cs' := [(oC 5 [.ref qt, .ref p, .int (nI E), .int (nI a), .int 2, .int (nI b), .int v, .int tk, .int fl, .int pl]), (aB 600 ft)]) rfl rfl) ?_
      refine w_return rfl dX5_scanWhole_105 (Nat.le_of_ble_eq_true rfl) (Nat.le_of_ble_eq_true rfl) ?_
      have e : scD ft E 0 a c v = (a, c, v) := rfl
      rw [e] at k
      simp only [if_neg (show ¬ 4 < c by omega)] at k
      exact k
    · have b94 : ¬ c ≤ 4 := fun z => b94 ((nI_leI (a := c) (b := 4) (by omega) (by omega)).mpr z)
      refine w_iconst (v := 4) dX5_scanWhole_97 (by decide) ?_
      refine w_goto (tgt := 102) dX5_scanWhole_98 rfl ?_
      refine w_put (fs' := [.ref qt, .ref p, .int (nI E), .int (nI a), .int 4, .int (nI b), .int v, .int tk, .int fl, .int pl]) fX5_63 (hUs_at nd 0 rfl rfl) rfl rfl (Nat.le_of_ble_eq_true rfl) rfl dX5_scanWhole_102 ?_
      refine w_heq (hUs_set nd rfl 0 (cs' := [(oC 5 [.ref qt, .ref p, .int (nI E), .int (nI a), .int 4, .int (nI b), .int v, .int tk, .int fl, .int pl]), (aB 600 ft)]) rfl rfl) ?_
      refine w_return rfl dX5_scanWhole_105 (Nat.le_of_ble_eq_true rfl) (Nat.le_of_ble_eq_true rfl) ?_
      have e : scD ft E 0 a c v = (a, c, v) := rfl
      rw [e] at k
      simp only [if_pos (show 4 < c by omega)] at k
      exact k
  | succ n ih =>
    intro a c v hi ha hca k
    refine w_aload_n dX5_scanWhole_7 rfl ?_
    refine w_get (v := .int (nI a)) fX5_35 (hUs_at nd 0 rfl rfl) rfl dX5_scanWhole_8 ?_
    refine w_aload_n dX5_scanWhole_11 rfl ?_
    refine w_get (v := .int (nI E)) fX5_31 (hUs_at nd 0 rfl rfl) rfl dX5_scanWhole_12 ?_
    refine w_icmp_ge_f (tgt := 91) dX5_scanWhole_15 rfl (fun z => absurd ((nI_leI (a := E) (b := a) (by omega) (by omega)).mp z) (by omega)) ?_
    refine w_aload_n dX5_scanWhole_18 rfl ?_
    refine w_get (v := .ref qt) fX5_9 (hUs_at nd 0 rfl rfl) rfl dX5_scanWhole_19 ?_
    refine w_aload_n dX5_scanWhole_22 rfl ?_
    refine w_get (v := .int (nI a)) fX5_35 (hUs_at nd 0 rfl rfl) rfl dX5_scanWhole_23 ?_
    refine w_baloadN (hUs_at nd 1 rfl rfl) (by omega) (by omega) dX5_scanWhole_26 ?_
    refine w_bipush (v := 48) dX5_scanWhole_27 (by decide) ?_
    refine w_icmp_lt (tgt := 91) dX5_scanWhole_29 rfl (fun b29 => ?_) (fun b29 => ?_)
    · refine w_aload_n dX5_scanWhole_91 rfl ?_
      refine w_iload_n dX5_scanWhole_92 rfl ?_
      refine w_iconst (v := 4) dX5_scanWhole_93 (by decide) ?_
      refine w_icmp_le (tgt := 101) dX5_scanWhole_94 rfl (fun b94 => ?_) (fun b94 => ?_)
      · have b94 := (nI_leI (a := c) (b := 4) (by omega) (by omega)).mp b94
        refine w_iconst (v := 2) dX5_scanWhole_101 (by decide) ?_
        refine w_put (fs' := [.ref qt, .ref p, .int (nI E), .int (nI a), .int 2, .int (nI b), .int v, .int tk, .int fl, .int pl]) fX5_63 (hUs_at nd 0 rfl rfl) rfl rfl (Nat.le_of_ble_eq_true rfl) rfl dX5_scanWhole_102 ?_
        refine w_heq (hUs_set nd rfl 0 (cs' := [(oC 5 [.ref qt, .ref p, .int (nI E), .int (nI a), .int 2, .int (nI b), .int v, .int tk, .int fl, .int pl]), (aB 600 ft)]) rfl rfl) ?_
        refine w_return rfl dX5_scanWhole_105 (Nat.le_of_ble_eq_true rfl) (Nat.le_of_ble_eq_true rfl) ?_
        have e : scD ft E (n + 1) a c v = (a, c, v) := by
          rw [scD, if_neg (fun z => absurd z.2.1 (by simpa using b29))]
        rw [e] at k
        simp only [if_neg (show ¬ 4 < c by omega)] at k
        exact k
      · have b94 : ¬ c ≤ 4 := fun z => b94 ((nI_leI (a := c) (b := 4) (by omega) (by omega)).mpr z)
        refine w_iconst (v := 4) dX5_scanWhole_97 (by decide) ?_
        refine w_goto (tgt := 102) dX5_scanWhole_98 rfl ?_
        refine w_put (fs' := [.ref qt, .ref p, .int (nI E), .int (nI a), .int 4, .int (nI b), .int v, .int tk, .int fl, .int pl]) fX5_63 (hUs_at nd 0 rfl rfl) rfl rfl (Nat.le_of_ble_eq_true rfl) rfl dX5_scanWhole_102 ?_
        refine w_heq (hUs_set nd rfl 0 (cs' := [(oC 5 [.ref qt, .ref p, .int (nI E), .int (nI a), .int 4, .int (nI b), .int v, .int tk, .int fl, .int pl]), (aB 600 ft)]) rfl rfl) ?_
        refine w_return rfl dX5_scanWhole_105 (Nat.le_of_ble_eq_true rfl) (Nat.le_of_ble_eq_true rfl) ?_
        have e : scD ft E (n + 1) a c v = (a, c, v) := by
          rw [scD, if_neg (fun z => absurd z.2.1 (by simpa using b29))]
        rw [e] at k
        simp only [if_pos (show 4 < c by omega)] at k
        exact k
    · refine w_aload_n dX5_scanWhole_32 rfl ?_
      refine w_get (v := .ref qt) fX5_9 (hUs_at nd 0 rfl rfl) rfl dX5_scanWhole_33 ?_
      refine w_aload_n dX5_scanWhole_36 rfl ?_
      refine w_get (v := .int (nI a)) fX5_35 (hUs_at nd 0 rfl rfl) rfl dX5_scanWhole_37 ?_
      refine w_baloadN (hUs_at nd 1 rfl rfl) (by omega) (by omega) dX5_scanWhole_40 ?_
      refine w_bipush (v := 57) dX5_scanWhole_41 (by decide) ?_
      refine w_icmp_gt (tgt := 91) dX5_scanWhole_43 rfl (fun b43 => ?_) (fun b43 => ?_)
      · refine w_aload_n dX5_scanWhole_91 rfl ?_
        refine w_iload_n dX5_scanWhole_92 rfl ?_
        refine w_iconst (v := 4) dX5_scanWhole_93 (by decide) ?_
        refine w_icmp_le (tgt := 101) dX5_scanWhole_94 rfl (fun b94 => ?_) (fun b94 => ?_)
        · have b94 := (nI_leI (a := c) (b := 4) (by omega) (by omega)).mp b94
          refine w_iconst (v := 2) dX5_scanWhole_101 (by decide) ?_
          refine w_put (fs' := [.ref qt, .ref p, .int (nI E), .int (nI a), .int 2, .int (nI b), .int v, .int tk, .int fl, .int pl]) fX5_63 (hUs_at nd 0 rfl rfl) rfl rfl (Nat.le_of_ble_eq_true rfl) rfl dX5_scanWhole_102 ?_
          refine w_heq (hUs_set nd rfl 0 (cs' := [(oC 5 [.ref qt, .ref p, .int (nI E), .int (nI a), .int 2, .int (nI b), .int v, .int tk, .int fl, .int pl]), (aB 600 ft)]) rfl rfl) ?_
          refine w_return rfl dX5_scanWhole_105 (Nat.le_of_ble_eq_true rfl) (Nat.le_of_ble_eq_true rfl) ?_
          have e : scD ft E (n + 1) a c v = (a, c, v) := by
            rw [scD, if_neg (fun z => absurd z.2.2 (by simpa using b43))]
          rw [e] at k
          simp only [if_neg (show ¬ 4 < c by omega)] at k
          exact k
        · have b94 : ¬ c ≤ 4 := fun z => b94 ((nI_leI (a := c) (b := 4) (by omega) (by omega)).mpr z)
          refine w_iconst (v := 4) dX5_scanWhole_97 (by decide) ?_
          refine w_goto (tgt := 102) dX5_scanWhole_98 rfl ?_
          refine w_put (fs' := [.ref qt, .ref p, .int (nI E), .int (nI a), .int 4, .int (nI b), .int v, .int tk, .int fl, .int pl]) fX5_63 (hUs_at nd 0 rfl rfl) rfl rfl (Nat.le_of_ble_eq_true rfl) rfl dX5_scanWhole_102 ?_
          refine w_heq (hUs_set nd rfl 0 (cs' := [(oC 5 [.ref qt, .ref p, .int (nI E), .int (nI a), .int 4, .int (nI b), .int v, .int tk, .int fl, .int pl]), (aB 600 ft)]) rfl rfl) ?_
          refine w_return rfl dX5_scanWhole_105 (Nat.le_of_ble_eq_true rfl) (Nat.le_of_ble_eq_true rfl) ?_
          have e : scD ft E (n + 1) a c v = (a, c, v) := by
            rw [scD, if_neg (fun z => absurd z.2.2 (by simpa using b43))]
          rw [e] at k
          simp only [if_pos (show 4 < c by omega)] at k
          exact k
      · refine w_iload_n dX5_scanWhole_46 rfl ?_
        refine w_iconst (v := 4) dX5_scanWhole_47 (by decide) ?_
        refine w_icmp_ge (tgt := 75) dX5_scanWhole_48 rfl (fun b48 => ?_) (fun b48 => ?_)
        · have b48 := (nI_leI (a := 4) (b := c) (by omega) (by omega)).mp b48
          refine w_iinc (v := nI (c + 1)) (ls2 := [some (.ref q), some (.int (nI (c + 1)))]) dX5_scanWhole_75 rfl (nI_1 _) (by decide) rfl rfl ?_
          refine w_aload_n dX5_scanWhole_78 rfl ?_
          refine w_dup dX5_scanWhole_79 rfl ?_
          refine w_get (v := .int (nI a)) fX5_35 (hUs_at nd 0 rfl rfl) rfl dX5_scanWhole_80 ?_
          refine w_iconst (v := 1) dX5_scanWhole_83 (by decide) ?_
          refine w_iaddE (z := nI (a + 1)) dX5_scanWhole_84 (nI_add (a) (1)) ?_
          refine w_put (fs' := [.ref qt, .ref p, .int (nI E), .int (nI (a + 1)), .int kd, .int (nI b), .int v, .int tk, .int fl, .int pl]) fX5_35 (hUs_at nd 0 rfl rfl) rfl rfl (Nat.le_of_ble_eq_true rfl) rfl dX5_scanWhole_85 ?_
          refine w_heq (hUs_set nd rfl 0 (cs' := [(oC 5 [.ref qt, .ref p, .int (nI E), .int (nI (a + 1)), .int kd, .int (nI b), .int v, .int tk, .int fl, .int pl]), (aB 600 ft)]) rfl rfl) ?_
          refine w_goto (tgt := 7) dX5_scanWhole_88 rfl ?_
          have e := (show scD ft E (n + 1) a c v = scD ft E n (a + 1) (c + 1) _ by rw [scD, if_pos ⟨by omega, by simpa using b29, by simpa using b43⟩, if_neg (show ¬ c < 4 by omega)])
          rw [e] at k
          exact ih (a + 1) (c + 1) _ (by omega) (by omega) (by omega) k
        · have b48 : ¬ 4 ≤ c := fun z => b48 ((nI_leI (a := 4) (b := c) (by omega) (by omega)).mpr z)
          refine w_aload_n dX5_scanWhole_51 rfl ?_
          refine w_aload_n dX5_scanWhole_52 rfl ?_
          refine w_get (v := .int v) fX5_159 (hUs_at nd 0 rfl rfl) rfl dX5_scanWhole_53 ?_
          refine w_bipush (v := 10) dX5_scanWhole_56 (by decide) ?_
          refine w_imul dX5_scanWhole_58 ?_
          refine w_aload_n dX5_scanWhole_59 rfl ?_
          refine w_get (v := .ref qt) fX5_9 (hUs_at nd 0 rfl rfl) rfl dX5_scanWhole_60 ?_
          refine w_aload_n dX5_scanWhole_63 rfl ?_
          refine w_get (v := .int (nI a)) fX5_35 (hUs_at nd 0 rfl rfl) rfl dX5_scanWhole_64 ?_
          refine w_baloadN (hUs_at nd 1 rfl rfl) (by omega) (by omega) dX5_scanWhole_67 ?_
          refine w_iadd dX5_scanWhole_68 ?_
          refine w_bipush (v := 48) dX5_scanWhole_69 (by decide) ?_
          refine w_isub dX5_scanWhole_71 ?_
          refine w_put (fs' := [.ref qt, .ref p, .int (nI E), .int (nI a), .int kd, .int (nI b), .int (((v * 10) + (ft a)) - 48), .int tk, .int fl, .int pl]) fX5_159 (hUs_at nd 0 rfl rfl) rfl rfl (Nat.le_of_ble_eq_true rfl) rfl dX5_scanWhole_72 ?_
          refine w_heq (hUs_set nd rfl 0 (cs' := [(oC 5 [.ref qt, .ref p, .int (nI E), .int (nI a), .int kd, .int (nI b), .int (((v * 10) + (ft a)) - 48), .int tk, .int fl, .int pl]), (aB 600 ft)]) rfl rfl) ?_
          refine w_iinc (v := nI (c + 1)) (ls2 := [some (.ref q), some (.int (nI (c + 1)))]) dX5_scanWhole_75 rfl (nI_1 _) (by decide) rfl rfl ?_
          refine w_aload_n dX5_scanWhole_78 rfl ?_
          refine w_dup dX5_scanWhole_79 rfl ?_
          refine w_get (v := .int (nI a)) fX5_35 (hUs_at nd 0 rfl rfl) rfl dX5_scanWhole_80 ?_
          refine w_iconst (v := 1) dX5_scanWhole_83 (by decide) ?_
          refine w_iaddE (z := nI (a + 1)) dX5_scanWhole_84 (nI_add (a) (1)) ?_
          refine w_put (fs' := [.ref qt, .ref p, .int (nI E), .int (nI (a + 1)), .int kd, .int (nI b), .int (((v * 10) + (ft a)) - 48), .int tk, .int fl, .int pl]) fX5_35 (hUs_at nd 0 rfl rfl) rfl rfl (Nat.le_of_ble_eq_true rfl) rfl dX5_scanWhole_85 ?_
          refine w_heq (hUs_set nd rfl 0 (cs' := [(oC 5 [.ref qt, .ref p, .int (nI E), .int (nI (a + 1)), .int kd, .int (nI b), .int (((v * 10) + (ft a)) - 48), .int tk, .int fl, .int pl]), (aB 600 ft)]) rfl rfl) ?_
          refine w_goto (tgt := 7) dX5_scanWhole_88 rfl ?_
          have e := (show scD ft E (n + 1) a c v = scD ft E n (a + 1) (c + 1) _ by rw [scD, if_pos ⟨by omega, by simpa using b29, by simpa using b43⟩, if_pos (show c < 4 by omega)])
          rw [e] at k
          exact ih (a + 1) (c + 1) _ (by omega) (by omega) (by omega) k
set_option maxRecDepth 100000 in
set_option maxHeartbeats 4000000 in
theorem c_scanWhole {G : wG} {d : Nat} {h : hH} {Q : Option Value → hH → Prop} {q qt p E a b : Nat} {kd vl tk fl pl : Int32} {ft : Nat → Int32} (hw : hHas h [q, qt] [(oC 5 [.ref qt, .ref p, .int (nI E), .int (nI a), .int kd, .int (nI b), .int vl, .int tk, .int fl, .int pl]), (aB 600 ft)]) (nd : [q, qt].Nodup) (hE : E ≤ 600) (ha : a ≤ E) (k : Q none (hUs h [q, qt] [(oC 5 [.ref qt, .ref p, .int (nI E), .int (nI ((scD ft E (E - a) a 0 0).1)), .int (if 4 < (scD ft E (E - a) a 0 0).2.1 then 4 else 2), .int (nI b), .int ((scD ft E (E - a) a 0 0).2.2), .int tk, .int fl, .int pl]), aB 600 ft])) : Cl G yX5_scanWhole d 0 0 [.ref q] h Q := by
  refine Cl.of (ini := false) kX5_scanWhole (plainFor_of_name (by decide)) (by decide) (Nat.le_of_ble_eq_true rfl) rfl rfl (fun z => by cases z) ?_
  refine w_heq (hUs_id hw).symm ?_
  refine w_iconst (v := (nI 0)) dX5_scanWhole_0 (by decide) ?_
  refine w_istore_n (ls2 := [some (.ref q), some (.int (nI 0))]) dX5_scanWhole_1 (by decide) rfl rfl ?_
  refine w_aload_n dX5_scanWhole_2 rfl ?_
  refine w_iconst (v := 0) dX5_scanWhole_3 (by decide) ?_
  refine w_put (fs' := [.ref qt, .ref p, .int (nI E), .int (nI a), .int kd, .int (nI b), .int 0, .int tk, .int fl, .int pl]) fX5_159 (hUs_at nd 0 rfl rfl) rfl rfl (Nat.le_of_ble_eq_true rfl) rfl dX5_scanWhole_4 ?_
  refine w_heq (hUs_set nd rfl 0 (cs' := [(oC 5 [.ref qt, .ref p, .int (nI E), .int (nI a), .int kd, .int (nI b), .int 0, .int tk, .int fl, .int pl]), (aB 600 ft)]) rfl rfl) ?_
  exact l_scanWhole nd hE (E - a) a 0 0 (by omega) ha (by omega) k
