set_option maxRecDepth 100000 in
set_option maxHeartbeats 4000000 in
theorem l_longestRow {G : wG} {d : Nat} {h : hH} {Q : Option Value → hH → Prop} {q qc qo qg qz qw : Nat} {go ln wn sd : Int32} {c : Nat} {A B : Nat} {fo : Nat → Int32} (hw : hHas h [q, qo] [(oC 6 [.ref qc, .ref qo, .ref qg, .ref qz, .ref qw, .int go, .int ln, .int wn, .int sd, .int (nI c)]), (aB 4096 fo)]) (hA : A ≤ B) (hB : B < 4096) (k : Q (some (.int (fld (fun t (s : Int32 × Int32) => (mxI s.1 (if fo t = fo (t - 1) then s.2 + 1 else 1), if fo t = fo (t - 1) then s.2 + 1 else 1)) (A + 1) (B - A) (1, 1)).1)) h) : ∀ (n : Nat) (i : Nat) (x y : Int32), i + n = B - A → (x, y) = (fld (fun t (s : Int32 × Int32) => (mxI s.1 (if fo t = fo (t - 1) then s.2 + 1 else 1), if fo t = fo (t - 1) then s.2 + 1 else 1)) (A + 1) (i) (1, 1)) → WP G RX6 cX6_longestRow 6 (some .int) false (d + 1) 0 0 0 0 Q 10 [some (.ref q), some (.int (nI A)), some (.int (nI B)), some (.int x), some (.int y), some (.int (nI (A + 1 + i)))] [] h := by
  intro n
  induction n with
  | zero =>
    intro i x y hi e
    refine w_iload dX6_longestRow_10 rfl ?_
    refine w_iload_n dX6_longestRow_12 rfl ?_
    refine w_icmp_gt_t (tgt := 58) dX6_longestRow_13 rfl ((nI_ltI (a := B) (b := (A + 1 + i)) (by omega) (by omega)).mpr (by omega)) ?_
    refine w_iload_n dX6_longestRow_58 rfl ?_
    refine w_ireturn rfl dX6_longestRow_59 (Nat.le_of_ble_eq_true rfl) (Nat.le_of_ble_eq_true rfl) ?_
    have z : i = B - A := by omega
    rw [← z, ← e] at k
    exact k
  | succ n ih =>
    intro i x y hi e
    refine w_iload dX6_longestRow_10 rfl ?_
    refine w_iload_n dX6_longestRow_12 rfl ?_
    refine w_icmp_gt_f (tgt := 58) dX6_longestRow_13 rfl (fun z => absurd ((nI_ltI (a := B) (b := (A + 1 + i)) (by omega) (by omega)).mp z) (by omega)) ?_
    refine w_aload_n dX6_longestRow_16 rfl ?_
    refine w_get (v := .ref qo) fX6_18 (hw 0 _ _ rfl rfl) rfl dX6_longestRow_17 ?_
    refine w_iload dX6_longestRow_20 rfl ?_
    refine w_baloadN (hw 1 _ _ rfl rfl) (by omega) (by omega) dX6_longestRow_22 ?_
    refine w_aload_n dX6_longestRow_23 rfl ?_
    refine w_get (v := .ref qo) fX6_18 (hw 0 _ _ rfl rfl) rfl dX6_longestRow_24 ?_
    refine w_iload dX6_longestRow_27 rfl ?_
    refine w_iconst (v := 1) dX6_longestRow_29 (by decide) ?_
    refine w_isubE (z := nI ((A + 1 + i) - 1)) dX6_longestRow_30 (pk_sub (a := (A + 1 + i)) (b := 1) (by omega)) ?_
    refine w_baloadN (hw 1 _ _ rfl rfl) (by omega) (by omega) dX6_longestRow_31 ?_
    refine w_icmp_ne (tgt := 42) dX6_longestRow_32 rfl (fun b32 => ?_) (fun b32 => ?_)
    · refine w_iconst (v := 1) dX6_longestRow_42 (by decide) ?_
      refine w_istore (ls2 := [some (.ref q), some (.int (nI A)), some (.int (nI B)), some (.int x), some (.int 1), some (.int (nI (A + 1 + i)))]) dX6_longestRow_43 (by decide) rfl rfl ?_
      refine w_iload_n dX6_longestRow_45 rfl ?_
      refine w_iload dX6_longestRow_46 rfl ?_
      refine w_callS (d' := d) (mc' := 0) (ms' := 0) (As := [.int x, .int 1]) (st := []) lX6_91 vJ9_max_7cf53 rfl (Nat.le_of_ble_eq_true rfl) dX6_longestRow_48 (Nat.le_of_ble_eq_true rfl) (Nat.le_of_ble_eq_true rfl) (Nat.le_refl _) (c_max ?_)
      refine w_istore_n (ls2 := [some (.ref q), some (.int (nI A)), some (.int (nI B)), some (.int (mxI x 1)), some (.int 1), some (.int (nI (A + 1 + i)))]) dX6_longestRow_51 (by decide) rfl rfl ?_
      refine w_iinc (v := nI ((A + 1 + i) + 1)) (ls2 := [some (.ref q), some (.int (nI A)), some (.int (nI B)), some (.int (mxI x 1)), some (.int 1), some (.int (nI ((A + 1 + i) + 1)))]) dX6_longestRow_52 rfl (nI_1 _) (by decide) rfl rfl ?_
      refine w_goto (tgt := 10) dX6_longestRow_55 rfl ?_
      exact ih (i + 1) _ _ (by omega) (by rw [fld, ← e]; simp only [if_neg b32])
    · refine w_iload dX6_longestRow_35 rfl ?_
      refine w_iconst (v := 1) dX6_longestRow_37 (by decide) ?_
      refine w_iadd dX6_longestRow_38 ?_
      refine w_goto (tgt := 43) dX6_longestRow_39 rfl ?_
      refine w_istore (ls2 := [some (.ref q), some (.int (nI A)), some (.int (nI B)), some (.int x), some (.int (y + 1)), some (.int (nI (A + 1 + i)))]) dX6_longestRow_43 (by decide) rfl rfl ?_
      refine w_iload_n dX6_longestRow_45 rfl ?_
      refine w_iload dX6_longestRow_46 rfl ?_
      refine w_callS (d' := d) (mc' := 0) (ms' := 0) (As := [.int x, .int (y + 1)]) (st := []) lX6_91 vJ9_max_7cf53 rfl (Nat.le_of_ble_eq_true rfl) dX6_longestRow_48 (Nat.le_of_ble_eq_true rfl) (Nat.le_of_ble_eq_true rfl) (Nat.le_refl _) (c_max ?_)
      refine w_istore_n (ls2 := [some (.ref q), some (.int (nI A)), some (.int (nI B)), some (.int (mxI x (y + 1))), some (.int (y + 1)), some (.int (nI (A + 1 + i)))]) dX6_longestRow_51 (by decide) rfl rfl ?_
      refine w_iinc (v := nI ((A + 1 + i) + 1)) (ls2 := [some (.ref q), some (.int (nI A)), some (.int (nI B)), some (.int (mxI x (y + 1))), some (.int (y + 1)), some (.int (nI ((A + 1 + i) + 1)))]) dX6_longestRow_52 rfl (nI_1 _) (by decide) rfl rfl ?_
      refine w_goto (tgt := 10) dX6_longestRow_55 rfl ?_
      exact ih (i + 1) _ _ (by omega) (by rw [fld, ← e]; simp only [if_pos b32])
set_option maxRecDepth 100000 in
set_option maxHeartbeats 4000000 in
theorem c_longestRow {G : wG} {d : Nat} {h : hH} {Q : Option Value → hH → Prop} {q qc qo qg qz qw : Nat} {go ln wn sd : Int32} {c : Nat} {A B : Nat} {fo : Nat → Int32} (hw : hHas h [q, qo] [(oC 6 [.ref qc, .ref qo, .ref qg, .ref qz, .ref qw, .int go, .int ln, .int wn, .int sd, .int (nI c)]), (aB 4096 fo)]) (hA : A ≤ B) (hB : B < 4096) (k : Q (some (.int (fld (fun t (s : Int32 × Int32) => (mxI s.1 (if fo t = fo (t - 1) then s.2 + 1 else 1), if fo t = fo (t - 1) then s.2 + 1 else 1)) (A + 1) (B - A) (1, 1)).1)) h) : Cl G yX6_longestRow (d + 1) 0 0 [.ref q, .int (nI A), .int (nI B)] h Q := by
  refine Cl.of (ini := false) kX6_longestRow (plainFor_of_name (by decide)) (by decide) (Nat.le_of_ble_eq_true rfl) rfl rfl (fun z => by cases z) ?_
  refine w_iconst (v := 1) dX6_longestRow_0 (by decide) ?_
  refine w_istore_n (ls2 := [some (.ref q), some (.int (nI A)), some (.int (nI B)), some (.int 1), none, none]) dX6_longestRow_1 (by decide) rfl rfl ?_
  refine w_iconst (v := 1) dX6_longestRow_2 (by decide) ?_
  refine w_istore (ls2 := [some (.ref q), some (.int (nI A)), some (.int (nI B)), some (.int 1), some (.int 1), none]) dX6_longestRow_3 (by decide) rfl rfl ?_
  refine w_iload_n dX6_longestRow_5 rfl ?_
  refine w_iconst (v := 1) dX6_longestRow_6 (by decide) ?_
  refine w_iaddE (z := nI (A + 1)) dX6_longestRow_7 (nI_add (A) (1)) ?_
  refine w_istore (ls2 := [some (.ref q), some (.int (nI A)), some (.int (nI B)), some (.int 1), some (.int 1), some (.int (nI (A + 1)))]) dX6_longestRow_8 (by decide) rfl rfl ?_
  exact l_longestRow hw hA hB k (B - A) 0 _ _ (by omega) rfl
set_option maxRecDepth 100000 in
set_option maxHeartbeats 4000000 in
theorem l_changes {G : wG} {d : Nat} {h : hH} {Q : Option Value → hH → Prop} {q qc qo qg qz qw : Nat} {go ln wn sd : Int32} {c : Nat} {A B : Nat} {fo : Nat → Int32} (hw : hHas h [q, qo] [(oC 6 [.ref qc, .ref qo, .ref qg, .ref qz, .ref qw, .int go, .int ln, .int wn, .int sd, .int (nI c)]), (aB 4096 fo)]) (hA : A ≤ B) (hB : B < 4096) (k : Q (some (.int (fld (fun t s => s + (if fo t = fo (t - 1) then 0 else 1)) (A + 1) (B - A) 0))) h) : ∀ (n : Nat) (i : Nat) (x : Int32), i + n = B - A → x = (fld (fun t s => s + (if fo t = fo (t - 1) then 0 else 1)) (A + 1) (i) 0) → WP G RX6 cX6_changes 5 (some .int) false d 0 0 0 0 Q 7 [some (.ref q), some (.int (nI A)), some (.int (nI B)), some (.int x), some (.int (nI (A + 1 + i)))] [] h := by
  intro n
  induction n with
  | zero =>
    intro i x hi e
    refine w_iload dX6_changes_7 rfl ?_
    refine w_iload_n dX6_changes_9 rfl ?_
    refine w_icmp_gt_t (tgt := 46) dX6_changes_10 rfl ((nI_ltI (a := B) (b := (A + 1 + i)) (by omega) (by omega)).mpr (by omega)) ?_
    refine w_iload_n dX6_changes_46 rfl ?_
    refine w_ireturn rfl dX6_changes_47 (Nat.le_of_ble_eq_true rfl) (Nat.le_of_ble_eq_true rfl) ?_
    have z : i = B - A := by omega
    rw [← z, ← e] at k
    exact k
  | succ n ih =>
    intro i x hi e
    refine w_iload dX6_changes_7 rfl ?_
    refine w_iload_n dX6_changes_9 rfl ?_
    refine w_icmp_gt_f (tgt := 46) dX6_changes_10 rfl (fun z => absurd ((nI_ltI (a := B) (b := (A + 1 + i)) (by omega) (by omega)).mp z) (by omega)) ?_
    refine w_iload_n dX6_changes_13 rfl ?_
    refine w_aload_n dX6_changes_14 rfl ?_
    refine w_get (v := .ref qo) fX6_18 (hw 0 _ _ rfl rfl) rfl dX6_changes_15 ?_
    refine w_iload dX6_changes_18 rfl ?_
    refine w_baloadN (hw 1 _ _ rfl rfl) (by omega) (by omega) dX6_changes_20 ?_
    refine w_aload_n dX6_changes_21 rfl ?_
    refine w_get (v := .ref qo) fX6_18 (hw 0 _ _ rfl rfl) rfl dX6_changes_22 ?_
    refine w_iload dX6_changes_25 rfl ?_
    refine w_iconst (v := 1) dX6_changes_27 (by decide) ?_
    refine w_isubE (z := nI ((A + 1 + i) - 1)) dX6_changes_28 (pk_sub (a := (A + 1 + i)) (b := 1) (by omega)) ?_
    refine w_baloadN (hw 1 _ _ rfl rfl) (by omega) (by omega) dX6_changes_29 ?_
    refine w_icmp_eq (tgt := 37) dX6_changes_30 rfl (fun b30 => ?_) (fun b30 => ?_)
    · refine w_iconst (v := 0) dX6_changes_37 (by decide) ?_
      refine w_iadd dX6_changes_38 ?_
      refine w_istore_n (ls2 := [some (.ref q), some (.int (nI A)), some (.int (nI B)), some (.int (x + 0)), some (.int (nI (A + 1 + i)))]) dX6_changes_39 (by decide) rfl rfl ?_
      refine w_iinc (v := nI ((A + 1 + i) + 1)) (ls2 := [some (.ref q), some (.int (nI A)), some (.int (nI B)), some (.int (x + 0)), some (.int (nI ((A + 1 + i) + 1)))]) dX6_changes_40 rfl (nI_1 _) (by decide) rfl rfl ?_
      refine w_goto (tgt := 7) dX6_changes_43 rfl ?_
      exact ih (i + 1) _ (by omega) (by rw [fld, ← e, if_pos b30])
    · refine w_iconst (v := 1) dX6_changes_33 (by decide) ?_
      refine w_goto (tgt := 38) dX6_changes_34 rfl ?_
      refine w_iadd dX6_changes_38 ?_
      refine w_istore_n (ls2 := [some (.ref q), some (.int (nI A)), some (.int (nI B)), some (.int (x + 1)), some (.int (nI (A + 1 + i)))]) dX6_changes_39 (by decide) rfl rfl ?_
      refine w_iinc (v := nI ((A + 1 + i) + 1)) (ls2 := [some (.ref q), some (.int (nI A)), some (.int (nI B)), some (.int (x + 1)), some (.int (nI ((A + 1 + i) + 1)))]) dX6_changes_40 rfl (nI_1 _) (by decide) rfl rfl ?_
      refine w_goto (tgt := 7) dX6_changes_43 rfl ?_
      exact ih (i + 1) _ (by omega) (by rw [fld, ← e, if_neg b30])
set_option maxRecDepth 100000 in
set_option maxHeartbeats 4000000 in
theorem c_changes {G : wG} {d : Nat} {h : hH} {Q : Option Value → hH → Prop} {q qc qo qg qz qw : Nat} {go ln wn sd : Int32} {c : Nat} {A B : Nat} {fo : Nat → Int32} (hw : hHas h [q, qo] [(oC 6 [.ref qc, .ref qo, .ref qg, .ref qz, .ref qw, .int go, .int ln, .int wn, .int sd, .int (nI c)]), (aB 4096 fo)]) (hA : A ≤ B) (hB : B < 4096) (k : Q (some (.int (fld (fun t s => s + (if fo t = fo (t - 1) then 0 else 1)) (A + 1) (B - A) 0))) h) : Cl G yX6_changes d 0 0 [.ref q, .int (nI A), .int (nI B)] h Q := by
  refine Cl.of (ini := false) kX6_changes (plainFor_of_name (by decide)) (by decide) (Nat.le_of_ble_eq_true rfl) rfl rfl (fun z => by cases z) ?_
  refine w_iconst (v := 0) dX6_changes_0 (by decide) ?_
  refine w_istore_n (ls2 := [some (.ref q), some (.int (nI A)), some (.int (nI B)), some (.int 0), none]) dX6_changes_1 (by decide) rfl rfl ?_
  refine w_iload_n dX6_changes_2 rfl ?_
  refine w_iconst (v := 1) dX6_changes_3 (by decide) ?_
  refine w_iaddE (z := nI (A + 1)) dX6_changes_4 (nI_add (A) (1)) ?_
  refine w_istore (ls2 := [some (.ref q), some (.int (nI A)), some (.int (nI B)), some (.int 0), some (.int (nI (A + 1)))]) dX6_changes_5 (by decide) rfl rfl ?_
  exact l_changes hw hA hB k (B - A) 0 _ (by omega) rfl
def likF (fo : Nat → Int32) (A B g : Nat) : Int32 := fld (fun t s => s + (if fo t = fo (t + g) then 1 else 0)) A (B + 1 - (A + g)) 0
set_option maxRecDepth 100000 in
set_option maxHeartbeats 4000000 in
theorem l_likePairs {G : wG} {d : Nat} {h : hH} {Q : Option Value → hH → Prop} {q qc qo qg qz qw : Nat} {go ln wn sd : Int32} {c : Nat} {A B : Nat} {fo : Nat → Int32} {g : Nat} (hw : hHas h [q, qo] [(oC 6 [.ref qc, .ref qo, .ref qg, .ref qz, .ref qw, .int go, .int ln, .int wn, .int sd, .int (nI c)]), (aB 4096 fo)]) (hA : A ≤ B) (hB : B < 4096) (hg : g < 2 ^ 30) (k : Q (some (.int (likF fo A B g))) h) : ∀ (n : Nat) (i : Nat) (x : Int32), i + n = B + 1 - (A + g) → x = (fld (fun t s => s + (if fo t = fo (t + g) then 1 else 0)) A (i) 0) → WP G RX6 cX6_likePairs 6 (some .int) false d 0 0 0 0 Q 6 [some (.ref q), some (.int (nI A)), some (.int (nI B)), some (.int (nI g)), some (.int x), some (.int (nI (A + i)))] [] h := by
  intro n
  induction n with
  | zero =>
    intro i x hi e
    refine w_iload dX6_likePairs_6 rfl ?_
    refine w_iload_n dX6_likePairs_8 rfl ?_
    refine w_iaddE (z := nI ((A + i) + g)) dX6_likePairs_9 (nI_add ((A + i)) (g)) ?_
    refine w_iload_n dX6_likePairs_10 rfl ?_
    refine w_icmp_gt_t (tgt := 49) dX6_likePairs_11 rfl ((nI_ltI (a := B) (b := ((A + i) + g)) (by omega) (by omega)).mpr (by omega)) ?_
    refine w_iload dX6_likePairs_49 rfl ?_
    refine w_ireturn rfl dX6_likePairs_51 (Nat.le_of_ble_eq_true rfl) (Nat.le_of_ble_eq_true rfl) ?_
    have z : i = B + 1 - (A + g) := by omega
    rw [likF, ← z, ← e] at k
    exact k
  | succ n ih =>
    intro i x hi e
    refine w_iload dX6_likePairs_6 rfl ?_
    refine w_iload_n dX6_likePairs_8 rfl ?_
    refine w_iaddE (z := nI ((A + i) + g)) dX6_likePairs_9 (nI_add ((A + i)) (g)) ?_
    refine w_iload_n dX6_likePairs_10 rfl ?_
    refine w_icmp_gt_f (tgt := 49) dX6_likePairs_11 rfl (fun z => absurd ((nI_ltI (a := B) (b := ((A + i) + g)) (by omega) (by omega)).mp z) (by omega)) ?_
    refine w_iload dX6_likePairs_14 rfl ?_
    refine w_aload_n dX6_likePairs_16 rfl ?_
    refine w_get (v := .ref qo) fX6_18 (hw 0 _ _ rfl rfl) rfl dX6_likePairs_17 ?_
    refine w_iload dX6_likePairs_20 rfl ?_
    refine w_baloadN (hw 1 _ _ rfl rfl) (by omega) (by omega) dX6_likePairs_22 ?_
    refine w_aload_n dX6_likePairs_23 rfl ?_
    refine w_get (v := .ref qo) fX6_18 (hw 0 _ _ rfl rfl) rfl dX6_likePairs_24 ?_
    refine w_iload dX6_likePairs_27 rfl ?_
    refine w_iload_n dX6_likePairs_29 rfl ?_
    refine w_iaddE (z := nI ((A + i) + g)) dX6_likePairs_30 (nI_add ((A + i)) (g)) ?_
    refine w_baloadN (hw 1 _ _ rfl rfl) (by omega) (by omega) dX6_likePairs_31 ?_
    refine w_icmp_ne (tgt := 39) dX6_likePairs_32 rfl (fun b32 => ?_) (fun b32 => ?_)
    · refine w_iconst (v := 0) dX6_likePairs_39 (by decide) ?_
      refine w_iadd dX6_likePairs_40 ?_
      refine w_istore (ls2 := [some (.ref q), some (.int (nI A)), some (.int (nI B)), some (.int (nI g)), some (.int (x + 0)), some (.int (nI (A + i)))]) dX6_likePairs_41 (by decide) rfl rfl ?_
      refine w_iinc (v := nI ((A + i) + 1)) (ls2 := [some (.ref q), some (.int (nI A)), some (.int (nI B)), some (.int (nI g)), some (.int (x + 0)), some (.int (nI ((A + i) + 1)))]) dX6_likePairs_43 rfl (nI_1 _) (by decide) rfl rfl ?_
      refine w_goto (tgt := 6) dX6_likePairs_46 rfl ?_
      exact ih (i + 1) _ (by omega) (by rw [fld, ← e]; simp [*])
    · refine w_iconst (v := 1) dX6_likePairs_35 (by decide) ?_
      refine w_goto (tgt := 40) dX6_likePairs_36 rfl ?_
      refine w_iadd dX6_likePairs_40 ?_
      refine w_istore (ls2 := [some (.ref q), some (.int (nI A)), some (.int (nI B)), some (.int (nI g)), some (.int (x + 1)), some (.int (nI (A + i)))]) dX6_likePairs_41 (by decide) rfl rfl ?_
      refine w_iinc (v := nI ((A + i) + 1)) (ls2 := [some (.ref q), some (.int (nI A)), some (.int (nI B)), some (.int (nI g)), some (.int (x + 1)), some (.int (nI ((A + i) + 1)))]) dX6_likePairs_43 rfl (nI_1 _) (by decide) rfl rfl ?_
      refine w_goto (tgt := 6) dX6_likePairs_46 rfl ?_
      exact ih (i + 1) _ (by omega) (by rw [fld, ← e]; simp [*])
set_option maxRecDepth 100000 in
set_option maxHeartbeats 4000000 in
theorem c_likePairs {G : wG} {d : Nat} {h : hH} {Q : Option Value → hH → Prop} {q qc qo qg qz qw : Nat} {go ln wn sd : Int32} {c : Nat} {A B : Nat} {fo : Nat → Int32} {g : Nat} (hw : hHas h [q, qo] [(oC 6 [.ref qc, .ref qo, .ref qg, .ref qz, .ref qw, .int go, .int ln, .int wn, .int sd, .int (nI c)]), (aB 4096 fo)]) (hA : A ≤ B) (hB : B < 4096) (hg : g < 2 ^ 30) (k : Q (some (.int (likF fo A B g))) h) : Cl G yX6_likePairs d 0 0 [.ref q, .int (nI A), .int (nI B), .int (nI g)] h Q := by
  refine Cl.of (ini := false) kX6_likePairs (plainFor_of_name (by decide)) (by decide) (Nat.le_of_ble_eq_true rfl) rfl rfl (fun z => by cases z) ?_
  refine w_iconst (v := 0) dX6_likePairs_0 (by decide) ?_
  refine w_istore (ls2 := [some (.ref q), some (.int (nI A)), some (.int (nI B)), some (.int (nI g)), some (.int 0), none]) dX6_likePairs_1 (by decide) rfl rfl ?_
  refine w_iload_n dX6_likePairs_3 rfl ?_
  refine w_istore (ls2 := [some (.ref q), some (.int (nI A)), some (.int (nI B)), some (.int (nI g)), some (.int 0), some (.int (nI A))]) dX6_likePairs_4 (by decide) rfl rfl ?_
  exact l_likePairs hw hA hB hg k (B + 1 - (A + g)) 0 _ (by omega) rfl
/-- tone: the best lag so far, its like ones, its pairs -/
def bstF (fo : Nat → Int32) (A B : Nat) (g : Nat) (s : Int32 × Int32 × Int32) : Int32 × Int32 × Int32 :=
  if s.1 = -2 ∨ s.2.1 * nI (B - A + 1 - g) < likF fo A B g * s.2.2 then (nI g, likF fo A B g, nI (B - A + 1 - g)) else s
set_option maxRecDepth 100000 in
set_option maxHeartbeats 4000000 in
theorem l_bestLag {G : wG} {d : Nat} {h : hH} {Q : Option Value → hH → Prop} {q qc qo qg qz qw : Nat} {go ln wn sd : Int32} {c : Nat} {A B : Nat} {fo : Nat → Int32} {g : Nat} (hw : hHas h [q, qo] [(oC 6 [.ref qc, .ref qo, .ref qg, .ref qz, .ref qw, .int go, .int ln, .int wn, .int sd, .int (nI c)]), (aB 4096 fo)]) (hA : A ≤ B) (hB : B < 4096) (hg : g < 2 ^ 30) (k : Q (some (.int (fld (bstF fo A B) 1 (min g (B - A)) (-2, 0, 0)).1)) h) : ∀ (n : Nat) (i : Nat) (x y z : Int32), i + n = min g (B - A) → (x, y, z) = (fld (bstF fo A B) 1 (i) (-2, 0, 0)) → WP G RX6 cX6_bestLag 10 (some .int) false (d + 1) 0 0 0 0 Q 13 [some (.ref q), some (.int (nI A)), some (.int (nI B)), some (.int (nI g)), some (.int x), some (.int y), some (.int z), some (.int (nI (1 + i))), none, none] [] h := by
  intro n
  induction n with
  | zero =>
    intro i x y z hi e
    refine w_iload dX6_bestLag_13 rfl ?_
    refine w_iload_n dX6_bestLag_15 rfl ?_
    refine w_icmp_gt (tgt := 85) dX6_bestLag_16 rfl (fun b16 => ?_) (fun b16 => ?_)
    · have b16 := (nI_ltI (a := g) (b := (1 + i)) (by omega) (by omega)).mp b16
      
      refine w_iload dX6_bestLag_85 rfl ?_
      refine w_ireturn rfl dX6_bestLag_87 (Nat.le_of_ble_eq_true rfl) (Nat.le_of_ble_eq_true rfl) ?_
      have z9 : i = min g (B - A) := by omega
      rw [← z9, ← e] at k
      exact k
    · have b16 : ¬ g < (1 + i) := fun z => b16 ((nI_ltI (a := g) (b := (1 + i)) (by omega) (by omega)).mpr z)
      refine w_iload_n dX6_bestLag_19 rfl ?_
      refine w_iload dX6_bestLag_20 rfl ?_
      refine w_iaddE (z := nI (A + (1 + i))) dX6_bestLag_22 (nI_add (A) ((1 + i))) ?_
      refine w_iload_n dX6_bestLag_23 rfl ?_
      refine w_icmp_gt (tgt := 85) dX6_bestLag_24 rfl (fun b24 => ?_) (fun b24 => ?_)
      · have b24 := (nI_ltI (a := B) (b := (A + (1 + i))) (by omega) (by omega)).mp b24
        refine w_iload dX6_bestLag_85 rfl ?_
        refine w_ireturn rfl dX6_bestLag_87 (Nat.le_of_ble_eq_true rfl) (Nat.le_of_ble_eq_true rfl) ?_
        have z9 : i = min g (B - A) := by omega
        rw [← z9, ← e] at k
        exact k
      · have b24 : ¬ B < (A + (1 + i)) := fun z => b24 ((nI_ltI (a := B) (b := (A + (1 + i))) (by omega) (by omega)).mpr z)
        exact absurd b24 (by omega)
  | succ n ih =>
    intro i x y z hi e
    refine w_iload dX6_bestLag_13 rfl ?_
    refine w_iload_n dX6_bestLag_15 rfl ?_
    refine w_icmp_gt_f (tgt := 85) dX6_bestLag_16 rfl (fun z => absurd ((nI_ltI (a := g) (b := (1 + i)) (by omega) (by omega)).mp z) (by omega)) ?_
    refine w_iload_n dX6_bestLag_19 rfl ?_
    refine w_iload dX6_bestLag_20 rfl ?_
    refine w_iaddE (z := nI (A + (1 + i))) dX6_bestLag_22 (nI_add (A) ((1 + i))) ?_
    refine w_iload_n dX6_bestLag_23 rfl ?_
    refine w_icmp_gt_f (tgt := 85) dX6_bestLag_24 rfl (fun z => absurd ((nI_ltI (a := B) (b := (A + (1 + i))) (by omega) (by omega)).mp z) (by omega)) ?_
    refine w_iload_n dX6_bestLag_27 rfl ?_
    refine w_iload_n dX6_bestLag_28 rfl ?_
    refine w_isubE (z := nI (B - A)) dX6_bestLag_29 (pk_sub (a := B) (b := A) (by omega)) ?_
    refine w_iconst (v := 1) dX6_bestLag_30 (by decide) ?_
    refine w_iaddE (z := nI ((B - A) + 1)) dX6_bestLag_31 (nI_add ((B - A)) (1)) ?_
    refine w_iload dX6_bestLag_32 rfl ?_
    refine w_isubE (z := nI (((B - A) + 1) - (1 + i))) dX6_bestLag_34 (pk_sub (a := ((B - A) + 1)) (b := (1 + i)) (by omega)) ?_
    refine w_istore (ls2 := [some (.ref q), some (.int (nI A)), some (.int (nI B)), some (.int (nI g)), some (.int x), some (.int y), some (.int z), some (.int (nI (1 + i))), some (.int (nI (((B - A) + 1) - (1 + i)))), none]) dX6_bestLag_35 (by decide) rfl rfl ?_
    refine w_aload_n dX6_bestLag_37 rfl ?_
    refine w_iload_n dX6_bestLag_38 rfl ?_
    refine w_iload_n dX6_bestLag_39 rfl ?_
    refine w_iload dX6_bestLag_40 rfl ?_
    refine w_callV (ci := 6) (d' := d) (mc' := 0) (ms' := 0) (As := [.int (nI A), .int (nI B), .int (nI (1 + i))]) (st := []) lX6_110 vX6_likePairs rfl (hw 0 _ _ rfl rfl) rfl (Nat.le_of_ble_eq_true rfl) dX6_bestLag_42 (Nat.le_of_ble_eq_true rfl) (Nat.le_of_ble_eq_true rfl) (Nat.le_refl _) (c_likePairs (hHas_s hw (as' := [q, qo]) (cs' := [(oC 6 [.ref qc, .ref qo, .ref qg, .ref qz, .ref qw, .int go, .int ln, .int wn, .int sd, .int (nI c)]), (aB 4096 fo)]) [0, 1] rfl rfl) (by omega) (by omega) (by omega) ?_)
    refine w_istore (ls2 := [some (.ref q), some (.int (nI A)), some (.int (nI B)), some (.int (nI g)), some (.int x), some (.int y), some (.int z), some (.int (nI (1 + i))), some (.int (nI (((B - A) + 1) - (1 + i)))), some (.int (likF fo A B (1 + i)))]) dX6_bestLag_45 (by decide) rfl rfl ?_
    refine w_iload dX6_bestLag_47 rfl ?_
    refine w_bipush (v := (-2)) dX6_bestLag_49 (by decide) ?_
    refine w_icmp_eq (tgt := 67) dX6_bestLag_51 rfl (fun b51 => ?_) (fun b51 => ?_)
    · refine w_iload dX6_bestLag_67 rfl ?_
      refine w_istore (ls2 := [some (.ref q), some (.int (nI A)), some (.int (nI B)), some (.int (nI g)), some (.int (nI (1 + i))), some (.int y), some (.int z), some (.int (nI (1 + i))), some (.int (nI (((B - A) + 1) - (1 + i)))), some (.int (likF fo A B (1 + i)))]) dX6_bestLag_69 (by decide) rfl rfl ?_
      refine w_iload dX6_bestLag_71 rfl ?_
      refine w_istore (ls2 := [some (.ref q), some (.int (nI A)), some (.int (nI B)), some (.int (nI g)), some (.int (nI (1 + i))), some (.int (likF fo A B (1 + i))), some (.int z), some (.int (nI (1 + i))), some (.int (nI (((B - A) + 1) - (1 + i)))), some (.int (likF fo A B (1 + i)))]) dX6_bestLag_73 (by decide) rfl rfl ?_
      refine w_iload dX6_bestLag_75 rfl ?_
      refine w_istore (ls2 := [some (.ref q), some (.int (nI A)), some (.int (nI B)), some (.int (nI g)), some (.int (nI (1 + i))), some (.int (likF fo A B (1 + i))), some (.int (nI (((B - A) + 1) - (1 + i)))), some (.int (nI (1 + i))), some (.int (nI (((B - A) + 1) - (1 + i)))), some (.int (likF fo A B (1 + i)))]) dX6_bestLag_77 (by decide) rfl rfl ?_
      refine w_iinc (v := nI ((1 + i) + 1)) (ls2 := [some (.ref q), some (.int (nI A)), some (.int (nI B)), some (.int (nI g)), some (.int (nI (1 + i))), some (.int (likF fo A B (1 + i))), some (.int (nI (((B - A) + 1) - (1 + i)))), some (.int (nI ((1 + i) + 1))), some (.int (nI (((B - A) + 1) - (1 + i)))), some (.int (likF fo A B (1 + i)))]) dX6_bestLag_79 rfl (nI_1 _) (by decide) rfl rfl ?_
      refine w_goto (tgt := 13) dX6_bestLag_82 rfl ?_
      refine w_less (ls2 := [some (.ref q), some (.int (nI A)), some (.int (nI B)), some (.int (nI g)), some (.int (nI (1 + i))), some (.int (likF fo A B (1 + i))), some (.int (nI (((B - A) + 1) - (1 + i)))), some (.int (nI ((1 + i) + 1))), none, none]) ⟨Or.inr rfl, Or.inr rfl, Or.inr rfl, Or.inr rfl, Or.inr rfl, Or.inr rfl, Or.inr rfl, Or.inr rfl, Or.inl rfl, Or.inl rfl, trivial⟩ ?_
      exact ih (i + 1) _ _ _ (by omega) (by rw [fld, ← e, bstF, if_pos (Or.inl b51)])
    · refine w_iload dX6_bestLag_54 rfl ?_
      refine w_iload dX6_bestLag_56 rfl ?_
      refine w_imul dX6_bestLag_58 ?_
      refine w_iload dX6_bestLag_59 rfl ?_
      refine w_iload dX6_bestLag_61 rfl ?_
      refine w_imul dX6_bestLag_63 ?_
      refine w_icmp_le (tgt := 79) dX6_bestLag_64 rfl (fun b64 => ?_) (fun b64 => ?_)
      · refine w_iinc (v := nI ((1 + i) + 1)) (ls2 := [some (.ref q), some (.int (nI A)), some (.int (nI B)), some (.int (nI g)), some (.int x), some (.int y), some (.int z), some (.int (nI ((1 + i) + 1))), some (.int (nI (((B - A) + 1) - (1 + i)))), some (.int (likF fo A B (1 + i)))]) dX6_bestLag_79 rfl (nI_1 _) (by decide) rfl rfl ?_
        refine w_goto (tgt := 13) dX6_bestLag_82 rfl ?_
        refine w_less (ls2 := [some (.ref q), some (.int (nI A)), some (.int (nI B)), some (.int (nI g)), some (.int x), some (.int y), some (.int z), some (.int (nI ((1 + i) + 1))), none, none]) ⟨Or.inr rfl, Or.inr rfl, Or.inr rfl, Or.inr rfl, Or.inr rfl, Or.inr rfl, Or.inr rfl, Or.inr rfl, Or.inl rfl, Or.inl rfl, trivial⟩ ?_
        exact ih (i + 1) _ _ _ (by omega) (by rw [fld, ← e, bstF, if_neg (fun w => w.elim (fun w => b51 w) (fun w => absurd w (by simpa using b64)))])
      · refine w_iload dX6_bestLag_67 rfl ?_
        refine w_istore (ls2 := [some (.ref q), some (.int (nI A)), some (.int (nI B)), some (.int (nI g)), some (.int (nI (1 + i))), some (.int y), some (.int z), some (.int (nI (1 + i))), some (.int (nI (((B - A) + 1) - (1 + i)))), some (.int (likF fo A B (1 + i)))]) dX6_bestLag_69 (by decide) rfl rfl ?_
        refine w_iload dX6_bestLag_71 rfl ?_
        refine w_istore (ls2 := [some (.ref q), some (.int (nI A)), some (.int (nI B)), some (.int (nI g)), some (.int (nI (1 + i))), some (.int (likF fo A B (1 + i))), some (.int z), some (.int (nI (1 + i))), some (.int (nI (((B - A) + 1) - (1 + i)))), some (.int (likF fo A B (1 + i)))]) dX6_bestLag_73 (by decide) rfl rfl ?_
        refine w_iload dX6_bestLag_75 rfl ?_
        refine w_istore (ls2 := [some (.ref q), some (.int (nI A)), some (.int (nI B)), some (.int (nI g)), some (.int (nI (1 + i))), some (.int (likF fo A B (1 + i))), some (.int (nI (((B - A) + 1) - (1 + i)))), some (.int (nI (1 + i))), some (.int (nI (((B - A) + 1) - (1 + i)))), some (.int (likF fo A B (1 + i)))]) dX6_bestLag_77 (by decide) rfl rfl ?_
        refine w_iinc (v := nI ((1 + i) + 1)) (ls2 := [some (.ref q), some (.int (nI A)), some (.int (nI B)), some (.int (nI g)), some (.int (nI (1 + i))), some (.int (likF fo A B (1 + i))), some (.int (nI (((B - A) + 1) - (1 + i)))), some (.int (nI ((1 + i) + 1))), some (.int (nI (((B - A) + 1) - (1 + i)))), some (.int (likF fo A B (1 + i)))]) dX6_bestLag_79 rfl (nI_1 _) (by decide) rfl rfl ?_
        refine w_goto (tgt := 13) dX6_bestLag_82 rfl ?_
        refine w_less (ls2 := [some (.ref q), some (.int (nI A)), some (.int (nI B)), some (.int (nI g)), some (.int (nI (1 + i))), some (.int (likF fo A B (1 + i))), some (.int (nI (((B - A) + 1) - (1 + i)))), some (.int (nI ((1 + i) + 1))), none, none]) ⟨Or.inr rfl, Or.inr rfl, Or.inr rfl, Or.inr rfl, Or.inr rfl, Or.inr rfl, Or.inr rfl, Or.inr rfl, Or.inl rfl, Or.inl rfl, trivial⟩ ?_
        exact ih (i + 1) _ _ _ (by omega) (by rw [fld, ← e, bstF, if_pos (Or.inr (by simpa using b64))])
set_option maxRecDepth 100000 in
set_option maxHeartbeats 4000000 in
theorem c_bestLag {G : wG} {d : Nat} {h : hH} {Q : Option Value → hH → Prop} {q qc qo qg qz qw : Nat} {go ln wn sd : Int32} {c : Nat} {A B : Nat} {fo : Nat → Int32} {g : Nat} (hw : hHas h [q, qo] [(oC 6 [.ref qc, .ref qo, .ref qg, .ref qz, .ref qw, .int go, .int ln, .int wn, .int sd, .int (nI c)]), (aB 4096 fo)]) (hA : A ≤ B) (hB : B < 4096) (hg : g < 2 ^ 30) (k : Q (some (.int (fld (bstF fo A B) 1 (min g (B - A)) (-2, 0, 0)).1)) h) : Cl G yX6_bestLag (d + 1) 0 0 [.ref q, .int (nI A), .int (nI B), .int (nI g)] h Q := by
  refine Cl.of (ini := false) kX6_bestLag (plainFor_of_name (by decide)) (by decide) (Nat.le_of_ble_eq_true rfl) rfl rfl (fun z => by cases z) ?_
  refine w_bipush (v := (-2)) dX6_bestLag_0 (by decide) ?_
  refine w_istore (ls2 := [some (.ref q), some (.int (nI A)), some (.int (nI B)), some (.int (nI g)), some (.int (-2)), none, none, none, none, none]) dX6_bestLag_2 (by decide) rfl rfl ?_
  refine w_iconst (v := 0) dX6_bestLag_4 (by decide) ?_
  refine w_istore (ls2 := [some (.ref q), some (.int (nI A)), some (.int (nI B)), some (.int (nI g)), some (.int (-2)), some (.int 0), none, none, none, none]) dX6_bestLag_5 (by decide) rfl rfl ?_
  refine w_iconst (v := 0) dX6_bestLag_7 (by decide) ?_
  refine w_istore (ls2 := [some (.ref q), some (.int (nI A)), some (.int (nI B)), some (.int (nI g)), some (.int (-2)), some (.int 0), some (.int 0), none, none, none]) dX6_bestLag_8 (by decide) rfl rfl ?_
  refine w_iconst (v := (nI 1)) dX6_bestLag_10 (by decide) ?_
  refine w_istore (ls2 := [some (.ref q), some (.int (nI A)), some (.int (nI B)), some (.int (nI g)), some (.int (-2)), some (.int 0), some (.int 0), some (.int (nI 1)), none, none]) dX6_bestLag_11 (by decide) rfl rfl ?_
  exact l_bestLag hw hA hB hg k (min g (B - A)) 0 _ _ _ (by omega) rfl
def nthF (fo : Nat → Int32) (v k : Int32) : Nat → Nat → Int32 → Int32
  | 0, _, _ => -2
  | n + 1, t, s => if fo t = v then (if s = k then nI t else nthF fo v k n (t + 1) (s + 1)) else nthF fo v k n (t + 1) s
set_option maxRecDepth 100000 in
set_option maxHeartbeats 4000000 in
theorem l_clockOf {G : wG} {d : Nat} {h : hH} {Q : Option Value → hH → Prop} {q qc qo qg qz qw : Nat} {go ln wn sd : Int32} {c : Nat} {fo : Nat → Int32} {v w : Int32} (hw : hHas h [q, qo] [(oC 6 [.ref qc, .ref qo, .ref qg, .ref qz, .ref qw, .int go, .int ln, .int wn, .int sd, .int (nI c)]), (aB 4096 fo)]) (hc : c ≤ 4096) : ∀ (n : Nat) (i : Nat) (x : Int32), i + n = c → Q (some (.int (nthF fo v w n i x))) h → WP G RX6 cX6_clockOf 5 (some .int) false d 0 0 0 0 Q 5 [some (.ref q), some (.int v), some (.int w), some (.int x), some (.int (nI i))] [] h := by
  intro n
  induction n with
  | zero =>
    intro i x hi k
    refine w_iload dX6_clockOf_5 rfl ?_
    refine w_aload_n dX6_clockOf_7 rfl ?_
    refine w_get (v := .int (nI c)) fX6_60 (hw 0 _ _ rfl rfl) rfl dX6_clockOf_8 ?_
    refine w_icmp_ge_t (tgt := 42) dX6_clockOf_11 rfl ((nI_leI (a := c) (b := i) (by omega) (by omega)).mpr (by omega)) ?_
    refine w_bipush (v := (-2)) dX6_clockOf_42 (by decide) ?_
    refine w_ireturn rfl dX6_clockOf_44 (Nat.le_of_ble_eq_true rfl) (Nat.le_of_ble_eq_true rfl) ?_
    exact k
  | succ n ih =>
    intro i x hi k
    refine w_iload dX6_clockOf_5 rfl ?_
    refine w_aload_n dX6_clockOf_7 rfl ?_
    refine w_get (v := .int (nI c)) fX6_60 (hw 0 _ _ rfl rfl) rfl dX6_clockOf_8 ?_
    refine w_icmp_ge_f (tgt := 42) dX6_clockOf_11 rfl (fun z => absurd ((nI_leI (a := c) (b := i) (by omega) (by omega)).mp z) (by omega)) ?_
    refine w_aload_n dX6_clockOf_14 rfl ?_
    refine w_get (v := .ref qo) fX6_18 (hw 0 _ _ rfl rfl) rfl dX6_clockOf_15 ?_
    refine w_iload dX6_clockOf_18 rfl ?_
    refine w_baloadN (hw 1 _ _ rfl rfl) (by omega) (by omega) dX6_clockOf_20 ?_
    refine w_iload_n dX6_clockOf_21 rfl ?_
    refine w_icmp_ne (tgt := 36) dX6_clockOf_22 rfl (fun b22 => ?_) (fun b22 => ?_)
    · refine w_iinc (v := nI (i + 1)) (ls2 := [some (.ref q), some (.int v), some (.int w), some (.int x), some (.int (nI (i + 1)))]) dX6_clockOf_36 rfl (nI_1 _) (by decide) rfl rfl ?_
      refine w_goto (tgt := 5) dX6_clockOf_39 rfl ?_
      rw [nthF, if_neg b22] at k
      exact ih (i + 1) _ (by omega) k
    · refine w_iload_n dX6_clockOf_25 rfl ?_
      refine w_iload_n dX6_clockOf_26 rfl ?_
      refine w_icmp_ne (tgt := 33) dX6_clockOf_27 rfl (fun b27 => ?_) (fun b27 => ?_)
      · refine w_iinc (v := x + 1) (ls2 := [some (.ref q), some (.int v), some (.int w), some (.int (x + 1)), some (.int (nI i))]) dX6_clockOf_33 rfl rfl (by decide) rfl rfl ?_
        refine w_iinc (v := nI (i + 1)) (ls2 := [some (.ref q), some (.int v), some (.int w), some (.int (x + 1)), some (.int (nI (i + 1)))]) dX6_clockOf_36 rfl (nI_1 _) (by decide) rfl rfl ?_
        refine w_goto (tgt := 5) dX6_clockOf_39 rfl ?_
        rw [nthF, if_pos (by simpa using b22), if_neg b27] at k
        exact ih (i + 1) _ (by omega) k
      · refine w_iload dX6_clockOf_30 rfl ?_
        refine w_ireturn rfl dX6_clockOf_32 (Nat.le_of_ble_eq_true rfl) (Nat.le_of_ble_eq_true rfl) ?_
        rw [nthF, if_pos (by simpa using b22), if_pos (by simpa using b27)] at k
        exact k
set_option maxRecDepth 100000 in
set_option maxHeartbeats 4000000 in
theorem c_clockOf {G : wG} {d : Nat} {h : hH} {Q : Option Value → hH → Prop} {q qc qo qg qz qw : Nat} {go ln wn sd : Int32} {c : Nat} {fo : Nat → Int32} {v w : Int32} (hw : hHas h [q, qo] [(oC 6 [.ref qc, .ref qo, .ref qg, .ref qz, .ref qw, .int go, .int ln, .int wn, .int sd, .int (nI c)]), (aB 4096 fo)]) (hc : c ≤ 4096) (k : Q (some (.int (nthF fo v w c 0 0))) h) : Cl G yX6_clockOf d 0 0 [.ref q, .int v, .int w] h Q := by
  refine Cl.of (ini := false) kX6_clockOf (plainFor_of_name (by decide)) (by decide) (Nat.le_of_ble_eq_true rfl) rfl rfl (fun z => by cases z) ?_
  refine w_iconst (v := 0) dX6_clockOf_0 (by decide) ?_
  refine w_istore_n (ls2 := [some (.ref q), some (.int v), some (.int w), some (.int 0), none]) dX6_clockOf_1 (by decide) rfl rfl ?_
  refine w_iconst (v := (nI 0)) dX6_clockOf_2 (by decide) ?_
  refine w_istore (ls2 := [some (.ref q), some (.int v), some (.int w), some (.int 0), some (.int (nI 0))]) dX6_clockOf_3 (by decide) rfl rfl ?_
  exact l_clockOf hw hc c 0 _ (by omega) k
set_option maxRecDepth 100000 in
set_option maxHeartbeats 4000000 in
theorem l_eightBits {G : wG} {d : Nat} {h : hH} {Q : Option Value → hH → Prop} {q qc qo qg qz qw : Nat} {go ln wn sd : Int32} {c : Nat} {A : Nat} {fo : Nat → Int32} (hw : hHas h [q, qo] [(oC 6 [.ref qc, .ref qo, .ref qg, .ref qz, .ref qw, .int go, .int ln, .int wn, .int sd, .int (nI c)]), (aB 4096 fo)]) (hA : A + 8 ≤ 4096) (k : Q (some (.int (fld (fun t s => s * 2 + (if fo t = 1 then 1 else 0)) (A) (8) 0))) h) : ∀ (n : Nat) (i : Nat) (x : Int32), i + n = 8 → x = fld (fun t s => s * 2 + (if fo t = 1 then 1 else 0)) (A) (i) 0 → WP G RX6 cX6_eightBits 4 (some .int) false d 0 0 0 0 Q 4 [some (.ref q), some (.int (nI A)), some (.int x), some (.int (nI (A + i)))] [] h := by
  intro n
  induction n with
  | zero =>
    intro i x hi e
    refine w_iload_n dX6_eightBits_4 rfl ?_
    refine w_iload_n dX6_eightBits_5 rfl ?_
    refine w_bipush (v := 8) dX6_eightBits_6 (by decide) ?_
    refine w_iaddE (z := nI (A + 8)) dX6_eightBits_8 (nI_add (A) (8)) ?_
    refine w_icmp_ge_t (tgt := 38) dX6_eightBits_9 rfl ((nI_leI (a := (A + 8)) (b := (A + i)) (by omega) (by omega)).mpr (by omega)) ?_
    refine w_iload_n dX6_eightBits_38 rfl ?_
    refine w_ireturn rfl dX6_eightBits_39 (Nat.le_of_ble_eq_true rfl) (Nat.le_of_ble_eq_true rfl) ?_
    have z : i = 8 := by omega
    subst z
    rw [← e] at k
    exact k
  | succ n ih =>
    intro i x hi e
    refine w_iload_n dX6_eightBits_4 rfl ?_
    refine w_iload_n dX6_eightBits_5 rfl ?_
    refine w_bipush (v := 8) dX6_eightBits_6 (by decide) ?_
    refine w_iaddE (z := nI (A + 8)) dX6_eightBits_8 (nI_add (A) (8)) ?_
    refine w_icmp_ge_f (tgt := 38) dX6_eightBits_9 rfl (fun z => absurd ((nI_leI (a := (A + 8)) (b := (A + i)) (by omega) (by omega)).mp z) (by omega)) ?_
    refine w_iload_n dX6_eightBits_12 rfl ?_
    refine w_iconst (v := 2) dX6_eightBits_13 (by decide) ?_
    refine w_imul dX6_eightBits_14 ?_
    refine w_aload_n dX6_eightBits_15 rfl ?_
    refine w_get (v := .ref qo) fX6_18 (hw 0 _ _ rfl rfl) rfl dX6_eightBits_16 ?_
    refine w_iload_n dX6_eightBits_19 rfl ?_
    refine w_baloadN (hw 1 _ _ rfl rfl) (by omega) (by omega) dX6_eightBits_20 ?_
    refine w_iconst (v := 1) dX6_eightBits_21 (by decide) ?_
    refine w_icmp_ne (tgt := 29) dX6_eightBits_22 rfl (fun b22 => ?_) (fun b22 => ?_)
    · refine w_iconst (v := 0) dX6_eightBits_29 (by decide) ?_
      refine w_iadd dX6_eightBits_30 ?_
      refine w_istore_n (ls2 := [some (.ref q), some (.int (nI A)), some (.int ((x * 2) + 0)), some (.int (nI (A + i)))]) dX6_eightBits_31 (by decide) rfl rfl ?_
      refine w_iinc (v := nI ((A + i) + 1)) (ls2 := [some (.ref q), some (.int (nI A)), some (.int ((x * 2) + 0)), some (.int (nI ((A + i) + 1)))]) dX6_eightBits_32 rfl (nI_1 _) (by decide) rfl rfl ?_
      refine w_goto (tgt := 4) dX6_eightBits_35 rfl ?_
      exact ih (i + 1) _ (by omega) (by rw [e]; simp [fld, *])
    · refine w_iconst (v := 1) dX6_eightBits_25 (by decide) ?_
      refine w_goto (tgt := 30) dX6_eightBits_26 rfl ?_
      refine w_iadd dX6_eightBits_30 ?_
      refine w_istore_n (ls2 := [some (.ref q), some (.int (nI A)), some (.int ((x * 2) + 1)), some (.int (nI (A + i)))]) dX6_eightBits_31 (by decide) rfl rfl ?_
      refine w_iinc (v := nI ((A + i) + 1)) (ls2 := [some (.ref q), some (.int (nI A)), some (.int ((x * 2) + 1)), some (.int (nI ((A + i) + 1)))]) dX6_eightBits_32 rfl (nI_1 _) (by decide) rfl rfl ?_
      refine w_goto (tgt := 4) dX6_eightBits_35 rfl ?_
      exact ih (i + 1) _ (by omega) (by rw [e]; simp [fld, *])
set_option maxRecDepth 100000 in
set_option maxHeartbeats 4000000 in
theorem c_eightBits {G : wG} {d : Nat} {h : hH} {Q : Option Value → hH → Prop} {q qc qo qg qz qw : Nat} {go ln wn sd : Int32} {c : Nat} {A : Nat} {fo : Nat → Int32} (hw : hHas h [q, qo] [(oC 6 [.ref qc, .ref qo, .ref qg, .ref qz, .ref qw, .int go, .int ln, .int wn, .int sd, .int (nI c)]), (aB 4096 fo)]) (hA : A + 8 ≤ 4096) (k : Q (some (.int (fld (fun t s => s * 2 + (if fo t = 1 then 1 else 0)) (A) (8) 0))) h) : Cl G yX6_eightBits d 0 0 [.ref q, .int (nI A)] h Q := by
  refine Cl.of (ini := false) kX6_eightBits (plainFor_of_name (by decide)) (by decide) (Nat.le_of_ble_eq_true rfl) rfl rfl (fun z => by cases z) ?_
  refine w_iconst (v := 0) dX6_eightBits_0 (by decide) ?_
  refine w_istore_n (ls2 := [some (.ref q), some (.int (nI A)), some (.int 0), none]) dX6_eightBits_1 (by decide) rfl rfl ?_
  refine w_iload_n dX6_eightBits_2 rfl ?_
  refine w_istore_n (ls2 := [some (.ref q), some (.int (nI A)), some (.int 0), some (.int (nI A))]) dX6_eightBits_3 (by decide) rfl rfl ?_
  exact l_eightBits hw hA k (8) 0 _ (by omega) rfl
def smN (M Y c : Nat) : Nat := if M * (Y - 1) < c then (c - 1 - M * (Y - 1)) / Y + 1 else 0
set_option maxRecDepth 100000 in
set_option maxHeartbeats 4000000 in
theorem c_summedMany {G : wG} {d : Nat} {h : hH} {Q : Option Value → hH → Prop} {q qc qo qg qz qw : Nat} {go ln wn sd : Int32} {c : Nat} {M Y : Nat} (hw : hHas h [q] [(oC 6 [.ref qc, .ref qo, .ref qg, .ref qz, .ref qw, .int go, .int ln, .int wn, .int sd, .int (nI c)])]) (hM : M ≤ 3) (hY : 2 ≤ Y) (hY2 : Y ≤ 32) (hc : c ≤ 4096) (k : Q (some (.int (nI (smN M Y c)))) h) : Cl G yX6_summedMany d 0 0 [.ref q, .int (nI M), .int (nI Y)] h Q := by
  refine Cl.of (ini := false) kX6_summedMany (plainFor_of_name (by decide)) (by decide) (Nat.le_of_ble_eq_true rfl) rfl rfl (fun z => by cases z) ?_
  have hMY : M * (Y - 1) ≤ 93 := Nat.le_trans (Nat.mul_le_mul hM (show Y - 1 ≤ 31 by omega)) (by decide)
  refine w_iload_n dX6_summedMany_0 rfl ?_
  refine w_iload_n dX6_summedMany_1 rfl ?_
  refine w_iconst (v := 1) dX6_summedMany_2 (by decide) ?_
  refine w_isubE (z := nI (Y - 1)) dX6_summedMany_3 (pk_sub (a := Y) (b := 1) (by omega)) ?_
  refine w_imulE (z := nI (M * (Y - 1))) dX6_summedMany_4 (pk_mul (M) ((Y - 1))) ?_
  refine w_istore_n (ls2 := [some (.ref q), some (.int (nI M)), some (.int (nI Y)), some (.int (nI (M * (Y - 1))))]) dX6_summedMany_5 (by decide) rfl rfl ?_
  refine w_iload_n dX6_summedMany_6 rfl ?_
  refine w_iconst (v := 1) dX6_summedMany_7 (by decide) ?_
  refine w_icmp_lt_f (tgt := 19) dX6_summedMany_8 rfl (fun z => absurd ((nI_ltI (a := Y) (b := 1) (by omega) (by omega)).mp z) (by omega)) ?_
  refine w_iload_n dX6_summedMany_11 rfl ?_
  refine w_aload_n dX6_summedMany_12 rfl ?_
  refine w_get (v := .int (nI c)) fX6_60 (hw 0 _ _ rfl rfl) rfl dX6_summedMany_13 ?_
  refine w_icmp_lt (tgt := 23) dX6_summedMany_16 rfl (fun b16 => ?_) (fun b16 => ?_)
  · have b16 := (nI_ltI (a := (M * (Y - 1))) (b := c) (by omega) (by omega)).mp b16
    refine w_aload_n dX6_summedMany_23 rfl ?_
    refine w_get (v := .int (nI c)) fX6_60 (hw 0 _ _ rfl rfl) rfl dX6_summedMany_24 ?_
    refine w_iconst (v := 1) dX6_summedMany_27 (by decide) ?_
    refine w_isubE (z := nI (c - 1)) dX6_summedMany_28 (pk_sub (a := c) (b := 1) (by omega)) ?_
    refine w_iload_n dX6_summedMany_29 rfl ?_
    refine w_isubE (z := nI ((c - 1) - (M * (Y - 1)))) dX6_summedMany_30 (pk_sub (a := (c - 1)) (b := (M * (Y - 1))) (by omega)) ?_
    refine w_iload_n dX6_summedMany_31 rfl ?_
    refine w_idivE (z := nI (((c - 1) - (M * (Y - 1))) / Y)) dX6_summedMany_32 (nI_ne0 (by omega) (by omega)) (pk_div (a := ((c - 1) - (M * (Y - 1)))) (d := Y) (by omega) (by omega) (by omega)) ?_
    refine w_iconst (v := 1) dX6_summedMany_33 (by decide) ?_
    refine w_iaddE (z := nI ((((c - 1) - (M * (Y - 1))) / Y) + 1)) dX6_summedMany_34 (nI_add ((((c - 1) - (M * (Y - 1))) / Y)) (1)) ?_
    refine w_ireturn rfl dX6_summedMany_35 (Nat.le_of_ble_eq_true rfl) (Nat.le_of_ble_eq_true rfl) ?_
    rw [smN, if_pos (by omega)] at k
    exact k
  · have b16 : ¬ (M * (Y - 1)) < c := fun z => b16 ((nI_ltI (a := (M * (Y - 1))) (b := c) (by omega) (by omega)).mpr z)
    refine w_iconst (v := 0) dX6_summedMany_19 (by decide) ?_
    refine w_goto (tgt := 35) dX6_summedMany_20 rfl ?_
    refine w_ireturn rfl dX6_summedMany_35 (Nat.le_of_ble_eq_true rfl) (Nat.le_of_ble_eq_true rfl) ?_
    rw [smN, if_neg (by omega)] at k
    exact k
set_option maxRecDepth 100000 in
set_option maxHeartbeats 4000000 in
theorem l_weighedOuts {G : wG} {d : Nat} {h : hH} {Q : Option Value → hH → Prop} {q qc qo qg qz qw : Nat} {go ln wn sd : Int32} {c : Nat} {A mm qv qr : Nat} {fo fw : Nat → Int32} (hw : hHas h [q, qo, qv, qr] [(oC 6 [.ref qc, .ref qo, .ref qg, .ref qz, .ref qw, .int go, .int ln, .int wn, .int sd, .int (nI c)]), (aB 4096 fo), (oC 8 [.ref qr, .int (nI mm)]), (aI 94 fw)]) (hA : A + mm ≤ 4096) (hm : mm ≤ 94) (k : Q (some (.int (fld (fun j s => s + fw j * fo (A + j)) (0) (mm) 0))) h) : ∀ (n : Nat) (i : Nat) (x : Int32), i + n = mm → x = fld (fun j s => s + fw j * fo (A + j)) (0) (i) 0 → WP G RX6 cX6_weighedOuts 5 (some .int) false d 0 0 0 0 Q 5 [some (.ref q), some (.ref qv), some (.int (nI A)), some (.int x), some (.int (nI i))] [] h := by
  intro n
  induction n with
  | zero =>
    intro i x hi e
    refine w_iload dX6_weighedOuts_5 rfl ?_
    refine w_aload_n dX6_weighedOuts_7 rfl ?_
    refine w_get (v := .int (nI mm)) fX6_114 (hw 2 _ _ rfl rfl) rfl dX6_weighedOuts_8 ?_
    refine w_icmp_ge_t (tgt := 40) dX6_weighedOuts_11 rfl ((nI_leI (a := mm) (b := i) (by omega) (by omega)).mpr (by omega)) ?_
    refine w_iload_n dX6_weighedOuts_40 rfl ?_
    refine w_ireturn rfl dX6_weighedOuts_41 (Nat.le_of_ble_eq_true rfl) (Nat.le_of_ble_eq_true rfl) ?_
    have z : i = mm := by omega
    subst z
    rw [← e] at k
    exact k
  | succ n ih =>
    intro i x hi e
    refine w_iload dX6_weighedOuts_5 rfl ?_
    refine w_aload_n dX6_weighedOuts_7 rfl ?_
    refine w_get (v := .int (nI mm)) fX6_114 (hw 2 _ _ rfl rfl) rfl dX6_weighedOuts_8 ?_
    refine w_icmp_ge_f (tgt := 40) dX6_weighedOuts_11 rfl (fun z => absurd ((nI_leI (a := mm) (b := i) (by omega) (by omega)).mp z) (by omega)) ?_
    refine w_iload_n dX6_weighedOuts_14 rfl ?_
    refine w_aload_n dX6_weighedOuts_15 rfl ?_
    refine w_get (v := .ref qr) fX6_119 (hw 2 _ _ rfl rfl) rfl dX6_weighedOuts_16 ?_
    refine w_iload dX6_weighedOuts_19 rfl ?_
    refine w_ialoadN (hw 3 _ _ rfl rfl) (by omega) (by omega) dX6_weighedOuts_21 ?_
    refine w_aload_n dX6_weighedOuts_22 rfl ?_
    refine w_get (v := .ref qo) fX6_18 (hw 0 _ _ rfl rfl) rfl dX6_weighedOuts_23 ?_
    refine w_iload_n dX6_weighedOuts_26 rfl ?_
    refine w_iload dX6_weighedOuts_27 rfl ?_
    refine w_iaddE (z := nI (A + i)) dX6_weighedOuts_29 (nI_add (A) (i)) ?_
    refine w_baloadN (hw 1 _ _ rfl rfl) (by omega) (by omega) dX6_weighedOuts_30 ?_
    refine w_imul dX6_weighedOuts_31 ?_
    refine w_iadd dX6_weighedOuts_32 ?_
    refine w_istore_n (ls2 := [some (.ref q), some (.ref qv), some (.int (nI A)), some (.int (x + ((fw i) * (fo (A + i))))), some (.int (nI i))]) dX6_weighedOuts_33 (by decide) rfl rfl ?_
    refine w_iinc (v := nI (i + 1)) (ls2 := [some (.ref q), some (.ref qv), some (.int (nI A)), some (.int (x + ((fw i) * (fo (A + i))))), some (.int (nI (i + 1)))]) dX6_weighedOuts_34 rfl (nI_1 _) (by decide) rfl rfl ?_
    refine w_goto (tgt := 5) dX6_weighedOuts_37 rfl ?_
    exact ih (i + 1) _ (by omega) (by rw [e]; simp [fld, *])
set_option maxRecDepth 100000 in
set_option maxHeartbeats 4000000 in
theorem c_weighedOuts {G : wG} {d : Nat} {h : hH} {Q : Option Value → hH → Prop} {q qc qo qg qz qw : Nat} {go ln wn sd : Int32} {c : Nat} {A mm qv qr : Nat} {fo fw : Nat → Int32} (hw : hHas h [q, qo, qv, qr] [(oC 6 [.ref qc, .ref qo, .ref qg, .ref qz, .ref qw, .int go, .int ln, .int wn, .int sd, .int (nI c)]), (aB 4096 fo), (oC 8 [.ref qr, .int (nI mm)]), (aI 94 fw)]) (hA : A + mm ≤ 4096) (hm : mm ≤ 94) (k : Q (some (.int (fld (fun j s => s + fw j * fo (A + j)) (0) (mm) 0))) h) : Cl G yX6_weighedOuts d 0 0 [.ref q, .ref qv, .int (nI A)] h Q := by
  refine Cl.of (ini := false) kX6_weighedOuts (plainFor_of_name (by decide)) (by decide) (Nat.le_of_ble_eq_true rfl) rfl rfl (fun z => by cases z) ?_
  refine w_iconst (v := 0) dX6_weighedOuts_0 (by decide) ?_
  refine w_istore_n (ls2 := [some (.ref q), some (.ref qv), some (.int (nI A)), some (.int 0), none]) dX6_weighedOuts_1 (by decide) rfl rfl ?_
  refine w_iconst (v := (nI 0)) dX6_weighedOuts_2 (by decide) ?_
  refine w_istore (ls2 := [some (.ref q), some (.ref qv), some (.int (nI A)), some (.int 0), some (.int (nI 0))]) dX6_weighedOuts_3 (by decide) rfl rfl ?_
  exact l_weighedOuts hw hA hm k (mm) 0 _ (by omega) rfl
set_option maxRecDepth 100000 in
set_option maxHeartbeats 4000000 in
theorem l_weighedGaps {G : wG} {d : Nat} {h : hH} {Q : Option Value → hH → Prop} {q qc qo qg qz qw : Nat} {go ln wn sd : Int32} {c : Nat} {A mm qv qr : Nat} {fg fw : Nat → Int32} (hw : hHas h [q, qg, qv, qr] [(oC 6 [.ref qc, .ref qo, .ref qg, .ref qz, .ref qw, .int go, .int ln, .int wn, .int sd, .int (nI c)]), (aI 4096 fg), (oC 8 [.ref qr, .int (nI mm)]), (aI 94 fw)]) (hA : A + mm ≤ 4096) (hm : mm ≤ 94) (k : Q (some (.int (fld (fun j s => s + fw j * fg (A + j)) (0) (mm) 0))) h) : ∀ (n : Nat) (i : Nat) (x : Int32), i + n = mm → x = fld (fun j s => s + fw j * fg (A + j)) (0) (i) 0 → WP G RX6 cX6_weighedGaps 5 (some .int) false d 0 0 0 0 Q 5 [some (.ref q), some (.ref qv), some (.int (nI A)), some (.int x), some (.int (nI i))] [] h := by
  intro n
  induction n with
  | zero =>
    intro i x hi e
    refine w_iload dX6_weighedGaps_5 rfl ?_
    refine w_aload_n dX6_weighedGaps_7 rfl ?_
    refine w_get (v := .int (nI mm)) fX6_114 (hw 2 _ _ rfl rfl) rfl dX6_weighedGaps_8 ?_
    refine w_icmp_ge_t (tgt := 40) dX6_weighedGaps_11 rfl ((nI_leI (a := mm) (b := i) (by omega) (by omega)).mpr (by omega)) ?_
    refine w_iload_n dX6_weighedGaps_40 rfl ?_
    refine w_ireturn rfl dX6_weighedGaps_41 (Nat.le_of_ble_eq_true rfl) (Nat.le_of_ble_eq_true rfl) ?_
    have z : i = mm := by omega
    subst z
    rw [← e] at k
    exact k
  | succ n ih =>
    intro i x hi e
    refine w_iload dX6_weighedGaps_5 rfl ?_
    refine w_aload_n dX6_weighedGaps_7 rfl ?_
    refine w_get (v := .int (nI mm)) fX6_114 (hw 2 _ _ rfl rfl) rfl dX6_weighedGaps_8 ?_
    refine w_icmp_ge_f (tgt := 40) dX6_weighedGaps_11 rfl (fun z => absurd ((nI_leI (a := mm) (b := i) (by omega) (by omega)).mp z) (by omega)) ?_
    refine w_iload_n dX6_weighedGaps_14 rfl ?_
    refine w_aload_n dX6_weighedGaps_15 rfl ?_
    refine w_get (v := .ref qr) fX6_119 (hw 2 _ _ rfl rfl) rfl dX6_weighedGaps_16 ?_
    refine w_iload dX6_weighedGaps_19 rfl ?_
    refine w_ialoadN (hw 3 _ _ rfl rfl) (by omega) (by omega) dX6_weighedGaps_21 ?_
    refine w_aload_n dX6_weighedGaps_22 rfl ?_
    refine w_get (v := .ref qg) fX6_22 (hw 0 _ _ rfl rfl) rfl dX6_weighedGaps_23 ?_
    refine w_iload_n dX6_weighedGaps_26 rfl ?_
    refine w_iload dX6_weighedGaps_27 rfl ?_
    refine w_iaddE (z := nI (A + i)) dX6_weighedGaps_29 (nI_add (A) (i)) ?_
    refine w_ialoadN (hw 1 _ _ rfl rfl) (by omega) (by omega) dX6_weighedGaps_30 ?_
    refine w_imul dX6_weighedGaps_31 ?_
    refine w_iadd dX6_weighedGaps_32 ?_
    refine w_istore_n (ls2 := [some (.ref q), some (.ref qv), some (.int (nI A)), some (.int (x + ((fw i) * (fg (A + i))))), some (.int (nI i))]) dX6_weighedGaps_33 (by decide) rfl rfl ?_
    refine w_iinc (v := nI (i + 1)) (ls2 := [some (.ref q), some (.ref qv), some (.int (nI A)), some (.int (x + ((fw i) * (fg (A + i))))), some (.int (nI (i + 1)))]) dX6_weighedGaps_34 rfl (nI_1 _) (by decide) rfl rfl ?_
    refine w_goto (tgt := 5) dX6_weighedGaps_37 rfl ?_
    exact ih (i + 1) _ (by omega) (by rw [e]; simp [fld, *])
set_option maxRecDepth 100000 in
set_option maxHeartbeats 4000000 in
theorem c_weighedGaps {G : wG} {d : Nat} {h : hH} {Q : Option Value → hH → Prop} {q qc qo qg qz qw : Nat} {go ln wn sd : Int32} {c : Nat} {A mm qv qr : Nat} {fg fw : Nat → Int32} (hw : hHas h [q, qg, qv, qr] [(oC 6 [.ref qc, .ref qo, .ref qg, .ref qz, .ref qw, .int go, .int ln, .int wn, .int sd, .int (nI c)]), (aI 4096 fg), (oC 8 [.ref qr, .int (nI mm)]), (aI 94 fw)]) (hA : A + mm ≤ 4096) (hm : mm ≤ 94) (k : Q (some (.int (fld (fun j s => s + fw j * fg (A + j)) (0) (mm) 0))) h) : Cl G yX6_weighedGaps d 0 0 [.ref q, .ref qv, .int (nI A)] h Q := by
  refine Cl.of (ini := false) kX6_weighedGaps (plainFor_of_name (by decide)) (by decide) (Nat.le_of_ble_eq_true rfl) rfl rfl (fun z => by cases z) ?_
  refine w_iconst (v := 0) dX6_weighedGaps_0 (by decide) ?_
  refine w_istore_n (ls2 := [some (.ref q), some (.ref qv), some (.int (nI A)), some (.int 0), none]) dX6_weighedGaps_1 (by decide) rfl rfl ?_
  refine w_iconst (v := (nI 0)) dX6_weighedGaps_2 (by decide) ?_
  refine w_istore (ls2 := [some (.ref q), some (.ref qv), some (.int (nI A)), some (.int 0), some (.int (nI 0))]) dX6_weighedGaps_3 (by decide) rfl rfl ?_
  exact l_weighedGaps hw hA hm k (mm) 0 _ (by omega) rfl
def hasG (go x : Int32) (n : Nat) : Int32 := if ¬ go = 0 ∧ 0 ≤ x ∧ x < nI n then 1 else 0
set_option maxRecDepth 100000 in
set_option maxHeartbeats 4000000 in
theorem c_hasStage {G : wG} {d : Nat} {h : hH} {Q : Option Value → hH → Prop} {q qc qo qg qz qw : Nat} {go ln wn sd : Int32} {c : Nat} {qs ql qf n : Nat} {cn rg cl nm bd nz th x : Int32} (hw : hHas h [q, qc, ql] [(oC 6 [.ref qc, .ref qo, .ref qg, .ref qz, .ref qw, .int go, .int ln, .int wn, .int sd, .int (nI c)]), (oC 0 [.ref qs, .ref ql, .int cn, .int rg, .int cl]), (oC 3 [.ref qf, .int nm, .int (nI n), .int bd, .int nz, .int th])])  (k : Q (some (.int (hasG go x n))) h) : Cl G yX6_hasStage d 0 0 [.ref q, .int x] h Q := by
  refine Cl.of (ini := false) kX6_hasStage (plainFor_of_name (by decide)) (by decide) (Nat.le_of_ble_eq_true rfl) rfl rfl (fun z => by cases z) ?_
  refine w_aload_n dX6_hasStage_0 rfl ?_
  refine w_get (v := .int go) fX6_69 (hw 0 _ _ rfl rfl) rfl dX6_hasStage_1 ?_
  refine w_if_eq (tgt := 29) dX6_hasStage_4 rfl (fun b4 => ?_) (fun b4 => ?_)
  · refine w_iconst (v := 0) dX6_hasStage_29 (by decide) ?_
    refine w_zreturn rfl dX6_hasStage_30 rfl (Nat.le_of_ble_eq_true rfl) (Nat.le_of_ble_eq_true rfl) ?_
    have e0 : hasG go x n = 0 := by
      rw [hasG, if_neg (fun z => z.1 b4)]
    rw [e0] at k
    exact k
  · refine w_iload_n dX6_hasStage_7 rfl ?_
    refine w_if_lt (tgt := 29) dX6_hasStage_8 rfl (fun b8 => ?_) (fun b8 => ?_)
    · refine w_iconst (v := 0) dX6_hasStage_29 (by decide) ?_
      refine w_zreturn rfl dX6_hasStage_30 rfl (Nat.le_of_ble_eq_true rfl) (Nat.le_of_ble_eq_true rfl) ?_
      have e0 : hasG go x n = 0 := by
        rw [hasG, if_neg (fun z => absurd z.2.1 (by simpa using b8))]
      rw [e0] at k
      exact k
    · refine w_iload_n dX6_hasStage_11 rfl ?_
      refine w_aload_n dX6_hasStage_12 rfl ?_
      refine w_get (v := .ref qc) fX6_12 (hw 0 _ _ rfl rfl) rfl dX6_hasStage_13 ?_
      refine w_get (v := .ref ql) fX6_101 (hw 1 _ _ rfl rfl) rfl dX6_hasStage_16 ?_
      refine w_get (v := .int (nI n)) fX6_105 (hw 2 _ _ rfl rfl) rfl dX6_hasStage_19 ?_
      refine w_icmp_ge (tgt := 29) dX6_hasStage_22 rfl (fun b22 => ?_) (fun b22 => ?_)
      · refine w_iconst (v := 0) dX6_hasStage_29 (by decide) ?_
        refine w_zreturn rfl dX6_hasStage_30 rfl (Nat.le_of_ble_eq_true rfl) (Nat.le_of_ble_eq_true rfl) ?_
        have e0 : hasG go x n = 0 := by
          rw [hasG, if_neg (fun z => absurd z.2.2 (by simpa using b22))]
        rw [e0] at k
        exact k
      · refine w_iconst (v := 1) dX6_hasStage_25 (by decide) ?_
        refine w_goto (tgt := 30) dX6_hasStage_26 rfl ?_
        refine w_zreturn rfl dX6_hasStage_30 rfl (Nat.le_of_ble_eq_true rfl) (Nat.le_of_ble_eq_true rfl) ?_
        have e0 : hasG go x n = 1 := by
          rw [hasG, if_pos ⟨b4, by simpa using b8, by simpa using b22⟩]
        rw [e0] at k
        exact k
