/-- what a loop, a wave, a run, a cycle tells by number -/
def lpP (n : Nat) (f : Nat → Int32) (bd nz th : Int32) (j : Nat) : Int32 := match j with | 0 => nI n | 4 => bd | 5 => (if th = 0 then 2 else 3) | 6 => nz | j => f (j - 1)
def wvP (W : wP) (j : Nat) : Int32 := match j with | 0 => nI W.2.2.2.2.1 | 1 => nI W.2.2.2.2.2 | 2 => lowF W W.2.2.2.2.2 | _ => topF W W.2.2.2.2.2
def rnP (ln wn c rg cl : Int32) (j : Nat) : Int32 := match j with | 0 => ln | 1 => wn | 2 => c | 3 => rg | _ => cl
def cyP (y1 y2 y3 y4 y5 : Int32) (j : Nat) : Int32 := match j with | 1 => y1 | 2 => y2 | 3 => y3 | 4 => y4 | _ => y5
set_option maxRecDepth 100000 in
set_option maxHeartbeats 4000000 in
theorem c_Loop_property {G : wG} {d : Nat} {h : hH} {Q : Option Value → hH → Prop} {q qf n j : Nat} {nm bd nz th : Int32} {f : Nat → Int32} (hw : hHas h [q, qf] [(oC 3 [.ref qf, .int nm, .int (nI n), .int bd, .int nz, .int th]), (aI 3 f)]) (hj : j ≤ 6) (k : Q (some (.int (lpP n f bd nz th j))) h) : Cl G yX3_property d 0 0 [.ref q, .int (nI j)] h Q := by
  refine Cl.of (ini := false) kX3_property (plainFor_of_name (by decide)) (by decide) (Nat.le_of_ble_eq_true rfl) rfl rfl (fun z => by cases z) ?_
  obtain rfl | rfl | rfl | rfl | rfl | rfl | rfl : j = 0 ∨ j = 1 ∨ j = 2 ∨ j = 3 ∨ j = 4 ∨ j = 5 ∨ j = 6 := by omega
  · refine w_iload_n dX3_property_0 rfl ?_
    refine w_tableIn (off := 43) (tgt := 44) dX3_property_1 (by decide) (by decide) rfl rfl ?_
    refine w_aload_n dX3_property_44 rfl ?_
    refine w_get (v := .int (nI n)) fX3_25 (hw 0 _ _ rfl rfl) rfl dX3_property_45 ?_
    refine w_ireturn rfl dX3_property_48 (Nat.le_of_ble_eq_true rfl) (Nat.le_of_ble_eq_true rfl) ?_
    exact k
  · refine w_iload_n dX3_property_0 rfl ?_
    refine w_tableIn (off := 71) (tgt := 72) dX3_property_1 (by decide) (by decide) rfl rfl ?_
    refine w_iload_n dX3_property_72 rfl ?_
    refine w_iconst (v := 1) dX3_property_73 (by decide) ?_
    refine w_icmp_lt_f (tgt := 93) dX3_property_74 rfl (fun z => absurd ((nI_ltI (a := 1) (b := 1) (by omega) (by omega)).mp z) (by omega)) ?_
    refine w_iload_n dX3_property_77 rfl ?_
    refine w_iconst (v := 3) dX3_property_78 (by decide) ?_
    refine w_icmp_gt_f (tgt := 93) dX3_property_79 rfl (fun z => absurd ((nI_ltI (a := 3) (b := 1) (by omega) (by omega)).mp z) (by omega)) ?_
    refine w_aload_n dX3_property_82 rfl ?_
    refine w_get (v := .ref qf) fX3_9 (hw 0 _ _ rfl rfl) rfl dX3_property_83 ?_
    refine w_iload_n dX3_property_86 rfl ?_
    refine w_iconst (v := 1) dX3_property_87 (by decide) ?_
    refine w_isubE (z := nI (1 - 1)) dX3_property_88 (pk_sub (a := 1) (b := 1) (by omega)) ?_
    refine w_ialoadN (hw 1 _ _ rfl rfl) (by omega) (by omega) dX3_property_89 ?_
    refine w_goto (tgt := 94) dX3_property_90 rfl ?_
    refine w_ireturn rfl dX3_property_94 (Nat.le_of_ble_eq_true rfl) (Nat.le_of_ble_eq_true rfl) ?_
    exact k
  · refine w_iload_n dX3_property_0 rfl ?_
    refine w_tableIn (off := 71) (tgt := 72) dX3_property_1 (by decide) (by decide) rfl rfl ?_
    refine w_iload_n dX3_property_72 rfl ?_
    refine w_iconst (v := 1) dX3_property_73 (by decide) ?_
    refine w_icmp_lt_f (tgt := 93) dX3_property_74 rfl (fun z => absurd ((nI_ltI (a := 2) (b := 1) (by omega) (by omega)).mp z) (by omega)) ?_
    refine w_iload_n dX3_property_77 rfl ?_
    refine w_iconst (v := 3) dX3_property_78 (by decide) ?_
    refine w_icmp_gt_f (tgt := 93) dX3_property_79 rfl (fun z => absurd ((nI_ltI (a := 3) (b := 2) (by omega) (by omega)).mp z) (by omega)) ?_
    refine w_aload_n dX3_property_82 rfl ?_
    refine w_get (v := .ref qf) fX3_9 (hw 0 _ _ rfl rfl) rfl dX3_property_83 ?_
    refine w_iload_n dX3_property_86 rfl ?_
    refine w_iconst (v := 1) dX3_property_87 (by decide) ?_
    refine w_isubE (z := nI (2 - 1)) dX3_property_88 (pk_sub (a := 2) (b := 1) (by omega)) ?_
    refine w_ialoadN (hw 1 _ _ rfl rfl) (by omega) (by omega) dX3_property_89 ?_
    refine w_goto (tgt := 94) dX3_property_90 rfl ?_
    refine w_ireturn rfl dX3_property_94 (Nat.le_of_ble_eq_true rfl) (Nat.le_of_ble_eq_true rfl) ?_
    exact k
  · refine w_iload_n dX3_property_0 rfl ?_
    refine w_tableIn (off := 71) (tgt := 72) dX3_property_1 (by decide) (by decide) rfl rfl ?_
    refine w_iload_n dX3_property_72 rfl ?_
    refine w_iconst (v := 1) dX3_property_73 (by decide) ?_
    refine w_icmp_lt_f (tgt := 93) dX3_property_74 rfl (fun z => absurd ((nI_ltI (a := 3) (b := 1) (by omega) (by omega)).mp z) (by omega)) ?_
    refine w_iload_n dX3_property_77 rfl ?_
    refine w_iconst (v := 3) dX3_property_78 (by decide) ?_
    refine w_icmp_gt_f (tgt := 93) dX3_property_79 rfl (fun z => absurd ((nI_ltI (a := 3) (b := 3) (by omega) (by omega)).mp z) (by omega)) ?_
    refine w_aload_n dX3_property_82 rfl ?_
    refine w_get (v := .ref qf) fX3_9 (hw 0 _ _ rfl rfl) rfl dX3_property_83 ?_
    refine w_iload_n dX3_property_86 rfl ?_
    refine w_iconst (v := 1) dX3_property_87 (by decide) ?_
    refine w_isubE (z := nI (3 - 1)) dX3_property_88 (pk_sub (a := 3) (b := 1) (by omega)) ?_
    refine w_ialoadN (hw 1 _ _ rfl rfl) (by omega) (by omega) dX3_property_89 ?_
    refine w_goto (tgt := 94) dX3_property_90 rfl ?_
    refine w_ireturn rfl dX3_property_94 (Nat.le_of_ble_eq_true rfl) (Nat.le_of_ble_eq_true rfl) ?_
    exact k
  · refine w_iload_n dX3_property_0 rfl ?_
    refine w_tableIn (off := 48) (tgt := 49) dX3_property_1 (by decide) (by decide) rfl rfl ?_
    refine w_aload_n dX3_property_49 rfl ?_
    refine w_get (v := .int bd) fX3_28 (hw 0 _ _ rfl rfl) rfl dX3_property_50 ?_
    refine w_ireturn rfl dX3_property_53 (Nat.le_of_ble_eq_true rfl) (Nat.le_of_ble_eq_true rfl) ?_
    exact k
  · refine w_iload_n dX3_property_0 rfl ?_
    refine w_tableIn (off := 53) (tgt := 54) dX3_property_1 (by decide) (by decide) rfl rfl ?_
    refine w_aload_n dX3_property_54 rfl ?_
    refine w_get (v := .int th) fX3_34 (hw 0 _ _ rfl rfl) rfl dX3_property_55 ?_
    refine w_if_eq (tgt := 65) dX3_property_58 rfl (fun b58 => ?_) (fun b58 => ?_)
    · refine w_iconst (v := 2) dX3_property_65 (by decide) ?_
      refine w_ireturn rfl dX3_property_66 (Nat.le_of_ble_eq_true rfl) (Nat.le_of_ble_eq_true rfl) ?_
      have e : lpP n f bd nz th 5 = 2 := by
        show (if th = 0 then (2 : Int32) else 3) = _
        rw [if_pos b58]
      rw [e] at k
      exact k
    · refine w_iconst (v := 3) dX3_property_61 (by decide) ?_
      refine w_goto (tgt := 66) dX3_property_62 rfl ?_
      refine w_ireturn rfl dX3_property_66 (Nat.le_of_ble_eq_true rfl) (Nat.le_of_ble_eq_true rfl) ?_
      have e : lpP n f bd nz th 5 = 3 := by
        show (if th = 0 then (2 : Int32) else 3) = _
        rw [if_neg b58]
      rw [e] at k
      exact k
  · refine w_iload_n dX3_property_0 rfl ?_
    refine w_tableIn (off := 66) (tgt := 67) dX3_property_1 (by decide) (by decide) rfl rfl ?_
    refine w_aload_n dX3_property_67 rfl ?_
    refine w_get (v := .int nz) fX3_31 (hw 0 _ _ rfl rfl) rfl dX3_property_68 ?_
    refine w_ireturn rfl dX3_property_71 (Nat.le_of_ble_eq_true rfl) (Nat.le_of_ble_eq_true rfl) ?_
    exact k
set_option maxRecDepth 100000 in
set_option maxHeartbeats 4000000 in
theorem c_Wave_property {G : wG} {d : Nat} {h : hH} {Q : Option Value → hH → Prop} {q qk qa qb qn : Nat} {nm : Int32} {W : wP} {j : Nat} (hw : hHas h [q, qk, qa, qb, qn] [(oC 7 [.ref qk, .ref qa, .ref qb, .ref qn, .int nm, .int (nI W.2.2.2.2.1), .int (nI W.2.2.2.2.2)]), (aI 8 W.1), (aI 8 W.2.1), (aI 8 W.2.2.1), (aI 8 W.2.2.2.1)]) (hj : j ≤ 3) (hP : W.2.2.2.2.1 ≤ 8) (hc : W.2.2.2.2.2 < 2 ^ 31) (k : Q (some (.int (wvP W j))) h) : Cl G yX7_property (d + 4) 0 0 [.ref q, .int (nI j)] h Q := by
  refine Cl.of (ini := false) kX7_property (plainFor_of_name (by decide)) (by decide) (Nat.le_of_ble_eq_true rfl) rfl rfl (fun z => by cases z) ?_
  obtain rfl | rfl | rfl | rfl : j = 0 ∨ j = 1 ∨ j = 2 ∨ j = 3 := by omega
  · refine w_iload_n dX7_property_0 rfl ?_
    refine w_tableIn (off := 27) (tgt := 28) dX7_property_1 (by decide) (by decide) rfl rfl ?_
    refine w_aload_n dX7_property_28 rfl ?_
    refine w_get (v := .int (nI W.2.2.2.2.1)) fX7_28 (hw 0 _ _ rfl rfl) rfl dX7_property_29 ?_
    refine w_ireturn rfl dX7_property_32 (Nat.le_of_ble_eq_true rfl) (Nat.le_of_ble_eq_true rfl) ?_
    exact k
  · refine w_iload_n dX7_property_0 rfl ?_
    refine w_tableIn (off := 32) (tgt := 33) dX7_property_1 (by decide) (by decide) rfl rfl ?_
    refine w_aload_n dX7_property_33 rfl ?_
    refine w_get (v := .int (nI W.2.2.2.2.2)) fX7_31 (hw 0 _ _ rfl rfl) rfl dX7_property_34 ?_
    refine w_ireturn rfl dX7_property_37 (Nat.le_of_ble_eq_true rfl) (Nat.le_of_ble_eq_true rfl) ?_
    exact k
  · refine w_iload_n dX7_property_0 rfl ?_
    refine w_tableIn (off := 37) (tgt := 38) dX7_property_1 (by decide) (by decide) rfl rfl ?_
    refine w_aload_n dX7_property_38 rfl ?_
    refine w_callV (ci := 7) (d' := d + 3) (mc' := 0) (ms' := 0) (As := []) (st := []) lX7_34 vX7_least rfl (hw 0 _ _ rfl rfl) rfl (Nat.le_of_ble_eq_true rfl) dX7_property_39 (Nat.le_of_ble_eq_true rfl) (Nat.le_of_ble_eq_true rfl) (Nat.le_refl _) (c_least (hHas_s hw (as' := [q, qk, qa, qb, qn]) (cs' := [(oC 7 [.ref qk, .ref qa, .ref qb, .ref qn, .int nm, .int (nI W.2.2.2.2.1), .int (nI W.2.2.2.2.2)]), (aI 8 W.1), (aI 8 W.2.1), (aI 8 W.2.2.1), (aI 8 W.2.2.2.1)]) [0, 1, 2, 3, 4] rfl rfl) hP hc ?_)
    refine w_ireturn rfl dX7_property_42 (Nat.le_of_ble_eq_true rfl) (Nat.le_of_ble_eq_true rfl) ?_
    exact k
  · refine w_iload_n dX7_property_0 rfl ?_
    refine w_tableOut (tgt := 43) dX7_property_1 (by decide) rfl ?_
    refine w_aload_n dX7_property_43 rfl ?_
    refine w_callV (ci := 7) (d' := d + 3) (mc' := 0) (ms' := 0) (As := []) (st := []) lX7_38 vX7_greatest rfl (hw 0 _ _ rfl rfl) rfl (Nat.le_of_ble_eq_true rfl) dX7_property_44 (Nat.le_of_ble_eq_true rfl) (Nat.le_of_ble_eq_true rfl) (Nat.le_refl _) (c_greatest (hHas_s hw (as' := [q, qk, qa, qb, qn]) (cs' := [(oC 7 [.ref qk, .ref qa, .ref qb, .ref qn, .int nm, .int (nI W.2.2.2.2.1), .int (nI W.2.2.2.2.2)]), (aI 8 W.1), (aI 8 W.2.1), (aI 8 W.2.2.1), (aI 8 W.2.2.2.1)]) [0, 1, 2, 3, 4] rfl rfl) hP hc ?_)
    refine w_ireturn rfl dX7_property_47 (Nat.le_of_ble_eq_true rfl) (Nat.le_of_ble_eq_true rfl) ?_
    exact k
set_option maxRecDepth 100000 in
set_option maxHeartbeats 4000000 in
theorem c_Run_property {G : wG} {d : Nat} {h : hH} {Q : Option Value → hH → Prop} {q qc qo qg qz qw qs ql j : Nat} {go ln wn sd c cn rg cl : Int32} (hw : hHas h [q, qc] [(oC 6 [.ref qc, .ref qo, .ref qg, .ref qz, .ref qw, .int go, .int ln, .int wn, .int sd, .int c]), (oC 0 [.ref qs, .ref ql, .int cn, .int rg, .int cl])]) (hj : j ≤ 4) (k : Q (some (.int (rnP ln wn c rg cl j))) h) : Cl G yX6_property d 0 0 [.ref q, .int (nI j)] h Q := by
  refine Cl.of (ini := false) kX6_property (plainFor_of_name (by decide)) (by decide) (Nat.le_of_ble_eq_true rfl) rfl rfl (fun z => by cases z) ?_
  obtain rfl | rfl | rfl | rfl | rfl : j = 0 ∨ j = 1 ∨ j = 2 ∨ j = 3 ∨ j = 4 := by omega
  · refine w_iload_n dX6_property_0 rfl ?_
    refine w_tableIn (off := 31) (tgt := 32) dX6_property_1 (by decide) (by decide) rfl rfl ?_
    refine w_aload_n dX6_property_32 rfl ?_
    refine w_get (v := .int ln) fX6_50 (hw 0 _ _ rfl rfl) rfl dX6_property_33 ?_
    refine w_ireturn rfl dX6_property_36 (Nat.le_of_ble_eq_true rfl) (Nat.le_of_ble_eq_true rfl) ?_
    exact k
  · refine w_iload_n dX6_property_0 rfl ?_
    refine w_tableIn (off := 36) (tgt := 37) dX6_property_1 (by decide) (by decide) rfl rfl ?_
    refine w_aload_n dX6_property_37 rfl ?_
    refine w_get (v := .int wn) fX6_54 (hw 0 _ _ rfl rfl) rfl dX6_property_38 ?_
    refine w_ireturn rfl dX6_property_41 (Nat.le_of_ble_eq_true rfl) (Nat.le_of_ble_eq_true rfl) ?_
    exact k
  · refine w_iload_n dX6_property_0 rfl ?_
    refine w_tableIn (off := 41) (tgt := 42) dX6_property_1 (by decide) (by decide) rfl rfl ?_
    refine w_aload_n dX6_property_42 rfl ?_
    refine w_get (v := .int c) fX6_60 (hw 0 _ _ rfl rfl) rfl dX6_property_43 ?_
    refine w_ireturn rfl dX6_property_46 (Nat.le_of_ble_eq_true rfl) (Nat.le_of_ble_eq_true rfl) ?_
    exact k
  · refine w_iload_n dX6_property_0 rfl ?_
    refine w_tableIn (off := 46) (tgt := 47) dX6_property_1 (by decide) (by decide) rfl rfl ?_
    refine w_aload_n dX6_property_47 rfl ?_
    refine w_get (v := .ref qc) fX6_12 (hw 0 _ _ rfl rfl) rfl dX6_property_48 ?_
    refine w_get (v := .int rg) fX6_95 (hw 1 _ _ rfl rfl) rfl dX6_property_51 ?_
    refine w_ireturn rfl dX6_property_54 (Nat.le_of_ble_eq_true rfl) (Nat.le_of_ble_eq_true rfl) ?_
    exact k
  · refine w_iload_n dX6_property_0 rfl ?_
    refine w_tableOut (tgt := 55) dX6_property_1 (by decide) rfl ?_
    refine w_aload_n dX6_property_55 rfl ?_
    refine w_get (v := .ref qc) fX6_12 (hw 0 _ _ rfl rfl) rfl dX6_property_56 ?_
    refine w_get (v := .int cl) fX6_98 (hw 1 _ _ rfl rfl) rfl dX6_property_59 ?_
    refine w_ireturn rfl dX6_property_62 (Nat.le_of_ble_eq_true rfl) (Nat.le_of_ble_eq_true rfl) ?_
    exact k
set_option maxRecDepth 100000 in
set_option maxHeartbeats 4000000 in
theorem c_Cycle_property {G : wG} {d : Nat} {h : hH} {Q : Option Value → hH → Prop} {q qc qv j : Nat} {y1 y2 y3 y4 y5 y6 y7 : Int32} (hw : hHas h [q] [(oC 1 [.ref qc, .ref qv, .int y1, .int y2, .int y3, .int y4, .int y5, .int y6, .int y7])]) (h1 : 1 ≤ j) (hj : j ≤ 5) (k : Q (some (.int (cyP y1 y2 y3 y4 y5 j))) h) : Cl G yX1_property d 0 0 [.ref q, .int (nI j)] h Q := by
  refine Cl.of (ini := false) kX1_property (plainFor_of_name (by decide)) (by decide) (Nat.le_of_ble_eq_true rfl) rfl rfl (fun z => by cases z) ?_
  obtain rfl | rfl | rfl | rfl | rfl : j = 1 ∨ j = 2 ∨ j = 3 ∨ j = 4 ∨ j = 5 := by omega
  · refine w_iload_n dX1_property_0 rfl ?_
    refine w_tableIn (off := 31) (tgt := 32) dX1_property_1 (by decide) (by decide) rfl rfl ?_
    refine w_aload_n dX1_property_32 rfl ?_
    refine w_get (v := .int y1) fX1_66 (hw 0 _ _ rfl rfl) rfl dX1_property_33 ?_
    refine w_ireturn rfl dX1_property_36 (Nat.le_of_ble_eq_true rfl) (Nat.le_of_ble_eq_true rfl) ?_
    exact k
  · refine w_iload_n dX1_property_0 rfl ?_
    refine w_tableIn (off := 36) (tgt := 37) dX1_property_1 (by decide) (by decide) rfl rfl ?_
    refine w_aload_n dX1_property_37 rfl ?_
    refine w_get (v := .int y2) fX1_69 (hw 0 _ _ rfl rfl) rfl dX1_property_38 ?_
    refine w_ireturn rfl dX1_property_41 (Nat.le_of_ble_eq_true rfl) (Nat.le_of_ble_eq_true rfl) ?_
    exact k
  · refine w_iload_n dX1_property_0 rfl ?_
    refine w_tableIn (off := 41) (tgt := 42) dX1_property_1 (by decide) (by decide) rfl rfl ?_
    refine w_aload_n dX1_property_42 rfl ?_
    refine w_get (v := .int y3) fX1_41 (hw 0 _ _ rfl rfl) rfl dX1_property_43 ?_
    refine w_ireturn rfl dX1_property_46 (Nat.le_of_ble_eq_true rfl) (Nat.le_of_ble_eq_true rfl) ?_
    exact k
  · refine w_iload_n dX1_property_0 rfl ?_
    refine w_tableIn (off := 46) (tgt := 47) dX1_property_1 (by decide) (by decide) rfl rfl ?_
    refine w_aload_n dX1_property_47 rfl ?_
    refine w_get (v := .int y4) fX1_72 (hw 0 _ _ rfl rfl) rfl dX1_property_48 ?_
    refine w_ireturn rfl dX1_property_51 (Nat.le_of_ble_eq_true rfl) (Nat.le_of_ble_eq_true rfl) ?_
    exact k
  · refine w_iload_n dX1_property_0 rfl ?_
    refine w_tableOut (tgt := 52) dX1_property_1 (by decide) rfl ?_
    refine w_aload_n dX1_property_52 rfl ?_
    refine w_get (v := .int y5) fX1_42 (hw 0 _ _ rfl rfl) rfl dX1_property_53 ?_
    refine w_ireturn rfl dX1_property_56 (Nat.le_of_ble_eq_true rfl) (Nat.le_of_ble_eq_true rfl) ?_
    exact k
set_option maxRecDepth 100000 in
set_option maxHeartbeats 4000000 in
theorem c_refused {G : wG} {d : Nat} {h : hH} {Q : Option Value → hH → Prop} {b pp tp : Nat} {ht sd fa pl tr : Int32} {x y : Int32} (hw : hHas h [b] [(oC 9 [.ref (b + 1), .ref (b + 14), .ref (b + 17), .ref (b + 19), .ref (b + 25), .ref (b + 29), .ref (b + 33), .ref pp, .int ht, .int (nI tp), .int sd, .int fa, .int pl, .int tr])]) (nd : [b].Nodup)  (k : Q (some (.int y)) (hUs h [b] [(oC 9 [.ref (b + 1), .ref (b + 14), .ref (b + 17), .ref (b + 19), .ref (b + 25), .ref (b + 29), .ref (b + 33), .ref pp, .int ht, .int (nI tp), .int sd, .int fa, .int (-1), .int x])])) : Cl G yX9_refused d 0 0 [.ref b, .int x, .int y] h Q := by
  refine Cl.of (ini := false) kX9_refused (plainFor_of_name (by decide)) (by decide) (Nat.le_of_ble_eq_true rfl) rfl rfl (fun z => by cases z) ?_
  refine w_heq (hUs_id hw).symm ?_
  refine w_aload_n dX9_refused_0 rfl ?_
  refine w_iload_n dX9_refused_1 rfl ?_
  refine w_put (fs' := [.ref (b + 1), .ref (b + 14), .ref (b + 17), .ref (b + 19), .ref (b + 25), .ref (b + 29), .ref (b + 33), .ref pp, .int ht, .int (nI tp), .int sd, .int fa, .int pl, .int x]) fX9_297 (hUs_at nd 0 rfl rfl) rfl rfl (Nat.le_of_ble_eq_true rfl) rfl dX9_refused_2 ?_
  refine w_heq (hUs_set nd rfl 0 (cs' := [(oC 9 [.ref (b + 1), .ref (b + 14), .ref (b + 17), .ref (b + 19), .ref (b + 25), .ref (b + 29), .ref (b + 33), .ref pp, .int ht, .int (nI tp), .int sd, .int fa, .int pl, .int x])]) rfl rfl) ?_
  refine w_aload_n dX9_refused_5 rfl ?_
  refine w_iconst (v := (-1)) dX9_refused_6 (by decide) ?_
  refine w_put (fs' := [.ref (b + 1), .ref (b + 14), .ref (b + 17), .ref (b + 19), .ref (b + 25), .ref (b + 29), .ref (b + 33), .ref pp, .int ht, .int (nI tp), .int sd, .int fa, .int (-1), .int x]) fX9_65 (hUs_at nd 0 rfl rfl) rfl rfl (Nat.le_of_ble_eq_true rfl) rfl dX9_refused_7 ?_
  refine w_heq (hUs_set nd rfl 0 (cs' := [(oC 9 [.ref (b + 1), .ref (b + 14), .ref (b + 17), .ref (b + 19), .ref (b + 25), .ref (b + 29), .ref (b + 33), .ref pp, .int ht, .int (nI tp), .int sd, .int fa, .int (-1), .int x])]) rfl rfl) ?_
  refine w_iload_n dX9_refused_10 rfl ?_
  refine w_ireturn rfl dX9_refused_11 (Nat.le_of_ble_eq_true rfl) (Nat.le_of_ble_eq_true rfl) ?_
  exact k
set_option maxRecDepth 100000 in
set_option maxHeartbeats 4000000 in
theorem c_granted {G : wG} {d : Nat} {h : hH} {Q : Option Value → hH → Prop} {b pp tp : Nat} {ht sd fa pl tr : Int32} {y : Int32} (hw : hHas h [b] [(oC 9 [.ref (b + 1), .ref (b + 14), .ref (b + 17), .ref (b + 19), .ref (b + 25), .ref (b + 29), .ref (b + 33), .ref pp, .int ht, .int (nI tp), .int sd, .int fa, .int pl, .int tr])]) (nd : [b].Nodup)  (k : Q (some (.int y)) (hUs h [b] [(oC 9 [.ref (b + 1), .ref (b + 14), .ref (b + 17), .ref (b + 19), .ref (b + 25), .ref (b + 29), .ref (b + 33), .ref pp, .int ht, .int (nI tp), .int sd, .int fa, .int (-1), .int 0])])) : Cl G yX9_granted d 0 0 [.ref b, .int y] h Q := by
  refine Cl.of (ini := false) kX9_granted (plainFor_of_name (by decide)) (by decide) (Nat.le_of_ble_eq_true rfl) rfl rfl (fun z => by cases z) ?_
  refine w_heq (hUs_id hw).symm ?_
  refine w_aload_n dX9_granted_0 rfl ?_
  refine w_iconst (v := 0) dX9_granted_1 (by decide) ?_
  refine w_put (fs' := [.ref (b + 1), .ref (b + 14), .ref (b + 17), .ref (b + 19), .ref (b + 25), .ref (b + 29), .ref (b + 33), .ref pp, .int ht, .int (nI tp), .int sd, .int fa, .int pl, .int 0]) fX9_297 (hUs_at nd 0 rfl rfl) rfl rfl (Nat.le_of_ble_eq_true rfl) rfl dX9_granted_2 ?_
  refine w_heq (hUs_set nd rfl 0 (cs' := [(oC 9 [.ref (b + 1), .ref (b + 14), .ref (b + 17), .ref (b + 19), .ref (b + 25), .ref (b + 29), .ref (b + 33), .ref pp, .int ht, .int (nI tp), .int sd, .int fa, .int pl, .int 0])]) rfl rfl) ?_
  refine w_aload_n dX9_granted_5 rfl ?_
  refine w_iconst (v := (-1)) dX9_granted_6 (by decide) ?_
  refine w_put (fs' := [.ref (b + 1), .ref (b + 14), .ref (b + 17), .ref (b + 19), .ref (b + 25), .ref (b + 29), .ref (b + 33), .ref pp, .int ht, .int (nI tp), .int sd, .int fa, .int (-1), .int 0]) fX9_65 (hUs_at nd 0 rfl rfl) rfl rfl (Nat.le_of_ble_eq_true rfl) rfl dX9_granted_7 ?_
  refine w_heq (hUs_set nd rfl 0 (cs' := [(oC 9 [.ref (b + 1), .ref (b + 14), .ref (b + 17), .ref (b + 19), .ref (b + 25), .ref (b + 29), .ref (b + 33), .ref pp, .int ht, .int (nI tp), .int sd, .int fa, .int (-1), .int 0])]) rfl rfl) ?_
  refine w_iload_n dX9_granted_10 rfl ?_
  refine w_ireturn rfl dX9_granted_11 (Nat.le_of_ble_eq_true rfl) (Nat.le_of_ble_eq_true rfl) ?_
  exact k
set_option maxRecDepth 100000 in
set_option maxHeartbeats 4000000 in
theorem c_isRefused {G : wG} {d : Nat} {h : hH} {Q : Option Value → hH → Prop} {b pp tp : Nat} {ht sd fa pl tr : Int32} {x : Int32} (hw : hHas h [b] [(oC 9 [.ref (b + 1), .ref (b + 14), .ref (b + 17), .ref (b + 19), .ref (b + 25), .ref (b + 29), .ref (b + 33), .ref pp, .int ht, .int (nI tp), .int sd, .int fa, .int pl, .int tr])]) (nd : [b].Nodup)  (k : Q (some (.int 0)) (hUs h [b] [(oC 9 [.ref (b + 1), .ref (b + 14), .ref (b + 17), .ref (b + 19), .ref (b + 25), .ref (b + 29), .ref (b + 33), .ref pp, .int ht, .int (nI tp), .int sd, .int fa, .int (-1), .int x])])) : Cl G yX9_isRefused (d + 1) 0 0 [.ref b, .int x] h Q := by
  refine Cl.of (ini := false) kX9_isRefused (plainFor_of_name (by decide)) (by decide) (Nat.le_of_ble_eq_true rfl) rfl rfl (fun z => by cases z) ?_
  refine w_heq (hUs_id hw).symm ?_
  refine w_aload_n dX9_isRefused_0 rfl ?_
  refine w_iload_n dX9_isRefused_1 rfl ?_
  refine w_iconst (v := (-1)) dX9_isRefused_2 (by decide) ?_
  refine w_callV (ci := 9) (d' := d) (mc' := 0) (ms' := 0) (As := [.int x, .int (-1)]) (st := []) lX9_75 vX9_refused rfl (hUs_at nd 0 rfl rfl) rfl (Nat.le_of_ble_eq_true rfl) dX9_isRefused_3 (Nat.le_of_ble_eq_true rfl) (Nat.le_of_ble_eq_true rfl) (Nat.le_refl _) (c_refused (hHas_sub nd (as' := [b]) (cs' := [(oC 9 [.ref (b + 1), .ref (b + 14), .ref (b + 17), .ref (b + 19), .ref (b + 25), .ref (b + 29), .ref (b + 33), .ref pp, .int ht, .int (nI tp), .int sd, .int fa, .int pl, .int tr])]) [0] rfl rfl) (nd_sub nd (as' := [b]) [0] rfl rfl)  ?_)
  refine w_heq (hUs_in nd rfl [0] (cs2 := [(oC 9 [.ref (b + 1), .ref (b + 14), .ref (b + 17), .ref (b + 19), .ref (b + 25), .ref (b + 29), .ref (b + 33), .ref pp, .int ht, .int (nI tp), .int sd, .int fa, .int (-1), .int x])]) rfl rfl) ?_
  refine w_pop dX9_isRefused_6 rfl ?_
  refine w_iconst (v := 0) dX9_isRefused_7 (by decide) ?_
  refine w_zreturn rfl dX9_isRefused_8 rfl (Nat.le_of_ble_eq_true rfl) (Nat.le_of_ble_eq_true rfl) ?_
  exact k
set_option maxRecDepth 100000 in
set_option maxHeartbeats 4000000 in
theorem c_isGranted {G : wG} {d : Nat} {h : hH} {Q : Option Value → hH → Prop} {b pp tp : Nat} {ht sd fa pl tr : Int32} (hw : hHas h [b] [(oC 9 [.ref (b + 1), .ref (b + 14), .ref (b + 17), .ref (b + 19), .ref (b + 25), .ref (b + 29), .ref (b + 33), .ref pp, .int ht, .int (nI tp), .int sd, .int fa, .int pl, .int tr])]) (nd : [b].Nodup)  (k : Q (some (.int 1)) (hUs h [b] [(oC 9 [.ref (b + 1), .ref (b + 14), .ref (b + 17), .ref (b + 19), .ref (b + 25), .ref (b + 29), .ref (b + 33), .ref pp, .int ht, .int (nI tp), .int sd, .int fa, .int (-1), .int 0])])) : Cl G yX9_isGranted (d + 1) 0 0 [.ref b] h Q := by
  refine Cl.of (ini := false) kX9_isGranted (plainFor_of_name (by decide)) (by decide) (Nat.le_of_ble_eq_true rfl) rfl rfl (fun z => by cases z) ?_
  refine w_heq (hUs_id hw).symm ?_
  refine w_aload_n dX9_isGranted_0 rfl ?_
  refine w_iconst (v := (-1)) dX9_isGranted_1 (by decide) ?_
  refine w_callV (ci := 9) (d' := d) (mc' := 0) (ms' := 0) (As := [.int (-1)]) (st := []) lX9_96 vX9_granted rfl (hUs_at nd 0 rfl rfl) rfl (Nat.le_of_ble_eq_true rfl) dX9_isGranted_2 (Nat.le_of_ble_eq_true rfl) (Nat.le_of_ble_eq_true rfl) (Nat.le_refl _) (c_granted (hHas_sub nd (as' := [b]) (cs' := [(oC 9 [.ref (b + 1), .ref (b + 14), .ref (b + 17), .ref (b + 19), .ref (b + 25), .ref (b + 29), .ref (b + 33), .ref pp, .int ht, .int (nI tp), .int sd, .int fa, .int pl, .int tr])]) [0] rfl rfl) (nd_sub nd (as' := [b]) [0] rfl rfl)  ?_)
  refine w_heq (hUs_in nd rfl [0] (cs2 := [(oC 9 [.ref (b + 1), .ref (b + 14), .ref (b + 17), .ref (b + 19), .ref (b + 25), .ref (b + 29), .ref (b + 33), .ref pp, .int ht, .int (nI tp), .int sd, .int fa, .int (-1), .int 0])]) rfl rfl) ?_
  refine w_pop dX9_isGranted_5 rfl ?_
  refine w_iconst (v := 1) dX9_isGranted_6 (by decide) ?_
  refine w_zreturn rfl dX9_isGranted_7 rfl (Nat.le_of_ble_eq_true rfl) (Nat.le_of_ble_eq_true rfl) ?_
  exact k
def vlB (x : Int32) : Int32 := if -1 ≤ x ∧ x ≤ 1 then 1 else 0
def lvB (x : Int64) : Int32 := if -1000 ≤ x ∧ x ≤ 1000 then 1 else 0
def smB (m y : Int32) : Int32 := if (1 ≤ m ∧ m ≤ 3) ∧ 2 ≤ y ∧ y ≤ 32 then 1 else 0
def swB (f s m : Int32) : Int32 := if (1 ≤ m ∧ m ≤ 50) ∧ lvB f.toInt64 = 1 ∧ lvB (f.toInt64 + s.toInt64 * (m - 1).toInt64) = 1 then 1 else 0
def ltF (nm k : Int32) : Int32 := if k < 0 ∨ 6 ≤ k then -1 else (nm >>> ((5 * k) &&& 31) &&& 31) - 1
theorem lvB_01 (x : Int64) : lvB x = 0 ∨ lvB x = 1 := by
  unfold lvB; split
  · exact Or.inr rfl
  · exact Or.inl rfl
