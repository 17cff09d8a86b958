set_option maxRecDepth 100000 in
set_option maxHeartbeats 4000000 in
theorem c_valueOf {G : wG} {d : Nat} {h : hH} {Q : Option Value → hH → Prop} {q qf : Nat} {nm sg bd nz th x : Int32} (hw : hHas h [q] [(oC 3 [.ref qf, .int nm, .int sg, .int bd, .int nz, .int th])])  (k : Q (some (.int (valF th x))) h) : Cl G yX3_valueOf d 0 0 [.ref q, .int x] h Q := by
  refine Cl.of (ini := false) kX3_valueOf (plainFor_of_name (by decide)) (by decide) (Nat.le_of_ble_eq_true rfl) rfl rfl (fun z => by cases z) ?_
  refine w_aload_n dX3_valueOf_0 rfl ?_
  refine w_get (v := .int th) fX3_34 (hw 0 _ _ rfl rfl) rfl dX3_valueOf_1 ?_
  refine w_if_ne (tgt := 17) dX3_valueOf_4 rfl (fun b4 => ?_) (fun b4 => ?_)
  · refine w_iload_n dX3_valueOf_17 rfl ?_
    refine w_sipush (v := 500) dX3_valueOf_18 (by decide) ?_
    refine w_icmp_lt (tgt := 28) dX3_valueOf_21 rfl (fun b21 => ?_) (fun b21 => ?_)
    · refine w_iload_n dX3_valueOf_28 rfl ?_
      refine w_sipush (v := (-500)) dX3_valueOf_29 (by decide) ?_
      refine w_icmp_gt (tgt := 39) dX3_valueOf_32 rfl (fun b32 => ?_) (fun b32 => ?_)
      · refine w_iconst (v := 0) dX3_valueOf_39 (by decide) ?_
        refine w_ireturn rfl dX3_valueOf_40 (Nat.le_of_ble_eq_true rfl) (Nat.le_of_ble_eq_true rfl) ?_
        have e0 : valF th x = 0 := by
          simp [valF, *]
        rw [e0] at k
        exact k
      · refine w_iconst (v := (-1)) dX3_valueOf_35 (by decide) ?_
        refine w_goto (tgt := 40) dX3_valueOf_36 rfl ?_
        refine w_ireturn rfl dX3_valueOf_40 (Nat.le_of_ble_eq_true rfl) (Nat.le_of_ble_eq_true rfl) ?_
        have e0 : valF th x = (-1) := by
          simp [valF, *]
        rw [e0] at k
        exact k
    · refine w_iconst (v := 1) dX3_valueOf_24 (by decide) ?_
      refine w_goto (tgt := 40) dX3_valueOf_25 rfl ?_
      refine w_ireturn rfl dX3_valueOf_40 (Nat.le_of_ble_eq_true rfl) (Nat.le_of_ble_eq_true rfl) ?_
      have e0 : valF th x = 1 := by
        simp [valF, *]
      rw [e0] at k
      exact k
  · refine w_iload_n dX3_valueOf_7 rfl ?_
    refine w_if_lt (tgt := 15) dX3_valueOf_8 rfl (fun b8 => ?_) (fun b8 => ?_)
    · refine w_iconst (v := (-1)) dX3_valueOf_15 (by decide) ?_
      refine w_ireturn rfl dX3_valueOf_16 (Nat.le_of_ble_eq_true rfl) (Nat.le_of_ble_eq_true rfl) ?_
      have e0 : valF th x = (-1) := by
        simp [valF, *]
      rw [e0] at k
      exact k
    · refine w_iconst (v := 1) dX3_valueOf_11 (by decide) ?_
      refine w_goto (tgt := 16) dX3_valueOf_12 rfl ?_
      refine w_ireturn rfl dX3_valueOf_16 (Nat.le_of_ble_eq_true rfl) (Nat.le_of_ble_eq_true rfl) ?_
      have e0 : valF th x = 1 := by
        simp [valF, *]
      rw [e0] at k
      exact k
set_option maxRecDepth 100000 in
set_option maxHeartbeats 4000000 in
theorem c_Loop_clear {G : wG} {d : Nat} {h : hH} {Q : Option Value → hH → Prop} {q qf : Nat} {nm sg bd nz th : Int32} {fac : Nat → Int32} (hw : hHas h [q, qf] [(oC 3 [.ref qf, .int nm, .int sg, .int bd, .int nz, .int th]), (aI 3 fac)]) (nd : [q, qf].Nodup)  (k : Q none (hUs h [q, qf] [oC 3 [.ref qf, .int 0, .int 0, .int 0, .int 0, .int 0], aI 3 (fun _ => 0)])) : Cl G yX3_clear (d + 1) 0 0 [.ref q] h Q := by
  refine Cl.of (ini := false) kX3_clear (plainFor_of_name (by decide)) (by decide) (Nat.le_of_ble_eq_true rfl) rfl rfl (fun z => by cases z) ?_
  refine w_heq (hUs_id hw).symm ?_
  refine w_aload_n dX3_clear_0 rfl ?_
  refine w_get (v := .ref qf) fX3_9 (hUs_at nd 0 rfl rfl) rfl dX3_clear_1 ?_
  refine w_iconst (v := 0) dX3_clear_4 (by decide) ?_
  refine w_callS (d' := d) (mc' := 0) (ms' := 0) (As := [.ref qf, .int 0]) (st := []) lX3_15 vJ7_fill_53178 rfl (Nat.le_of_ble_eq_true rfl) dX3_clear_5 (Nat.le_of_ble_eq_true rfl) (Nat.le_of_ble_eq_true rfl) (Nat.le_refl _) (c_fill (hHas_sub nd (as' := [qf]) (cs' := [(aI 3 fac)]) [1] rfl rfl) (nd_sub nd (as' := [qf]) [1] rfl rfl) (by decide) ?_)
  refine w_heq (hUs_in nd rfl [1] (cs2 := [(oC 3 [.ref qf, .int nm, .int sg, .int bd, .int nz, .int th]), (aI 3 (fun _ => 0))]) rfl rfl) ?_
  refine w_aload_n dX3_clear_8 rfl ?_
  refine w_iconst (v := 0) dX3_clear_9 (by decide) ?_
  refine w_put (fs' := [.ref qf, .int 0, .int sg, .int bd, .int nz, .int th]) fX3_21 (hUs_at nd 0 rfl rfl) rfl rfl (Nat.le_of_ble_eq_true rfl) rfl dX3_clear_10 ?_
  refine w_heq (hUs_set nd rfl 0 (cs' := [(oC 3 [.ref qf, .int 0, .int sg, .int bd, .int nz, .int th]), (aI 3 (fun _ => 0))]) rfl rfl) ?_
  refine w_aload_n dX3_clear_13 rfl ?_
  refine w_iconst (v := 0) dX3_clear_14 (by decide) ?_
  refine w_put (fs' := [.ref qf, .int 0, .int 0, .int bd, .int nz, .int th]) fX3_25 (hUs_at nd 0 rfl rfl) rfl rfl (Nat.le_of_ble_eq_true rfl) rfl dX3_clear_15 ?_
  refine w_heq (hUs_set nd rfl 0 (cs' := [(oC 3 [.ref qf, .int 0, .int 0, .int bd, .int nz, .int th]), (aI 3 (fun _ => 0))]) rfl rfl) ?_
  refine w_aload_n dX3_clear_18 rfl ?_
  refine w_iconst (v := 0) dX3_clear_19 (by decide) ?_
  refine w_put (fs' := [.ref qf, .int 0, .int 0, .int 0, .int nz, .int th]) fX3_28 (hUs_at nd 0 rfl rfl) rfl rfl (Nat.le_of_ble_eq_true rfl) rfl dX3_clear_20 ?_
  refine w_heq (hUs_set nd rfl 0 (cs' := [(oC 3 [.ref qf, .int 0, .int 0, .int 0, .int nz, .int th]), (aI 3 (fun _ => 0))]) rfl rfl) ?_
  refine w_aload_n dX3_clear_23 rfl ?_
  refine w_iconst (v := 0) dX3_clear_24 (by decide) ?_
  refine w_put (fs' := [.ref qf, .int 0, .int 0, .int 0, .int 0, .int th]) fX3_31 (hUs_at nd 0 rfl rfl) rfl rfl (Nat.le_of_ble_eq_true rfl) rfl dX3_clear_25 ?_
  refine w_heq (hUs_set nd rfl 0 (cs' := [(oC 3 [.ref qf, .int 0, .int 0, .int 0, .int 0, .int th]), (aI 3 (fun _ => 0))]) rfl rfl) ?_
  refine w_aload_n dX3_clear_28 rfl ?_
  refine w_iconst (v := 0) dX3_clear_29 (by decide) ?_
  refine w_put (fs' := [.ref qf, .int 0, .int 0, .int 0, .int 0, .int 0]) fX3_34 (hUs_at nd 0 rfl rfl) rfl rfl (Nat.le_of_ble_eq_true rfl) rfl dX3_clear_30 ?_
  refine w_heq (hUs_set nd rfl 0 (cs' := [(oC 3 [.ref qf, .int 0, .int 0, .int 0, .int 0, .int 0]), (aI 3 (fun _ => 0))]) rfl rfl) ?_
  refine w_return rfl dX3_clear_33 (Nat.le_of_ble_eq_true rfl) (Nat.le_of_ble_eq_true rfl) ?_
  exact k
set_option maxRecDepth 100000 in
set_option maxHeartbeats 4000000 in
theorem c_addStage {G : wG} {d : Nat} {h : hH} {Q : Option Value → hH → Prop} {q qf n : Nat} {nm bd nz th x : Int32} {fac : Nat → Int32} (hw : hHas h [q, qf] [(oC 3 [.ref qf, .int nm, .int (nI n), .int bd, .int nz, .int th]), (aI 3 fac)]) (nd : [q, qf].Nodup) (hn : n ≤ 3) (k : if n < 3 then Q (some (.int 1)) (hUs h [q, qf] [oC 3 [.ref qf, .int nm, .int (nI (n + 1)), .int bd, .int nz, .int th], aI 3 (upd fac n x)]) else Q (some (.int 0)) (hUs h [q, qf] [oC 3 [.ref qf, .int nm, .int (nI n), .int bd, .int nz, .int th], aI 3 fac])) : Cl G yX3_addStage d 0 0 [.ref q, .int x] h Q := by
  refine Cl.of (ini := false) kX3_addStage (plainFor_of_name (by decide)) (by decide) (Nat.le_of_ble_eq_true rfl) rfl rfl (fun z => by cases z) ?_
  refine w_heq (hUs_id hw).symm ?_
  refine w_aload_n dX3_addStage_0 rfl ?_
  refine w_get (v := .int (nI n)) fX3_25 (hUs_at nd 0 rfl rfl) rfl dX3_addStage_1 ?_
  refine w_iconst (v := 3) dX3_addStage_4 (by decide) ?_
  refine w_icmp_lt (tgt := 10) dX3_addStage_5 rfl (fun b5 => ?_) (fun b5 => ?_)
  · have b5 := (nI_ltI (a := n) (b := 3) (by omega) (by omega)).mp b5
    refine w_aload_n dX3_addStage_10 rfl ?_
    refine w_get (v := .ref qf) fX3_9 (hUs_at nd 0 rfl rfl) rfl dX3_addStage_11 ?_
    refine w_aload_n dX3_addStage_14 rfl ?_
    refine w_get (v := .int (nI n)) fX3_25 (hUs_at nd 0 rfl rfl) rfl dX3_addStage_15 ?_
    refine w_iload_n dX3_addStage_18 rfl ?_
    refine w_iastoreN (hUs_at nd 1 rfl rfl) (by omega) (by omega) dX3_addStage_19 ?_
    refine w_heq (hUs_set nd rfl 1 (cs' := [(oC 3 [.ref qf, .int nm, .int (nI n), .int bd, .int nz, .int th]), (aI 3 (upd fac n x))]) rfl rfl) ?_
    refine w_aload_n dX3_addStage_20 rfl ?_
    refine w_dup dX3_addStage_21 rfl ?_
    refine w_get (v := .int (nI n)) fX3_25 (hUs_at nd 0 rfl rfl) rfl dX3_addStage_22 ?_
    refine w_iconst (v := 1) dX3_addStage_25 (by decide) ?_
    refine w_iadd dX3_addStage_26 ?_
    refine w_put (fs' := [.ref qf, .int nm, .int ((nI n) + 1), .int bd, .int nz, .int th]) fX3_25 (hUs_at nd 0 rfl rfl) rfl rfl (Nat.le_of_ble_eq_true rfl) rfl dX3_addStage_27 ?_
    refine w_heq (hUs_set nd rfl 0 (cs' := [(oC 3 [.ref qf, .int nm, .int ((nI n) + 1), .int bd, .int nz, .int th]), (aI 3 (upd fac n x))]) rfl rfl) ?_
    refine w_iconst (v := 1) dX3_addStage_30 (by decide) ?_
    refine w_zreturn rfl dX3_addStage_31 rfl (Nat.le_of_ble_eq_true rfl) (Nat.le_of_ble_eq_true rfl) ?_
    rw [if_pos (show n < 3 by omega)] at k
    rw [← nI_1] at k
    exact k
  · have b5 : ¬ n < 3 := fun z => b5 ((nI_ltI (a := n) (b := 3) (by omega) (by omega)).mpr z)
    refine w_iconst (v := 0) dX3_addStage_8 (by decide) ?_
    refine w_zreturn rfl dX3_addStage_9 rfl (Nat.le_of_ble_eq_true rfl) (Nat.le_of_ble_eq_true rfl) ?_
    rw [if_neg (show ¬ n < 3 by omega)] at k
    exact k
set_option maxRecDepth 100000 in
set_option maxHeartbeats 4000000 in
theorem c_stirred {G : wG} {d : Nat} {h : hH} {Q : Option Value → hH → Prop} {q qs ql : Nat} {cn rg cl : Int32} (hw : hHas h [q] [(oC 0 [.ref qs, .ref ql, .int cn, .int rg, .int cl])]) (nd : [q].Nodup)  (k : Q (some (.int (stiF cn rg))) (hUs h [q] [(oC 0 [.ref qs, .ref ql, .int cn, .int (stiR cn rg), .int cl])])) : Cl G yX0_stirred d 0 0 [.ref q] h Q := by
  refine Cl.of (ini := false) kX0_stirred (plainFor_of_name (by decide)) (by decide) (Nat.le_of_ble_eq_true rfl) rfl rfl (fun z => by cases z) ?_
  refine w_heq (hUs_id hw).symm ?_
  refine w_aload_n dX0_stirred_0 rfl ?_
  refine w_get (v := .int cn) fX0_29 (hUs_at nd 0 rfl rfl) rfl dX0_stirred_1 ?_
  refine w_if_ne (tgt := 9) dX0_stirred_4 rfl (fun b4 => ?_) (fun b4 => ?_)
  · refine w_aload_n dX0_stirred_9 rfl ?_
    refine w_get (v := .int rg) fX0_22 (hUs_at nd 0 rfl rfl) rfl dX0_stirred_10 ?_
    refine w_aload_n dX0_stirred_13 rfl ?_
    refine w_get (v := .int rg) fX0_22 (hUs_at nd 0 rfl rfl) rfl dX0_stirred_14 ?_
    refine w_iconst (v := 2) dX0_stirred_17 (by decide) ?_
    refine w_ishr dX0_stirred_18 ?_
    refine w_ixor dX0_stirred_19 ?_
    refine w_aload_n dX0_stirred_20 rfl ?_
    refine w_get (v := .int rg) fX0_22 (hUs_at nd 0 rfl rfl) rfl dX0_stirred_21 ?_
    refine w_iconst (v := 3) dX0_stirred_24 (by decide) ?_
    refine w_ishr dX0_stirred_25 ?_
    refine w_ixor dX0_stirred_26 ?_
    refine w_aload_n dX0_stirred_27 rfl ?_
    refine w_get (v := .int rg) fX0_22 (hUs_at nd 0 rfl rfl) rfl dX0_stirred_28 ?_
    refine w_iconst (v := 5) dX0_stirred_31 (by decide) ?_
    refine w_ishr dX0_stirred_32 ?_
    refine w_ixor dX0_stirred_33 ?_
    refine w_iconst (v := 1) dX0_stirred_34 (by decide) ?_
    refine w_iand dX0_stirred_35 ?_
    refine w_istore_n (ls2 := [some (.ref q), some (.int ((((rg ^^^ (rg >>> ((2 : Int32) &&& 31))) ^^^ (rg >>> ((3 : Int32) &&& 31))) ^^^ (rg >>> ((5 : Int32) &&& 31))) &&& 1))]) dX0_stirred_36 (by decide) rfl rfl ?_
    refine w_aload_n dX0_stirred_37 rfl ?_
    refine w_aload_n dX0_stirred_38 rfl ?_
    refine w_get (v := .int rg) fX0_22 (hUs_at nd 0 rfl rfl) rfl dX0_stirred_39 ?_
    refine w_iconst (v := 2) dX0_stirred_42 (by decide) ?_
    refine w_idiv dX0_stirred_43 (by decide) ?_
    refine w_ldc nX0_66 dX0_stirred_44 ?_
    refine w_iload_n dX0_stirred_46 rfl ?_
    refine w_imul dX0_stirred_47 ?_
    refine w_iadd dX0_stirred_48 ?_
    refine w_put (fs' := [.ref qs, .ref ql, .int cn, .int ((rg / 2) + (32768 * ((((rg ^^^ (rg >>> ((2 : Int32) &&& 31))) ^^^ (rg >>> ((3 : Int32) &&& 31))) ^^^ (rg >>> ((5 : Int32) &&& 31))) &&& 1))), .int cl]) fX0_22 (hUs_at nd 0 rfl rfl) rfl rfl (Nat.le_of_ble_eq_true rfl) rfl dX0_stirred_49 ?_
    refine w_heq (hUs_set nd rfl 0 (cs' := [(oC 0 [.ref qs, .ref ql, .int cn, .int ((rg / 2) + (32768 * ((((rg ^^^ (rg >>> ((2 : Int32) &&& 31))) ^^^ (rg >>> ((3 : Int32) &&& 31))) ^^^ (rg >>> ((5 : Int32) &&& 31))) &&& 1))), .int cl])]) rfl rfl) ?_
    refine w_aload_n dX0_stirred_52 rfl ?_
    refine w_get (v := .int ((rg / 2) + (32768 * ((((rg ^^^ (rg >>> ((2 : Int32) &&& 31))) ^^^ (rg >>> ((3 : Int32) &&& 31))) ^^^ (rg >>> ((5 : Int32) &&& 31))) &&& 1)))) fX0_22 (hUs_at nd 0 rfl rfl) rfl dX0_stirred_53 ?_
    refine w_iconst (v := 1) dX0_stirred_56 (by decide) ?_
    refine w_iand dX0_stirred_57 ?_
    refine w_iconst (v := 1) dX0_stirred_58 (by decide) ?_
    refine w_icmp_ne (tgt := 69) dX0_stirred_59 rfl (fun b59 => ?_) (fun b59 => ?_)
    · refine w_aload_n dX0_stirred_69 rfl ?_
      refine w_get (v := .int cn) fX0_29 (hUs_at nd 0 rfl rfl) rfl dX0_stirred_70 ?_
      refine w_ineg dX0_stirred_73 ?_
      refine w_ireturn rfl dX0_stirred_74 (Nat.le_of_ble_eq_true rfl) (Nat.le_of_ble_eq_true rfl) ?_
      have e0 : stiF cn rg = -cn := by
        simp [stiF, regF, *]
      have e1 : stiR cn rg = (rg / 2) + (32768 * ((((rg ^^^ (rg >>> ((2 : Int32) &&& 31))) ^^^ (rg >>> ((3 : Int32) &&& 31))) ^^^ (rg >>> ((5 : Int32) &&& 31))) &&& 1)) := by
        simp [stiR, regF, *]
      rw [e0, e1] at k
      exact k
    · refine w_aload_n dX0_stirred_62 rfl ?_
      refine w_get (v := .int cn) fX0_29 (hUs_at nd 0 rfl rfl) rfl dX0_stirred_63 ?_
      refine w_goto (tgt := 74) dX0_stirred_66 rfl ?_
      refine w_ireturn rfl dX0_stirred_74 (Nat.le_of_ble_eq_true rfl) (Nat.le_of_ble_eq_true rfl) ?_
      have e0 : stiF cn rg = cn := by
        simp [stiF, regF, *]
      have e1 : stiR cn rg = (rg / 2) + (32768 * ((((rg ^^^ (rg >>> ((2 : Int32) &&& 31))) ^^^ (rg >>> ((3 : Int32) &&& 31))) ^^^ (rg >>> ((5 : Int32) &&& 31))) &&& 1)) := by
        simp [stiR, regF, *]
      rw [e0, e1] at k
      exact k
  · refine w_iconst (v := 0) dX0_stirred_7 (by decide) ?_
    refine w_ireturn rfl dX0_stirred_8 (Nat.le_of_ble_eq_true rfl) (Nat.le_of_ble_eq_true rfl) ?_
    have e0 : stiF cn rg = 0 := by
      simp [stiF, regF, *]
    have e1 : stiR cn rg = rg := by
      simp [stiR, regF, *]
    rw [e0, e1] at k
    exact k
set_option maxRecDepth 100000 in
set_option maxHeartbeats 4000000 in
theorem c_held {G : wG} {d : Nat} {h : hH} {Q : Option Value → hH → Prop} {q qs ql qf : Nat} {cn rg cl nm sg bd nz th x : Int32} (hw : hHas h [q, ql] [(oC 0 [.ref qs, .ref ql, .int cn, .int rg, .int cl]), (oC 3 [.ref qf, .int nm, .int sg, .int bd, .int nz, .int th])]) (nd : [q, ql].Nodup)  (k : Q (some (.int (hldF bd x))) (hUs h [q, ql] [(oC 0 [.ref qs, .ref ql, .int cn, .int rg, .int (hldC bd x cl)]), (oC 3 [.ref qf, .int nm, .int sg, .int bd, .int nz, .int th])])) : Cl G yX0_held (d + 1) 0 0 [.ref q, .int x] h Q := by
  refine Cl.of (ini := false) kX0_held (plainFor_of_name (by decide)) (by decide) (Nat.le_of_ble_eq_true rfl) rfl rfl (fun z => by cases z) ?_
  refine w_heq (hUs_id hw).symm ?_
  refine w_aload_n dX0_held_0 rfl ?_
  refine w_get (v := .ref ql) fX0_18 (hUs_at nd 0 rfl rfl) rfl dX0_held_1 ?_
  refine w_get (v := .int bd) fX0_67 (hUs_at nd 1 rfl rfl) rfl dX0_held_4 ?_
  refine w_ineg dX0_held_7 ?_
  refine w_aload_n dX0_held_8 rfl ?_
  refine w_get (v := .ref ql) fX0_18 (hUs_at nd 0 rfl rfl) rfl dX0_held_9 ?_
  refine w_get (v := .int bd) fX0_67 (hUs_at nd 1 rfl rfl) rfl dX0_held_12 ?_
  refine w_iload_n dX0_held_15 rfl ?_
  refine w_callS (d' := d) (mc' := 0) (ms' := 0) (As := [.int bd, .int x]) (st := [.int (-bd)]) lX0_70 vJ9_min_7cf53 rfl (Nat.le_of_ble_eq_true rfl) dX0_held_16 (Nat.le_of_ble_eq_true rfl) (Nat.le_of_ble_eq_true rfl) (Nat.le_refl _) (c_min ?_)
  refine w_callS (d' := d) (mc' := 0) (ms' := 0) (As := [.int (-bd), .int (mnI bd x)]) (st := []) lX0_76 vJ9_max_7cf53 rfl (Nat.le_of_ble_eq_true rfl) dX0_held_19 (Nat.le_of_ble_eq_true rfl) (Nat.le_of_ble_eq_true rfl) (Nat.le_refl _) (c_max ?_)
  refine w_istore_n (ls2 := [some (.ref q), some (.int x), some (.int (mxI (-bd) (mnI bd x)))]) dX0_held_22 (by decide) rfl rfl ?_
  refine w_iload_n dX0_held_23 rfl ?_
  refine w_iload_n dX0_held_24 rfl ?_
  refine w_icmp_eq (tgt := 38) dX0_held_25 rfl (fun b25 => ?_) (fun b25 => ?_)
  · refine w_iload_n dX0_held_38 rfl ?_
    refine w_ireturn rfl dX0_held_39 (Nat.le_of_ble_eq_true rfl) (Nat.le_of_ble_eq_true rfl) ?_
    have e0 : hldF bd x = mxI (-bd) (mnI bd x) := by
      simp [hldF]
    have e1 : hldC bd x cl = cl := by
      simp [hldC, hldF, *]
    rw [e0, e1] at k
    exact k
  · refine w_aload_n dX0_held_28 rfl ?_
    refine w_dup dX0_held_29 rfl ?_
    refine w_get (v := .int cl) fX0_30 (hUs_at nd 0 rfl rfl) rfl dX0_held_30 ?_
    refine w_iconst (v := 1) dX0_held_33 (by decide) ?_
    refine w_iadd dX0_held_34 ?_
    refine w_put (fs' := [.ref qs, .ref ql, .int cn, .int rg, .int (cl + 1)]) fX0_30 (hUs_at nd 0 rfl rfl) rfl rfl (Nat.le_of_ble_eq_true rfl) rfl dX0_held_35 ?_
    refine w_heq (hUs_set nd rfl 0 (cs' := [(oC 0 [.ref qs, .ref ql, .int cn, .int rg, .int (cl + 1)]), (oC 3 [.ref qf, .int nm, .int sg, .int bd, .int nz, .int th])]) rfl rfl) ?_
    refine w_iload_n dX0_held_38 rfl ?_
    refine w_ireturn rfl dX0_held_39 (Nat.le_of_ble_eq_true rfl) (Nat.le_of_ble_eq_true rfl) ?_
    have e0 : hldF bd x = mxI (-bd) (mnI bd x) := by
      simp [hldF]
    have e1 : hldC bd x cl = cl + 1 := by
      simp [hldC, hldF, *]
    rw [e0, e1] at k
    exact k
set_option maxRecDepth 100000 in
set_option maxHeartbeats 4000000 in
theorem c_lastSum {G : wG} {d : Nat} {h : hH} {Q : Option Value → hH → Prop} {q qs ql qf : Nat} {cn rg cl nm bd nz th : Int32} {su : Nat → Int32} {n : Nat} (hw : hHas h [q, qs, ql] [(oC 0 [.ref qs, .ref ql, .int cn, .int rg, .int cl]), (aI 3 su), (oC 3 [.ref qf, .int nm, .int (nI n), .int bd, .int nz, .int th])]) (hn : n ≤ 3) (k : Q (some (.int (lstF n su))) h) : Cl G yX0_lastSum d 0 0 [.ref q] h Q := by
  refine Cl.of (ini := false) kX0_lastSum (plainFor_of_name (by decide)) (by decide) (Nat.le_of_ble_eq_true rfl) rfl rfl (fun z => by cases z) ?_
  refine w_aload_n dX0_lastSum_0 rfl ?_
  refine w_get (v := .ref ql) fX0_18 (hw 0 _ _ rfl rfl) rfl dX0_lastSum_1 ?_
  refine w_get (v := .int (nI n)) fX0_54 (hw 2 _ _ rfl rfl) rfl dX0_lastSum_4 ?_
  refine w_if_le (tgt := 27) dX0_lastSum_7 rfl (fun b7 => ?_) (fun b7 => ?_)
  · have b7 := (nI_leI (a := n) (b := 0) (by omega) (by omega)).mp b7
    refine w_iconst (v := 0) dX0_lastSum_27 (by decide) ?_
    refine w_ireturn rfl dX0_lastSum_28 (Nat.le_of_ble_eq_true rfl) (Nat.le_of_ble_eq_true rfl) ?_
    have e : lstF n su = 0 := by
      have z : n = 0 := by omega
      simp [lstF, z]
    rw [e] at k
    exact k
  · have b7 : ¬ n ≤ 0 := fun z => b7 ((nI_leI (a := n) (b := 0) (by omega) (by omega)).mpr z)
    obtain ⟨j, rfl⟩ : ∃ j, n = j + 1 := ⟨n - 1, by omega⟩
    refine w_aload_n dX0_lastSum_10 rfl ?_
    refine w_get (v := .ref qs) fX0_9 (hw 0 _ _ rfl rfl) rfl dX0_lastSum_11 ?_
    refine w_aload_n dX0_lastSum_14 rfl ?_
    refine w_get (v := .ref ql) fX0_18 (hw 0 _ _ rfl rfl) rfl dX0_lastSum_15 ?_
    refine w_get (v := .int (nI (j + 1))) fX0_54 (hw 2 _ _ rfl rfl) rfl dX0_lastSum_18 ?_
    refine w_iconst (v := 1) dX0_lastSum_21 (by decide) ?_
    refine w_isub dX0_lastSum_22 ?_
    refine w_iaload (hw 1 _ _ rfl rfl) (by rw [nI_pred]; exact vp_in_nI (by omega) (by omega)) dX0_lastSum_23 ?_
    refine w_goto (tgt := 28) dX0_lastSum_24 rfl ?_
    refine w_ireturn rfl dX0_lastSum_28 (Nat.le_of_ble_eq_true rfl) (Nat.le_of_ble_eq_true rfl) ?_
    rw [nI_pred, nI_clamp (by omega)]
    exact k
set_option maxRecDepth 100000 in
set_option maxHeartbeats 4000000 in
theorem l_clock {G : wG} {d : Nat} {h : hH} {Q : Option Value → hH → Prop} {q qs ql qf : Nat} {cn r2 nm nz out v cl0 : Int32} {su0 : Nat → Int32} {L : lP} (nd : [q, qs, ql, qf].Nodup) (hN : L.1 ≤ 3) (k : Q (some (.int out)) (hUs h [q, qs, ql, qf] [(oC 0 [.ref qs, .ref ql, .int cn, .int r2, .int ((stgF L.2.1 L.2.2.1 out v su0 cl0 L.1).2.1)]), (aI 3 ((stgF L.2.1 L.2.2.1 out v su0 cl0 L.1).1)), (oC 3 [.ref qf, .int nm, .int (nI L.1), .int L.2.2.1, .int nz, .int L.2.2.2]), (aI 3 L.2.1)])) : ∀ (n : Nat) (i : Nat) (a cl : Int32) (su : Nat → Int32), i + n = L.1 → su = (stgF L.2.1 L.2.2.1 out v su0 cl0 i).1 → cl = (stgF L.2.1 L.2.2.1 out v su0 cl0 i).2.1 → a = (stgF L.2.1 L.2.2.1 out v su0 cl0 i).2.2 → WP G RX0 cX0_clock 5 (some .int) false (d + 2) 0 0 0 0 Q 22 [some (.ref q), some (.int v), some (.int out), some (.int a), some (.int (nI i))] [] (hUs h [q, qs, ql, qf] [(oC 0 [.ref qs, .ref ql, .int cn, .int r2, .int cl]), (aI 3 su), (oC 3 [.ref qf, .int nm, .int (nI L.1), .int L.2.2.1, .int nz, .int L.2.2.2]), (aI 3 L.2.1)]) := by
  intro n
  induction n with
  | zero =>
    intro i a cl su hi e1 e2 e3
    refine w_iload dX0_clock_22 rfl ?_
    refine w_aload_n dX0_clock_24 rfl ?_
    refine w_get (v := .ref ql) fX0_18 (hUs_at nd 0 rfl rfl) rfl dX0_clock_25 ?_
    refine w_get (v := .int (nI L.1)) fX0_54 (hUs_at nd 2 rfl rfl) rfl dX0_clock_28 ?_
    refine w_icmp_ge_t (tgt := 87) dX0_clock_31 rfl ((nI_leI (a := L.1) (b := i) (by omega) (by omega)).mpr (by omega)) ?_
    refine w_iload_n dX0_clock_87 rfl ?_
    refine w_ireturn rfl dX0_clock_88 (Nat.le_of_ble_eq_true rfl) (Nat.le_of_ble_eq_true rfl) ?_
    have z : i = L.1 := by omega
    subst z
    rw [e1, e2]
    exact k
  | succ n ih =>
    intro i a cl su hi e1 e2 e3
    refine w_iload dX0_clock_22 rfl ?_
    refine w_aload_n dX0_clock_24 rfl ?_
    refine w_get (v := .ref ql) fX0_18 (hUs_at nd 0 rfl rfl) rfl dX0_clock_25 ?_
    refine w_get (v := .int (nI L.1)) fX0_54 (hUs_at nd 2 rfl rfl) rfl dX0_clock_28 ?_
    refine w_icmp_ge_f (tgt := 87) dX0_clock_31 rfl (fun z => absurd ((nI_leI (a := L.1) (b := i) (by omega) (by omega)).mp z) (by omega)) ?_
    refine w_aload_n dX0_clock_34 rfl ?_
    refine w_get (v := .ref qs) fX0_9 (hUs_at nd 0 rfl rfl) rfl dX0_clock_35 ?_
    refine w_iload dX0_clock_38 rfl ?_
    refine w_aload_n dX0_clock_40 rfl ?_
    refine w_aload_n dX0_clock_41 rfl ?_
    refine w_get (v := .ref qs) fX0_9 (hUs_at nd 0 rfl rfl) rfl dX0_clock_42 ?_
    refine w_iload dX0_clock_45 rfl ?_
    refine w_ialoadN (hUs_at nd 1 rfl rfl) (by omega) (by omega) dX0_clock_47 ?_
    refine w_aload_n dX0_clock_48 rfl ?_
    refine w_get (v := .ref ql) fX0_18 (hUs_at nd 0 rfl rfl) rfl dX0_clock_49 ?_
    refine w_get (v := .ref qf) fX0_57 (hUs_at nd 2 rfl rfl) rfl dX0_clock_52 ?_
    refine w_iload dX0_clock_55 rfl ?_
    refine w_ialoadN (hUs_at nd 3 rfl rfl) (by omega) (by omega) dX0_clock_57 ?_
    refine w_iload_n dX0_clock_58 rfl ?_
    refine w_sipush (v := 1000) dX0_clock_59 (by decide) ?_
    refine w_iload_n dX0_clock_62 rfl ?_
    refine w_imul dX0_clock_63 ?_
    refine w_isub dX0_clock_64 ?_
    refine w_imul dX0_clock_65 ?_
    refine w_iconst (v := 4) dX0_clock_66 (by decide) ?_
    refine w_ishr dX0_clock_67 ?_
    refine w_iadd dX0_clock_68 ?_
    refine w_callV (ci := 0) (d' := d + 1) (mc' := 0) (ms' := 0) (As := [.int ((su i) + (((L.2.1 i) * (a - (1000 * out))) >>> ((4 : Int32) &&& 31)))]) (st := [.int (nI i), .ref qs]) lX0_60 vX0_held rfl (hUs_at nd 0 rfl rfl) rfl (Nat.le_of_ble_eq_true rfl) dX0_clock_69 (Nat.le_of_ble_eq_true rfl) (Nat.le_of_ble_eq_true rfl) (Nat.le_refl _) (c_held (hHas_sub nd (as' := [q, ql]) (cs' := [(oC 0 [.ref qs, .ref ql, .int cn, .int r2, .int cl]), (oC 3 [.ref qf, .int nm, .int (nI L.1), .int L.2.2.1, .int nz, .int L.2.2.2])]) [0, 2] rfl rfl) (nd_sub nd (as' := [q, ql]) [0, 2] rfl rfl)  ?_)
    refine w_heq (hUs_in nd rfl [0, 2] (cs2 := [(oC 0 [.ref qs, .ref ql, .int cn, .int r2, .int (hldC L.2.2.1 ((su i) + (((L.2.1 i) * (a - (1000 * out))) >>> ((4 : Int32) &&& 31))) cl)]), (aI 3 su), (oC 3 [.ref qf, .int nm, .int (nI L.1), .int L.2.2.1, .int nz, .int L.2.2.2]), (aI 3 L.2.1)]) rfl rfl) ?_
    refine w_iastoreN (hUs_at nd 1 rfl rfl) (by omega) (by omega) dX0_clock_72 ?_
    refine w_heq (hUs_set nd rfl 1 (cs' := [(oC 0 [.ref qs, .ref ql, .int cn, .int r2, .int (hldC L.2.2.1 ((su i) + (((L.2.1 i) * (a - (1000 * out))) >>> ((4 : Int32) &&& 31))) cl)]), (aI 3 (upd su i (hldF L.2.2.1 ((su i) + (((L.2.1 i) * (a - (1000 * out))) >>> ((4 : Int32) &&& 31)))))), (oC 3 [.ref qf, .int nm, .int (nI L.1), .int L.2.2.1, .int nz, .int L.2.2.2]), (aI 3 L.2.1)]) rfl rfl) ?_
    refine w_aload_n dX0_clock_73 rfl ?_
    refine w_get (v := .ref qs) fX0_9 (hUs_at nd 0 rfl rfl) rfl dX0_clock_74 ?_
    refine w_iload dX0_clock_77 rfl ?_
    refine w_ialoadN (hUs_at nd 1 rfl rfl) (by omega) (by omega) dX0_clock_79 ?_
    refine w_istore_n (ls2 := [some (.ref q), some (.int v), some (.int out), some (.int ((upd su i (hldF L.2.2.1 ((su i) + (((L.2.1 i) * (a - (1000 * out))) >>> ((4 : Int32) &&& 31))))) i)), some (.int (nI i))]) dX0_clock_80 (by decide) rfl rfl ?_
    refine w_iinc (v := nI (i + 1)) (ls2 := [some (.ref q), some (.int v), some (.int out), some (.int ((upd su i (hldF L.2.2.1 ((su i) + (((L.2.1 i) * (a - (1000 * out))) >>> ((4 : Int32) &&& 31))))) i)), some (.int (nI (i + 1)))]) dX0_clock_81 rfl (nI_1 _) (by decide) rfl rfl ?_
    refine w_goto (tgt := 22) dX0_clock_84 rfl ?_
    subst e1; subst e2; subst e3
    exact ih (i + 1) _ _ _ (by omega) rfl rfl (by simp [upd, stgF])
set_option maxRecDepth 100000 in
set_option maxHeartbeats 4000000 in
theorem c_clock {G : wG} {d : Nat} {h : hH} {Q : Option Value → hH → Prop} {q qs ql qf : Nat} {cn nm nz v : Int32} {L : lP} {s : cS} (hw : hHas h [q, qs, ql, qf] [(oC 0 [.ref qs, .ref ql, .int cn, .int s.2.1, .int s.2.2]), (aI 3 s.1), (oC 3 [.ref qf, .int nm, .int (nI L.1), .int L.2.2.1, .int nz, .int L.2.2.2]), (aI 3 L.2.1)]) (nd : [q, qs, ql, qf].Nodup) (hn : L.1 ≤ 3) (k : Q (some (.int (cOut L cn s))) (hUs h [q, qs, ql, qf] [(oC 0 [.ref qs, .ref ql, .int cn, .int ((cStp L cn v s).2.1), .int ((cStp L cn v s).2.2)]), (aI 3 ((cStp L cn v s).1)), (oC 3 [.ref qf, .int nm, .int (nI L.1), .int L.2.2.1, .int nz, .int L.2.2.2]), (aI 3 L.2.1)])) : Cl G yX0_clock (d + 2) 0 0 [.ref q, .int v] h Q := by
  refine Cl.of (ini := false) kX0_clock (plainFor_of_name (by decide)) (by decide) (Nat.le_of_ble_eq_true rfl) rfl rfl (fun z => by cases z) ?_
  refine w_heq (hUs_id hw).symm ?_
  refine w_aload_n dX0_clock_0 rfl ?_
  refine w_get (v := .ref ql) fX0_18 (hUs_at nd 0 rfl rfl) rfl dX0_clock_1 ?_
  refine w_aload_n dX0_clock_4 rfl ?_
  refine w_callV (ci := 0) (d' := d + 1) (mc' := 0) (ms' := 0) (As := []) (st := [.ref ql]) lX0_43 vX0_lastSum rfl (hUs_at nd 0 rfl rfl) rfl (Nat.le_of_ble_eq_true rfl) dX0_clock_5 (Nat.le_of_ble_eq_true rfl) (Nat.le_of_ble_eq_true rfl) (Nat.le_refl _) (c_lastSum (hHas_sub nd (as' := [q, qs, ql]) (cs' := [(oC 0 [.ref qs, .ref ql, .int cn, .int s.2.1, .int s.2.2]), (aI 3 s.1), (oC 3 [.ref qf, .int nm, .int (nI L.1), .int L.2.2.1, .int nz, .int L.2.2.2])]) [0, 1, 2] rfl rfl) hn ?_)
  refine w_aload_n dX0_clock_8 rfl ?_
  refine w_callV (ci := 0) (d' := d + 1) (mc' := 0) (ms' := 0) (As := []) (st := [.int (lstF L.1 s.1), .ref ql]) lX0_47 vX0_stirred rfl (hUs_at nd 0 rfl rfl) rfl (Nat.le_of_ble_eq_true rfl) dX0_clock_9 (Nat.le_of_ble_eq_true rfl) (Nat.le_of_ble_eq_true rfl) (Nat.le_refl _) (c_stirred (hHas_sub nd (as' := [q]) (cs' := [(oC 0 [.ref qs, .ref ql, .int cn, .int s.2.1, .int s.2.2])]) [0] rfl rfl) (nd_sub nd (as' := [q]) [0] rfl rfl)  ?_)
  refine w_heq (hUs_in nd rfl [0] (cs2 := [(oC 0 [.ref qs, .ref ql, .int cn, .int (stiR cn s.2.1), .int s.2.2]), (aI 3 s.1), (oC 3 [.ref qf, .int nm, .int (nI L.1), .int L.2.2.1, .int nz, .int L.2.2.2]), (aI 3 L.2.1)]) rfl rfl) ?_
  refine w_iadd dX0_clock_12 ?_
  refine w_callV (ci := 3) (d' := d + 1) (mc' := 0) (ms' := 0) (As := [.int ((lstF L.1 s.1) + (stiF cn s.2.1))]) (st := []) lX0_50 vX3_valueOf rfl (hUs_at nd 2 rfl rfl) rfl (Nat.le_of_ble_eq_true rfl) dX0_clock_13 (Nat.le_of_ble_eq_true rfl) (Nat.le_of_ble_eq_true rfl) (Nat.le_refl _) (c_valueOf (hHas_sub nd (as' := [ql]) (cs' := [(oC 3 [.ref qf, .int nm, .int (nI L.1), .int L.2.2.1, .int nz, .int L.2.2.2])]) [2] rfl rfl)  ?_)
  refine w_istore_n (ls2 := [some (.ref q), some (.int v), some (.int (valF L.2.2.2 ((lstF L.1 s.1) + (stiF cn s.2.1)))), none, none]) dX0_clock_16 (by decide) rfl rfl ?_
  refine w_iload_n dX0_clock_17 rfl ?_
  refine w_istore_n (ls2 := [some (.ref q), some (.int v), some (.int (valF L.2.2.2 ((lstF L.1 s.1) + (stiF cn s.2.1)))), some (.int v), none]) dX0_clock_18 (by decide) rfl rfl ?_
  refine w_iconst (v := (nI 0)) dX0_clock_19 (by decide) ?_
  refine w_istore (ls2 := [some (.ref q), some (.int v), some (.int (valF L.2.2.2 ((lstF L.1 s.1) + (stiF cn s.2.1)))), some (.int v), some (.int (nI 0))]) dX0_clock_20 (by decide) rfl rfl ?_
  exact l_clock nd hn k L.1 0 v s.2.2 s.1 (by omega) rfl rfl rfl
set_option maxRecDepth 100000 in
set_option maxHeartbeats 4000000 in
theorem l_clockOften {G : wG} {d : Nat} {h : hH} {Q : Option Value → hH → Prop} {q qs ql qf : Nat} {cn nm nz v : Int32} {L : lP} {s : cS} {N : Nat} (nd : [q, qs, ql, qf].Nodup) (hn : L.1 ≤ 3) (hN : N < 2 ^ 31) (k : Q none (hUs h [q, qs, ql, qf] [(oC 0 [.ref qs, .ref ql, .int cn, .int ((cItr L cn v N s).2.1), .int ((cItr L cn v N s).2.2)]), (aI 3 ((cItr L cn v N s).1)), (oC 3 [.ref qf, .int nm, .int (nI L.1), .int L.2.2.1, .int nz, .int L.2.2.2]), (aI 3 L.2.1)])) : ∀ (n : Nat) (i : Nat), i + n = N → WP G RX0 cX0_clockOften 4 none false (d + 3) 0 0 0 0 Q 2 [some (.ref q), some (.int v), some (.int (nI N)), some (.int (nI i))] [] (hUs h [q, qs, ql, qf] [(oC 0 [.ref qs, .ref ql, .int cn, .int ((cItr L cn v i s).2.1), .int ((cItr L cn v i s).2.2)]), (aI 3 ((cItr L cn v i s).1)), (oC 3 [.ref qf, .int nm, .int (nI L.1), .int L.2.2.1, .int nz, .int L.2.2.2]), (aI 3 L.2.1)]) := by
  intro n
  induction n with
  | zero =>
    intro i hi
    refine w_iload_n dX0_clockOften_2 rfl ?_
    refine w_iload_n dX0_clockOften_3 rfl ?_
    refine w_icmp_ge_t (tgt := 19) dX0_clockOften_4 rfl ((nI_leI (a := N) (b := i) (by omega) (by omega)).mpr (by omega)) ?_
    refine w_return rfl dX0_clockOften_19 (Nat.le_of_ble_eq_true rfl) (Nat.le_of_ble_eq_true rfl) ?_
    have z : i = N := by omega
    subst z
    exact k
  | succ n ih =>
    intro i hi
    refine w_iload_n dX0_clockOften_2 rfl ?_
    refine w_iload_n dX0_clockOften_3 rfl ?_
    refine w_icmp_ge_f (tgt := 19) dX0_clockOften_4 rfl (fun z => absurd ((nI_leI (a := N) (b := i) (by omega) (by omega)).mp z) (by omega)) ?_
    refine w_aload_n dX0_clockOften_7 rfl ?_
    refine w_iload_n dX0_clockOften_8 rfl ?_
    refine w_callV (ci := 0) (d' := d + 2) (mc' := 0) (ms' := 0) (As := [.int v]) (st := []) lX0_63 vX0_clock rfl (hUs_at nd 0 rfl rfl) rfl (Nat.le_of_ble_eq_true rfl) dX0_clockOften_9 (Nat.le_of_ble_eq_true rfl) (Nat.le_of_ble_eq_true rfl) (Nat.le_refl _) (c_clock (hHas_sub nd (as' := [q, qs, ql, qf]) (cs' := [(oC 0 [.ref qs, .ref ql, .int cn, .int ((cItr L cn v i s).2.1), .int ((cItr L cn v i s).2.2)]), (aI 3 ((cItr L cn v i s).1)), (oC 3 [.ref qf, .int nm, .int (nI L.1), .int L.2.2.1, .int nz, .int L.2.2.2]), (aI 3 L.2.1)]) [0, 1, 2, 3] rfl rfl) (nd_sub nd (as' := [q, qs, ql, qf]) [0, 1, 2, 3] rfl rfl) hn ?_)
    refine w_heq (hUs_in nd rfl [0, 1, 2, 3] (cs2 := [(oC 0 [.ref qs, .ref ql, .int cn, .int ((cStp L cn v (cItr L cn v i s)).2.1), .int ((cStp L cn v (cItr L cn v i s)).2.2)]), (aI 3 ((cStp L cn v (cItr L cn v i s)).1)), (oC 3 [.ref qf, .int nm, .int (nI L.1), .int L.2.2.1, .int nz, .int L.2.2.2]), (aI 3 L.2.1)]) rfl rfl) ?_
    refine w_pop dX0_clockOften_12 rfl ?_
    refine w_iinc (v := nI (i + 1)) (ls2 := [some (.ref q), some (.int v), some (.int (nI N)), some (.int (nI (i + 1)))]) dX0_clockOften_13 rfl (nI_1 _) (by decide) rfl rfl ?_
    refine w_goto (tgt := 2) dX0_clockOften_16 rfl ?_
    exact ih (i + 1) (by omega)
set_option maxRecDepth 100000 in
set_option maxHeartbeats 4000000 in
theorem c_clockOften {G : wG} {d : Nat} {h : hH} {Q : Option Value → hH → Prop} {q qs ql qf : Nat} {cn nm nz v : Int32} {L : lP} {s : cS} {N : Nat} (hw : hHas h [q, qs, ql, qf] [(oC 0 [.ref qs, .ref ql, .int cn, .int s.2.1, .int s.2.2]), (aI 3 s.1), (oC 3 [.ref qf, .int nm, .int (nI L.1), .int L.2.2.1, .int nz, .int L.2.2.2]), (aI 3 L.2.1)]) (nd : [q, qs, ql, qf].Nodup) (hn : L.1 ≤ 3) (hN : N < 2 ^ 31) (k : Q none (hUs h [q, qs, ql, qf] [(oC 0 [.ref qs, .ref ql, .int cn, .int ((cItr L cn v N s).2.1), .int ((cItr L cn v N s).2.2)]), (aI 3 ((cItr L cn v N s).1)), (oC 3 [.ref qf, .int nm, .int (nI L.1), .int L.2.2.1, .int nz, .int L.2.2.2]), (aI 3 L.2.1)])) : Cl G yX0_clockOften (d + 3) 0 0 [.ref q, .int v, .int (nI N)] h Q := by
  refine Cl.of (ini := false) kX0_clockOften (plainFor_of_name (by decide)) (by decide) (Nat.le_of_ble_eq_true rfl) rfl rfl (fun z => by cases z) ?_
  refine w_heq (hUs_id hw).symm ?_
  refine w_iconst (v := (nI 0)) dX0_clockOften_0 (by decide) ?_
  refine w_istore_n (ls2 := [some (.ref q), some (.int v), some (.int (nI N)), some (.int (nI 0))]) dX0_clockOften_1 (by decide) rfl rfl ?_
  exact l_clockOften nd hn hN k N 0 (by omega)
set_option maxRecDepth 100000 in
set_option maxHeartbeats 4000000 in
theorem c_start {G : wG} {d : Nat} {h : hH} {Q : Option Value → hH → Prop} {q qs ql qn qg : Nat} {cn rg cl nm sg bd nz th x : Int32} {su : Nat → Int32} (hw : hHas h [q, qs, qn] [(oC 0 [.ref qs, .ref ql, .int cn, .int rg, .int cl]), (aI 3 su), (oC 3 [.ref qg, .int nm, .int sg, .int bd, .int nz, .int th])]) (nd : [q, qs, qn].Nodup)  (k : Q none (hUs h [q, qs, qn] [(oC 0 [.ref qs, .ref qn, .int nz, .int x, .int 0]), aI 3 (fun _ => 0), (oC 3 [.ref qg, .int nm, .int sg, .int bd, .int nz, .int th])])) : Cl G yX0_start (d + 1) 0 0 [.ref q, .ref qn, .int x] h Q := by
  refine Cl.of (ini := false) kX0_start (plainFor_of_name (by decide)) (by decide) (Nat.le_of_ble_eq_true rfl) rfl rfl (fun z => by cases z) ?_
  refine w_heq (hUs_id hw).symm ?_
  refine w_aload_n dX0_start_0 rfl ?_
  refine w_aload_n dX0_start_1 rfl ?_
  refine w_put (fs' := [.ref qs, .ref qn, .int cn, .int rg, .int cl]) fX0_18 (hUs_at nd 0 rfl rfl) rfl rfl (Nat.le_of_ble_eq_true rfl) rfl dX0_start_2 ?_
  refine w_heq (hUs_set nd rfl 0 (cs' := [(oC 0 [.ref qs, .ref qn, .int cn, .int rg, .int cl]), (aI 3 su), (oC 3 [.ref qg, .int nm, .int sg, .int bd, .int nz, .int th])]) rfl rfl) ?_
  refine w_aload_n dX0_start_5 rfl ?_
  refine w_aload_n dX0_start_6 rfl ?_
  refine w_get (v := .int nz) fX0_26 (hUs_at nd 2 rfl rfl) rfl dX0_start_7 ?_
  refine w_put (fs' := [.ref qs, .ref qn, .int nz, .int rg, .int cl]) fX0_29 (hUs_at nd 0 rfl rfl) rfl rfl (Nat.le_of_ble_eq_true rfl) rfl dX0_start_10 ?_
  refine w_heq (hUs_set nd rfl 0 (cs' := [(oC 0 [.ref qs, .ref qn, .int nz, .int rg, .int cl]), (aI 3 su), (oC 3 [.ref qg, .int nm, .int sg, .int bd, .int nz, .int th])]) rfl rfl) ?_
  refine w_aload_n dX0_start_13 rfl ?_
  refine w_iload_n dX0_start_14 rfl ?_
  refine w_put (fs' := [.ref qs, .ref qn, .int nz, .int x, .int cl]) fX0_22 (hUs_at nd 0 rfl rfl) rfl rfl (Nat.le_of_ble_eq_true rfl) rfl dX0_start_15 ?_
  refine w_heq (hUs_set nd rfl 0 (cs' := [(oC 0 [.ref qs, .ref qn, .int nz, .int x, .int cl]), (aI 3 su), (oC 3 [.ref qg, .int nm, .int sg, .int bd, .int nz, .int th])]) rfl rfl) ?_
  refine w_aload_n dX0_start_18 rfl ?_
  refine w_iconst (v := 0) dX0_start_19 (by decide) ?_
  refine w_put (fs' := [.ref qs, .ref qn, .int nz, .int x, .int 0]) fX0_30 (hUs_at nd 0 rfl rfl) rfl rfl (Nat.le_of_ble_eq_true rfl) rfl dX0_start_20 ?_
  refine w_heq (hUs_set nd rfl 0 (cs' := [(oC 0 [.ref qs, .ref qn, .int nz, .int x, .int 0]), (aI 3 su), (oC 3 [.ref qg, .int nm, .int sg, .int bd, .int nz, .int th])]) rfl rfl) ?_
  refine w_aload_n dX0_start_23 rfl ?_
  refine w_get (v := .ref qs) fX0_9 (hUs_at nd 0 rfl rfl) rfl dX0_start_24 ?_
  refine w_iconst (v := 0) dX0_start_27 (by decide) ?_
  refine w_callS (d' := d) (mc' := 0) (ms' := 0) (As := [.ref qs, .int 0]) (st := []) lX0_33 vJ7_fill_53178 rfl (Nat.le_of_ble_eq_true rfl) dX0_start_28 (Nat.le_of_ble_eq_true rfl) (Nat.le_of_ble_eq_true rfl) (Nat.le_refl _) (c_fill (hHas_sub nd (as' := [qs]) (cs' := [(aI 3 su)]) [1] rfl rfl) (nd_sub nd (as' := [qs]) [1] rfl rfl) (by decide) ?_)
  refine w_heq (hUs_in nd rfl [1] (cs2 := [(oC 0 [.ref qs, .ref qn, .int nz, .int x, .int 0]), (aI 3 (fun _ => 0)), (oC 3 [.ref qg, .int nm, .int sg, .int bd, .int nz, .int th])]) rfl rfl) ?_
  refine w_return rfl dX0_start_31 (Nat.le_of_ble_eq_true rfl) (Nat.le_of_ble_eq_true rfl) ?_
  exact k
set_option maxRecDepth 100000 in
set_option maxHeartbeats 4000000 in
theorem c_startQuiet {G : wG} {d : Nat} {h : hH} {Q : Option Value → hH → Prop} {q qs ql qn qg : Nat} {cn rg cl nm sg bd nz th : Int32} {su : Nat → Int32} (hw : hHas h [q, qs, qn] [(oC 0 [.ref qs, .ref ql, .int cn, .int rg, .int cl]), (aI 3 su), (oC 3 [.ref qg, .int nm, .int sg, .int bd, .int nz, .int th])]) (nd : [q, qs, qn].Nodup)  (k : Q none (hUs h [q, qs, qn] [(oC 0 [.ref qs, .ref qn, .int 0, .int 1, .int 0]), aI 3 (fun _ => 0), (oC 3 [.ref qg, .int nm, .int sg, .int bd, .int nz, .int th])])) : Cl G yX0_startQuiet (d + 2) 0 0 [.ref q, .ref qn] h Q := by
  refine Cl.of (ini := false) kX0_startQuiet (plainFor_of_name (by decide)) (by decide) (Nat.le_of_ble_eq_true rfl) rfl rfl (fun z => by cases z) ?_
  refine w_heq (hUs_id hw).symm ?_
  refine w_aload_n dX0_startQuiet_0 rfl ?_
  refine w_aload_n dX0_startQuiet_1 rfl ?_
  refine w_iconst (v := 1) dX0_startQuiet_2 (by decide) ?_
  refine w_callV (ci := 0) (d' := d + 1) (mc' := 0) (ms' := 0) (As := [.ref qn, .int 1]) (st := []) lX0_39 vX0_start rfl (hUs_at nd 0 rfl rfl) rfl (Nat.le_of_ble_eq_true rfl) dX0_startQuiet_3 (Nat.le_of_ble_eq_true rfl) (Nat.le_of_ble_eq_true rfl) (Nat.le_refl _) (c_start (hHas_sub nd (as' := [q, qs, qn]) (cs' := [(oC 0 [.ref qs, .ref ql, .int cn, .int rg, .int cl]), (aI 3 su), (oC 3 [.ref qg, .int nm, .int sg, .int bd, .int nz, .int th])]) [0, 1, 2] rfl rfl) (nd_sub nd (as' := [q, qs, qn]) [0, 1, 2] rfl rfl)  ?_)
  refine w_heq (hUs_in nd rfl [0, 1, 2] (cs2 := [(oC 0 [.ref qs, .ref qn, .int nz, .int 1, .int 0]), (aI 3 (fun _ => 0)), (oC 3 [.ref qg, .int nm, .int sg, .int bd, .int nz, .int th])]) rfl rfl) ?_
  refine w_aload_n dX0_startQuiet_6 rfl ?_
  refine w_iconst (v := 0) dX0_startQuiet_7 (by decide) ?_
  refine w_put (fs' := [.ref qs, .ref qn, .int 0, .int 1, .int 0]) fX0_29 (hUs_at nd 0 rfl rfl) rfl rfl (Nat.le_of_ble_eq_true rfl) rfl dX0_startQuiet_8 ?_
  refine w_heq (hUs_set nd rfl 0 (cs' := [(oC 0 [.ref qs, .ref qn, .int 0, .int 1, .int 0]), (aI 3 (fun _ => 0)), (oC 3 [.ref qg, .int nm, .int sg, .int bd, .int nz, .int th])]) rfl rfl) ?_
  refine w_return rfl dX0_startQuiet_11 (Nat.le_of_ble_eq_true rfl) (Nat.le_of_ble_eq_true rfl) ?_
  exact k
set_option maxRecDepth 100000 in
set_option maxHeartbeats 4000000 in
theorem c_isAt {G : wG} {d : Nat} {h : hH} {Q : Option Value → hH → Prop} {q qs ql qa : Nat} {cn rg cl : Int32} {su sa : Nat → Int32} (hw : hHas h [q, qs, qa] [(oC 0 [.ref qs, .ref ql, .int cn, .int rg, .int cl]), (aI 3 su), (aI 3 sa)])  (k : Q (some (.int (eqS su sa))) h) : Cl G yX0_isAt d 0 0 [.ref q, .ref qa] h Q := by
  refine Cl.of (ini := false) kX0_isAt (plainFor_of_name (by decide)) (by decide) (Nat.le_of_ble_eq_true rfl) rfl rfl (fun z => by cases z) ?_
  refine w_iconst (v := (nI 0)) dX0_isAt_0 (by decide) ?_
  refine w_istore_n (ls2 := [some (.ref q), some (.ref qa), some (.int (nI 0))]) dX0_isAt_1 (by decide) rfl rfl ?_
  refine w_iload_n dX0_isAt_2 rfl ?_
  refine w_aload_n dX0_isAt_3 rfl ?_
  refine w_get (v := .ref qs) fX0_9 (hw 0 _ _ rfl rfl) rfl dX0_isAt_4 ?_
  refine w_alen (v := (nI 3)) (hw 1 _ _ rfl rfl) rfl dX0_isAt_7 ?_
  refine w_icmp_ge_f (tgt := 37) dX0_isAt_8 rfl (fun z => absurd ((nI_leI (a := 3) (b := 0) (by omega) (by omega)).mp z) (by omega)) ?_
  refine w_iload_n dX0_isAt_11 rfl ?_
  refine w_aload_n dX0_isAt_12 rfl ?_
  refine w_alen (v := (nI 3)) (hw 2 _ _ rfl rfl) rfl dX0_isAt_13 ?_
  refine w_icmp_ge_f (tgt := 37) dX0_isAt_14 rfl (fun z => absurd ((nI_leI (a := 3) (b := 0) (by omega) (by omega)).mp z) (by omega)) ?_
  refine w_aload_n dX0_isAt_17 rfl ?_
  refine w_get (v := .ref qs) fX0_9 (hw 0 _ _ rfl rfl) rfl dX0_isAt_18 ?_
  refine w_iload_n dX0_isAt_21 rfl ?_
  refine w_ialoadN (hw 1 _ _ rfl rfl) (by omega) (by omega) dX0_isAt_22 ?_
  refine w_aload_n dX0_isAt_23 rfl ?_
  refine w_iload_n dX0_isAt_24 rfl ?_
  refine w_ialoadN (hw 2 _ _ rfl rfl) (by omega) (by omega) dX0_isAt_25 ?_
  refine w_icmp_eq (tgt := 31) dX0_isAt_26 rfl (fun b26 => ?_) (fun b26 => ?_)
  · have c0 := b26
    refine w_iinc (v := nI (0 + 1)) (ls2 := [some (.ref q), some (.ref qa), some (.int (nI (0 + 1)))]) dX0_isAt_31 rfl (nI_1 _) (by decide) rfl rfl ?_
    refine w_goto (tgt := 2) dX0_isAt_34 rfl ?_
    refine w_iload_n dX0_isAt_2 rfl ?_
    refine w_aload_n dX0_isAt_3 rfl ?_
    refine w_get (v := .ref qs) fX0_9 (hw 0 _ _ rfl rfl) rfl dX0_isAt_4 ?_
    refine w_alen (v := (nI 3)) (hw 1 _ _ rfl rfl) rfl dX0_isAt_7 ?_
    refine w_icmp_ge_f (tgt := 37) dX0_isAt_8 rfl (fun z => absurd ((nI_leI (a := 3) (b := (0 + 1)) (by omega) (by omega)).mp z) (by omega)) ?_
    refine w_iload_n dX0_isAt_11 rfl ?_
    refine w_aload_n dX0_isAt_12 rfl ?_
    refine w_alen (v := (nI 3)) (hw 2 _ _ rfl rfl) rfl dX0_isAt_13 ?_
    refine w_icmp_ge_f (tgt := 37) dX0_isAt_14 rfl (fun z => absurd ((nI_leI (a := 3) (b := (0 + 1)) (by omega) (by omega)).mp z) (by omega)) ?_
    refine w_aload_n dX0_isAt_17 rfl ?_
    refine w_get (v := .ref qs) fX0_9 (hw 0 _ _ rfl rfl) rfl dX0_isAt_18 ?_
    refine w_iload_n dX0_isAt_21 rfl ?_
    refine w_ialoadN (hw 1 _ _ rfl rfl) (by omega) (by omega) dX0_isAt_22 ?_
    refine w_aload_n dX0_isAt_23 rfl ?_
    refine w_iload_n dX0_isAt_24 rfl ?_
    refine w_ialoadN (hw 2 _ _ rfl rfl) (by omega) (by omega) dX0_isAt_25 ?_
    refine w_icmp_eq (tgt := 31) dX0_isAt_26 rfl (fun b26 => ?_) (fun b26 => ?_)
    · have c1 := b26
      refine w_iinc (v := nI ((0 + 1) + 1)) (ls2 := [some (.ref q), some (.ref qa), some (.int (nI ((0 + 1) + 1)))]) dX0_isAt_31 rfl (nI_1 _) (by decide) rfl rfl ?_
      refine w_goto (tgt := 2) dX0_isAt_34 rfl ?_
      refine w_iload_n dX0_isAt_2 rfl ?_
      refine w_aload_n dX0_isAt_3 rfl ?_
      refine w_get (v := .ref qs) fX0_9 (hw 0 _ _ rfl rfl) rfl dX0_isAt_4 ?_
      refine w_alen (v := (nI 3)) (hw 1 _ _ rfl rfl) rfl dX0_isAt_7 ?_
      refine w_icmp_ge_f (tgt := 37) dX0_isAt_8 rfl (fun z => absurd ((nI_leI (a := 3) (b := ((0 + 1) + 1)) (by omega) (by omega)).mp z) (by omega)) ?_
      refine w_iload_n dX0_isAt_11 rfl ?_
      refine w_aload_n dX0_isAt_12 rfl ?_
      refine w_alen (v := (nI 3)) (hw 2 _ _ rfl rfl) rfl dX0_isAt_13 ?_
      refine w_icmp_ge_f (tgt := 37) dX0_isAt_14 rfl (fun z => absurd ((nI_leI (a := 3) (b := ((0 + 1) + 1)) (by omega) (by omega)).mp z) (by omega)) ?_
      refine w_aload_n dX0_isAt_17 rfl ?_
      refine w_get (v := .ref qs) fX0_9 (hw 0 _ _ rfl rfl) rfl dX0_isAt_18 ?_
      refine w_iload_n dX0_isAt_21 rfl ?_
      refine w_ialoadN (hw 1 _ _ rfl rfl) (by omega) (by omega) dX0_isAt_22 ?_
      refine w_aload_n dX0_isAt_23 rfl ?_
      refine w_iload_n dX0_isAt_24 rfl ?_
      refine w_ialoadN (hw 2 _ _ rfl rfl) (by omega) (by omega) dX0_isAt_25 ?_
      refine w_icmp_eq (tgt := 31) dX0_isAt_26 rfl (fun b26 => ?_) (fun b26 => ?_)
      · have c2 := b26
        refine w_iinc (v := nI (((0 + 1) + 1) + 1)) (ls2 := [some (.ref q), some (.ref qa), some (.int (nI (((0 + 1) + 1) + 1)))]) dX0_isAt_31 rfl (nI_1 _) (by decide) rfl rfl ?_
        refine w_goto (tgt := 2) dX0_isAt_34 rfl ?_
        refine w_iload_n dX0_isAt_2 rfl ?_
        refine w_aload_n dX0_isAt_3 rfl ?_
        refine w_get (v := .ref qs) fX0_9 (hw 0 _ _ rfl rfl) rfl dX0_isAt_4 ?_
        refine w_alen (v := (nI 3)) (hw 1 _ _ rfl rfl) rfl dX0_isAt_7 ?_
        refine w_icmp_ge_t (tgt := 37) dX0_isAt_8 rfl ((nI_leI (a := 3) (b := (((0 + 1) + 1) + 1)) (by omega) (by omega)).mpr (by omega)) ?_
        refine w_iconst (v := 1) dX0_isAt_37 (by decide) ?_
        refine w_zreturn rfl dX0_isAt_38 rfl (Nat.le_of_ble_eq_true rfl) (Nat.le_of_ble_eq_true rfl) ?_
        rw [eqS, if_pos ⟨c0, c1, c2⟩] at k
        exact k
      · refine w_iconst (v := 0) dX0_isAt_29 (by decide) ?_
        refine w_zreturn rfl dX0_isAt_30 rfl (Nat.le_of_ble_eq_true rfl) (Nat.le_of_ble_eq_true rfl) ?_
        rw [eqS, if_neg (fun z => by first | exact b26 z.1 | exact b26 z.2.1 | exact b26 z.2.2)] at k
        exact k
    · refine w_iconst (v := 0) dX0_isAt_29 (by decide) ?_
      refine w_zreturn rfl dX0_isAt_30 rfl (Nat.le_of_ble_eq_true rfl) (Nat.le_of_ble_eq_true rfl) ?_
      rw [eqS, if_neg (fun z => by first | exact b26 z.1 | exact b26 z.2.1 | exact b26 z.2.2)] at k
      exact k
  · refine w_iconst (v := 0) dX0_isAt_29 (by decide) ?_
    refine w_zreturn rfl dX0_isAt_30 rfl (Nat.le_of_ble_eq_true rfl) (Nat.le_of_ble_eq_true rfl) ?_
    rw [eqS, if_neg (fun z => by first | exact b26 z.1 | exact b26 z.2.1 | exact b26 z.2.2)] at k
    exact k
