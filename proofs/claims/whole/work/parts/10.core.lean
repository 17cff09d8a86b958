set_option maxRecDepth 100000 in
set_option maxHeartbeats 4000000 in
theorem c_max {G : wG} {d : Nat} {h : hH} {Q : Option Value → hH → Prop} {x y : Int32}  (k : Q (some (.int (mxI x y))) h) : Cl G yJ9_max_7cf53 d 0 0 [.int x, .int y] h Q := by
  refine Cl.of (ini := false) kJ9_max_7cf53 (by decide +kernel) (by decide) (Nat.le_of_ble_eq_true rfl) rfl rfl (fun z => by cases z) ?_
  refine w_iload_n dJ9_max_7cf53_0 rfl ?_
  refine w_iload_n dJ9_max_7cf53_1 rfl ?_
  refine w_icmp_lt (tgt := 9) dJ9_max_7cf53_2 rfl (fun b2 => ?_) (fun b2 => ?_)
  · refine w_iload_n dJ9_max_7cf53_9 rfl ?_
    refine w_ireturn rfl dJ9_max_7cf53_10 (Nat.le_of_ble_eq_true rfl) (Nat.le_of_ble_eq_true rfl) ?_
    have e : mxI x y = y := by
      simp [mxI, *]
    rw [e] at k
    exact k
  · refine w_iload_n dJ9_max_7cf53_5 rfl ?_
    refine w_goto (tgt := 10) dJ9_max_7cf53_6 rfl ?_
    refine w_ireturn rfl dJ9_max_7cf53_10 (Nat.le_of_ble_eq_true rfl) (Nat.le_of_ble_eq_true rfl) ?_
    have e : mxI x y = x := by
      simp [mxI, *]
    rw [e] at k
    exact k
set_option maxRecDepth 100000 in
set_option maxHeartbeats 4000000 in
theorem c_min {G : wG} {d : Nat} {h : hH} {Q : Option Value → hH → Prop} {x y : Int32}  (k : Q (some (.int (mnI x y))) h) : Cl G yJ9_min_7cf53 d 0 0 [.int x, .int y] h Q := by
  refine Cl.of (ini := false) kJ9_min_7cf53 (by decide +kernel) (by decide) (Nat.le_of_ble_eq_true rfl) rfl rfl (fun z => by cases z) ?_
  refine w_iload_n dJ9_min_7cf53_0 rfl ?_
  refine w_iload_n dJ9_min_7cf53_1 rfl ?_
  refine w_icmp_gt (tgt := 9) dJ9_min_7cf53_2 rfl (fun b2 => ?_) (fun b2 => ?_)
  · refine w_iload_n dJ9_min_7cf53_9 rfl ?_
    refine w_ireturn rfl dJ9_min_7cf53_10 (Nat.le_of_ble_eq_true rfl) (Nat.le_of_ble_eq_true rfl) ?_
    have e : mnI x y = y := by
      simp [mnI, *]
    rw [e] at k
    exact k
  · refine w_iload_n dJ9_min_7cf53_5 rfl ?_
    refine w_goto (tgt := 10) dJ9_min_7cf53_6 rfl ?_
    refine w_ireturn rfl dJ9_min_7cf53_10 (Nat.le_of_ble_eq_true rfl) (Nat.le_of_ble_eq_true rfl) ?_
    have e : mnI x y = x := by
      simp [mnI, *]
    rw [e] at k
    exact k
set_option maxRecDepth 100000 in
set_option maxHeartbeats 4000000 in
theorem c_abs {G : wG} {d : Nat} {h : hH} {Q : Option Value → hH → Prop} {x : Int32}  (k : Q (some (.int (abI x))) h) : Cl G yJ9_abs_0f7a4 d 0 0 [.int x] h Q := by
  refine Cl.of (ini := false) kJ9_abs_0f7a4 (by decide +kernel) (by decide) (Nat.le_of_ble_eq_true rfl) rfl rfl (fun z => by cases z) ?_
  refine w_iload_n dJ9_abs_0f7a4_0 rfl ?_
  refine w_if_ge (tgt := 9) dJ9_abs_0f7a4_1 rfl (fun b1 => ?_) (fun b1 => ?_)
  · refine w_iload_n dJ9_abs_0f7a4_9 rfl ?_
    refine w_ireturn rfl dJ9_abs_0f7a4_10 (Nat.le_of_ble_eq_true rfl) (Nat.le_of_ble_eq_true rfl) ?_
    have e : abI x = x := by
      simp [abI, *]
    rw [e] at k
    exact k
  · refine w_iload_n dJ9_abs_0f7a4_4 rfl ?_
    refine w_ineg dJ9_abs_0f7a4_5 ?_
    refine w_goto (tgt := 10) dJ9_abs_0f7a4_6 rfl ?_
    refine w_ireturn rfl dJ9_abs_0f7a4_10 (Nat.le_of_ble_eq_true rfl) (Nat.le_of_ble_eq_true rfl) ?_
    have e : abI x = -x := by
      simp [abI, *]
    rw [e] at k
    exact k
set_option maxRecDepth 100000 in
set_option maxHeartbeats 4000000 in
theorem c_valueOf {G : wG} {d : Nat} {h : hH} {Q : Option Value → hH → Prop} {q qf : Nat} {nm sg bd nz th x : Int32} (hq : h.1 q = some (oC 3 [.ref qf, .int nm, .int sg, .int bd, .int nz, .int th])) (k : Q (some (.int (valF th x))) h) : Cl G yX3_valueOf d 0 0 [.ref q, .int x] h Q := by
  refine Cl.of (ini := false) kX3_valueOf (by decide +kernel) (by decide) (Nat.le_of_ble_eq_true rfl) rfl rfl (fun z => by cases z) ?_
  refine w_aload_n dX3_valueOf_0 rfl ?_
  refine w_get (v := .int th) fX3_34 hq rfl dX3_valueOf_1 ?_
  refine w_if_ne (tgt := 17) dX3_valueOf_4 rfl (fun b4 => ?_) (fun b4 => ?_)
  · refine w_iload_n dX3_valueOf_17 rfl ?_
    refine w_sipush (v := 500) dX3_valueOf_18 (by decide) ?_
    refine w_icmp_lt (tgt := 28) dX3_valueOf_21 rfl (fun b21 => ?_) (fun b21 => ?_)
    · refine w_iload_n dX3_valueOf_28 rfl ?_
      refine w_sipush (v := (-500)) dX3_valueOf_29 (by decide) ?_
      refine w_icmp_gt (tgt := 39) dX3_valueOf_32 rfl (fun b32 => ?_) (fun b32 => ?_)
      · refine w_iconst (v := 0) dX3_valueOf_39 (by decide) ?_
        refine w_ireturn rfl dX3_valueOf_40 (Nat.le_of_ble_eq_true rfl) (Nat.le_of_ble_eq_true rfl) ?_
        have e : valF th x = 0 := by
          simp [valF, *]
        rw [e] at k
        exact k
      · refine w_iconst (v := (-1)) dX3_valueOf_35 (by decide) ?_
        refine w_goto (tgt := 40) dX3_valueOf_36 rfl ?_
        refine w_ireturn rfl dX3_valueOf_40 (Nat.le_of_ble_eq_true rfl) (Nat.le_of_ble_eq_true rfl) ?_
        have e : valF th x = (-1) := by
          simp [valF, *]
        rw [e] at k
        exact k
    · refine w_iconst (v := 1) dX3_valueOf_24 (by decide) ?_
      refine w_goto (tgt := 40) dX3_valueOf_25 rfl ?_
      refine w_ireturn rfl dX3_valueOf_40 (Nat.le_of_ble_eq_true rfl) (Nat.le_of_ble_eq_true rfl) ?_
      have e : valF th x = 1 := by
        simp [valF, *]
      rw [e] at k
      exact k
  · refine w_iload_n dX3_valueOf_7 rfl ?_
    refine w_if_lt (tgt := 15) dX3_valueOf_8 rfl (fun b8 => ?_) (fun b8 => ?_)
    · refine w_iconst (v := (-1)) dX3_valueOf_15 (by decide) ?_
      refine w_ireturn rfl dX3_valueOf_16 (Nat.le_of_ble_eq_true rfl) (Nat.le_of_ble_eq_true rfl) ?_
      have e : valF th x = (-1) := by
        simp [valF, *]
      rw [e] at k
      exact k
    · refine w_iconst (v := 1) dX3_valueOf_11 (by decide) ?_
      refine w_goto (tgt := 16) dX3_valueOf_12 rfl ?_
      refine w_ireturn rfl dX3_valueOf_16 (Nat.le_of_ble_eq_true rfl) (Nat.le_of_ble_eq_true rfl) ?_
      have e : valF th x = 1 := by
        simp [valF, *]
      rw [e] at k
      exact k
set_option maxRecDepth 100000 in
set_option maxHeartbeats 4000000 in
theorem c_stirred {G : wG} {d : Nat} {h : hH} {Q : Option Value → hH → Prop} {q qs ql : Nat} {cn rg cl : Int32} (hq : h.1 q = some (oC 0 [.ref qs, .ref ql, .int cn, .int rg, .int cl])) (k : Q (some (.int (stiF cn rg))) (hU h q (oC 0 [.ref qs, .ref ql, .int cn, .int (stiR cn rg), .int cl]))) : Cl G yX0_stirred d 0 0 [.ref q] h Q := by
  refine Cl.of (ini := false) kX0_stirred (by decide +kernel) (by decide) (Nat.le_of_ble_eq_true rfl) rfl rfl (fun z => by cases z) ?_
  refine w_aload_n dX0_stirred_0 rfl ?_
  refine w_get (v := .int cn) fX0_29 hq rfl dX0_stirred_1 ?_
  refine w_if_ne (tgt := 9) dX0_stirred_4 rfl (fun b4 => ?_) (fun b4 => ?_)
  · refine w_aload_n dX0_stirred_9 rfl ?_
    refine w_get (v := .int rg) fX0_22 hq rfl dX0_stirred_10 ?_
    refine w_aload_n dX0_stirred_13 rfl ?_
    refine w_get (v := .int rg) fX0_22 hq rfl dX0_stirred_14 ?_
    refine w_iconst (v := 2) dX0_stirred_17 (by decide) ?_
    refine w_ishr dX0_stirred_18 ?_
    refine w_ixor dX0_stirred_19 ?_
    refine w_aload_n dX0_stirred_20 rfl ?_
    refine w_get (v := .int rg) fX0_22 hq rfl dX0_stirred_21 ?_
    refine w_iconst (v := 3) dX0_stirred_24 (by decide) ?_
    refine w_ishr dX0_stirred_25 ?_
    refine w_ixor dX0_stirred_26 ?_
    refine w_aload_n dX0_stirred_27 rfl ?_
    refine w_get (v := .int rg) fX0_22 hq rfl dX0_stirred_28 ?_
    refine w_iconst (v := 5) dX0_stirred_31 (by decide) ?_
    refine w_ishr dX0_stirred_32 ?_
    refine w_ixor dX0_stirred_33 ?_
    refine w_iconst (v := 1) dX0_stirred_34 (by decide) ?_
    refine w_iand dX0_stirred_35 ?_
    refine w_istore_n (ls2 := [some (.ref q), some (.int ((((rg ^^^ (rg >>> ((2 : Int32) &&& 31))) ^^^ (rg >>> ((3 : Int32) &&& 31))) ^^^ (rg >>> ((5 : Int32) &&& 31))) &&& 1))]) dX0_stirred_36 (by decide) rfl rfl ?_
    refine w_aload_n dX0_stirred_37 rfl ?_
    refine w_aload_n dX0_stirred_38 rfl ?_
    refine w_get (v := .int rg) fX0_22 hq rfl dX0_stirred_39 ?_
    refine w_iconst (v := 2) dX0_stirred_42 (by decide) ?_
    refine w_idiv dX0_stirred_43 (by decide) ?_
    refine w_ldc nX0_66 dX0_stirred_44 ?_
    refine w_iload_n dX0_stirred_46 rfl ?_
    refine w_imul dX0_stirred_47 ?_
    refine w_iadd dX0_stirred_48 ?_
    refine w_put (fs' := [.ref qs, .ref ql, .int cn, .int ((rg / 2) + (32768 * ((((rg ^^^ (rg >>> ((2 : Int32) &&& 31))) ^^^ (rg >>> ((3 : Int32) &&& 31))) ^^^ (rg >>> ((5 : Int32) &&& 31))) &&& 1))), .int cl]) fX0_22 hq rfl rfl (Nat.le_of_ble_eq_true rfl) rfl dX0_stirred_49 ?_
    refine w_aload_n dX0_stirred_52 rfl ?_
    refine w_get (v := .int ((rg / 2) + (32768 * ((((rg ^^^ (rg >>> ((2 : Int32) &&& 31))) ^^^ (rg >>> ((3 : Int32) &&& 31))) ^^^ (rg >>> ((5 : Int32) &&& 31))) &&& 1)))) fX0_22 hU_s rfl dX0_stirred_53 ?_
    refine w_iconst (v := 1) dX0_stirred_56 (by decide) ?_
    refine w_iand dX0_stirred_57 ?_
    refine w_iconst (v := 1) dX0_stirred_58 (by decide) ?_
    refine w_icmp_ne (tgt := 69) dX0_stirred_59 rfl (fun b59 => ?_) (fun b59 => ?_)
    · refine w_aload_n dX0_stirred_69 rfl ?_
      refine w_get (v := .int cn) fX0_29 hU_s rfl dX0_stirred_70 ?_
      refine w_ineg dX0_stirred_73 ?_
      refine w_ireturn rfl dX0_stirred_74 (Nat.le_of_ble_eq_true rfl) (Nat.le_of_ble_eq_true rfl) ?_
      have e1 : stiF cn rg = -cn := by
        simp [stiF, regF, *]
      have e2 : stiR cn rg = (rg / 2) + (32768 * ((((rg ^^^ (rg >>> ((2 : Int32) &&& 31))) ^^^ (rg >>> ((3 : Int32) &&& 31))) ^^^ (rg >>> ((5 : Int32) &&& 31))) &&& 1)) := by
        simp [stiR, regF, *]
      rw [e1, e2] at k
      exact k
    · refine w_aload_n dX0_stirred_62 rfl ?_
      refine w_get (v := .int cn) fX0_29 hU_s rfl dX0_stirred_63 ?_
      refine w_goto (tgt := 74) dX0_stirred_66 rfl ?_
      refine w_ireturn rfl dX0_stirred_74 (Nat.le_of_ble_eq_true rfl) (Nat.le_of_ble_eq_true rfl) ?_
      have e1 : stiF cn rg = cn := by
        simp [stiF, regF, *]
      have e2 : stiR cn rg = (rg / 2) + (32768 * ((((rg ^^^ (rg >>> ((2 : Int32) &&& 31))) ^^^ (rg >>> ((3 : Int32) &&& 31))) ^^^ (rg >>> ((5 : Int32) &&& 31))) &&& 1)) := by
        simp [stiR, regF, *]
      rw [e1, e2] at k
      exact k
  · refine w_iconst (v := 0) dX0_stirred_7 (by decide) ?_
    refine w_ireturn rfl dX0_stirred_8 (Nat.le_of_ble_eq_true rfl) (Nat.le_of_ble_eq_true rfl) ?_
    have e1 : stiF cn rg = 0 := by
      simp [stiF, regF, *]
    have e2 : stiR cn rg = rg := by
      simp [stiR, regF, *]
    rw [e1, e2] at k
    rw [hU_id hq] at k
    exact k
set_option maxRecDepth 100000 in
set_option maxHeartbeats 4000000 in
theorem c_held {G : wG} {d : Nat} {h : hH} {Q : Option Value → hH → Prop} {q qs ql qf : Nat} {cn rg cl nm sg bd nz th x : Int32} (hq : h.1 q = some (oC 0 [.ref qs, .ref ql, .int cn, .int rg, .int cl])) (hl : h.1 ql = some (oC 3 [.ref qf, .int nm, .int sg, .int bd, .int nz, .int th])) (k : Q (some (.int (hldF bd x))) (hU h q (oC 0 [.ref qs, .ref ql, .int cn, .int rg, .int (hldC bd x cl)]))) : Cl G yX0_held (d + 1) 0 0 [.ref q, .int x] h Q := by
  refine Cl.of (ini := false) kX0_held (by decide +kernel) (by decide) (Nat.le_of_ble_eq_true rfl) rfl rfl (fun z => by cases z) ?_
  refine w_aload_n dX0_held_0 rfl ?_
  refine w_get (v := .ref ql) fX0_18 hq rfl dX0_held_1 ?_
  refine w_get (v := .int bd) fX0_67 hl rfl dX0_held_4 ?_
  refine w_ineg dX0_held_7 ?_
  refine w_aload_n dX0_held_8 rfl ?_
  refine w_get (v := .ref ql) fX0_18 hq rfl dX0_held_9 ?_
  refine w_get (v := .int bd) fX0_67 hl rfl dX0_held_12 ?_
  refine w_iload_n dX0_held_15 rfl ?_
  refine w_callS (d' := d) (mc' := 0) (ms' := 0) (As := [.int bd, .int x]) (st := [.int (-bd)]) lX0_70 vJ9_min_7cf53 rfl (Nat.le_of_ble_eq_true rfl) dX0_held_16 (Nat.le_of_ble_eq_true rfl) (Nat.le_of_ble_eq_true rfl) (Nat.le_refl _) (c_min ?_)
  refine w_callS (d' := d) (mc' := 0) (ms' := 0) (As := [.int (-bd), .int (mnI bd x)]) (st := []) lX0_76 vJ9_max_7cf53 rfl (Nat.le_of_ble_eq_true rfl) dX0_held_19 (Nat.le_of_ble_eq_true rfl) (Nat.le_of_ble_eq_true rfl) (Nat.le_refl _) (c_max ?_)
  refine w_istore_n (ls2 := [some (.ref q), some (.int x), some (.int (mxI (-bd) (mnI bd x)))]) dX0_held_22 (by decide) rfl rfl ?_
  refine w_iload_n dX0_held_23 rfl ?_
  refine w_iload_n dX0_held_24 rfl ?_
  refine w_icmp_eq (tgt := 38) dX0_held_25 rfl (fun b25 => ?_) (fun b25 => ?_)
  · refine w_iload_n dX0_held_38 rfl ?_
    refine w_ireturn rfl dX0_held_39 (Nat.le_of_ble_eq_true rfl) (Nat.le_of_ble_eq_true rfl) ?_
    have e1 : hldF bd x = mxI (-bd) (mnI bd x) := by
      simp [hldF]
    have e2 : hldC bd x cl = cl := by
      simp [hldC, hldF, *]
    rw [e1, e2] at k
    rw [hU_id hq] at k
    exact k
  · refine w_aload_n dX0_held_28 rfl ?_
    refine w_dup dX0_held_29 rfl ?_
    refine w_get (v := .int cl) fX0_30 hq rfl dX0_held_30 ?_
    refine w_iconst (v := 1) dX0_held_33 (by decide) ?_
    refine w_iadd dX0_held_34 ?_
    refine w_put (fs' := [.ref qs, .ref ql, .int cn, .int rg, .int (cl + 1)]) fX0_30 hq rfl rfl (Nat.le_of_ble_eq_true rfl) rfl dX0_held_35 ?_
    refine w_iload_n dX0_held_38 rfl ?_
    refine w_ireturn rfl dX0_held_39 (Nat.le_of_ble_eq_true rfl) (Nat.le_of_ble_eq_true rfl) ?_
    have e1 : hldF bd x = mxI (-bd) (mnI bd x) := by
      simp [hldF]
    have e2 : hldC bd x cl = cl + 1 := by
      simp [hldC, hldF, *]
    rw [e1, e2] at k
    exact k
