set_option maxRecDepth 100000 in
set_option maxHeartbeats 4000000 in
theorem q_level_s {G : wG} {d : Nat} {h : hH} {Q : Option Value → hH → Prop} {m : Nat} {ft : Nat → Int32} {tp : Nat} {P : pD} {ht : Int32} {R : Option rnD} {i0 i1 : imD} {sd fa pl tr : Int32} {th : Int32}  {i : Nat} {y : Int32} (hI : mI h m ft tp P ht R i0 i1 sd fa pl tr th) (hi : i < P.2.1) (k : ∀ h2, mI h2 m ft tp P ht R i0 i1 sd fa (-1) (oLv P (nI i) y).2 0 → mFr m h h2 → Q (some (.int (oLv P (nI i) y).1)) h2) : Cl G yX10_level (d + 3) 0 0 [.ref m, .int (nI i), .int y] h Q := by
  refine mI_e hI ?_
  intro sz sp fl tk ta sg nu wd rl rw ah cl gt ln wn fs ff fb fn fp f3 fk fx fy fc fr f1 f2 fi fo fq fh fj fw fz hW hT hPm hG hRm hm0 hm1 hsd hht htp
  have hnL : P.1 ≤ 4096 := Nat.le_trans hG.2.2.1 (by decide)
  have hnW : P.2.1 ≤ 4096 := Nat.le_trans hG.2.2.2 (by decide)
  have hhL : (ht = 0 ∧ P.1 = 0) ∨ ht = 1 := hht.imp (fun z => ⟨z.1, z.2.1⟩) id
  have hhW : (ht = 0 ∧ P.2.1 = 0) ∨ ht = 1 := hht.imp (fun z => ⟨z.1, z.2.2⟩) id
  have hWv := hPm.2 i hi
  rw [Nat.zero_add] at hWv
  have hGw := (hG.2.1 i hi).1
  have hi4 : i < 4 := Nat.lt_of_lt_of_le hi hG.2.2.2
  have hw : hHas h [m, m + 8, m + 10, m + 11, m + 12, m + 13] [(oC 10 (mF m th tr pl (nI tp) sz sp fa fl tk ta sg nu wd (nI P.1) (nI P.2.1) rl rw ht sd ah cl)), (aI 8 fp), (aI 64 fk), (aI 64 fx), (aI 64 fy), (aI 64 fc)] := hHas_s hW [0, 8, 10, 11, 12, 13] rfl rfl
  have nd : [m, m + 8, m + 10, m + 11, m + 12, m + 13].Nodup := (nd_inc ⟨by omega, by omega, by omega, by omega, by omega, trivial⟩)
  refine Cl.of (ini := false) kX10_level (plainFor_of_name (by decide)) (by decide) (Nat.le_of_ble_eq_true rfl) rfl rfl (fun z => by cases z) ?_
  refine w_heq (hUs_id hw).symm ?_
  refine w_aload_n dX10_level_0 rfl ?_
  refine w_iconst (v := 0) dX10_level_1 (by decide) ?_
  refine w_put (fs' := (mF m 0 tr pl (nI tp) sz sp fa fl tk ta sg nu wd (nI P.1) (nI P.2.1) rl rw ht sd ah cl)) fX10_89 (hUs_at nd 0 rfl rfl) rfl rfl (Nat.le_of_ble_eq_true rfl) rfl dX10_level_2 ?_
  refine w_heq (hUs_set nd rfl 0 (cs' := [(oC 10 (mF m 0 tr pl (nI tp) sz sp fa fl tk ta sg nu wd (nI P.1) (nI P.2.1) rl rw ht sd ah cl)), (aI 8 fp), (aI 64 fk), (aI 64 fx), (aI 64 fy), (aI 64 fc)]) rfl rfl) ?_
  refine w_aload_n dX10_level_5 rfl ?_
  refine w_iload_n dX10_level_6 rfl ?_
  refine w_callV (ci := 10) (d' := d + 2) (mc' := 0) (ms' := 0) (As := [.int (nI i)]) (st := []) lX10_263 vX10_isWave rfl (hUs_at nd 0 rfl rfl) rfl (Nat.le_of_ble_eq_true rfl) dX10_level_7 (Nat.le_of_ble_eq_true rfl) (Nat.le_of_ble_eq_true rfl) (Nat.le_refl _) (m_isWave (hHas_sub nd (as' := [m]) (cs' := [(oC 10 (mF m 0 tr pl (nI tp) sz sp fa fl tk ta sg nu wd (nI P.1) (nI P.2.1) rl rw ht sd ah cl))]) [0] rfl rfl) hnW hhW ?_)
  refine w_if_ne_t (tgt := 19) dX10_level_10 rfl (by rw [ixB_s hi hnW]; decide) ?_
  refine w_iload_n dX10_level_19 rfl ?_
  refine w_if_ge (tgt := 31) dX10_level_20 rfl (fun b20 => ?_) (fun b20 => ?_)
  · refine w_aload_n dX10_level_31 rfl ?_
    refine w_aload_n dX10_level_32 rfl ?_
    refine w_iload_n dX10_level_33 rfl ?_
    refine w_iload_n dX10_level_34 rfl ?_
    refine w_callV (ci := 10) (d' := d + 2) (mc' := 0) (ms' := 0) (As := [.int (nI i), .int y]) (st := [.ref m]) lX10_269 vX10_levelOf rfl (hUs_at nd 0 rfl rfl) rfl (Nat.le_of_ble_eq_true rfl) dX10_level_35 (Nat.le_of_ble_eq_true rfl) (Nat.le_of_ble_eq_true rfl) (Nat.le_refl _) (m_levelOf (hHas_sub nd (as' := [m, m + 8, m + 10, m + 11, m + 12, m + 13]) (cs' := [(oC 10 (mF m 0 tr pl (nI tp) sz sp fa fl tk ta sg nu wd (nI P.1) (nI P.2.1) rl rw ht sd ah cl)), (aI 8 fp), (aI 64 fk), (aI 64 fx), (aI 64 fy), (aI 64 fc)]) [0, 1, 2, 3, 4, 5] rfl rfl) (V := (P.2.2.2 i).2) (show i < 8 by omega) hWv.1 hGw hWv.2.1 b20 ?_)
    refine w_callV (ci := 10) (d' := d + 2) (mc' := 0) (ms' := 0) (As := [.int (lvlT (P.2.2.2 i).2 y)]) (st := []) lX10_241 vX10_good rfl (hUs_at nd 0 rfl rfl) rfl (Nat.le_of_ble_eq_true rfl) dX10_level_38 (Nat.le_of_ble_eq_true rfl) (Nat.le_of_ble_eq_true rfl) (Nat.le_refl _) (m_good (hHas_sub nd (as' := [m]) (cs' := [(oC 10 (mF m 0 tr pl (nI tp) sz sp fa fl tk ta sg nu wd (nI P.1) (nI P.2.1) rl rw ht sd ah cl))]) [0] rfl rfl) (nd_sub nd (as' := [m]) [0] rfl rfl)  ?_)
    refine w_heq (hUs_in nd rfl [0] (cs2 := [(oC 10 (mF m 0 0 (-1) (nI tp) sz sp fa fl tk ta sg nu wd (nI P.1) (nI P.2.1) rl rw ht sd ah cl)), (aI 8 fp), (aI 64 fk), (aI 64 fx), (aI 64 fy), (aI 64 fc)]) rfl rfl) ?_
    refine w_ireturn rfl dX10_level_41 (Nat.le_of_ble_eq_true rfl) (Nat.le_of_ble_eq_true rfl) ?_
    have e : oLv P (nI i) y = (lvlT (P.2.2.2 i).2 y, 0) := by
      simp only [oLv, ixN_s hi hnW]
      rw [if_neg (Int32.not_lt.mpr b20)]
    rw [e] at k
    exact k _ (mI_i (cI_put hW (mAs_nd m) rfl [0, 8, 10, 11, 12, 13] (cs2 := [(oC 10 (mF m 0 0 (-1) (nI tp) sz sp fa fl tk ta sg nu wd (nI P.1) (nI P.2.1) rl rw ht sd ah cl)), (aI 600 gt), (aL 8 ln), (aL 8 wn), (aI 8 fs), (aI 24 ff), (aI 8 fb), (aI 8 fn), (aI 8 fp), (aZ 8 f3), (aI 64 fk), (aI 64 fx), (aI 64 fy), (aI 64 fc), (aI 11 fr), (aI 11 f1), (aI 11 f2), (aI 22 fi), (aB 4096 fo), (aB 8192 fq), (aZ 2 fh), (aI 2 fj), (aI 4096 fw), (aI 2100 fz)]) rfl rfl) hT hPm hG hRm hm0 hm1 hsd hht htp) (mFr_of (by intro a ha; simp only [List.mem_cons, List.not_mem_nil, or_false] at ha; omega))
  · refine w_aload_n dX10_level_23 rfl ?_
    refine w_iconst (v := 2) dX10_level_24 (by decide) ?_
    refine w_callV (ci := 10) (d' := d + 2) (mc' := 0) (ms' := 0) (As := [.int 2]) (st := []) lX10_266 vX10_lost rfl (hUs_at nd 0 rfl rfl) rfl (Nat.le_of_ble_eq_true rfl) dX10_level_25 (Nat.le_of_ble_eq_true rfl) (Nat.le_of_ble_eq_true rfl) (Nat.le_refl _) (m_lost (hHas_sub nd (as' := [m]) (cs' := [(oC 10 (mF m 0 tr pl (nI tp) sz sp fa fl tk ta sg nu wd (nI P.1) (nI P.2.1) rl rw ht sd ah cl))]) [0] rfl rfl) (nd_sub nd (as' := [m]) [0] rfl rfl)  ?_)
    refine w_heq (hUs_in nd rfl [0] (cs2 := [(oC 10 (mF m 0 2 (-1) (nI tp) sz sp fa fl tk ta sg nu wd (nI P.1) (nI P.2.1) rl rw ht sd ah cl)), (aI 8 fp), (aI 64 fk), (aI 64 fx), (aI 64 fy), (aI 64 fc)]) rfl rfl) ?_
    refine w_goto (tgt := 41) dX10_level_28 rfl ?_
    refine w_ireturn rfl dX10_level_41 (Nat.le_of_ble_eq_true rfl) (Nat.le_of_ble_eq_true rfl) ?_
    have e : oLv P (nI i) y = ((-1000000000), 2) := by
      simp only [oLv, ixN_s hi hnW]
      rw [if_pos (Int32.not_le.mp b20)]
    rw [e] at k
    exact k _ (mI_i (cI_put hW (mAs_nd m) rfl [0, 8, 10, 11, 12, 13] (cs2 := [(oC 10 (mF m 0 2 (-1) (nI tp) sz sp fa fl tk ta sg nu wd (nI P.1) (nI P.2.1) rl rw ht sd ah cl)), (aI 600 gt), (aL 8 ln), (aL 8 wn), (aI 8 fs), (aI 24 ff), (aI 8 fb), (aI 8 fn), (aI 8 fp), (aZ 8 f3), (aI 64 fk), (aI 64 fx), (aI 64 fy), (aI 64 fc), (aI 11 fr), (aI 11 f1), (aI 11 f2), (aI 22 fi), (aB 4096 fo), (aB 8192 fq), (aZ 2 fh), (aI 2 fj), (aI 4096 fw), (aI 2100 fz)]) rfl rfl) hT hPm hG hRm hm0 hm1 hsd hht htp) (mFr_of (by intro a ha; simp only [List.mem_cons, List.not_mem_nil, or_false] at ha; omega))
set_option maxRecDepth 100000 in
set_option maxHeartbeats 4000000 in
theorem q_level_n {G : wG} {d : Nat} {h : hH} {Q : Option Value → hH → Prop} {m : Nat} {ft : Nat → Int32} {tp : Nat} {P : pD} {ht : Int32} {R : Option rnD} {i0 i1 : imD} {sd fa pl tr : Int32} {th : Int32}  {w y : Int32} (hI : mI h m ft tp P ht R i0 i1 sd fa pl tr th) (hl : ¬ ∃ i, i < P.2.1 ∧ w = nI i) (k : ∀ h2, mI h2 m ft tp P ht R i0 i1 sd fa (-1) (oLv P w y).2 0 → mFr m h h2 → Q (some (.int (oLv P w y).1)) h2) : Cl G yX10_level (d + 3) 0 0 [.ref m, .int w, .int y] h Q := by
  refine mI_e hI ?_
  intro sz sp fl tk ta sg nu wd rl rw ah cl gt ln wn fs ff fb fn fp f3 fk fx fy fc fr f1 f2 fi fo fq fh fj fw fz hW hT hPm hG hRm hm0 hm1 hsd hht htp
  have hnL : P.1 ≤ 4096 := Nat.le_trans hG.2.2.1 (by decide)
  have hnW : P.2.1 ≤ 4096 := Nat.le_trans hG.2.2.2 (by decide)
  have hhL : (ht = 0 ∧ P.1 = 0) ∨ ht = 1 := hht.imp (fun z => ⟨z.1, z.2.1⟩) id
  have hhW : (ht = 0 ∧ P.2.1 = 0) ∨ ht = 1 := hht.imp (fun z => ⟨z.1, z.2.2⟩) id
  have hw : hHas h [m] [(oC 10 (mF m th tr pl (nI tp) sz sp fa fl tk ta sg nu wd (nI P.1) (nI P.2.1) rl rw ht sd ah cl))] := hHas_s hW [0] rfl rfl
  have nd : [m].Nodup := (nd_inc trivial)
  refine Cl.of (ini := false) kX10_level (plainFor_of_name (by decide)) (by decide) (Nat.le_of_ble_eq_true rfl) rfl rfl (fun z => by cases z) ?_
  refine w_heq (hUs_id hw).symm ?_
  refine w_aload_n dX10_level_0 rfl ?_
  refine w_iconst (v := 0) dX10_level_1 (by decide) ?_
  refine w_put (fs' := (mF m 0 tr pl (nI tp) sz sp fa fl tk ta sg nu wd (nI P.1) (nI P.2.1) rl rw ht sd ah cl)) fX10_89 (hUs_at nd 0 rfl rfl) rfl rfl (Nat.le_of_ble_eq_true rfl) rfl dX10_level_2 ?_
  refine w_heq (hUs_set nd rfl 0 (cs' := [(oC 10 (mF m 0 tr pl (nI tp) sz sp fa fl tk ta sg nu wd (nI P.1) (nI P.2.1) rl rw ht sd ah cl))]) rfl rfl) ?_
  refine w_aload_n dX10_level_5 rfl ?_
  refine w_iload_n dX10_level_6 rfl ?_
  refine w_callV (ci := 10) (d' := d + 2) (mc' := 0) (ms' := 0) (As := [.int w]) (st := []) lX10_263 vX10_isWave rfl (hUs_at nd 0 rfl rfl) rfl (Nat.le_of_ble_eq_true rfl) dX10_level_7 (Nat.le_of_ble_eq_true rfl) (Nat.le_of_ble_eq_true rfl) (Nat.le_refl _) (m_isWave (hHas_sub nd (as' := [m]) (cs' := [(oC 10 (mF m 0 tr pl (nI tp) sz sp fa fl tk ta sg nu wd (nI P.1) (nI P.2.1) rl rw ht sd ah cl))]) [0] rfl rfl) hnW hhW ?_)
  refine w_if_ne_f (tgt := 19) dX10_level_10 rfl (ixB_n hl hnW) ?_
  refine w_aload_n dX10_level_13 rfl ?_
  refine w_iconst (v := 1) dX10_level_14 (by decide) ?_
  refine w_callV (ci := 10) (d' := d + 2) (mc' := 0) (ms' := 0) (As := [.int 1]) (st := []) lX10_266 vX10_lost rfl (hUs_at nd 0 rfl rfl) rfl (Nat.le_of_ble_eq_true rfl) dX10_level_15 (Nat.le_of_ble_eq_true rfl) (Nat.le_of_ble_eq_true rfl) (Nat.le_refl _) (m_lost (hHas_sub nd (as' := [m]) (cs' := [(oC 10 (mF m 0 tr pl (nI tp) sz sp fa fl tk ta sg nu wd (nI P.1) (nI P.2.1) rl rw ht sd ah cl))]) [0] rfl rfl) (nd_sub nd (as' := [m]) [0] rfl rfl)  ?_)
  refine w_heq (hUs_in nd rfl [0] (cs2 := [(oC 10 (mF m 0 1 (-1) (nI tp) sz sp fa fl tk ta sg nu wd (nI P.1) (nI P.2.1) rl rw ht sd ah cl))]) rfl rfl) ?_
  refine w_ireturn rfl dX10_level_18 (Nat.le_of_ble_eq_true rfl) (Nat.le_of_ble_eq_true rfl) ?_
  have e : oLv P w y = ((-1000000000), 1) := by
    simp [oLv, ixN_n hl hnW]
  rw [e] at k
  exact k _ (mI_i (cI_put hW (mAs_nd m) rfl [0] (cs2 := [(oC 10 (mF m 0 1 (-1) (nI tp) sz sp fa fl tk ta sg nu wd (nI P.1) (nI P.2.1) rl rw ht sd ah cl)), (aI 600 gt), (aL 8 ln), (aL 8 wn), (aI 8 fs), (aI 24 ff), (aI 8 fb), (aI 8 fn), (aI 8 fp), (aZ 8 f3), (aI 64 fk), (aI 64 fx), (aI 64 fy), (aI 64 fc), (aI 11 fr), (aI 11 f1), (aI 11 f2), (aI 22 fi), (aB 4096 fo), (aB 8192 fq), (aZ 2 fh), (aI 2 fj), (aI 4096 fw), (aI 2100 fz)]) rfl rfl) hT hPm hG hRm hm0 hm1 hsd hht htp) (mFr_of (by intro a ha; simp only [List.mem_cons, List.not_mem_nil, or_false] at ha; omega))
theorem q_level {G : wG} {d : Nat} {h : hH} {Q : Option Value → hH → Prop} {m : Nat} {ft : Nat → Int32} {tp : Nat} {P : pD} {ht : Int32} {R : Option rnD} {i0 i1 : imD} {sd fa pl tr : Int32} {th : Int32} {w y : Int32} (hI : mI h m ft tp P ht R i0 i1 sd fa pl tr th) (k : ∀ h2, mI h2 m ft tp P ht R i0 i1 sd fa (-1) (oLv P w y).2 0 → mFr m h h2 → Q (some (.int (oLv P w y).1)) h2) : Cl G yX10_level (d + 3) 0 0 [.ref m, .int w, .int y] h Q := by
  by_cases hl : ∃ i, i < P.2.1 ∧ w = nI i
  · obtain ⟨i, hi, rfl⟩ := hl
    exact q_level_s hI hi k
  · exact q_level_n hI hl k
set_option maxRecDepth 100000 in
set_option maxHeartbeats 4000000 in
theorem q_begin_n {G : wG} {d : Nat} {h : hH} {Q : Option Value → hH → Prop} {m : Nat} {ft : Nat → Int32} {tp : Nat} {P : pD} {ht : Int32} {R : Option rnD} {i0 i1 : imD} {sd fa pl tr : Int32} {th : Int32}  {l w : Int32} (hI : mI h m ft tp P ht R i0 i1 sd fa pl tr th) (hl : ¬ ∃ j, j < P.1 ∧ l = nI j) (k : ∀ h2, mI h2 m ft tp P ht (rBg P R sd l w) i0 i1 sd fa (-1) (oBg P l w).2 0 → mFr m h h2 → Q (some (.int (oBg P l w).1)) h2) : Cl G yX10_begin (d + 2) 0 0 [.ref m, .int l, .int w] h Q := by
  refine mI_e hI ?_
  intro sz sp fl tk ta sg nu wd rl rw ah cl gt ln wn fs ff fb fn fp f3 fk fx fy fc fr f1 f2 fi fo fq fh fj fw fz hW hT hPm hG hRm hm0 hm1 hsd hht htp
  have hnL : P.1 ≤ 4096 := Nat.le_trans hG.2.2.1 (by decide)
  have hnW : P.2.1 ≤ 4096 := Nat.le_trans hG.2.2.2 (by decide)
  have hhL : (ht = 0 ∧ P.1 = 0) ∨ ht = 1 := hht.imp (fun z => ⟨z.1, z.2.1⟩) id
  have hhW : (ht = 0 ∧ P.2.1 = 0) ∨ ht = 1 := hht.imp (fun z => ⟨z.1, z.2.2⟩) id
  have hw : hHas h [m] [(oC 10 (mF m th tr pl (nI tp) sz sp fa fl tk ta sg nu wd (nI P.1) (nI P.2.1) rl rw ht sd ah cl))] := hHas_s hW [0] rfl rfl
  have nd : [m].Nodup := (nd_inc trivial)
  refine Cl.of (ini := false) kX10_begin (plainFor_of_name (by decide)) (by decide) (Nat.le_of_ble_eq_true rfl) rfl rfl (fun z => by cases z) ?_
  refine w_heq (hUs_id hw).symm ?_
  refine w_aload_n dX10_begin_0 rfl ?_
  refine w_iconst (v := 0) dX10_begin_1 (by decide) ?_
  refine w_put (fs' := (mF m 0 tr pl (nI tp) sz sp fa fl tk ta sg nu wd (nI P.1) (nI P.2.1) rl rw ht sd ah cl)) fX10_89 (hUs_at nd 0 rfl rfl) rfl rfl (Nat.le_of_ble_eq_true rfl) rfl dX10_begin_2 ?_
  refine w_heq (hUs_set nd rfl 0 (cs' := [(oC 10 (mF m 0 tr pl (nI tp) sz sp fa fl tk ta sg nu wd (nI P.1) (nI P.2.1) rl rw ht sd ah cl))]) rfl rfl) ?_
  refine w_aload_n dX10_begin_5 rfl ?_
  refine w_iload_n dX10_begin_6 rfl ?_
  refine w_callV (ci := 10) (d' := d + 1) (mc' := 0) (ms' := 0) (As := [.int l]) (st := []) lX10_251 vX10_isLoop rfl (hUs_at nd 0 rfl rfl) rfl (Nat.le_of_ble_eq_true rfl) dX10_begin_7 (Nat.le_of_ble_eq_true rfl) (Nat.le_of_ble_eq_true rfl) (Nat.le_refl _) (m_isLoop (hHas_sub nd (as' := [m]) (cs' := [(oC 10 (mF m 0 tr pl (nI tp) sz sp fa fl tk ta sg nu wd (nI P.1) (nI P.2.1) rl rw ht sd ah cl))]) [0] rfl rfl) hnL hhL ?_)
  refine w_if_eq_t (tgt := 21) dX10_begin_10 rfl (ixB_n hl hnL) ?_
  refine w_aload_n dX10_begin_21 rfl ?_
  refine w_iconst (v := 1) dX10_begin_22 (by decide) ?_
  refine w_callV (ci := 10) (d' := d + 1) (mc' := 0) (ms' := 0) (As := [.int 1]) (st := []) lX10_277 vX10_done rfl (hUs_at nd 0 rfl rfl) rfl (Nat.le_of_ble_eq_true rfl) dX10_begin_23 (Nat.le_of_ble_eq_true rfl) (Nat.le_of_ble_eq_true rfl) (Nat.le_refl _) (m_done (hHas_sub nd (as' := [m]) (cs' := [(oC 10 (mF m 0 tr pl (nI tp) sz sp fa fl tk ta sg nu wd (nI P.1) (nI P.2.1) rl rw ht sd ah cl))]) [0] rfl rfl) (nd_sub nd (as' := [m]) [0] rfl rfl)  ?_)
  refine w_heq (hUs_in nd rfl [0] (cs2 := [(oC 10 (mF m 0 1 (-1) (nI tp) sz sp fa fl tk ta sg nu wd (nI P.1) (nI P.2.1) rl rw ht sd ah cl))]) rfl rfl) ?_
  refine w_zreturn rfl dX10_begin_26 rfl (Nat.le_of_ble_eq_true rfl) (Nat.le_of_ble_eq_true rfl) ?_
  have e : oBg P l w = (0, 1) := by
    simp [oBg, ixN_n hl hnL]
  have e2 : rBg P R sd l w = R := by
    simp [rBg, ixN_n hl hnL]
  rw [e, e2] at k
  exact k _ (mI_i (cI_put hW (mAs_nd m) rfl [0] (cs2 := [(oC 10 (mF m 0 1 (-1) (nI tp) sz sp fa fl tk ta sg nu wd (nI P.1) (nI P.2.1) rl rw ht sd ah cl)), (aI 600 gt), (aL 8 ln), (aL 8 wn), (aI 8 fs), (aI 24 ff), (aI 8 fb), (aI 8 fn), (aI 8 fp), (aZ 8 f3), (aI 64 fk), (aI 64 fx), (aI 64 fy), (aI 64 fc), (aI 11 fr), (aI 11 f1), (aI 11 f2), (aI 22 fi), (aB 4096 fo), (aB 8192 fq), (aZ 2 fh), (aI 2 fj), (aI 4096 fw), (aI 2100 fz)]) rfl rfl) hT hPm hG hRm hm0 hm1 hsd hht htp) (mFr_of (by intro a ha; simp only [List.mem_cons, List.not_mem_nil, or_false] at ha; omega))
set_option maxRecDepth 100000 in
set_option maxHeartbeats 4000000 in
theorem q_begin_m {G : wG} {d : Nat} {h : hH} {Q : Option Value → hH → Prop} {m : Nat} {ft : Nat → Int32} {tp : Nat} {P : pD} {ht : Int32} {R : Option rnD} {i0 i1 : imD} {sd fa pl tr : Int32} {th : Int32}  {j : Nat} {w : Int32} (hI : mI h m ft tp P ht R i0 i1 sd fa pl tr th) (hj : j < P.1) (hl : ¬ ∃ i, i < P.2.1 ∧ w = nI i) (k : ∀ h2, mI h2 m ft tp P ht (rBg P R sd (nI j) w) i0 i1 sd fa (-1) (oBg P (nI j) w).2 0 → mFr m h h2 → Q (some (.int (oBg P (nI j) w).1)) h2) : Cl G yX10_begin (d + 2) 0 0 [.ref m, .int (nI j), .int w] h Q := by
  refine mI_e hI ?_
  intro sz sp fl tk ta sg nu wd rl rw ah cl gt ln wn fs ff fb fn fp f3 fk fx fy fc fr f1 f2 fi fo fq fh fj fw fz hW hT hPm hG hRm hm0 hm1 hsd hht htp
  have hnL : P.1 ≤ 4096 := Nat.le_trans hG.2.2.1 (by decide)
  have hnW : P.2.1 ≤ 4096 := Nat.le_trans hG.2.2.2 (by decide)
  have hhL : (ht = 0 ∧ P.1 = 0) ∨ ht = 1 := hht.imp (fun z => ⟨z.1, z.2.1⟩) id
  have hhW : (ht = 0 ∧ P.2.1 = 0) ∨ ht = 1 := hht.imp (fun z => ⟨z.1, z.2.2⟩) id
  have hw : hHas h [m] [(oC 10 (mF m th tr pl (nI tp) sz sp fa fl tk ta sg nu wd (nI P.1) (nI P.2.1) rl rw ht sd ah cl))] := hHas_s hW [0] rfl rfl
  have nd : [m].Nodup := (nd_inc trivial)
  refine Cl.of (ini := false) kX10_begin (plainFor_of_name (by decide)) (by decide) (Nat.le_of_ble_eq_true rfl) rfl rfl (fun z => by cases z) ?_
  refine w_heq (hUs_id hw).symm ?_
  refine w_aload_n dX10_begin_0 rfl ?_
  refine w_iconst (v := 0) dX10_begin_1 (by decide) ?_
  refine w_put (fs' := (mF m 0 tr pl (nI tp) sz sp fa fl tk ta sg nu wd (nI P.1) (nI P.2.1) rl rw ht sd ah cl)) fX10_89 (hUs_at nd 0 rfl rfl) rfl rfl (Nat.le_of_ble_eq_true rfl) rfl dX10_begin_2 ?_
  refine w_heq (hUs_set nd rfl 0 (cs' := [(oC 10 (mF m 0 tr pl (nI tp) sz sp fa fl tk ta sg nu wd (nI P.1) (nI P.2.1) rl rw ht sd ah cl))]) rfl rfl) ?_
  refine w_aload_n dX10_begin_5 rfl ?_
  refine w_iload_n dX10_begin_6 rfl ?_
  refine w_callV (ci := 10) (d' := d + 1) (mc' := 0) (ms' := 0) (As := [.int (nI j)]) (st := []) lX10_251 vX10_isLoop rfl (hUs_at nd 0 rfl rfl) rfl (Nat.le_of_ble_eq_true rfl) dX10_begin_7 (Nat.le_of_ble_eq_true rfl) (Nat.le_of_ble_eq_true rfl) (Nat.le_refl _) (m_isLoop (hHas_sub nd (as' := [m]) (cs' := [(oC 10 (mF m 0 tr pl (nI tp) sz sp fa fl tk ta sg nu wd (nI P.1) (nI P.2.1) rl rw ht sd ah cl))]) [0] rfl rfl) hnL hhL ?_)
  refine w_if_eq_f (tgt := 21) dX10_begin_10 rfl (by rw [ixB_s hj hnL]; decide) ?_
  refine w_aload_n dX10_begin_13 rfl ?_
  refine w_iload_n dX10_begin_14 rfl ?_
  refine w_callV (ci := 10) (d' := d + 1) (mc' := 0) (ms' := 0) (As := [.int w]) (st := []) lX10_263 vX10_isWave rfl (hUs_at nd 0 rfl rfl) rfl (Nat.le_of_ble_eq_true rfl) dX10_begin_15 (Nat.le_of_ble_eq_true rfl) (Nat.le_of_ble_eq_true rfl) (Nat.le_refl _) (m_isWave (hHas_sub nd (as' := [m]) (cs' := [(oC 10 (mF m 0 tr pl (nI tp) sz sp fa fl tk ta sg nu wd (nI P.1) (nI P.2.1) rl rw ht sd ah cl))]) [0] rfl rfl) hnW hhW ?_)
  refine w_if_ne_f (tgt := 27) dX10_begin_18 rfl (ixB_n hl hnW) ?_
  refine w_aload_n dX10_begin_21 rfl ?_
  refine w_iconst (v := 1) dX10_begin_22 (by decide) ?_
  refine w_callV (ci := 10) (d' := d + 1) (mc' := 0) (ms' := 0) (As := [.int 1]) (st := []) lX10_277 vX10_done rfl (hUs_at nd 0 rfl rfl) rfl (Nat.le_of_ble_eq_true rfl) dX10_begin_23 (Nat.le_of_ble_eq_true rfl) (Nat.le_of_ble_eq_true rfl) (Nat.le_refl _) (m_done (hHas_sub nd (as' := [m]) (cs' := [(oC 10 (mF m 0 tr pl (nI tp) sz sp fa fl tk ta sg nu wd (nI P.1) (nI P.2.1) rl rw ht sd ah cl))]) [0] rfl rfl) (nd_sub nd (as' := [m]) [0] rfl rfl)  ?_)
  refine w_heq (hUs_in nd rfl [0] (cs2 := [(oC 10 (mF m 0 1 (-1) (nI tp) sz sp fa fl tk ta sg nu wd (nI P.1) (nI P.2.1) rl rw ht sd ah cl))]) rfl rfl) ?_
  refine w_zreturn rfl dX10_begin_26 rfl (Nat.le_of_ble_eq_true rfl) (Nat.le_of_ble_eq_true rfl) ?_
  have e : oBg P (nI j) w = (0, 1) := by
    simp [oBg, ixN_s hj hnL, ixN_n hl hnW]
  have e2 : rBg P R sd (nI j) w = R := by
    simp [rBg, ixN_s hj hnL, ixN_n hl hnW]
  rw [e, e2] at k
  exact k _ (mI_i (cI_put hW (mAs_nd m) rfl [0] (cs2 := [(oC 10 (mF m 0 1 (-1) (nI tp) sz sp fa fl tk ta sg nu wd (nI P.1) (nI P.2.1) rl rw ht sd ah cl)), (aI 600 gt), (aL 8 ln), (aL 8 wn), (aI 8 fs), (aI 24 ff), (aI 8 fb), (aI 8 fn), (aI 8 fp), (aZ 8 f3), (aI 64 fk), (aI 64 fx), (aI 64 fy), (aI 64 fc), (aI 11 fr), (aI 11 f1), (aI 11 f2), (aI 22 fi), (aB 4096 fo), (aB 8192 fq), (aZ 2 fh), (aI 2 fj), (aI 4096 fw), (aI 2100 fz)]) rfl rfl) hT hPm hG hRm hm0 hm1 hsd hht htp) (mFr_of (by intro a ha; simp only [List.mem_cons, List.not_mem_nil, or_false] at ha; omega))
set_option maxRecDepth 100000 in
set_option maxHeartbeats 4000000 in
theorem q_begin_s {G : wG} {d : Nat} {h : hH} {Q : Option Value → hH → Prop} {m : Nat} {ft : Nat → Int32} {tp : Nat} {P : pD} {ht : Int32} {R : Option rnD} {i0 i1 : imD} {sd fa pl tr : Int32} {th : Int32}  {j i : Nat} (hI : mI h m ft tp P ht R i0 i1 sd fa pl tr th) (hj : j < P.1) (hi : i < P.2.1) (k : ∀ h2, mI h2 m ft tp P ht (rBg P R sd (nI j) (nI i)) i0 i1 sd fa (-1) (oBg P (nI j) (nI i)).2 0 → mFr m h h2 → Q (some (.int (oBg P (nI j) (nI i)).1)) h2) : Cl G yX10_begin (d + 2) 0 0 [.ref m, .int (nI j), .int (nI i)] h Q := by
  refine mI_e hI ?_
  intro sz sp fl tk ta sg nu wd rl rw ah cl gt ln wn fs ff fb fn fp f3 fk fx fy fc fr f1 f2 fi fo fq fh fj fw fz hW hT hPm hG hRm hm0 hm1 hsd hht htp
  have hnL : P.1 ≤ 4096 := Nat.le_trans hG.2.2.1 (by decide)
  have hnW : P.2.1 ≤ 4096 := Nat.le_trans hG.2.2.2 (by decide)
  have hhL : (ht = 0 ∧ P.1 = 0) ∨ ht = 1 := hht.imp (fun z => ⟨z.1, z.2.1⟩) id
  have hhW : (ht = 0 ∧ P.2.1 = 0) ∨ ht = 1 := hht.imp (fun z => ⟨z.1, z.2.2⟩) id
  have hw : hHas h [m, m + 14] [(oC 10 (mF m th tr pl (nI tp) sz sp fa fl tk ta sg nu wd (nI P.1) (nI P.2.1) rl rw ht sd ah cl)), (aI 11 fr)] := hHas_s hW [0, 14] rfl rfl
  have nd : [m, m + 14].Nodup := (nd_inc ⟨by omega, trivial⟩)
  refine Cl.of (ini := false) kX10_begin (plainFor_of_name (by decide)) (by decide) (Nat.le_of_ble_eq_true rfl) rfl rfl (fun z => by cases z) ?_
  refine w_heq (hUs_id hw).symm ?_
  refine w_aload_n dX10_begin_0 rfl ?_
  refine w_iconst (v := 0) dX10_begin_1 (by decide) ?_
  refine w_put (fs' := (mF m 0 tr pl (nI tp) sz sp fa fl tk ta sg nu wd (nI P.1) (nI P.2.1) rl rw ht sd ah cl)) fX10_89 (hUs_at nd 0 rfl rfl) rfl rfl (Nat.le_of_ble_eq_true rfl) rfl dX10_begin_2 ?_
  refine w_heq (hUs_set nd rfl 0 (cs' := [(oC 10 (mF m 0 tr pl (nI tp) sz sp fa fl tk ta sg nu wd (nI P.1) (nI P.2.1) rl rw ht sd ah cl)), (aI 11 fr)]) rfl rfl) ?_
  refine w_aload_n dX10_begin_5 rfl ?_
  refine w_iload_n dX10_begin_6 rfl ?_
  refine w_callV (ci := 10) (d' := d + 1) (mc' := 0) (ms' := 0) (As := [.int (nI j)]) (st := []) lX10_251 vX10_isLoop rfl (hUs_at nd 0 rfl rfl) rfl (Nat.le_of_ble_eq_true rfl) dX10_begin_7 (Nat.le_of_ble_eq_true rfl) (Nat.le_of_ble_eq_true rfl) (Nat.le_refl _) (m_isLoop (hHas_sub nd (as' := [m]) (cs' := [(oC 10 (mF m 0 tr pl (nI tp) sz sp fa fl tk ta sg nu wd (nI P.1) (nI P.2.1) rl rw ht sd ah cl))]) [0] rfl rfl) hnL hhL ?_)
  refine w_if_eq_f (tgt := 21) dX10_begin_10 rfl (by rw [ixB_s hj hnL]; decide) ?_
  refine w_aload_n dX10_begin_13 rfl ?_
  refine w_iload_n dX10_begin_14 rfl ?_
  refine w_callV (ci := 10) (d' := d + 1) (mc' := 0) (ms' := 0) (As := [.int (nI i)]) (st := []) lX10_263 vX10_isWave rfl (hUs_at nd 0 rfl rfl) rfl (Nat.le_of_ble_eq_true rfl) dX10_begin_15 (Nat.le_of_ble_eq_true rfl) (Nat.le_of_ble_eq_true rfl) (Nat.le_refl _) (m_isWave (hHas_sub nd (as' := [m]) (cs' := [(oC 10 (mF m 0 tr pl (nI tp) sz sp fa fl tk ta sg nu wd (nI P.1) (nI P.2.1) rl rw ht sd ah cl))]) [0] rfl rfl) hnW hhW ?_)
  refine w_if_ne_t (tgt := 27) dX10_begin_18 rfl (by rw [ixB_s hi hnW]; decide) ?_
  refine w_aload_n dX10_begin_27 rfl ?_
  refine w_aload_n dX10_begin_28 rfl ?_
  refine w_get (v := .ref (m + 14)) fX10_55 (hUs_at nd 0 rfl rfl) rfl dX10_begin_29 ?_
  refine w_iload_n dX10_begin_32 rfl ?_
  refine w_iload_n dX10_begin_33 rfl ?_
  refine w_callV (ci := 10) (d' := d + 1) (mc' := 0) (ms' := 0) (As := [.ref (m + 14), .int (nI j), .int (nI i)]) (st := []) lX10_280 vX10_starts rfl (hUs_at nd 0 rfl rfl) rfl (Nat.le_of_ble_eq_true rfl) dX10_begin_34 (Nat.le_of_ble_eq_true rfl) (Nat.le_of_ble_eq_true rfl) (Nat.le_refl _) (m_starts (hHas_sub nd (as' := [m, m + 14]) (cs' := [(oC 10 (mF m 0 tr pl (nI tp) sz sp fa fl tk ta sg nu wd (nI P.1) (nI P.2.1) rl rw ht sd ah cl)), (aI 11 fr)]) [0, 1] rfl rfl) (nd_sub nd (as' := [m, m + 14]) [0, 1] rfl rfl)  ?_)
  refine w_heq (hUs_in nd rfl [0, 1] (cs2 := [(oC 10 (mF m 0 tr pl (nI tp) sz sp fa fl tk ta sg nu wd (nI P.1) (nI P.2.1) rl rw ht sd ah cl)), (aI 11 (stA (nI j) (nI i) sd))]) rfl rfl) ?_
  refine w_aload_n dX10_begin_37 rfl ?_
  refine w_iconst (v := 0) dX10_begin_38 (by decide) ?_
  refine w_callV (ci := 10) (d' := d + 1) (mc' := 0) (ms' := 0) (As := [.int 0]) (st := []) lX10_277 vX10_done rfl (hUs_at nd 0 rfl rfl) rfl (Nat.le_of_ble_eq_true rfl) dX10_begin_39 (Nat.le_of_ble_eq_true rfl) (Nat.le_of_ble_eq_true rfl) (Nat.le_refl _) (m_done (hHas_sub nd (as' := [m]) (cs' := [(oC 10 (mF m 0 tr pl (nI tp) sz sp fa fl tk ta sg nu wd (nI P.1) (nI P.2.1) rl rw ht sd ah cl))]) [0] rfl rfl) (nd_sub nd (as' := [m]) [0] rfl rfl)  ?_)
  refine w_heq (hUs_in nd rfl [0] (cs2 := [(oC 10 (mF m 0 0 (-1) (nI tp) sz sp fa fl tk ta sg nu wd (nI P.1) (nI P.2.1) rl rw ht sd ah cl)), (aI 11 (stA (nI j) (nI i) sd))]) rfl rfl) ?_
  refine w_zreturn rfl dX10_begin_42 rfl (Nat.le_of_ble_eq_true rfl) (Nat.le_of_ble_eq_true rfl) ?_
  have e : oBg P (nI j) (nI i) = (1, 0) := by
    simp [oBg, ixN_s hj hnL, ixN_s hi hnW]
  have e2 : rBg P R sd (nI j) (nI i) = some (j, i, sd, 0) := by
    simp [rBg, ixN_s hj hnL, ixN_s hi hnW]
  rw [e, e2] at k
  exact k _ (mI_i (cI_put hW (mAs_nd m) rfl [0, 14] (cs2 := [(oC 10 (mF m 0 0 (-1) (nI tp) sz sp fa fl tk ta sg nu wd (nI P.1) (nI P.2.1) rl rw ht sd ah cl)), (aI 600 gt), (aL 8 ln), (aL 8 wn), (aI 8 fs), (aI 24 ff), (aI 8 fb), (aI 8 fn), (aI 8 fp), (aZ 8 f3), (aI 64 fk), (aI 64 fx), (aI 64 fy), (aI 64 fc), (aI 11 (stA (nI j) (nI i) sd)), (aI 11 f1), (aI 11 f2), (aI 22 fi), (aB 4096 fo), (aB 8192 fq), (aZ 2 fh), (aI 2 fj), (aI 4096 fw), (aI 2100 fz)]) rfl rfl) hT hPm hG (show mRv P ht (some (j, i, sd, 0)) (stA (nI j) (nI i) sd) fo from ⟨hht.resolve_left (fun z => by have := z.2.1; omega), ⟨hj, hi, Nat.zero_le 4096⟩, hsd, stA_rn _ _ _, fun s hs => stA_sz _ _ _ _, fun t ht => absurd ht (Nat.not_lt_zero t)⟩) hm0 hm1 hsd hht htp) (mFr_of (by intro a ha; simp only [List.mem_cons, List.not_mem_nil, or_false] at ha; omega))
theorem q_begin {G : wG} {d : Nat} {h : hH} {Q : Option Value → hH → Prop} {m : Nat} {ft : Nat → Int32} {tp : Nat} {P : pD} {ht : Int32} {R : Option rnD} {i0 i1 : imD} {sd fa pl tr : Int32} {th : Int32} {l w : Int32} (hI : mI h m ft tp P ht R i0 i1 sd fa pl tr th) (k : ∀ h2, mI h2 m ft tp P ht (rBg P R sd l w) i0 i1 sd fa (-1) (oBg P l w).2 0 → mFr m h h2 → Q (some (.int (oBg P l w).1)) h2) : Cl G yX10_begin (d + 2) 0 0 [.ref m, .int l, .int w] h Q := by
  by_cases hl : ∃ j, j < P.1 ∧ l = nI j
  · obtain ⟨j, hj, rfl⟩ := hl
    by_cases hw : ∃ i, i < P.2.1 ∧ w = nI i
    · obtain ⟨i, hi, rfl⟩ := hw
      exact q_begin_s hI hj hi k
    · exact q_begin_m hI hj hw k
  · exact q_begin_n hI hl k
set_option maxRecDepth 100000 in
set_option maxHeartbeats 4000000 in
theorem m_hasRun_n {G : wG} {d : Nat} {h : hH} {Q : Option Value → hH → Prop} {m : Nat} {th tr wa tp sz sp fa fl tk ta sg nu : Int32} {wd : Int64} {lo wv rl rw ht sd ah cl : Int32} {fr : Nat → Int32} (hw : hHas h [m, m + 14] [(oC 10 (mF m th tr wa tp sz sp fa fl tk ta sg nu wd lo wv rl rw ht sd ah cl)), (aI 11 fr)]) (hn : ht = 0 ∨ fr 0 = -1) (k : Q (some (.int 0)) h) : Cl G yX10_hasRun d 0 0 [.ref m] h Q := by
  refine Cl.of (ini := false) kX10_hasRun (plainFor_of_name (by decide)) (by decide) (Nat.le_of_ble_eq_true rfl) rfl rfl (fun z => by cases z) ?_
  refine w_aload_n dX10_hasRun_0 rfl ?_
  refine w_get (v := .int ht) fX10_247 (hw 0 _ _ rfl rfl) rfl dX10_hasRun_1 ?_
  refine w_if_eq (tgt := 21) dX10_hasRun_4 rfl (fun b4 => ?_) (fun b4 => ?_)
  · refine w_iconst (v := 0) dX10_hasRun_21 (by decide) ?_
    refine w_zreturn rfl dX10_hasRun_22 rfl (Nat.le_of_ble_eq_true rfl) (Nat.le_of_ble_eq_true rfl) ?_
    exact k
  · refine w_aload_n dX10_hasRun_7 rfl ?_
    refine w_get (v := .ref (m + 14)) fX10_55 (hw 0 _ _ rfl rfl) rfl dX10_hasRun_8 ?_
    refine w_iconst (v := (nI 0)) dX10_hasRun_11 (by decide) ?_
    refine w_ialoadN (hw 1 _ _ rfl rfl) (by omega) (by omega) dX10_hasRun_12 ?_
    refine w_iconst (v := (-1)) dX10_hasRun_13 (by decide) ?_
    refine w_icmp_eq_t (tgt := 21) dX10_hasRun_14 rfl (hn.resolve_left b4) ?_
    refine w_iconst (v := 0) dX10_hasRun_21 (by decide) ?_
    refine w_zreturn rfl dX10_hasRun_22 rfl (Nat.le_of_ble_eq_true rfl) (Nat.le_of_ble_eq_true rfl) ?_
    exact k
theorem nI_nm {j : Nat} (h : j < 2 ^ 31) : ¬ nI j = -1 := by
  intro e
  have := nI_toInt h
  rw [e] at this
  have z : (-1 : Int32).toInt = -1 := rfl
  omega
set_option maxRecDepth 100000 in
set_option maxHeartbeats 4000000 in
theorem m_hasRun_s {G : wG} {d : Nat} {h : hH} {Q : Option Value → hH → Prop} {m : Nat} {th tr wa tp sz sp fa fl tk ta sg nu : Int32} {wd : Int64} {lo wv rl rw ht sd ah cl : Int32} {fr : Nat → Int32} {j : Nat} (hw : hHas h [m, m + 14] [(oC 10 (mF m th tr wa tp sz sp fa fl tk ta sg nu wd lo wv rl rw ht sd ah cl)), (aI 11 fr)]) (hh : ht = 1) (hl : fr 0 = nI j) (hj : j < 2 ^ 31) (k : Q (some (.int 1)) h) : Cl G yX10_hasRun d 0 0 [.ref m] h Q := by
  refine Cl.of (ini := false) kX10_hasRun (plainFor_of_name (by decide)) (by decide) (Nat.le_of_ble_eq_true rfl) rfl rfl (fun z => by cases z) ?_
  refine w_aload_n dX10_hasRun_0 rfl ?_
  refine w_get (v := .int ht) fX10_247 (hw 0 _ _ rfl rfl) rfl dX10_hasRun_1 ?_
  refine w_if_eq_f (tgt := 21) dX10_hasRun_4 rfl (by rw [hh]; decide) ?_
  refine w_aload_n dX10_hasRun_7 rfl ?_
  refine w_get (v := .ref (m + 14)) fX10_55 (hw 0 _ _ rfl rfl) rfl dX10_hasRun_8 ?_
  refine w_iconst (v := (nI 0)) dX10_hasRun_11 (by decide) ?_
  refine w_ialoadN (hw 1 _ _ rfl rfl) (by omega) (by omega) dX10_hasRun_12 ?_
  refine w_iconst (v := (-1)) dX10_hasRun_13 (by decide) ?_
  refine w_icmp_eq_f (tgt := 21) dX10_hasRun_14 rfl (by rw [hl]; exact nI_nm hj) ?_
  refine w_iconst (v := 1) dX10_hasRun_17 (by decide) ?_
  refine w_goto (tgt := 22) dX10_hasRun_18 rfl ?_
  refine w_zreturn rfl dX10_hasRun_22 rfl (Nat.le_of_ble_eq_true rfl) (Nat.le_of_ble_eq_true rfl) ?_
  exact k
set_option maxRecDepth 100000 in
set_option maxHeartbeats 4000000 in
theorem m_isClock {G : wG} {d : Nat} {h : hH} {Q : Option Value → hH → Prop} {m : Nat} {th tr wa tp sz sp fa fl tk ta sg nu : Int32} {wd : Int64} {lo wv rl rw ht sd ah cl : Int32} {fr : Nat → Int32} {x : Int32} {c : Nat} (hw : hHas h [m, m + 14] [(oC 10 (mF m th tr wa tp sz sp fa fl tk ta sg nu wd lo wv rl rw ht sd ah cl)), (aI 11 fr)]) (hc : fr 2 = nI c) (hc4 : c ≤ 4096) (k : Q (some (.int (ixB x c))) h) : Cl G yX10_isClock (d + 1) 0 0 [.ref m, .int x] h Q := by
  refine Cl.of (ini := false) kX10_isClock (plainFor_of_name (by decide)) (by decide) (Nat.le_of_ble_eq_true rfl) rfl rfl (fun z => by cases z) ?_
  refine w_iload_n dX10_isClock_0 rfl ?_
  refine w_iconst (v := 0) dX10_isClock_1 (by decide) ?_
  refine w_aload_n dX10_isClock_2 rfl ?_
  refine w_get (v := .ref (m + 14)) fX10_55 (hw 0 _ _ rfl rfl) rfl dX10_isClock_3 ?_
  refine w_iconst (v := (nI 2)) dX10_isClock_6 (by decide) ?_
  refine w_ialoadN (hw 1 _ _ rfl rfl) (by omega) (by omega) dX10_isClock_7 ?_
  refine w_top (z := nI c) hc ?_
  refine w_iconst (v := 1) dX10_isClock_8 (by decide) ?_
  refine w_isub dX10_isClock_9 ?_
  refine w_callS (d' := d) (mc' := 0) (ms' := 0) (As := [.int x, .int 0, .int ((nI c) - 1)]) (st := []) lX10_111 vX10_in rfl (Nat.le_of_ble_eq_true rfl) dX10_isClock_10 (Nat.le_of_ble_eq_true rfl) (Nat.le_of_ble_eq_true rfl) (Nat.le_refl _) (c_in ?_)
  refine w_zreturn rfl dX10_isClock_13 (inB_01 _ _ _) (Nat.le_of_ble_eq_true rfl) (Nat.le_of_ble_eq_true rfl) ?_
  rw [ixB_in hc4]
  exact k
theorem ixB_0 {x : Int32} {n : Nat} (h : ixB x n = 0) : ¬ (0 ≤ x ∧ x < nI n) := by
  intro e
  unfold ixB ixN at h
  rw [if_pos e] at h
  exact absurd (show (1 : Int32) = 0 from h) (by decide)
theorem ixB_1 {x : Int32} {n : Nat} (h : ¬ ixB x n = 0) : 0 ≤ x ∧ x < nI n := by
  by_cases e : 0 ≤ x ∧ x < nI n
  · exact e
  · unfold ixB ixN at h
    rw [if_neg e] at h
    exact absurd rfl h
set_option maxRecDepth 100000 in
set_option maxHeartbeats 4000000 in
theorem m_isStretch {G : wG} {d : Nat} {h : hH} {Q : Option Value → hH → Prop} {m : Nat} {th tr wa tp sz sp fa fl tk ta sg nu : Int32} {wd : Int64} {lo wv rl rw ht sd ah cl : Int32} {fr : Nat → Int32} {x y : Int32} {c : Nat} (hw : hHas h [m, m + 14] [(oC 10 (mF m th tr wa tp sz sp fa fl tk ta sg nu wd lo wv rl rw ht sd ah cl)), (aI 11 fr)]) (hrc : fr 2 = nI c) (hc4 : c ≤ 4096) (k : Q (some (.int (hasS x y c))) h) : Cl G yX10_isStretch (d + 2) 0 0 [.ref m, .int x, .int y] h Q := by
  refine Cl.of (ini := false) kX10_isStretch (plainFor_of_name (by decide)) (by decide) (Nat.le_of_ble_eq_true rfl) rfl rfl (fun z => by cases z) ?_
  refine w_aload_n dX10_isStretch_0 rfl ?_
  refine w_iload_n dX10_isStretch_1 rfl ?_
  refine w_callV (ci := 10) (d' := d + 1) (mc' := 0) (ms' := 0) (As := [.int x]) (st := []) lX10_294 vX10_isClock rfl (hw 0 _ _ rfl rfl) rfl (Nat.le_of_ble_eq_true rfl) dX10_isStretch_2 (Nat.le_of_ble_eq_true rfl) (Nat.le_of_ble_eq_true rfl) (Nat.le_refl _) (m_isClock (hHas_s hw (as' := [m, m + 14]) (cs' := [(oC 10 (mF m th tr wa tp sz sp fa fl tk ta sg nu wd lo wv rl rw ht sd ah cl)), (aI 11 fr)]) [0, 1] rfl rfl) hrc hc4 ?_)
  refine w_if_eq (tgt := 25) dX10_isStretch_5 rfl (fun b5 => ?_) (fun b5 => ?_)
  · refine w_iconst (v := 0) dX10_isStretch_25 (by decide) ?_
    refine w_zreturn rfl dX10_isStretch_26 rfl (Nat.le_of_ble_eq_true rfl) (Nat.le_of_ble_eq_true rfl) ?_
    have e0 : hasS x y c = 0 := by
      rw [hasS, if_neg (fun z => ixB_0 b5 ⟨z.1, Int32.lt_of_le_of_lt z.2.1 z.2.2⟩)]
    rw [e0] at k
    exact k
  · refine w_aload_n dX10_isStretch_8 rfl ?_
    refine w_iload_n dX10_isStretch_9 rfl ?_
    refine w_callV (ci := 10) (d' := d + 1) (mc' := 0) (ms' := 0) (As := [.int y]) (st := []) lX10_294 vX10_isClock rfl (hw 0 _ _ rfl rfl) rfl (Nat.le_of_ble_eq_true rfl) dX10_isStretch_10 (Nat.le_of_ble_eq_true rfl) (Nat.le_of_ble_eq_true rfl) (Nat.le_refl _) (m_isClock (hHas_s hw (as' := [m, m + 14]) (cs' := [(oC 10 (mF m th tr wa tp sz sp fa fl tk ta sg nu wd lo wv rl rw ht sd ah cl)), (aI 11 fr)]) [0, 1] rfl rfl) hrc hc4 ?_)
    refine w_if_eq (tgt := 25) dX10_isStretch_13 rfl (fun b13 => ?_) (fun b13 => ?_)
    · refine w_iconst (v := 0) dX10_isStretch_25 (by decide) ?_
      refine w_zreturn rfl dX10_isStretch_26 rfl (Nat.le_of_ble_eq_true rfl) (Nat.le_of_ble_eq_true rfl) ?_
      have e0 : hasS x y c = 0 := by
        rw [hasS, if_neg (fun z => ixB_0 b13 ⟨Int32.le_trans z.1 z.2.1, z.2.2⟩)]
      rw [e0] at k
      exact k
    · refine w_iload_n dX10_isStretch_16 rfl ?_
      refine w_iload_n dX10_isStretch_17 rfl ?_
      refine w_icmp_gt (tgt := 25) dX10_isStretch_18 rfl (fun b18 => ?_) (fun b18 => ?_)
      · refine w_iconst (v := 0) dX10_isStretch_25 (by decide) ?_
        refine w_zreturn rfl dX10_isStretch_26 rfl (Nat.le_of_ble_eq_true rfl) (Nat.le_of_ble_eq_true rfl) ?_
        have e0 : hasS x y c = 0 := by
          rw [hasS, if_neg (fun z => absurd b18 (Int32.not_lt.mpr z.2.1))]
        rw [e0] at k
        exact k
      · refine w_iconst (v := 1) dX10_isStretch_21 (by decide) ?_
        refine w_goto (tgt := 26) dX10_isStretch_22 rfl ?_
        refine w_zreturn rfl dX10_isStretch_26 rfl (Nat.le_of_ble_eq_true rfl) (Nat.le_of_ble_eq_true rfl) ?_
        have e0 : hasS x y c = 1 := by
          rw [hasS, if_pos ⟨(ixB_1 b5).1, Int32.not_lt.mp b18, (ixB_1 b13).2⟩]
        rw [e0] at k
        exact k
set_option maxRecDepth 100000 in
set_option maxHeartbeats 4000000 in
theorem m_isStage_n {G : wG} {d : Nat} {h : hH} {Q : Option Value → hH → Prop} {m : Nat} {th tr wa tp sz sp fa fl tk ta sg nu : Int32} {wd : Int64} {lo wv rl rw ht sd ah cl : Int32} {fr : Nat → Int32} {x : Int32} (hw : hHas h [m, m + 14] [(oC 10 (mF m th tr wa tp sz sp fa fl tk ta sg nu wd lo wv rl rw ht sd ah cl)), (aI 11 fr)]) (hRm : ht = 0 ∨ fr 0 = -1) (k : Q (some (.int 0)) h) : Cl G yX10_isStage (d + 1) 0 0 [.ref m, .int x] h Q := by
  refine Cl.of (ini := false) kX10_isStage (plainFor_of_name (by decide)) (by decide) (Nat.le_of_ble_eq_true rfl) rfl rfl (fun z => by cases z) ?_
  refine w_aload_n dX10_isStage_0 rfl ?_
  refine w_callV (ci := 10) (d' := d) (mc' := 0) (ms' := 0) (As := []) (st := []) lX10_284 vX10_hasRun rfl (hw 0 _ _ rfl rfl) rfl (Nat.le_of_ble_eq_true rfl) dX10_isStage_1 (Nat.le_of_ble_eq_true rfl) (Nat.le_of_ble_eq_true rfl) (Nat.le_refl _) (m_hasRun_n (hHas_s hw (as' := [m, m + 14]) (cs' := [(oC 10 (mF m th tr wa tp sz sp fa fl tk ta sg nu wd lo wv rl rw ht sd ah cl)), (aI 11 fr)]) [0, 1] rfl rfl) hRm ?_)
  refine w_if_eq_t (tgt := 32) dX10_isStage_4 rfl (by decide) ?_
  refine w_iconst (v := 0) dX10_isStage_32 (by decide) ?_
  refine w_zreturn rfl dX10_isStage_33 rfl (Nat.le_of_ble_eq_true rfl) (Nat.le_of_ble_eq_true rfl) ?_
  exact k
set_option maxRecDepth 100000 in
set_option maxHeartbeats 4000000 in
theorem m_isStage_s {G : wG} {d : Nat} {h : hH} {Q : Option Value → hH → Prop} {m : Nat} {th tr wa tp sz sp fa fl tk ta sg nu : Int32} {wd : Int64} {lo wv rl rw ht sd ah cl : Int32} {fs : Nat → Int32} {fr : Nat → Int32} {x w c : Int32} {j n : Nat} {s : cS} (hw : hHas h [m, m + 4, m + 14] [(oC 10 (mF m th tr wa tp sz sp fa fl tk ta sg nu wd lo wv rl rw ht sd ah cl)), (aI 8 fs), (aI 11 fr)]) (hht1 : ht = 1) (hrn : mRn fr (nI j) w c s) (hl31 : j < 2 ^ 31) (hj8 : j < 8) (hs : fs j = nI n) (hn3 : n ≤ 3) (k : Q (some (.int (hasG 1 x n))) h) : Cl G yX10_isStage (d + 1) 0 0 [.ref m, .int x] h Q := by
  refine Cl.of (ini := false) kX10_isStage (plainFor_of_name (by decide)) (by decide) (Nat.le_of_ble_eq_true rfl) rfl rfl (fun z => by cases z) ?_
  refine w_aload_n dX10_isStage_0 rfl ?_
  refine w_callV (ci := 10) (d' := d) (mc' := 0) (ms' := 0) (As := []) (st := []) lX10_284 vX10_hasRun rfl (hw 0 _ _ rfl rfl) rfl (Nat.le_of_ble_eq_true rfl) dX10_isStage_1 (Nat.le_of_ble_eq_true rfl) (Nat.le_of_ble_eq_true rfl) (Nat.le_refl _) (m_hasRun_s (hHas_s hw (as' := [m, m + 14]) (cs' := [(oC 10 (mF m th tr wa tp sz sp fa fl tk ta sg nu wd lo wv rl rw ht sd ah cl)), (aI 11 fr)]) [0, 2] rfl rfl) hht1 hrn.1 hl31 ?_)
  refine w_if_eq_f (tgt := 32) dX10_isStage_4 rfl (by decide) ?_
  refine w_iload_n dX10_isStage_7 rfl ?_
  refine w_iconst (v := 0) dX10_isStage_8 (by decide) ?_
  refine w_aload_n dX10_isStage_9 rfl ?_
  refine w_get (v := .ref (m + 4)) fX10_24 (hw 0 _ _ rfl rfl) rfl dX10_isStage_10 ?_
  refine w_aload_n dX10_isStage_13 rfl ?_
  refine w_get (v := .ref (m + 14)) fX10_55 (hw 0 _ _ rfl rfl) rfl dX10_isStage_14 ?_
  refine w_iconst (v := (nI 0)) dX10_isStage_17 (by decide) ?_
  refine w_ialoadN (hw 2 _ _ rfl rfl) (by omega) (by omega) dX10_isStage_18 ?_
  refine w_top (z := nI j) hrn.1 ?_
  refine w_ialoadN (hw 1 _ _ rfl rfl) (by omega) (by omega) dX10_isStage_19 ?_
  refine w_top (z := nI n) hs ?_
  refine w_iconst (v := 1) dX10_isStage_20 (by decide) ?_
  refine w_isub dX10_isStage_21 ?_
  refine w_callS (d' := d) (mc' := 0) (ms' := 0) (As := [.int x, .int 0, .int ((nI n) - 1)]) (st := []) lX10_111 vX10_in rfl (Nat.le_of_ble_eq_true rfl) dX10_isStage_22 (Nat.le_of_ble_eq_true rfl) (Nat.le_of_ble_eq_true rfl) (Nat.le_refl _) (c_in ?_)
  refine w_top (z := ixB x n) (ixB_in (by omega)) ?_
  refine w_if_eq (tgt := 32) dX10_isStage_25 rfl (fun b25 => ?_) (fun b25 => ?_)
  · refine w_iconst (v := 0) dX10_isStage_32 (by decide) ?_
    refine w_zreturn rfl dX10_isStage_33 rfl (Nat.le_of_ble_eq_true rfl) (Nat.le_of_ble_eq_true rfl) ?_
    have e0 : hasG 1 x n = 0 := by
      rw [hasG, if_neg (fun z => ixB_0 b25 ⟨z.2.1, z.2.2⟩)]
    rw [e0] at k
    exact k
  · refine w_iconst (v := 1) dX10_isStage_28 (by decide) ?_
    refine w_goto (tgt := 33) dX10_isStage_29 rfl ?_
    refine w_zreturn rfl dX10_isStage_33 rfl (Nat.le_of_ble_eq_true rfl) (Nat.le_of_ble_eq_true rfl) ?_
    have e0 : hasG 1 x n = 1 := by
      rw [hasG, if_pos ⟨by decide, (ixB_1 b25).1, (ixB_1 b25).2⟩]
    rw [e0] at k
    exact k
set_option maxRecDepth 100000 in
set_option maxHeartbeats 4000000 in
theorem q_now_n {G : wG} {d : Nat} {h : hH} {Q : Option Value → hH → Prop} {m : Nat} {ft : Nat → Int32} {tp : Nat} {P : pD} {ht : Int32} {i0 i1 : imD} {sd fa pl tr : Int32} {th : Int32}  {y : Int32} (hI : mI h m ft tp P ht none i0 i1 sd fa pl tr th)  (k : ∀ h2, mI h2 m ft tp P ht none i0 i1 sd fa (-1) (oNw P (none) y).2 0 → mFr m h h2 → Q (some (.int (oNw P (none) y).1)) h2) : Cl G yX10_now (d + 1) 0 0 [.ref m, .int y] h Q := by
  refine mI_e hI ?_
  intro sz sp fl tk ta sg nu wd rl rw ah cl gt ln wn fs ff fb fn fp f3 fk fx fy fc fr f1 f2 fi fo fq fh fj fw fz hW hT hPm hG hRm hm0 hm1 hsd hht htp
  have hnL : P.1 ≤ 4096 := Nat.le_trans hG.2.2.1 (by decide)
  have hnW : P.2.1 ≤ 4096 := Nat.le_trans hG.2.2.2 (by decide)
  have hhL : (ht = 0 ∧ P.1 = 0) ∨ ht = 1 := hht.imp (fun z => ⟨z.1, z.2.1⟩) id
  have hhW : (ht = 0 ∧ P.2.1 = 0) ∨ ht = 1 := hht.imp (fun z => ⟨z.1, z.2.2⟩) id
  have hw : hHas h [m, m + 14] [(oC 10 (mF m th tr pl (nI tp) sz sp fa fl tk ta sg nu wd (nI P.1) (nI P.2.1) rl rw ht sd ah cl)), (aI 11 fr)] := hHas_s hW [0, 14] rfl rfl
  have nd : [m, m + 14].Nodup := (nd_inc ⟨by omega, trivial⟩)
  refine Cl.of (ini := false) kX10_now (plainFor_of_name (by decide)) (by decide) (Nat.le_of_ble_eq_true rfl) rfl rfl (fun z => by cases z) ?_
  refine w_heq (hUs_id hw).symm ?_
  refine w_aload_n dX10_now_0 rfl ?_
  refine w_iconst (v := 0) dX10_now_1 (by decide) ?_
  refine w_put (fs' := (mF m 0 tr pl (nI tp) sz sp fa fl tk ta sg nu wd (nI P.1) (nI P.2.1) rl rw ht sd ah cl)) fX10_89 (hUs_at nd 0 rfl rfl) rfl rfl (Nat.le_of_ble_eq_true rfl) rfl dX10_now_2 ?_
  refine w_heq (hUs_set nd rfl 0 (cs' := [(oC 10 (mF m 0 tr pl (nI tp) sz sp fa fl tk ta sg nu wd (nI P.1) (nI P.2.1) rl rw ht sd ah cl)), (aI 11 fr)]) rfl rfl) ?_
  refine w_aload_n dX10_now_5 rfl ?_
  refine w_callV (ci := 10) (d' := d) (mc' := 0) (ms' := 0) (As := []) (st := []) lX10_284 vX10_hasRun rfl (hUs_at nd 0 rfl rfl) rfl (Nat.le_of_ble_eq_true rfl) dX10_now_6 (Nat.le_of_ble_eq_true rfl) (Nat.le_of_ble_eq_true rfl) (Nat.le_refl _) (m_hasRun_n (hHas_sub nd (as' := [m, m + 14]) (cs' := [(oC 10 (mF m 0 tr pl (nI tp) sz sp fa fl tk ta sg nu wd (nI P.1) (nI P.2.1) rl rw ht sd ah cl)), (aI 11 fr)]) [0, 1] rfl rfl) hRm ?_)
  refine w_if_eq_t (tgt := 34) dX10_now_9 rfl (by decide) ?_
  refine w_aload_n dX10_now_34 rfl ?_
  refine w_iconst (v := 1) dX10_now_35 (by decide) ?_
  refine w_callV (ci := 10) (d' := d) (mc' := 0) (ms' := 0) (As := [.int 1]) (st := []) lX10_228 vX10_refused rfl (hUs_at nd 0 rfl rfl) rfl (Nat.le_of_ble_eq_true rfl) dX10_now_36 (Nat.le_of_ble_eq_true rfl) (Nat.le_of_ble_eq_true rfl) (Nat.le_refl _) (m_refused (hHas_sub nd (as' := [m]) (cs' := [(oC 10 (mF m 0 tr pl (nI tp) sz sp fa fl tk ta sg nu wd (nI P.1) (nI P.2.1) rl rw ht sd ah cl))]) [0] rfl rfl) (nd_sub nd (as' := [m]) [0] rfl rfl)  ?_)
  refine w_heq (hUs_in nd rfl [0] (cs2 := [(oC 10 (mF m 0 1 (-1) (nI tp) sz sp fa fl tk ta sg nu wd (nI P.1) (nI P.2.1) rl rw ht sd ah cl)), (aI 11 fr)]) rfl rfl) ?_
  refine w_ireturn rfl dX10_now_39 (Nat.le_of_ble_eq_true rfl) (Nat.le_of_ble_eq_true rfl) ?_
  have e : oNw P none y = ((-1), 1) := by
    rfl
  rw [e] at k
  exact k _ (mI_i (cI_put hW (mAs_nd m) rfl [0, 14] (cs2 := [(oC 10 (mF m 0 1 (-1) (nI tp) sz sp fa fl tk ta sg nu wd (nI P.1) (nI P.2.1) rl rw ht sd ah cl)), (aI 600 gt), (aL 8 ln), (aL 8 wn), (aI 8 fs), (aI 24 ff), (aI 8 fb), (aI 8 fn), (aI 8 fp), (aZ 8 f3), (aI 64 fk), (aI 64 fx), (aI 64 fy), (aI 64 fc), (aI 11 fr), (aI 11 f1), (aI 11 f2), (aI 22 fi), (aB 4096 fo), (aB 8192 fq), (aZ 2 fh), (aI 2 fj), (aI 4096 fw), (aI 2100 fz)]) rfl rfl) hT hPm hG hRm hm0 hm1 hsd hht htp) (mFr_of (by intro a ha; simp only [List.mem_cons, List.not_mem_nil, or_false] at ha; omega))
set_option maxRecDepth 100000 in
set_option maxHeartbeats 4000000 in
theorem q_now_s {G : wG} {d : Nat} {h : hH} {Q : Option Value → hH → Prop} {m : Nat} {ft : Nat → Int32} {tp : Nat} {P : pD} {ht : Int32} {i0 i1 : imD} {sd fa pl tr : Int32} {th : Int32}  {l w c : Nat} {rs : Int32} {y : Int32} (hI : mI h m ft tp P ht (some (l, w, rs, c)) i0 i1 sd fa pl tr th)  (k : ∀ h2, mI h2 m ft tp P ht (some (l, w, rs, c)) i0 i1 sd fa (-1) (oNw P (some (l, w, rs, c)) y).2 0 → mFr m h h2 → Q (some (.int (oNw P (some (l, w, rs, c)) y).1)) h2) : Cl G yX10_now (d + 1) 0 0 [.ref m, .int y] h Q := by
  refine mI_e hI ?_
  intro sz sp fl tk ta sg nu wd rl rw ah cl gt ln wn fs ff fb fn fp f3 fk fx fy fc fr f1 f2 fi fo fq fh fj fw fz hW hT hPm hG hRm hm0 hm1 hsd hht htp
  have hnL : P.1 ≤ 4096 := Nat.le_trans hG.2.2.1 (by decide)
  have hnW : P.2.1 ≤ 4096 := Nat.le_trans hG.2.2.2 (by decide)
  have hhL : (ht = 0 ∧ P.1 = 0) ∨ ht = 1 := hht.imp (fun z => ⟨z.1, z.2.1⟩) id
  have hhW : (ht = 0 ∧ P.2.1 = 0) ∨ ht = 1 := hht.imp (fun z => ⟨z.1, z.2.2⟩) id
  obtain ⟨hht1, hok, hsr, hrn, hsz, hfo⟩ : ht = 1 ∧ mRr P (l, w, rs, c) fr fo := id hRm
  have hl : l < P.1 := hok.1
  have hwv9 : w < P.2.1 := hok.2.1
  have hc4 : c ≤ 4096 := hok.2.2
  have hl4 : l < 4 := Nat.lt_of_lt_of_le hl hG.2.2.1
  have hl31 : l < 2 ^ 31 := by omega
  have hLp := hPm.1 l hl
  rw [Nat.zero_add] at hLp
  have hGl := hG.1 l hl
  have hrc : fr 2 = nI c := hrn.2.2.1
  have hw : hHas h [m, m + 14] [(oC 10 (mF m th tr pl (nI tp) sz sp fa fl tk ta sg nu wd (nI P.1) (nI P.2.1) rl rw ht sd ah cl)), (aI 11 fr)] := hHas_s hW [0, 14] rfl rfl
  have nd : [m, m + 14].Nodup := (nd_inc ⟨by omega, trivial⟩)
  refine Cl.of (ini := false) kX10_now (plainFor_of_name (by decide)) (by decide) (Nat.le_of_ble_eq_true rfl) rfl rfl (fun z => by cases z) ?_
  refine w_heq (hUs_id hw).symm ?_
  refine w_aload_n dX10_now_0 rfl ?_
  refine w_iconst (v := 0) dX10_now_1 (by decide) ?_
  refine w_put (fs' := (mF m 0 tr pl (nI tp) sz sp fa fl tk ta sg nu wd (nI P.1) (nI P.2.1) rl rw ht sd ah cl)) fX10_89 (hUs_at nd 0 rfl rfl) rfl rfl (Nat.le_of_ble_eq_true rfl) rfl dX10_now_2 ?_
  refine w_heq (hUs_set nd rfl 0 (cs' := [(oC 10 (mF m 0 tr pl (nI tp) sz sp fa fl tk ta sg nu wd (nI P.1) (nI P.2.1) rl rw ht sd ah cl)), (aI 11 fr)]) rfl rfl) ?_
  refine w_aload_n dX10_now_5 rfl ?_
  refine w_callV (ci := 10) (d' := d) (mc' := 0) (ms' := 0) (As := []) (st := []) lX10_284 vX10_hasRun rfl (hUs_at nd 0 rfl rfl) rfl (Nat.le_of_ble_eq_true rfl) dX10_now_6 (Nat.le_of_ble_eq_true rfl) (Nat.le_of_ble_eq_true rfl) (Nat.le_refl _) (m_hasRun_s (hHas_sub nd (as' := [m, m + 14]) (cs' := [(oC 10 (mF m 0 tr pl (nI tp) sz sp fa fl tk ta sg nu wd (nI P.1) (nI P.2.1) rl rw ht sd ah cl)), (aI 11 fr)]) [0, 1] rfl rfl) hht1 hrn.1 hl31 ?_)
  refine w_if_eq_f (tgt := 34) dX10_now_9 rfl (by decide) ?_
  refine w_iload_n dX10_now_12 rfl ?_
  refine w_iconst (v := 0) dX10_now_13 (by decide) ?_
  refine w_iconst (v := 4) dX10_now_14 (by decide) ?_
  refine w_callS (d' := d) (mc' := 0) (ms' := 0) (As := [.int y, .int 0, .int 4]) (st := []) lX10_111 vX10_in rfl (Nat.le_of_ble_eq_true rfl) dX10_now_15 (Nat.le_of_ble_eq_true rfl) (Nat.le_of_ble_eq_true rfl) (Nat.le_refl _) (c_in ?_)
  refine w_if_eq (tgt := 34) dX10_now_18 rfl (fun b18 => ?_) (fun b18 => ?_)
  · refine w_aload_n dX10_now_34 rfl ?_
    refine w_iconst (v := 1) dX10_now_35 (by decide) ?_
    refine w_callV (ci := 10) (d' := d) (mc' := 0) (ms' := 0) (As := [.int 1]) (st := []) lX10_228 vX10_refused rfl (hUs_at nd 0 rfl rfl) rfl (Nat.le_of_ble_eq_true rfl) dX10_now_36 (Nat.le_of_ble_eq_true rfl) (Nat.le_of_ble_eq_true rfl) (Nat.le_refl _) (m_refused (hHas_sub nd (as' := [m]) (cs' := [(oC 10 (mF m 0 tr pl (nI tp) sz sp fa fl tk ta sg nu wd (nI P.1) (nI P.2.1) rl rw ht sd ah cl))]) [0] rfl rfl) (nd_sub nd (as' := [m]) [0] rfl rfl)  ?_)
    refine w_heq (hUs_in nd rfl [0] (cs2 := [(oC 10 (mF m 0 1 (-1) (nI tp) sz sp fa fl tk ta sg nu wd (nI P.1) (nI P.2.1) rl rw ht sd ah cl)), (aI 11 fr)]) rfl rfl) ?_
    refine w_ireturn rfl dX10_now_39 (Nat.le_of_ble_eq_true rfl) (Nat.le_of_ble_eq_true rfl) ?_
    have e : oNw P (some (l, w, rs, c)) y = ((-1), 1) := by
      rw [oNw, if_pos (inB_0 b18)]
    rw [e] at k
    exact k _ (mI_i (cI_put hW (mAs_nd m) rfl [0, 14] (cs2 := [(oC 10 (mF m 0 1 (-1) (nI tp) sz sp fa fl tk ta sg nu wd (nI P.1) (nI P.2.1) rl rw ht sd ah cl)), (aI 600 gt), (aL 8 ln), (aL 8 wn), (aI 8 fs), (aI 24 ff), (aI 8 fb), (aI 8 fn), (aI 8 fp), (aZ 8 f3), (aI 64 fk), (aI 64 fx), (aI 64 fy), (aI 64 fc), (aI 11 fr), (aI 11 f1), (aI 11 f2), (aI 22 fi), (aB 4096 fo), (aB 8192 fq), (aZ 2 fh), (aI 2 fj), (aI 4096 fw), (aI 2100 fz)]) rfl rfl) hT hPm hG hRm hm0 hm1 hsd hht htp) (mFr_of (by intro a ha; simp only [List.mem_cons, List.not_mem_nil, or_false] at ha; omega))
  · obtain ⟨w9, hw9, rfl⟩ := in2 (m := 4) (Int32.not_lt.mpr (inB_1 b18).1) (inB_1 b18).2 (by decide)
    rcases (show w9 = 0 ∨ w9 = 1 ∨ w9 = 2 ∨ w9 = 3 ∨ w9 = 4 by omega) with rfl | rfl | rfl | rfl | rfl
    · refine w_aload_n dX10_now_21 rfl ?_
      refine w_aload_n dX10_now_22 rfl ?_
      refine w_get (v := .ref (m + 14)) fX10_55 (hUs_at nd 0 rfl rfl) rfl dX10_now_23 ?_
      refine w_iload_n dX10_now_26 rfl ?_
      refine w_ialoadN (hUs_at nd 1 rfl rfl) (by omega) (by omega) dX10_now_27 ?_
      refine w_top (z := nI l) hrn.1 ?_
      refine w_callV (ci := 10) (d' := d) (mc' := 0) (ms' := 0) (As := [.int (nI l)]) (st := []) lX10_241 vX10_good rfl (hUs_at nd 0 rfl rfl) rfl (Nat.le_of_ble_eq_true rfl) dX10_now_28 (Nat.le_of_ble_eq_true rfl) (Nat.le_of_ble_eq_true rfl) (Nat.le_refl _) (m_good (hHas_sub nd (as' := [m]) (cs' := [(oC 10 (mF m 0 tr pl (nI tp) sz sp fa fl tk ta sg nu wd (nI P.1) (nI P.2.1) rl rw ht sd ah cl))]) [0] rfl rfl) (nd_sub nd (as' := [m]) [0] rfl rfl)  ?_)
      refine w_heq (hUs_in nd rfl [0] (cs2 := [(oC 10 (mF m 0 0 (-1) (nI tp) sz sp fa fl tk ta sg nu wd (nI P.1) (nI P.2.1) rl rw ht sd ah cl)), (aI 11 fr)]) rfl rfl) ?_
      refine w_goto (tgt := 39) dX10_now_31 rfl ?_
      refine w_ireturn rfl dX10_now_39 (Nat.le_of_ble_eq_true rfl) (Nat.le_of_ble_eq_true rfl) ?_
      have e : oNw P (some (l, w, rs, c)) (nI 0) = (nI l, 0) := by
        rw [oNw, if_neg (by decide), show tN (nI 0) = 0 from nI_clamp (by omega)]
        rfl
      rw [e] at k
      exact k _ (mI_i (cI_put hW (mAs_nd m) rfl [0, 14] (cs2 := [(oC 10 (mF m 0 0 (-1) (nI tp) sz sp fa fl tk ta sg nu wd (nI P.1) (nI P.2.1) rl rw ht sd ah cl)), (aI 600 gt), (aL 8 ln), (aL 8 wn), (aI 8 fs), (aI 24 ff), (aI 8 fb), (aI 8 fn), (aI 8 fp), (aZ 8 f3), (aI 64 fk), (aI 64 fx), (aI 64 fy), (aI 64 fc), (aI 11 fr), (aI 11 f1), (aI 11 f2), (aI 22 fi), (aB 4096 fo), (aB 8192 fq), (aZ 2 fh), (aI 2 fj), (aI 4096 fw), (aI 2100 fz)]) rfl rfl) hT hPm hG hRm hm0 hm1 hsd hht htp) (mFr_of (by intro a ha; simp only [List.mem_cons, List.not_mem_nil, or_false] at ha; omega))
    · refine w_aload_n dX10_now_21 rfl ?_
      refine w_aload_n dX10_now_22 rfl ?_
      refine w_get (v := .ref (m + 14)) fX10_55 (hUs_at nd 0 rfl rfl) rfl dX10_now_23 ?_
      refine w_iload_n dX10_now_26 rfl ?_
      refine w_ialoadN (hUs_at nd 1 rfl rfl) (by omega) (by omega) dX10_now_27 ?_
      refine w_top (z := nI w) hrn.2.1 ?_
      refine w_callV (ci := 10) (d' := d) (mc' := 0) (ms' := 0) (As := [.int (nI w)]) (st := []) lX10_241 vX10_good rfl (hUs_at nd 0 rfl rfl) rfl (Nat.le_of_ble_eq_true rfl) dX10_now_28 (Nat.le_of_ble_eq_true rfl) (Nat.le_of_ble_eq_true rfl) (Nat.le_refl _) (m_good (hHas_sub nd (as' := [m]) (cs' := [(oC 10 (mF m 0 tr pl (nI tp) sz sp fa fl tk ta sg nu wd (nI P.1) (nI P.2.1) rl rw ht sd ah cl))]) [0] rfl rfl) (nd_sub nd (as' := [m]) [0] rfl rfl)  ?_)
      refine w_heq (hUs_in nd rfl [0] (cs2 := [(oC 10 (mF m 0 0 (-1) (nI tp) sz sp fa fl tk ta sg nu wd (nI P.1) (nI P.2.1) rl rw ht sd ah cl)), (aI 11 fr)]) rfl rfl) ?_
      refine w_goto (tgt := 39) dX10_now_31 rfl ?_
      refine w_ireturn rfl dX10_now_39 (Nat.le_of_ble_eq_true rfl) (Nat.le_of_ble_eq_true rfl) ?_
      have e : oNw P (some (l, w, rs, c)) (nI 1) = (nI w, 0) := by
        rw [oNw, if_neg (by decide), show tN (nI 1) = 1 from nI_clamp (by omega)]
        rfl
      rw [e] at k
      exact k _ (mI_i (cI_put hW (mAs_nd m) rfl [0, 14] (cs2 := [(oC 10 (mF m 0 0 (-1) (nI tp) sz sp fa fl tk ta sg nu wd (nI P.1) (nI P.2.1) rl rw ht sd ah cl)), (aI 600 gt), (aL 8 ln), (aL 8 wn), (aI 8 fs), (aI 24 ff), (aI 8 fb), (aI 8 fn), (aI 8 fp), (aZ 8 f3), (aI 64 fk), (aI 64 fx), (aI 64 fy), (aI 64 fc), (aI 11 fr), (aI 11 f1), (aI 11 f2), (aI 22 fi), (aB 4096 fo), (aB 8192 fq), (aZ 2 fh), (aI 2 fj), (aI 4096 fw), (aI 2100 fz)]) rfl rfl) hT hPm hG hRm hm0 hm1 hsd hht htp) (mFr_of (by intro a ha; simp only [List.mem_cons, List.not_mem_nil, or_false] at ha; omega))
    · refine w_aload_n dX10_now_21 rfl ?_
      refine w_aload_n dX10_now_22 rfl ?_
      refine w_get (v := .ref (m + 14)) fX10_55 (hUs_at nd 0 rfl rfl) rfl dX10_now_23 ?_
      refine w_iload_n dX10_now_26 rfl ?_
      refine w_ialoadN (hUs_at nd 1 rfl rfl) (by omega) (by omega) dX10_now_27 ?_
      refine w_top (z := nI c) hrn.2.2.1 ?_
      refine w_callV (ci := 10) (d' := d) (mc' := 0) (ms' := 0) (As := [.int (nI c)]) (st := []) lX10_241 vX10_good rfl (hUs_at nd 0 rfl rfl) rfl (Nat.le_of_ble_eq_true rfl) dX10_now_28 (Nat.le_of_ble_eq_true rfl) (Nat.le_of_ble_eq_true rfl) (Nat.le_refl _) (m_good (hHas_sub nd (as' := [m]) (cs' := [(oC 10 (mF m 0 tr pl (nI tp) sz sp fa fl tk ta sg nu wd (nI P.1) (nI P.2.1) rl rw ht sd ah cl))]) [0] rfl rfl) (nd_sub nd (as' := [m]) [0] rfl rfl)  ?_)
      refine w_heq (hUs_in nd rfl [0] (cs2 := [(oC 10 (mF m 0 0 (-1) (nI tp) sz sp fa fl tk ta sg nu wd (nI P.1) (nI P.2.1) rl rw ht sd ah cl)), (aI 11 fr)]) rfl rfl) ?_
      refine w_goto (tgt := 39) dX10_now_31 rfl ?_
      refine w_ireturn rfl dX10_now_39 (Nat.le_of_ble_eq_true rfl) (Nat.le_of_ble_eq_true rfl) ?_
      have e : oNw P (some (l, w, rs, c)) (nI 2) = (nI c, 0) := by
        rw [oNw, if_neg (by decide), show tN (nI 2) = 2 from nI_clamp (by omega)]
        rfl
      rw [e] at k
      exact k _ (mI_i (cI_put hW (mAs_nd m) rfl [0, 14] (cs2 := [(oC 10 (mF m 0 0 (-1) (nI tp) sz sp fa fl tk ta sg nu wd (nI P.1) (nI P.2.1) rl rw ht sd ah cl)), (aI 600 gt), (aL 8 ln), (aL 8 wn), (aI 8 fs), (aI 24 ff), (aI 8 fb), (aI 8 fn), (aI 8 fp), (aZ 8 f3), (aI 64 fk), (aI 64 fx), (aI 64 fy), (aI 64 fc), (aI 11 fr), (aI 11 f1), (aI 11 f2), (aI 22 fi), (aB 4096 fo), (aB 8192 fq), (aZ 2 fh), (aI 2 fj), (aI 4096 fw), (aI 2100 fz)]) rfl rfl) hT hPm hG hRm hm0 hm1 hsd hht htp) (mFr_of (by intro a ha; simp only [List.mem_cons, List.not_mem_nil, or_false] at ha; omega))
    · refine w_aload_n dX10_now_21 rfl ?_
      refine w_aload_n dX10_now_22 rfl ?_
      refine w_get (v := .ref (m + 14)) fX10_55 (hUs_at nd 0 rfl rfl) rfl dX10_now_23 ?_
      refine w_iload_n dX10_now_26 rfl ?_
      refine w_ialoadN (hUs_at nd 1 rfl rfl) (by omega) (by omega) dX10_now_27 ?_
      refine w_top (z := (rS (rQo P l w rs) c).2.1) hrn.2.2.2.1 ?_
      refine w_callV (ci := 10) (d' := d) (mc' := 0) (ms' := 0) (As := [.int (rS (rQo P l w rs) c).2.1]) (st := []) lX10_241 vX10_good rfl (hUs_at nd 0 rfl rfl) rfl (Nat.le_of_ble_eq_true rfl) dX10_now_28 (Nat.le_of_ble_eq_true rfl) (Nat.le_of_ble_eq_true rfl) (Nat.le_refl _) (m_good (hHas_sub nd (as' := [m]) (cs' := [(oC 10 (mF m 0 tr pl (nI tp) sz sp fa fl tk ta sg nu wd (nI P.1) (nI P.2.1) rl rw ht sd ah cl))]) [0] rfl rfl) (nd_sub nd (as' := [m]) [0] rfl rfl)  ?_)
      refine w_heq (hUs_in nd rfl [0] (cs2 := [(oC 10 (mF m 0 0 (-1) (nI tp) sz sp fa fl tk ta sg nu wd (nI P.1) (nI P.2.1) rl rw ht sd ah cl)), (aI 11 fr)]) rfl rfl) ?_
      refine w_goto (tgt := 39) dX10_now_31 rfl ?_
      refine w_ireturn rfl dX10_now_39 (Nat.le_of_ble_eq_true rfl) (Nat.le_of_ble_eq_true rfl) ?_
      have e : oNw P (some (l, w, rs, c)) (nI 3) = ((rS (rQo P l w rs) c).2.1, 0) := by
        rw [oNw, if_neg (by decide), show tN (nI 3) = 3 from nI_clamp (by omega)]
        rfl
      rw [e] at k
      exact k _ (mI_i (cI_put hW (mAs_nd m) rfl [0, 14] (cs2 := [(oC 10 (mF m 0 0 (-1) (nI tp) sz sp fa fl tk ta sg nu wd (nI P.1) (nI P.2.1) rl rw ht sd ah cl)), (aI 600 gt), (aL 8 ln), (aL 8 wn), (aI 8 fs), (aI 24 ff), (aI 8 fb), (aI 8 fn), (aI 8 fp), (aZ 8 f3), (aI 64 fk), (aI 64 fx), (aI 64 fy), (aI 64 fc), (aI 11 fr), (aI 11 f1), (aI 11 f2), (aI 22 fi), (aB 4096 fo), (aB 8192 fq), (aZ 2 fh), (aI 2 fj), (aI 4096 fw), (aI 2100 fz)]) rfl rfl) hT hPm hG hRm hm0 hm1 hsd hht htp) (mFr_of (by intro a ha; simp only [List.mem_cons, List.not_mem_nil, or_false] at ha; omega))
    · refine w_aload_n dX10_now_21 rfl ?_
      refine w_aload_n dX10_now_22 rfl ?_
      refine w_get (v := .ref (m + 14)) fX10_55 (hUs_at nd 0 rfl rfl) rfl dX10_now_23 ?_
      refine w_iload_n dX10_now_26 rfl ?_
      refine w_ialoadN (hUs_at nd 1 rfl rfl) (by omega) (by omega) dX10_now_27 ?_
      refine w_top (z := (rS (rQo P l w rs) c).2.2) hrn.2.2.2.2.1 ?_
      refine w_callV (ci := 10) (d' := d) (mc' := 0) (ms' := 0) (As := [.int (rS (rQo P l w rs) c).2.2]) (st := []) lX10_241 vX10_good rfl (hUs_at nd 0 rfl rfl) rfl (Nat.le_of_ble_eq_true rfl) dX10_now_28 (Nat.le_of_ble_eq_true rfl) (Nat.le_of_ble_eq_true rfl) (Nat.le_refl _) (m_good (hHas_sub nd (as' := [m]) (cs' := [(oC 10 (mF m 0 tr pl (nI tp) sz sp fa fl tk ta sg nu wd (nI P.1) (nI P.2.1) rl rw ht sd ah cl))]) [0] rfl rfl) (nd_sub nd (as' := [m]) [0] rfl rfl)  ?_)
      refine w_heq (hUs_in nd rfl [0] (cs2 := [(oC 10 (mF m 0 0 (-1) (nI tp) sz sp fa fl tk ta sg nu wd (nI P.1) (nI P.2.1) rl rw ht sd ah cl)), (aI 11 fr)]) rfl rfl) ?_
      refine w_goto (tgt := 39) dX10_now_31 rfl ?_
      refine w_ireturn rfl dX10_now_39 (Nat.le_of_ble_eq_true rfl) (Nat.le_of_ble_eq_true rfl) ?_
      have e : oNw P (some (l, w, rs, c)) (nI 4) = ((rS (rQo P l w rs) c).2.2, 0) := by
        rw [oNw, if_neg (by decide), show tN (nI 4) = 4 from nI_clamp (by omega)]
        rfl
      rw [e] at k
      exact k _ (mI_i (cI_put hW (mAs_nd m) rfl [0, 14] (cs2 := [(oC 10 (mF m 0 0 (-1) (nI tp) sz sp fa fl tk ta sg nu wd (nI P.1) (nI P.2.1) rl rw ht sd ah cl)), (aI 600 gt), (aL 8 ln), (aL 8 wn), (aI 8 fs), (aI 24 ff), (aI 8 fb), (aI 8 fn), (aI 8 fp), (aZ 8 f3), (aI 64 fk), (aI 64 fx), (aI 64 fy), (aI 64 fc), (aI 11 fr), (aI 11 f1), (aI 11 f2), (aI 22 fi), (aB 4096 fo), (aB 8192 fq), (aZ 2 fh), (aI 2 fj), (aI 4096 fw), (aI 2100 fz)]) rfl rfl) hT hPm hG hRm hm0 hm1 hsd hht htp) (mFr_of (by intro a ha; simp only [List.mem_cons, List.not_mem_nil, or_false] at ha; omega))
theorem q_now {G : wG} {d : Nat} {h : hH} {Q : Option Value → hH → Prop} {m : Nat} {ft : Nat → Int32} {tp : Nat} {P : pD} {ht : Int32} {R : Option rnD} {i0 i1 : imD} {sd fa pl tr : Int32} {th : Int32}  {y : Int32} (hI : mI h m ft tp P ht R i0 i1 sd fa pl tr th) (k : ∀ h2, mI h2 m ft tp P ht R i0 i1 sd fa (-1) (oNw P (R) y).2 0 → mFr m h h2 → Q (some (.int (oNw P (R) y).1)) h2) : Cl G yX10_now (d + 1) 0 0 [.ref m, .int y] h Q := by
  cases R with
  | none => exact q_now_n hI k
  | some r => obtain ⟨l, w, rs, c⟩ := r; exact q_now_s hI k
set_option maxRecDepth 100000 in
set_option maxHeartbeats 4000000 in
theorem q_sum_n {G : wG} {d : Nat} {h : hH} {Q : Option Value → hH → Prop} {m : Nat} {ft : Nat → Int32} {tp : Nat} {P : pD} {ht : Int32} {i0 i1 : imD} {sd fa pl tr : Int32} {th : Int32}  {y : Int32} (hI : mI h m ft tp P ht none i0 i1 sd fa pl tr th)  (k : ∀ h2, mI h2 m ft tp P ht none i0 i1 sd fa (-1) (oSm P (none) y).2 0 → mFr m h h2 → Q (some (.int (oSm P (none) y).1)) h2) : Cl G yX10_sum (d + 2) 0 0 [.ref m, .int y] h Q := by
  refine mI_e hI ?_
  intro sz sp fl tk ta sg nu wd rl rw ah cl gt ln wn fs ff fb fn fp f3 fk fx fy fc fr f1 f2 fi fo fq fh fj fw fz hW hT hPm hG hRm hm0 hm1 hsd hht htp
  have hnL : P.1 ≤ 4096 := Nat.le_trans hG.2.2.1 (by decide)
  have hnW : P.2.1 ≤ 4096 := Nat.le_trans hG.2.2.2 (by decide)
  have hhL : (ht = 0 ∧ P.1 = 0) ∨ ht = 1 := hht.imp (fun z => ⟨z.1, z.2.1⟩) id
  have hhW : (ht = 0 ∧ P.2.1 = 0) ∨ ht = 1 := hht.imp (fun z => ⟨z.1, z.2.2⟩) id
  have hw : hHas h [m, m + 14] [(oC 10 (mF m th tr pl (nI tp) sz sp fa fl tk ta sg nu wd (nI P.1) (nI P.2.1) rl rw ht sd ah cl)), (aI 11 fr)] := hHas_s hW [0, 14] rfl rfl
  have nd : [m, m + 14].Nodup := (nd_inc ⟨by omega, trivial⟩)
  refine Cl.of (ini := false) kX10_sum (plainFor_of_name (by decide)) (by decide) (Nat.le_of_ble_eq_true rfl) rfl rfl (fun z => by cases z) ?_
  refine w_heq (hUs_id hw).symm ?_
  refine w_aload_n dX10_sum_0 rfl ?_
  refine w_iconst (v := 0) dX10_sum_1 (by decide) ?_
  refine w_put (fs' := (mF m 0 tr pl (nI tp) sz sp fa fl tk ta sg nu wd (nI P.1) (nI P.2.1) rl rw ht sd ah cl)) fX10_89 (hUs_at nd 0 rfl rfl) rfl rfl (Nat.le_of_ble_eq_true rfl) rfl dX10_sum_2 ?_
  refine w_heq (hUs_set nd rfl 0 (cs' := [(oC 10 (mF m 0 tr pl (nI tp) sz sp fa fl tk ta sg nu wd (nI P.1) (nI P.2.1) rl rw ht sd ah cl)), (aI 11 fr)]) rfl rfl) ?_
  refine w_aload_n dX10_sum_5 rfl ?_
  refine w_iload_n dX10_sum_6 rfl ?_
  refine w_callV (ci := 10) (d' := d + 1) (mc' := 0) (ms' := 0) (As := [.int y]) (st := []) lX10_291 vX10_isStage rfl (hUs_at nd 0 rfl rfl) rfl (Nat.le_of_ble_eq_true rfl) dX10_sum_7 (Nat.le_of_ble_eq_true rfl) (Nat.le_of_ble_eq_true rfl) (Nat.le_refl _) (m_isStage_n (hHas_sub nd (as' := [m, m + 14]) (cs' := [(oC 10 (mF m 0 tr pl (nI tp) sz sp fa fl tk ta sg nu wd (nI P.1) (nI P.2.1) rl rw ht sd ah cl)), (aI 11 fr)]) [0, 1] rfl rfl) hRm ?_)
  refine w_if_eq_t (tgt := 28) dX10_sum_10 rfl (by decide) ?_
  refine w_aload_n dX10_sum_28 rfl ?_
  refine w_iconst (v := 1) dX10_sum_29 (by decide) ?_
  refine w_callV (ci := 10) (d' := d + 1) (mc' := 0) (ms' := 0) (As := [.int 1]) (st := []) lX10_266 vX10_lost rfl (hUs_at nd 0 rfl rfl) rfl (Nat.le_of_ble_eq_true rfl) dX10_sum_30 (Nat.le_of_ble_eq_true rfl) (Nat.le_of_ble_eq_true rfl) (Nat.le_refl _) (m_lost (hHas_sub nd (as' := [m]) (cs' := [(oC 10 (mF m 0 tr pl (nI tp) sz sp fa fl tk ta sg nu wd (nI P.1) (nI P.2.1) rl rw ht sd ah cl))]) [0] rfl rfl) (nd_sub nd (as' := [m]) [0] rfl rfl)  ?_)
  refine w_heq (hUs_in nd rfl [0] (cs2 := [(oC 10 (mF m 0 1 (-1) (nI tp) sz sp fa fl tk ta sg nu wd (nI P.1) (nI P.2.1) rl rw ht sd ah cl)), (aI 11 fr)]) rfl rfl) ?_
  refine w_ireturn rfl dX10_sum_33 (Nat.le_of_ble_eq_true rfl) (Nat.le_of_ble_eq_true rfl) ?_
  have e : oSm P none y = ((-1000000000), 1) := by
    rfl
  rw [e] at k
  exact k _ (mI_i (cI_put hW (mAs_nd m) rfl [0, 14] (cs2 := [(oC 10 (mF m 0 1 (-1) (nI tp) sz sp fa fl tk ta sg nu wd (nI P.1) (nI P.2.1) rl rw ht sd ah cl)), (aI 600 gt), (aL 8 ln), (aL 8 wn), (aI 8 fs), (aI 24 ff), (aI 8 fb), (aI 8 fn), (aI 8 fp), (aZ 8 f3), (aI 64 fk), (aI 64 fx), (aI 64 fy), (aI 64 fc), (aI 11 fr), (aI 11 f1), (aI 11 f2), (aI 22 fi), (aB 4096 fo), (aB 8192 fq), (aZ 2 fh), (aI 2 fj), (aI 4096 fw), (aI 2100 fz)]) rfl rfl) hT hPm hG hRm hm0 hm1 hsd hht htp) (mFr_of (by intro a ha; simp only [List.mem_cons, List.not_mem_nil, or_false] at ha; omega))
set_option maxRecDepth 100000 in
set_option maxHeartbeats 4000000 in
theorem q_sum_s {G : wG} {d : Nat} {h : hH} {Q : Option Value → hH → Prop} {m : Nat} {ft : Nat → Int32} {tp : Nat} {P : pD} {ht : Int32} {i0 i1 : imD} {sd fa pl tr : Int32} {th : Int32}  {l w c : Nat} {rs : Int32} {y : Int32} (hI : mI h m ft tp P ht (some (l, w, rs, c)) i0 i1 sd fa pl tr th)  (k : ∀ h2, mI h2 m ft tp P ht (some (l, w, rs, c)) i0 i1 sd fa (-1) (oSm P (some (l, w, rs, c)) y).2 0 → mFr m h h2 → Q (some (.int (oSm P (some (l, w, rs, c)) y).1)) h2) : Cl G yX10_sum (d + 2) 0 0 [.ref m, .int y] h Q := by
  refine mI_e hI ?_
  intro sz sp fl tk ta sg nu wd rl rw ah cl gt ln wn fs ff fb fn fp f3 fk fx fy fc fr f1 f2 fi fo fq fh fj fw fz hW hT hPm hG hRm hm0 hm1 hsd hht htp
  have hnL : P.1 ≤ 4096 := Nat.le_trans hG.2.2.1 (by decide)
  have hnW : P.2.1 ≤ 4096 := Nat.le_trans hG.2.2.2 (by decide)
  have hhL : (ht = 0 ∧ P.1 = 0) ∨ ht = 1 := hht.imp (fun z => ⟨z.1, z.2.1⟩) id
  have hhW : (ht = 0 ∧ P.2.1 = 0) ∨ ht = 1 := hht.imp (fun z => ⟨z.1, z.2.2⟩) id
  obtain ⟨hht1, hok, hsr, hrn, hsz, hfo⟩ : ht = 1 ∧ mRr P (l, w, rs, c) fr fo := id hRm
  have hl : l < P.1 := hok.1
  have hwv9 : w < P.2.1 := hok.2.1
  have hc4 : c ≤ 4096 := hok.2.2
  have hl4 : l < 4 := Nat.lt_of_lt_of_le hl hG.2.2.1
  have hl31 : l < 2 ^ 31 := by omega
  have hLp := hPm.1 l hl
  rw [Nat.zero_add] at hLp
  have hGl := hG.1 l hl
  have hrc : fr 2 = nI c := hrn.2.2.1
  have hw : hHas h [m, m + 4, m + 14] [(oC 10 (mF m th tr pl (nI tp) sz sp fa fl tk ta sg nu wd (nI P.1) (nI P.2.1) rl rw ht sd ah cl)), (aI 8 fs), (aI 11 fr)] := hHas_s hW [0, 4, 14] rfl rfl
  have nd : [m, m + 4, m + 14].Nodup := (nd_inc ⟨by omega, by omega, trivial⟩)
  refine Cl.of (ini := false) kX10_sum (plainFor_of_name (by decide)) (by decide) (Nat.le_of_ble_eq_true rfl) rfl rfl (fun z => by cases z) ?_
  refine w_heq (hUs_id hw).symm ?_
  refine w_aload_n dX10_sum_0 rfl ?_
  refine w_iconst (v := 0) dX10_sum_1 (by decide) ?_
  refine w_put (fs' := (mF m 0 tr pl (nI tp) sz sp fa fl tk ta sg nu wd (nI P.1) (nI P.2.1) rl rw ht sd ah cl)) fX10_89 (hUs_at nd 0 rfl rfl) rfl rfl (Nat.le_of_ble_eq_true rfl) rfl dX10_sum_2 ?_
  refine w_heq (hUs_set nd rfl 0 (cs' := [(oC 10 (mF m 0 tr pl (nI tp) sz sp fa fl tk ta sg nu wd (nI P.1) (nI P.2.1) rl rw ht sd ah cl)), (aI 8 fs), (aI 11 fr)]) rfl rfl) ?_
  refine w_aload_n dX10_sum_5 rfl ?_
  refine w_iload_n dX10_sum_6 rfl ?_
  refine w_callV (ci := 10) (d' := d + 1) (mc' := 0) (ms' := 0) (As := [.int y]) (st := []) lX10_291 vX10_isStage rfl (hUs_at nd 0 rfl rfl) rfl (Nat.le_of_ble_eq_true rfl) dX10_sum_7 (Nat.le_of_ble_eq_true rfl) (Nat.le_of_ble_eq_true rfl) (Nat.le_refl _) (m_isStage_s (hHas_sub nd (as' := [m, m + 4, m + 14]) (cs' := [(oC 10 (mF m 0 tr pl (nI tp) sz sp fa fl tk ta sg nu wd (nI P.1) (nI P.2.1) rl rw ht sd ah cl)), (aI 8 fs), (aI 11 fr)]) [0, 1, 2] rfl rfl) hht1 hrn hl31 (show l < 8 by omega) hLp.1 hGl.2.1 ?_)
  refine w_if_eq (tgt := 28) dX10_sum_10 rfl (fun b10 => ?_) (fun b10 => ?_)
  · refine w_aload_n dX10_sum_28 rfl ?_
    refine w_iconst (v := 1) dX10_sum_29 (by decide) ?_
    refine w_callV (ci := 10) (d' := d + 1) (mc' := 0) (ms' := 0) (As := [.int 1]) (st := []) lX10_266 vX10_lost rfl (hUs_at nd 0 rfl rfl) rfl (Nat.le_of_ble_eq_true rfl) dX10_sum_30 (Nat.le_of_ble_eq_true rfl) (Nat.le_of_ble_eq_true rfl) (Nat.le_refl _) (m_lost (hHas_sub nd (as' := [m]) (cs' := [(oC 10 (mF m 0 tr pl (nI tp) sz sp fa fl tk ta sg nu wd (nI P.1) (nI P.2.1) rl rw ht sd ah cl))]) [0] rfl rfl) (nd_sub nd (as' := [m]) [0] rfl rfl)  ?_)
    refine w_heq (hUs_in nd rfl [0] (cs2 := [(oC 10 (mF m 0 1 (-1) (nI tp) sz sp fa fl tk ta sg nu wd (nI P.1) (nI P.2.1) rl rw ht sd ah cl)), (aI 8 fs), (aI 11 fr)]) rfl rfl) ?_
    refine w_ireturn rfl dX10_sum_33 (Nat.le_of_ble_eq_true rfl) (Nat.le_of_ble_eq_true rfl) ?_
    have e : oSm P (some (l, w, rs, c)) y = ((-1000000000), 1) := by
      simp only [oSm]
      exact if_pos b10
    rw [e] at k
    exact k _ (mI_i (cI_put hW (mAs_nd m) rfl [0, 4, 14] (cs2 := [(oC 10 (mF m 0 1 (-1) (nI tp) sz sp fa fl tk ta sg nu wd (nI P.1) (nI P.2.1) rl rw ht sd ah cl)), (aI 600 gt), (aL 8 ln), (aL 8 wn), (aI 8 fs), (aI 24 ff), (aI 8 fb), (aI 8 fn), (aI 8 fp), (aZ 8 f3), (aI 64 fk), (aI 64 fx), (aI 64 fy), (aI 64 fc), (aI 11 fr), (aI 11 f1), (aI 11 f2), (aI 22 fi), (aB 4096 fo), (aB 8192 fq), (aZ 2 fh), (aI 2 fj), (aI 4096 fw), (aI 2100 fz)]) rfl rfl) hT hPm hG hRm hm0 hm1 hsd hht htp) (mFr_of (by intro a ha; simp only [List.mem_cons, List.not_mem_nil, or_false] at ha; omega))
  · have hn3 := hGl.2.1
    obtain ⟨w9, hw9, rfl⟩ := hasG_n b10 (by omega)
    have hwc : tN (nI w9) = w9 := nI_clamp (by omega)
    refine w_aload_n dX10_sum_13 rfl ?_
    refine w_aload_n dX10_sum_14 rfl ?_
    refine w_get (v := .ref (m + 14)) fX10_55 (hUs_at nd 0 rfl rfl) rfl dX10_sum_15 ?_
    refine w_iconst (v := (nI 5)) dX10_sum_18 (by decide) ?_
    refine w_iload_n dX10_sum_19 rfl ?_
    refine w_iaddE (z := nI (5 + w9)) dX10_sum_20 (nI_add (5) (w9)) ?_
    refine w_ialoadN (hUs_at nd 2 rfl rfl) (by omega) (by omega) dX10_sum_21 ?_
    refine w_top (z := (rS (rQo P l w rs) c).1 w9) (by
      rcases (show w9 = 0 ∨ w9 = 1 ∨ w9 = 2 by omega) with rfl | rfl | rfl
      · exact hrn.2.2.2.2.2.1
      · exact hrn.2.2.2.2.2.2.1
      · exact hrn.2.2.2.2.2.2.2) ?_
    refine w_callV (ci := 10) (d' := d + 1) (mc' := 0) (ms' := 0) (As := [.int ((rS (rQo P l w rs) c).1 w9)]) (st := []) lX10_241 vX10_good rfl (hUs_at nd 0 rfl rfl) rfl (Nat.le_of_ble_eq_true rfl) dX10_sum_22 (Nat.le_of_ble_eq_true rfl) (Nat.le_of_ble_eq_true rfl) (Nat.le_refl _) (m_good (hHas_sub nd (as' := [m]) (cs' := [(oC 10 (mF m 0 tr pl (nI tp) sz sp fa fl tk ta sg nu wd (nI P.1) (nI P.2.1) rl rw ht sd ah cl))]) [0] rfl rfl) (nd_sub nd (as' := [m]) [0] rfl rfl)  ?_)
    refine w_heq (hUs_in nd rfl [0] (cs2 := [(oC 10 (mF m 0 0 (-1) (nI tp) sz sp fa fl tk ta sg nu wd (nI P.1) (nI P.2.1) rl rw ht sd ah cl)), (aI 8 fs), (aI 11 fr)]) rfl rfl) ?_
    refine w_goto (tgt := 33) dX10_sum_25 rfl ?_
    refine w_ireturn rfl dX10_sum_33 (Nat.le_of_ble_eq_true rfl) (Nat.le_of_ble_eq_true rfl) ?_
    have e : oSm P (some (l, w, rs, c)) (nI w9) = ((rS (rQo P l w rs) c).1 w9, 0) := by
      simp only [oSm]
      refine (if_neg b10).trans ?_
      rw [hwc]
    rw [e] at k
    exact k _ (mI_i (cI_put hW (mAs_nd m) rfl [0, 4, 14] (cs2 := [(oC 10 (mF m 0 0 (-1) (nI tp) sz sp fa fl tk ta sg nu wd (nI P.1) (nI P.2.1) rl rw ht sd ah cl)), (aI 600 gt), (aL 8 ln), (aL 8 wn), (aI 8 fs), (aI 24 ff), (aI 8 fb), (aI 8 fn), (aI 8 fp), (aZ 8 f3), (aI 64 fk), (aI 64 fx), (aI 64 fy), (aI 64 fc), (aI 11 fr), (aI 11 f1), (aI 11 f2), (aI 22 fi), (aB 4096 fo), (aB 8192 fq), (aZ 2 fh), (aI 2 fj), (aI 4096 fw), (aI 2100 fz)]) rfl rfl) hT hPm hG hRm hm0 hm1 hsd hht htp) (mFr_of (by intro a ha; simp only [List.mem_cons, List.not_mem_nil, or_false] at ha; omega))
theorem q_sum {G : wG} {d : Nat} {h : hH} {Q : Option Value → hH → Prop} {m : Nat} {ft : Nat → Int32} {tp : Nat} {P : pD} {ht : Int32} {R : Option rnD} {i0 i1 : imD} {sd fa pl tr : Int32} {th : Int32}  {y : Int32} (hI : mI h m ft tp P ht R i0 i1 sd fa pl tr th) (k : ∀ h2, mI h2 m ft tp P ht R i0 i1 sd fa (-1) (oSm P (R) y).2 0 → mFr m h h2 → Q (some (.int (oSm P (R) y).1)) h2) : Cl G yX10_sum (d + 2) 0 0 [.ref m, .int y] h Q := by
  cases R with
  | none => exact q_sum_n hI k
  | some r => obtain ⟨l, w, rs, c⟩ := r; exact q_sum_s hI k
set_option maxRecDepth 100000 in
set_option maxHeartbeats 4000000 in
theorem q_size_n {G : wG} {d : Nat} {h : hH} {Q : Option Value → hH → Prop} {m : Nat} {ft : Nat → Int32} {tp : Nat} {P : pD} {ht : Int32} {i0 i1 : imD} {sd fa pl tr : Int32} {th : Int32}  {y : Int32} (hI : mI h m ft tp P ht none i0 i1 sd fa pl tr th)  (k : ∀ h2, mI h2 m ft tp P ht none i0 i1 sd fa (-1) (oSz P (none) y).2 0 → mFr m h h2 → Q (some (.int (oSz P (none) y).1)) h2) : Cl G yX10_size (d + 2) 0 0 [.ref m, .int y] h Q := by
  refine mI_e hI ?_
  intro sz sp fl tk ta sg nu wd rl rw ah cl gt ln wn fs ff fb fn fp f3 fk fx fy fc fr f1 f2 fi fo fq fh fj fw fz hW hT hPm hG hRm hm0 hm1 hsd hht htp
  have hnL : P.1 ≤ 4096 := Nat.le_trans hG.2.2.1 (by decide)
  have hnW : P.2.1 ≤ 4096 := Nat.le_trans hG.2.2.2 (by decide)
  have hhL : (ht = 0 ∧ P.1 = 0) ∨ ht = 1 := hht.imp (fun z => ⟨z.1, z.2.1⟩) id
  have hhW : (ht = 0 ∧ P.2.1 = 0) ∨ ht = 1 := hht.imp (fun z => ⟨z.1, z.2.2⟩) id
  have hw : hHas h [m, m + 14] [(oC 10 (mF m th tr pl (nI tp) sz sp fa fl tk ta sg nu wd (nI P.1) (nI P.2.1) rl rw ht sd ah cl)), (aI 11 fr)] := hHas_s hW [0, 14] rfl rfl
  have nd : [m, m + 14].Nodup := (nd_inc ⟨by omega, trivial⟩)
  refine Cl.of (ini := false) kX10_size (plainFor_of_name (by decide)) (by decide) (Nat.le_of_ble_eq_true rfl) rfl rfl (fun z => by cases z) ?_
  refine w_heq (hUs_id hw).symm ?_
  refine w_aload_n dX10_size_0 rfl ?_
  refine w_iconst (v := 0) dX10_size_1 (by decide) ?_
  refine w_put (fs' := (mF m 0 tr pl (nI tp) sz sp fa fl tk ta sg nu wd (nI P.1) (nI P.2.1) rl rw ht sd ah cl)) fX10_89 (hUs_at nd 0 rfl rfl) rfl rfl (Nat.le_of_ble_eq_true rfl) rfl dX10_size_2 ?_
  refine w_heq (hUs_set nd rfl 0 (cs' := [(oC 10 (mF m 0 tr pl (nI tp) sz sp fa fl tk ta sg nu wd (nI P.1) (nI P.2.1) rl rw ht sd ah cl)), (aI 11 fr)]) rfl rfl) ?_
  refine w_aload_n dX10_size_5 rfl ?_
  refine w_iload_n dX10_size_6 rfl ?_
  refine w_callV (ci := 10) (d' := d + 1) (mc' := 0) (ms' := 0) (As := [.int y]) (st := []) lX10_291 vX10_isStage rfl (hUs_at nd 0 rfl rfl) rfl (Nat.le_of_ble_eq_true rfl) dX10_size_7 (Nat.le_of_ble_eq_true rfl) (Nat.le_of_ble_eq_true rfl) (Nat.le_refl _) (m_isStage_n (hHas_sub nd (as' := [m, m + 14]) (cs' := [(oC 10 (mF m 0 tr pl (nI tp) sz sp fa fl tk ta sg nu wd (nI P.1) (nI P.2.1) rl rw ht sd ah cl)), (aI 11 fr)]) [0, 1] rfl rfl) hRm ?_)
  refine w_if_eq_t (tgt := 29) dX10_size_10 rfl (by decide) ?_
  refine w_aload_n dX10_size_29 rfl ?_
  refine w_iconst (v := 1) dX10_size_30 (by decide) ?_
  refine w_callV (ci := 10) (d' := d + 1) (mc' := 0) (ms' := 0) (As := [.int 1]) (st := []) lX10_228 vX10_refused rfl (hUs_at nd 0 rfl rfl) rfl (Nat.le_of_ble_eq_true rfl) dX10_size_31 (Nat.le_of_ble_eq_true rfl) (Nat.le_of_ble_eq_true rfl) (Nat.le_refl _) (m_refused (hHas_sub nd (as' := [m]) (cs' := [(oC 10 (mF m 0 tr pl (nI tp) sz sp fa fl tk ta sg nu wd (nI P.1) (nI P.2.1) rl rw ht sd ah cl))]) [0] rfl rfl) (nd_sub nd (as' := [m]) [0] rfl rfl)  ?_)
  refine w_heq (hUs_in nd rfl [0] (cs2 := [(oC 10 (mF m 0 1 (-1) (nI tp) sz sp fa fl tk ta sg nu wd (nI P.1) (nI P.2.1) rl rw ht sd ah cl)), (aI 11 fr)]) rfl rfl) ?_
  refine w_ireturn rfl dX10_size_34 (Nat.le_of_ble_eq_true rfl) (Nat.le_of_ble_eq_true rfl) ?_
  have e : oSz P none y = ((-1), 1) := by
    rfl
  rw [e] at k
  exact k _ (mI_i (cI_put hW (mAs_nd m) rfl [0, 14] (cs2 := [(oC 10 (mF m 0 1 (-1) (nI tp) sz sp fa fl tk ta sg nu wd (nI P.1) (nI P.2.1) rl rw ht sd ah cl)), (aI 600 gt), (aL 8 ln), (aL 8 wn), (aI 8 fs), (aI 24 ff), (aI 8 fb), (aI 8 fn), (aI 8 fp), (aZ 8 f3), (aI 64 fk), (aI 64 fx), (aI 64 fy), (aI 64 fc), (aI 11 fr), (aI 11 f1), (aI 11 f2), (aI 22 fi), (aB 4096 fo), (aB 8192 fq), (aZ 2 fh), (aI 2 fj), (aI 4096 fw), (aI 2100 fz)]) rfl rfl) hT hPm hG hRm hm0 hm1 hsd hht htp) (mFr_of (by intro a ha; simp only [List.mem_cons, List.not_mem_nil, or_false] at ha; omega))
set_option maxRecDepth 100000 in
set_option maxHeartbeats 4000000 in
theorem q_size_s {G : wG} {d : Nat} {h : hH} {Q : Option Value → hH → Prop} {m : Nat} {ft : Nat → Int32} {tp : Nat} {P : pD} {ht : Int32} {i0 i1 : imD} {sd fa pl tr : Int32} {th : Int32}  {l w c : Nat} {rs : Int32} {y : Int32} (hI : mI h m ft tp P ht (some (l, w, rs, c)) i0 i1 sd fa pl tr th)  (k : ∀ h2, mI h2 m ft tp P ht (some (l, w, rs, c)) i0 i1 sd fa (-1) (oSz P (some (l, w, rs, c)) y).2 0 → mFr m h h2 → Q (some (.int (oSz P (some (l, w, rs, c)) y).1)) h2) : Cl G yX10_size (d + 2) 0 0 [.ref m, .int y] h Q := by
  refine mI_e hI ?_
  intro sz sp fl tk ta sg nu wd rl rw ah cl gt ln wn fs ff fb fn fp f3 fk fx fy fc fr f1 f2 fi fo fq fh fj fw fz hW hT hPm hG hRm hm0 hm1 hsd hht htp
  have hnL : P.1 ≤ 4096 := Nat.le_trans hG.2.2.1 (by decide)
  have hnW : P.2.1 ≤ 4096 := Nat.le_trans hG.2.2.2 (by decide)
  have hhL : (ht = 0 ∧ P.1 = 0) ∨ ht = 1 := hht.imp (fun z => ⟨z.1, z.2.1⟩) id
  have hhW : (ht = 0 ∧ P.2.1 = 0) ∨ ht = 1 := hht.imp (fun z => ⟨z.1, z.2.2⟩) id
  obtain ⟨hht1, hok, hsr, hrn, hsz, hfo⟩ : ht = 1 ∧ mRr P (l, w, rs, c) fr fo := id hRm
  have hl : l < P.1 := hok.1
  have hwv9 : w < P.2.1 := hok.2.1
  have hc4 : c ≤ 4096 := hok.2.2
  have hl4 : l < 4 := Nat.lt_of_lt_of_le hl hG.2.2.1
  have hl31 : l < 2 ^ 31 := by omega
  have hLp := hPm.1 l hl
  rw [Nat.zero_add] at hLp
  have hGl := hG.1 l hl
  have hrc : fr 2 = nI c := hrn.2.2.1
  have hw : hHas h [m, m + 4, m + 14] [(oC 10 (mF m th tr pl (nI tp) sz sp fa fl tk ta sg nu wd (nI P.1) (nI P.2.1) rl rw ht sd ah cl)), (aI 8 fs), (aI 11 fr)] := hHas_s hW [0, 4, 14] rfl rfl
  have nd : [m, m + 4, m + 14].Nodup := (nd_inc ⟨by omega, by omega, trivial⟩)
  refine Cl.of (ini := false) kX10_size (plainFor_of_name (by decide)) (by decide) (Nat.le_of_ble_eq_true rfl) rfl rfl (fun z => by cases z) ?_
  refine w_heq (hUs_id hw).symm ?_
  refine w_aload_n dX10_size_0 rfl ?_
  refine w_iconst (v := 0) dX10_size_1 (by decide) ?_
  refine w_put (fs' := (mF m 0 tr pl (nI tp) sz sp fa fl tk ta sg nu wd (nI P.1) (nI P.2.1) rl rw ht sd ah cl)) fX10_89 (hUs_at nd 0 rfl rfl) rfl rfl (Nat.le_of_ble_eq_true rfl) rfl dX10_size_2 ?_
  refine w_heq (hUs_set nd rfl 0 (cs' := [(oC 10 (mF m 0 tr pl (nI tp) sz sp fa fl tk ta sg nu wd (nI P.1) (nI P.2.1) rl rw ht sd ah cl)), (aI 8 fs), (aI 11 fr)]) rfl rfl) ?_
  refine w_aload_n dX10_size_5 rfl ?_
  refine w_iload_n dX10_size_6 rfl ?_
  refine w_callV (ci := 10) (d' := d + 1) (mc' := 0) (ms' := 0) (As := [.int y]) (st := []) lX10_291 vX10_isStage rfl (hUs_at nd 0 rfl rfl) rfl (Nat.le_of_ble_eq_true rfl) dX10_size_7 (Nat.le_of_ble_eq_true rfl) (Nat.le_of_ble_eq_true rfl) (Nat.le_refl _) (m_isStage_s (hHas_sub nd (as' := [m, m + 4, m + 14]) (cs' := [(oC 10 (mF m 0 tr pl (nI tp) sz sp fa fl tk ta sg nu wd (nI P.1) (nI P.2.1) rl rw ht sd ah cl)), (aI 8 fs), (aI 11 fr)]) [0, 1, 2] rfl rfl) hht1 hrn hl31 (show l < 8 by omega) hLp.1 hGl.2.1 ?_)
  refine w_if_eq (tgt := 29) dX10_size_10 rfl (fun b10 => ?_) (fun b10 => ?_)
  · refine w_aload_n dX10_size_29 rfl ?_
    refine w_iconst (v := 1) dX10_size_30 (by decide) ?_
    refine w_callV (ci := 10) (d' := d + 1) (mc' := 0) (ms' := 0) (As := [.int 1]) (st := []) lX10_228 vX10_refused rfl (hUs_at nd 0 rfl rfl) rfl (Nat.le_of_ble_eq_true rfl) dX10_size_31 (Nat.le_of_ble_eq_true rfl) (Nat.le_of_ble_eq_true rfl) (Nat.le_refl _) (m_refused (hHas_sub nd (as' := [m]) (cs' := [(oC 10 (mF m 0 tr pl (nI tp) sz sp fa fl tk ta sg nu wd (nI P.1) (nI P.2.1) rl rw ht sd ah cl))]) [0] rfl rfl) (nd_sub nd (as' := [m]) [0] rfl rfl)  ?_)
    refine w_heq (hUs_in nd rfl [0] (cs2 := [(oC 10 (mF m 0 1 (-1) (nI tp) sz sp fa fl tk ta sg nu wd (nI P.1) (nI P.2.1) rl rw ht sd ah cl)), (aI 8 fs), (aI 11 fr)]) rfl rfl) ?_
    refine w_ireturn rfl dX10_size_34 (Nat.le_of_ble_eq_true rfl) (Nat.le_of_ble_eq_true rfl) ?_
    have e : oSz P (some (l, w, rs, c)) y = ((-1), 1) := by
      simp only [oSz]
      exact if_pos b10
    rw [e] at k
    exact k _ (mI_i (cI_put hW (mAs_nd m) rfl [0, 4, 14] (cs2 := [(oC 10 (mF m 0 1 (-1) (nI tp) sz sp fa fl tk ta sg nu wd (nI P.1) (nI P.2.1) rl rw ht sd ah cl)), (aI 600 gt), (aL 8 ln), (aL 8 wn), (aI 8 fs), (aI 24 ff), (aI 8 fb), (aI 8 fn), (aI 8 fp), (aZ 8 f3), (aI 64 fk), (aI 64 fx), (aI 64 fy), (aI 64 fc), (aI 11 fr), (aI 11 f1), (aI 11 f2), (aI 22 fi), (aB 4096 fo), (aB 8192 fq), (aZ 2 fh), (aI 2 fj), (aI 4096 fw), (aI 2100 fz)]) rfl rfl) hT hPm hG hRm hm0 hm1 hsd hht htp) (mFr_of (by intro a ha; simp only [List.mem_cons, List.not_mem_nil, or_false] at ha; omega))
  · have hn3 := hGl.2.1
    obtain ⟨w9, hw9, rfl⟩ := hasG_n b10 (by omega)
    have hwc : tN (nI w9) = w9 := nI_clamp (by omega)
    refine w_aload_n dX10_size_13 rfl ?_
    refine w_aload_n dX10_size_14 rfl ?_
    refine w_get (v := .ref (m + 14)) fX10_55 (hUs_at nd 0 rfl rfl) rfl dX10_size_15 ?_
    refine w_bipush (v := (nI 8)) dX10_size_18 (by decide) ?_
    refine w_iload_n dX10_size_20 rfl ?_
    refine w_iaddE (z := nI (8 + w9)) dX10_size_21 (nI_add (8) (w9)) ?_
    refine w_ialoadN (hUs_at nd 2 rfl rfl) (by omega) (by omega) dX10_size_22 ?_
    refine w_top (z := rZ (rQo P l w rs) c w9) (hsz w9 hw9) ?_
    refine w_callV (ci := 10) (d' := d + 1) (mc' := 0) (ms' := 0) (As := [.int (rZ (rQo P l w rs) c w9)]) (st := []) lX10_241 vX10_good rfl (hUs_at nd 0 rfl rfl) rfl (Nat.le_of_ble_eq_true rfl) dX10_size_23 (Nat.le_of_ble_eq_true rfl) (Nat.le_of_ble_eq_true rfl) (Nat.le_refl _) (m_good (hHas_sub nd (as' := [m]) (cs' := [(oC 10 (mF m 0 tr pl (nI tp) sz sp fa fl tk ta sg nu wd (nI P.1) (nI P.2.1) rl rw ht sd ah cl))]) [0] rfl rfl) (nd_sub nd (as' := [m]) [0] rfl rfl)  ?_)
    refine w_heq (hUs_in nd rfl [0] (cs2 := [(oC 10 (mF m 0 0 (-1) (nI tp) sz sp fa fl tk ta sg nu wd (nI P.1) (nI P.2.1) rl rw ht sd ah cl)), (aI 8 fs), (aI 11 fr)]) rfl rfl) ?_
    refine w_goto (tgt := 34) dX10_size_26 rfl ?_
    refine w_ireturn rfl dX10_size_34 (Nat.le_of_ble_eq_true rfl) (Nat.le_of_ble_eq_true rfl) ?_
    have e : oSz P (some (l, w, rs, c)) (nI w9) = (rZ (rQo P l w rs) c w9, 0) := by
      simp only [oSz]
      refine (if_neg b10).trans ?_
      rw [hwc]
    rw [e] at k
    exact k _ (mI_i (cI_put hW (mAs_nd m) rfl [0, 4, 14] (cs2 := [(oC 10 (mF m 0 0 (-1) (nI tp) sz sp fa fl tk ta sg nu wd (nI P.1) (nI P.2.1) rl rw ht sd ah cl)), (aI 600 gt), (aL 8 ln), (aL 8 wn), (aI 8 fs), (aI 24 ff), (aI 8 fb), (aI 8 fn), (aI 8 fp), (aZ 8 f3), (aI 64 fk), (aI 64 fx), (aI 64 fy), (aI 64 fc), (aI 11 fr), (aI 11 f1), (aI 11 f2), (aI 22 fi), (aB 4096 fo), (aB 8192 fq), (aZ 2 fh), (aI 2 fj), (aI 4096 fw), (aI 2100 fz)]) rfl rfl) hT hPm hG hRm hm0 hm1 hsd hht htp) (mFr_of (by intro a ha; simp only [List.mem_cons, List.not_mem_nil, or_false] at ha; omega))
theorem q_size {G : wG} {d : Nat} {h : hH} {Q : Option Value → hH → Prop} {m : Nat} {ft : Nat → Int32} {tp : Nat} {P : pD} {ht : Int32} {R : Option rnD} {i0 i1 : imD} {sd fa pl tr : Int32} {th : Int32}  {y : Int32} (hI : mI h m ft tp P ht R i0 i1 sd fa pl tr th) (k : ∀ h2, mI h2 m ft tp P ht R i0 i1 sd fa (-1) (oSz P (R) y).2 0 → mFr m h h2 → Q (some (.int (oSz P (R) y).1)) h2) : Cl G yX10_size (d + 2) 0 0 [.ref m, .int y] h Q := by
  cases R with
  | none => exact q_size_n hI k
  | some r => obtain ⟨l, w, rs, c⟩ := r; exact q_size_s hI k
set_option maxRecDepth 100000 in
set_option maxHeartbeats 4000000 in
theorem q_out_n {G : wG} {d : Nat} {h : hH} {Q : Option Value → hH → Prop} {m : Nat} {ft : Nat → Int32} {tp : Nat} {P : pD} {ht : Int32} {i0 i1 : imD} {sd fa pl tr : Int32} {th : Int32}  {y : Int32} (hI : mI h m ft tp P ht none i0 i1 sd fa pl tr th)  (k : ∀ h2, mI h2 m ft tp P ht none i0 i1 sd fa (-1) (oOut P (none) y).2 0 → mFr m h h2 → Q (some (.int (oOut P (none) y).1)) h2) : Cl G yX10_out (d + 2) 0 0 [.ref m, .int y] h Q := by
  refine mI_e hI ?_
  intro sz sp fl tk ta sg nu wd rl rw ah cl gt ln wn fs ff fb fn fp f3 fk fx fy fc fr f1 f2 fi fo fq fh fj fw fz hW hT hPm hG hRm hm0 hm1 hsd hht htp
  have hnL : P.1 ≤ 4096 := Nat.le_trans hG.2.2.1 (by decide)
  have hnW : P.2.1 ≤ 4096 := Nat.le_trans hG.2.2.2 (by decide)
  have hhL : (ht = 0 ∧ P.1 = 0) ∨ ht = 1 := hht.imp (fun z => ⟨z.1, z.2.1⟩) id
  have hhW : (ht = 0 ∧ P.2.1 = 0) ∨ ht = 1 := hht.imp (fun z => ⟨z.1, z.2.2⟩) id
  have hw : hHas h [m, m + 14] [(oC 10 (mF m th tr pl (nI tp) sz sp fa fl tk ta sg nu wd (nI P.1) (nI P.2.1) rl rw ht sd ah cl)), (aI 11 fr)] := hHas_s hW [0, 14] rfl rfl
  have nd : [m, m + 14].Nodup := (nd_inc ⟨by omega, trivial⟩)
  refine Cl.of (ini := false) kX10_out (plainFor_of_name (by decide)) (by decide) (Nat.le_of_ble_eq_true rfl) rfl rfl (fun z => by cases z) ?_
  refine w_heq (hUs_id hw).symm ?_
  refine w_aload_n dX10_out_0 rfl ?_
  refine w_iconst (v := 0) dX10_out_1 (by decide) ?_
  refine w_put (fs' := (mF m 0 tr pl (nI tp) sz sp fa fl tk ta sg nu wd (nI P.1) (nI P.2.1) rl rw ht sd ah cl)) fX10_89 (hUs_at nd 0 rfl rfl) rfl rfl (Nat.le_of_ble_eq_true rfl) rfl dX10_out_2 ?_
  refine w_heq (hUs_set nd rfl 0 (cs' := [(oC 10 (mF m 0 tr pl (nI tp) sz sp fa fl tk ta sg nu wd (nI P.1) (nI P.2.1) rl rw ht sd ah cl)), (aI 11 fr)]) rfl rfl) ?_
  refine w_aload_n dX10_out_5 rfl ?_
  refine w_callV (ci := 10) (d' := d + 1) (mc' := 0) (ms' := 0) (As := []) (st := []) lX10_284 vX10_hasRun rfl (hUs_at nd 0 rfl rfl) rfl (Nat.le_of_ble_eq_true rfl) dX10_out_6 (Nat.le_of_ble_eq_true rfl) (Nat.le_of_ble_eq_true rfl) (Nat.le_refl _) (m_hasRun_n (hHas_sub nd (as' := [m, m + 14]) (cs' := [(oC 10 (mF m 0 tr pl (nI tp) sz sp fa fl tk ta sg nu wd (nI P.1) (nI P.2.1) rl rw ht sd ah cl)), (aI 11 fr)]) [0, 1] rfl rfl) hRm ?_)
  refine w_if_ne_f (tgt := 18) dX10_out_9 rfl (by decide) ?_
  refine w_aload_n dX10_out_12 rfl ?_
  refine w_iconst (v := 1) dX10_out_13 (by decide) ?_
  refine w_callV (ci := 10) (d' := d + 1) (mc' := 0) (ms' := 0) (As := [.int 1]) (st := []) lX10_266 vX10_lost rfl (hUs_at nd 0 rfl rfl) rfl (Nat.le_of_ble_eq_true rfl) dX10_out_14 (Nat.le_of_ble_eq_true rfl) (Nat.le_of_ble_eq_true rfl) (Nat.le_refl _) (m_lost (hHas_sub nd (as' := [m]) (cs' := [(oC 10 (mF m 0 tr pl (nI tp) sz sp fa fl tk ta sg nu wd (nI P.1) (nI P.2.1) rl rw ht sd ah cl))]) [0] rfl rfl) (nd_sub nd (as' := [m]) [0] rfl rfl)  ?_)
  refine w_heq (hUs_in nd rfl [0] (cs2 := [(oC 10 (mF m 0 1 (-1) (nI tp) sz sp fa fl tk ta sg nu wd (nI P.1) (nI P.2.1) rl rw ht sd ah cl)), (aI 11 fr)]) rfl rfl) ?_
  refine w_ireturn rfl dX10_out_17 (Nat.le_of_ble_eq_true rfl) (Nat.le_of_ble_eq_true rfl) ?_
  have e : oOut P none y = ((-1000000000), 1) := by
    rfl
  rw [e] at k
  exact k _ (mI_i (cI_put hW (mAs_nd m) rfl [0, 14] (cs2 := [(oC 10 (mF m 0 1 (-1) (nI tp) sz sp fa fl tk ta sg nu wd (nI P.1) (nI P.2.1) rl rw ht sd ah cl)), (aI 600 gt), (aL 8 ln), (aL 8 wn), (aI 8 fs), (aI 24 ff), (aI 8 fb), (aI 8 fn), (aI 8 fp), (aZ 8 f3), (aI 64 fk), (aI 64 fx), (aI 64 fy), (aI 64 fc), (aI 11 fr), (aI 11 f1), (aI 11 f2), (aI 22 fi), (aB 4096 fo), (aB 8192 fq), (aZ 2 fh), (aI 2 fj), (aI 4096 fw), (aI 2100 fz)]) rfl rfl) hT hPm hG hRm hm0 hm1 hsd hht htp) (mFr_of (by intro a ha; simp only [List.mem_cons, List.not_mem_nil, or_false] at ha; omega))
set_option maxRecDepth 100000 in
set_option maxHeartbeats 4000000 in
theorem q_out_s {G : wG} {d : Nat} {h : hH} {Q : Option Value → hH → Prop} {m : Nat} {ft : Nat → Int32} {tp : Nat} {P : pD} {ht : Int32} {i0 i1 : imD} {sd fa pl tr : Int32} {th : Int32}  {l w c : Nat} {rs : Int32} {y : Int32} (hI : mI h m ft tp P ht (some (l, w, rs, c)) i0 i1 sd fa pl tr th)  (k : ∀ h2, mI h2 m ft tp P ht (some (l, w, rs, c)) i0 i1 sd fa (-1) (oOut P (some (l, w, rs, c)) y).2 0 → mFr m h h2 → Q (some (.int (oOut P (some (l, w, rs, c)) y).1)) h2) : Cl G yX10_out (d + 2) 0 0 [.ref m, .int y] h Q := by
  refine mI_e hI ?_
  intro sz sp fl tk ta sg nu wd rl rw ah cl gt ln wn fs ff fb fn fp f3 fk fx fy fc fr f1 f2 fi fo fq fh fj fw fz hW hT hPm hG hRm hm0 hm1 hsd hht htp
  have hnL : P.1 ≤ 4096 := Nat.le_trans hG.2.2.1 (by decide)
  have hnW : P.2.1 ≤ 4096 := Nat.le_trans hG.2.2.2 (by decide)
  have hhL : (ht = 0 ∧ P.1 = 0) ∨ ht = 1 := hht.imp (fun z => ⟨z.1, z.2.1⟩) id
  have hhW : (ht = 0 ∧ P.2.1 = 0) ∨ ht = 1 := hht.imp (fun z => ⟨z.1, z.2.2⟩) id
  obtain ⟨hht1, hok, hsr, hrn, hsz, hfo⟩ : ht = 1 ∧ mRr P (l, w, rs, c) fr fo := id hRm
  have hl : l < P.1 := hok.1
  have hwv9 : w < P.2.1 := hok.2.1
  have hc4 : c ≤ 4096 := hok.2.2
  have hl4 : l < 4 := Nat.lt_of_lt_of_le hl hG.2.2.1
  have hl31 : l < 2 ^ 31 := by omega
  have hLp := hPm.1 l hl
  rw [Nat.zero_add] at hLp
  have hGl := hG.1 l hl
  have hrc : fr 2 = nI c := hrn.2.2.1
  have hw : hHas h [m, m + 14, m + 18] [(oC 10 (mF m th tr pl (nI tp) sz sp fa fl tk ta sg nu wd (nI P.1) (nI P.2.1) rl rw ht sd ah cl)), (aI 11 fr), (aB 4096 fo)] := hHas_s hW [0, 14, 18] rfl rfl
  have nd : [m, m + 14, m + 18].Nodup := (nd_inc ⟨by omega, by omega, trivial⟩)
  refine Cl.of (ini := false) kX10_out (plainFor_of_name (by decide)) (by decide) (Nat.le_of_ble_eq_true rfl) rfl rfl (fun z => by cases z) ?_
  refine w_heq (hUs_id hw).symm ?_
  refine w_aload_n dX10_out_0 rfl ?_
  refine w_iconst (v := 0) dX10_out_1 (by decide) ?_
  refine w_put (fs' := (mF m 0 tr pl (nI tp) sz sp fa fl tk ta sg nu wd (nI P.1) (nI P.2.1) rl rw ht sd ah cl)) fX10_89 (hUs_at nd 0 rfl rfl) rfl rfl (Nat.le_of_ble_eq_true rfl) rfl dX10_out_2 ?_
  refine w_heq (hUs_set nd rfl 0 (cs' := [(oC 10 (mF m 0 tr pl (nI tp) sz sp fa fl tk ta sg nu wd (nI P.1) (nI P.2.1) rl rw ht sd ah cl)), (aI 11 fr), (aB 4096 fo)]) rfl rfl) ?_
  refine w_aload_n dX10_out_5 rfl ?_
  refine w_callV (ci := 10) (d' := d + 1) (mc' := 0) (ms' := 0) (As := []) (st := []) lX10_284 vX10_hasRun rfl (hUs_at nd 0 rfl rfl) rfl (Nat.le_of_ble_eq_true rfl) dX10_out_6 (Nat.le_of_ble_eq_true rfl) (Nat.le_of_ble_eq_true rfl) (Nat.le_refl _) (m_hasRun_s (hHas_sub nd (as' := [m, m + 14]) (cs' := [(oC 10 (mF m 0 tr pl (nI tp) sz sp fa fl tk ta sg nu wd (nI P.1) (nI P.2.1) rl rw ht sd ah cl)), (aI 11 fr)]) [0, 1] rfl rfl) hht1 hrn.1 hl31 ?_)
  refine w_if_ne_t (tgt := 18) dX10_out_9 rfl (by decide) ?_
  refine w_aload_n dX10_out_18 rfl ?_
  refine w_iload_n dX10_out_19 rfl ?_
  refine w_callV (ci := 10) (d' := d + 1) (mc' := 0) (ms' := 0) (As := [.int y]) (st := []) lX10_294 vX10_isClock rfl (hUs_at nd 0 rfl rfl) rfl (Nat.le_of_ble_eq_true rfl) dX10_out_20 (Nat.le_of_ble_eq_true rfl) (Nat.le_of_ble_eq_true rfl) (Nat.le_refl _) (m_isClock (hHas_sub nd (as' := [m, m + 14]) (cs' := [(oC 10 (mF m 0 tr pl (nI tp) sz sp fa fl tk ta sg nu wd (nI P.1) (nI P.2.1) rl rw ht sd ah cl)), (aI 11 fr)]) [0, 1] rfl rfl) hrc hc4 ?_)
  refine w_if_eq (tgt := 39) dX10_out_23 rfl (fun b23 => ?_) (fun b23 => ?_)
  · refine w_aload_n dX10_out_39 rfl ?_
    refine w_iconst (v := 2) dX10_out_40 (by decide) ?_
    refine w_callV (ci := 10) (d' := d + 1) (mc' := 0) (ms' := 0) (As := [.int 2]) (st := []) lX10_266 vX10_lost rfl (hUs_at nd 0 rfl rfl) rfl (Nat.le_of_ble_eq_true rfl) dX10_out_41 (Nat.le_of_ble_eq_true rfl) (Nat.le_of_ble_eq_true rfl) (Nat.le_refl _) (m_lost (hHas_sub nd (as' := [m]) (cs' := [(oC 10 (mF m 0 tr pl (nI tp) sz sp fa fl tk ta sg nu wd (nI P.1) (nI P.2.1) rl rw ht sd ah cl))]) [0] rfl rfl) (nd_sub nd (as' := [m]) [0] rfl rfl)  ?_)
    refine w_heq (hUs_in nd rfl [0] (cs2 := [(oC 10 (mF m 0 2 (-1) (nI tp) sz sp fa fl tk ta sg nu wd (nI P.1) (nI P.2.1) rl rw ht sd ah cl)), (aI 11 fr), (aB 4096 fo)]) rfl rfl) ?_
    refine w_ireturn rfl dX10_out_44 (Nat.le_of_ble_eq_true rfl) (Nat.le_of_ble_eq_true rfl) ?_
    have e : oOut P (some (l, w, rs, c)) y = ((-1000000000), 2) := by
      simp only [oOut, oOutF]
      exact if_pos (show hasS y y c = 0 from if_neg (fun z => ixB_0 b23 ⟨z.1, z.2.2⟩))
    rw [e] at k
    exact k _ (mI_i (cI_put hW (mAs_nd m) rfl [0, 14, 18] (cs2 := [(oC 10 (mF m 0 2 (-1) (nI tp) sz sp fa fl tk ta sg nu wd (nI P.1) (nI P.2.1) rl rw ht sd ah cl)), (aI 600 gt), (aL 8 ln), (aL 8 wn), (aI 8 fs), (aI 24 ff), (aI 8 fb), (aI 8 fn), (aI 8 fp), (aZ 8 f3), (aI 64 fk), (aI 64 fx), (aI 64 fy), (aI 64 fc), (aI 11 fr), (aI 11 f1), (aI 11 f2), (aI 22 fi), (aB 4096 fo), (aB 8192 fq), (aZ 2 fh), (aI 2 fj), (aI 4096 fw), (aI 2100 fz)]) rfl rfl) hT hPm hG hRm hm0 hm1 hsd hht htp) (mFr_of (by intro a ha; simp only [List.mem_cons, List.not_mem_nil, or_false] at ha; omega))
  · obtain ⟨w9, hw9, rfl⟩ := in3 (Int32.not_lt.mpr (ixB_1 b23).1) (ixB_1 b23).2 (show c < 2 ^ 31 by omega)
    have hwc : tN (nI w9) = w9 := nI_clamp (by omega)
    refine w_aload_n dX10_out_26 rfl ?_
    refine w_aload_n dX10_out_27 rfl ?_
    refine w_get (v := .ref (m + 18)) fX10_67 (hUs_at nd 0 rfl rfl) rfl dX10_out_28 ?_
    refine w_iload_n dX10_out_31 rfl ?_
    refine w_baloadN (hUs_at nd 2 rfl rfl) (by omega) (by omega) dX10_out_32 ?_
    refine w_top (z := rO (rQo P l w rs) w9) (hfo w9 hw9) ?_
    refine w_callV (ci := 10) (d' := d + 1) (mc' := 0) (ms' := 0) (As := [.int (rO (rQo P l w rs) w9)]) (st := []) lX10_241 vX10_good rfl (hUs_at nd 0 rfl rfl) rfl (Nat.le_of_ble_eq_true rfl) dX10_out_33 (Nat.le_of_ble_eq_true rfl) (Nat.le_of_ble_eq_true rfl) (Nat.le_refl _) (m_good (hHas_sub nd (as' := [m]) (cs' := [(oC 10 (mF m 0 tr pl (nI tp) sz sp fa fl tk ta sg nu wd (nI P.1) (nI P.2.1) rl rw ht sd ah cl))]) [0] rfl rfl) (nd_sub nd (as' := [m]) [0] rfl rfl)  ?_)
    refine w_heq (hUs_in nd rfl [0] (cs2 := [(oC 10 (mF m 0 0 (-1) (nI tp) sz sp fa fl tk ta sg nu wd (nI P.1) (nI P.2.1) rl rw ht sd ah cl)), (aI 11 fr), (aB 4096 fo)]) rfl rfl) ?_
    refine w_goto (tgt := 44) dX10_out_36 rfl ?_
    refine w_ireturn rfl dX10_out_44 (Nat.le_of_ble_eq_true rfl) (Nat.le_of_ble_eq_true rfl) ?_
    have e : oOut P (some (l, w, rs, c)) (nI w9) = (rO (rQo P l w rs) w9, 0) := by
      simp only [oOut, oOutF]
      refine (if_neg (by rw [hasS, if_pos ⟨(ixB_1 b23).1, Int32.le_refl _, (ixB_1 b23).2⟩]; decide)).trans ?_
      rw [hwc]
    rw [e] at k
    exact k _ (mI_i (cI_put hW (mAs_nd m) rfl [0, 14, 18] (cs2 := [(oC 10 (mF m 0 0 (-1) (nI tp) sz sp fa fl tk ta sg nu wd (nI P.1) (nI P.2.1) rl rw ht sd ah cl)), (aI 600 gt), (aL 8 ln), (aL 8 wn), (aI 8 fs), (aI 24 ff), (aI 8 fb), (aI 8 fn), (aI 8 fp), (aZ 8 f3), (aI 64 fk), (aI 64 fx), (aI 64 fy), (aI 64 fc), (aI 11 fr), (aI 11 f1), (aI 11 f2), (aI 22 fi), (aB 4096 fo), (aB 8192 fq), (aZ 2 fh), (aI 2 fj), (aI 4096 fw), (aI 2100 fz)]) rfl rfl) hT hPm hG hRm hm0 hm1 hsd hht htp) (mFr_of (by intro a ha; simp only [List.mem_cons, List.not_mem_nil, or_false] at ha; omega))
theorem q_out {G : wG} {d : Nat} {h : hH} {Q : Option Value → hH → Prop} {m : Nat} {ft : Nat → Int32} {tp : Nat} {P : pD} {ht : Int32} {R : Option rnD} {i0 i1 : imD} {sd fa pl tr : Int32} {th : Int32}  {y : Int32} (hI : mI h m ft tp P ht R i0 i1 sd fa pl tr th) (k : ∀ h2, mI h2 m ft tp P ht R i0 i1 sd fa (-1) (oOut P (R) y).2 0 → mFr m h h2 → Q (some (.int (oOut P (R) y).1)) h2) : Cl G yX10_out (d + 2) 0 0 [.ref m, .int y] h Q := by
  cases R with
  | none => exact q_out_n hI k
  | some r => obtain ⟨l, w, rs, c⟩ := r; exact q_out_s hI k
