set_option maxRecDepth 100000 in
set_option maxHeartbeats 4000000 in
theorem lq_often {G : wG} {d : Nat} {h : hH} {Q : Option Value → hH → Prop} {m tp : Nat} {P : pD} {ht sd fa pl tr sz sp fl tk ta sg nu : Int32} {wd : Int64} {rl rw ah cl : Int32} {fr : Nat → Int32} {fo : Nat → Int32} {v : Int32} {A B : Nat} (nd : [m, m + 14, m + 18].Nodup) (hA : A ≤ B) (hB : B < 4096) (k : WP G RX10 cX10_often 6 (some .int) false (d + 3) 0 0 0 0 Q 81 [some (.ref m), some (.int v), some (.int (nI A)), some (.int (nI B)), some (.int (fld (fun t s => s + (if fo t = v then 1 else 0)) A (B + 1 - A) 0)), none] [] (hUs h [m, m + 14, m + 18] [(oC 10 (mF m 0 tr pl (nI tp) sz sp fa fl tk ta sg nu wd (nI P.1) (nI P.2.1) rl rw ht sd ah cl)), (aI 11 fr), (aB 4096 fo)])) : ∀ (n : Nat) (i : Nat) (x : Int32), i + n = B + 1 - A → x = fld (fun t s => s + (if fo t = v then 1 else 0)) A i 0 → WP G RX10 cX10_often 6 (some .int) false (d + 3) 0 0 0 0 Q 48 [some (.ref m), some (.int v), some (.int (nI A)), some (.int (nI B)), some (.int x), some (.int (nI (A + i)))] [] (hUs h [m, m + 14, m + 18] [(oC 10 (mF m 0 tr pl (nI tp) sz sp fa fl tk ta sg nu wd (nI P.1) (nI P.2.1) rl rw ht sd ah cl)), (aI 11 fr), (aB 4096 fo)]) := by
  intro n
  induction n with
  | zero =>
    intro i x hi e
    refine w_iload dX10_often_48 rfl ?_
    refine w_iload_n dX10_often_50 rfl ?_
    refine w_icmp_gt_t (tgt := 81) dX10_often_51 rfl ((nI_ltI (a := B) (b := (A + i)) (by omega) (by omega)).mpr (by omega)) ?_
    refine w_less (ls2 := [some (.ref m), some (.int v), some (.int (nI A)), some (.int (nI B)), some (.int x), none]) ⟨Or.inr rfl, Or.inr rfl, Or.inr rfl, Or.inr rfl, Or.inr rfl, Or.inl rfl, trivial⟩ ?_
    have z : i = B + 1 - A := by omega
    rw [← z, ← e] at k
    exact k
  | succ n ih =>
    intro i x hi e
    refine w_iload dX10_often_48 rfl ?_
    refine w_iload_n dX10_often_50 rfl ?_
    refine w_icmp_gt_f (tgt := 81) dX10_often_51 rfl (fun z => absurd ((nI_ltI (a := B) (b := (A + i)) (by omega) (by omega)).mp z) (by omega)) ?_
    refine w_iload dX10_often_54 rfl ?_
    refine w_aload_n dX10_often_56 rfl ?_
    refine w_get (v := .ref (m + 18)) fX10_67 (hUs_at nd 0 rfl rfl) rfl dX10_often_57 ?_
    refine w_iload dX10_often_60 rfl ?_
    refine w_baloadN (hUs_at nd 2 rfl rfl) (by omega) (by omega) dX10_often_62 ?_
    refine w_iload_n dX10_often_63 rfl ?_
    refine w_icmp_ne (tgt := 71) dX10_often_64 rfl (fun b64 => ?_) (fun b64 => ?_)
    · refine w_iconst (v := 0) dX10_often_71 (by decide) ?_
      refine w_iadd dX10_often_72 ?_
      refine w_istore (ls2 := [some (.ref m), some (.int v), some (.int (nI A)), some (.int (nI B)), some (.int (x + 0)), some (.int (nI (A + i)))]) dX10_often_73 (by decide) rfl rfl ?_
      refine w_iinc (v := nI ((A + i) + 1)) (ls2 := [some (.ref m), some (.int v), some (.int (nI A)), some (.int (nI B)), some (.int (x + 0)), some (.int (nI ((A + i) + 1)))]) dX10_often_75 rfl (nI_1 _) (by decide) rfl rfl ?_
      refine w_goto (tgt := 48) dX10_often_78 rfl ?_
      exact ih (i + 1) _ (by omega) (by rw [fld, ← e]; simp only [if_neg b64])
    · refine w_iconst (v := 1) dX10_often_67 (by decide) ?_
      refine w_goto (tgt := 72) dX10_often_68 rfl ?_
      refine w_iadd dX10_often_72 ?_
      refine w_istore (ls2 := [some (.ref m), some (.int v), some (.int (nI A)), some (.int (nI B)), some (.int (x + 1)), some (.int (nI (A + i)))]) dX10_often_73 (by decide) rfl rfl ?_
      refine w_iinc (v := nI ((A + i) + 1)) (ls2 := [some (.ref m), some (.int v), some (.int (nI A)), some (.int (nI B)), some (.int (x + 1)), some (.int (nI ((A + i) + 1)))]) dX10_often_75 rfl (nI_1 _) (by decide) rfl rfl ?_
      refine w_goto (tgt := 48) dX10_often_78 rfl ?_
      exact ih (i + 1) _ (by omega) (by rw [fld, ← e]; simp only [if_pos b64])
set_option maxRecDepth 100000 in
set_option maxHeartbeats 4000000 in
theorem q_often_n {G : wG} {d : Nat} {h : hH} {Q : Option Value → hH → Prop} {m : Nat} {ft : Nat → Int32} {tp : Nat} {P : pD} {ht : Int32} {i0 i1 : imD} {sd fa pl tr : Int32} {th : Int32}  {v a u : Int32} (hI : mI h m ft tp P ht none i0 i1 sd fa pl tr th)  (k : ∀ h2, mI h2 m ft tp P ht none i0 i1 sd fa (-1) (oOft P (none) v a u).2 0 → mFr m h h2 → Q (some (.int (oOft P (none) v a u).1)) h2) : Cl G yX10_often (d + 3) 0 0 [.ref m, .int v, .int a, .int u] h Q := by
  refine mI_e hI ?_
  intro sz sp fl tk ta sg nu wd rl rw ah cl gt ln wn fs ff fb fn fp f3 fk fx fy fc fr f1 f2 fi fo fq fh fj fw fz hW hT hPm hG hRm hm0 hm1 hsd hht htp
  have hnL : P.1 ≤ 4096 := Nat.le_trans hG.2.2.1 (by decide)
  have hnW : P.2.1 ≤ 4096 := Nat.le_trans hG.2.2.2 (by decide)
  have hhL : (ht = 0 ∧ P.1 = 0) ∨ ht = 1 := hht.imp (fun z => ⟨z.1, z.2.1⟩) id
  have hhW : (ht = 0 ∧ P.2.1 = 0) ∨ ht = 1 := hht.imp (fun z => ⟨z.1, z.2.2⟩) id
  have hw : hHas h [m, m + 14] [(oC 10 (mF m th tr pl (nI tp) sz sp fa fl tk ta sg nu wd (nI P.1) (nI P.2.1) rl rw ht sd ah cl)), (aI 11 fr)] := hHas_s hW [0, 14] rfl rfl
  have nd : [m, m + 14].Nodup := (nd_inc ⟨by omega, trivial⟩)
  refine Cl.of (ini := false) kX10_often (plainFor_of_name (by decide)) (by decide) (Nat.le_of_ble_eq_true rfl) rfl rfl (fun z => by cases z) ?_
  refine w_heq (hUs_id hw).symm ?_
  refine w_aload_n dX10_often_0 rfl ?_
  refine w_iconst (v := 0) dX10_often_1 (by decide) ?_
  refine w_put (fs' := (mF m 0 tr pl (nI tp) sz sp fa fl tk ta sg nu wd (nI P.1) (nI P.2.1) rl rw ht sd ah cl)) fX10_89 (hUs_at nd 0 rfl rfl) rfl rfl (Nat.le_of_ble_eq_true rfl) rfl dX10_often_2 ?_
  refine w_heq (hUs_set nd rfl 0 (cs' := [(oC 10 (mF m 0 tr pl (nI tp) sz sp fa fl tk ta sg nu wd (nI P.1) (nI P.2.1) rl rw ht sd ah cl)), (aI 11 fr)]) rfl rfl) ?_
  refine w_aload_n dX10_often_5 rfl ?_
  refine w_callV (ci := 10) (d' := d + 2) (mc' := 0) (ms' := 0) (As := []) (st := []) lX10_284 vX10_hasRun rfl (hUs_at nd 0 rfl rfl) rfl (Nat.le_of_ble_eq_true rfl) dX10_often_6 (Nat.le_of_ble_eq_true rfl) (Nat.le_of_ble_eq_true rfl) (Nat.le_refl _) (m_hasRun_n (hHas_sub nd (as' := [m, m + 14]) (cs' := [(oC 10 (mF m 0 tr pl (nI tp) sz sp fa fl tk ta sg nu wd (nI P.1) (nI P.2.1) rl rw ht sd ah cl)), (aI 11 fr)]) [0, 1] rfl rfl) hRm ?_)
  refine w_if_ne_f (tgt := 18) dX10_often_9 rfl (by decide) ?_
  refine w_aload_n dX10_often_12 rfl ?_
  refine w_iconst (v := 1) dX10_often_13 (by decide) ?_
  refine w_callV (ci := 10) (d' := d + 2) (mc' := 0) (ms' := 0) (As := [.int 1]) (st := []) lX10_228 vX10_refused rfl (hUs_at nd 0 rfl rfl) rfl (Nat.le_of_ble_eq_true rfl) dX10_often_14 (Nat.le_of_ble_eq_true rfl) (Nat.le_of_ble_eq_true rfl) (Nat.le_refl _) (m_refused (hHas_sub nd (as' := [m]) (cs' := [(oC 10 (mF m 0 tr pl (nI tp) sz sp fa fl tk ta sg nu wd (nI P.1) (nI P.2.1) rl rw ht sd ah cl))]) [0] rfl rfl) (nd_sub nd (as' := [m]) [0] rfl rfl)  ?_)
  refine w_heq (hUs_in nd rfl [0] (cs2 := [(oC 10 (mF m 0 1 (-1) (nI tp) sz sp fa fl tk ta sg nu wd (nI P.1) (nI P.2.1) rl rw ht sd ah cl)), (aI 11 fr)]) rfl rfl) ?_
  refine w_ireturn rfl dX10_often_17 (Nat.le_of_ble_eq_true rfl) (Nat.le_of_ble_eq_true rfl) ?_
  have e : oOft P none v a u = ((-1), 1) := by
    rfl
  rw [e] at k
  exact k _ (mI_i (cI_put hW (mAs_nd m) rfl [0, 14] (cs2 := [(oC 10 (mF m 0 1 (-1) (nI tp) sz sp fa fl tk ta sg nu wd (nI P.1) (nI P.2.1) rl rw ht sd ah cl)), (aI 600 gt), (aL 8 ln), (aL 8 wn), (aI 8 fs), (aI 24 ff), (aI 8 fb), (aI 8 fn), (aI 8 fp), (aZ 8 f3), (aI 64 fk), (aI 64 fx), (aI 64 fy), (aI 64 fc), (aI 11 fr), (aI 11 f1), (aI 11 f2), (aI 22 fi), (aB 4096 fo), (aB 8192 fq), (aZ 2 fh), (aI 2 fj), (aI 4096 fw), (aI 2100 fz)]) rfl rfl) hT hPm hG hRm hm0 hm1 hsd hht htp) (mFr_of (by intro a ha; simp only [List.mem_cons, List.not_mem_nil, or_false] at ha; omega))
set_option maxRecDepth 100000 in
set_option maxHeartbeats 4000000 in
theorem q_often_s {G : wG} {d : Nat} {h : hH} {Q : Option Value → hH → Prop} {m : Nat} {ft : Nat → Int32} {tp : Nat} {P : pD} {ht : Int32} {i0 i1 : imD} {sd fa pl tr : Int32} {th : Int32}  {l w c : Nat} {rs : Int32} {v a u : Int32} (hI : mI h m ft tp P ht (some (l, w, rs, c)) i0 i1 sd fa pl tr th)  (k : ∀ h2, mI h2 m ft tp P ht (some (l, w, rs, c)) i0 i1 sd fa (-1) (oOft P (some (l, w, rs, c)) v a u).2 0 → mFr m h h2 → Q (some (.int (oOft P (some (l, w, rs, c)) v a u).1)) h2) : Cl G yX10_often (d + 3) 0 0 [.ref m, .int v, .int a, .int u] h Q := by
  refine mI_e hI ?_
  intro sz sp fl tk ta sg nu wd rl rw ah cl gt ln wn fs ff fb fn fp f3 fk fx fy fc fr f1 f2 fi fo fq fh fj fw fz hW hT hPm hG hRm hm0 hm1 hsd hht htp
  have hnL : P.1 ≤ 4096 := Nat.le_trans hG.2.2.1 (by decide)
  have hnW : P.2.1 ≤ 4096 := Nat.le_trans hG.2.2.2 (by decide)
  have hhL : (ht = 0 ∧ P.1 = 0) ∨ ht = 1 := hht.imp (fun z => ⟨z.1, z.2.1⟩) id
  have hhW : (ht = 0 ∧ P.2.1 = 0) ∨ ht = 1 := hht.imp (fun z => ⟨z.1, z.2.2⟩) id
  obtain ⟨hht1, hok, hsr, hrn, hsz, hfo⟩ : ht = 1 ∧ mRr P (l, w, rs, c) fr fo := id hRm
  have hl : l < P.1 := hok.1
  have hwv9 : w < P.2.1 := hok.2.1
  have hc4 : c ≤ 4096 := hok.2.2
  have hl4 : l < 4 := Nat.lt_of_lt_of_le hl hG.2.2.1
  have hl31 : l < 2 ^ 31 := by omega
  have hLp := hPm.1 l hl
  rw [Nat.zero_add] at hLp
  have hGl := hG.1 l hl
  have hrc : fr 2 = nI c := hrn.2.2.1
  rw [show oOft P (some (l, w, rs, c)) v a u = oOftF fo c v a u from (oOftF_c hfo hc4 v a u).symm] at k
  have hw : hHas h [m, m + 14, m + 18] [(oC 10 (mF m th tr pl (nI tp) sz sp fa fl tk ta sg nu wd (nI P.1) (nI P.2.1) rl rw ht sd ah cl)), (aI 11 fr), (aB 4096 fo)] := hHas_s hW [0, 14, 18] rfl rfl
  have nd : [m, m + 14, m + 18].Nodup := (nd_inc ⟨by omega, by omega, trivial⟩)
  refine Cl.of (ini := false) kX10_often (plainFor_of_name (by decide)) (by decide) (Nat.le_of_ble_eq_true rfl) rfl rfl (fun z => by cases z) ?_
  refine w_heq (hUs_id hw).symm ?_
  refine w_aload_n dX10_often_0 rfl ?_
  refine w_iconst (v := 0) dX10_often_1 (by decide) ?_
  refine w_put (fs' := (mF m 0 tr pl (nI tp) sz sp fa fl tk ta sg nu wd (nI P.1) (nI P.2.1) rl rw ht sd ah cl)) fX10_89 (hUs_at nd 0 rfl rfl) rfl rfl (Nat.le_of_ble_eq_true rfl) rfl dX10_often_2 ?_
  refine w_heq (hUs_set nd rfl 0 (cs' := [(oC 10 (mF m 0 tr pl (nI tp) sz sp fa fl tk ta sg nu wd (nI P.1) (nI P.2.1) rl rw ht sd ah cl)), (aI 11 fr), (aB 4096 fo)]) rfl rfl) ?_
  refine w_aload_n dX10_often_5 rfl ?_
  refine w_callV (ci := 10) (d' := d + 2) (mc' := 0) (ms' := 0) (As := []) (st := []) lX10_284 vX10_hasRun rfl (hUs_at nd 0 rfl rfl) rfl (Nat.le_of_ble_eq_true rfl) dX10_often_6 (Nat.le_of_ble_eq_true rfl) (Nat.le_of_ble_eq_true rfl) (Nat.le_refl _) (m_hasRun_s (hHas_sub nd (as' := [m, m + 14]) (cs' := [(oC 10 (mF m 0 tr pl (nI tp) sz sp fa fl tk ta sg nu wd (nI P.1) (nI P.2.1) rl rw ht sd ah cl)), (aI 11 fr)]) [0, 1] rfl rfl) hht1 hrn.1 hl31 ?_)
  refine w_if_ne_t (tgt := 18) dX10_often_9 rfl (by decide) ?_
  refine w_iload_n dX10_often_18 rfl ?_
  refine w_iconst (v := (-1)) dX10_often_19 (by decide) ?_
  refine w_iconst (v := 1) dX10_often_20 (by decide) ?_
  refine w_callS (d' := d + 2) (mc' := 0) (ms' := 0) (As := [.int v, .int (-1), .int 1]) (st := []) lX10_111 vX10_in rfl (Nat.le_of_ble_eq_true rfl) dX10_often_21 (Nat.le_of_ble_eq_true rfl) (Nat.le_of_ble_eq_true rfl) (Nat.le_refl _) (c_in ?_)
  refine w_if_eq (tgt := 36) dX10_often_24 rfl (fun b24 => ?_) (fun b24 => ?_)
  · refine w_aload_n dX10_often_36 rfl ?_
    refine w_iconst (v := 2) dX10_often_37 (by decide) ?_
    refine w_callV (ci := 10) (d' := d + 2) (mc' := 0) (ms' := 0) (As := [.int 2]) (st := []) lX10_228 vX10_refused rfl (hUs_at nd 0 rfl rfl) rfl (Nat.le_of_ble_eq_true rfl) dX10_often_38 (Nat.le_of_ble_eq_true rfl) (Nat.le_of_ble_eq_true rfl) (Nat.le_refl _) (m_refused (hHas_sub nd (as' := [m]) (cs' := [(oC 10 (mF m 0 tr pl (nI tp) sz sp fa fl tk ta sg nu wd (nI P.1) (nI P.2.1) rl rw ht sd ah cl))]) [0] rfl rfl) (nd_sub nd (as' := [m]) [0] rfl rfl)  ?_)
    refine w_heq (hUs_in nd rfl [0] (cs2 := [(oC 10 (mF m 0 2 (-1) (nI tp) sz sp fa fl tk ta sg nu wd (nI P.1) (nI P.2.1) rl rw ht sd ah cl)), (aI 11 fr), (aB 4096 fo)]) rfl rfl) ?_
    refine w_ireturn rfl dX10_often_41 (Nat.le_of_ble_eq_true rfl) (Nat.le_of_ble_eq_true rfl) ?_
    have e : oOftF fo c v a u = ((-1), 2) := by
      simp only [oOftF]
      exact if_pos (Or.inl (by rw [vlB]; exact if_neg (fun z => (inB_0 b24).elim (fun y => absurd z.1 (Int32.not_le.mpr y)) (fun y => absurd z.2 (Int32.not_le.mpr y)))))
    rw [e] at k
    exact k _ (mI_i (cI_put hW (mAs_nd m) rfl [0, 14, 18] (cs2 := [(oC 10 (mF m 0 2 (-1) (nI tp) sz sp fa fl tk ta sg nu wd (nI P.1) (nI P.2.1) rl rw ht sd ah cl)), (aI 600 gt), (aL 8 ln), (aL 8 wn), (aI 8 fs), (aI 24 ff), (aI 8 fb), (aI 8 fn), (aI 8 fp), (aZ 8 f3), (aI 64 fk), (aI 64 fx), (aI 64 fy), (aI 64 fc), (aI 11 fr), (aI 11 f1), (aI 11 f2), (aI 22 fi), (aB 4096 fo), (aB 8192 fq), (aZ 2 fh), (aI 2 fj), (aI 4096 fw), (aI 2100 fz)]) rfl rfl) hT hPm hG hRm hm0 hm1 hsd hht htp) (mFr_of (by intro a ha; simp only [List.mem_cons, List.not_mem_nil, or_false] at ha; omega))
  · refine w_aload_n dX10_often_27 rfl ?_
    refine w_iload_n dX10_often_28 rfl ?_
    refine w_iload_n dX10_often_29 rfl ?_
    refine w_callV (ci := 10) (d' := d + 2) (mc' := 0) (ms' := 0) (As := [.int a, .int u]) (st := []) lX10_297 vX10_isStretch rfl (hUs_at nd 0 rfl rfl) rfl (Nat.le_of_ble_eq_true rfl) dX10_often_30 (Nat.le_of_ble_eq_true rfl) (Nat.le_of_ble_eq_true rfl) (Nat.le_refl _) (m_isStretch (hHas_sub nd (as' := [m, m + 14]) (cs' := [(oC 10 (mF m 0 tr pl (nI tp) sz sp fa fl tk ta sg nu wd (nI P.1) (nI P.2.1) rl rw ht sd ah cl)), (aI 11 fr)]) [0, 1] rfl rfl) hrc hc4 ?_)
    refine w_if_ne (tgt := 42) dX10_often_33 rfl (fun b33 => ?_) (fun b33 => ?_)
    · obtain ⟨A, B, hA, hB, rfl, rfl⟩ := hasS_n b33 hc4
      have hAc : tN (nI A) = A := nI_clamp (by omega)
      have hBc : tN (nI B) = B := nI_clamp (by omega)
      refine w_iconst (v := 0) dX10_often_42 (by decide) ?_
      refine w_istore (ls2 := [some (.ref m), some (.int v), some (.int (nI A)), some (.int (nI B)), some (.int 0), none]) dX10_often_43 (by decide) rfl rfl ?_
      refine w_iload_n dX10_often_45 rfl ?_
      refine w_istore (ls2 := [some (.ref m), some (.int v), some (.int (nI A)), some (.int (nI B)), some (.int 0), some (.int (nI A))]) dX10_often_46 (by decide) rfl rfl ?_
      refine lq_often nd hA (by omega) ?_ (B + 1 - A) 0 0 (by omega) rfl
      refine w_aload_n dX10_often_81 rfl ?_
      refine w_iload dX10_often_82 rfl ?_
      refine w_callV (ci := 10) (d' := d + 2) (mc' := 0) (ms' := 0) (As := [.int (fld (fun t s => s + (if fo t = v then 1 else 0)) A (B + 1 - A) 0)]) (st := []) lX10_241 vX10_good rfl (hUs_at nd 0 rfl rfl) rfl (Nat.le_of_ble_eq_true rfl) dX10_often_84 (Nat.le_of_ble_eq_true rfl) (Nat.le_of_ble_eq_true rfl) (Nat.le_refl _) (m_good (hHas_sub nd (as' := [m]) (cs' := [(oC 10 (mF m 0 tr pl (nI tp) sz sp fa fl tk ta sg nu wd (nI P.1) (nI P.2.1) rl rw ht sd ah cl))]) [0] rfl rfl) (nd_sub nd (as' := [m]) [0] rfl rfl)  ?_)
      refine w_heq (hUs_in nd rfl [0] (cs2 := [(oC 10 (mF m 0 0 (-1) (nI tp) sz sp fa fl tk ta sg nu wd (nI P.1) (nI P.2.1) rl rw ht sd ah cl)), (aI 11 fr), (aB 4096 fo)]) rfl rfl) ?_
      refine w_ireturn rfl dX10_often_87 (Nat.le_of_ble_eq_true rfl) (Nat.le_of_ble_eq_true rfl) ?_
      have e : oOftF fo c v (nI A) (nI B) = (fld (fun t s => s + (if fo t = v then 1 else 0)) A (B + 1 - A) 0, 0) := by
        simp only [oOftF]
        rw [if_neg (fun z => z.elim (fun z => by rw [vlB, if_pos (inB_1 b24)] at z; exact absurd z (by decide)) b33), hAc, hBc]
      rw [e] at k
      exact k _ (mI_i (cI_put hW (mAs_nd m) rfl [0, 14, 18] (cs2 := [(oC 10 (mF m 0 0 (-1) (nI tp) sz sp fa fl tk ta sg nu wd (nI P.1) (nI P.2.1) rl rw ht sd ah cl)), (aI 600 gt), (aL 8 ln), (aL 8 wn), (aI 8 fs), (aI 24 ff), (aI 8 fb), (aI 8 fn), (aI 8 fp), (aZ 8 f3), (aI 64 fk), (aI 64 fx), (aI 64 fy), (aI 64 fc), (aI 11 fr), (aI 11 f1), (aI 11 f2), (aI 22 fi), (aB 4096 fo), (aB 8192 fq), (aZ 2 fh), (aI 2 fj), (aI 4096 fw), (aI 2100 fz)]) rfl rfl) hT hPm hG hRm hm0 hm1 hsd hht htp) (mFr_of (by intro a ha; simp only [List.mem_cons, List.not_mem_nil, or_false] at ha; omega))
    · refine w_aload_n dX10_often_36 rfl ?_
      refine w_iconst (v := 2) dX10_often_37 (by decide) ?_
      refine w_callV (ci := 10) (d' := d + 2) (mc' := 0) (ms' := 0) (As := [.int 2]) (st := []) lX10_228 vX10_refused rfl (hUs_at nd 0 rfl rfl) rfl (Nat.le_of_ble_eq_true rfl) dX10_often_38 (Nat.le_of_ble_eq_true rfl) (Nat.le_of_ble_eq_true rfl) (Nat.le_refl _) (m_refused (hHas_sub nd (as' := [m]) (cs' := [(oC 10 (mF m 0 tr pl (nI tp) sz sp fa fl tk ta sg nu wd (nI P.1) (nI P.2.1) rl rw ht sd ah cl))]) [0] rfl rfl) (nd_sub nd (as' := [m]) [0] rfl rfl)  ?_)
      refine w_heq (hUs_in nd rfl [0] (cs2 := [(oC 10 (mF m 0 2 (-1) (nI tp) sz sp fa fl tk ta sg nu wd (nI P.1) (nI P.2.1) rl rw ht sd ah cl)), (aI 11 fr), (aB 4096 fo)]) rfl rfl) ?_
      refine w_ireturn rfl dX10_often_41 (Nat.le_of_ble_eq_true rfl) (Nat.le_of_ble_eq_true rfl) ?_
      have e : oOftF fo c v a u = ((-1), 2) := by
        simp only [oOftF]
        exact if_pos (Or.inr b33)
      rw [e] at k
      exact k _ (mI_i (cI_put hW (mAs_nd m) rfl [0, 14, 18] (cs2 := [(oC 10 (mF m 0 2 (-1) (nI tp) sz sp fa fl tk ta sg nu wd (nI P.1) (nI P.2.1) rl rw ht sd ah cl)), (aI 600 gt), (aL 8 ln), (aL 8 wn), (aI 8 fs), (aI 24 ff), (aI 8 fb), (aI 8 fn), (aI 8 fp), (aZ 8 f3), (aI 64 fk), (aI 64 fx), (aI 64 fy), (aI 64 fc), (aI 11 fr), (aI 11 f1), (aI 11 f2), (aI 22 fi), (aB 4096 fo), (aB 8192 fq), (aZ 2 fh), (aI 2 fj), (aI 4096 fw), (aI 2100 fz)]) rfl rfl) hT hPm hG hRm hm0 hm1 hsd hht htp) (mFr_of (by intro a ha; simp only [List.mem_cons, List.not_mem_nil, or_false] at ha; omega))
theorem q_often {G : wG} {d : Nat} {h : hH} {Q : Option Value → hH → Prop} {m : Nat} {ft : Nat → Int32} {tp : Nat} {P : pD} {ht : Int32} {R : Option rnD} {i0 i1 : imD} {sd fa pl tr : Int32} {th : Int32}  {v a u : Int32} (hI : mI h m ft tp P ht R i0 i1 sd fa pl tr th) (k : ∀ h2, mI h2 m ft tp P ht R i0 i1 sd fa (-1) (oOft P (R) v a u).2 0 → mFr m h h2 → Q (some (.int (oOft P (R) v a u).1)) h2) : Cl G yX10_often (d + 3) 0 0 [.ref m, .int v, .int a, .int u] h Q := by
  cases R with
  | none => exact q_often_n hI k
  | some r => obtain ⟨l, w, rs, c⟩ := r; exact q_often_s hI k
set_option maxRecDepth 100000 in
set_option maxHeartbeats 4000000 in
theorem lq_astray {G : wG} {d : Nat} {h : hH} {Q : Option Value → hH → Prop} {m tp : Nat} {P : pD} {ht sd fa pl tr sz sp fl tk ta sg nu : Int32} {wd : Int64} {rl rw ah cl : Int32} {fp : Nat → Int32} {fk : Nat → Int32} {fx : Nat → Int32} {fy : Nat → Int32} {fc : Nat → Int32} {fr : Nat → Int32} {fo : Nat → Int32} {A B w : Nat} (nd : [m, m + 8, m + 10, m + 11, m + 12, m + 13, m + 14, m + 18].Nodup) (hA : A ≤ B) (hB : B < 4096) (hw8 : w < 8) (hfp : fp w = nI (P.2.2.2 w).2.2.2.2.2.1) (hV : wGd (P.2.2.2 w).2) (hAt : wAt (P.2.2.2 w).2 (8 * w) fk fx fy fc) (hr1 : fr 1 = nI w) (k : WP G RX10 cX10_astray 5 (some .int) false (d + 3) 0 0 0 0 Q 77 [some (.ref m), some (.int (nI A)), some (.int (nI B)), some (.int (fld (fun t s => s + (1000 * fo t - lvlT (P.2.2.2 w).2 (nI t))) A (B + 1 - A) 0)), none] [] (hUs h [m, m + 8, m + 10, m + 11, m + 12, m + 13, m + 14, m + 18] [(oC 10 (mF m 0 tr pl (nI tp) sz sp fa fl tk ta sg nu wd (nI P.1) (nI P.2.1) rl rw ht sd ah cl)), (aI 8 fp), (aI 64 fk), (aI 64 fx), (aI 64 fy), (aI 64 fc), (aI 11 fr), (aB 4096 fo)])) : ∀ (n : Nat) (i : Nat) (x : Int32), i + n = B + 1 - A → x = fld (fun t s => s + (1000 * fo t - lvlT (P.2.2.2 w).2 (nI t))) A i 0 → WP G RX10 cX10_astray 5 (some .int) false (d + 3) 0 0 0 0 Q 38 [some (.ref m), some (.int (nI A)), some (.int (nI B)), some (.int x), some (.int (nI (A + i)))] [] (hUs h [m, m + 8, m + 10, m + 11, m + 12, m + 13, m + 14, m + 18] [(oC 10 (mF m 0 tr pl (nI tp) sz sp fa fl tk ta sg nu wd (nI P.1) (nI P.2.1) rl rw ht sd ah cl)), (aI 8 fp), (aI 64 fk), (aI 64 fx), (aI 64 fy), (aI 64 fc), (aI 11 fr), (aB 4096 fo)]) := by
  intro n
  induction n with
  | zero =>
    intro i x hi e
    refine w_iload dX10_astray_38 rfl ?_
    refine w_iload_n dX10_astray_40 rfl ?_
    refine w_icmp_gt_t (tgt := 77) dX10_astray_41 rfl ((nI_ltI (a := B) (b := (A + i)) (by omega) (by omega)).mpr (by omega)) ?_
    refine w_less (ls2 := [some (.ref m), some (.int (nI A)), some (.int (nI B)), some (.int x), none]) ⟨Or.inr rfl, Or.inr rfl, Or.inr rfl, Or.inr rfl, Or.inl rfl, trivial⟩ ?_
    have z : i = B + 1 - A := by omega
    rw [← z, ← e] at k
    exact k
  | succ n ih =>
    intro i x hi e
    refine w_iload dX10_astray_38 rfl ?_
    refine w_iload_n dX10_astray_40 rfl ?_
    refine w_icmp_gt_f (tgt := 77) dX10_astray_41 rfl (fun z => absurd ((nI_ltI (a := B) (b := (A + i)) (by omega) (by omega)).mp z) (by omega)) ?_
    refine w_iload_n dX10_astray_44 rfl ?_
    refine w_sipush (v := 1000) dX10_astray_45 (by decide) ?_
    refine w_aload_n dX10_astray_48 rfl ?_
    refine w_get (v := .ref (m + 18)) fX10_67 (hUs_at nd 0 rfl rfl) rfl dX10_astray_49 ?_
    refine w_iload dX10_astray_52 rfl ?_
    refine w_baloadN (hUs_at nd 7 rfl rfl) (by omega) (by omega) dX10_astray_54 ?_
    refine w_imul dX10_astray_55 ?_
    refine w_aload_n dX10_astray_56 rfl ?_
    refine w_aload_n dX10_astray_57 rfl ?_
    refine w_get (v := .ref (m + 14)) fX10_55 (hUs_at nd 0 rfl rfl) rfl dX10_astray_58 ?_
    refine w_iconst (v := (nI 1)) dX10_astray_61 (by decide) ?_
    refine w_ialoadN (hUs_at nd 6 rfl rfl) (by omega) (by omega) dX10_astray_62 ?_
    refine w_top (z := nI w) hr1 ?_
    refine w_iload dX10_astray_63 rfl ?_
    refine w_callV (ci := 10) (d' := d + 2) (mc' := 0) (ms' := 0) (As := [.int (nI w), .int (nI (A + i))]) (st := [.int (1000 * (fo (A + i))), .int x]) lX10_269 vX10_levelOf rfl (hUs_at nd 0 rfl rfl) rfl (Nat.le_of_ble_eq_true rfl) dX10_astray_65 (Nat.le_of_ble_eq_true rfl) (Nat.le_of_ble_eq_true rfl) (Nat.le_refl _) (m_levelOf (hHas_sub nd (as' := [m, m + 8, m + 10, m + 11, m + 12, m + 13]) (cs' := [(oC 10 (mF m 0 tr pl (nI tp) sz sp fa fl tk ta sg nu wd (nI P.1) (nI P.2.1) rl rw ht sd ah cl)), (aI 8 fp), (aI 64 fk), (aI 64 fx), (aI 64 fy), (aI 64 fc)]) [0, 1, 2, 3, 4, 5] rfl rfl) (V := (P.2.2.2 w).2) hw8 hfp hV hAt (nI_pos' (show A + i < 2 ^ 31 by omega)) ?_)
    refine w_isub dX10_astray_68 ?_
    refine w_iadd dX10_astray_69 ?_
    refine w_istore_n (ls2 := [some (.ref m), some (.int (nI A)), some (.int (nI B)), some (.int (x + ((1000 * (fo (A + i))) - (lvlT (P.2.2.2 w).2 (nI (A + i)))))), some (.int (nI (A + i)))]) dX10_astray_70 (by decide) rfl rfl ?_
    refine w_iinc (v := nI ((A + i) + 1)) (ls2 := [some (.ref m), some (.int (nI A)), some (.int (nI B)), some (.int (x + ((1000 * (fo (A + i))) - (lvlT (P.2.2.2 w).2 (nI (A + i)))))), some (.int (nI ((A + i) + 1)))]) dX10_astray_71 rfl (nI_1 _) (by decide) rfl rfl ?_
    refine w_goto (tgt := 38) dX10_astray_74 rfl ?_
    exact ih (i + 1) _ (by omega) (by rw [fld, ← e])
set_option maxRecDepth 100000 in
set_option maxHeartbeats 4000000 in
theorem q_astray_n {G : wG} {d : Nat} {h : hH} {Q : Option Value → hH → Prop} {m : Nat} {ft : Nat → Int32} {tp : Nat} {P : pD} {ht : Int32} {i0 i1 : imD} {sd fa pl tr : Int32} {th : Int32}  {a u : Int32} (hI : mI h m ft tp P ht none i0 i1 sd fa pl tr th)  (k : ∀ h2, mI h2 m ft tp P ht none i0 i1 sd fa (-1) (oAst P (none) a u).2 0 → mFr m h h2 → Q (some (.int (oAst P (none) a u).1)) h2) : Cl G yX10_astray (d + 3) 0 0 [.ref m, .int a, .int u] h Q := by
  refine mI_e hI ?_
  intro sz sp fl tk ta sg nu wd rl rw ah cl gt ln wn fs ff fb fn fp f3 fk fx fy fc fr f1 f2 fi fo fq fh fj fw fz hW hT hPm hG hRm hm0 hm1 hsd hht htp
  have hnL : P.1 ≤ 4096 := Nat.le_trans hG.2.2.1 (by decide)
  have hnW : P.2.1 ≤ 4096 := Nat.le_trans hG.2.2.2 (by decide)
  have hhL : (ht = 0 ∧ P.1 = 0) ∨ ht = 1 := hht.imp (fun z => ⟨z.1, z.2.1⟩) id
  have hhW : (ht = 0 ∧ P.2.1 = 0) ∨ ht = 1 := hht.imp (fun z => ⟨z.1, z.2.2⟩) id
  have hw : hHas h [m, m + 14] [(oC 10 (mF m th tr pl (nI tp) sz sp fa fl tk ta sg nu wd (nI P.1) (nI P.2.1) rl rw ht sd ah cl)), (aI 11 fr)] := hHas_s hW [0, 14] rfl rfl
  have nd : [m, m + 14].Nodup := (nd_inc ⟨by omega, trivial⟩)
  refine Cl.of (ini := false) kX10_astray (plainFor_of_name (by decide)) (by decide) (Nat.le_of_ble_eq_true rfl) rfl rfl (fun z => by cases z) ?_
  refine w_heq (hUs_id hw).symm ?_
  refine w_aload_n dX10_astray_0 rfl ?_
  refine w_iconst (v := 0) dX10_astray_1 (by decide) ?_
  refine w_put (fs' := (mF m 0 tr pl (nI tp) sz sp fa fl tk ta sg nu wd (nI P.1) (nI P.2.1) rl rw ht sd ah cl)) fX10_89 (hUs_at nd 0 rfl rfl) rfl rfl (Nat.le_of_ble_eq_true rfl) rfl dX10_astray_2 ?_
  refine w_heq (hUs_set nd rfl 0 (cs' := [(oC 10 (mF m 0 tr pl (nI tp) sz sp fa fl tk ta sg nu wd (nI P.1) (nI P.2.1) rl rw ht sd ah cl)), (aI 11 fr)]) rfl rfl) ?_
  refine w_aload_n dX10_astray_5 rfl ?_
  refine w_callV (ci := 10) (d' := d + 2) (mc' := 0) (ms' := 0) (As := []) (st := []) lX10_284 vX10_hasRun rfl (hUs_at nd 0 rfl rfl) rfl (Nat.le_of_ble_eq_true rfl) dX10_astray_6 (Nat.le_of_ble_eq_true rfl) (Nat.le_of_ble_eq_true rfl) (Nat.le_refl _) (m_hasRun_n (hHas_sub nd (as' := [m, m + 14]) (cs' := [(oC 10 (mF m 0 tr pl (nI tp) sz sp fa fl tk ta sg nu wd (nI P.1) (nI P.2.1) rl rw ht sd ah cl)), (aI 11 fr)]) [0, 1] rfl rfl) hRm ?_)
  refine w_if_ne_f (tgt := 18) dX10_astray_9 rfl (by decide) ?_
  refine w_aload_n dX10_astray_12 rfl ?_
  refine w_iconst (v := 1) dX10_astray_13 (by decide) ?_
  refine w_callV (ci := 10) (d' := d + 2) (mc' := 0) (ms' := 0) (As := [.int 1]) (st := []) lX10_266 vX10_lost rfl (hUs_at nd 0 rfl rfl) rfl (Nat.le_of_ble_eq_true rfl) dX10_astray_14 (Nat.le_of_ble_eq_true rfl) (Nat.le_of_ble_eq_true rfl) (Nat.le_refl _) (m_lost (hHas_sub nd (as' := [m]) (cs' := [(oC 10 (mF m 0 tr pl (nI tp) sz sp fa fl tk ta sg nu wd (nI P.1) (nI P.2.1) rl rw ht sd ah cl))]) [0] rfl rfl) (nd_sub nd (as' := [m]) [0] rfl rfl)  ?_)
  refine w_heq (hUs_in nd rfl [0] (cs2 := [(oC 10 (mF m 0 1 (-1) (nI tp) sz sp fa fl tk ta sg nu wd (nI P.1) (nI P.2.1) rl rw ht sd ah cl)), (aI 11 fr)]) rfl rfl) ?_
  refine w_ireturn rfl dX10_astray_17 (Nat.le_of_ble_eq_true rfl) (Nat.le_of_ble_eq_true rfl) ?_
  have e : oAst P none a u = ((-1000000000), 1) := by
    rfl
  rw [e] at k
  exact k _ (mI_i (cI_put hW (mAs_nd m) rfl [0, 14] (cs2 := [(oC 10 (mF m 0 1 (-1) (nI tp) sz sp fa fl tk ta sg nu wd (nI P.1) (nI P.2.1) rl rw ht sd ah cl)), (aI 600 gt), (aL 8 ln), (aL 8 wn), (aI 8 fs), (aI 24 ff), (aI 8 fb), (aI 8 fn), (aI 8 fp), (aZ 8 f3), (aI 64 fk), (aI 64 fx), (aI 64 fy), (aI 64 fc), (aI 11 fr), (aI 11 f1), (aI 11 f2), (aI 22 fi), (aB 4096 fo), (aB 8192 fq), (aZ 2 fh), (aI 2 fj), (aI 4096 fw), (aI 2100 fz)]) rfl rfl) hT hPm hG hRm hm0 hm1 hsd hht htp) (mFr_of (by intro a ha; simp only [List.mem_cons, List.not_mem_nil, or_false] at ha; omega))
set_option maxRecDepth 100000 in
set_option maxHeartbeats 4000000 in
theorem q_astray_s {G : wG} {d : Nat} {h : hH} {Q : Option Value → hH → Prop} {m : Nat} {ft : Nat → Int32} {tp : Nat} {P : pD} {ht : Int32} {i0 i1 : imD} {sd fa pl tr : Int32} {th : Int32}  {l w c : Nat} {rs : Int32} {a u : Int32} (hI : mI h m ft tp P ht (some (l, w, rs, c)) i0 i1 sd fa pl tr th)  (k : ∀ h2, mI h2 m ft tp P ht (some (l, w, rs, c)) i0 i1 sd fa (-1) (oAst P (some (l, w, rs, c)) a u).2 0 → mFr m h h2 → Q (some (.int (oAst P (some (l, w, rs, c)) a u).1)) h2) : Cl G yX10_astray (d + 3) 0 0 [.ref m, .int a, .int u] h Q := by
  refine mI_e hI ?_
  intro sz sp fl tk ta sg nu wd rl rw ah cl gt ln wn fs ff fb fn fp f3 fk fx fy fc fr f1 f2 fi fo fq fh fj fw fz hW hT hPm hG hRm hm0 hm1 hsd hht htp
  have hnL : P.1 ≤ 4096 := Nat.le_trans hG.2.2.1 (by decide)
  have hnW : P.2.1 ≤ 4096 := Nat.le_trans hG.2.2.2 (by decide)
  have hhL : (ht = 0 ∧ P.1 = 0) ∨ ht = 1 := hht.imp (fun z => ⟨z.1, z.2.1⟩) id
  have hhW : (ht = 0 ∧ P.2.1 = 0) ∨ ht = 1 := hht.imp (fun z => ⟨z.1, z.2.2⟩) id
  obtain ⟨hht1, hok, hsr, hrn, hsz, hfo⟩ : ht = 1 ∧ mRr P (l, w, rs, c) fr fo := id hRm
  have hl : l < P.1 := hok.1
  have hwv9 : w < P.2.1 := hok.2.1
  have hc4 : c ≤ 4096 := hok.2.2
  have hl4 : l < 4 := Nat.lt_of_lt_of_le hl hG.2.2.1
  have hl31 : l < 2 ^ 31 := by omega
  have hLp := hPm.1 l hl
  rw [Nat.zero_add] at hLp
  have hGl := hG.1 l hl
  have hrc : fr 2 = nI c := hrn.2.2.1
  have hWv := hPm.2 w hwv9
  rw [Nat.zero_add] at hWv
  have hGw := (hG.2.1 w hwv9).1
  have hw4 : w < 4 := Nat.lt_of_lt_of_le hwv9 hG.2.2.2
  have hw : hHas h [m, m + 8, m + 10, m + 11, m + 12, m + 13, m + 14, m + 18] [(oC 10 (mF m th tr pl (nI tp) sz sp fa fl tk ta sg nu wd (nI P.1) (nI P.2.1) rl rw ht sd ah cl)), (aI 8 fp), (aI 64 fk), (aI 64 fx), (aI 64 fy), (aI 64 fc), (aI 11 fr), (aB 4096 fo)] := hHas_s hW [0, 8, 10, 11, 12, 13, 14, 18] rfl rfl
  have nd : [m, m + 8, m + 10, m + 11, m + 12, m + 13, m + 14, m + 18].Nodup := (nd_inc ⟨by omega, by omega, by omega, by omega, by omega, by omega, by omega, trivial⟩)
  refine Cl.of (ini := false) kX10_astray (plainFor_of_name (by decide)) (by decide) (Nat.le_of_ble_eq_true rfl) rfl rfl (fun z => by cases z) ?_
  refine w_heq (hUs_id hw).symm ?_
  refine w_aload_n dX10_astray_0 rfl ?_
  refine w_iconst (v := 0) dX10_astray_1 (by decide) ?_
  refine w_put (fs' := (mF m 0 tr pl (nI tp) sz sp fa fl tk ta sg nu wd (nI P.1) (nI P.2.1) rl rw ht sd ah cl)) fX10_89 (hUs_at nd 0 rfl rfl) rfl rfl (Nat.le_of_ble_eq_true rfl) rfl dX10_astray_2 ?_
  refine w_heq (hUs_set nd rfl 0 (cs' := [(oC 10 (mF m 0 tr pl (nI tp) sz sp fa fl tk ta sg nu wd (nI P.1) (nI P.2.1) rl rw ht sd ah cl)), (aI 8 fp), (aI 64 fk), (aI 64 fx), (aI 64 fy), (aI 64 fc), (aI 11 fr), (aB 4096 fo)]) rfl rfl) ?_
  refine w_aload_n dX10_astray_5 rfl ?_
  refine w_callV (ci := 10) (d' := d + 2) (mc' := 0) (ms' := 0) (As := []) (st := []) lX10_284 vX10_hasRun rfl (hUs_at nd 0 rfl rfl) rfl (Nat.le_of_ble_eq_true rfl) dX10_astray_6 (Nat.le_of_ble_eq_true rfl) (Nat.le_of_ble_eq_true rfl) (Nat.le_refl _) (m_hasRun_s (hHas_sub nd (as' := [m, m + 14]) (cs' := [(oC 10 (mF m 0 tr pl (nI tp) sz sp fa fl tk ta sg nu wd (nI P.1) (nI P.2.1) rl rw ht sd ah cl)), (aI 11 fr)]) [0, 6] rfl rfl) hht1 hrn.1 hl31 ?_)
  refine w_if_ne_t (tgt := 18) dX10_astray_9 rfl (by decide) ?_
  refine w_aload_n dX10_astray_18 rfl ?_
  refine w_iload_n dX10_astray_19 rfl ?_
  refine w_iload_n dX10_astray_20 rfl ?_
  refine w_callV (ci := 10) (d' := d + 2) (mc' := 0) (ms' := 0) (As := [.int a, .int u]) (st := []) lX10_297 vX10_isStretch rfl (hUs_at nd 0 rfl rfl) rfl (Nat.le_of_ble_eq_true rfl) dX10_astray_21 (Nat.le_of_ble_eq_true rfl) (Nat.le_of_ble_eq_true rfl) (Nat.le_refl _) (m_isStretch (hHas_sub nd (as' := [m, m + 14]) (cs' := [(oC 10 (mF m 0 tr pl (nI tp) sz sp fa fl tk ta sg nu wd (nI P.1) (nI P.2.1) rl rw ht sd ah cl)), (aI 11 fr)]) [0, 6] rfl rfl) hrc hc4 ?_)
  refine w_if_ne (tgt := 33) dX10_astray_24 rfl (fun b24 => ?_) (fun b24 => ?_)
  · obtain ⟨A, B, hA, hB, rfl, rfl⟩ := hasS_n b24 hc4
    have hAc : tN (nI A) = A := nI_clamp (by omega)
    have hBc : tN (nI B) = B := nI_clamp (by omega)
    refine w_iconst (v := 0) dX10_astray_33 (by decide) ?_
    refine w_istore_n (ls2 := [some (.ref m), some (.int (nI A)), some (.int (nI B)), some (.int 0), none]) dX10_astray_34 (by decide) rfl rfl ?_
    refine w_iload_n dX10_astray_35 rfl ?_
    refine w_istore (ls2 := [some (.ref m), some (.int (nI A)), some (.int (nI B)), some (.int 0), some (.int (nI A))]) dX10_astray_36 (by decide) rfl rfl ?_
    refine lq_astray nd hA (by omega) (show w < 8 by omega) hWv.1 hGw hWv.2.1 hrn.2.1 ?_ (B + 1 - A) 0 0 (by omega) rfl
    refine w_aload_n dX10_astray_77 rfl ?_
    refine w_iload_n dX10_astray_78 rfl ?_
    refine w_callV (ci := 10) (d' := d + 2) (mc' := 0) (ms' := 0) (As := [.int (fld (fun t s => s + (1000 * fo t - lvlT (P.2.2.2 w).2 (nI t))) A (B + 1 - A) 0)]) (st := []) lX10_241 vX10_good rfl (hUs_at nd 0 rfl rfl) rfl (Nat.le_of_ble_eq_true rfl) dX10_astray_79 (Nat.le_of_ble_eq_true rfl) (Nat.le_of_ble_eq_true rfl) (Nat.le_refl _) (m_good (hHas_sub nd (as' := [m]) (cs' := [(oC 10 (mF m 0 tr pl (nI tp) sz sp fa fl tk ta sg nu wd (nI P.1) (nI P.2.1) rl rw ht sd ah cl))]) [0] rfl rfl) (nd_sub nd (as' := [m]) [0] rfl rfl)  ?_)
    refine w_heq (hUs_in nd rfl [0] (cs2 := [(oC 10 (mF m 0 0 (-1) (nI tp) sz sp fa fl tk ta sg nu wd (nI P.1) (nI P.2.1) rl rw ht sd ah cl)), (aI 8 fp), (aI 64 fk), (aI 64 fx), (aI 64 fy), (aI 64 fc), (aI 11 fr), (aB 4096 fo)]) rfl rfl) ?_
    refine w_ireturn rfl dX10_astray_82 (Nat.le_of_ble_eq_true rfl) (Nat.le_of_ble_eq_true rfl) ?_
    have e : oAst P (some (l, w, rs, c)) (nI A) (nI B) = (fld (fun t s => s + (1000 * fo t - lvlT (P.2.2.2 w).2 (nI t))) A (B + 1 - A) 0, 0) := by
      simp only [oAst, oAstF]
      rw [if_neg b24, hAc, hBc, fld_c (g := (fun t s => s + (1000 * fo t - lvlT (P.2.2.2 w).2 (nI t)))) A _ _ (fun t h1 h2 => by
        funext s
        rw [hfo t (show t < c by omega)]
        rfl)]
    rw [e] at k
    exact k _ (mI_i (cI_put hW (mAs_nd m) rfl [0, 8, 10, 11, 12, 13, 14, 18] (cs2 := [(oC 10 (mF m 0 0 (-1) (nI tp) sz sp fa fl tk ta sg nu wd (nI P.1) (nI P.2.1) rl rw ht sd ah cl)), (aI 600 gt), (aL 8 ln), (aL 8 wn), (aI 8 fs), (aI 24 ff), (aI 8 fb), (aI 8 fn), (aI 8 fp), (aZ 8 f3), (aI 64 fk), (aI 64 fx), (aI 64 fy), (aI 64 fc), (aI 11 fr), (aI 11 f1), (aI 11 f2), (aI 22 fi), (aB 4096 fo), (aB 8192 fq), (aZ 2 fh), (aI 2 fj), (aI 4096 fw), (aI 2100 fz)]) rfl rfl) hT hPm hG hRm hm0 hm1 hsd hht htp) (mFr_of (by intro a ha; simp only [List.mem_cons, List.not_mem_nil, or_false] at ha; omega))
  · refine w_aload_n dX10_astray_27 rfl ?_
    refine w_iconst (v := 2) dX10_astray_28 (by decide) ?_
    refine w_callV (ci := 10) (d' := d + 2) (mc' := 0) (ms' := 0) (As := [.int 2]) (st := []) lX10_266 vX10_lost rfl (hUs_at nd 0 rfl rfl) rfl (Nat.le_of_ble_eq_true rfl) dX10_astray_29 (Nat.le_of_ble_eq_true rfl) (Nat.le_of_ble_eq_true rfl) (Nat.le_refl _) (m_lost (hHas_sub nd (as' := [m]) (cs' := [(oC 10 (mF m 0 tr pl (nI tp) sz sp fa fl tk ta sg nu wd (nI P.1) (nI P.2.1) rl rw ht sd ah cl))]) [0] rfl rfl) (nd_sub nd (as' := [m]) [0] rfl rfl)  ?_)
    refine w_heq (hUs_in nd rfl [0] (cs2 := [(oC 10 (mF m 0 2 (-1) (nI tp) sz sp fa fl tk ta sg nu wd (nI P.1) (nI P.2.1) rl rw ht sd ah cl)), (aI 8 fp), (aI 64 fk), (aI 64 fx), (aI 64 fy), (aI 64 fc), (aI 11 fr), (aB 4096 fo)]) rfl rfl) ?_
    refine w_ireturn rfl dX10_astray_32 (Nat.le_of_ble_eq_true rfl) (Nat.le_of_ble_eq_true rfl) ?_
    have e : oAst P (some (l, w, rs, c)) a u = ((-1000000000), 2) := by
      simp only [oAst, oAstF]
      exact if_pos b24
    rw [e] at k
    exact k _ (mI_i (cI_put hW (mAs_nd m) rfl [0, 8, 10, 11, 12, 13, 14, 18] (cs2 := [(oC 10 (mF m 0 2 (-1) (nI tp) sz sp fa fl tk ta sg nu wd (nI P.1) (nI P.2.1) rl rw ht sd ah cl)), (aI 600 gt), (aL 8 ln), (aL 8 wn), (aI 8 fs), (aI 24 ff), (aI 8 fb), (aI 8 fn), (aI 8 fp), (aZ 8 f3), (aI 64 fk), (aI 64 fx), (aI 64 fy), (aI 64 fc), (aI 11 fr), (aI 11 f1), (aI 11 f2), (aI 22 fi), (aB 4096 fo), (aB 8192 fq), (aZ 2 fh), (aI 2 fj), (aI 4096 fw), (aI 2100 fz)]) rfl rfl) hT hPm hG hRm hm0 hm1 hsd hht htp) (mFr_of (by intro a ha; simp only [List.mem_cons, List.not_mem_nil, or_false] at ha; omega))
theorem q_astray {G : wG} {d : Nat} {h : hH} {Q : Option Value → hH → Prop} {m : Nat} {ft : Nat → Int32} {tp : Nat} {P : pD} {ht : Int32} {R : Option rnD} {i0 i1 : imD} {sd fa pl tr : Int32} {th : Int32}  {a u : Int32} (hI : mI h m ft tp P ht R i0 i1 sd fa pl tr th) (k : ∀ h2, mI h2 m ft tp P ht R i0 i1 sd fa (-1) (oAst P (R) a u).2 0 → mFr m h h2 → Q (some (.int (oAst P (R) a u).1)) h2) : Cl G yX10_astray (d + 3) 0 0 [.ref m, .int a, .int u] h Q := by
  cases R with
  | none => exact q_astray_n hI k
  | some r => obtain ⟨l, w, rs, c⟩ := r; exact q_astray_s hI k
set_option maxRecDepth 100000 in
set_option maxHeartbeats 4000000 in
theorem lq_rows {G : wG} {d : Nat} {h : hH} {Q : Option Value → hH → Prop} {m tp : Nat} {P : pD} {ht sd fa pl tr sz sp fl tk ta sg nu : Int32} {wd : Int64} {rl rw ah cl : Int32} {fr : Nat → Int32} {fo : Nat → Int32} {y : Int32} {A B : Nat} (nd : [m, m + 14, m + 18].Nodup) (hA : A ≤ B) (hB : B < 4096) (k : WP G RX10 cX10_rows 9 (some .int) false (d + 3) 0 0 0 0 Q 140 [some (.ref m), some (.int (nI A)), some (.int (nI B)), some (.int y), some (.int (fld (fun t (s : Int32 × Int32) => (mxI s.1 (if fo t = fo (t - 1) then s.2 + 1 else 1), if fo t = fo (t - 1) then s.2 + 1 else 1)) (A + 1) (B - A) (1, 1)).1), none, some (.int (fld (fun t s => s + (if fo t = fo (t - 1) then 0 else 1)) (A + 1) (B - A) 0)), none, none] [] (hUs h [m, m + 14, m + 18] [(oC 10 (mF m 0 tr pl (nI tp) sz sp fa fl tk ta sg nu wd (nI P.1) (nI P.2.1) rl rw ht sd ah cl)), (aI 11 fr), (aB 4096 fo)])) : ∀ (n : Nat) (i : Nat) (p q r : Int32), i + n = B - A → (p, q) = fld (fun t (s : Int32 × Int32) => (mxI s.1 (if fo t = fo (t - 1) then s.2 + 1 else 1), if fo t = fo (t - 1) then s.2 + 1 else 1)) (A + 1) i (1, 1) → r = fld (fun t s => s + (if fo t = fo (t - 1) then 0 else 1)) (A + 1) i 0 → WP G RX10 cX10_rows 9 (some .int) false (d + 3) 0 0 0 0 Q 56 [some (.ref m), some (.int (nI A)), some (.int (nI B)), some (.int y), some (.int p), some (.int q), some (.int r), some (.int (nI (A + 1 + i))), none] [] (hUs h [m, m + 14, m + 18] [(oC 10 (mF m 0 tr pl (nI tp) sz sp fa fl tk ta sg nu wd (nI P.1) (nI P.2.1) rl rw ht sd ah cl)), (aI 11 fr), (aB 4096 fo)]) := by
  intro n
  induction n with
  | zero =>
    intro i p q r hi e e2
    refine w_iload dX10_rows_56 rfl ?_
    refine w_iload_n dX10_rows_58 rfl ?_
    refine w_icmp_gt_t (tgt := 140) dX10_rows_59 rfl ((nI_ltI (a := B) (b := (A + 1 + i)) (by omega) (by omega)).mpr (by omega)) ?_
    refine w_less (ls2 := [some (.ref m), some (.int (nI A)), some (.int (nI B)), some (.int y), some (.int p), none, some (.int r), none, none]) ⟨Or.inr rfl, Or.inr rfl, Or.inr rfl, Or.inr rfl, Or.inr rfl, Or.inl rfl, Or.inr rfl, Or.inl rfl, Or.inl rfl, trivial⟩ ?_
    have z : i = B - A := by omega
    rw [← z, ← e, ← e2] at k
    exact k
  | succ n ih =>
    intro i p q r hi e e2
    refine w_iload dX10_rows_56 rfl ?_
    refine w_iload_n dX10_rows_58 rfl ?_
    refine w_icmp_gt_f (tgt := 140) dX10_rows_59 rfl (fun z => absurd ((nI_ltI (a := B) (b := (A + 1 + i)) (by omega) (by omega)).mp z) (by omega)) ?_
    refine w_aload_n dX10_rows_62 rfl ?_
    refine w_get (v := .ref (m + 18)) fX10_67 (hUs_at nd 0 rfl rfl) rfl dX10_rows_63 ?_
    refine w_iload dX10_rows_66 rfl ?_
    refine w_baloadN (hUs_at nd 2 rfl rfl) (by omega) (by omega) dX10_rows_68 ?_
    refine w_aload_n dX10_rows_69 rfl ?_
    refine w_get (v := .ref (m + 18)) fX10_67 (hUs_at nd 0 rfl rfl) rfl dX10_rows_70 ?_
    refine w_iload dX10_rows_73 rfl ?_
    refine w_iconst (v := 1) dX10_rows_75 (by decide) ?_
    refine w_isubE (z := nI ((A + 1 + i) - 1)) dX10_rows_76 (pk_sub (a := (A + 1 + i)) (b := 1) (by omega)) ?_
    refine w_baloadN (hUs_at nd 2 rfl rfl) (by omega) (by omega) dX10_rows_77 ?_
    refine w_icmp_ne (tgt := 85) dX10_rows_78 rfl (fun b78 => ?_) (fun b78 => ?_)
    · refine w_iconst (v := 0) dX10_rows_85 (by decide) ?_
      refine w_istore (ls2 := [some (.ref m), some (.int (nI A)), some (.int (nI B)), some (.int y), some (.int p), some (.int q), some (.int r), some (.int (nI (A + 1 + i))), some (.int 0)]) dX10_rows_86 (by decide) rfl rfl ?_
      refine w_iload dX10_rows_88 rfl ?_
      refine w_if_eq_t (tgt := 100) dX10_rows_90 rfl (by decide) ?_
      refine w_iconst (v := 1) dX10_rows_100 (by decide) ?_
      refine w_istore (ls2 := [some (.ref m), some (.int (nI A)), some (.int (nI B)), some (.int y), some (.int p), some (.int 1), some (.int r), some (.int (nI (A + 1 + i))), some (.int 0)]) dX10_rows_101 (by decide) rfl rfl ?_
      refine w_iload dX10_rows_103 rfl ?_
      refine w_iload dX10_rows_105 rfl ?_
      refine w_if_eq_t (tgt := 114) dX10_rows_107 rfl (by decide) ?_
      refine w_iconst (v := 1) dX10_rows_114 (by decide) ?_
      refine w_iadd dX10_rows_115 ?_
      refine w_istore (ls2 := [some (.ref m), some (.int (nI A)), some (.int (nI B)), some (.int y), some (.int p), some (.int 1), some (.int (r + 1)), some (.int (nI (A + 1 + i))), some (.int 0)]) dX10_rows_116 (by decide) rfl rfl ?_
      refine w_iload dX10_rows_118 rfl ?_
      refine w_iload dX10_rows_120 rfl ?_
      refine w_icmp_le (tgt := 130) dX10_rows_122 rfl (fun b122 => ?_) (fun b122 => ?_)
      · refine w_iload dX10_rows_130 rfl ?_
        refine w_istore (ls2 := [some (.ref m), some (.int (nI A)), some (.int (nI B)), some (.int y), some (.int p), some (.int 1), some (.int (r + 1)), some (.int (nI (A + 1 + i))), some (.int 0)]) dX10_rows_132 (by decide) rfl rfl ?_
        refine w_iinc (v := nI ((A + 1 + i) + 1)) (ls2 := [some (.ref m), some (.int (nI A)), some (.int (nI B)), some (.int y), some (.int p), some (.int 1), some (.int (r + 1)), some (.int (nI ((A + 1 + i) + 1))), some (.int 0)]) dX10_rows_134 rfl (nI_1 _) (by decide) rfl rfl ?_
        refine w_goto (tgt := 56) dX10_rows_137 rfl ?_
        refine w_less (ls2 := [some (.ref m), some (.int (nI A)), some (.int (nI B)), some (.int y), some (.int p), some (.int 1), some (.int (r + 1)), some (.int (nI ((A + 1 + i) + 1))), none]) ⟨Or.inr rfl, Or.inr rfl, Or.inr rfl, Or.inr rfl, Or.inr rfl, Or.inr rfl, Or.inr rfl, Or.inr rfl, Or.inl rfl, trivial⟩ ?_
        exact ih (i + 1) _ _ _ (by omega) (by rw [fld, ← e]; simp only [if_neg b78, mxI, if_neg (Int32.not_lt.mpr b122)]) (by rw [fld, ← e2]; simp only [if_neg b78])
      · refine w_iload dX10_rows_125 rfl ?_
        refine w_goto (tgt := 132) dX10_rows_127 rfl ?_
        refine w_istore (ls2 := [some (.ref m), some (.int (nI A)), some (.int (nI B)), some (.int y), some (.int 1), some (.int 1), some (.int (r + 1)), some (.int (nI (A + 1 + i))), some (.int 0)]) dX10_rows_132 (by decide) rfl rfl ?_
        refine w_iinc (v := nI ((A + 1 + i) + 1)) (ls2 := [some (.ref m), some (.int (nI A)), some (.int (nI B)), some (.int y), some (.int 1), some (.int 1), some (.int (r + 1)), some (.int (nI ((A + 1 + i) + 1))), some (.int 0)]) dX10_rows_134 rfl (nI_1 _) (by decide) rfl rfl ?_
        refine w_goto (tgt := 56) dX10_rows_137 rfl ?_
        refine w_less (ls2 := [some (.ref m), some (.int (nI A)), some (.int (nI B)), some (.int y), some (.int 1), some (.int 1), some (.int (r + 1)), some (.int (nI ((A + 1 + i) + 1))), none]) ⟨Or.inr rfl, Or.inr rfl, Or.inr rfl, Or.inr rfl, Or.inr rfl, Or.inr rfl, Or.inr rfl, Or.inr rfl, Or.inl rfl, trivial⟩ ?_
        exact ih (i + 1) _ _ _ (by omega) (by rw [fld, ← e]; simp only [if_neg b78, mxI, if_pos (Int32.not_le.mp b122)]) (by rw [fld, ← e2]; simp only [if_neg b78])
    · refine w_iconst (v := 1) dX10_rows_81 (by decide) ?_
      refine w_goto (tgt := 86) dX10_rows_82 rfl ?_
      refine w_istore (ls2 := [some (.ref m), some (.int (nI A)), some (.int (nI B)), some (.int y), some (.int p), some (.int q), some (.int r), some (.int (nI (A + 1 + i))), some (.int 1)]) dX10_rows_86 (by decide) rfl rfl ?_
      refine w_iload dX10_rows_88 rfl ?_
      refine w_if_eq_f (tgt := 100) dX10_rows_90 rfl (by decide) ?_
      refine w_iload dX10_rows_93 rfl ?_
      refine w_iconst (v := 1) dX10_rows_95 (by decide) ?_
      refine w_iadd dX10_rows_96 ?_
      refine w_goto (tgt := 101) dX10_rows_97 rfl ?_
      refine w_istore (ls2 := [some (.ref m), some (.int (nI A)), some (.int (nI B)), some (.int y), some (.int p), some (.int (q + 1)), some (.int r), some (.int (nI (A + 1 + i))), some (.int 1)]) dX10_rows_101 (by decide) rfl rfl ?_
      refine w_iload dX10_rows_103 rfl ?_
      refine w_iload dX10_rows_105 rfl ?_
      refine w_if_eq_f (tgt := 114) dX10_rows_107 rfl (by decide) ?_
      refine w_iconst (v := 0) dX10_rows_110 (by decide) ?_
      refine w_goto (tgt := 115) dX10_rows_111 rfl ?_
      refine w_iadd dX10_rows_115 ?_
      refine w_istore (ls2 := [some (.ref m), some (.int (nI A)), some (.int (nI B)), some (.int y), some (.int p), some (.int (q + 1)), some (.int (r + 0)), some (.int (nI (A + 1 + i))), some (.int 1)]) dX10_rows_116 (by decide) rfl rfl ?_
      refine w_iload dX10_rows_118 rfl ?_
      refine w_iload dX10_rows_120 rfl ?_
      refine w_icmp_le (tgt := 130) dX10_rows_122 rfl (fun b122 => ?_) (fun b122 => ?_)
      · refine w_iload dX10_rows_130 rfl ?_
        refine w_istore (ls2 := [some (.ref m), some (.int (nI A)), some (.int (nI B)), some (.int y), some (.int p), some (.int (q + 1)), some (.int (r + 0)), some (.int (nI (A + 1 + i))), some (.int 1)]) dX10_rows_132 (by decide) rfl rfl ?_
        refine w_iinc (v := nI ((A + 1 + i) + 1)) (ls2 := [some (.ref m), some (.int (nI A)), some (.int (nI B)), some (.int y), some (.int p), some (.int (q + 1)), some (.int (r + 0)), some (.int (nI ((A + 1 + i) + 1))), some (.int 1)]) dX10_rows_134 rfl (nI_1 _) (by decide) rfl rfl ?_
        refine w_goto (tgt := 56) dX10_rows_137 rfl ?_
        refine w_less (ls2 := [some (.ref m), some (.int (nI A)), some (.int (nI B)), some (.int y), some (.int p), some (.int (q + 1)), some (.int (r + 0)), some (.int (nI ((A + 1 + i) + 1))), none]) ⟨Or.inr rfl, Or.inr rfl, Or.inr rfl, Or.inr rfl, Or.inr rfl, Or.inr rfl, Or.inr rfl, Or.inr rfl, Or.inl rfl, trivial⟩ ?_
        exact ih (i + 1) _ _ _ (by omega) (by rw [fld, ← e]; simp only [if_pos b78, mxI, if_neg (Int32.not_lt.mpr b122)]) (by rw [fld, ← e2]; simp only [if_pos b78])
      · refine w_iload dX10_rows_125 rfl ?_
        refine w_goto (tgt := 132) dX10_rows_127 rfl ?_
        refine w_istore (ls2 := [some (.ref m), some (.int (nI A)), some (.int (nI B)), some (.int y), some (.int (q + 1)), some (.int (q + 1)), some (.int (r + 0)), some (.int (nI (A + 1 + i))), some (.int 1)]) dX10_rows_132 (by decide) rfl rfl ?_
        refine w_iinc (v := nI ((A + 1 + i) + 1)) (ls2 := [some (.ref m), some (.int (nI A)), some (.int (nI B)), some (.int y), some (.int (q + 1)), some (.int (q + 1)), some (.int (r + 0)), some (.int (nI ((A + 1 + i) + 1))), some (.int 1)]) dX10_rows_134 rfl (nI_1 _) (by decide) rfl rfl ?_
        refine w_goto (tgt := 56) dX10_rows_137 rfl ?_
        refine w_less (ls2 := [some (.ref m), some (.int (nI A)), some (.int (nI B)), some (.int y), some (.int (q + 1)), some (.int (q + 1)), some (.int (r + 0)), some (.int (nI ((A + 1 + i) + 1))), none]) ⟨Or.inr rfl, Or.inr rfl, Or.inr rfl, Or.inr rfl, Or.inr rfl, Or.inr rfl, Or.inr rfl, Or.inr rfl, Or.inl rfl, trivial⟩ ?_
        exact ih (i + 1) _ _ _ (by omega) (by rw [fld, ← e]; simp only [if_pos b78, mxI, if_pos (Int32.not_le.mp b122)]) (by rw [fld, ← e2]; simp only [if_pos b78])
set_option maxRecDepth 100000 in
set_option maxHeartbeats 4000000 in
theorem q_rows_n {G : wG} {d : Nat} {h : hH} {Q : Option Value → hH → Prop} {m : Nat} {ft : Nat → Int32} {tp : Nat} {P : pD} {ht : Int32} {i0 i1 : imD} {sd fa pl tr : Int32} {th : Int32}  {a u y : Int32} (hI : mI h m ft tp P ht none i0 i1 sd fa pl tr th)  (k : ∀ h2, mI h2 m ft tp P ht none i0 i1 sd fa (-1) (oRow P (none) a u y).2 0 → mFr m h h2 → Q (some (.int (oRow P (none) a u y).1)) h2) : Cl G yX10_rows (d + 3) 0 0 [.ref m, .int a, .int u, .int y] h Q := by
  refine mI_e hI ?_
  intro sz sp fl tk ta sg nu wd rl rw ah cl gt ln wn fs ff fb fn fp f3 fk fx fy fc fr f1 f2 fi fo fq fh fj fw fz hW hT hPm hG hRm hm0 hm1 hsd hht htp
  have hnL : P.1 ≤ 4096 := Nat.le_trans hG.2.2.1 (by decide)
  have hnW : P.2.1 ≤ 4096 := Nat.le_trans hG.2.2.2 (by decide)
  have hhL : (ht = 0 ∧ P.1 = 0) ∨ ht = 1 := hht.imp (fun z => ⟨z.1, z.2.1⟩) id
  have hhW : (ht = 0 ∧ P.2.1 = 0) ∨ ht = 1 := hht.imp (fun z => ⟨z.1, z.2.2⟩) id
  have hw : hHas h [m, m + 14] [(oC 10 (mF m th tr pl (nI tp) sz sp fa fl tk ta sg nu wd (nI P.1) (nI P.2.1) rl rw ht sd ah cl)), (aI 11 fr)] := hHas_s hW [0, 14] rfl rfl
  have nd : [m, m + 14].Nodup := (nd_inc ⟨by omega, trivial⟩)
  refine Cl.of (ini := false) kX10_rows (plainFor_of_name (by decide)) (by decide) (Nat.le_of_ble_eq_true rfl) rfl rfl (fun z => by cases z) ?_
  refine w_heq (hUs_id hw).symm ?_
  refine w_aload_n dX10_rows_0 rfl ?_
  refine w_iconst (v := 0) dX10_rows_1 (by decide) ?_
  refine w_put (fs' := (mF m 0 tr pl (nI tp) sz sp fa fl tk ta sg nu wd (nI P.1) (nI P.2.1) rl rw ht sd ah cl)) fX10_89 (hUs_at nd 0 rfl rfl) rfl rfl (Nat.le_of_ble_eq_true rfl) rfl dX10_rows_2 ?_
  refine w_heq (hUs_set nd rfl 0 (cs' := [(oC 10 (mF m 0 tr pl (nI tp) sz sp fa fl tk ta sg nu wd (nI P.1) (nI P.2.1) rl rw ht sd ah cl)), (aI 11 fr)]) rfl rfl) ?_
  refine w_aload_n dX10_rows_5 rfl ?_
  refine w_callV (ci := 10) (d' := d + 2) (mc' := 0) (ms' := 0) (As := []) (st := []) lX10_284 vX10_hasRun rfl (hUs_at nd 0 rfl rfl) rfl (Nat.le_of_ble_eq_true rfl) dX10_rows_6 (Nat.le_of_ble_eq_true rfl) (Nat.le_of_ble_eq_true rfl) (Nat.le_refl _) (m_hasRun_n (hHas_sub nd (as' := [m, m + 14]) (cs' := [(oC 10 (mF m 0 tr pl (nI tp) sz sp fa fl tk ta sg nu wd (nI P.1) (nI P.2.1) rl rw ht sd ah cl)), (aI 11 fr)]) [0, 1] rfl rfl) hRm ?_)
  refine w_if_eq_t (tgt := 21) dX10_rows_9 rfl (by decide) ?_
  refine w_aload_n dX10_rows_21 rfl ?_
  refine w_iconst (v := 1) dX10_rows_22 (by decide) ?_
  refine w_callV (ci := 10) (d' := d + 2) (mc' := 0) (ms' := 0) (As := [.int 1]) (st := []) lX10_228 vX10_refused rfl (hUs_at nd 0 rfl rfl) rfl (Nat.le_of_ble_eq_true rfl) dX10_rows_23 (Nat.le_of_ble_eq_true rfl) (Nat.le_of_ble_eq_true rfl) (Nat.le_refl _) (m_refused (hHas_sub nd (as' := [m]) (cs' := [(oC 10 (mF m 0 tr pl (nI tp) sz sp fa fl tk ta sg nu wd (nI P.1) (nI P.2.1) rl rw ht sd ah cl))]) [0] rfl rfl) (nd_sub nd (as' := [m]) [0] rfl rfl)  ?_)
  refine w_heq (hUs_in nd rfl [0] (cs2 := [(oC 10 (mF m 0 1 (-1) (nI tp) sz sp fa fl tk ta sg nu wd (nI P.1) (nI P.2.1) rl rw ht sd ah cl)), (aI 11 fr)]) rfl rfl) ?_
  refine w_ireturn rfl dX10_rows_26 (Nat.le_of_ble_eq_true rfl) (Nat.le_of_ble_eq_true rfl) ?_
  have e : oRow P none a u y = ((-1), 1) := by
    rfl
  rw [e] at k
  exact k _ (mI_i (cI_put hW (mAs_nd m) rfl [0, 14] (cs2 := [(oC 10 (mF m 0 1 (-1) (nI tp) sz sp fa fl tk ta sg nu wd (nI P.1) (nI P.2.1) rl rw ht sd ah cl)), (aI 600 gt), (aL 8 ln), (aL 8 wn), (aI 8 fs), (aI 24 ff), (aI 8 fb), (aI 8 fn), (aI 8 fp), (aZ 8 f3), (aI 64 fk), (aI 64 fx), (aI 64 fy), (aI 64 fc), (aI 11 fr), (aI 11 f1), (aI 11 f2), (aI 22 fi), (aB 4096 fo), (aB 8192 fq), (aZ 2 fh), (aI 2 fj), (aI 4096 fw), (aI 2100 fz)]) rfl rfl) hT hPm hG hRm hm0 hm1 hsd hht htp) (mFr_of (by intro a ha; simp only [List.mem_cons, List.not_mem_nil, or_false] at ha; omega))
set_option maxRecDepth 100000 in
set_option maxHeartbeats 4000000 in
theorem q_rows_s {G : wG} {d : Nat} {h : hH} {Q : Option Value → hH → Prop} {m : Nat} {ft : Nat → Int32} {tp : Nat} {P : pD} {ht : Int32} {i0 i1 : imD} {sd fa pl tr : Int32} {th : Int32}  {l w c : Nat} {rs : Int32} {a u y : Int32} (hI : mI h m ft tp P ht (some (l, w, rs, c)) i0 i1 sd fa pl tr th)  (k : ∀ h2, mI h2 m ft tp P ht (some (l, w, rs, c)) i0 i1 sd fa (-1) (oRow P (some (l, w, rs, c)) a u y).2 0 → mFr m h h2 → Q (some (.int (oRow P (some (l, w, rs, c)) a u y).1)) h2) : Cl G yX10_rows (d + 3) 0 0 [.ref m, .int a, .int u, .int y] h Q := by
  refine mI_e hI ?_
  intro sz sp fl tk ta sg nu wd rl rw ah cl gt ln wn fs ff fb fn fp f3 fk fx fy fc fr f1 f2 fi fo fq fh fj fw fz hW hT hPm hG hRm hm0 hm1 hsd hht htp
  have hnL : P.1 ≤ 4096 := Nat.le_trans hG.2.2.1 (by decide)
  have hnW : P.2.1 ≤ 4096 := Nat.le_trans hG.2.2.2 (by decide)
  have hhL : (ht = 0 ∧ P.1 = 0) ∨ ht = 1 := hht.imp (fun z => ⟨z.1, z.2.1⟩) id
  have hhW : (ht = 0 ∧ P.2.1 = 0) ∨ ht = 1 := hht.imp (fun z => ⟨z.1, z.2.2⟩) id
  obtain ⟨hht1, hok, hsr, hrn, hsz, hfo⟩ : ht = 1 ∧ mRr P (l, w, rs, c) fr fo := id hRm
  have hl : l < P.1 := hok.1
  have hwv9 : w < P.2.1 := hok.2.1
  have hc4 : c ≤ 4096 := hok.2.2
  have hl4 : l < 4 := Nat.lt_of_lt_of_le hl hG.2.2.1
  have hl31 : l < 2 ^ 31 := by omega
  have hLp := hPm.1 l hl
  rw [Nat.zero_add] at hLp
  have hGl := hG.1 l hl
  have hrc : fr 2 = nI c := hrn.2.2.1
  rw [show oRow P (some (l, w, rs, c)) a u y = oRowF fo c a u y from (oRowF_c hfo hc4 a u y).symm] at k
  have hw : hHas h [m, m + 14, m + 18] [(oC 10 (mF m th tr pl (nI tp) sz sp fa fl tk ta sg nu wd (nI P.1) (nI P.2.1) rl rw ht sd ah cl)), (aI 11 fr), (aB 4096 fo)] := hHas_s hW [0, 14, 18] rfl rfl
  have nd : [m, m + 14, m + 18].Nodup := (nd_inc ⟨by omega, by omega, trivial⟩)
  refine Cl.of (ini := false) kX10_rows (plainFor_of_name (by decide)) (by decide) (Nat.le_of_ble_eq_true rfl) rfl rfl (fun z => by cases z) ?_
  refine w_heq (hUs_id hw).symm ?_
  refine w_aload_n dX10_rows_0 rfl ?_
  refine w_iconst (v := 0) dX10_rows_1 (by decide) ?_
  refine w_put (fs' := (mF m 0 tr pl (nI tp) sz sp fa fl tk ta sg nu wd (nI P.1) (nI P.2.1) rl rw ht sd ah cl)) fX10_89 (hUs_at nd 0 rfl rfl) rfl rfl (Nat.le_of_ble_eq_true rfl) rfl dX10_rows_2 ?_
  refine w_heq (hUs_set nd rfl 0 (cs' := [(oC 10 (mF m 0 tr pl (nI tp) sz sp fa fl tk ta sg nu wd (nI P.1) (nI P.2.1) rl rw ht sd ah cl)), (aI 11 fr), (aB 4096 fo)]) rfl rfl) ?_
  refine w_aload_n dX10_rows_5 rfl ?_
  refine w_callV (ci := 10) (d' := d + 2) (mc' := 0) (ms' := 0) (As := []) (st := []) lX10_284 vX10_hasRun rfl (hUs_at nd 0 rfl rfl) rfl (Nat.le_of_ble_eq_true rfl) dX10_rows_6 (Nat.le_of_ble_eq_true rfl) (Nat.le_of_ble_eq_true rfl) (Nat.le_refl _) (m_hasRun_s (hHas_sub nd (as' := [m, m + 14]) (cs' := [(oC 10 (mF m 0 tr pl (nI tp) sz sp fa fl tk ta sg nu wd (nI P.1) (nI P.2.1) rl rw ht sd ah cl)), (aI 11 fr)]) [0, 1] rfl rfl) hht1 hrn.1 hl31 ?_)
  refine w_if_eq_f (tgt := 21) dX10_rows_9 rfl (by decide) ?_
  refine w_iload_n dX10_rows_12 rfl ?_
  refine w_iconst (v := 0) dX10_rows_13 (by decide) ?_
  refine w_iconst (v := 1) dX10_rows_14 (by decide) ?_
  refine w_callS (d' := d + 2) (mc' := 0) (ms' := 0) (As := [.int y, .int 0, .int 1]) (st := []) lX10_111 vX10_in rfl (Nat.le_of_ble_eq_true rfl) dX10_rows_15 (Nat.le_of_ble_eq_true rfl) (Nat.le_of_ble_eq_true rfl) (Nat.le_refl _) (c_in ?_)
  refine w_if_ne (tgt := 27) dX10_rows_18 rfl (fun b18 => ?_) (fun b18 => ?_)
  · refine w_aload_n dX10_rows_27 rfl ?_
    refine w_iload_n dX10_rows_28 rfl ?_
    refine w_iload_n dX10_rows_29 rfl ?_
    refine w_callV (ci := 10) (d' := d + 2) (mc' := 0) (ms' := 0) (As := [.int a, .int u]) (st := []) lX10_297 vX10_isStretch rfl (hUs_at nd 0 rfl rfl) rfl (Nat.le_of_ble_eq_true rfl) dX10_rows_30 (Nat.le_of_ble_eq_true rfl) (Nat.le_of_ble_eq_true rfl) (Nat.le_refl _) (m_isStretch (hHas_sub nd (as' := [m, m + 14]) (cs' := [(oC 10 (mF m 0 tr pl (nI tp) sz sp fa fl tk ta sg nu wd (nI P.1) (nI P.2.1) rl rw ht sd ah cl)), (aI 11 fr)]) [0, 1] rfl rfl) hrc hc4 ?_)
    refine w_if_ne (tgt := 42) dX10_rows_33 rfl (fun b33 => ?_) (fun b33 => ?_)
    · obtain ⟨A, B, hA, hB, rfl, rfl⟩ := hasS_n b33 hc4
      have hAc : tN (nI A) = A := nI_clamp (by omega)
      have hBc : tN (nI B) = B := nI_clamp (by omega)
      refine w_iconst (v := 1) dX10_rows_42 (by decide) ?_
      refine w_istore (ls2 := [some (.ref m), some (.int (nI A)), some (.int (nI B)), some (.int y), some (.int 1), none, none, none, none]) dX10_rows_43 (by decide) rfl rfl ?_
      refine w_iconst (v := 1) dX10_rows_45 (by decide) ?_
      refine w_istore (ls2 := [some (.ref m), some (.int (nI A)), some (.int (nI B)), some (.int y), some (.int 1), some (.int 1), none, none, none]) dX10_rows_46 (by decide) rfl rfl ?_
      refine w_iconst (v := 0) dX10_rows_48 (by decide) ?_
      refine w_istore (ls2 := [some (.ref m), some (.int (nI A)), some (.int (nI B)), some (.int y), some (.int 1), some (.int 1), some (.int 0), none, none]) dX10_rows_49 (by decide) rfl rfl ?_
      refine w_iload_n dX10_rows_51 rfl ?_
      refine w_iconst (v := 1) dX10_rows_52 (by decide) ?_
      refine w_iaddE (z := nI (A + 1)) dX10_rows_53 (nI_add (A) (1)) ?_
      refine w_istore (ls2 := [some (.ref m), some (.int (nI A)), some (.int (nI B)), some (.int y), some (.int 1), some (.int 1), some (.int 0), some (.int (nI (A + 1))), none]) dX10_rows_54 (by decide) rfl rfl ?_
      refine lq_rows nd hA (by omega) ?_ (B - A) 0 1 1 0 (by omega) rfl rfl
      refine w_aload_n dX10_rows_140 rfl ?_
      refine w_iload_n dX10_rows_141 rfl ?_
      refine w_if_ne (tgt := 150) dX10_rows_142 rfl (fun b142 => ?_) (fun b142 => ?_)
      · refine w_iload dX10_rows_150 rfl ?_
        refine w_callV (ci := 10) (d' := d + 2) (mc' := 0) (ms' := 0) (As := [.int (fld (fun t s => s + (if fo t = fo (t - 1) then 0 else 1)) (A + 1) (B - A) 0)]) (st := []) lX10_241 vX10_good rfl (hUs_at nd 0 rfl rfl) rfl (Nat.le_of_ble_eq_true rfl) dX10_rows_152 (Nat.le_of_ble_eq_true rfl) (Nat.le_of_ble_eq_true rfl) (Nat.le_refl _) (m_good (hHas_sub nd (as' := [m]) (cs' := [(oC 10 (mF m 0 tr pl (nI tp) sz sp fa fl tk ta sg nu wd (nI P.1) (nI P.2.1) rl rw ht sd ah cl))]) [0] rfl rfl) (nd_sub nd (as' := [m]) [0] rfl rfl)  ?_)
        refine w_heq (hUs_in nd rfl [0] (cs2 := [(oC 10 (mF m 0 0 (-1) (nI tp) sz sp fa fl tk ta sg nu wd (nI P.1) (nI P.2.1) rl rw ht sd ah cl)), (aI 11 fr), (aB 4096 fo)]) rfl rfl) ?_
        refine w_ireturn rfl dX10_rows_155 (Nat.le_of_ble_eq_true rfl) (Nat.le_of_ble_eq_true rfl) ?_
        have e : oRowF fo c (nI A) (nI B) y = (fld (fun t s => s + (if fo t = fo (t - 1) then 0 else 1)) (A + 1) (B - A) 0, 0) := by
          simp only [oRowF]
          rw [if_neg (fun z => z.elim (fun z => absurd (inB_1 b18).1 (Int32.not_le.mpr z)) (fun z => absurd (inB_1 b18).2 (Int32.not_le.mpr z))), if_neg b33, hAc, hBc, if_neg b142]
        rw [e] at k
        exact k _ (mI_i (cI_put hW (mAs_nd m) rfl [0, 14, 18] (cs2 := [(oC 10 (mF m 0 0 (-1) (nI tp) sz sp fa fl tk ta sg nu wd (nI P.1) (nI P.2.1) rl rw ht sd ah cl)), (aI 600 gt), (aL 8 ln), (aL 8 wn), (aI 8 fs), (aI 24 ff), (aI 8 fb), (aI 8 fn), (aI 8 fp), (aZ 8 f3), (aI 64 fk), (aI 64 fx), (aI 64 fy), (aI 64 fc), (aI 11 fr), (aI 11 f1), (aI 11 f2), (aI 22 fi), (aB 4096 fo), (aB 8192 fq), (aZ 2 fh), (aI 2 fj), (aI 4096 fw), (aI 2100 fz)]) rfl rfl) hT hPm hG hRm hm0 hm1 hsd hht htp) (mFr_of (by intro a ha; simp only [List.mem_cons, List.not_mem_nil, or_false] at ha; omega))
      · refine w_iload dX10_rows_145 rfl ?_
        refine w_goto (tgt := 152) dX10_rows_147 rfl ?_
        refine w_callV (ci := 10) (d' := d + 2) (mc' := 0) (ms' := 0) (As := [.int (fld (fun t (s : Int32 × Int32) => (mxI s.1 (if fo t = fo (t - 1) then s.2 + 1 else 1), if fo t = fo (t - 1) then s.2 + 1 else 1)) (A + 1) (B - A) (1, 1)).1]) (st := []) lX10_241 vX10_good rfl (hUs_at nd 0 rfl rfl) rfl (Nat.le_of_ble_eq_true rfl) dX10_rows_152 (Nat.le_of_ble_eq_true rfl) (Nat.le_of_ble_eq_true rfl) (Nat.le_refl _) (m_good (hHas_sub nd (as' := [m]) (cs' := [(oC 10 (mF m 0 tr pl (nI tp) sz sp fa fl tk ta sg nu wd (nI P.1) (nI P.2.1) rl rw ht sd ah cl))]) [0] rfl rfl) (nd_sub nd (as' := [m]) [0] rfl rfl)  ?_)
        refine w_heq (hUs_in nd rfl [0] (cs2 := [(oC 10 (mF m 0 0 (-1) (nI tp) sz sp fa fl tk ta sg nu wd (nI P.1) (nI P.2.1) rl rw ht sd ah cl)), (aI 11 fr), (aB 4096 fo)]) rfl rfl) ?_
        refine w_ireturn rfl dX10_rows_155 (Nat.le_of_ble_eq_true rfl) (Nat.le_of_ble_eq_true rfl) ?_
        have e : oRowF fo c (nI A) (nI B) y = ((fld (fun t (s : Int32 × Int32) => (mxI s.1 (if fo t = fo (t - 1) then s.2 + 1 else 1), if fo t = fo (t - 1) then s.2 + 1 else 1)) (A + 1) (B - A) (1, 1)).1, 0) := by
          simp only [oRowF]
          rw [if_neg (fun z => z.elim (fun z => absurd (inB_1 b18).1 (Int32.not_le.mpr z)) (fun z => absurd (inB_1 b18).2 (Int32.not_le.mpr z))), if_neg b33, hAc, hBc, if_pos b142]
        rw [e] at k
        exact k _ (mI_i (cI_put hW (mAs_nd m) rfl [0, 14, 18] (cs2 := [(oC 10 (mF m 0 0 (-1) (nI tp) sz sp fa fl tk ta sg nu wd (nI P.1) (nI P.2.1) rl rw ht sd ah cl)), (aI 600 gt), (aL 8 ln), (aL 8 wn), (aI 8 fs), (aI 24 ff), (aI 8 fb), (aI 8 fn), (aI 8 fp), (aZ 8 f3), (aI 64 fk), (aI 64 fx), (aI 64 fy), (aI 64 fc), (aI 11 fr), (aI 11 f1), (aI 11 f2), (aI 22 fi), (aB 4096 fo), (aB 8192 fq), (aZ 2 fh), (aI 2 fj), (aI 4096 fw), (aI 2100 fz)]) rfl rfl) hT hPm hG hRm hm0 hm1 hsd hht htp) (mFr_of (by intro a ha; simp only [List.mem_cons, List.not_mem_nil, or_false] at ha; omega))
    · refine w_aload_n dX10_rows_36 rfl ?_
      refine w_iconst (v := 2) dX10_rows_37 (by decide) ?_
      refine w_callV (ci := 10) (d' := d + 2) (mc' := 0) (ms' := 0) (As := [.int 2]) (st := []) lX10_228 vX10_refused rfl (hUs_at nd 0 rfl rfl) rfl (Nat.le_of_ble_eq_true rfl) dX10_rows_38 (Nat.le_of_ble_eq_true rfl) (Nat.le_of_ble_eq_true rfl) (Nat.le_refl _) (m_refused (hHas_sub nd (as' := [m]) (cs' := [(oC 10 (mF m 0 tr pl (nI tp) sz sp fa fl tk ta sg nu wd (nI P.1) (nI P.2.1) rl rw ht sd ah cl))]) [0] rfl rfl) (nd_sub nd (as' := [m]) [0] rfl rfl)  ?_)
      refine w_heq (hUs_in nd rfl [0] (cs2 := [(oC 10 (mF m 0 2 (-1) (nI tp) sz sp fa fl tk ta sg nu wd (nI P.1) (nI P.2.1) rl rw ht sd ah cl)), (aI 11 fr), (aB 4096 fo)]) rfl rfl) ?_
      refine w_ireturn rfl dX10_rows_41 (Nat.le_of_ble_eq_true rfl) (Nat.le_of_ble_eq_true rfl) ?_
      have e : oRowF fo c a u y = ((-1), 2) := by
        simp only [oRowF]
        rw [if_neg (fun z => z.elim (fun z => absurd (inB_1 b18).1 (Int32.not_le.mpr z)) (fun z => absurd (inB_1 b18).2 (Int32.not_le.mpr z))), if_pos b33]
      rw [e] at k
      exact k _ (mI_i (cI_put hW (mAs_nd m) rfl [0, 14, 18] (cs2 := [(oC 10 (mF m 0 2 (-1) (nI tp) sz sp fa fl tk ta sg nu wd (nI P.1) (nI P.2.1) rl rw ht sd ah cl)), (aI 600 gt), (aL 8 ln), (aL 8 wn), (aI 8 fs), (aI 24 ff), (aI 8 fb), (aI 8 fn), (aI 8 fp), (aZ 8 f3), (aI 64 fk), (aI 64 fx), (aI 64 fy), (aI 64 fc), (aI 11 fr), (aI 11 f1), (aI 11 f2), (aI 22 fi), (aB 4096 fo), (aB 8192 fq), (aZ 2 fh), (aI 2 fj), (aI 4096 fw), (aI 2100 fz)]) rfl rfl) hT hPm hG hRm hm0 hm1 hsd hht htp) (mFr_of (by intro a ha; simp only [List.mem_cons, List.not_mem_nil, or_false] at ha; omega))
  · refine w_aload_n dX10_rows_21 rfl ?_
    refine w_iconst (v := 1) dX10_rows_22 (by decide) ?_
    refine w_callV (ci := 10) (d' := d + 2) (mc' := 0) (ms' := 0) (As := [.int 1]) (st := []) lX10_228 vX10_refused rfl (hUs_at nd 0 rfl rfl) rfl (Nat.le_of_ble_eq_true rfl) dX10_rows_23 (Nat.le_of_ble_eq_true rfl) (Nat.le_of_ble_eq_true rfl) (Nat.le_refl _) (m_refused (hHas_sub nd (as' := [m]) (cs' := [(oC 10 (mF m 0 tr pl (nI tp) sz sp fa fl tk ta sg nu wd (nI P.1) (nI P.2.1) rl rw ht sd ah cl))]) [0] rfl rfl) (nd_sub nd (as' := [m]) [0] rfl rfl)  ?_)
    refine w_heq (hUs_in nd rfl [0] (cs2 := [(oC 10 (mF m 0 1 (-1) (nI tp) sz sp fa fl tk ta sg nu wd (nI P.1) (nI P.2.1) rl rw ht sd ah cl)), (aI 11 fr), (aB 4096 fo)]) rfl rfl) ?_
    refine w_ireturn rfl dX10_rows_26 (Nat.le_of_ble_eq_true rfl) (Nat.le_of_ble_eq_true rfl) ?_
    have e : oRowF fo c a u y = ((-1), 1) := by
      simp only [oRowF]
      exact if_pos (inB_0 b18)
    rw [e] at k
    exact k _ (mI_i (cI_put hW (mAs_nd m) rfl [0, 14, 18] (cs2 := [(oC 10 (mF m 0 1 (-1) (nI tp) sz sp fa fl tk ta sg nu wd (nI P.1) (nI P.2.1) rl rw ht sd ah cl)), (aI 600 gt), (aL 8 ln), (aL 8 wn), (aI 8 fs), (aI 24 ff), (aI 8 fb), (aI 8 fn), (aI 8 fp), (aZ 8 f3), (aI 64 fk), (aI 64 fx), (aI 64 fy), (aI 64 fc), (aI 11 fr), (aI 11 f1), (aI 11 f2), (aI 22 fi), (aB 4096 fo), (aB 8192 fq), (aZ 2 fh), (aI 2 fj), (aI 4096 fw), (aI 2100 fz)]) rfl rfl) hT hPm hG hRm hm0 hm1 hsd hht htp) (mFr_of (by intro a ha; simp only [List.mem_cons, List.not_mem_nil, or_false] at ha; omega))
theorem q_rows {G : wG} {d : Nat} {h : hH} {Q : Option Value → hH → Prop} {m : Nat} {ft : Nat → Int32} {tp : Nat} {P : pD} {ht : Int32} {R : Option rnD} {i0 i1 : imD} {sd fa pl tr : Int32} {th : Int32}  {a u y : Int32} (hI : mI h m ft tp P ht R i0 i1 sd fa pl tr th) (k : ∀ h2, mI h2 m ft tp P ht R i0 i1 sd fa (-1) (oRow P (R) a u y).2 0 → mFr m h h2 → Q (some (.int (oRow P (R) a u y).1)) h2) : Cl G yX10_rows (d + 3) 0 0 [.ref m, .int a, .int u, .int y] h Q := by
  cases R with
  | none => exact q_rows_n hI k
  | some r => obtain ⟨l, w, rs, c⟩ := r; exact q_rows_s hI k
set_option maxRecDepth 100000 in
set_option maxHeartbeats 4000000 in
theorem l_likeBy {G : wG} {d : Nat} {h : hH} {Q : Option Value → hH → Prop} {m : Nat} {th tr wa tp sz sp fa fl tk ta sg nu : Int32} {wd : Int64} {lo wv rl rw ht sd ah cl : Int32} {fo : Nat → Int32} {A B g : Nat} (hw : hHas h [m, m + 18] [(oC 10 (mF m th tr wa tp sz sp fa fl tk ta sg nu wd lo wv rl rw ht sd ah cl)), (aB 4096 fo)]) (hA : A ≤ B) (hB : B < 4096) (hg : g < 2 ^ 30) (k : Q (some (.int (likF fo A B g))) h) : ∀ (n : Nat) (i : Nat) (x : Int32), i + n = B + 1 - (A + g) → x = fld (fun t s => s + (if fo t = fo (t + g) then 1 else 0)) A i 0 → WP G RX10 cX10_likeBy 6 (some .int) false d 0 0 0 0 Q 6 [some (.ref m), some (.int (nI A)), some (.int (nI B)), some (.int (nI g)), some (.int x), some (.int (nI (A + i)))] [] h := by
  intro n
  induction n with
  | zero =>
    intro i x hi e
    refine w_iload dX10_likeBy_6 rfl ?_
    refine w_iload_n dX10_likeBy_8 rfl ?_
    refine w_iaddE (z := nI ((A + i) + g)) dX10_likeBy_9 (nI_add ((A + i)) (g)) ?_
    refine w_iload_n dX10_likeBy_10 rfl ?_
    refine w_icmp_gt_t (tgt := 49) dX10_likeBy_11 rfl ((nI_ltI (a := B) (b := ((A + i) + g)) (by omega) (by omega)).mpr (by omega)) ?_
    refine w_iload dX10_likeBy_49 rfl ?_
    refine w_ireturn rfl dX10_likeBy_51 (Nat.le_of_ble_eq_true rfl) (Nat.le_of_ble_eq_true rfl) ?_
    have z : i = B + 1 - (A + g) := by omega
    rw [likF, ← z, ← e] at k
    exact k
  | succ n ih =>
    intro i x hi e
    refine w_iload dX10_likeBy_6 rfl ?_
    refine w_iload_n dX10_likeBy_8 rfl ?_
    refine w_iaddE (z := nI ((A + i) + g)) dX10_likeBy_9 (nI_add ((A + i)) (g)) ?_
    refine w_iload_n dX10_likeBy_10 rfl ?_
    refine w_icmp_gt_f (tgt := 49) dX10_likeBy_11 rfl (fun z => absurd ((nI_ltI (a := B) (b := ((A + i) + g)) (by omega) (by omega)).mp z) (by omega)) ?_
    refine w_iload dX10_likeBy_14 rfl ?_
    refine w_aload_n dX10_likeBy_16 rfl ?_
    refine w_get (v := .ref (m + 18)) fX10_67 (hw 0 _ _ rfl rfl) rfl dX10_likeBy_17 ?_
    refine w_iload dX10_likeBy_20 rfl ?_
    refine w_baloadN (hw 1 _ _ rfl rfl) (by omega) (by omega) dX10_likeBy_22 ?_
    refine w_aload_n dX10_likeBy_23 rfl ?_
    refine w_get (v := .ref (m + 18)) fX10_67 (hw 0 _ _ rfl rfl) rfl dX10_likeBy_24 ?_
    refine w_iload dX10_likeBy_27 rfl ?_
    refine w_iload_n dX10_likeBy_29 rfl ?_
    refine w_iaddE (z := nI ((A + i) + g)) dX10_likeBy_30 (nI_add ((A + i)) (g)) ?_
    refine w_baloadN (hw 1 _ _ rfl rfl) (by omega) (by omega) dX10_likeBy_31 ?_
    refine w_icmp_ne (tgt := 39) dX10_likeBy_32 rfl (fun b32 => ?_) (fun b32 => ?_)
    · refine w_iconst (v := 0) dX10_likeBy_39 (by decide) ?_
      refine w_iadd dX10_likeBy_40 ?_
      refine w_istore (ls2 := [some (.ref m), some (.int (nI A)), some (.int (nI B)), some (.int (nI g)), some (.int (x + 0)), some (.int (nI (A + i)))]) dX10_likeBy_41 (by decide) rfl rfl ?_
      refine w_iinc (v := nI ((A + i) + 1)) (ls2 := [some (.ref m), some (.int (nI A)), some (.int (nI B)), some (.int (nI g)), some (.int (x + 0)), some (.int (nI ((A + i) + 1)))]) dX10_likeBy_43 rfl (nI_1 _) (by decide) rfl rfl ?_
      refine w_goto (tgt := 6) dX10_likeBy_46 rfl ?_
      exact ih (i + 1) _ (by omega) (by rw [fld, ← e]; simp only [if_neg b32])
    · refine w_iconst (v := 1) dX10_likeBy_35 (by decide) ?_
      refine w_goto (tgt := 40) dX10_likeBy_36 rfl ?_
      refine w_iadd dX10_likeBy_40 ?_
      refine w_istore (ls2 := [some (.ref m), some (.int (nI A)), some (.int (nI B)), some (.int (nI g)), some (.int (x + 1)), some (.int (nI (A + i)))]) dX10_likeBy_41 (by decide) rfl rfl ?_
      refine w_iinc (v := nI ((A + i) + 1)) (ls2 := [some (.ref m), some (.int (nI A)), some (.int (nI B)), some (.int (nI g)), some (.int (x + 1)), some (.int (nI ((A + i) + 1)))]) dX10_likeBy_43 rfl (nI_1 _) (by decide) rfl rfl ?_
      refine w_goto (tgt := 6) dX10_likeBy_46 rfl ?_
      exact ih (i + 1) _ (by omega) (by rw [fld, ← e]; simp only [if_pos b32])
set_option maxRecDepth 100000 in
set_option maxHeartbeats 4000000 in
theorem m_likeBy {G : wG} {d : Nat} {h : hH} {Q : Option Value → hH → Prop} {m : Nat} {th tr wa tp sz sp fa fl tk ta sg nu : Int32} {wd : Int64} {lo wv rl rw ht sd ah cl : Int32} {fo : Nat → Int32} {A B g : Nat} (hw : hHas h [m, m + 18] [(oC 10 (mF m th tr wa tp sz sp fa fl tk ta sg nu wd lo wv rl rw ht sd ah cl)), (aB 4096 fo)]) (hA : A ≤ B) (hB : B < 4096) (hg : g < 2 ^ 30) (k : Q (some (.int (likF fo A B g))) h) : Cl G yX10_likeBy d 0 0 [.ref m, .int (nI A), .int (nI B), .int (nI g)] h Q := by
  refine Cl.of (ini := false) kX10_likeBy (plainFor_of_name (by decide)) (by decide) (Nat.le_of_ble_eq_true rfl) rfl rfl (fun z => by cases z) ?_
  refine w_iconst (v := 0) dX10_likeBy_0 (by decide) ?_
  refine w_istore (ls2 := [some (.ref m), some (.int (nI A)), some (.int (nI B)), some (.int (nI g)), some (.int 0), none]) dX10_likeBy_1 (by decide) rfl rfl ?_
  refine w_iload_n dX10_likeBy_3 rfl ?_
  refine w_istore (ls2 := [some (.ref m), some (.int (nI A)), some (.int (nI B)), some (.int (nI g)), some (.int 0), some (.int (nI A))]) dX10_likeBy_4 (by decide) rfl rfl ?_
  exact l_likeBy hw hA hB hg k (B + 1 - (A + g)) 0 _ (by omega) rfl
set_option maxRecDepth 100000 in
set_option maxHeartbeats 4000000 in
theorem q_like_n {G : wG} {d : Nat} {h : hH} {Q : Option Value → hH → Prop} {m : Nat} {ft : Nat → Int32} {tp : Nat} {P : pD} {ht : Int32} {i0 i1 : imD} {sd fa pl tr : Int32} {th : Int32}  {a u y : Int32} (hI : mI h m ft tp P ht none i0 i1 sd fa pl tr th)  (k : ∀ h2, mI h2 m ft tp P ht none i0 i1 sd fa (-1) (oLik P (none) a u y).2 0 → mFr m h h2 → Q (some (.int (oLik P (none) a u y).1)) h2) : Cl G yX10_like (d + 3) 0 0 [.ref m, .int a, .int u, .int y] h Q := by
  refine mI_e hI ?_
  intro sz sp fl tk ta sg nu wd rl rw ah cl gt ln wn fs ff fb fn fp f3 fk fx fy fc fr f1 f2 fi fo fq fh fj fw fz hW hT hPm hG hRm hm0 hm1 hsd hht htp
  have hnL : P.1 ≤ 4096 := Nat.le_trans hG.2.2.1 (by decide)
  have hnW : P.2.1 ≤ 4096 := Nat.le_trans hG.2.2.2 (by decide)
  have hhL : (ht = 0 ∧ P.1 = 0) ∨ ht = 1 := hht.imp (fun z => ⟨z.1, z.2.1⟩) id
  have hhW : (ht = 0 ∧ P.2.1 = 0) ∨ ht = 1 := hht.imp (fun z => ⟨z.1, z.2.2⟩) id
  have hw : hHas h [m, m + 14] [(oC 10 (mF m th tr pl (nI tp) sz sp fa fl tk ta sg nu wd (nI P.1) (nI P.2.1) rl rw ht sd ah cl)), (aI 11 fr)] := hHas_s hW [0, 14] rfl rfl
  have nd : [m, m + 14].Nodup := (nd_inc ⟨by omega, trivial⟩)
  refine Cl.of (ini := false) kX10_like (plainFor_of_name (by decide)) (by decide) (Nat.le_of_ble_eq_true rfl) rfl rfl (fun z => by cases z) ?_
  refine w_heq (hUs_id hw).symm ?_
  refine w_aload_n dX10_like_0 rfl ?_
  refine w_iconst (v := 0) dX10_like_1 (by decide) ?_
  refine w_put (fs' := (mF m 0 tr pl (nI tp) sz sp fa fl tk ta sg nu wd (nI P.1) (nI P.2.1) rl rw ht sd ah cl)) fX10_89 (hUs_at nd 0 rfl rfl) rfl rfl (Nat.le_of_ble_eq_true rfl) rfl dX10_like_2 ?_
  refine w_heq (hUs_set nd rfl 0 (cs' := [(oC 10 (mF m 0 tr pl (nI tp) sz sp fa fl tk ta sg nu wd (nI P.1) (nI P.2.1) rl rw ht sd ah cl)), (aI 11 fr)]) rfl rfl) ?_
  refine w_aload_n dX10_like_5 rfl ?_
  refine w_callV (ci := 10) (d' := d + 2) (mc' := 0) (ms' := 0) (As := []) (st := []) lX10_284 vX10_hasRun rfl (hUs_at nd 0 rfl rfl) rfl (Nat.le_of_ble_eq_true rfl) dX10_like_6 (Nat.le_of_ble_eq_true rfl) (Nat.le_of_ble_eq_true rfl) (Nat.le_refl _) (m_hasRun_n (hHas_sub nd (as' := [m, m + 14]) (cs' := [(oC 10 (mF m 0 tr pl (nI tp) sz sp fa fl tk ta sg nu wd (nI P.1) (nI P.2.1) rl rw ht sd ah cl)), (aI 11 fr)]) [0, 1] rfl rfl) hRm ?_)
  refine w_if_ne_f (tgt := 18) dX10_like_9 rfl (by decide) ?_
  refine w_aload_n dX10_like_12 rfl ?_
  refine w_iconst (v := 1) dX10_like_13 (by decide) ?_
  refine w_callV (ci := 10) (d' := d + 2) (mc' := 0) (ms' := 0) (As := [.int 1]) (st := []) lX10_228 vX10_refused rfl (hUs_at nd 0 rfl rfl) rfl (Nat.le_of_ble_eq_true rfl) dX10_like_14 (Nat.le_of_ble_eq_true rfl) (Nat.le_of_ble_eq_true rfl) (Nat.le_refl _) (m_refused (hHas_sub nd (as' := [m]) (cs' := [(oC 10 (mF m 0 tr pl (nI tp) sz sp fa fl tk ta sg nu wd (nI P.1) (nI P.2.1) rl rw ht sd ah cl))]) [0] rfl rfl) (nd_sub nd (as' := [m]) [0] rfl rfl)  ?_)
  refine w_heq (hUs_in nd rfl [0] (cs2 := [(oC 10 (mF m 0 1 (-1) (nI tp) sz sp fa fl tk ta sg nu wd (nI P.1) (nI P.2.1) rl rw ht sd ah cl)), (aI 11 fr)]) rfl rfl) ?_
  refine w_ireturn rfl dX10_like_17 (Nat.le_of_ble_eq_true rfl) (Nat.le_of_ble_eq_true rfl) ?_
  have e : oLik P none a u y = ((-1), 1) := by
    rfl
  rw [e] at k
  exact k _ (mI_i (cI_put hW (mAs_nd m) rfl [0, 14] (cs2 := [(oC 10 (mF m 0 1 (-1) (nI tp) sz sp fa fl tk ta sg nu wd (nI P.1) (nI P.2.1) rl rw ht sd ah cl)), (aI 600 gt), (aL 8 ln), (aL 8 wn), (aI 8 fs), (aI 24 ff), (aI 8 fb), (aI 8 fn), (aI 8 fp), (aZ 8 f3), (aI 64 fk), (aI 64 fx), (aI 64 fy), (aI 64 fc), (aI 11 fr), (aI 11 f1), (aI 11 f2), (aI 22 fi), (aB 4096 fo), (aB 8192 fq), (aZ 2 fh), (aI 2 fj), (aI 4096 fw), (aI 2100 fz)]) rfl rfl) hT hPm hG hRm hm0 hm1 hsd hht htp) (mFr_of (by intro a ha; simp only [List.mem_cons, List.not_mem_nil, or_false] at ha; omega))
set_option maxRecDepth 100000 in
set_option maxHeartbeats 4000000 in
theorem q_like_s {G : wG} {d : Nat} {h : hH} {Q : Option Value → hH → Prop} {m : Nat} {ft : Nat → Int32} {tp : Nat} {P : pD} {ht : Int32} {i0 i1 : imD} {sd fa pl tr : Int32} {th : Int32}  {l w c : Nat} {rs : Int32} {a u y : Int32} (hI : mI h m ft tp P ht (some (l, w, rs, c)) i0 i1 sd fa pl tr th)  (k : ∀ h2, mI h2 m ft tp P ht (some (l, w, rs, c)) i0 i1 sd fa (-1) (oLik P (some (l, w, rs, c)) a u y).2 0 → mFr m h h2 → Q (some (.int (oLik P (some (l, w, rs, c)) a u y).1)) h2) : Cl G yX10_like (d + 3) 0 0 [.ref m, .int a, .int u, .int y] h Q := by
  refine mI_e hI ?_
  intro sz sp fl tk ta sg nu wd rl rw ah cl gt ln wn fs ff fb fn fp f3 fk fx fy fc fr f1 f2 fi fo fq fh fj fw fz hW hT hPm hG hRm hm0 hm1 hsd hht htp
  have hnL : P.1 ≤ 4096 := Nat.le_trans hG.2.2.1 (by decide)
  have hnW : P.2.1 ≤ 4096 := Nat.le_trans hG.2.2.2 (by decide)
  have hhL : (ht = 0 ∧ P.1 = 0) ∨ ht = 1 := hht.imp (fun z => ⟨z.1, z.2.1⟩) id
  have hhW : (ht = 0 ∧ P.2.1 = 0) ∨ ht = 1 := hht.imp (fun z => ⟨z.1, z.2.2⟩) id
  obtain ⟨hht1, hok, hsr, hrn, hsz, hfo⟩ : ht = 1 ∧ mRr P (l, w, rs, c) fr fo := id hRm
  have hl : l < P.1 := hok.1
  have hwv9 : w < P.2.1 := hok.2.1
  have hc4 : c ≤ 4096 := hok.2.2
  have hl4 : l < 4 := Nat.lt_of_lt_of_le hl hG.2.2.1
  have hl31 : l < 2 ^ 31 := by omega
  have hLp := hPm.1 l hl
  rw [Nat.zero_add] at hLp
  have hGl := hG.1 l hl
  have hrc : fr 2 = nI c := hrn.2.2.1
  rw [show oLik P (some (l, w, rs, c)) a u y = oLikF fo c a u y from (oLikF_c hfo hc4 a u y).symm] at k
  have hw : hHas h [m, m + 14, m + 18] [(oC 10 (mF m th tr pl (nI tp) sz sp fa fl tk ta sg nu wd (nI P.1) (nI P.2.1) rl rw ht sd ah cl)), (aI 11 fr), (aB 4096 fo)] := hHas_s hW [0, 14, 18] rfl rfl
  have nd : [m, m + 14, m + 18].Nodup := (nd_inc ⟨by omega, by omega, trivial⟩)
  refine Cl.of (ini := false) kX10_like (plainFor_of_name (by decide)) (by decide) (Nat.le_of_ble_eq_true rfl) rfl rfl (fun z => by cases z) ?_
  refine w_heq (hUs_id hw).symm ?_
  refine w_aload_n dX10_like_0 rfl ?_
  refine w_iconst (v := 0) dX10_like_1 (by decide) ?_
  refine w_put (fs' := (mF m 0 tr pl (nI tp) sz sp fa fl tk ta sg nu wd (nI P.1) (nI P.2.1) rl rw ht sd ah cl)) fX10_89 (hUs_at nd 0 rfl rfl) rfl rfl (Nat.le_of_ble_eq_true rfl) rfl dX10_like_2 ?_
  refine w_heq (hUs_set nd rfl 0 (cs' := [(oC 10 (mF m 0 tr pl (nI tp) sz sp fa fl tk ta sg nu wd (nI P.1) (nI P.2.1) rl rw ht sd ah cl)), (aI 11 fr), (aB 4096 fo)]) rfl rfl) ?_
  refine w_aload_n dX10_like_5 rfl ?_
  refine w_callV (ci := 10) (d' := d + 2) (mc' := 0) (ms' := 0) (As := []) (st := []) lX10_284 vX10_hasRun rfl (hUs_at nd 0 rfl rfl) rfl (Nat.le_of_ble_eq_true rfl) dX10_like_6 (Nat.le_of_ble_eq_true rfl) (Nat.le_of_ble_eq_true rfl) (Nat.le_refl _) (m_hasRun_s (hHas_sub nd (as' := [m, m + 14]) (cs' := [(oC 10 (mF m 0 tr pl (nI tp) sz sp fa fl tk ta sg nu wd (nI P.1) (nI P.2.1) rl rw ht sd ah cl)), (aI 11 fr)]) [0, 1] rfl rfl) hht1 hrn.1 hl31 ?_)
  refine w_if_ne_t (tgt := 18) dX10_like_9 rfl (by decide) ?_
  refine w_aload_n dX10_like_18 rfl ?_
  refine w_iload_n dX10_like_19 rfl ?_
  refine w_iload_n dX10_like_20 rfl ?_
  refine w_callV (ci := 10) (d' := d + 2) (mc' := 0) (ms' := 0) (As := [.int a, .int u]) (st := []) lX10_297 vX10_isStretch rfl (hUs_at nd 0 rfl rfl) rfl (Nat.le_of_ble_eq_true rfl) dX10_like_21 (Nat.le_of_ble_eq_true rfl) (Nat.le_of_ble_eq_true rfl) (Nat.le_refl _) (m_isStretch (hHas_sub nd (as' := [m, m + 14]) (cs' := [(oC 10 (mF m 0 tr pl (nI tp) sz sp fa fl tk ta sg nu wd (nI P.1) (nI P.2.1) rl rw ht sd ah cl)), (aI 11 fr)]) [0, 1] rfl rfl) hrc hc4 ?_)
  refine w_if_eq (tgt := 52) dX10_like_24 rfl (fun b24 => ?_) (fun b24 => ?_)
  · refine w_aload_n dX10_like_52 rfl ?_
    refine w_iconst (v := 2) dX10_like_53 (by decide) ?_
    refine w_callV (ci := 10) (d' := d + 2) (mc' := 0) (ms' := 0) (As := [.int 2]) (st := []) lX10_228 vX10_refused rfl (hUs_at nd 0 rfl rfl) rfl (Nat.le_of_ble_eq_true rfl) dX10_like_54 (Nat.le_of_ble_eq_true rfl) (Nat.le_of_ble_eq_true rfl) (Nat.le_refl _) (m_refused (hHas_sub nd (as' := [m]) (cs' := [(oC 10 (mF m 0 tr pl (nI tp) sz sp fa fl tk ta sg nu wd (nI P.1) (nI P.2.1) rl rw ht sd ah cl))]) [0] rfl rfl) (nd_sub nd (as' := [m]) [0] rfl rfl)  ?_)
    refine w_heq (hUs_in nd rfl [0] (cs2 := [(oC 10 (mF m 0 2 (-1) (nI tp) sz sp fa fl tk ta sg nu wd (nI P.1) (nI P.2.1) rl rw ht sd ah cl)), (aI 11 fr), (aB 4096 fo)]) rfl rfl) ?_
    refine w_ireturn rfl dX10_like_57 (Nat.le_of_ble_eq_true rfl) (Nat.le_of_ble_eq_true rfl) ?_
    have e : oLikF fo c a u y = ((-1), 2) := by
      simp only [oLikF]
      exact if_pos (Or.inl b24)
    rw [e] at k
    exact k _ (mI_i (cI_put hW (mAs_nd m) rfl [0, 14, 18] (cs2 := [(oC 10 (mF m 0 2 (-1) (nI tp) sz sp fa fl tk ta sg nu wd (nI P.1) (nI P.2.1) rl rw ht sd ah cl)), (aI 600 gt), (aL 8 ln), (aL 8 wn), (aI 8 fs), (aI 24 ff), (aI 8 fb), (aI 8 fn), (aI 8 fp), (aZ 8 f3), (aI 64 fk), (aI 64 fx), (aI 64 fy), (aI 64 fc), (aI 11 fr), (aI 11 f1), (aI 11 f2), (aI 22 fi), (aB 4096 fo), (aB 8192 fq), (aZ 2 fh), (aI 2 fj), (aI 4096 fw), (aI 2100 fz)]) rfl rfl) hT hPm hG hRm hm0 hm1 hsd hht htp) (mFr_of (by intro a ha; simp only [List.mem_cons, List.not_mem_nil, or_false] at ha; omega))
  · refine w_iload_n dX10_like_27 rfl ?_
    refine w_iconst (v := 1) dX10_like_28 (by decide) ?_
    refine w_sipush (v := 1000) dX10_like_29 (by decide) ?_
    refine w_callS (d' := d + 2) (mc' := 0) (ms' := 0) (As := [.int y, .int 1, .int 1000]) (st := []) lX10_111 vX10_in rfl (Nat.le_of_ble_eq_true rfl) dX10_like_32 (Nat.le_of_ble_eq_true rfl) (Nat.le_of_ble_eq_true rfl) (Nat.le_refl _) (c_in ?_)
    refine w_if_eq (tgt := 52) dX10_like_35 rfl (fun b35 => ?_) (fun b35 => ?_)
    · refine w_aload_n dX10_like_52 rfl ?_
      refine w_iconst (v := 2) dX10_like_53 (by decide) ?_
      refine w_callV (ci := 10) (d' := d + 2) (mc' := 0) (ms' := 0) (As := [.int 2]) (st := []) lX10_228 vX10_refused rfl (hUs_at nd 0 rfl rfl) rfl (Nat.le_of_ble_eq_true rfl) dX10_like_54 (Nat.le_of_ble_eq_true rfl) (Nat.le_of_ble_eq_true rfl) (Nat.le_refl _) (m_refused (hHas_sub nd (as' := [m]) (cs' := [(oC 10 (mF m 0 tr pl (nI tp) sz sp fa fl tk ta sg nu wd (nI P.1) (nI P.2.1) rl rw ht sd ah cl))]) [0] rfl rfl) (nd_sub nd (as' := [m]) [0] rfl rfl)  ?_)
      refine w_heq (hUs_in nd rfl [0] (cs2 := [(oC 10 (mF m 0 2 (-1) (nI tp) sz sp fa fl tk ta sg nu wd (nI P.1) (nI P.2.1) rl rw ht sd ah cl)), (aI 11 fr), (aB 4096 fo)]) rfl rfl) ?_
      refine w_ireturn rfl dX10_like_57 (Nat.le_of_ble_eq_true rfl) (Nat.le_of_ble_eq_true rfl) ?_
      have e : oLikF fo c a u y = ((-1), 2) := by
        simp only [oLikF]
        exact if_pos (Or.inr (inB_0 b35))
      rw [e] at k
      exact k _ (mI_i (cI_put hW (mAs_nd m) rfl [0, 14, 18] (cs2 := [(oC 10 (mF m 0 2 (-1) (nI tp) sz sp fa fl tk ta sg nu wd (nI P.1) (nI P.2.1) rl rw ht sd ah cl)), (aI 600 gt), (aL 8 ln), (aL 8 wn), (aI 8 fs), (aI 24 ff), (aI 8 fb), (aI 8 fn), (aI 8 fp), (aZ 8 f3), (aI 64 fk), (aI 64 fx), (aI 64 fy), (aI 64 fc), (aI 11 fr), (aI 11 f1), (aI 11 f2), (aI 22 fi), (aB 4096 fo), (aB 8192 fq), (aZ 2 fh), (aI 2 fj), (aI 4096 fw), (aI 2100 fz)]) rfl rfl) hT hPm hG hRm hm0 hm1 hsd hht htp) (mFr_of (by intro a ha; simp only [List.mem_cons, List.not_mem_nil, or_false] at ha; omega))
    · obtain ⟨A, B, hA, hB, rfl, rfl⟩ := hasS_n b24 hc4
      have hAc : tN (nI A) = A := nI_clamp (by omega)
      have hBc : tN (nI B) = B := nI_clamp (by omega)
      obtain ⟨w9, hw9, rfl⟩ := in2 (m := 1000) (fun z => absurd (Int32.lt_of_lt_of_le z (by decide)) (Int32.not_lt.mpr (inB_1 b35).1)) (inB_1 b35).2 (by decide)
      have hwc : tN (nI w9) = w9 := nI_clamp (by omega)
      refine w_aload_n dX10_like_38 rfl ?_
      refine w_aload_n dX10_like_39 rfl ?_
      refine w_iload_n dX10_like_40 rfl ?_
      refine w_iload_n dX10_like_41 rfl ?_
      refine w_iload_n dX10_like_42 rfl ?_
      refine w_callV (ci := 10) (d' := d + 2) (mc' := 0) (ms' := 0) (As := [.int (nI A), .int (nI B), .int (nI w9)]) (st := [.ref m]) lX10_304 vX10_likeBy rfl (hUs_at nd 0 rfl rfl) rfl (Nat.le_of_ble_eq_true rfl) dX10_like_43 (Nat.le_of_ble_eq_true rfl) (Nat.le_of_ble_eq_true rfl) (Nat.le_refl _) (m_likeBy (hHas_sub nd (as' := [m, m + 18]) (cs' := [(oC 10 (mF m 0 tr pl (nI tp) sz sp fa fl tk ta sg nu wd (nI P.1) (nI P.2.1) rl rw ht sd ah cl)), (aB 4096 fo)]) [0, 2] rfl rfl) (by omega) (by omega) (by omega) ?_)
      refine w_callV (ci := 10) (d' := d + 2) (mc' := 0) (ms' := 0) (As := [.int (likF fo A B w9)]) (st := []) lX10_241 vX10_good rfl (hUs_at nd 0 rfl rfl) rfl (Nat.le_of_ble_eq_true rfl) dX10_like_46 (Nat.le_of_ble_eq_true rfl) (Nat.le_of_ble_eq_true rfl) (Nat.le_refl _) (m_good (hHas_sub nd (as' := [m]) (cs' := [(oC 10 (mF m 0 tr pl (nI tp) sz sp fa fl tk ta sg nu wd (nI P.1) (nI P.2.1) rl rw ht sd ah cl))]) [0] rfl rfl) (nd_sub nd (as' := [m]) [0] rfl rfl)  ?_)
      refine w_heq (hUs_in nd rfl [0] (cs2 := [(oC 10 (mF m 0 0 (-1) (nI tp) sz sp fa fl tk ta sg nu wd (nI P.1) (nI P.2.1) rl rw ht sd ah cl)), (aI 11 fr), (aB 4096 fo)]) rfl rfl) ?_
      refine w_goto (tgt := 57) dX10_like_49 rfl ?_
      refine w_ireturn rfl dX10_like_57 (Nat.le_of_ble_eq_true rfl) (Nat.le_of_ble_eq_true rfl) ?_
      have e : oLikF fo c (nI A) (nI B) (nI w9) = (likF fo A B w9, 0) := by
        simp only [oLikF]
        rw [if_neg (fun z => z.elim b24 (fun z => z.elim (fun z => absurd (inB_1 b35).1 (Int32.not_le.mpr z)) (fun z => absurd (inB_1 b35).2 (Int32.not_le.mpr z)))), hAc, hBc, hwc]
      rw [e] at k
      exact k _ (mI_i (cI_put hW (mAs_nd m) rfl [0, 14, 18] (cs2 := [(oC 10 (mF m 0 0 (-1) (nI tp) sz sp fa fl tk ta sg nu wd (nI P.1) (nI P.2.1) rl rw ht sd ah cl)), (aI 600 gt), (aL 8 ln), (aL 8 wn), (aI 8 fs), (aI 24 ff), (aI 8 fb), (aI 8 fn), (aI 8 fp), (aZ 8 f3), (aI 64 fk), (aI 64 fx), (aI 64 fy), (aI 64 fc), (aI 11 fr), (aI 11 f1), (aI 11 f2), (aI 22 fi), (aB 4096 fo), (aB 8192 fq), (aZ 2 fh), (aI 2 fj), (aI 4096 fw), (aI 2100 fz)]) rfl rfl) hT hPm hG hRm hm0 hm1 hsd hht htp) (mFr_of (by intro a ha; simp only [List.mem_cons, List.not_mem_nil, or_false] at ha; omega))
theorem q_like {G : wG} {d : Nat} {h : hH} {Q : Option Value → hH → Prop} {m : Nat} {ft : Nat → Int32} {tp : Nat} {P : pD} {ht : Int32} {R : Option rnD} {i0 i1 : imD} {sd fa pl tr : Int32} {th : Int32}  {a u y : Int32} (hI : mI h m ft tp P ht R i0 i1 sd fa pl tr th) (k : ∀ h2, mI h2 m ft tp P ht R i0 i1 sd fa (-1) (oLik P (R) a u y).2 0 → mFr m h h2 → Q (some (.int (oLik P (R) a u y).1)) h2) : Cl G yX10_like (d + 3) 0 0 [.ref m, .int a, .int u, .int y] h Q := by
  cases R with
  | none => exact q_like_n hI k
  | some r => obtain ⟨l, w, rs, c⟩ := r; exact q_like_s hI k
