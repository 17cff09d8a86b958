theorem ltF_dg {N K : Nat} (hN : N < 2 ^ 30) (hK : K < 6) : ltF (nI N) (nI K) = nI (N / 32 ^ K % 32) - 1 := by
  have hs : (((5 : Int32) * nI K &&& 31).toBitVec.smod 32).toNat = 5 * K := by
    rcases (show K = 0 ∨ K = 1 ∨ K = 2 ∨ K = 3 ∨ K = 4 ∨ K = 5 by omega) with rfl | rfl | rfl | rfl | rfl | rfl <;> decide
  have hd : N / 2 ^ (5 * K) ≤ N := Nat.div_le_self _ _
  have h0 : ¬ (nI K < 0 ∨ 6 ≤ nI K) := by
    rintro (z | z)
    · exact absurd ((nI_ltI (a := K) (b := 0) (by omega) (by omega)).mp z) (by omega)
    · exact absurd ((nI_leI (a := 6) (b := K) (by omega) (by omega)).mp z) (by omega)
  rw [ltF, if_neg h0, pk_shrN (by omega) _ (5 * K) hs, pk_andN (by omega) 5 rfl, show 2 ^ (5 * K) = 32 ^ K by rw [Nat.pow_mul]]
theorem ltF_out {v y : Int32} (h : ¬ (0 ≤ y ∧ y < nI 6)) : ltF v y = -1 := by
  have z : y < 0 ∨ 6 ≤ y := by
    rcases Int32.lt_or_le y 0 with a | a
    · exact Or.inl a
    · exact Or.inr (Int32.not_lt.mp (fun b => h ⟨a, b⟩))
  rw [ltF, if_pos z]
/-- a letter beyond the name's length -/
theorem ltF_no {N : Nat} {y : Int32} (hN : N < 2 ^ 30) (hG : nmG 6 N) (h : ¬ (0 ≤ y ∧ y < nI (dgs 6 N))) : ltF (nI N) y < 0 := by
  by_cases e : 0 ≤ y ∧ y < nI 6
  · obtain ⟨K, hK, rfl⟩ := in3 (Int32.not_lt.mpr e.1) e.2 (by omega)
    have hl := dgs_le 6 N
    have hd : dgs 6 N ≤ K := by
      rcases Nat.lt_or_ge K (dgs 6 N) with z | z
      · exact absurd ⟨e.1, (nI_ltI (by omega) (by omega)).mpr z⟩ h
      · exact z
    rw [ltF_dg hN hK, (nmG_dg 6 N hG K).2 hd]
    decide
  · rw [ltF_out e]; decide
theorem ltF_yes {N K : Nat} (hN : N < 2 ^ 30) (hG : nmG 6 N) (h : K < dgs 6 N) : ltF (nI N) (nI K) = nI (N / 32 ^ K % 32) - 1 ∧ ¬ ltF (nI N) (nI K) < 0 := by
  have hl := dgs_le 6 N
  have e := ltF_dg hN (show K < 6 by omega)
  have hg := (nmG_dg 6 N hG K).1 h
  refine ⟨e, ?_⟩
  rw [e]
  intro z
  have z1 := Int32.lt_iff_toInt_lt.mp z
  have z2 : (nI (N / 32 ^ K % 32) - 1).toInt = ((N / 32 ^ K % 32 : Nat) : Int) - 1 := pk_sub_toInt (b := 1) (by omega) (by omega)
  rw [z2, show (0 : Int32).toInt = 0 from rfl] at z1
  omega
theorem ltF_0 (y : Int32) : ltF 0 y < 0 := by
  have := ltF_no (N := 0) (y := y) (by decide) (Or.inl rfl) (by
    rintro ⟨z1, z2⟩
    exact absurd (Int32.lt_of_le_of_lt z1 z2) (by decide))
  exact this
/-- the name that a letter is asked of: of a loop, of a wave, or none -/
def nmA (P : pD) (x i : Int32) : Int32 := if x = 0 then (match ixN i P.1 with
  | none => 0
  | some j => (P.2.2.1 j).1) else if x = 1 then (match ixN i P.2.1 with
  | none => 0
  | some j => (P.2.2.2 j).1) else 0
theorem i64_mr {a : Nat} (h : a < 2 ^ 30) : (Int64.ofNat a - Int64.ofNat a / 32 * 32).toInt32 = nI (a % 32) := by
  rw [i64_dv h]
  have e : Int64.ofNat a - Int64.ofNat (a / 32) * 32 = Int64.ofNat (a % 32) := by
    have e1 : Int64.ofNat (a / 32) * 32 = Int64.ofNat (a / 32 * 32) := (Int64.ofNat_mul (a / 32) 32).symm
    have e2 : Int64.ofNat a = Int64.ofNat (a % 32) + Int64.ofNat (a / 32 * 32) := by
      rw [← Int64.ofNat_add]; congr 1; omega
    rw [e1, e2, Int64.add_sub_cancel]
  rw [e]
  apply Int32.toInt_inj.mp
  rw [Int64.toInt_toInt32, i64_toInt (by omega), show nI (a % 32) = Int32.ofNat (a % 32) from rfl, Int32.toInt_ofNat']
set_option maxRecDepth 100000 in
set_option maxHeartbeats 4000000 in
theorem q_letter_L {G : wG} {d : Nat} {h : hH} {Q : Option Value → hH → Prop} {m : Nat} {ft : Nat → Int32} {tp : Nat} {P : pD} {ht : Int32} {R : Option rnD} {i0 i1 : imD} {sd fa pl tr : Int32} {th : Int32}  {j : Nat} {y : Int32} (hI : mI h m ft tp P ht R i0 i1 sd fa pl tr th) (hj : j < P.1) (k : ∀ h2, mI h2 m ft tp P ht R i0 i1 sd fa pl tr (if ltF (nmA P 0 (nI j)) y < 0 then 1 else 0) → mFr m h h2 → Q (some (.int (if ltF (nmA P 0 (nI j)) y < 0 then 0 else ltF (nmA P 0 (nI j)) y))) h2) : Cl G yX10_letter (d + 2) 0 0 [.ref m, .int 0, .int (nI j), .int y] h Q := by
  refine mI_e hI ?_
  intro sz sp fl tk ta sg nu wd rl rw ah cl gt ln wn fs ff fb fn fp f3 fk fx fy fc fr f1 f2 fi fo fq fh fj fw fz hW hT hPm hG hRm hm0 hm1 hsd hht htp
  have hnL : P.1 ≤ 4096 := Nat.le_trans hG.2.2.1 (by decide)
  have hnW : P.2.1 ≤ 4096 := Nat.le_trans hG.2.2.2 (by decide)
  have hhL : (ht = 0 ∧ P.1 = 0) ∨ ht = 1 := hht.imp (fun z => ⟨z.1, z.2.1⟩) id
  have hhW : (ht = 0 ∧ P.2.1 = 0) ∨ ht = 1 := hht.imp (fun z => ⟨z.1, z.2.2⟩) id
  have hLp := hPm.1 j hj
  rw [Nat.zero_add] at hLp
  have hGl := hG.1 j hj
  have hj4 : j < 4 := Nat.lt_of_lt_of_le hj hG.2.2.1
  obtain ⟨N, hNm, hN30, hN0, hNg⟩ := hGl.2.2.2.2.2.2
  obtain ⟨D, hD⟩ : ∃ D, D = dgs 6 N := ⟨_, rfl⟩
  have hD6 : D ≤ 6 := by rw [hD]; exact dgs_le 6 N
  have hN1 : 1 ≤ N % 32 := (hNg.resolve_left (by omega)).1.1
  have hw : hHas h [m, m + 2] [(oC 10 (mF m th tr pl (nI tp) sz sp fa fl tk ta sg nu wd (nI P.1) (nI P.2.1) rl rw ht sd ah cl)), (aL 8 ln)] := hHas_s hW [0, 2] rfl rfl
  have nd : [m, m + 2].Nodup := (nd_inc ⟨by omega, trivial⟩)
  refine Cl.of (ini := false) kX10_letter (plainFor_of_name (by decide)) (by decide) (Nat.le_of_ble_eq_true rfl) rfl rfl (fun z => by cases z) ?_
  refine w_heq (hUs_id hw).symm ?_
  refine w_aload_n dX10_letter_0 rfl ?_
  refine w_iconst (v := 0) dX10_letter_1 (by decide) ?_
  refine w_put (fs' := (mF m 0 tr pl (nI tp) sz sp fa fl tk ta sg nu wd (nI P.1) (nI P.2.1) rl rw ht sd ah cl)) fX10_89 (hUs_at nd 0 rfl rfl) rfl rfl (Nat.le_of_ble_eq_true rfl) rfl dX10_letter_2 ?_
  refine w_heq (hUs_set nd rfl 0 (cs' := [(oC 10 (mF m 0 tr pl (nI tp) sz sp fa fl tk ta sg nu wd (nI P.1) (nI P.2.1) rl rw ht sd ah cl)), (aL 8 ln)]) rfl rfl) ?_
  refine w_iload_n dX10_letter_5 rfl ?_
  refine w_if_ne_f (tgt := 17) dX10_letter_6 rfl (by decide) ?_
  refine w_aload_n dX10_letter_9 rfl ?_
  refine w_iload_n dX10_letter_10 rfl ?_
  refine w_callV (ci := 10) (d' := d + 1) (mc' := 0) (ms' := 0) (As := [.int (nI j)]) (st := []) lX10_251 vX10_isLoop rfl (hUs_at nd 0 rfl rfl) rfl (Nat.le_of_ble_eq_true rfl) dX10_letter_11 (Nat.le_of_ble_eq_true rfl) (Nat.le_of_ble_eq_true rfl) (Nat.le_refl _) (m_isLoop (hHas_sub nd (as' := [m]) (cs' := [(oC 10 (mF m 0 tr pl (nI tp) sz sp fa fl tk ta sg nu wd (nI P.1) (nI P.2.1) rl rw ht sd ah cl))]) [0] rfl rfl) hnL hhL ?_)
  refine w_goto (tgt := 35) dX10_letter_14 rfl ?_
  refine w_istore (ls2 := [some (.ref m), some (.int 0), some (.int (nI j)), some (.int y), some (.int (ixB (nI j) P.1)), none, none, none, none, none]) dX10_letter_35 (by decide) rfl rfl ?_
  refine w_iload dX10_letter_37 rfl ?_
  refine w_if_ne_t (tgt := 46) dX10_letter_39 rfl (by rw [ixB_s hj hnL]; decide) ?_
  refine w_iload_n dX10_letter_46 rfl ?_
  refine w_if_ne_f (tgt := 59) dX10_letter_47 rfl (by decide) ?_
  refine w_aload_n dX10_letter_50 rfl ?_
  refine w_get (v := .ref (m + 2)) fX10_17 (hUs_at nd 0 rfl rfl) rfl dX10_letter_51 ?_
  refine w_iload_n dX10_letter_54 rfl ?_
  refine w_laloadN (hUs_at nd 1 rfl rfl) (by omega) (by omega) dX10_letter_55 ?_
  refine w_topV (z := .long (Int64.ofNat (acN N D))) (congrArg Value.long (hLp.2.2.2.2.2.trans (by rw [hNm, nmX_ac hN30, ← hD]))) ?_
  refine w_goto (tgt := 65) dX10_letter_56 rfl ?_
  refine w_lstore (ls2 := [some (.ref m), some (.int 0), some (.int (nI j)), some (.int y), some (.int (ixB (nI j) P.1)), some (.long (Int64.ofNat (acN N D))), none, none, none, none]) dX10_letter_65 (by decide) rfl rfl ?_
  refine w_iload_n dX10_letter_67 rfl ?_
  refine w_iconst (v := 0) dX10_letter_68 (by decide) ?_
  refine w_lload dX10_letter_69 rfl ?_
  refine w_callS (d' := d + 1) (mc' := 0) (ms' := 0) (As := [.long (Int64.ofNat (acN N D))]) (st := [.int 0, .int y]) lX10_341 vX10_lettersIn rfl (Nat.le_of_ble_eq_true rfl) dX10_letter_71 (Nat.le_of_ble_eq_true rfl) (Nat.le_of_ble_eq_true rfl) (Nat.le_refl _) (m_lettersIn hN1 hD6 ?_)
  refine w_iconst (v := 1) dX10_letter_74 (by decide) ?_
  refine w_isub dX10_letter_75 ?_
  refine w_callS (d' := d + 1) (mc' := 0) (ms' := 0) (As := [.int y, .int 0, .int ((nI D) - 1)]) (st := []) lX10_111 vX10_in rfl (Nat.le_of_ble_eq_true rfl) dX10_letter_76 (Nat.le_of_ble_eq_true rfl) (Nat.le_of_ble_eq_true rfl) (Nat.le_refl _) (c_in ?_)
  refine w_top (z := ixB y D) (ixB_in (by omega)) ?_
  refine w_if_ne (tgt := 89) dX10_letter_79 rfl (fun b79 => ?_) (fun b79 => ?_)
  · obtain ⟨K, hK, rfl⟩ := in3 (Int32.not_lt.mpr (ixB_1 b79).1) (ixB_1 b79).2 (show D < 2 ^ 31 by omega)
    obtain ⟨n9, hn9⟩ : ∃ n9, D = K + n9 + 1 := ⟨D - K - 1, by omega⟩
    refine w_lload dX10_letter_89 rfl ?_
    refine w_topV (z := .long (Int64.ofNat (acN N (K + n9 + 1)))) (by rw [hn9]) ?_
    refine w_lstore (ls2 := [some (.ref m), some (.int 0), some (.int (nI j)), some (.int (nI K)), some (.int (ixB (nI j) P.1)), some (.long (Int64.ofNat (acN N D))), none, some (.long (Int64.ofNat (acN N (K + n9 + 1)))), none, none]) dX10_letter_91 (by decide) rfl rfl ?_
    refine w_lload dX10_letter_93 rfl ?_
    refine w_callS (d' := d + 1) (mc' := 0) (ms' := 0) (As := [.long (Int64.ofNat (acN N D))]) (st := []) lX10_341 vX10_lettersIn rfl (Nat.le_of_ble_eq_true rfl) dX10_letter_95 (Nat.le_of_ble_eq_true rfl) (Nat.le_of_ble_eq_true rfl) (Nat.le_refl _) (m_lettersIn hN1 hD6 ?_)
    refine w_iconst (v := 1) dX10_letter_98 (by decide) ?_
    refine w_isub dX10_letter_99 ?_
    refine w_top (z := nI (K + n9)) (by rw [hn9]; exact pk_sub (a := K + n9 + 1) (b := 1) (by omega)) ?_
    refine w_istore (ls2 := [some (.ref m), some (.int 0), some (.int (nI j)), some (.int (nI K)), some (.int (ixB (nI j) P.1)), some (.long (Int64.ofNat (acN N D))), none, some (.long (Int64.ofNat (acN N (K + n9 + 1)))), none, some (.int (nI (K + n9)))]) dX10_letter_100 (by decide) rfl rfl ?_
    refine w_less (ls2 := [some (.ref m), some (.int 0), some (.int (nI j)), some (.int (nI K)), none, some (.long (Int64.ofNat (acN N D))), none, some (.long (Int64.ofNat (acN N (K + n9 + 1)))), none, some (.int (nI (K + n9)))]) ⟨Or.inr rfl, Or.inr rfl, Or.inr rfl, Or.inr rfl, Or.inl rfl, Or.inr rfl, Or.inl rfl, Or.inr rfl, Or.inl rfl, Or.inr rfl, trivial⟩ ?_
    refine l_lt (N := N) (K := K) ?_ n9 (by omega)
    refine w_lload dX10_letter_122 rfl ?_
    refine w_ldc2 nX10_129 dX10_letter_124 ?_
    refine w_lrem dX10_letter_127 (by decide) ?_
    refine w_l2i dX10_letter_128 ?_
    refine w_top (z := nI (N / 32 ^ K % 32)) ((i64_mr (acN_30 N (by omega))).trans (by rw [acN_md])) ?_
    refine w_iconst (v := 1) dX10_letter_129 (by decide) ?_
    refine w_isub dX10_letter_130 ?_
    refine w_ireturn rfl dX10_letter_131 (Nat.le_of_ble_eq_true rfl) (Nat.le_of_ble_eq_true rfl) ?_
    have e : nmA P 0 (nI j) = nI N := by
      rw [nmA, if_pos rfl, ixN_s hj hnL]
      exact hNm
    have e2 := ltF_yes hN30 hNg (show K < dgs 6 N by omega)
    rw [e, if_neg e2.2, if_neg e2.2, e2.1] at k
    exact k _ (mI_i (cI_put hW (mAs_nd m) rfl [0, 2] (cs2 := [(oC 10 (mF m 0 tr pl (nI tp) sz sp fa fl tk ta sg nu wd (nI P.1) (nI P.2.1) rl rw ht sd ah cl)), (aI 600 gt), (aL 8 ln), (aL 8 wn), (aI 8 fs), (aI 24 ff), (aI 8 fb), (aI 8 fn), (aI 8 fp), (aZ 8 f3), (aI 64 fk), (aI 64 fx), (aI 64 fy), (aI 64 fc), (aI 11 fr), (aI 11 f1), (aI 11 f2), (aI 22 fi), (aB 4096 fo), (aB 8192 fq), (aZ 2 fh), (aI 2 fj), (aI 4096 fw), (aI 2100 fz)]) rfl rfl) hT hPm hG hRm hm0 hm1 hsd hht htp) (mFr_of (by intro a ha; simp only [List.mem_cons, List.not_mem_nil, or_false] at ha; omega))
  · refine w_aload_n dX10_letter_82 rfl ?_
    refine w_iconst (v := 1) dX10_letter_83 (by decide) ?_
    refine w_put (fs' := (mF m 1 tr pl (nI tp) sz sp fa fl tk ta sg nu wd (nI P.1) (nI P.2.1) rl rw ht sd ah cl)) fX10_89 (hUs_at nd 0 rfl rfl) rfl rfl (Nat.le_of_ble_eq_true rfl) rfl dX10_letter_84 ?_
    refine w_heq (hUs_set nd rfl 0 (cs' := [(oC 10 (mF m 1 tr pl (nI tp) sz sp fa fl tk ta sg nu wd (nI P.1) (nI P.2.1) rl rw ht sd ah cl)), (aL 8 ln)]) rfl rfl) ?_
    refine w_iconst (v := 0) dX10_letter_87 (by decide) ?_
    refine w_ireturn rfl dX10_letter_88 (Nat.le_of_ble_eq_true rfl) (Nat.le_of_ble_eq_true rfl) ?_
    have e : nmA P 0 (nI j) = nI N := by
      rw [nmA, if_pos rfl, ixN_s hj hnL]
      exact hNm
    have e2 : ltF (nI N) y < 0 := ltF_no hN30 hNg (by rw [← hD]; exact ixB_0 b79)
    rw [e, if_pos e2, if_pos e2] at k
    exact k _ (mI_i (cI_put hW (mAs_nd m) rfl [0, 2] (cs2 := [(oC 10 (mF m 1 tr pl (nI tp) sz sp fa fl tk ta sg nu wd (nI P.1) (nI P.2.1) rl rw ht sd ah cl)), (aI 600 gt), (aL 8 ln), (aL 8 wn), (aI 8 fs), (aI 24 ff), (aI 8 fb), (aI 8 fn), (aI 8 fp), (aZ 8 f3), (aI 64 fk), (aI 64 fx), (aI 64 fy), (aI 64 fc), (aI 11 fr), (aI 11 f1), (aI 11 f2), (aI 22 fi), (aB 4096 fo), (aB 8192 fq), (aZ 2 fh), (aI 2 fj), (aI 4096 fw), (aI 2100 fz)]) rfl rfl) hT hPm hG hRm hm0 hm1 hsd hht htp) (mFr_of (by intro a ha; simp only [List.mem_cons, List.not_mem_nil, or_false] at ha; omega))
set_option maxRecDepth 100000 in
set_option maxHeartbeats 4000000 in
theorem q_letter_W {G : wG} {d : Nat} {h : hH} {Q : Option Value → hH → Prop} {m : Nat} {ft : Nat → Int32} {tp : Nat} {P : pD} {ht : Int32} {R : Option rnD} {i0 i1 : imD} {sd fa pl tr : Int32} {th : Int32}  {j : Nat} {y : Int32} (hI : mI h m ft tp P ht R i0 i1 sd fa pl tr th) (hj : j < P.2.1) (k : ∀ h2, mI h2 m ft tp P ht R i0 i1 sd fa pl tr (if ltF (nmA P 1 (nI j)) y < 0 then 1 else 0) → mFr m h h2 → Q (some (.int (if ltF (nmA P 1 (nI j)) y < 0 then 0 else ltF (nmA P 1 (nI j)) y))) h2) : Cl G yX10_letter (d + 2) 0 0 [.ref m, .int 1, .int (nI j), .int y] h Q := by
  refine mI_e hI ?_
  intro sz sp fl tk ta sg nu wd rl rw ah cl gt ln wn fs ff fb fn fp f3 fk fx fy fc fr f1 f2 fi fo fq fh fj fw fz hW hT hPm hG hRm hm0 hm1 hsd hht htp
  have hnL : P.1 ≤ 4096 := Nat.le_trans hG.2.2.1 (by decide)
  have hnW : P.2.1 ≤ 4096 := Nat.le_trans hG.2.2.2 (by decide)
  have hhL : (ht = 0 ∧ P.1 = 0) ∨ ht = 1 := hht.imp (fun z => ⟨z.1, z.2.1⟩) id
  have hhW : (ht = 0 ∧ P.2.1 = 0) ∨ ht = 1 := hht.imp (fun z => ⟨z.1, z.2.2⟩) id
  have hWv := hPm.2 j hj
  rw [Nat.zero_add] at hWv
  have hj4 : j < 4 := Nat.lt_of_lt_of_le hj hG.2.2.2
  obtain ⟨N, hNm, hN30, hN0, hNg⟩ := (hG.2.1 j hj).2
  obtain ⟨D, hD⟩ : ∃ D, D = dgs 6 N := ⟨_, rfl⟩
  have hD6 : D ≤ 6 := by rw [hD]; exact dgs_le 6 N
  have hN1 : 1 ≤ N % 32 := (hNg.resolve_left (by omega)).1.1
  have hw : hHas h [m, m + 3] [(oC 10 (mF m th tr pl (nI tp) sz sp fa fl tk ta sg nu wd (nI P.1) (nI P.2.1) rl rw ht sd ah cl)), (aL 8 wn)] := hHas_s hW [0, 3] rfl rfl
  have nd : [m, m + 3].Nodup := (nd_inc ⟨by omega, trivial⟩)
  refine Cl.of (ini := false) kX10_letter (plainFor_of_name (by decide)) (by decide) (Nat.le_of_ble_eq_true rfl) rfl rfl (fun z => by cases z) ?_
  refine w_heq (hUs_id hw).symm ?_
  refine w_aload_n dX10_letter_0 rfl ?_
  refine w_iconst (v := 0) dX10_letter_1 (by decide) ?_
  refine w_put (fs' := (mF m 0 tr pl (nI tp) sz sp fa fl tk ta sg nu wd (nI P.1) (nI P.2.1) rl rw ht sd ah cl)) fX10_89 (hUs_at nd 0 rfl rfl) rfl rfl (Nat.le_of_ble_eq_true rfl) rfl dX10_letter_2 ?_
  refine w_heq (hUs_set nd rfl 0 (cs' := [(oC 10 (mF m 0 tr pl (nI tp) sz sp fa fl tk ta sg nu wd (nI P.1) (nI P.2.1) rl rw ht sd ah cl)), (aL 8 wn)]) rfl rfl) ?_
  refine w_iload_n dX10_letter_5 rfl ?_
  refine w_if_ne_t (tgt := 17) dX10_letter_6 rfl (by decide) ?_
  refine w_iload_n dX10_letter_17 rfl ?_
  refine w_iconst (v := 1) dX10_letter_18 (by decide) ?_
  refine w_icmp_ne_f (tgt := 34) dX10_letter_19 rfl (by decide) ?_
  refine w_aload_n dX10_letter_22 rfl ?_
  refine w_iload_n dX10_letter_23 rfl ?_
  refine w_callV (ci := 10) (d' := d + 1) (mc' := 0) (ms' := 0) (As := [.int (nI j)]) (st := []) lX10_263 vX10_isWave rfl (hUs_at nd 0 rfl rfl) rfl (Nat.le_of_ble_eq_true rfl) dX10_letter_24 (Nat.le_of_ble_eq_true rfl) (Nat.le_of_ble_eq_true rfl) (Nat.le_refl _) (m_isWave (hHas_sub nd (as' := [m]) (cs' := [(oC 10 (mF m 0 tr pl (nI tp) sz sp fa fl tk ta sg nu wd (nI P.1) (nI P.2.1) rl rw ht sd ah cl))]) [0] rfl rfl) hnW hhW ?_)
  refine w_if_eq_f (tgt := 34) dX10_letter_27 rfl (by rw [ixB_s hj hnW]; decide) ?_
  refine w_iconst (v := 1) dX10_letter_30 (by decide) ?_
  refine w_goto (tgt := 35) dX10_letter_31 rfl ?_
  refine w_istore (ls2 := [some (.ref m), some (.int 1), some (.int (nI j)), some (.int y), some (.int 1), none, none, none, none, none]) dX10_letter_35 (by decide) rfl rfl ?_
  refine w_iload dX10_letter_37 rfl ?_
  refine w_if_ne_t (tgt := 46) dX10_letter_39 rfl (by decide) ?_
  refine w_iload_n dX10_letter_46 rfl ?_
  refine w_if_ne_t (tgt := 59) dX10_letter_47 rfl (by decide) ?_
  refine w_aload_n dX10_letter_59 rfl ?_
  refine w_get (v := .ref (m + 3)) fX10_21 (hUs_at nd 0 rfl rfl) rfl dX10_letter_60 ?_
  refine w_iload_n dX10_letter_63 rfl ?_
  refine w_laloadN (hUs_at nd 1 rfl rfl) (by omega) (by omega) dX10_letter_64 ?_
  refine w_topV (z := .long (Int64.ofNat (acN N D))) (congrArg Value.long (hWv.2.2.trans (by rw [hNm, nmX_ac hN30, ← hD]))) ?_
  refine w_lstore (ls2 := [some (.ref m), some (.int 1), some (.int (nI j)), some (.int y), some (.int 1), some (.long (Int64.ofNat (acN N D))), none, none, none, none]) dX10_letter_65 (by decide) rfl rfl ?_
  refine w_iload_n dX10_letter_67 rfl ?_
  refine w_iconst (v := 0) dX10_letter_68 (by decide) ?_
  refine w_lload dX10_letter_69 rfl ?_
  refine w_callS (d' := d + 1) (mc' := 0) (ms' := 0) (As := [.long (Int64.ofNat (acN N D))]) (st := [.int 0, .int y]) lX10_341 vX10_lettersIn rfl (Nat.le_of_ble_eq_true rfl) dX10_letter_71 (Nat.le_of_ble_eq_true rfl) (Nat.le_of_ble_eq_true rfl) (Nat.le_refl _) (m_lettersIn hN1 hD6 ?_)
  refine w_iconst (v := 1) dX10_letter_74 (by decide) ?_
  refine w_isub dX10_letter_75 ?_
  refine w_callS (d' := d + 1) (mc' := 0) (ms' := 0) (As := [.int y, .int 0, .int ((nI D) - 1)]) (st := []) lX10_111 vX10_in rfl (Nat.le_of_ble_eq_true rfl) dX10_letter_76 (Nat.le_of_ble_eq_true rfl) (Nat.le_of_ble_eq_true rfl) (Nat.le_refl _) (c_in ?_)
  refine w_top (z := ixB y D) (ixB_in (by omega)) ?_
  refine w_if_ne (tgt := 89) dX10_letter_79 rfl (fun b79 => ?_) (fun b79 => ?_)
  · obtain ⟨K, hK, rfl⟩ := in3 (Int32.not_lt.mpr (ixB_1 b79).1) (ixB_1 b79).2 (show D < 2 ^ 31 by omega)
    obtain ⟨n9, hn9⟩ : ∃ n9, D = K + n9 + 1 := ⟨D - K - 1, by omega⟩
    refine w_lload dX10_letter_89 rfl ?_
    refine w_topV (z := .long (Int64.ofNat (acN N (K + n9 + 1)))) (by rw [hn9]) ?_
    refine w_lstore (ls2 := [some (.ref m), some (.int 1), some (.int (nI j)), some (.int (nI K)), some (.int 1), some (.long (Int64.ofNat (acN N D))), none, some (.long (Int64.ofNat (acN N (K + n9 + 1)))), none, none]) dX10_letter_91 (by decide) rfl rfl ?_
    refine w_lload dX10_letter_93 rfl ?_
    refine w_callS (d' := d + 1) (mc' := 0) (ms' := 0) (As := [.long (Int64.ofNat (acN N D))]) (st := []) lX10_341 vX10_lettersIn rfl (Nat.le_of_ble_eq_true rfl) dX10_letter_95 (Nat.le_of_ble_eq_true rfl) (Nat.le_of_ble_eq_true rfl) (Nat.le_refl _) (m_lettersIn hN1 hD6 ?_)
    refine w_iconst (v := 1) dX10_letter_98 (by decide) ?_
    refine w_isub dX10_letter_99 ?_
    refine w_top (z := nI (K + n9)) (by rw [hn9]; exact pk_sub (a := K + n9 + 1) (b := 1) (by omega)) ?_
    refine w_istore (ls2 := [some (.ref m), some (.int 1), some (.int (nI j)), some (.int (nI K)), some (.int 1), some (.long (Int64.ofNat (acN N D))), none, some (.long (Int64.ofNat (acN N (K + n9 + 1)))), none, some (.int (nI (K + n9)))]) dX10_letter_100 (by decide) rfl rfl ?_
    refine w_less (ls2 := [some (.ref m), some (.int 1), some (.int (nI j)), some (.int (nI K)), none, some (.long (Int64.ofNat (acN N D))), none, some (.long (Int64.ofNat (acN N (K + n9 + 1)))), none, some (.int (nI (K + n9)))]) ⟨Or.inr rfl, Or.inr rfl, Or.inr rfl, Or.inr rfl, Or.inl rfl, Or.inr rfl, Or.inl rfl, Or.inr rfl, Or.inl rfl, Or.inr rfl, trivial⟩ ?_
    refine l_lt (N := N) (K := K) ?_ n9 (by omega)
    refine w_lload dX10_letter_122 rfl ?_
    refine w_ldc2 nX10_129 dX10_letter_124 ?_
    refine w_lrem dX10_letter_127 (by decide) ?_
    refine w_l2i dX10_letter_128 ?_
    refine w_top (z := nI (N / 32 ^ K % 32)) ((i64_mr (acN_30 N (by omega))).trans (by rw [acN_md])) ?_
    refine w_iconst (v := 1) dX10_letter_129 (by decide) ?_
    refine w_isub dX10_letter_130 ?_
    refine w_ireturn rfl dX10_letter_131 (Nat.le_of_ble_eq_true rfl) (Nat.le_of_ble_eq_true rfl) ?_
    have e : nmA P 1 (nI j) = nI N := by
      rw [nmA, if_neg (by decide), if_pos rfl, ixN_s hj hnW]
      exact hNm
    have e2 := ltF_yes hN30 hNg (show K < dgs 6 N by omega)
    rw [e, if_neg e2.2, if_neg e2.2, e2.1] at k
    exact k _ (mI_i (cI_put hW (mAs_nd m) rfl [0, 3] (cs2 := [(oC 10 (mF m 0 tr pl (nI tp) sz sp fa fl tk ta sg nu wd (nI P.1) (nI P.2.1) rl rw ht sd ah cl)), (aI 600 gt), (aL 8 ln), (aL 8 wn), (aI 8 fs), (aI 24 ff), (aI 8 fb), (aI 8 fn), (aI 8 fp), (aZ 8 f3), (aI 64 fk), (aI 64 fx), (aI 64 fy), (aI 64 fc), (aI 11 fr), (aI 11 f1), (aI 11 f2), (aI 22 fi), (aB 4096 fo), (aB 8192 fq), (aZ 2 fh), (aI 2 fj), (aI 4096 fw), (aI 2100 fz)]) rfl rfl) hT hPm hG hRm hm0 hm1 hsd hht htp) (mFr_of (by intro a ha; simp only [List.mem_cons, List.not_mem_nil, or_false] at ha; omega))
  · refine w_aload_n dX10_letter_82 rfl ?_
    refine w_iconst (v := 1) dX10_letter_83 (by decide) ?_
    refine w_put (fs' := (mF m 1 tr pl (nI tp) sz sp fa fl tk ta sg nu wd (nI P.1) (nI P.2.1) rl rw ht sd ah cl)) fX10_89 (hUs_at nd 0 rfl rfl) rfl rfl (Nat.le_of_ble_eq_true rfl) rfl dX10_letter_84 ?_
    refine w_heq (hUs_set nd rfl 0 (cs' := [(oC 10 (mF m 1 tr pl (nI tp) sz sp fa fl tk ta sg nu wd (nI P.1) (nI P.2.1) rl rw ht sd ah cl)), (aL 8 wn)]) rfl rfl) ?_
    refine w_iconst (v := 0) dX10_letter_87 (by decide) ?_
    refine w_ireturn rfl dX10_letter_88 (Nat.le_of_ble_eq_true rfl) (Nat.le_of_ble_eq_true rfl) ?_
    have e : nmA P 1 (nI j) = nI N := by
      rw [nmA, if_neg (by decide), if_pos rfl, ixN_s hj hnW]
      exact hNm
    have e2 : ltF (nI N) y < 0 := ltF_no hN30 hNg (by rw [← hD]; exact ixB_0 b79)
    rw [e, if_pos e2, if_pos e2] at k
    exact k _ (mI_i (cI_put hW (mAs_nd m) rfl [0, 3] (cs2 := [(oC 10 (mF m 1 tr pl (nI tp) sz sp fa fl tk ta sg nu wd (nI P.1) (nI P.2.1) rl rw ht sd ah cl)), (aI 600 gt), (aL 8 ln), (aL 8 wn), (aI 8 fs), (aI 24 ff), (aI 8 fb), (aI 8 fn), (aI 8 fp), (aZ 8 f3), (aI 64 fk), (aI 64 fx), (aI 64 fy), (aI 64 fc), (aI 11 fr), (aI 11 f1), (aI 11 f2), (aI 22 fi), (aB 4096 fo), (aB 8192 fq), (aZ 2 fh), (aI 2 fj), (aI 4096 fw), (aI 2100 fz)]) rfl rfl) hT hPm hG hRm hm0 hm1 hsd hht htp) (mFr_of (by intro a ha; simp only [List.mem_cons, List.not_mem_nil, or_false] at ha; omega))
set_option maxRecDepth 100000 in
set_option maxHeartbeats 4000000 in
theorem q_letter_l {G : wG} {d : Nat} {h : hH} {Q : Option Value → hH → Prop} {m : Nat} {ft : Nat → Int32} {tp : Nat} {P : pD} {ht : Int32} {R : Option rnD} {i0 i1 : imD} {sd fa pl tr : Int32} {th : Int32}  {i y : Int32} (hI : mI h m ft tp P ht R i0 i1 sd fa pl tr th) (hl : ¬ ∃ j, j < P.1 ∧ i = nI j) (k : ∀ h2, mI h2 m ft tp P ht R i0 i1 sd fa pl tr (if ltF (nmA P 0 i) y < 0 then 1 else 0) → mFr m h h2 → Q (some (.int (if ltF (nmA P 0 i) y < 0 then 0 else ltF (nmA P 0 i) y))) h2) : Cl G yX10_letter (d + 2) 0 0 [.ref m, .int 0, .int i, .int y] h Q := by
  refine mI_e hI ?_
  intro sz sp fl tk ta sg nu wd rl rw ah cl gt ln wn fs ff fb fn fp f3 fk fx fy fc fr f1 f2 fi fo fq fh fj fw fz hW hT hPm hG hRm hm0 hm1 hsd hht htp
  have hnL : P.1 ≤ 4096 := Nat.le_trans hG.2.2.1 (by decide)
  have hnW : P.2.1 ≤ 4096 := Nat.le_trans hG.2.2.2 (by decide)
  have hhL : (ht = 0 ∧ P.1 = 0) ∨ ht = 1 := hht.imp (fun z => ⟨z.1, z.2.1⟩) id
  have hhW : (ht = 0 ∧ P.2.1 = 0) ∨ ht = 1 := hht.imp (fun z => ⟨z.1, z.2.2⟩) id
  have hw : hHas h [m] [(oC 10 (mF m th tr pl (nI tp) sz sp fa fl tk ta sg nu wd (nI P.1) (nI P.2.1) rl rw ht sd ah cl))] := hHas_s hW [0] rfl rfl
  have nd : [m].Nodup := (nd_inc trivial)
  refine Cl.of (ini := false) kX10_letter (plainFor_of_name (by decide)) (by decide) (Nat.le_of_ble_eq_true rfl) rfl rfl (fun z => by cases z) ?_
  refine w_heq (hUs_id hw).symm ?_
  refine w_aload_n dX10_letter_0 rfl ?_
  refine w_iconst (v := 0) dX10_letter_1 (by decide) ?_
  refine w_put (fs' := (mF m 0 tr pl (nI tp) sz sp fa fl tk ta sg nu wd (nI P.1) (nI P.2.1) rl rw ht sd ah cl)) fX10_89 (hUs_at nd 0 rfl rfl) rfl rfl (Nat.le_of_ble_eq_true rfl) rfl dX10_letter_2 ?_
  refine w_heq (hUs_set nd rfl 0 (cs' := [(oC 10 (mF m 0 tr pl (nI tp) sz sp fa fl tk ta sg nu wd (nI P.1) (nI P.2.1) rl rw ht sd ah cl))]) rfl rfl) ?_
  refine w_iload_n dX10_letter_5 rfl ?_
  refine w_if_ne_f (tgt := 17) dX10_letter_6 rfl (by decide) ?_
  refine w_aload_n dX10_letter_9 rfl ?_
  refine w_iload_n dX10_letter_10 rfl ?_
  refine w_callV (ci := 10) (d' := d + 1) (mc' := 0) (ms' := 0) (As := [.int i]) (st := []) lX10_251 vX10_isLoop rfl (hUs_at nd 0 rfl rfl) rfl (Nat.le_of_ble_eq_true rfl) dX10_letter_11 (Nat.le_of_ble_eq_true rfl) (Nat.le_of_ble_eq_true rfl) (Nat.le_refl _) (m_isLoop (hHas_sub nd (as' := [m]) (cs' := [(oC 10 (mF m 0 tr pl (nI tp) sz sp fa fl tk ta sg nu wd (nI P.1) (nI P.2.1) rl rw ht sd ah cl))]) [0] rfl rfl) hnL hhL ?_)
  refine w_goto (tgt := 35) dX10_letter_14 rfl ?_
  refine w_istore (ls2 := [some (.ref m), some (.int 0), some (.int i), some (.int y), some (.int (ixB i P.1)), none, none, none, none, none]) dX10_letter_35 (by decide) rfl rfl ?_
  refine w_iload dX10_letter_37 rfl ?_
  refine w_if_ne_f (tgt := 46) dX10_letter_39 rfl (ixB_n hl hnL) ?_
  refine w_lconst (v := 0) dX10_letter_42 (by decide) ?_
  refine w_goto (tgt := 65) dX10_letter_43 rfl ?_
  refine w_topV (z := .long (Int64.ofNat (acN 1 0))) rfl ?_
  refine w_lstore (ls2 := [some (.ref m), some (.int 0), some (.int i), some (.int y), some (.int (ixB i P.1)), some (.long (Int64.ofNat (acN 1 0))), none, none, none, none]) dX10_letter_65 (by decide) rfl rfl ?_
  refine w_iload_n dX10_letter_67 rfl ?_
  refine w_iconst (v := 0) dX10_letter_68 (by decide) ?_
  refine w_lload dX10_letter_69 rfl ?_
  refine w_callS (d' := d + 1) (mc' := 0) (ms' := 0) (As := [.long (Int64.ofNat (acN 1 0))]) (st := [.int 0, .int y]) lX10_341 vX10_lettersIn rfl (Nat.le_of_ble_eq_true rfl) dX10_letter_71 (Nat.le_of_ble_eq_true rfl) (Nat.le_of_ble_eq_true rfl) (Nat.le_refl _) (m_lettersIn (N := 1) (i := 0) (by decide) (by decide) ?_)
  refine w_iconst (v := 1) dX10_letter_74 (by decide) ?_
  refine w_isub dX10_letter_75 ?_
  refine w_callS (d' := d + 1) (mc' := 0) (ms' := 0) (As := [.int y, .int 0, .int ((nI 0) - 1)]) (st := []) lX10_111 vX10_in rfl (Nat.le_of_ble_eq_true rfl) dX10_letter_76 (Nat.le_of_ble_eq_true rfl) (Nat.le_of_ble_eq_true rfl) (Nat.le_refl _) (c_in ?_)
  refine w_top (z := ixB y 0) (ixB_in (by omega)) ?_
  refine w_if_ne_f (tgt := 89) dX10_letter_79 rfl (ixB_n (fun ⟨j, z, _⟩ => absurd z (Nat.not_lt_zero j)) (by omega)) ?_
  refine w_aload_n dX10_letter_82 rfl ?_
  refine w_iconst (v := 1) dX10_letter_83 (by decide) ?_
  refine w_put (fs' := (mF m 1 tr pl (nI tp) sz sp fa fl tk ta sg nu wd (nI P.1) (nI P.2.1) rl rw ht sd ah cl)) fX10_89 (hUs_at nd 0 rfl rfl) rfl rfl (Nat.le_of_ble_eq_true rfl) rfl dX10_letter_84 ?_
  refine w_heq (hUs_set nd rfl 0 (cs' := [(oC 10 (mF m 1 tr pl (nI tp) sz sp fa fl tk ta sg nu wd (nI P.1) (nI P.2.1) rl rw ht sd ah cl))]) rfl rfl) ?_
  refine w_iconst (v := 0) dX10_letter_87 (by decide) ?_
  refine w_ireturn rfl dX10_letter_88 (Nat.le_of_ble_eq_true rfl) (Nat.le_of_ble_eq_true rfl) ?_
  have e : nmA P 0 i = 0 := by
    rw [nmA, if_pos rfl, ixN_n hl hnL]
  rw [e, if_pos (ltF_0 y), if_pos (ltF_0 y)] at k
  exact k _ (mI_i (cI_put hW (mAs_nd m) rfl [0] (cs2 := [(oC 10 (mF m 1 tr pl (nI tp) sz sp fa fl tk ta sg nu wd (nI P.1) (nI P.2.1) rl rw ht sd ah cl)), (aI 600 gt), (aL 8 ln), (aL 8 wn), (aI 8 fs), (aI 24 ff), (aI 8 fb), (aI 8 fn), (aI 8 fp), (aZ 8 f3), (aI 64 fk), (aI 64 fx), (aI 64 fy), (aI 64 fc), (aI 11 fr), (aI 11 f1), (aI 11 f2), (aI 22 fi), (aB 4096 fo), (aB 8192 fq), (aZ 2 fh), (aI 2 fj), (aI 4096 fw), (aI 2100 fz)]) rfl rfl) hT hPm hG hRm hm0 hm1 hsd hht htp) (mFr_of (by intro a ha; simp only [List.mem_cons, List.not_mem_nil, or_false] at ha; omega))
set_option maxRecDepth 100000 in
set_option maxHeartbeats 4000000 in
theorem q_letter_w {G : wG} {d : Nat} {h : hH} {Q : Option Value → hH → Prop} {m : Nat} {ft : Nat → Int32} {tp : Nat} {P : pD} {ht : Int32} {R : Option rnD} {i0 i1 : imD} {sd fa pl tr : Int32} {th : Int32}  {i y : Int32} (hI : mI h m ft tp P ht R i0 i1 sd fa pl tr th) (hl : ¬ ∃ j, j < P.2.1 ∧ i = nI j) (k : ∀ h2, mI h2 m ft tp P ht R i0 i1 sd fa pl tr (if ltF (nmA P 1 i) y < 0 then 1 else 0) → mFr m h h2 → Q (some (.int (if ltF (nmA P 1 i) y < 0 then 0 else ltF (nmA P 1 i) y))) h2) : Cl G yX10_letter (d + 2) 0 0 [.ref m, .int 1, .int i, .int y] h Q := by
  refine mI_e hI ?_
  intro sz sp fl tk ta sg nu wd rl rw ah cl gt ln wn fs ff fb fn fp f3 fk fx fy fc fr f1 f2 fi fo fq fh fj fw fz hW hT hPm hG hRm hm0 hm1 hsd hht htp
  have hnL : P.1 ≤ 4096 := Nat.le_trans hG.2.2.1 (by decide)
  have hnW : P.2.1 ≤ 4096 := Nat.le_trans hG.2.2.2 (by decide)
  have hhL : (ht = 0 ∧ P.1 = 0) ∨ ht = 1 := hht.imp (fun z => ⟨z.1, z.2.1⟩) id
  have hhW : (ht = 0 ∧ P.2.1 = 0) ∨ ht = 1 := hht.imp (fun z => ⟨z.1, z.2.2⟩) id
  have hw : hHas h [m] [(oC 10 (mF m th tr pl (nI tp) sz sp fa fl tk ta sg nu wd (nI P.1) (nI P.2.1) rl rw ht sd ah cl))] := hHas_s hW [0] rfl rfl
  have nd : [m].Nodup := (nd_inc trivial)
  refine Cl.of (ini := false) kX10_letter (plainFor_of_name (by decide)) (by decide) (Nat.le_of_ble_eq_true rfl) rfl rfl (fun z => by cases z) ?_
  refine w_heq (hUs_id hw).symm ?_
  refine w_aload_n dX10_letter_0 rfl ?_
  refine w_iconst (v := 0) dX10_letter_1 (by decide) ?_
  refine w_put (fs' := (mF m 0 tr pl (nI tp) sz sp fa fl tk ta sg nu wd (nI P.1) (nI P.2.1) rl rw ht sd ah cl)) fX10_89 (hUs_at nd 0 rfl rfl) rfl rfl (Nat.le_of_ble_eq_true rfl) rfl dX10_letter_2 ?_
  refine w_heq (hUs_set nd rfl 0 (cs' := [(oC 10 (mF m 0 tr pl (nI tp) sz sp fa fl tk ta sg nu wd (nI P.1) (nI P.2.1) rl rw ht sd ah cl))]) rfl rfl) ?_
  refine w_iload_n dX10_letter_5 rfl ?_
  refine w_if_ne_t (tgt := 17) dX10_letter_6 rfl (by decide) ?_
  refine w_iload_n dX10_letter_17 rfl ?_
  refine w_iconst (v := 1) dX10_letter_18 (by decide) ?_
  refine w_icmp_ne_f (tgt := 34) dX10_letter_19 rfl (by decide) ?_
  refine w_aload_n dX10_letter_22 rfl ?_
  refine w_iload_n dX10_letter_23 rfl ?_
  refine w_callV (ci := 10) (d' := d + 1) (mc' := 0) (ms' := 0) (As := [.int i]) (st := []) lX10_263 vX10_isWave rfl (hUs_at nd 0 rfl rfl) rfl (Nat.le_of_ble_eq_true rfl) dX10_letter_24 (Nat.le_of_ble_eq_true rfl) (Nat.le_of_ble_eq_true rfl) (Nat.le_refl _) (m_isWave (hHas_sub nd (as' := [m]) (cs' := [(oC 10 (mF m 0 tr pl (nI tp) sz sp fa fl tk ta sg nu wd (nI P.1) (nI P.2.1) rl rw ht sd ah cl))]) [0] rfl rfl) hnW hhW ?_)
  refine w_if_eq_t (tgt := 34) dX10_letter_27 rfl (ixB_n hl hnW) ?_
  refine w_iconst (v := 0) dX10_letter_34 (by decide) ?_
  refine w_istore (ls2 := [some (.ref m), some (.int 1), some (.int i), some (.int y), some (.int 0), none, none, none, none, none]) dX10_letter_35 (by decide) rfl rfl ?_
  refine w_iload dX10_letter_37 rfl ?_
  refine w_if_ne_f (tgt := 46) dX10_letter_39 rfl (by decide) ?_
  refine w_lconst (v := 0) dX10_letter_42 (by decide) ?_
  refine w_goto (tgt := 65) dX10_letter_43 rfl ?_
  refine w_topV (z := .long (Int64.ofNat (acN 1 0))) rfl ?_
  refine w_lstore (ls2 := [some (.ref m), some (.int 1), some (.int i), some (.int y), some (.int 0), some (.long (Int64.ofNat (acN 1 0))), none, none, none, none]) dX10_letter_65 (by decide) rfl rfl ?_
  refine w_iload_n dX10_letter_67 rfl ?_
  refine w_iconst (v := 0) dX10_letter_68 (by decide) ?_
  refine w_lload dX10_letter_69 rfl ?_
  refine w_callS (d' := d + 1) (mc' := 0) (ms' := 0) (As := [.long (Int64.ofNat (acN 1 0))]) (st := [.int 0, .int y]) lX10_341 vX10_lettersIn rfl (Nat.le_of_ble_eq_true rfl) dX10_letter_71 (Nat.le_of_ble_eq_true rfl) (Nat.le_of_ble_eq_true rfl) (Nat.le_refl _) (m_lettersIn (N := 1) (i := 0) (by decide) (by decide) ?_)
  refine w_iconst (v := 1) dX10_letter_74 (by decide) ?_
  refine w_isub dX10_letter_75 ?_
  refine w_callS (d' := d + 1) (mc' := 0) (ms' := 0) (As := [.int y, .int 0, .int ((nI 0) - 1)]) (st := []) lX10_111 vX10_in rfl (Nat.le_of_ble_eq_true rfl) dX10_letter_76 (Nat.le_of_ble_eq_true rfl) (Nat.le_of_ble_eq_true rfl) (Nat.le_refl _) (c_in ?_)
  refine w_top (z := ixB y 0) (ixB_in (by omega)) ?_
  refine w_if_ne_f (tgt := 89) dX10_letter_79 rfl (ixB_n (fun ⟨j, z, _⟩ => absurd z (Nat.not_lt_zero j)) (by omega)) ?_
  refine w_aload_n dX10_letter_82 rfl ?_
  refine w_iconst (v := 1) dX10_letter_83 (by decide) ?_
  refine w_put (fs' := (mF m 1 tr pl (nI tp) sz sp fa fl tk ta sg nu wd (nI P.1) (nI P.2.1) rl rw ht sd ah cl)) fX10_89 (hUs_at nd 0 rfl rfl) rfl rfl (Nat.le_of_ble_eq_true rfl) rfl dX10_letter_84 ?_
  refine w_heq (hUs_set nd rfl 0 (cs' := [(oC 10 (mF m 1 tr pl (nI tp) sz sp fa fl tk ta sg nu wd (nI P.1) (nI P.2.1) rl rw ht sd ah cl))]) rfl rfl) ?_
  refine w_iconst (v := 0) dX10_letter_87 (by decide) ?_
  refine w_ireturn rfl dX10_letter_88 (Nat.le_of_ble_eq_true rfl) (Nat.le_of_ble_eq_true rfl) ?_
  have e : nmA P 1 i = 0 := by
    rw [nmA, if_neg (by decide), if_pos rfl, ixN_n hl hnW]
  rw [e, if_pos (ltF_0 y), if_pos (ltF_0 y)] at k
  exact k _ (mI_i (cI_put hW (mAs_nd m) rfl [0] (cs2 := [(oC 10 (mF m 1 tr pl (nI tp) sz sp fa fl tk ta sg nu wd (nI P.1) (nI P.2.1) rl rw ht sd ah cl)), (aI 600 gt), (aL 8 ln), (aL 8 wn), (aI 8 fs), (aI 24 ff), (aI 8 fb), (aI 8 fn), (aI 8 fp), (aZ 8 f3), (aI 64 fk), (aI 64 fx), (aI 64 fy), (aI 64 fc), (aI 11 fr), (aI 11 f1), (aI 11 f2), (aI 22 fi), (aB 4096 fo), (aB 8192 fq), (aZ 2 fh), (aI 2 fj), (aI 4096 fw), (aI 2100 fz)]) rfl rfl) hT hPm hG hRm hm0 hm1 hsd hht htp) (mFr_of (by intro a ha; simp only [List.mem_cons, List.not_mem_nil, or_false] at ha; omega))
set_option maxRecDepth 100000 in
set_option maxHeartbeats 4000000 in
theorem q_letter_x {G : wG} {d : Nat} {h : hH} {Q : Option Value → hH → Prop} {m : Nat} {ft : Nat → Int32} {tp : Nat} {P : pD} {ht : Int32} {R : Option rnD} {i0 i1 : imD} {sd fa pl tr : Int32} {th : Int32}  {x i y : Int32} (hI : mI h m ft tp P ht R i0 i1 sd fa pl tr th) (hx0 : ¬ x = 0) (hx1 : ¬ x = 1) (k : ∀ h2, mI h2 m ft tp P ht R i0 i1 sd fa pl tr (if ltF (nmA P x i) y < 0 then 1 else 0) → mFr m h h2 → Q (some (.int (if ltF (nmA P x i) y < 0 then 0 else ltF (nmA P x i) y))) h2) : Cl G yX10_letter (d + 2) 0 0 [.ref m, .int x, .int i, .int y] h Q := by
  refine mI_e hI ?_
  intro sz sp fl tk ta sg nu wd rl rw ah cl gt ln wn fs ff fb fn fp f3 fk fx fy fc fr f1 f2 fi fo fq fh fj fw fz hW hT hPm hG hRm hm0 hm1 hsd hht htp
  have hnL : P.1 ≤ 4096 := Nat.le_trans hG.2.2.1 (by decide)
  have hnW : P.2.1 ≤ 4096 := Nat.le_trans hG.2.2.2 (by decide)
  have hhL : (ht = 0 ∧ P.1 = 0) ∨ ht = 1 := hht.imp (fun z => ⟨z.1, z.2.1⟩) id
  have hhW : (ht = 0 ∧ P.2.1 = 0) ∨ ht = 1 := hht.imp (fun z => ⟨z.1, z.2.2⟩) id
  have hw : hHas h [m] [(oC 10 (mF m th tr pl (nI tp) sz sp fa fl tk ta sg nu wd (nI P.1) (nI P.2.1) rl rw ht sd ah cl))] := hHas_s hW [0] rfl rfl
  have nd : [m].Nodup := (nd_inc trivial)
  refine Cl.of (ini := false) kX10_letter (plainFor_of_name (by decide)) (by decide) (Nat.le_of_ble_eq_true rfl) rfl rfl (fun z => by cases z) ?_
  refine w_heq (hUs_id hw).symm ?_
  refine w_aload_n dX10_letter_0 rfl ?_
  refine w_iconst (v := 0) dX10_letter_1 (by decide) ?_
  refine w_put (fs' := (mF m 0 tr pl (nI tp) sz sp fa fl tk ta sg nu wd (nI P.1) (nI P.2.1) rl rw ht sd ah cl)) fX10_89 (hUs_at nd 0 rfl rfl) rfl rfl (Nat.le_of_ble_eq_true rfl) rfl dX10_letter_2 ?_
  refine w_heq (hUs_set nd rfl 0 (cs' := [(oC 10 (mF m 0 tr pl (nI tp) sz sp fa fl tk ta sg nu wd (nI P.1) (nI P.2.1) rl rw ht sd ah cl))]) rfl rfl) ?_
  refine w_iload_n dX10_letter_5 rfl ?_
  refine w_if_ne_t (tgt := 17) dX10_letter_6 rfl hx0 ?_
  refine w_iload_n dX10_letter_17 rfl ?_
  refine w_iconst (v := 1) dX10_letter_18 (by decide) ?_
  refine w_icmp_ne_t (tgt := 34) dX10_letter_19 rfl hx1 ?_
  refine w_iconst (v := 0) dX10_letter_34 (by decide) ?_
  refine w_istore (ls2 := [some (.ref m), some (.int x), some (.int i), some (.int y), some (.int 0), none, none, none, none, none]) dX10_letter_35 (by decide) rfl rfl ?_
  refine w_iload dX10_letter_37 rfl ?_
  refine w_if_ne_f (tgt := 46) dX10_letter_39 rfl (by decide) ?_
  refine w_lconst (v := 0) dX10_letter_42 (by decide) ?_
  refine w_goto (tgt := 65) dX10_letter_43 rfl ?_
  refine w_topV (z := .long (Int64.ofNat (acN 1 0))) rfl ?_
  refine w_lstore (ls2 := [some (.ref m), some (.int x), some (.int i), some (.int y), some (.int 0), some (.long (Int64.ofNat (acN 1 0))), none, none, none, none]) dX10_letter_65 (by decide) rfl rfl ?_
  refine w_iload_n dX10_letter_67 rfl ?_
  refine w_iconst (v := 0) dX10_letter_68 (by decide) ?_
  refine w_lload dX10_letter_69 rfl ?_
  refine w_callS (d' := d + 1) (mc' := 0) (ms' := 0) (As := [.long (Int64.ofNat (acN 1 0))]) (st := [.int 0, .int y]) lX10_341 vX10_lettersIn rfl (Nat.le_of_ble_eq_true rfl) dX10_letter_71 (Nat.le_of_ble_eq_true rfl) (Nat.le_of_ble_eq_true rfl) (Nat.le_refl _) (m_lettersIn (N := 1) (i := 0) (by decide) (by decide) ?_)
  refine w_iconst (v := 1) dX10_letter_74 (by decide) ?_
  refine w_isub dX10_letter_75 ?_
  refine w_callS (d' := d + 1) (mc' := 0) (ms' := 0) (As := [.int y, .int 0, .int ((nI 0) - 1)]) (st := []) lX10_111 vX10_in rfl (Nat.le_of_ble_eq_true rfl) dX10_letter_76 (Nat.le_of_ble_eq_true rfl) (Nat.le_of_ble_eq_true rfl) (Nat.le_refl _) (c_in ?_)
  refine w_top (z := ixB y 0) (ixB_in (by omega)) ?_
  refine w_if_ne_f (tgt := 89) dX10_letter_79 rfl (ixB_n (fun ⟨j, z, _⟩ => absurd z (Nat.not_lt_zero j)) (by omega)) ?_
  refine w_aload_n dX10_letter_82 rfl ?_
  refine w_iconst (v := 1) dX10_letter_83 (by decide) ?_
  refine w_put (fs' := (mF m 1 tr pl (nI tp) sz sp fa fl tk ta sg nu wd (nI P.1) (nI P.2.1) rl rw ht sd ah cl)) fX10_89 (hUs_at nd 0 rfl rfl) rfl rfl (Nat.le_of_ble_eq_true rfl) rfl dX10_letter_84 ?_
  refine w_heq (hUs_set nd rfl 0 (cs' := [(oC 10 (mF m 1 tr pl (nI tp) sz sp fa fl tk ta sg nu wd (nI P.1) (nI P.2.1) rl rw ht sd ah cl))]) rfl rfl) ?_
  refine w_iconst (v := 0) dX10_letter_87 (by decide) ?_
  refine w_ireturn rfl dX10_letter_88 (Nat.le_of_ble_eq_true rfl) (Nat.le_of_ble_eq_true rfl) ?_
  have e : nmA P x i = 0 := by
    rw [nmA, if_neg hx0, if_neg hx1]
  rw [e, if_pos (ltF_0 y), if_pos (ltF_0 y)] at k
  exact k _ (mI_i (cI_put hW (mAs_nd m) rfl [0] (cs2 := [(oC 10 (mF m 1 tr pl (nI tp) sz sp fa fl tk ta sg nu wd (nI P.1) (nI P.2.1) rl rw ht sd ah cl)), (aI 600 gt), (aL 8 ln), (aL 8 wn), (aI 8 fs), (aI 24 ff), (aI 8 fb), (aI 8 fn), (aI 8 fp), (aZ 8 f3), (aI 64 fk), (aI 64 fx), (aI 64 fy), (aI 64 fc), (aI 11 fr), (aI 11 f1), (aI 11 f2), (aI 22 fi), (aB 4096 fo), (aB 8192 fq), (aZ 2 fh), (aI 2 fj), (aI 4096 fw), (aI 2100 fz)]) rfl rfl) hT hPm hG hRm hm0 hm1 hsd hht htp) (mFr_of (by intro a ha; simp only [List.mem_cons, List.not_mem_nil, or_false] at ha; omega))
theorem q_letter {G : wG} {d : Nat} {h : hH} {Q : Option Value → hH → Prop} {m : Nat} {ft : Nat → Int32} {tp : Nat} {P : pD} {ht : Int32} {R : Option rnD} {i0 i1 : imD} {sd fa pl tr : Int32} {th : Int32} {x i y : Int32} (hI : mI h m ft tp P ht R i0 i1 sd fa pl tr th) (k : ∀ h2, mI h2 m ft tp P ht R i0 i1 sd fa pl tr (if ltF (nmA P x i) y < 0 then 1 else 0) → mFr m h h2 → Q (some (.int (if ltF (nmA P x i) y < 0 then 0 else ltF (nmA P x i) y))) h2) : Cl G yX10_letter (d + 2) 0 0 [.ref m, .int x, .int i, .int y] h Q := by
  by_cases hx0 : x = 0
  · subst hx0
    by_cases hl : ∃ j, j < P.1 ∧ i = nI j
    · obtain ⟨j, hj, rfl⟩ := hl
      exact q_letter_L hI hj k
    · exact q_letter_l hI hl k
  · by_cases hx1 : x = 1
    · subst hx1
      by_cases hl : ∃ j, j < P.2.1 ∧ i = nI j
      · obtain ⟨j, hj, rfl⟩ := hl
        exact q_letter_W hI hj k
      · exact q_letter_w hI hl k
    · exact q_letter_x hI hx0 hx1 k
