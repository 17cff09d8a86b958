theorem lPo_eq {D : lD} {l : Nat} {ln : Nat → Int64} {fs ff fb fn f3 : Nat → Int32} (h : mLp D l ln fs ff fb fn f3) : ((D.2.1, D.2.2.1, fb l, f3 l) : lP) = lPo D := by
  rw [h.2.2.1, h.2.2.2.2.1]
  rfl
theorem lGd_bd {D : lD} (h : lGd D) : 0 < D.2.2.2.1 := Int32.lt_of_lt_of_le (by decide) h.2.2.2.1.1
theorem rS_reg {q : rQ} (h : sdOk q.2.2.2) : ∀ c, 0 ≤ (rS q c).2.1 ∧ (rS q c).2.1 ≤ 65535
  | 0 => ⟨Int32.le_trans (by decide) h.1, h.2⟩
  | c + 1 => by
    have ih := rS_reg h c
    show 0 ≤ stiR q.2.1 (rS q c).2.1 ∧ stiR q.2.1 (rS q c).2.1 ≤ 65535
    unfold stiR
    by_cases e : q.2.1 = 0
    · rw [if_pos e]; exact ih
    · rw [if_neg e]; exact reg_in ih.1 ih.2
theorem mRr_cp {P : pD} {r : rnD} {fr fo f g : Nat → Int32} (h : mRr P r fr fo) (hn : (P.2.2.1 r.1).2.1 ≤ 3) (h1 : ∀ j, j < 11 → f j = fr j) (h2 : ∀ t, t < r.2.2.2 → g t = fo t) : mRr P r f g := by
  obtain ⟨a, b, ⟨c0, c1, c2, c3, c4, c5, c6, c7⟩, d, e⟩ := h
  exact ⟨a, b, ⟨(h1 0 (by omega)).trans c0, (h1 1 (by omega)).trans c1, (h1 2 (by omega)).trans c2, (h1 3 (by omega)).trans c3, (h1 4 (by omega)).trans c4, (h1 5 (by omega)).trans c5, (h1 6 (by omega)).trans c6, (h1 7 (by omega)).trans c7⟩, fun s hs => (h1 (8 + s) (by omega)).trans (d s hs), fun t ht => (h2 t ht).trans (e t ht)⟩
theorem nar_1 {x : Int32} (h : x = -1 ∨ x = 0 ∨ x = 1) : vp_nar .byte x = x := by
  rcases h with rfl | rfl | rfl <;> decide
theorem mIv_cp {P : pD} {ht : Int32} {k : Nat} {i : imD} {fi fq fh fj fi' fq' fh' fj' : Nat → Int32} (h : mIv P ht k i fi fq fh fj) (hG : pGd P) (h1 : ∀ j, j < 11 → fi' (11 * k + j) = fi (11 * k + j)) (h2 : ∀ t, t < 4096 → fq' (4096 * k + t) = fq (4096 * k + t)) (h3 : fh' k = fh k) (h4 : fj' k = fj k) : mIv P ht k i fi' fq' fh' fj' := by
  match i, h with
  | none, h => exact h3.trans h
  | some (none, s), h => exact ⟨h.1, h3.trans h.2.1, h4.trans h.2.2.1, h.2.2.2.1, (h1 0 (by omega)).trans h.2.2.2.2⟩
  | some (some r, s), h => exact ⟨h.1, h3.trans h.2.1, h4.trans h.2.2.1, h.2.2.2.1, mRr_cp h.2.2.2.2 (hG.1 _ h.2.2.2.2.1.1).2.1 h1 (fun t ht => h2 t (Nat.lt_of_lt_of_le ht h.2.2.2.2.1.2.2))⟩
theorem m_clockL {G : wG} {d : Nat} {h : hH} {Q : Option Value → hH → Prop} {m : Nat} {th tr wa tp sz sp fa fl tk ta sg nu : Int32} {wd : Int64} {lo wv rl rw ht sd ah cl : Int32} {ln : Nat → Int64} {fs : Nat → Int32} {ff : Nat → Int32} {fb : Nat → Int32} {f3 : Nat → Int32} {fn : Nat → Int32} {q l : Nat} {D : lD} {cn v w c : Int32} {f : Nat → Int32} {s : cS} (hw : hHas h [m, m + 4, m + 5, m + 6, m + 9, q] [(oC 10 (mF m th tr wa tp sz sp fa fl tk ta sg nu wd lo wv rl rw ht sd ah cl)), (aI 8 fs), (aI 24 ff), (aI 8 fb), (aZ 8 f3), (aI 11 f)]) (nd : [m, m + 4, m + 5, m + 6, m + 9, q].Nodup) (hl : l < 8) (hLp : mLp D l ln fs ff fb fn f3) (hGl : lGd D) (hf : mRn f (nI l) w c s) (hcn : ¬ cn < 0) (hrg : cn = 0 ∨ 0 ≤ regF s.2.1) (k : ∀ f9 : Nat → Int32, mRn f9 (nI l) w (c + 1) (cStp (lPo D) cn v s) → (∀ j, j < D.2.1 → f9 (8 + j) = mxI (f (8 + j)) (abI ((cStp (lPo D) cn v s).1 j))) → Q (some (.int (cOut (lPo D) cn s))) (hUs h [m, m + 4, m + 5, m + 6, m + 9, q] [(oC 10 (mF m th tr wa tp sz sp fa fl tk ta sg nu wd lo wv rl rw ht sd ah cl)), (aI 8 fs), (aI 24 ff), (aI 8 fb), (aZ 8 f3), (aI 11 f9)])) : Cl G yX10_clock (d + 1) 0 0 [.ref m, .ref q, .int v, .int cn] h Q := by
  have hL := lPo_eq hLp
  rw [← hL] at k
  exact m_clock (n := D.2.1) (fac := D.2.2.1) hw nd hl hLp.1 hGl.1 hGl.2.1 hLp.2.1 (by rw [hLp.2.2.1]; exact lGd_bd hGl) hf hcn hrg k
set_option maxRecDepth 100000 in
set_option maxHeartbeats 4000000 in
theorem lq_run {G : wG} {d : Nat} {h : hH} {Q : Option Value → hH → Prop} {m tp : Nat} {P : pD} {ht sd fa pl tr sz sp fl tk ta sg nu : Int32} {wd : Int64} {rl rw ah cl : Int32} {ln : Nat → Int64} {fs : Nat → Int32} {ff : Nat → Int32} {fb : Nat → Int32} {fn : Nat → Int32} {fp : Nat → Int32} {f3 : Nat → Int32} {fk : Nat → Int32} {fx : Nat → Int32} {fy : Nat → Int32} {fc : Nat → Int32} {l w c N : Nat} {rs : Int32} (nd : [m, m + 4, m + 5, m + 6, m + 7, m + 8, m + 9, m + 10, m + 11, m + 12, m + 13, m + 14, m + 18].Nodup) (hl8 : l < 8) (hLp : mLp (P.2.2.1 l) l ln fs ff fb fn f3) (hGl : lGd (P.2.2.1 l)) (hw8 : w < 8) (hfp : fp w = nI (P.2.2.2 w).2.2.2.2.2.1) (hV : wGd (P.2.2.2 w).2) (hAt : wAt (P.2.2.2 w).2 (8 * w) fk fx fy fc) (hN : c + N ≤ 4096) (k : ∀ fr fo : Nat → Int32, mRr P (l, w, rs, c + N) fr fo → WP G RX10 cX10_run 6 (some .int) false (d + 3) 0 0 0 0 Q 126 [some (.ref m), some (.int (nI N)), some (.int (fld (fun t s => s + rO (rQo P l w rs) t) c (N) 0)), none, none, none] [] (hUs h [m, m + 4, m + 5, m + 6, m + 7, m + 8, m + 9, m + 10, m + 11, m + 12, m + 13, m + 14, m + 18] [(oC 10 (mF m 0 tr pl (nI tp) sz sp fa fl tk ta sg nu wd (nI P.1) (nI P.2.1) rl rw ht sd ah cl)), (aI 8 fs), (aI 24 ff), (aI 8 fb), (aI 8 fn), (aI 8 fp), (aZ 8 f3), (aI 64 fk), (aI 64 fx), (aI 64 fy), (aI 64 fc), (aI 11 fr), (aB 4096 fo)])) : ∀ (n : Nat) (i : Nat) (x : Int32) (fr fo : Nat → Int32), i + n = N → x = fld (fun t s => s + rO (rQo P l w rs) t) c (i) 0 → mRr P (l, w, rs, c + i) fr fo → WP G RX10 cX10_run 6 (some .int) false (d + 3) 0 0 0 0 Q 59 [some (.ref m), some (.int (nI N)), some (.int x), some (.int (nI i)), none, none] [] (hUs h [m, m + 4, m + 5, m + 6, m + 7, m + 8, m + 9, m + 10, m + 11, m + 12, m + 13, m + 14, m + 18] [(oC 10 (mF m 0 tr pl (nI tp) sz sp fa fl tk ta sg nu wd (nI P.1) (nI P.2.1) rl rw ht sd ah cl)), (aI 8 fs), (aI 24 ff), (aI 8 fb), (aI 8 fn), (aI 8 fp), (aZ 8 f3), (aI 64 fk), (aI 64 fx), (aI 64 fy), (aI 64 fc), (aI 11 fr), (aB 4096 fo)]) := by
  intro n
  induction n with
  | zero =>
    intro i x fr fo hi e hr
    refine w_iload_n dX10_run_59 rfl ?_
    refine w_iload_n dX10_run_60 rfl ?_
    refine w_icmp_ge_t (tgt := 126) dX10_run_61 rfl ((nI_leI (a := N) (b := i) (by omega) (by omega)).mpr (by omega)) ?_
    refine w_less (ls2 := [some (.ref m), some (.int (nI N)), some (.int x), none, none, none]) ⟨Or.inr rfl, Or.inr rfl, Or.inr rfl, Or.inl rfl, Or.inl rfl, Or.inl rfl, trivial⟩ ?_
    have z : i = N := by omega
    subst z
    rw [e]
    exact k fr fo hr
  | succ n ih =>
    intro i x fr fo hi e hr
    refine w_iload_n dX10_run_59 rfl ?_
    refine w_iload_n dX10_run_60 rfl ?_
    refine w_icmp_ge_f (tgt := 126) dX10_run_61 rfl (fun z => absurd ((nI_leI (a := N) (b := i) (by omega) (by omega)).mp z) (by omega)) ?_
    refine w_aload_n dX10_run_64 rfl ?_
    refine w_get (v := .ref (m + 14)) fX10_55 (hUs_at nd 0 rfl rfl) rfl dX10_run_65 ?_
    refine w_iconst (v := (nI 2)) dX10_run_68 (by decide) ?_
    refine w_ialoadN (hUs_at nd 11 rfl rfl) (by omega) (by omega) dX10_run_69 ?_
    refine w_top (z := nI (c + i)) hr.2.2.1.2.2.1 ?_
    refine w_istore (ls2 := [some (.ref m), some (.int (nI N)), some (.int x), some (.int (nI i)), some (.int (nI (c + i))), none]) dX10_run_70 (by decide) rfl rfl ?_
    refine w_aload_n dX10_run_72 rfl ?_
    refine w_aload_n dX10_run_73 rfl ?_
    refine w_get (v := .ref (m + 14)) fX10_55 (hUs_at nd 0 rfl rfl) rfl dX10_run_74 ?_
    refine w_aload_n dX10_run_77 rfl ?_
    refine w_aload_n dX10_run_78 rfl ?_
    refine w_get (v := .ref (m + 14)) fX10_55 (hUs_at nd 0 rfl rfl) rfl dX10_run_79 ?_
    refine w_iconst (v := (nI 1)) dX10_run_82 (by decide) ?_
    refine w_ialoadN (hUs_at nd 11 rfl rfl) (by omega) (by omega) dX10_run_83 ?_
    refine w_top (z := nI w) hr.2.2.1.2.1 ?_
    refine w_iload dX10_run_84 rfl ?_
    refine w_callV (ci := 10) (d' := d + 2) (mc' := 0) (ms' := 0) (As := [.int (nI w), .int (nI (c + i))]) (st := [.ref (m + 14), .ref m]) lX10_269 vX10_levelOf rfl (hUs_at nd 0 rfl rfl) rfl (Nat.le_of_ble_eq_true rfl) dX10_run_86 (Nat.le_of_ble_eq_true rfl) (Nat.le_of_ble_eq_true rfl) (Nat.le_refl _) (m_levelOf (hHas_sub nd (as' := [m, m + 8, m + 10, m + 11, m + 12, m + 13]) (cs' := [(oC 10 (mF m 0 tr pl (nI tp) sz sp fa fl tk ta sg nu wd (nI P.1) (nI P.2.1) rl rw ht sd ah cl)), (aI 8 fp), (aI 64 fk), (aI 64 fx), (aI 64 fy), (aI 64 fc)]) [0, 5, 7, 8, 9, 10] rfl rfl) (V := (P.2.2.2 w).2) hw8 hfp hV hAt (nI_pos' (show c + i < 2 ^ 31 by omega)) ?_)
    refine w_aload_n dX10_run_89 rfl ?_
    refine w_get (v := .ref (m + 7)) fX10_33 (hUs_at nd 0 rfl rfl) rfl dX10_run_90 ?_
    refine w_aload_n dX10_run_93 rfl ?_
    refine w_get (v := .ref (m + 14)) fX10_55 (hUs_at nd 0 rfl rfl) rfl dX10_run_94 ?_
    refine w_iconst (v := (nI 0)) dX10_run_97 (by decide) ?_
    refine w_ialoadN (hUs_at nd 11 rfl rfl) (by omega) (by omega) dX10_run_98 ?_
    refine w_top (z := nI l) hr.2.2.1.1 ?_
    refine w_ialoadN (hUs_at nd 4 rfl rfl) (by omega) (by omega) dX10_run_99 ?_
    refine w_top (z := (P.2.2.1 l).2.2.2.2.1) hLp.2.2.2.1 ?_
    refine w_callV (ci := 10) (d' := d + 2) (mc' := 0) (ms' := 0) (As := [.ref (m + 14), .int (lvlT (P.2.2.2 w).2 (nI (c + i))), .int (P.2.2.1 l).2.2.2.2.1]) (st := []) lX10_287 vX10_clock rfl (hUs_at nd 0 rfl rfl) rfl (Nat.le_of_ble_eq_true rfl) dX10_run_100 (Nat.le_of_ble_eq_true rfl) (Nat.le_of_ble_eq_true rfl) (Nat.le_refl _) (m_clockL (D := (P.2.2.1 l)) (s := (rS (rQo P l w rs) (c + i))) (hHas_sub nd (as' := [m, m + 4, m + 5, m + 6, m + 9, m + 14]) (cs' := [(oC 10 (mF m 0 tr pl (nI tp) sz sp fa fl tk ta sg nu wd (nI P.1) (nI P.2.1) rl rw ht sd ah cl)), (aI 8 fs), (aI 24 ff), (aI 8 fb), (aZ 8 f3), (aI 11 fr)]) [0, 1, 2, 3, 6, 11] rfl rfl) (nd_sub nd (as' := [m, m + 4, m + 5, m + 6, m + 9, m + 14]) [0, 1, 2, 3, 6, 11] rfl rfl) hl8 hLp hGl hr.2.2.1 (Int32.not_lt.mpr hGl.2.2.2.2.1.1) (Or.inr (reg_in (rS_reg hr.2.1 (c + i)).1 (rS_reg hr.2.1 (c + i)).2).1) (fun fk19 hfk19 zfk19 => ?_))
    refine w_heq (hUs_in nd rfl [0, 1, 2, 3, 6, 11] (cs2 := [(oC 10 (mF m 0 tr pl (nI tp) sz sp fa fl tk ta sg nu wd (nI P.1) (nI P.2.1) rl rw ht sd ah cl)), (aI 8 fs), (aI 24 ff), (aI 8 fb), (aI 8 fn), (aI 8 fp), (aZ 8 f3), (aI 64 fk), (aI 64 fx), (aI 64 fy), (aI 64 fc), (aI 11 fk19), (aB 4096 fo)]) rfl rfl) ?_
    refine w_istore (ls2 := [some (.ref m), some (.int (nI N)), some (.int x), some (.int (nI i)), some (.int (nI (c + i))), some (.int (cOut (lPo (P.2.2.1 l)) (P.2.2.1 l).2.2.2.2.1 (rS (rQo P l w rs) (c + i))))]) dX10_run_103 (by decide) rfl rfl ?_
    refine w_aload_n dX10_run_105 rfl ?_
    refine w_get (v := .ref (m + 18)) fX10_67 (hUs_at nd 0 rfl rfl) rfl dX10_run_106 ?_
    refine w_iload dX10_run_109 rfl ?_
    refine w_iload dX10_run_111 rfl ?_
    refine w_i2b dX10_run_113 ?_
    refine w_bastoreN (hUs_at nd 12 rfl rfl) (by omega) (by omega) dX10_run_114 ?_
    refine w_heq (hUs_set nd rfl 12 (cs' := [(oC 10 (mF m 0 tr pl (nI tp) sz sp fa fl tk ta sg nu wd (nI P.1) (nI P.2.1) rl rw ht sd ah cl)), (aI 8 fs), (aI 24 ff), (aI 8 fb), (aI 8 fn), (aI 8 fp), (aZ 8 f3), (aI 64 fk), (aI 64 fx), (aI 64 fy), (aI 64 fc), (aI 11 fk19), (aB 4096 (upd fo (c + i) (vp_nar .byte ((cOut (lPo (P.2.2.1 l)) (P.2.2.1 l).2.2.2.2.1 (rS (rQo P l w rs) (c + i))).toInt8.toInt32))))]) rfl rfl) ?_
    refine w_iload_n dX10_run_115 rfl ?_
    refine w_iload dX10_run_116 rfl ?_
    refine w_iadd dX10_run_118 ?_
    refine w_istore_n (ls2 := [some (.ref m), some (.int (nI N)), some (.int (x + (cOut (lPo (P.2.2.1 l)) (P.2.2.1 l).2.2.2.2.1 (rS (rQo P l w rs) (c + i))))), some (.int (nI i)), some (.int (nI (c + i))), some (.int (cOut (lPo (P.2.2.1 l)) (P.2.2.1 l).2.2.2.2.1 (rS (rQo P l w rs) (c + i))))]) dX10_run_119 (by decide) rfl rfl ?_
    refine w_iinc (v := nI (i + 1)) (ls2 := [some (.ref m), some (.int (nI N)), some (.int (x + (cOut (lPo (P.2.2.1 l)) (P.2.2.1 l).2.2.2.2.1 (rS (rQo P l w rs) (c + i))))), some (.int (nI (i + 1))), some (.int (nI (c + i))), some (.int (cOut (lPo (P.2.2.1 l)) (P.2.2.1 l).2.2.2.2.1 (rS (rQo P l w rs) (c + i))))]) dX10_run_120 rfl (nI_1 _) (by decide) rfl rfl ?_
    refine w_goto (tgt := 59) dX10_run_123 rfl ?_
    refine w_less (ls2 := [some (.ref m), some (.int (nI N)), some (.int (x + (cOut (lPo (P.2.2.1 l)) (P.2.2.1 l).2.2.2.2.1 (rS (rQo P l w rs) (c + i))))), some (.int (nI (i + 1))), none, none]) ⟨Or.inr rfl, Or.inr rfl, Or.inr rfl, Or.inr rfl, Or.inl rfl, Or.inl rfl, trivial⟩ ?_
    have en : vp_nar .byte (cOut (lPo (P.2.2.1 l)) (P.2.2.1 l).2.2.2.2.1 (rS (rQo P l w rs) (c + i))).toInt8.toInt32 = rO (rQo P l w rs) (c + i) := nar_out (rO_in (rQo P l w rs) (c + i))
    rw [en]
    refine ih (i + 1) _ fk19 _ (by omega) (by rw [fld, ← e]; rfl) ⟨⟨hr.1.1, hr.1.2.1, by show c + (i + 1) ≤ 4096; omega⟩, hr.2.1, ?_, ?_, ?_⟩
    · have h9 := hfk19
      rw [nI_1] at h9
      exact h9
    · intro s hs
      rw [zfk19 s hs, hr.2.2.2.1 s hs]
      rfl
    · intro t ht
      by_cases e9 : t = c + i
      · subst e9; exact pk_us
      · rw [pk_un e9]; exact hr.2.2.2.2 t (show t < c + i by have : t < c + (i + 1) := ht; omega)
set_option maxRecDepth 100000 in
set_option maxHeartbeats 4000000 in
theorem q_run_n {G : wG} {d : Nat} {h : hH} {Q : Option Value → hH → Prop} {m : Nat} {ft : Nat → Int32} {tp : Nat} {P : pD} {ht : Int32} {i0 i1 : imD} {sd fa pl tr : Int32} {th : Int32}  {y : Int32} (hI : mI h m ft tp P ht none i0 i1 sd fa pl tr th)  (k : ∀ h2, mI h2 m ft tp P ht (rRu (none) y) i0 i1 sd fa (-1) (oRu P (none) y).2 0 → mFr m h h2 → Q (some (.int (oRu P (none) y).1)) h2) : Cl G yX10_run (d + 3) 0 0 [.ref m, .int y] h Q := by
  refine mI_e hI ?_
  intro sz sp fl tk ta sg nu wd rl rw ah cl gt ln wn fs ff fb fn fp f3 fk fx fy fc fr f1 f2 fi fo fq fh fj fw fz hW hT hPm hG hRm hm0 hm1 hsd hht htp
  have hnL : P.1 ≤ 4096 := Nat.le_trans hG.2.2.1 (by decide)
  have hnW : P.2.1 ≤ 4096 := Nat.le_trans hG.2.2.2 (by decide)
  have hhL : (ht = 0 ∧ P.1 = 0) ∨ ht = 1 := hht.imp (fun z => ⟨z.1, z.2.1⟩) id
  have hhW : (ht = 0 ∧ P.2.1 = 0) ∨ ht = 1 := hht.imp (fun z => ⟨z.1, z.2.2⟩) id
  have hw : hHas h [m, m + 14] [(oC 10 (mF m th tr pl (nI tp) sz sp fa fl tk ta sg nu wd (nI P.1) (nI P.2.1) rl rw ht sd ah cl)), (aI 11 fr)] := hHas_s hW [0, 14] rfl rfl
  have nd : [m, m + 14].Nodup := (nd_inc ⟨by omega, trivial⟩)
  refine Cl.of (ini := false) kX10_run (plainFor_of_name (by decide)) (by decide) (Nat.le_of_ble_eq_true rfl) rfl rfl (fun z => by cases z) ?_
  refine w_heq (hUs_id hw).symm ?_
  refine w_aload_n dX10_run_0 rfl ?_
  refine w_iconst (v := 0) dX10_run_1 (by decide) ?_
  refine w_put (fs' := (mF m 0 tr pl (nI tp) sz sp fa fl tk ta sg nu wd (nI P.1) (nI P.2.1) rl rw ht sd ah cl)) fX10_89 (hUs_at nd 0 rfl rfl) rfl rfl (Nat.le_of_ble_eq_true rfl) rfl dX10_run_2 ?_
  refine w_heq (hUs_set nd rfl 0 (cs' := [(oC 10 (mF m 0 tr pl (nI tp) sz sp fa fl tk ta sg nu wd (nI P.1) (nI P.2.1) rl rw ht sd ah cl)), (aI 11 fr)]) rfl rfl) ?_
  refine w_aload_n dX10_run_5 rfl ?_
  refine w_callV (ci := 10) (d' := d + 2) (mc' := 0) (ms' := 0) (As := []) (st := []) lX10_284 vX10_hasRun rfl (hUs_at nd 0 rfl rfl) rfl (Nat.le_of_ble_eq_true rfl) dX10_run_6 (Nat.le_of_ble_eq_true rfl) (Nat.le_of_ble_eq_true rfl) (Nat.le_refl _) (m_hasRun_n (hHas_sub nd (as' := [m, m + 14]) (cs' := [(oC 10 (mF m 0 tr pl (nI tp) sz sp fa fl tk ta sg nu wd (nI P.1) (nI P.2.1) rl rw ht sd ah cl)), (aI 11 fr)]) [0, 1] rfl rfl) hRm ?_)
  refine w_if_ne_f (tgt := 18) dX10_run_9 rfl (by decide) ?_
  refine w_aload_n dX10_run_12 rfl ?_
  refine w_iconst (v := 1) dX10_run_13 (by decide) ?_
  refine w_callV (ci := 10) (d' := d + 2) (mc' := 0) (ms' := 0) (As := [.int 1]) (st := []) lX10_266 vX10_lost rfl (hUs_at nd 0 rfl rfl) rfl (Nat.le_of_ble_eq_true rfl) dX10_run_14 (Nat.le_of_ble_eq_true rfl) (Nat.le_of_ble_eq_true rfl) (Nat.le_refl _) (m_lost (hHas_sub nd (as' := [m]) (cs' := [(oC 10 (mF m 0 tr pl (nI tp) sz sp fa fl tk ta sg nu wd (nI P.1) (nI P.2.1) rl rw ht sd ah cl))]) [0] rfl rfl) (nd_sub nd (as' := [m]) [0] rfl rfl)  ?_)
  refine w_heq (hUs_in nd rfl [0] (cs2 := [(oC 10 (mF m 0 1 (-1) (nI tp) sz sp fa fl tk ta sg nu wd (nI P.1) (nI P.2.1) rl rw ht sd ah cl)), (aI 11 fr)]) rfl rfl) ?_
  refine w_ireturn rfl dX10_run_17 (Nat.le_of_ble_eq_true rfl) (Nat.le_of_ble_eq_true rfl) ?_
  have e : oRu P none y = ((-1000000000), 1) := rfl
  rw [e, show rRu none y = none from rfl] at k
  exact k _ (mI_i (cI_put hW (mAs_nd m) rfl [0, 14] (cs2 := [(oC 10 (mF m 0 1 (-1) (nI tp) sz sp fa fl tk ta sg nu wd (nI P.1) (nI P.2.1) rl rw ht sd ah cl)), (aI 600 gt), (aL 8 ln), (aL 8 wn), (aI 8 fs), (aI 24 ff), (aI 8 fb), (aI 8 fn), (aI 8 fp), (aZ 8 f3), (aI 64 fk), (aI 64 fx), (aI 64 fy), (aI 64 fc), (aI 11 fr), (aI 11 f1), (aI 11 f2), (aI 22 fi), (aB 4096 fo), (aB 8192 fq), (aZ 2 fh), (aI 2 fj), (aI 4096 fw), (aI 2100 fz)]) rfl rfl) hT hPm hG hRm hm0 hm1 hsd hht htp) (mFr_of (by intro a ha; simp only [List.mem_cons, List.not_mem_nil, or_false] at ha; omega))
set_option maxRecDepth 100000 in
set_option maxHeartbeats 4000000 in
theorem q_run_s {G : wG} {d : Nat} {h : hH} {Q : Option Value → hH → Prop} {m : Nat} {ft : Nat → Int32} {tp : Nat} {P : pD} {ht : Int32} {i0 i1 : imD} {sd fa pl tr : Int32} {th : Int32}  {l w c : Nat} {rs : Int32} {y : Int32} (hI : mI h m ft tp P ht (some (l, w, rs, c)) i0 i1 sd fa pl tr th)  (k : ∀ h2, mI h2 m ft tp P ht (rRu (some (l, w, rs, c)) y) i0 i1 sd fa (-1) (oRu P (some (l, w, rs, c)) y).2 0 → mFr m h h2 → Q (some (.int (oRu P (some (l, w, rs, c)) y).1)) h2) : Cl G yX10_run (d + 3) 0 0 [.ref m, .int y] h Q := by
  refine mI_e hI ?_
  intro sz sp fl tk ta sg nu wd rl rw ah cl gt ln wn fs ff fb fn fp f3 fk fx fy fc fr f1 f2 fi fo fq fh fj fw fz hW hT hPm hG hRm hm0 hm1 hsd hht htp
  have hnL : P.1 ≤ 4096 := Nat.le_trans hG.2.2.1 (by decide)
  have hnW : P.2.1 ≤ 4096 := Nat.le_trans hG.2.2.2 (by decide)
  have hhL : (ht = 0 ∧ P.1 = 0) ∨ ht = 1 := hht.imp (fun z => ⟨z.1, z.2.1⟩) id
  have hhW : (ht = 0 ∧ P.2.1 = 0) ∨ ht = 1 := hht.imp (fun z => ⟨z.1, z.2.2⟩) id
  obtain ⟨hht1, hok, hsr, hrn, hsz, hfo⟩ : ht = 1 ∧ mRr P (l, w, rs, c) fr fo := id hRm
  have hl : l < P.1 := hok.1
  have hwv9 : w < P.2.1 := hok.2.1
  have hc4 : c ≤ 4096 := hok.2.2
  have hl4 : l < 4 := Nat.lt_of_lt_of_le hl hG.2.2.1
  have hl31 : l < 2 ^ 31 := by omega
  have hLp := hPm.1 l hl
  rw [Nat.zero_add] at hLp
  have hGl := hG.1 l hl
  have hrc : fr 2 = nI c := hrn.2.2.1
  have hWv := hPm.2 w hwv9
  rw [Nat.zero_add] at hWv
  have hGw := (hG.2.1 w hwv9).1
  have hw4 : w < 4 := Nat.lt_of_lt_of_le hwv9 hG.2.2.2
  have hRr : mRr P (l, w, rs, c) fr fo := hRm.2
  have hw : hHas h [m, m + 4, m + 5, m + 6, m + 7, m + 8, m + 9, m + 10, m + 11, m + 12, m + 13, m + 14, m + 18] [(oC 10 (mF m th tr pl (nI tp) sz sp fa fl tk ta sg nu wd (nI P.1) (nI P.2.1) rl rw ht sd ah cl)), (aI 8 fs), (aI 24 ff), (aI 8 fb), (aI 8 fn), (aI 8 fp), (aZ 8 f3), (aI 64 fk), (aI 64 fx), (aI 64 fy), (aI 64 fc), (aI 11 fr), (aB 4096 fo)] := hHas_s hW [0, 4, 5, 6, 7, 8, 9, 10, 11, 12, 13, 14, 18] rfl rfl
  have nd : [m, m + 4, m + 5, m + 6, m + 7, m + 8, m + 9, m + 10, m + 11, m + 12, m + 13, m + 14, m + 18].Nodup := (nd_inc ⟨by omega, by omega, by omega, by omega, by omega, by omega, by omega, by omega, by omega, by omega, by omega, by omega, trivial⟩)
  refine Cl.of (ini := false) kX10_run (plainFor_of_name (by decide)) (by decide) (Nat.le_of_ble_eq_true rfl) rfl rfl (fun z => by cases z) ?_
  refine w_heq (hUs_id hw).symm ?_
  refine w_aload_n dX10_run_0 rfl ?_
  refine w_iconst (v := 0) dX10_run_1 (by decide) ?_
  refine w_put (fs' := (mF m 0 tr pl (nI tp) sz sp fa fl tk ta sg nu wd (nI P.1) (nI P.2.1) rl rw ht sd ah cl)) fX10_89 (hUs_at nd 0 rfl rfl) rfl rfl (Nat.le_of_ble_eq_true rfl) rfl dX10_run_2 ?_
  refine w_heq (hUs_set nd rfl 0 (cs' := [(oC 10 (mF m 0 tr pl (nI tp) sz sp fa fl tk ta sg nu wd (nI P.1) (nI P.2.1) rl rw ht sd ah cl)), (aI 8 fs), (aI 24 ff), (aI 8 fb), (aI 8 fn), (aI 8 fp), (aZ 8 f3), (aI 64 fk), (aI 64 fx), (aI 64 fy), (aI 64 fc), (aI 11 fr), (aB 4096 fo)]) rfl rfl) ?_
  refine w_aload_n dX10_run_5 rfl ?_
  refine w_callV (ci := 10) (d' := d + 2) (mc' := 0) (ms' := 0) (As := []) (st := []) lX10_284 vX10_hasRun rfl (hUs_at nd 0 rfl rfl) rfl (Nat.le_of_ble_eq_true rfl) dX10_run_6 (Nat.le_of_ble_eq_true rfl) (Nat.le_of_ble_eq_true rfl) (Nat.le_refl _) (m_hasRun_s (hHas_sub nd (as' := [m, m + 14]) (cs' := [(oC 10 (mF m 0 tr pl (nI tp) sz sp fa fl tk ta sg nu wd (nI P.1) (nI P.2.1) rl rw ht sd ah cl)), (aI 11 fr)]) [0, 11] rfl rfl) hht1 hrn.1 hl31 ?_)
  refine w_if_ne_t (tgt := 18) dX10_run_9 rfl (by decide) ?_
  refine w_iload_n dX10_run_18 rfl ?_
  refine w_iconst (v := 1) dX10_run_19 (by decide) ?_
  refine w_sipush (v := 500) dX10_run_20 (by decide) ?_
  refine w_callS (d' := d + 2) (mc' := 0) (ms' := 0) (As := [.int y, .int 1, .int 500]) (st := []) lX10_111 vX10_in rfl (Nat.le_of_ble_eq_true rfl) dX10_run_23 (Nat.le_of_ble_eq_true rfl) (Nat.le_of_ble_eq_true rfl) (Nat.le_refl _) (c_in ?_)
  refine w_if_ne (tgt := 35) dX10_run_26 rfl (fun b26 => ?_) (fun b26 => ?_)
  · obtain ⟨N9, hN9, rfl⟩ := in2 (m := 500) (fun z => absurd (Int32.lt_of_lt_of_le z (by decide)) (Int32.not_lt.mpr (inB_1 b26).1)) (inB_1 b26).2 (by decide)
    have hNc : tN (nI N9) = N9 := nI_clamp (by omega)
    refine w_aload_n dX10_run_35 rfl ?_
    refine w_get (v := .ref (m + 14)) fX10_55 (hUs_at nd 0 rfl rfl) rfl dX10_run_36 ?_
    refine w_iconst (v := (nI 2)) dX10_run_39 (by decide) ?_
    refine w_ialoadN (hUs_at nd 11 rfl rfl) (by omega) (by omega) dX10_run_40 ?_
    refine w_top (z := nI c) hrc ?_
    refine w_iload_n dX10_run_41 rfl ?_
    refine w_iaddE (z := nI (c + N9)) dX10_run_42 (nI_add (c) (N9)) ?_
    refine w_sipush (v := 4096) dX10_run_43 (by decide) ?_
    refine w_icmp_le (tgt := 55) dX10_run_46 rfl (fun b46 => ?_) (fun b46 => ?_)
    · have b46 := (nI_leI (a := (c + N9)) (b := 4096) (by omega) (by omega)).mp b46
      refine w_iconst (v := 0) dX10_run_55 (by decide) ?_
      refine w_istore_n (ls2 := [some (.ref m), some (.int (nI N9)), some (.int 0), none, none, none]) dX10_run_56 (by decide) rfl rfl ?_
      refine w_iconst (v := (nI 0)) dX10_run_57 (by decide) ?_
      refine w_istore_n (ls2 := [some (.ref m), some (.int (nI N9)), some (.int 0), some (.int (nI 0)), none, none]) dX10_run_58 (by decide) rfl rfl ?_
      refine lq_run (rs := rs) nd (show l < 8 by omega) hLp hGl (show w < 8 by omega) hWv.1 hGw hWv.2.1 (by omega) (fun fr9 fo9 hr9 => ?_) N9 0 0 fr fo (by omega) rfl hRr
      refine w_aload_n dX10_run_126 rfl ?_
      refine w_iload_n dX10_run_127 rfl ?_
      refine w_callV (ci := 10) (d' := d + 2) (mc' := 0) (ms' := 0) (As := [.int (fld (fun t s => s + rO (rQo P l w rs) t) c (N9) 0)]) (st := []) lX10_241 vX10_good rfl (hUs_at nd 0 rfl rfl) rfl (Nat.le_of_ble_eq_true rfl) dX10_run_128 (Nat.le_of_ble_eq_true rfl) (Nat.le_of_ble_eq_true rfl) (Nat.le_refl _) (m_good (hHas_sub nd (as' := [m]) (cs' := [(oC 10 (mF m 0 tr pl (nI tp) sz sp fa fl tk ta sg nu wd (nI P.1) (nI P.2.1) rl rw ht sd ah cl))]) [0] rfl rfl) (nd_sub nd (as' := [m]) [0] rfl rfl)  ?_)
      refine w_heq (hUs_in nd rfl [0] (cs2 := [(oC 10 (mF m 0 0 (-1) (nI tp) sz sp fa fl tk ta sg nu wd (nI P.1) (nI P.2.1) rl rw ht sd ah cl)), (aI 8 fs), (aI 24 ff), (aI 8 fb), (aI 8 fn), (aI 8 fp), (aZ 8 f3), (aI 64 fk), (aI 64 fx), (aI 64 fy), (aI 64 fc), (aI 11 fr9), (aB 4096 fo9)]) rfl rfl) ?_
      refine w_ireturn rfl dX10_run_131 (Nat.le_of_ble_eq_true rfl) (Nat.le_of_ble_eq_true rfl) ?_
      have e : oRu P (some (l, w, rs, c)) (nI N9) = (fld (fun t s => s + rO (rQo P l w rs) t) c (N9) 0, 0) := by
        simp only [oRu]
        rw [if_neg (fun z => z.elim (fun z => absurd (inB_1 b26).1 (Int32.not_le.mpr z)) (fun z => absurd (inB_1 b26).2 (Int32.not_le.mpr z))), hNc, if_neg (by omega)]
      have e2 : rRu (some (l, w, rs, c)) (nI N9) = some (l, w, rs, c + N9) := by
        simp only [rRu]
        rw [if_neg (fun z => z.elim (fun z => absurd (inB_1 b26).1 (Int32.not_le.mpr z)) (fun z => absurd (inB_1 b26).2 (Int32.not_le.mpr z))), hNc, if_neg (by omega)]
      rw [e, e2] at k
      exact k _ (mI_i (cI_put hW (mAs_nd m) rfl [0, 4, 5, 6, 7, 8, 9, 10, 11, 12, 13, 14, 18] (cs2 := [(oC 10 (mF m 0 0 (-1) (nI tp) sz sp fa fl tk ta sg nu wd (nI P.1) (nI P.2.1) rl rw ht sd ah cl)), (aI 600 gt), (aL 8 ln), (aL 8 wn), (aI 8 fs), (aI 24 ff), (aI 8 fb), (aI 8 fn), (aI 8 fp), (aZ 8 f3), (aI 64 fk), (aI 64 fx), (aI 64 fy), (aI 64 fc), (aI 11 fr9), (aI 11 f1), (aI 11 f2), (aI 22 fi), (aB 4096 fo9), (aB 8192 fq), (aZ 2 fh), (aI 2 fj), (aI 4096 fw), (aI 2100 fz)]) rfl rfl) hT hPm hG (show mRv P ht (some (l, w, rs, c + N9)) fr9 fo9 from ⟨hht1, hr9⟩) hm0 hm1 hsd hht htp) (mFr_of (by intro a ha; simp only [List.mem_cons, List.not_mem_nil, or_false] at ha; omega))
    · have b46 : ¬ (c + N9) ≤ 4096 := fun z => b46 ((nI_leI (a := (c + N9)) (b := 4096) (by omega) (by omega)).mpr z)
      refine w_aload_n dX10_run_49 rfl ?_
      refine w_iconst (v := 3) dX10_run_50 (by decide) ?_
      refine w_callV (ci := 10) (d' := d + 2) (mc' := 0) (ms' := 0) (As := [.int 3]) (st := []) lX10_266 vX10_lost rfl (hUs_at nd 0 rfl rfl) rfl (Nat.le_of_ble_eq_true rfl) dX10_run_51 (Nat.le_of_ble_eq_true rfl) (Nat.le_of_ble_eq_true rfl) (Nat.le_refl _) (m_lost (hHas_sub nd (as' := [m]) (cs' := [(oC 10 (mF m 0 tr pl (nI tp) sz sp fa fl tk ta sg nu wd (nI P.1) (nI P.2.1) rl rw ht sd ah cl))]) [0] rfl rfl) (nd_sub nd (as' := [m]) [0] rfl rfl)  ?_)
      refine w_heq (hUs_in nd rfl [0] (cs2 := [(oC 10 (mF m 0 3 (-1) (nI tp) sz sp fa fl tk ta sg nu wd (nI P.1) (nI P.2.1) rl rw ht sd ah cl)), (aI 8 fs), (aI 24 ff), (aI 8 fb), (aI 8 fn), (aI 8 fp), (aZ 8 f3), (aI 64 fk), (aI 64 fx), (aI 64 fy), (aI 64 fc), (aI 11 fr), (aB 4096 fo)]) rfl rfl) ?_
      refine w_ireturn rfl dX10_run_54 (Nat.le_of_ble_eq_true rfl) (Nat.le_of_ble_eq_true rfl) ?_
      have e : oRu P (some (l, w, rs, c)) (nI N9) = ((-1000000000), 3) := by
        simp only [oRu]
        rw [if_neg (fun z => z.elim (fun z => absurd (inB_1 b26).1 (Int32.not_le.mpr z)) (fun z => absurd (inB_1 b26).2 (Int32.not_le.mpr z))), hNc, if_pos (by omega)]
      have e2 : rRu (some (l, w, rs, c)) (nI N9) = some (l, w, rs, c) := by
        simp only [rRu]
        rw [if_neg (fun z => z.elim (fun z => absurd (inB_1 b26).1 (Int32.not_le.mpr z)) (fun z => absurd (inB_1 b26).2 (Int32.not_le.mpr z))), hNc, if_pos (by omega)]
      rw [e, e2] at k
      exact k _ (mI_i (cI_put hW (mAs_nd m) rfl [0, 4, 5, 6, 7, 8, 9, 10, 11, 12, 13, 14, 18] (cs2 := [(oC 10 (mF m 0 3 (-1) (nI tp) sz sp fa fl tk ta sg nu wd (nI P.1) (nI P.2.1) rl rw ht sd ah cl)), (aI 600 gt), (aL 8 ln), (aL 8 wn), (aI 8 fs), (aI 24 ff), (aI 8 fb), (aI 8 fn), (aI 8 fp), (aZ 8 f3), (aI 64 fk), (aI 64 fx), (aI 64 fy), (aI 64 fc), (aI 11 fr), (aI 11 f1), (aI 11 f2), (aI 22 fi), (aB 4096 fo), (aB 8192 fq), (aZ 2 fh), (aI 2 fj), (aI 4096 fw), (aI 2100 fz)]) rfl rfl) hT hPm hG hRm hm0 hm1 hsd hht htp) (mFr_of (by intro a ha; simp only [List.mem_cons, List.not_mem_nil, or_false] at ha; omega))
  · refine w_aload_n dX10_run_29 rfl ?_
    refine w_iconst (v := 2) dX10_run_30 (by decide) ?_
    refine w_callV (ci := 10) (d' := d + 2) (mc' := 0) (ms' := 0) (As := [.int 2]) (st := []) lX10_266 vX10_lost rfl (hUs_at nd 0 rfl rfl) rfl (Nat.le_of_ble_eq_true rfl) dX10_run_31 (Nat.le_of_ble_eq_true rfl) (Nat.le_of_ble_eq_true rfl) (Nat.le_refl _) (m_lost (hHas_sub nd (as' := [m]) (cs' := [(oC 10 (mF m 0 tr pl (nI tp) sz sp fa fl tk ta sg nu wd (nI P.1) (nI P.2.1) rl rw ht sd ah cl))]) [0] rfl rfl) (nd_sub nd (as' := [m]) [0] rfl rfl)  ?_)
    refine w_heq (hUs_in nd rfl [0] (cs2 := [(oC 10 (mF m 0 2 (-1) (nI tp) sz sp fa fl tk ta sg nu wd (nI P.1) (nI P.2.1) rl rw ht sd ah cl)), (aI 8 fs), (aI 24 ff), (aI 8 fb), (aI 8 fn), (aI 8 fp), (aZ 8 f3), (aI 64 fk), (aI 64 fx), (aI 64 fy), (aI 64 fc), (aI 11 fr), (aB 4096 fo)]) rfl rfl) ?_
    refine w_ireturn rfl dX10_run_34 (Nat.le_of_ble_eq_true rfl) (Nat.le_of_ble_eq_true rfl) ?_
    have e : oRu P (some (l, w, rs, c)) y = ((-1000000000), 2) := by
      simp only [oRu]
      rw [if_pos (inB_0 b26)]
    have e2 : rRu (some (l, w, rs, c)) y = some (l, w, rs, c) := by
      simp only [rRu]
      rw [if_pos (inB_0 b26)]
    rw [e, e2] at k
    exact k _ (mI_i (cI_put hW (mAs_nd m) rfl [0, 4, 5, 6, 7, 8, 9, 10, 11, 12, 13, 14, 18] (cs2 := [(oC 10 (mF m 0 2 (-1) (nI tp) sz sp fa fl tk ta sg nu wd (nI P.1) (nI P.2.1) rl rw ht sd ah cl)), (aI 600 gt), (aL 8 ln), (aL 8 wn), (aI 8 fs), (aI 24 ff), (aI 8 fb), (aI 8 fn), (aI 8 fp), (aZ 8 f3), (aI 64 fk), (aI 64 fx), (aI 64 fy), (aI 64 fc), (aI 11 fr), (aI 11 f1), (aI 11 f2), (aI 22 fi), (aB 4096 fo), (aB 8192 fq), (aZ 2 fh), (aI 2 fj), (aI 4096 fw), (aI 2100 fz)]) rfl rfl) hT hPm hG hRm hm0 hm1 hsd hht htp) (mFr_of (by intro a ha; simp only [List.mem_cons, List.not_mem_nil, or_false] at ha; omega))
theorem q_run {G : wG} {d : Nat} {h : hH} {Q : Option Value → hH → Prop} {m : Nat} {ft : Nat → Int32} {tp : Nat} {P : pD} {ht : Int32} {R : Option rnD} {i0 i1 : imD} {sd fa pl tr : Int32} {th : Int32}  {y : Int32} (hI : mI h m ft tp P ht R i0 i1 sd fa pl tr th) (k : ∀ h2, mI h2 m ft tp P ht (rRu (R) y) i0 i1 sd fa (-1) (oRu P (R) y).2 0 → mFr m h h2 → Q (some (.int (oRu P (R) y).1)) h2) : Cl G yX10_run (d + 3) 0 0 [.ref m, .int y] h Q := by
  cases R with
  | none => exact q_run_n hI k
  | some r => obtain ⟨l, w, rs, c⟩ := r; exact q_run_s hI k
