theorem fdv_mul {a b : Int32} (hb : 0 < b) (hb2 : b ≤ 99) (h1 : -1000 ≤ a) (h2 : a ≤ 1000) : fdvI (a * b) b = a := by
  have g0 := toI_pos hb
  have g1 := Int32.le_iff_toInt_le.mp hb2
  have g2 := Int32.le_iff_toInt_le.mp h1
  have g3 := Int32.le_iff_toInt_le.mp h2
  rw [show (99 : Int32).toInt = 99 from rfl] at g1
  rw [show (-1000 : Int32).toInt = -1000 from rfl] at g2
  rw [show (1000 : Int32).toInt = 1000 from rfl] at g3
  have h5 : a.toInt * b.toInt ≤ 1000 * b.toInt := Int.mul_le_mul_of_nonneg_right g3 (by omega)
  have h6 : -1000 * b.toInt ≤ a.toInt * b.toInt := Int.mul_le_mul_of_nonneg_right g2 (by omega)
  apply Int32.toInt_inj.mp
  rw [fdv_dn hb, dn_toInt hb, Int32.toInt_mul, bm_id (by omega) (by omega), Int.mul_ediv_cancel _ (by omega)]
theorem lvl_0 {W : wP} (h : wGd W) : lvlT W (nI 0) = W.2.1 0 := by
  have ht := wGd_tot h
  obtain ⟨c, c1, c2, c3⟩ := (h.2.2.2 0 h.1).1
  have hL0 : 0 < nI W.2.2.2.2.2 := nI_lt (a := 0) (by omega) (by omega)
  have hz : fmdI (nI 0) (nI W.2.2.2.2.2) = nI 0 := by
    rw [fmd_nn (by decide) hL0, pk_rem (by omega) (by omega) (by omega), Nat.zero_mod]
  rw [lvlT, if_pos (by omega), hz]
  obtain ⟨n, hn⟩ : ∃ n, W.2.2.2.2.1 = n + 1 := ⟨W.2.2.2.2.1 - 1, by have := h.1; omega⟩
  have hlt : nI 0 < W.2.2.2.1 0 := by rw [c3]; exact nI_lt (by omega) (by omega)
  rw [hn, lvlG, if_pos hlt]
  rcases (h.2.2.2 0 h.1).2.2 with z | z | z
  · rw [lvlI, if_neg (fun y => absurd (z.symm.trans y.1) (by decide)), if_neg (fun y => absurd (z.symm.trans y.1) (by decide))]
  · rw [lvlI, if_pos ⟨z.1, hlt⟩, show nI 0 = 0 from rfl, Int32.mul_zero]
    have e : fdvI 0 (W.2.2.2.1 0) = 0 := by
      rw [fdv_dn hlt]
      apply Int32.toInt_inj.mp
      rw [dn_toInt hlt]
      exact Int.zero_ediv _
    rw [e, Int32.add_zero]
  · obtain ⟨b, b1, b2, b3⟩ := z.2
    have hb0 : 0 < W.2.2.1 0 := by rw [b3]; exact nI_lt (a := 0) (by omega) (by omega)
    rw [lvlI, if_neg (fun y => absurd (z.1.symm.trans y.1) (by decide)), if_pos ⟨z.1, hb0⟩]
    have e0 : nI 0 - nI 0 / W.2.2.1 0 * W.2.2.1 0 = 0 := by
      rw [b3, pk_rem (by omega) (by omega) (by omega), Nat.zero_mod]; rfl
    rw [e0, mnI, Int32.sub_zero, if_neg (Int32.not_lt.mpr (Int32.le_of_lt hb0)), Int32.mul_zero, Int32.sub_zero]
    exact fdv_mul hb0 (by rw [b3]; exact (nI_leI (b := 99) (by omega) (by decide)).mpr b2) (h.2.2.2 0 h.1).2.1.1 (h.2.2.2 0 h.1).2.1.2
theorem low_1 {W : wP} (h : wGd W) : fld (fun t s => mnI s (lvlT W (nI t))) 0 1 1000 = lvlT W (nI 0) := by
  show mnI 1000 (lvlT W (nI (0 + 0))) = _
  have h2 : lvlT W (nI 0) ≤ 1000 := by rw [lvl_0 h]; exact (h.2.2.2 0 h.1).2.1.2
  unfold mnI
  by_cases e : lvlT W (nI 0) < 1000
  · exact if_pos e
  · exact (if_neg e).trans (Int32.le_antisymm (Int32.not_lt.mp e) h2)
theorem top_1 {W : wP} (h : wGd W) : fld (fun t s => mxI s (lvlT W (nI t))) 0 1 (-1000) = lvlT W (nI 0) := by
  show mxI (-1000) (lvlT W (nI (0 + 0))) = _
  have h2 : -1000 ≤ lvlT W (nI 0) := by rw [lvl_0 h]; exact (h.2.2.2 0 h.1).2.1.1
  unfold mxI
  by_cases e : -1000 < lvlT W (nI 0)
  · exact if_pos e
  · exact (if_neg e).trans (Int32.le_antisymm h2 (Int32.not_lt.mp e))
theorem fld_1 {α : Type} (f : Nat → α → α) (t : Nat) (s : α) : fld f 0 (1 + (t + 1)) s = f (1 + t) (fld f 0 (1 + t) s) := by
  rw [show 1 + (t + 1) = (1 + t) + 1 by omega, fld, Nat.zero_add]
set_option maxRecDepth 100000 in
set_option maxHeartbeats 4000000 in
theorem lq_wave2 {G : wG} {d : Nat} {h : hH} {Q : Option Value → hH → Prop} {m tp : Nat} {P : pD} {ht sd fa pl tr sz sp fl tk ta sg nu : Int32} {wd : Int64} {rl rw ah cl : Int32} {fp : Nat → Int32} {fk : Nat → Int32} {fx : Nat → Int32} {fy : Nat → Int32} {fc : Nat → Int32} {i : Nat} (nd : [m, m + 8, m + 10, m + 11, m + 12, m + 13].Nodup) (hw8 : i < 8) (hfp : fp i = nI (P.2.2.2 i).2.2.2.2.2.1) (hV : wGd (P.2.2.2 i).2) (hAt : wAt (P.2.2.2 i).2 (8 * i) fk fx fy fc) (k : WP G RX10 cX10_wave 6 (some .int) false (d + 3) 0 0 0 0 Q 114 [some (.ref m), some (.int (nI i)), some (.int (nI 2)), some (.int (lowF (P.2.2.2 i).2 (P.2.2.2 i).2.2.2.2.2.2)), none, none] [] (hUs h [m, m + 8, m + 10, m + 11, m + 12, m + 13] [(oC 10 (mF m 0 tr pl (nI tp) sz sp fa fl tk ta sg nu wd (nI P.1) (nI P.2.1) rl rw ht sd ah cl)), (aI 8 fp), (aI 64 fk), (aI 64 fx), (aI 64 fy), (aI 64 fc)])) : ∀ (n : Nat) (t : Nat) (v : Int32), 1 + t + n = (P.2.2.2 i).2.2.2.2.2.2 → v = fld (fun t s => mnI s (lvlT (P.2.2.2 i).2 (nI t))) 0 (1 + t) 1000 → WP G RX10 cX10_wave 6 (some .int) false (d + 3) 0 0 0 0 Q 66 [some (.ref m), some (.int (nI i)), some (.int (nI 2)), some (.int v), some (.int (nI (1 + t))), none] [] (hUs h [m, m + 8, m + 10, m + 11, m + 12, m + 13] [(oC 10 (mF m 0 tr pl (nI tp) sz sp fa fl tk ta sg nu wd (nI P.1) (nI P.2.1) rl rw ht sd ah cl)), (aI 8 fp), (aI 64 fk), (aI 64 fx), (aI 64 fy), (aI 64 fc)]) := by
  intro n
  induction n with
  | zero =>
    intro t v hi e
    have htt := (wGd_tot hV).2
    refine w_iload dX10_wave_66 rfl ?_
    refine w_aload_n dX10_wave_68 rfl ?_
    refine w_iload_n dX10_wave_69 rfl ?_
    refine w_callV (ci := 10) (d' := d + 2) (mc' := 0) (ms' := 0) (As := [.int (nI i)]) (st := [.int (nI (1 + t))]) lX10_257 vX10_longOf rfl (hUs_at nd 0 rfl rfl) rfl (Nat.le_of_ble_eq_true rfl) dX10_wave_70 (Nat.le_of_ble_eq_true rfl) (Nat.le_of_ble_eq_true rfl) (Nat.le_refl _) (m_longOf (hHas_sub nd (as' := [m, m + 8, m + 13]) (cs' := [(oC 10 (mF m 0 tr pl (nI tp) sz sp fa fl tk ta sg nu wd (nI P.1) (nI P.2.1) rl rw ht sd ah cl)), (aI 8 fp), (aI 64 fc)]) [0, 1, 5] rfl rfl) (V := (P.2.2.2 i).2) hw8 hfp hV hAt ?_)
    refine w_icmp_ge_t (tgt := 114) dX10_wave_73 rfl ((nI_leI (a := (P.2.2.2 i).2.2.2.2.2.2) (b := (1 + t)) (by omega) (by omega)).mpr (by omega)) ?_
    refine w_less (ls2 := [some (.ref m), some (.int (nI i)), some (.int (nI 2)), some (.int v), none, none]) ⟨Or.inr rfl, Or.inr rfl, Or.inr rfl, Or.inr rfl, Or.inl rfl, Or.inl rfl, trivial⟩ ?_
    have z : 1 + t = (P.2.2.2 i).2.2.2.2.2.2 := by omega
    rw [z] at e
    have e2 : lowF (P.2.2.2 i).2 (P.2.2.2 i).2.2.2.2.2.2 = v := e.symm
    rw [e2] at k
    exact k
  | succ n ih =>
    intro t v hi e
    have htt := (wGd_tot hV).2
    refine w_iload dX10_wave_66 rfl ?_
    refine w_aload_n dX10_wave_68 rfl ?_
    refine w_iload_n dX10_wave_69 rfl ?_
    refine w_callV (ci := 10) (d' := d + 2) (mc' := 0) (ms' := 0) (As := [.int (nI i)]) (st := [.int (nI (1 + t))]) lX10_257 vX10_longOf rfl (hUs_at nd 0 rfl rfl) rfl (Nat.le_of_ble_eq_true rfl) dX10_wave_70 (Nat.le_of_ble_eq_true rfl) (Nat.le_of_ble_eq_true rfl) (Nat.le_refl _) (m_longOf (hHas_sub nd (as' := [m, m + 8, m + 13]) (cs' := [(oC 10 (mF m 0 tr pl (nI tp) sz sp fa fl tk ta sg nu wd (nI P.1) (nI P.2.1) rl rw ht sd ah cl)), (aI 8 fp), (aI 64 fc)]) [0, 1, 5] rfl rfl) (V := (P.2.2.2 i).2) hw8 hfp hV hAt ?_)
    refine w_icmp_ge_f (tgt := 114) dX10_wave_73 rfl (fun z => absurd ((nI_leI (a := (P.2.2.2 i).2.2.2.2.2.2) (b := (1 + t)) (by omega) (by omega)).mp z) (by omega)) ?_
    refine w_aload_n dX10_wave_76 rfl ?_
    refine w_iload_n dX10_wave_77 rfl ?_
    refine w_iload dX10_wave_78 rfl ?_
    refine w_callV (ci := 10) (d' := d + 2) (mc' := 0) (ms' := 0) (As := [.int (nI i), .int (nI (1 + t))]) (st := []) lX10_269 vX10_levelOf rfl (hUs_at nd 0 rfl rfl) rfl (Nat.le_of_ble_eq_true rfl) dX10_wave_80 (Nat.le_of_ble_eq_true rfl) (Nat.le_of_ble_eq_true rfl) (Nat.le_refl _) (m_levelOf (hHas_sub nd (as' := [m, m + 8, m + 10, m + 11, m + 12, m + 13]) (cs' := [(oC 10 (mF m 0 tr pl (nI tp) sz sp fa fl tk ta sg nu wd (nI P.1) (nI P.2.1) rl rw ht sd ah cl)), (aI 8 fp), (aI 64 fk), (aI 64 fx), (aI 64 fy), (aI 64 fc)]) [0, 1, 2, 3, 4, 5] rfl rfl) (V := (P.2.2.2 i).2) hw8 hfp hV hAt (nI_pos' (show 1 + t < 2 ^ 31 by omega)) ?_)
    refine w_istore (ls2 := [some (.ref m), some (.int (nI i)), some (.int (nI 2)), some (.int v), some (.int (nI (1 + t))), some (.int (lvlT (P.2.2.2 i).2 (nI (1 + t))))]) dX10_wave_83 (by decide) rfl rfl ?_
    refine w_iload_n dX10_wave_85 rfl ?_
    refine w_iconst (v := 2) dX10_wave_86 (by decide) ?_
    refine w_icmp_ne_f (tgt := 99) dX10_wave_87 rfl ((nI_eq (a := 2) (b := 2) (by omega) (by omega)).mpr (by omega)) ?_
    refine w_iload dX10_wave_90 rfl ?_
    refine w_iload_n dX10_wave_92 rfl ?_
    refine w_icmp_ge (tgt := 108) dX10_wave_93 rfl (fun b93 => ?_) (fun b93 => ?_)
    · refine w_iinc (v := nI ((1 + t) + 1)) (ls2 := [some (.ref m), some (.int (nI i)), some (.int (nI 2)), some (.int v), some (.int (nI ((1 + t) + 1))), some (.int (lvlT (P.2.2.2 i).2 (nI (1 + t))))]) dX10_wave_108 rfl (nI_1 _) (by decide) rfl rfl ?_
      refine w_goto (tgt := 66) dX10_wave_111 rfl ?_
      refine w_less (ls2 := [some (.ref m), some (.int (nI i)), some (.int (nI 2)), some (.int v), some (.int (nI ((1 + t) + 1))), none]) ⟨Or.inr rfl, Or.inr rfl, Or.inr rfl, Or.inr rfl, Or.inr rfl, Or.inl rfl, trivial⟩ ?_
      exact ih (t + 1) _ (by omega) (by rw [fld_1, ← e]; simp only [mnI, if_neg (Int32.not_lt.mpr b93)])
    · refine w_goto (tgt := 105) dX10_wave_96 rfl ?_
      refine w_iload dX10_wave_105 rfl ?_
      refine w_istore_n (ls2 := [some (.ref m), some (.int (nI i)), some (.int (nI 2)), some (.int (lvlT (P.2.2.2 i).2 (nI (1 + t)))), some (.int (nI (1 + t))), some (.int (lvlT (P.2.2.2 i).2 (nI (1 + t))))]) dX10_wave_107 (by decide) rfl rfl ?_
      refine w_iinc (v := nI ((1 + t) + 1)) (ls2 := [some (.ref m), some (.int (nI i)), some (.int (nI 2)), some (.int (lvlT (P.2.2.2 i).2 (nI (1 + t)))), some (.int (nI ((1 + t) + 1))), some (.int (lvlT (P.2.2.2 i).2 (nI (1 + t))))]) dX10_wave_108 rfl (nI_1 _) (by decide) rfl rfl ?_
      refine w_goto (tgt := 66) dX10_wave_111 rfl ?_
      refine w_less (ls2 := [some (.ref m), some (.int (nI i)), some (.int (nI 2)), some (.int (lvlT (P.2.2.2 i).2 (nI (1 + t)))), some (.int (nI ((1 + t) + 1))), none]) ⟨Or.inr rfl, Or.inr rfl, Or.inr rfl, Or.inr rfl, Or.inr rfl, Or.inl rfl, trivial⟩ ?_
      exact ih (t + 1) _ (by omega) (by rw [fld_1, ← e]; simp only [mnI, if_pos (Int32.not_le.mp b93)])
set_option maxRecDepth 100000 in
set_option maxHeartbeats 4000000 in
theorem lq_wave3 {G : wG} {d : Nat} {h : hH} {Q : Option Value → hH → Prop} {m tp : Nat} {P : pD} {ht sd fa pl tr sz sp fl tk ta sg nu : Int32} {wd : Int64} {rl rw ah cl : Int32} {fp : Nat → Int32} {fk : Nat → Int32} {fx : Nat → Int32} {fy : Nat → Int32} {fc : Nat → Int32} {i : Nat} (nd : [m, m + 8, m + 10, m + 11, m + 12, m + 13].Nodup) (hw8 : i < 8) (hfp : fp i = nI (P.2.2.2 i).2.2.2.2.2.1) (hV : wGd (P.2.2.2 i).2) (hAt : wAt (P.2.2.2 i).2 (8 * i) fk fx fy fc) (k : WP G RX10 cX10_wave 6 (some .int) false (d + 3) 0 0 0 0 Q 114 [some (.ref m), some (.int (nI i)), some (.int (nI 3)), some (.int (topF (P.2.2.2 i).2 (P.2.2.2 i).2.2.2.2.2.2)), none, none] [] (hUs h [m, m + 8, m + 10, m + 11, m + 12, m + 13] [(oC 10 (mF m 0 tr pl (nI tp) sz sp fa fl tk ta sg nu wd (nI P.1) (nI P.2.1) rl rw ht sd ah cl)), (aI 8 fp), (aI 64 fk), (aI 64 fx), (aI 64 fy), (aI 64 fc)])) : ∀ (n : Nat) (t : Nat) (v : Int32), 1 + t + n = (P.2.2.2 i).2.2.2.2.2.2 → v = fld (fun t s => mxI s (lvlT (P.2.2.2 i).2 (nI t))) 0 (1 + t) (-1000) → WP G RX10 cX10_wave 6 (some .int) false (d + 3) 0 0 0 0 Q 66 [some (.ref m), some (.int (nI i)), some (.int (nI 3)), some (.int v), some (.int (nI (1 + t))), none] [] (hUs h [m, m + 8, m + 10, m + 11, m + 12, m + 13] [(oC 10 (mF m 0 tr pl (nI tp) sz sp fa fl tk ta sg nu wd (nI P.1) (nI P.2.1) rl rw ht sd ah cl)), (aI 8 fp), (aI 64 fk), (aI 64 fx), (aI 64 fy), (aI 64 fc)]) := by
  intro n
  induction n with
  | zero =>
    intro t v hi e
    have htt := (wGd_tot hV).2
    refine w_iload dX10_wave_66 rfl ?_
    refine w_aload_n dX10_wave_68 rfl ?_
    refine w_iload_n dX10_wave_69 rfl ?_
    refine w_callV (ci := 10) (d' := d + 2) (mc' := 0) (ms' := 0) (As := [.int (nI i)]) (st := [.int (nI (1 + t))]) lX10_257 vX10_longOf rfl (hUs_at nd 0 rfl rfl) rfl (Nat.le_of_ble_eq_true rfl) dX10_wave_70 (Nat.le_of_ble_eq_true rfl) (Nat.le_of_ble_eq_true rfl) (Nat.le_refl _) (m_longOf (hHas_sub nd (as' := [m, m + 8, m + 13]) (cs' := [(oC 10 (mF m 0 tr pl (nI tp) sz sp fa fl tk ta sg nu wd (nI P.1) (nI P.2.1) rl rw ht sd ah cl)), (aI 8 fp), (aI 64 fc)]) [0, 1, 5] rfl rfl) (V := (P.2.2.2 i).2) hw8 hfp hV hAt ?_)
    refine w_icmp_ge_t (tgt := 114) dX10_wave_73 rfl ((nI_leI (a := (P.2.2.2 i).2.2.2.2.2.2) (b := (1 + t)) (by omega) (by omega)).mpr (by omega)) ?_
    refine w_less (ls2 := [some (.ref m), some (.int (nI i)), some (.int (nI 3)), some (.int v), none, none]) ⟨Or.inr rfl, Or.inr rfl, Or.inr rfl, Or.inr rfl, Or.inl rfl, Or.inl rfl, trivial⟩ ?_
    have z : 1 + t = (P.2.2.2 i).2.2.2.2.2.2 := by omega
    rw [z] at e
    have e2 : topF (P.2.2.2 i).2 (P.2.2.2 i).2.2.2.2.2.2 = v := e.symm
    rw [e2] at k
    exact k
  | succ n ih =>
    intro t v hi e
    have htt := (wGd_tot hV).2
    refine w_iload dX10_wave_66 rfl ?_
    refine w_aload_n dX10_wave_68 rfl ?_
    refine w_iload_n dX10_wave_69 rfl ?_
    refine w_callV (ci := 10) (d' := d + 2) (mc' := 0) (ms' := 0) (As := [.int (nI i)]) (st := [.int (nI (1 + t))]) lX10_257 vX10_longOf rfl (hUs_at nd 0 rfl rfl) rfl (Nat.le_of_ble_eq_true rfl) dX10_wave_70 (Nat.le_of_ble_eq_true rfl) (Nat.le_of_ble_eq_true rfl) (Nat.le_refl _) (m_longOf (hHas_sub nd (as' := [m, m + 8, m + 13]) (cs' := [(oC 10 (mF m 0 tr pl (nI tp) sz sp fa fl tk ta sg nu wd (nI P.1) (nI P.2.1) rl rw ht sd ah cl)), (aI 8 fp), (aI 64 fc)]) [0, 1, 5] rfl rfl) (V := (P.2.2.2 i).2) hw8 hfp hV hAt ?_)
    refine w_icmp_ge_f (tgt := 114) dX10_wave_73 rfl (fun z => absurd ((nI_leI (a := (P.2.2.2 i).2.2.2.2.2.2) (b := (1 + t)) (by omega) (by omega)).mp z) (by omega)) ?_
    refine w_aload_n dX10_wave_76 rfl ?_
    refine w_iload_n dX10_wave_77 rfl ?_
    refine w_iload dX10_wave_78 rfl ?_
    refine w_callV (ci := 10) (d' := d + 2) (mc' := 0) (ms' := 0) (As := [.int (nI i), .int (nI (1 + t))]) (st := []) lX10_269 vX10_levelOf rfl (hUs_at nd 0 rfl rfl) rfl (Nat.le_of_ble_eq_true rfl) dX10_wave_80 (Nat.le_of_ble_eq_true rfl) (Nat.le_of_ble_eq_true rfl) (Nat.le_refl _) (m_levelOf (hHas_sub nd (as' := [m, m + 8, m + 10, m + 11, m + 12, m + 13]) (cs' := [(oC 10 (mF m 0 tr pl (nI tp) sz sp fa fl tk ta sg nu wd (nI P.1) (nI P.2.1) rl rw ht sd ah cl)), (aI 8 fp), (aI 64 fk), (aI 64 fx), (aI 64 fy), (aI 64 fc)]) [0, 1, 2, 3, 4, 5] rfl rfl) (V := (P.2.2.2 i).2) hw8 hfp hV hAt (nI_pos' (show 1 + t < 2 ^ 31 by omega)) ?_)
    refine w_istore (ls2 := [some (.ref m), some (.int (nI i)), some (.int (nI 3)), some (.int v), some (.int (nI (1 + t))), some (.int (lvlT (P.2.2.2 i).2 (nI (1 + t))))]) dX10_wave_83 (by decide) rfl rfl ?_
    refine w_iload_n dX10_wave_85 rfl ?_
    refine w_iconst (v := 2) dX10_wave_86 (by decide) ?_
    refine w_icmp_ne_t (tgt := 99) dX10_wave_87 rfl (fun z => absurd ((nI_eq (a := 3) (b := 2) (by omega) (by omega)).mp z) (by omega)) ?_
    refine w_iload dX10_wave_99 rfl ?_
    refine w_iload_n dX10_wave_101 rfl ?_
    refine w_icmp_le (tgt := 108) dX10_wave_102 rfl (fun b102 => ?_) (fun b102 => ?_)
    · refine w_iinc (v := nI ((1 + t) + 1)) (ls2 := [some (.ref m), some (.int (nI i)), some (.int (nI 3)), some (.int v), some (.int (nI ((1 + t) + 1))), some (.int (lvlT (P.2.2.2 i).2 (nI (1 + t))))]) dX10_wave_108 rfl (nI_1 _) (by decide) rfl rfl ?_
      refine w_goto (tgt := 66) dX10_wave_111 rfl ?_
      refine w_less (ls2 := [some (.ref m), some (.int (nI i)), some (.int (nI 3)), some (.int v), some (.int (nI ((1 + t) + 1))), none]) ⟨Or.inr rfl, Or.inr rfl, Or.inr rfl, Or.inr rfl, Or.inr rfl, Or.inl rfl, trivial⟩ ?_
      exact ih (t + 1) _ (by omega) (by rw [fld_1, ← e]; simp only [mxI, if_neg (Int32.not_lt.mpr b102)])
    · refine w_iload dX10_wave_105 rfl ?_
      refine w_istore_n (ls2 := [some (.ref m), some (.int (nI i)), some (.int (nI 3)), some (.int (lvlT (P.2.2.2 i).2 (nI (1 + t)))), some (.int (nI (1 + t))), some (.int (lvlT (P.2.2.2 i).2 (nI (1 + t))))]) dX10_wave_107 (by decide) rfl rfl ?_
      refine w_iinc (v := nI ((1 + t) + 1)) (ls2 := [some (.ref m), some (.int (nI i)), some (.int (nI 3)), some (.int (lvlT (P.2.2.2 i).2 (nI (1 + t)))), some (.int (nI ((1 + t) + 1))), some (.int (lvlT (P.2.2.2 i).2 (nI (1 + t))))]) dX10_wave_108 rfl (nI_1 _) (by decide) rfl rfl ?_
      refine w_goto (tgt := 66) dX10_wave_111 rfl ?_
      refine w_less (ls2 := [some (.ref m), some (.int (nI i)), some (.int (nI 3)), some (.int (lvlT (P.2.2.2 i).2 (nI (1 + t)))), some (.int (nI ((1 + t) + 1))), none]) ⟨Or.inr rfl, Or.inr rfl, Or.inr rfl, Or.inr rfl, Or.inr rfl, Or.inl rfl, trivial⟩ ?_
      exact ih (t + 1) _ (by omega) (by rw [fld_1, ← e]; simp only [mxI, if_pos (Int32.not_le.mp b102)])
set_option maxRecDepth 100000 in
set_option maxHeartbeats 4000000 in
theorem q_wave_s {G : wG} {d : Nat} {h : hH} {Q : Option Value → hH → Prop} {m : Nat} {ft : Nat → Int32} {tp : Nat} {P : pD} {ht : Int32} {R : Option rnD} {i0 i1 : imD} {sd fa pl tr : Int32} {th : Int32}  {i : Nat} {y : Int32} (hI : mI h m ft tp P ht R i0 i1 sd fa pl tr th) (hi : i < P.2.1) (k : ∀ h2, mI h2 m ft tp P ht R i0 i1 sd fa (-1) (oWv P (nI i) y).2 0 → mFr m h h2 → Q (some (.int (oWv P (nI i) y).1)) h2) : Cl G yX10_wave (d + 3) 0 0 [.ref m, .int (nI i), .int y] h Q := by
  refine mI_e hI ?_
  intro sz sp fl tk ta sg nu wd rl rw ah cl gt ln wn fs ff fb fn fp f3 fk fx fy fc fr f1 f2 fi fo fq fh fj fw fz hW hT hPm hG hRm hm0 hm1 hsd hht htp
  have hnL : P.1 ≤ 4096 := Nat.le_trans hG.2.2.1 (by decide)
  have hnW : P.2.1 ≤ 4096 := Nat.le_trans hG.2.2.2 (by decide)
  have hhL : (ht = 0 ∧ P.1 = 0) ∨ ht = 1 := hht.imp (fun z => ⟨z.1, z.2.1⟩) id
  have hhW : (ht = 0 ∧ P.2.1 = 0) ∨ ht = 1 := hht.imp (fun z => ⟨z.1, z.2.2⟩) id
  have hWv := hPm.2 i hi
  rw [Nat.zero_add] at hWv
  have hGw := (hG.2.1 i hi).1
  have hi4 : i < 4 := Nat.lt_of_lt_of_le hi hG.2.2.2
  have hw : hHas h [m, m + 8, m + 10, m + 11, m + 12, m + 13] [(oC 10 (mF m th tr pl (nI tp) sz sp fa fl tk ta sg nu wd (nI P.1) (nI P.2.1) rl rw ht sd ah cl)), (aI 8 fp), (aI 64 fk), (aI 64 fx), (aI 64 fy), (aI 64 fc)] := hHas_s hW [0, 8, 10, 11, 12, 13] rfl rfl
  have nd : [m, m + 8, m + 10, m + 11, m + 12, m + 13].Nodup := (nd_inc ⟨by omega, by omega, by omega, by omega, by omega, trivial⟩)
  refine Cl.of (ini := false) kX10_wave (plainFor_of_name (by decide)) (by decide) (Nat.le_of_ble_eq_true rfl) rfl rfl (fun z => by cases z) ?_
  refine w_heq (hUs_id hw).symm ?_
  refine w_aload_n dX10_wave_0 rfl ?_
  refine w_iconst (v := 0) dX10_wave_1 (by decide) ?_
  refine w_put (fs' := (mF m 0 tr pl (nI tp) sz sp fa fl tk ta sg nu wd (nI P.1) (nI P.2.1) rl rw ht sd ah cl)) fX10_89 (hUs_at nd 0 rfl rfl) rfl rfl (Nat.le_of_ble_eq_true rfl) rfl dX10_wave_2 ?_
  refine w_heq (hUs_set nd rfl 0 (cs' := [(oC 10 (mF m 0 tr pl (nI tp) sz sp fa fl tk ta sg nu wd (nI P.1) (nI P.2.1) rl rw ht sd ah cl)), (aI 8 fp), (aI 64 fk), (aI 64 fx), (aI 64 fy), (aI 64 fc)]) rfl rfl) ?_
  refine w_aload_n dX10_wave_5 rfl ?_
  refine w_iload_n dX10_wave_6 rfl ?_
  refine w_callV (ci := 10) (d' := d + 2) (mc' := 0) (ms' := 0) (As := [.int (nI i)]) (st := []) lX10_263 vX10_isWave rfl (hUs_at nd 0 rfl rfl) rfl (Nat.le_of_ble_eq_true rfl) dX10_wave_7 (Nat.le_of_ble_eq_true rfl) (Nat.le_of_ble_eq_true rfl) (Nat.le_refl _) (m_isWave (hHas_sub nd (as' := [m]) (cs' := [(oC 10 (mF m 0 tr pl (nI tp) sz sp fa fl tk ta sg nu wd (nI P.1) (nI P.2.1) rl rw ht sd ah cl))]) [0] rfl rfl) hnW hhW ?_)
  refine w_if_eq_f (tgt := 22) dX10_wave_10 rfl (by rw [ixB_s hi hnW]; decide) ?_
  refine w_iload_n dX10_wave_13 rfl ?_
  refine w_iconst (v := 0) dX10_wave_14 (by decide) ?_
  refine w_iconst (v := 3) dX10_wave_15 (by decide) ?_
  refine w_callS (d' := d + 2) (mc' := 0) (ms' := 0) (As := [.int y, .int 0, .int 3]) (st := []) lX10_111 vX10_in rfl (Nat.le_of_ble_eq_true rfl) dX10_wave_16 (Nat.le_of_ble_eq_true rfl) (Nat.le_of_ble_eq_true rfl) (Nat.le_refl _) (c_in ?_)
  refine w_if_ne (tgt := 28) dX10_wave_19 rfl (fun b19 => ?_) (fun b19 => ?_)
  · obtain ⟨w9, hw9, rfl⟩ := in2 (m := 3) (Int32.not_lt.mpr (inB_1 b19).1) (inB_1 b19).2 (by decide)
    rcases (show w9 = 0 ∨ w9 = 1 ∨ w9 = 2 ∨ w9 = 3 by omega) with rfl | rfl | rfl | rfl
    · refine w_iload_n dX10_wave_28 rfl ?_
      refine w_iconst (v := 2) dX10_wave_29 (by decide) ?_
      refine w_icmp_ge_f (tgt := 56) dX10_wave_30 rfl (fun z => absurd ((nI_leI (a := 2) (b := 0) (by omega) (by omega)).mp z) (by omega)) ?_
      refine w_aload_n dX10_wave_33 rfl ?_
      refine w_iload_n dX10_wave_34 rfl ?_
      refine w_if_ne_f (tgt := 47) dX10_wave_35 rfl ((nI_eq (a := 0) (b := 0) (by omega) (by omega)).mpr (by omega)) ?_
      refine w_aload_n dX10_wave_38 rfl ?_
      refine w_get (v := .ref (m + 8)) fX10_36 (hUs_at nd 0 rfl rfl) rfl dX10_wave_39 ?_
      refine w_iload_n dX10_wave_42 rfl ?_
      refine w_ialoadN (hUs_at nd 1 rfl rfl) (by omega) (by omega) dX10_wave_43 ?_
      refine w_top (z := nI (P.2.2.2 i).2.2.2.2.2.1) hWv.1 ?_
      refine w_goto (tgt := 52) dX10_wave_44 rfl ?_
      refine w_callV (ci := 10) (d' := d + 2) (mc' := 0) (ms' := 0) (As := [.int (nI (P.2.2.2 i).2.2.2.2.2.1)]) (st := []) lX10_241 vX10_good rfl (hUs_at nd 0 rfl rfl) rfl (Nat.le_of_ble_eq_true rfl) dX10_wave_52 (Nat.le_of_ble_eq_true rfl) (Nat.le_of_ble_eq_true rfl) (Nat.le_refl _) (m_good (hHas_sub nd (as' := [m]) (cs' := [(oC 10 (mF m 0 tr pl (nI tp) sz sp fa fl tk ta sg nu wd (nI P.1) (nI P.2.1) rl rw ht sd ah cl))]) [0] rfl rfl) (nd_sub nd (as' := [m]) [0] rfl rfl)  ?_)
      refine w_heq (hUs_in nd rfl [0] (cs2 := [(oC 10 (mF m 0 0 (-1) (nI tp) sz sp fa fl tk ta sg nu wd (nI P.1) (nI P.2.1) rl rw ht sd ah cl)), (aI 8 fp), (aI 64 fk), (aI 64 fx), (aI 64 fy), (aI 64 fc)]) rfl rfl) ?_
      refine w_ireturn rfl dX10_wave_55 (Nat.le_of_ble_eq_true rfl) (Nat.le_of_ble_eq_true rfl) ?_
      have e : oWv P (nI i) (nI 0) = (nI (P.2.2.2 i).2.2.2.2.2.1, 0) := by
        simp only [oWv, ixN_s hi hnW]
        rw [if_neg (by decide), show (nI 0).toNatClampNeg = 0 from nI_clamp (by omega)]
        rfl
      rw [e] at k
      exact k _ (mI_i (cI_put hW (mAs_nd m) rfl [0, 8, 10, 11, 12, 13] (cs2 := [(oC 10 (mF m 0 0 (-1) (nI tp) sz sp fa fl tk ta sg nu wd (nI P.1) (nI P.2.1) rl rw ht sd ah cl)), (aI 600 gt), (aL 8 ln), (aL 8 wn), (aI 8 fs), (aI 24 ff), (aI 8 fb), (aI 8 fn), (aI 8 fp), (aZ 8 f3), (aI 64 fk), (aI 64 fx), (aI 64 fy), (aI 64 fc), (aI 11 fr), (aI 11 f1), (aI 11 f2), (aI 22 fi), (aB 4096 fo), (aB 8192 fq), (aZ 2 fh), (aI 2 fj), (aI 4096 fw), (aI 2100 fz)]) rfl rfl) hT hPm hG hRm hm0 hm1 hsd hht htp) (mFr_of (by intro a ha; simp only [List.mem_cons, List.not_mem_nil, or_false] at ha; omega))
    · refine w_iload_n dX10_wave_28 rfl ?_
      refine w_iconst (v := 2) dX10_wave_29 (by decide) ?_
      refine w_icmp_ge_f (tgt := 56) dX10_wave_30 rfl (fun z => absurd ((nI_leI (a := 2) (b := 1) (by omega) (by omega)).mp z) (by omega)) ?_
      refine w_aload_n dX10_wave_33 rfl ?_
      refine w_iload_n dX10_wave_34 rfl ?_
      refine w_if_ne_t (tgt := 47) dX10_wave_35 rfl (fun z => absurd ((nI_eq (a := 1) (b := 0) (by omega) (by omega)).mp z) (by omega)) ?_
      refine w_aload_n dX10_wave_47 rfl ?_
      refine w_iload_n dX10_wave_48 rfl ?_
      refine w_callV (ci := 10) (d' := d + 2) (mc' := 0) (ms' := 0) (As := [.int (nI i)]) (st := [.ref m]) lX10_257 vX10_longOf rfl (hUs_at nd 0 rfl rfl) rfl (Nat.le_of_ble_eq_true rfl) dX10_wave_49 (Nat.le_of_ble_eq_true rfl) (Nat.le_of_ble_eq_true rfl) (Nat.le_refl _) (m_longOf (hHas_sub nd (as' := [m, m + 8, m + 13]) (cs' := [(oC 10 (mF m 0 tr pl (nI tp) sz sp fa fl tk ta sg nu wd (nI P.1) (nI P.2.1) rl rw ht sd ah cl)), (aI 8 fp), (aI 64 fc)]) [0, 1, 5] rfl rfl) (V := (P.2.2.2 i).2) (show i < 8 by omega) hWv.1 hGw hWv.2.1 ?_)
      refine w_callV (ci := 10) (d' := d + 2) (mc' := 0) (ms' := 0) (As := [.int (nI (P.2.2.2 i).2.2.2.2.2.2)]) (st := []) lX10_241 vX10_good rfl (hUs_at nd 0 rfl rfl) rfl (Nat.le_of_ble_eq_true rfl) dX10_wave_52 (Nat.le_of_ble_eq_true rfl) (Nat.le_of_ble_eq_true rfl) (Nat.le_refl _) (m_good (hHas_sub nd (as' := [m]) (cs' := [(oC 10 (mF m 0 tr pl (nI tp) sz sp fa fl tk ta sg nu wd (nI P.1) (nI P.2.1) rl rw ht sd ah cl))]) [0] rfl rfl) (nd_sub nd (as' := [m]) [0] rfl rfl)  ?_)
      refine w_heq (hUs_in nd rfl [0] (cs2 := [(oC 10 (mF m 0 0 (-1) (nI tp) sz sp fa fl tk ta sg nu wd (nI P.1) (nI P.2.1) rl rw ht sd ah cl)), (aI 8 fp), (aI 64 fk), (aI 64 fx), (aI 64 fy), (aI 64 fc)]) rfl rfl) ?_
      refine w_ireturn rfl dX10_wave_55 (Nat.le_of_ble_eq_true rfl) (Nat.le_of_ble_eq_true rfl) ?_
      have e : oWv P (nI i) (nI 1) = (nI (P.2.2.2 i).2.2.2.2.2.2, 0) := by
        simp only [oWv, ixN_s hi hnW]
        rw [if_neg (by decide), show (nI 1).toNatClampNeg = 1 from nI_clamp (by omega)]
        rfl
      rw [e] at k
      exact k _ (mI_i (cI_put hW (mAs_nd m) rfl [0, 8, 10, 11, 12, 13] (cs2 := [(oC 10 (mF m 0 0 (-1) (nI tp) sz sp fa fl tk ta sg nu wd (nI P.1) (nI P.2.1) rl rw ht sd ah cl)), (aI 600 gt), (aL 8 ln), (aL 8 wn), (aI 8 fs), (aI 24 ff), (aI 8 fb), (aI 8 fn), (aI 8 fp), (aZ 8 f3), (aI 64 fk), (aI 64 fx), (aI 64 fy), (aI 64 fc), (aI 11 fr), (aI 11 f1), (aI 11 f2), (aI 22 fi), (aB 4096 fo), (aB 8192 fq), (aZ 2 fh), (aI 2 fj), (aI 4096 fw), (aI 2100 fz)]) rfl rfl) hT hPm hG hRm hm0 hm1 hsd hht htp) (mFr_of (by intro a ha; simp only [List.mem_cons, List.not_mem_nil, or_false] at ha; omega))
    · refine w_iload_n dX10_wave_28 rfl ?_
      refine w_iconst (v := 2) dX10_wave_29 (by decide) ?_
      refine w_icmp_ge_t (tgt := 56) dX10_wave_30 rfl ((nI_leI (a := 2) (b := 2) (by omega) (by omega)).mpr (by omega)) ?_
      refine w_aload_n dX10_wave_56 rfl ?_
      refine w_iload_n dX10_wave_57 rfl ?_
      refine w_iconst (v := (nI 0)) dX10_wave_58 (by decide) ?_
      refine w_callV (ci := 10) (d' := d + 2) (mc' := 0) (ms' := 0) (As := [.int (nI i), .int (nI 0)]) (st := []) lX10_269 vX10_levelOf rfl (hUs_at nd 0 rfl rfl) rfl (Nat.le_of_ble_eq_true rfl) dX10_wave_59 (Nat.le_of_ble_eq_true rfl) (Nat.le_of_ble_eq_true rfl) (Nat.le_refl _) (m_levelOf (hHas_sub nd (as' := [m, m + 8, m + 10, m + 11, m + 12, m + 13]) (cs' := [(oC 10 (mF m 0 tr pl (nI tp) sz sp fa fl tk ta sg nu wd (nI P.1) (nI P.2.1) rl rw ht sd ah cl)), (aI 8 fp), (aI 64 fk), (aI 64 fx), (aI 64 fy), (aI 64 fc)]) [0, 1, 2, 3, 4, 5] rfl rfl) (V := (P.2.2.2 i).2) (show i < 8 by omega) hWv.1 hGw hWv.2.1 (by decide) ?_)
      refine w_istore_n (ls2 := [some (.ref m), some (.int (nI i)), some (.int (nI 2)), some (.int (lvlT (P.2.2.2 i).2 (nI 0))), none, none]) dX10_wave_62 (by decide) rfl rfl ?_
      refine w_iconst (v := (nI 1)) dX10_wave_63 (by decide) ?_
      refine w_istore (ls2 := [some (.ref m), some (.int (nI i)), some (.int (nI 2)), some (.int (lvlT (P.2.2.2 i).2 (nI 0))), some (.int (nI 1)), none]) dX10_wave_64 (by decide) rfl rfl ?_
      refine lq_wave2 nd (show i < 8 by omega) hWv.1 hGw hWv.2.1 ?_ ((P.2.2.2 i).2.2.2.2.2.2 - 1) 0 _ (by have := wGd_tot hGw; omega) (low_1 hGw).symm
      refine w_aload_n dX10_wave_114 rfl ?_
      refine w_iload_n dX10_wave_115 rfl ?_
      refine w_callV (ci := 10) (d' := d + 2) (mc' := 0) (ms' := 0) (As := [.int (lowF (P.2.2.2 i).2 (P.2.2.2 i).2.2.2.2.2.2)]) (st := []) lX10_241 vX10_good rfl (hUs_at nd 0 rfl rfl) rfl (Nat.le_of_ble_eq_true rfl) dX10_wave_116 (Nat.le_of_ble_eq_true rfl) (Nat.le_of_ble_eq_true rfl) (Nat.le_refl _) (m_good (hHas_sub nd (as' := [m]) (cs' := [(oC 10 (mF m 0 tr pl (nI tp) sz sp fa fl tk ta sg nu wd (nI P.1) (nI P.2.1) rl rw ht sd ah cl))]) [0] rfl rfl) (nd_sub nd (as' := [m]) [0] rfl rfl)  ?_)
      refine w_heq (hUs_in nd rfl [0] (cs2 := [(oC 10 (mF m 0 0 (-1) (nI tp) sz sp fa fl tk ta sg nu wd (nI P.1) (nI P.2.1) rl rw ht sd ah cl)), (aI 8 fp), (aI 64 fk), (aI 64 fx), (aI 64 fy), (aI 64 fc)]) rfl rfl) ?_
      refine w_ireturn rfl dX10_wave_119 (Nat.le_of_ble_eq_true rfl) (Nat.le_of_ble_eq_true rfl) ?_
      have e : oWv P (nI i) (nI 2) = (lowF (P.2.2.2 i).2 (P.2.2.2 i).2.2.2.2.2.2, 0) := by
        simp only [oWv, ixN_s hi hnW]
        rw [if_neg (by decide), show (nI 2).toNatClampNeg = 2 from nI_clamp (by omega)]
        rfl
      rw [e] at k
      exact k _ (mI_i (cI_put hW (mAs_nd m) rfl [0, 8, 10, 11, 12, 13] (cs2 := [(oC 10 (mF m 0 0 (-1) (nI tp) sz sp fa fl tk ta sg nu wd (nI P.1) (nI P.2.1) rl rw ht sd ah cl)), (aI 600 gt), (aL 8 ln), (aL 8 wn), (aI 8 fs), (aI 24 ff), (aI 8 fb), (aI 8 fn), (aI 8 fp), (aZ 8 f3), (aI 64 fk), (aI 64 fx), (aI 64 fy), (aI 64 fc), (aI 11 fr), (aI 11 f1), (aI 11 f2), (aI 22 fi), (aB 4096 fo), (aB 8192 fq), (aZ 2 fh), (aI 2 fj), (aI 4096 fw), (aI 2100 fz)]) rfl rfl) hT hPm hG hRm hm0 hm1 hsd hht htp) (mFr_of (by intro a ha; simp only [List.mem_cons, List.not_mem_nil, or_false] at ha; omega))
    · refine w_iload_n dX10_wave_28 rfl ?_
      refine w_iconst (v := 2) dX10_wave_29 (by decide) ?_
      refine w_icmp_ge_t (tgt := 56) dX10_wave_30 rfl ((nI_leI (a := 2) (b := 3) (by omega) (by omega)).mpr (by omega)) ?_
      refine w_aload_n dX10_wave_56 rfl ?_
      refine w_iload_n dX10_wave_57 rfl ?_
      refine w_iconst (v := (nI 0)) dX10_wave_58 (by decide) ?_
      refine w_callV (ci := 10) (d' := d + 2) (mc' := 0) (ms' := 0) (As := [.int (nI i), .int (nI 0)]) (st := []) lX10_269 vX10_levelOf rfl (hUs_at nd 0 rfl rfl) rfl (Nat.le_of_ble_eq_true rfl) dX10_wave_59 (Nat.le_of_ble_eq_true rfl) (Nat.le_of_ble_eq_true rfl) (Nat.le_refl _) (m_levelOf (hHas_sub nd (as' := [m, m + 8, m + 10, m + 11, m + 12, m + 13]) (cs' := [(oC 10 (mF m 0 tr pl (nI tp) sz sp fa fl tk ta sg nu wd (nI P.1) (nI P.2.1) rl rw ht sd ah cl)), (aI 8 fp), (aI 64 fk), (aI 64 fx), (aI 64 fy), (aI 64 fc)]) [0, 1, 2, 3, 4, 5] rfl rfl) (V := (P.2.2.2 i).2) (show i < 8 by omega) hWv.1 hGw hWv.2.1 (by decide) ?_)
      refine w_istore_n (ls2 := [some (.ref m), some (.int (nI i)), some (.int (nI 3)), some (.int (lvlT (P.2.2.2 i).2 (nI 0))), none, none]) dX10_wave_62 (by decide) rfl rfl ?_
      refine w_iconst (v := (nI 1)) dX10_wave_63 (by decide) ?_
      refine w_istore (ls2 := [some (.ref m), some (.int (nI i)), some (.int (nI 3)), some (.int (lvlT (P.2.2.2 i).2 (nI 0))), some (.int (nI 1)), none]) dX10_wave_64 (by decide) rfl rfl ?_
      refine lq_wave3 nd (show i < 8 by omega) hWv.1 hGw hWv.2.1 ?_ ((P.2.2.2 i).2.2.2.2.2.2 - 1) 0 _ (by have := wGd_tot hGw; omega) (top_1 hGw).symm
      refine w_aload_n dX10_wave_114 rfl ?_
      refine w_iload_n dX10_wave_115 rfl ?_
      refine w_callV (ci := 10) (d' := d + 2) (mc' := 0) (ms' := 0) (As := [.int (topF (P.2.2.2 i).2 (P.2.2.2 i).2.2.2.2.2.2)]) (st := []) lX10_241 vX10_good rfl (hUs_at nd 0 rfl rfl) rfl (Nat.le_of_ble_eq_true rfl) dX10_wave_116 (Nat.le_of_ble_eq_true rfl) (Nat.le_of_ble_eq_true rfl) (Nat.le_refl _) (m_good (hHas_sub nd (as' := [m]) (cs' := [(oC 10 (mF m 0 tr pl (nI tp) sz sp fa fl tk ta sg nu wd (nI P.1) (nI P.2.1) rl rw ht sd ah cl))]) [0] rfl rfl) (nd_sub nd (as' := [m]) [0] rfl rfl)  ?_)
      refine w_heq (hUs_in nd rfl [0] (cs2 := [(oC 10 (mF m 0 0 (-1) (nI tp) sz sp fa fl tk ta sg nu wd (nI P.1) (nI P.2.1) rl rw ht sd ah cl)), (aI 8 fp), (aI 64 fk), (aI 64 fx), (aI 64 fy), (aI 64 fc)]) rfl rfl) ?_
      refine w_ireturn rfl dX10_wave_119 (Nat.le_of_ble_eq_true rfl) (Nat.le_of_ble_eq_true rfl) ?_
      have e : oWv P (nI i) (nI 3) = (topF (P.2.2.2 i).2 (P.2.2.2 i).2.2.2.2.2.2, 0) := by
        simp only [oWv, ixN_s hi hnW]
        rw [if_neg (by decide), show (nI 3).toNatClampNeg = 3 from nI_clamp (by omega)]
        rfl
      rw [e] at k
      exact k _ (mI_i (cI_put hW (mAs_nd m) rfl [0, 8, 10, 11, 12, 13] (cs2 := [(oC 10 (mF m 0 0 (-1) (nI tp) sz sp fa fl tk ta sg nu wd (nI P.1) (nI P.2.1) rl rw ht sd ah cl)), (aI 600 gt), (aL 8 ln), (aL 8 wn), (aI 8 fs), (aI 24 ff), (aI 8 fb), (aI 8 fn), (aI 8 fp), (aZ 8 f3), (aI 64 fk), (aI 64 fx), (aI 64 fy), (aI 64 fc), (aI 11 fr), (aI 11 f1), (aI 11 f2), (aI 22 fi), (aB 4096 fo), (aB 8192 fq), (aZ 2 fh), (aI 2 fj), (aI 4096 fw), (aI 2100 fz)]) rfl rfl) hT hPm hG hRm hm0 hm1 hsd hht htp) (mFr_of (by intro a ha; simp only [List.mem_cons, List.not_mem_nil, or_false] at ha; omega))
  · refine w_aload_n dX10_wave_22 rfl ?_
    refine w_iconst (v := 1) dX10_wave_23 (by decide) ?_
    refine w_callV (ci := 10) (d' := d + 2) (mc' := 0) (ms' := 0) (As := [.int 1]) (st := []) lX10_266 vX10_lost rfl (hUs_at nd 0 rfl rfl) rfl (Nat.le_of_ble_eq_true rfl) dX10_wave_24 (Nat.le_of_ble_eq_true rfl) (Nat.le_of_ble_eq_true rfl) (Nat.le_refl _) (m_lost (hHas_sub nd (as' := [m]) (cs' := [(oC 10 (mF m 0 tr pl (nI tp) sz sp fa fl tk ta sg nu wd (nI P.1) (nI P.2.1) rl rw ht sd ah cl))]) [0] rfl rfl) (nd_sub nd (as' := [m]) [0] rfl rfl)  ?_)
    refine w_heq (hUs_in nd rfl [0] (cs2 := [(oC 10 (mF m 0 1 (-1) (nI tp) sz sp fa fl tk ta sg nu wd (nI P.1) (nI P.2.1) rl rw ht sd ah cl)), (aI 8 fp), (aI 64 fk), (aI 64 fx), (aI 64 fy), (aI 64 fc)]) rfl rfl) ?_
    refine w_ireturn rfl dX10_wave_27 (Nat.le_of_ble_eq_true rfl) (Nat.le_of_ble_eq_true rfl) ?_
    have e : oWv P (nI i) y = ((-1000000000), 1) := by
      simp only [oWv, ixN_s hi hnW]
      exact if_pos (inB_0 b19)
    rw [e] at k
    exact k _ (mI_i (cI_put hW (mAs_nd m) rfl [0, 8, 10, 11, 12, 13] (cs2 := [(oC 10 (mF m 0 1 (-1) (nI tp) sz sp fa fl tk ta sg nu wd (nI P.1) (nI P.2.1) rl rw ht sd ah cl)), (aI 600 gt), (aL 8 ln), (aL 8 wn), (aI 8 fs), (aI 24 ff), (aI 8 fb), (aI 8 fn), (aI 8 fp), (aZ 8 f3), (aI 64 fk), (aI 64 fx), (aI 64 fy), (aI 64 fc), (aI 11 fr), (aI 11 f1), (aI 11 f2), (aI 22 fi), (aB 4096 fo), (aB 8192 fq), (aZ 2 fh), (aI 2 fj), (aI 4096 fw), (aI 2100 fz)]) rfl rfl) hT hPm hG hRm hm0 hm1 hsd hht htp) (mFr_of (by intro a ha; simp only [List.mem_cons, List.not_mem_nil, or_false] at ha; omega))
set_option maxRecDepth 100000 in
set_option maxHeartbeats 4000000 in
theorem q_wave_n {G : wG} {d : Nat} {h : hH} {Q : Option Value → hH → Prop} {m : Nat} {ft : Nat → Int32} {tp : Nat} {P : pD} {ht : Int32} {R : Option rnD} {i0 i1 : imD} {sd fa pl tr : Int32} {th : Int32}  {w y : Int32} (hI : mI h m ft tp P ht R i0 i1 sd fa pl tr th) (hl : ¬ ∃ i, i < P.2.1 ∧ w = nI i) (k : ∀ h2, mI h2 m ft tp P ht R i0 i1 sd fa (-1) (oWv P w y).2 0 → mFr m h h2 → Q (some (.int (oWv P w y).1)) h2) : Cl G yX10_wave (d + 3) 0 0 [.ref m, .int w, .int y] h Q := by
  refine mI_e hI ?_
  intro sz sp fl tk ta sg nu wd rl rw ah cl gt ln wn fs ff fb fn fp f3 fk fx fy fc fr f1 f2 fi fo fq fh fj fw fz hW hT hPm hG hRm hm0 hm1 hsd hht htp
  have hnL : P.1 ≤ 4096 := Nat.le_trans hG.2.2.1 (by decide)
  have hnW : P.2.1 ≤ 4096 := Nat.le_trans hG.2.2.2 (by decide)
  have hhL : (ht = 0 ∧ P.1 = 0) ∨ ht = 1 := hht.imp (fun z => ⟨z.1, z.2.1⟩) id
  have hhW : (ht = 0 ∧ P.2.1 = 0) ∨ ht = 1 := hht.imp (fun z => ⟨z.1, z.2.2⟩) id
  have hw : hHas h [m] [(oC 10 (mF m th tr pl (nI tp) sz sp fa fl tk ta sg nu wd (nI P.1) (nI P.2.1) rl rw ht sd ah cl))] := hHas_s hW [0] rfl rfl
  have nd : [m].Nodup := (nd_inc trivial)
  refine Cl.of (ini := false) kX10_wave (plainFor_of_name (by decide)) (by decide) (Nat.le_of_ble_eq_true rfl) rfl rfl (fun z => by cases z) ?_
  refine w_heq (hUs_id hw).symm ?_
  refine w_aload_n dX10_wave_0 rfl ?_
  refine w_iconst (v := 0) dX10_wave_1 (by decide) ?_
  refine w_put (fs' := (mF m 0 tr pl (nI tp) sz sp fa fl tk ta sg nu wd (nI P.1) (nI P.2.1) rl rw ht sd ah cl)) fX10_89 (hUs_at nd 0 rfl rfl) rfl rfl (Nat.le_of_ble_eq_true rfl) rfl dX10_wave_2 ?_
  refine w_heq (hUs_set nd rfl 0 (cs' := [(oC 10 (mF m 0 tr pl (nI tp) sz sp fa fl tk ta sg nu wd (nI P.1) (nI P.2.1) rl rw ht sd ah cl))]) rfl rfl) ?_
  refine w_aload_n dX10_wave_5 rfl ?_
  refine w_iload_n dX10_wave_6 rfl ?_
  refine w_callV (ci := 10) (d' := d + 2) (mc' := 0) (ms' := 0) (As := [.int w]) (st := []) lX10_263 vX10_isWave rfl (hUs_at nd 0 rfl rfl) rfl (Nat.le_of_ble_eq_true rfl) dX10_wave_7 (Nat.le_of_ble_eq_true rfl) (Nat.le_of_ble_eq_true rfl) (Nat.le_refl _) (m_isWave (hHas_sub nd (as' := [m]) (cs' := [(oC 10 (mF m 0 tr pl (nI tp) sz sp fa fl tk ta sg nu wd (nI P.1) (nI P.2.1) rl rw ht sd ah cl))]) [0] rfl rfl) hnW hhW ?_)
  refine w_if_eq_t (tgt := 22) dX10_wave_10 rfl (ixB_n hl hnW) ?_
  refine w_aload_n dX10_wave_22 rfl ?_
  refine w_iconst (v := 1) dX10_wave_23 (by decide) ?_
  refine w_callV (ci := 10) (d' := d + 2) (mc' := 0) (ms' := 0) (As := [.int 1]) (st := []) lX10_266 vX10_lost rfl (hUs_at nd 0 rfl rfl) rfl (Nat.le_of_ble_eq_true rfl) dX10_wave_24 (Nat.le_of_ble_eq_true rfl) (Nat.le_of_ble_eq_true rfl) (Nat.le_refl _) (m_lost (hHas_sub nd (as' := [m]) (cs' := [(oC 10 (mF m 0 tr pl (nI tp) sz sp fa fl tk ta sg nu wd (nI P.1) (nI P.2.1) rl rw ht sd ah cl))]) [0] rfl rfl) (nd_sub nd (as' := [m]) [0] rfl rfl)  ?_)
  refine w_heq (hUs_in nd rfl [0] (cs2 := [(oC 10 (mF m 0 1 (-1) (nI tp) sz sp fa fl tk ta sg nu wd (nI P.1) (nI P.2.1) rl rw ht sd ah cl))]) rfl rfl) ?_
  refine w_ireturn rfl dX10_wave_27 (Nat.le_of_ble_eq_true rfl) (Nat.le_of_ble_eq_true rfl) ?_
  have e : oWv P w y = ((-1000000000), 1) := by
    simp [oWv, ixN_n hl hnW]
  rw [e] at k
  exact k _ (mI_i (cI_put hW (mAs_nd m) rfl [0] (cs2 := [(oC 10 (mF m 0 1 (-1) (nI tp) sz sp fa fl tk ta sg nu wd (nI P.1) (nI P.2.1) rl rw ht sd ah cl)), (aI 600 gt), (aL 8 ln), (aL 8 wn), (aI 8 fs), (aI 24 ff), (aI 8 fb), (aI 8 fn), (aI 8 fp), (aZ 8 f3), (aI 64 fk), (aI 64 fx), (aI 64 fy), (aI 64 fc), (aI 11 fr), (aI 11 f1), (aI 11 f2), (aI 22 fi), (aB 4096 fo), (aB 8192 fq), (aZ 2 fh), (aI 2 fj), (aI 4096 fw), (aI 2100 fz)]) rfl rfl) hT hPm hG hRm hm0 hm1 hsd hht htp) (mFr_of (by intro a ha; simp only [List.mem_cons, List.not_mem_nil, or_false] at ha; omega))
theorem q_wave {G : wG} {d : Nat} {h : hH} {Q : Option Value → hH → Prop} {m : Nat} {ft : Nat → Int32} {tp : Nat} {P : pD} {ht : Int32} {R : Option rnD} {i0 i1 : imD} {sd fa pl tr : Int32} {th : Int32} {w y : Int32} (hI : mI h m ft tp P ht R i0 i1 sd fa pl tr th) (k : ∀ h2, mI h2 m ft tp P ht R i0 i1 sd fa (-1) (oWv P w y).2 0 → mFr m h h2 → Q (some (.int (oWv P w y).1)) h2) : Cl G yX10_wave (d + 3) 0 0 [.ref m, .int w, .int y] h Q := by
  by_cases hl : ∃ i, i < P.2.1 ∧ w = nI i
  · obtain ⟨i, hi, rfl⟩ := hl
    exact q_wave_s hI hi k
  · exact q_wave_n hI hl k
set_option maxRecDepth 100000 in
set_option maxHeartbeats 4000000 in
theorem lq_apart {G : wG} {d : Nat} {h : hH} {Q : Option Value → hH → Prop} {m tp : Nat} {P : pD} {ht sd fa pl tr sz sp fl tk ta sg nu : Int32} {wd : Int64} {rl rw ah cl : Int32} {ln : Nat → Int64} {fs : Nat → Int32} {ff : Nat → Int32} {fb : Nat → Int32} {fn : Nat → Int32} {fp : Nat → Int32} {f3 : Nat → Int32} {fk : Nat → Int32} {fx : Nat → Int32} {fy : Nat → Int32} {fc : Nat → Int32} {j g i N : Nat} (nd : [m, m + 4, m + 5, m + 6, m + 7, m + 8, m + 9, m + 10, m + 11, m + 12, m + 13, m + 15, m + 16].Nodup) (h8j : j < 8) (hLj : mLp (P.2.2.1 j) j ln fs ff fb fn f3) (hGj : lGd (P.2.2.1 j)) (h8g : g < 8) (hLg : mLp (P.2.2.1 g) g ln fs ff fb fn f3) (hGg : lGd (P.2.2.1 g)) (hw8 : i < 8) (hfp : fp i = nI (P.2.2.2 i).2.2.2.2.2.1) (hV : wGd (P.2.2.2 i).2) (hAt : wAt (P.2.2.2 i).2 (8 * i) fk fx fy fc) (hsd : sdOk sd) (hN : N ≤ 500) (k : ∀ f1 f2 : Nat → Int32, WP G RX10 cX10_apart 9 (some .int) false (d + 3) 0 0 0 0 Q 150 [some (.ref m), some (.int (nI j)), some (.int (nI g)), some (.int (nI i)), some (.int (nI N)), some (.int (apF (rQo P j i sd) (rQo P g i sd) N)), none, none, none] [] (hUs h [m, m + 4, m + 5, m + 6, m + 7, m + 8, m + 9, m + 10, m + 11, m + 12, m + 13, m + 15, m + 16] [(oC 10 (mF m 0 tr pl (nI tp) sz sp fa fl tk ta sg nu wd (nI P.1) (nI P.2.1) rl rw ht sd ah cl)), (aI 8 fs), (aI 24 ff), (aI 8 fb), (aI 8 fn), (aI 8 fp), (aZ 8 f3), (aI 64 fk), (aI 64 fx), (aI 64 fy), (aI 64 fc), (aI 11 f1), (aI 11 f2)])) : ∀ (n : Nat) (t : Nat) (x : Int32) (f1 f2 : Nat → Int32), t + n = N → x = apF (rQo P j i sd) (rQo P g i sd) t → mRn f1 (nI j) (nI i) (nI t) (rS (rQo P j i sd) t) → mRn f2 (nI g) (nI i) (nI t) (rS (rQo P g i sd) t) → WP G RX10 cX10_apart 9 (some .int) false (d + 3) 0 0 0 0 Q 79 [some (.ref m), some (.int (nI j)), some (.int (nI g)), some (.int (nI i)), some (.int (nI N)), some (.int x), some (.int (nI t)), none, none] [] (hUs h [m, m + 4, m + 5, m + 6, m + 7, m + 8, m + 9, m + 10, m + 11, m + 12, m + 13, m + 15, m + 16] [(oC 10 (mF m 0 tr pl (nI tp) sz sp fa fl tk ta sg nu wd (nI P.1) (nI P.2.1) rl rw ht sd ah cl)), (aI 8 fs), (aI 24 ff), (aI 8 fb), (aI 8 fn), (aI 8 fp), (aZ 8 f3), (aI 64 fk), (aI 64 fx), (aI 64 fy), (aI 64 fc), (aI 11 f1), (aI 11 f2)]) := by
  intro n
  induction n with
  | zero =>
    intro t x f1 f2 hi e h1 h2
    refine w_iload dX10_apart_79 rfl ?_
    refine w_iload dX10_apart_81 rfl ?_
    refine w_icmp_ge_t (tgt := 150) dX10_apart_83 rfl ((nI_leI (a := N) (b := t) (by omega) (by omega)).mpr (by omega)) ?_
    refine w_less (ls2 := [some (.ref m), some (.int (nI j)), some (.int (nI g)), some (.int (nI i)), some (.int (nI N)), some (.int x), none, none, none]) ⟨Or.inr rfl, Or.inr rfl, Or.inr rfl, Or.inr rfl, Or.inr rfl, Or.inr rfl, Or.inl rfl, Or.inl rfl, Or.inl rfl, trivial⟩ ?_
    have z : t = N := by omega
    rw [z] at e
    rw [← e] at k
    exact k f1 f2
  | succ n ih =>
    intro t x f1 f2 hi e h1 h2
    refine w_iload dX10_apart_79 rfl ?_
    refine w_iload dX10_apart_81 rfl ?_
    refine w_icmp_ge_f (tgt := 150) dX10_apart_83 rfl (fun z => absurd ((nI_leI (a := N) (b := t) (by omega) (by omega)).mp z) (by omega)) ?_
    refine w_aload_n dX10_apart_86 rfl ?_
    refine w_iload_n dX10_apart_87 rfl ?_
    refine w_iload dX10_apart_88 rfl ?_
    refine w_callV (ci := 10) (d' := d + 2) (mc' := 0) (ms' := 0) (As := [.int (nI i), .int (nI t)]) (st := []) lX10_269 vX10_levelOf rfl (hUs_at nd 0 rfl rfl) rfl (Nat.le_of_ble_eq_true rfl) dX10_apart_90 (Nat.le_of_ble_eq_true rfl) (Nat.le_of_ble_eq_true rfl) (Nat.le_refl _) (m_levelOf (hHas_sub nd (as' := [m, m + 8, m + 10, m + 11, m + 12, m + 13]) (cs' := [(oC 10 (mF m 0 tr pl (nI tp) sz sp fa fl tk ta sg nu wd (nI P.1) (nI P.2.1) rl rw ht sd ah cl)), (aI 8 fp), (aI 64 fk), (aI 64 fx), (aI 64 fy), (aI 64 fc)]) [0, 5, 7, 8, 9, 10] rfl rfl) (V := (P.2.2.2 i).2) hw8 hfp hV hAt (nI_pos' (show t < 2 ^ 31 by omega)) ?_)
    refine w_istore (ls2 := [some (.ref m), some (.int (nI j)), some (.int (nI g)), some (.int (nI i)), some (.int (nI N)), some (.int x), some (.int (nI t)), some (.int (lvlT (P.2.2.2 i).2 (nI t))), none]) dX10_apart_93 (by decide) rfl rfl ?_
    refine w_aload_n dX10_apart_95 rfl ?_
    refine w_aload_n dX10_apart_96 rfl ?_
    refine w_get (v := .ref (m + 15)) fX10_58 (hUs_at nd 0 rfl rfl) rfl dX10_apart_97 ?_
    refine w_iload dX10_apart_100 rfl ?_
    refine w_aload_n dX10_apart_102 rfl ?_
    refine w_get (v := .ref (m + 7)) fX10_33 (hUs_at nd 0 rfl rfl) rfl dX10_apart_103 ?_
    refine w_iload_n dX10_apart_106 rfl ?_
    refine w_ialoadN (hUs_at nd 4 rfl rfl) (by omega) (by omega) dX10_apart_107 ?_
    refine w_top (z := (P.2.2.1 j).2.2.2.2.1) hLj.2.2.2.1 ?_
    refine w_callV (ci := 10) (d' := d + 2) (mc' := 0) (ms' := 0) (As := [.ref (m + 15), .int (lvlT (P.2.2.2 i).2 (nI t)), .int (P.2.2.1 j).2.2.2.2.1]) (st := []) lX10_287 vX10_clock rfl (hUs_at nd 0 rfl rfl) rfl (Nat.le_of_ble_eq_true rfl) dX10_apart_108 (Nat.le_of_ble_eq_true rfl) (Nat.le_of_ble_eq_true rfl) (Nat.le_refl _) (m_clockL (D := (P.2.2.1 j)) (s := (rS (rQo P j i sd) t)) (hHas_sub nd (as' := [m, m + 4, m + 5, m + 6, m + 9, m + 15]) (cs' := [(oC 10 (mF m 0 tr pl (nI tp) sz sp fa fl tk ta sg nu wd (nI P.1) (nI P.2.1) rl rw ht sd ah cl)), (aI 8 fs), (aI 24 ff), (aI 8 fb), (aZ 8 f3), (aI 11 f1)]) [0, 1, 2, 3, 6, 11] rfl rfl) (nd_sub nd (as' := [m, m + 4, m + 5, m + 6, m + 9, m + 15]) [0, 1, 2, 3, 6, 11] rfl rfl) h8j hLj hGj h1 (Int32.not_lt.mpr hGj.2.2.2.2.1.1) (Or.inr (reg_in (rS_reg (q := (rQo P j i sd)) hsd t).1 (rS_reg (q := (rQo P j i sd)) hsd t).2).1) (fun fk19 hfk19 zfk19 => ?_))
    refine w_heq (hUs_in nd rfl [0, 1, 2, 3, 6, 11] (cs2 := [(oC 10 (mF m 0 tr pl (nI tp) sz sp fa fl tk ta sg nu wd (nI P.1) (nI P.2.1) rl rw ht sd ah cl)), (aI 8 fs), (aI 24 ff), (aI 8 fb), (aI 8 fn), (aI 8 fp), (aZ 8 f3), (aI 64 fk), (aI 64 fx), (aI 64 fy), (aI 64 fc), (aI 11 fk19), (aI 11 f2)]) rfl rfl) ?_
    refine w_istore (ls2 := [some (.ref m), some (.int (nI j)), some (.int (nI g)), some (.int (nI i)), some (.int (nI N)), some (.int x), some (.int (nI t)), some (.int (lvlT (P.2.2.2 i).2 (nI t))), some (.int (cOut (lPo (P.2.2.1 j)) (P.2.2.1 j).2.2.2.2.1 (rS (rQo P j i sd) t)))]) dX10_apart_111 (by decide) rfl rfl ?_
    refine w_iload dX10_apart_113 rfl ?_
    refine w_iload dX10_apart_115 rfl ?_
    refine w_aload_n dX10_apart_117 rfl ?_
    refine w_aload_n dX10_apart_118 rfl ?_
    refine w_get (v := .ref (m + 16)) fX10_61 (hUs_at nd 0 rfl rfl) rfl dX10_apart_119 ?_
    refine w_iload dX10_apart_122 rfl ?_
    refine w_aload_n dX10_apart_124 rfl ?_
    refine w_get (v := .ref (m + 7)) fX10_33 (hUs_at nd 0 rfl rfl) rfl dX10_apart_125 ?_
    refine w_iload_n dX10_apart_128 rfl ?_
    refine w_ialoadN (hUs_at nd 4 rfl rfl) (by omega) (by omega) dX10_apart_129 ?_
    refine w_top (z := (P.2.2.1 g).2.2.2.2.1) hLg.2.2.2.1 ?_
    refine w_callV (ci := 10) (d' := d + 2) (mc' := 0) (ms' := 0) (As := [.ref (m + 16), .int (lvlT (P.2.2.2 i).2 (nI t)), .int (P.2.2.1 g).2.2.2.2.1]) (st := [.int (cOut (lPo (P.2.2.1 j)) (P.2.2.1 j).2.2.2.2.1 (rS (rQo P j i sd) t)), .int x]) lX10_287 vX10_clock rfl (hUs_at nd 0 rfl rfl) rfl (Nat.le_of_ble_eq_true rfl) dX10_apart_130 (Nat.le_of_ble_eq_true rfl) (Nat.le_of_ble_eq_true rfl) (Nat.le_refl _) (m_clockL (D := (P.2.2.1 g)) (s := (rS (rQo P g i sd) t)) (hHas_sub nd (as' := [m, m + 4, m + 5, m + 6, m + 9, m + 16]) (cs' := [(oC 10 (mF m 0 tr pl (nI tp) sz sp fa fl tk ta sg nu wd (nI P.1) (nI P.2.1) rl rw ht sd ah cl)), (aI 8 fs), (aI 24 ff), (aI 8 fb), (aZ 8 f3), (aI 11 f2)]) [0, 1, 2, 3, 6, 12] rfl rfl) (nd_sub nd (as' := [m, m + 4, m + 5, m + 6, m + 9, m + 16]) [0, 1, 2, 3, 6, 12] rfl rfl) h8g hLg hGg h2 (Int32.not_lt.mpr hGg.2.2.2.2.1.1) (Or.inr (reg_in (rS_reg (q := (rQo P g i sd)) hsd t).1 (rS_reg (q := (rQo P g i sd)) hsd t).2).1) (fun fk29 hfk29 zfk29 => ?_))
    refine w_heq (hUs_in nd rfl [0, 1, 2, 3, 6, 12] (cs2 := [(oC 10 (mF m 0 tr pl (nI tp) sz sp fa fl tk ta sg nu wd (nI P.1) (nI P.2.1) rl rw ht sd ah cl)), (aI 8 fs), (aI 24 ff), (aI 8 fb), (aI 8 fn), (aI 8 fp), (aZ 8 f3), (aI 64 fk), (aI 64 fx), (aI 64 fy), (aI 64 fc), (aI 11 fk19), (aI 11 fk29)]) rfl rfl) ?_
    refine w_icmp_ne (tgt := 140) dX10_apart_133 rfl (fun b133 => ?_) (fun b133 => ?_)
    · refine w_iconst (v := 1) dX10_apart_140 (by decide) ?_
      refine w_iadd dX10_apart_141 ?_
      refine w_istore (ls2 := [some (.ref m), some (.int (nI j)), some (.int (nI g)), some (.int (nI i)), some (.int (nI N)), some (.int (x + 1)), some (.int (nI t)), some (.int (lvlT (P.2.2.2 i).2 (nI t))), some (.int (cOut (lPo (P.2.2.1 j)) (P.2.2.1 j).2.2.2.2.1 (rS (rQo P j i sd) t)))]) dX10_apart_142 (by decide) rfl rfl ?_
      refine w_iinc (v := nI (t + 1)) (ls2 := [some (.ref m), some (.int (nI j)), some (.int (nI g)), some (.int (nI i)), some (.int (nI N)), some (.int (x + 1)), some (.int (nI (t + 1))), some (.int (lvlT (P.2.2.2 i).2 (nI t))), some (.int (cOut (lPo (P.2.2.1 j)) (P.2.2.1 j).2.2.2.2.1 (rS (rQo P j i sd) t)))]) dX10_apart_144 rfl (nI_1 _) (by decide) rfl rfl ?_
      refine w_goto (tgt := 79) dX10_apart_147 rfl ?_
      refine w_less (ls2 := [some (.ref m), some (.int (nI j)), some (.int (nI g)), some (.int (nI i)), some (.int (nI N)), some (.int (x + 1)), some (.int (nI (t + 1))), none, none]) ⟨Or.inr rfl, Or.inr rfl, Or.inr rfl, Or.inr rfl, Or.inr rfl, Or.inr rfl, Or.inr rfl, Or.inl rfl, Or.inl rfl, trivial⟩ ?_
      exact ih (t + 1) _ fk19 fk29 (by omega) (by
        rw [apF, fld, Nat.zero_add, show (if rO (rQo P j i sd) t = rO (rQo P g i sd) t then (0 : Int32) else 1) = 1 from if_neg b133, e]; rfl) (by
        have z := hfk19
        rw [nI_1] at z
        exact z) (by
        have z := hfk29
        rw [nI_1] at z
        exact z)
    · refine w_iconst (v := 0) dX10_apart_136 (by decide) ?_
      refine w_goto (tgt := 141) dX10_apart_137 rfl ?_
      refine w_iadd dX10_apart_141 ?_
      refine w_istore (ls2 := [some (.ref m), some (.int (nI j)), some (.int (nI g)), some (.int (nI i)), some (.int (nI N)), some (.int (x + 0)), some (.int (nI t)), some (.int (lvlT (P.2.2.2 i).2 (nI t))), some (.int (cOut (lPo (P.2.2.1 j)) (P.2.2.1 j).2.2.2.2.1 (rS (rQo P j i sd) t)))]) dX10_apart_142 (by decide) rfl rfl ?_
      refine w_iinc (v := nI (t + 1)) (ls2 := [some (.ref m), some (.int (nI j)), some (.int (nI g)), some (.int (nI i)), some (.int (nI N)), some (.int (x + 0)), some (.int (nI (t + 1))), some (.int (lvlT (P.2.2.2 i).2 (nI t))), some (.int (cOut (lPo (P.2.2.1 j)) (P.2.2.1 j).2.2.2.2.1 (rS (rQo P j i sd) t)))]) dX10_apart_144 rfl (nI_1 _) (by decide) rfl rfl ?_
      refine w_goto (tgt := 79) dX10_apart_147 rfl ?_
      refine w_less (ls2 := [some (.ref m), some (.int (nI j)), some (.int (nI g)), some (.int (nI i)), some (.int (nI N)), some (.int (x + 0)), some (.int (nI (t + 1))), none, none]) ⟨Or.inr rfl, Or.inr rfl, Or.inr rfl, Or.inr rfl, Or.inr rfl, Or.inr rfl, Or.inr rfl, Or.inl rfl, Or.inl rfl, trivial⟩ ?_
      exact ih (t + 1) _ fk19 fk29 (by omega) (by
        rw [apF, fld, Nat.zero_add, show (if rO (rQo P j i sd) t = rO (rQo P g i sd) t then (0 : Int32) else 1) = 0 from if_pos b133, e]; rfl) (by
        have z := hfk19
        rw [nI_1] at z
        exact z) (by
        have z := hfk29
        rw [nI_1] at z
        exact z)
set_option maxRecDepth 100000 in
set_option maxHeartbeats 4000000 in
theorem q_apart_s {G : wG} {d : Nat} {h : hH} {Q : Option Value → hH → Prop} {m : Nat} {ft : Nat → Int32} {tp : Nat} {P : pD} {ht : Int32} {R : Option rnD} {i0 i1 : imD} {sd fa pl tr : Int32} {th : Int32}  {j g i : Nat} {y : Int32} (hI : mI h m ft tp P ht R i0 i1 sd fa pl tr th) (hj : j < P.1) (hg : g < P.1) (hi : i < P.2.1) (k : ∀ h2, mI h2 m ft tp P ht R i0 i1 sd fa (-1) (oAp P sd (nI j) (nI g) (nI i) y).2 0 → mFr m h h2 → Q (some (.int (oAp P sd (nI j) (nI g) (nI i) y).1)) h2) : Cl G yX10_apart (d + 3) 0 0 [.ref m, .int (nI j), .int (nI g), .int (nI i), .int y] h Q := by
  refine mI_e hI ?_
  intro sz sp fl tk ta sg nu wd rl rw ah cl gt ln wn fs ff fb fn fp f3 fk fx fy fc fr f1 f2 fi fo fq fh fj fw fz hW hT hPm hG hRm hm0 hm1 hsd hht htp
  have hnL : P.1 ≤ 4096 := Nat.le_trans hG.2.2.1 (by decide)
  have hnW : P.2.1 ≤ 4096 := Nat.le_trans hG.2.2.2 (by decide)
  have hhL : (ht = 0 ∧ P.1 = 0) ∨ ht = 1 := hht.imp (fun z => ⟨z.1, z.2.1⟩) id
  have hhW : (ht = 0 ∧ P.2.1 = 0) ∨ ht = 1 := hht.imp (fun z => ⟨z.1, z.2.2⟩) id
  have hWv := hPm.2 i hi
  rw [Nat.zero_add] at hWv
  have hGw := (hG.2.1 i hi).1
  have hi4 : i < 4 := Nat.lt_of_lt_of_le hi hG.2.2.2
  have hLj := hPm.1 j hj
  rw [Nat.zero_add] at hLj
  have hLg := hPm.1 g hg
  rw [Nat.zero_add] at hLg
  have hGj := hG.1 j hj
  have hGg := hG.1 g hg
  have hj4 : j < 4 := Nat.lt_of_lt_of_le hj hG.2.2.1
  have hg4 : g < 4 := Nat.lt_of_lt_of_le hg hG.2.2.1
  have hw : hHas h [m, m + 4, m + 5, m + 6, m + 7, m + 8, m + 9, m + 10, m + 11, m + 12, m + 13, m + 15, m + 16] [(oC 10 (mF m th tr pl (nI tp) sz sp fa fl tk ta sg nu wd (nI P.1) (nI P.2.1) rl rw ht sd ah cl)), (aI 8 fs), (aI 24 ff), (aI 8 fb), (aI 8 fn), (aI 8 fp), (aZ 8 f3), (aI 64 fk), (aI 64 fx), (aI 64 fy), (aI 64 fc), (aI 11 f1), (aI 11 f2)] := hHas_s hW [0, 4, 5, 6, 7, 8, 9, 10, 11, 12, 13, 15, 16] rfl rfl
  have nd : [m, m + 4, m + 5, m + 6, m + 7, m + 8, m + 9, m + 10, m + 11, m + 12, m + 13, m + 15, m + 16].Nodup := (nd_inc ⟨by omega, by omega, by omega, by omega, by omega, by omega, by omega, by omega, by omega, by omega, by omega, by omega, trivial⟩)
  refine Cl.of (ini := false) kX10_apart (plainFor_of_name (by decide)) (by decide) (Nat.le_of_ble_eq_true rfl) rfl rfl (fun z => by cases z) ?_
  refine w_heq (hUs_id hw).symm ?_
  refine w_aload_n dX10_apart_0 rfl ?_
  refine w_iconst (v := 0) dX10_apart_1 (by decide) ?_
  refine w_put (fs' := (mF m 0 tr pl (nI tp) sz sp fa fl tk ta sg nu wd (nI P.1) (nI P.2.1) rl rw ht sd ah cl)) fX10_89 (hUs_at nd 0 rfl rfl) rfl rfl (Nat.le_of_ble_eq_true rfl) rfl dX10_apart_2 ?_
  refine w_heq (hUs_set nd rfl 0 (cs' := [(oC 10 (mF m 0 tr pl (nI tp) sz sp fa fl tk ta sg nu wd (nI P.1) (nI P.2.1) rl rw ht sd ah cl)), (aI 8 fs), (aI 24 ff), (aI 8 fb), (aI 8 fn), (aI 8 fp), (aZ 8 f3), (aI 64 fk), (aI 64 fx), (aI 64 fy), (aI 64 fc), (aI 11 f1), (aI 11 f2)]) rfl rfl) ?_
  refine w_aload_n dX10_apart_5 rfl ?_
  refine w_iload_n dX10_apart_6 rfl ?_
  refine w_callV (ci := 10) (d' := d + 2) (mc' := 0) (ms' := 0) (As := [.int (nI j)]) (st := []) lX10_251 vX10_isLoop rfl (hUs_at nd 0 rfl rfl) rfl (Nat.le_of_ble_eq_true rfl) dX10_apart_7 (Nat.le_of_ble_eq_true rfl) (Nat.le_of_ble_eq_true rfl) (Nat.le_refl _) (m_isLoop (hHas_sub nd (as' := [m]) (cs' := [(oC 10 (mF m 0 tr pl (nI tp) sz sp fa fl tk ta sg nu wd (nI P.1) (nI P.2.1) rl rw ht sd ah cl))]) [0] rfl rfl) hnL hhL ?_)
  refine w_if_eq_f (tgt := 29) dX10_apart_10 rfl (by rw [ixB_s hj hnL]; decide) ?_
  refine w_aload_n dX10_apart_13 rfl ?_
  refine w_iload_n dX10_apart_14 rfl ?_
  refine w_callV (ci := 10) (d' := d + 2) (mc' := 0) (ms' := 0) (As := [.int (nI g)]) (st := []) lX10_251 vX10_isLoop rfl (hUs_at nd 0 rfl rfl) rfl (Nat.le_of_ble_eq_true rfl) dX10_apart_15 (Nat.le_of_ble_eq_true rfl) (Nat.le_of_ble_eq_true rfl) (Nat.le_refl _) (m_isLoop (hHas_sub nd (as' := [m]) (cs' := [(oC 10 (mF m 0 tr pl (nI tp) sz sp fa fl tk ta sg nu wd (nI P.1) (nI P.2.1) rl rw ht sd ah cl))]) [0] rfl rfl) hnL hhL ?_)
  refine w_if_eq_f (tgt := 29) dX10_apart_18 rfl (by rw [ixB_s hg hnL]; decide) ?_
  refine w_aload_n dX10_apart_21 rfl ?_
  refine w_iload_n dX10_apart_22 rfl ?_
  refine w_callV (ci := 10) (d' := d + 2) (mc' := 0) (ms' := 0) (As := [.int (nI i)]) (st := []) lX10_263 vX10_isWave rfl (hUs_at nd 0 rfl rfl) rfl (Nat.le_of_ble_eq_true rfl) dX10_apart_23 (Nat.le_of_ble_eq_true rfl) (Nat.le_of_ble_eq_true rfl) (Nat.le_refl _) (m_isWave (hHas_sub nd (as' := [m]) (cs' := [(oC 10 (mF m 0 tr pl (nI tp) sz sp fa fl tk ta sg nu wd (nI P.1) (nI P.2.1) rl rw ht sd ah cl))]) [0] rfl rfl) hnW hhW ?_)
  refine w_if_ne_t (tgt := 35) dX10_apart_26 rfl (by rw [ixB_s hi hnW]; decide) ?_
  refine w_iload dX10_apart_35 rfl ?_
  refine w_iconst (v := 1) dX10_apart_37 (by decide) ?_
  refine w_sipush (v := 500) dX10_apart_38 (by decide) ?_
  refine w_callS (d' := d + 2) (mc' := 0) (ms' := 0) (As := [.int y, .int 1, .int 500]) (st := []) lX10_111 vX10_in rfl (Nat.le_of_ble_eq_true rfl) dX10_apart_41 (Nat.le_of_ble_eq_true rfl) (Nat.le_of_ble_eq_true rfl) (Nat.le_refl _) (c_in ?_)
  refine w_if_ne (tgt := 53) dX10_apart_44 rfl (fun b44 => ?_) (fun b44 => ?_)
  · obtain ⟨N9, hN9, rfl⟩ := in2 (m := 500) (fun z => absurd (Int32.lt_of_lt_of_le z (by decide)) (Int32.not_lt.mpr (inB_1 b44).1)) (inB_1 b44).2 (by decide)
    have hNc : tN (nI N9) = N9 := nI_clamp (by omega)
    refine w_aload_n dX10_apart_53 rfl ?_
    refine w_aload_n dX10_apart_54 rfl ?_
    refine w_get (v := .ref (m + 15)) fX10_58 (hUs_at nd 0 rfl rfl) rfl dX10_apart_55 ?_
    refine w_iload_n dX10_apart_58 rfl ?_
    refine w_iload_n dX10_apart_59 rfl ?_
    refine w_callV (ci := 10) (d' := d + 2) (mc' := 0) (ms' := 0) (As := [.ref (m + 15), .int (nI j), .int (nI i)]) (st := []) lX10_280 vX10_starts rfl (hUs_at nd 0 rfl rfl) rfl (Nat.le_of_ble_eq_true rfl) dX10_apart_60 (Nat.le_of_ble_eq_true rfl) (Nat.le_of_ble_eq_true rfl) (Nat.le_refl _) (m_starts (hHas_sub nd (as' := [m, m + 15]) (cs' := [(oC 10 (mF m 0 tr pl (nI tp) sz sp fa fl tk ta sg nu wd (nI P.1) (nI P.2.1) rl rw ht sd ah cl)), (aI 11 f1)]) [0, 11] rfl rfl) (nd_sub nd (as' := [m, m + 15]) [0, 11] rfl rfl)  ?_)
    refine w_heq (hUs_in nd rfl [0, 11] (cs2 := [(oC 10 (mF m 0 tr pl (nI tp) sz sp fa fl tk ta sg nu wd (nI P.1) (nI P.2.1) rl rw ht sd ah cl)), (aI 8 fs), (aI 24 ff), (aI 8 fb), (aI 8 fn), (aI 8 fp), (aZ 8 f3), (aI 64 fk), (aI 64 fx), (aI 64 fy), (aI 64 fc), (aI 11 (stA (nI j) (nI i) sd)), (aI 11 f2)]) rfl rfl) ?_
    refine w_aload_n dX10_apart_63 rfl ?_
    refine w_aload_n dX10_apart_64 rfl ?_
    refine w_get (v := .ref (m + 16)) fX10_61 (hUs_at nd 0 rfl rfl) rfl dX10_apart_65 ?_
    refine w_iload_n dX10_apart_68 rfl ?_
    refine w_iload_n dX10_apart_69 rfl ?_
    refine w_callV (ci := 10) (d' := d + 2) (mc' := 0) (ms' := 0) (As := [.ref (m + 16), .int (nI g), .int (nI i)]) (st := []) lX10_280 vX10_starts rfl (hUs_at nd 0 rfl rfl) rfl (Nat.le_of_ble_eq_true rfl) dX10_apart_70 (Nat.le_of_ble_eq_true rfl) (Nat.le_of_ble_eq_true rfl) (Nat.le_refl _) (m_starts (hHas_sub nd (as' := [m, m + 16]) (cs' := [(oC 10 (mF m 0 tr pl (nI tp) sz sp fa fl tk ta sg nu wd (nI P.1) (nI P.2.1) rl rw ht sd ah cl)), (aI 11 f2)]) [0, 12] rfl rfl) (nd_sub nd (as' := [m, m + 16]) [0, 12] rfl rfl)  ?_)
    refine w_heq (hUs_in nd rfl [0, 12] (cs2 := [(oC 10 (mF m 0 tr pl (nI tp) sz sp fa fl tk ta sg nu wd (nI P.1) (nI P.2.1) rl rw ht sd ah cl)), (aI 8 fs), (aI 24 ff), (aI 8 fb), (aI 8 fn), (aI 8 fp), (aZ 8 f3), (aI 64 fk), (aI 64 fx), (aI 64 fy), (aI 64 fc), (aI 11 (stA (nI j) (nI i) sd)), (aI 11 (stA (nI g) (nI i) sd))]) rfl rfl) ?_
    refine w_iconst (v := 0) dX10_apart_73 (by decide) ?_
    refine w_istore (ls2 := [some (.ref m), some (.int (nI j)), some (.int (nI g)), some (.int (nI i)), some (.int (nI N9)), some (.int 0), none, none, none]) dX10_apart_74 (by decide) rfl rfl ?_
    refine w_iconst (v := (nI 0)) dX10_apart_76 (by decide) ?_
    refine w_istore (ls2 := [some (.ref m), some (.int (nI j)), some (.int (nI g)), some (.int (nI i)), some (.int (nI N9)), some (.int 0), some (.int (nI 0)), none, none]) dX10_apart_77 (by decide) rfl rfl ?_
    refine lq_apart (ln := ln) nd (show j < 8 by omega) hLj hGj (show g < 8 by omega) hLg hGg (show i < 8 by omega) hWv.1 hGw hWv.2.1 hsd hN9 (fun f19 f29 => ?_) N9 0 0 _ _ (by omega) rfl (stA_rn _ _ _) (stA_rn _ _ _)
    refine w_aload_n dX10_apart_150 rfl ?_
    refine w_iload dX10_apart_151 rfl ?_
    refine w_callV (ci := 10) (d' := d + 2) (mc' := 0) (ms' := 0) (As := [.int (apF (rQo P j i sd) (rQo P g i sd) N9)]) (st := []) lX10_241 vX10_good rfl (hUs_at nd 0 rfl rfl) rfl (Nat.le_of_ble_eq_true rfl) dX10_apart_153 (Nat.le_of_ble_eq_true rfl) (Nat.le_of_ble_eq_true rfl) (Nat.le_refl _) (m_good (hHas_sub nd (as' := [m]) (cs' := [(oC 10 (mF m 0 tr pl (nI tp) sz sp fa fl tk ta sg nu wd (nI P.1) (nI P.2.1) rl rw ht sd ah cl))]) [0] rfl rfl) (nd_sub nd (as' := [m]) [0] rfl rfl)  ?_)
    refine w_heq (hUs_in nd rfl [0] (cs2 := [(oC 10 (mF m 0 0 (-1) (nI tp) sz sp fa fl tk ta sg nu wd (nI P.1) (nI P.2.1) rl rw ht sd ah cl)), (aI 8 fs), (aI 24 ff), (aI 8 fb), (aI 8 fn), (aI 8 fp), (aZ 8 f3), (aI 64 fk), (aI 64 fx), (aI 64 fy), (aI 64 fc), (aI 11 f19), (aI 11 f29)]) rfl rfl) ?_
    refine w_ireturn rfl dX10_apart_156 (Nat.le_of_ble_eq_true rfl) (Nat.le_of_ble_eq_true rfl) ?_
    have e : oAp P sd (nI j) (nI g) (nI i) (nI N9) = ((apF (rQo P j i sd) (rQo P g i sd) N9), 0) := by
      simp only [oAp, ixN_s hj hnL, ixN_s hg hnL, ixN_s hi hnW]
      rw [if_neg (fun z => z.elim (fun z => absurd (inB_1 b44).1 (Int32.not_le.mpr z)) (fun z => absurd (inB_1 b44).2 (Int32.not_le.mpr z))), hNc]
    rw [e] at k
    exact k _ (mI_i (cI_put hW (mAs_nd m) rfl [0, 4, 5, 6, 7, 8, 9, 10, 11, 12, 13, 15, 16] (cs2 := [(oC 10 (mF m 0 0 (-1) (nI tp) sz sp fa fl tk ta sg nu wd (nI P.1) (nI P.2.1) rl rw ht sd ah cl)), (aI 600 gt), (aL 8 ln), (aL 8 wn), (aI 8 fs), (aI 24 ff), (aI 8 fb), (aI 8 fn), (aI 8 fp), (aZ 8 f3), (aI 64 fk), (aI 64 fx), (aI 64 fy), (aI 64 fc), (aI 11 fr), (aI 11 f19), (aI 11 f29), (aI 22 fi), (aB 4096 fo), (aB 8192 fq), (aZ 2 fh), (aI 2 fj), (aI 4096 fw), (aI 2100 fz)]) rfl rfl) hT hPm hG hRm hm0 hm1 hsd hht htp) (mFr_of (by intro a ha; simp only [List.mem_cons, List.not_mem_nil, or_false] at ha; omega))
  · refine w_aload_n dX10_apart_47 rfl ?_
    refine w_iconst (v := 2) dX10_apart_48 (by decide) ?_
    refine w_callV (ci := 10) (d' := d + 2) (mc' := 0) (ms' := 0) (As := [.int 2]) (st := []) lX10_228 vX10_refused rfl (hUs_at nd 0 rfl rfl) rfl (Nat.le_of_ble_eq_true rfl) dX10_apart_49 (Nat.le_of_ble_eq_true rfl) (Nat.le_of_ble_eq_true rfl) (Nat.le_refl _) (m_refused (hHas_sub nd (as' := [m]) (cs' := [(oC 10 (mF m 0 tr pl (nI tp) sz sp fa fl tk ta sg nu wd (nI P.1) (nI P.2.1) rl rw ht sd ah cl))]) [0] rfl rfl) (nd_sub nd (as' := [m]) [0] rfl rfl)  ?_)
    refine w_heq (hUs_in nd rfl [0] (cs2 := [(oC 10 (mF m 0 2 (-1) (nI tp) sz sp fa fl tk ta sg nu wd (nI P.1) (nI P.2.1) rl rw ht sd ah cl)), (aI 8 fs), (aI 24 ff), (aI 8 fb), (aI 8 fn), (aI 8 fp), (aZ 8 f3), (aI 64 fk), (aI 64 fx), (aI 64 fy), (aI 64 fc), (aI 11 f1), (aI 11 f2)]) rfl rfl) ?_
    refine w_ireturn rfl dX10_apart_52 (Nat.le_of_ble_eq_true rfl) (Nat.le_of_ble_eq_true rfl) ?_
    have e : oAp P sd (nI j) (nI g) (nI i) y = ((-1), 2) := by
      simp only [oAp, ixN_s hj hnL, ixN_s hg hnL, ixN_s hi hnW]
      exact if_pos (inB_0 b44)
    rw [e] at k
    exact k _ (mI_i (cI_put hW (mAs_nd m) rfl [0, 4, 5, 6, 7, 8, 9, 10, 11, 12, 13, 15, 16] (cs2 := [(oC 10 (mF m 0 2 (-1) (nI tp) sz sp fa fl tk ta sg nu wd (nI P.1) (nI P.2.1) rl rw ht sd ah cl)), (aI 600 gt), (aL 8 ln), (aL 8 wn), (aI 8 fs), (aI 24 ff), (aI 8 fb), (aI 8 fn), (aI 8 fp), (aZ 8 f3), (aI 64 fk), (aI 64 fx), (aI 64 fy), (aI 64 fc), (aI 11 fr), (aI 11 f1), (aI 11 f2), (aI 22 fi), (aB 4096 fo), (aB 8192 fq), (aZ 2 fh), (aI 2 fj), (aI 4096 fw), (aI 2100 fz)]) rfl rfl) hT hPm hG hRm hm0 hm1 hsd hht htp) (mFr_of (by intro a ha; simp only [List.mem_cons, List.not_mem_nil, or_false] at ha; omega))
set_option maxRecDepth 100000 in
set_option maxHeartbeats 4000000 in
theorem q_apart_0 {G : wG} {d : Nat} {h : hH} {Q : Option Value → hH → Prop} {m : Nat} {ft : Nat → Int32} {tp : Nat} {P : pD} {ht : Int32} {R : Option rnD} {i0 i1 : imD} {sd fa pl tr : Int32} {th : Int32}  {l u w y : Int32} (hI : mI h m ft tp P ht R i0 i1 sd fa pl tr th) (hl : ¬ ∃ j, j < P.1 ∧ l = nI j) (k : ∀ h2, mI h2 m ft tp P ht R i0 i1 sd fa (-1) (oAp P sd l u w y).2 0 → mFr m h h2 → Q (some (.int (oAp P sd l u w y).1)) h2) : Cl G yX10_apart (d + 3) 0 0 [.ref m, .int l, .int u, .int w, .int y] h Q := by
  refine mI_e hI ?_
  intro sz sp fl tk ta sg nu wd rl rw ah cl gt ln wn fs ff fb fn fp f3 fk fx fy fc fr f1 f2 fi fo fq fh fj fw fz hW hT hPm hG hRm hm0 hm1 hsd hht htp
  have hnL : P.1 ≤ 4096 := Nat.le_trans hG.2.2.1 (by decide)
  have hnW : P.2.1 ≤ 4096 := Nat.le_trans hG.2.2.2 (by decide)
  have hhL : (ht = 0 ∧ P.1 = 0) ∨ ht = 1 := hht.imp (fun z => ⟨z.1, z.2.1⟩) id
  have hhW : (ht = 0 ∧ P.2.1 = 0) ∨ ht = 1 := hht.imp (fun z => ⟨z.1, z.2.2⟩) id
  have hw : hHas h [m] [(oC 10 (mF m th tr pl (nI tp) sz sp fa fl tk ta sg nu wd (nI P.1) (nI P.2.1) rl rw ht sd ah cl))] := hHas_s hW [0] rfl rfl
  have nd : [m].Nodup := (nd_inc trivial)
  refine Cl.of (ini := false) kX10_apart (plainFor_of_name (by decide)) (by decide) (Nat.le_of_ble_eq_true rfl) rfl rfl (fun z => by cases z) ?_
  refine w_heq (hUs_id hw).symm ?_
  refine w_aload_n dX10_apart_0 rfl ?_
  refine w_iconst (v := 0) dX10_apart_1 (by decide) ?_
  refine w_put (fs' := (mF m 0 tr pl (nI tp) sz sp fa fl tk ta sg nu wd (nI P.1) (nI P.2.1) rl rw ht sd ah cl)) fX10_89 (hUs_at nd 0 rfl rfl) rfl rfl (Nat.le_of_ble_eq_true rfl) rfl dX10_apart_2 ?_
  refine w_heq (hUs_set nd rfl 0 (cs' := [(oC 10 (mF m 0 tr pl (nI tp) sz sp fa fl tk ta sg nu wd (nI P.1) (nI P.2.1) rl rw ht sd ah cl))]) rfl rfl) ?_
  refine w_aload_n dX10_apart_5 rfl ?_
  refine w_iload_n dX10_apart_6 rfl ?_
  refine w_callV (ci := 10) (d' := d + 2) (mc' := 0) (ms' := 0) (As := [.int l]) (st := []) lX10_251 vX10_isLoop rfl (hUs_at nd 0 rfl rfl) rfl (Nat.le_of_ble_eq_true rfl) dX10_apart_7 (Nat.le_of_ble_eq_true rfl) (Nat.le_of_ble_eq_true rfl) (Nat.le_refl _) (m_isLoop (hHas_sub nd (as' := [m]) (cs' := [(oC 10 (mF m 0 tr pl (nI tp) sz sp fa fl tk ta sg nu wd (nI P.1) (nI P.2.1) rl rw ht sd ah cl))]) [0] rfl rfl) hnL hhL ?_)
  refine w_if_eq_t (tgt := 29) dX10_apart_10 rfl (ixB_n hl hnL) ?_
  refine w_aload_n dX10_apart_29 rfl ?_
  refine w_iconst (v := 1) dX10_apart_30 (by decide) ?_
  refine w_callV (ci := 10) (d' := d + 2) (mc' := 0) (ms' := 0) (As := [.int 1]) (st := []) lX10_228 vX10_refused rfl (hUs_at nd 0 rfl rfl) rfl (Nat.le_of_ble_eq_true rfl) dX10_apart_31 (Nat.le_of_ble_eq_true rfl) (Nat.le_of_ble_eq_true rfl) (Nat.le_refl _) (m_refused (hHas_sub nd (as' := [m]) (cs' := [(oC 10 (mF m 0 tr pl (nI tp) sz sp fa fl tk ta sg nu wd (nI P.1) (nI P.2.1) rl rw ht sd ah cl))]) [0] rfl rfl) (nd_sub nd (as' := [m]) [0] rfl rfl)  ?_)
  refine w_heq (hUs_in nd rfl [0] (cs2 := [(oC 10 (mF m 0 1 (-1) (nI tp) sz sp fa fl tk ta sg nu wd (nI P.1) (nI P.2.1) rl rw ht sd ah cl))]) rfl rfl) ?_
  refine w_ireturn rfl dX10_apart_34 (Nat.le_of_ble_eq_true rfl) (Nat.le_of_ble_eq_true rfl) ?_
  have e : oAp P sd l u w y = ((-1), 1) := by
    simp [oAp, ixN_n hl hnL]
  rw [e] at k
  exact k _ (mI_i (cI_put hW (mAs_nd m) rfl [0] (cs2 := [(oC 10 (mF m 0 1 (-1) (nI tp) sz sp fa fl tk ta sg nu wd (nI P.1) (nI P.2.1) rl rw ht sd ah cl)), (aI 600 gt), (aL 8 ln), (aL 8 wn), (aI 8 fs), (aI 24 ff), (aI 8 fb), (aI 8 fn), (aI 8 fp), (aZ 8 f3), (aI 64 fk), (aI 64 fx), (aI 64 fy), (aI 64 fc), (aI 11 fr), (aI 11 f1), (aI 11 f2), (aI 22 fi), (aB 4096 fo), (aB 8192 fq), (aZ 2 fh), (aI 2 fj), (aI 4096 fw), (aI 2100 fz)]) rfl rfl) hT hPm hG hRm hm0 hm1 hsd hht htp) (mFr_of (by intro a ha; simp only [List.mem_cons, List.not_mem_nil, or_false] at ha; omega))
set_option maxRecDepth 100000 in
set_option maxHeartbeats 4000000 in
theorem q_apart_1 {G : wG} {d : Nat} {h : hH} {Q : Option Value → hH → Prop} {m : Nat} {ft : Nat → Int32} {tp : Nat} {P : pD} {ht : Int32} {R : Option rnD} {i0 i1 : imD} {sd fa pl tr : Int32} {th : Int32}  {j : Nat} {u w y : Int32} (hI : mI h m ft tp P ht R i0 i1 sd fa pl tr th) (hj : j < P.1) (hl : ¬ ∃ j, j < P.1 ∧ u = nI j) (k : ∀ h2, mI h2 m ft tp P ht R i0 i1 sd fa (-1) (oAp P sd (nI j) u w y).2 0 → mFr m h h2 → Q (some (.int (oAp P sd (nI j) u w y).1)) h2) : Cl G yX10_apart (d + 3) 0 0 [.ref m, .int (nI j), .int u, .int w, .int y] h Q := by
  refine mI_e hI ?_
  intro sz sp fl tk ta sg nu wd rl rw ah cl gt ln wn fs ff fb fn fp f3 fk fx fy fc fr f1 f2 fi fo fq fh fj fw fz hW hT hPm hG hRm hm0 hm1 hsd hht htp
  have hnL : P.1 ≤ 4096 := Nat.le_trans hG.2.2.1 (by decide)
  have hnW : P.2.1 ≤ 4096 := Nat.le_trans hG.2.2.2 (by decide)
  have hhL : (ht = 0 ∧ P.1 = 0) ∨ ht = 1 := hht.imp (fun z => ⟨z.1, z.2.1⟩) id
  have hhW : (ht = 0 ∧ P.2.1 = 0) ∨ ht = 1 := hht.imp (fun z => ⟨z.1, z.2.2⟩) id
  have hw : hHas h [m] [(oC 10 (mF m th tr pl (nI tp) sz sp fa fl tk ta sg nu wd (nI P.1) (nI P.2.1) rl rw ht sd ah cl))] := hHas_s hW [0] rfl rfl
  have nd : [m].Nodup := (nd_inc trivial)
  refine Cl.of (ini := false) kX10_apart (plainFor_of_name (by decide)) (by decide) (Nat.le_of_ble_eq_true rfl) rfl rfl (fun z => by cases z) ?_
  refine w_heq (hUs_id hw).symm ?_
  refine w_aload_n dX10_apart_0 rfl ?_
  refine w_iconst (v := 0) dX10_apart_1 (by decide) ?_
  refine w_put (fs' := (mF m 0 tr pl (nI tp) sz sp fa fl tk ta sg nu wd (nI P.1) (nI P.2.1) rl rw ht sd ah cl)) fX10_89 (hUs_at nd 0 rfl rfl) rfl rfl (Nat.le_of_ble_eq_true rfl) rfl dX10_apart_2 ?_
  refine w_heq (hUs_set nd rfl 0 (cs' := [(oC 10 (mF m 0 tr pl (nI tp) sz sp fa fl tk ta sg nu wd (nI P.1) (nI P.2.1) rl rw ht sd ah cl))]) rfl rfl) ?_
  refine w_aload_n dX10_apart_5 rfl ?_
  refine w_iload_n dX10_apart_6 rfl ?_
  refine w_callV (ci := 10) (d' := d + 2) (mc' := 0) (ms' := 0) (As := [.int (nI j)]) (st := []) lX10_251 vX10_isLoop rfl (hUs_at nd 0 rfl rfl) rfl (Nat.le_of_ble_eq_true rfl) dX10_apart_7 (Nat.le_of_ble_eq_true rfl) (Nat.le_of_ble_eq_true rfl) (Nat.le_refl _) (m_isLoop (hHas_sub nd (as' := [m]) (cs' := [(oC 10 (mF m 0 tr pl (nI tp) sz sp fa fl tk ta sg nu wd (nI P.1) (nI P.2.1) rl rw ht sd ah cl))]) [0] rfl rfl) hnL hhL ?_)
  refine w_if_eq_f (tgt := 29) dX10_apart_10 rfl (by rw [ixB_s hj hnL]; decide) ?_
  refine w_aload_n dX10_apart_13 rfl ?_
  refine w_iload_n dX10_apart_14 rfl ?_
  refine w_callV (ci := 10) (d' := d + 2) (mc' := 0) (ms' := 0) (As := [.int u]) (st := []) lX10_251 vX10_isLoop rfl (hUs_at nd 0 rfl rfl) rfl (Nat.le_of_ble_eq_true rfl) dX10_apart_15 (Nat.le_of_ble_eq_true rfl) (Nat.le_of_ble_eq_true rfl) (Nat.le_refl _) (m_isLoop (hHas_sub nd (as' := [m]) (cs' := [(oC 10 (mF m 0 tr pl (nI tp) sz sp fa fl tk ta sg nu wd (nI P.1) (nI P.2.1) rl rw ht sd ah cl))]) [0] rfl rfl) hnL hhL ?_)
  refine w_if_eq_t (tgt := 29) dX10_apart_18 rfl (ixB_n hl hnL) ?_
  refine w_aload_n dX10_apart_29 rfl ?_
  refine w_iconst (v := 1) dX10_apart_30 (by decide) ?_
  refine w_callV (ci := 10) (d' := d + 2) (mc' := 0) (ms' := 0) (As := [.int 1]) (st := []) lX10_228 vX10_refused rfl (hUs_at nd 0 rfl rfl) rfl (Nat.le_of_ble_eq_true rfl) dX10_apart_31 (Nat.le_of_ble_eq_true rfl) (Nat.le_of_ble_eq_true rfl) (Nat.le_refl _) (m_refused (hHas_sub nd (as' := [m]) (cs' := [(oC 10 (mF m 0 tr pl (nI tp) sz sp fa fl tk ta sg nu wd (nI P.1) (nI P.2.1) rl rw ht sd ah cl))]) [0] rfl rfl) (nd_sub nd (as' := [m]) [0] rfl rfl)  ?_)
  refine w_heq (hUs_in nd rfl [0] (cs2 := [(oC 10 (mF m 0 1 (-1) (nI tp) sz sp fa fl tk ta sg nu wd (nI P.1) (nI P.2.1) rl rw ht sd ah cl))]) rfl rfl) ?_
  refine w_ireturn rfl dX10_apart_34 (Nat.le_of_ble_eq_true rfl) (Nat.le_of_ble_eq_true rfl) ?_
  have e : oAp P sd (nI j) u w y = ((-1), 1) := by
    simp [oAp, ixN_s hj hnL, ixN_n hl hnL]
  rw [e] at k
  exact k _ (mI_i (cI_put hW (mAs_nd m) rfl [0] (cs2 := [(oC 10 (mF m 0 1 (-1) (nI tp) sz sp fa fl tk ta sg nu wd (nI P.1) (nI P.2.1) rl rw ht sd ah cl)), (aI 600 gt), (aL 8 ln), (aL 8 wn), (aI 8 fs), (aI 24 ff), (aI 8 fb), (aI 8 fn), (aI 8 fp), (aZ 8 f3), (aI 64 fk), (aI 64 fx), (aI 64 fy), (aI 64 fc), (aI 11 fr), (aI 11 f1), (aI 11 f2), (aI 22 fi), (aB 4096 fo), (aB 8192 fq), (aZ 2 fh), (aI 2 fj), (aI 4096 fw), (aI 2100 fz)]) rfl rfl) hT hPm hG hRm hm0 hm1 hsd hht htp) (mFr_of (by intro a ha; simp only [List.mem_cons, List.not_mem_nil, or_false] at ha; omega))
set_option maxRecDepth 100000 in
set_option maxHeartbeats 4000000 in
theorem q_apart_2 {G : wG} {d : Nat} {h : hH} {Q : Option Value → hH → Prop} {m : Nat} {ft : Nat → Int32} {tp : Nat} {P : pD} {ht : Int32} {R : Option rnD} {i0 i1 : imD} {sd fa pl tr : Int32} {th : Int32}  {j g : Nat} {w y : Int32} (hI : mI h m ft tp P ht R i0 i1 sd fa pl tr th) (hj : j < P.1) (hg : g < P.1) (hl : ¬ ∃ i, i < P.2.1 ∧ w = nI i) (k : ∀ h2, mI h2 m ft tp P ht R i0 i1 sd fa (-1) (oAp P sd (nI j) (nI g) w y).2 0 → mFr m h h2 → Q (some (.int (oAp P sd (nI j) (nI g) w y).1)) h2) : Cl G yX10_apart (d + 3) 0 0 [.ref m, .int (nI j), .int (nI g), .int w, .int y] h Q := by
  refine mI_e hI ?_
  intro sz sp fl tk ta sg nu wd rl rw ah cl gt ln wn fs ff fb fn fp f3 fk fx fy fc fr f1 f2 fi fo fq fh fj fw fz hW hT hPm hG hRm hm0 hm1 hsd hht htp
  have hnL : P.1 ≤ 4096 := Nat.le_trans hG.2.2.1 (by decide)
  have hnW : P.2.1 ≤ 4096 := Nat.le_trans hG.2.2.2 (by decide)
  have hhL : (ht = 0 ∧ P.1 = 0) ∨ ht = 1 := hht.imp (fun z => ⟨z.1, z.2.1⟩) id
  have hhW : (ht = 0 ∧ P.2.1 = 0) ∨ ht = 1 := hht.imp (fun z => ⟨z.1, z.2.2⟩) id
  have hw : hHas h [m] [(oC 10 (mF m th tr pl (nI tp) sz sp fa fl tk ta sg nu wd (nI P.1) (nI P.2.1) rl rw ht sd ah cl))] := hHas_s hW [0] rfl rfl
  have nd : [m].Nodup := (nd_inc trivial)
  refine Cl.of (ini := false) kX10_apart (plainFor_of_name (by decide)) (by decide) (Nat.le_of_ble_eq_true rfl) rfl rfl (fun z => by cases z) ?_
  refine w_heq (hUs_id hw).symm ?_
  refine w_aload_n dX10_apart_0 rfl ?_
  refine w_iconst (v := 0) dX10_apart_1 (by decide) ?_
  refine w_put (fs' := (mF m 0 tr pl (nI tp) sz sp fa fl tk ta sg nu wd (nI P.1) (nI P.2.1) rl rw ht sd ah cl)) fX10_89 (hUs_at nd 0 rfl rfl) rfl rfl (Nat.le_of_ble_eq_true rfl) rfl dX10_apart_2 ?_
  refine w_heq (hUs_set nd rfl 0 (cs' := [(oC 10 (mF m 0 tr pl (nI tp) sz sp fa fl tk ta sg nu wd (nI P.1) (nI P.2.1) rl rw ht sd ah cl))]) rfl rfl) ?_
  refine w_aload_n dX10_apart_5 rfl ?_
  refine w_iload_n dX10_apart_6 rfl ?_
  refine w_callV (ci := 10) (d' := d + 2) (mc' := 0) (ms' := 0) (As := [.int (nI j)]) (st := []) lX10_251 vX10_isLoop rfl (hUs_at nd 0 rfl rfl) rfl (Nat.le_of_ble_eq_true rfl) dX10_apart_7 (Nat.le_of_ble_eq_true rfl) (Nat.le_of_ble_eq_true rfl) (Nat.le_refl _) (m_isLoop (hHas_sub nd (as' := [m]) (cs' := [(oC 10 (mF m 0 tr pl (nI tp) sz sp fa fl tk ta sg nu wd (nI P.1) (nI P.2.1) rl rw ht sd ah cl))]) [0] rfl rfl) hnL hhL ?_)
  refine w_if_eq_f (tgt := 29) dX10_apart_10 rfl (by rw [ixB_s hj hnL]; decide) ?_
  refine w_aload_n dX10_apart_13 rfl ?_
  refine w_iload_n dX10_apart_14 rfl ?_
  refine w_callV (ci := 10) (d' := d + 2) (mc' := 0) (ms' := 0) (As := [.int (nI g)]) (st := []) lX10_251 vX10_isLoop rfl (hUs_at nd 0 rfl rfl) rfl (Nat.le_of_ble_eq_true rfl) dX10_apart_15 (Nat.le_of_ble_eq_true rfl) (Nat.le_of_ble_eq_true rfl) (Nat.le_refl _) (m_isLoop (hHas_sub nd (as' := [m]) (cs' := [(oC 10 (mF m 0 tr pl (nI tp) sz sp fa fl tk ta sg nu wd (nI P.1) (nI P.2.1) rl rw ht sd ah cl))]) [0] rfl rfl) hnL hhL ?_)
  refine w_if_eq_f (tgt := 29) dX10_apart_18 rfl (by rw [ixB_s hg hnL]; decide) ?_
  refine w_aload_n dX10_apart_21 rfl ?_
  refine w_iload_n dX10_apart_22 rfl ?_
  refine w_callV (ci := 10) (d' := d + 2) (mc' := 0) (ms' := 0) (As := [.int w]) (st := []) lX10_263 vX10_isWave rfl (hUs_at nd 0 rfl rfl) rfl (Nat.le_of_ble_eq_true rfl) dX10_apart_23 (Nat.le_of_ble_eq_true rfl) (Nat.le_of_ble_eq_true rfl) (Nat.le_refl _) (m_isWave (hHas_sub nd (as' := [m]) (cs' := [(oC 10 (mF m 0 tr pl (nI tp) sz sp fa fl tk ta sg nu wd (nI P.1) (nI P.2.1) rl rw ht sd ah cl))]) [0] rfl rfl) hnW hhW ?_)
  refine w_if_ne_f (tgt := 35) dX10_apart_26 rfl (ixB_n hl hnW) ?_
  refine w_aload_n dX10_apart_29 rfl ?_
  refine w_iconst (v := 1) dX10_apart_30 (by decide) ?_
  refine w_callV (ci := 10) (d' := d + 2) (mc' := 0) (ms' := 0) (As := [.int 1]) (st := []) lX10_228 vX10_refused rfl (hUs_at nd 0 rfl rfl) rfl (Nat.le_of_ble_eq_true rfl) dX10_apart_31 (Nat.le_of_ble_eq_true rfl) (Nat.le_of_ble_eq_true rfl) (Nat.le_refl _) (m_refused (hHas_sub nd (as' := [m]) (cs' := [(oC 10 (mF m 0 tr pl (nI tp) sz sp fa fl tk ta sg nu wd (nI P.1) (nI P.2.1) rl rw ht sd ah cl))]) [0] rfl rfl) (nd_sub nd (as' := [m]) [0] rfl rfl)  ?_)
  refine w_heq (hUs_in nd rfl [0] (cs2 := [(oC 10 (mF m 0 1 (-1) (nI tp) sz sp fa fl tk ta sg nu wd (nI P.1) (nI P.2.1) rl rw ht sd ah cl))]) rfl rfl) ?_
  refine w_ireturn rfl dX10_apart_34 (Nat.le_of_ble_eq_true rfl) (Nat.le_of_ble_eq_true rfl) ?_
  have e : oAp P sd (nI j) (nI g) w y = ((-1), 1) := by
    simp [oAp, ixN_s hj hnL, ixN_s hg hnL, ixN_n hl hnW]
  rw [e] at k
  exact k _ (mI_i (cI_put hW (mAs_nd m) rfl [0] (cs2 := [(oC 10 (mF m 0 1 (-1) (nI tp) sz sp fa fl tk ta sg nu wd (nI P.1) (nI P.2.1) rl rw ht sd ah cl)), (aI 600 gt), (aL 8 ln), (aL 8 wn), (aI 8 fs), (aI 24 ff), (aI 8 fb), (aI 8 fn), (aI 8 fp), (aZ 8 f3), (aI 64 fk), (aI 64 fx), (aI 64 fy), (aI 64 fc), (aI 11 fr), (aI 11 f1), (aI 11 f2), (aI 22 fi), (aB 4096 fo), (aB 8192 fq), (aZ 2 fh), (aI 2 fj), (aI 4096 fw), (aI 2100 fz)]) rfl rfl) hT hPm hG hRm hm0 hm1 hsd hht htp) (mFr_of (by intro a ha; simp only [List.mem_cons, List.not_mem_nil, or_false] at ha; omega))
theorem q_apart {G : wG} {d : Nat} {h : hH} {Q : Option Value → hH → Prop} {m : Nat} {ft : Nat → Int32} {tp : Nat} {P : pD} {ht : Int32} {R : Option rnD} {i0 i1 : imD} {sd fa pl tr : Int32} {th : Int32} {l u w y : Int32} (hI : mI h m ft tp P ht R i0 i1 sd fa pl tr th) (k : ∀ h2, mI h2 m ft tp P ht R i0 i1 sd fa (-1) (oAp P sd l u w y).2 0 → mFr m h h2 → Q (some (.int (oAp P sd l u w y).1)) h2) : Cl G yX10_apart (d + 3) 0 0 [.ref m, .int l, .int u, .int w, .int y] h Q := by
  by_cases hl : ∃ j, j < P.1 ∧ l = nI j
  · obtain ⟨j, hj, rfl⟩ := hl
    by_cases hu : ∃ j, j < P.1 ∧ u = nI j
    · obtain ⟨g, hg, rfl⟩ := hu
      by_cases hw : ∃ i, i < P.2.1 ∧ w = nI i
      · obtain ⟨i, hi, rfl⟩ := hw
        exact q_apart_s hI hj hg hi k
      · exact q_apart_2 hI hj hg hw k
    · exact q_apart_1 hI hj hu k
  · exact q_apart_0 hI hl k
