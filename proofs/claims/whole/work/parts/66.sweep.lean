theorem sw_last {m u2 u1 : Int32} (h1 : 1 ≤ m) (h2 : m ≤ 50) : u1.toInt64 + (m.toInt64 - 1) * u2.toInt64 = u1.toInt64 + u2.toInt64 * (m - 1).toInt64 := by
  have e : (m - 1).toInt64 = m.toInt64 - 1 := by
    have g1 := Int32.le_iff_toInt_le.mp h1
    have g2 := Int32.le_iff_toInt_le.mp h2
    rw [show (1 : Int32).toInt = 1 from rfl] at g1
    rw [show (50 : Int32).toInt = 50 from rfl] at g2
    apply Int64.toInt_inj.mp
    rw [Int32.toInt_toInt64, Int32.toInt_sub, Int64.toInt_sub, Int32.toInt_toInt64, show (1 : Int32).toInt = 1 from rfl, show (1 : Int64).toInt = 1 from rfl, bm_id (by omega) (by omega)]
    exact (Int.bmod_eq_of_le (by omega) (by omega)).symm
  rw [e, Int64.mul_comm]
theorem kC_pos {L : lP} {v : Int32} {a c : Nat} (hL : L.1 ≤ 3) (hc : c ≤ 3000) (h : ¬ kC L v a c = 0) : 0 < kC L v a c := by
  obtain ⟨d, d1, d2⟩ := kC_n (v := v) hL a c
  rw [d2] at h ⊢
  exact nI_lt (a := 0) (by
    rcases Nat.eq_zero_or_pos d with z | z
    · rw [z] at h; exact absurd rfl h
    · exact z) (by omega)
set_option maxRecDepth 100000 in
set_option maxHeartbeats 4000000 in
theorem lq_sweep {G : wG} {d : Nat} {h : hH} {Q : Option Value → hH → Prop} {m tp : Nat} {P : pD} {ht sd fa pl tr sz sp fl tk ta sg nu : Int32} {wd : Int64} {rl rw : Int32} {ln : Nat → Int64} {fn : Nat → Int32} {fs : Nat → Int32} {ff : Nat → Int32} {fb : Nat → Int32} {f3 : Nat → Int32} {j N : Nat} {u1 u2 y : Int32} (nd : [m, m + 4, m + 5, m + 6, m + 9, m + 15, m + 16].Nodup) (h8 : j < 8) (hLp : mLp (P.2.2.1 j) j ln fs ff fb fn f3) (hGl : lGd (P.2.2.1 j)) (hN : N ≤ 50) (k : ∀ (r : Int32) (ah cl : Int32) (f1 f2 : Nat → Int32), WP G RX10 cX10_sweep 13 (some .int) false (d + 3) 0 0 0 0 Q 188 [some (.ref m), some (.int (nI j)), some (.int u1), some (.int u2), some (.int (nI N)), some (.int y), none, none, some (.int (fld (cyI (lPo (P.2.2.1 j)) u1 u2 (if y = 0 then (0 : Int32) else 1)) 0 N 0)), some (.int (fld (loI (lPo (P.2.2.1 j)) u1 u2) 0 N (0, -1000000000)).2), some (.int r), none, none] [] (hUs h [m, m + 4, m + 5, m + 6, m + 9, m + 15, m + 16] [(oC 10 (mF m 0 tr pl (nI tp) sz sp fa fl tk ta sg nu wd (nI P.1) (nI P.2.1) rl rw ht sd ah cl)), (aI 8 fs), (aI 24 ff), (aI 8 fb), (aZ 8 f3), (aI 11 f1), (aI 11 f2)])) : ∀ (n : Nat) (i : Nat) (p q r ah cl : Int32) (f1 f2 : Nat → Int32), i + n = N → (r, q) = fld (loI (lPo (P.2.2.1 j)) u1 u2) 0 i (0, -1000000000) → p = fld (cyI (lPo (P.2.2.1 j)) u1 u2 (if y = 0 then (0 : Int32) else 1)) 0 i 0 → WP G RX10 cX10_sweep 13 (some .int) false (d + 3) 0 0 0 0 Q 109 [some (.ref m), some (.int (nI j)), some (.int u1), some (.int u2), some (.int (nI N)), some (.int y), none, none, some (.int p), some (.int q), some (.int r), some (.int (nI i)), none] [] (hUs h [m, m + 4, m + 5, m + 6, m + 9, m + 15, m + 16] [(oC 10 (mF m 0 tr pl (nI tp) sz sp fa fl tk ta sg nu wd (nI P.1) (nI P.2.1) rl rw ht sd ah cl)), (aI 8 fs), (aI 24 ff), (aI 8 fb), (aZ 8 f3), (aI 11 f1), (aI 11 f2)]) := by
  intro n
  induction n with
  | zero =>
    intro i p q r ah cl f1 f2 hi e1 e2
    refine w_iload dX10_sweep_109 rfl ?_
    refine w_iload dX10_sweep_111 rfl ?_
    refine w_icmp_ge_t (tgt := 188) dX10_sweep_113 rfl ((nI_leI (a := N) (b := i) (by omega) (by omega)).mpr (by omega)) ?_
    refine w_less (ls2 := [some (.ref m), some (.int (nI j)), some (.int u1), some (.int u2), some (.int (nI N)), some (.int y), none, none, some (.int p), some (.int q), some (.int r), none, none]) ⟨Or.inr rfl, Or.inr rfl, Or.inr rfl, Or.inr rfl, Or.inr rfl, Or.inr rfl, Or.inl rfl, Or.inl rfl, Or.inr rfl, Or.inr rfl, Or.inr rfl, Or.inl rfl, Or.inl rfl, trivial⟩ ?_
    have z : i = N := by omega
    rw [z] at e1 e2
    rw [← e1, ← e2] at k
    exact k _ _ _ _ _
  | succ n ih =>
    intro i p q r ah cl f1 f2 hi e1 e2
    refine w_iload dX10_sweep_109 rfl ?_
    refine w_iload dX10_sweep_111 rfl ?_
    refine w_icmp_ge_f (tgt := 188) dX10_sweep_113 rfl (fun z => absurd ((nI_leI (a := N) (b := i) (by omega) (by omega)).mp z) (by omega)) ?_
    refine w_iload_n dX10_sweep_116 rfl ?_
    refine w_iload dX10_sweep_117 rfl ?_
    refine w_iload_n dX10_sweep_119 rfl ?_
    refine w_imul dX10_sweep_120 ?_
    refine w_iadd dX10_sweep_121 ?_
    refine w_top (z := u1 + u2 * nI i) (by rw [Int32.mul_comm]) ?_
    refine w_istore (ls2 := [some (.ref m), some (.int (nI j)), some (.int u1), some (.int u2), some (.int (nI N)), some (.int y), none, none, some (.int p), some (.int q), some (.int r), some (.int (nI i)), some (.int (u1 + u2 * nI i))]) dX10_sweep_122 (by decide) rfl rfl ?_
    refine w_aload_n dX10_sweep_124 rfl ?_
    refine w_iload_n dX10_sweep_125 rfl ?_
    refine w_iload dX10_sweep_126 rfl ?_
    refine w_callV (ci := 10) (d' := d + 2) (mc' := 0) (ms' := 0) (As := [.int (nI j), .int (u1 + u2 * nI i)]) (st := []) lX10_328 vX10_cycles rfl (hUs_at nd 0 rfl rfl) rfl (Nat.le_of_ble_eq_true rfl) dX10_sweep_128 (Nat.le_of_ble_eq_true rfl) (Nat.le_of_ble_eq_true rfl) (Nat.le_refl _) (m_cycles (ln := ln) (fn := fn) (P := P) (hHas_sub nd (as' := [m, m + 4, m + 5, m + 6, m + 9, m + 15, m + 16]) (cs' := [(oC 10 (mF m 0 tr pl (nI tp) sz sp fa fl tk ta sg nu wd (nI P.1) (nI P.2.1) rl rw ht sd ah cl)), (aI 8 fs), (aI 24 ff), (aI 8 fb), (aZ 8 f3), (aI 11 f1), (aI 11 f2)]) [0, 1, 2, 3, 4, 5, 6] rfl rfl) (nd_sub nd (as' := [m, m + 4, m + 5, m + 6, m + 9, m + 15, m + 16]) [0, 1, 2, 3, 4, 5, 6] rfl rfl) h8 hLp hGl (fun hn9 g1 g2 c9 => ?_) (fun hy9 g1 g2 c a hc1 hc2 hc3 ha1 ha2 ha3 => ?_))
    · refine w_heq (hUs_in nd rfl [0, 1, 2, 3, 4, 5, 6] (cs2 := [(oC 10 (mF m 0 tr pl (nI tp) sz sp fa fl tk ta sg nu wd (nI P.1) (nI P.2.1) rl rw ht sd ah c9)), (aI 8 fs), (aI 24 ff), (aI 8 fb), (aZ 8 f3), (aI 11 g1), (aI 11 g2)]) rfl rfl) ?_
      refine w_if_ne_f (tgt := 137) dX10_sweep_131 rfl (by decide) ?_
      refine w_goto (tgt := 182) dX10_sweep_134 rfl ?_
      refine w_iinc (v := nI (i + 1)) (ls2 := [some (.ref m), some (.int (nI j)), some (.int u1), some (.int u2), some (.int (nI N)), some (.int y), none, none, some (.int p), some (.int q), some (.int r), some (.int (nI (i + 1))), some (.int (u1 + u2 * nI i))]) dX10_sweep_182 rfl (nI_1 _) (by decide) rfl rfl ?_
      refine w_goto (tgt := 109) dX10_sweep_185 rfl ?_
      refine w_less (ls2 := [some (.ref m), some (.int (nI j)), some (.int u1), some (.int u2), some (.int (nI N)), some (.int y), none, none, some (.int p), some (.int q), some (.int r), some (.int (nI (i + 1))), none]) ⟨Or.inr rfl, Or.inr rfl, Or.inr rfl, Or.inr rfl, Or.inr rfl, Or.inr rfl, Or.inl rfl, Or.inl rfl, Or.inr rfl, Or.inr rfl, Or.inr rfl, Or.inr rfl, Or.inl rfl, trivial⟩ ?_
      exact ih (i + 1) _ _ _ _ _ _ _ (by omega) (by
        rw [fld, ← e1, Nat.zero_add]
        simp only [loI]
        rw [if_pos hn9]) (by
        rw [fld, ← e2, Nat.zero_add]
        simp only [cyI]
        rw [if_pos hn9])
    · refine w_heq (hUs_in nd rfl [0, 1, 2, 3, 4, 5, 6] (cs2 := [(oC 10 (mF m 0 tr pl (nI tp) sz sp fa fl tk ta sg nu wd (nI P.1) (nI P.2.1) rl rw ht sd (nI a) (nI c))), (aI 8 fs), (aI 24 ff), (aI 8 fb), (aZ 8 f3), (aI 11 g1), (aI 11 g2)]) rfl rfl) ?_
      refine w_if_ne_t (tgt := 137) dX10_sweep_131 rfl (by decide) ?_
      refine w_aload_n dX10_sweep_137 rfl ?_
      refine w_get (v := .int (nI c)) fX10_318 (hUs_at nd 0 rfl rfl) rfl dX10_sweep_138 ?_
      refine w_iload dX10_sweep_141 rfl ?_
      refine w_icmp_le (tgt := 156) dX10_sweep_143 rfl (fun b143 => ?_) (fun b143 => ?_)
      · refine w_iload dX10_sweep_156 rfl ?_
        refine w_iload dX10_sweep_158 rfl ?_
        refine w_if_eq (tgt := 174) dX10_sweep_160 rfl (fun b160 => ?_) (fun b160 => ?_)
        · refine w_iconst (v := 1) dX10_sweep_174 (by decide) ?_
          refine w_goto (tgt := 179) dX10_sweep_175 rfl ?_
          refine w_iadd dX10_sweep_179 ?_
          refine w_istore (ls2 := [some (.ref m), some (.int (nI j)), some (.int u1), some (.int u2), some (.int (nI N)), some (.int y), none, none, some (.int (p + 1)), some (.int q), some (.int r), some (.int (nI i)), some (.int (u1 + u2 * nI i))]) dX10_sweep_180 (by decide) rfl rfl ?_
          refine w_iinc (v := nI (i + 1)) (ls2 := [some (.ref m), some (.int (nI j)), some (.int u1), some (.int u2), some (.int (nI N)), some (.int y), none, none, some (.int (p + 1)), some (.int q), some (.int r), some (.int (nI (i + 1))), some (.int (u1 + u2 * nI i))]) dX10_sweep_182 rfl (nI_1 _) (by decide) rfl rfl ?_
          refine w_goto (tgt := 109) dX10_sweep_185 rfl ?_
          refine w_less (ls2 := [some (.ref m), some (.int (nI j)), some (.int u1), some (.int u2), some (.int (nI N)), some (.int y), none, none, some (.int (p + 1)), some (.int q), some (.int r), some (.int (nI (i + 1))), none]) ⟨Or.inr rfl, Or.inr rfl, Or.inr rfl, Or.inr rfl, Or.inr rfl, Or.inr rfl, Or.inl rfl, Or.inl rfl, Or.inr rfl, Or.inr rfl, Or.inr rfl, Or.inr rfl, Or.inl rfl, trivial⟩ ?_
          exact ih (i + 1) _ _ _ _ _ _ _ (by omega) (by
            rw [fld, ← e1, Nat.zero_add]
            simp only [loI]
            rw [if_neg hy9, hc3, if_pos b143]) (by
            rw [fld, ← e2, Nat.zero_add]
            simp only [cyI]
            rw [if_neg hy9, if_pos (if_pos b160)])
        · refine w_aload_n dX10_sweep_163 rfl ?_
          refine w_iload_n dX10_sweep_164 rfl ?_
          refine w_iload dX10_sweep_165 rfl ?_
          refine w_iconst (v := (nI 3)) dX10_sweep_167 (by decide) ?_
          refine w_callV (ci := 10) (d' := d + 2) (mc' := 0) (ms' := 0) (As := [.int (nI j), .int (u1 + u2 * nI i), .int (nI 3)]) (st := [.int p]) lX10_331 vX10_cycleOf rfl (hUs_at nd 0 rfl rfl) rfl (Nat.le_of_ble_eq_true rfl) dX10_sweep_168 (Nat.le_of_ble_eq_true rfl) (Nat.le_of_ble_eq_true rfl) (Nat.le_refl _) (m_cycleOf3 (ln := ln) (fn := fn) (P := P) (hHas_sub nd (as' := [m, m + 4, m + 5, m + 6, m + 9, m + 15]) (cs' := [(oC 10 (mF m 0 tr pl (nI tp) sz sp fa fl tk ta sg nu wd (nI P.1) (nI P.2.1) rl rw ht sd (nI a) (nI c))), (aI 8 fs), (aI 24 ff), (aI 8 fb), (aZ 8 f3), (aI 11 g1)]) [0, 1, 2, 3, 4, 5] rfl rfl) (nd_sub nd (as' := [m, m + 4, m + 5, m + 6, m + 9, m + 15]) [0, 1, 2, 3, 4, 5] rfl rfl) h8 hLp hGl hc1 hc2 ha1 ha3 (fun fc9 => ?_))
          refine w_heq (hUs_in nd rfl [0, 1, 2, 3, 4, 5] (cs2 := [(oC 10 (mF m 0 tr pl (nI tp) sz sp fa fl tk ta sg nu wd (nI P.1) (nI P.2.1) rl rw ht sd (nI a) (nI c))), (aI 8 fs), (aI 24 ff), (aI 8 fb), (aZ 8 f3), (aI 11 fc9), (aI 11 g2)]) rfl rfl) ?_
          refine w_if_ne (tgt := 178) dX10_sweep_171 rfl (fun b171 => ?_) (fun b171 => ?_)
          · refine w_iconst (v := 0) dX10_sweep_178 (by decide) ?_
            refine w_iadd dX10_sweep_179 ?_
            refine w_istore (ls2 := [some (.ref m), some (.int (nI j)), some (.int u1), some (.int u2), some (.int (nI N)), some (.int y), none, none, some (.int (p + 0)), some (.int q), some (.int r), some (.int (nI i)), some (.int (u1 + u2 * nI i))]) dX10_sweep_180 (by decide) rfl rfl ?_
            refine w_iinc (v := nI (i + 1)) (ls2 := [some (.ref m), some (.int (nI j)), some (.int u1), some (.int u2), some (.int (nI N)), some (.int y), none, none, some (.int (p + 0)), some (.int q), some (.int r), some (.int (nI (i + 1))), some (.int (u1 + u2 * nI i))]) dX10_sweep_182 rfl (nI_1 _) (by decide) rfl rfl ?_
            refine w_goto (tgt := 109) dX10_sweep_185 rfl ?_
            refine w_less (ls2 := [some (.ref m), some (.int (nI j)), some (.int u1), some (.int u2), some (.int (nI N)), some (.int y), none, none, some (.int (p + 0)), some (.int q), some (.int r), some (.int (nI (i + 1))), none]) ⟨Or.inr rfl, Or.inr rfl, Or.inr rfl, Or.inr rfl, Or.inr rfl, Or.inr rfl, Or.inl rfl, Or.inl rfl, Or.inr rfl, Or.inr rfl, Or.inr rfl, Or.inr rfl, Or.inl rfl, trivial⟩ ?_
            exact ih (i + 1) _ _ _ _ _ _ _ (by omega) (by
              rw [fld, ← e1, Nat.zero_add]
              simp only [loI]
              rw [if_neg hy9, hc3, if_pos b143]) (by
              rw [fld, ← e2, Nat.zero_add]
              simp only [cyI]
              rw [if_neg hy9, if_neg (by rw [if_neg b160]; decide), (cyc_vals hGl.2.1 hy9 hc3 hc2 ha3).2.1, if_pos (kC_pos hGl.2.1 hc2 b171), Int32.add_zero])
          · refine w_iconst (v := 1) dX10_sweep_174 (by decide) ?_
            refine w_goto (tgt := 179) dX10_sweep_175 rfl ?_
            refine w_iadd dX10_sweep_179 ?_
            refine w_istore (ls2 := [some (.ref m), some (.int (nI j)), some (.int u1), some (.int u2), some (.int (nI N)), some (.int y), none, none, some (.int (p + 1)), some (.int q), some (.int r), some (.int (nI i)), some (.int (u1 + u2 * nI i))]) dX10_sweep_180 (by decide) rfl rfl ?_
            refine w_iinc (v := nI (i + 1)) (ls2 := [some (.ref m), some (.int (nI j)), some (.int u1), some (.int u2), some (.int (nI N)), some (.int y), none, none, some (.int (p + 1)), some (.int q), some (.int r), some (.int (nI (i + 1))), some (.int (u1 + u2 * nI i))]) dX10_sweep_182 rfl (nI_1 _) (by decide) rfl rfl ?_
            refine w_goto (tgt := 109) dX10_sweep_185 rfl ?_
            refine w_less (ls2 := [some (.ref m), some (.int (nI j)), some (.int u1), some (.int u2), some (.int (nI N)), some (.int y), none, none, some (.int (p + 1)), some (.int q), some (.int r), some (.int (nI (i + 1))), none]) ⟨Or.inr rfl, Or.inr rfl, Or.inr rfl, Or.inr rfl, Or.inr rfl, Or.inr rfl, Or.inl rfl, Or.inl rfl, Or.inr rfl, Or.inr rfl, Or.inr rfl, Or.inr rfl, Or.inl rfl, trivial⟩ ?_
            exact ih (i + 1) _ _ _ _ _ _ _ (by omega) (by
              rw [fld, ← e1, Nat.zero_add]
              simp only [loI]
              rw [if_neg hy9, hc3, if_pos b143]) (by
              rw [fld, ← e2, Nat.zero_add]
              simp only [cyI]
              rw [if_neg hy9, if_neg (by rw [if_neg b160]; decide), (cyc_vals hGl.2.1 hy9 hc3 hc2 ha3).2.1, if_neg (by rw [b171]; decide)])
      · refine w_aload_n dX10_sweep_146 rfl ?_
        refine w_get (v := .int (nI c)) fX10_318 (hUs_at nd 0 rfl rfl) rfl dX10_sweep_147 ?_
        refine w_istore (ls2 := [some (.ref m), some (.int (nI j)), some (.int u1), some (.int u2), some (.int (nI N)), some (.int y), none, none, some (.int p), some (.int q), some (.int (nI c)), some (.int (nI i)), some (.int (u1 + u2 * nI i))]) dX10_sweep_150 (by decide) rfl rfl ?_
        refine w_iload dX10_sweep_152 rfl ?_
        refine w_istore (ls2 := [some (.ref m), some (.int (nI j)), some (.int u1), some (.int u2), some (.int (nI N)), some (.int y), none, none, some (.int p), some (.int (u1 + u2 * nI i)), some (.int (nI c)), some (.int (nI i)), some (.int (u1 + u2 * nI i))]) dX10_sweep_154 (by decide) rfl rfl ?_
        refine w_iload dX10_sweep_156 rfl ?_
        refine w_iload dX10_sweep_158 rfl ?_
        refine w_if_eq (tgt := 174) dX10_sweep_160 rfl (fun b160 => ?_) (fun b160 => ?_)
        · refine w_iconst (v := 1) dX10_sweep_174 (by decide) ?_
          refine w_goto (tgt := 179) dX10_sweep_175 rfl ?_
          refine w_iadd dX10_sweep_179 ?_
          refine w_istore (ls2 := [some (.ref m), some (.int (nI j)), some (.int u1), some (.int u2), some (.int (nI N)), some (.int y), none, none, some (.int (p + 1)), some (.int (u1 + u2 * nI i)), some (.int (nI c)), some (.int (nI i)), some (.int (u1 + u2 * nI i))]) dX10_sweep_180 (by decide) rfl rfl ?_
          refine w_iinc (v := nI (i + 1)) (ls2 := [some (.ref m), some (.int (nI j)), some (.int u1), some (.int u2), some (.int (nI N)), some (.int y), none, none, some (.int (p + 1)), some (.int (u1 + u2 * nI i)), some (.int (nI c)), some (.int (nI (i + 1))), some (.int (u1 + u2 * nI i))]) dX10_sweep_182 rfl (nI_1 _) (by decide) rfl rfl ?_
          refine w_goto (tgt := 109) dX10_sweep_185 rfl ?_
          refine w_less (ls2 := [some (.ref m), some (.int (nI j)), some (.int u1), some (.int u2), some (.int (nI N)), some (.int y), none, none, some (.int (p + 1)), some (.int (u1 + u2 * nI i)), some (.int (nI c)), some (.int (nI (i + 1))), none]) ⟨Or.inr rfl, Or.inr rfl, Or.inr rfl, Or.inr rfl, Or.inr rfl, Or.inr rfl, Or.inl rfl, Or.inl rfl, Or.inr rfl, Or.inr rfl, Or.inr rfl, Or.inr rfl, Or.inl rfl, trivial⟩ ?_
          exact ih (i + 1) _ _ _ _ _ _ _ (by omega) (by
            rw [fld, ← e1, Nat.zero_add]
            simp only [loI]
            rw [if_neg hy9, hc3, if_neg b143]) (by
            rw [fld, ← e2, Nat.zero_add]
            simp only [cyI]
            rw [if_neg hy9, if_pos (if_pos b160)])
        · refine w_aload_n dX10_sweep_163 rfl ?_
          refine w_iload_n dX10_sweep_164 rfl ?_
          refine w_iload dX10_sweep_165 rfl ?_
          refine w_iconst (v := (nI 3)) dX10_sweep_167 (by decide) ?_
          refine w_callV (ci := 10) (d' := d + 2) (mc' := 0) (ms' := 0) (As := [.int (nI j), .int (u1 + u2 * nI i), .int (nI 3)]) (st := [.int p]) lX10_331 vX10_cycleOf rfl (hUs_at nd 0 rfl rfl) rfl (Nat.le_of_ble_eq_true rfl) dX10_sweep_168 (Nat.le_of_ble_eq_true rfl) (Nat.le_of_ble_eq_true rfl) (Nat.le_refl _) (m_cycleOf3 (ln := ln) (fn := fn) (P := P) (hHas_sub nd (as' := [m, m + 4, m + 5, m + 6, m + 9, m + 15]) (cs' := [(oC 10 (mF m 0 tr pl (nI tp) sz sp fa fl tk ta sg nu wd (nI P.1) (nI P.2.1) rl rw ht sd (nI a) (nI c))), (aI 8 fs), (aI 24 ff), (aI 8 fb), (aZ 8 f3), (aI 11 g1)]) [0, 1, 2, 3, 4, 5] rfl rfl) (nd_sub nd (as' := [m, m + 4, m + 5, m + 6, m + 9, m + 15]) [0, 1, 2, 3, 4, 5] rfl rfl) h8 hLp hGl hc1 hc2 ha1 ha3 (fun fc9 => ?_))
          refine w_heq (hUs_in nd rfl [0, 1, 2, 3, 4, 5] (cs2 := [(oC 10 (mF m 0 tr pl (nI tp) sz sp fa fl tk ta sg nu wd (nI P.1) (nI P.2.1) rl rw ht sd (nI a) (nI c))), (aI 8 fs), (aI 24 ff), (aI 8 fb), (aZ 8 f3), (aI 11 fc9), (aI 11 g2)]) rfl rfl) ?_
          refine w_if_ne (tgt := 178) dX10_sweep_171 rfl (fun b171 => ?_) (fun b171 => ?_)
          · refine w_iconst (v := 0) dX10_sweep_178 (by decide) ?_
            refine w_iadd dX10_sweep_179 ?_
            refine w_istore (ls2 := [some (.ref m), some (.int (nI j)), some (.int u1), some (.int u2), some (.int (nI N)), some (.int y), none, none, some (.int (p + 0)), some (.int (u1 + u2 * nI i)), some (.int (nI c)), some (.int (nI i)), some (.int (u1 + u2 * nI i))]) dX10_sweep_180 (by decide) rfl rfl ?_
            refine w_iinc (v := nI (i + 1)) (ls2 := [some (.ref m), some (.int (nI j)), some (.int u1), some (.int u2), some (.int (nI N)), some (.int y), none, none, some (.int (p + 0)), some (.int (u1 + u2 * nI i)), some (.int (nI c)), some (.int (nI (i + 1))), some (.int (u1 + u2 * nI i))]) dX10_sweep_182 rfl (nI_1 _) (by decide) rfl rfl ?_
            refine w_goto (tgt := 109) dX10_sweep_185 rfl ?_
            refine w_less (ls2 := [some (.ref m), some (.int (nI j)), some (.int u1), some (.int u2), some (.int (nI N)), some (.int y), none, none, some (.int (p + 0)), some (.int (u1 + u2 * nI i)), some (.int (nI c)), some (.int (nI (i + 1))), none]) ⟨Or.inr rfl, Or.inr rfl, Or.inr rfl, Or.inr rfl, Or.inr rfl, Or.inr rfl, Or.inl rfl, Or.inl rfl, Or.inr rfl, Or.inr rfl, Or.inr rfl, Or.inr rfl, Or.inl rfl, trivial⟩ ?_
            exact ih (i + 1) _ _ _ _ _ _ _ (by omega) (by
              rw [fld, ← e1, Nat.zero_add]
              simp only [loI]
              rw [if_neg hy9, hc3, if_neg b143]) (by
              rw [fld, ← e2, Nat.zero_add]
              simp only [cyI]
              rw [if_neg hy9, if_neg (by rw [if_neg b160]; decide), (cyc_vals hGl.2.1 hy9 hc3 hc2 ha3).2.1, if_pos (kC_pos hGl.2.1 hc2 b171), Int32.add_zero])
          · refine w_iconst (v := 1) dX10_sweep_174 (by decide) ?_
            refine w_goto (tgt := 179) dX10_sweep_175 rfl ?_
            refine w_iadd dX10_sweep_179 ?_
            refine w_istore (ls2 := [some (.ref m), some (.int (nI j)), some (.int u1), some (.int u2), some (.int (nI N)), some (.int y), none, none, some (.int (p + 1)), some (.int (u1 + u2 * nI i)), some (.int (nI c)), some (.int (nI i)), some (.int (u1 + u2 * nI i))]) dX10_sweep_180 (by decide) rfl rfl ?_
            refine w_iinc (v := nI (i + 1)) (ls2 := [some (.ref m), some (.int (nI j)), some (.int u1), some (.int u2), some (.int (nI N)), some (.int y), none, none, some (.int (p + 1)), some (.int (u1 + u2 * nI i)), some (.int (nI c)), some (.int (nI (i + 1))), some (.int (u1 + u2 * nI i))]) dX10_sweep_182 rfl (nI_1 _) (by decide) rfl rfl ?_
            refine w_goto (tgt := 109) dX10_sweep_185 rfl ?_
            refine w_less (ls2 := [some (.ref m), some (.int (nI j)), some (.int u1), some (.int u2), some (.int (nI N)), some (.int y), none, none, some (.int (p + 1)), some (.int (u1 + u2 * nI i)), some (.int (nI c)), some (.int (nI (i + 1))), none]) ⟨Or.inr rfl, Or.inr rfl, Or.inr rfl, Or.inr rfl, Or.inr rfl, Or.inr rfl, Or.inl rfl, Or.inl rfl, Or.inr rfl, Or.inr rfl, Or.inr rfl, Or.inr rfl, Or.inl rfl, trivial⟩ ?_
            exact ih (i + 1) _ _ _ _ _ _ _ (by omega) (by
              rw [fld, ← e1, Nat.zero_add]
              simp only [loI]
              rw [if_neg hy9, hc3, if_neg b143]) (by
              rw [fld, ← e2, Nat.zero_add]
              simp only [cyI]
              rw [if_neg hy9, if_neg (by rw [if_neg b160]; decide), (cyc_vals hGl.2.1 hy9 hc3 hc2 ha3).2.1, if_neg (by rw [b171]; decide)])
set_option maxRecDepth 100000 in
set_option maxHeartbeats 4000000 in
theorem q_sweep_s {G : wG} {d : Nat} {h : hH} {Q : Option Value → hH → Prop} {m : Nat} {ft : Nat → Int32} {tp : Nat} {P : pD} {ht : Int32} {R : Option rnD} {i0 i1 : imD} {sd fa pl tr : Int32} {th : Int32}  {j : Nat} {u1 u2 m9 y : Int32} (hI : mI h m ft tp P ht R i0 i1 sd fa pl tr th) (hj : j < P.1) (k : ∀ h2, mI h2 m ft tp P ht R i0 i1 sd fa (-1) (oSw P (nI j) u1 u2 m9 y).2 0 → mFr m h h2 → Q (some (.int (oSw P (nI j) u1 u2 m9 y).1)) h2) : Cl G yX10_sweep (d + 3) 0 0 [.ref m, .int (nI j), .int u1, .int u2, .int m9, .int y] h Q := by
  refine mI_e hI ?_
  intro sz sp fl tk ta sg nu wd rl rw ah cl gt ln wn fs ff fb fn fp f3 fk fx fy fc fr f1 f2 fi fo fq fh fj fw fz hW hT hPm hG hRm hm0 hm1 hsd hht htp
  have hnL : P.1 ≤ 4096 := Nat.le_trans hG.2.2.1 (by decide)
  have hnW : P.2.1 ≤ 4096 := Nat.le_trans hG.2.2.2 (by decide)
  have hhL : (ht = 0 ∧ P.1 = 0) ∨ ht = 1 := hht.imp (fun z => ⟨z.1, z.2.1⟩) id
  have hhW : (ht = 0 ∧ P.2.1 = 0) ∨ ht = 1 := hht.imp (fun z => ⟨z.1, z.2.2⟩) id
  have hLp := hPm.1 j hj
  rw [Nat.zero_add] at hLp
  have hGl := hG.1 j hj
  have hj4 : j < 4 := Nat.lt_of_lt_of_le hj hG.2.2.1
  have hs1 := hGl.1
  have hs3 := hGl.2.1
  have hw : hHas h [m, m + 4, m + 5, m + 6, m + 9, m + 15, m + 16] [(oC 10 (mF m th tr pl (nI tp) sz sp fa fl tk ta sg nu wd (nI P.1) (nI P.2.1) rl rw ht sd ah cl)), (aI 8 fs), (aI 24 ff), (aI 8 fb), (aZ 8 f3), (aI 11 f1), (aI 11 f2)] := hHas_s hW [0, 4, 5, 6, 9, 15, 16] rfl rfl
  have nd : [m, m + 4, m + 5, m + 6, m + 9, m + 15, m + 16].Nodup := (nd_inc ⟨by omega, by omega, by omega, by omega, by omega, by omega, trivial⟩)
  refine Cl.of (ini := false) kX10_sweep (plainFor_of_name (by decide)) (by decide) (Nat.le_of_ble_eq_true rfl) rfl rfl (fun z => by cases z) ?_
  refine w_heq (hUs_id hw).symm ?_
  refine w_aload_n dX10_sweep_0 rfl ?_
  refine w_iconst (v := 0) dX10_sweep_1 (by decide) ?_
  refine w_put (fs' := (mF m 0 tr pl (nI tp) sz sp fa fl tk ta sg nu wd (nI P.1) (nI P.2.1) rl rw ht sd ah cl)) fX10_89 (hUs_at nd 0 rfl rfl) rfl rfl (Nat.le_of_ble_eq_true rfl) rfl dX10_sweep_2 ?_
  refine w_heq (hUs_set nd rfl 0 (cs' := [(oC 10 (mF m 0 tr pl (nI tp) sz sp fa fl tk ta sg nu wd (nI P.1) (nI P.2.1) rl rw ht sd ah cl)), (aI 8 fs), (aI 24 ff), (aI 8 fb), (aZ 8 f3), (aI 11 f1), (aI 11 f2)]) rfl rfl) ?_
  refine w_aload_n dX10_sweep_5 rfl ?_
  refine w_iload_n dX10_sweep_6 rfl ?_
  refine w_callV (ci := 10) (d' := d + 2) (mc' := 0) (ms' := 0) (As := [.int (nI j)]) (st := []) lX10_251 vX10_isLoop rfl (hUs_at nd 0 rfl rfl) rfl (Nat.le_of_ble_eq_true rfl) dX10_sweep_7 (Nat.le_of_ble_eq_true rfl) (Nat.le_of_ble_eq_true rfl) (Nat.le_refl _) (m_isLoop (hHas_sub nd (as' := [m]) (cs' := [(oC 10 (mF m 0 tr pl (nI tp) sz sp fa fl tk ta sg nu wd (nI P.1) (nI P.2.1) rl rw ht sd ah cl))]) [0] rfl rfl) hnL hhL ?_)
  refine w_if_eq_f (tgt := 23) dX10_sweep_10 rfl (by rw [ixB_s hj hnL]; decide) ?_
  refine w_iload dX10_sweep_13 rfl ?_
  refine w_iconst (v := 0) dX10_sweep_15 (by decide) ?_
  refine w_iconst (v := 2) dX10_sweep_16 (by decide) ?_
  refine w_callS (d' := d + 2) (mc' := 0) (ms' := 0) (As := [.int y, .int 0, .int 2]) (st := []) lX10_111 vX10_in rfl (Nat.le_of_ble_eq_true rfl) dX10_sweep_17 (Nat.le_of_ble_eq_true rfl) (Nat.le_of_ble_eq_true rfl) (Nat.le_refl _) (c_in ?_)
  refine w_if_ne (tgt := 29) dX10_sweep_20 rfl (fun b20 => ?_) (fun b20 => ?_)
  · refine w_iload dX10_sweep_29 rfl ?_
    refine w_iconst (v := 1) dX10_sweep_31 (by decide) ?_
    refine w_bipush (v := 50) dX10_sweep_32 (by decide) ?_
    refine w_callS (d' := d + 2) (mc' := 0) (ms' := 0) (As := [.int m9, .int 1, .int 50]) (st := []) lX10_111 vX10_in rfl (Nat.le_of_ble_eq_true rfl) dX10_sweep_34 (Nat.le_of_ble_eq_true rfl) (Nat.le_of_ble_eq_true rfl) (Nat.le_refl _) (c_in ?_)
    refine w_if_eq (tgt := 53) dX10_sweep_37 rfl (fun b37 => ?_) (fun b37 => ?_)
    · refine w_aload_n dX10_sweep_53 rfl ?_
      refine w_iconst (v := 2) dX10_sweep_54 (by decide) ?_
      refine w_callV (ci := 10) (d' := d + 2) (mc' := 0) (ms' := 0) (As := [.int 2]) (st := []) lX10_266 vX10_lost rfl (hUs_at nd 0 rfl rfl) rfl (Nat.le_of_ble_eq_true rfl) dX10_sweep_55 (Nat.le_of_ble_eq_true rfl) (Nat.le_of_ble_eq_true rfl) (Nat.le_refl _) (m_lost (hHas_sub nd (as' := [m]) (cs' := [(oC 10 (mF m 0 tr pl (nI tp) sz sp fa fl tk ta sg nu wd (nI P.1) (nI P.2.1) rl rw ht sd ah cl))]) [0] rfl rfl) (nd_sub nd (as' := [m]) [0] rfl rfl)  ?_)
      refine w_heq (hUs_in nd rfl [0] (cs2 := [(oC 10 (mF m 0 2 (-1) (nI tp) sz sp fa fl tk ta sg nu wd (nI P.1) (nI P.2.1) rl rw ht sd ah cl)), (aI 8 fs), (aI 24 ff), (aI 8 fb), (aZ 8 f3), (aI 11 f1), (aI 11 f2)]) rfl rfl) ?_
      refine w_ireturn rfl dX10_sweep_58 (Nat.le_of_ble_eq_true rfl) (Nat.le_of_ble_eq_true rfl) ?_
      have e : oSw P (nI j) u1 u2 m9 y = ((-1000000000), 2) := by
        simp only [oSw, ixN_s hj hnL]
        rw [if_neg (fun z => z.elim (fun z => absurd (inB_1 b20).1 (Int32.not_le.mpr z)) (fun z => absurd (inB_1 b20).2 (Int32.not_le.mpr z))), if_pos (show swB u1 u2 m9 = 0 from if_neg (fun z => (inB_0 b37).elim (fun w => absurd z.1.1 (Int32.not_le.mpr w)) (fun w => absurd z.1.2 (Int32.not_le.mpr w))))]
      rw [e] at k
      exact k _ (mI_i (cI_put hW (mAs_nd m) rfl [0, 4, 5, 6, 9, 15, 16] (cs2 := [(oC 10 (mF m 0 2 (-1) (nI tp) sz sp fa fl tk ta sg nu wd (nI P.1) (nI P.2.1) rl rw ht sd ah cl)), (aI 600 gt), (aL 8 ln), (aL 8 wn), (aI 8 fs), (aI 24 ff), (aI 8 fb), (aI 8 fn), (aI 8 fp), (aZ 8 f3), (aI 64 fk), (aI 64 fx), (aI 64 fy), (aI 64 fc), (aI 11 fr), (aI 11 f1), (aI 11 f2), (aI 22 fi), (aB 4096 fo), (aB 8192 fq), (aZ 2 fh), (aI 2 fj), (aI 4096 fw), (aI 2100 fz)]) rfl rfl) hT hPm hG hRm hm0 hm1 hsd hht htp) (mFr_of (by intro a ha; simp only [List.mem_cons, List.not_mem_nil, or_false] at ha; omega))
    · refine w_iload_n dX10_sweep_40 rfl ?_
      refine w_sipush (v := (-1000)) dX10_sweep_41 (by decide) ?_
      refine w_sipush (v := 1000) dX10_sweep_44 (by decide) ?_
      refine w_callS (d' := d + 2) (mc' := 0) (ms' := 0) (As := [.int u1, .int (-1000), .int 1000]) (st := []) lX10_111 vX10_in rfl (Nat.le_of_ble_eq_true rfl) dX10_sweep_47 (Nat.le_of_ble_eq_true rfl) (Nat.le_of_ble_eq_true rfl) (Nat.le_refl _) (c_in ?_)
      refine w_top (z := lvB u1.toInt64) (lvB_in u1) ?_
      refine w_if_ne (tgt := 59) dX10_sweep_50 rfl (fun b50 => ?_) (fun b50 => ?_)
      · refine w_iload_n dX10_sweep_59 rfl ?_
        refine w_i2l dX10_sweep_60 ?_
        refine w_iload dX10_sweep_61 rfl ?_
        refine w_i2l dX10_sweep_63 ?_
        refine w_lconst (v := 1) dX10_sweep_64 (by decide) ?_
        refine w_lsub dX10_sweep_65 ?_
        refine w_iload_n dX10_sweep_66 rfl ?_
        refine w_i2l dX10_sweep_67 ?_
        refine w_lmul dX10_sweep_68 ?_
        refine w_ladd dX10_sweep_69 ?_
        refine w_lstore (ls2 := [some (.ref m), some (.int (nI j)), some (.int u1), some (.int u2), some (.int m9), some (.int y), some (.long (u1.toInt64 + ((m9.toInt64 - 1) * u2.toInt64))), none, none, none, none, none, none]) dX10_sweep_70 (by decide) rfl rfl ?_
        refine w_lload dX10_sweep_72 rfl ?_
        refine w_ldc2 nX10_334 dX10_sweep_74 ?_
        refine w_lcmp dX10_sweep_77 ?_
        refine w_if_lt (tgt := 90) dX10_sweep_78 rfl (fun b78 => ?_) (fun b78 => ?_)
        · refine w_aload_n dX10_sweep_90 rfl ?_
          refine w_iconst (v := 2) dX10_sweep_91 (by decide) ?_
          refine w_callV (ci := 10) (d' := d + 2) (mc' := 0) (ms' := 0) (As := [.int 2]) (st := []) lX10_266 vX10_lost rfl (hUs_at nd 0 rfl rfl) rfl (Nat.le_of_ble_eq_true rfl) dX10_sweep_92 (Nat.le_of_ble_eq_true rfl) (Nat.le_of_ble_eq_true rfl) (Nat.le_refl _) (m_lost (hHas_sub nd (as' := [m]) (cs' := [(oC 10 (mF m 0 tr pl (nI tp) sz sp fa fl tk ta sg nu wd (nI P.1) (nI P.2.1) rl rw ht sd ah cl))]) [0] rfl rfl) (nd_sub nd (as' := [m]) [0] rfl rfl)  ?_)
          refine w_heq (hUs_in nd rfl [0] (cs2 := [(oC 10 (mF m 0 2 (-1) (nI tp) sz sp fa fl tk ta sg nu wd (nI P.1) (nI P.2.1) rl rw ht sd ah cl)), (aI 8 fs), (aI 24 ff), (aI 8 fb), (aZ 8 f3), (aI 11 f1), (aI 11 f2)]) rfl rfl) ?_
          refine w_ireturn rfl dX10_sweep_95 (Nat.le_of_ble_eq_true rfl) (Nat.le_of_ble_eq_true rfl) ?_
          have e : oSw P (nI j) u1 u2 m9 y = ((-1000000000), 2) := by
            simp only [oSw, ixN_s hj hnL]
            rw [if_neg (fun z => z.elim (fun z => absurd (inB_1 b20).1 (Int32.not_le.mpr z)) (fun z => absurd (inB_1 b20).2 (Int32.not_le.mpr z))), if_pos (show swB u1 u2 m9 = 0 from if_neg (fun z => by
              have z3 := z.2.2
              rw [← sw_last (inB_1 b37).1 (inB_1 b37).2, lvB, if_neg (fun w => absurd w.1 (Int64.not_le.mpr ((lg_cmp_lt _ _).mp b78)))] at z3
              exact absurd z3 (by decide)))]
          rw [e] at k
          exact k _ (mI_i (cI_put hW (mAs_nd m) rfl [0, 4, 5, 6, 9, 15, 16] (cs2 := [(oC 10 (mF m 0 2 (-1) (nI tp) sz sp fa fl tk ta sg nu wd (nI P.1) (nI P.2.1) rl rw ht sd ah cl)), (aI 600 gt), (aL 8 ln), (aL 8 wn), (aI 8 fs), (aI 24 ff), (aI 8 fb), (aI 8 fn), (aI 8 fp), (aZ 8 f3), (aI 64 fk), (aI 64 fx), (aI 64 fy), (aI 64 fc), (aI 11 fr), (aI 11 f1), (aI 11 f2), (aI 22 fi), (aB 4096 fo), (aB 8192 fq), (aZ 2 fh), (aI 2 fj), (aI 4096 fw), (aI 2100 fz)]) rfl rfl) hT hPm hG hRm hm0 hm1 hsd hht htp) (mFr_of (by intro a ha; simp only [List.mem_cons, List.not_mem_nil, or_false] at ha; omega))
        · refine w_lload dX10_sweep_81 rfl ?_
          refine w_ldc2 nX10_336 dX10_sweep_83 ?_
          refine w_lcmp dX10_sweep_86 ?_
          refine w_if_le (tgt := 96) dX10_sweep_87 rfl (fun b87 => ?_) (fun b87 => ?_)
          · refine w_less (ls2 := [some (.ref m), some (.int (nI j)), some (.int u1), some (.int u2), some (.int m9), some (.int y), none, none, none, none, none, none, none]) ⟨Or.inr rfl, Or.inr rfl, Or.inr rfl, Or.inr rfl, Or.inr rfl, Or.inr rfl, Or.inl rfl, Or.inl rfl, Or.inl rfl, Or.inl rfl, Or.inl rfl, Or.inl rfl, Or.inl rfl, trivial⟩ ?_
            have hsw : ¬ swB u1 u2 m9 = 0 := by
              rw [swB, if_pos ⟨inB_1 b37, (lvB_01 _).resolve_left b50, by
                rw [← sw_last (inB_1 b37).1 (inB_1 b37).2, lvB, if_pos ⟨Int64.not_lt.mp (fun z => b78 ((lg_cmp_lt _ _).mpr z)), Int64.not_lt.mp (fun z => absurd ((lg_cmp_gt _ _).mpr z) (Int32.not_lt.mpr b87))⟩]⟩]; decide
            obtain ⟨N9, hN9, rfl⟩ := swB_n hsw
            have hNc : tN (nI N9) = N9 := nI_clamp (by omega)
            refine w_iconst (v := 0) dX10_sweep_96 (by decide) ?_
            refine w_istore (ls2 := [some (.ref m), some (.int (nI j)), some (.int u1), some (.int u2), some (.int (nI N9)), some (.int y), none, none, some (.int 0), none, none, none, none]) dX10_sweep_97 (by decide) rfl rfl ?_
            refine w_ldc nX10_95 dX10_sweep_99 ?_
            refine w_istore (ls2 := [some (.ref m), some (.int (nI j)), some (.int u1), some (.int u2), some (.int (nI N9)), some (.int y), none, none, some (.int 0), some (.int (-1000000000)), none, none, none]) dX10_sweep_101 (by decide) rfl rfl ?_
            refine w_iconst (v := 0) dX10_sweep_103 (by decide) ?_
            refine w_istore (ls2 := [some (.ref m), some (.int (nI j)), some (.int u1), some (.int u2), some (.int (nI N9)), some (.int y), none, none, some (.int 0), some (.int (-1000000000)), some (.int 0), none, none]) dX10_sweep_104 (by decide) rfl rfl ?_
            refine w_iconst (v := (nI 0)) dX10_sweep_106 (by decide) ?_
            refine w_istore (ls2 := [some (.ref m), some (.int (nI j)), some (.int u1), some (.int u2), some (.int (nI N9)), some (.int y), none, none, some (.int 0), some (.int (-1000000000)), some (.int 0), some (.int (nI 0)), none]) dX10_sweep_107 (by decide) rfl rfl ?_
            refine lq_sweep (ln := ln) (fn := fn) nd (show j < 8 by omega) hLp hGl hN9 (fun r9 ah9 cl9 g1 g2 => ?_) N9 0 _ _ _ _ _ _ _ (by omega) rfl rfl
            refine w_aload_n dX10_sweep_188 rfl ?_
            refine w_iload dX10_sweep_189 rfl ?_
            refine w_iconst (v := 2) dX10_sweep_191 (by decide) ?_
            refine w_icmp_ne (tgt := 200) dX10_sweep_192 rfl (fun b192 => ?_) (fun b192 => ?_)
            · refine w_iload dX10_sweep_200 rfl ?_
              refine w_callV (ci := 10) (d' := d + 2) (mc' := 0) (ms' := 0) (As := [.int (fld (cyI (lPo (P.2.2.1 j)) u1 u2 (if y = 0 then (0 : Int32) else 1)) 0 N9 0)]) (st := []) lX10_241 vX10_good rfl (hUs_at nd 0 rfl rfl) rfl (Nat.le_of_ble_eq_true rfl) dX10_sweep_202 (Nat.le_of_ble_eq_true rfl) (Nat.le_of_ble_eq_true rfl) (Nat.le_refl _) (m_good (hHas_sub nd (as' := [m]) (cs' := [(oC 10 (mF m 0 tr pl (nI tp) sz sp fa fl tk ta sg nu wd (nI P.1) (nI P.2.1) rl rw ht sd ah9 cl9))]) [0] rfl rfl) (nd_sub nd (as' := [m]) [0] rfl rfl)  ?_)
              refine w_heq (hUs_in nd rfl [0] (cs2 := [(oC 10 (mF m 0 0 (-1) (nI tp) sz sp fa fl tk ta sg nu wd (nI P.1) (nI P.2.1) rl rw ht sd ah9 cl9)), (aI 8 fs), (aI 24 ff), (aI 8 fb), (aZ 8 f3), (aI 11 g1), (aI 11 g2)]) rfl rfl) ?_
              refine w_ireturn rfl dX10_sweep_205 (Nat.le_of_ble_eq_true rfl) (Nat.le_of_ble_eq_true rfl) ?_
              have e : oSw P (nI j) u1 u2 (nI N9) y = (fld (cyI (lPo (P.2.2.1 j)) u1 u2 (if y = 0 then (0 : Int32) else 1)) 0 N9 0, 0) := by
                simp only [oSw, ixN_s hj hnL]
                rw [if_neg (fun z => z.elim (fun z => absurd (inB_1 b20).1 (Int32.not_le.mpr z)) (fun z => absurd (inB_1 b20).2 (Int32.not_le.mpr z))), if_neg hsw, if_neg b192, hNc]
                have eu : (if y = 1 then (1 : Int32) else 0) = (if y = 0 then (0 : Int32) else 1) := by
                  have g1 := (inB_1 b20).1
                  have g2 := (inB_1 b20).2
                  obtain ⟨w9, hw9, rfl⟩ := in2 (m := 2) (Int32.not_lt.mpr g1) g2 (by decide)
                  rcases (show w9 = 0 ∨ w9 = 1 ∨ w9 = 2 by omega) with rfl | rfl | rfl
                  · decide
                  · decide
                  · exact absurd rfl b192
                rw [eu]
              rw [e] at k
              exact k _ (mI_i (cI_put hW (mAs_nd m) rfl [0, 4, 5, 6, 9, 15, 16] (cs2 := [(oC 10 (mF m 0 0 (-1) (nI tp) sz sp fa fl tk ta sg nu wd (nI P.1) (nI P.2.1) rl rw ht sd ah9 cl9)), (aI 600 gt), (aL 8 ln), (aL 8 wn), (aI 8 fs), (aI 24 ff), (aI 8 fb), (aI 8 fn), (aI 8 fp), (aZ 8 f3), (aI 64 fk), (aI 64 fx), (aI 64 fy), (aI 64 fc), (aI 11 fr), (aI 11 g1), (aI 11 g2), (aI 22 fi), (aB 4096 fo), (aB 8192 fq), (aZ 2 fh), (aI 2 fj), (aI 4096 fw), (aI 2100 fz)]) rfl rfl) hT hPm hG hRm hm0 hm1 hsd hht htp) (mFr_of (by intro a ha; simp only [List.mem_cons, List.not_mem_nil, or_false] at ha; omega))
            · refine w_iload dX10_sweep_195 rfl ?_
              refine w_goto (tgt := 202) dX10_sweep_197 rfl ?_
              refine w_callV (ci := 10) (d' := d + 2) (mc' := 0) (ms' := 0) (As := [.int (fld (loI (lPo (P.2.2.1 j)) u1 u2) 0 N9 (0, -1000000000)).2]) (st := []) lX10_241 vX10_good rfl (hUs_at nd 0 rfl rfl) rfl (Nat.le_of_ble_eq_true rfl) dX10_sweep_202 (Nat.le_of_ble_eq_true rfl) (Nat.le_of_ble_eq_true rfl) (Nat.le_refl _) (m_good (hHas_sub nd (as' := [m]) (cs' := [(oC 10 (mF m 0 tr pl (nI tp) sz sp fa fl tk ta sg nu wd (nI P.1) (nI P.2.1) rl rw ht sd ah9 cl9))]) [0] rfl rfl) (nd_sub nd (as' := [m]) [0] rfl rfl)  ?_)
              refine w_heq (hUs_in nd rfl [0] (cs2 := [(oC 10 (mF m 0 0 (-1) (nI tp) sz sp fa fl tk ta sg nu wd (nI P.1) (nI P.2.1) rl rw ht sd ah9 cl9)), (aI 8 fs), (aI 24 ff), (aI 8 fb), (aZ 8 f3), (aI 11 g1), (aI 11 g2)]) rfl rfl) ?_
              refine w_ireturn rfl dX10_sweep_205 (Nat.le_of_ble_eq_true rfl) (Nat.le_of_ble_eq_true rfl) ?_
              have e : oSw P (nI j) u1 u2 (nI N9) y = ((fld (loI (lPo (P.2.2.1 j)) u1 u2) 0 N9 (0, -1000000000)).2, 0) := by
                simp only [oSw, ixN_s hj hnL]
                rw [if_neg (fun z => z.elim (fun z => absurd (inB_1 b20).1 (Int32.not_le.mpr z)) (fun z => absurd (inB_1 b20).2 (Int32.not_le.mpr z))), if_neg hsw, if_pos b192, hNc]
              rw [e] at k
              exact k _ (mI_i (cI_put hW (mAs_nd m) rfl [0, 4, 5, 6, 9, 15, 16] (cs2 := [(oC 10 (mF m 0 0 (-1) (nI tp) sz sp fa fl tk ta sg nu wd (nI P.1) (nI P.2.1) rl rw ht sd ah9 cl9)), (aI 600 gt), (aL 8 ln), (aL 8 wn), (aI 8 fs), (aI 24 ff), (aI 8 fb), (aI 8 fn), (aI 8 fp), (aZ 8 f3), (aI 64 fk), (aI 64 fx), (aI 64 fy), (aI 64 fc), (aI 11 fr), (aI 11 g1), (aI 11 g2), (aI 22 fi), (aB 4096 fo), (aB 8192 fq), (aZ 2 fh), (aI 2 fj), (aI 4096 fw), (aI 2100 fz)]) rfl rfl) hT hPm hG hRm hm0 hm1 hsd hht htp) (mFr_of (by intro a ha; simp only [List.mem_cons, List.not_mem_nil, or_false] at ha; omega))
          · refine w_aload_n dX10_sweep_90 rfl ?_
            refine w_iconst (v := 2) dX10_sweep_91 (by decide) ?_
            refine w_callV (ci := 10) (d' := d + 2) (mc' := 0) (ms' := 0) (As := [.int 2]) (st := []) lX10_266 vX10_lost rfl (hUs_at nd 0 rfl rfl) rfl (Nat.le_of_ble_eq_true rfl) dX10_sweep_92 (Nat.le_of_ble_eq_true rfl) (Nat.le_of_ble_eq_true rfl) (Nat.le_refl _) (m_lost (hHas_sub nd (as' := [m]) (cs' := [(oC 10 (mF m 0 tr pl (nI tp) sz sp fa fl tk ta sg nu wd (nI P.1) (nI P.2.1) rl rw ht sd ah cl))]) [0] rfl rfl) (nd_sub nd (as' := [m]) [0] rfl rfl)  ?_)
            refine w_heq (hUs_in nd rfl [0] (cs2 := [(oC 10 (mF m 0 2 (-1) (nI tp) sz sp fa fl tk ta sg nu wd (nI P.1) (nI P.2.1) rl rw ht sd ah cl)), (aI 8 fs), (aI 24 ff), (aI 8 fb), (aZ 8 f3), (aI 11 f1), (aI 11 f2)]) rfl rfl) ?_
            refine w_ireturn rfl dX10_sweep_95 (Nat.le_of_ble_eq_true rfl) (Nat.le_of_ble_eq_true rfl) ?_
            have e : oSw P (nI j) u1 u2 m9 y = ((-1000000000), 2) := by
              simp only [oSw, ixN_s hj hnL]
              rw [if_neg (fun z => z.elim (fun z => absurd (inB_1 b20).1 (Int32.not_le.mpr z)) (fun z => absurd (inB_1 b20).2 (Int32.not_le.mpr z))), if_pos (show swB u1 u2 m9 = 0 from if_neg (fun z => by
                have z3 := z.2.2
                rw [← sw_last (inB_1 b37).1 (inB_1 b37).2, lvB, if_neg (fun w => absurd w.2 (Int64.not_le.mpr ((lg_cmp_gt _ _).mp (Int32.not_le.mp b87))))] at z3
                exact absurd z3 (by decide)))]
            rw [e] at k
            exact k _ (mI_i (cI_put hW (mAs_nd m) rfl [0, 4, 5, 6, 9, 15, 16] (cs2 := [(oC 10 (mF m 0 2 (-1) (nI tp) sz sp fa fl tk ta sg nu wd (nI P.1) (nI P.2.1) rl rw ht sd ah cl)), (aI 600 gt), (aL 8 ln), (aL 8 wn), (aI 8 fs), (aI 24 ff), (aI 8 fb), (aI 8 fn), (aI 8 fp), (aZ 8 f3), (aI 64 fk), (aI 64 fx), (aI 64 fy), (aI 64 fc), (aI 11 fr), (aI 11 f1), (aI 11 f2), (aI 22 fi), (aB 4096 fo), (aB 8192 fq), (aZ 2 fh), (aI 2 fj), (aI 4096 fw), (aI 2100 fz)]) rfl rfl) hT hPm hG hRm hm0 hm1 hsd hht htp) (mFr_of (by intro a ha; simp only [List.mem_cons, List.not_mem_nil, or_false] at ha; omega))
      · refine w_aload_n dX10_sweep_53 rfl ?_
        refine w_iconst (v := 2) dX10_sweep_54 (by decide) ?_
        refine w_callV (ci := 10) (d' := d + 2) (mc' := 0) (ms' := 0) (As := [.int 2]) (st := []) lX10_266 vX10_lost rfl (hUs_at nd 0 rfl rfl) rfl (Nat.le_of_ble_eq_true rfl) dX10_sweep_55 (Nat.le_of_ble_eq_true rfl) (Nat.le_of_ble_eq_true rfl) (Nat.le_refl _) (m_lost (hHas_sub nd (as' := [m]) (cs' := [(oC 10 (mF m 0 tr pl (nI tp) sz sp fa fl tk ta sg nu wd (nI P.1) (nI P.2.1) rl rw ht sd ah cl))]) [0] rfl rfl) (nd_sub nd (as' := [m]) [0] rfl rfl)  ?_)
        refine w_heq (hUs_in nd rfl [0] (cs2 := [(oC 10 (mF m 0 2 (-1) (nI tp) sz sp fa fl tk ta sg nu wd (nI P.1) (nI P.2.1) rl rw ht sd ah cl)), (aI 8 fs), (aI 24 ff), (aI 8 fb), (aZ 8 f3), (aI 11 f1), (aI 11 f2)]) rfl rfl) ?_
        refine w_ireturn rfl dX10_sweep_58 (Nat.le_of_ble_eq_true rfl) (Nat.le_of_ble_eq_true rfl) ?_
        have e : oSw P (nI j) u1 u2 m9 y = ((-1000000000), 2) := by
          simp only [oSw, ixN_s hj hnL]
          rw [if_neg (fun z => z.elim (fun z => absurd (inB_1 b20).1 (Int32.not_le.mpr z)) (fun z => absurd (inB_1 b20).2 (Int32.not_le.mpr z))), if_pos (show swB u1 u2 m9 = 0 from if_neg (fun z => absurd (z.2.1.symm.trans b50) (by decide)))]
        rw [e] at k
        exact k _ (mI_i (cI_put hW (mAs_nd m) rfl [0, 4, 5, 6, 9, 15, 16] (cs2 := [(oC 10 (mF m 0 2 (-1) (nI tp) sz sp fa fl tk ta sg nu wd (nI P.1) (nI P.2.1) rl rw ht sd ah cl)), (aI 600 gt), (aL 8 ln), (aL 8 wn), (aI 8 fs), (aI 24 ff), (aI 8 fb), (aI 8 fn), (aI 8 fp), (aZ 8 f3), (aI 64 fk), (aI 64 fx), (aI 64 fy), (aI 64 fc), (aI 11 fr), (aI 11 f1), (aI 11 f2), (aI 22 fi), (aB 4096 fo), (aB 8192 fq), (aZ 2 fh), (aI 2 fj), (aI 4096 fw), (aI 2100 fz)]) rfl rfl) hT hPm hG hRm hm0 hm1 hsd hht htp) (mFr_of (by intro a ha; simp only [List.mem_cons, List.not_mem_nil, or_false] at ha; omega))
  · refine w_aload_n dX10_sweep_23 rfl ?_
    refine w_iconst (v := 1) dX10_sweep_24 (by decide) ?_
    refine w_callV (ci := 10) (d' := d + 2) (mc' := 0) (ms' := 0) (As := [.int 1]) (st := []) lX10_266 vX10_lost rfl (hUs_at nd 0 rfl rfl) rfl (Nat.le_of_ble_eq_true rfl) dX10_sweep_25 (Nat.le_of_ble_eq_true rfl) (Nat.le_of_ble_eq_true rfl) (Nat.le_refl _) (m_lost (hHas_sub nd (as' := [m]) (cs' := [(oC 10 (mF m 0 tr pl (nI tp) sz sp fa fl tk ta sg nu wd (nI P.1) (nI P.2.1) rl rw ht sd ah cl))]) [0] rfl rfl) (nd_sub nd (as' := [m]) [0] rfl rfl)  ?_)
    refine w_heq (hUs_in nd rfl [0] (cs2 := [(oC 10 (mF m 0 1 (-1) (nI tp) sz sp fa fl tk ta sg nu wd (nI P.1) (nI P.2.1) rl rw ht sd ah cl)), (aI 8 fs), (aI 24 ff), (aI 8 fb), (aZ 8 f3), (aI 11 f1), (aI 11 f2)]) rfl rfl) ?_
    refine w_ireturn rfl dX10_sweep_28 (Nat.le_of_ble_eq_true rfl) (Nat.le_of_ble_eq_true rfl) ?_
    have e : oSw P (nI j) u1 u2 m9 y = ((-1000000000), 1) := by
      simp only [oSw, ixN_s hj hnL]
      exact if_pos (inB_0 b20)
    rw [e] at k
    exact k _ (mI_i (cI_put hW (mAs_nd m) rfl [0, 4, 5, 6, 9, 15, 16] (cs2 := [(oC 10 (mF m 0 1 (-1) (nI tp) sz sp fa fl tk ta sg nu wd (nI P.1) (nI P.2.1) rl rw ht sd ah cl)), (aI 600 gt), (aL 8 ln), (aL 8 wn), (aI 8 fs), (aI 24 ff), (aI 8 fb), (aI 8 fn), (aI 8 fp), (aZ 8 f3), (aI 64 fk), (aI 64 fx), (aI 64 fy), (aI 64 fc), (aI 11 fr), (aI 11 f1), (aI 11 f2), (aI 22 fi), (aB 4096 fo), (aB 8192 fq), (aZ 2 fh), (aI 2 fj), (aI 4096 fw), (aI 2100 fz)]) rfl rfl) hT hPm hG hRm hm0 hm1 hsd hht htp) (mFr_of (by intro a ha; simp only [List.mem_cons, List.not_mem_nil, or_false] at ha; omega))
set_option maxRecDepth 100000 in
set_option maxHeartbeats 4000000 in
theorem q_sweep_n {G : wG} {d : Nat} {h : hH} {Q : Option Value → hH → Prop} {m : Nat} {ft : Nat → Int32} {tp : Nat} {P : pD} {ht : Int32} {R : Option rnD} {i0 i1 : imD} {sd fa pl tr : Int32} {th : Int32}  {l u1 u2 m9 y : Int32} (hI : mI h m ft tp P ht R i0 i1 sd fa pl tr th) (hl : ¬ ∃ j, j < P.1 ∧ l = nI j) (k : ∀ h2, mI h2 m ft tp P ht R i0 i1 sd fa (-1) (oSw P l u1 u2 m9 y).2 0 → mFr m h h2 → Q (some (.int (oSw P l u1 u2 m9 y).1)) h2) : Cl G yX10_sweep (d + 3) 0 0 [.ref m, .int l, .int u1, .int u2, .int m9, .int y] h Q := by
  refine mI_e hI ?_
  intro sz sp fl tk ta sg nu wd rl rw ah cl gt ln wn fs ff fb fn fp f3 fk fx fy fc fr f1 f2 fi fo fq fh fj fw fz hW hT hPm hG hRm hm0 hm1 hsd hht htp
  have hnL : P.1 ≤ 4096 := Nat.le_trans hG.2.2.1 (by decide)
  have hnW : P.2.1 ≤ 4096 := Nat.le_trans hG.2.2.2 (by decide)
  have hhL : (ht = 0 ∧ P.1 = 0) ∨ ht = 1 := hht.imp (fun z => ⟨z.1, z.2.1⟩) id
  have hhW : (ht = 0 ∧ P.2.1 = 0) ∨ ht = 1 := hht.imp (fun z => ⟨z.1, z.2.2⟩) id
  have hw : hHas h [m] [(oC 10 (mF m th tr pl (nI tp) sz sp fa fl tk ta sg nu wd (nI P.1) (nI P.2.1) rl rw ht sd ah cl))] := hHas_s hW [0] rfl rfl
  have nd : [m].Nodup := (nd_inc trivial)
  refine Cl.of (ini := false) kX10_sweep (plainFor_of_name (by decide)) (by decide) (Nat.le_of_ble_eq_true rfl) rfl rfl (fun z => by cases z) ?_
  refine w_heq (hUs_id hw).symm ?_
  refine w_aload_n dX10_sweep_0 rfl ?_
  refine w_iconst (v := 0) dX10_sweep_1 (by decide) ?_
  refine w_put (fs' := (mF m 0 tr pl (nI tp) sz sp fa fl tk ta sg nu wd (nI P.1) (nI P.2.1) rl rw ht sd ah cl)) fX10_89 (hUs_at nd 0 rfl rfl) rfl rfl (Nat.le_of_ble_eq_true rfl) rfl dX10_sweep_2 ?_
  refine w_heq (hUs_set nd rfl 0 (cs' := [(oC 10 (mF m 0 tr pl (nI tp) sz sp fa fl tk ta sg nu wd (nI P.1) (nI P.2.1) rl rw ht sd ah cl))]) rfl rfl) ?_
  refine w_aload_n dX10_sweep_5 rfl ?_
  refine w_iload_n dX10_sweep_6 rfl ?_
  refine w_callV (ci := 10) (d' := d + 2) (mc' := 0) (ms' := 0) (As := [.int l]) (st := []) lX10_251 vX10_isLoop rfl (hUs_at nd 0 rfl rfl) rfl (Nat.le_of_ble_eq_true rfl) dX10_sweep_7 (Nat.le_of_ble_eq_true rfl) (Nat.le_of_ble_eq_true rfl) (Nat.le_refl _) (m_isLoop (hHas_sub nd (as' := [m]) (cs' := [(oC 10 (mF m 0 tr pl (nI tp) sz sp fa fl tk ta sg nu wd (nI P.1) (nI P.2.1) rl rw ht sd ah cl))]) [0] rfl rfl) hnL hhL ?_)
  refine w_if_eq_t (tgt := 23) dX10_sweep_10 rfl (ixB_n hl hnL) ?_
  refine w_aload_n dX10_sweep_23 rfl ?_
  refine w_iconst (v := 1) dX10_sweep_24 (by decide) ?_
  refine w_callV (ci := 10) (d' := d + 2) (mc' := 0) (ms' := 0) (As := [.int 1]) (st := []) lX10_266 vX10_lost rfl (hUs_at nd 0 rfl rfl) rfl (Nat.le_of_ble_eq_true rfl) dX10_sweep_25 (Nat.le_of_ble_eq_true rfl) (Nat.le_of_ble_eq_true rfl) (Nat.le_refl _) (m_lost (hHas_sub nd (as' := [m]) (cs' := [(oC 10 (mF m 0 tr pl (nI tp) sz sp fa fl tk ta sg nu wd (nI P.1) (nI P.2.1) rl rw ht sd ah cl))]) [0] rfl rfl) (nd_sub nd (as' := [m]) [0] rfl rfl)  ?_)
  refine w_heq (hUs_in nd rfl [0] (cs2 := [(oC 10 (mF m 0 1 (-1) (nI tp) sz sp fa fl tk ta sg nu wd (nI P.1) (nI P.2.1) rl rw ht sd ah cl))]) rfl rfl) ?_
  refine w_ireturn rfl dX10_sweep_28 (Nat.le_of_ble_eq_true rfl) (Nat.le_of_ble_eq_true rfl) ?_
  have e : oSw P l u1 u2 m9 y = ((-1000000000), 1) := by
    simp [oSw, ixN_n hl hnL]
  rw [e] at k
  exact k _ (mI_i (cI_put hW (mAs_nd m) rfl [0] (cs2 := [(oC 10 (mF m 0 1 (-1) (nI tp) sz sp fa fl tk ta sg nu wd (nI P.1) (nI P.2.1) rl rw ht sd ah cl)), (aI 600 gt), (aL 8 ln), (aL 8 wn), (aI 8 fs), (aI 24 ff), (aI 8 fb), (aI 8 fn), (aI 8 fp), (aZ 8 f3), (aI 64 fk), (aI 64 fx), (aI 64 fy), (aI 64 fc), (aI 11 fr), (aI 11 f1), (aI 11 f2), (aI 22 fi), (aB 4096 fo), (aB 8192 fq), (aZ 2 fh), (aI 2 fj), (aI 4096 fw), (aI 2100 fz)]) rfl rfl) hT hPm hG hRm hm0 hm1 hsd hht htp) (mFr_of (by intro a ha; simp only [List.mem_cons, List.not_mem_nil, or_false] at ha; omega))
theorem q_sweep {G : wG} {d : Nat} {h : hH} {Q : Option Value → hH → Prop} {m : Nat} {ft : Nat → Int32} {tp : Nat} {P : pD} {ht : Int32} {R : Option rnD} {i0 i1 : imD} {sd fa pl tr : Int32} {th : Int32} {l u1 u2 m9 y : Int32} (hI : mI h m ft tp P ht R i0 i1 sd fa pl tr th) (k : ∀ h2, mI h2 m ft tp P ht R i0 i1 sd fa (-1) (oSw P l u1 u2 m9 y).2 0 → mFr m h h2 → Q (some (.int (oSw P l u1 u2 m9 y).1)) h2) : Cl G yX10_sweep (d + 3) 0 0 [.ref m, .int l, .int u1, .int u2, .int m9, .int y] h Q := by
  by_cases hl : ∃ j, j < P.1 ∧ l = nI j
  · obtain ⟨j, hj, rfl⟩ := hl
    exact q_sweep_s hI hj k
  · exact q_sweep_n hI hl k
