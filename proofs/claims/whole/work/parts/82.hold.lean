theorem mPl_cp {P : pD} {ln wn : Nat → Int64} {fs ff fb fn fp f3 fk fx fy fc : Nat → Int32} {g2 g3 : Nat → Int64} {g4 g5 g6 g7 g8 g9 g10 g11 g12 g13 : Nat → Int32} (g : pGd P) (p : mPl P 4 ln wn fs ff fb fn fp f3 fk fx fy fc) (c2 : cpH 4 4 id ln g2) (c3 : cpH 4 4 id wn g3) (c4 : cpH 4 4 id fs g4) (c5 : cpH 12 12 id ff g5) (c6 : cpH 4 4 id fb g6) (c7 : cpH 4 4 id fn g7) (c8 : cpH 4 4 id fp g8) (c9 : cpH 4 4 (vp_nar .boolean) f3 g9) (c10 : cpH 32 32 id fk g10) (c11 : cpH 32 32 id fx g11) (c12 : cpH 32 32 id fy g12) (c13 : cpH 32 32 id fc g13) : mPl P 0 g2 g3 g4 g5 g6 g7 g8 g9 g10 g11 g12 g13 := by
  refine ⟨fun j hj => ?_, fun j hj => ?_⟩
  · obtain ⟨q1, q2, q3, q4, q5, q6⟩ := p.1 j hj
    obtain ⟨l1, l2, _, _, _, l6, _⟩ := g.1 j hj
    have hj4 : j < 4 := Nat.lt_of_lt_of_le hj g.2.2.1
    rw [Nat.zero_add]
    refine ⟨(c4.1 j hj4).trans q1, fun s hs => ?_, (c6.1 j hj4).trans q3, (c7.1 j hj4).trans q4, ?_, (c2.1 j hj4).trans q6⟩
    · have r := c5.1 (3 * j + s) (by omega)
      rw [show 12 + (3 * j + s) = 3 * (4 + j) + s by omega] at r
      exact r.trans (q2 s hs)
    · rw [c9.1 j hj4, q5]
      rcases l6 with e | e <;> rw [e] <;> rfl
  · obtain ⟨q1, q2, q3⟩ := p.2 j hj
    have l2 := (g.2.1 j hj).1.2.1
    have hj4 : j < 4 := Nat.lt_of_lt_of_le hj g.2.2.2
    rw [Nat.zero_add]
    refine ⟨(c8.1 j hj4).trans q1, fun s hs => ?_, (c3.1 j hj4).trans q3⟩
    obtain ⟨r1, r2, r3, r4⟩ := q2 s hs
    have a1 := c10.1 (8 * j + s) (by omega)
    have a2 := c11.1 (8 * j + s) (by omega)
    have a3 := c12.1 (8 * j + s) (by omega)
    have a4 := c13.1 (8 * j + s) (by omega)
    rw [show 32 + (8 * j + s) = 8 * (4 + j) + s by omega] at a1 a2 a3 a4
    exact ⟨a1.trans r1, a2.trans r2, a4.trans r3, fun z => a3.trans (r4 z)⟩
set_option maxRecDepth 100000 in
set_option maxHeartbeats 4000000 in
theorem m_holds {G : wG} {d : Nat} {h : hH} {Q : Option Value → hH → Prop} {m : Nat} {th tr wa tp sz sp fa fl tk ta sg nu : Int32} {wd : Int64} {lo wv rl rw ht sd ah cl : Int32} {ln : Nat → Int64} {wn : Nat → Int64} {fs : Nat → Int32} {ff : Nat → Int32} {fb : Nat → Int32} {fn : Nat → Int32} {fp : Nat → Int32} {f3 : Nat → Int32} {fk : Nat → Int32} {fx : Nat → Int32} {fy : Nat → Int32} {fc : Nat → Int32} {fr : Nat → Int32} {fh : Nat → Int32} (hw : hHas h [m, m + 2, m + 3, m + 4, m + 5, m + 6, m + 7, m + 8, m + 9, m + 10, m + 11, m + 12, m + 13, m + 14, m + 20] [(oC 10 (mF m th tr wa tp sz sp fa fl tk ta sg nu wd lo wv rl rw ht sd ah cl)), (aL 8 ln), (aL 8 wn), (aI 8 fs), (aI 24 ff), (aI 8 fb), (aI 8 fn), (aI 8 fp), (aZ 8 f3), (aI 64 fk), (aI 64 fx), (aI 64 fy), (aI 64 fc), (aI 11 fr), (aZ 2 fh)]) (nd : [m, m + 2, m + 3, m + 4, m + 5, m + 6, m + 7, m + 8, m + 9, m + 10, m + 11, m + 12, m + 13, m + 14, m + 20].Nodup) (k : ∀ (g2 g3 : Nat → Int64) (g4 g5 g6 g7 g8 g9 g10 g11 g12 g13 : Nat → Int32), cpH 4 4 id ln g2 → cpH 4 4 id wn g3 → cpH 4 4 id fs g4 → cpH 12 12 id ff g5 → cpH 4 4 id fb g6 → cpH 4 4 id fn g7 → cpH 4 4 id fp g8 → cpH 4 4 (vp_nar .boolean) f3 g9 → cpH 32 32 id fk g10 → cpH 32 32 id fx g11 → cpH 32 32 id fy g12 → cpH 32 32 id fc g13 → Q none (hUs h [m, m + 2, m + 3, m + 4, m + 5, m + 6, m + 7, m + 8, m + 9, m + 10, m + 11, m + 12, m + 13, m + 14, m + 20] [(oC 10 (mF m th tr wa tp sz sp fa fl tk ta sg nu wd rl rw rl rw 1 sd ah cl)), (aL 8 g2), (aL 8 g3), (aI 8 g4), (aI 24 g5), (aI 8 g6), (aI 8 g7), (aI 8 g8), (aZ 8 g9), (aI 64 g10), (aI 64 g11), (aI 64 g12), (aI 64 g13), (aI 11 (upd fr 0 (-1))), (aZ 2 (upd (upd fh 0 (vp_nar .boolean 0)) 1 (vp_nar .boolean 0)))])) : Cl G yX10_holds d 0 0 [.ref m] h Q := by
  refine Cl.of (ini := false) kX10_holds (plainFor_of_name (by decide)) (by decide) (Nat.le_of_ble_eq_true rfl) rfl rfl (fun z => by cases z) ?_
  refine w_heq (hUs_id hw).symm ?_
  refine w_aload_n dX10_holds_0 rfl ?_
  refine w_aload_n dX10_holds_1 rfl ?_
  refine w_get (v := .int rl) fX10_199 (hUs_at nd 0 rfl rfl) rfl dX10_holds_2 ?_
  refine w_put (fs' := (mF m th tr wa tp sz sp fa fl tk ta sg nu wd rl wv rl rw ht sd ah cl)) fX10_238 (hUs_at nd 0 rfl rfl) rfl rfl (Nat.le_of_ble_eq_true rfl) rfl dX10_holds_5 ?_
  refine w_heq (hUs_set nd rfl 0 (cs' := [(oC 10 (mF m th tr wa tp sz sp fa fl tk ta sg nu wd rl wv rl rw ht sd ah cl)), (aL 8 ln), (aL 8 wn), (aI 8 fs), (aI 24 ff), (aI 8 fb), (aI 8 fn), (aI 8 fp), (aZ 8 f3), (aI 64 fk), (aI 64 fx), (aI 64 fy), (aI 64 fc), (aI 11 fr), (aZ 2 fh)]) rfl rfl) ?_
  refine w_aload_n dX10_holds_8 rfl ?_
  refine w_aload_n dX10_holds_9 rfl ?_
  refine w_get (v := .int rw) fX10_202 (hUs_at nd 0 rfl rfl) rfl dX10_holds_10 ?_
  refine w_put (fs' := (mF m th tr wa tp sz sp fa fl tk ta sg nu wd rl rw rl rw ht sd ah cl)) fX10_244 (hUs_at nd 0 rfl rfl) rfl rfl (Nat.le_of_ble_eq_true rfl) rfl dX10_holds_13 ?_
  refine w_heq (hUs_set nd rfl 0 (cs' := [(oC 10 (mF m th tr wa tp sz sp fa fl tk ta sg nu wd rl rw rl rw ht sd ah cl)), (aL 8 ln), (aL 8 wn), (aI 8 fs), (aI 24 ff), (aI 8 fb), (aI 8 fn), (aI 8 fp), (aZ 8 f3), (aI 64 fk), (aI 64 fx), (aI 64 fy), (aI 64 fc), (aI 11 fr), (aZ 2 fh)]) rfl rfl) ?_
  refine w_iconst (v := 0) dX10_holds_16 (by decide) ?_
  refine w_istore_n (ls2 := [some (.ref m), some (.int 0)]) dX10_holds_17 (by decide) rfl rfl ?_
  refine l_hd1 nd (fun g2 g3 g4 g6 g7 g9 g8 c2 c3 c4 c6 c7 c9 c8 => ?_) 4 0 ln wn fs fb fn f3 fp rfl cpH_0 cpH_0 cpH_0 cpH_0 cpH_0 cpH_0 cpH_0
  refine w_iconst (v := 0) dX10_holds_127 (by decide) ?_
  refine w_istore_n (ls2 := [some (.ref m), some (.int 0)]) dX10_holds_128 (by decide) rfl rfl ?_
  refine l_hd2 nd (fun g5 c5 => ?_) 12 0 ff rfl cpH_0
  refine w_iconst (v := 0) dX10_holds_156 (by decide) ?_
  refine w_istore_n (ls2 := [some (.ref m), some (.int 0)]) dX10_holds_157 (by decide) rfl rfl ?_
  refine l_hd3 nd (fun g10 g11 g12 g13 c10 c11 c12 c13 => ?_) 32 0 fk fx fy fc rfl cpH_0 cpH_0 cpH_0 cpH_0
  refine w_aload_n dX10_holds_230 rfl ?_
  refine w_iconst (v := 1) dX10_holds_231 (by decide) ?_
  refine w_put (fs' := (mF m th tr wa tp sz sp fa fl tk ta sg nu wd rl rw rl rw 1 sd ah cl)) fX10_247 (hUs_at nd 0 rfl rfl) rfl rfl (Nat.le_of_ble_eq_true rfl) rfl dX10_holds_232 ?_
  refine w_heq (hUs_set nd rfl 0 (cs' := [(oC 10 (mF m th tr wa tp sz sp fa fl tk ta sg nu wd rl rw rl rw 1 sd ah cl)), (aL 8 g2), (aL 8 g3), (aI 8 g4), (aI 24 g5), (aI 8 g6), (aI 8 g7), (aI 8 g8), (aZ 8 g9), (aI 64 g10), (aI 64 g11), (aI 64 g12), (aI 64 g13), (aI 11 fr), (aZ 2 fh)]) rfl rfl) ?_
  refine w_aload_n dX10_holds_235 rfl ?_
  refine w_get (v := .ref (m + 14)) fX10_55 (hUs_at nd 0 rfl rfl) rfl dX10_holds_236 ?_
  refine w_iconst (v := (nI 0)) dX10_holds_239 (by decide) ?_
  refine w_iconst (v := (-1)) dX10_holds_240 (by decide) ?_
  refine w_iastoreN (hUs_at nd 13 rfl rfl) (by omega) (by omega) dX10_holds_241 ?_
  refine w_heq (hUs_set nd rfl 13 (cs' := [(oC 10 (mF m th tr wa tp sz sp fa fl tk ta sg nu wd rl rw rl rw 1 sd ah cl)), (aL 8 g2), (aL 8 g3), (aI 8 g4), (aI 24 g5), (aI 8 g6), (aI 8 g7), (aI 8 g8), (aZ 8 g9), (aI 64 g10), (aI 64 g11), (aI 64 g12), (aI 64 g13), (aI 11 (upd fr 0 (-1))), (aZ 2 fh)]) rfl rfl) ?_
  refine w_aload_n dX10_holds_242 rfl ?_
  refine w_get (v := .ref (m + 20)) fX10_74 (hUs_at nd 0 rfl rfl) rfl dX10_holds_243 ?_
  refine w_iconst (v := (nI 0)) dX10_holds_246 (by decide) ?_
  refine w_iconst (v := 0) dX10_holds_247 (by decide) ?_
  refine w_zastoreN (hUs_at nd 14 rfl rfl) (by omega) (by omega) dX10_holds_248 ?_
  refine w_heq (hUs_set nd rfl 14 (cs' := [(oC 10 (mF m th tr wa tp sz sp fa fl tk ta sg nu wd rl rw rl rw 1 sd ah cl)), (aL 8 g2), (aL 8 g3), (aI 8 g4), (aI 24 g5), (aI 8 g6), (aI 8 g7), (aI 8 g8), (aZ 8 g9), (aI 64 g10), (aI 64 g11), (aI 64 g12), (aI 64 g13), (aI 11 (upd fr 0 (-1))), (aZ 2 (upd fh 0 (vp_nar .boolean 0)))]) rfl rfl) ?_
  refine w_aload_n dX10_holds_249 rfl ?_
  refine w_get (v := .ref (m + 20)) fX10_74 (hUs_at nd 0 rfl rfl) rfl dX10_holds_250 ?_
  refine w_iconst (v := (nI 1)) dX10_holds_253 (by decide) ?_
  refine w_iconst (v := 0) dX10_holds_254 (by decide) ?_
  refine w_zastoreN (hUs_at nd 14 rfl rfl) (by omega) (by omega) dX10_holds_255 ?_
  refine w_heq (hUs_set nd rfl 14 (cs' := [(oC 10 (mF m th tr wa tp sz sp fa fl tk ta sg nu wd rl rw rl rw 1 sd ah cl)), (aL 8 g2), (aL 8 g3), (aI 8 g4), (aI 24 g5), (aI 8 g6), (aI 8 g7), (aI 8 g8), (aZ 8 g9), (aI 64 g10), (aI 64 g11), (aI 64 g12), (aI 64 g13), (aI 11 (upd fr 0 (-1))), (aZ 2 (upd (upd fh 0 (vp_nar .boolean 0)) 1 (vp_nar .boolean 0)))]) rfl rfl) ?_
  refine w_return rfl dX10_holds_256 (Nat.le_of_ble_eq_true rfl) (Nat.le_of_ble_eq_true rfl) ?_
  exact k _ _ _ _ _ _ _ _ _ _ _ _ c2 c3 c4 c5 c6 c7 c8 c9 c10 c11 c12 c13
