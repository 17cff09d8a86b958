def rcS (t : Int32 × rD) : pS := if t.1 = 0 then .inr (t.2.2.2.2.2.2.2.1, t.2.2.2.2.2.2.2.2) else .inl t.2
def ndS (ft : Nat → Int32) (bs : List Int32) (n : Nat) (s : pS) : pS := if isS s bs n = 0 then gS ft (flS 1 s) else gS ft s
def psS (ft : Nat → Int32) (bs : List Int32) (n : Nat) (s : pS) : pS := if isS s bs n = 0 then s else gS ft s
def rwS (ft : Nat → Int32) (lo hi : Int32) (s : pS) : pS := match s with
  | .inl x => rcS (rTN1 ft lo hi 0 x)
  | .inr b => .inr b
def riS (ft : Nat → Int32) (s : pS) : pS := match s with
  | .inl x => rcS (rTN ft (-1000) 1000 x)
  | .inr b => .inr b
def tkS (s : pS) (v : Int32) : Prop := ∀ y, s = .inl y → v = y.2.2.2.2.2.1
theorem rTok_t9 (ft : Nat → Int32) (E a : Nat) (vl tk fl pl v : Int32) : rTok ft E a vl v fl pl = rTk (rTok ft E a vl tk fl pl) v := by
  unfold rTok
  split
  · split
    · rfl
    · split <;> rfl
  · rfl
theorem rStp_t9 (ft : Nat → Int32) (x : rD) (v : Int32) : rStp ft (rTk x v) = rTk (rStp ft x) v := rTok_t9 ft x.1 _ _ _ _ _ v
theorem pR_tk {x : rD} {v : Int32} {E : Nat} {sp fa fl tk ta sg nu : Int32} {wd : Int64} (h : pR (.inl x) E sp fa fl tk ta sg nu wd) : pR (.inl (rTk x v)) E sp fa fl tk ta sg nu wd := h
theorem rTN1_w {ft : Nat → Int32} {lo hi : Int32} {x : rD} (e : x.2.2.1 = 2) : rTN1 ft lo hi 0 x = if x.2.2.2.2.1 < lo ∨ hi < x.2.2.2.2.1 then (0, rFl (rTk x x.2.2.2.2.1) 2 (nI x.2.2.2.1)) else (1, rStp ft (rTk x x.2.2.2.2.1)) := by
  rw [rTN1, if_pos e]
  rfl
theorem ndS_l (ft : Nat → Int32) (bs : List Int32) (n : Nat) (x : rD) : ndS ft bs n (.inl x) = rcS (rTW ft bs n x) := by
  unfold ndS rTW
  show (if isW x.2.2.1 x.2.2.2.2.1 bs n = 0 then _ else _) = _
  by_cases e : isW x.2.2.1 x.2.2.2.2.1 bs n = 0
  · rw [if_pos e, if_pos e]; rfl
  · rw [if_neg e, if_neg e]; rfl
theorem ndS_r (ft : Nat → Int32) (bs : List Int32) (n : Nat) (b : Int32 × Int32) : ndS ft bs n (.inr b) = .inr b := rfl
theorem psS_r (ft : Nat → Int32) (bs : List Int32) (n : Nat) (b : Int32 × Int32) : psS ft bs n (.inr b) = .inr b := rfl
set_option maxRecDepth 100000 in
set_option maxHeartbeats 4000000 in
theorem m_needs {G : wG} {d : Nat} {h : hH} {Q : Option Value → hH → Prop} {i : Nat} {r : String × Nat × String × Nat × List Int32} {m : Nat} {th tr wa tp sp fa fl tk ta sg nu : Int32} {wd : Int64} {lo wv rl rw ht sd ah cl : Int32} {ft gt : Nat → Int32} {E : Nat} {s : pS} (hw : hHas h [m, m + 1] [(oC 10 (mF m th tr wa tp (nI E) sp fa fl tk ta sg nu wd lo wv rl rw ht sd ah cl)), (aI 600 gt)]) (nd : [m, m + 1].Nodup) (hr : wSL[i]? = some r) (hE : E ≤ 600) (hT : mT E ft gt) (hp : pR s E sp fa fl tk ta sg nu wd) (k : ∀ (sp fa fl tk ta sg nu : Int32) (wd : Int64), pR (ndS ft r.2.2.2.2 r.2.2.2.1 s) E sp fa fl tk ta sg nu wd → Q none (hUs h [m, m + 1] [(oC 10 (mF m th tr wa tp (nI E) sp fa fl tk ta sg nu wd lo wv rl rw ht sd ah cl)), (aI 600 gt)])) : Cl G yX10_needs (d + 8) 0 0 [.ref m, .ref (G.2.2.1 i)] h Q := by
  refine Cl.of (ini := false) kX10_needs (plainFor_of_name (by decide)) (by decide) (Nat.le_of_ble_eq_true rfl) rfl rfl (fun z => by cases z) ?_
  refine w_heq (hUs_id hw).symm ?_
  refine w_aload_n dX10_needs_0 rfl ?_
  refine w_aload_n dX10_needs_1 rfl ?_
  refine w_callV (ci := 10) (d' := d + 7) (mc' := 0) (ms' := 0) (As := [.ref (G.2.2.1 i)]) (st := []) lX10_156 vX10_isWord rfl (hUs_at nd 0 rfl rfl) rfl (Nat.le_of_ble_eq_true rfl) dX10_needs_2 (Nat.le_of_ble_eq_true rfl) (Nat.le_of_ble_eq_true rfl) (Nat.le_refl _) (m_isWord (s := s) hr (hHas_sub nd (as' := [m]) (cs' := [(oC 10 (mF m th tr wa tp (nI E) sp fa fl tk ta sg nu wd lo wv rl rw ht sd ah cl))]) [0] rfl rfl) hp ?_)
  refine w_if_ne (tgt := 13) dX10_needs_5 rfl (fun b5 => ?_) (fun b5 => ?_)
  · refine w_aload_n dX10_needs_13 rfl ?_
    refine w_callV (ci := 10) (d' := d + 7) (mc' := 0) (ms' := 0) (As := []) (st := []) lX10_164 vX10_goOn rfl (hUs_at nd 0 rfl rfl) rfl (Nat.le_of_ble_eq_true rfl) dX10_needs_14 (Nat.le_of_ble_eq_true rfl) (Nat.le_of_ble_eq_true rfl) (Nat.le_refl _) (m_goOn (s := s) (hHas_sub nd (as' := [m, m + 1]) (cs' := [(oC 10 (mF m th tr wa tp (nI E) sp fa fl tk ta sg nu wd lo wv rl rw ht sd ah cl)), (aI 600 gt)]) [0, 1] rfl rfl) (nd_sub nd (as' := [m, m + 1]) [0, 1] rfl rfl) hE hT hp (fun sp1 fa1 fl1 tk1 ta1 sg1 nu1 wd1 hp1 => ?_))
    refine w_heq (hUs_in nd rfl [0, 1] (cs2 := [(oC 10 (mF m th tr wa tp (nI E) sp1 fa1 fl1 tk1 ta1 sg1 nu1 wd1 lo wv rl rw ht sd ah cl)), (aI 600 gt)]) rfl rfl) ?_
    refine w_return rfl dX10_needs_17 (Nat.le_of_ble_eq_true rfl) (Nat.le_of_ble_eq_true rfl) ?_
    have e9 : ndS ft r.2.2.2.2 r.2.2.2.1 s = (gS ft s) := if_neg b5
    rw [e9] at k
    exact k _ _ _ _ _ _ _ _ hp1
  · refine w_aload_n dX10_needs_8 rfl ?_
    refine w_iconst (v := 1) dX10_needs_9 (by decide) ?_
    refine w_callV (ci := 10) (d' := d + 7) (mc' := 0) (ms' := 0) (As := [.int 1]) (st := []) lX10_160 vX10_flaw rfl (hUs_at nd 0 rfl rfl) rfl (Nat.le_of_ble_eq_true rfl) dX10_needs_10 (Nat.le_of_ble_eq_true rfl) (Nat.le_of_ble_eq_true rfl) (Nat.le_refl _) (m_flaw (s := s) (hHas_sub nd (as' := [m]) (cs' := [(oC 10 (mF m th tr wa tp (nI E) sp fa fl tk ta sg nu wd lo wv rl rw ht sd ah cl))]) [0] rfl rfl) (nd_sub nd (as' := [m]) [0] rfl rfl) (by decide) hp (fun fa1 fl1 hp1 => ?_))
    refine w_heq (hUs_in nd rfl [0] (cs2 := [(oC 10 (mF m th tr wa tp (nI E) sp fa1 fl1 tk ta sg nu wd lo wv rl rw ht sd ah cl)), (aI 600 gt)]) rfl rfl) ?_
    refine w_aload_n dX10_needs_13 rfl ?_
    refine w_callV (ci := 10) (d' := d + 7) (mc' := 0) (ms' := 0) (As := []) (st := []) lX10_164 vX10_goOn rfl (hUs_at nd 0 rfl rfl) rfl (Nat.le_of_ble_eq_true rfl) dX10_needs_14 (Nat.le_of_ble_eq_true rfl) (Nat.le_of_ble_eq_true rfl) (Nat.le_refl _) (m_goOn (s := (flS 1 s)) (hHas_sub nd (as' := [m, m + 1]) (cs' := [(oC 10 (mF m th tr wa tp (nI E) sp fa1 fl1 tk ta sg nu wd lo wv rl rw ht sd ah cl)), (aI 600 gt)]) [0, 1] rfl rfl) (nd_sub nd (as' := [m, m + 1]) [0, 1] rfl rfl) hE hT hp1 (fun sp2 fa2 fl2 tk2 ta2 sg2 nu2 wd2 hp2 => ?_))
    refine w_heq (hUs_in nd rfl [0, 1] (cs2 := [(oC 10 (mF m th tr wa tp (nI E) sp2 fa2 fl2 tk2 ta2 sg2 nu2 wd2 lo wv rl rw ht sd ah cl)), (aI 600 gt)]) rfl rfl) ?_
    refine w_return rfl dX10_needs_17 (Nat.le_of_ble_eq_true rfl) (Nat.le_of_ble_eq_true rfl) ?_
    have e9 : ndS ft r.2.2.2.2 r.2.2.2.1 s = (gS ft (flS 1 s)) := if_pos b5
    rw [e9] at k
    exact k _ _ _ _ _ _ _ _ hp2
theorem isS_01 (s : pS) (bs : List Int32) (n : Nat) : isS s bs n = 0 ∨ isS s bs n = 1 := by
  cases s with
  | inl x => unfold isS isW; simp only; split; exact Or.inr rfl; exact Or.inl rfl
  | inr b => exact Or.inl rfl
set_option maxRecDepth 100000 in
set_option maxHeartbeats 4000000 in
theorem m_passes {G : wG} {d : Nat} {h : hH} {Q : Option Value → hH → Prop} {i : Nat} {r : String × Nat × String × Nat × List Int32} {m : Nat} {th tr wa tp sp fa fl tk ta sg nu : Int32} {wd : Int64} {lo wv rl rw ht sd ah cl : Int32} {ft gt : Nat → Int32} {E : Nat} {s : pS} (hw : hHas h [m, m + 1] [(oC 10 (mF m th tr wa tp (nI E) sp fa fl tk ta sg nu wd lo wv rl rw ht sd ah cl)), (aI 600 gt)]) (nd : [m, m + 1].Nodup) (hr : wSL[i]? = some r) (hE : E ≤ 600) (hT : mT E ft gt) (hp : pR s E sp fa fl tk ta sg nu wd) (k : ∀ (sp fa fl tk ta sg nu : Int32) (wd : Int64), pR (psS ft r.2.2.2.2 r.2.2.2.1 s) E sp fa fl tk ta sg nu wd → Q (some (.int (isS s r.2.2.2.2 r.2.2.2.1))) (hUs h [m, m + 1] [(oC 10 (mF m th tr wa tp (nI E) sp fa fl tk ta sg nu wd lo wv rl rw ht sd ah cl)), (aI 600 gt)])) : Cl G yX10_passes (d + 8) 0 0 [.ref m, .ref (G.2.2.1 i)] h Q := by
  refine Cl.of (ini := false) kX10_passes (plainFor_of_name (by decide)) (by decide) (Nat.le_of_ble_eq_true rfl) rfl rfl (fun z => by cases z) ?_
  refine w_heq (hUs_id hw).symm ?_
  refine w_aload_n dX10_passes_0 rfl ?_
  refine w_aload_n dX10_passes_1 rfl ?_
  refine w_callV (ci := 10) (d' := d + 7) (mc' := 0) (ms' := 0) (As := [.ref (G.2.2.1 i)]) (st := []) lX10_156 vX10_isWord rfl (hUs_at nd 0 rfl rfl) rfl (Nat.le_of_ble_eq_true rfl) dX10_passes_2 (Nat.le_of_ble_eq_true rfl) (Nat.le_of_ble_eq_true rfl) (Nat.le_refl _) (m_isWord (s := s) hr (hHas_sub nd (as' := [m]) (cs' := [(oC 10 (mF m th tr wa tp (nI E) sp fa fl tk ta sg nu wd lo wv rl rw ht sd ah cl))]) [0] rfl rfl) hp ?_)
  refine w_if_ne (tgt := 10) dX10_passes_5 rfl (fun b5 => ?_) (fun b5 => ?_)
  · refine w_aload_n dX10_passes_10 rfl ?_
    refine w_callV (ci := 10) (d' := d + 7) (mc' := 0) (ms' := 0) (As := []) (st := []) lX10_164 vX10_goOn rfl (hUs_at nd 0 rfl rfl) rfl (Nat.le_of_ble_eq_true rfl) dX10_passes_11 (Nat.le_of_ble_eq_true rfl) (Nat.le_of_ble_eq_true rfl) (Nat.le_refl _) (m_goOn (s := s) (hHas_sub nd (as' := [m, m + 1]) (cs' := [(oC 10 (mF m th tr wa tp (nI E) sp fa fl tk ta sg nu wd lo wv rl rw ht sd ah cl)), (aI 600 gt)]) [0, 1] rfl rfl) (nd_sub nd (as' := [m, m + 1]) [0, 1] rfl rfl) hE hT hp (fun sp1 fa1 fl1 tk1 ta1 sg1 nu1 wd1 hp1 => ?_))
    refine w_heq (hUs_in nd rfl [0, 1] (cs2 := [(oC 10 (mF m th tr wa tp (nI E) sp1 fa1 fl1 tk1 ta1 sg1 nu1 wd1 lo wv rl rw ht sd ah cl)), (aI 600 gt)]) rfl rfl) ?_
    refine w_iconst (v := 1) dX10_passes_14 (by decide) ?_
    refine w_zreturn rfl dX10_passes_15 rfl (Nat.le_of_ble_eq_true rfl) (Nat.le_of_ble_eq_true rfl) ?_
    have e9 : psS ft r.2.2.2.2 r.2.2.2.1 s = (gS ft s) := if_neg b5
    have e8 := (isS_01 s r.2.2.2.2 r.2.2.2.1).resolve_left b5
    rw [e9, e8] at k
    exact k _ _ _ _ _ _ _ _ hp1
  · refine w_iconst (v := 0) dX10_passes_8 (by decide) ?_
    refine w_zreturn rfl dX10_passes_9 rfl (Nat.le_of_ble_eq_true rfl) (Nat.le_of_ble_eq_true rfl) ?_
    have e9 : psS ft r.2.2.2.2 r.2.2.2.1 s = s := if_pos b5
    rw [e9, b5] at k
    exact k _ _ _ _ _ _ _ _ hp
def owS (s : pS) : Int32 := if ¬ isS s [108, 111, 111, 112] 4 = 0 then 1 else if ¬ isS s [119, 97, 118, 101] 4 = 0 then 1 else if ¬ isS s [98, 121] 2 = 0 then 1 else if ¬ isS s [98, 111, 117, 110, 100] 5 = 0 then 1 else if ¬ isS s [116, 104, 114, 101, 101] 5 = 0 then 1 else if ¬ isS s [110, 111, 105, 115, 101] 5 = 0 then 1 else if ¬ isS s [104, 111, 108, 100] 4 = 0 then 1 else if ¬ isS s [114, 97, 109, 112] 4 = 0 then 1 else if ¬ isS s [115, 119, 105, 110, 103] 5 = 0 then 1 else if ¬ isS s [116, 111] 2 = 0 then 1 else if ¬ isS s [101, 118, 101, 114, 121] 5 = 0 then 1 else if ¬ isS s [102, 111, 114] 3 = 0 then 1 else 0
set_option maxRecDepth 100000 in
set_option maxHeartbeats 4000000 in
theorem m_isOwn {G : wG} {d : Nat} {h : hH} {Q : Option Value → hH → Prop} {m : Nat} {th tr wa tp sp fa fl tk ta sg nu : Int32} {wd : Int64} {lo wv rl rw ht sd ah cl : Int32} {E : Nat} {s : pS} (hw : hHas h [m] [(oC 10 (mF m th tr wa tp (nI E) sp fa fl tk ta sg nu wd lo wv rl rw ht sd ah cl))]) (hp : pR s E sp fa fl tk ta sg nu wd) (k : Q (some (.int (owS s))) h) : Cl G yX10_isOwn (d + 8) 0 0 [.ref m] h Q := by
  refine Cl.of (ini := false) kX10_isOwn (plainFor_of_name (by decide)) (by decide) (Nat.le_of_ble_eq_true rfl) rfl rfl (fun z => by cases z) ?_
  refine w_aload_n dX10_isOwn_0 rfl ?_
  refine w_ldcS (i := 12) rfl rfl rfl dX10_isOwn_1 ?_
  refine w_callV (ci := 10) (d' := d + 7) (mc' := 0) (ms' := 0) (As := [.ref (G.2.2.1 12)]) (st := []) lX10_156 vX10_isWord rfl (hw 0 _ _ rfl rfl) rfl (Nat.le_of_ble_eq_true rfl) dX10_isOwn_3 (Nat.le_of_ble_eq_true rfl) (Nat.le_of_ble_eq_true rfl) (Nat.le_refl _) (m_isWord (i := 12) (s := s) rfl (hHas_s hw (as' := [m]) (cs' := [(oC 10 (mF m th tr wa tp (nI E) sp fa fl tk ta sg nu wd lo wv rl rw ht sd ah cl))]) [0] rfl rfl) hp ?_)
  refine w_if_ne (tgt := 54) dX10_isOwn_6 rfl (fun b6 => ?_) (fun b6 => ?_)
  · refine w_iconst (v := 1) dX10_isOwn_54 (by decide) ?_
    refine w_goto (tgt := 59) dX10_isOwn_55 rfl ?_
    refine w_istore_n (ls2 := [some (.ref m), some (.int 1)]) dX10_isOwn_59 (by decide) rfl rfl ?_
    refine w_iload_n dX10_isOwn_60 rfl ?_
    refine w_if_ne_t (tgt := 118) dX10_isOwn_61 rfl (by decide) ?_
    refine w_iconst (v := 1) dX10_isOwn_118 (by decide) ?_
    refine w_goto (tgt := 123) dX10_isOwn_119 rfl ?_
    refine w_zreturn rfl dX10_isOwn_123 rfl (Nat.le_of_ble_eq_true rfl) (Nat.le_of_ble_eq_true rfl) ?_
    have e9 : owS s = 1 := by
      rw [owS, if_pos b6]
    rw [e9] at k
    exact k
  · refine w_aload_n dX10_isOwn_9 rfl ?_
    refine w_ldcS (i := 13) rfl rfl rfl dX10_isOwn_10 ?_
    refine w_callV (ci := 10) (d' := d + 7) (mc' := 0) (ms' := 0) (As := [.ref (G.2.2.1 13)]) (st := []) lX10_156 vX10_isWord rfl (hw 0 _ _ rfl rfl) rfl (Nat.le_of_ble_eq_true rfl) dX10_isOwn_12 (Nat.le_of_ble_eq_true rfl) (Nat.le_of_ble_eq_true rfl) (Nat.le_refl _) (m_isWord (i := 13) (s := s) rfl (hHas_s hw (as' := [m]) (cs' := [(oC 10 (mF m th tr wa tp (nI E) sp fa fl tk ta sg nu wd lo wv rl rw ht sd ah cl))]) [0] rfl rfl) hp ?_)
    refine w_if_ne (tgt := 54) dX10_isOwn_15 rfl (fun b15 => ?_) (fun b15 => ?_)
    · refine w_iconst (v := 1) dX10_isOwn_54 (by decide) ?_
      refine w_goto (tgt := 59) dX10_isOwn_55 rfl ?_
      refine w_istore_n (ls2 := [some (.ref m), some (.int 1)]) dX10_isOwn_59 (by decide) rfl rfl ?_
      refine w_iload_n dX10_isOwn_60 rfl ?_
      refine w_if_ne_t (tgt := 118) dX10_isOwn_61 rfl (by decide) ?_
      refine w_iconst (v := 1) dX10_isOwn_118 (by decide) ?_
      refine w_goto (tgt := 123) dX10_isOwn_119 rfl ?_
      refine w_zreturn rfl dX10_isOwn_123 rfl (Nat.le_of_ble_eq_true rfl) (Nat.le_of_ble_eq_true rfl) ?_
      have e9 : owS s = 1 := by
        rw [owS, if_neg (fun z => z b6), if_pos b15]
      rw [e9] at k
      exact k
    · refine w_aload_n dX10_isOwn_18 rfl ?_
      refine w_ldcS (i := 14) rfl rfl rfl dX10_isOwn_19 ?_
      refine w_callV (ci := 10) (d' := d + 7) (mc' := 0) (ms' := 0) (As := [.ref (G.2.2.1 14)]) (st := []) lX10_156 vX10_isWord rfl (hw 0 _ _ rfl rfl) rfl (Nat.le_of_ble_eq_true rfl) dX10_isOwn_21 (Nat.le_of_ble_eq_true rfl) (Nat.le_of_ble_eq_true rfl) (Nat.le_refl _) (m_isWord (i := 14) (s := s) rfl (hHas_s hw (as' := [m]) (cs' := [(oC 10 (mF m th tr wa tp (nI E) sp fa fl tk ta sg nu wd lo wv rl rw ht sd ah cl))]) [0] rfl rfl) hp ?_)
      refine w_if_ne (tgt := 54) dX10_isOwn_24 rfl (fun b24 => ?_) (fun b24 => ?_)
      · refine w_iconst (v := 1) dX10_isOwn_54 (by decide) ?_
        refine w_goto (tgt := 59) dX10_isOwn_55 rfl ?_
        refine w_istore_n (ls2 := [some (.ref m), some (.int 1)]) dX10_isOwn_59 (by decide) rfl rfl ?_
        refine w_iload_n dX10_isOwn_60 rfl ?_
        refine w_if_ne_t (tgt := 118) dX10_isOwn_61 rfl (by decide) ?_
        refine w_iconst (v := 1) dX10_isOwn_118 (by decide) ?_
        refine w_goto (tgt := 123) dX10_isOwn_119 rfl ?_
        refine w_zreturn rfl dX10_isOwn_123 rfl (Nat.le_of_ble_eq_true rfl) (Nat.le_of_ble_eq_true rfl) ?_
        have e9 : owS s = 1 := by
          rw [owS, if_neg (fun z => z b6), if_neg (fun z => z b15), if_pos b24]
        rw [e9] at k
        exact k
      · refine w_aload_n dX10_isOwn_27 rfl ?_
        refine w_ldcS (i := 15) rfl rfl rfl dX10_isOwn_28 ?_
        refine w_callV (ci := 10) (d' := d + 7) (mc' := 0) (ms' := 0) (As := [.ref (G.2.2.1 15)]) (st := []) lX10_156 vX10_isWord rfl (hw 0 _ _ rfl rfl) rfl (Nat.le_of_ble_eq_true rfl) dX10_isOwn_30 (Nat.le_of_ble_eq_true rfl) (Nat.le_of_ble_eq_true rfl) (Nat.le_refl _) (m_isWord (i := 15) (s := s) rfl (hHas_s hw (as' := [m]) (cs' := [(oC 10 (mF m th tr wa tp (nI E) sp fa fl tk ta sg nu wd lo wv rl rw ht sd ah cl))]) [0] rfl rfl) hp ?_)
        refine w_if_ne (tgt := 54) dX10_isOwn_33 rfl (fun b33 => ?_) (fun b33 => ?_)
        · refine w_iconst (v := 1) dX10_isOwn_54 (by decide) ?_
          refine w_goto (tgt := 59) dX10_isOwn_55 rfl ?_
          refine w_istore_n (ls2 := [some (.ref m), some (.int 1)]) dX10_isOwn_59 (by decide) rfl rfl ?_
          refine w_iload_n dX10_isOwn_60 rfl ?_
          refine w_if_ne_t (tgt := 118) dX10_isOwn_61 rfl (by decide) ?_
          refine w_iconst (v := 1) dX10_isOwn_118 (by decide) ?_
          refine w_goto (tgt := 123) dX10_isOwn_119 rfl ?_
          refine w_zreturn rfl dX10_isOwn_123 rfl (Nat.le_of_ble_eq_true rfl) (Nat.le_of_ble_eq_true rfl) ?_
          have e9 : owS s = 1 := by
            rw [owS, if_neg (fun z => z b6), if_neg (fun z => z b15), if_neg (fun z => z b24), if_pos b33]
          rw [e9] at k
          exact k
        · refine w_aload_n dX10_isOwn_36 rfl ?_
          refine w_ldcS (i := 16) rfl rfl rfl dX10_isOwn_37 ?_
          refine w_callV (ci := 10) (d' := d + 7) (mc' := 0) (ms' := 0) (As := [.ref (G.2.2.1 16)]) (st := []) lX10_156 vX10_isWord rfl (hw 0 _ _ rfl rfl) rfl (Nat.le_of_ble_eq_true rfl) dX10_isOwn_39 (Nat.le_of_ble_eq_true rfl) (Nat.le_of_ble_eq_true rfl) (Nat.le_refl _) (m_isWord (i := 16) (s := s) rfl (hHas_s hw (as' := [m]) (cs' := [(oC 10 (mF m th tr wa tp (nI E) sp fa fl tk ta sg nu wd lo wv rl rw ht sd ah cl))]) [0] rfl rfl) hp ?_)
          refine w_if_ne (tgt := 54) dX10_isOwn_42 rfl (fun b42 => ?_) (fun b42 => ?_)
          · refine w_iconst (v := 1) dX10_isOwn_54 (by decide) ?_
            refine w_goto (tgt := 59) dX10_isOwn_55 rfl ?_
            refine w_istore_n (ls2 := [some (.ref m), some (.int 1)]) dX10_isOwn_59 (by decide) rfl rfl ?_
            refine w_iload_n dX10_isOwn_60 rfl ?_
            refine w_if_ne_t (tgt := 118) dX10_isOwn_61 rfl (by decide) ?_
            refine w_iconst (v := 1) dX10_isOwn_118 (by decide) ?_
            refine w_goto (tgt := 123) dX10_isOwn_119 rfl ?_
            refine w_zreturn rfl dX10_isOwn_123 rfl (Nat.le_of_ble_eq_true rfl) (Nat.le_of_ble_eq_true rfl) ?_
            have e9 : owS s = 1 := by
              rw [owS, if_neg (fun z => z b6), if_neg (fun z => z b15), if_neg (fun z => z b24), if_neg (fun z => z b33), if_pos b42]
            rw [e9] at k
            exact k
          · refine w_aload_n dX10_isOwn_45 rfl ?_
            refine w_ldcS (i := 17) rfl rfl rfl dX10_isOwn_46 ?_
            refine w_callV (ci := 10) (d' := d + 7) (mc' := 0) (ms' := 0) (As := [.ref (G.2.2.1 17)]) (st := []) lX10_156 vX10_isWord rfl (hw 0 _ _ rfl rfl) rfl (Nat.le_of_ble_eq_true rfl) dX10_isOwn_48 (Nat.le_of_ble_eq_true rfl) (Nat.le_of_ble_eq_true rfl) (Nat.le_refl _) (m_isWord (i := 17) (s := s) rfl (hHas_s hw (as' := [m]) (cs' := [(oC 10 (mF m th tr wa tp (nI E) sp fa fl tk ta sg nu wd lo wv rl rw ht sd ah cl))]) [0] rfl rfl) hp ?_)
            refine w_if_eq (tgt := 58) dX10_isOwn_51 rfl (fun b51 => ?_) (fun b51 => ?_)
            · refine w_iconst (v := 0) dX10_isOwn_58 (by decide) ?_
              refine w_istore_n (ls2 := [some (.ref m), some (.int 0)]) dX10_isOwn_59 (by decide) rfl rfl ?_
              refine w_iload_n dX10_isOwn_60 rfl ?_
              refine w_if_ne_f (tgt := 118) dX10_isOwn_61 rfl (by decide) ?_
              refine w_aload_n dX10_isOwn_64 rfl ?_
              refine w_ldcS (i := 18) rfl rfl rfl dX10_isOwn_65 ?_
              refine w_callV (ci := 10) (d' := d + 7) (mc' := 0) (ms' := 0) (As := [.ref (G.2.2.1 18)]) (st := []) lX10_156 vX10_isWord rfl (hw 0 _ _ rfl rfl) rfl (Nat.le_of_ble_eq_true rfl) dX10_isOwn_67 (Nat.le_of_ble_eq_true rfl) (Nat.le_of_ble_eq_true rfl) (Nat.le_refl _) (m_isWord (i := 18) (s := s) rfl (hHas_s hw (as' := [m]) (cs' := [(oC 10 (mF m th tr wa tp (nI E) sp fa fl tk ta sg nu wd lo wv rl rw ht sd ah cl))]) [0] rfl rfl) hp ?_)
              refine w_if_ne (tgt := 118) dX10_isOwn_70 rfl (fun b70 => ?_) (fun b70 => ?_)
              · refine w_iconst (v := 1) dX10_isOwn_118 (by decide) ?_
                refine w_goto (tgt := 123) dX10_isOwn_119 rfl ?_
                refine w_zreturn rfl dX10_isOwn_123 rfl (Nat.le_of_ble_eq_true rfl) (Nat.le_of_ble_eq_true rfl) ?_
                have e9 : owS s = 1 := by
                  rw [owS, if_neg (fun z => z b6), if_neg (fun z => z b15), if_neg (fun z => z b24), if_neg (fun z => z b33), if_neg (fun z => z b42), if_neg (fun z => z b51), if_pos b70]
                rw [e9] at k
                exact k
              · refine w_aload_n dX10_isOwn_73 rfl ?_
                refine w_ldcS (i := 19) rfl rfl rfl dX10_isOwn_74 ?_
                refine w_callV (ci := 10) (d' := d + 7) (mc' := 0) (ms' := 0) (As := [.ref (G.2.2.1 19)]) (st := []) lX10_156 vX10_isWord rfl (hw 0 _ _ rfl rfl) rfl (Nat.le_of_ble_eq_true rfl) dX10_isOwn_76 (Nat.le_of_ble_eq_true rfl) (Nat.le_of_ble_eq_true rfl) (Nat.le_refl _) (m_isWord (i := 19) (s := s) rfl (hHas_s hw (as' := [m]) (cs' := [(oC 10 (mF m th tr wa tp (nI E) sp fa fl tk ta sg nu wd lo wv rl rw ht sd ah cl))]) [0] rfl rfl) hp ?_)
                refine w_if_ne (tgt := 118) dX10_isOwn_79 rfl (fun b79 => ?_) (fun b79 => ?_)
                · refine w_iconst (v := 1) dX10_isOwn_118 (by decide) ?_
                  refine w_goto (tgt := 123) dX10_isOwn_119 rfl ?_
                  refine w_zreturn rfl dX10_isOwn_123 rfl (Nat.le_of_ble_eq_true rfl) (Nat.le_of_ble_eq_true rfl) ?_
                  have e9 : owS s = 1 := by
                    rw [owS, if_neg (fun z => z b6), if_neg (fun z => z b15), if_neg (fun z => z b24), if_neg (fun z => z b33), if_neg (fun z => z b42), if_neg (fun z => z b51), if_neg (fun z => z b70), if_pos b79]
                  rw [e9] at k
                  exact k
                · refine w_aload_n dX10_isOwn_82 rfl ?_
                  refine w_ldcS (i := 20) rfl rfl rfl dX10_isOwn_83 ?_
                  refine w_callV (ci := 10) (d' := d + 7) (mc' := 0) (ms' := 0) (As := [.ref (G.2.2.1 20)]) (st := []) lX10_156 vX10_isWord rfl (hw 0 _ _ rfl rfl) rfl (Nat.le_of_ble_eq_true rfl) dX10_isOwn_85 (Nat.le_of_ble_eq_true rfl) (Nat.le_of_ble_eq_true rfl) (Nat.le_refl _) (m_isWord (i := 20) (s := s) rfl (hHas_s hw (as' := [m]) (cs' := [(oC 10 (mF m th tr wa tp (nI E) sp fa fl tk ta sg nu wd lo wv rl rw ht sd ah cl))]) [0] rfl rfl) hp ?_)
                  refine w_if_ne (tgt := 118) dX10_isOwn_88 rfl (fun b88 => ?_) (fun b88 => ?_)
                  · refine w_iconst (v := 1) dX10_isOwn_118 (by decide) ?_
                    refine w_goto (tgt := 123) dX10_isOwn_119 rfl ?_
                    refine w_zreturn rfl dX10_isOwn_123 rfl (Nat.le_of_ble_eq_true rfl) (Nat.le_of_ble_eq_true rfl) ?_
                    have e9 : owS s = 1 := by
                      rw [owS, if_neg (fun z => z b6), if_neg (fun z => z b15), if_neg (fun z => z b24), if_neg (fun z => z b33), if_neg (fun z => z b42), if_neg (fun z => z b51), if_neg (fun z => z b70), if_neg (fun z => z b79), if_pos b88]
                    rw [e9] at k
                    exact k
                  · refine w_aload_n dX10_isOwn_91 rfl ?_
                    refine w_ldcS (i := 21) rfl rfl rfl dX10_isOwn_92 ?_
                    refine w_callV (ci := 10) (d' := d + 7) (mc' := 0) (ms' := 0) (As := [.ref (G.2.2.1 21)]) (st := []) lX10_156 vX10_isWord rfl (hw 0 _ _ rfl rfl) rfl (Nat.le_of_ble_eq_true rfl) dX10_isOwn_94 (Nat.le_of_ble_eq_true rfl) (Nat.le_of_ble_eq_true rfl) (Nat.le_refl _) (m_isWord (i := 21) (s := s) rfl (hHas_s hw (as' := [m]) (cs' := [(oC 10 (mF m th tr wa tp (nI E) sp fa fl tk ta sg nu wd lo wv rl rw ht sd ah cl))]) [0] rfl rfl) hp ?_)
                    refine w_if_ne (tgt := 118) dX10_isOwn_97 rfl (fun b97 => ?_) (fun b97 => ?_)
                    · refine w_iconst (v := 1) dX10_isOwn_118 (by decide) ?_
                      refine w_goto (tgt := 123) dX10_isOwn_119 rfl ?_
                      refine w_zreturn rfl dX10_isOwn_123 rfl (Nat.le_of_ble_eq_true rfl) (Nat.le_of_ble_eq_true rfl) ?_
                      have e9 : owS s = 1 := by
                        rw [owS, if_neg (fun z => z b6), if_neg (fun z => z b15), if_neg (fun z => z b24), if_neg (fun z => z b33), if_neg (fun z => z b42), if_neg (fun z => z b51), if_neg (fun z => z b70), if_neg (fun z => z b79), if_neg (fun z => z b88), if_pos b97]
                      rw [e9] at k
                      exact k
                    · refine w_aload_n dX10_isOwn_100 rfl ?_
                      refine w_ldcS (i := 22) rfl rfl rfl dX10_isOwn_101 ?_
                      refine w_callV (ci := 10) (d' := d + 7) (mc' := 0) (ms' := 0) (As := [.ref (G.2.2.1 22)]) (st := []) lX10_156 vX10_isWord rfl (hw 0 _ _ rfl rfl) rfl (Nat.le_of_ble_eq_true rfl) dX10_isOwn_103 (Nat.le_of_ble_eq_true rfl) (Nat.le_of_ble_eq_true rfl) (Nat.le_refl _) (m_isWord (i := 22) (s := s) rfl (hHas_s hw (as' := [m]) (cs' := [(oC 10 (mF m th tr wa tp (nI E) sp fa fl tk ta sg nu wd lo wv rl rw ht sd ah cl))]) [0] rfl rfl) hp ?_)
                      refine w_if_ne (tgt := 118) dX10_isOwn_106 rfl (fun b106 => ?_) (fun b106 => ?_)
                      · refine w_iconst (v := 1) dX10_isOwn_118 (by decide) ?_
                        refine w_goto (tgt := 123) dX10_isOwn_119 rfl ?_
                        refine w_zreturn rfl dX10_isOwn_123 rfl (Nat.le_of_ble_eq_true rfl) (Nat.le_of_ble_eq_true rfl) ?_
                        have e9 : owS s = 1 := by
                          rw [owS, if_neg (fun z => z b6), if_neg (fun z => z b15), if_neg (fun z => z b24), if_neg (fun z => z b33), if_neg (fun z => z b42), if_neg (fun z => z b51), if_neg (fun z => z b70), if_neg (fun z => z b79), if_neg (fun z => z b88), if_neg (fun z => z b97), if_pos b106]
                        rw [e9] at k
                        exact k
                      · refine w_aload_n dX10_isOwn_109 rfl ?_
                        refine w_ldcS (i := 23) rfl rfl rfl dX10_isOwn_110 ?_
                        refine w_callV (ci := 10) (d' := d + 7) (mc' := 0) (ms' := 0) (As := [.ref (G.2.2.1 23)]) (st := []) lX10_156 vX10_isWord rfl (hw 0 _ _ rfl rfl) rfl (Nat.le_of_ble_eq_true rfl) dX10_isOwn_112 (Nat.le_of_ble_eq_true rfl) (Nat.le_of_ble_eq_true rfl) (Nat.le_refl _) (m_isWord (i := 23) (s := s) rfl (hHas_s hw (as' := [m]) (cs' := [(oC 10 (mF m th tr wa tp (nI E) sp fa fl tk ta sg nu wd lo wv rl rw ht sd ah cl))]) [0] rfl rfl) hp ?_)
                        refine w_if_eq (tgt := 122) dX10_isOwn_115 rfl (fun b115 => ?_) (fun b115 => ?_)
                        · refine w_iconst (v := 0) dX10_isOwn_122 (by decide) ?_
                          refine w_zreturn rfl dX10_isOwn_123 rfl (Nat.le_of_ble_eq_true rfl) (Nat.le_of_ble_eq_true rfl) ?_
                          have e9 : owS s = 0 := by
                            rw [owS, if_neg (fun z => z b6), if_neg (fun z => z b15), if_neg (fun z => z b24), if_neg (fun z => z b33), if_neg (fun z => z b42), if_neg (fun z => z b51), if_neg (fun z => z b70), if_neg (fun z => z b79), if_neg (fun z => z b88), if_neg (fun z => z b97), if_neg (fun z => z b106), if_neg (fun z => z b115)]
                          rw [e9] at k
                          exact k
                        · refine w_iconst (v := 1) dX10_isOwn_118 (by decide) ?_
                          refine w_goto (tgt := 123) dX10_isOwn_119 rfl ?_
                          refine w_zreturn rfl dX10_isOwn_123 rfl (Nat.le_of_ble_eq_true rfl) (Nat.le_of_ble_eq_true rfl) ?_
                          have e9 : owS s = 1 := by
                            rw [owS, if_neg (fun z => z b6), if_neg (fun z => z b15), if_neg (fun z => z b24), if_neg (fun z => z b33), if_neg (fun z => z b42), if_neg (fun z => z b51), if_neg (fun z => z b70), if_neg (fun z => z b79), if_neg (fun z => z b88), if_neg (fun z => z b97), if_neg (fun z => z b106), if_pos b115]
                          rw [e9] at k
                          exact k
            · refine w_iconst (v := 1) dX10_isOwn_54 (by decide) ?_
              refine w_goto (tgt := 59) dX10_isOwn_55 rfl ?_
              refine w_istore_n (ls2 := [some (.ref m), some (.int 1)]) dX10_isOwn_59 (by decide) rfl rfl ?_
              refine w_iload_n dX10_isOwn_60 rfl ?_
              refine w_if_ne_t (tgt := 118) dX10_isOwn_61 rfl (by decide) ?_
              refine w_iconst (v := 1) dX10_isOwn_118 (by decide) ?_
              refine w_goto (tgt := 123) dX10_isOwn_119 rfl ?_
              refine w_zreturn rfl dX10_isOwn_123 rfl (Nat.le_of_ble_eq_true rfl) (Nat.le_of_ble_eq_true rfl) ?_
              have e9 : owS s = 1 := by
                rw [owS, if_neg (fun z => z b6), if_neg (fun z => z b15), if_neg (fun z => z b24), if_neg (fun z => z b33), if_neg (fun z => z b42), if_pos b51]
              rw [e9] at k
              exact k
set_option maxRecDepth 100000 in
set_option maxHeartbeats 4000000 in
theorem m_readWhole_l {G : wG} {d : Nat} {h : hH} {Q : Option Value → hH → Prop} {m : Nat} {th tr wa tp sp fa fl tk ta sg nu : Int32} {wd : Int64} {lo wv rl rw ht sd ah cl : Int32} {ft gt : Nat → Int32} {E : Nat} {lo9 hi9 : Int32} {x : rD} (hw : hHas h [m, m + 1] [(oC 10 (mF m th tr wa tp (nI E) sp fa fl tk ta sg nu wd lo wv rl rw ht sd ah cl)), (aI 600 gt)]) (nd : [m, m + 1].Nodup) (hE : E ≤ 600) (hT : mT E ft gt) (hp : pR (.inl x) E sp fa fl tk ta sg nu wd) (k : ∀ (sp fa fl tk ta sg nu : Int32) (wd : Int64) (v : Int32), pR (rwS ft lo9 hi9 (.inl x)) E sp fa fl tk ta sg nu wd → tkS (rwS ft lo9 hi9 (.inl x)) v → Q (some (.int v)) (hUs h [m, m + 1] [(oC 10 (mF m th tr wa tp (nI E) sp fa fl tk ta sg nu wd lo wv rl rw ht sd ah cl)), (aI 600 gt)])) : Cl G yX10_readWhole (d + 3) 0 0 [.ref m, .int lo9, .int hi9] h Q := by
  have hk1 := tkR_w hp.2.2.2
  refine Cl.of (ini := false) kX10_readWhole (plainFor_of_name (by decide)) (by decide) (Nat.le_of_ble_eq_true rfl) rfl rfl (fun z => by cases z) ?_
  refine w_heq (hUs_id hw).symm ?_
  refine w_aload_n dX10_readWhole_0 rfl ?_
  refine w_get (v := .int tk) fX10_118 (hUs_at nd 0 rfl rfl) rfl dX10_readWhole_1 ?_
  refine w_iconst (v := 3) dX10_readWhole_4 (by decide) ?_
  refine w_icmp_eq (tgt := 16) dX10_readWhole_5 rfl (fun b5 => ?_) (fun b5 => ?_)
  · refine w_aload_n dX10_readWhole_16 rfl ?_
    refine w_get (v := .int nu) fX10_136 (hUs_at nd 0 rfl rfl) rfl dX10_readWhole_17 ?_
    refine w_iload_n dX10_readWhole_20 rfl ?_
    refine w_iload_n dX10_readWhole_21 rfl ?_
    refine w_callS (d' := d + 2) (mc' := 0) (ms' := 0) (As := [.int nu, .int lo9, .int hi9]) (st := []) lX10_111 vX10_in rfl (Nat.le_of_ble_eq_true rfl) dX10_readWhole_22 (Nat.le_of_ble_eq_true rfl) (Nat.le_of_ble_eq_true rfl) (Nat.le_refl _) (c_in ?_)
    refine w_if_ne (tgt := 33) dX10_readWhole_25 rfl (fun b25 => ?_) (fun b25 => ?_)
    · refine w_aload_n dX10_readWhole_33 rfl ?_
      refine w_get (v := .int nu) fX10_136 (hUs_at nd 0 rfl rfl) rfl dX10_readWhole_34 ?_
      refine w_istore_n (ls2 := [some (.ref m), some (.int lo9), some (.int hi9), some (.int nu)]) dX10_readWhole_37 (by decide) rfl rfl ?_
      refine w_aload_n dX10_readWhole_38 rfl ?_
      refine w_callV (ci := 10) (d' := d + 2) (mc' := 0) (ms' := 0) (As := []) (st := []) lX10_164 vX10_goOn rfl (hUs_at nd 0 rfl rfl) rfl (Nat.le_of_ble_eq_true rfl) dX10_readWhole_39 (Nat.le_of_ble_eq_true rfl) (Nat.le_of_ble_eq_true rfl) (Nat.le_refl _) (m_goOn (s := (.inl x)) (hHas_sub nd (as' := [m, m + 1]) (cs' := [(oC 10 (mF m th tr wa tp (nI E) sp fa fl tk ta sg nu wd lo wv rl rw ht sd ah cl)), (aI 600 gt)]) [0, 1] rfl rfl) (nd_sub nd (as' := [m, m + 1]) [0, 1] rfl rfl) hE hT hp (fun sp1 fa1 fl1 tk1 ta1 sg1 nu1 wd1 hp1 => ?_))
      refine w_heq (hUs_in nd rfl [0, 1] (cs2 := [(oC 10 (mF m th tr wa tp (nI E) sp1 fa1 fl1 tk1 ta1 sg1 nu1 wd1 lo wv rl rw ht sd ah cl)), (aI 600 gt)]) rfl rfl) ?_
      refine w_iload_n dX10_readWhole_42 rfl ?_
      refine w_ireturn rfl dX10_readWhole_43 (Nat.le_of_ble_eq_true rfl) (Nat.le_of_ble_eq_true rfl) ?_
      have e9 : rwS ft lo9 hi9 (.inl x) = .inl (rTk (rStp ft x) x.2.2.2.2.1) := by
        rw [rwS, rTN1_w (hk1.2.2.1.mp b5), if_neg (show ¬ (x.2.2.2.2.1 < lo9 ∨ hi9 < x.2.2.2.2.1) by
          rw [← (hk1.2.2.2.1 (hk1.2.2.1.mp b5)).1]
          exact fun z => z.elim (fun z => absurd (inB_1 b25).1 (Int32.not_le.mpr z)) (fun z => absurd (inB_1 b25).2 (Int32.not_le.mpr z)))]
        rw [← rStp_t9]; rfl
      rw [e9] at k
      exact k _ _ _ _ _ _ _ _ _ (pR_tk hp1) (fun y z => by cases z; exact (hk1.2.2.2.1 (hk1.2.2.1.mp b5)).1)
    · refine w_aload_n dX10_readWhole_28 rfl ?_
      refine w_iconst (v := 2) dX10_readWhole_29 (by decide) ?_
      refine w_callV (ci := 10) (d' := d + 2) (mc' := 0) (ms' := 0) (As := [.int 2]) (st := []) lX10_160 vX10_flaw rfl (hUs_at nd 0 rfl rfl) rfl (Nat.le_of_ble_eq_true rfl) dX10_readWhole_30 (Nat.le_of_ble_eq_true rfl) (Nat.le_of_ble_eq_true rfl) (Nat.le_refl _) (m_flaw (s := (.inl x)) (hHas_sub nd (as' := [m]) (cs' := [(oC 10 (mF m th tr wa tp (nI E) sp fa fl tk ta sg nu wd lo wv rl rw ht sd ah cl))]) [0] rfl rfl) (nd_sub nd (as' := [m]) [0] rfl rfl) (by decide) hp (fun fa1 fl1 hp1 => ?_))
      refine w_heq (hUs_in nd rfl [0] (cs2 := [(oC 10 (mF m th tr wa tp (nI E) sp fa1 fl1 tk ta sg nu wd lo wv rl rw ht sd ah cl)), (aI 600 gt)]) rfl rfl) ?_
      refine w_aload_n dX10_readWhole_33 rfl ?_
      refine w_get (v := .int nu) fX10_136 (hUs_at nd 0 rfl rfl) rfl dX10_readWhole_34 ?_
      refine w_istore_n (ls2 := [some (.ref m), some (.int lo9), some (.int hi9), some (.int nu)]) dX10_readWhole_37 (by decide) rfl rfl ?_
      refine w_aload_n dX10_readWhole_38 rfl ?_
      refine w_callV (ci := 10) (d' := d + 2) (mc' := 0) (ms' := 0) (As := []) (st := []) lX10_164 vX10_goOn rfl (hUs_at nd 0 rfl rfl) rfl (Nat.le_of_ble_eq_true rfl) dX10_readWhole_39 (Nat.le_of_ble_eq_true rfl) (Nat.le_of_ble_eq_true rfl) (Nat.le_refl _) (m_goOn (s := (flS 2 (.inl x))) (hHas_sub nd (as' := [m, m + 1]) (cs' := [(oC 10 (mF m th tr wa tp (nI E) sp fa1 fl1 tk ta sg nu wd lo wv rl rw ht sd ah cl)), (aI 600 gt)]) [0, 1] rfl rfl) (nd_sub nd (as' := [m, m + 1]) [0, 1] rfl rfl) hE hT hp1 (fun sp2 fa2 fl2 tk2 ta2 sg2 nu2 wd2 hp2 => ?_))
      refine w_heq (hUs_in nd rfl [0, 1] (cs2 := [(oC 10 (mF m th tr wa tp (nI E) sp2 fa2 fl2 tk2 ta2 sg2 nu2 wd2 lo wv rl rw ht sd ah cl)), (aI 600 gt)]) rfl rfl) ?_
      refine w_iload_n dX10_readWhole_42 rfl ?_
      refine w_ireturn rfl dX10_readWhole_43 (Nat.le_of_ble_eq_true rfl) (Nat.le_of_ble_eq_true rfl) ?_
      have e9 : rwS ft lo9 hi9 (.inl x) = (gS ft (flS 2 (.inl x))) := by
        rw [rwS, rTN1_w (hk1.2.2.1.mp b5), if_pos (show x.2.2.2.2.1 < lo9 ∨ hi9 < x.2.2.2.2.1 by rw [← (hk1.2.2.2.1 (hk1.2.2.1.mp b5)).1]; exact inB_0 b25)]; rfl
      rw [e9] at k
      exact k _ _ _ _ _ _ _ _ _ hp2 (fun y z => by cases z)
  · refine w_aload_n dX10_readWhole_8 rfl ?_
    refine w_iconst (v := 1) dX10_readWhole_9 (by decide) ?_
    refine w_callV (ci := 10) (d' := d + 2) (mc' := 0) (ms' := 0) (As := [.int 1]) (st := []) lX10_160 vX10_flaw rfl (hUs_at nd 0 rfl rfl) rfl (Nat.le_of_ble_eq_true rfl) dX10_readWhole_10 (Nat.le_of_ble_eq_true rfl) (Nat.le_of_ble_eq_true rfl) (Nat.le_refl _) (m_flaw (s := (.inl x)) (hHas_sub nd (as' := [m]) (cs' := [(oC 10 (mF m th tr wa tp (nI E) sp fa fl tk ta sg nu wd lo wv rl rw ht sd ah cl))]) [0] rfl rfl) (nd_sub nd (as' := [m]) [0] rfl rfl) (by decide) hp (fun fa1 fl1 hp1 => ?_))
    refine w_heq (hUs_in nd rfl [0] (cs2 := [(oC 10 (mF m th tr wa tp (nI E) sp fa1 fl1 tk ta sg nu wd lo wv rl rw ht sd ah cl)), (aI 600 gt)]) rfl rfl) ?_
    refine w_goto (tgt := 33) dX10_readWhole_13 rfl ?_
    refine w_aload_n dX10_readWhole_33 rfl ?_
    refine w_get (v := .int nu) fX10_136 (hUs_at nd 0 rfl rfl) rfl dX10_readWhole_34 ?_
    refine w_istore_n (ls2 := [some (.ref m), some (.int lo9), some (.int hi9), some (.int nu)]) dX10_readWhole_37 (by decide) rfl rfl ?_
    refine w_aload_n dX10_readWhole_38 rfl ?_
    refine w_callV (ci := 10) (d' := d + 2) (mc' := 0) (ms' := 0) (As := []) (st := []) lX10_164 vX10_goOn rfl (hUs_at nd 0 rfl rfl) rfl (Nat.le_of_ble_eq_true rfl) dX10_readWhole_39 (Nat.le_of_ble_eq_true rfl) (Nat.le_of_ble_eq_true rfl) (Nat.le_refl _) (m_goOn (s := (flS 1 (.inl x))) (hHas_sub nd (as' := [m, m + 1]) (cs' := [(oC 10 (mF m th tr wa tp (nI E) sp fa1 fl1 tk ta sg nu wd lo wv rl rw ht sd ah cl)), (aI 600 gt)]) [0, 1] rfl rfl) (nd_sub nd (as' := [m, m + 1]) [0, 1] rfl rfl) hE hT hp1 (fun sp2 fa2 fl2 tk2 ta2 sg2 nu2 wd2 hp2 => ?_))
    refine w_heq (hUs_in nd rfl [0, 1] (cs2 := [(oC 10 (mF m th tr wa tp (nI E) sp2 fa2 fl2 tk2 ta2 sg2 nu2 wd2 lo wv rl rw ht sd ah cl)), (aI 600 gt)]) rfl rfl) ?_
    refine w_iload_n dX10_readWhole_42 rfl ?_
    refine w_ireturn rfl dX10_readWhole_43 (Nat.le_of_ble_eq_true rfl) (Nat.le_of_ble_eq_true rfl) ?_
    have e9 : rwS ft lo9 hi9 (.inl x) = (gS ft (flS 1 (.inl x))) := by
      rw [rwS, rTN1, if_neg (fun z => b5 (hk1.2.2.1.mpr z))]; rfl
    rw [e9] at k
    exact k _ _ _ _ _ _ _ _ _ hp2 (fun y z => by cases z)
set_option maxRecDepth 100000 in
set_option maxHeartbeats 4000000 in
theorem m_readWhole_r {G : wG} {d : Nat} {h : hH} {Q : Option Value → hH → Prop} {m : Nat} {th tr wa tp sp fa fl tk ta sg nu : Int32} {wd : Int64} {lo wv rl rw ht sd ah cl : Int32} {ft gt : Nat → Int32} {E : Nat} {lo9 hi9 : Int32} {b : Int32 × Int32} (hw : hHas h [m, m + 1] [(oC 10 (mF m th tr wa tp (nI E) sp fa fl tk ta sg nu wd lo wv rl rw ht sd ah cl)), (aI 600 gt)]) (nd : [m, m + 1].Nodup) (hE : E ≤ 600) (hT : mT E ft gt) (hp : pR (.inr b) E sp fa fl tk ta sg nu wd) (k : ∀ (sp fa fl tk ta sg nu : Int32) (wd : Int64) (v : Int32), pR (rwS ft lo9 hi9 (.inr b)) E sp fa fl tk ta sg nu wd → tkS (rwS ft lo9 hi9 (.inr b)) v → Q (some (.int v)) (hUs h [m, m + 1] [(oC 10 (mF m th tr wa tp (nI E) sp fa fl tk ta sg nu wd lo wv rl rw ht sd ah cl)), (aI 600 gt)])) : Cl G yX10_readWhole (d + 3) 0 0 [.ref m, .int lo9, .int hi9] h Q := by
  refine Cl.of (ini := false) kX10_readWhole (plainFor_of_name (by decide)) (by decide) (Nat.le_of_ble_eq_true rfl) rfl rfl (fun z => by cases z) ?_
  refine w_heq (hUs_id hw).symm ?_
  refine w_aload_n dX10_readWhole_0 rfl ?_
  refine w_get (v := .int tk) fX10_118 (hUs_at nd 0 rfl rfl) rfl dX10_readWhole_1 ?_
  refine w_iconst (v := 3) dX10_readWhole_4 (by decide) ?_
  refine w_icmp_eq (tgt := 16) dX10_readWhole_5 rfl (fun b5 => ?_) (fun b5 => ?_)
  · refine w_aload_n dX10_readWhole_16 rfl ?_
    refine w_get (v := .int nu) fX10_136 (hUs_at nd 0 rfl rfl) rfl dX10_readWhole_17 ?_
    refine w_iload_n dX10_readWhole_20 rfl ?_
    refine w_iload_n dX10_readWhole_21 rfl ?_
    refine w_callS (d' := d + 2) (mc' := 0) (ms' := 0) (As := [.int nu, .int lo9, .int hi9]) (st := []) lX10_111 vX10_in rfl (Nat.le_of_ble_eq_true rfl) dX10_readWhole_22 (Nat.le_of_ble_eq_true rfl) (Nat.le_of_ble_eq_true rfl) (Nat.le_refl _) (c_in ?_)
    refine w_if_ne (tgt := 33) dX10_readWhole_25 rfl (fun b25 => ?_) (fun b25 => ?_)
    · refine w_aload_n dX10_readWhole_33 rfl ?_
      refine w_get (v := .int nu) fX10_136 (hUs_at nd 0 rfl rfl) rfl dX10_readWhole_34 ?_
      refine w_istore_n (ls2 := [some (.ref m), some (.int lo9), some (.int hi9), some (.int nu)]) dX10_readWhole_37 (by decide) rfl rfl ?_
      refine w_aload_n dX10_readWhole_38 rfl ?_
      refine w_callV (ci := 10) (d' := d + 2) (mc' := 0) (ms' := 0) (As := []) (st := []) lX10_164 vX10_goOn rfl (hUs_at nd 0 rfl rfl) rfl (Nat.le_of_ble_eq_true rfl) dX10_readWhole_39 (Nat.le_of_ble_eq_true rfl) (Nat.le_of_ble_eq_true rfl) (Nat.le_refl _) (m_goOn (s := (.inr b)) (hHas_sub nd (as' := [m, m + 1]) (cs' := [(oC 10 (mF m th tr wa tp (nI E) sp fa fl tk ta sg nu wd lo wv rl rw ht sd ah cl)), (aI 600 gt)]) [0, 1] rfl rfl) (nd_sub nd (as' := [m, m + 1]) [0, 1] rfl rfl) hE hT hp (fun sp1 fa1 fl1 tk1 ta1 sg1 nu1 wd1 hp1 => ?_))
      refine w_heq (hUs_in nd rfl [0, 1] (cs2 := [(oC 10 (mF m th tr wa tp (nI E) sp1 fa1 fl1 tk1 ta1 sg1 nu1 wd1 lo wv rl rw ht sd ah cl)), (aI 600 gt)]) rfl rfl) ?_
      refine w_iload_n dX10_readWhole_42 rfl ?_
      refine w_ireturn rfl dX10_readWhole_43 (Nat.le_of_ble_eq_true rfl) (Nat.le_of_ble_eq_true rfl) ?_
      exact k _ _ _ _ _ _ _ _ _ hp1 (fun y z => by cases z)
    · refine w_aload_n dX10_readWhole_28 rfl ?_
      refine w_iconst (v := 2) dX10_readWhole_29 (by decide) ?_
      refine w_callV (ci := 10) (d' := d + 2) (mc' := 0) (ms' := 0) (As := [.int 2]) (st := []) lX10_160 vX10_flaw rfl (hUs_at nd 0 rfl rfl) rfl (Nat.le_of_ble_eq_true rfl) dX10_readWhole_30 (Nat.le_of_ble_eq_true rfl) (Nat.le_of_ble_eq_true rfl) (Nat.le_refl _) (m_flaw (s := (.inr b)) (hHas_sub nd (as' := [m]) (cs' := [(oC 10 (mF m th tr wa tp (nI E) sp fa fl tk ta sg nu wd lo wv rl rw ht sd ah cl))]) [0] rfl rfl) (nd_sub nd (as' := [m]) [0] rfl rfl) (by decide) hp (fun fa1 fl1 hp1 => ?_))
      refine w_heq (hUs_in nd rfl [0] (cs2 := [(oC 10 (mF m th tr wa tp (nI E) sp fa1 fl1 tk ta sg nu wd lo wv rl rw ht sd ah cl)), (aI 600 gt)]) rfl rfl) ?_
      refine w_aload_n dX10_readWhole_33 rfl ?_
      refine w_get (v := .int nu) fX10_136 (hUs_at nd 0 rfl rfl) rfl dX10_readWhole_34 ?_
      refine w_istore_n (ls2 := [some (.ref m), some (.int lo9), some (.int hi9), some (.int nu)]) dX10_readWhole_37 (by decide) rfl rfl ?_
      refine w_aload_n dX10_readWhole_38 rfl ?_
      refine w_callV (ci := 10) (d' := d + 2) (mc' := 0) (ms' := 0) (As := []) (st := []) lX10_164 vX10_goOn rfl (hUs_at nd 0 rfl rfl) rfl (Nat.le_of_ble_eq_true rfl) dX10_readWhole_39 (Nat.le_of_ble_eq_true rfl) (Nat.le_of_ble_eq_true rfl) (Nat.le_refl _) (m_goOn (s := (flS 2 (.inr b))) (hHas_sub nd (as' := [m, m + 1]) (cs' := [(oC 10 (mF m th tr wa tp (nI E) sp fa1 fl1 tk ta sg nu wd lo wv rl rw ht sd ah cl)), (aI 600 gt)]) [0, 1] rfl rfl) (nd_sub nd (as' := [m, m + 1]) [0, 1] rfl rfl) hE hT hp1 (fun sp2 fa2 fl2 tk2 ta2 sg2 nu2 wd2 hp2 => ?_))
      refine w_heq (hUs_in nd rfl [0, 1] (cs2 := [(oC 10 (mF m th tr wa tp (nI E) sp2 fa2 fl2 tk2 ta2 sg2 nu2 wd2 lo wv rl rw ht sd ah cl)), (aI 600 gt)]) rfl rfl) ?_
      refine w_iload_n dX10_readWhole_42 rfl ?_
      refine w_ireturn rfl dX10_readWhole_43 (Nat.le_of_ble_eq_true rfl) (Nat.le_of_ble_eq_true rfl) ?_
      exact k _ _ _ _ _ _ _ _ _ hp2 (fun y z => by cases z)
  · refine w_aload_n dX10_readWhole_8 rfl ?_
    refine w_iconst (v := 1) dX10_readWhole_9 (by decide) ?_
    refine w_callV (ci := 10) (d' := d + 2) (mc' := 0) (ms' := 0) (As := [.int 1]) (st := []) lX10_160 vX10_flaw rfl (hUs_at nd 0 rfl rfl) rfl (Nat.le_of_ble_eq_true rfl) dX10_readWhole_10 (Nat.le_of_ble_eq_true rfl) (Nat.le_of_ble_eq_true rfl) (Nat.le_refl _) (m_flaw (s := (.inr b)) (hHas_sub nd (as' := [m]) (cs' := [(oC 10 (mF m th tr wa tp (nI E) sp fa fl tk ta sg nu wd lo wv rl rw ht sd ah cl))]) [0] rfl rfl) (nd_sub nd (as' := [m]) [0] rfl rfl) (by decide) hp (fun fa1 fl1 hp1 => ?_))
    refine w_heq (hUs_in nd rfl [0] (cs2 := [(oC 10 (mF m th tr wa tp (nI E) sp fa1 fl1 tk ta sg nu wd lo wv rl rw ht sd ah cl)), (aI 600 gt)]) rfl rfl) ?_
    refine w_goto (tgt := 33) dX10_readWhole_13 rfl ?_
    refine w_aload_n dX10_readWhole_33 rfl ?_
    refine w_get (v := .int nu) fX10_136 (hUs_at nd 0 rfl rfl) rfl dX10_readWhole_34 ?_
    refine w_istore_n (ls2 := [some (.ref m), some (.int lo9), some (.int hi9), some (.int nu)]) dX10_readWhole_37 (by decide) rfl rfl ?_
    refine w_aload_n dX10_readWhole_38 rfl ?_
    refine w_callV (ci := 10) (d' := d + 2) (mc' := 0) (ms' := 0) (As := []) (st := []) lX10_164 vX10_goOn rfl (hUs_at nd 0 rfl rfl) rfl (Nat.le_of_ble_eq_true rfl) dX10_readWhole_39 (Nat.le_of_ble_eq_true rfl) (Nat.le_of_ble_eq_true rfl) (Nat.le_refl _) (m_goOn (s := (flS 1 (.inr b))) (hHas_sub nd (as' := [m, m + 1]) (cs' := [(oC 10 (mF m th tr wa tp (nI E) sp fa1 fl1 tk ta sg nu wd lo wv rl rw ht sd ah cl)), (aI 600 gt)]) [0, 1] rfl rfl) (nd_sub nd (as' := [m, m + 1]) [0, 1] rfl rfl) hE hT hp1 (fun sp2 fa2 fl2 tk2 ta2 sg2 nu2 wd2 hp2 => ?_))
    refine w_heq (hUs_in nd rfl [0, 1] (cs2 := [(oC 10 (mF m th tr wa tp (nI E) sp2 fa2 fl2 tk2 ta2 sg2 nu2 wd2 lo wv rl rw ht sd ah cl)), (aI 600 gt)]) rfl rfl) ?_
    refine w_iload_n dX10_readWhole_42 rfl ?_
    refine w_ireturn rfl dX10_readWhole_43 (Nat.le_of_ble_eq_true rfl) (Nat.le_of_ble_eq_true rfl) ?_
    exact k _ _ _ _ _ _ _ _ _ hp2 (fun y z => by cases z)
theorem m_readWhole {G : wG} {d : Nat} {h : hH} {Q : Option Value → hH → Prop} {m : Nat} {th tr wa tp sp fa fl tk ta sg nu : Int32} {wd : Int64} {lo wv rl rw ht sd ah cl : Int32} {ft gt : Nat → Int32} {E : Nat} {lo9 hi9 : Int32} {s : pS} (hw : hHas h [m, m + 1] [(oC 10 (mF m th tr wa tp (nI E) sp fa fl tk ta sg nu wd lo wv rl rw ht sd ah cl)), (aI 600 gt)]) (nd : [m, m + 1].Nodup) (hE : E ≤ 600) (hT : mT E ft gt) (hp : pR s E sp fa fl tk ta sg nu wd) (k : ∀ (sp fa fl tk ta sg nu : Int32) (wd : Int64) (v : Int32), pR (rwS ft lo9 hi9 s) E sp fa fl tk ta sg nu wd → tkS (rwS ft lo9 hi9 s) v → Q (some (.int v)) (hUs h [m, m + 1] [(oC 10 (mF m th tr wa tp (nI E) sp fa fl tk ta sg nu wd lo wv rl rw ht sd ah cl)), (aI 600 gt)])) : Cl G yX10_readWhole (d + 3) 0 0 [.ref m, .int lo9, .int hi9] h Q := by
  cases s with
  | inl x => exact m_readWhole_l hw nd hE hT hp k
  | inr b => exact m_readWhole_r hw nd hE hT hp k
theorem rw_ri {ft : Nat → Int32} {x : rD} (ng : Int32) (hb : x.2.2.1 = 2 → 0 ≤ x.2.2.2.2.1 ∧ x.2.2.2.2.1 ≤ 9999) : (∃ b, rcS (rTN1 ft 0 1000 0 x) = .inr b ∧ rcS (rTN1 ft (-1000) 1000 ng x) = .inr b) ∨ (∃ y, rcS (rTN1 ft 0 1000 0 x) = .inl y ∧ rcS (rTN1 ft (-1000) 1000 ng x) = .inl (rTk y (if ng = 0 then y.2.2.2.2.2.1 else -y.2.2.2.2.2.1))) := by
  by_cases e : x.2.2.1 = 2
  · obtain ⟨V, hV, hv⟩ := in2 (m := 9999) (Int32.not_lt.mpr (hb e).1) (hb e).2 (by decide)
    have hneg : (-(nI V)).toInt = -(V : Int) := by rw [neg_toInt (nI_pos' (by omega)), nI_toInt (by omega)]
    rw [rTN1, rTN1, if_pos e, if_pos e, rTN2, rTN2]
    have e1 : (rTk x (if (0 : Int32) = 0 then x.2.2.2.2.1 else -x.2.2.2.2.1)).2.2.2.2.2.1 = nI V := hv
    have hc : ((rTk x (if ng = 0 then x.2.2.2.2.1 else -x.2.2.2.2.1)).2.2.2.2.2.1 < -1000 ∨ 1000 < (rTk x (if ng = 0 then x.2.2.2.2.1 else -x.2.2.2.2.1)).2.2.2.2.2.1) ↔ (nI V < 0 ∨ 1000 < nI V) := by
      show ((if ng = 0 then x.2.2.2.2.1 else -x.2.2.2.2.1) < -1000 ∨ 1000 < (if ng = 0 then x.2.2.2.2.1 else -x.2.2.2.2.1)) ↔ _
      rw [hv]
      by_cases z : ng = 0
      · rw [if_pos z]
        rw [Int32.lt_iff_toInt_lt, Int32.lt_iff_toInt_lt, Int32.lt_iff_toInt_lt, nI_toInt (by omega), show (-1000 : Int32).toInt = -1000 from rfl, show (1000 : Int32).toInt = 1000 from rfl, show (0 : Int32).toInt = 0 from rfl]
        omega
      · rw [if_neg z]
        rw [Int32.lt_iff_toInt_lt, Int32.lt_iff_toInt_lt, Int32.lt_iff_toInt_lt, Int32.lt_iff_toInt_lt, hneg, nI_toInt (by omega), show (-1000 : Int32).toInt = -1000 from rfl, show (1000 : Int32).toInt = 1000 from rfl, show (0 : Int32).toInt = 0 from rfl]
        omega
    rw [e1]
    by_cases z : nI V < 0 ∨ 1000 < nI V
    · rw [if_pos z, if_pos (hc.mpr z)]
      exact Or.inl ⟨_, rfl, rfl⟩
    · rw [if_neg z, if_neg (fun y => z (hc.mp y))]
      refine Or.inr ⟨_, rfl, ?_⟩
      show Sum.inl (rStp ft (rTk x _)) = Sum.inl (rTk (rStp ft (rTk x _)) _)
      rw [rStp_t9, rStp_t9]
      rfl
  · rw [rTN1, rTN1, if_neg e, if_neg e]
    exact Or.inl ⟨_, rfl, rfl⟩
theorem ri_l {ft : Nat → Int32} {x : rD} {E : Nat} {sp fa fl tk ta sg nu : Int32} {wd : Int64} {v : Int32} (hx : x.2.2.1 = 2 → 0 ≤ x.2.2.2.2.1 ∧ x.2.2.2.2.1 ≤ 9999) (ng : Int32) (h : pR (rwS ft 0 1000 (.inl x)) E sp fa fl tk ta sg nu wd) (hv : tkS (rwS ft 0 1000 (.inl x)) v) : pR (rcS (rTN1 ft (-1000) 1000 ng x)) E sp fa fl tk ta sg nu wd ∧ tkS (rcS (rTN1 ft (-1000) 1000 ng x)) (if ng = 0 then v else -v) := by
  rcases rw_ri (ft := ft) ng hx with ⟨b, e1, e2⟩ | ⟨y, e1, e2⟩
  · rw [show rwS ft 0 1000 (.inl x) = .inr b from e1] at h
    rw [e2]
    exact ⟨h, fun y z => by cases z⟩
  · rw [show rwS ft 0 1000 (.inl x) = .inl y from e1] at h
    rw [e2]
    refine ⟨h, fun w z => ?_⟩
    cases z
    rw [hv y e1]
    rfl
theorem pR_b {x : rD} {E : Nat} {sp fa fl tk ta sg nu : Int32} {wd : Int64} (h : pR (.inl x) E sp fa fl tk ta sg nu wd) (hk : x.2.2.1 = 2) : 0 ≤ x.2.2.2.2.1 ∧ x.2.2.2.2.1 ≤ 9999 := by
  have := (tkR_w h.2.2.2).2.2.2.1 hk
  rw [← this.1]
  exact this.2
set_option maxRecDepth 100000 in
set_option maxHeartbeats 4000000 in
theorem m_readInt_l {G : wG} {d : Nat} {h : hH} {Q : Option Value → hH → Prop} {m : Nat} {th tr wa tp sp fa fl tk ta sg nu : Int32} {wd : Int64} {lo wv rl rw ht sd ah cl : Int32} {ft gt : Nat → Int32} {E : Nat} {x : rD} (hw : hHas h [m, m + 1] [(oC 10 (mF m th tr wa tp (nI E) sp fa fl tk ta sg nu wd lo wv rl rw ht sd ah cl)), (aI 600 gt)]) (nd : [m, m + 1].Nodup) (hE : E ≤ 600) (hT : mT E ft gt) (hp : pR (.inl x) E sp fa fl tk ta sg nu wd) (k : ∀ (sp fa fl tk ta sg nu : Int32) (wd : Int64) (v : Int32), pR (riS ft (.inl x)) E sp fa fl tk ta sg nu wd → tkS (riS ft (.inl x)) v → Q (some (.int v)) (hUs h [m, m + 1] [(oC 10 (mF m th tr wa tp (nI E) sp fa fl tk ta sg nu wd lo wv rl rw ht sd ah cl)), (aI 600 gt)])) : Cl G yX10_readInt (d + 4) 0 0 [.ref m] h Q := by
  refine Cl.of (ini := false) kX10_readInt (plainFor_of_name (by decide)) (by decide) (Nat.le_of_ble_eq_true rfl) rfl rfl (fun z => by cases z) ?_
  refine w_heq (hUs_id hw).symm ?_
  refine w_aload_n dX10_readInt_0 rfl ?_
  refine w_bipush (v := 45) dX10_readInt_1 (by decide) ?_
  refine w_callV (ci := 10) (d' := d + 3) (mc' := 0) (ms' := 0) (As := [.int 45]) (st := []) lX10_188 vX10_isSign rfl (hUs_at nd 0 rfl rfl) rfl (Nat.le_of_ble_eq_true rfl) dX10_readInt_3 (Nat.le_of_ble_eq_true rfl) (Nat.le_of_ble_eq_true rfl) (Nat.le_refl _) (m_isSign (s := (.inl x)) (hHas_sub nd (as' := [m]) (cs' := [(oC 10 (mF m th tr wa tp (nI E) sp fa fl tk ta sg nu wd lo wv rl rw ht sd ah cl))]) [0] rfl rfl) hp ?_)
  refine w_istore_n (ls2 := [some (.ref m), some (.int (siS (.inl x) 45)), none]) dX10_readInt_6 (by decide) rfl rfl ?_
  refine w_iload_n dX10_readInt_7 rfl ?_
  refine w_if_eq (tgt := 15) dX10_readInt_8 rfl (fun b8 => ?_) (fun b8 => ?_)
  · refine w_aload_n dX10_readInt_15 rfl ?_
    refine w_iconst (v := 0) dX10_readInt_16 (by decide) ?_
    refine w_sipush (v := 1000) dX10_readInt_17 (by decide) ?_
    refine w_callV (ci := 10) (d' := d + 3) (mc' := 0) (ms' := 0) (As := [.int 0, .int 1000]) (st := []) lX10_191 vX10_readWhole rfl (hUs_at nd 0 rfl rfl) rfl (Nat.le_of_ble_eq_true rfl) dX10_readInt_20 (Nat.le_of_ble_eq_true rfl) (Nat.le_of_ble_eq_true rfl) (Nat.le_refl _) (m_readWhole (s := (.inl x)) (hHas_sub nd (as' := [m, m + 1]) (cs' := [(oC 10 (mF m th tr wa tp (nI E) sp fa fl tk ta sg nu wd lo wv rl rw ht sd ah cl)), (aI 600 gt)]) [0, 1] rfl rfl) (nd_sub nd (as' := [m, m + 1]) [0, 1] rfl rfl) hE hT hp (fun sp1 fa1 fl1 tk1 ta1 sg1 nu1 wd1 v1 hp1 hv1 => ?_))
    refine w_heq (hUs_in nd rfl [0, 1] (cs2 := [(oC 10 (mF m th tr wa tp (nI E) sp1 fa1 fl1 tk1 ta1 sg1 nu1 wd1 lo wv rl rw ht sd ah cl)), (aI 600 gt)]) rfl rfl) ?_
    refine w_istore_n (ls2 := [some (.ref m), some (.int (siS (.inl x) 45)), some (.int v1)]) dX10_readInt_23 (by decide) rfl rfl ?_
    refine w_iload_n dX10_readInt_24 rfl ?_
    refine w_if_eq_t (tgt := 33) dX10_readInt_25 rfl b8 ?_
    refine w_iload_n dX10_readInt_33 rfl ?_
    refine w_ireturn rfl dX10_readInt_34 (Nat.le_of_ble_eq_true rfl) (Nat.le_of_ble_eq_true rfl) ?_
    have e9 : riS ft (.inl x) = rcS (rTN1 ft (-1000) 1000 0 x) := by
      rw [riS, rTN, if_neg (fun z => z.2 b8)]
    have hq := ri_l (x := x) (pR_b hp) 0 hp1 hv1
    rw [e9] at k
    exact k _ _ _ _ _ _ _ _ _ hq.1 hq.2
  · refine w_aload_n dX10_readInt_11 rfl ?_
    refine w_callV (ci := 10) (d' := d + 3) (mc' := 0) (ms' := 0) (As := []) (st := []) lX10_164 vX10_goOn rfl (hUs_at nd 0 rfl rfl) rfl (Nat.le_of_ble_eq_true rfl) dX10_readInt_12 (Nat.le_of_ble_eq_true rfl) (Nat.le_of_ble_eq_true rfl) (Nat.le_refl _) (m_goOn (s := (.inl x)) (hHas_sub nd (as' := [m, m + 1]) (cs' := [(oC 10 (mF m th tr wa tp (nI E) sp fa fl tk ta sg nu wd lo wv rl rw ht sd ah cl)), (aI 600 gt)]) [0, 1] rfl rfl) (nd_sub nd (as' := [m, m + 1]) [0, 1] rfl rfl) hE hT hp (fun sp1 fa1 fl1 tk1 ta1 sg1 nu1 wd1 hp1 => ?_))
    refine w_heq (hUs_in nd rfl [0, 1] (cs2 := [(oC 10 (mF m th tr wa tp (nI E) sp1 fa1 fl1 tk1 ta1 sg1 nu1 wd1 lo wv rl rw ht sd ah cl)), (aI 600 gt)]) rfl rfl) ?_
    refine w_aload_n dX10_readInt_15 rfl ?_
    refine w_iconst (v := 0) dX10_readInt_16 (by decide) ?_
    refine w_sipush (v := 1000) dX10_readInt_17 (by decide) ?_
    refine w_callV (ci := 10) (d' := d + 3) (mc' := 0) (ms' := 0) (As := [.int 0, .int 1000]) (st := []) lX10_191 vX10_readWhole rfl (hUs_at nd 0 rfl rfl) rfl (Nat.le_of_ble_eq_true rfl) dX10_readInt_20 (Nat.le_of_ble_eq_true rfl) (Nat.le_of_ble_eq_true rfl) (Nat.le_refl _) (m_readWhole (s := (gS ft (.inl x))) (hHas_sub nd (as' := [m, m + 1]) (cs' := [(oC 10 (mF m th tr wa tp (nI E) sp1 fa1 fl1 tk1 ta1 sg1 nu1 wd1 lo wv rl rw ht sd ah cl)), (aI 600 gt)]) [0, 1] rfl rfl) (nd_sub nd (as' := [m, m + 1]) [0, 1] rfl rfl) hE hT hp1 (fun sp2 fa2 fl2 tk2 ta2 sg2 nu2 wd2 v2 hp2 hv2 => ?_))
    refine w_heq (hUs_in nd rfl [0, 1] (cs2 := [(oC 10 (mF m th tr wa tp (nI E) sp2 fa2 fl2 tk2 ta2 sg2 nu2 wd2 lo wv rl rw ht sd ah cl)), (aI 600 gt)]) rfl rfl) ?_
    refine w_istore_n (ls2 := [some (.ref m), some (.int (siS (.inl x) 45)), some (.int v2)]) dX10_readInt_23 (by decide) rfl rfl ?_
    refine w_iload_n dX10_readInt_24 rfl ?_
    refine w_if_eq_f (tgt := 33) dX10_readInt_25 rfl b8 ?_
    refine w_iload_n dX10_readInt_28 rfl ?_
    refine w_ineg dX10_readInt_29 ?_
    refine w_goto (tgt := 34) dX10_readInt_30 rfl ?_
    refine w_ireturn rfl dX10_readInt_34 (Nat.le_of_ble_eq_true rfl) (Nat.le_of_ble_eq_true rfl) ?_
    have e9 : riS ft (.inl x) = rcS (rTN1 ft (-1000) 1000 1 (rStp ft x)) := by
      rw [riS, rTN, if_pos ⟨by decide, b8⟩]
    have hq := ri_l (x := (rStp ft x)) (pR_b hp1) 1 hp2 hv2
    rw [e9] at k
    exact k _ _ _ _ _ _ _ _ _ hq.1 hq.2
set_option maxRecDepth 100000 in
set_option maxHeartbeats 4000000 in
theorem m_readInt_r {G : wG} {d : Nat} {h : hH} {Q : Option Value → hH → Prop} {m : Nat} {th tr wa tp sp fa fl tk ta sg nu : Int32} {wd : Int64} {lo wv rl rw ht sd ah cl : Int32} {ft gt : Nat → Int32} {E : Nat} {b : Int32 × Int32} (hw : hHas h [m, m + 1] [(oC 10 (mF m th tr wa tp (nI E) sp fa fl tk ta sg nu wd lo wv rl rw ht sd ah cl)), (aI 600 gt)]) (nd : [m, m + 1].Nodup) (hE : E ≤ 600) (hT : mT E ft gt) (hp : pR (.inr b) E sp fa fl tk ta sg nu wd) (k : ∀ (sp fa fl tk ta sg nu : Int32) (wd : Int64) (v : Int32), pR (riS ft (.inr b)) E sp fa fl tk ta sg nu wd → tkS (riS ft (.inr b)) v → Q (some (.int v)) (hUs h [m, m + 1] [(oC 10 (mF m th tr wa tp (nI E) sp fa fl tk ta sg nu wd lo wv rl rw ht sd ah cl)), (aI 600 gt)])) : Cl G yX10_readInt (d + 4) 0 0 [.ref m] h Q := by
  refine Cl.of (ini := false) kX10_readInt (plainFor_of_name (by decide)) (by decide) (Nat.le_of_ble_eq_true rfl) rfl rfl (fun z => by cases z) ?_
  refine w_heq (hUs_id hw).symm ?_
  refine w_aload_n dX10_readInt_0 rfl ?_
  refine w_bipush (v := 45) dX10_readInt_1 (by decide) ?_
  refine w_callV (ci := 10) (d' := d + 3) (mc' := 0) (ms' := 0) (As := [.int 45]) (st := []) lX10_188 vX10_isSign rfl (hUs_at nd 0 rfl rfl) rfl (Nat.le_of_ble_eq_true rfl) dX10_readInt_3 (Nat.le_of_ble_eq_true rfl) (Nat.le_of_ble_eq_true rfl) (Nat.le_refl _) (m_isSign (s := (.inr b)) (hHas_sub nd (as' := [m]) (cs' := [(oC 10 (mF m th tr wa tp (nI E) sp fa fl tk ta sg nu wd lo wv rl rw ht sd ah cl))]) [0] rfl rfl) hp ?_)
  refine w_istore_n (ls2 := [some (.ref m), some (.int (siS (.inr b) 45)), none]) dX10_readInt_6 (by decide) rfl rfl ?_
  refine w_iload_n dX10_readInt_7 rfl ?_
  refine w_if_eq (tgt := 15) dX10_readInt_8 rfl (fun b8 => ?_) (fun b8 => ?_)
  · refine w_aload_n dX10_readInt_15 rfl ?_
    refine w_iconst (v := 0) dX10_readInt_16 (by decide) ?_
    refine w_sipush (v := 1000) dX10_readInt_17 (by decide) ?_
    refine w_callV (ci := 10) (d' := d + 3) (mc' := 0) (ms' := 0) (As := [.int 0, .int 1000]) (st := []) lX10_191 vX10_readWhole rfl (hUs_at nd 0 rfl rfl) rfl (Nat.le_of_ble_eq_true rfl) dX10_readInt_20 (Nat.le_of_ble_eq_true rfl) (Nat.le_of_ble_eq_true rfl) (Nat.le_refl _) (m_readWhole (s := (.inr b)) (hHas_sub nd (as' := [m, m + 1]) (cs' := [(oC 10 (mF m th tr wa tp (nI E) sp fa fl tk ta sg nu wd lo wv rl rw ht sd ah cl)), (aI 600 gt)]) [0, 1] rfl rfl) (nd_sub nd (as' := [m, m + 1]) [0, 1] rfl rfl) hE hT hp (fun sp1 fa1 fl1 tk1 ta1 sg1 nu1 wd1 v1 hp1 hv1 => ?_))
    refine w_heq (hUs_in nd rfl [0, 1] (cs2 := [(oC 10 (mF m th tr wa tp (nI E) sp1 fa1 fl1 tk1 ta1 sg1 nu1 wd1 lo wv rl rw ht sd ah cl)), (aI 600 gt)]) rfl rfl) ?_
    refine w_istore_n (ls2 := [some (.ref m), some (.int (siS (.inr b) 45)), some (.int v1)]) dX10_readInt_23 (by decide) rfl rfl ?_
    refine w_iload_n dX10_readInt_24 rfl ?_
    refine w_if_eq_t (tgt := 33) dX10_readInt_25 rfl b8 ?_
    refine w_iload_n dX10_readInt_33 rfl ?_
    refine w_ireturn rfl dX10_readInt_34 (Nat.le_of_ble_eq_true rfl) (Nat.le_of_ble_eq_true rfl) ?_
    exact k _ _ _ _ _ _ _ _ _ hp1 (fun y z => by cases z)
  · refine w_aload_n dX10_readInt_11 rfl ?_
    refine w_callV (ci := 10) (d' := d + 3) (mc' := 0) (ms' := 0) (As := []) (st := []) lX10_164 vX10_goOn rfl (hUs_at nd 0 rfl rfl) rfl (Nat.le_of_ble_eq_true rfl) dX10_readInt_12 (Nat.le_of_ble_eq_true rfl) (Nat.le_of_ble_eq_true rfl) (Nat.le_refl _) (m_goOn (s := (.inr b)) (hHas_sub nd (as' := [m, m + 1]) (cs' := [(oC 10 (mF m th tr wa tp (nI E) sp fa fl tk ta sg nu wd lo wv rl rw ht sd ah cl)), (aI 600 gt)]) [0, 1] rfl rfl) (nd_sub nd (as' := [m, m + 1]) [0, 1] rfl rfl) hE hT hp (fun sp1 fa1 fl1 tk1 ta1 sg1 nu1 wd1 hp1 => ?_))
    refine w_heq (hUs_in nd rfl [0, 1] (cs2 := [(oC 10 (mF m th tr wa tp (nI E) sp1 fa1 fl1 tk1 ta1 sg1 nu1 wd1 lo wv rl rw ht sd ah cl)), (aI 600 gt)]) rfl rfl) ?_
    refine w_aload_n dX10_readInt_15 rfl ?_
    refine w_iconst (v := 0) dX10_readInt_16 (by decide) ?_
    refine w_sipush (v := 1000) dX10_readInt_17 (by decide) ?_
    refine w_callV (ci := 10) (d' := d + 3) (mc' := 0) (ms' := 0) (As := [.int 0, .int 1000]) (st := []) lX10_191 vX10_readWhole rfl (hUs_at nd 0 rfl rfl) rfl (Nat.le_of_ble_eq_true rfl) dX10_readInt_20 (Nat.le_of_ble_eq_true rfl) (Nat.le_of_ble_eq_true rfl) (Nat.le_refl _) (m_readWhole (s := (gS ft (.inr b))) (hHas_sub nd (as' := [m, m + 1]) (cs' := [(oC 10 (mF m th tr wa tp (nI E) sp1 fa1 fl1 tk1 ta1 sg1 nu1 wd1 lo wv rl rw ht sd ah cl)), (aI 600 gt)]) [0, 1] rfl rfl) (nd_sub nd (as' := [m, m + 1]) [0, 1] rfl rfl) hE hT hp1 (fun sp2 fa2 fl2 tk2 ta2 sg2 nu2 wd2 v2 hp2 hv2 => ?_))
    refine w_heq (hUs_in nd rfl [0, 1] (cs2 := [(oC 10 (mF m th tr wa tp (nI E) sp2 fa2 fl2 tk2 ta2 sg2 nu2 wd2 lo wv rl rw ht sd ah cl)), (aI 600 gt)]) rfl rfl) ?_
    refine w_istore_n (ls2 := [some (.ref m), some (.int (siS (.inr b) 45)), some (.int v2)]) dX10_readInt_23 (by decide) rfl rfl ?_
    refine w_iload_n dX10_readInt_24 rfl ?_
    refine w_if_eq_f (tgt := 33) dX10_readInt_25 rfl b8 ?_
    refine w_iload_n dX10_readInt_28 rfl ?_
    refine w_ineg dX10_readInt_29 ?_
    refine w_goto (tgt := 34) dX10_readInt_30 rfl ?_
    refine w_ireturn rfl dX10_readInt_34 (Nat.le_of_ble_eq_true rfl) (Nat.le_of_ble_eq_true rfl) ?_
    exact k _ _ _ _ _ _ _ _ _ hp2 (fun y z => by cases z)
theorem m_readInt {G : wG} {d : Nat} {h : hH} {Q : Option Value → hH → Prop} {m : Nat} {th tr wa tp sp fa fl tk ta sg nu : Int32} {wd : Int64} {lo wv rl rw ht sd ah cl : Int32} {ft gt : Nat → Int32} {E : Nat} {s : pS} (hw : hHas h [m, m + 1] [(oC 10 (mF m th tr wa tp (nI E) sp fa fl tk ta sg nu wd lo wv rl rw ht sd ah cl)), (aI 600 gt)]) (nd : [m, m + 1].Nodup) (hE : E ≤ 600) (hT : mT E ft gt) (hp : pR s E sp fa fl tk ta sg nu wd) (k : ∀ (sp fa fl tk ta sg nu : Int32) (wd : Int64) (v : Int32), pR (riS ft s) E sp fa fl tk ta sg nu wd → tkS (riS ft s) v → Q (some (.int v)) (hUs h [m, m + 1] [(oC 10 (mF m th tr wa tp (nI E) sp fa fl tk ta sg nu wd lo wv rl rw ht sd ah cl)), (aI 600 gt)])) : Cl G yX10_readInt (d + 4) 0 0 [.ref m] h Q := by
  cases s with
  | inl x => exact m_readInt_l hw nd hE hT hp k
  | inr b => exact m_readInt_r hw nd hE hT hp k
