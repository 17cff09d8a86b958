set_option maxRecDepth 100000 in
set_option maxHeartbeats 4000000 in
theorem l_steady {G : wG} {d : Nat} {h : hH} {Q : Option Value → hH → Prop} {b pp tp : Nat} {ht sd fa pl tr : Int32} {P : pD} {j lp : Nat} (nd : [b, b + 25, b + 26, pp, pp + 1, lp, lp + 1].Nodup) (hn : (lPo (P.2.2.1 j)).1 ≤ 3) (k : ∀ (s : cS) (q1 : Nat) (c1 : Int32), WP G RX9 cX9_steady 5 (some .int) false (d + 4) 0 0 0 0 Q 53 [some (.ref b), some (.int (nI j)), some (.ref lp), some (.int (stF (lPo (P.2.2.1 j)) 21 0 (-2))), none] [] (hUs h [b, b + 25, b + 26, pp, pp + 1, lp, lp + 1] [(oC 9 [.ref (b + 1), .ref (b + 14), .ref (b + 17), .ref (b + 19), .ref (b + 25), .ref (b + 29), .ref (b + 33), .ref pp, .int ht, .int (nI tp), .int sd, .int fa, .int pl, .int tr]), (oC 0 [.ref (b + 26), .ref q1, .int c1, .int s.2.1, .int s.2.2]), (aI 3 s.1), (oC 4 [.ref (pp + 1), .ref (pp + 10), .int (nI P.1), .int (nI P.2.1)]), (aR RX3 4 (plL pp)), (oC 3 [.ref (lp + 1), .int (P.2.2.1 j).1, .int (nI (lPo (P.2.2.1 j)).1), .int (lPo (P.2.2.1 j)).2.2.1, .int (P.2.2.1 j).2.2.2.2.1, .int (lPo (P.2.2.1 j)).2.2.2]), (aI 3 (lPo (P.2.2.1 j)).2.1)])) : ∀ (n : Nat) (i : Nat) (g : Int32) (s : cS) (q1 : Nat) (c1 : Int32), i + n = 21 → stF (lPo (P.2.2.1 j)) n i g = (stF (lPo (P.2.2.1 j)) 21 0 (-2)) → WP G RX9 cX9_steady 5 (some .int) false (d + 4) 0 0 0 0 Q 26 [some (.ref b), some (.int (nI j)), some (.ref lp), some (.int g), some (.int (nI (50 * i)))] [] (hUs h [b, b + 25, b + 26, pp, pp + 1, lp, lp + 1] [(oC 9 [.ref (b + 1), .ref (b + 14), .ref (b + 17), .ref (b + 19), .ref (b + 25), .ref (b + 29), .ref (b + 33), .ref pp, .int ht, .int (nI tp), .int sd, .int fa, .int pl, .int tr]), (oC 0 [.ref (b + 26), .ref q1, .int c1, .int s.2.1, .int s.2.2]), (aI 3 s.1), (oC 4 [.ref (pp + 1), .ref (pp + 10), .int (nI P.1), .int (nI P.2.1)]), (aR RX3 4 (plL pp)), (oC 3 [.ref (lp + 1), .int (P.2.2.1 j).1, .int (nI (lPo (P.2.2.1 j)).1), .int (lPo (P.2.2.1 j)).2.2.1, .int (P.2.2.1 j).2.2.2.2.1, .int (lPo (P.2.2.1 j)).2.2.2]), (aI 3 (lPo (P.2.2.1 j)).2.1)]) := by
  intro n
  induction n with
  | zero =>
    intro i g s q1 c1 hi e
    refine w_iload dX9_steady_26 rfl ?_
    refine w_sipush (v := 1000) dX9_steady_28 (by decide) ?_
    refine w_icmp_gt_t (tgt := 53) dX9_steady_31 rfl ((nI_ltI (a := 1000) (b := (50 * i)) (by omega) (by omega)).mpr (by omega)) ?_
    refine w_less (ls2 := [some (.ref b), some (.int (nI j)), some (.ref lp), some (.int g), none]) ⟨Or.inr rfl, Or.inr rfl, Or.inr rfl, Or.inr rfl, Or.inl rfl, trivial⟩ ?_
    rw [stF] at e
    rw [← e] at k
    exact k _ _ _
  | succ n ih =>
    intro i g s q1 c1 hi e
    refine w_iload dX9_steady_26 rfl ?_
    refine w_sipush (v := 1000) dX9_steady_28 (by decide) ?_
    refine w_icmp_gt_f (tgt := 53) dX9_steady_31 rfl (fun z => absurd ((nI_ltI (a := 1000) (b := (50 * i)) (by omega) (by omega)).mp z) (by omega)) ?_
    refine w_aload_n dX9_steady_34 rfl ?_
    refine w_aload_n dX9_steady_35 rfl ?_
    refine w_iload dX9_steady_36 rfl ?_
    refine w_callV (ci := 9) (d' := d + 3) (mc' := 0) (ms' := 0) (As := [.ref lp, .int (nI (50 * i))]) (st := []) lX9_267 vX9_staysUnclipped rfl (hUs_at nd 0 rfl rfl) rfl (Nat.le_of_ble_eq_true rfl) dX9_steady_38 (Nat.le_of_ble_eq_true rfl) (Nat.le_of_ble_eq_true rfl) (Nat.le_refl _) (c_staysUnclipped (L := (lPo (P.2.2.1 j))) (hHas_sub nd (as' := [b, b + 25, b + 26, lp, lp + 1]) (cs' := [(oC 9 [.ref (b + 1), .ref (b + 14), .ref (b + 17), .ref (b + 19), .ref (b + 25), .ref (b + 29), .ref (b + 33), .ref pp, .int ht, .int (nI tp), .int sd, .int fa, .int pl, .int tr]), (oC 0 [.ref (b + 26), .ref q1, .int c1, .int s.2.1, .int s.2.2]), (aI 3 s.1), (oC 3 [.ref (lp + 1), .int (P.2.2.1 j).1, .int (nI (lPo (P.2.2.1 j)).1), .int (lPo (P.2.2.1 j)).2.2.1, .int (P.2.2.1 j).2.2.2.2.1, .int (lPo (P.2.2.1 j)).2.2.2]), (aI 3 (lPo (P.2.2.1 j)).2.1)]) [0, 1, 2, 5, 6] rfl rfl) (nd_sub nd (as' := [b, b + 25, b + 26, lp, lp + 1]) [0, 1, 2, 5, 6] rfl rfl) hn (fun s9 => ?_))
    refine w_heq (hUs_in nd rfl [0, 1, 2, 5, 6] (cs2 := [(oC 9 [.ref (b + 1), .ref (b + 14), .ref (b + 17), .ref (b + 19), .ref (b + 25), .ref (b + 29), .ref (b + 33), .ref pp, .int ht, .int (nI tp), .int sd, .int fa, .int pl, .int tr]), (oC 0 [.ref (b + 26), .ref lp, .int 0, .int s9.2.1, .int s9.2.2]), (aI 3 s9.1), (oC 4 [.ref (pp + 1), .ref (pp + 10), .int (nI P.1), .int (nI P.2.1)]), (aR RX3 4 (plL pp)), (oC 3 [.ref (lp + 1), .int (P.2.2.1 j).1, .int (nI (lPo (P.2.2.1 j)).1), .int (lPo (P.2.2.1 j)).2.2.1, .int (P.2.2.1 j).2.2.2.2.1, .int (lPo (P.2.2.1 j)).2.2.2]), (aI 3 (lPo (P.2.2.1 j)).2.1)]) rfl rfl) ?_
    refine w_if_eq (tgt := 53) dX9_steady_41 rfl (fun b41 => ?_) (fun b41 => ?_)
    · refine w_less (ls2 := [some (.ref b), some (.int (nI j)), some (.ref lp), some (.int g), none]) ⟨Or.inr rfl, Or.inr rfl, Or.inr rfl, Or.inr rfl, Or.inl rfl, trivial⟩ ?_
      rw [stF, if_pos b41] at e
      rw [← e] at k
      exact k _ _ _
    · refine w_iload dX9_steady_44 rfl ?_
      refine w_istore_n (ls2 := [some (.ref b), some (.int (nI j)), some (.ref lp), some (.int (nI (50 * i))), some (.int (nI (50 * i)))]) dX9_steady_46 (by decide) rfl rfl ?_
      refine w_iinc (v := nI ((50 * i) + 50)) (ls2 := [some (.ref b), some (.int (nI j)), some (.ref lp), some (.int (nI (50 * i))), some (.int (nI ((50 * i) + 50)))]) dX9_steady_47 rfl (nI_add _ _) (by decide) rfl rfl ?_
      refine w_goto (tgt := 26) dX9_steady_50 rfl ?_
      rw [stF, if_neg b41] at e
      exact ih (i + 1) _ _ _ _ (by omega) e
set_option maxRecDepth 100000 in
set_option maxHeartbeats 4000000 in
theorem p_steady_s {G : wG} {d : Nat} {h : hH} {Q : Option Value → hH → Prop} {b : Nat} {ft : Nat → Int32} {tp : Nat} {P : pD} {ht : Int32} {R : Option rnD} {i0 i1 : imD} {sd fa pl tr : Int32}  {j : Nat} (hI : cI h b ft tp P ht R i0 i1 sd fa pl tr) (hj : j < P.1) (k : ∀ h2, cI h2 b ft tp P ht R i0 i1 sd fa (-1) (oSt P (nI j)).2 → cFr b h h2 → Q (some (.int (oSt P (nI j)).1)) h2) : Cl G yX9_steady (d + 4) 0 0 [.ref b, .int (nI j)] h Q := by
  refine cI_e hI ?_
  intro pp ps P2 go ln wn rsd c qw ql cn s fo fg fz i01 i02 i03 i04 i05 i06 i07 i11 i12 i13 i14 i15 i16 i17 wm fw f q0 c0 s1 q1 c1 s2 q2 c2 x hW hpp hP1 hP2 hR hi0 hi1 htp hpo hht
  obtain ⟨lp, hlp⟩ : ∃ z, z = pp + 2 + 2 * j := ⟨_, rfl⟩
  have hn : (lPo (P.2.2.1 j)).1 ≤ 3 := hpo.1 j hj
  have hwP : hHas h [pp, pp + 1, lp, lp + 1] [(oC 4 [.ref (pp + 1), .ref (pp + 10), .int (nI P.1), .int (nI P.2.1)]), (aR RX3 4 (plL pp)), (oC 3 [.ref (lp + 1), .int (P.2.2.1 j).1, .int (nI (lPo (P.2.2.1 j)).1), .int (lPo (P.2.2.1 j)).2.2.1, .int (P.2.2.1 j).2.2.2.2.1, .int (lPo (P.2.2.1 j)).2.2.2]), (aI 3 (lPo (P.2.2.1 j)).2.1)] := hHas_cons hP1.2.1 (hHas_cons hP1.2.2.1 (hlp ▸ hP1.2.2.2.2.1 j (Nat.lt_of_lt_of_le hj hP1.1.1)))
  have hw : hHas h [b, b + 25, b + 26, pp, pp + 1, lp, lp + 1] [(oC 9 [.ref (b + 1), .ref (b + 14), .ref (b + 17), .ref (b + 19), .ref (b + 25), .ref (b + 29), .ref (b + 33), .ref pp, .int ht, .int (nI tp), .int sd, .int fa, .int pl, .int tr]), (oC 0 [.ref (b + 26), .ref q1, .int c1, .int s1.2.1, .int s1.2.2]), (aI 3 s1.1), (oC 4 [.ref (pp + 1), .ref (pp + 10), .int (nI P.1), .int (nI P.2.1)]), (aR RX3 4 (plL pp)), (oC 3 [.ref (lp + 1), .int (P.2.2.1 j).1, .int (nI (lPo (P.2.2.1 j)).1), .int (lPo (P.2.2.1 j)).2.2.1, .int (P.2.2.1 j).2.2.2.2.1, .int (lPo (P.2.2.1 j)).2.2.2]), (aI 3 (lPo (P.2.2.1 j)).2.1)] := hHas_app hwP (as := [b, b + 25, b + 26]) (cs := [(oC 9 [.ref (b + 1), .ref (b + 14), .ref (b + 17), .ref (b + 19), .ref (b + 25), .ref (b + 29), .ref (b + 33), .ref pp, .int ht, .int (nI tp), .int sd, .int fa, .int pl, .int tr]), (oC 0 [.ref (b + 26), .ref q1, .int c1, .int s1.2.1, .int s1.2.2]), (aI 3 s1.1)]) rfl (hHas_s hW [0, 16, 17] rfl rfl)
  have nd : [b, b + 25, b + 26, pp, pp + 1, lp, lp + 1].Nodup := by
    rcases hpp with ⟨h9, h8⟩ | ⟨h9, h8⟩ <;> exact (nd_inc ⟨by omega, by omega, by omega, by omega, by omega, by omega, trivial⟩)
  refine Cl.of (ini := false) kX9_steady (plainFor_of_name (by decide)) (by decide) (Nat.le_of_ble_eq_true rfl) rfl rfl (fun z => by cases z) ?_
  refine w_heq (hUs_id hw).symm ?_
  refine w_aload_n dX9_steady_0 rfl ?_
  refine w_get (v := .ref pp) fX9_57 (hUs_at nd 0 rfl rfl) rfl dX9_steady_1 ?_
  refine w_iload_n dX9_steady_4 rfl ?_
  refine w_callV (ci := 4) (d' := d + 3) (mc' := 0) (ms' := 0) (As := [.int (nI j)]) (st := []) lX9_107 vX4_loopAt rfl (hUs_at nd 3 rfl rfl) rfl (Nat.le_of_ble_eq_true rfl) dX9_steady_5 (Nat.le_of_ble_eq_true rfl) (Nat.le_of_ble_eq_true rfl) (Nat.le_refl _) (c_loopAt_s (hHas_sub nd (as' := [pp, pp + 1]) (cs' := [(oC 4 [.ref (pp + 1), .ref (pp + 10), .int (nI P.1), .int (nI P.2.1)]), (aR RX3 4 (plL pp))]) [3, 4] rfl rfl) hj hP1.1.1 (show plL pp j = some lp by rw [hlp]; rfl) ?_)
  refine w_astore_n (ls2 := [some (.ref b), some (.int (nI j)), some (.ref lp), none, none]) dX9_steady_8 (by decide) rfl rfl ?_
  refine w_aload_n dX9_steady_9 rfl ?_
  refine w_ifnonnull (tgt := 20) dX9_steady_10 rfl ?_
  refine w_bipush (v := (-2)) dX9_steady_20 (by decide) ?_
  refine w_istore_n (ls2 := [some (.ref b), some (.int (nI j)), some (.ref lp), some (.int (-2)), none]) dX9_steady_22 (by decide) rfl rfl ?_
  refine w_iconst (v := (nI 0)) dX9_steady_23 (by decide) ?_
  refine w_istore (ls2 := [some (.ref b), some (.int (nI j)), some (.ref lp), some (.int (-2)), some (.int (nI 0))]) dX9_steady_24 (by decide) rfl rfl ?_
  refine l_steady nd hn (fun s8 q8 c8 => ?_) 21 0 (-2) s1 q1 c1 rfl rfl
  refine w_aload_n dX9_steady_53 rfl ?_
  refine w_iload_n dX9_steady_54 rfl ?_
  refine w_callV (ci := 9) (d' := d + 3) (mc' := 0) (ms' := 0) (As := [.int (stF (lPo (P.2.2.1 j)) 21 0 (-2))]) (st := []) lX9_96 vX9_granted rfl (hUs_at nd 0 rfl rfl) rfl (Nat.le_of_ble_eq_true rfl) dX9_steady_55 (Nat.le_of_ble_eq_true rfl) (Nat.le_of_ble_eq_true rfl) (Nat.le_refl _) (c_granted (hHas_sub nd (as' := [b]) (cs' := [(oC 9 [.ref (b + 1), .ref (b + 14), .ref (b + 17), .ref (b + 19), .ref (b + 25), .ref (b + 29), .ref (b + 33), .ref pp, .int ht, .int (nI tp), .int sd, .int fa, .int pl, .int tr])]) [0] rfl rfl) (nd_sub nd (as' := [b]) [0] rfl rfl)  ?_)
  refine w_heq (hUs_in nd rfl [0] (cs2 := [(oC 9 [.ref (b + 1), .ref (b + 14), .ref (b + 17), .ref (b + 19), .ref (b + 25), .ref (b + 29), .ref (b + 33), .ref pp, .int ht, .int (nI tp), .int sd, .int fa, .int (-1), .int 0]), (oC 0 [.ref (b + 26), .ref q8, .int c8, .int s8.2.1, .int s8.2.2]), (aI 3 s8.1), (oC 4 [.ref (pp + 1), .ref (pp + 10), .int (nI P.1), .int (nI P.2.1)]), (aR RX3 4 (plL pp)), (oC 3 [.ref (lp + 1), .int (P.2.2.1 j).1, .int (nI (lPo (P.2.2.1 j)).1), .int (lPo (P.2.2.1 j)).2.2.1, .int (P.2.2.1 j).2.2.2.2.1, .int (lPo (P.2.2.1 j)).2.2.2]), (aI 3 (lPo (P.2.2.1 j)).2.1)]) rfl rfl) ?_
  refine w_ireturn rfl dX9_steady_58 (Nat.le_of_ble_eq_true rfl) (Nat.le_of_ble_eq_true rfl) ?_
  have e : oSt P (nI j) = ((stF (lPo (P.2.2.1 j)) 21 0 (-2)), 0) := by
    simp [oSt, ixN_s hj (Nat.le_trans hP1.1.1 (by decide))]
  rw [e] at k
  rw [show (hUs h [b, b + 25, b + 26, pp, pp + 1, lp, lp + 1] [(oC 9 [.ref (b + 1), .ref (b + 14), .ref (b + 17), .ref (b + 19), .ref (b + 25), .ref (b + 29), .ref (b + 33), .ref pp, .int ht, .int (nI tp), .int sd, .int fa, .int (-1), .int 0]), (oC 0 [.ref (b + 26), .ref q8, .int c8, .int s8.2.1, .int s8.2.2]), (aI 3 s8.1), (oC 4 [.ref (pp + 1), .ref (pp + 10), .int (nI P.1), .int (nI P.2.1)]), (aR RX3 4 (plL pp)), (oC 3 [.ref (lp + 1), .int (P.2.2.1 j).1, .int (nI (lPo (P.2.2.1 j)).1), .int (lPo (P.2.2.1 j)).2.2.1, .int (P.2.2.1 j).2.2.2.2.1, .int (lPo (P.2.2.1 j)).2.2.2]), (aI 3 (lPo (P.2.2.1 j)).2.1)]) = hUs h [b, b + 25, b + 26] [(oC 9 [.ref (b + 1), .ref (b + 14), .ref (b + 17), .ref (b + 19), .ref (b + 25), .ref (b + 29), .ref (b + 33), .ref pp, .int ht, .int (nI tp), .int sd, .int fa, .int (-1), .int 0]), (oC 0 [.ref (b + 26), .ref q8, .int c8, .int s8.2.1, .int s8.2.2]), (aI 3 s8.1)] from hUs_tail (as := [b, b + 25, b + 26]) (cs := [(oC 9 [.ref (b + 1), .ref (b + 14), .ref (b + 17), .ref (b + 19), .ref (b + 25), .ref (b + 29), .ref (b + 33), .ref pp, .int ht, .int (nI tp), .int sd, .int fa, .int (-1), .int 0]), (oC 0 [.ref (b + 26), .ref q8, .int c8, .int s8.2.1, .int s8.2.2]), (aI 3 s8.1)]) hwP rfl]
  exact k _ (cI_i (cI_put hW (cAs_nd b) rfl [0, 16, 17] (cs2 := [(oC 9 [.ref (b + 1), .ref (b + 14), .ref (b + 17), .ref (b + 19), .ref (b + 25), .ref (b + 29), .ref (b + 33), .ref pp, .int ht, .int (nI tp), .int sd, .int fa, .int (-1), .int 0]), (oC 6 [.ref (b + 2), .ref (b + 6), .ref (b + 7), .ref (b + 8), .ref qw, .int go, .int ln, .int wn, .int rsd, .int (nI c)]), (oC 0 [.ref (b + 3), .ref ql, .int cn, .int s.2.1, .int s.2.2]), (aI 3 s.1), (aB 4096 fo), (aI 4096 fg), (aI 3 fz), (aR RX2 2 (imR b)), (oC 2 [.int i01, .int i02, .int i03, .int i04, .int i05, .int i06, .int i07]), (oC 2 [.int i11, .int i12, .int i13, .int i14, .int i15, .int i16, .int i17]), (oC 8 [.ref (b + 18), .int wm]), (aI 94 fw), (oC 1 [.ref (b + 20), .ref (b + 24), .int f.2.2.1.1, .int f.2.2.1.2.1, .int f.2.2.2.1, .int f.2.2.1.2.2.1, .int f.2.2.1.2.2.2.1, .int f.2.2.1.2.2.2.2.1, .int f.2.2.1.2.2.2.2.2]), (oC 0 [.ref (b + 21), .ref q0, .int c0, .int f.1.2.1, .int f.1.2.2]), (aI 3 f.1.1), (aI 3 f.2.1), (oC 0 [.ref (b + 26), .ref q8, .int c8, .int s8.2.1, .int s8.2.2]), (aI 3 s8.1), (oC 0 [.ref (b + 30), .ref q2, .int c2, .int s2.2.1, .int s2.2.2]), (aI 3 s2.1), (oC 5 (rdF (b + 34) ps x)), (aB 600 ft)]) rfl rfl) hpp (hPl_o hP1 (by intro a ha; simp only [List.mem_cons, List.not_mem_nil, or_false] at ha; rcases hpp with hpp | hpp <;> omega)) (hPl_o hP2 (by intro a ha; simp only [List.mem_cons, List.not_mem_nil, or_false] at ha; rcases hpp with hpp | hpp <;> omega)) hR hi0 hi1 htp hpo hht) (cFr_of (by intro a ha; simp only [List.mem_cons, List.not_mem_nil, or_false] at ha; omega))
set_option maxRecDepth 100000 in
set_option maxHeartbeats 4000000 in
theorem p_steady_n {G : wG} {d : Nat} {h : hH} {Q : Option Value → hH → Prop} {b : Nat} {ft : Nat → Int32} {tp : Nat} {P : pD} {ht : Int32} {R : Option rnD} {i0 i1 : imD} {sd fa pl tr : Int32}  {l : Int32} (hI : cI h b ft tp P ht R i0 i1 sd fa pl tr) (hl : ¬ ∃ j, j < P.1 ∧ l = nI j) (k : ∀ h2, cI h2 b ft tp P ht R i0 i1 sd fa (-1) (oSt P l).2 → cFr b h h2 → Q (some (.int (oSt P l).1)) h2) : Cl G yX9_steady (d + 4) 0 0 [.ref b, .int l] h Q := by
  refine cI_e hI ?_
  intro pp ps P2 go ln wn rsd c qw ql cn s fo fg fz i01 i02 i03 i04 i05 i06 i07 i11 i12 i13 i14 i15 i16 i17 wm fw f q0 c0 s1 q1 c1 s2 q2 c2 x hW hpp hP1 hP2 hR hi0 hi1 htp hpo hht
  have hwP : hHas h [pp] [(oC 4 [.ref (pp + 1), .ref (pp + 10), .int (nI P.1), .int (nI P.2.1)])] := hHas_cons hP1.2.1 hHas_nil
  have hw : hHas h [b, pp] [(oC 9 [.ref (b + 1), .ref (b + 14), .ref (b + 17), .ref (b + 19), .ref (b + 25), .ref (b + 29), .ref (b + 33), .ref pp, .int ht, .int (nI tp), .int sd, .int fa, .int pl, .int tr]), (oC 4 [.ref (pp + 1), .ref (pp + 10), .int (nI P.1), .int (nI P.2.1)])] := hHas_app hwP (as := [b]) (cs := [(oC 9 [.ref (b + 1), .ref (b + 14), .ref (b + 17), .ref (b + 19), .ref (b + 25), .ref (b + 29), .ref (b + 33), .ref pp, .int ht, .int (nI tp), .int sd, .int fa, .int pl, .int tr])]) rfl (hHas_s hW [0] rfl rfl)
  have nd : [b, pp].Nodup := by
    rcases hpp with ⟨h9, h8⟩ | ⟨h9, h8⟩ <;> exact (nd_inc ⟨by omega, trivial⟩)
  refine Cl.of (ini := false) kX9_steady (plainFor_of_name (by decide)) (by decide) (Nat.le_of_ble_eq_true rfl) rfl rfl (fun z => by cases z) ?_
  refine w_heq (hUs_id hw).symm ?_
  refine w_aload_n dX9_steady_0 rfl ?_
  refine w_get (v := .ref pp) fX9_57 (hUs_at nd 0 rfl rfl) rfl dX9_steady_1 ?_
  refine w_iload_n dX9_steady_4 rfl ?_
  refine w_callV (ci := 4) (d' := d + 3) (mc' := 0) (ms' := 0) (As := [.int l]) (st := []) lX9_107 vX4_loopAt rfl (hUs_at nd 1 rfl rfl) rfl (Nat.le_of_ble_eq_true rfl) dX9_steady_5 (Nat.le_of_ble_eq_true rfl) (Nat.le_of_ble_eq_true rfl) (Nat.le_refl _) (c_loopAt_n (hHas_sub nd (as' := [pp]) (cs' := [(oC 4 [.ref (pp + 1), .ref (pp + 10), .int (nI P.1), .int (nI P.2.1)])]) [1] rfl rfl) hl hP1.1.1 ?_)
  refine w_astore_nN (ls2 := [some (.ref b), some (.int l), some (.null), none, none]) dX9_steady_8 (by decide) rfl rfl ?_
  refine w_aload_nN dX9_steady_9 rfl ?_
  refine w_ifnonnullN dX9_steady_10 ?_
  refine w_aload_n dX9_steady_13 rfl ?_
  refine w_iconst (v := 1) dX9_steady_14 (by decide) ?_
  refine w_iconst (v := (-1)) dX9_steady_15 (by decide) ?_
  refine w_callV (ci := 9) (d' := d + 3) (mc' := 0) (ms' := 0) (As := [.int 1, .int (-1)]) (st := []) lX9_75 vX9_refused rfl (hUs_at nd 0 rfl rfl) rfl (Nat.le_of_ble_eq_true rfl) dX9_steady_16 (Nat.le_of_ble_eq_true rfl) (Nat.le_of_ble_eq_true rfl) (Nat.le_refl _) (c_refused (hHas_sub nd (as' := [b]) (cs' := [(oC 9 [.ref (b + 1), .ref (b + 14), .ref (b + 17), .ref (b + 19), .ref (b + 25), .ref (b + 29), .ref (b + 33), .ref pp, .int ht, .int (nI tp), .int sd, .int fa, .int pl, .int tr])]) [0] rfl rfl) (nd_sub nd (as' := [b]) [0] rfl rfl)  ?_)
  refine w_heq (hUs_in nd rfl [0] (cs2 := [(oC 9 [.ref (b + 1), .ref (b + 14), .ref (b + 17), .ref (b + 19), .ref (b + 25), .ref (b + 29), .ref (b + 33), .ref pp, .int ht, .int (nI tp), .int sd, .int fa, .int (-1), .int 1]), (oC 4 [.ref (pp + 1), .ref (pp + 10), .int (nI P.1), .int (nI P.2.1)])]) rfl rfl) ?_
  refine w_ireturn rfl dX9_steady_19 (Nat.le_of_ble_eq_true rfl) (Nat.le_of_ble_eq_true rfl) ?_
  have e : oSt P l = ((-1), 1) := by
    simp [oSt, ixN_n hl (Nat.le_trans hP1.1.1 (by decide))]
  rw [e] at k
  rw [show (hUs h [b, pp] [(oC 9 [.ref (b + 1), .ref (b + 14), .ref (b + 17), .ref (b + 19), .ref (b + 25), .ref (b + 29), .ref (b + 33), .ref pp, .int ht, .int (nI tp), .int sd, .int fa, .int (-1), .int 1]), (oC 4 [.ref (pp + 1), .ref (pp + 10), .int (nI P.1), .int (nI P.2.1)])]) = hUs h [b] [(oC 9 [.ref (b + 1), .ref (b + 14), .ref (b + 17), .ref (b + 19), .ref (b + 25), .ref (b + 29), .ref (b + 33), .ref pp, .int ht, .int (nI tp), .int sd, .int fa, .int (-1), .int 1])] from hUs_tail (as := [b]) (cs := [(oC 9 [.ref (b + 1), .ref (b + 14), .ref (b + 17), .ref (b + 19), .ref (b + 25), .ref (b + 29), .ref (b + 33), .ref pp, .int ht, .int (nI tp), .int sd, .int fa, .int (-1), .int 1])]) hwP rfl]
  exact k _ (cI_i (cI_put hW (cAs_nd b) rfl [0] (cs2 := [(oC 9 [.ref (b + 1), .ref (b + 14), .ref (b + 17), .ref (b + 19), .ref (b + 25), .ref (b + 29), .ref (b + 33), .ref pp, .int ht, .int (nI tp), .int sd, .int fa, .int (-1), .int 1]), (oC 6 [.ref (b + 2), .ref (b + 6), .ref (b + 7), .ref (b + 8), .ref qw, .int go, .int ln, .int wn, .int rsd, .int (nI c)]), (oC 0 [.ref (b + 3), .ref ql, .int cn, .int s.2.1, .int s.2.2]), (aI 3 s.1), (aB 4096 fo), (aI 4096 fg), (aI 3 fz), (aR RX2 2 (imR b)), (oC 2 [.int i01, .int i02, .int i03, .int i04, .int i05, .int i06, .int i07]), (oC 2 [.int i11, .int i12, .int i13, .int i14, .int i15, .int i16, .int i17]), (oC 8 [.ref (b + 18), .int wm]), (aI 94 fw), (oC 1 [.ref (b + 20), .ref (b + 24), .int f.2.2.1.1, .int f.2.2.1.2.1, .int f.2.2.2.1, .int f.2.2.1.2.2.1, .int f.2.2.1.2.2.2.1, .int f.2.2.1.2.2.2.2.1, .int f.2.2.1.2.2.2.2.2]), (oC 0 [.ref (b + 21), .ref q0, .int c0, .int f.1.2.1, .int f.1.2.2]), (aI 3 f.1.1), (aI 3 f.2.1), (oC 0 [.ref (b + 26), .ref q1, .int c1, .int s1.2.1, .int s1.2.2]), (aI 3 s1.1), (oC 0 [.ref (b + 30), .ref q2, .int c2, .int s2.2.1, .int s2.2.2]), (aI 3 s2.1), (oC 5 (rdF (b + 34) ps x)), (aB 600 ft)]) rfl rfl) hpp (hPl_o hP1 (by intro a ha; simp only [List.mem_cons, List.not_mem_nil, or_false] at ha; rcases hpp with hpp | hpp <;> omega)) (hPl_o hP2 (by intro a ha; simp only [List.mem_cons, List.not_mem_nil, or_false] at ha; rcases hpp with hpp | hpp <;> omega)) hR hi0 hi1 htp hpo hht) (cFr_of (by intro a ha; simp only [List.mem_cons, List.not_mem_nil, or_false] at ha; omega))
theorem p_steady {G : wG} {d : Nat} {h : hH} {Q : Option Value → hH → Prop} {b : Nat} {ft : Nat → Int32} {tp : Nat} {P : pD} {ht : Int32} {R : Option rnD} {i0 i1 : imD} {sd fa pl tr : Int32} {l : Int32} (hI : cI h b ft tp P ht R i0 i1 sd fa pl tr) (k : ∀ h2, cI h2 b ft tp P ht R i0 i1 sd fa (-1) (oSt P l).2 → cFr b h h2 → Q (some (.int (oSt P l).1)) h2) : Cl G yX9_steady (d + 4) 0 0 [.ref b, .int l] h Q := by
  by_cases hl : ∃ j, j < P.1 ∧ l = nI j
  · obtain ⟨j, hj, rfl⟩ := hl
    exact p_steady_s hI hj k
  · exact p_steady_n hI hl k
theorem smN_fit {M Y c i : Nat} (h : i < smN M Y c) : i * Y + (1 + M * (Y - 1)) ≤ c := by
  unfold smN at h
  by_cases e : M * (Y - 1) < c
  · rw [if_pos e] at h
    have h2 : i * Y ≤ (c - 1 - M * (Y - 1)) := Nat.le_trans (Nat.mul_le_mul_right Y (Nat.le_of_lt_succ h)) (Nat.div_mul_le_self _ _)
    omega
  · rw [if_neg e] at h; exact absurd h (Nat.not_lt_zero i)
theorem smN_le {M Y c : Nat} (hY : 2 ≤ Y) : smN M Y c ≤ c := by
  unfold smN
  by_cases e : M * (Y - 1) < c
  · rw [if_pos e]
    have h2 : (c - 1 - M * (Y - 1)) / Y ≤ c - 1 - M * (Y - 1) := Nat.div_le_self _ _
    omega
  · rw [if_neg e]; exact Nat.zero_le _
/-- SUMMED number i of the order M by Y, over a row -/
def wsF (F : Nat → Int32) (M Y i : Nat) : Int32 := fld (fun j s => s + wgtF Y M j * F (i * Y + j)) 0 (1 + M * (Y - 1)) 0
theorem wsF_c {f g : Nat → Int32} {c M Y i : Nat} (h : ∀ t, t < c → f t = g t) (hi : i * Y + (1 + M * (Y - 1)) ≤ c) : wsF f M Y i = wsF g M Y i := by
  unfold wsF
  exact fld_c 0 _ _ (fun t h1 h2 => by funext s; rw [h (i * Y + t) (by omega)])
def woF (F : Nat → Int32) (M Y c : Nat) : Int32 := fld (fun i s => mxI s (abI (wsF F M Y i))) 0 (smN M Y c) 0
theorem woF_c {f g : Nat → Int32} {c M Y : Nat} (h : ∀ t, t < c → f t = g t) : woF f M Y c = woF g M Y c := by
  unfold woF
  exact fld_c 0 _ _ (fun t h1 h2 => by funext s; rw [wsF_c h (smN_fit (by omega))])
def oSatF (F : Nat → Int32) (c : Nat) (m y u : Int32) : Int32 × Int32 := if smB m y = 0 ∨ u < 0 ∨ nI (smN (tN m) (tN y) c) ≤ u then (-1000000000, 2) else (wsF F (tN m) (tN y) (tN u), 0)
theorem oSatF_c {f g : Nat → Int32} {c : Nat} (h : ∀ t, t < c → f t = g t) (hc : c ≤ 4096) (m y u : Int32) : oSatF f c m y u = oSatF g c m y u := by
  unfold oSatF
  by_cases e : smB m y = 0 ∨ u < 0 ∨ nI (smN (tN m) (tN y) c) ≤ u
  · rw [if_pos e, if_pos e]
  · rw [if_neg e, if_neg e]
    obtain ⟨M, Y, hM, hY, hY2, rfl, rfl⟩ := smB_n (fun z => e (Or.inl z))
    have hsl := smN_le (M := tN (nI M)) (Y := tN (nI Y)) (c := c) (by rw [show tN (nI Y) = Y from nI_clamp (by omega)]; exact hY)
    obtain ⟨w9, hw9, rfl⟩ := in3 (fun z => e (Or.inr (Or.inl z))) (Int32.not_le.mp (fun z => e (Or.inr (Or.inr z)))) (show smN (tN (nI M)) (tN (nI Y)) c < 2 ^ 31 by omega)
    rw [show tN (nI w9) = w9 from nI_clamp (by omega), wsF_c h (smN_fit hw9)]
def oSat (P : pD) (R : Option rnD) (m y u : Int32) : Int32 × Int32 := match R with
  | none => (-1000000000, 1)
  | some r => oSatF (rO (rQo P r.1 r.2.1 r.2.2.1)) r.2.2.2 m y u
set_option maxRecDepth 100000 in
set_option maxHeartbeats 4000000 in
theorem p_summedAt_n {G : wG} {d : Nat} {h : hH} {Q : Option Value → hH → Prop} {b : Nat} {ft : Nat → Int32} {tp : Nat} {P : pD} {ht : Int32} {i0 i1 : imD} {sd fa pl tr : Int32}  {m y u : Int32} (hI : cI h b ft tp P ht none i0 i1 sd fa pl tr)  (k : ∀ h2, cI h2 b ft tp P ht none i0 i1 sd fa (-1) (oSat P none m y u).2 → cFr b h h2 → Q (some (.int (oSat P none m y u).1)) h2) : Cl G yX9_summedAt (d + 2) 0 0 [.ref b, .int m, .int y, .int u] h Q := by
  refine cI_e hI ?_
  intro pp ps P2 go ln wn rsd c qw ql cn s fo fg fz i01 i02 i03 i04 i05 i06 i07 i11 i12 i13 i14 i15 i16 i17 wm fw f q0 c0 s1 q1 c1 s2 q2 c2 x hW hpp hP1 hP2 hR hi0 hi1 htp hpo hht
  have hgo : go = 0 := hR
  subst hgo
  have hw : hHas h [b, b + 1] [(oC 9 [.ref (b + 1), .ref (b + 14), .ref (b + 17), .ref (b + 19), .ref (b + 25), .ref (b + 29), .ref (b + 33), .ref pp, .int ht, .int (nI tp), .int sd, .int fa, .int pl, .int tr]), (oC 6 [.ref (b + 2), .ref (b + 6), .ref (b + 7), .ref (b + 8), .ref qw, .int 0, .int ln, .int wn, .int rsd, .int (nI c)])] := hHas_s hW [0, 1] rfl rfl
  have nd : [b, b + 1].Nodup := (nd_inc ⟨by omega, trivial⟩)
  refine Cl.of (ini := false) kX9_summedAt (plainFor_of_name (by decide)) (by decide) (Nat.le_of_ble_eq_true rfl) rfl rfl (fun z => by cases z) ?_
  refine w_heq (hUs_id hw).symm ?_
  refine w_aload_n dX9_summedAt_0 rfl ?_
  refine w_get (v := .ref (b + 1)) fX9_10 (hUs_at nd 0 rfl rfl) rfl dX9_summedAt_1 ?_
  refine w_get (v := .int 0) fX9_139 (hUs_at nd 1 rfl rfl) rfl dX9_summedAt_4 ?_
  refine w_if_ne_f (tgt := 18) dX9_summedAt_7 rfl (by decide) ?_
  refine w_aload_n dX9_summedAt_10 rfl ?_
  refine w_iconst (v := 1) dX9_summedAt_11 (by decide) ?_
  refine w_ldc nX9_120 dX9_summedAt_12 ?_
  refine w_callV (ci := 9) (d' := d + 1) (mc' := 0) (ms' := 0) (As := [.int 1, .int (-1000000000)]) (st := []) lX9_75 vX9_refused rfl (hUs_at nd 0 rfl rfl) rfl (Nat.le_of_ble_eq_true rfl) dX9_summedAt_14 (Nat.le_of_ble_eq_true rfl) (Nat.le_of_ble_eq_true rfl) (Nat.le_refl _) (c_refused (hHas_sub nd (as' := [b]) (cs' := [(oC 9 [.ref (b + 1), .ref (b + 14), .ref (b + 17), .ref (b + 19), .ref (b + 25), .ref (b + 29), .ref (b + 33), .ref pp, .int ht, .int (nI tp), .int sd, .int fa, .int pl, .int tr])]) [0] rfl rfl) (nd_sub nd (as' := [b]) [0] rfl rfl)  ?_)
  refine w_heq (hUs_in nd rfl [0] (cs2 := [(oC 9 [.ref (b + 1), .ref (b + 14), .ref (b + 17), .ref (b + 19), .ref (b + 25), .ref (b + 29), .ref (b + 33), .ref pp, .int ht, .int (nI tp), .int sd, .int fa, .int (-1), .int 1]), (oC 6 [.ref (b + 2), .ref (b + 6), .ref (b + 7), .ref (b + 8), .ref qw, .int 0, .int ln, .int wn, .int rsd, .int (nI c)])]) rfl rfl) ?_
  refine w_ireturn rfl dX9_summedAt_17 (Nat.le_of_ble_eq_true rfl) (Nat.le_of_ble_eq_true rfl) ?_
  have e : oSat P none m y u = ((-1000000000), 1) := by
    simp [oSat]
  rw [e] at k
  exact k _ (cI_i (cI_put hW (cAs_nd b) rfl [0, 1] (cs2 := [(oC 9 [.ref (b + 1), .ref (b + 14), .ref (b + 17), .ref (b + 19), .ref (b + 25), .ref (b + 29), .ref (b + 33), .ref pp, .int ht, .int (nI tp), .int sd, .int fa, .int (-1), .int 1]), (oC 6 [.ref (b + 2), .ref (b + 6), .ref (b + 7), .ref (b + 8), .ref qw, .int 0, .int ln, .int wn, .int rsd, .int (nI c)]), (oC 0 [.ref (b + 3), .ref ql, .int cn, .int s.2.1, .int s.2.2]), (aI 3 s.1), (aB 4096 fo), (aI 4096 fg), (aI 3 fz), (aR RX2 2 (imR b)), (oC 2 [.int i01, .int i02, .int i03, .int i04, .int i05, .int i06, .int i07]), (oC 2 [.int i11, .int i12, .int i13, .int i14, .int i15, .int i16, .int i17]), (oC 8 [.ref (b + 18), .int wm]), (aI 94 fw), (oC 1 [.ref (b + 20), .ref (b + 24), .int f.2.2.1.1, .int f.2.2.1.2.1, .int f.2.2.2.1, .int f.2.2.1.2.2.1, .int f.2.2.1.2.2.2.1, .int f.2.2.1.2.2.2.2.1, .int f.2.2.1.2.2.2.2.2]), (oC 0 [.ref (b + 21), .ref q0, .int c0, .int f.1.2.1, .int f.1.2.2]), (aI 3 f.1.1), (aI 3 f.2.1), (oC 0 [.ref (b + 26), .ref q1, .int c1, .int s1.2.1, .int s1.2.2]), (aI 3 s1.1), (oC 0 [.ref (b + 30), .ref q2, .int c2, .int s2.2.1, .int s2.2.2]), (aI 3 s2.1), (oC 5 (rdF (b + 34) ps x)), (aB 600 ft)]) rfl rfl) hpp (hPl_o hP1 (by intro a ha; simp only [List.mem_cons, List.not_mem_nil, or_false] at ha; rcases hpp with hpp | hpp <;> omega)) (hPl_o hP2 (by intro a ha; simp only [List.mem_cons, List.not_mem_nil, or_false] at ha; rcases hpp with hpp | hpp <;> omega)) hR hi0 hi1 htp hpo hht) (cFr_of (by intro a ha; simp only [List.mem_cons, List.not_mem_nil, or_false] at ha; omega))
set_option maxRecDepth 100000 in
set_option maxHeartbeats 4000000 in
theorem p_summedAt_s {G : wG} {d : Nat} {h : hH} {Q : Option Value → hH → Prop} {b : Nat} {ft : Nat → Int32} {tp : Nat} {P : pD} {ht : Int32} {i0 i1 : imD} {sd fa pl tr : Int32}  {l w cc : Nat} {rs : Int32} {m y u : Int32} (hI : cI h b ft tp P ht (some (l, w, rs, cc)) i0 i1 sd fa pl tr)  (k : ∀ h2, cI h2 b ft tp P ht (some (l, w, rs, cc)) i0 i1 sd fa (-1) (oSat P (some (l, w, rs, cc)) m y u).2 → cFr b h h2 → Q (some (.int (oSat P (some (l, w, rs, cc)) m y u).1)) h2) : Cl G yX9_summedAt (d + 2) 0 0 [.ref b, .int m, .int y, .int u] h Q := by
  refine cI_e hI ?_
  intro pp ps P2 go ln wn rsd c qw ql cn s fo fg fz i01 i02 i03 i04 i05 i06 i07 i11 i12 i13 i14 i15 i16 i17 wm fw f q0 c0 s1 q1 c1 s2 q2 c2 x hW hpp hP1 hP2 hR hi0 hi1 htp hpo hht
  have hR0 := hR
  simp only [rIv] at hR
  obtain ⟨hrn, hgo, hln, hwn, hrs, hcc, hqw, hql, hcn, hs, hfo, hfg, hfz⟩ := hR
  subst hgo; subst hln; subst hwn; subst hrs; subst hcc
  have hc : c ≤ 4096 := hrn.2.2
  rw [show oSat P (some (l, w, rsd, c)) m y u = oSatF fo c m y u from (oSatF_c hfo hc m y u).symm] at k
  
  have hw : hHas h [b, b + 1, b + 6, b + 17, b + 18] [(oC 9 [.ref (b + 1), .ref (b + 14), .ref (b + 17), .ref (b + 19), .ref (b + 25), .ref (b + 29), .ref (b + 33), .ref pp, .int ht, .int (nI tp), .int sd, .int fa, .int pl, .int tr]), (oC 6 [.ref (b + 2), .ref (b + 6), .ref (b + 7), .ref (b + 8), .ref qw, .int 1, .int (nI l), .int (nI w), .int rsd, .int (nI c)]), (aB 4096 fo), (oC 8 [.ref (b + 18), .int wm]), (aI 94 fw)] := hHas_s hW [0, 1, 4, 10, 11] rfl rfl
  have nd : [b, b + 1, b + 6, b + 17, b + 18].Nodup := (nd_inc ⟨by omega, by omega, by omega, by omega, trivial⟩)
  refine Cl.of (ini := false) kX9_summedAt (plainFor_of_name (by decide)) (by decide) (Nat.le_of_ble_eq_true rfl) rfl rfl (fun z => by cases z) ?_
  refine w_heq (hUs_id hw).symm ?_
  refine w_aload_n dX9_summedAt_0 rfl ?_
  refine w_get (v := .ref (b + 1)) fX9_10 (hUs_at nd 0 rfl rfl) rfl dX9_summedAt_1 ?_
  refine w_get (v := .int 1) fX9_139 (hUs_at nd 1 rfl rfl) rfl dX9_summedAt_4 ?_
  refine w_if_ne_t (tgt := 18) dX9_summedAt_7 rfl (by decide) ?_
  refine w_iload_n dX9_summedAt_18 rfl ?_
  refine w_iload_n dX9_summedAt_19 rfl ?_
  refine w_callS (d' := d + 1) (mc' := 0) (ms' := 0) (As := [.int m, .int y]) (st := []) lX9_209 vX9_isSumming rfl (Nat.le_of_ble_eq_true rfl) dX9_summedAt_20 (Nat.le_of_ble_eq_true rfl) (Nat.le_of_ble_eq_true rfl) (Nat.le_refl _) (c_isSumming ?_)
  refine w_if_eq (tgt := 43) dX9_summedAt_23 rfl (fun b23 => ?_) (fun b23 => ?_)
  · refine w_aload_n dX9_summedAt_43 rfl ?_
    refine w_iconst (v := 2) dX9_summedAt_44 (by decide) ?_
    refine w_ldc nX9_120 dX9_summedAt_45 ?_
    refine w_callV (ci := 9) (d' := d + 1) (mc' := 0) (ms' := 0) (As := [.int 2, .int (-1000000000)]) (st := []) lX9_75 vX9_refused rfl (hUs_at nd 0 rfl rfl) rfl (Nat.le_of_ble_eq_true rfl) dX9_summedAt_47 (Nat.le_of_ble_eq_true rfl) (Nat.le_of_ble_eq_true rfl) (Nat.le_refl _) (c_refused (hHas_sub nd (as' := [b]) (cs' := [(oC 9 [.ref (b + 1), .ref (b + 14), .ref (b + 17), .ref (b + 19), .ref (b + 25), .ref (b + 29), .ref (b + 33), .ref pp, .int ht, .int (nI tp), .int sd, .int fa, .int pl, .int tr])]) [0] rfl rfl) (nd_sub nd (as' := [b]) [0] rfl rfl)  ?_)
    refine w_heq (hUs_in nd rfl [0] (cs2 := [(oC 9 [.ref (b + 1), .ref (b + 14), .ref (b + 17), .ref (b + 19), .ref (b + 25), .ref (b + 29), .ref (b + 33), .ref pp, .int ht, .int (nI tp), .int sd, .int fa, .int (-1), .int 2]), (oC 6 [.ref (b + 2), .ref (b + 6), .ref (b + 7), .ref (b + 8), .ref qw, .int 1, .int (nI l), .int (nI w), .int rsd, .int (nI c)]), (aB 4096 fo), (oC 8 [.ref (b + 18), .int wm]), (aI 94 fw)]) rfl rfl) ?_
    refine w_ireturn rfl dX9_summedAt_50 (Nat.le_of_ble_eq_true rfl) (Nat.le_of_ble_eq_true rfl) ?_
    have e : oSatF fo c m y u = ((-1000000000), 2) := by
      simp [oSatF, b23]
    rw [e] at k
    exact k _ (cI_i (cI_put hW (cAs_nd b) rfl [0, 1, 4, 10, 11] (cs2 := [(oC 9 [.ref (b + 1), .ref (b + 14), .ref (b + 17), .ref (b + 19), .ref (b + 25), .ref (b + 29), .ref (b + 33), .ref pp, .int ht, .int (nI tp), .int sd, .int fa, .int (-1), .int 2]), (oC 6 [.ref (b + 2), .ref (b + 6), .ref (b + 7), .ref (b + 8), .ref qw, .int 1, .int (nI l), .int (nI w), .int rsd, .int (nI c)]), (oC 0 [.ref (b + 3), .ref ql, .int cn, .int s.2.1, .int s.2.2]), (aI 3 s.1), (aB 4096 fo), (aI 4096 fg), (aI 3 fz), (aR RX2 2 (imR b)), (oC 2 [.int i01, .int i02, .int i03, .int i04, .int i05, .int i06, .int i07]), (oC 2 [.int i11, .int i12, .int i13, .int i14, .int i15, .int i16, .int i17]), (oC 8 [.ref (b + 18), .int wm]), (aI 94 fw), (oC 1 [.ref (b + 20), .ref (b + 24), .int f.2.2.1.1, .int f.2.2.1.2.1, .int f.2.2.2.1, .int f.2.2.1.2.2.1, .int f.2.2.1.2.2.2.1, .int f.2.2.1.2.2.2.2.1, .int f.2.2.1.2.2.2.2.2]), (oC 0 [.ref (b + 21), .ref q0, .int c0, .int f.1.2.1, .int f.1.2.2]), (aI 3 f.1.1), (aI 3 f.2.1), (oC 0 [.ref (b + 26), .ref q1, .int c1, .int s1.2.1, .int s1.2.2]), (aI 3 s1.1), (oC 0 [.ref (b + 30), .ref q2, .int c2, .int s2.2.1, .int s2.2.2]), (aI 3 s2.1), (oC 5 (rdF (b + 34) ps x)), (aB 600 ft)]) rfl rfl) hpp (hPl_o hP1 (by intro a ha; simp only [List.mem_cons, List.not_mem_nil, or_false] at ha; rcases hpp with hpp | hpp <;> omega)) (hPl_o hP2 (by intro a ha; simp only [List.mem_cons, List.not_mem_nil, or_false] at ha; rcases hpp with hpp | hpp <;> omega)) hR0 hi0 hi1 htp hpo hht) (cFr_of (by intro a ha; simp only [List.mem_cons, List.not_mem_nil, or_false] at ha; omega))
  · obtain ⟨M, Y, hM, hY, hY2, rfl, rfl⟩ := smB_n b23
    have hMc := nI_clamp (show M < 2 ^ 31 by omega)
    have hYc := nI_clamp (show Y < 2 ^ 31 by omega)
    have hMY : M * (Y - 1) ≤ 93 := Nat.le_trans (Nat.mul_le_mul hM (show Y - 1 ≤ 31 by omega)) (by decide)
    have hsl := smN_le (M := M) (c := c) hY
    refine w_iload_n dX9_summedAt_26 rfl ?_
    refine w_if_lt (tgt := 43) dX9_summedAt_27 rfl (fun b27 => ?_) (fun b27 => ?_)
    · refine w_aload_n dX9_summedAt_43 rfl ?_
      refine w_iconst (v := 2) dX9_summedAt_44 (by decide) ?_
      refine w_ldc nX9_120 dX9_summedAt_45 ?_
      refine w_callV (ci := 9) (d' := d + 1) (mc' := 0) (ms' := 0) (As := [.int 2, .int (-1000000000)]) (st := []) lX9_75 vX9_refused rfl (hUs_at nd 0 rfl rfl) rfl (Nat.le_of_ble_eq_true rfl) dX9_summedAt_47 (Nat.le_of_ble_eq_true rfl) (Nat.le_of_ble_eq_true rfl) (Nat.le_refl _) (c_refused (hHas_sub nd (as' := [b]) (cs' := [(oC 9 [.ref (b + 1), .ref (b + 14), .ref (b + 17), .ref (b + 19), .ref (b + 25), .ref (b + 29), .ref (b + 33), .ref pp, .int ht, .int (nI tp), .int sd, .int fa, .int pl, .int tr])]) [0] rfl rfl) (nd_sub nd (as' := [b]) [0] rfl rfl)  ?_)
      refine w_heq (hUs_in nd rfl [0] (cs2 := [(oC 9 [.ref (b + 1), .ref (b + 14), .ref (b + 17), .ref (b + 19), .ref (b + 25), .ref (b + 29), .ref (b + 33), .ref pp, .int ht, .int (nI tp), .int sd, .int fa, .int (-1), .int 2]), (oC 6 [.ref (b + 2), .ref (b + 6), .ref (b + 7), .ref (b + 8), .ref qw, .int 1, .int (nI l), .int (nI w), .int rsd, .int (nI c)]), (aB 4096 fo), (oC 8 [.ref (b + 18), .int wm]), (aI 94 fw)]) rfl rfl) ?_
      refine w_ireturn rfl dX9_summedAt_50 (Nat.le_of_ble_eq_true rfl) (Nat.le_of_ble_eq_true rfl) ?_
      have e : oSatF fo c (nI M) (nI Y) u = ((-1000000000), 2) := by
        simp [oSatF, hMc, hYc, b23, b27]
      rw [e] at k
      exact k _ (cI_i (cI_put hW (cAs_nd b) rfl [0, 1, 4, 10, 11] (cs2 := [(oC 9 [.ref (b + 1), .ref (b + 14), .ref (b + 17), .ref (b + 19), .ref (b + 25), .ref (b + 29), .ref (b + 33), .ref pp, .int ht, .int (nI tp), .int sd, .int fa, .int (-1), .int 2]), (oC 6 [.ref (b + 2), .ref (b + 6), .ref (b + 7), .ref (b + 8), .ref qw, .int 1, .int (nI l), .int (nI w), .int rsd, .int (nI c)]), (oC 0 [.ref (b + 3), .ref ql, .int cn, .int s.2.1, .int s.2.2]), (aI 3 s.1), (aB 4096 fo), (aI 4096 fg), (aI 3 fz), (aR RX2 2 (imR b)), (oC 2 [.int i01, .int i02, .int i03, .int i04, .int i05, .int i06, .int i07]), (oC 2 [.int i11, .int i12, .int i13, .int i14, .int i15, .int i16, .int i17]), (oC 8 [.ref (b + 18), .int wm]), (aI 94 fw), (oC 1 [.ref (b + 20), .ref (b + 24), .int f.2.2.1.1, .int f.2.2.1.2.1, .int f.2.2.2.1, .int f.2.2.1.2.2.1, .int f.2.2.1.2.2.2.1, .int f.2.2.1.2.2.2.2.1, .int f.2.2.1.2.2.2.2.2]), (oC 0 [.ref (b + 21), .ref q0, .int c0, .int f.1.2.1, .int f.1.2.2]), (aI 3 f.1.1), (aI 3 f.2.1), (oC 0 [.ref (b + 26), .ref q1, .int c1, .int s1.2.1, .int s1.2.2]), (aI 3 s1.1), (oC 0 [.ref (b + 30), .ref q2, .int c2, .int s2.2.1, .int s2.2.2]), (aI 3 s2.1), (oC 5 (rdF (b + 34) ps x)), (aB 600 ft)]) rfl rfl) hpp (hPl_o hP1 (by intro a ha; simp only [List.mem_cons, List.not_mem_nil, or_false] at ha; rcases hpp with hpp | hpp <;> omega)) (hPl_o hP2 (by intro a ha; simp only [List.mem_cons, List.not_mem_nil, or_false] at ha; rcases hpp with hpp | hpp <;> omega)) hR0 hi0 hi1 htp hpo hht) (cFr_of (by intro a ha; simp only [List.mem_cons, List.not_mem_nil, or_false] at ha; omega))
    · refine w_iload_n dX9_summedAt_30 rfl ?_
      refine w_aload_n dX9_summedAt_31 rfl ?_
      refine w_get (v := .ref (b + 1)) fX9_10 (hUs_at nd 0 rfl rfl) rfl dX9_summedAt_32 ?_
      refine w_iload_n dX9_summedAt_35 rfl ?_
      refine w_iload_n dX9_summedAt_36 rfl ?_
      refine w_callV (ci := 6) (d' := d + 1) (mc' := 0) (ms' := 0) (As := [.int (nI M), .int (nI Y)]) (st := [.int u]) lX9_212 vX6_summedMany rfl (hUs_at nd 1 rfl rfl) rfl (Nat.le_of_ble_eq_true rfl) dX9_summedAt_37 (Nat.le_of_ble_eq_true rfl) (Nat.le_of_ble_eq_true rfl) (Nat.le_refl _) (c_summedMany (hHas_sub nd (as' := [b + 1]) (cs' := [(oC 6 [.ref (b + 2), .ref (b + 6), .ref (b + 7), .ref (b + 8), .ref qw, .int 1, .int (nI l), .int (nI w), .int rsd, .int (nI c)])]) [1] rfl rfl) (by omega) (by omega) (by omega) hc ?_)
      refine w_icmp_lt (tgt := 51) dX9_summedAt_40 rfl (fun b40 => ?_) (fun b40 => ?_)
      · obtain ⟨w9, hw9, rfl⟩ := in3 b27 b40 (show smN M Y c < 2 ^ 31 by omega)
        have hwc := nI_clamp (show w9 < 2 ^ 31 by omega)
        have hfit := smN_fit hw9
        refine w_aload_n dX9_summedAt_51 rfl ?_
        refine w_get (v := .ref (b + 17)) fX9_26 (hUs_at nd 0 rfl rfl) rfl dX9_summedAt_52 ?_
        refine w_iload_n dX9_summedAt_55 rfl ?_
        refine w_iload_n dX9_summedAt_56 rfl ?_
        refine w_callV (ci := 8) (d' := d + 1) (mc' := 0) (ms' := 0) (As := [.int (nI M), .int (nI Y)]) (st := []) lX9_215 vX8_prepare rfl (hUs_at nd 3 rfl rfl) rfl (Nat.le_of_ble_eq_true rfl) dX9_summedAt_57 (Nat.le_of_ble_eq_true rfl) (Nat.le_of_ble_eq_true rfl) (Nat.le_refl _) (c_prepare (hHas_sub nd (as' := [b + 17, b + 18]) (cs' := [(oC 8 [.ref (b + 18), .int wm]), (aI 94 fw)]) [3, 4] rfl rfl) (nd_sub nd (as' := [b + 17, b + 18]) [3, 4] rfl rfl) (by omega) (by omega) (by omega) ?_)
        refine w_heq (hUs_in nd rfl [3, 4] (cs2 := [(oC 9 [.ref (b + 1), .ref (b + 14), .ref (b + 17), .ref (b + 19), .ref (b + 25), .ref (b + 29), .ref (b + 33), .ref pp, .int ht, .int (nI tp), .int sd, .int fa, .int pl, .int tr]), (oC 6 [.ref (b + 2), .ref (b + 6), .ref (b + 7), .ref (b + 8), .ref qw, .int 1, .int (nI l), .int (nI w), .int rsd, .int (nI c)]), (aB 4096 fo), (oC 8 [.ref (b + 18), .int (nI (1 + M * (Y - 1)))]), (aI 94 (wgtF Y M))]) rfl rfl) ?_
        refine w_aload_n dX9_summedAt_60 rfl ?_
        refine w_aload_n dX9_summedAt_61 rfl ?_
        refine w_get (v := .ref (b + 1)) fX9_10 (hUs_at nd 0 rfl rfl) rfl dX9_summedAt_62 ?_
        refine w_aload_n dX9_summedAt_65 rfl ?_
        refine w_get (v := .ref (b + 17)) fX9_26 (hUs_at nd 0 rfl rfl) rfl dX9_summedAt_66 ?_
        refine w_iload_n dX9_summedAt_69 rfl ?_
        refine w_iload_n dX9_summedAt_70 rfl ?_
        refine w_imulE (z := nI (w9 * Y)) dX9_summedAt_71 (pk_mul (w9) (Y)) ?_
        refine w_callV (ci := 6) (d' := d + 1) (mc' := 0) (ms' := 0) (As := [.ref (b + 17), .int (nI (w9 * Y))]) (st := [.ref b]) lX9_219 vX6_weighedOuts rfl (hUs_at nd 1 rfl rfl) rfl (Nat.le_of_ble_eq_true rfl) dX9_summedAt_72 (Nat.le_of_ble_eq_true rfl) (Nat.le_of_ble_eq_true rfl) (Nat.le_refl _) (c_weighedOuts (hHas_sub nd (as' := [b + 1, b + 6, b + 17, b + 18]) (cs' := [(oC 6 [.ref (b + 2), .ref (b + 6), .ref (b + 7), .ref (b + 8), .ref qw, .int 1, .int (nI l), .int (nI w), .int rsd, .int (nI c)]), (aB 4096 fo), (oC 8 [.ref (b + 18), .int (nI (1 + M * (Y - 1)))]), (aI 94 (wgtF Y M))]) [1, 2, 3, 4] rfl rfl) (by omega) (by omega) ?_)
        refine w_callV (ci := 9) (d' := d + 1) (mc' := 0) (ms' := 0) (As := [.int (fld (fun j s => s + (wgtF Y M) j * fo ((w9 * Y) + j)) 0 (1 + M * (Y - 1)) 0)]) (st := []) lX9_96 vX9_granted rfl (hUs_at nd 0 rfl rfl) rfl (Nat.le_of_ble_eq_true rfl) dX9_summedAt_75 (Nat.le_of_ble_eq_true rfl) (Nat.le_of_ble_eq_true rfl) (Nat.le_refl _) (c_granted (hHas_sub nd (as' := [b]) (cs' := [(oC 9 [.ref (b + 1), .ref (b + 14), .ref (b + 17), .ref (b + 19), .ref (b + 25), .ref (b + 29), .ref (b + 33), .ref pp, .int ht, .int (nI tp), .int sd, .int fa, .int pl, .int tr])]) [0] rfl rfl) (nd_sub nd (as' := [b]) [0] rfl rfl)  ?_)
        refine w_heq (hUs_in nd rfl [0] (cs2 := [(oC 9 [.ref (b + 1), .ref (b + 14), .ref (b + 17), .ref (b + 19), .ref (b + 25), .ref (b + 29), .ref (b + 33), .ref pp, .int ht, .int (nI tp), .int sd, .int fa, .int (-1), .int 0]), (oC 6 [.ref (b + 2), .ref (b + 6), .ref (b + 7), .ref (b + 8), .ref qw, .int 1, .int (nI l), .int (nI w), .int rsd, .int (nI c)]), (aB 4096 fo), (oC 8 [.ref (b + 18), .int (nI (1 + M * (Y - 1)))]), (aI 94 (wgtF Y M))]) rfl rfl) ?_
        refine w_ireturn rfl dX9_summedAt_78 (Nat.le_of_ble_eq_true rfl) (Nat.le_of_ble_eq_true rfl) ?_
        have e : oSatF fo c (nI M) (nI Y) (nI w9) = (fld (fun j s => s + (wgtF Y M) j * fo ((w9 * Y) + j)) 0 (1 + M * (Y - 1)) 0, 0) := by
          simp [oSatF, hMc, hYc, hwc, wsF, Int32.not_le.mpr b40, b23, b27, b40]
        rw [e] at k
        exact k _ (cI_i (cI_put hW (cAs_nd b) rfl [0, 1, 4, 10, 11] (cs2 := [(oC 9 [.ref (b + 1), .ref (b + 14), .ref (b + 17), .ref (b + 19), .ref (b + 25), .ref (b + 29), .ref (b + 33), .ref pp, .int ht, .int (nI tp), .int sd, .int fa, .int (-1), .int 0]), (oC 6 [.ref (b + 2), .ref (b + 6), .ref (b + 7), .ref (b + 8), .ref qw, .int 1, .int (nI l), .int (nI w), .int rsd, .int (nI c)]), (oC 0 [.ref (b + 3), .ref ql, .int cn, .int s.2.1, .int s.2.2]), (aI 3 s.1), (aB 4096 fo), (aI 4096 fg), (aI 3 fz), (aR RX2 2 (imR b)), (oC 2 [.int i01, .int i02, .int i03, .int i04, .int i05, .int i06, .int i07]), (oC 2 [.int i11, .int i12, .int i13, .int i14, .int i15, .int i16, .int i17]), (oC 8 [.ref (b + 18), .int (nI (1 + M * (Y - 1)))]), (aI 94 (wgtF Y M)), (oC 1 [.ref (b + 20), .ref (b + 24), .int f.2.2.1.1, .int f.2.2.1.2.1, .int f.2.2.2.1, .int f.2.2.1.2.2.1, .int f.2.2.1.2.2.2.1, .int f.2.2.1.2.2.2.2.1, .int f.2.2.1.2.2.2.2.2]), (oC 0 [.ref (b + 21), .ref q0, .int c0, .int f.1.2.1, .int f.1.2.2]), (aI 3 f.1.1), (aI 3 f.2.1), (oC 0 [.ref (b + 26), .ref q1, .int c1, .int s1.2.1, .int s1.2.2]), (aI 3 s1.1), (oC 0 [.ref (b + 30), .ref q2, .int c2, .int s2.2.1, .int s2.2.2]), (aI 3 s2.1), (oC 5 (rdF (b + 34) ps x)), (aB 600 ft)]) rfl rfl) hpp (hPl_o hP1 (by intro a ha; simp only [List.mem_cons, List.not_mem_nil, or_false] at ha; rcases hpp with hpp | hpp <;> omega)) (hPl_o hP2 (by intro a ha; simp only [List.mem_cons, List.not_mem_nil, or_false] at ha; rcases hpp with hpp | hpp <;> omega)) hR0 hi0 hi1 htp hpo hht) (cFr_of (by intro a ha; simp only [List.mem_cons, List.not_mem_nil, or_false] at ha; omega))
      · refine w_aload_n dX9_summedAt_43 rfl ?_
        refine w_iconst (v := 2) dX9_summedAt_44 (by decide) ?_
        refine w_ldc nX9_120 dX9_summedAt_45 ?_
        refine w_callV (ci := 9) (d' := d + 1) (mc' := 0) (ms' := 0) (As := [.int 2, .int (-1000000000)]) (st := []) lX9_75 vX9_refused rfl (hUs_at nd 0 rfl rfl) rfl (Nat.le_of_ble_eq_true rfl) dX9_summedAt_47 (Nat.le_of_ble_eq_true rfl) (Nat.le_of_ble_eq_true rfl) (Nat.le_refl _) (c_refused (hHas_sub nd (as' := [b]) (cs' := [(oC 9 [.ref (b + 1), .ref (b + 14), .ref (b + 17), .ref (b + 19), .ref (b + 25), .ref (b + 29), .ref (b + 33), .ref pp, .int ht, .int (nI tp), .int sd, .int fa, .int pl, .int tr])]) [0] rfl rfl) (nd_sub nd (as' := [b]) [0] rfl rfl)  ?_)
        refine w_heq (hUs_in nd rfl [0] (cs2 := [(oC 9 [.ref (b + 1), .ref (b + 14), .ref (b + 17), .ref (b + 19), .ref (b + 25), .ref (b + 29), .ref (b + 33), .ref pp, .int ht, .int (nI tp), .int sd, .int fa, .int (-1), .int 2]), (oC 6 [.ref (b + 2), .ref (b + 6), .ref (b + 7), .ref (b + 8), .ref qw, .int 1, .int (nI l), .int (nI w), .int rsd, .int (nI c)]), (aB 4096 fo), (oC 8 [.ref (b + 18), .int wm]), (aI 94 fw)]) rfl rfl) ?_
        refine w_ireturn rfl dX9_summedAt_50 (Nat.le_of_ble_eq_true rfl) (Nat.le_of_ble_eq_true rfl) ?_
        have e : oSatF fo c (nI M) (nI Y) u = ((-1000000000), 2) := by
          simp [oSatF, hMc, hYc, b23, b27, b40]
        rw [e] at k
        exact k _ (cI_i (cI_put hW (cAs_nd b) rfl [0, 1, 4, 10, 11] (cs2 := [(oC 9 [.ref (b + 1), .ref (b + 14), .ref (b + 17), .ref (b + 19), .ref (b + 25), .ref (b + 29), .ref (b + 33), .ref pp, .int ht, .int (nI tp), .int sd, .int fa, .int (-1), .int 2]), (oC 6 [.ref (b + 2), .ref (b + 6), .ref (b + 7), .ref (b + 8), .ref qw, .int 1, .int (nI l), .int (nI w), .int rsd, .int (nI c)]), (oC 0 [.ref (b + 3), .ref ql, .int cn, .int s.2.1, .int s.2.2]), (aI 3 s.1), (aB 4096 fo), (aI 4096 fg), (aI 3 fz), (aR RX2 2 (imR b)), (oC 2 [.int i01, .int i02, .int i03, .int i04, .int i05, .int i06, .int i07]), (oC 2 [.int i11, .int i12, .int i13, .int i14, .int i15, .int i16, .int i17]), (oC 8 [.ref (b + 18), .int wm]), (aI 94 fw), (oC 1 [.ref (b + 20), .ref (b + 24), .int f.2.2.1.1, .int f.2.2.1.2.1, .int f.2.2.2.1, .int f.2.2.1.2.2.1, .int f.2.2.1.2.2.2.1, .int f.2.2.1.2.2.2.2.1, .int f.2.2.1.2.2.2.2.2]), (oC 0 [.ref (b + 21), .ref q0, .int c0, .int f.1.2.1, .int f.1.2.2]), (aI 3 f.1.1), (aI 3 f.2.1), (oC 0 [.ref (b + 26), .ref q1, .int c1, .int s1.2.1, .int s1.2.2]), (aI 3 s1.1), (oC 0 [.ref (b + 30), .ref q2, .int c2, .int s2.2.1, .int s2.2.2]), (aI 3 s2.1), (oC 5 (rdF (b + 34) ps x)), (aB 600 ft)]) rfl rfl) hpp (hPl_o hP1 (by intro a ha; simp only [List.mem_cons, List.not_mem_nil, or_false] at ha; rcases hpp with hpp | hpp <;> omega)) (hPl_o hP2 (by intro a ha; simp only [List.mem_cons, List.not_mem_nil, or_false] at ha; rcases hpp with hpp | hpp <;> omega)) hR0 hi0 hi1 htp hpo hht) (cFr_of (by intro a ha; simp only [List.mem_cons, List.not_mem_nil, or_false] at ha; omega))
theorem p_summedAt {G : wG} {d : Nat} {h : hH} {Q : Option Value → hH → Prop} {b : Nat} {ft : Nat → Int32} {tp : Nat} {P : pD} {ht : Int32} {R : Option rnD} {i0 i1 : imD} {sd fa pl tr : Int32}  {m y u : Int32} (hI : cI h b ft tp P ht R i0 i1 sd fa pl tr) (k : ∀ h2, cI h2 b ft tp P ht R i0 i1 sd fa (-1) (oSat P R m y u).2 → cFr b h h2 → Q (some (.int (oSat P R m y u).1)) h2) : Cl G yX9_summedAt (d + 2) 0 0 [.ref b, .int m, .int y, .int u] h Q := by
  cases R with
  | none => exact p_summedAt_n hI k
  | some r => obtain ⟨l, w, rs, cc⟩ := r; exact p_summedAt_s hI k
set_option maxRecDepth 100000 in
set_option maxHeartbeats 4000000 in
theorem l_worst {G : wG} {d : Nat} {h : hH} {Q : Option Value → hH → Prop} {b pp tp : Nat} {ht sd fa pl tr : Int32} {M Y c l w qw : Nat} {rsd : Int32} {fg : Nat → Int32} (nd : [b, b + 1, b + 7, b + 17, b + 18].Nodup) (hM : M ≤ 3) (hY : 2 ≤ Y) (hY2 : Y ≤ 32) (hc : c ≤ 4096) (k : WP G RX9 cX9_worst 6 (some .int) false (d + 2) 0 0 0 0 Q 105 [some (.ref b), some (.int (nI M)), some (.int (nI Y)), some (.int (nI (smN M Y c))), some (.int (woF fg M Y c)), none] [] (hUs h [b, b + 1, b + 7, b + 17, b + 18] [(oC 9 [.ref (b + 1), .ref (b + 14), .ref (b + 17), .ref (b + 19), .ref (b + 25), .ref (b + 29), .ref (b + 33), .ref pp, .int ht, .int (nI tp), .int sd, .int fa, .int pl, .int tr]), (oC 6 [.ref (b + 2), .ref (b + 6), .ref (b + 7), .ref (b + 8), .ref qw, .int 1, .int (nI l), .int (nI w), .int rsd, .int (nI c)]), (aI 4096 fg), (oC 8 [.ref (b + 18), .int (nI (1 + M * (Y - 1)))]), (aI 94 (wgtF Y M))])) : ∀ (n : Nat) (i : Nat) (x : Int32), i + n = smN M Y c → x = fld (fun i s => mxI s (abI (wsF fg M Y i))) 0 i 0 → WP G RX9 cX9_worst 6 (some .int) false (d + 2) 0 0 0 0 Q 68 [some (.ref b), some (.int (nI M)), some (.int (nI Y)), some (.int (nI (smN M Y c))), some (.int x), some (.int (nI i))] [] (hUs h [b, b + 1, b + 7, b + 17, b + 18] [(oC 9 [.ref (b + 1), .ref (b + 14), .ref (b + 17), .ref (b + 19), .ref (b + 25), .ref (b + 29), .ref (b + 33), .ref pp, .int ht, .int (nI tp), .int sd, .int fa, .int pl, .int tr]), (oC 6 [.ref (b + 2), .ref (b + 6), .ref (b + 7), .ref (b + 8), .ref qw, .int 1, .int (nI l), .int (nI w), .int rsd, .int (nI c)]), (aI 4096 fg), (oC 8 [.ref (b + 18), .int (nI (1 + M * (Y - 1)))]), (aI 94 (wgtF Y M))]) := by
  intro n
  induction n with
  | zero =>
    intro i x hi e
    have hsl := smN_le (M := M) (c := c) hY
    refine w_iload dX9_worst_68 rfl ?_
    refine w_iload_n dX9_worst_70 rfl ?_
    refine w_icmp_ge_t (tgt := 105) dX9_worst_71 rfl ((nI_leI (a := (smN M Y c)) (b := i) (by omega) (by omega)).mpr (by omega)) ?_
    refine w_less (ls2 := [some (.ref b), some (.int (nI M)), some (.int (nI Y)), some (.int (nI (smN M Y c))), some (.int x), none]) ⟨Or.inr rfl, Or.inr rfl, Or.inr rfl, Or.inr rfl, Or.inr rfl, Or.inl rfl, trivial⟩ ?_
    have z : i = smN M Y c := by omega
    have e2 : woF fg M Y c = x := by rw [e, z]; rfl
    rw [e2] at k
    exact k
  | succ n ih =>
    intro i x hi e
    have hsl := smN_le (M := M) (c := c) hY
    have hfit := smN_fit (M := M) (Y := Y) (c := c) (i := i) (by omega)
    have hMY : M * (Y - 1) ≤ 93 := Nat.le_trans (Nat.mul_le_mul hM (show Y - 1 ≤ 31 by omega)) (by decide)
    refine w_iload dX9_worst_68 rfl ?_
    refine w_iload_n dX9_worst_70 rfl ?_
    refine w_icmp_ge_f (tgt := 105) dX9_worst_71 rfl (fun z => absurd ((nI_leI (a := (smN M Y c)) (b := i) (by omega) (by omega)).mp z) (by omega)) ?_
    refine w_iload dX9_worst_74 rfl ?_
    refine w_aload_n dX9_worst_76 rfl ?_
    refine w_get (v := .ref (b + 1)) fX9_10 (hUs_at nd 0 rfl rfl) rfl dX9_worst_77 ?_
    refine w_aload_n dX9_worst_80 rfl ?_
    refine w_get (v := .ref (b + 17)) fX9_26 (hUs_at nd 0 rfl rfl) rfl dX9_worst_81 ?_
    refine w_iload dX9_worst_84 rfl ?_
    refine w_iload_n dX9_worst_86 rfl ?_
    refine w_imulE (z := nI (i * Y)) dX9_worst_87 (pk_mul (i) (Y)) ?_
    refine w_callV (ci := 6) (d' := d + 1) (mc' := 0) (ms' := 0) (As := [.ref (b + 17), .int (nI (i * Y))]) (st := [.int x]) lX9_223 vX6_weighedGaps rfl (hUs_at nd 1 rfl rfl) rfl (Nat.le_of_ble_eq_true rfl) dX9_worst_88 (Nat.le_of_ble_eq_true rfl) (Nat.le_of_ble_eq_true rfl) (Nat.le_refl _) (c_weighedGaps (hHas_sub nd (as' := [b + 1, b + 7, b + 17, b + 18]) (cs' := [(oC 6 [.ref (b + 2), .ref (b + 6), .ref (b + 7), .ref (b + 8), .ref qw, .int 1, .int (nI l), .int (nI w), .int rsd, .int (nI c)]), (aI 4096 fg), (oC 8 [.ref (b + 18), .int (nI (1 + M * (Y - 1)))]), (aI 94 (wgtF Y M))]) [1, 2, 3, 4] rfl rfl) (by omega) (by omega) ?_)
    refine w_callS (d' := d + 1) (mc' := 0) (ms' := 0) (As := [.int (fld (fun j s => s + (wgtF Y M) j * fg ((i * Y) + j)) 0 (1 + M * (Y - 1)) 0)]) (st := [.int x]) lX9_198 vJ9_abs_0f7a4 rfl (Nat.le_of_ble_eq_true rfl) dX9_worst_91 (Nat.le_of_ble_eq_true rfl) (Nat.le_of_ble_eq_true rfl) (Nat.le_refl _) (c_abs ?_)
    refine w_callS (d' := d + 1) (mc' := 0) (ms' := 0) (As := [.int x, .int (abI (fld (fun j s => s + (wgtF Y M) j * fg ((i * Y) + j)) 0 (1 + M * (Y - 1)) 0))]) (st := []) lX9_226 vJ9_max_7cf53 rfl (Nat.le_of_ble_eq_true rfl) dX9_worst_94 (Nat.le_of_ble_eq_true rfl) (Nat.le_of_ble_eq_true rfl) (Nat.le_refl _) (c_max ?_)
    refine w_istore (ls2 := [some (.ref b), some (.int (nI M)), some (.int (nI Y)), some (.int (nI (smN M Y c))), some (.int (mxI x (abI (fld (fun j s => s + (wgtF Y M) j * fg ((i * Y) + j)) 0 (1 + M * (Y - 1)) 0)))), some (.int (nI i))]) dX9_worst_97 (by decide) rfl rfl ?_
    refine w_iinc (v := nI (i + 1)) (ls2 := [some (.ref b), some (.int (nI M)), some (.int (nI Y)), some (.int (nI (smN M Y c))), some (.int (mxI x (abI (fld (fun j s => s + (wgtF Y M) j * fg ((i * Y) + j)) 0 (1 + M * (Y - 1)) 0)))), some (.int (nI (i + 1)))]) dX9_worst_99 rfl (nI_1 _) (by decide) rfl rfl ?_
    refine w_goto (tgt := 68) dX9_worst_102 rfl ?_
    exact ih (i + 1) _ (by omega) (by rw [fld, ← e, Nat.zero_add]; rfl)
def oWstF (F : Nat → Int32) (c : Nat) (m y : Int32) : Int32 × Int32 := if smB m y = 0 then (-1, 2) else if smN (tN m) (tN y) c = 0 then (-1, 5) else (woF F (tN m) (tN y) c, 0)
theorem oWstF_c {f g : Nat → Int32} {c : Nat} (h : ∀ t, t < c → f t = g t) (hc : c ≤ 4096) (m y : Int32) : oWstF f c m y = oWstF g c m y := by
  unfold oWstF
  rw [woF_c h]
def oWst (P : pD) (R : Option rnD) (m y : Int32) : Int32 × Int32 := match R with
  | none => (-1, 1)
  | some r => oWstF (rG (rQo P r.1 r.2.1 r.2.2.1)) r.2.2.2 m y
set_option maxRecDepth 100000 in
set_option maxHeartbeats 4000000 in
theorem p_worst_n {G : wG} {d : Nat} {h : hH} {Q : Option Value → hH → Prop} {b : Nat} {ft : Nat → Int32} {tp : Nat} {P : pD} {ht : Int32} {i0 i1 : imD} {sd fa pl tr : Int32}  {m y : Int32} (hI : cI h b ft tp P ht none i0 i1 sd fa pl tr)  (k : ∀ h2, cI h2 b ft tp P ht none i0 i1 sd fa (-1) (oWst P none m y).2 → cFr b h h2 → Q (some (.int (oWst P none m y).1)) h2) : Cl G yX9_worst (d + 2) 0 0 [.ref b, .int m, .int y] h Q := by
  refine cI_e hI ?_
  intro pp ps P2 go ln wn rsd c qw ql cn s fo fg fz i01 i02 i03 i04 i05 i06 i07 i11 i12 i13 i14 i15 i16 i17 wm fw f q0 c0 s1 q1 c1 s2 q2 c2 x hW hpp hP1 hP2 hR hi0 hi1 htp hpo hht
  have hgo : go = 0 := hR
  subst hgo
  have hw : hHas h [b, b + 1] [(oC 9 [.ref (b + 1), .ref (b + 14), .ref (b + 17), .ref (b + 19), .ref (b + 25), .ref (b + 29), .ref (b + 33), .ref pp, .int ht, .int (nI tp), .int sd, .int fa, .int pl, .int tr]), (oC 6 [.ref (b + 2), .ref (b + 6), .ref (b + 7), .ref (b + 8), .ref qw, .int 0, .int ln, .int wn, .int rsd, .int (nI c)])] := hHas_s hW [0, 1] rfl rfl
  have nd : [b, b + 1].Nodup := (nd_inc ⟨by omega, trivial⟩)
  refine Cl.of (ini := false) kX9_worst (plainFor_of_name (by decide)) (by decide) (Nat.le_of_ble_eq_true rfl) rfl rfl (fun z => by cases z) ?_
  refine w_heq (hUs_id hw).symm ?_
  refine w_aload_n dX9_worst_0 rfl ?_
  refine w_get (v := .ref (b + 1)) fX9_10 (hUs_at nd 0 rfl rfl) rfl dX9_worst_1 ?_
  refine w_get (v := .int 0) fX9_139 (hUs_at nd 1 rfl rfl) rfl dX9_worst_4 ?_
  refine w_if_ne_f (tgt := 17) dX9_worst_7 rfl (by decide) ?_
  refine w_aload_n dX9_worst_10 rfl ?_
  refine w_iconst (v := 1) dX9_worst_11 (by decide) ?_
  refine w_iconst (v := (-1)) dX9_worst_12 (by decide) ?_
  refine w_callV (ci := 9) (d' := d + 1) (mc' := 0) (ms' := 0) (As := [.int 1, .int (-1)]) (st := []) lX9_75 vX9_refused rfl (hUs_at nd 0 rfl rfl) rfl (Nat.le_of_ble_eq_true rfl) dX9_worst_13 (Nat.le_of_ble_eq_true rfl) (Nat.le_of_ble_eq_true rfl) (Nat.le_refl _) (c_refused (hHas_sub nd (as' := [b]) (cs' := [(oC 9 [.ref (b + 1), .ref (b + 14), .ref (b + 17), .ref (b + 19), .ref (b + 25), .ref (b + 29), .ref (b + 33), .ref pp, .int ht, .int (nI tp), .int sd, .int fa, .int pl, .int tr])]) [0] rfl rfl) (nd_sub nd (as' := [b]) [0] rfl rfl)  ?_)
  refine w_heq (hUs_in nd rfl [0] (cs2 := [(oC 9 [.ref (b + 1), .ref (b + 14), .ref (b + 17), .ref (b + 19), .ref (b + 25), .ref (b + 29), .ref (b + 33), .ref pp, .int ht, .int (nI tp), .int sd, .int fa, .int (-1), .int 1]), (oC 6 [.ref (b + 2), .ref (b + 6), .ref (b + 7), .ref (b + 8), .ref qw, .int 0, .int ln, .int wn, .int rsd, .int (nI c)])]) rfl rfl) ?_
  refine w_ireturn rfl dX9_worst_16 (Nat.le_of_ble_eq_true rfl) (Nat.le_of_ble_eq_true rfl) ?_
  have e : oWst P none m y = ((-1), 1) := by
    simp [oWst]
  rw [e] at k
  exact k _ (cI_i (cI_put hW (cAs_nd b) rfl [0, 1] (cs2 := [(oC 9 [.ref (b + 1), .ref (b + 14), .ref (b + 17), .ref (b + 19), .ref (b + 25), .ref (b + 29), .ref (b + 33), .ref pp, .int ht, .int (nI tp), .int sd, .int fa, .int (-1), .int 1]), (oC 6 [.ref (b + 2), .ref (b + 6), .ref (b + 7), .ref (b + 8), .ref qw, .int 0, .int ln, .int wn, .int rsd, .int (nI c)]), (oC 0 [.ref (b + 3), .ref ql, .int cn, .int s.2.1, .int s.2.2]), (aI 3 s.1), (aB 4096 fo), (aI 4096 fg), (aI 3 fz), (aR RX2 2 (imR b)), (oC 2 [.int i01, .int i02, .int i03, .int i04, .int i05, .int i06, .int i07]), (oC 2 [.int i11, .int i12, .int i13, .int i14, .int i15, .int i16, .int i17]), (oC 8 [.ref (b + 18), .int wm]), (aI 94 fw), (oC 1 [.ref (b + 20), .ref (b + 24), .int f.2.2.1.1, .int f.2.2.1.2.1, .int f.2.2.2.1, .int f.2.2.1.2.2.1, .int f.2.2.1.2.2.2.1, .int f.2.2.1.2.2.2.2.1, .int f.2.2.1.2.2.2.2.2]), (oC 0 [.ref (b + 21), .ref q0, .int c0, .int f.1.2.1, .int f.1.2.2]), (aI 3 f.1.1), (aI 3 f.2.1), (oC 0 [.ref (b + 26), .ref q1, .int c1, .int s1.2.1, .int s1.2.2]), (aI 3 s1.1), (oC 0 [.ref (b + 30), .ref q2, .int c2, .int s2.2.1, .int s2.2.2]), (aI 3 s2.1), (oC 5 (rdF (b + 34) ps x)), (aB 600 ft)]) rfl rfl) hpp (hPl_o hP1 (by intro a ha; simp only [List.mem_cons, List.not_mem_nil, or_false] at ha; rcases hpp with hpp | hpp <;> omega)) (hPl_o hP2 (by intro a ha; simp only [List.mem_cons, List.not_mem_nil, or_false] at ha; rcases hpp with hpp | hpp <;> omega)) hR hi0 hi1 htp hpo hht) (cFr_of (by intro a ha; simp only [List.mem_cons, List.not_mem_nil, or_false] at ha; omega))
set_option maxRecDepth 100000 in
set_option maxHeartbeats 4000000 in
theorem p_worst_s {G : wG} {d : Nat} {h : hH} {Q : Option Value → hH → Prop} {b : Nat} {ft : Nat → Int32} {tp : Nat} {P : pD} {ht : Int32} {i0 i1 : imD} {sd fa pl tr : Int32}  {l w cc : Nat} {rs : Int32} {m y : Int32} (hI : cI h b ft tp P ht (some (l, w, rs, cc)) i0 i1 sd fa pl tr)  (k : ∀ h2, cI h2 b ft tp P ht (some (l, w, rs, cc)) i0 i1 sd fa (-1) (oWst P (some (l, w, rs, cc)) m y).2 → cFr b h h2 → Q (some (.int (oWst P (some (l, w, rs, cc)) m y).1)) h2) : Cl G yX9_worst (d + 2) 0 0 [.ref b, .int m, .int y] h Q := by
  refine cI_e hI ?_
  intro pp ps P2 go ln wn rsd c qw ql cn s fo fg fz i01 i02 i03 i04 i05 i06 i07 i11 i12 i13 i14 i15 i16 i17 wm fw f q0 c0 s1 q1 c1 s2 q2 c2 x hW hpp hP1 hP2 hR hi0 hi1 htp hpo hht
  have hR0 := hR
  simp only [rIv] at hR
  obtain ⟨hrn, hgo, hln, hwn, hrs, hcc, hqw, hql, hcn, hs, hfo, hfg, hfz⟩ := hR
  subst hgo; subst hln; subst hwn; subst hrs; subst hcc
  have hc : c ≤ 4096 := hrn.2.2
  rw [show oWst P (some (l, w, rsd, c)) m y = oWstF fg c m y from (oWstF_c hfg hc m y).symm] at k
  
  have hw : hHas h [b, b + 1, b + 7, b + 17, b + 18] [(oC 9 [.ref (b + 1), .ref (b + 14), .ref (b + 17), .ref (b + 19), .ref (b + 25), .ref (b + 29), .ref (b + 33), .ref pp, .int ht, .int (nI tp), .int sd, .int fa, .int pl, .int tr]), (oC 6 [.ref (b + 2), .ref (b + 6), .ref (b + 7), .ref (b + 8), .ref qw, .int 1, .int (nI l), .int (nI w), .int rsd, .int (nI c)]), (aI 4096 fg), (oC 8 [.ref (b + 18), .int wm]), (aI 94 fw)] := hHas_s hW [0, 1, 5, 10, 11] rfl rfl
  have nd : [b, b + 1, b + 7, b + 17, b + 18].Nodup := (nd_inc ⟨by omega, by omega, by omega, by omega, trivial⟩)
  refine Cl.of (ini := false) kX9_worst (plainFor_of_name (by decide)) (by decide) (Nat.le_of_ble_eq_true rfl) rfl rfl (fun z => by cases z) ?_
  refine w_heq (hUs_id hw).symm ?_
  refine w_aload_n dX9_worst_0 rfl ?_
  refine w_get (v := .ref (b + 1)) fX9_10 (hUs_at nd 0 rfl rfl) rfl dX9_worst_1 ?_
  refine w_get (v := .int 1) fX9_139 (hUs_at nd 1 rfl rfl) rfl dX9_worst_4 ?_
  refine w_if_ne_t (tgt := 17) dX9_worst_7 rfl (by decide) ?_
  refine w_iload_n dX9_worst_17 rfl ?_
  refine w_iload_n dX9_worst_18 rfl ?_
  refine w_callS (d' := d + 1) (mc' := 0) (ms' := 0) (As := [.int m, .int y]) (st := []) lX9_209 vX9_isSumming rfl (Nat.le_of_ble_eq_true rfl) dX9_worst_19 (Nat.le_of_ble_eq_true rfl) (Nat.le_of_ble_eq_true rfl) (Nat.le_refl _) (c_isSumming ?_)
  refine w_if_ne (tgt := 32) dX9_worst_22 rfl (fun b22 => ?_) (fun b22 => ?_)
  · obtain ⟨M, Y, hM, hY, hY2, rfl, rfl⟩ := smB_n b22
    have hMc := nI_clamp (show M < 2 ^ 31 by omega)
    have hYc := nI_clamp (show Y < 2 ^ 31 by omega)
    have hMY : M * (Y - 1) ≤ 93 := Nat.le_trans (Nat.mul_le_mul hM (show Y - 1 ≤ 31 by omega)) (by decide)
    have hsl := smN_le (M := M) (c := c) hY
    refine w_aload_n dX9_worst_32 rfl ?_
    refine w_get (v := .ref (b + 1)) fX9_10 (hUs_at nd 0 rfl rfl) rfl dX9_worst_33 ?_
    refine w_iload_n dX9_worst_36 rfl ?_
    refine w_iload_n dX9_worst_37 rfl ?_
    refine w_callV (ci := 6) (d' := d + 1) (mc' := 0) (ms' := 0) (As := [.int (nI M), .int (nI Y)]) (st := []) lX9_212 vX6_summedMany rfl (hUs_at nd 1 rfl rfl) rfl (Nat.le_of_ble_eq_true rfl) dX9_worst_38 (Nat.le_of_ble_eq_true rfl) (Nat.le_of_ble_eq_true rfl) (Nat.le_refl _) (c_summedMany (hHas_sub nd (as' := [b + 1]) (cs' := [(oC 6 [.ref (b + 2), .ref (b + 6), .ref (b + 7), .ref (b + 8), .ref qw, .int 1, .int (nI l), .int (nI w), .int rsd, .int (nI c)])]) [1] rfl rfl) (by omega) (by omega) (by omega) hc ?_)
    refine w_istore_n (ls2 := [some (.ref b), some (.int (nI M)), some (.int (nI Y)), some (.int (nI (smN M Y c))), none, none]) dX9_worst_41 (by decide) rfl rfl ?_
    refine w_iload_n dX9_worst_42 rfl ?_
    refine w_if_ne (tgt := 53) dX9_worst_43 rfl (fun b43 => ?_) (fun b43 => ?_)
    · have b43 : ¬ (smN M Y c) = 0 := fun z => b43 ((nI_eq (a := (smN M Y c)) (b := 0) (by omega) (by omega)).mpr z)
      refine w_aload_n dX9_worst_53 rfl ?_
      refine w_get (v := .ref (b + 17)) fX9_26 (hUs_at nd 0 rfl rfl) rfl dX9_worst_54 ?_
      refine w_iload_n dX9_worst_57 rfl ?_
      refine w_iload_n dX9_worst_58 rfl ?_
      refine w_callV (ci := 8) (d' := d + 1) (mc' := 0) (ms' := 0) (As := [.int (nI M), .int (nI Y)]) (st := []) lX9_215 vX8_prepare rfl (hUs_at nd 3 rfl rfl) rfl (Nat.le_of_ble_eq_true rfl) dX9_worst_59 (Nat.le_of_ble_eq_true rfl) (Nat.le_of_ble_eq_true rfl) (Nat.le_refl _) (c_prepare (hHas_sub nd (as' := [b + 17, b + 18]) (cs' := [(oC 8 [.ref (b + 18), .int wm]), (aI 94 fw)]) [3, 4] rfl rfl) (nd_sub nd (as' := [b + 17, b + 18]) [3, 4] rfl rfl) (by omega) (by omega) (by omega) ?_)
      refine w_heq (hUs_in nd rfl [3, 4] (cs2 := [(oC 9 [.ref (b + 1), .ref (b + 14), .ref (b + 17), .ref (b + 19), .ref (b + 25), .ref (b + 29), .ref (b + 33), .ref pp, .int ht, .int (nI tp), .int sd, .int fa, .int pl, .int tr]), (oC 6 [.ref (b + 2), .ref (b + 6), .ref (b + 7), .ref (b + 8), .ref qw, .int 1, .int (nI l), .int (nI w), .int rsd, .int (nI c)]), (aI 4096 fg), (oC 8 [.ref (b + 18), .int (nI (1 + M * (Y - 1)))]), (aI 94 (wgtF Y M))]) rfl rfl) ?_
      refine w_iconst (v := 0) dX9_worst_62 (by decide) ?_
      refine w_istore (ls2 := [some (.ref b), some (.int (nI M)), some (.int (nI Y)), some (.int (nI (smN M Y c))), some (.int 0), none]) dX9_worst_63 (by decide) rfl rfl ?_
      refine w_iconst (v := (nI 0)) dX9_worst_65 (by decide) ?_
      refine w_istore (ls2 := [some (.ref b), some (.int (nI M)), some (.int (nI Y)), some (.int (nI (smN M Y c))), some (.int 0), some (.int (nI 0))]) dX9_worst_66 (by decide) rfl rfl ?_
      refine l_worst nd hM hY hY2 hc ?_ (smN M Y c) 0 0 (by omega) rfl
      refine w_aload_n dX9_worst_105 rfl ?_
      refine w_iload dX9_worst_106 rfl ?_
      refine w_callV (ci := 9) (d' := d + 1) (mc' := 0) (ms' := 0) (As := [.int (woF fg M Y c)]) (st := []) lX9_96 vX9_granted rfl (hUs_at nd 0 rfl rfl) rfl (Nat.le_of_ble_eq_true rfl) dX9_worst_108 (Nat.le_of_ble_eq_true rfl) (Nat.le_of_ble_eq_true rfl) (Nat.le_refl _) (c_granted (hHas_sub nd (as' := [b]) (cs' := [(oC 9 [.ref (b + 1), .ref (b + 14), .ref (b + 17), .ref (b + 19), .ref (b + 25), .ref (b + 29), .ref (b + 33), .ref pp, .int ht, .int (nI tp), .int sd, .int fa, .int pl, .int tr])]) [0] rfl rfl) (nd_sub nd (as' := [b]) [0] rfl rfl)  ?_)
      refine w_heq (hUs_in nd rfl [0] (cs2 := [(oC 9 [.ref (b + 1), .ref (b + 14), .ref (b + 17), .ref (b + 19), .ref (b + 25), .ref (b + 29), .ref (b + 33), .ref pp, .int ht, .int (nI tp), .int sd, .int fa, .int (-1), .int 0]), (oC 6 [.ref (b + 2), .ref (b + 6), .ref (b + 7), .ref (b + 8), .ref qw, .int 1, .int (nI l), .int (nI w), .int rsd, .int (nI c)]), (aI 4096 fg), (oC 8 [.ref (b + 18), .int (nI (1 + M * (Y - 1)))]), (aI 94 (wgtF Y M))]) rfl rfl) ?_
      refine w_ireturn rfl dX9_worst_111 (Nat.le_of_ble_eq_true rfl) (Nat.le_of_ble_eq_true rfl) ?_
      have e : oWstF fg c (nI M) (nI Y) = (woF fg M Y c, 0) := by
        simp [oWstF, hMc, hYc, b22, b43]
      rw [e] at k
      exact k _ (cI_i (cI_put hW (cAs_nd b) rfl [0, 1, 5, 10, 11] (cs2 := [(oC 9 [.ref (b + 1), .ref (b + 14), .ref (b + 17), .ref (b + 19), .ref (b + 25), .ref (b + 29), .ref (b + 33), .ref pp, .int ht, .int (nI tp), .int sd, .int fa, .int (-1), .int 0]), (oC 6 [.ref (b + 2), .ref (b + 6), .ref (b + 7), .ref (b + 8), .ref qw, .int 1, .int (nI l), .int (nI w), .int rsd, .int (nI c)]), (oC 0 [.ref (b + 3), .ref ql, .int cn, .int s.2.1, .int s.2.2]), (aI 3 s.1), (aB 4096 fo), (aI 4096 fg), (aI 3 fz), (aR RX2 2 (imR b)), (oC 2 [.int i01, .int i02, .int i03, .int i04, .int i05, .int i06, .int i07]), (oC 2 [.int i11, .int i12, .int i13, .int i14, .int i15, .int i16, .int i17]), (oC 8 [.ref (b + 18), .int (nI (1 + M * (Y - 1)))]), (aI 94 (wgtF Y M)), (oC 1 [.ref (b + 20), .ref (b + 24), .int f.2.2.1.1, .int f.2.2.1.2.1, .int f.2.2.2.1, .int f.2.2.1.2.2.1, .int f.2.2.1.2.2.2.1, .int f.2.2.1.2.2.2.2.1, .int f.2.2.1.2.2.2.2.2]), (oC 0 [.ref (b + 21), .ref q0, .int c0, .int f.1.2.1, .int f.1.2.2]), (aI 3 f.1.1), (aI 3 f.2.1), (oC 0 [.ref (b + 26), .ref q1, .int c1, .int s1.2.1, .int s1.2.2]), (aI 3 s1.1), (oC 0 [.ref (b + 30), .ref q2, .int c2, .int s2.2.1, .int s2.2.2]), (aI 3 s2.1), (oC 5 (rdF (b + 34) ps x)), (aB 600 ft)]) rfl rfl) hpp (hPl_o hP1 (by intro a ha; simp only [List.mem_cons, List.not_mem_nil, or_false] at ha; rcases hpp with hpp | hpp <;> omega)) (hPl_o hP2 (by intro a ha; simp only [List.mem_cons, List.not_mem_nil, or_false] at ha; rcases hpp with hpp | hpp <;> omega)) hR0 hi0 hi1 htp hpo hht) (cFr_of (by intro a ha; simp only [List.mem_cons, List.not_mem_nil, or_false] at ha; omega))
    · have b43 := (nI_eq (a := (smN M Y c)) (b := 0) (by omega) (by omega)).mp b43
      refine w_aload_n dX9_worst_46 rfl ?_
      refine w_iconst (v := 5) dX9_worst_47 (by decide) ?_
      refine w_iconst (v := (-1)) dX9_worst_48 (by decide) ?_
      refine w_callV (ci := 9) (d' := d + 1) (mc' := 0) (ms' := 0) (As := [.int 5, .int (-1)]) (st := []) lX9_75 vX9_refused rfl (hUs_at nd 0 rfl rfl) rfl (Nat.le_of_ble_eq_true rfl) dX9_worst_49 (Nat.le_of_ble_eq_true rfl) (Nat.le_of_ble_eq_true rfl) (Nat.le_refl _) (c_refused (hHas_sub nd (as' := [b]) (cs' := [(oC 9 [.ref (b + 1), .ref (b + 14), .ref (b + 17), .ref (b + 19), .ref (b + 25), .ref (b + 29), .ref (b + 33), .ref pp, .int ht, .int (nI tp), .int sd, .int fa, .int pl, .int tr])]) [0] rfl rfl) (nd_sub nd (as' := [b]) [0] rfl rfl)  ?_)
      refine w_heq (hUs_in nd rfl [0] (cs2 := [(oC 9 [.ref (b + 1), .ref (b + 14), .ref (b + 17), .ref (b + 19), .ref (b + 25), .ref (b + 29), .ref (b + 33), .ref pp, .int ht, .int (nI tp), .int sd, .int fa, .int (-1), .int 5]), (oC 6 [.ref (b + 2), .ref (b + 6), .ref (b + 7), .ref (b + 8), .ref qw, .int 1, .int (nI l), .int (nI w), .int rsd, .int (nI c)]), (aI 4096 fg), (oC 8 [.ref (b + 18), .int wm]), (aI 94 fw)]) rfl rfl) ?_
      refine w_ireturn rfl dX9_worst_52 (Nat.le_of_ble_eq_true rfl) (Nat.le_of_ble_eq_true rfl) ?_
      have e : oWstF fg c (nI M) (nI Y) = ((-1), 5) := by
        simp [oWstF, hMc, hYc, b22, b43]
      rw [e] at k
      exact k _ (cI_i (cI_put hW (cAs_nd b) rfl [0, 1, 5, 10, 11] (cs2 := [(oC 9 [.ref (b + 1), .ref (b + 14), .ref (b + 17), .ref (b + 19), .ref (b + 25), .ref (b + 29), .ref (b + 33), .ref pp, .int ht, .int (nI tp), .int sd, .int fa, .int (-1), .int 5]), (oC 6 [.ref (b + 2), .ref (b + 6), .ref (b + 7), .ref (b + 8), .ref qw, .int 1, .int (nI l), .int (nI w), .int rsd, .int (nI c)]), (oC 0 [.ref (b + 3), .ref ql, .int cn, .int s.2.1, .int s.2.2]), (aI 3 s.1), (aB 4096 fo), (aI 4096 fg), (aI 3 fz), (aR RX2 2 (imR b)), (oC 2 [.int i01, .int i02, .int i03, .int i04, .int i05, .int i06, .int i07]), (oC 2 [.int i11, .int i12, .int i13, .int i14, .int i15, .int i16, .int i17]), (oC 8 [.ref (b + 18), .int wm]), (aI 94 fw), (oC 1 [.ref (b + 20), .ref (b + 24), .int f.2.2.1.1, .int f.2.2.1.2.1, .int f.2.2.2.1, .int f.2.2.1.2.2.1, .int f.2.2.1.2.2.2.1, .int f.2.2.1.2.2.2.2.1, .int f.2.2.1.2.2.2.2.2]), (oC 0 [.ref (b + 21), .ref q0, .int c0, .int f.1.2.1, .int f.1.2.2]), (aI 3 f.1.1), (aI 3 f.2.1), (oC 0 [.ref (b + 26), .ref q1, .int c1, .int s1.2.1, .int s1.2.2]), (aI 3 s1.1), (oC 0 [.ref (b + 30), .ref q2, .int c2, .int s2.2.1, .int s2.2.2]), (aI 3 s2.1), (oC 5 (rdF (b + 34) ps x)), (aB 600 ft)]) rfl rfl) hpp (hPl_o hP1 (by intro a ha; simp only [List.mem_cons, List.not_mem_nil, or_false] at ha; rcases hpp with hpp | hpp <;> omega)) (hPl_o hP2 (by intro a ha; simp only [List.mem_cons, List.not_mem_nil, or_false] at ha; rcases hpp with hpp | hpp <;> omega)) hR0 hi0 hi1 htp hpo hht) (cFr_of (by intro a ha; simp only [List.mem_cons, List.not_mem_nil, or_false] at ha; omega))
  · refine w_aload_n dX9_worst_25 rfl ?_
    refine w_iconst (v := 2) dX9_worst_26 (by decide) ?_
    refine w_iconst (v := (-1)) dX9_worst_27 (by decide) ?_
    refine w_callV (ci := 9) (d' := d + 1) (mc' := 0) (ms' := 0) (As := [.int 2, .int (-1)]) (st := []) lX9_75 vX9_refused rfl (hUs_at nd 0 rfl rfl) rfl (Nat.le_of_ble_eq_true rfl) dX9_worst_28 (Nat.le_of_ble_eq_true rfl) (Nat.le_of_ble_eq_true rfl) (Nat.le_refl _) (c_refused (hHas_sub nd (as' := [b]) (cs' := [(oC 9 [.ref (b + 1), .ref (b + 14), .ref (b + 17), .ref (b + 19), .ref (b + 25), .ref (b + 29), .ref (b + 33), .ref pp, .int ht, .int (nI tp), .int sd, .int fa, .int pl, .int tr])]) [0] rfl rfl) (nd_sub nd (as' := [b]) [0] rfl rfl)  ?_)
    refine w_heq (hUs_in nd rfl [0] (cs2 := [(oC 9 [.ref (b + 1), .ref (b + 14), .ref (b + 17), .ref (b + 19), .ref (b + 25), .ref (b + 29), .ref (b + 33), .ref pp, .int ht, .int (nI tp), .int sd, .int fa, .int (-1), .int 2]), (oC 6 [.ref (b + 2), .ref (b + 6), .ref (b + 7), .ref (b + 8), .ref qw, .int 1, .int (nI l), .int (nI w), .int rsd, .int (nI c)]), (aI 4096 fg), (oC 8 [.ref (b + 18), .int wm]), (aI 94 fw)]) rfl rfl) ?_
    refine w_ireturn rfl dX9_worst_31 (Nat.le_of_ble_eq_true rfl) (Nat.le_of_ble_eq_true rfl) ?_
    have e : oWstF fg c m y = ((-1), 2) := by
      simp [oWstF, b22]
    rw [e] at k
    exact k _ (cI_i (cI_put hW (cAs_nd b) rfl [0, 1, 5, 10, 11] (cs2 := [(oC 9 [.ref (b + 1), .ref (b + 14), .ref (b + 17), .ref (b + 19), .ref (b + 25), .ref (b + 29), .ref (b + 33), .ref pp, .int ht, .int (nI tp), .int sd, .int fa, .int (-1), .int 2]), (oC 6 [.ref (b + 2), .ref (b + 6), .ref (b + 7), .ref (b + 8), .ref qw, .int 1, .int (nI l), .int (nI w), .int rsd, .int (nI c)]), (oC 0 [.ref (b + 3), .ref ql, .int cn, .int s.2.1, .int s.2.2]), (aI 3 s.1), (aB 4096 fo), (aI 4096 fg), (aI 3 fz), (aR RX2 2 (imR b)), (oC 2 [.int i01, .int i02, .int i03, .int i04, .int i05, .int i06, .int i07]), (oC 2 [.int i11, .int i12, .int i13, .int i14, .int i15, .int i16, .int i17]), (oC 8 [.ref (b + 18), .int wm]), (aI 94 fw), (oC 1 [.ref (b + 20), .ref (b + 24), .int f.2.2.1.1, .int f.2.2.1.2.1, .int f.2.2.2.1, .int f.2.2.1.2.2.1, .int f.2.2.1.2.2.2.1, .int f.2.2.1.2.2.2.2.1, .int f.2.2.1.2.2.2.2.2]), (oC 0 [.ref (b + 21), .ref q0, .int c0, .int f.1.2.1, .int f.1.2.2]), (aI 3 f.1.1), (aI 3 f.2.1), (oC 0 [.ref (b + 26), .ref q1, .int c1, .int s1.2.1, .int s1.2.2]), (aI 3 s1.1), (oC 0 [.ref (b + 30), .ref q2, .int c2, .int s2.2.1, .int s2.2.2]), (aI 3 s2.1), (oC 5 (rdF (b + 34) ps x)), (aB 600 ft)]) rfl rfl) hpp (hPl_o hP1 (by intro a ha; simp only [List.mem_cons, List.not_mem_nil, or_false] at ha; rcases hpp with hpp | hpp <;> omega)) (hPl_o hP2 (by intro a ha; simp only [List.mem_cons, List.not_mem_nil, or_false] at ha; rcases hpp with hpp | hpp <;> omega)) hR0 hi0 hi1 htp hpo hht) (cFr_of (by intro a ha; simp only [List.mem_cons, List.not_mem_nil, or_false] at ha; omega))
theorem p_worst {G : wG} {d : Nat} {h : hH} {Q : Option Value → hH → Prop} {b : Nat} {ft : Nat → Int32} {tp : Nat} {P : pD} {ht : Int32} {R : Option rnD} {i0 i1 : imD} {sd fa pl tr : Int32}  {m y : Int32} (hI : cI h b ft tp P ht R i0 i1 sd fa pl tr) (k : ∀ h2, cI h2 b ft tp P ht R i0 i1 sd fa (-1) (oWst P R m y).2 → cFr b h h2 → Q (some (.int (oWst P R m y).1)) h2) : Cl G yX9_worst (d + 2) 0 0 [.ref b, .int m, .int y] h Q := by
  cases R with
  | none => exact p_worst_n hI k
  | some r => obtain ⟨l, w, rs, cc⟩ := r; exact p_worst_s hI k
