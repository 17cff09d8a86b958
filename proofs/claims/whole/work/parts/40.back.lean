def iBk (y : Int32) (i0 i1 : imD) : imD := if y = nI 0 then i0 else if y = nI 1 then i1 else none
def oBk (y : Int32) (i0 i1 : imD) : Int32 × Int32 := match iBk y i0 i1 with
  | none => (0, 1)
  | some _ => (1, 0)
def rBk (y : Int32) (i0 i1 : imD) (R : Option rnD) : Option rnD := match iBk y i0 i1 with
  | none => R
  | some x => x.1
def sBk (y : Int32) (i0 i1 : imD) (sd : Int32) : Int32 := match iBk y i0 i1 with
  | none => sd
  | some x => x.2
set_option maxRecDepth 100000 in
set_option maxHeartbeats 4000000 in
theorem c_give0 {G : wG} {d : Nat} {h : hH} {Q : Option Value → hH → Prop} {b pp qi qw : Nat} {go ln wn rsd c i3 i4 i5 i6 s7 : Int32} (hw : hHas h [b + 1, qi] [(oC 6 [.ref (b + 2), .ref (b + 6), .ref (b + 7), .ref (b + 8), .ref qw, .int go, .int ln, .int wn, .int rsd, .int c]), (oC 2 [.int 1, .int 0, .int i3, .int i4, .int i5, .int i6, .int s7])]) (nd : [b + 1, qi].Nodup)  (k : Q none (hUs h [b + 1, qi] [(oC 6 [.ref (b + 2), .ref (b + 6), .ref (b + 7), .ref (b + 8), .ref qw, .int 0, .int ln, .int wn, .int rsd, .int c]), (oC 2 [.int 1, .int 0, .int i3, .int i4, .int i5, .int i6, .int s7])])) : Cl G yX2_give (d + 4) 0 0 [.ref qi, .ref (b + 1), .ref pp] h Q := by
  refine Cl.of (ini := false) kX2_give (plainFor_of_name (by decide)) (by decide) (Nat.le_of_ble_eq_true rfl) rfl rfl (fun z => by cases z) ?_
  refine w_heq (hUs_id hw).symm ?_
  refine w_aload_n dX2_give_0 rfl ?_
  refine w_iconst (v := 0) dX2_give_1 (by decide) ?_
  refine w_put (fs' := [.ref (b + 2), .ref (b + 6), .ref (b + 7), .ref (b + 8), .ref qw, .int 0, .int ln, .int wn, .int rsd, .int c]) fX2_13 (hUs_at nd 0 rfl rfl) rfl rfl (Nat.le_of_ble_eq_true rfl) rfl dX2_give_2 ?_
  refine w_heq (hUs_set nd rfl 0 (cs' := [(oC 6 [.ref (b + 2), .ref (b + 6), .ref (b + 7), .ref (b + 8), .ref qw, .int 0, .int ln, .int wn, .int rsd, .int c]), (oC 2 [.int 1, .int 0, .int i3, .int i4, .int i5, .int i6, .int s7])]) rfl rfl) ?_
  refine w_aload_n dX2_give_5 rfl ?_
  refine w_get (v := .int 0) fX2_18 (hUs_at nd 1 rfl rfl) rfl dX2_give_6 ?_
  refine w_if_eq_t (tgt := 38) dX2_give_9 rfl rfl ?_
  refine w_return rfl dX2_give_38 (Nat.le_of_ble_eq_true rfl) (Nat.le_of_ble_eq_true rfl) ?_
  exact k
set_option maxRecDepth 100000 in
set_option maxHeartbeats 4000000 in
theorem c_give1 {G : wG} {d : Nat} {h : hH} {Q : Option Value → hH → Prop} {b pp qi qw ql j i lp wv cc c : Nat} {go ln wn rsd cn s7 x : Int32} {s : cS} {fo fg fz : Nat → Int32} {P : pD} (hw : hHas h [b + 1, b + 2, b + 3, b + 6, b + 7, b + 8, qi, pp, pp + 1, lp, lp + 1, pp + 10, wv, wv + 1, wv + 2, wv + 3, wv + 4] [(oC 6 [.ref (b + 2), .ref (b + 6), .ref (b + 7), .ref (b + 8), .ref qw, .int go, .int ln, .int wn, .int rsd, .int (nI c)]), (oC 0 [.ref (b + 3), .ref ql, .int cn, .int s.2.1, .int s.2.2]), (aI 3 s.1), (aB 4096 fo), (aI 4096 fg), (aI 3 fz), (oC 2 [.int 1, .int 1, .int (nI j), .int (nI i), .int x, .int (nI cc), .int s7]), (oC 4 [.ref (pp + 1), .ref (pp + 10), .int (nI P.1), .int (nI P.2.1)]), (aR RX3 4 (plL pp)), (oC 3 [.ref (lp + 1), .int (P.2.2.1 j).1, .int (nI (lPo (P.2.2.1 j)).1), .int (lPo (P.2.2.1 j)).2.2.1, .int (P.2.2.1 j).2.2.2.2.1, .int (lPo (P.2.2.1 j)).2.2.2]), (aI 3 (lPo (P.2.2.1 j)).2.1), (aR RX7 4 (plW pp)), (oC 7 (wvF wv ((P.2.2.2 i).1, (P.2.2.2 i).2))), (aI 8 (P.2.2.2 i).2.1), (aI 8 (P.2.2.2 i).2.2.1), (aI 8 (P.2.2.2 i).2.2.2.1), (aI 8 (P.2.2.2 i).2.2.2.2.1)]) (nd : [b + 1, b + 2, b + 3, b + 6, b + 7, b + 8, qi, pp, pp + 1, lp, lp + 1, pp + 10, wv, wv + 1, wv + 2, wv + 3, wv + 4].Nodup) (hP1 : hPl h pp P) (hlp : lp = pp + 2 + 2 * j) (hwv : wv = pp + 11 + 5 * i) (hj : j < P.1) (hi : i < P.2.1) (hn : (rQo P j i x).1.1 ≤ 3) (hP : (rQo P j i x).2.2.1.2.2.2.2.1 ≤ 8) (hc9 : (rQo P j i x).2.2.1.2.2.2.2.2 < 2 ^ 31) (hcc : cc ≤ 4096) (k : Q none (hUs h [b + 1, b + 2, b + 3, b + 6, b + 7, b + 8, qi, pp, pp + 1, lp, lp + 1, pp + 10, wv, wv + 1, wv + 2, wv + 3, wv + 4] [(oC 6 [.ref (b + 2), .ref (b + 6), .ref (b + 7), .ref (b + 8), .ref wv, .int 1, .int (nI j), .int (nI i), .int x, .int (nI cc)]), (oC 0 [.ref (b + 3), .ref lp, .int (rQo P j i x).2.1, .int (rS (rQo P j i x) cc).2.1, .int (rS (rQo P j i x) cc).2.2]), (aI 3 (rS (rQo P j i x) cc).1), (aB 4096 (putF fo (rO (rQo P j i x)) 0 cc)), (aI 4096 (putF fg (rG (rQo P j i x)) 0 cc)), (aI 3 (rZ (rQo P j i x) cc)), (oC 2 [.int 1, .int 1, .int (nI j), .int (nI i), .int x, .int (nI cc), .int s7]), (oC 4 [.ref (pp + 1), .ref (pp + 10), .int (nI P.1), .int (nI P.2.1)]), (aR RX3 4 (plL pp)), (oC 3 [.ref (lp + 1), .int (P.2.2.1 j).1, .int (nI (lPo (P.2.2.1 j)).1), .int (lPo (P.2.2.1 j)).2.2.1, .int (P.2.2.1 j).2.2.2.2.1, .int (lPo (P.2.2.1 j)).2.2.2]), (aI 3 (lPo (P.2.2.1 j)).2.1), (aR RX7 4 (plW pp)), (oC 7 (wvF wv ((P.2.2.2 i).1, (P.2.2.2 i).2))), (aI 8 (P.2.2.2 i).2.1), (aI 8 (P.2.2.2 i).2.2.1), (aI 8 (P.2.2.2 i).2.2.2.1), (aI 8 (P.2.2.2 i).2.2.2.2.1)])) : Cl G yX2_give (d + 4) 0 0 [.ref qi, .ref (b + 1), .ref pp] h Q := by
  refine Cl.of (ini := false) kX2_give (plainFor_of_name (by decide)) (by decide) (Nat.le_of_ble_eq_true rfl) rfl rfl (fun z => by cases z) ?_
  refine w_heq (hUs_id hw).symm ?_
  refine w_aload_n dX2_give_0 rfl ?_
  refine w_iconst (v := 0) dX2_give_1 (by decide) ?_
  refine w_put (fs' := [.ref (b + 2), .ref (b + 6), .ref (b + 7), .ref (b + 8), .ref qw, .int 0, .int ln, .int wn, .int rsd, .int (nI c)]) fX2_13 (hUs_at nd 0 rfl rfl) rfl rfl (Nat.le_of_ble_eq_true rfl) rfl dX2_give_2 ?_
  refine w_heq (hUs_set nd rfl 0 (cs' := [(oC 6 [.ref (b + 2), .ref (b + 6), .ref (b + 7), .ref (b + 8), .ref qw, .int 0, .int ln, .int wn, .int rsd, .int (nI c)]), (oC 0 [.ref (b + 3), .ref ql, .int cn, .int s.2.1, .int s.2.2]), (aI 3 s.1), (aB 4096 fo), (aI 4096 fg), (aI 3 fz), (oC 2 [.int 1, .int 1, .int (nI j), .int (nI i), .int x, .int (nI cc), .int s7]), (oC 4 [.ref (pp + 1), .ref (pp + 10), .int (nI P.1), .int (nI P.2.1)]), (aR RX3 4 (plL pp)), (oC 3 [.ref (lp + 1), .int (P.2.2.1 j).1, .int (nI (lPo (P.2.2.1 j)).1), .int (lPo (P.2.2.1 j)).2.2.1, .int (P.2.2.1 j).2.2.2.2.1, .int (lPo (P.2.2.1 j)).2.2.2]), (aI 3 (lPo (P.2.2.1 j)).2.1), (aR RX7 4 (plW pp)), (oC 7 (wvF wv ((P.2.2.2 i).1, (P.2.2.2 i).2))), (aI 8 (P.2.2.2 i).2.1), (aI 8 (P.2.2.2 i).2.2.1), (aI 8 (P.2.2.2 i).2.2.2.1), (aI 8 (P.2.2.2 i).2.2.2.2.1)]) rfl rfl) ?_
  refine w_aload_n dX2_give_5 rfl ?_
  refine w_get (v := .int 1) fX2_18 (hUs_at nd 6 rfl rfl) rfl dX2_give_6 ?_
  refine w_if_eq_f (tgt := 38) dX2_give_9 rfl (by decide) ?_
  refine w_aload_n dX2_give_12 rfl ?_
  refine w_aload_n dX2_give_13 rfl ?_
  refine w_aload_n dX2_give_14 rfl ?_
  refine w_get (v := .int (nI j)) fX2_23 (hUs_at nd 6 rfl rfl) rfl dX2_give_15 ?_
  refine w_aload_n dX2_give_18 rfl ?_
  refine w_get (v := .int (nI i)) fX2_27 (hUs_at nd 6 rfl rfl) rfl dX2_give_19 ?_
  refine w_aload_n dX2_give_22 rfl ?_
  refine w_get (v := .int x) fX2_31 (hUs_at nd 6 rfl rfl) rfl dX2_give_23 ?_
  refine w_callV (ci := 6) (d' := d + 3) (mc' := 0) (ms' := 0) (As := [.ref pp, .int (nI j), .int (nI i), .int x]) (st := []) lX2_39 vX6_start rfl (hUs_at nd 0 rfl rfl) rfl (Nat.le_of_ble_eq_true rfl) dX2_give_26 (Nat.le_of_ble_eq_true rfl) (Nat.le_of_ble_eq_true rfl) (Nat.le_refl _) (c_Run_start (hHas_sub nd (as' := [b + 1, b + 2, b + 3, b + 8, pp, pp + 1, pp + 10, lp]) (cs' := [(oC 6 [.ref (b + 2), .ref (b + 6), .ref (b + 7), .ref (b + 8), .ref qw, .int 0, .int ln, .int wn, .int rsd, .int (nI c)]), (oC 0 [.ref (b + 3), .ref ql, .int cn, .int s.2.1, .int s.2.2]), (aI 3 s.1), (aI 3 fz), (oC 4 [.ref (pp + 1), .ref (pp + 10), .int (nI P.1), .int (nI P.2.1)]), (aR RX3 4 (plL pp)), (aR RX7 4 (plW pp)), (oC 3 [.ref (lp + 1), .int (P.2.2.1 j).1, .int (nI (lPo (P.2.2.1 j)).1), .int (lPo (P.2.2.1 j)).2.2.1, .int (P.2.2.1 j).2.2.2.2.1, .int (lPo (P.2.2.1 j)).2.2.2])]) [0, 1, 2, 5, 7, 8, 11, 9] rfl rfl) (nd_sub nd (as' := [b + 1, b + 2, b + 3, b + 8, pp, pp + 1, pp + 10, lp]) [0, 1, 2, 5, 7, 8, 11, 9] rfl rfl) hj hP1.1.1 (show plL pp j = some lp by rw [hlp]; rfl) hi hP1.1.2 (show plW pp i = some wv by rw [hwv]; rfl) ?_)
  refine w_heq (hUs_in nd rfl [0, 1, 2, 5, 7, 8, 11, 9] (cs2 := [(oC 6 [.ref (b + 2), .ref (b + 6), .ref (b + 7), .ref (b + 8), .ref wv, .int 1, .int (nI j), .int (nI i), .int x, .int 0]), (oC 0 [.ref (b + 3), .ref lp, .int (P.2.2.1 j).2.2.2.2.1, .int x, .int 0]), (aI 3 (fun _ => 0)), (aB 4096 fo), (aI 4096 fg), (aI 3 (fun _ => 0)), (oC 2 [.int 1, .int 1, .int (nI j), .int (nI i), .int x, .int (nI cc), .int s7]), (oC 4 [.ref (pp + 1), .ref (pp + 10), .int (nI P.1), .int (nI P.2.1)]), (aR RX3 4 (plL pp)), (oC 3 [.ref (lp + 1), .int (P.2.2.1 j).1, .int (nI (lPo (P.2.2.1 j)).1), .int (lPo (P.2.2.1 j)).2.2.1, .int (P.2.2.1 j).2.2.2.2.1, .int (lPo (P.2.2.1 j)).2.2.2]), (aI 3 (lPo (P.2.2.1 j)).2.1), (aR RX7 4 (plW pp)), (oC 7 (wvF wv ((P.2.2.2 i).1, (P.2.2.2 i).2))), (aI 8 (P.2.2.2 i).2.1), (aI 8 (P.2.2.2 i).2.2.1), (aI 8 (P.2.2.2 i).2.2.2.1), (aI 8 (P.2.2.2 i).2.2.2.2.1)]) rfl rfl) ?_
  refine w_heq (show _ = hUs h [b + 1, b + 2, b + 3, b + 6, b + 7, b + 8, qi, pp, pp + 1, lp, lp + 1, pp + 10, wv, wv + 1, wv + 2, wv + 3, wv + 4] [(oC 6 [.ref (b + 2), .ref (b + 6), .ref (b + 7), .ref (b + 8), .ref wv, .int 1, .int (nI j), .int (nI i), .int x, .int (nI 0)]), (oC 0 [.ref (b + 3), .ref lp, .int (rQo P j i x).2.1, .int (rS (rQo P j i x) 0).2.1, .int (rS (rQo P j i x) 0).2.2]), (aI 3 (rS (rQo P j i x) 0).1), (aB 4096 fo), (aI 4096 fg), (aI 3 (rZ (rQo P j i x) 0)), (oC 2 [.int 1, .int 1, .int (nI j), .int (nI i), .int x, .int (nI cc), .int s7]), (oC 4 [.ref (pp + 1), .ref (pp + 10), .int (nI P.1), .int (nI P.2.1)]), (aR RX3 4 (plL pp)), (oC 3 [.ref (lp + 1), .int (P.2.2.1 j).1, .int (nI (lPo (P.2.2.1 j)).1), .int (lPo (P.2.2.1 j)).2.2.1, .int (P.2.2.1 j).2.2.2.2.1, .int (lPo (P.2.2.1 j)).2.2.2]), (aI 3 (lPo (P.2.2.1 j)).2.1), (aR RX7 4 (plW pp)), (oC 7 (wvF wv ((P.2.2.2 i).1, (P.2.2.2 i).2))), (aI 8 (P.2.2.2 i).2.1), (aI 8 (P.2.2.2 i).2.2.1), (aI 8 (P.2.2.2 i).2.2.2.1), (aI 8 (P.2.2.2 i).2.2.2.2.1)] from rfl) ?_
  refine w_aload_n dX2_give_29 rfl ?_
  refine w_aload_n dX2_give_30 rfl ?_
  refine w_get (v := .int (nI cc)) fX2_35 (hUs_at nd 6 rfl rfl) rfl dX2_give_31 ?_
  refine w_callV (ci := 6) (d' := d + 3) (mc' := 0) (ms' := 0) (As := [.int (nI cc)]) (st := []) lX2_43 vX6_go rfl (hUs_at nd 0 rfl rfl) rfl (Nat.le_of_ble_eq_true rfl) dX2_give_34 (Nat.le_of_ble_eq_true rfl) (Nat.le_of_ble_eq_true rfl) (Nat.le_refl _) (c_go (r := (rQo P j i x)) (c := 0) (hHas_sub nd (as' := [b + 1, b + 2, b + 3, lp, lp + 1, wv, wv + 1, wv + 2, wv + 3, wv + 4, b + 6, b + 7, b + 8]) (cs' := [(oC 6 [.ref (b + 2), .ref (b + 6), .ref (b + 7), .ref (b + 8), .ref wv, .int 1, .int (nI j), .int (nI i), .int x, .int (nI 0)]), (oC 0 [.ref (b + 3), .ref lp, .int (rQo P j i x).2.1, .int (rS (rQo P j i x) 0).2.1, .int (rS (rQo P j i x) 0).2.2]), (aI 3 (rS (rQo P j i x) 0).1), (oC 3 [.ref (lp + 1), .int (P.2.2.1 j).1, .int (nI (lPo (P.2.2.1 j)).1), .int (lPo (P.2.2.1 j)).2.2.1, .int (P.2.2.1 j).2.2.2.2.1, .int (lPo (P.2.2.1 j)).2.2.2]), (aI 3 (lPo (P.2.2.1 j)).2.1), (oC 7 (wvF wv ((P.2.2.2 i).1, (P.2.2.2 i).2))), (aI 8 (P.2.2.2 i).2.1), (aI 8 (P.2.2.2 i).2.2.1), (aI 8 (P.2.2.2 i).2.2.2.1), (aI 8 (P.2.2.2 i).2.2.2.2.1), (aB 4096 fo), (aI 4096 fg), (aI 3 (rZ (rQo P j i x) 0))]) [0, 1, 2, 9, 10, 12, 13, 14, 15, 16, 3, 4, 5] rfl rfl) (nd_sub nd (as' := [b + 1, b + 2, b + 3, lp, lp + 1, wv, wv + 1, wv + 2, wv + 3, wv + 4, b + 6, b + 7, b + 8]) [0, 1, 2, 9, 10, 12, 13, 14, 15, 16, 3, 4, 5] rfl rfl) hn hP hc9 (by omega) ?_)
  refine w_heq (hUs_in nd rfl [0, 1, 2, 9, 10, 12, 13, 14, 15, 16, 3, 4, 5] (cs2 := [(oC 6 [.ref (b + 2), .ref (b + 6), .ref (b + 7), .ref (b + 8), .ref wv, .int 1, .int (nI j), .int (nI i), .int x, .int (nI (0 + cc))]), (oC 0 [.ref (b + 3), .ref lp, .int (rQo P j i x).2.1, .int (rS (rQo P j i x) (0 + cc)).2.1, .int (rS (rQo P j i x) (0 + cc)).2.2]), (aI 3 (rS (rQo P j i x) (0 + cc)).1), (aB 4096 (putF fo (rO (rQo P j i x)) 0 cc)), (aI 4096 (putF fg (rG (rQo P j i x)) 0 cc)), (aI 3 (rZ (rQo P j i x) (0 + cc))), (oC 2 [.int 1, .int 1, .int (nI j), .int (nI i), .int x, .int (nI cc), .int s7]), (oC 4 [.ref (pp + 1), .ref (pp + 10), .int (nI P.1), .int (nI P.2.1)]), (aR RX3 4 (plL pp)), (oC 3 [.ref (lp + 1), .int (P.2.2.1 j).1, .int (nI (lPo (P.2.2.1 j)).1), .int (lPo (P.2.2.1 j)).2.2.1, .int (P.2.2.1 j).2.2.2.2.1, .int (lPo (P.2.2.1 j)).2.2.2]), (aI 3 (lPo (P.2.2.1 j)).2.1), (aR RX7 4 (plW pp)), (oC 7 (wvF wv ((P.2.2.2 i).1, (P.2.2.2 i).2))), (aI 8 (P.2.2.2 i).2.1), (aI 8 (P.2.2.2 i).2.2.1), (aI 8 (P.2.2.2 i).2.2.2.1), (aI 8 (P.2.2.2 i).2.2.2.2.1)]) rfl rfl) ?_
  refine w_pop dX2_give_37 rfl ?_
  refine w_return rfl dX2_give_38 (Nat.le_of_ble_eq_true rfl) (Nat.le_of_ble_eq_true rfl) ?_
  rw [Nat.zero_add]
  exact k
set_option maxRecDepth 100000 in
set_option maxHeartbeats 4000000 in
theorem p_back_0n {G : wG} {d : Nat} {h : hH} {Q : Option Value → hH → Prop} {b : Nat} {ft : Nat → Int32} {tp : Nat} {P : pD} {ht : Int32} {R : Option rnD} {i0 i1 : imD} {sd fa pl tr : Int32}  (hI : cI h b ft tp P ht R (none) i1 sd fa pl tr)  (k : ∀ h2, cI h2 b ft tp P ht (rBk (nI 0) (none) i1 R) (none) i1 (sBk (nI 0) (none) i1 sd) fa (-1) (oBk (nI 0) (none) i1).2 → cFr b h h2 → Q (some (.int (oBk (nI 0) (none) i1).1)) h2) : Cl G yX9_back (d + 5) 0 0 [.ref b, .int (nI 0)] h Q := by
  refine cI_e hI ?_
  intro pp ps P2 go ln wn rsd c qw ql cn s fo fg fz i01 i02 i03 i04 i05 i06 i07 i11 i12 i13 i14 i15 i16 i17 wm fw f q0 c0 s1 q1 c1 s2 q2 c2 x hW hpp hP1 hP2 hR hi0 hi1 htp hpo hht
  have h0 : i01 = 0 := hi0
  subst h0
  have hw : hHas h [b, b + 14, b + 15] [(oC 9 [.ref (b + 1), .ref (b + 14), .ref (b + 17), .ref (b + 19), .ref (b + 25), .ref (b + 29), .ref (b + 33), .ref pp, .int ht, .int (nI tp), .int sd, .int fa, .int pl, .int tr]), (aR RX2 2 (imR b)), (oC 2 [.int 0, .int i02, .int i03, .int i04, .int i05, .int i06, .int i07])] := hHas_s hW [0, 7, 8] rfl rfl
  have nd : [b, b + 14, b + 15].Nodup := (nd_inc ⟨by omega, by omega, trivial⟩)
  refine Cl.of (ini := false) kX9_back (plainFor_of_name (by decide)) (by decide) (Nat.le_of_ble_eq_true rfl) rfl rfl (fun z => by cases z) ?_
  refine w_heq (hUs_id hw).symm ?_
  refine w_iload_n dX9_back_0 rfl ?_
  refine w_if_lt_f (tgt := 25) dX9_back_1 rfl (fun z => absurd ((nI_ltI (a := 0) (b := 0) (by omega) (by omega)).mp z) (by omega)) ?_
  refine w_iload_n dX9_back_4 rfl ?_
  refine w_aload_n dX9_back_5 rfl ?_
  refine w_get (v := .ref (b + 14)) fX9_19 (hUs_at nd 0 rfl rfl) rfl dX9_back_6 ?_
  refine w_alen (v := (nI 2)) (hUs_at nd 1 rfl rfl) rfl dX9_back_9 ?_
  refine w_icmp_ge_f (tgt := 25) dX9_back_10 rfl (fun z => absurd ((nI_leI (a := 2) (b := 0) (by omega) (by omega)).mp z) (by omega)) ?_
  refine w_aload_n dX9_back_13 rfl ?_
  refine w_get (v := .ref (b + 14)) fX9_19 (hUs_at nd 0 rfl rfl) rfl dX9_back_14 ?_
  refine w_iload_n dX9_back_17 rfl ?_
  refine w_aaloadN (hUs_at nd 1 rfl rfl) (by omega) (by omega) dX9_back_18 ?_
  refine w_topV (z := .ref (b + 15)) rfl ?_
  refine w_get (v := .int 0) fX9_280 (hUs_at nd 2 rfl rfl) rfl dX9_back_19 ?_
  refine w_if_ne_f (tgt := 31) dX9_back_22 rfl (by decide) ?_
  refine w_aload_n dX9_back_25 rfl ?_
  refine w_iconst (v := 1) dX9_back_26 (by decide) ?_
  refine w_callV (ci := 9) (d' := d + 4) (mc' := 0) (ms' := 0) (As := [.int 1]) (st := []) lX9_128 vX9_isRefused rfl (hUs_at nd 0 rfl rfl) rfl (Nat.le_of_ble_eq_true rfl) dX9_back_27 (Nat.le_of_ble_eq_true rfl) (Nat.le_of_ble_eq_true rfl) (Nat.le_refl _) (c_isRefused (hHas_sub nd (as' := [b]) (cs' := [(oC 9 [.ref (b + 1), .ref (b + 14), .ref (b + 17), .ref (b + 19), .ref (b + 25), .ref (b + 29), .ref (b + 33), .ref pp, .int ht, .int (nI tp), .int sd, .int fa, .int pl, .int tr])]) [0] rfl rfl) (nd_sub nd (as' := [b]) [0] rfl rfl)  ?_)
  refine w_heq (hUs_in nd rfl [0] (cs2 := [(oC 9 [.ref (b + 1), .ref (b + 14), .ref (b + 17), .ref (b + 19), .ref (b + 25), .ref (b + 29), .ref (b + 33), .ref pp, .int ht, .int (nI tp), .int sd, .int fa, .int (-1), .int 1]), (aR RX2 2 (imR b)), (oC 2 [.int 0, .int i02, .int i03, .int i04, .int i05, .int i06, .int i07])]) rfl rfl) ?_
  refine w_zreturn rfl dX9_back_30 rfl (Nat.le_of_ble_eq_true rfl) (Nat.le_of_ble_eq_true rfl) ?_
  have e8 : iBk (nI 0) (none) i1 = (none) := by
    simp [iBk]
  have e : oBk (nI 0) (none) i1 = (0, 1) := by
    rw [oBk, e8]
  have e1 : rBk (nI 0) (none) i1 R = R := by
    rw [rBk, e8]
  have e2 : sBk (nI 0) (none) i1 sd = sd := by
    rw [sBk, e8]
  rw [e, e1, e2] at k
  exact k _ (cI_i (cI_put hW (cAs_nd b) rfl [0, 7, 8] (cs2 := [(oC 9 [.ref (b + 1), .ref (b + 14), .ref (b + 17), .ref (b + 19), .ref (b + 25), .ref (b + 29), .ref (b + 33), .ref pp, .int ht, .int (nI tp), .int sd, .int fa, .int (-1), .int 1]), (oC 6 [.ref (b + 2), .ref (b + 6), .ref (b + 7), .ref (b + 8), .ref qw, .int go, .int ln, .int wn, .int rsd, .int (nI c)]), (oC 0 [.ref (b + 3), .ref ql, .int cn, .int s.2.1, .int s.2.2]), (aI 3 s.1), (aB 4096 fo), (aI 4096 fg), (aI 3 fz), (aR RX2 2 (imR b)), (oC 2 [.int 0, .int i02, .int i03, .int i04, .int i05, .int i06, .int i07]), (oC 2 [.int i11, .int i12, .int i13, .int i14, .int i15, .int i16, .int i17]), (oC 8 [.ref (b + 18), .int wm]), (aI 94 fw), (oC 1 [.ref (b + 20), .ref (b + 24), .int f.2.2.1.1, .int f.2.2.1.2.1, .int f.2.2.2.1, .int f.2.2.1.2.2.1, .int f.2.2.1.2.2.2.1, .int f.2.2.1.2.2.2.2.1, .int f.2.2.1.2.2.2.2.2]), (oC 0 [.ref (b + 21), .ref q0, .int c0, .int f.1.2.1, .int f.1.2.2]), (aI 3 f.1.1), (aI 3 f.2.1), (oC 0 [.ref (b + 26), .ref q1, .int c1, .int s1.2.1, .int s1.2.2]), (aI 3 s1.1), (oC 0 [.ref (b + 30), .ref q2, .int c2, .int s2.2.1, .int s2.2.2]), (aI 3 s2.1), (oC 5 (rdF (b + 34) ps x)), (aB 600 ft)]) rfl rfl) hpp (hPl_o hP1 (by intro a ha; simp only [List.mem_cons, List.not_mem_nil, or_false] at ha; rcases hpp with hpp | hpp <;> omega)) (hPl_o hP2 (by intro a ha; simp only [List.mem_cons, List.not_mem_nil, or_false] at ha; rcases hpp with hpp | hpp <;> omega)) hR hi0 hi1 htp hpo hht) (cFr_of (by intro a ha; simp only [List.mem_cons, List.not_mem_nil, or_false] at ha; omega))
set_option maxRecDepth 100000 in
set_option maxHeartbeats 4000000 in
theorem p_back_0o {G : wG} {d : Nat} {h : hH} {Q : Option Value → hH → Prop} {b : Nat} {ft : Nat → Int32} {tp : Nat} {P : pD} {ht : Int32} {R : Option rnD} {i0 i1 : imD} {sd fa pl tr : Int32}  {s7 : Int32} (hI : cI h b ft tp P ht R (some (none, s7)) i1 sd fa pl tr)  (k : ∀ h2, cI h2 b ft tp P ht (rBk (nI 0) (some (none, s7)) i1 R) (some (none, s7)) i1 (sBk (nI 0) (some (none, s7)) i1 sd) fa (-1) (oBk (nI 0) (some (none, s7)) i1).2 → cFr b h h2 → Q (some (.int (oBk (nI 0) (some (none, s7)) i1).1)) h2) : Cl G yX9_back (d + 5) 0 0 [.ref b, .int (nI 0)] h Q := by
  refine cI_e hI ?_
  intro pp ps P2 go ln wn rsd c qw ql cn s fo fg fz i01 i02 i03 i04 i05 i06 i07 i11 i12 i13 i14 i15 i16 i17 wm fw f q0 c0 s1 q1 c1 s2 q2 c2 x hW hpp hP1 hP2 hR hi0 hi1 htp hpo hht
  have hiv := hi0
  obtain ⟨h1, h2, h3⟩ : i01 = 1 ∧ i02 = 0 ∧ i07 = s7 := hi0
  subst h1; subst h2; subst h3
  have hw : hHas h [b, b + 1, b + 14, b + 15] [(oC 9 [.ref (b + 1), .ref (b + 14), .ref (b + 17), .ref (b + 19), .ref (b + 25), .ref (b + 29), .ref (b + 33), .ref pp, .int ht, .int (nI tp), .int sd, .int fa, .int pl, .int tr]), (oC 6 [.ref (b + 2), .ref (b + 6), .ref (b + 7), .ref (b + 8), .ref qw, .int go, .int ln, .int wn, .int rsd, .int (nI c)]), (aR RX2 2 (imR b)), (oC 2 [.int 1, .int 0, .int i03, .int i04, .int i05, .int i06, .int i07])] := hHas_s hW [0, 1, 7, 8] rfl rfl
  have nd : [b, b + 1, b + 14, b + 15].Nodup := (nd_inc ⟨by omega, by omega, by omega, trivial⟩)
  refine Cl.of (ini := false) kX9_back (plainFor_of_name (by decide)) (by decide) (Nat.le_of_ble_eq_true rfl) rfl rfl (fun z => by cases z) ?_
  refine w_heq (hUs_id hw).symm ?_
  refine w_iload_n dX9_back_0 rfl ?_
  refine w_if_lt_f (tgt := 25) dX9_back_1 rfl (fun z => absurd ((nI_ltI (a := 0) (b := 0) (by omega) (by omega)).mp z) (by omega)) ?_
  refine w_iload_n dX9_back_4 rfl ?_
  refine w_aload_n dX9_back_5 rfl ?_
  refine w_get (v := .ref (b + 14)) fX9_19 (hUs_at nd 0 rfl rfl) rfl dX9_back_6 ?_
  refine w_alen (v := (nI 2)) (hUs_at nd 2 rfl rfl) rfl dX9_back_9 ?_
  refine w_icmp_ge_f (tgt := 25) dX9_back_10 rfl (fun z => absurd ((nI_leI (a := 2) (b := 0) (by omega) (by omega)).mp z) (by omega)) ?_
  refine w_aload_n dX9_back_13 rfl ?_
  refine w_get (v := .ref (b + 14)) fX9_19 (hUs_at nd 0 rfl rfl) rfl dX9_back_14 ?_
  refine w_iload_n dX9_back_17 rfl ?_
  refine w_aaloadN (hUs_at nd 2 rfl rfl) (by omega) (by omega) dX9_back_18 ?_
  refine w_topV (z := .ref (b + 15)) rfl ?_
  refine w_get (v := .int 1) fX9_280 (hUs_at nd 3 rfl rfl) rfl dX9_back_19 ?_
  refine w_if_ne_t (tgt := 31) dX9_back_22 rfl (by decide) ?_
  refine w_aload_n dX9_back_31 rfl ?_
  refine w_get (v := .ref (b + 14)) fX9_19 (hUs_at nd 0 rfl rfl) rfl dX9_back_32 ?_
  refine w_iload_n dX9_back_35 rfl ?_
  refine w_aaloadN (hUs_at nd 2 rfl rfl) (by omega) (by omega) dX9_back_36 ?_
  refine w_topV (z := .ref (b + 15)) rfl ?_
  refine w_aload_n dX9_back_37 rfl ?_
  refine w_get (v := .ref (b + 1)) fX9_10 (hUs_at nd 0 rfl rfl) rfl dX9_back_38 ?_
  refine w_aload_n dX9_back_41 rfl ?_
  refine w_get (v := .ref pp) fX9_57 (hUs_at nd 0 rfl rfl) rfl dX9_back_42 ?_
  refine w_callV (ci := 2) (d' := d + 4) (mc' := 0) (ms' := 0) (As := [.ref (b + 1), .ref pp]) (st := []) lX9_283 vX2_give rfl (hUs_at nd 3 rfl rfl) rfl (Nat.le_of_ble_eq_true rfl) dX9_back_45 (Nat.le_of_ble_eq_true rfl) (Nat.le_of_ble_eq_true rfl) (Nat.le_refl _) (c_give0 (hHas_sub nd (as' := [b + 1, b + 15]) (cs' := [(oC 6 [.ref (b + 2), .ref (b + 6), .ref (b + 7), .ref (b + 8), .ref qw, .int go, .int ln, .int wn, .int rsd, .int (nI c)]), (oC 2 [.int 1, .int 0, .int i03, .int i04, .int i05, .int i06, .int i07])]) [1, 3] rfl rfl) (nd_sub nd (as' := [b + 1, b + 15]) [1, 3] rfl rfl) ?_)
  refine w_heq (hUs_in nd rfl [1, 3] (cs2 := [(oC 9 [.ref (b + 1), .ref (b + 14), .ref (b + 17), .ref (b + 19), .ref (b + 25), .ref (b + 29), .ref (b + 33), .ref pp, .int ht, .int (nI tp), .int sd, .int fa, .int pl, .int tr]), (oC 6 [.ref (b + 2), .ref (b + 6), .ref (b + 7), .ref (b + 8), .ref qw, .int 0, .int ln, .int wn, .int rsd, .int (nI c)]), (aR RX2 2 (imR b)), (oC 2 [.int 1, .int 0, .int i03, .int i04, .int i05, .int i06, .int i07])]) rfl rfl) ?_
  refine w_aload_n dX9_back_48 rfl ?_
  refine w_aload_n dX9_back_49 rfl ?_
  refine w_get (v := .ref (b + 14)) fX9_19 (hUs_at nd 0 rfl rfl) rfl dX9_back_50 ?_
  refine w_iload_n dX9_back_53 rfl ?_
  refine w_aaloadN (hUs_at nd 2 rfl rfl) (by omega) (by omega) dX9_back_54 ?_
  refine w_topV (z := .ref (b + 15)) rfl ?_
  refine w_get (v := .int i07) fX9_287 (hUs_at nd 3 rfl rfl) rfl dX9_back_55 ?_
  refine w_put (fs' := [.ref (b + 1), .ref (b + 14), .ref (b + 17), .ref (b + 19), .ref (b + 25), .ref (b + 29), .ref (b + 33), .ref pp, .int ht, .int (nI tp), .int i07, .int fa, .int pl, .int tr]) fX9_61 (hUs_at nd 0 rfl rfl) rfl rfl (Nat.le_of_ble_eq_true rfl) rfl dX9_back_58 ?_
  refine w_heq (hUs_set nd rfl 0 (cs' := [(oC 9 [.ref (b + 1), .ref (b + 14), .ref (b + 17), .ref (b + 19), .ref (b + 25), .ref (b + 29), .ref (b + 33), .ref pp, .int ht, .int (nI tp), .int i07, .int fa, .int pl, .int tr]), (oC 6 [.ref (b + 2), .ref (b + 6), .ref (b + 7), .ref (b + 8), .ref qw, .int 0, .int ln, .int wn, .int rsd, .int (nI c)]), (aR RX2 2 (imR b)), (oC 2 [.int 1, .int 0, .int i03, .int i04, .int i05, .int i06, .int i07])]) rfl rfl) ?_
  refine w_aload_n dX9_back_61 rfl ?_
  refine w_callV (ci := 9) (d' := d + 4) (mc' := 0) (ms' := 0) (As := []) (st := []) lX9_131 vX9_isGranted rfl (hUs_at nd 0 rfl rfl) rfl (Nat.le_of_ble_eq_true rfl) dX9_back_62 (Nat.le_of_ble_eq_true rfl) (Nat.le_of_ble_eq_true rfl) (Nat.le_refl _) (c_isGranted (hHas_sub nd (as' := [b]) (cs' := [(oC 9 [.ref (b + 1), .ref (b + 14), .ref (b + 17), .ref (b + 19), .ref (b + 25), .ref (b + 29), .ref (b + 33), .ref pp, .int ht, .int (nI tp), .int i07, .int fa, .int pl, .int tr])]) [0] rfl rfl) (nd_sub nd (as' := [b]) [0] rfl rfl)  ?_)
  refine w_heq (hUs_in nd rfl [0] (cs2 := [(oC 9 [.ref (b + 1), .ref (b + 14), .ref (b + 17), .ref (b + 19), .ref (b + 25), .ref (b + 29), .ref (b + 33), .ref pp, .int ht, .int (nI tp), .int i07, .int fa, .int (-1), .int 0]), (oC 6 [.ref (b + 2), .ref (b + 6), .ref (b + 7), .ref (b + 8), .ref qw, .int 0, .int ln, .int wn, .int rsd, .int (nI c)]), (aR RX2 2 (imR b)), (oC 2 [.int 1, .int 0, .int i03, .int i04, .int i05, .int i06, .int i07])]) rfl rfl) ?_
  refine w_zreturn rfl dX9_back_65 rfl (Nat.le_of_ble_eq_true rfl) (Nat.le_of_ble_eq_true rfl) ?_
  have e8 : iBk (nI 0) (some (none, i07)) i1 = (some (none, i07)) := by
    simp [iBk]
  have e : oBk (nI 0) (some (none, i07)) i1 = (1, 0) := by
    rw [oBk, e8]
  have e1 : rBk (nI 0) (some (none, i07)) i1 R = none := by
    rw [rBk, e8]
  have e2 : sBk (nI 0) (some (none, i07)) i1 sd = i07 := by
    rw [sBk, e8]
  rw [e, e1, e2] at k
  exact k _ (cI_i (cI_put hW (cAs_nd b) rfl [0, 1, 7, 8] (cs2 := [(oC 9 [.ref (b + 1), .ref (b + 14), .ref (b + 17), .ref (b + 19), .ref (b + 25), .ref (b + 29), .ref (b + 33), .ref pp, .int ht, .int (nI tp), .int i07, .int fa, .int (-1), .int 0]), (oC 6 [.ref (b + 2), .ref (b + 6), .ref (b + 7), .ref (b + 8), .ref qw, .int 0, .int ln, .int wn, .int rsd, .int (nI c)]), (oC 0 [.ref (b + 3), .ref ql, .int cn, .int s.2.1, .int s.2.2]), (aI 3 s.1), (aB 4096 fo), (aI 4096 fg), (aI 3 fz), (aR RX2 2 (imR b)), (oC 2 [.int 1, .int 0, .int i03, .int i04, .int i05, .int i06, .int i07]), (oC 2 [.int i11, .int i12, .int i13, .int i14, .int i15, .int i16, .int i17]), (oC 8 [.ref (b + 18), .int wm]), (aI 94 fw), (oC 1 [.ref (b + 20), .ref (b + 24), .int f.2.2.1.1, .int f.2.2.1.2.1, .int f.2.2.2.1, .int f.2.2.1.2.2.1, .int f.2.2.1.2.2.2.1, .int f.2.2.1.2.2.2.2.1, .int f.2.2.1.2.2.2.2.2]), (oC 0 [.ref (b + 21), .ref q0, .int c0, .int f.1.2.1, .int f.1.2.2]), (aI 3 f.1.1), (aI 3 f.2.1), (oC 0 [.ref (b + 26), .ref q1, .int c1, .int s1.2.1, .int s1.2.2]), (aI 3 s1.1), (oC 0 [.ref (b + 30), .ref q2, .int c2, .int s2.2.1, .int s2.2.2]), (aI 3 s2.1), (oC 5 (rdF (b + 34) ps x)), (aB 600 ft)]) rfl rfl) hpp (hPl_o hP1 (by intro a ha; simp only [List.mem_cons, List.not_mem_nil, or_false] at ha; rcases hpp with hpp | hpp <;> omega)) (hPl_o hP2 (by intro a ha; simp only [List.mem_cons, List.not_mem_nil, or_false] at ha; rcases hpp with hpp | hpp <;> omega)) (show rIv pp P none 0 ln wn rsd c qw ql cn s fo fg fz from rfl) hiv hi1 htp hpo hht) (cFr_of (by intro a ha; simp only [List.mem_cons, List.not_mem_nil, or_false] at ha; omega))
set_option maxRecDepth 100000 in
set_option maxHeartbeats 4000000 in
theorem p_back_0r {G : wG} {d : Nat} {h : hH} {Q : Option Value → hH → Prop} {b : Nat} {ft : Nat → Int32} {tp : Nat} {P : pD} {ht : Int32} {R : Option rnD} {i0 i1 : imD} {sd fa pl tr : Int32}  {j i cc : Nat} {x7 s7 : Int32} (hI : cI h b ft tp P ht R (some (some (j, i, x7, cc), s7)) i1 sd fa pl tr)  (k : ∀ h2, cI h2 b ft tp P ht (rBk (nI 0) (some (some (j, i, x7, cc), s7)) i1 R) (some (some (j, i, x7, cc), s7)) i1 (sBk (nI 0) (some (some (j, i, x7, cc), s7)) i1 sd) fa (-1) (oBk (nI 0) (some (some (j, i, x7, cc), s7)) i1).2 → cFr b h h2 → Q (some (.int (oBk (nI 0) (some (some (j, i, x7, cc), s7)) i1).1)) h2) : Cl G yX9_back (d + 5) 0 0 [.ref b, .int (nI 0)] h Q := by
  refine cI_e hI ?_
  intro pp ps P2 go ln wn rsd c qw ql cn s fo fg fz i01 i02 i03 i04 i05 i06 i07 i11 i12 i13 i14 i15 i16 i17 wm fw f q0 c0 s1 q1 c1 s2 q2 c2 x hW hpp hP1 hP2 hR hi0 hi1 htp hpo hht
  have hiv := hi0
  obtain ⟨h1, h2, h3, h4, h5, h6, h7, hrn⟩ : i01 = 1 ∧ i02 = 1 ∧ i03 = nI j ∧ i04 = nI i ∧ i05 = x7 ∧ i06 = nI cc ∧ i07 = s7 ∧ rnOk P (j, i, x7, cc) := hi0
  subst h1; subst h2; subst h3; subst h4; subst h5; subst h6; subst h7
  have hj : j < P.1 := hrn.1
  have hi : i < P.2.1 := hrn.2.1
  have hcc : cc ≤ 4096 := hrn.2.2
  obtain ⟨lp, hlp⟩ : ∃ z, z = pp + 2 + 2 * j := ⟨_, rfl⟩
  have hn : (lPo (P.2.2.1 j)).1 ≤ 3 := hpo.1 j hj
  obtain ⟨wv, hwv⟩ : ∃ z, z = pp + 11 + 5 * i := ⟨_, rfl⟩
  have hP := (hpo.2 i hi).1
  have hc9 := (hpo.2 i hi).2
  have hj4 : j < 4 := Nat.lt_of_lt_of_le hj hP1.1.1
  have hwP : hHas h [pp, pp + 1, lp, lp + 1, pp + 10, wv, wv + 1, wv + 2, wv + 3, wv + 4] [(oC 4 [.ref (pp + 1), .ref (pp + 10), .int (nI P.1), .int (nI P.2.1)]), (aR RX3 4 (plL pp)), (oC 3 [.ref (lp + 1), .int (P.2.2.1 j).1, .int (nI (lPo (P.2.2.1 j)).1), .int (lPo (P.2.2.1 j)).2.2.1, .int (P.2.2.1 j).2.2.2.2.1, .int (lPo (P.2.2.1 j)).2.2.2]), (aI 3 (lPo (P.2.2.1 j)).2.1), (aR RX7 4 (plW pp)), (oC 7 (wvF wv ((P.2.2.2 i).1, (P.2.2.2 i).2))), (aI 8 (P.2.2.2 i).2.1), (aI 8 (P.2.2.2 i).2.2.1), (aI 8 (P.2.2.2 i).2.2.2.1), (aI 8 (P.2.2.2 i).2.2.2.2.1)] := hHas_cons hP1.2.1 (hHas_cons hP1.2.2.1 (hHas_app (as := [lp, lp + 1]) (cs := [(oC 3 [.ref (lp + 1), .int (P.2.2.1 j).1, .int (nI (lPo (P.2.2.1 j)).1), .int (lPo (P.2.2.1 j)).2.2.1, .int (P.2.2.1 j).2.2.2.2.1, .int (lPo (P.2.2.1 j)).2.2.2]), (aI 3 (lPo (P.2.2.1 j)).2.1)]) (hHas_cons hP1.2.2.2.1 (hwv ▸ hP1.2.2.2.2.2 i (Nat.lt_of_lt_of_le hi hP1.1.2))) rfl (hlp ▸ hP1.2.2.2.2.1 j (Nat.lt_of_lt_of_le hj hP1.1.1))))
  have hw : hHas h [b, b + 1, b + 2, b + 3, b + 6, b + 7, b + 8, b + 14, b + 15, pp, pp + 1, lp, lp + 1, pp + 10, wv, wv + 1, wv + 2, wv + 3, wv + 4] [(oC 9 [.ref (b + 1), .ref (b + 14), .ref (b + 17), .ref (b + 19), .ref (b + 25), .ref (b + 29), .ref (b + 33), .ref pp, .int ht, .int (nI tp), .int sd, .int fa, .int pl, .int tr]), (oC 6 [.ref (b + 2), .ref (b + 6), .ref (b + 7), .ref (b + 8), .ref qw, .int go, .int ln, .int wn, .int rsd, .int (nI c)]), (oC 0 [.ref (b + 3), .ref ql, .int cn, .int s.2.1, .int s.2.2]), (aI 3 s.1), (aB 4096 fo), (aI 4096 fg), (aI 3 fz), (aR RX2 2 (imR b)), (oC 2 [.int 1, .int 1, .int (nI j), .int (nI i), .int i05, .int (nI cc), .int i07]), (oC 4 [.ref (pp + 1), .ref (pp + 10), .int (nI P.1), .int (nI P.2.1)]), (aR RX3 4 (plL pp)), (oC 3 [.ref (lp + 1), .int (P.2.2.1 j).1, .int (nI (lPo (P.2.2.1 j)).1), .int (lPo (P.2.2.1 j)).2.2.1, .int (P.2.2.1 j).2.2.2.2.1, .int (lPo (P.2.2.1 j)).2.2.2]), (aI 3 (lPo (P.2.2.1 j)).2.1), (aR RX7 4 (plW pp)), (oC 7 (wvF wv ((P.2.2.2 i).1, (P.2.2.2 i).2))), (aI 8 (P.2.2.2 i).2.1), (aI 8 (P.2.2.2 i).2.2.1), (aI 8 (P.2.2.2 i).2.2.2.1), (aI 8 (P.2.2.2 i).2.2.2.2.1)] := hHas_app hwP (as := [b, b + 1, b + 2, b + 3, b + 6, b + 7, b + 8, b + 14, b + 15]) (cs := [(oC 9 [.ref (b + 1), .ref (b + 14), .ref (b + 17), .ref (b + 19), .ref (b + 25), .ref (b + 29), .ref (b + 33), .ref pp, .int ht, .int (nI tp), .int sd, .int fa, .int pl, .int tr]), (oC 6 [.ref (b + 2), .ref (b + 6), .ref (b + 7), .ref (b + 8), .ref qw, .int go, .int ln, .int wn, .int rsd, .int (nI c)]), (oC 0 [.ref (b + 3), .ref ql, .int cn, .int s.2.1, .int s.2.2]), (aI 3 s.1), (aB 4096 fo), (aI 4096 fg), (aI 3 fz), (aR RX2 2 (imR b)), (oC 2 [.int 1, .int 1, .int (nI j), .int (nI i), .int i05, .int (nI cc), .int i07])]) rfl (hHas_s hW [0, 1, 2, 3, 4, 5, 6, 7, 8] rfl rfl)
  have nd : [b, b + 1, b + 2, b + 3, b + 6, b + 7, b + 8, b + 14, b + 15, pp, pp + 1, lp, lp + 1, pp + 10, wv, wv + 1, wv + 2, wv + 3, wv + 4].Nodup := by
    rcases hpp with ⟨h9, h8⟩ | ⟨h9, h8⟩ <;> exact (nd_inc ⟨by omega, by omega, by omega, by omega, by omega, by omega, by omega, by omega, by omega, by omega, by omega, by omega, by omega, by omega, by omega, by omega, by omega, by omega, trivial⟩)
  refine Cl.of (ini := false) kX9_back (plainFor_of_name (by decide)) (by decide) (Nat.le_of_ble_eq_true rfl) rfl rfl (fun z => by cases z) ?_
  refine w_heq (hUs_id hw).symm ?_
  refine w_iload_n dX9_back_0 rfl ?_
  refine w_if_lt_f (tgt := 25) dX9_back_1 rfl (fun z => absurd ((nI_ltI (a := 0) (b := 0) (by omega) (by omega)).mp z) (by omega)) ?_
  refine w_iload_n dX9_back_4 rfl ?_
  refine w_aload_n dX9_back_5 rfl ?_
  refine w_get (v := .ref (b + 14)) fX9_19 (hUs_at nd 0 rfl rfl) rfl dX9_back_6 ?_
  refine w_alen (v := (nI 2)) (hUs_at nd 7 rfl rfl) rfl dX9_back_9 ?_
  refine w_icmp_ge_f (tgt := 25) dX9_back_10 rfl (fun z => absurd ((nI_leI (a := 2) (b := 0) (by omega) (by omega)).mp z) (by omega)) ?_
  refine w_aload_n dX9_back_13 rfl ?_
  refine w_get (v := .ref (b + 14)) fX9_19 (hUs_at nd 0 rfl rfl) rfl dX9_back_14 ?_
  refine w_iload_n dX9_back_17 rfl ?_
  refine w_aaloadN (hUs_at nd 7 rfl rfl) (by omega) (by omega) dX9_back_18 ?_
  refine w_topV (z := .ref (b + 15)) rfl ?_
  refine w_get (v := .int 1) fX9_280 (hUs_at nd 8 rfl rfl) rfl dX9_back_19 ?_
  refine w_if_ne_t (tgt := 31) dX9_back_22 rfl (by decide) ?_
  refine w_aload_n dX9_back_31 rfl ?_
  refine w_get (v := .ref (b + 14)) fX9_19 (hUs_at nd 0 rfl rfl) rfl dX9_back_32 ?_
  refine w_iload_n dX9_back_35 rfl ?_
  refine w_aaloadN (hUs_at nd 7 rfl rfl) (by omega) (by omega) dX9_back_36 ?_
  refine w_topV (z := .ref (b + 15)) rfl ?_
  refine w_aload_n dX9_back_37 rfl ?_
  refine w_get (v := .ref (b + 1)) fX9_10 (hUs_at nd 0 rfl rfl) rfl dX9_back_38 ?_
  refine w_aload_n dX9_back_41 rfl ?_
  refine w_get (v := .ref pp) fX9_57 (hUs_at nd 0 rfl rfl) rfl dX9_back_42 ?_
  have hP9 : ∀ h9 : hH, h9 = hUs h [b, b + 1, b + 2, b + 3, b + 6, b + 7, b + 8, b + 14, b + 15, pp, pp + 1, lp, lp + 1, pp + 10, wv, wv + 1, wv + 2, wv + 3, wv + 4] [(oC 9 [.ref (b + 1), .ref (b + 14), .ref (b + 17), .ref (b + 19), .ref (b + 25), .ref (b + 29), .ref (b + 33), .ref pp, .int ht, .int (nI tp), .int sd, .int fa, .int pl, .int tr]), (oC 6 [.ref (b + 2), .ref (b + 6), .ref (b + 7), .ref (b + 8), .ref qw, .int go, .int ln, .int wn, .int rsd, .int (nI c)]), (oC 0 [.ref (b + 3), .ref ql, .int cn, .int s.2.1, .int s.2.2]), (aI 3 s.1), (aB 4096 fo), (aI 4096 fg), (aI 3 fz), (aR RX2 2 (imR b)), (oC 2 [.int 1, .int 1, .int (nI j), .int (nI i), .int i05, .int (nI cc), .int i07]), (oC 4 [.ref (pp + 1), .ref (pp + 10), .int (nI P.1), .int (nI P.2.1)]), (aR RX3 4 (plL pp)), (oC 3 [.ref (lp + 1), .int (P.2.2.1 j).1, .int (nI (lPo (P.2.2.1 j)).1), .int (lPo (P.2.2.1 j)).2.2.1, .int (P.2.2.1 j).2.2.2.2.1, .int (lPo (P.2.2.1 j)).2.2.2]), (aI 3 (lPo (P.2.2.1 j)).2.1), (aR RX7 4 (plW pp)), (oC 7 (wvF wv ((P.2.2.2 i).1, (P.2.2.2 i).2))), (aI 8 (P.2.2.2 i).2.1), (aI 8 (P.2.2.2 i).2.2.1), (aI 8 (P.2.2.2 i).2.2.2.1), (aI 8 (P.2.2.2 i).2.2.2.2.1)] → hPl h9 pp P := fun h9 e9 => by
    rw [e9, hUs_id hw]; exact hP1
  refine w_callV (ci := 2) (d' := d + 4) (mc' := 0) (ms' := 0) (As := [.ref (b + 1), .ref pp]) (st := []) lX9_283 vX2_give rfl (hUs_at nd 8 rfl rfl) rfl (Nat.le_of_ble_eq_true rfl) dX9_back_45 (Nat.le_of_ble_eq_true rfl) (Nat.le_of_ble_eq_true rfl) (Nat.le_refl _) (c_give1 (fo := fo) (fg := fg) (P := P) (cc := cc) (j := j) (i := i) (hHas_sub nd (as' := [b + 1, b + 2, b + 3, b + 6, b + 7, b + 8, b + 15, pp, pp + 1, lp, lp + 1, pp + 10, wv, wv + 1, wv + 2, wv + 3, wv + 4]) (cs' := [(oC 6 [.ref (b + 2), .ref (b + 6), .ref (b + 7), .ref (b + 8), .ref qw, .int go, .int ln, .int wn, .int rsd, .int (nI c)]), (oC 0 [.ref (b + 3), .ref ql, .int cn, .int s.2.1, .int s.2.2]), (aI 3 s.1), (aB 4096 fo), (aI 4096 fg), (aI 3 fz), (oC 2 [.int 1, .int 1, .int (nI j), .int (nI i), .int i05, .int (nI cc), .int i07]), (oC 4 [.ref (pp + 1), .ref (pp + 10), .int (nI P.1), .int (nI P.2.1)]), (aR RX3 4 (plL pp)), (oC 3 [.ref (lp + 1), .int (P.2.2.1 j).1, .int (nI (lPo (P.2.2.1 j)).1), .int (lPo (P.2.2.1 j)).2.2.1, .int (P.2.2.1 j).2.2.2.2.1, .int (lPo (P.2.2.1 j)).2.2.2]), (aI 3 (lPo (P.2.2.1 j)).2.1), (aR RX7 4 (plW pp)), (oC 7 (wvF wv ((P.2.2.2 i).1, (P.2.2.2 i).2))), (aI 8 (P.2.2.2 i).2.1), (aI 8 (P.2.2.2 i).2.2.1), (aI 8 (P.2.2.2 i).2.2.2.1), (aI 8 (P.2.2.2 i).2.2.2.2.1)]) [1, 2, 3, 4, 5, 6, 8, 9, 10, 11, 12, 13, 14, 15, 16, 17, 18] rfl rfl) (nd_sub nd (as' := [b + 1, b + 2, b + 3, b + 6, b + 7, b + 8, b + 15, pp, pp + 1, lp, lp + 1, pp + 10, wv, wv + 1, wv + 2, wv + 3, wv + 4]) [1, 2, 3, 4, 5, 6, 8, 9, 10, 11, 12, 13, 14, 15, 16, 17, 18] rfl rfl) (hP9 _ rfl) hlp hwv hj hi hn hP hc9 hcc ?_)
  refine w_heq (hUs_in nd rfl [1, 2, 3, 4, 5, 6, 8, 9, 10, 11, 12, 13, 14, 15, 16, 17, 18] (cs2 := [(oC 9 [.ref (b + 1), .ref (b + 14), .ref (b + 17), .ref (b + 19), .ref (b + 25), .ref (b + 29), .ref (b + 33), .ref pp, .int ht, .int (nI tp), .int sd, .int fa, .int pl, .int tr]), (oC 6 [.ref (b + 2), .ref (b + 6), .ref (b + 7), .ref (b + 8), .ref wv, .int 1, .int (nI j), .int (nI i), .int i05, .int (nI cc)]), (oC 0 [.ref (b + 3), .ref lp, .int (rQo P j i i05).2.1, .int (rS (rQo P j i i05) cc).2.1, .int (rS (rQo P j i i05) cc).2.2]), (aI 3 (rS (rQo P j i i05) cc).1), (aB 4096 (putF fo (rO (rQo P j i i05)) 0 cc)), (aI 4096 (putF fg (rG (rQo P j i i05)) 0 cc)), (aI 3 (rZ (rQo P j i i05) cc)), (aR RX2 2 (imR b)), (oC 2 [.int 1, .int 1, .int (nI j), .int (nI i), .int i05, .int (nI cc), .int i07]), (oC 4 [.ref (pp + 1), .ref (pp + 10), .int (nI P.1), .int (nI P.2.1)]), (aR RX3 4 (plL pp)), (oC 3 [.ref (lp + 1), .int (P.2.2.1 j).1, .int (nI (lPo (P.2.2.1 j)).1), .int (lPo (P.2.2.1 j)).2.2.1, .int (P.2.2.1 j).2.2.2.2.1, .int (lPo (P.2.2.1 j)).2.2.2]), (aI 3 (lPo (P.2.2.1 j)).2.1), (aR RX7 4 (plW pp)), (oC 7 (wvF wv ((P.2.2.2 i).1, (P.2.2.2 i).2))), (aI 8 (P.2.2.2 i).2.1), (aI 8 (P.2.2.2 i).2.2.1), (aI 8 (P.2.2.2 i).2.2.2.1), (aI 8 (P.2.2.2 i).2.2.2.2.1)]) rfl rfl) ?_
  refine w_aload_n dX9_back_48 rfl ?_
  refine w_aload_n dX9_back_49 rfl ?_
  refine w_get (v := .ref (b + 14)) fX9_19 (hUs_at nd 0 rfl rfl) rfl dX9_back_50 ?_
  refine w_iload_n dX9_back_53 rfl ?_
  refine w_aaloadN (hUs_at nd 7 rfl rfl) (by omega) (by omega) dX9_back_54 ?_
  refine w_topV (z := .ref (b + 15)) rfl ?_
  refine w_get (v := .int i07) fX9_287 (hUs_at nd 8 rfl rfl) rfl dX9_back_55 ?_
  refine w_put (fs' := [.ref (b + 1), .ref (b + 14), .ref (b + 17), .ref (b + 19), .ref (b + 25), .ref (b + 29), .ref (b + 33), .ref pp, .int ht, .int (nI tp), .int i07, .int fa, .int pl, .int tr]) fX9_61 (hUs_at nd 0 rfl rfl) rfl rfl (Nat.le_of_ble_eq_true rfl) rfl dX9_back_58 ?_
  refine w_heq (hUs_set nd rfl 0 (cs' := [(oC 9 [.ref (b + 1), .ref (b + 14), .ref (b + 17), .ref (b + 19), .ref (b + 25), .ref (b + 29), .ref (b + 33), .ref pp, .int ht, .int (nI tp), .int i07, .int fa, .int pl, .int tr]), (oC 6 [.ref (b + 2), .ref (b + 6), .ref (b + 7), .ref (b + 8), .ref wv, .int 1, .int (nI j), .int (nI i), .int i05, .int (nI cc)]), (oC 0 [.ref (b + 3), .ref lp, .int (rQo P j i i05).2.1, .int (rS (rQo P j i i05) cc).2.1, .int (rS (rQo P j i i05) cc).2.2]), (aI 3 (rS (rQo P j i i05) cc).1), (aB 4096 (putF fo (rO (rQo P j i i05)) 0 cc)), (aI 4096 (putF fg (rG (rQo P j i i05)) 0 cc)), (aI 3 (rZ (rQo P j i i05) cc)), (aR RX2 2 (imR b)), (oC 2 [.int 1, .int 1, .int (nI j), .int (nI i), .int i05, .int (nI cc), .int i07]), (oC 4 [.ref (pp + 1), .ref (pp + 10), .int (nI P.1), .int (nI P.2.1)]), (aR RX3 4 (plL pp)), (oC 3 [.ref (lp + 1), .int (P.2.2.1 j).1, .int (nI (lPo (P.2.2.1 j)).1), .int (lPo (P.2.2.1 j)).2.2.1, .int (P.2.2.1 j).2.2.2.2.1, .int (lPo (P.2.2.1 j)).2.2.2]), (aI 3 (lPo (P.2.2.1 j)).2.1), (aR RX7 4 (plW pp)), (oC 7 (wvF wv ((P.2.2.2 i).1, (P.2.2.2 i).2))), (aI 8 (P.2.2.2 i).2.1), (aI 8 (P.2.2.2 i).2.2.1), (aI 8 (P.2.2.2 i).2.2.2.1), (aI 8 (P.2.2.2 i).2.2.2.2.1)]) rfl rfl) ?_
  refine w_aload_n dX9_back_61 rfl ?_
  refine w_callV (ci := 9) (d' := d + 4) (mc' := 0) (ms' := 0) (As := []) (st := []) lX9_131 vX9_isGranted rfl (hUs_at nd 0 rfl rfl) rfl (Nat.le_of_ble_eq_true rfl) dX9_back_62 (Nat.le_of_ble_eq_true rfl) (Nat.le_of_ble_eq_true rfl) (Nat.le_refl _) (c_isGranted (hHas_sub nd (as' := [b]) (cs' := [(oC 9 [.ref (b + 1), .ref (b + 14), .ref (b + 17), .ref (b + 19), .ref (b + 25), .ref (b + 29), .ref (b + 33), .ref pp, .int ht, .int (nI tp), .int i07, .int fa, .int pl, .int tr])]) [0] rfl rfl) (nd_sub nd (as' := [b]) [0] rfl rfl)  ?_)
  refine w_heq (hUs_in nd rfl [0] (cs2 := [(oC 9 [.ref (b + 1), .ref (b + 14), .ref (b + 17), .ref (b + 19), .ref (b + 25), .ref (b + 29), .ref (b + 33), .ref pp, .int ht, .int (nI tp), .int i07, .int fa, .int (-1), .int 0]), (oC 6 [.ref (b + 2), .ref (b + 6), .ref (b + 7), .ref (b + 8), .ref wv, .int 1, .int (nI j), .int (nI i), .int i05, .int (nI cc)]), (oC 0 [.ref (b + 3), .ref lp, .int (rQo P j i i05).2.1, .int (rS (rQo P j i i05) cc).2.1, .int (rS (rQo P j i i05) cc).2.2]), (aI 3 (rS (rQo P j i i05) cc).1), (aB 4096 (putF fo (rO (rQo P j i i05)) 0 cc)), (aI 4096 (putF fg (rG (rQo P j i i05)) 0 cc)), (aI 3 (rZ (rQo P j i i05) cc)), (aR RX2 2 (imR b)), (oC 2 [.int 1, .int 1, .int (nI j), .int (nI i), .int i05, .int (nI cc), .int i07]), (oC 4 [.ref (pp + 1), .ref (pp + 10), .int (nI P.1), .int (nI P.2.1)]), (aR RX3 4 (plL pp)), (oC 3 [.ref (lp + 1), .int (P.2.2.1 j).1, .int (nI (lPo (P.2.2.1 j)).1), .int (lPo (P.2.2.1 j)).2.2.1, .int (P.2.2.1 j).2.2.2.2.1, .int (lPo (P.2.2.1 j)).2.2.2]), (aI 3 (lPo (P.2.2.1 j)).2.1), (aR RX7 4 (plW pp)), (oC 7 (wvF wv ((P.2.2.2 i).1, (P.2.2.2 i).2))), (aI 8 (P.2.2.2 i).2.1), (aI 8 (P.2.2.2 i).2.2.1), (aI 8 (P.2.2.2 i).2.2.2.1), (aI 8 (P.2.2.2 i).2.2.2.2.1)]) rfl rfl) ?_
  refine w_zreturn rfl dX9_back_65 rfl (Nat.le_of_ble_eq_true rfl) (Nat.le_of_ble_eq_true rfl) ?_
  have e8 : iBk (nI 0) (some (some (j, i, i05, cc), i07)) i1 = (some (some (j, i, i05, cc), i07)) := by
    simp [iBk]
  have e : oBk (nI 0) (some (some (j, i, i05, cc), i07)) i1 = (1, 0) := by
    rw [oBk, e8]
  have e1 : rBk (nI 0) (some (some (j, i, i05, cc), i07)) i1 R = some (j, i, i05, cc) := by
    rw [rBk, e8]
  have e2 : sBk (nI 0) (some (some (j, i, i05, cc), i07)) i1 sd = i07 := by
    rw [sBk, e8]
  rw [e, e1, e2] at k
  rw [show (hUs h [b, b + 1, b + 2, b + 3, b + 6, b + 7, b + 8, b + 14, b + 15, pp, pp + 1, lp, lp + 1, pp + 10, wv, wv + 1, wv + 2, wv + 3, wv + 4] [(oC 9 [.ref (b + 1), .ref (b + 14), .ref (b + 17), .ref (b + 19), .ref (b + 25), .ref (b + 29), .ref (b + 33), .ref pp, .int ht, .int (nI tp), .int i07, .int fa, .int (-1), .int 0]), (oC 6 [.ref (b + 2), .ref (b + 6), .ref (b + 7), .ref (b + 8), .ref wv, .int 1, .int (nI j), .int (nI i), .int i05, .int (nI cc)]), (oC 0 [.ref (b + 3), .ref lp, .int (rQo P j i i05).2.1, .int (rS (rQo P j i i05) cc).2.1, .int (rS (rQo P j i i05) cc).2.2]), (aI 3 (rS (rQo P j i i05) cc).1), (aB 4096 (putF fo (rO (rQo P j i i05)) 0 cc)), (aI 4096 (putF fg (rG (rQo P j i i05)) 0 cc)), (aI 3 (rZ (rQo P j i i05) cc)), (aR RX2 2 (imR b)), (oC 2 [.int 1, .int 1, .int (nI j), .int (nI i), .int i05, .int (nI cc), .int i07]), (oC 4 [.ref (pp + 1), .ref (pp + 10), .int (nI P.1), .int (nI P.2.1)]), (aR RX3 4 (plL pp)), (oC 3 [.ref (lp + 1), .int (P.2.2.1 j).1, .int (nI (lPo (P.2.2.1 j)).1), .int (lPo (P.2.2.1 j)).2.2.1, .int (P.2.2.1 j).2.2.2.2.1, .int (lPo (P.2.2.1 j)).2.2.2]), (aI 3 (lPo (P.2.2.1 j)).2.1), (aR RX7 4 (plW pp)), (oC 7 (wvF wv ((P.2.2.2 i).1, (P.2.2.2 i).2))), (aI 8 (P.2.2.2 i).2.1), (aI 8 (P.2.2.2 i).2.2.1), (aI 8 (P.2.2.2 i).2.2.2.1), (aI 8 (P.2.2.2 i).2.2.2.2.1)]) = hUs h [b, b + 1, b + 2, b + 3, b + 6, b + 7, b + 8, b + 14, b + 15] [(oC 9 [.ref (b + 1), .ref (b + 14), .ref (b + 17), .ref (b + 19), .ref (b + 25), .ref (b + 29), .ref (b + 33), .ref pp, .int ht, .int (nI tp), .int i07, .int fa, .int (-1), .int 0]), (oC 6 [.ref (b + 2), .ref (b + 6), .ref (b + 7), .ref (b + 8), .ref wv, .int 1, .int (nI j), .int (nI i), .int i05, .int (nI cc)]), (oC 0 [.ref (b + 3), .ref lp, .int (rQo P j i i05).2.1, .int (rS (rQo P j i i05) cc).2.1, .int (rS (rQo P j i i05) cc).2.2]), (aI 3 (rS (rQo P j i i05) cc).1), (aB 4096 (putF fo (rO (rQo P j i i05)) 0 cc)), (aI 4096 (putF fg (rG (rQo P j i i05)) 0 cc)), (aI 3 (rZ (rQo P j i i05) cc)), (aR RX2 2 (imR b)), (oC 2 [.int 1, .int 1, .int (nI j), .int (nI i), .int i05, .int (nI cc), .int i07])] from hUs_tail (as := [b, b + 1, b + 2, b + 3, b + 6, b + 7, b + 8, b + 14, b + 15]) (cs := [(oC 9 [.ref (b + 1), .ref (b + 14), .ref (b + 17), .ref (b + 19), .ref (b + 25), .ref (b + 29), .ref (b + 33), .ref pp, .int ht, .int (nI tp), .int i07, .int fa, .int (-1), .int 0]), (oC 6 [.ref (b + 2), .ref (b + 6), .ref (b + 7), .ref (b + 8), .ref wv, .int 1, .int (nI j), .int (nI i), .int i05, .int (nI cc)]), (oC 0 [.ref (b + 3), .ref lp, .int (rQo P j i i05).2.1, .int (rS (rQo P j i i05) cc).2.1, .int (rS (rQo P j i i05) cc).2.2]), (aI 3 (rS (rQo P j i i05) cc).1), (aB 4096 (putF fo (rO (rQo P j i i05)) 0 cc)), (aI 4096 (putF fg (rG (rQo P j i i05)) 0 cc)), (aI 3 (rZ (rQo P j i i05) cc)), (aR RX2 2 (imR b)), (oC 2 [.int 1, .int 1, .int (nI j), .int (nI i), .int i05, .int (nI cc), .int i07])]) hwP rfl]
  exact k _ (cI_i (cI_put hW (cAs_nd b) rfl [0, 1, 2, 3, 4, 5, 6, 7, 8] (cs2 := [(oC 9 [.ref (b + 1), .ref (b + 14), .ref (b + 17), .ref (b + 19), .ref (b + 25), .ref (b + 29), .ref (b + 33), .ref pp, .int ht, .int (nI tp), .int i07, .int fa, .int (-1), .int 0]), (oC 6 [.ref (b + 2), .ref (b + 6), .ref (b + 7), .ref (b + 8), .ref wv, .int 1, .int (nI j), .int (nI i), .int i05, .int (nI cc)]), (oC 0 [.ref (b + 3), .ref lp, .int (rQo P j i i05).2.1, .int (rS (rQo P j i i05) cc).2.1, .int (rS (rQo P j i i05) cc).2.2]), (aI 3 (rS (rQo P j i i05) cc).1), (aB 4096 (putF fo (rO (rQo P j i i05)) 0 cc)), (aI 4096 (putF fg (rG (rQo P j i i05)) 0 cc)), (aI 3 (rZ (rQo P j i i05) cc)), (aR RX2 2 (imR b)), (oC 2 [.int 1, .int 1, .int (nI j), .int (nI i), .int i05, .int (nI cc), .int i07]), (oC 2 [.int i11, .int i12, .int i13, .int i14, .int i15, .int i16, .int i17]), (oC 8 [.ref (b + 18), .int wm]), (aI 94 fw), (oC 1 [.ref (b + 20), .ref (b + 24), .int f.2.2.1.1, .int f.2.2.1.2.1, .int f.2.2.2.1, .int f.2.2.1.2.2.1, .int f.2.2.1.2.2.2.1, .int f.2.2.1.2.2.2.2.1, .int f.2.2.1.2.2.2.2.2]), (oC 0 [.ref (b + 21), .ref q0, .int c0, .int f.1.2.1, .int f.1.2.2]), (aI 3 f.1.1), (aI 3 f.2.1), (oC 0 [.ref (b + 26), .ref q1, .int c1, .int s1.2.1, .int s1.2.2]), (aI 3 s1.1), (oC 0 [.ref (b + 30), .ref q2, .int c2, .int s2.2.1, .int s2.2.2]), (aI 3 s2.1), (oC 5 (rdF (b + 34) ps x)), (aB 600 ft)]) rfl rfl) hpp (hPl_o hP1 (by intro a ha; simp only [List.mem_cons, List.not_mem_nil, or_false] at ha; rcases hpp with hpp | hpp <;> omega)) (hPl_o hP2 (by intro a ha; simp only [List.mem_cons, List.not_mem_nil, or_false] at ha; rcases hpp with hpp | hpp <;> omega)) (show rIv pp P (some (j, i, i05, cc)) 1 (nI j) (nI i) i05 cc wv lp (P.2.2.1 j).2.2.2.2.1 (rS (rQo P j i i05) cc) (putF fo (rO (rQo P j i i05)) 0 cc) (putF fg (rG (rQo P j i i05)) 0 cc) (rZ (rQo P j i i05) cc) from ⟨⟨hj, hi, hcc⟩, rfl, rfl, rfl, rfl, rfl, hwv, hlp, rfl, rfl, fun t h => putF_in (c := 0) (fun t h => absurd h (Nat.not_lt_zero t)) (by omega), fun t h => putF_in (c := 0) (fun t h => absurd h (Nat.not_lt_zero t)) (by omega), rfl⟩) hiv hi1 htp hpo hht) (cFr_of (by intro a ha; simp only [List.mem_cons, List.not_mem_nil, or_false] at ha; omega))
set_option maxRecDepth 100000 in
set_option maxHeartbeats 4000000 in
theorem p_back_1n {G : wG} {d : Nat} {h : hH} {Q : Option Value → hH → Prop} {b : Nat} {ft : Nat → Int32} {tp : Nat} {P : pD} {ht : Int32} {R : Option rnD} {i0 i1 : imD} {sd fa pl tr : Int32}  (hI : cI h b ft tp P ht R i0 (none) sd fa pl tr)  (k : ∀ h2, cI h2 b ft tp P ht (rBk (nI 1) i0 (none) R) i0 (none) (sBk (nI 1) i0 (none) sd) fa (-1) (oBk (nI 1) i0 (none)).2 → cFr b h h2 → Q (some (.int (oBk (nI 1) i0 (none)).1)) h2) : Cl G yX9_back (d + 5) 0 0 [.ref b, .int (nI 1)] h Q := by
  refine cI_e hI ?_
  intro pp ps P2 go ln wn rsd c qw ql cn s fo fg fz i01 i02 i03 i04 i05 i06 i07 i11 i12 i13 i14 i15 i16 i17 wm fw f q0 c0 s1 q1 c1 s2 q2 c2 x hW hpp hP1 hP2 hR hi0 hi1 htp hpo hht
  have h0 : i11 = 0 := hi1
  subst h0
  have hw : hHas h [b, b + 14, b + 16] [(oC 9 [.ref (b + 1), .ref (b + 14), .ref (b + 17), .ref (b + 19), .ref (b + 25), .ref (b + 29), .ref (b + 33), .ref pp, .int ht, .int (nI tp), .int sd, .int fa, .int pl, .int tr]), (aR RX2 2 (imR b)), (oC 2 [.int 0, .int i12, .int i13, .int i14, .int i15, .int i16, .int i17])] := hHas_s hW [0, 7, 9] rfl rfl
  have nd : [b, b + 14, b + 16].Nodup := (nd_inc ⟨by omega, by omega, trivial⟩)
  refine Cl.of (ini := false) kX9_back (plainFor_of_name (by decide)) (by decide) (Nat.le_of_ble_eq_true rfl) rfl rfl (fun z => by cases z) ?_
  refine w_heq (hUs_id hw).symm ?_
  refine w_iload_n dX9_back_0 rfl ?_
  refine w_if_lt_f (tgt := 25) dX9_back_1 rfl (fun z => absurd ((nI_ltI (a := 1) (b := 0) (by omega) (by omega)).mp z) (by omega)) ?_
  refine w_iload_n dX9_back_4 rfl ?_
  refine w_aload_n dX9_back_5 rfl ?_
  refine w_get (v := .ref (b + 14)) fX9_19 (hUs_at nd 0 rfl rfl) rfl dX9_back_6 ?_
  refine w_alen (v := (nI 2)) (hUs_at nd 1 rfl rfl) rfl dX9_back_9 ?_
  refine w_icmp_ge_f (tgt := 25) dX9_back_10 rfl (fun z => absurd ((nI_leI (a := 2) (b := 1) (by omega) (by omega)).mp z) (by omega)) ?_
  refine w_aload_n dX9_back_13 rfl ?_
  refine w_get (v := .ref (b + 14)) fX9_19 (hUs_at nd 0 rfl rfl) rfl dX9_back_14 ?_
  refine w_iload_n dX9_back_17 rfl ?_
  refine w_aaloadN (hUs_at nd 1 rfl rfl) (by omega) (by omega) dX9_back_18 ?_
  refine w_topV (z := .ref (b + 16)) rfl ?_
  refine w_get (v := .int 0) fX9_280 (hUs_at nd 2 rfl rfl) rfl dX9_back_19 ?_
  refine w_if_ne_f (tgt := 31) dX9_back_22 rfl (by decide) ?_
  refine w_aload_n dX9_back_25 rfl ?_
  refine w_iconst (v := 1) dX9_back_26 (by decide) ?_
  refine w_callV (ci := 9) (d' := d + 4) (mc' := 0) (ms' := 0) (As := [.int 1]) (st := []) lX9_128 vX9_isRefused rfl (hUs_at nd 0 rfl rfl) rfl (Nat.le_of_ble_eq_true rfl) dX9_back_27 (Nat.le_of_ble_eq_true rfl) (Nat.le_of_ble_eq_true rfl) (Nat.le_refl _) (c_isRefused (hHas_sub nd (as' := [b]) (cs' := [(oC 9 [.ref (b + 1), .ref (b + 14), .ref (b + 17), .ref (b + 19), .ref (b + 25), .ref (b + 29), .ref (b + 33), .ref pp, .int ht, .int (nI tp), .int sd, .int fa, .int pl, .int tr])]) [0] rfl rfl) (nd_sub nd (as' := [b]) [0] rfl rfl)  ?_)
  refine w_heq (hUs_in nd rfl [0] (cs2 := [(oC 9 [.ref (b + 1), .ref (b + 14), .ref (b + 17), .ref (b + 19), .ref (b + 25), .ref (b + 29), .ref (b + 33), .ref pp, .int ht, .int (nI tp), .int sd, .int fa, .int (-1), .int 1]), (aR RX2 2 (imR b)), (oC 2 [.int 0, .int i12, .int i13, .int i14, .int i15, .int i16, .int i17])]) rfl rfl) ?_
  refine w_zreturn rfl dX9_back_30 rfl (Nat.le_of_ble_eq_true rfl) (Nat.le_of_ble_eq_true rfl) ?_
  have e8 : iBk (nI 1) i0 (none) = (none) := by
    simp [iBk, show ¬ nI 1 = nI 0 by decide]
  have e : oBk (nI 1) i0 (none) = (0, 1) := by
    rw [oBk, e8]
  have e1 : rBk (nI 1) i0 (none) R = R := by
    rw [rBk, e8]
  have e2 : sBk (nI 1) i0 (none) sd = sd := by
    rw [sBk, e8]
  rw [e, e1, e2] at k
  exact k _ (cI_i (cI_put hW (cAs_nd b) rfl [0, 7, 9] (cs2 := [(oC 9 [.ref (b + 1), .ref (b + 14), .ref (b + 17), .ref (b + 19), .ref (b + 25), .ref (b + 29), .ref (b + 33), .ref pp, .int ht, .int (nI tp), .int sd, .int fa, .int (-1), .int 1]), (oC 6 [.ref (b + 2), .ref (b + 6), .ref (b + 7), .ref (b + 8), .ref qw, .int go, .int ln, .int wn, .int rsd, .int (nI c)]), (oC 0 [.ref (b + 3), .ref ql, .int cn, .int s.2.1, .int s.2.2]), (aI 3 s.1), (aB 4096 fo), (aI 4096 fg), (aI 3 fz), (aR RX2 2 (imR b)), (oC 2 [.int i01, .int i02, .int i03, .int i04, .int i05, .int i06, .int i07]), (oC 2 [.int 0, .int i12, .int i13, .int i14, .int i15, .int i16, .int i17]), (oC 8 [.ref (b + 18), .int wm]), (aI 94 fw), (oC 1 [.ref (b + 20), .ref (b + 24), .int f.2.2.1.1, .int f.2.2.1.2.1, .int f.2.2.2.1, .int f.2.2.1.2.2.1, .int f.2.2.1.2.2.2.1, .int f.2.2.1.2.2.2.2.1, .int f.2.2.1.2.2.2.2.2]), (oC 0 [.ref (b + 21), .ref q0, .int c0, .int f.1.2.1, .int f.1.2.2]), (aI 3 f.1.1), (aI 3 f.2.1), (oC 0 [.ref (b + 26), .ref q1, .int c1, .int s1.2.1, .int s1.2.2]), (aI 3 s1.1), (oC 0 [.ref (b + 30), .ref q2, .int c2, .int s2.2.1, .int s2.2.2]), (aI 3 s2.1), (oC 5 (rdF (b + 34) ps x)), (aB 600 ft)]) rfl rfl) hpp (hPl_o hP1 (by intro a ha; simp only [List.mem_cons, List.not_mem_nil, or_false] at ha; rcases hpp with hpp | hpp <;> omega)) (hPl_o hP2 (by intro a ha; simp only [List.mem_cons, List.not_mem_nil, or_false] at ha; rcases hpp with hpp | hpp <;> omega)) hR hi0 hi1 htp hpo hht) (cFr_of (by intro a ha; simp only [List.mem_cons, List.not_mem_nil, or_false] at ha; omega))
set_option maxRecDepth 100000 in
set_option maxHeartbeats 4000000 in
theorem p_back_1o {G : wG} {d : Nat} {h : hH} {Q : Option Value → hH → Prop} {b : Nat} {ft : Nat → Int32} {tp : Nat} {P : pD} {ht : Int32} {R : Option rnD} {i0 i1 : imD} {sd fa pl tr : Int32}  {s7 : Int32} (hI : cI h b ft tp P ht R i0 (some (none, s7)) sd fa pl tr)  (k : ∀ h2, cI h2 b ft tp P ht (rBk (nI 1) i0 (some (none, s7)) R) i0 (some (none, s7)) (sBk (nI 1) i0 (some (none, s7)) sd) fa (-1) (oBk (nI 1) i0 (some (none, s7))).2 → cFr b h h2 → Q (some (.int (oBk (nI 1) i0 (some (none, s7))).1)) h2) : Cl G yX9_back (d + 5) 0 0 [.ref b, .int (nI 1)] h Q := by
  refine cI_e hI ?_
  intro pp ps P2 go ln wn rsd c qw ql cn s fo fg fz i01 i02 i03 i04 i05 i06 i07 i11 i12 i13 i14 i15 i16 i17 wm fw f q0 c0 s1 q1 c1 s2 q2 c2 x hW hpp hP1 hP2 hR hi0 hi1 htp hpo hht
  have hiv := hi1
  obtain ⟨h1, h2, h3⟩ : i11 = 1 ∧ i12 = 0 ∧ i17 = s7 := hi1
  subst h1; subst h2; subst h3
  have hw : hHas h [b, b + 1, b + 14, b + 16] [(oC 9 [.ref (b + 1), .ref (b + 14), .ref (b + 17), .ref (b + 19), .ref (b + 25), .ref (b + 29), .ref (b + 33), .ref pp, .int ht, .int (nI tp), .int sd, .int fa, .int pl, .int tr]), (oC 6 [.ref (b + 2), .ref (b + 6), .ref (b + 7), .ref (b + 8), .ref qw, .int go, .int ln, .int wn, .int rsd, .int (nI c)]), (aR RX2 2 (imR b)), (oC 2 [.int 1, .int 0, .int i13, .int i14, .int i15, .int i16, .int i17])] := hHas_s hW [0, 1, 7, 9] rfl rfl
  have nd : [b, b + 1, b + 14, b + 16].Nodup := (nd_inc ⟨by omega, by omega, by omega, trivial⟩)
  refine Cl.of (ini := false) kX9_back (plainFor_of_name (by decide)) (by decide) (Nat.le_of_ble_eq_true rfl) rfl rfl (fun z => by cases z) ?_
  refine w_heq (hUs_id hw).symm ?_
  refine w_iload_n dX9_back_0 rfl ?_
  refine w_if_lt_f (tgt := 25) dX9_back_1 rfl (fun z => absurd ((nI_ltI (a := 1) (b := 0) (by omega) (by omega)).mp z) (by omega)) ?_
  refine w_iload_n dX9_back_4 rfl ?_
  refine w_aload_n dX9_back_5 rfl ?_
  refine w_get (v := .ref (b + 14)) fX9_19 (hUs_at nd 0 rfl rfl) rfl dX9_back_6 ?_
  refine w_alen (v := (nI 2)) (hUs_at nd 2 rfl rfl) rfl dX9_back_9 ?_
  refine w_icmp_ge_f (tgt := 25) dX9_back_10 rfl (fun z => absurd ((nI_leI (a := 2) (b := 1) (by omega) (by omega)).mp z) (by omega)) ?_
  refine w_aload_n dX9_back_13 rfl ?_
  refine w_get (v := .ref (b + 14)) fX9_19 (hUs_at nd 0 rfl rfl) rfl dX9_back_14 ?_
  refine w_iload_n dX9_back_17 rfl ?_
  refine w_aaloadN (hUs_at nd 2 rfl rfl) (by omega) (by omega) dX9_back_18 ?_
  refine w_topV (z := .ref (b + 16)) rfl ?_
  refine w_get (v := .int 1) fX9_280 (hUs_at nd 3 rfl rfl) rfl dX9_back_19 ?_
  refine w_if_ne_t (tgt := 31) dX9_back_22 rfl (by decide) ?_
  refine w_aload_n dX9_back_31 rfl ?_
  refine w_get (v := .ref (b + 14)) fX9_19 (hUs_at nd 0 rfl rfl) rfl dX9_back_32 ?_
  refine w_iload_n dX9_back_35 rfl ?_
  refine w_aaloadN (hUs_at nd 2 rfl rfl) (by omega) (by omega) dX9_back_36 ?_
  refine w_topV (z := .ref (b + 16)) rfl ?_
  refine w_aload_n dX9_back_37 rfl ?_
  refine w_get (v := .ref (b + 1)) fX9_10 (hUs_at nd 0 rfl rfl) rfl dX9_back_38 ?_
  refine w_aload_n dX9_back_41 rfl ?_
  refine w_get (v := .ref pp) fX9_57 (hUs_at nd 0 rfl rfl) rfl dX9_back_42 ?_
  refine w_callV (ci := 2) (d' := d + 4) (mc' := 0) (ms' := 0) (As := [.ref (b + 1), .ref pp]) (st := []) lX9_283 vX2_give rfl (hUs_at nd 3 rfl rfl) rfl (Nat.le_of_ble_eq_true rfl) dX9_back_45 (Nat.le_of_ble_eq_true rfl) (Nat.le_of_ble_eq_true rfl) (Nat.le_refl _) (c_give0 (hHas_sub nd (as' := [b + 1, b + 16]) (cs' := [(oC 6 [.ref (b + 2), .ref (b + 6), .ref (b + 7), .ref (b + 8), .ref qw, .int go, .int ln, .int wn, .int rsd, .int (nI c)]), (oC 2 [.int 1, .int 0, .int i13, .int i14, .int i15, .int i16, .int i17])]) [1, 3] rfl rfl) (nd_sub nd (as' := [b + 1, b + 16]) [1, 3] rfl rfl) ?_)
  refine w_heq (hUs_in nd rfl [1, 3] (cs2 := [(oC 9 [.ref (b + 1), .ref (b + 14), .ref (b + 17), .ref (b + 19), .ref (b + 25), .ref (b + 29), .ref (b + 33), .ref pp, .int ht, .int (nI tp), .int sd, .int fa, .int pl, .int tr]), (oC 6 [.ref (b + 2), .ref (b + 6), .ref (b + 7), .ref (b + 8), .ref qw, .int 0, .int ln, .int wn, .int rsd, .int (nI c)]), (aR RX2 2 (imR b)), (oC 2 [.int 1, .int 0, .int i13, .int i14, .int i15, .int i16, .int i17])]) rfl rfl) ?_
  refine w_aload_n dX9_back_48 rfl ?_
  refine w_aload_n dX9_back_49 rfl ?_
  refine w_get (v := .ref (b + 14)) fX9_19 (hUs_at nd 0 rfl rfl) rfl dX9_back_50 ?_
  refine w_iload_n dX9_back_53 rfl ?_
  refine w_aaloadN (hUs_at nd 2 rfl rfl) (by omega) (by omega) dX9_back_54 ?_
  refine w_topV (z := .ref (b + 16)) rfl ?_
  refine w_get (v := .int i17) fX9_287 (hUs_at nd 3 rfl rfl) rfl dX9_back_55 ?_
  refine w_put (fs' := [.ref (b + 1), .ref (b + 14), .ref (b + 17), .ref (b + 19), .ref (b + 25), .ref (b + 29), .ref (b + 33), .ref pp, .int ht, .int (nI tp), .int i17, .int fa, .int pl, .int tr]) fX9_61 (hUs_at nd 0 rfl rfl) rfl rfl (Nat.le_of_ble_eq_true rfl) rfl dX9_back_58 ?_
  refine w_heq (hUs_set nd rfl 0 (cs' := [(oC 9 [.ref (b + 1), .ref (b + 14), .ref (b + 17), .ref (b + 19), .ref (b + 25), .ref (b + 29), .ref (b + 33), .ref pp, .int ht, .int (nI tp), .int i17, .int fa, .int pl, .int tr]), (oC 6 [.ref (b + 2), .ref (b + 6), .ref (b + 7), .ref (b + 8), .ref qw, .int 0, .int ln, .int wn, .int rsd, .int (nI c)]), (aR RX2 2 (imR b)), (oC 2 [.int 1, .int 0, .int i13, .int i14, .int i15, .int i16, .int i17])]) rfl rfl) ?_
  refine w_aload_n dX9_back_61 rfl ?_
  refine w_callV (ci := 9) (d' := d + 4) (mc' := 0) (ms' := 0) (As := []) (st := []) lX9_131 vX9_isGranted rfl (hUs_at nd 0 rfl rfl) rfl (Nat.le_of_ble_eq_true rfl) dX9_back_62 (Nat.le_of_ble_eq_true rfl) (Nat.le_of_ble_eq_true rfl) (Nat.le_refl _) (c_isGranted (hHas_sub nd (as' := [b]) (cs' := [(oC 9 [.ref (b + 1), .ref (b + 14), .ref (b + 17), .ref (b + 19), .ref (b + 25), .ref (b + 29), .ref (b + 33), .ref pp, .int ht, .int (nI tp), .int i17, .int fa, .int pl, .int tr])]) [0] rfl rfl) (nd_sub nd (as' := [b]) [0] rfl rfl)  ?_)
  refine w_heq (hUs_in nd rfl [0] (cs2 := [(oC 9 [.ref (b + 1), .ref (b + 14), .ref (b + 17), .ref (b + 19), .ref (b + 25), .ref (b + 29), .ref (b + 33), .ref pp, .int ht, .int (nI tp), .int i17, .int fa, .int (-1), .int 0]), (oC 6 [.ref (b + 2), .ref (b + 6), .ref (b + 7), .ref (b + 8), .ref qw, .int 0, .int ln, .int wn, .int rsd, .int (nI c)]), (aR RX2 2 (imR b)), (oC 2 [.int 1, .int 0, .int i13, .int i14, .int i15, .int i16, .int i17])]) rfl rfl) ?_
  refine w_zreturn rfl dX9_back_65 rfl (Nat.le_of_ble_eq_true rfl) (Nat.le_of_ble_eq_true rfl) ?_
  have e8 : iBk (nI 1) i0 (some (none, i17)) = (some (none, i17)) := by
    simp [iBk, show ¬ nI 1 = nI 0 by decide]
  have e : oBk (nI 1) i0 (some (none, i17)) = (1, 0) := by
    rw [oBk, e8]
  have e1 : rBk (nI 1) i0 (some (none, i17)) R = none := by
    rw [rBk, e8]
  have e2 : sBk (nI 1) i0 (some (none, i17)) sd = i17 := by
    rw [sBk, e8]
  rw [e, e1, e2] at k
  exact k _ (cI_i (cI_put hW (cAs_nd b) rfl [0, 1, 7, 9] (cs2 := [(oC 9 [.ref (b + 1), .ref (b + 14), .ref (b + 17), .ref (b + 19), .ref (b + 25), .ref (b + 29), .ref (b + 33), .ref pp, .int ht, .int (nI tp), .int i17, .int fa, .int (-1), .int 0]), (oC 6 [.ref (b + 2), .ref (b + 6), .ref (b + 7), .ref (b + 8), .ref qw, .int 0, .int ln, .int wn, .int rsd, .int (nI c)]), (oC 0 [.ref (b + 3), .ref ql, .int cn, .int s.2.1, .int s.2.2]), (aI 3 s.1), (aB 4096 fo), (aI 4096 fg), (aI 3 fz), (aR RX2 2 (imR b)), (oC 2 [.int i01, .int i02, .int i03, .int i04, .int i05, .int i06, .int i07]), (oC 2 [.int 1, .int 0, .int i13, .int i14, .int i15, .int i16, .int i17]), (oC 8 [.ref (b + 18), .int wm]), (aI 94 fw), (oC 1 [.ref (b + 20), .ref (b + 24), .int f.2.2.1.1, .int f.2.2.1.2.1, .int f.2.2.2.1, .int f.2.2.1.2.2.1, .int f.2.2.1.2.2.2.1, .int f.2.2.1.2.2.2.2.1, .int f.2.2.1.2.2.2.2.2]), (oC 0 [.ref (b + 21), .ref q0, .int c0, .int f.1.2.1, .int f.1.2.2]), (aI 3 f.1.1), (aI 3 f.2.1), (oC 0 [.ref (b + 26), .ref q1, .int c1, .int s1.2.1, .int s1.2.2]), (aI 3 s1.1), (oC 0 [.ref (b + 30), .ref q2, .int c2, .int s2.2.1, .int s2.2.2]), (aI 3 s2.1), (oC 5 (rdF (b + 34) ps x)), (aB 600 ft)]) rfl rfl) hpp (hPl_o hP1 (by intro a ha; simp only [List.mem_cons, List.not_mem_nil, or_false] at ha; rcases hpp with hpp | hpp <;> omega)) (hPl_o hP2 (by intro a ha; simp only [List.mem_cons, List.not_mem_nil, or_false] at ha; rcases hpp with hpp | hpp <;> omega)) (show rIv pp P none 0 ln wn rsd c qw ql cn s fo fg fz from rfl) hi0 hiv htp hpo hht) (cFr_of (by intro a ha; simp only [List.mem_cons, List.not_mem_nil, or_false] at ha; omega))
set_option maxRecDepth 100000 in
set_option maxHeartbeats 4000000 in
theorem p_back_1r {G : wG} {d : Nat} {h : hH} {Q : Option Value → hH → Prop} {b : Nat} {ft : Nat → Int32} {tp : Nat} {P : pD} {ht : Int32} {R : Option rnD} {i0 i1 : imD} {sd fa pl tr : Int32}  {j i cc : Nat} {x7 s7 : Int32} (hI : cI h b ft tp P ht R i0 (some (some (j, i, x7, cc), s7)) sd fa pl tr)  (k : ∀ h2, cI h2 b ft tp P ht (rBk (nI 1) i0 (some (some (j, i, x7, cc), s7)) R) i0 (some (some (j, i, x7, cc), s7)) (sBk (nI 1) i0 (some (some (j, i, x7, cc), s7)) sd) fa (-1) (oBk (nI 1) i0 (some (some (j, i, x7, cc), s7))).2 → cFr b h h2 → Q (some (.int (oBk (nI 1) i0 (some (some (j, i, x7, cc), s7))).1)) h2) : Cl G yX9_back (d + 5) 0 0 [.ref b, .int (nI 1)] h Q := by
  refine cI_e hI ?_
  intro pp ps P2 go ln wn rsd c qw ql cn s fo fg fz i01 i02 i03 i04 i05 i06 i07 i11 i12 i13 i14 i15 i16 i17 wm fw f q0 c0 s1 q1 c1 s2 q2 c2 x hW hpp hP1 hP2 hR hi0 hi1 htp hpo hht
  have hiv := hi1
  obtain ⟨h1, h2, h3, h4, h5, h6, h7, hrn⟩ : i11 = 1 ∧ i12 = 1 ∧ i13 = nI j ∧ i14 = nI i ∧ i15 = x7 ∧ i16 = nI cc ∧ i17 = s7 ∧ rnOk P (j, i, x7, cc) := hi1
  subst h1; subst h2; subst h3; subst h4; subst h5; subst h6; subst h7
  have hj : j < P.1 := hrn.1
  have hi : i < P.2.1 := hrn.2.1
  have hcc : cc ≤ 4096 := hrn.2.2
  obtain ⟨lp, hlp⟩ : ∃ z, z = pp + 2 + 2 * j := ⟨_, rfl⟩
  have hn : (lPo (P.2.2.1 j)).1 ≤ 3 := hpo.1 j hj
  obtain ⟨wv, hwv⟩ : ∃ z, z = pp + 11 + 5 * i := ⟨_, rfl⟩
  have hP := (hpo.2 i hi).1
  have hc9 := (hpo.2 i hi).2
  have hj4 : j < 4 := Nat.lt_of_lt_of_le hj hP1.1.1
  have hwP : hHas h [pp, pp + 1, lp, lp + 1, pp + 10, wv, wv + 1, wv + 2, wv + 3, wv + 4] [(oC 4 [.ref (pp + 1), .ref (pp + 10), .int (nI P.1), .int (nI P.2.1)]), (aR RX3 4 (plL pp)), (oC 3 [.ref (lp + 1), .int (P.2.2.1 j).1, .int (nI (lPo (P.2.2.1 j)).1), .int (lPo (P.2.2.1 j)).2.2.1, .int (P.2.2.1 j).2.2.2.2.1, .int (lPo (P.2.2.1 j)).2.2.2]), (aI 3 (lPo (P.2.2.1 j)).2.1), (aR RX7 4 (plW pp)), (oC 7 (wvF wv ((P.2.2.2 i).1, (P.2.2.2 i).2))), (aI 8 (P.2.2.2 i).2.1), (aI 8 (P.2.2.2 i).2.2.1), (aI 8 (P.2.2.2 i).2.2.2.1), (aI 8 (P.2.2.2 i).2.2.2.2.1)] := hHas_cons hP1.2.1 (hHas_cons hP1.2.2.1 (hHas_app (as := [lp, lp + 1]) (cs := [(oC 3 [.ref (lp + 1), .int (P.2.2.1 j).1, .int (nI (lPo (P.2.2.1 j)).1), .int (lPo (P.2.2.1 j)).2.2.1, .int (P.2.2.1 j).2.2.2.2.1, .int (lPo (P.2.2.1 j)).2.2.2]), (aI 3 (lPo (P.2.2.1 j)).2.1)]) (hHas_cons hP1.2.2.2.1 (hwv ▸ hP1.2.2.2.2.2 i (Nat.lt_of_lt_of_le hi hP1.1.2))) rfl (hlp ▸ hP1.2.2.2.2.1 j (Nat.lt_of_lt_of_le hj hP1.1.1))))
  have hw : hHas h [b, b + 1, b + 2, b + 3, b + 6, b + 7, b + 8, b + 14, b + 16, pp, pp + 1, lp, lp + 1, pp + 10, wv, wv + 1, wv + 2, wv + 3, wv + 4] [(oC 9 [.ref (b + 1), .ref (b + 14), .ref (b + 17), .ref (b + 19), .ref (b + 25), .ref (b + 29), .ref (b + 33), .ref pp, .int ht, .int (nI tp), .int sd, .int fa, .int pl, .int tr]), (oC 6 [.ref (b + 2), .ref (b + 6), .ref (b + 7), .ref (b + 8), .ref qw, .int go, .int ln, .int wn, .int rsd, .int (nI c)]), (oC 0 [.ref (b + 3), .ref ql, .int cn, .int s.2.1, .int s.2.2]), (aI 3 s.1), (aB 4096 fo), (aI 4096 fg), (aI 3 fz), (aR RX2 2 (imR b)), (oC 2 [.int 1, .int 1, .int (nI j), .int (nI i), .int i15, .int (nI cc), .int i17]), (oC 4 [.ref (pp + 1), .ref (pp + 10), .int (nI P.1), .int (nI P.2.1)]), (aR RX3 4 (plL pp)), (oC 3 [.ref (lp + 1), .int (P.2.2.1 j).1, .int (nI (lPo (P.2.2.1 j)).1), .int (lPo (P.2.2.1 j)).2.2.1, .int (P.2.2.1 j).2.2.2.2.1, .int (lPo (P.2.2.1 j)).2.2.2]), (aI 3 (lPo (P.2.2.1 j)).2.1), (aR RX7 4 (plW pp)), (oC 7 (wvF wv ((P.2.2.2 i).1, (P.2.2.2 i).2))), (aI 8 (P.2.2.2 i).2.1), (aI 8 (P.2.2.2 i).2.2.1), (aI 8 (P.2.2.2 i).2.2.2.1), (aI 8 (P.2.2.2 i).2.2.2.2.1)] := hHas_app hwP (as := [b, b + 1, b + 2, b + 3, b + 6, b + 7, b + 8, b + 14, b + 16]) (cs := [(oC 9 [.ref (b + 1), .ref (b + 14), .ref (b + 17), .ref (b + 19), .ref (b + 25), .ref (b + 29), .ref (b + 33), .ref pp, .int ht, .int (nI tp), .int sd, .int fa, .int pl, .int tr]), (oC 6 [.ref (b + 2), .ref (b + 6), .ref (b + 7), .ref (b + 8), .ref qw, .int go, .int ln, .int wn, .int rsd, .int (nI c)]), (oC 0 [.ref (b + 3), .ref ql, .int cn, .int s.2.1, .int s.2.2]), (aI 3 s.1), (aB 4096 fo), (aI 4096 fg), (aI 3 fz), (aR RX2 2 (imR b)), (oC 2 [.int 1, .int 1, .int (nI j), .int (nI i), .int i15, .int (nI cc), .int i17])]) rfl (hHas_s hW [0, 1, 2, 3, 4, 5, 6, 7, 9] rfl rfl)
  have nd : [b, b + 1, b + 2, b + 3, b + 6, b + 7, b + 8, b + 14, b + 16, pp, pp + 1, lp, lp + 1, pp + 10, wv, wv + 1, wv + 2, wv + 3, wv + 4].Nodup := by
    rcases hpp with ⟨h9, h8⟩ | ⟨h9, h8⟩ <;> exact (nd_inc ⟨by omega, by omega, by omega, by omega, by omega, by omega, by omega, by omega, by omega, by omega, by omega, by omega, by omega, by omega, by omega, by omega, by omega, by omega, trivial⟩)
  refine Cl.of (ini := false) kX9_back (plainFor_of_name (by decide)) (by decide) (Nat.le_of_ble_eq_true rfl) rfl rfl (fun z => by cases z) ?_
  refine w_heq (hUs_id hw).symm ?_
  refine w_iload_n dX9_back_0 rfl ?_
  refine w_if_lt_f (tgt := 25) dX9_back_1 rfl (fun z => absurd ((nI_ltI (a := 1) (b := 0) (by omega) (by omega)).mp z) (by omega)) ?_
  refine w_iload_n dX9_back_4 rfl ?_
  refine w_aload_n dX9_back_5 rfl ?_
  refine w_get (v := .ref (b + 14)) fX9_19 (hUs_at nd 0 rfl rfl) rfl dX9_back_6 ?_
  refine w_alen (v := (nI 2)) (hUs_at nd 7 rfl rfl) rfl dX9_back_9 ?_
  refine w_icmp_ge_f (tgt := 25) dX9_back_10 rfl (fun z => absurd ((nI_leI (a := 2) (b := 1) (by omega) (by omega)).mp z) (by omega)) ?_
  refine w_aload_n dX9_back_13 rfl ?_
  refine w_get (v := .ref (b + 14)) fX9_19 (hUs_at nd 0 rfl rfl) rfl dX9_back_14 ?_
  refine w_iload_n dX9_back_17 rfl ?_
  refine w_aaloadN (hUs_at nd 7 rfl rfl) (by omega) (by omega) dX9_back_18 ?_
  refine w_topV (z := .ref (b + 16)) rfl ?_
  refine w_get (v := .int 1) fX9_280 (hUs_at nd 8 rfl rfl) rfl dX9_back_19 ?_
  refine w_if_ne_t (tgt := 31) dX9_back_22 rfl (by decide) ?_
  refine w_aload_n dX9_back_31 rfl ?_
  refine w_get (v := .ref (b + 14)) fX9_19 (hUs_at nd 0 rfl rfl) rfl dX9_back_32 ?_
  refine w_iload_n dX9_back_35 rfl ?_
  refine w_aaloadN (hUs_at nd 7 rfl rfl) (by omega) (by omega) dX9_back_36 ?_
  refine w_topV (z := .ref (b + 16)) rfl ?_
  refine w_aload_n dX9_back_37 rfl ?_
  refine w_get (v := .ref (b + 1)) fX9_10 (hUs_at nd 0 rfl rfl) rfl dX9_back_38 ?_
  refine w_aload_n dX9_back_41 rfl ?_
  refine w_get (v := .ref pp) fX9_57 (hUs_at nd 0 rfl rfl) rfl dX9_back_42 ?_
  have hP9 : ∀ h9 : hH, h9 = hUs h [b, b + 1, b + 2, b + 3, b + 6, b + 7, b + 8, b + 14, b + 16, pp, pp + 1, lp, lp + 1, pp + 10, wv, wv + 1, wv + 2, wv + 3, wv + 4] [(oC 9 [.ref (b + 1), .ref (b + 14), .ref (b + 17), .ref (b + 19), .ref (b + 25), .ref (b + 29), .ref (b + 33), .ref pp, .int ht, .int (nI tp), .int sd, .int fa, .int pl, .int tr]), (oC 6 [.ref (b + 2), .ref (b + 6), .ref (b + 7), .ref (b + 8), .ref qw, .int go, .int ln, .int wn, .int rsd, .int (nI c)]), (oC 0 [.ref (b + 3), .ref ql, .int cn, .int s.2.1, .int s.2.2]), (aI 3 s.1), (aB 4096 fo), (aI 4096 fg), (aI 3 fz), (aR RX2 2 (imR b)), (oC 2 [.int 1, .int 1, .int (nI j), .int (nI i), .int i15, .int (nI cc), .int i17]), (oC 4 [.ref (pp + 1), .ref (pp + 10), .int (nI P.1), .int (nI P.2.1)]), (aR RX3 4 (plL pp)), (oC 3 [.ref (lp + 1), .int (P.2.2.1 j).1, .int (nI (lPo (P.2.2.1 j)).1), .int (lPo (P.2.2.1 j)).2.2.1, .int (P.2.2.1 j).2.2.2.2.1, .int (lPo (P.2.2.1 j)).2.2.2]), (aI 3 (lPo (P.2.2.1 j)).2.1), (aR RX7 4 (plW pp)), (oC 7 (wvF wv ((P.2.2.2 i).1, (P.2.2.2 i).2))), (aI 8 (P.2.2.2 i).2.1), (aI 8 (P.2.2.2 i).2.2.1), (aI 8 (P.2.2.2 i).2.2.2.1), (aI 8 (P.2.2.2 i).2.2.2.2.1)] → hPl h9 pp P := fun h9 e9 => by
    rw [e9, hUs_id hw]; exact hP1
  refine w_callV (ci := 2) (d' := d + 4) (mc' := 0) (ms' := 0) (As := [.ref (b + 1), .ref pp]) (st := []) lX9_283 vX2_give rfl (hUs_at nd 8 rfl rfl) rfl (Nat.le_of_ble_eq_true rfl) dX9_back_45 (Nat.le_of_ble_eq_true rfl) (Nat.le_of_ble_eq_true rfl) (Nat.le_refl _) (c_give1 (fo := fo) (fg := fg) (P := P) (cc := cc) (j := j) (i := i) (hHas_sub nd (as' := [b + 1, b + 2, b + 3, b + 6, b + 7, b + 8, b + 16, pp, pp + 1, lp, lp + 1, pp + 10, wv, wv + 1, wv + 2, wv + 3, wv + 4]) (cs' := [(oC 6 [.ref (b + 2), .ref (b + 6), .ref (b + 7), .ref (b + 8), .ref qw, .int go, .int ln, .int wn, .int rsd, .int (nI c)]), (oC 0 [.ref (b + 3), .ref ql, .int cn, .int s.2.1, .int s.2.2]), (aI 3 s.1), (aB 4096 fo), (aI 4096 fg), (aI 3 fz), (oC 2 [.int 1, .int 1, .int (nI j), .int (nI i), .int i15, .int (nI cc), .int i17]), (oC 4 [.ref (pp + 1), .ref (pp + 10), .int (nI P.1), .int (nI P.2.1)]), (aR RX3 4 (plL pp)), (oC 3 [.ref (lp + 1), .int (P.2.2.1 j).1, .int (nI (lPo (P.2.2.1 j)).1), .int (lPo (P.2.2.1 j)).2.2.1, .int (P.2.2.1 j).2.2.2.2.1, .int (lPo (P.2.2.1 j)).2.2.2]), (aI 3 (lPo (P.2.2.1 j)).2.1), (aR RX7 4 (plW pp)), (oC 7 (wvF wv ((P.2.2.2 i).1, (P.2.2.2 i).2))), (aI 8 (P.2.2.2 i).2.1), (aI 8 (P.2.2.2 i).2.2.1), (aI 8 (P.2.2.2 i).2.2.2.1), (aI 8 (P.2.2.2 i).2.2.2.2.1)]) [1, 2, 3, 4, 5, 6, 8, 9, 10, 11, 12, 13, 14, 15, 16, 17, 18] rfl rfl) (nd_sub nd (as' := [b + 1, b + 2, b + 3, b + 6, b + 7, b + 8, b + 16, pp, pp + 1, lp, lp + 1, pp + 10, wv, wv + 1, wv + 2, wv + 3, wv + 4]) [1, 2, 3, 4, 5, 6, 8, 9, 10, 11, 12, 13, 14, 15, 16, 17, 18] rfl rfl) (hP9 _ rfl) hlp hwv hj hi hn hP hc9 hcc ?_)
  refine w_heq (hUs_in nd rfl [1, 2, 3, 4, 5, 6, 8, 9, 10, 11, 12, 13, 14, 15, 16, 17, 18] (cs2 := [(oC 9 [.ref (b + 1), .ref (b + 14), .ref (b + 17), .ref (b + 19), .ref (b + 25), .ref (b + 29), .ref (b + 33), .ref pp, .int ht, .int (nI tp), .int sd, .int fa, .int pl, .int tr]), (oC 6 [.ref (b + 2), .ref (b + 6), .ref (b + 7), .ref (b + 8), .ref wv, .int 1, .int (nI j), .int (nI i), .int i15, .int (nI cc)]), (oC 0 [.ref (b + 3), .ref lp, .int (rQo P j i i15).2.1, .int (rS (rQo P j i i15) cc).2.1, .int (rS (rQo P j i i15) cc).2.2]), (aI 3 (rS (rQo P j i i15) cc).1), (aB 4096 (putF fo (rO (rQo P j i i15)) 0 cc)), (aI 4096 (putF fg (rG (rQo P j i i15)) 0 cc)), (aI 3 (rZ (rQo P j i i15) cc)), (aR RX2 2 (imR b)), (oC 2 [.int 1, .int 1, .int (nI j), .int (nI i), .int i15, .int (nI cc), .int i17]), (oC 4 [.ref (pp + 1), .ref (pp + 10), .int (nI P.1), .int (nI P.2.1)]), (aR RX3 4 (plL pp)), (oC 3 [.ref (lp + 1), .int (P.2.2.1 j).1, .int (nI (lPo (P.2.2.1 j)).1), .int (lPo (P.2.2.1 j)).2.2.1, .int (P.2.2.1 j).2.2.2.2.1, .int (lPo (P.2.2.1 j)).2.2.2]), (aI 3 (lPo (P.2.2.1 j)).2.1), (aR RX7 4 (plW pp)), (oC 7 (wvF wv ((P.2.2.2 i).1, (P.2.2.2 i).2))), (aI 8 (P.2.2.2 i).2.1), (aI 8 (P.2.2.2 i).2.2.1), (aI 8 (P.2.2.2 i).2.2.2.1), (aI 8 (P.2.2.2 i).2.2.2.2.1)]) rfl rfl) ?_
  refine w_aload_n dX9_back_48 rfl ?_
  refine w_aload_n dX9_back_49 rfl ?_
  refine w_get (v := .ref (b + 14)) fX9_19 (hUs_at nd 0 rfl rfl) rfl dX9_back_50 ?_
  refine w_iload_n dX9_back_53 rfl ?_
  refine w_aaloadN (hUs_at nd 7 rfl rfl) (by omega) (by omega) dX9_back_54 ?_
  refine w_topV (z := .ref (b + 16)) rfl ?_
  refine w_get (v := .int i17) fX9_287 (hUs_at nd 8 rfl rfl) rfl dX9_back_55 ?_
  refine w_put (fs' := [.ref (b + 1), .ref (b + 14), .ref (b + 17), .ref (b + 19), .ref (b + 25), .ref (b + 29), .ref (b + 33), .ref pp, .int ht, .int (nI tp), .int i17, .int fa, .int pl, .int tr]) fX9_61 (hUs_at nd 0 rfl rfl) rfl rfl (Nat.le_of_ble_eq_true rfl) rfl dX9_back_58 ?_
  refine w_heq (hUs_set nd rfl 0 (cs' := [(oC 9 [.ref (b + 1), .ref (b + 14), .ref (b + 17), .ref (b + 19), .ref (b + 25), .ref (b + 29), .ref (b + 33), .ref pp, .int ht, .int (nI tp), .int i17, .int fa, .int pl, .int tr]), (oC 6 [.ref (b + 2), .ref (b + 6), .ref (b + 7), .ref (b + 8), .ref wv, .int 1, .int (nI j), .int (nI i), .int i15, .int (nI cc)]), (oC 0 [.ref (b + 3), .ref lp, .int (rQo P j i i15).2.1, .int (rS (rQo P j i i15) cc).2.1, .int (rS (rQo P j i i15) cc).2.2]), (aI 3 (rS (rQo P j i i15) cc).1), (aB 4096 (putF fo (rO (rQo P j i i15)) 0 cc)), (aI 4096 (putF fg (rG (rQo P j i i15)) 0 cc)), (aI 3 (rZ (rQo P j i i15) cc)), (aR RX2 2 (imR b)), (oC 2 [.int 1, .int 1, .int (nI j), .int (nI i), .int i15, .int (nI cc), .int i17]), (oC 4 [.ref (pp + 1), .ref (pp + 10), .int (nI P.1), .int (nI P.2.1)]), (aR RX3 4 (plL pp)), (oC 3 [.ref (lp + 1), .int (P.2.2.1 j).1, .int (nI (lPo (P.2.2.1 j)).1), .int (lPo (P.2.2.1 j)).2.2.1, .int (P.2.2.1 j).2.2.2.2.1, .int (lPo (P.2.2.1 j)).2.2.2]), (aI 3 (lPo (P.2.2.1 j)).2.1), (aR RX7 4 (plW pp)), (oC 7 (wvF wv ((P.2.2.2 i).1, (P.2.2.2 i).2))), (aI 8 (P.2.2.2 i).2.1), (aI 8 (P.2.2.2 i).2.2.1), (aI 8 (P.2.2.2 i).2.2.2.1), (aI 8 (P.2.2.2 i).2.2.2.2.1)]) rfl rfl) ?_
  refine w_aload_n dX9_back_61 rfl ?_
  refine w_callV (ci := 9) (d' := d + 4) (mc' := 0) (ms' := 0) (As := []) (st := []) lX9_131 vX9_isGranted rfl (hUs_at nd 0 rfl rfl) rfl (Nat.le_of_ble_eq_true rfl) dX9_back_62 (Nat.le_of_ble_eq_true rfl) (Nat.le_of_ble_eq_true rfl) (Nat.le_refl _) (c_isGranted (hHas_sub nd (as' := [b]) (cs' := [(oC 9 [.ref (b + 1), .ref (b + 14), .ref (b + 17), .ref (b + 19), .ref (b + 25), .ref (b + 29), .ref (b + 33), .ref pp, .int ht, .int (nI tp), .int i17, .int fa, .int pl, .int tr])]) [0] rfl rfl) (nd_sub nd (as' := [b]) [0] rfl rfl)  ?_)
  refine w_heq (hUs_in nd rfl [0] (cs2 := [(oC 9 [.ref (b + 1), .ref (b + 14), .ref (b + 17), .ref (b + 19), .ref (b + 25), .ref (b + 29), .ref (b + 33), .ref pp, .int ht, .int (nI tp), .int i17, .int fa, .int (-1), .int 0]), (oC 6 [.ref (b + 2), .ref (b + 6), .ref (b + 7), .ref (b + 8), .ref wv, .int 1, .int (nI j), .int (nI i), .int i15, .int (nI cc)]), (oC 0 [.ref (b + 3), .ref lp, .int (rQo P j i i15).2.1, .int (rS (rQo P j i i15) cc).2.1, .int (rS (rQo P j i i15) cc).2.2]), (aI 3 (rS (rQo P j i i15) cc).1), (aB 4096 (putF fo (rO (rQo P j i i15)) 0 cc)), (aI 4096 (putF fg (rG (rQo P j i i15)) 0 cc)), (aI 3 (rZ (rQo P j i i15) cc)), (aR RX2 2 (imR b)), (oC 2 [.int 1, .int 1, .int (nI j), .int (nI i), .int i15, .int (nI cc), .int i17]), (oC 4 [.ref (pp + 1), .ref (pp + 10), .int (nI P.1), .int (nI P.2.1)]), (aR RX3 4 (plL pp)), (oC 3 [.ref (lp + 1), .int (P.2.2.1 j).1, .int (nI (lPo (P.2.2.1 j)).1), .int (lPo (P.2.2.1 j)).2.2.1, .int (P.2.2.1 j).2.2.2.2.1, .int (lPo (P.2.2.1 j)).2.2.2]), (aI 3 (lPo (P.2.2.1 j)).2.1), (aR RX7 4 (plW pp)), (oC 7 (wvF wv ((P.2.2.2 i).1, (P.2.2.2 i).2))), (aI 8 (P.2.2.2 i).2.1), (aI 8 (P.2.2.2 i).2.2.1), (aI 8 (P.2.2.2 i).2.2.2.1), (aI 8 (P.2.2.2 i).2.2.2.2.1)]) rfl rfl) ?_
  refine w_zreturn rfl dX9_back_65 rfl (Nat.le_of_ble_eq_true rfl) (Nat.le_of_ble_eq_true rfl) ?_
  have e8 : iBk (nI 1) i0 (some (some (j, i, i15, cc), i17)) = (some (some (j, i, i15, cc), i17)) := by
    simp [iBk, show ¬ nI 1 = nI 0 by decide]
  have e : oBk (nI 1) i0 (some (some (j, i, i15, cc), i17)) = (1, 0) := by
    rw [oBk, e8]
  have e1 : rBk (nI 1) i0 (some (some (j, i, i15, cc), i17)) R = some (j, i, i15, cc) := by
    rw [rBk, e8]
  have e2 : sBk (nI 1) i0 (some (some (j, i, i15, cc), i17)) sd = i17 := by
    rw [sBk, e8]
  rw [e, e1, e2] at k
  rw [show (hUs h [b, b + 1, b + 2, b + 3, b + 6, b + 7, b + 8, b + 14, b + 16, pp, pp + 1, lp, lp + 1, pp + 10, wv, wv + 1, wv + 2, wv + 3, wv + 4] [(oC 9 [.ref (b + 1), .ref (b + 14), .ref (b + 17), .ref (b + 19), .ref (b + 25), .ref (b + 29), .ref (b + 33), .ref pp, .int ht, .int (nI tp), .int i17, .int fa, .int (-1), .int 0]), (oC 6 [.ref (b + 2), .ref (b + 6), .ref (b + 7), .ref (b + 8), .ref wv, .int 1, .int (nI j), .int (nI i), .int i15, .int (nI cc)]), (oC 0 [.ref (b + 3), .ref lp, .int (rQo P j i i15).2.1, .int (rS (rQo P j i i15) cc).2.1, .int (rS (rQo P j i i15) cc).2.2]), (aI 3 (rS (rQo P j i i15) cc).1), (aB 4096 (putF fo (rO (rQo P j i i15)) 0 cc)), (aI 4096 (putF fg (rG (rQo P j i i15)) 0 cc)), (aI 3 (rZ (rQo P j i i15) cc)), (aR RX2 2 (imR b)), (oC 2 [.int 1, .int 1, .int (nI j), .int (nI i), .int i15, .int (nI cc), .int i17]), (oC 4 [.ref (pp + 1), .ref (pp + 10), .int (nI P.1), .int (nI P.2.1)]), (aR RX3 4 (plL pp)), (oC 3 [.ref (lp + 1), .int (P.2.2.1 j).1, .int (nI (lPo (P.2.2.1 j)).1), .int (lPo (P.2.2.1 j)).2.2.1, .int (P.2.2.1 j).2.2.2.2.1, .int (lPo (P.2.2.1 j)).2.2.2]), (aI 3 (lPo (P.2.2.1 j)).2.1), (aR RX7 4 (plW pp)), (oC 7 (wvF wv ((P.2.2.2 i).1, (P.2.2.2 i).2))), (aI 8 (P.2.2.2 i).2.1), (aI 8 (P.2.2.2 i).2.2.1), (aI 8 (P.2.2.2 i).2.2.2.1), (aI 8 (P.2.2.2 i).2.2.2.2.1)]) = hUs h [b, b + 1, b + 2, b + 3, b + 6, b + 7, b + 8, b + 14, b + 16] [(oC 9 [.ref (b + 1), .ref (b + 14), .ref (b + 17), .ref (b + 19), .ref (b + 25), .ref (b + 29), .ref (b + 33), .ref pp, .int ht, .int (nI tp), .int i17, .int fa, .int (-1), .int 0]), (oC 6 [.ref (b + 2), .ref (b + 6), .ref (b + 7), .ref (b + 8), .ref wv, .int 1, .int (nI j), .int (nI i), .int i15, .int (nI cc)]), (oC 0 [.ref (b + 3), .ref lp, .int (rQo P j i i15).2.1, .int (rS (rQo P j i i15) cc).2.1, .int (rS (rQo P j i i15) cc).2.2]), (aI 3 (rS (rQo P j i i15) cc).1), (aB 4096 (putF fo (rO (rQo P j i i15)) 0 cc)), (aI 4096 (putF fg (rG (rQo P j i i15)) 0 cc)), (aI 3 (rZ (rQo P j i i15) cc)), (aR RX2 2 (imR b)), (oC 2 [.int 1, .int 1, .int (nI j), .int (nI i), .int i15, .int (nI cc), .int i17])] from hUs_tail (as := [b, b + 1, b + 2, b + 3, b + 6, b + 7, b + 8, b + 14, b + 16]) (cs := [(oC 9 [.ref (b + 1), .ref (b + 14), .ref (b + 17), .ref (b + 19), .ref (b + 25), .ref (b + 29), .ref (b + 33), .ref pp, .int ht, .int (nI tp), .int i17, .int fa, .int (-1), .int 0]), (oC 6 [.ref (b + 2), .ref (b + 6), .ref (b + 7), .ref (b + 8), .ref wv, .int 1, .int (nI j), .int (nI i), .int i15, .int (nI cc)]), (oC 0 [.ref (b + 3), .ref lp, .int (rQo P j i i15).2.1, .int (rS (rQo P j i i15) cc).2.1, .int (rS (rQo P j i i15) cc).2.2]), (aI 3 (rS (rQo P j i i15) cc).1), (aB 4096 (putF fo (rO (rQo P j i i15)) 0 cc)), (aI 4096 (putF fg (rG (rQo P j i i15)) 0 cc)), (aI 3 (rZ (rQo P j i i15) cc)), (aR RX2 2 (imR b)), (oC 2 [.int 1, .int 1, .int (nI j), .int (nI i), .int i15, .int (nI cc), .int i17])]) hwP rfl]
  exact k _ (cI_i (cI_put hW (cAs_nd b) rfl [0, 1, 2, 3, 4, 5, 6, 7, 9] (cs2 := [(oC 9 [.ref (b + 1), .ref (b + 14), .ref (b + 17), .ref (b + 19), .ref (b + 25), .ref (b + 29), .ref (b + 33), .ref pp, .int ht, .int (nI tp), .int i17, .int fa, .int (-1), .int 0]), (oC 6 [.ref (b + 2), .ref (b + 6), .ref (b + 7), .ref (b + 8), .ref wv, .int 1, .int (nI j), .int (nI i), .int i15, .int (nI cc)]), (oC 0 [.ref (b + 3), .ref lp, .int (rQo P j i i15).2.1, .int (rS (rQo P j i i15) cc).2.1, .int (rS (rQo P j i i15) cc).2.2]), (aI 3 (rS (rQo P j i i15) cc).1), (aB 4096 (putF fo (rO (rQo P j i i15)) 0 cc)), (aI 4096 (putF fg (rG (rQo P j i i15)) 0 cc)), (aI 3 (rZ (rQo P j i i15) cc)), (aR RX2 2 (imR b)), (oC 2 [.int i01, .int i02, .int i03, .int i04, .int i05, .int i06, .int i07]), (oC 2 [.int 1, .int 1, .int (nI j), .int (nI i), .int i15, .int (nI cc), .int i17]), (oC 8 [.ref (b + 18), .int wm]), (aI 94 fw), (oC 1 [.ref (b + 20), .ref (b + 24), .int f.2.2.1.1, .int f.2.2.1.2.1, .int f.2.2.2.1, .int f.2.2.1.2.2.1, .int f.2.2.1.2.2.2.1, .int f.2.2.1.2.2.2.2.1, .int f.2.2.1.2.2.2.2.2]), (oC 0 [.ref (b + 21), .ref q0, .int c0, .int f.1.2.1, .int f.1.2.2]), (aI 3 f.1.1), (aI 3 f.2.1), (oC 0 [.ref (b + 26), .ref q1, .int c1, .int s1.2.1, .int s1.2.2]), (aI 3 s1.1), (oC 0 [.ref (b + 30), .ref q2, .int c2, .int s2.2.1, .int s2.2.2]), (aI 3 s2.1), (oC 5 (rdF (b + 34) ps x)), (aB 600 ft)]) rfl rfl) hpp (hPl_o hP1 (by intro a ha; simp only [List.mem_cons, List.not_mem_nil, or_false] at ha; rcases hpp with hpp | hpp <;> omega)) (hPl_o hP2 (by intro a ha; simp only [List.mem_cons, List.not_mem_nil, or_false] at ha; rcases hpp with hpp | hpp <;> omega)) (show rIv pp P (some (j, i, i15, cc)) 1 (nI j) (nI i) i15 cc wv lp (P.2.2.1 j).2.2.2.2.1 (rS (rQo P j i i15) cc) (putF fo (rO (rQo P j i i15)) 0 cc) (putF fg (rG (rQo P j i i15)) 0 cc) (rZ (rQo P j i i15) cc) from ⟨⟨hj, hi, hcc⟩, rfl, rfl, rfl, rfl, rfl, hwv, hlp, rfl, rfl, fun t h => putF_in (c := 0) (fun t h => absurd h (Nat.not_lt_zero t)) (by omega), fun t h => putF_in (c := 0) (fun t h => absurd h (Nat.not_lt_zero t)) (by omega), rfl⟩) hi0 hiv htp hpo hht) (cFr_of (by intro a ha; simp only [List.mem_cons, List.not_mem_nil, or_false] at ha; omega))
set_option maxRecDepth 100000 in
set_option maxHeartbeats 4000000 in
theorem p_back_n {G : wG} {d : Nat} {h : hH} {Q : Option Value → hH → Prop} {b : Nat} {ft : Nat → Int32} {tp : Nat} {P : pD} {ht : Int32} {R : Option rnD} {i0 i1 : imD} {sd fa pl tr : Int32}  {y : Int32} (hI : cI h b ft tp P ht R i0 i1 sd fa pl tr) (hy : ¬ ∃ w, w < 2 ∧ y = nI w) (k : ∀ h2, cI h2 b ft tp P ht (rBk y i0 i1 R) i0 i1 (sBk y i0 i1 sd) fa (-1) (oBk y i0 i1).2 → cFr b h h2 → Q (some (.int (oBk y i0 i1).1)) h2) : Cl G yX9_back (d + 5) 0 0 [.ref b, .int y] h Q := by
  refine cI_e hI ?_
  intro pp ps P2 go ln wn rsd c qw ql cn s fo fg fz i01 i02 i03 i04 i05 i06 i07 i11 i12 i13 i14 i15 i16 i17 wm fw f q0 c0 s1 q1 c1 s2 q2 c2 x hW hpp hP1 hP2 hR hi0 hi1 htp hpo hht
  have hw : hHas h [b, b + 14] [(oC 9 [.ref (b + 1), .ref (b + 14), .ref (b + 17), .ref (b + 19), .ref (b + 25), .ref (b + 29), .ref (b + 33), .ref pp, .int ht, .int (nI tp), .int sd, .int fa, .int pl, .int tr]), (aR RX2 2 (imR b))] := hHas_s hW [0, 7] rfl rfl
  have nd : [b, b + 14].Nodup := (nd_inc ⟨by omega, trivial⟩)
  refine Cl.of (ini := false) kX9_back (plainFor_of_name (by decide)) (by decide) (Nat.le_of_ble_eq_true rfl) rfl rfl (fun z => by cases z) ?_
  refine w_heq (hUs_id hw).symm ?_
  refine w_iload_n dX9_back_0 rfl ?_
  refine w_if_lt (tgt := 25) dX9_back_1 rfl (fun b1 => ?_) (fun b1 => ?_)
  · refine w_aload_n dX9_back_25 rfl ?_
    refine w_iconst (v := 1) dX9_back_26 (by decide) ?_
    refine w_callV (ci := 9) (d' := d + 4) (mc' := 0) (ms' := 0) (As := [.int 1]) (st := []) lX9_128 vX9_isRefused rfl (hUs_at nd 0 rfl rfl) rfl (Nat.le_of_ble_eq_true rfl) dX9_back_27 (Nat.le_of_ble_eq_true rfl) (Nat.le_of_ble_eq_true rfl) (Nat.le_refl _) (c_isRefused (hHas_sub nd (as' := [b]) (cs' := [(oC 9 [.ref (b + 1), .ref (b + 14), .ref (b + 17), .ref (b + 19), .ref (b + 25), .ref (b + 29), .ref (b + 33), .ref pp, .int ht, .int (nI tp), .int sd, .int fa, .int pl, .int tr])]) [0] rfl rfl) (nd_sub nd (as' := [b]) [0] rfl rfl)  ?_)
    refine w_heq (hUs_in nd rfl [0] (cs2 := [(oC 9 [.ref (b + 1), .ref (b + 14), .ref (b + 17), .ref (b + 19), .ref (b + 25), .ref (b + 29), .ref (b + 33), .ref pp, .int ht, .int (nI tp), .int sd, .int fa, .int (-1), .int 1]), (aR RX2 2 (imR b))]) rfl rfl) ?_
    refine w_zreturn rfl dX9_back_30 rfl (Nat.le_of_ble_eq_true rfl) (Nat.le_of_ble_eq_true rfl) ?_
    have e8 : iBk y i0 i1 = none := by
      rw [iBk, if_neg (fun z => hy ⟨0, by decide, z⟩), if_neg (fun z => hy ⟨1, by decide, z⟩)]
    have e : oBk y i0 i1 = (0, 1) := by
      rw [oBk, e8]
    have e1 : rBk y i0 i1 R = R := by
      rw [rBk, e8]
    have e2 : sBk y i0 i1 sd = sd := by
      rw [sBk, e8]
    rw [e, e1, e2] at k
    exact k _ (cI_i (cI_put hW (cAs_nd b) rfl [0, 7] (cs2 := [(oC 9 [.ref (b + 1), .ref (b + 14), .ref (b + 17), .ref (b + 19), .ref (b + 25), .ref (b + 29), .ref (b + 33), .ref pp, .int ht, .int (nI tp), .int sd, .int fa, .int (-1), .int 1]), (oC 6 [.ref (b + 2), .ref (b + 6), .ref (b + 7), .ref (b + 8), .ref qw, .int go, .int ln, .int wn, .int rsd, .int (nI c)]), (oC 0 [.ref (b + 3), .ref ql, .int cn, .int s.2.1, .int s.2.2]), (aI 3 s.1), (aB 4096 fo), (aI 4096 fg), (aI 3 fz), (aR RX2 2 (imR b)), (oC 2 [.int i01, .int i02, .int i03, .int i04, .int i05, .int i06, .int i07]), (oC 2 [.int i11, .int i12, .int i13, .int i14, .int i15, .int i16, .int i17]), (oC 8 [.ref (b + 18), .int wm]), (aI 94 fw), (oC 1 [.ref (b + 20), .ref (b + 24), .int f.2.2.1.1, .int f.2.2.1.2.1, .int f.2.2.2.1, .int f.2.2.1.2.2.1, .int f.2.2.1.2.2.2.1, .int f.2.2.1.2.2.2.2.1, .int f.2.2.1.2.2.2.2.2]), (oC 0 [.ref (b + 21), .ref q0, .int c0, .int f.1.2.1, .int f.1.2.2]), (aI 3 f.1.1), (aI 3 f.2.1), (oC 0 [.ref (b + 26), .ref q1, .int c1, .int s1.2.1, .int s1.2.2]), (aI 3 s1.1), (oC 0 [.ref (b + 30), .ref q2, .int c2, .int s2.2.1, .int s2.2.2]), (aI 3 s2.1), (oC 5 (rdF (b + 34) ps x)), (aB 600 ft)]) rfl rfl) hpp (hPl_o hP1 (by intro a ha; simp only [List.mem_cons, List.not_mem_nil, or_false] at ha; rcases hpp with hpp | hpp <;> omega)) (hPl_o hP2 (by intro a ha; simp only [List.mem_cons, List.not_mem_nil, or_false] at ha; rcases hpp with hpp | hpp <;> omega)) hR hi0 hi1 htp hpo hht) (cFr_of (by intro a ha; simp only [List.mem_cons, List.not_mem_nil, or_false] at ha; omega))
  · refine w_iload_n dX9_back_4 rfl ?_
    refine w_aload_n dX9_back_5 rfl ?_
    refine w_get (v := .ref (b + 14)) fX9_19 (hUs_at nd 0 rfl rfl) rfl dX9_back_6 ?_
    refine w_alen (v := 2) (hUs_at nd 1 rfl rfl) rfl dX9_back_9 ?_
    refine w_icmp_ge_t (tgt := 25) dX9_back_10 rfl (Int32.not_lt.mp (fun z => by obtain ⟨w9, h9, e9⟩ := in3 (m := 2) b1 z (by decide); exact hy ⟨w9, h9, e9⟩)) ?_
    refine w_aload_n dX9_back_25 rfl ?_
    refine w_iconst (v := 1) dX9_back_26 (by decide) ?_
    refine w_callV (ci := 9) (d' := d + 4) (mc' := 0) (ms' := 0) (As := [.int 1]) (st := []) lX9_128 vX9_isRefused rfl (hUs_at nd 0 rfl rfl) rfl (Nat.le_of_ble_eq_true rfl) dX9_back_27 (Nat.le_of_ble_eq_true rfl) (Nat.le_of_ble_eq_true rfl) (Nat.le_refl _) (c_isRefused (hHas_sub nd (as' := [b]) (cs' := [(oC 9 [.ref (b + 1), .ref (b + 14), .ref (b + 17), .ref (b + 19), .ref (b + 25), .ref (b + 29), .ref (b + 33), .ref pp, .int ht, .int (nI tp), .int sd, .int fa, .int pl, .int tr])]) [0] rfl rfl) (nd_sub nd (as' := [b]) [0] rfl rfl)  ?_)
    refine w_heq (hUs_in nd rfl [0] (cs2 := [(oC 9 [.ref (b + 1), .ref (b + 14), .ref (b + 17), .ref (b + 19), .ref (b + 25), .ref (b + 29), .ref (b + 33), .ref pp, .int ht, .int (nI tp), .int sd, .int fa, .int (-1), .int 1]), (aR RX2 2 (imR b))]) rfl rfl) ?_
    refine w_zreturn rfl dX9_back_30 rfl (Nat.le_of_ble_eq_true rfl) (Nat.le_of_ble_eq_true rfl) ?_
    have e8 : iBk y i0 i1 = none := by
      rw [iBk, if_neg (fun z => hy ⟨0, by decide, z⟩), if_neg (fun z => hy ⟨1, by decide, z⟩)]
    have e : oBk y i0 i1 = (0, 1) := by
      rw [oBk, e8]
    have e1 : rBk y i0 i1 R = R := by
      rw [rBk, e8]
    have e2 : sBk y i0 i1 sd = sd := by
      rw [sBk, e8]
    rw [e, e1, e2] at k
    exact k _ (cI_i (cI_put hW (cAs_nd b) rfl [0, 7] (cs2 := [(oC 9 [.ref (b + 1), .ref (b + 14), .ref (b + 17), .ref (b + 19), .ref (b + 25), .ref (b + 29), .ref (b + 33), .ref pp, .int ht, .int (nI tp), .int sd, .int fa, .int (-1), .int 1]), (oC 6 [.ref (b + 2), .ref (b + 6), .ref (b + 7), .ref (b + 8), .ref qw, .int go, .int ln, .int wn, .int rsd, .int (nI c)]), (oC 0 [.ref (b + 3), .ref ql, .int cn, .int s.2.1, .int s.2.2]), (aI 3 s.1), (aB 4096 fo), (aI 4096 fg), (aI 3 fz), (aR RX2 2 (imR b)), (oC 2 [.int i01, .int i02, .int i03, .int i04, .int i05, .int i06, .int i07]), (oC 2 [.int i11, .int i12, .int i13, .int i14, .int i15, .int i16, .int i17]), (oC 8 [.ref (b + 18), .int wm]), (aI 94 fw), (oC 1 [.ref (b + 20), .ref (b + 24), .int f.2.2.1.1, .int f.2.2.1.2.1, .int f.2.2.2.1, .int f.2.2.1.2.2.1, .int f.2.2.1.2.2.2.1, .int f.2.2.1.2.2.2.2.1, .int f.2.2.1.2.2.2.2.2]), (oC 0 [.ref (b + 21), .ref q0, .int c0, .int f.1.2.1, .int f.1.2.2]), (aI 3 f.1.1), (aI 3 f.2.1), (oC 0 [.ref (b + 26), .ref q1, .int c1, .int s1.2.1, .int s1.2.2]), (aI 3 s1.1), (oC 0 [.ref (b + 30), .ref q2, .int c2, .int s2.2.1, .int s2.2.2]), (aI 3 s2.1), (oC 5 (rdF (b + 34) ps x)), (aB 600 ft)]) rfl rfl) hpp (hPl_o hP1 (by intro a ha; simp only [List.mem_cons, List.not_mem_nil, or_false] at ha; rcases hpp with hpp | hpp <;> omega)) (hPl_o hP2 (by intro a ha; simp only [List.mem_cons, List.not_mem_nil, or_false] at ha; rcases hpp with hpp | hpp <;> omega)) hR hi0 hi1 htp hpo hht) (cFr_of (by intro a ha; simp only [List.mem_cons, List.not_mem_nil, or_false] at ha; omega))
theorem p_back {G : wG} {d : Nat} {h : hH} {Q : Option Value → hH → Prop} {b : Nat} {ft : Nat → Int32} {tp : Nat} {P : pD} {ht : Int32} {R : Option rnD} {i0 i1 : imD} {sd fa pl tr : Int32}  {y : Int32} (hI : cI h b ft tp P ht R i0 i1 sd fa pl tr) (k : ∀ h2, cI h2 b ft tp P ht (rBk y i0 i1 R) i0 i1 (sBk y i0 i1 sd) fa (-1) (oBk y i0 i1).2 → cFr b h h2 → Q (some (.int (oBk y i0 i1).1)) h2) : Cl G yX9_back (d + 5) 0 0 [.ref b, .int y] h Q := by
  by_cases hy : ∃ w, w < 2 ∧ y = nI w
  · obtain ⟨w, hw, rfl⟩ := hy
    rcases (show w = 0 ∨ w = 1 by omega) with rfl | rfl
    · match i0, hI, k with
      | none, hI, k => exact p_back_0n (i0 := none) hI k
      | some (none, s7), hI, k => exact p_back_0o (i0 := none) hI k
      | some (some (j, i, x7, cc), s7), hI, k => exact p_back_0r (i0 := none) hI k
    · match i1, hI, k with
      | none, hI, k => exact p_back_1n (i1 := none) hI k
      | some (none, s7), hI, k => exact p_back_1o (i1 := none) hI k
      | some (some (j, i, x7, cc), s7), hI, k => exact p_back_1r (i1 := none) hI k
  · exact p_back_n hI hy k
