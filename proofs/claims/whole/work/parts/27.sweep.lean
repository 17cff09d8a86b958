/-- what of a search's start is of no account -/
def fq (f g : fS) : Prop := f.1 = g.1 ∧ f.2.1 = g.2.1 ∧ f.2.2.2.2 = g.2.2.2.2 ∧ (f.2.2.1.1 = g.2.2.1.1 ∧ f.2.2.1.2.1 = g.2.2.1.2.1 ∧ f.2.2.1.2.2.1 = g.2.2.1.2.2.1 ∧ f.2.2.1.2.2.2.1 = g.2.2.1.2.2.2.1) ∧ (f.2.2.1.1 = 0 ∨ f.2.2.1.2.2.2.2 = g.2.2.1.2.2.2.2)
theorem fnX_q {L : lP} {v : Int32} {f g : fS} (h : fq f g) : (fnX L v f).1 = (fnX L v g).1 ∧ (fnX L v f).2.1 = (fnX L v g).2.1 ∧ (fnX L v f).2.2.1 = (fnX L v g).2.2.1 ∧ (fnX L v f).2.2.2.2 = (fnX L v g).2.2.2.2 := by
  obtain ⟨s, an, ⟨a, b, c, d, e⟩, cl, m⟩ := f
  obtain ⟨s', an', ⟨a', b', c', d', e'⟩, cl', m'⟩ := g
  obtain ⟨h1, h2, h3, ⟨h4, h5, h6, h7⟩, h8⟩ := h
  simp only at h1 h2 h3 h4 h5 h6 h7 h8
  subst h1; subst h2; subst h3; subst h4; subst h5; subst h6; subst h7
  refine ⟨rfl, rfl, ?_, rfl⟩
  rcases h8 with h8 | h8
  · simp [fnX, wlkF, h8]
  · subst h8; rfl
theorem fnd_g (L : lP) (v : Int32) (n : Nat) : ∀ (t : Nat) (f g : fS), fq f g → (fndF L v n t f).1 = (fndF L v n t g).1 ∧ ((fndF L v n t g).1 = true → (fndF L v n t f).2 = (fndF L v n t g).2) := by
  induction n with
  | zero => intro t f g _; exact ⟨rfl, fun z => by simp [fndF] at z⟩
  | succ n ih =>
    intro t f g h
    obtain ⟨x1, x2, x3, x4⟩ := fnX_q (L := L) (v := v) h
    have hX : fq (fnX L v f) (fnX L v g) := ⟨x1, x2, x4, by rw [x3]; exact ⟨rfl, rfl, rfl, rfl⟩, Or.inr (by rw [x3])⟩
    have hD : fq (fnD t (fnX L v f)) (fnD t (fnX L v g)) := ⟨by simp only [fnD, x1], by simp only [fnD, x1], by simp only [fnD], ⟨by simp only [fnD], by simp only [fnD], by simp only [fnD], by simp only [fnD]⟩, Or.inl (by simp only [fnD])⟩
    rw [fndF, fndF, x1, x2, x4]
    by_cases e : eqS (fnX L v g).1.1 (fnX L v g).2.1 = 0
    · rw [if_pos e, if_pos e]
      by_cases e2 : nI t = (fnX L v g).2.2.2.2
      · rw [if_pos e2, if_pos e2]; exact ih (t + 1) _ _ hD
      · rw [if_neg e2, if_neg e2]; exact ih (t + 1) _ _ hX
    · rw [if_neg e, if_neg e]
      exact ⟨rfl, fun _ => by simp only [fnE, x1, x2, x3, x4]⟩
def fnd0 (L : lP) (v : Int32) : Bool × fS := fndF L v 6000 1 ((fun _ => 0, 1, 0), (fun _ => 0), (0, 0, 0, 0, 0, 0), 0, 1)
def cS0 : cS := (fun _ => 0, 1, 0)
def fndB (L : lP) (v : Int32) : Int32 := if (fnd0 L v).1 then 1 else 0
theorem c_find0 {G : wG} {d : Nat} {h : hH} {Q : Option Value → hH → Prop} {q qc qv qs ql qf q0 : Nat} {cn nm nz v : Int32} {L : lP} {f : fS} (hw : hHas h [q, qc, qs, qv, ql, qf] [(oC 1 [.ref qc, .ref qv, .int f.2.2.1.1, .int f.2.2.1.2.1, .int f.2.2.2.1, .int f.2.2.1.2.2.1, .int f.2.2.1.2.2.2.1, .int f.2.2.1.2.2.2.2.1, .int f.2.2.1.2.2.2.2.2]), (oC 0 [.ref qs, .ref q0, .int cn, .int f.1.2.1, .int f.1.2.2]), (aI 3 f.1.1), (aI 3 f.2.1), (oC 3 [.ref qf, .int nm, .int (nI L.1), .int L.2.2.1, .int nz, .int L.2.2.2]), (aI 3 L.2.1)]) (nd : [q, qc, qs, qv, ql, qf].Nodup) (hn : L.1 ≤ 3) (k : ∀ f : fS, ((fnd0 L v).1 = true → f = (fnd0 L v).2) → Q (some (.int (fndB L v))) (hUs h [q, qc, qs, qv, ql, qf] [(oC 1 [.ref qc, .ref qv, .int f.2.2.1.1, .int f.2.2.1.2.1, .int f.2.2.2.1, .int f.2.2.1.2.2.1, .int f.2.2.1.2.2.2.1, .int f.2.2.1.2.2.2.2.1, .int f.2.2.1.2.2.2.2.2]), (oC 0 [.ref qs, .ref ql, .int 0, .int f.1.2.1, .int f.1.2.2]), (aI 3 f.1.1), (aI 3 f.2.1), (oC 3 [.ref qf, .int nm, .int (nI L.1), .int L.2.2.1, .int nz, .int L.2.2.2]), (aI 3 L.2.1)])) : Cl G yX1_find (d + 4) 0 0 [.ref q, .ref ql, .int v] h Q := by
  refine c_find hw nd hn ?_
  have e := fnd_g L v 6000 1 ((fun _ => 0, 1, 0), (fun _ => 0), (0, 0, 0, 0, f.2.2.1.2.2.2.2.1, f.2.2.1.2.2.2.2.2), f.2.2.2.1, 1) ((fun _ => 0, 1, 0), (fun _ => 0), (0, 0, 0, 0, 0, 0), 0, 1) ⟨rfl, rfl, rfl, ⟨rfl, rfl, rfl, rfl⟩, Or.inl rfl⟩
  rw [e.1]
  exact k _ e.2
def caF (L : lP) (v : Int32) : Nat → Nat → cS → cS → Nat
  | 0, i, _, _ => i
  | n + 1, i, s, t => if eqS s.1 t.1 = 0 then caF L v n (i + 1) (cStp L 0 v s) (cStp L 0 v t) else i
def suF (L : lP) (v : Int32) : Nat → cS → cS
  | 0, s => s
  | n + 1, s => if s.2.2 = 0 then suF L v n (cStp L 0 v s) else s
def suB (L : lP) (v : Int32) : Int32 := if (suF L v 1000 cS0).2.2 = 0 then 1 else 0
def cyI (L : lP) (fr st un : Int32) (i : Nat) (s : Int32) : Int32 := if fndB L (fr + st * nI i) = 0 then s else if un = 0 then s + 1 else if 0 < (fnd0 L (fr + st * nI i)).2.2.2.2.1 then s else s + 1
def loI (L : lP) (fr st : Int32) (i : Nat) (s : Int32 × Int32) : Int32 × Int32 := if fndB L (fr + st * nI i) = 0 then s else if (fnd0 L (fr + st * nI i)).2.2.2.1.1 ≤ s.1 then s else ((fnd0 L (fr + st * nI i)).2.2.2.1.1, fr + st * nI i)
theorem fndB_t {L : lP} {v : Int32} (h : ¬ fndB L v = 0) : (fnd0 L v).1 = true := by
  unfold fndB at h
  by_cases e : (fnd0 L v).1 = true
  · exact e
  · rw [if_neg e] at h; exact absurd rfl h
set_option maxRecDepth 100000 in
set_option maxHeartbeats 4000000 in
theorem l_ca {G : wG} {d : Nat} {h : hH} {Q : Option Value → hH → Prop} {b pp tp : Nat} {ht sd fa pl tr : Int32} {ql qf : Nat} {nm nz : Int32} {L : lP} {v : Int32} {N : Nat} (nd : [b, b + 25, b + 26, b + 29, b + 30, ql, qf].Nodup) (hn : L.1 ≤ 3) : ∀ (n : Nat) (i : Nat) (s t : cS), i + n = 3000 → (∀ s2 t2 : cS, Q (some (.int (nI (caF L v n i s t)))) (hUs h [b, b + 25, b + 26, b + 29, b + 30, ql, qf] [(oC 9 [.ref (b + 1), .ref (b + 14), .ref (b + 17), .ref (b + 19), .ref (b + 25), .ref (b + 29), .ref (b + 33), .ref pp, .int ht, .int (nI tp), .int sd, .int fa, .int pl, .int tr]), (oC 0 [.ref (b + 26), .ref ql, .int 0, .int s2.2.1, .int s2.2.2]), (aI 3 s2.1), (oC 0 [.ref (b + 30), .ref ql, .int 0, .int t2.2.1, .int t2.2.2]), (aI 3 t2.1), (oC 3 [.ref qf, .int nm, .int (nI L.1), .int L.2.2.1, .int nz, .int L.2.2.2]), (aI 3 L.2.1)])) → WP G RX9 cX9_clocksAhead 5 (some .int) false (d + 4) 0 0 0 0 Q 28 [some (.ref b), some (.ref ql), some (.int v), some (.int (nI N)), some (.int (nI i))] [] (hUs h [b, b + 25, b + 26, b + 29, b + 30, ql, qf] [(oC 9 [.ref (b + 1), .ref (b + 14), .ref (b + 17), .ref (b + 19), .ref (b + 25), .ref (b + 29), .ref (b + 33), .ref pp, .int ht, .int (nI tp), .int sd, .int fa, .int pl, .int tr]), (oC 0 [.ref (b + 26), .ref ql, .int 0, .int s.2.1, .int s.2.2]), (aI 3 s.1), (oC 0 [.ref (b + 30), .ref ql, .int 0, .int t.2.1, .int t.2.2]), (aI 3 t.1), (oC 3 [.ref qf, .int nm, .int (nI L.1), .int L.2.2.1, .int nz, .int L.2.2.2]), (aI 3 L.2.1)]) := by
  intro n
  induction n with
  | zero =>
    intro i s t hi k
    refine w_iload dX9_clocksAhead_28 rfl ?_
    refine w_sipush (v := 3000) dX9_clocksAhead_30 (by decide) ?_
    refine w_icmp_ge_t (tgt := 77) dX9_clocksAhead_33 rfl ((nI_leI (a := 3000) (b := i) (by omega) (by omega)).mpr (by omega)) ?_
    refine w_iload dX9_clocksAhead_77 rfl ?_
    refine w_ireturn rfl dX9_clocksAhead_79 (Nat.le_of_ble_eq_true rfl) (Nat.le_of_ble_eq_true rfl) ?_
    exact k _ _
  | succ n ih =>
    intro i s t hi k
    refine w_iload dX9_clocksAhead_28 rfl ?_
    refine w_sipush (v := 3000) dX9_clocksAhead_30 (by decide) ?_
    refine w_icmp_ge_f (tgt := 77) dX9_clocksAhead_33 rfl (fun z => absurd ((nI_leI (a := 3000) (b := i) (by omega) (by omega)).mp z) (by omega)) ?_
    refine w_aload_n dX9_clocksAhead_36 rfl ?_
    refine w_get (v := .ref (b + 25)) fX9_40 (hUs_at nd 0 rfl rfl) rfl dX9_clocksAhead_37 ?_
    refine w_aload_n dX9_clocksAhead_40 rfl ?_
    refine w_get (v := .ref (b + 29)) fX9_44 (hUs_at nd 0 rfl rfl) rfl dX9_clocksAhead_41 ?_
    refine w_get (v := .ref (b + 30)) fX9_155 (hUs_at nd 3 rfl rfl) rfl dX9_clocksAhead_44 ?_
    refine w_callV (ci := 0) (d' := d + 3) (mc' := 0) (ms' := 0) (As := [.ref (b + 30)]) (st := []) lX9_304 vX0_isAt rfl (hUs_at nd 1 rfl rfl) rfl (Nat.le_of_ble_eq_true rfl) dX9_clocksAhead_47 (Nat.le_of_ble_eq_true rfl) (Nat.le_of_ble_eq_true rfl) (Nat.le_refl _) (c_isAt (hHas_sub nd (as' := [b + 25, b + 26, b + 30]) (cs' := [(oC 0 [.ref (b + 26), .ref ql, .int 0, .int s.2.1, .int s.2.2]), (aI 3 s.1), (aI 3 t.1)]) [1, 2, 4] rfl rfl)  ?_)
    refine w_if_ne (tgt := 77) dX9_clocksAhead_50 rfl (fun b50 => ?_) (fun b50 => ?_)
    · refine w_iload dX9_clocksAhead_77 rfl ?_
      refine w_ireturn rfl dX9_clocksAhead_79 (Nat.le_of_ble_eq_true rfl) (Nat.le_of_ble_eq_true rfl) ?_
      rw [caF, if_neg b50] at k
      exact k _ _
    · refine w_aload_n dX9_clocksAhead_53 rfl ?_
      refine w_get (v := .ref (b + 25)) fX9_40 (hUs_at nd 0 rfl rfl) rfl dX9_clocksAhead_54 ?_
      refine w_iload_n dX9_clocksAhead_57 rfl ?_
      refine w_callV (ci := 0) (d' := d + 3) (mc' := 0) (ms' := 0) (As := [.int v]) (st := []) lX9_273 vX0_clock rfl (hUs_at nd 1 rfl rfl) rfl (Nat.le_of_ble_eq_true rfl) dX9_clocksAhead_58 (Nat.le_of_ble_eq_true rfl) (Nat.le_of_ble_eq_true rfl) (Nat.le_refl _) (c_clock (hHas_sub nd (as' := [b + 25, b + 26, ql, qf]) (cs' := [(oC 0 [.ref (b + 26), .ref ql, .int 0, .int s.2.1, .int s.2.2]), (aI 3 s.1), (oC 3 [.ref qf, .int nm, .int (nI L.1), .int L.2.2.1, .int nz, .int L.2.2.2]), (aI 3 L.2.1)]) [1, 2, 5, 6] rfl rfl) (nd_sub nd (as' := [b + 25, b + 26, ql, qf]) [1, 2, 5, 6] rfl rfl) hn ?_)
      refine w_heq (hUs_in nd rfl [1, 2, 5, 6] (cs2 := [(oC 9 [.ref (b + 1), .ref (b + 14), .ref (b + 17), .ref (b + 19), .ref (b + 25), .ref (b + 29), .ref (b + 33), .ref pp, .int ht, .int (nI tp), .int sd, .int fa, .int pl, .int tr]), (oC 0 [.ref (b + 26), .ref ql, .int 0, .int (cStp L 0 v s).2.1, .int (cStp L 0 v s).2.2]), (aI 3 (cStp L 0 v s).1), (oC 0 [.ref (b + 30), .ref ql, .int 0, .int t.2.1, .int t.2.2]), (aI 3 t.1), (oC 3 [.ref qf, .int nm, .int (nI L.1), .int L.2.2.1, .int nz, .int L.2.2.2]), (aI 3 L.2.1)]) rfl rfl) ?_
      refine w_pop dX9_clocksAhead_61 rfl ?_
      refine w_aload_n dX9_clocksAhead_62 rfl ?_
      refine w_get (v := .ref (b + 29)) fX9_44 (hUs_at nd 0 rfl rfl) rfl dX9_clocksAhead_63 ?_
      refine w_iload_n dX9_clocksAhead_66 rfl ?_
      refine w_callV (ci := 0) (d' := d + 3) (mc' := 0) (ms' := 0) (As := [.int v]) (st := []) lX9_273 vX0_clock rfl (hUs_at nd 3 rfl rfl) rfl (Nat.le_of_ble_eq_true rfl) dX9_clocksAhead_67 (Nat.le_of_ble_eq_true rfl) (Nat.le_of_ble_eq_true rfl) (Nat.le_refl _) (c_clock (hHas_sub nd (as' := [b + 29, b + 30, ql, qf]) (cs' := [(oC 0 [.ref (b + 30), .ref ql, .int 0, .int t.2.1, .int t.2.2]), (aI 3 t.1), (oC 3 [.ref qf, .int nm, .int (nI L.1), .int L.2.2.1, .int nz, .int L.2.2.2]), (aI 3 L.2.1)]) [3, 4, 5, 6] rfl rfl) (nd_sub nd (as' := [b + 29, b + 30, ql, qf]) [3, 4, 5, 6] rfl rfl) hn ?_)
      refine w_heq (hUs_in nd rfl [3, 4, 5, 6] (cs2 := [(oC 9 [.ref (b + 1), .ref (b + 14), .ref (b + 17), .ref (b + 19), .ref (b + 25), .ref (b + 29), .ref (b + 33), .ref pp, .int ht, .int (nI tp), .int sd, .int fa, .int pl, .int tr]), (oC 0 [.ref (b + 26), .ref ql, .int 0, .int (cStp L 0 v s).2.1, .int (cStp L 0 v s).2.2]), (aI 3 (cStp L 0 v s).1), (oC 0 [.ref (b + 30), .ref ql, .int 0, .int (cStp L 0 v t).2.1, .int (cStp L 0 v t).2.2]), (aI 3 (cStp L 0 v t).1), (oC 3 [.ref qf, .int nm, .int (nI L.1), .int L.2.2.1, .int nz, .int L.2.2.2]), (aI 3 L.2.1)]) rfl rfl) ?_
      refine w_pop dX9_clocksAhead_70 rfl ?_
      refine w_iinc (v := nI (i + 1)) (ls2 := [some (.ref b), some (.ref ql), some (.int v), some (.int (nI N)), some (.int (nI (i + 1)))]) dX9_clocksAhead_71 rfl (nI_1 _) (by decide) rfl rfl ?_
      refine w_goto (tgt := 28) dX9_clocksAhead_74 rfl ?_
      rw [caF, if_pos b50] at k
      exact ih (i + 1) _ _ (by omega) k
set_option maxRecDepth 100000 in
set_option maxHeartbeats 4000000 in
theorem c_clocksAhead {G : wG} {d : Nat} {h : hH} {Q : Option Value → hH → Prop} {b pp tp : Nat} {ht sd fa pl tr : Int32} {ql qf : Nat} {nm nz : Int32} {L : lP} {v c1 c2 : Int32} {N q1 q2 : Nat} {s t : cS} (hw : hHas h [b, b + 25, b + 26, b + 29, b + 30, ql, qf] [(oC 9 [.ref (b + 1), .ref (b + 14), .ref (b + 17), .ref (b + 19), .ref (b + 25), .ref (b + 29), .ref (b + 33), .ref pp, .int ht, .int (nI tp), .int sd, .int fa, .int pl, .int tr]), (oC 0 [.ref (b + 26), .ref q1, .int c1, .int s.2.1, .int s.2.2]), (aI 3 s.1), (oC 0 [.ref (b + 30), .ref q2, .int c2, .int t.2.1, .int t.2.2]), (aI 3 t.1), (oC 3 [.ref qf, .int nm, .int (nI L.1), .int L.2.2.1, .int nz, .int L.2.2.2]), (aI 3 L.2.1)]) (nd : [b, b + 25, b + 26, b + 29, b + 30, ql, qf].Nodup) (hn : L.1 ≤ 3) (hN : N < 2 ^ 31) (k : (∀ s2 t2 : cS, Q (some (.int (nI (caF L v 3000 0 cS0 (cItr L 0 v N cS0))))) (hUs h [b, b + 25, b + 26, b + 29, b + 30, ql, qf] [(oC 9 [.ref (b + 1), .ref (b + 14), .ref (b + 17), .ref (b + 19), .ref (b + 25), .ref (b + 29), .ref (b + 33), .ref pp, .int ht, .int (nI tp), .int sd, .int fa, .int pl, .int tr]), (oC 0 [.ref (b + 26), .ref ql, .int 0, .int s2.2.1, .int s2.2.2]), (aI 3 s2.1), (oC 0 [.ref (b + 30), .ref ql, .int 0, .int t2.2.1, .int t2.2.2]), (aI 3 t2.1), (oC 3 [.ref qf, .int nm, .int (nI L.1), .int L.2.2.1, .int nz, .int L.2.2.2]), (aI 3 L.2.1)]))) : Cl G yX9_clocksAhead (d + 4) 0 0 [.ref b, .ref ql, .int v, .int (nI N)] h Q := by
  refine Cl.of (ini := false) kX9_clocksAhead (plainFor_of_name (by decide)) (by decide) (Nat.le_of_ble_eq_true rfl) rfl rfl (fun z => by cases z) ?_
  refine w_heq (hUs_id hw).symm ?_
  refine w_aload_n dX9_clocksAhead_0 rfl ?_
  refine w_get (v := .ref (b + 25)) fX9_40 (hUs_at nd 0 rfl rfl) rfl dX9_clocksAhead_1 ?_
  refine w_aload_n dX9_clocksAhead_4 rfl ?_
  refine w_callV (ci := 0) (d' := d + 3) (mc' := 0) (ms' := 0) (As := [.ref ql]) (st := []) lX9_248 vX0_startQuiet rfl (hUs_at nd 1 rfl rfl) rfl (Nat.le_of_ble_eq_true rfl) dX9_clocksAhead_5 (Nat.le_of_ble_eq_true rfl) (Nat.le_of_ble_eq_true rfl) (Nat.le_refl _) (c_startQuiet (hHas_sub nd (as' := [b + 25, b + 26, ql]) (cs' := [(oC 0 [.ref (b + 26), .ref q1, .int c1, .int s.2.1, .int s.2.2]), (aI 3 s.1), (oC 3 [.ref qf, .int nm, .int (nI L.1), .int L.2.2.1, .int nz, .int L.2.2.2])]) [1, 2, 5] rfl rfl) (nd_sub nd (as' := [b + 25, b + 26, ql]) [1, 2, 5] rfl rfl)  ?_)
  refine w_heq (hUs_in nd rfl [1, 2, 5] (cs2 := [(oC 9 [.ref (b + 1), .ref (b + 14), .ref (b + 17), .ref (b + 19), .ref (b + 25), .ref (b + 29), .ref (b + 33), .ref pp, .int ht, .int (nI tp), .int sd, .int fa, .int pl, .int tr]), (oC 0 [.ref (b + 26), .ref ql, .int 0, .int 1, .int 0]), (aI 3 (fun _ => 0)), (oC 0 [.ref (b + 30), .ref q2, .int c2, .int t.2.1, .int t.2.2]), (aI 3 t.1), (oC 3 [.ref qf, .int nm, .int (nI L.1), .int L.2.2.1, .int nz, .int L.2.2.2]), (aI 3 L.2.1)]) rfl rfl) ?_
  refine w_heq (show _ = hUs h [b, b + 25, b + 26, b + 29, b + 30, ql, qf] [(oC 9 [.ref (b + 1), .ref (b + 14), .ref (b + 17), .ref (b + 19), .ref (b + 25), .ref (b + 29), .ref (b + 33), .ref pp, .int ht, .int (nI tp), .int sd, .int fa, .int pl, .int tr]), (oC 0 [.ref (b + 26), .ref ql, .int 0, .int cS0.2.1, .int cS0.2.2]), (aI 3 cS0.1), (oC 0 [.ref (b + 30), .ref q2, .int c2, .int t.2.1, .int t.2.2]), (aI 3 t.1), (oC 3 [.ref qf, .int nm, .int (nI L.1), .int L.2.2.1, .int nz, .int L.2.2.2]), (aI 3 L.2.1)] from rfl) ?_
  refine w_aload_n dX9_clocksAhead_8 rfl ?_
  refine w_get (v := .ref (b + 29)) fX9_44 (hUs_at nd 0 rfl rfl) rfl dX9_clocksAhead_9 ?_
  refine w_aload_n dX9_clocksAhead_12 rfl ?_
  refine w_callV (ci := 0) (d' := d + 3) (mc' := 0) (ms' := 0) (As := [.ref ql]) (st := []) lX9_248 vX0_startQuiet rfl (hUs_at nd 3 rfl rfl) rfl (Nat.le_of_ble_eq_true rfl) dX9_clocksAhead_13 (Nat.le_of_ble_eq_true rfl) (Nat.le_of_ble_eq_true rfl) (Nat.le_refl _) (c_startQuiet (hHas_sub nd (as' := [b + 29, b + 30, ql]) (cs' := [(oC 0 [.ref (b + 30), .ref q2, .int c2, .int t.2.1, .int t.2.2]), (aI 3 t.1), (oC 3 [.ref qf, .int nm, .int (nI L.1), .int L.2.2.1, .int nz, .int L.2.2.2])]) [3, 4, 5] rfl rfl) (nd_sub nd (as' := [b + 29, b + 30, ql]) [3, 4, 5] rfl rfl)  ?_)
  refine w_heq (hUs_in nd rfl [3, 4, 5] (cs2 := [(oC 9 [.ref (b + 1), .ref (b + 14), .ref (b + 17), .ref (b + 19), .ref (b + 25), .ref (b + 29), .ref (b + 33), .ref pp, .int ht, .int (nI tp), .int sd, .int fa, .int pl, .int tr]), (oC 0 [.ref (b + 26), .ref ql, .int 0, .int cS0.2.1, .int cS0.2.2]), (aI 3 cS0.1), (oC 0 [.ref (b + 30), .ref ql, .int 0, .int 1, .int 0]), (aI 3 (fun _ => 0)), (oC 3 [.ref qf, .int nm, .int (nI L.1), .int L.2.2.1, .int nz, .int L.2.2.2]), (aI 3 L.2.1)]) rfl rfl) ?_
  refine w_heq (show _ = hUs h [b, b + 25, b + 26, b + 29, b + 30, ql, qf] [(oC 9 [.ref (b + 1), .ref (b + 14), .ref (b + 17), .ref (b + 19), .ref (b + 25), .ref (b + 29), .ref (b + 33), .ref pp, .int ht, .int (nI tp), .int sd, .int fa, .int pl, .int tr]), (oC 0 [.ref (b + 26), .ref ql, .int 0, .int cS0.2.1, .int cS0.2.2]), (aI 3 cS0.1), (oC 0 [.ref (b + 30), .ref ql, .int 0, .int cS0.2.1, .int cS0.2.2]), (aI 3 cS0.1), (oC 3 [.ref qf, .int nm, .int (nI L.1), .int L.2.2.1, .int nz, .int L.2.2.2]), (aI 3 L.2.1)] from rfl) ?_
  refine w_aload_n dX9_clocksAhead_16 rfl ?_
  refine w_get (v := .ref (b + 29)) fX9_44 (hUs_at nd 0 rfl rfl) rfl dX9_clocksAhead_17 ?_
  refine w_iload_n dX9_clocksAhead_20 rfl ?_
  refine w_iload_n dX9_clocksAhead_21 rfl ?_
  refine w_callV (ci := 0) (d' := d + 3) (mc' := 0) (ms' := 0) (As := [.int v, .int (nI N)]) (st := []) lX9_252 vX0_clockOften rfl (hUs_at nd 3 rfl rfl) rfl (Nat.le_of_ble_eq_true rfl) dX9_clocksAhead_22 (Nat.le_of_ble_eq_true rfl) (Nat.le_of_ble_eq_true rfl) (Nat.le_refl _) (c_clockOften (hHas_sub nd (as' := [b + 29, b + 30, ql, qf]) (cs' := [(oC 0 [.ref (b + 30), .ref ql, .int 0, .int cS0.2.1, .int cS0.2.2]), (aI 3 cS0.1), (oC 3 [.ref qf, .int nm, .int (nI L.1), .int L.2.2.1, .int nz, .int L.2.2.2]), (aI 3 L.2.1)]) [3, 4, 5, 6] rfl rfl) (nd_sub nd (as' := [b + 29, b + 30, ql, qf]) [3, 4, 5, 6] rfl rfl) hn (by omega) ?_)
  refine w_heq (hUs_in nd rfl [3, 4, 5, 6] (cs2 := [(oC 9 [.ref (b + 1), .ref (b + 14), .ref (b + 17), .ref (b + 19), .ref (b + 25), .ref (b + 29), .ref (b + 33), .ref pp, .int ht, .int (nI tp), .int sd, .int fa, .int pl, .int tr]), (oC 0 [.ref (b + 26), .ref ql, .int 0, .int cS0.2.1, .int cS0.2.2]), (aI 3 cS0.1), (oC 0 [.ref (b + 30), .ref ql, .int 0, .int (cItr L 0 v N cS0).2.1, .int (cItr L 0 v N cS0).2.2]), (aI 3 (cItr L 0 v N cS0).1), (oC 3 [.ref qf, .int nm, .int (nI L.1), .int L.2.2.1, .int nz, .int L.2.2.2]), (aI 3 L.2.1)]) rfl rfl) ?_
  refine w_iconst (v := (nI 0)) dX9_clocksAhead_25 (by decide) ?_
  refine w_istore (ls2 := [some (.ref b), some (.ref ql), some (.int v), some (.int (nI N)), some (.int (nI 0))]) dX9_clocksAhead_26 (by decide) rfl rfl ?_
  exact l_ca nd hn 3000 0 _ _ rfl k
set_option maxRecDepth 100000 in
set_option maxHeartbeats 4000000 in
theorem l_su {G : wG} {d : Nat} {h : hH} {Q : Option Value → hH → Prop} {b pp tp : Nat} {ht sd fa pl tr : Int32} {ql qf : Nat} {nm nz : Int32} {L : lP} {v : Int32} (nd : [b, b + 25, b + 26, ql, qf].Nodup) (hn : L.1 ≤ 3) : ∀ (n : Nat) (i : Nat) (s : cS), i + n = 1000 → (∀ s2 : cS, Q (some (.int (if (suF L v n s).2.2 = 0 then 1 else 0))) (hUs h [b, b + 25, b + 26, ql, qf] [(oC 9 [.ref (b + 1), .ref (b + 14), .ref (b + 17), .ref (b + 19), .ref (b + 25), .ref (b + 29), .ref (b + 33), .ref pp, .int ht, .int (nI tp), .int sd, .int fa, .int pl, .int tr]), (oC 0 [.ref (b + 26), .ref ql, .int 0, .int s2.2.1, .int s2.2.2]), (aI 3 s2.1), (oC 3 [.ref qf, .int nm, .int (nI L.1), .int L.2.2.1, .int nz, .int L.2.2.2]), (aI 3 L.2.1)])) → WP G RX9 cX9_staysUnclipped 4 (some .boolean) false (d + 3) 0 0 0 0 Q 10 [some (.ref b), some (.ref ql), some (.int v), some (.int (nI i))] [] (hUs h [b, b + 25, b + 26, ql, qf] [(oC 9 [.ref (b + 1), .ref (b + 14), .ref (b + 17), .ref (b + 19), .ref (b + 25), .ref (b + 29), .ref (b + 33), .ref pp, .int ht, .int (nI tp), .int sd, .int fa, .int pl, .int tr]), (oC 0 [.ref (b + 26), .ref ql, .int 0, .int s.2.1, .int s.2.2]), (aI 3 s.1), (oC 3 [.ref qf, .int nm, .int (nI L.1), .int L.2.2.1, .int nz, .int L.2.2.2]), (aI 3 L.2.1)]) := by
  intro n
  induction n with
  | zero =>
    intro i s hi k
    refine w_iload_n dX9_staysUnclipped_10 rfl ?_
    refine w_sipush (v := 1000) dX9_staysUnclipped_11 (by decide) ?_
    refine w_icmp_ge_t (tgt := 42) dX9_staysUnclipped_14 rfl ((nI_leI (a := 1000) (b := i) (by omega) (by omega)).mpr (by omega)) ?_
    refine w_aload_n dX9_staysUnclipped_42 rfl ?_
    refine w_get (v := .ref (b + 25)) fX9_40 (hUs_at nd 0 rfl rfl) rfl dX9_staysUnclipped_43 ?_
    refine w_get (v := .int s.2.2) fX9_311 (hUs_at nd 1 rfl rfl) rfl dX9_staysUnclipped_46 ?_
    refine w_if_ne (tgt := 56) dX9_staysUnclipped_49 rfl (fun b49 => ?_) (fun b49 => ?_)
    · refine w_iconst (v := 0) dX9_staysUnclipped_56 (by decide) ?_
      refine w_zreturn rfl dX9_staysUnclipped_57 rfl (Nat.le_of_ble_eq_true rfl) (Nat.le_of_ble_eq_true rfl) ?_
      rw [suF, if_neg b49] at k
      exact k _
    · refine w_iconst (v := 1) dX9_staysUnclipped_52 (by decide) ?_
      refine w_goto (tgt := 57) dX9_staysUnclipped_53 rfl ?_
      refine w_zreturn rfl dX9_staysUnclipped_57 rfl (Nat.le_of_ble_eq_true rfl) (Nat.le_of_ble_eq_true rfl) ?_
      rw [suF, if_pos b49] at k
      exact k _
  | succ n ih =>
    intro i s hi k
    refine w_iload_n dX9_staysUnclipped_10 rfl ?_
    refine w_sipush (v := 1000) dX9_staysUnclipped_11 (by decide) ?_
    refine w_icmp_ge_f (tgt := 42) dX9_staysUnclipped_14 rfl (fun z => absurd ((nI_leI (a := 1000) (b := i) (by omega) (by omega)).mp z) (by omega)) ?_
    refine w_aload_n dX9_staysUnclipped_17 rfl ?_
    refine w_get (v := .ref (b + 25)) fX9_40 (hUs_at nd 0 rfl rfl) rfl dX9_staysUnclipped_18 ?_
    refine w_get (v := .int s.2.2) fX9_311 (hUs_at nd 1 rfl rfl) rfl dX9_staysUnclipped_21 ?_
    refine w_if_ne (tgt := 42) dX9_staysUnclipped_24 rfl (fun b24 => ?_) (fun b24 => ?_)
    · refine w_aload_n dX9_staysUnclipped_42 rfl ?_
      refine w_get (v := .ref (b + 25)) fX9_40 (hUs_at nd 0 rfl rfl) rfl dX9_staysUnclipped_43 ?_
      refine w_get (v := .int s.2.2) fX9_311 (hUs_at nd 1 rfl rfl) rfl dX9_staysUnclipped_46 ?_
      refine w_if_ne_t (tgt := 56) dX9_staysUnclipped_49 rfl b24 ?_
      refine w_iconst (v := 0) dX9_staysUnclipped_56 (by decide) ?_
      refine w_zreturn rfl dX9_staysUnclipped_57 rfl (Nat.le_of_ble_eq_true rfl) (Nat.le_of_ble_eq_true rfl) ?_
      rw [suF, if_neg b24, if_neg b24] at k
      exact k _
    · refine w_aload_n dX9_staysUnclipped_27 rfl ?_
      refine w_get (v := .ref (b + 25)) fX9_40 (hUs_at nd 0 rfl rfl) rfl dX9_staysUnclipped_28 ?_
      refine w_iload_n dX9_staysUnclipped_31 rfl ?_
      refine w_callV (ci := 0) (d' := d + 2) (mc' := 0) (ms' := 0) (As := [.int v]) (st := []) lX9_273 vX0_clock rfl (hUs_at nd 1 rfl rfl) rfl (Nat.le_of_ble_eq_true rfl) dX9_staysUnclipped_32 (Nat.le_of_ble_eq_true rfl) (Nat.le_of_ble_eq_true rfl) (Nat.le_refl _) (c_clock (hHas_sub nd (as' := [b + 25, b + 26, ql, qf]) (cs' := [(oC 0 [.ref (b + 26), .ref ql, .int 0, .int s.2.1, .int s.2.2]), (aI 3 s.1), (oC 3 [.ref qf, .int nm, .int (nI L.1), .int L.2.2.1, .int nz, .int L.2.2.2]), (aI 3 L.2.1)]) [1, 2, 3, 4] rfl rfl) (nd_sub nd (as' := [b + 25, b + 26, ql, qf]) [1, 2, 3, 4] rfl rfl) hn ?_)
      refine w_heq (hUs_in nd rfl [1, 2, 3, 4] (cs2 := [(oC 9 [.ref (b + 1), .ref (b + 14), .ref (b + 17), .ref (b + 19), .ref (b + 25), .ref (b + 29), .ref (b + 33), .ref pp, .int ht, .int (nI tp), .int sd, .int fa, .int pl, .int tr]), (oC 0 [.ref (b + 26), .ref ql, .int 0, .int (cStp L 0 v s).2.1, .int (cStp L 0 v s).2.2]), (aI 3 (cStp L 0 v s).1), (oC 3 [.ref qf, .int nm, .int (nI L.1), .int L.2.2.1, .int nz, .int L.2.2.2]), (aI 3 L.2.1)]) rfl rfl) ?_
      refine w_pop dX9_staysUnclipped_35 rfl ?_
      refine w_iinc (v := nI (i + 1)) (ls2 := [some (.ref b), some (.ref ql), some (.int v), some (.int (nI (i + 1)))]) dX9_staysUnclipped_36 rfl (nI_1 _) (by decide) rfl rfl ?_
      refine w_goto (tgt := 10) dX9_staysUnclipped_39 rfl ?_
      rw [suF, if_pos b24] at k
      exact ih (i + 1) _ (by omega) k
set_option maxRecDepth 100000 in
set_option maxHeartbeats 4000000 in
theorem c_staysUnclipped {G : wG} {d : Nat} {h : hH} {Q : Option Value → hH → Prop} {b pp tp : Nat} {ht sd fa pl tr : Int32} {ql qf : Nat} {nm nz : Int32} {L : lP} {v c1 : Int32} {q1 : Nat} {s : cS} (hw : hHas h [b, b + 25, b + 26, ql, qf] [(oC 9 [.ref (b + 1), .ref (b + 14), .ref (b + 17), .ref (b + 19), .ref (b + 25), .ref (b + 29), .ref (b + 33), .ref pp, .int ht, .int (nI tp), .int sd, .int fa, .int pl, .int tr]), (oC 0 [.ref (b + 26), .ref q1, .int c1, .int s.2.1, .int s.2.2]), (aI 3 s.1), (oC 3 [.ref qf, .int nm, .int (nI L.1), .int L.2.2.1, .int nz, .int L.2.2.2]), (aI 3 L.2.1)]) (nd : [b, b + 25, b + 26, ql, qf].Nodup) (hn : L.1 ≤ 3) (k : ∀ s : cS, Q (some (.int (suB L v))) (hUs h [b, b + 25, b + 26, ql, qf] [(oC 9 [.ref (b + 1), .ref (b + 14), .ref (b + 17), .ref (b + 19), .ref (b + 25), .ref (b + 29), .ref (b + 33), .ref pp, .int ht, .int (nI tp), .int sd, .int fa, .int pl, .int tr]), (oC 0 [.ref (b + 26), .ref ql, .int 0, .int s.2.1, .int s.2.2]), (aI 3 s.1), (oC 3 [.ref qf, .int nm, .int (nI L.1), .int L.2.2.1, .int nz, .int L.2.2.2]), (aI 3 L.2.1)])) : Cl G yX9_staysUnclipped (d + 3) 0 0 [.ref b, .ref ql, .int v] h Q := by
  refine Cl.of (ini := false) kX9_staysUnclipped (plainFor_of_name (by decide)) (by decide) (Nat.le_of_ble_eq_true rfl) rfl rfl (fun z => by cases z) ?_
  refine w_heq (hUs_id hw).symm ?_
  refine w_aload_n dX9_staysUnclipped_0 rfl ?_
  refine w_get (v := .ref (b + 25)) fX9_40 (hUs_at nd 0 rfl rfl) rfl dX9_staysUnclipped_1 ?_
  refine w_aload_n dX9_staysUnclipped_4 rfl ?_
  refine w_callV (ci := 0) (d' := d + 2) (mc' := 0) (ms' := 0) (As := [.ref ql]) (st := []) lX9_248 vX0_startQuiet rfl (hUs_at nd 1 rfl rfl) rfl (Nat.le_of_ble_eq_true rfl) dX9_staysUnclipped_5 (Nat.le_of_ble_eq_true rfl) (Nat.le_of_ble_eq_true rfl) (Nat.le_refl _) (c_startQuiet (hHas_sub nd (as' := [b + 25, b + 26, ql]) (cs' := [(oC 0 [.ref (b + 26), .ref q1, .int c1, .int s.2.1, .int s.2.2]), (aI 3 s.1), (oC 3 [.ref qf, .int nm, .int (nI L.1), .int L.2.2.1, .int nz, .int L.2.2.2])]) [1, 2, 3] rfl rfl) (nd_sub nd (as' := [b + 25, b + 26, ql]) [1, 2, 3] rfl rfl)  ?_)
  refine w_heq (hUs_in nd rfl [1, 2, 3] (cs2 := [(oC 9 [.ref (b + 1), .ref (b + 14), .ref (b + 17), .ref (b + 19), .ref (b + 25), .ref (b + 29), .ref (b + 33), .ref pp, .int ht, .int (nI tp), .int sd, .int fa, .int pl, .int tr]), (oC 0 [.ref (b + 26), .ref ql, .int 0, .int 1, .int 0]), (aI 3 (fun _ => 0)), (oC 3 [.ref qf, .int nm, .int (nI L.1), .int L.2.2.1, .int nz, .int L.2.2.2]), (aI 3 L.2.1)]) rfl rfl) ?_
  refine w_heq (show _ = hUs h [b, b + 25, b + 26, ql, qf] [(oC 9 [.ref (b + 1), .ref (b + 14), .ref (b + 17), .ref (b + 19), .ref (b + 25), .ref (b + 29), .ref (b + 33), .ref pp, .int ht, .int (nI tp), .int sd, .int fa, .int pl, .int tr]), (oC 0 [.ref (b + 26), .ref ql, .int 0, .int cS0.2.1, .int cS0.2.2]), (aI 3 cS0.1), (oC 3 [.ref qf, .int nm, .int (nI L.1), .int L.2.2.1, .int nz, .int L.2.2.2]), (aI 3 L.2.1)] from rfl) ?_
  refine w_iconst (v := (nI 0)) dX9_staysUnclipped_8 (by decide) ?_
  refine w_istore_n (ls2 := [some (.ref b), some (.ref ql), some (.int v), some (.int (nI 0))]) dX9_staysUnclipped_9 (by decide) rfl rfl ?_
  exact l_su nd hn 1000 0 _ rfl k
set_option maxRecDepth 100000 in
set_option maxHeartbeats 4000000 in
theorem l_cyclesOf {G : wG} {d : Nat} {h : hH} {Q : Option Value → hH → Prop} {b pp tp : Nat} {ht sd fa pl tr : Int32} {ql qf : Nat} {nm nz : Int32} {L : lP} {fr sp un : Int32} {N : Nat} (nd : [b, b + 19, b + 20, b + 21, b + 24, ql, qf].Nodup) (hn : L.1 ≤ 3) (hN : N < 2 ^ 31) (k : ∀ f : fS, ∀ q0 : Nat, ∀ cn : Int32, Q (some (.int (fld (cyI L fr sp un) 0 N 0))) (hUs h [b, b + 19, b + 20, b + 21, b + 24, ql, qf] [(oC 9 [.ref (b + 1), .ref (b + 14), .ref (b + 17), .ref (b + 19), .ref (b + 25), .ref (b + 29), .ref (b + 33), .ref pp, .int ht, .int (nI tp), .int sd, .int fa, .int pl, .int tr]), (oC 1 [.ref (b + 20), .ref (b + 24), .int f.2.2.1.1, .int f.2.2.1.2.1, .int f.2.2.2.1, .int f.2.2.1.2.2.1, .int f.2.2.1.2.2.2.1, .int f.2.2.1.2.2.2.2.1, .int f.2.2.1.2.2.2.2.2]), (oC 0 [.ref (b + 21), .ref q0, .int cn, .int f.1.2.1, .int f.1.2.2]), (aI 3 f.1.1), (aI 3 f.2.1), (oC 3 [.ref qf, .int nm, .int (nI L.1), .int L.2.2.1, .int nz, .int L.2.2.2]), (aI 3 L.2.1)])) : ∀ (n : Nat) (i : Nat) (s : Int32) (f : fS) (q0 : Nat) (cn : Int32), i + n = N → s = fld (cyI L fr sp un) 0 i 0 → WP G RX9 cX9_cyclesOf 8 (some .int) false (d + 5) 0 0 0 0 Q 6 [some (.ref b), some (.ref ql), some (.int fr), some (.int sp), some (.int (nI N)), some (.int un), some (.int s), some (.int (nI i))] [] (hUs h [b, b + 19, b + 20, b + 21, b + 24, ql, qf] [(oC 9 [.ref (b + 1), .ref (b + 14), .ref (b + 17), .ref (b + 19), .ref (b + 25), .ref (b + 29), .ref (b + 33), .ref pp, .int ht, .int (nI tp), .int sd, .int fa, .int pl, .int tr]), (oC 1 [.ref (b + 20), .ref (b + 24), .int f.2.2.1.1, .int f.2.2.1.2.1, .int f.2.2.2.1, .int f.2.2.1.2.2.1, .int f.2.2.1.2.2.2.1, .int f.2.2.1.2.2.2.2.1, .int f.2.2.1.2.2.2.2.2]), (oC 0 [.ref (b + 21), .ref q0, .int cn, .int f.1.2.1, .int f.1.2.2]), (aI 3 f.1.1), (aI 3 f.2.1), (oC 3 [.ref qf, .int nm, .int (nI L.1), .int L.2.2.1, .int nz, .int L.2.2.2]), (aI 3 L.2.1)]) := by
  intro n
  induction n with
  | zero =>
    intro i s f q0 cn hi e
    refine w_iload dX9_cyclesOf_6 rfl ?_
    refine w_iload dX9_cyclesOf_8 rfl ?_
    refine w_icmp_ge_t (tgt := 54) dX9_cyclesOf_10 rfl ((nI_leI (a := N) (b := i) (by omega) (by omega)).mpr (by omega)) ?_
    refine w_iload dX9_cyclesOf_54 rfl ?_
    refine w_ireturn rfl dX9_cyclesOf_56 (Nat.le_of_ble_eq_true rfl) (Nat.le_of_ble_eq_true rfl) ?_
    have z : i = N := by omega
    subst z
    rw [← e] at k
    exact k _ _ _
  | succ n ih =>
    intro i s f q0 cn hi e
    refine w_iload dX9_cyclesOf_6 rfl ?_
    refine w_iload dX9_cyclesOf_8 rfl ?_
    refine w_icmp_ge_f (tgt := 54) dX9_cyclesOf_10 rfl (fun z => absurd ((nI_leI (a := N) (b := i) (by omega) (by omega)).mp z) (by omega)) ?_
    refine w_aload_n dX9_cyclesOf_13 rfl ?_
    refine w_get (v := .ref (b + 19)) fX9_33 (hUs_at nd 0 rfl rfl) rfl dX9_cyclesOf_14 ?_
    refine w_aload_n dX9_cyclesOf_17 rfl ?_
    refine w_iload_n dX9_cyclesOf_18 rfl ?_
    refine w_iload_n dX9_cyclesOf_19 rfl ?_
    refine w_iload dX9_cyclesOf_20 rfl ?_
    refine w_imul dX9_cyclesOf_22 ?_
    refine w_iadd dX9_cyclesOf_23 ?_
    refine w_callV (ci := 1) (d' := d + 4) (mc' := 0) (ms' := 0) (As := [.ref ql, .int (fr + (sp * (nI i)))]) (st := []) lX9_233 vX1_find rfl (hUs_at nd 1 rfl rfl) rfl (Nat.le_of_ble_eq_true rfl) dX9_cyclesOf_24 (Nat.le_of_ble_eq_true rfl) (Nat.le_of_ble_eq_true rfl) (Nat.le_refl _) (c_find0 (hHas_sub nd (as' := [b + 19, b + 20, b + 21, b + 24, ql, qf]) (cs' := [(oC 1 [.ref (b + 20), .ref (b + 24), .int f.2.2.1.1, .int f.2.2.1.2.1, .int f.2.2.2.1, .int f.2.2.1.2.2.1, .int f.2.2.1.2.2.2.1, .int f.2.2.1.2.2.2.2.1, .int f.2.2.1.2.2.2.2.2]), (oC 0 [.ref (b + 21), .ref q0, .int cn, .int f.1.2.1, .int f.1.2.2]), (aI 3 f.1.1), (aI 3 f.2.1), (oC 3 [.ref qf, .int nm, .int (nI L.1), .int L.2.2.1, .int nz, .int L.2.2.2]), (aI 3 L.2.1)]) [1, 2, 3, 4, 5, 6] rfl rfl) (nd_sub nd (as' := [b + 19, b + 20, b + 21, b + 24, ql, qf]) [1, 2, 3, 4, 5, 6] rfl rfl) hn (fun f24 g24 => ?_))
    refine w_heq (hUs_in nd rfl [1, 2, 3, 4, 5, 6] (cs2 := [(oC 9 [.ref (b + 1), .ref (b + 14), .ref (b + 17), .ref (b + 19), .ref (b + 25), .ref (b + 29), .ref (b + 33), .ref pp, .int ht, .int (nI tp), .int sd, .int fa, .int pl, .int tr]), (oC 1 [.ref (b + 20), .ref (b + 24), .int f24.2.2.1.1, .int f24.2.2.1.2.1, .int f24.2.2.2.1, .int f24.2.2.1.2.2.1, .int f24.2.2.1.2.2.2.1, .int f24.2.2.1.2.2.2.2.1, .int f24.2.2.1.2.2.2.2.2]), (oC 0 [.ref (b + 21), .ref ql, .int 0, .int f24.1.2.1, .int f24.1.2.2]), (aI 3 f24.1.1), (aI 3 f24.2.1), (oC 3 [.ref qf, .int nm, .int (nI L.1), .int L.2.2.1, .int nz, .int L.2.2.2]), (aI 3 L.2.1)]) rfl rfl) ?_
    refine w_if_eq (tgt := 48) dX9_cyclesOf_27 rfl (fun b27 => ?_) (fun b27 => ?_)
    · refine w_iinc (v := nI (i + 1)) (ls2 := [some (.ref b), some (.ref ql), some (.int fr), some (.int sp), some (.int (nI N)), some (.int un), some (.int s), some (.int (nI (i + 1)))]) dX9_cyclesOf_48 rfl (nI_1 _) (by decide) rfl rfl ?_
      refine w_goto (tgt := 6) dX9_cyclesOf_51 rfl ?_
      have e2 : cyI L fr sp un i s = s := by
        rw [cyI, if_pos b27]
      exact ih (i + 1) _ _ _ _ (by omega) (by rw [fld, Nat.zero_add, ← e, e2])
    · refine w_iload dX9_cyclesOf_30 rfl ?_
      refine w_if_eq (tgt := 45) dX9_cyclesOf_32 rfl (fun b32 => ?_) (fun b32 => ?_)
      · refine w_iinc (v := s + 1) (ls2 := [some (.ref b), some (.ref ql), some (.int fr), some (.int sp), some (.int (nI N)), some (.int un), some (.int (s + 1)), some (.int (nI i))]) dX9_cyclesOf_45 rfl rfl (by decide) rfl rfl ?_
        refine w_iinc (v := nI (i + 1)) (ls2 := [some (.ref b), some (.ref ql), some (.int fr), some (.int sp), some (.int (nI N)), some (.int un), some (.int (s + 1)), some (.int (nI (i + 1)))]) dX9_cyclesOf_48 rfl (nI_1 _) (by decide) rfl rfl ?_
        refine w_goto (tgt := 6) dX9_cyclesOf_51 rfl ?_
        have e2 : cyI L fr sp un i s = s + 1 := by
          rw [cyI, if_neg b27, if_pos b32]
        exact ih (i + 1) _ _ _ _ (by omega) (by rw [fld, Nat.zero_add, ← e, e2])
      · refine w_aload_n dX9_cyclesOf_35 rfl ?_
        refine w_get (v := .ref (b + 19)) fX9_33 (hUs_at nd 0 rfl rfl) rfl dX9_cyclesOf_36 ?_
        refine w_get (v := .int f24.2.2.2.1) fX9_308 (hUs_at nd 1 rfl rfl) rfl dX9_cyclesOf_39 ?_
        refine w_if_gt (tgt := 48) dX9_cyclesOf_42 rfl (fun b42 => ?_) (fun b42 => ?_)
        · refine w_iinc (v := nI (i + 1)) (ls2 := [some (.ref b), some (.ref ql), some (.int fr), some (.int sp), some (.int (nI N)), some (.int un), some (.int s), some (.int (nI (i + 1)))]) dX9_cyclesOf_48 rfl (nI_1 _) (by decide) rfl rfl ?_
          refine w_goto (tgt := 6) dX9_cyclesOf_51 rfl ?_
          have e2 : cyI L fr sp un i s = s := by
            rw [cyI, if_neg b27, if_neg b32, if_pos (by rw [← g24 (fndB_t b27)]; exact b42)]
          exact ih (i + 1) _ _ _ _ (by omega) (by rw [fld, Nat.zero_add, ← e, e2])
        · refine w_iinc (v := s + 1) (ls2 := [some (.ref b), some (.ref ql), some (.int fr), some (.int sp), some (.int (nI N)), some (.int un), some (.int (s + 1)), some (.int (nI i))]) dX9_cyclesOf_45 rfl rfl (by decide) rfl rfl ?_
          refine w_iinc (v := nI (i + 1)) (ls2 := [some (.ref b), some (.ref ql), some (.int fr), some (.int sp), some (.int (nI N)), some (.int un), some (.int (s + 1)), some (.int (nI (i + 1)))]) dX9_cyclesOf_48 rfl (nI_1 _) (by decide) rfl rfl ?_
          refine w_goto (tgt := 6) dX9_cyclesOf_51 rfl ?_
          have e2 : cyI L fr sp un i s = s + 1 := by
            rw [cyI, if_neg b27, if_neg b32, if_neg (by rw [← g24 (fndB_t b27)]; exact b42)]
          exact ih (i + 1) _ _ _ _ (by omega) (by rw [fld, Nat.zero_add, ← e, e2])
set_option maxRecDepth 100000 in
set_option maxHeartbeats 4000000 in
theorem c_cyclesOf {G : wG} {d : Nat} {h : hH} {Q : Option Value → hH → Prop} {b pp tp : Nat} {ht sd fa pl tr : Int32} {ql qf : Nat} {nm nz : Int32} {L : lP} {fr sp un : Int32} {N : Nat} {f : fS} {q0 : Nat} {cn : Int32} (hw : hHas h [b, b + 19, b + 20, b + 21, b + 24, ql, qf] [(oC 9 [.ref (b + 1), .ref (b + 14), .ref (b + 17), .ref (b + 19), .ref (b + 25), .ref (b + 29), .ref (b + 33), .ref pp, .int ht, .int (nI tp), .int sd, .int fa, .int pl, .int tr]), (oC 1 [.ref (b + 20), .ref (b + 24), .int f.2.2.1.1, .int f.2.2.1.2.1, .int f.2.2.2.1, .int f.2.2.1.2.2.1, .int f.2.2.1.2.2.2.1, .int f.2.2.1.2.2.2.2.1, .int f.2.2.1.2.2.2.2.2]), (oC 0 [.ref (b + 21), .ref q0, .int cn, .int f.1.2.1, .int f.1.2.2]), (aI 3 f.1.1), (aI 3 f.2.1), (oC 3 [.ref qf, .int nm, .int (nI L.1), .int L.2.2.1, .int nz, .int L.2.2.2]), (aI 3 L.2.1)]) (nd : [b, b + 19, b + 20, b + 21, b + 24, ql, qf].Nodup) (hn : L.1 ≤ 3) (hN : N < 2 ^ 31) (k : ∀ f : fS, ∀ q0 : Nat, ∀ cn : Int32, Q (some (.int (fld (cyI L fr sp un) 0 N 0))) (hUs h [b, b + 19, b + 20, b + 21, b + 24, ql, qf] [(oC 9 [.ref (b + 1), .ref (b + 14), .ref (b + 17), .ref (b + 19), .ref (b + 25), .ref (b + 29), .ref (b + 33), .ref pp, .int ht, .int (nI tp), .int sd, .int fa, .int pl, .int tr]), (oC 1 [.ref (b + 20), .ref (b + 24), .int f.2.2.1.1, .int f.2.2.1.2.1, .int f.2.2.2.1, .int f.2.2.1.2.2.1, .int f.2.2.1.2.2.2.1, .int f.2.2.1.2.2.2.2.1, .int f.2.2.1.2.2.2.2.2]), (oC 0 [.ref (b + 21), .ref q0, .int cn, .int f.1.2.1, .int f.1.2.2]), (aI 3 f.1.1), (aI 3 f.2.1), (oC 3 [.ref qf, .int nm, .int (nI L.1), .int L.2.2.1, .int nz, .int L.2.2.2]), (aI 3 L.2.1)])) : Cl G yX9_cyclesOf (d + 5) 0 0 [.ref b, .ref ql, .int fr, .int sp, .int (nI N), .int un] h Q := by
  refine Cl.of (ini := false) kX9_cyclesOf (plainFor_of_name (by decide)) (by decide) (Nat.le_of_ble_eq_true rfl) rfl rfl (fun z => by cases z) ?_
  refine w_heq (hUs_id hw).symm ?_
  refine w_iconst (v := 0) dX9_cyclesOf_0 (by decide) ?_
  refine w_istore (ls2 := [some (.ref b), some (.ref ql), some (.int fr), some (.int sp), some (.int (nI N)), some (.int un), some (.int 0), none]) dX9_cyclesOf_1 (by decide) rfl rfl ?_
  refine w_iconst (v := (nI 0)) dX9_cyclesOf_3 (by decide) ?_
  refine w_istore (ls2 := [some (.ref b), some (.ref ql), some (.int fr), some (.int sp), some (.int (nI N)), some (.int un), some (.int 0), some (.int (nI 0))]) dX9_cyclesOf_4 (by decide) rfl rfl ?_
  exact l_cyclesOf nd hn hN k N 0 0 _ _ _ (by omega) rfl
set_option maxRecDepth 100000 in
set_option maxHeartbeats 4000000 in
theorem l_longestOf {G : wG} {d : Nat} {h : hH} {Q : Option Value → hH → Prop} {b pp tp : Nat} {ht sd fa pl tr : Int32} {ql qf : Nat} {nm nz : Int32} {L : lP} {fr sp : Int32} {N : Nat} (nd : [b, b + 19, b + 20, b + 21, b + 24, ql, qf].Nodup) (hn : L.1 ≤ 3) (hN : N < 2 ^ 31) (k : ∀ f : fS, ∀ q0 : Nat, ∀ cn : Int32, Q (some (.int (fld (loI L fr sp) 0 N (0, -1000000000)).2)) (hUs h [b, b + 19, b + 20, b + 21, b + 24, ql, qf] [(oC 9 [.ref (b + 1), .ref (b + 14), .ref (b + 17), .ref (b + 19), .ref (b + 25), .ref (b + 29), .ref (b + 33), .ref pp, .int ht, .int (nI tp), .int sd, .int fa, .int pl, .int tr]), (oC 1 [.ref (b + 20), .ref (b + 24), .int f.2.2.1.1, .int f.2.2.1.2.1, .int f.2.2.2.1, .int f.2.2.1.2.2.1, .int f.2.2.1.2.2.2.1, .int f.2.2.1.2.2.2.2.1, .int f.2.2.1.2.2.2.2.2]), (oC 0 [.ref (b + 21), .ref q0, .int cn, .int f.1.2.1, .int f.1.2.2]), (aI 3 f.1.1), (aI 3 f.2.1), (oC 3 [.ref qf, .int nm, .int (nI L.1), .int L.2.2.1, .int nz, .int L.2.2.2]), (aI 3 L.2.1)])) : ∀ (n : Nat) (i : Nat) (s : Int32 × Int32) (f : fS) (q0 : Nat) (cn : Int32), i + n = N → s = fld (loI L fr sp) 0 i (0, -1000000000) → WP G RX9 cX9_longestOf 9 (some .int) false (d + 5) 0 0 0 0 Q 10 [some (.ref b), some (.ref ql), some (.int fr), some (.int sp), some (.int (nI N)), some (.int s.1), some (.int s.2), some (.int (nI i)), none] [] (hUs h [b, b + 19, b + 20, b + 21, b + 24, ql, qf] [(oC 9 [.ref (b + 1), .ref (b + 14), .ref (b + 17), .ref (b + 19), .ref (b + 25), .ref (b + 29), .ref (b + 33), .ref pp, .int ht, .int (nI tp), .int sd, .int fa, .int pl, .int tr]), (oC 1 [.ref (b + 20), .ref (b + 24), .int f.2.2.1.1, .int f.2.2.1.2.1, .int f.2.2.2.1, .int f.2.2.1.2.2.1, .int f.2.2.1.2.2.2.1, .int f.2.2.1.2.2.2.2.1, .int f.2.2.1.2.2.2.2.2]), (oC 0 [.ref (b + 21), .ref q0, .int cn, .int f.1.2.1, .int f.1.2.2]), (aI 3 f.1.1), (aI 3 f.2.1), (oC 3 [.ref qf, .int nm, .int (nI L.1), .int L.2.2.1, .int nz, .int L.2.2.2]), (aI 3 L.2.1)]) := by
  intro n
  induction n with
  | zero =>
    intro i s f q0 cn hi e
    refine w_iload dX9_longestOf_10 rfl ?_
    refine w_iload dX9_longestOf_12 rfl ?_
    refine w_icmp_ge_t (tgt := 69) dX9_longestOf_14 rfl ((nI_leI (a := N) (b := i) (by omega) (by omega)).mpr (by omega)) ?_
    refine w_iload dX9_longestOf_69 rfl ?_
    refine w_ireturn rfl dX9_longestOf_71 (Nat.le_of_ble_eq_true rfl) (Nat.le_of_ble_eq_true rfl) ?_
    have z : i = N := by omega
    subst z
    rw [← e] at k
    exact k _ _ _
  | succ n ih =>
    intro i s f q0 cn hi e
    refine w_iload dX9_longestOf_10 rfl ?_
    refine w_iload dX9_longestOf_12 rfl ?_
    refine w_icmp_ge_f (tgt := 69) dX9_longestOf_14 rfl (fun z => absurd ((nI_leI (a := N) (b := i) (by omega) (by omega)).mp z) (by omega)) ?_
    refine w_iload_n dX9_longestOf_17 rfl ?_
    refine w_iload_n dX9_longestOf_18 rfl ?_
    refine w_iload dX9_longestOf_19 rfl ?_
    refine w_imul dX9_longestOf_21 ?_
    refine w_iadd dX9_longestOf_22 ?_
    refine w_istore (ls2 := [some (.ref b), some (.ref ql), some (.int fr), some (.int sp), some (.int (nI N)), some (.int s.1), some (.int s.2), some (.int (nI i)), some (.int (fr + (sp * (nI i))))]) dX9_longestOf_23 (by decide) rfl rfl ?_
    refine w_aload_n dX9_longestOf_25 rfl ?_
    refine w_get (v := .ref (b + 19)) fX9_33 (hUs_at nd 0 rfl rfl) rfl dX9_longestOf_26 ?_
    refine w_aload_n dX9_longestOf_29 rfl ?_
    refine w_iload dX9_longestOf_30 rfl ?_
    refine w_callV (ci := 1) (d' := d + 4) (mc' := 0) (ms' := 0) (As := [.ref ql, .int (fr + (sp * (nI i)))]) (st := []) lX9_233 vX1_find rfl (hUs_at nd 1 rfl rfl) rfl (Nat.le_of_ble_eq_true rfl) dX9_longestOf_32 (Nat.le_of_ble_eq_true rfl) (Nat.le_of_ble_eq_true rfl) (Nat.le_refl _) (c_find0 (hHas_sub nd (as' := [b + 19, b + 20, b + 21, b + 24, ql, qf]) (cs' := [(oC 1 [.ref (b + 20), .ref (b + 24), .int f.2.2.1.1, .int f.2.2.1.2.1, .int f.2.2.2.1, .int f.2.2.1.2.2.1, .int f.2.2.1.2.2.2.1, .int f.2.2.1.2.2.2.2.1, .int f.2.2.1.2.2.2.2.2]), (oC 0 [.ref (b + 21), .ref q0, .int cn, .int f.1.2.1, .int f.1.2.2]), (aI 3 f.1.1), (aI 3 f.2.1), (oC 3 [.ref qf, .int nm, .int (nI L.1), .int L.2.2.1, .int nz, .int L.2.2.2]), (aI 3 L.2.1)]) [1, 2, 3, 4, 5, 6] rfl rfl) (nd_sub nd (as' := [b + 19, b + 20, b + 21, b + 24, ql, qf]) [1, 2, 3, 4, 5, 6] rfl rfl) hn (fun f32 g32 => ?_))
    refine w_heq (hUs_in nd rfl [1, 2, 3, 4, 5, 6] (cs2 := [(oC 9 [.ref (b + 1), .ref (b + 14), .ref (b + 17), .ref (b + 19), .ref (b + 25), .ref (b + 29), .ref (b + 33), .ref pp, .int ht, .int (nI tp), .int sd, .int fa, .int pl, .int tr]), (oC 1 [.ref (b + 20), .ref (b + 24), .int f32.2.2.1.1, .int f32.2.2.1.2.1, .int f32.2.2.2.1, .int f32.2.2.1.2.2.1, .int f32.2.2.1.2.2.2.1, .int f32.2.2.1.2.2.2.2.1, .int f32.2.2.1.2.2.2.2.2]), (oC 0 [.ref (b + 21), .ref ql, .int 0, .int f32.1.2.1, .int f32.1.2.2]), (aI 3 f32.1.1), (aI 3 f32.2.1), (oC 3 [.ref qf, .int nm, .int (nI L.1), .int L.2.2.1, .int nz, .int L.2.2.2]), (aI 3 L.2.1)]) rfl rfl) ?_
    refine w_if_eq (tgt := 63) dX9_longestOf_35 rfl (fun b35 => ?_) (fun b35 => ?_)
    · refine w_iinc (v := nI (i + 1)) (ls2 := [some (.ref b), some (.ref ql), some (.int fr), some (.int sp), some (.int (nI N)), some (.int s.1), some (.int s.2), some (.int (nI (i + 1))), some (.int (fr + (sp * (nI i))))]) dX9_longestOf_63 rfl (nI_1 _) (by decide) rfl rfl ?_
      refine w_goto (tgt := 10) dX9_longestOf_66 rfl ?_
      refine w_less (ls2 := [some (.ref b), some (.ref ql), some (.int fr), some (.int sp), some (.int (nI N)), some (.int s.1), some (.int s.2), some (.int (nI (i + 1))), none]) ⟨Or.inr rfl, Or.inr rfl, Or.inr rfl, Or.inr rfl, Or.inr rfl, Or.inr rfl, Or.inr rfl, Or.inr rfl, Or.inl rfl, trivial⟩ ?_
      have e2 : loI L fr sp i s = s := by
        rw [loI, if_pos b35]
      exact ih (i + 1) s _ _ _ (by omega) (by rw [fld, Nat.zero_add, ← e, e2])
    · refine w_aload_n dX9_longestOf_38 rfl ?_
      refine w_get (v := .ref (b + 19)) fX9_33 (hUs_at nd 0 rfl rfl) rfl dX9_longestOf_39 ?_
      refine w_get (v := .int f32.2.2.1.1) fX9_237 (hUs_at nd 1 rfl rfl) rfl dX9_longestOf_42 ?_
      refine w_iload dX9_longestOf_45 rfl ?_
      refine w_icmp_le (tgt := 63) dX9_longestOf_47 rfl (fun b47 => ?_) (fun b47 => ?_)
      · refine w_iinc (v := nI (i + 1)) (ls2 := [some (.ref b), some (.ref ql), some (.int fr), some (.int sp), some (.int (nI N)), some (.int s.1), some (.int s.2), some (.int (nI (i + 1))), some (.int (fr + (sp * (nI i))))]) dX9_longestOf_63 rfl (nI_1 _) (by decide) rfl rfl ?_
        refine w_goto (tgt := 10) dX9_longestOf_66 rfl ?_
        refine w_less (ls2 := [some (.ref b), some (.ref ql), some (.int fr), some (.int sp), some (.int (nI N)), some (.int s.1), some (.int s.2), some (.int (nI (i + 1))), none]) ⟨Or.inr rfl, Or.inr rfl, Or.inr rfl, Or.inr rfl, Or.inr rfl, Or.inr rfl, Or.inr rfl, Or.inr rfl, Or.inl rfl, trivial⟩ ?_
        have e2 : loI L fr sp i s = s := by
          rw [loI, if_neg b35, if_pos (by rw [← g32 (fndB_t b35)]; exact b47)]
        exact ih (i + 1) s _ _ _ (by omega) (by rw [fld, Nat.zero_add, ← e, e2])
      · refine w_aload_n dX9_longestOf_50 rfl ?_
        refine w_get (v := .ref (b + 19)) fX9_33 (hUs_at nd 0 rfl rfl) rfl dX9_longestOf_51 ?_
        refine w_get (v := .int f32.2.2.1.1) fX9_237 (hUs_at nd 1 rfl rfl) rfl dX9_longestOf_54 ?_
        refine w_istore (ls2 := [some (.ref b), some (.ref ql), some (.int fr), some (.int sp), some (.int (nI N)), some (.int f32.2.2.1.1), some (.int s.2), some (.int (nI i)), some (.int (fr + (sp * (nI i))))]) dX9_longestOf_57 (by decide) rfl rfl ?_
        refine w_iload dX9_longestOf_59 rfl ?_
        refine w_istore (ls2 := [some (.ref b), some (.ref ql), some (.int fr), some (.int sp), some (.int (nI N)), some (.int f32.2.2.1.1), some (.int (fr + (sp * (nI i)))), some (.int (nI i)), some (.int (fr + (sp * (nI i))))]) dX9_longestOf_61 (by decide) rfl rfl ?_
        refine w_iinc (v := nI (i + 1)) (ls2 := [some (.ref b), some (.ref ql), some (.int fr), some (.int sp), some (.int (nI N)), some (.int f32.2.2.1.1), some (.int (fr + (sp * (nI i)))), some (.int (nI (i + 1))), some (.int (fr + (sp * (nI i))))]) dX9_longestOf_63 rfl (nI_1 _) (by decide) rfl rfl ?_
        refine w_goto (tgt := 10) dX9_longestOf_66 rfl ?_
        refine w_less (ls2 := [some (.ref b), some (.ref ql), some (.int fr), some (.int sp), some (.int (nI N)), some (.int f32.2.2.1.1), some (.int (fr + (sp * (nI i)))), some (.int (nI (i + 1))), none]) ⟨Or.inr rfl, Or.inr rfl, Or.inr rfl, Or.inr rfl, Or.inr rfl, Or.inr rfl, Or.inr rfl, Or.inr rfl, Or.inl rfl, trivial⟩ ?_
        have e2 : loI L fr sp i s = (f32.2.2.1.1, fr + (sp * (nI i))) := by
          rw [loI, if_neg b35, if_neg (by rw [← g32 (fndB_t b35)]; exact b47), ← g32 (fndB_t b35)]
        exact ih (i + 1) (f32.2.2.1.1, fr + (sp * (nI i))) _ _ _ (by omega) (by rw [fld, Nat.zero_add, ← e, e2])
set_option maxRecDepth 100000 in
set_option maxHeartbeats 4000000 in
theorem c_longestOf {G : wG} {d : Nat} {h : hH} {Q : Option Value → hH → Prop} {b pp tp : Nat} {ht sd fa pl tr : Int32} {ql qf : Nat} {nm nz : Int32} {L : lP} {fr sp : Int32} {N : Nat} {f : fS} {q0 : Nat} {cn : Int32} (hw : hHas h [b, b + 19, b + 20, b + 21, b + 24, ql, qf] [(oC 9 [.ref (b + 1), .ref (b + 14), .ref (b + 17), .ref (b + 19), .ref (b + 25), .ref (b + 29), .ref (b + 33), .ref pp, .int ht, .int (nI tp), .int sd, .int fa, .int pl, .int tr]), (oC 1 [.ref (b + 20), .ref (b + 24), .int f.2.2.1.1, .int f.2.2.1.2.1, .int f.2.2.2.1, .int f.2.2.1.2.2.1, .int f.2.2.1.2.2.2.1, .int f.2.2.1.2.2.2.2.1, .int f.2.2.1.2.2.2.2.2]), (oC 0 [.ref (b + 21), .ref q0, .int cn, .int f.1.2.1, .int f.1.2.2]), (aI 3 f.1.1), (aI 3 f.2.1), (oC 3 [.ref qf, .int nm, .int (nI L.1), .int L.2.2.1, .int nz, .int L.2.2.2]), (aI 3 L.2.1)]) (nd : [b, b + 19, b + 20, b + 21, b + 24, ql, qf].Nodup) (hn : L.1 ≤ 3) (hN : N < 2 ^ 31) (k : ∀ f : fS, ∀ q0 : Nat, ∀ cn : Int32, Q (some (.int (fld (loI L fr sp) 0 N (0, -1000000000)).2)) (hUs h [b, b + 19, b + 20, b + 21, b + 24, ql, qf] [(oC 9 [.ref (b + 1), .ref (b + 14), .ref (b + 17), .ref (b + 19), .ref (b + 25), .ref (b + 29), .ref (b + 33), .ref pp, .int ht, .int (nI tp), .int sd, .int fa, .int pl, .int tr]), (oC 1 [.ref (b + 20), .ref (b + 24), .int f.2.2.1.1, .int f.2.2.1.2.1, .int f.2.2.2.1, .int f.2.2.1.2.2.1, .int f.2.2.1.2.2.2.1, .int f.2.2.1.2.2.2.2.1, .int f.2.2.1.2.2.2.2.2]), (oC 0 [.ref (b + 21), .ref q0, .int cn, .int f.1.2.1, .int f.1.2.2]), (aI 3 f.1.1), (aI 3 f.2.1), (oC 3 [.ref qf, .int nm, .int (nI L.1), .int L.2.2.1, .int nz, .int L.2.2.2]), (aI 3 L.2.1)])) : Cl G yX9_longestOf (d + 5) 0 0 [.ref b, .ref ql, .int fr, .int sp, .int (nI N)] h Q := by
  refine Cl.of (ini := false) kX9_longestOf (plainFor_of_name (by decide)) (by decide) (Nat.le_of_ble_eq_true rfl) rfl rfl (fun z => by cases z) ?_
  refine w_heq (hUs_id hw).symm ?_
  refine w_iconst (v := 0) dX9_longestOf_0 (by decide) ?_
  refine w_istore (ls2 := [some (.ref b), some (.ref ql), some (.int fr), some (.int sp), some (.int (nI N)), some (.int 0), none, none, none]) dX9_longestOf_1 (by decide) rfl rfl ?_
  refine w_ldc nX9_120 dX9_longestOf_3 ?_
  refine w_istore (ls2 := [some (.ref b), some (.ref ql), some (.int fr), some (.int sp), some (.int (nI N)), some (.int 0), some (.int (-1000000000)), none, none]) dX9_longestOf_5 (by decide) rfl rfl ?_
  refine w_iconst (v := (nI 0)) dX9_longestOf_7 (by decide) ?_
  refine w_istore (ls2 := [some (.ref b), some (.ref ql), some (.int fr), some (.int sp), some (.int (nI N)), some (.int 0), some (.int (-1000000000)), some (.int (nI 0)), none]) dX9_longestOf_8 (by decide) rfl rfl ?_
  exact l_longestOf nd hn hN k N 0 (0, -1000000000) _ _ _ (by omega) rfl
