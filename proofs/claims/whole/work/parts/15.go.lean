theorem tw_acl : Cond.methodLink RX1 60 arraycopyName ∈ lw_tbl := tq 879 (by decide +kernel)
theorem tw_acs : Cond.static arraycopyName ∈ lw_tbl := tq 880 (by decide +kernel)
theorem tw_acn : Cond.native arraycopyName ∈ lw_tbl := tq 881 (by decide +kernel)
theorem tw_sys : Cond.initialized "java/lang/System" ∈ lw_tbl := tq 18 (by decide +kernel)
set_option maxHeartbeats 4000000 in
theorem w_copy3 {G : wG} {cc : ByteArray} {nL : Nat} {ret : Option FieldType} {ini : Bool} {d mc ms cells slots : Nat} {Q : Option Value → hH → Prop} {pc : Nat} {ls : List (Option Value)} {h : hH} {a0 a1 : Nat} {f g : Nat → Int32} (hq0 : h.1 a0 = some (aI 3 f)) (hq1 : h.1 a1 = some (aI 3 g)) (hd : decode cc pc = .ok (.invokestatic 60, 3))
    (kk : WP G RX1 cc nL ret ini (d + 1) mc ms cells slots Q (pc + 3) ls [] (hU h a1 (aI 3 f))) : WP G RX1 cc nL ret ini (d + 1) mc ms cells slots Q pc ls [.int 3, .int 0, .ref a1, .int 0, .ref a0] h := by
  intro p e s m args below meth c H locs lsA h1 h2 h3 h4 h5 h6 h7 h8 h9 h10
  obtain ⟨-, hts, -, -, hb0, -, D, hK, hcell⟩ := id h8
  obtain ⟨c0, u1, u2, hc0⟩ := hcell a0 _ hq0
  obtain ⟨c1, v1, v2, hc1⟩ := hcell a1 _ hq1
  have hnw : nativeFrameWords "java/lang/System" "arraycopy" 5 + 11 ≤ 37 := by decide +kernel
  intro T hT X
  obtain ⟨-, k0, hk0, cm0, hkk0⟩ := u1 3 (fun j => .int (f j))
  obtain ⟨-, k1, hk1, cm1, hkk1⟩ := v1 3 (fun j => .int (g j))
  obtain ⟨vm', X', step⟩ := X.arraycopy h1 h5 (hts.at tw_acl rfl rfl) (hts.at tw_acn rfl rfl) (hts.at tw_acs rfl rfl) (hts.at tw_sys rfl rfl) (src := a0) (dst := a1) (cs := vp_cell c0 (3, .inl f)) (cd := vp_cell c1 (3, .inl g)) (srcPos := 0) (destPos := 0) (n := 3) (by rw [hT]; exact hc0) (by rw [hT]; exact hc1)
    (fun _ h => by cases h) (fun _ h => by cases h) (fun h => by cases h) (fun h => by cases h) hk0 hk1 hkk0 hkk1 (by simp [refKind]) (by decide) (by decide) (by decide)
    (by show ¬ _ > ((arrV c0 3 (fun j => .int (f j))).slots.size : Int); rw [arrV_size]; decide)
    (by show ¬ _ > ((arrV c1 3 (fun j => .int (g j))).slots.size : Int); rw [arrV_size]; decide)
    (fun vm₁ _ i hi => by
      have hi3 : i < 3 := hi
      have e : (vp_cell c0 (3, .inl f)).slots.getD ((0 : Int32).toNatClampNeg + i) .null = .int (f ((0 : Int32).toNatClampNeg + i)) := by
        show (arrV c0 3 (fun j => .int (f j))).slots.getD _ _ = _
        rw [Array.getD_eq_getD_getElem?, arrV_read _ _ (by show 0 + i < 3; omega)]
        rfl
      refine ⟨?_, ?_⟩
      · rw [e]
        rfl
      · rw [e]
        exact trivial)
    (g := F0 m pc lsA [.int 3, .int 0, .ref a1, .int 0, .ref a0]) rfl (by rw [h4]; exact h10.1) (rest := []) rfl (by rw [h2]; exact hd) (by show 1 ≤ d + 1; omega) (by show 2 * 0 + 0 + (nativeFrameWords "java/lang/System" "arraycopy" 5 + 11) ≤ 37 * (d + 1); omega)
  have e1 : copied (vp_cell c0 (3, .inl f)) (vp_cell c1 (3, .inl g)) 0 0 3 = vp_cell c1 (3, .inl f) := by
    refine Eq.trans (b := vp_cell c1 (3, .inl (va_cpy f g (0 : Int32).toNatClampNeg (0 : Int32).toNatClampNeg (3 : Int32).toNatClampNeg))) (va_copied (fun z => .int z) c0 c1 f g (show (0 : Int32).toNatClampNeg + (3 : Int32).toNatClampNeg ≤ 3 by decide)) ?_
    exact vp_cell_ext (fun j hj => by
      show (if 0 ≤ j ∧ j < 0 + 3 then f (0 + (j - 0)) else g j) = f j
      rw [if_pos (by omega)]
      congr 1
      omega)
  rw [e1] at X' step
  have hl : a1 < H.size := (Array.getElem?_eq_some_iff.mp hc1).1
  have hheap : ((T.setVm vm').setCell a1 (vp_cell c1 (3, .inl f))).heap = H.setIfInBounds a1 (vp_cell c1 (3, .inl f)) := by rw [← hT]; rfl
  have oq : ∀ q : Nat, q ≠ a1 → (H.setIfInBounds a1 (vp_cell c1 (3, .inl f)))[q]? = H[q]? := fun q hq => by simp [Array.getElem?_setIfInBounds, Ne.symm hq]
  have hz : (H.setIfInBounds a1 (vp_cell c1 (3, .inl f))).size = H.size := by simp
  obtain ⟨t, b1, b2⟩ := kk p e s m args below meth c _ _ lsA h1 h2 h3 h4 h5 h6 h7 (h8.put hq1 hz oq (fun D' hK' hc' => ⟨c1, v1, v2, by simp [Array.getElem?_setIfInBounds, hl]⟩)) ⟨by rw [hz]; exact h9.1, fun q g1 g2 => by
      rw [oq q (fun z => g2 (by rw [z]; exact hb0 a1 _ hq1))]
      exact h9.2.1 q g1 g2, fun q hq => by
      rcases List.mem_append.mp hq with z | z
      · exact h9.2.2 q z
      · obtain ⟨w, -, hw⟩ := List.mem_map.mp z
        rw [← hw]
        exact hb0 a1 _ hq1⟩ h10 _ hheap X'
  exact ⟨t, step t b1, b2⟩
set_option maxRecDepth 100000 in
set_option maxHeartbeats 4000000 in
theorem l_go {G : wG} {d : Nat} {h : hH} {Q : Option Value → hH → Prop} {q qc qo qg qz qw : Nat} {go ln wn sd : Int32} {c : Nat} {qs ql qf qk qa qb qn : Nat} {nm nz wm : Int32} {r : rQ} {fo fg : Nat → Int32} {N : Nat} (nd : [q, qc, qs, ql, qf, qw, qk, qa, qb, qn, qo, qg, qz].Nodup) (hn : r.1.1 ≤ 3) (hP : r.2.2.1.2.2.2.2.1 ≤ 8) (hc : r.2.2.1.2.2.2.2.2 < 2 ^ 31) (hN : c + N ≤ 4096) (k : Q (some (.int (fld (fun t s => s + rO r t) c (N) 0))) (hUs h [q, qc, qs, ql, qf, qw, qk, qa, qb, qn, qo, qg, qz] [(oC 6 [.ref qc, .ref qo, .ref qg, .ref qz, .ref qw, .int go, .int ln, .int wn, .int sd, .int (nI (c + N))]), (oC 0 [.ref qs, .ref ql, .int r.2.1, .int ((rS r (c + N)).2.1), .int ((rS r (c + N)).2.2)]), (aI 3 ((rS r (c + N)).1)), (oC 3 [.ref qf, .int nm, .int (nI r.1.1), .int r.1.2.2.1, .int nz, .int r.1.2.2.2]), (aI 3 r.1.2.1), (oC 7 [.ref qk, .ref qa, .ref qb, .ref qn, .int wm, .int (nI r.2.2.1.2.2.2.2.1), .int (nI r.2.2.1.2.2.2.2.2)]), (aI 8 r.2.2.1.1), (aI 8 r.2.2.1.2.1), (aI 8 r.2.2.1.2.2.1), (aI 8 r.2.2.1.2.2.2.1), (aB 4096 (putF fo (rO r) c N)), (aI 4096 (putF fg (rG r) c N)), (aI 3 (rZ r (c + N)))])) : ∀ (n : Nat) (i : Nat) (x : Int32), i + n = N → x = (fld (fun t s => s + rO r t) c (i) 0) → WP G RX6 cX6_go 6 (some .int) false (d + 3) 0 0 0 0 Q 4 [some (.ref q), some (.int (nI N)), some (.int x), some (.int (nI i)), none, none] [] (hUs h [q, qc, qs, ql, qf, qw, qk, qa, qb, qn, qo, qg, qz] [(oC 6 [.ref qc, .ref qo, .ref qg, .ref qz, .ref qw, .int go, .int ln, .int wn, .int sd, .int (nI (c + i))]), (oC 0 [.ref qs, .ref ql, .int r.2.1, .int ((rS r (c + i)).2.1), .int ((rS r (c + i)).2.2)]), (aI 3 ((rS r (c + i)).1)), (oC 3 [.ref qf, .int nm, .int (nI r.1.1), .int r.1.2.2.1, .int nz, .int r.1.2.2.2]), (aI 3 r.1.2.1), (oC 7 [.ref qk, .ref qa, .ref qb, .ref qn, .int wm, .int (nI r.2.2.1.2.2.2.2.1), .int (nI r.2.2.1.2.2.2.2.2)]), (aI 8 r.2.2.1.1), (aI 8 r.2.2.1.2.1), (aI 8 r.2.2.1.2.2.1), (aI 8 r.2.2.1.2.2.2.1), (aB 4096 (putF fo (rO r) c i)), (aI 4096 (putF fg (rG r) c i)), (aI 3 (rZ r (c + i)))]) := by
  intro n
  induction n with
  | zero =>
    intro i x hi e
    refine w_iload_n dX6_go_4 rfl ?_
    refine w_iload_n dX6_go_5 rfl ?_
    refine w_icmp_ge_t (tgt := 98) dX6_go_6 rfl ((nI_leI (a := N) (b := i) (by omega) (by omega)).mpr (by omega)) ?_
    refine w_iload_n dX6_go_98 rfl ?_
    refine w_ireturn rfl dX6_go_99 (Nat.le_of_ble_eq_true rfl) (Nat.le_of_ble_eq_true rfl) ?_
    have z : i = N := by omega
    subst z
    rw [← e] at k
    exact k
  | succ n ih =>
    intro i x hi e
    refine w_iload_n dX6_go_4 rfl ?_
    refine w_iload_n dX6_go_5 rfl ?_
    refine w_icmp_ge_f (tgt := 98) dX6_go_6 rfl (fun z => absurd ((nI_leI (a := N) (b := i) (by omega) (by omega)).mp z) (by omega)) ?_
    refine w_aload_n dX6_go_9 rfl ?_
    refine w_get (v := .int (nI (c + i))) fX6_60 (hUs_at nd 0 rfl rfl) rfl dX6_go_10 ?_
    refine w_sipush (v := 4096) dX6_go_13 (by decide) ?_
    refine w_icmp_ge_f (tgt := 98) dX6_go_16 rfl (fun z => absurd ((nI_leI (a := 4096) (b := (c + i)) (by omega) (by omega)).mp z) (by omega)) ?_
    refine w_aload_n dX6_go_19 rfl ?_
    refine w_get (v := .ref qw) fX6_32 (hUs_at nd 0 rfl rfl) rfl dX6_go_20 ?_
    refine w_aload_n dX6_go_23 rfl ?_
    refine w_get (v := .int (nI (c + i))) fX6_60 (hUs_at nd 0 rfl rfl) rfl dX6_go_24 ?_
    refine w_callV (ci := 7) (d' := d + 2) (mc' := 0) (ms' := 0) (As := [.int (nI (c + i))]) (st := []) lX6_73 vX7_levelAt rfl (hUs_at nd 5 rfl rfl) rfl (Nat.le_of_ble_eq_true rfl) dX6_go_27 (Nat.le_of_ble_eq_true rfl) (Nat.le_of_ble_eq_true rfl) (Nat.le_refl _) (c_levelAt (hHas_sub nd (as' := [qw, qk, qa, qb, qn]) (cs' := [(oC 7 [.ref qk, .ref qa, .ref qb, .ref qn, .int wm, .int (nI r.2.2.1.2.2.2.2.1), .int (nI r.2.2.1.2.2.2.2.2)]), (aI 8 r.2.2.1.1), (aI 8 r.2.2.1.2.1), (aI 8 r.2.2.1.2.2.1), (aI 8 r.2.2.1.2.2.2.1)]) [5, 6, 7, 8, 9] rfl rfl) hP hc ?_)
    refine w_istore (ls2 := [some (.ref q), some (.int (nI N)), some (.int x), some (.int (nI i)), some (.int (lvlT r.2.2.1 (nI (c + i)))), none]) dX6_go_30 (by decide) rfl rfl ?_
    refine w_aload_n dX6_go_32 rfl ?_
    refine w_get (v := .ref qc) fX6_12 (hUs_at nd 0 rfl rfl) rfl dX6_go_33 ?_
    refine w_iload dX6_go_36 rfl ?_
    refine w_callV (ci := 0) (d' := d + 2) (mc' := 0) (ms' := 0) (As := [.int (lvlT r.2.2.1 (nI (c + i)))]) (st := []) lX6_77 vX0_clock rfl (hUs_at nd 1 rfl rfl) rfl (Nat.le_of_ble_eq_true rfl) dX6_go_38 (Nat.le_of_ble_eq_true rfl) (Nat.le_of_ble_eq_true rfl) (Nat.le_refl _) (c_clock (hHas_sub nd (as' := [qc, qs, ql, qf]) (cs' := [(oC 0 [.ref qs, .ref ql, .int r.2.1, .int ((rS r (c + i)).2.1), .int ((rS r (c + i)).2.2)]), (aI 3 ((rS r (c + i)).1)), (oC 3 [.ref qf, .int nm, .int (nI r.1.1), .int r.1.2.2.1, .int nz, .int r.1.2.2.2]), (aI 3 r.1.2.1)]) [1, 2, 3, 4] rfl rfl) (nd_sub nd (as' := [qc, qs, ql, qf]) [1, 2, 3, 4] rfl rfl) hn ?_)
    refine w_heq (hUs_in nd rfl [1, 2, 3, 4] (cs2 := [(oC 6 [.ref qc, .ref qo, .ref qg, .ref qz, .ref qw, .int go, .int ln, .int wn, .int sd, .int (nI (c + i))]), (oC 0 [.ref qs, .ref ql, .int r.2.1, .int ((cStp r.1 r.2.1 (lvlT r.2.2.1 (nI (c + i))) (rS r (c + i))).2.1), .int ((cStp r.1 r.2.1 (lvlT r.2.2.1 (nI (c + i))) (rS r (c + i))).2.2)]), (aI 3 ((cStp r.1 r.2.1 (lvlT r.2.2.1 (nI (c + i))) (rS r (c + i))).1)), (oC 3 [.ref qf, .int nm, .int (nI r.1.1), .int r.1.2.2.1, .int nz, .int r.1.2.2.2]), (aI 3 r.1.2.1), (oC 7 [.ref qk, .ref qa, .ref qb, .ref qn, .int wm, .int (nI r.2.2.1.2.2.2.2.1), .int (nI r.2.2.1.2.2.2.2.2)]), (aI 8 r.2.2.1.1), (aI 8 r.2.2.1.2.1), (aI 8 r.2.2.1.2.2.1), (aI 8 r.2.2.1.2.2.2.1), (aB 4096 (putF fo (rO r) c i)), (aI 4096 (putF fg (rG r) c i)), (aI 3 (rZ r (c + i)))]) rfl rfl) ?_
    refine w_istore (ls2 := [some (.ref q), some (.int (nI N)), some (.int x), some (.int (nI i)), some (.int (lvlT r.2.2.1 (nI (c + i)))), some (.int (cOut r.1 r.2.1 (rS r (c + i))))]) dX6_go_41 (by decide) rfl rfl ?_
    refine w_aload_n dX6_go_43 rfl ?_
    refine w_get (v := .ref qo) fX6_18 (hUs_at nd 0 rfl rfl) rfl dX6_go_44 ?_
    refine w_aload_n dX6_go_47 rfl ?_
    refine w_get (v := .int (nI (c + i))) fX6_60 (hUs_at nd 0 rfl rfl) rfl dX6_go_48 ?_
    refine w_iload dX6_go_51 rfl ?_
    refine w_i2b dX6_go_53 ?_
    refine w_bastoreN (hUs_at nd 10 rfl rfl) (by omega) (by omega) dX6_go_54 ?_
    refine w_heq (hUs_set nd rfl 10 (cs' := [(oC 6 [.ref qc, .ref qo, .ref qg, .ref qz, .ref qw, .int go, .int ln, .int wn, .int sd, .int (nI (c + i))]), (oC 0 [.ref qs, .ref ql, .int r.2.1, .int ((cStp r.1 r.2.1 (lvlT r.2.2.1 (nI (c + i))) (rS r (c + i))).2.1), .int ((cStp r.1 r.2.1 (lvlT r.2.2.1 (nI (c + i))) (rS r (c + i))).2.2)]), (aI 3 ((cStp r.1 r.2.1 (lvlT r.2.2.1 (nI (c + i))) (rS r (c + i))).1)), (oC 3 [.ref qf, .int nm, .int (nI r.1.1), .int r.1.2.2.1, .int nz, .int r.1.2.2.2]), (aI 3 r.1.2.1), (oC 7 [.ref qk, .ref qa, .ref qb, .ref qn, .int wm, .int (nI r.2.2.1.2.2.2.2.1), .int (nI r.2.2.1.2.2.2.2.2)]), (aI 8 r.2.2.1.1), (aI 8 r.2.2.1.2.1), (aI 8 r.2.2.1.2.2.1), (aI 8 r.2.2.1.2.2.2.1), (aB 4096 (upd (putF fo (rO r) c i) (c + i) (vp_nar .byte ((cOut r.1 r.2.1 (rS r (c + i))).toInt8.toInt32)))), (aI 4096 (putF fg (rG r) c i)), (aI 3 (rZ r (c + i)))]) rfl rfl) ?_
    refine w_aload_n dX6_go_55 rfl ?_
    refine w_get (v := .ref qg) fX6_22 (hUs_at nd 0 rfl rfl) rfl dX6_go_56 ?_
    refine w_aload_n dX6_go_59 rfl ?_
    refine w_get (v := .int (nI (c + i))) fX6_60 (hUs_at nd 0 rfl rfl) rfl dX6_go_60 ?_
    refine w_sipush (v := 1000) dX6_go_63 (by decide) ?_
    refine w_iload dX6_go_66 rfl ?_
    refine w_imul dX6_go_68 ?_
    refine w_iload dX6_go_69 rfl ?_
    refine w_isub dX6_go_71 ?_
    refine w_iastoreN (hUs_at nd 11 rfl rfl) (by omega) (by omega) dX6_go_72 ?_
    refine w_heq (hUs_set nd rfl 11 (cs' := [(oC 6 [.ref qc, .ref qo, .ref qg, .ref qz, .ref qw, .int go, .int ln, .int wn, .int sd, .int (nI (c + i))]), (oC 0 [.ref qs, .ref ql, .int r.2.1, .int ((cStp r.1 r.2.1 (lvlT r.2.2.1 (nI (c + i))) (rS r (c + i))).2.1), .int ((cStp r.1 r.2.1 (lvlT r.2.2.1 (nI (c + i))) (rS r (c + i))).2.2)]), (aI 3 ((cStp r.1 r.2.1 (lvlT r.2.2.1 (nI (c + i))) (rS r (c + i))).1)), (oC 3 [.ref qf, .int nm, .int (nI r.1.1), .int r.1.2.2.1, .int nz, .int r.1.2.2.2]), (aI 3 r.1.2.1), (oC 7 [.ref qk, .ref qa, .ref qb, .ref qn, .int wm, .int (nI r.2.2.1.2.2.2.2.1), .int (nI r.2.2.1.2.2.2.2.2)]), (aI 8 r.2.2.1.1), (aI 8 r.2.2.1.2.1), (aI 8 r.2.2.1.2.2.1), (aI 8 r.2.2.1.2.2.2.1), (aB 4096 (upd (putF fo (rO r) c i) (c + i) (vp_nar .byte ((cOut r.1 r.2.1 (rS r (c + i))).toInt8.toInt32)))), (aI 4096 (upd (putF fg (rG r) c i) (c + i) ((1000 * (cOut r.1 r.2.1 (rS r (c + i)))) - (lvlT r.2.2.1 (nI (c + i)))))), (aI 3 (rZ r (c + i)))]) rfl rfl) ?_
    refine w_aload_n dX6_go_73 rfl ?_
    refine w_dup dX6_go_74 rfl ?_
    refine w_get (v := .int (nI (c + i))) fX6_60 (hUs_at nd 0 rfl rfl) rfl dX6_go_75 ?_
    refine w_iconst (v := 1) dX6_go_78 (by decide) ?_
    refine w_iaddE (z := nI ((c + i) + 1)) dX6_go_79 (nI_add ((c + i)) (1)) ?_
    refine w_put (fs' := [.ref qc, .ref qo, .ref qg, .ref qz, .ref qw, .int go, .int ln, .int wn, .int sd, .int (nI ((c + i) + 1))]) fX6_60 (hUs_at nd 0 rfl rfl) rfl rfl (Nat.le_of_ble_eq_true rfl) rfl dX6_go_80 ?_
    refine w_heq (hUs_set nd rfl 0 (cs' := [(oC 6 [.ref qc, .ref qo, .ref qg, .ref qz, .ref qw, .int go, .int ln, .int wn, .int sd, .int (nI ((c + i) + 1))]), (oC 0 [.ref qs, .ref ql, .int r.2.1, .int ((cStp r.1 r.2.1 (lvlT r.2.2.1 (nI (c + i))) (rS r (c + i))).2.1), .int ((cStp r.1 r.2.1 (lvlT r.2.2.1 (nI (c + i))) (rS r (c + i))).2.2)]), (aI 3 ((cStp r.1 r.2.1 (lvlT r.2.2.1 (nI (c + i))) (rS r (c + i))).1)), (oC 3 [.ref qf, .int nm, .int (nI r.1.1), .int r.1.2.2.1, .int nz, .int r.1.2.2.2]), (aI 3 r.1.2.1), (oC 7 [.ref qk, .ref qa, .ref qb, .ref qn, .int wm, .int (nI r.2.2.1.2.2.2.2.1), .int (nI r.2.2.1.2.2.2.2.2)]), (aI 8 r.2.2.1.1), (aI 8 r.2.2.1.2.1), (aI 8 r.2.2.1.2.2.1), (aI 8 r.2.2.1.2.2.2.1), (aB 4096 (upd (putF fo (rO r) c i) (c + i) (vp_nar .byte ((cOut r.1 r.2.1 (rS r (c + i))).toInt8.toInt32)))), (aI 4096 (upd (putF fg (rG r) c i) (c + i) ((1000 * (cOut r.1 r.2.1 (rS r (c + i)))) - (lvlT r.2.2.1 (nI (c + i)))))), (aI 3 (rZ r (c + i)))]) rfl rfl) ?_
    refine w_iload_n dX6_go_83 rfl ?_
    refine w_iload dX6_go_84 rfl ?_
    refine w_iadd dX6_go_86 ?_
    refine w_istore_n (ls2 := [some (.ref q), some (.int (nI N)), some (.int (x + (cOut r.1 r.2.1 (rS r (c + i))))), some (.int (nI i)), some (.int (lvlT r.2.2.1 (nI (c + i)))), some (.int (cOut r.1 r.2.1 (rS r (c + i))))]) dX6_go_87 (by decide) rfl rfl ?_
    refine w_aload_n dX6_go_88 rfl ?_
    refine w_callV (ci := 6) (d' := d + 2) (mc' := 0) (ms' := 0) (As := []) (st := []) lX6_80 vX6_noteSizes rfl (hUs_at nd 0 rfl rfl) rfl (Nat.le_of_ble_eq_true rfl) dX6_go_89 (Nat.le_of_ble_eq_true rfl) (Nat.le_of_ble_eq_true rfl) (Nat.le_refl _) (c_noteSizes (hHas_sub nd (as' := [q, qc, qs, qz]) (cs' := [(oC 6 [.ref qc, .ref qo, .ref qg, .ref qz, .ref qw, .int go, .int ln, .int wn, .int sd, .int (nI ((c + i) + 1))]), (oC 0 [.ref qs, .ref ql, .int r.2.1, .int ((cStp r.1 r.2.1 (lvlT r.2.2.1 (nI (c + i))) (rS r (c + i))).2.1), .int ((cStp r.1 r.2.1 (lvlT r.2.2.1 (nI (c + i))) (rS r (c + i))).2.2)]), (aI 3 ((cStp r.1 r.2.1 (lvlT r.2.2.1 (nI (c + i))) (rS r (c + i))).1)), (aI 3 (rZ r (c + i)))]) [0, 1, 2, 12] rfl rfl) (nd_sub nd (as' := [q, qc, qs, qz]) [0, 1, 2, 12] rfl rfl)  ?_)
    refine w_heq (hUs_in nd rfl [0, 1, 2, 12] (cs2 := [(oC 6 [.ref qc, .ref qo, .ref qg, .ref qz, .ref qw, .int go, .int ln, .int wn, .int sd, .int (nI ((c + i) + 1))]), (oC 0 [.ref qs, .ref ql, .int r.2.1, .int ((cStp r.1 r.2.1 (lvlT r.2.2.1 (nI (c + i))) (rS r (c + i))).2.1), .int ((cStp r.1 r.2.1 (lvlT r.2.2.1 (nI (c + i))) (rS r (c + i))).2.2)]), (aI 3 ((cStp r.1 r.2.1 (lvlT r.2.2.1 (nI (c + i))) (rS r (c + i))).1)), (oC 3 [.ref qf, .int nm, .int (nI r.1.1), .int r.1.2.2.1, .int nz, .int r.1.2.2.2]), (aI 3 r.1.2.1), (oC 7 [.ref qk, .ref qa, .ref qb, .ref qn, .int wm, .int (nI r.2.2.1.2.2.2.2.1), .int (nI r.2.2.1.2.2.2.2.2)]), (aI 8 r.2.2.1.1), (aI 8 r.2.2.1.2.1), (aI 8 r.2.2.1.2.2.1), (aI 8 r.2.2.1.2.2.2.1), (aB 4096 (upd (putF fo (rO r) c i) (c + i) (vp_nar .byte ((cOut r.1 r.2.1 (rS r (c + i))).toInt8.toInt32)))), (aI 4096 (upd (putF fg (rG r) c i) (c + i) ((1000 * (cOut r.1 r.2.1 (rS r (c + i)))) - (lvlT r.2.2.1 (nI (c + i)))))), (aI 3 (fun j => mxI ((rZ r (c + i)) j) (abI (((cStp r.1 r.2.1 (lvlT r.2.2.1 (nI (c + i))) (rS r (c + i))).1) j))))]) rfl rfl) ?_
    refine w_iinc (v := nI (i + 1)) (ls2 := [some (.ref q), some (.int (nI N)), some (.int (x + (cOut r.1 r.2.1 (rS r (c + i))))), some (.int (nI (i + 1))), some (.int (lvlT r.2.2.1 (nI (c + i)))), some (.int (cOut r.1 r.2.1 (rS r (c + i))))]) dX6_go_92 rfl (nI_1 _) (by decide) rfl rfl ?_
    refine w_goto (tgt := 4) dX6_go_95 rfl ?_
    refine w_less (ls2 := [some (.ref q), some (.int (nI N)), some (.int (x + (cOut r.1 r.2.1 (rS r (c + i))))), some (.int (nI (i + 1))), none, none]) ⟨Or.inr rfl, Or.inr rfl, Or.inr rfl, Or.inr rfl, Or.inl rfl, Or.inl rfl, trivial⟩ ?_
    refine w_heq (h2 := hUs h [q, qc, qs, ql, qf, qw, qk, qa, qb, qn, qo, qg, qz] [(oC 6 [.ref qc, .ref qo, .ref qg, .ref qz, .ref qw, .int go, .int ln, .int wn, .int sd, .int (nI (c + (i + 1)))]), (oC 0 [.ref qs, .ref ql, .int r.2.1, .int ((rS r (c + (i + 1))).2.1), .int ((rS r (c + (i + 1))).2.2)]), (aI 3 ((rS r (c + (i + 1))).1)), (oC 3 [.ref qf, .int nm, .int (nI r.1.1), .int r.1.2.2.1, .int nz, .int r.1.2.2.2]), (aI 3 r.1.2.1), (oC 7 [.ref qk, .ref qa, .ref qb, .ref qn, .int wm, .int (nI r.2.2.1.2.2.2.2.1), .int (nI r.2.2.1.2.2.2.2.2)]), (aI 8 r.2.2.1.1), (aI 8 r.2.2.1.2.1), (aI 8 r.2.2.1.2.2.1), (aI 8 r.2.2.1.2.2.2.1), (aB 4096 (putF fo (rO r) c (i + 1))), (aI 4096 (putF fg (rG r) c (i + 1))), (aI 3 (rZ r (c + (i + 1))))]) ?_ ?_
    · have e1 : upd (putF fo (rO r) c i) (c + i) (vp_nar .byte (cOut r.1 r.2.1 (rS r (c + i))).toInt8.toInt32) = putF fo (rO r) c (i + 1) := by
        show upd (putF fo (rO r) c i) (c + i) (vp_nar .byte (rO r (c + i)).toInt8.toInt32) = _
        rw [nar_out (rO_in r (c + i))]
        exact putF_s fo (rO r) c i
      have e2 : upd (putF fg (rG r) c i) (c + i) (1000 * cOut r.1 r.2.1 (rS r (c + i)) - lvlT r.2.2.1 (nI (c + i))) = putF fg (rG r) c (i + 1) := putF_s fg (rG r) c i
      rw [e1, e2]
      rfl
    · exact ih (i + 1) _ (by omega) (by rw [fld, ← e]; rfl)
set_option maxRecDepth 100000 in
set_option maxHeartbeats 4000000 in
theorem c_go {G : wG} {d : Nat} {h : hH} {Q : Option Value → hH → Prop} {q qc qo qg qz qw : Nat} {go ln wn sd : Int32} {c : Nat} {qs ql qf qk qa qb qn : Nat} {nm nz wm : Int32} {r : rQ} {fo fg : Nat → Int32} {N : Nat} (hw : hHas h [q, qc, qs, ql, qf, qw, qk, qa, qb, qn, qo, qg, qz] [(oC 6 [.ref qc, .ref qo, .ref qg, .ref qz, .ref qw, .int go, .int ln, .int wn, .int sd, .int (nI (c))]), (oC 0 [.ref qs, .ref ql, .int r.2.1, .int ((rS r c).2.1), .int ((rS r c).2.2)]), (aI 3 ((rS r c).1)), (oC 3 [.ref qf, .int nm, .int (nI r.1.1), .int r.1.2.2.1, .int nz, .int r.1.2.2.2]), (aI 3 r.1.2.1), (oC 7 [.ref qk, .ref qa, .ref qb, .ref qn, .int wm, .int (nI r.2.2.1.2.2.2.2.1), .int (nI r.2.2.1.2.2.2.2.2)]), (aI 8 r.2.2.1.1), (aI 8 r.2.2.1.2.1), (aI 8 r.2.2.1.2.2.1), (aI 8 r.2.2.1.2.2.2.1), (aB 4096 fo), (aI 4096 fg), (aI 3 (rZ r c))]) (nd : [q, qc, qs, ql, qf, qw, qk, qa, qb, qn, qo, qg, qz].Nodup) (hn : r.1.1 ≤ 3) (hP : r.2.2.1.2.2.2.2.1 ≤ 8) (hc : r.2.2.1.2.2.2.2.2 < 2 ^ 31) (hN : c + N ≤ 4096) (k : Q (some (.int (fld (fun t s => s + rO r t) c (N) 0))) (hUs h [q, qc, qs, ql, qf, qw, qk, qa, qb, qn, qo, qg, qz] [(oC 6 [.ref qc, .ref qo, .ref qg, .ref qz, .ref qw, .int go, .int ln, .int wn, .int sd, .int (nI (c + N))]), (oC 0 [.ref qs, .ref ql, .int r.2.1, .int ((rS r (c + N)).2.1), .int ((rS r (c + N)).2.2)]), (aI 3 ((rS r (c + N)).1)), (oC 3 [.ref qf, .int nm, .int (nI r.1.1), .int r.1.2.2.1, .int nz, .int r.1.2.2.2]), (aI 3 r.1.2.1), (oC 7 [.ref qk, .ref qa, .ref qb, .ref qn, .int wm, .int (nI r.2.2.1.2.2.2.2.1), .int (nI r.2.2.1.2.2.2.2.2)]), (aI 8 r.2.2.1.1), (aI 8 r.2.2.1.2.1), (aI 8 r.2.2.1.2.2.1), (aI 8 r.2.2.1.2.2.2.1), (aB 4096 (putF fo (rO r) c N)), (aI 4096 (putF fg (rG r) c N)), (aI 3 (rZ r (c + N)))])) : Cl G yX6_go (d + 3) 0 0 [.ref q, .int (nI N)] h Q := by
  refine Cl.of (ini := false) kX6_go (plainFor_of_name (by decide)) (by decide) (Nat.le_of_ble_eq_true rfl) rfl rfl (fun z => by cases z) ?_
  refine w_heq (hUs_id hw).symm ?_
  refine w_iconst (v := 0) dX6_go_0 (by decide) ?_
  refine w_istore_n (ls2 := [some (.ref q), some (.int (nI N)), some (.int 0), none, none, none]) dX6_go_1 (by decide) rfl rfl ?_
  refine w_iconst (v := (nI 0)) dX6_go_2 (by decide) ?_
  refine w_istore_n (ls2 := [some (.ref q), some (.int (nI N)), some (.int 0), some (.int (nI 0)), none, none]) dX6_go_3 (by decide) rfl rfl ?_
  refine w_heq (h2 := hUs h [q, qc, qs, ql, qf, qw, qk, qa, qb, qn, qo, qg, qz] [(oC 6 [.ref qc, .ref qo, .ref qg, .ref qz, .ref qw, .int go, .int ln, .int wn, .int sd, .int (nI (c + 0))]), (oC 0 [.ref qs, .ref ql, .int r.2.1, .int ((rS r (c + 0)).2.1), .int ((rS r (c + 0)).2.2)]), (aI 3 ((rS r (c + 0)).1)), (oC 3 [.ref qf, .int nm, .int (nI r.1.1), .int r.1.2.2.1, .int nz, .int r.1.2.2.2]), (aI 3 r.1.2.1), (oC 7 [.ref qk, .ref qa, .ref qb, .ref qn, .int wm, .int (nI r.2.2.1.2.2.2.2.1), .int (nI r.2.2.1.2.2.2.2.2)]), (aI 8 r.2.2.1.1), (aI 8 r.2.2.1.2.1), (aI 8 r.2.2.1.2.2.1), (aI 8 r.2.2.1.2.2.2.1), (aB 4096 (putF fo (rO r) c 0)), (aI 4096 (putF fg (rG r) c 0)), (aI 3 (rZ r (c + 0)))]) (by rw [putF_0, putF_0]; rfl) ?_
  exact l_go nd hn hP hc hN k N 0 _ (by omega) rfl
