/-- the reference's object -/
def mF (m : Nat) (th tr wa tp sz sp fa fl tk ta sg nu : Int32) (wd : Int64) (lo wv rl rw ht sd ah cl : Int32) : List Value := [.int th, .int tr, .int wa, .ref (m + 1), .int tp, .int sz, .int sp, .int fa, .int fl, .int tk, .int ta, .int sg, .int nu, .long wd, .ref (m + 2), .ref (m + 3), .ref (m + 4), .ref (m + 5), .ref (m + 6), .ref (m + 7), .ref (m + 8), .ref (m + 9), .ref (m + 10), .ref (m + 11), .ref (m + 12), .ref (m + 13), .int lo, .int wv, .int rl, .int rw, .int ht, .ref (m + 14), .ref (m + 15), .ref (m + 16), .ref (m + 17), .ref (m + 18), .ref (m + 19), .ref (m + 20), .ref (m + 21), .int sd, .ref (m + 22), .ref (m + 23), .int ah, .int cl]
def inB (v lo hi : Int32) : Int32 := if lo ≤ v ∧ v ≤ hi then 1 else 0
theorem inB_0 {v lo hi : Int32} (h : inB v lo hi = 0) : v < lo ∨ hi < v := by
  unfold inB at h
  by_cases e : lo ≤ v
  · by_cases e2 : v ≤ hi
    · rw [if_pos ⟨e, e2⟩] at h; exact absurd h (by decide)
    · exact Or.inr (Int32.not_le.mp e2)
  · exact Or.inl (Int32.not_le.mp e)
theorem inB_1 {v lo hi : Int32} (h : ¬ inB v lo hi = 0) : lo ≤ v ∧ v ≤ hi := by
  unfold inB at h
  by_cases e : lo ≤ v ∧ v ≤ hi
  · exact e
  · rw [if_neg e] at h; exact absurd rfl h
theorem inB_n {v lo hi : Int32} (h : ¬ (lo ≤ v ∧ v ≤ hi)) : inB v lo hi = 0 := if_neg h
theorem inB_y {v lo hi : Int32} (h : lo ≤ v ∧ v ≤ hi) : inB v lo hi = 1 := if_pos h
theorem inB_01 (v lo hi : Int32) : narrow .boolean (.int (inB v lo hi)) = .int (inB v lo hi) := by
  unfold inB; split <;> rfl
set_option maxRecDepth 100000 in
set_option maxHeartbeats 4000000 in
theorem c_in {G : wG} {d : Nat} {h : hH} {Q : Option Value → hH → Prop} {x y z : Int32}  (k : Q (some (.int (inB x y z))) h) : Cl G yX10_in d 0 0 [.int x, .int y, .int z] h Q := by
  refine Cl.of (ini := false) kX10_in (plainFor_of_name (by decide)) (by decide) (Nat.le_of_ble_eq_true rfl) rfl rfl (fun z => by cases z) ?_
  refine w_iload_n dX10_in_0 rfl ?_
  refine w_iload_n dX10_in_1 rfl ?_
  refine w_icmp_lt (tgt := 14) dX10_in_2 rfl (fun b2 => ?_) (fun b2 => ?_)
  · refine w_iconst (v := 0) dX10_in_14 (by decide) ?_
    refine w_zreturn rfl dX10_in_15 rfl (Nat.le_of_ble_eq_true rfl) (Nat.le_of_ble_eq_true rfl) ?_
    have e0 : inB x y z = 0 := by
      rw [inB, if_neg (fun z => absurd z.1 (by simpa using b2))]
    rw [e0] at k
    exact k
  · refine w_iload_n dX10_in_5 rfl ?_
    refine w_iload_n dX10_in_6 rfl ?_
    refine w_icmp_gt (tgt := 14) dX10_in_7 rfl (fun b7 => ?_) (fun b7 => ?_)
    · refine w_iconst (v := 0) dX10_in_14 (by decide) ?_
      refine w_zreturn rfl dX10_in_15 rfl (Nat.le_of_ble_eq_true rfl) (Nat.le_of_ble_eq_true rfl) ?_
      have e0 : inB x y z = 0 := by
        rw [inB, if_neg (fun z => absurd z.2 (by simpa using b7))]
      rw [e0] at k
      exact k
    · refine w_iconst (v := 1) dX10_in_10 (by decide) ?_
      refine w_goto (tgt := 15) dX10_in_11 rfl ?_
      refine w_zreturn rfl dX10_in_15 rfl (Nat.le_of_ble_eq_true rfl) (Nat.le_of_ble_eq_true rfl) ?_
      have e0 : inB x y z = 1 := by
        rw [inB, if_pos ⟨by simpa using b2, by simpa using b7⟩]
      rw [e0] at k
      exact k
set_option maxRecDepth 100000 in
set_option maxHeartbeats 4000000 in
theorem c_without {G : wG} {d : Nat} {h : hH} {Q : Option Value → hH → Prop} {x : Int32}  (k : Q (some (.int (abI x))) h) : Cl G yX10_without d 0 0 [.int x] h Q := by
  refine Cl.of (ini := false) kX10_without (plainFor_of_name (by decide)) (by decide) (Nat.le_of_ble_eq_true rfl) rfl rfl (fun z => by cases z) ?_
  refine w_iload_n dX10_without_0 rfl ?_
  refine w_if_ge (tgt := 9) dX10_without_1 rfl (fun b1 => ?_) (fun b1 => ?_)
  · refine w_iload_n dX10_without_9 rfl ?_
    refine w_ireturn rfl dX10_without_10 (Nat.le_of_ble_eq_true rfl) (Nat.le_of_ble_eq_true rfl) ?_
    have e0 : abI x = x := by
      rw [abI, if_pos b1]
    rw [e0] at k
    exact k
  · refine w_iload_n dX10_without_4 rfl ?_
    refine w_ineg dX10_without_5 ?_
    refine w_goto (tgt := 10) dX10_without_6 rfl ?_
    refine w_ireturn rfl dX10_without_10 (Nat.le_of_ble_eq_true rfl) (Nat.le_of_ble_eq_true rfl) ?_
    have e0 : abI x = -x := by
      rw [abI, if_neg b1]
    rw [e0] at k
    exact k
set_option maxRecDepth 100000 in
set_option maxHeartbeats 4000000 in
theorem c_down {G : wG} {d : Nat} {h : hH} {Q : Option Value → hH → Prop} {x y : Int32} (hy : 0 < y) (k : Q (some (.int (fdvI x y))) h) : Cl G yX10_down d 0 0 [.int x, .int y] h Q := by
  refine Cl.of (ini := false) kX10_down (plainFor_of_name (by decide)) (by decide) (Nat.le_of_ble_eq_true rfl) rfl rfl (fun z => by cases z) ?_
  refine w_iload_n dX10_down_0 rfl ?_
  refine w_iload_n dX10_down_1 rfl ?_
  refine w_idiv dX10_down_2 (fun z => by rw [z] at hy; exact absurd hy (by decide)) ?_
  refine w_istore_n (ls2 := [some (.int x), some (.int y), some (.int (x / y))]) dX10_down_3 (by decide) rfl rfl ?_
  refine w_iload_n dX10_down_4 rfl ?_
  refine w_iload_n dX10_down_5 rfl ?_
  refine w_irem dX10_down_6 (fun z => by rw [z] at hy; exact absurd hy (by decide)) ?_
  refine w_if_ge (tgt := 16) dX10_down_7 rfl (fun b7 => ?_) (fun b7 => ?_)
  · refine w_iload_n dX10_down_16 rfl ?_
    refine w_ireturn rfl dX10_down_17 (Nat.le_of_ble_eq_true rfl) (Nat.le_of_ble_eq_true rfl) ?_
    have e0 : fdvI x y = x / y := by
      rw [fdv_dn hy, dnI, if_neg (Int32.not_lt.mpr b7)]
    rw [e0] at k
    exact k
  · refine w_iload_n dX10_down_10 rfl ?_
    refine w_iconst (v := 1) dX10_down_11 (by decide) ?_
    refine w_isub dX10_down_12 ?_
    refine w_goto (tgt := 17) dX10_down_13 rfl ?_
    refine w_ireturn rfl dX10_down_17 (Nat.le_of_ble_eq_true rfl) (Nat.le_of_ble_eq_true rfl) ?_
    have e0 : fdvI x y = (x / y) - 1 := by
      rw [fdv_dn hy, dnI, if_pos (Int32.not_le.mp b7)]
    rw [e0] at k
    exact k
set_option maxRecDepth 100000 in
set_option maxHeartbeats 4000000 in
theorem m_refused {G : wG} {d : Nat} {h : hH} {Q : Option Value → hH → Prop} {m : Nat} {th tr wa tp sz sp fa fl tk ta sg nu : Int32} {wd : Int64} {lo wv rl rw ht sd ah cl : Int32} {x : Int32} (hw : hHas h [m] [(oC 10 (mF m th tr wa tp sz sp fa fl tk ta sg nu wd lo wv rl rw ht sd ah cl))]) (nd : [m].Nodup)  (k : Q (some (.int (-1))) (hUs h [m] [(oC 10 (mF m th x (-1) tp sz sp fa fl tk ta sg nu wd lo wv rl rw ht sd ah cl))])) : Cl G yX10_refused d 0 0 [.ref m, .int x] h Q := by
  refine Cl.of (ini := false) kX10_refused (plainFor_of_name (by decide)) (by decide) (Nat.le_of_ble_eq_true rfl) rfl rfl (fun z => by cases z) ?_
  refine w_heq (hUs_id hw).symm ?_
  refine w_aload_n dX10_refused_0 rfl ?_
  refine w_iload_n dX10_refused_1 rfl ?_
  refine w_put (fs' := (mF m th x wa tp sz sp fa fl tk ta sg nu wd lo wv rl rw ht sd ah cl)) fX10_92 (hUs_at nd 0 rfl rfl) rfl rfl (Nat.le_of_ble_eq_true rfl) rfl dX10_refused_2 ?_
  refine w_heq (hUs_set nd rfl 0 (cs' := [(oC 10 (mF m th x wa tp sz sp fa fl tk ta sg nu wd lo wv rl rw ht sd ah cl))]) rfl rfl) ?_
  refine w_aload_n dX10_refused_5 rfl ?_
  refine w_iconst (v := (-1)) dX10_refused_6 (by decide) ?_
  refine w_put (fs' := (mF m th x (-1) tp sz sp fa fl tk ta sg nu wd lo wv rl rw ht sd ah cl)) fX10_9 (hUs_at nd 0 rfl rfl) rfl rfl (Nat.le_of_ble_eq_true rfl) rfl dX10_refused_7 ?_
  refine w_heq (hUs_set nd rfl 0 (cs' := [(oC 10 (mF m th x (-1) tp sz sp fa fl tk ta sg nu wd lo wv rl rw ht sd ah cl))]) rfl rfl) ?_
  refine w_iconst (v := (-1)) dX10_refused_10 (by decide) ?_
  refine w_ireturn rfl dX10_refused_11 (Nat.le_of_ble_eq_true rfl) (Nat.le_of_ble_eq_true rfl) ?_
  exact k
set_option maxRecDepth 100000 in
set_option maxHeartbeats 4000000 in
theorem m_lost {G : wG} {d : Nat} {h : hH} {Q : Option Value → hH → Prop} {m : Nat} {th tr wa tp sz sp fa fl tk ta sg nu : Int32} {wd : Int64} {lo wv rl rw ht sd ah cl : Int32} {x : Int32} (hw : hHas h [m] [(oC 10 (mF m th tr wa tp sz sp fa fl tk ta sg nu wd lo wv rl rw ht sd ah cl))]) (nd : [m].Nodup)  (k : Q (some (.int (-1000000000))) (hUs h [m] [(oC 10 (mF m th x (-1) tp sz sp fa fl tk ta sg nu wd lo wv rl rw ht sd ah cl))])) : Cl G yX10_lost d 0 0 [.ref m, .int x] h Q := by
  refine Cl.of (ini := false) kX10_lost (plainFor_of_name (by decide)) (by decide) (Nat.le_of_ble_eq_true rfl) rfl rfl (fun z => by cases z) ?_
  refine w_heq (hUs_id hw).symm ?_
  refine w_aload_n dX10_lost_0 rfl ?_
  refine w_iload_n dX10_lost_1 rfl ?_
  refine w_put (fs' := (mF m th x wa tp sz sp fa fl tk ta sg nu wd lo wv rl rw ht sd ah cl)) fX10_92 (hUs_at nd 0 rfl rfl) rfl rfl (Nat.le_of_ble_eq_true rfl) rfl dX10_lost_2 ?_
  refine w_heq (hUs_set nd rfl 0 (cs' := [(oC 10 (mF m th x wa tp sz sp fa fl tk ta sg nu wd lo wv rl rw ht sd ah cl))]) rfl rfl) ?_
  refine w_aload_n dX10_lost_5 rfl ?_
  refine w_iconst (v := (-1)) dX10_lost_6 (by decide) ?_
  refine w_put (fs' := (mF m th x (-1) tp sz sp fa fl tk ta sg nu wd lo wv rl rw ht sd ah cl)) fX10_9 (hUs_at nd 0 rfl rfl) rfl rfl (Nat.le_of_ble_eq_true rfl) rfl dX10_lost_7 ?_
  refine w_heq (hUs_set nd rfl 0 (cs' := [(oC 10 (mF m th x (-1) tp sz sp fa fl tk ta sg nu wd lo wv rl rw ht sd ah cl))]) rfl rfl) ?_
  refine w_ldc nX10_95 dX10_lost_10 ?_
  refine w_ireturn rfl dX10_lost_12 (Nat.le_of_ble_eq_true rfl) (Nat.le_of_ble_eq_true rfl) ?_
  exact k
set_option maxRecDepth 100000 in
set_option maxHeartbeats 4000000 in
theorem m_good {G : wG} {d : Nat} {h : hH} {Q : Option Value → hH → Prop} {m : Nat} {th tr wa tp sz sp fa fl tk ta sg nu : Int32} {wd : Int64} {lo wv rl rw ht sd ah cl : Int32} {x : Int32} (hw : hHas h [m] [(oC 10 (mF m th tr wa tp sz sp fa fl tk ta sg nu wd lo wv rl rw ht sd ah cl))]) (nd : [m].Nodup)  (k : Q (some (.int x)) (hUs h [m] [(oC 10 (mF m th 0 (-1) tp sz sp fa fl tk ta sg nu wd lo wv rl rw ht sd ah cl))])) : Cl G yX10_good d 0 0 [.ref m, .int x] h Q := by
  refine Cl.of (ini := false) kX10_good (plainFor_of_name (by decide)) (by decide) (Nat.le_of_ble_eq_true rfl) rfl rfl (fun z => by cases z) ?_
  refine w_heq (hUs_id hw).symm ?_
  refine w_aload_n dX10_good_0 rfl ?_
  refine w_iconst (v := 0) dX10_good_1 (by decide) ?_
  refine w_put (fs' := (mF m th 0 wa tp sz sp fa fl tk ta sg nu wd lo wv rl rw ht sd ah cl)) fX10_92 (hUs_at nd 0 rfl rfl) rfl rfl (Nat.le_of_ble_eq_true rfl) rfl dX10_good_2 ?_
  refine w_heq (hUs_set nd rfl 0 (cs' := [(oC 10 (mF m th 0 wa tp sz sp fa fl tk ta sg nu wd lo wv rl rw ht sd ah cl))]) rfl rfl) ?_
  refine w_aload_n dX10_good_5 rfl ?_
  refine w_iconst (v := (-1)) dX10_good_6 (by decide) ?_
  refine w_put (fs' := (mF m th 0 (-1) tp sz sp fa fl tk ta sg nu wd lo wv rl rw ht sd ah cl)) fX10_9 (hUs_at nd 0 rfl rfl) rfl rfl (Nat.le_of_ble_eq_true rfl) rfl dX10_good_7 ?_
  refine w_heq (hUs_set nd rfl 0 (cs' := [(oC 10 (mF m th 0 (-1) tp sz sp fa fl tk ta sg nu wd lo wv rl rw ht sd ah cl))]) rfl rfl) ?_
  refine w_iload_n dX10_good_10 rfl ?_
  refine w_ireturn rfl dX10_good_11 (Nat.le_of_ble_eq_true rfl) (Nat.le_of_ble_eq_true rfl) ?_
  exact k
def dnB (x : Int32) : Int32 := if x = 0 then 1 else 0
set_option maxRecDepth 100000 in
set_option maxHeartbeats 4000000 in
theorem m_done {G : wG} {d : Nat} {h : hH} {Q : Option Value → hH → Prop} {m : Nat} {th tr wa tp sz sp fa fl tk ta sg nu : Int32} {wd : Int64} {lo wv rl rw ht sd ah cl : Int32} {x : Int32} (hw : hHas h [m] [(oC 10 (mF m th tr wa tp sz sp fa fl tk ta sg nu wd lo wv rl rw ht sd ah cl))]) (nd : [m].Nodup)  (k : Q (some (.int (dnB x))) (hUs h [m] [(oC 10 (mF m th x (-1) tp sz sp fa fl tk ta sg nu wd lo wv rl rw ht sd ah cl))])) : Cl G yX10_done d 0 0 [.ref m, .int x] h Q := by
  refine Cl.of (ini := false) kX10_done (plainFor_of_name (by decide)) (by decide) (Nat.le_of_ble_eq_true rfl) rfl rfl (fun z => by cases z) ?_
  refine w_heq (hUs_id hw).symm ?_
  refine w_aload_n dX10_done_0 rfl ?_
  refine w_iload_n dX10_done_1 rfl ?_
  refine w_put (fs' := (mF m th x wa tp sz sp fa fl tk ta sg nu wd lo wv rl rw ht sd ah cl)) fX10_92 (hUs_at nd 0 rfl rfl) rfl rfl (Nat.le_of_ble_eq_true rfl) rfl dX10_done_2 ?_
  refine w_heq (hUs_set nd rfl 0 (cs' := [(oC 10 (mF m th x wa tp sz sp fa fl tk ta sg nu wd lo wv rl rw ht sd ah cl))]) rfl rfl) ?_
  refine w_aload_n dX10_done_5 rfl ?_
  refine w_iconst (v := (-1)) dX10_done_6 (by decide) ?_
  refine w_put (fs' := (mF m th x (-1) tp sz sp fa fl tk ta sg nu wd lo wv rl rw ht sd ah cl)) fX10_9 (hUs_at nd 0 rfl rfl) rfl rfl (Nat.le_of_ble_eq_true rfl) rfl dX10_done_7 ?_
  refine w_heq (hUs_set nd rfl 0 (cs' := [(oC 10 (mF m th x (-1) tp sz sp fa fl tk ta sg nu wd lo wv rl rw ht sd ah cl))]) rfl rfl) ?_
  refine w_iload_n dX10_done_10 rfl ?_
  refine w_if_ne (tgt := 18) dX10_done_11 rfl (fun b11 => ?_) (fun b11 => ?_)
  · refine w_iconst (v := 0) dX10_done_18 (by decide) ?_
    refine w_zreturn rfl dX10_done_19 rfl (Nat.le_of_ble_eq_true rfl) (Nat.le_of_ble_eq_true rfl) ?_
    have e0 : dnB x = 0 := by
      rw [dnB, if_neg b11]
    rw [e0] at k
    exact k
  · refine w_iconst (v := 1) dX10_done_14 (by decide) ?_
    refine w_goto (tgt := 19) dX10_done_15 rfl ?_
    refine w_zreturn rfl dX10_done_19 rfl (Nat.le_of_ble_eq_true rfl) (Nat.le_of_ble_eq_true rfl) ?_
    have e0 : dnB x = 1 := by
      rw [dnB, if_pos b11]
    rw [e0] at k
    exact k
set_option maxRecDepth 100000 in
set_option maxHeartbeats 4000000 in
theorem m_thrown {G : wG} {d : Nat} {h : hH} {Q : Option Value → hH → Prop} {m : Nat} {th tr wa tp sz sp fa fl tk ta sg nu : Int32} {wd : Int64} {lo wv rl rw ht sd ah cl : Int32} (hw : hHas h [m] [(oC 10 (mF m th tr wa tp sz sp fa fl tk ta sg nu wd lo wv rl rw ht sd ah cl))])  (k : Q (some (.int th)) h) : Cl G yX10_thrown d 0 0 [.ref m] h Q := by
  refine Cl.of (ini := false) kX10_thrown (plainFor_of_name (by decide)) (by decide) (Nat.le_of_ble_eq_true rfl) rfl rfl (fun z => by cases z) ?_
  refine w_aload_n dX10_thrown_0 rfl ?_
  refine w_get (v := .int th) fX10_89 (hw 0 _ _ rfl rfl) rfl dX10_thrown_1 ?_
  refine w_ireturn rfl dX10_thrown_4 (Nat.le_of_ble_eq_true rfl) (Nat.le_of_ble_eq_true rfl) ?_
  exact k
/-- the number of something there -/
def ixB (x : Int32) (n : Nat) : Int32 := match ixN x n with
  | none => 0
  | some _ => 1
theorem ixB_in {x : Int32} {n : Nat} (hn : n ≤ 4096) : inB x 0 (nI n - 1) = ixB x n := by
  have hl : ∀ z : Int32, z ≤ nI n - 1 ↔ z < nI n := fun z => by
    rw [Int32.le_iff_toInt_le, Int32.lt_iff_toInt_lt, Int32.toInt_sub, nI_toInt (by omega), show (1 : Int32).toInt = 1 from rfl, bm_id (by omega) (by omega)]
    omega
  unfold ixB ixN inB
  by_cases e : 0 ≤ x ∧ x < nI n
  · rw [if_pos e, if_pos ⟨e.1, (hl x).mpr e.2⟩]
  · rw [if_neg e, if_neg (fun z => e ⟨z.1, (hl x).mp z.2⟩)]
theorem ixB_s {j n : Nat} (h : j < n) (hn : n ≤ 4096) : ixB (nI j) n = 1 := by
  rw [ixB, ixN_s h hn]
theorem ixB_n {x : Int32} {n : Nat} (h : ¬ ∃ j, j < n ∧ x = nI j) (hn : n ≤ 4096) : ixB x n = 0 := by
  rw [ixB, ixN_n h hn]
theorem ixB_01 (x : Int32) (n : Nat) : ixB x n = 0 ∨ ixB x n = 1 := by
  unfold ixB; split
  · exact Or.inl rfl
  · exact Or.inr rfl
set_option maxRecDepth 100000 in
set_option maxHeartbeats 4000000 in
theorem m_isLoop {G : wG} {d : Nat} {h : hH} {Q : Option Value → hH → Prop} {m : Nat} {th tr wa tp sz sp fa fl tk ta sg nu : Int32} {wd : Int64} {wv rl rw ht sd ah cl : Int32} {x : Int32} {n : Nat} (hw : hHas h [m] [(oC 10 (mF m th tr wa tp sz sp fa fl tk ta sg nu wd (nI n) wv rl rw ht sd ah cl))]) (hn : n ≤ 4096) (hh : (ht = 0 ∧ n = 0) ∨ ht = 1) (k : Q (some (.int (ixB x n))) h) : Cl G yX10_isLoop (d + 1) 0 0 [.ref m, .int x] h Q := by
  refine Cl.of (ini := false) kX10_isLoop (plainFor_of_name (by decide)) (by decide) (Nat.le_of_ble_eq_true rfl) rfl rfl (fun z => by cases z) ?_
  refine w_aload_n dX10_isLoop_0 rfl ?_
  refine w_get (v := .int ht) fX10_247 (hw 0 _ _ rfl rfl) rfl dX10_isLoop_1 ?_
  refine w_if_eq (tgt := 25) dX10_isLoop_4 rfl (fun b4 => ?_) (fun b4 => ?_)
  · refine w_iconst (v := 0) dX10_isLoop_25 (by decide) ?_
    refine w_zreturn rfl dX10_isLoop_26 rfl (Nat.le_of_ble_eq_true rfl) (Nat.le_of_ble_eq_true rfl) ?_
    have e0 : ixB x n = 0 := by
      have z : n = 0 := (hh.resolve_right (fun z => absurd (b4.symm.trans z) (by decide))).2
      subst z
      rw [← ixB_in hn]; exact if_neg (fun z => absurd (Int32.le_trans z.1 z.2) (by decide))
    rw [e0] at k
    exact k
  · refine w_iload_n dX10_isLoop_7 rfl ?_
    refine w_iconst (v := 0) dX10_isLoop_8 (by decide) ?_
    refine w_aload_n dX10_isLoop_9 rfl ?_
    refine w_get (v := .int (nI n)) fX10_238 (hw 0 _ _ rfl rfl) rfl dX10_isLoop_10 ?_
    refine w_iconst (v := 1) dX10_isLoop_13 (by decide) ?_
    refine w_isub dX10_isLoop_14 ?_
    refine w_callS (d' := d) (mc' := 0) (ms' := 0) (As := [.int x, .int 0, .int ((nI n) - 1)]) (st := []) lX10_111 vX10_in rfl (Nat.le_of_ble_eq_true rfl) dX10_isLoop_15 (Nat.le_of_ble_eq_true rfl) (Nat.le_of_ble_eq_true rfl) (Nat.le_refl _) (c_in ?_)
    refine w_if_eq (tgt := 25) dX10_isLoop_18 rfl (fun b18 => ?_) (fun b18 => ?_)
    · refine w_iconst (v := 0) dX10_isLoop_25 (by decide) ?_
      refine w_zreturn rfl dX10_isLoop_26 rfl (Nat.le_of_ble_eq_true rfl) (Nat.le_of_ble_eq_true rfl) ?_
      have e0 : ixB x n = 0 := by
        rw [← ixB_in hn]; exact b18
      rw [e0] at k
      exact k
    · refine w_iconst (v := 1) dX10_isLoop_21 (by decide) ?_
      refine w_goto (tgt := 26) dX10_isLoop_22 rfl ?_
      refine w_zreturn rfl dX10_isLoop_26 rfl (Nat.le_of_ble_eq_true rfl) (Nat.le_of_ble_eq_true rfl) ?_
      have e0 : ixB x n = 1 := by
        rcases ixB_01 x n with z | z
        · exact absurd ((ixB_in hn).trans z) b18
        · exact z
      rw [e0] at k
      exact k
set_option maxRecDepth 100000 in
set_option maxHeartbeats 4000000 in
theorem m_isWave {G : wG} {d : Nat} {h : hH} {Q : Option Value → hH → Prop} {m : Nat} {th tr wa tp sz sp fa fl tk ta sg nu : Int32} {wd : Int64} {lo rl rw ht sd ah cl : Int32} {x : Int32} {n : Nat} (hw : hHas h [m] [(oC 10 (mF m th tr wa tp sz sp fa fl tk ta sg nu wd lo (nI n) rl rw ht sd ah cl))]) (hn : n ≤ 4096) (hh : (ht = 0 ∧ n = 0) ∨ ht = 1) (k : Q (some (.int (ixB x n))) h) : Cl G yX10_isWave (d + 1) 0 0 [.ref m, .int x] h Q := by
  refine Cl.of (ini := false) kX10_isWave (plainFor_of_name (by decide)) (by decide) (Nat.le_of_ble_eq_true rfl) rfl rfl (fun z => by cases z) ?_
  refine w_aload_n dX10_isWave_0 rfl ?_
  refine w_get (v := .int ht) fX10_247 (hw 0 _ _ rfl rfl) rfl dX10_isWave_1 ?_
  refine w_if_eq (tgt := 25) dX10_isWave_4 rfl (fun b4 => ?_) (fun b4 => ?_)
  · refine w_iconst (v := 0) dX10_isWave_25 (by decide) ?_
    refine w_zreturn rfl dX10_isWave_26 rfl (Nat.le_of_ble_eq_true rfl) (Nat.le_of_ble_eq_true rfl) ?_
    have e0 : ixB x n = 0 := by
      have z : n = 0 := (hh.resolve_right (fun z => absurd (b4.symm.trans z) (by decide))).2
      subst z
      rw [← ixB_in hn]; exact if_neg (fun z => absurd (Int32.le_trans z.1 z.2) (by decide))
    rw [e0] at k
    exact k
  · refine w_iload_n dX10_isWave_7 rfl ?_
    refine w_iconst (v := 0) dX10_isWave_8 (by decide) ?_
    refine w_aload_n dX10_isWave_9 rfl ?_
    refine w_get (v := .int (nI n)) fX10_244 (hw 0 _ _ rfl rfl) rfl dX10_isWave_10 ?_
    refine w_iconst (v := 1) dX10_isWave_13 (by decide) ?_
    refine w_isub dX10_isWave_14 ?_
    refine w_callS (d' := d) (mc' := 0) (ms' := 0) (As := [.int x, .int 0, .int ((nI n) - 1)]) (st := []) lX10_111 vX10_in rfl (Nat.le_of_ble_eq_true rfl) dX10_isWave_15 (Nat.le_of_ble_eq_true rfl) (Nat.le_of_ble_eq_true rfl) (Nat.le_refl _) (c_in ?_)
    refine w_if_eq (tgt := 25) dX10_isWave_18 rfl (fun b18 => ?_) (fun b18 => ?_)
    · refine w_iconst (v := 0) dX10_isWave_25 (by decide) ?_
      refine w_zreturn rfl dX10_isWave_26 rfl (Nat.le_of_ble_eq_true rfl) (Nat.le_of_ble_eq_true rfl) ?_
      have e0 : ixB x n = 0 := by
        rw [← ixB_in hn]; exact b18
      rw [e0] at k
      exact k
    · refine w_iconst (v := 1) dX10_isWave_21 (by decide) ?_
      refine w_goto (tgt := 26) dX10_isWave_22 rfl ?_
      refine w_zreturn rfl dX10_isWave_26 rfl (Nat.le_of_ble_eq_true rfl) (Nat.le_of_ble_eq_true rfl) ?_
      have e0 : ixB x n = 1 := by
        rcases ixB_01 x n with z | z
        · exact absurd ((ixB_in hn).trans z) b18
        · exact z
      rw [e0] at k
      exact k
