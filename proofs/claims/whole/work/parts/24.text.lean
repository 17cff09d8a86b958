theorem rLp7_ok (ft : Nat → Int32) (nm : Int32) (n : Nat) (f : Nat → Int32) (bd th : Int32) {x : rD} (h : rOk x) : rOk (rLp7 ft nm n f bd th x).2.1 := by
  unfold rLp7; split
  · exact h
  · exact rNz_ok ft 0 h
theorem rLp6_ok (ft : Nat → Int32) (nm : Int32) (n : Nat) (f : Nat → Int32) (bd : Int32) {x : rD} (h : rOk x) : rOk (rLp6 ft nm n f bd x).2.1 := by
  unfold rLp6; split
  · exact rLp7_ok ft _ _ _ _ _ h
  · exact rLp7_ok ft _ _ _ _ _ (rStp_ok ft h)
theorem rLp5_ok (ft : Nat → Int32) (nm : Int32) (n : Nat) (f : Nat → Int32) {x : rD} (h : rOk x) : rOk (rLp5 ft nm n f x).2.1 := by
  have h5 := rTN_ok ft 1000 9999 h
  unfold rLp5
  generalize rTN ft 1000 9999 x = t at h5 ⊢
  split
  · exact h5
  · exact rLp6_ok ft _ _ _ _ h5
theorem rLp4_ok (ft : Nat → Int32) (nm : Int32) (n : Nat) (f : Nat → Int32) {x : rD} (h : rOk x) : rOk (rLp4 ft nm n f x).2.1 := by
  have h5 := rTW_ok ft [98, 111, 117, 110, 100] 5 h
  unfold rLp4
  generalize rTW ft [98, 111, 117, 110, 100] 5 x = t at h5 ⊢
  split
  · exact h5
  · exact rLp5_ok ft _ _ _ h5
theorem rLp3_ok (ft : Nat → Int32) (nm : Int32) {x : rD} (h : rOk x) : rOk (rLp3 ft nm x).2.1 := by
  have h5 := rFc_ok ft 4 0 (fun _ => 0) h
  unfold rLp3
  generalize rFc ft 4 x 0 (fun _ => 0) = t at h5 ⊢
  split
  · exact h5
  · exact rLp4_ok ft _ _ _ h5
theorem rLp2_ok (ft : Nat → Int32) (nm : Int32) {x : rD} (h : rOk x) : rOk (rLp2 ft nm x).2.1 := by
  have h5 := rTW_ok ft [98, 121] 2 h
  unfold rLp2
  generalize rTW ft [98, 121] 2 x = t at h5 ⊢
  split
  · exact h5
  · exact rLp3_ok ft _ h5
theorem rLp1_ok (ft : Nat → Int32) (P : pD) {x : rD} (h : rOk x) : rOk (rLp1 ft P x).2.1 := by
  have h5 := rNm_ok ft (pL1 P) (rStp_ok ft h)
  unfold rLp1
  generalize rNm ft (pL1 P) (rStp ft x) = t at h5 ⊢
  split
  · exact h5
  · exact rLp2_ok ft _ h5
theorem rLp_ok (ft : Nat → Int32) {x : rD} {P : pD} (h : rOk x) : rOk (rLp ft x P).2.1 := by
  have h5 := rLp1_ok ft P h
  unfold rLp
  generalize rLp1 ft P x = t at h5 ⊢
  split
  · exact h5
  · exact h
theorem rWvL_ok (ft : Nat → Int32) : ∀ (n : Nat) (mo : Int32) {x : rD} {W : wP}, rOk x → W.2.2.2.2.1 ≤ 8 → rOk (rWvL ft n mo x W).2.1
  | 0, _, _, _, h, _ => h
  | n + 1, mo, x, W, h, hn => by
    rw [rWvL]; split
    · exact h
    · split
      · exact h
      · have := rPc_k ft (rStp_ok ft h) hn
        exact rWvL_ok ft n _ this.1 this.2.2.1
theorem rWv_ok (ft : Nat → Int32) {x : rD} {P : pD} (h : rOk x) : rOk (rWv ft x P).2.1 := by
  unfold rWv
  split
  · show rOk (rWv1 ft P x).2.1
    have h1 := rNm_ok ft (pW1 P) (rStp_ok ft h)
    unfold rWv1; split
    · exact h1
    · have := rPc_k ft (W := wvC (P.2.2.2 P.2.1).2) h1 (Nat.zero_le 8)
      exact rWvL_ok ft 9 _ this.1 this.2.2.1
  · exact h
def rLn (ft : Nat → Int32) (x : rD) (P : pD) : Int32 × rD × pD :=
  if isW x.2.2.1 x.2.2.2.2.1 [108, 111, 111, 112] 4 = 0 then (if isW x.2.2.1 x.2.2.2.2.1 [119, 97, 118, 101] 4 = 0 then (0, rFl x 1 (nI x.2.2.2.1), P) else rWv ft x P) else rLp ft x P
def rTx (ft : Nat → Int32) : Nat → rD → pD → Int32 × rD × pD
  | 0, x, P => (0, x, P)
  | n + 1, x, P =>
    if (rLn ft x P).1 = 0 then (0, (rLn ft x P).2.1, (rLn ft x P).2.2)
    else if (rLn ft x P).2.1.2.2.1 = 0 then (1, (rLn ft x P).2.1, (rLn ft x P).2.2)
    else if (rTM ft 59 (rLn ft x P).2.1).1 = 0 then (0, (rTM ft 59 (rLn ft x P).2.1).2, (rLn ft x P).2.2)
    else rTx ft n (rTM ft 59 (rLn ft x P).2.1).2 (rLn ft x P).2.2
theorem rFr_refl {q p : Nat} {h : hH} : rFr q p h h := ⟨rfl, fun _ _ _ => rfl⟩
theorem rFr_t {q p : Nat} {h h1 h2 : hH} (a : rFr q p h h1) (b : rFr q p h1 h2) : rFr q p h h2 := ⟨b.1.trans a.1, fun x e f => (b.2 x e f).trans (a.2 x e f)⟩
theorem rB_ndq {h : hH} {q qt p : Nat} {ft : Nat → Int32} {x : rD} {P : pD} (hb : rB h q qt p ft x P) : [q, qt, p].Nodup := nd_sub (ndL hb.2.2.2 (j := 0) (by omega) rfl) [0, 1, 2] rfl rfl
theorem rB_hw {h : hH} {q qt p : Nat} {ft : Nat → Int32} {x : rD} {P : pD} (hb : rB h q qt p ft x P) : hHas h [q, qt, p] [oC 5 (rdF qt p x), aB 600 ft, oC 4 (plF p P.1 P.2.1)] := hHas_cons hb.1 (hHas_cons hb.2.1 (hHas_cons hb.2.2.1.2.1 hHas_nil))
set_option maxRecDepth 100000 in
set_option maxHeartbeats 4000000 in
theorem e_readText {G : wG} {d : Nat} {h : hH} {Q : Option Value → hH → Prop} {q p i : Nat} {n0 : Int32} (hi : i ≤ 600) (k : Q (some (.int 0)) h) : WP G RX5 cX5_readText 5 (some .boolean) false (d + 11) 0 0 0 0 Q 44 [some (.ref q), some (.int n0), some (.ref p), some (.int 0), some (.int (nI i))] [] h := by
  refine w_iload dX5_readText_44 rfl ?_
  refine w_sipush (v := 600) dX5_readText_46 (by decide) ?_
  refine w_icmp_ge (tgt := 132) dX5_readText_49 rfl (fun b49 => ?_) (fun b49 => ?_)
  · have b49 := (nI_leI (a := 600) (b := i) (by omega) (by omega)).mp b49
    refine w_iconst (v := 0) dX5_readText_132 (by decide) ?_
    refine w_zreturn rfl dX5_readText_133 rfl (Nat.le_of_ble_eq_true rfl) (Nat.le_of_ble_eq_true rfl) ?_
    exact k
  · have b49 : ¬ 600 ≤ i := fun z => b49 ((nI_leI (a := 600) (b := i) (by omega) (by omega)).mpr z)
    refine w_iload_n dX5_readText_52 rfl ?_
    refine w_if_eq_t (tgt := 132) dX5_readText_53 rfl (by decide) ?_
    refine w_iconst (v := 0) dX5_readText_132 (by decide) ?_
    refine w_zreturn rfl dX5_readText_133 rfl (Nat.le_of_ble_eq_true rfl) (Nat.le_of_ble_eq_true rfl) ?_
    exact k
set_option maxRecDepth 100000 in
set_option maxHeartbeats 4000000 in
theorem l_readText {G : wG} {d : Nat} {Q : Option Value → hH → Prop} {h0 : hH} {q qt p : Nat} {ft : Nat → Int32} {n0 : Int32}  : ∀ (n : Nat) (h : hH) (x : rD) (P : pD) (i : Nat), i + n = 600 → rB h q qt p ft x P → rOk x → rFr q p h0 h → (∀ h2, rB h2 q qt p ft (rTx ft n x P).2.1 (rTx ft n x P).2.2 → rFr q p h0 h2 → Q (some (.int (rTx ft n x P).1)) h2) → WP G RX5 cX5_readText 5 (some .boolean) false (d + 11) 0 0 0 0 Q 44 [some (.ref q), some (.int n0), some (.ref p), some (.int 1), some (.int (nI i))] [] h := by
  intro n
  induction n with
  | zero =>
    intro h x P i hi hb hok hf k
    refine w_iload dX5_readText_44 rfl ?_
    refine w_sipush (v := 600) dX5_readText_46 (by decide) ?_
    refine w_icmp_ge_t (tgt := 132) dX5_readText_49 rfl ((nI_leI (a := 600) (b := i) (by omega) (by omega)).mpr (by omega)) ?_
    refine w_iconst (v := 0) dX5_readText_132 (by decide) ?_
    refine w_zreturn rfl dX5_readText_133 rfl (Nat.le_of_ble_eq_true rfl) (Nat.le_of_ble_eq_true rfl) ?_
    exact k _ hb hf
  | succ n ih =>
    intro h x P i hi hb hok hf k
    have hw := rB_hw hb
    refine w_iload dX5_readText_44 rfl ?_
    refine w_sipush (v := 600) dX5_readText_46 (by decide) ?_
    refine w_icmp_ge_f (tgt := 132) dX5_readText_49 rfl (fun z => absurd ((nI_leI (a := 600) (b := i) (by omega) (by omega)).mp z) (by omega)) ?_
    refine w_iload_n dX5_readText_52 rfl ?_
    refine w_if_eq_f (tgt := 132) dX5_readText_53 rfl (by decide) ?_
    refine w_aload_n dX5_readText_56 rfl ?_
    refine w_ldcS (i := 0) rfl rfl rfl dX5_readText_57 ?_
    refine w_callV (ci := 5) (d' := d + 10) (mc' := 0) (ms' := 0) (As := [.ref (G.2.2.1 0)]) (st := []) lX5_45 vX5_isWord rfl (hw 0 _ _ rfl rfl) rfl (Nat.le_of_ble_eq_true rfl) dX5_readText_59 (Nat.le_of_ble_eq_true rfl) (Nat.le_of_ble_eq_true rfl) (Nat.le_refl _) (c_isWord (i := 0) rfl (hHas_s hw (as' := [q]) (cs' := [(oC 5 (rdF qt p x))]) [0] rfl rfl) ?_)
    refine w_if_eq (tgt := 72) dX5_readText_62 rfl (fun b62 => ?_) (fun b62 => ?_)
    · refine w_aload_n dX5_readText_72 rfl ?_
      refine w_ldcS (i := 1) rfl rfl rfl dX5_readText_73 ?_
      refine w_callV (ci := 5) (d' := d + 10) (mc' := 0) (ms' := 0) (As := [.ref (G.2.2.1 1)]) (st := []) lX5_45 vX5_isWord rfl (hw 0 _ _ rfl rfl) rfl (Nat.le_of_ble_eq_true rfl) dX5_readText_75 (Nat.le_of_ble_eq_true rfl) (Nat.le_of_ble_eq_true rfl) (Nat.le_refl _) (c_isWord (i := 1) rfl (hHas_s hw (as' := [q]) (cs' := [(oC 5 (rdF qt p x))]) [0] rfl rfl) ?_)
      refine w_if_eq (tgt := 88) dX5_readText_78 rfl (fun b78 => ?_) (fun b78 => ?_)
      · have nd0 := rB_ndq hb
        refine w_heq (hUs_id hw).symm ?_
        refine w_aload_n dX5_readText_88 rfl ?_
        refine w_iconst (v := 1) dX5_readText_89 (by decide) ?_
        refine w_callV (ci := 5) (d' := d + 10) (mc' := 0) (ms' := 0) (As := [.int 1]) (st := []) lX5_58 vX5_failed rfl (hUs_at nd0 0 rfl rfl) rfl (Nat.le_of_ble_eq_true rfl) dX5_readText_90 (Nat.le_of_ble_eq_true rfl) (Nat.le_of_ble_eq_true rfl) (Nat.le_refl _) (c_failed (hHas_sub nd0 (as' := [q]) (cs' := [(oC 5 (rdF qt p x))]) [0] rfl rfl) (nd_sub nd0 (as' := [q]) [0] rfl rfl) ?_)
        refine w_heq (hUs_in nd0 rfl [0] (cs2 := [(oC 5 (rdF qt p (rFl x 1 (nI x.2.2.2.1)))), (aB 600 ft), (oC 4 (plF p P.1 P.2.1))]) rfl rfl) ?_
        refine w_istore_n (ls2 := [some (.ref q), some (.int n0), some (.ref p), some (.int 0), some (.int (nI i))]) dX5_readText_93 (by decide) rfl rfl ?_
        refine w_iload_n dX5_readText_94 rfl ?_
        refine w_if_eq_t (tgt := 107) dX5_readText_95 rfl (by decide) ?_
        refine w_iload_n dX5_readText_107 rfl ?_
        refine w_if_eq_t (tgt := 124) dX5_readText_108 rfl (by decide) ?_
        refine w_iconst (v := 0) dX5_readText_124 (by decide) ?_
        refine w_istore_n (ls2 := [some (.ref q), some (.int n0), some (.ref p), some (.int 0), some (.int (nI i))]) dX5_readText_125 (by decide) rfl rfl ?_
        refine w_iinc (v := nI (i + 1)) (ls2 := [some (.ref q), some (.int n0), some (.ref p), some (.int 0), some (.int (nI (i + 1)))]) dX5_readText_126 rfl (nI_1 _) (by decide) rfl rfl ?_
        refine w_goto (tgt := 44) dX5_readText_129 rfl ?_
        have eL : rLn ft x P = (0, rFl x 1 (nI x.2.2.2.1), P) := by
          rw [rLn, if_pos b62, if_pos b78]
        rw [rTx, eL, if_pos rfl] at k
        exact e_readText (by omega) (k _ (rB_u hb) (rFr_t hf (rFr_u hb)))
      · refine w_aload_n dX5_readText_81 rfl ?_
        refine w_callV (ci := 5) (d' := d + 10) (mc' := 0) (ms' := 0) (As := []) (st := []) lX5_55 vX5_readWave rfl (hw 0 _ _ rfl rfl) rfl (Nat.le_of_ble_eq_true rfl) dX5_readText_82 (Nat.le_of_ble_eq_true rfl) (Nat.le_of_ble_eq_true rfl) (Nat.le_refl _) (c_readWave hb hok (fun h1 hb1 hf1 => ?_))
        have k82 := rWv_ok ft (P := P) hok
        generalize e82 : rWv ft x P = t82 at k82 hb1 ⊢
        have hw1 := rB_hw hb1
        have nd1 := rB_ndq hb1
        refine w_goto (tgt := 93) dX5_readText_85 rfl ?_
        refine w_istore_n (ls2 := [some (.ref q), some (.int n0), some (.ref p), some (.int t82.1), some (.int (nI i))]) dX5_readText_93 (by decide) rfl rfl ?_
        refine w_iload_n dX5_readText_94 rfl ?_
        refine w_if_eq (tgt := 107) dX5_readText_95 rfl (fun b95 => ?_) (fun b95 => ?_)
        · refine w_iload_n dX5_readText_107 rfl ?_
          refine w_if_eq_t (tgt := 124) dX5_readText_108 rfl b95 ?_
          refine w_iconst (v := 0) dX5_readText_124 (by decide) ?_
          refine w_istore_n (ls2 := [some (.ref q), some (.int n0), some (.ref p), some (.int 0), some (.int (nI i))]) dX5_readText_125 (by decide) rfl rfl ?_
          refine w_iinc (v := nI (i + 1)) (ls2 := [some (.ref q), some (.int n0), some (.ref p), some (.int 0), some (.int (nI (i + 1)))]) dX5_readText_126 rfl (nI_1 _) (by decide) rfl rfl ?_
          refine w_goto (tgt := 44) dX5_readText_129 rfl ?_
          have eL : rLn ft x P = t82 := by
            rw [rLn, if_pos b62, if_neg b78, e82]
          rw [rTx, eL, if_pos b95] at k
          exact e_readText (by omega) (k _ hb1 (rFr_t hf hf1))
        · refine w_aload_n dX5_readText_98 rfl ?_
          refine w_get (v := .int t82.2.1.2.2.1) fX5_62 (hw1 0 _ _ rfl rfl) rfl dX5_readText_99 ?_
          refine w_if_ne (tgt := 107) dX5_readText_102 rfl (fun b102 => ?_) (fun b102 => ?_)
          · refine w_iload_n dX5_readText_107 rfl ?_
            refine w_if_eq_f (tgt := 124) dX5_readText_108 rfl b95 ?_
            have nd0 := rB_ndq hb1
            refine w_heq (hUs_id hw1).symm ?_
            refine w_aload_n dX5_readText_111 rfl ?_
            refine w_bipush (v := 59) dX5_readText_112 (by decide) ?_
            refine w_callV (ci := 5) (d' := d + 10) (mc' := 0) (ms' := 0) (As := [.int 59]) (st := []) lX5_65 vX5_takeMark rfl (hUs_at nd0 0 rfl rfl) rfl (Nat.le_of_ble_eq_true rfl) dX5_readText_114 (Nat.le_of_ble_eq_true rfl) (Nat.le_of_ble_eq_true rfl) (Nat.le_refl _) (c_takeMark  (hHas_sub nd0 (as' := [q, qt]) (cs' := [(oC 5 (rdF qt p t82.2.1)), (aB 600 ft)]) [0, 1] rfl rfl) (nd_sub nd0 (as' := [q, qt]) [0, 1] rfl rfl) k82 ?_)
            refine w_heq (hUs_in nd0 rfl [0, 1] (cs2 := [(oC 5 (rdF qt p (rTM ft 59 t82.2.1).2)), (aB 600 ft), (oC 4 (plF p t82.2.2.1 t82.2.2.2.1))]) rfl rfl) ?_
            have k114 : rOk (rTM ft 59 t82.2.1).2 := rTM_ok _ _ k82
            generalize e114 : rTM ft 59 t82.2.1 = t114 at k114 ⊢
            refine w_if_eq (tgt := 124) dX5_readText_117 rfl (fun b117 => ?_) (fun b117 => ?_)
            · refine w_iconst (v := 0) dX5_readText_124 (by decide) ?_
              refine w_istore_n (ls2 := [some (.ref q), some (.int n0), some (.ref p), some (.int 0), some (.int (nI i))]) dX5_readText_125 (by decide) rfl rfl ?_
              refine w_iinc (v := nI (i + 1)) (ls2 := [some (.ref q), some (.int n0), some (.ref p), some (.int 0), some (.int (nI (i + 1)))]) dX5_readText_126 rfl (nI_1 _) (by decide) rfl rfl ?_
              refine w_goto (tgt := 44) dX5_readText_129 rfl ?_
              have eL : rLn ft x P = t82 := by
                rw [rLn, if_pos b62, if_neg b78, e82]
              rw [rTx, eL, if_neg b95, if_neg b102, e114, if_pos b117] at k
              exact e_readText (by omega) (k _ (rB_u hb1) (rFr_t (rFr_t hf hf1) (rFr_u hb1)))
            · refine w_iconst (v := 1) dX5_readText_120 (by decide) ?_
              refine w_goto (tgt := 125) dX5_readText_121 rfl ?_
              refine w_istore_n (ls2 := [some (.ref q), some (.int n0), some (.ref p), some (.int 1), some (.int (nI i))]) dX5_readText_125 (by decide) rfl rfl ?_
              refine w_iinc (v := nI (i + 1)) (ls2 := [some (.ref q), some (.int n0), some (.ref p), some (.int 1), some (.int (nI (i + 1)))]) dX5_readText_126 rfl (nI_1 _) (by decide) rfl rfl ?_
              refine w_goto (tgt := 44) dX5_readText_129 rfl ?_
              have eL : rLn ft x P = t82 := by
                rw [rLn, if_pos b62, if_neg b78, e82]
              rw [rTx, eL, if_neg b95, if_neg b102, e114, if_neg b117] at k
              exact ih _ _ _ (i + 1) (by omega) (rB_u hb1) k114 (rFr_t (rFr_t hf hf1) (rFr_u hb1)) k
          · refine w_iconst (v := 1) dX5_readText_105 (by decide) ?_
            refine w_zreturn rfl dX5_readText_106 rfl (Nat.le_of_ble_eq_true rfl) (Nat.le_of_ble_eq_true rfl) ?_
            have eL : rLn ft x P = t82 := by
              rw [rLn, if_pos b62, if_neg b78, e82]
            rw [rTx, eL, if_neg b95, if_pos b102] at k
            exact k _ hb1 (rFr_t hf hf1)
    · refine w_aload_n dX5_readText_65 rfl ?_
      refine w_callV (ci := 5) (d' := d + 10) (mc' := 0) (ms' := 0) (As := []) (st := []) lX5_49 vX5_readLoop rfl (hw 0 _ _ rfl rfl) rfl (Nat.le_of_ble_eq_true rfl) dX5_readText_66 (Nat.le_of_ble_eq_true rfl) (Nat.le_of_ble_eq_true rfl) (Nat.le_refl _) (c_readLoop hb hok (fun h1 hb1 hf1 => ?_))
      have k66 := rLp_ok ft (P := P) hok
      generalize e66 : rLp ft x P = t66 at k66 hb1 ⊢
      have hw1 := rB_hw hb1
      have nd1 := rB_ndq hb1
      refine w_goto (tgt := 93) dX5_readText_69 rfl ?_
      refine w_istore_n (ls2 := [some (.ref q), some (.int n0), some (.ref p), some (.int t66.1), some (.int (nI i))]) dX5_readText_93 (by decide) rfl rfl ?_
      refine w_iload_n dX5_readText_94 rfl ?_
      refine w_if_eq (tgt := 107) dX5_readText_95 rfl (fun b95 => ?_) (fun b95 => ?_)
      · refine w_iload_n dX5_readText_107 rfl ?_
        refine w_if_eq_t (tgt := 124) dX5_readText_108 rfl b95 ?_
        refine w_iconst (v := 0) dX5_readText_124 (by decide) ?_
        refine w_istore_n (ls2 := [some (.ref q), some (.int n0), some (.ref p), some (.int 0), some (.int (nI i))]) dX5_readText_125 (by decide) rfl rfl ?_
        refine w_iinc (v := nI (i + 1)) (ls2 := [some (.ref q), some (.int n0), some (.ref p), some (.int 0), some (.int (nI (i + 1)))]) dX5_readText_126 rfl (nI_1 _) (by decide) rfl rfl ?_
        refine w_goto (tgt := 44) dX5_readText_129 rfl ?_
        have eL : rLn ft x P = t66 := by
          rw [rLn, if_neg b62, e66]
        rw [rTx, eL, if_pos b95] at k
        exact e_readText (by omega) (k _ hb1 (rFr_t hf hf1))
      · refine w_aload_n dX5_readText_98 rfl ?_
        refine w_get (v := .int t66.2.1.2.2.1) fX5_62 (hw1 0 _ _ rfl rfl) rfl dX5_readText_99 ?_
        refine w_if_ne (tgt := 107) dX5_readText_102 rfl (fun b102 => ?_) (fun b102 => ?_)
        · refine w_iload_n dX5_readText_107 rfl ?_
          refine w_if_eq_f (tgt := 124) dX5_readText_108 rfl b95 ?_
          have nd0 := rB_ndq hb1
          refine w_heq (hUs_id hw1).symm ?_
          refine w_aload_n dX5_readText_111 rfl ?_
          refine w_bipush (v := 59) dX5_readText_112 (by decide) ?_
          refine w_callV (ci := 5) (d' := d + 10) (mc' := 0) (ms' := 0) (As := [.int 59]) (st := []) lX5_65 vX5_takeMark rfl (hUs_at nd0 0 rfl rfl) rfl (Nat.le_of_ble_eq_true rfl) dX5_readText_114 (Nat.le_of_ble_eq_true rfl) (Nat.le_of_ble_eq_true rfl) (Nat.le_refl _) (c_takeMark  (hHas_sub nd0 (as' := [q, qt]) (cs' := [(oC 5 (rdF qt p t66.2.1)), (aB 600 ft)]) [0, 1] rfl rfl) (nd_sub nd0 (as' := [q, qt]) [0, 1] rfl rfl) k66 ?_)
          refine w_heq (hUs_in nd0 rfl [0, 1] (cs2 := [(oC 5 (rdF qt p (rTM ft 59 t66.2.1).2)), (aB 600 ft), (oC 4 (plF p t66.2.2.1 t66.2.2.2.1))]) rfl rfl) ?_
          have k114 : rOk (rTM ft 59 t66.2.1).2 := rTM_ok _ _ k66
          generalize e114 : rTM ft 59 t66.2.1 = t114 at k114 ⊢
          refine w_if_eq (tgt := 124) dX5_readText_117 rfl (fun b117 => ?_) (fun b117 => ?_)
          · refine w_iconst (v := 0) dX5_readText_124 (by decide) ?_
            refine w_istore_n (ls2 := [some (.ref q), some (.int n0), some (.ref p), some (.int 0), some (.int (nI i))]) dX5_readText_125 (by decide) rfl rfl ?_
            refine w_iinc (v := nI (i + 1)) (ls2 := [some (.ref q), some (.int n0), some (.ref p), some (.int 0), some (.int (nI (i + 1)))]) dX5_readText_126 rfl (nI_1 _) (by decide) rfl rfl ?_
            refine w_goto (tgt := 44) dX5_readText_129 rfl ?_
            have eL : rLn ft x P = t66 := by
              rw [rLn, if_neg b62, e66]
            rw [rTx, eL, if_neg b95, if_neg b102, e114, if_pos b117] at k
            exact e_readText (by omega) (k _ (rB_u hb1) (rFr_t (rFr_t hf hf1) (rFr_u hb1)))
          · refine w_iconst (v := 1) dX5_readText_120 (by decide) ?_
            refine w_goto (tgt := 125) dX5_readText_121 rfl ?_
            refine w_istore_n (ls2 := [some (.ref q), some (.int n0), some (.ref p), some (.int 1), some (.int (nI i))]) dX5_readText_125 (by decide) rfl rfl ?_
            refine w_iinc (v := nI (i + 1)) (ls2 := [some (.ref q), some (.int n0), some (.ref p), some (.int 1), some (.int (nI (i + 1)))]) dX5_readText_126 rfl (nI_1 _) (by decide) rfl rfl ?_
            refine w_goto (tgt := 44) dX5_readText_129 rfl ?_
            have eL : rLn ft x P = t66 := by
              rw [rLn, if_neg b62, e66]
            rw [rTx, eL, if_neg b95, if_neg b102, e114, if_neg b117] at k
            exact ih _ _ _ (i + 1) (by omega) (rB_u hb1) k114 (rFr_t (rFr_t hf hf1) (rFr_u hb1)) k
        · refine w_iconst (v := 1) dX5_readText_105 (by decide) ?_
          refine w_zreturn rfl dX5_readText_106 rfl (Nat.le_of_ble_eq_true rfl) (Nat.le_of_ble_eq_true rfl) ?_
          have eL : rLn ft x P = t66 := by
            rw [rLn, if_neg b62, e66]
          rw [rTx, eL, if_neg b95, if_pos b102] at k
          exact k _ hb1 (rFr_t hf hf1)
theorem mnI_E {E : Nat} (h : E ≤ 600) : mnI (nI E) 600 = nI E := by
  have h6 : nI E ≤ nI 600 := (nI_leI (a := E) (b := 600) (by omega) (by omega)).mpr h
  unfold mnI
  rw [if_neg (show ¬ (600 : Int32) < nI E from Int32.not_lt.mpr h6)]
set_option maxRecDepth 100000 in
set_option maxHeartbeats 4000000 in
theorem c_readText {G : wG} {d : Nat} {h : hH} {Q : Option Value → hH → Prop} {q qt p p0 E : Nat} {x : rD} {ft : Nat → Int32} {P : pD} (hq : h.1 q = some (oC 5 (rdF qt p0 x))) (ht : h.1 qt = some (aB 600 ft)) (hp : hPl h p P) (ha : rAp q qt p) (hE : E ≤ 600) (k : ∀ h2, rB h2 q qt p ft (rTx ft 600 (rStp ft (E, 0, x.2.2.1, x.2.2.2.1, x.2.2.2.2.1, x.2.2.2.2.2.1, 0, x.2.2.2.2.2.2.2)) (0, 0, P.2.2.1, P.2.2.2)).2.1 (rTx ft 600 (rStp ft (E, 0, x.2.2.1, x.2.2.2.1, x.2.2.2.2.1, x.2.2.2.2.2.1, 0, x.2.2.2.2.2.2.2)) (0, 0, P.2.2.1, P.2.2.2)).2.2 → rFr q p h h2 → Q (some (.int (rTx ft 600 (rStp ft (E, 0, x.2.2.1, x.2.2.2.1, x.2.2.2.2.1, x.2.2.2.2.2.1, 0, x.2.2.2.2.2.2.2)) (0, 0, P.2.2.1, P.2.2.2)).1)) h2) : Cl G yX5_readText (d + 11) 0 0 [.ref q, .int (nI E), .ref p] h Q := by
  have nd : [q, qt, p].Nodup := nd_sub (ndL ha (j := 0) (by omega) rfl) [0, 1, 2] rfl rfl
  have hw : hHas h [q, qt, p] [(oC 5 [.ref qt, .ref p0, .int (nI x.1), .int (nI x.2.1), .int x.2.2.1, .int (nI x.2.2.2.1), .int x.2.2.2.2.1, .int x.2.2.2.2.2.1, .int x.2.2.2.2.2.2.1, .int x.2.2.2.2.2.2.2]), (aB 600 ft), (oC 4 [.ref (p + 1), .ref (p + 10), .int (nI P.1), .int (nI P.2.1)])] := hHas_cons hq (hHas_cons ht (hHas_cons hp.2.1 hHas_nil))
  refine Cl.of (ini := false) kX5_readText (plainFor_of_name (by decide)) (by decide) (Nat.le_of_ble_eq_true rfl) rfl rfl (fun z => by cases z) ?_
  refine w_heq (hUs_id hw).symm ?_
  refine w_aload_n dX5_readText_0 rfl ?_
  refine w_aload_n dX5_readText_1 rfl ?_
  refine w_put (fs' := [.ref qt, .ref p, .int (nI x.1), .int (nI x.2.1), .int x.2.2.1, .int (nI x.2.2.2.1), .int x.2.2.2.2.1, .int x.2.2.2.2.2.1, .int x.2.2.2.2.2.2.1, .int x.2.2.2.2.2.2.2]) fX5_15 (hUs_at nd 0 rfl rfl) rfl rfl (Nat.le_of_ble_eq_true rfl) rfl dX5_readText_2 ?_
  refine w_heq (hUs_set nd rfl 0 (cs' := [(oC 5 [.ref qt, .ref p, .int (nI x.1), .int (nI x.2.1), .int x.2.2.1, .int (nI x.2.2.2.1), .int x.2.2.2.2.1, .int x.2.2.2.2.2.1, .int x.2.2.2.2.2.2.1, .int x.2.2.2.2.2.2.2]), (aB 600 ft), (oC 4 [.ref (p + 1), .ref (p + 10), .int (nI P.1), .int (nI P.2.1)])]) rfl rfl) ?_
  refine w_aload_n dX5_readText_5 rfl ?_
  refine w_get (v := .ref p) fX5_15 (hUs_at nd 0 rfl rfl) rfl dX5_readText_6 ?_
  refine w_callV (ci := 4) (d' := d + 10) (mc' := 0) (ms' := 0) (As := []) (st := []) lX5_19 vX4_clear rfl (hUs_at nd 2 rfl rfl) rfl (Nat.le_of_ble_eq_true rfl) dX5_readText_9 (Nat.le_of_ble_eq_true rfl) (Nat.le_of_ble_eq_true rfl) (Nat.le_refl _) (c_Plan_clear (hHas_sub nd (as' := [p]) (cs' := [(oC 4 [.ref (p + 1), .ref (p + 10), .int (nI P.1), .int (nI P.2.1)])]) [2] rfl rfl) (nd_sub nd (as' := [p]) [2] rfl rfl) ?_)
  refine w_heq (hUs_in nd rfl [2] (cs2 := [(oC 5 [.ref qt, .ref p, .int (nI x.1), .int (nI x.2.1), .int x.2.2.1, .int (nI x.2.2.2.1), .int x.2.2.2.2.1, .int x.2.2.2.2.2.1, .int x.2.2.2.2.2.2.1, .int x.2.2.2.2.2.2.2]), (aB 600 ft), (oC 4 [.ref (p + 1), .ref (p + 10), .int (nI 0), .int (nI 0)])]) rfl rfl) ?_
  refine w_aload_n dX5_readText_12 rfl ?_
  refine w_iload_n dX5_readText_13 rfl ?_
  refine w_aload_n dX5_readText_14 rfl ?_
  refine w_get (v := .ref qt) fX5_9 (hUs_at nd 0 rfl rfl) rfl dX5_readText_15 ?_
  refine w_alen (v := 600) (hUs_at nd 1 rfl rfl) rfl dX5_readText_18 ?_
  refine w_callS (d' := d + 10) (mc' := 0) (ms' := 0) (As := [.int (nI E), .int 600]) (st := [.ref q]) lX5_24 vJ9_min_7cf53 rfl (Nat.le_of_ble_eq_true rfl) dX5_readText_19 (Nat.le_of_ble_eq_true rfl) (Nat.le_of_ble_eq_true rfl) (Nat.le_refl _) (c_min ?_)
  refine w_top (z := nI E) (mnI_E hE) ?_
  refine w_put (fs' := [.ref qt, .ref p, .int (nI E), .int (nI x.2.1), .int x.2.2.1, .int (nI x.2.2.2.1), .int x.2.2.2.2.1, .int x.2.2.2.2.2.1, .int x.2.2.2.2.2.2.1, .int x.2.2.2.2.2.2.2]) fX5_30 (hUs_at nd 0 rfl rfl) rfl rfl (Nat.le_of_ble_eq_true rfl) rfl dX5_readText_22 ?_
  refine w_heq (hUs_set nd rfl 0 (cs' := [(oC 5 [.ref qt, .ref p, .int (nI E), .int (nI x.2.1), .int x.2.2.1, .int (nI x.2.2.2.1), .int x.2.2.2.2.1, .int x.2.2.2.2.2.1, .int x.2.2.2.2.2.2.1, .int x.2.2.2.2.2.2.2]), (aB 600 ft), (oC 4 [.ref (p + 1), .ref (p + 10), .int (nI 0), .int (nI 0)])]) rfl rfl) ?_
  refine w_aload_n dX5_readText_25 rfl ?_
  refine w_iconst (v := (nI 0)) dX5_readText_26 (by decide) ?_
  refine w_put (fs' := [.ref qt, .ref p, .int (nI E), .int (nI 0), .int x.2.2.1, .int (nI x.2.2.2.1), .int x.2.2.2.2.1, .int x.2.2.2.2.2.1, .int x.2.2.2.2.2.2.1, .int x.2.2.2.2.2.2.2]) fX5_34 (hUs_at nd 0 rfl rfl) rfl rfl (Nat.le_of_ble_eq_true rfl) rfl dX5_readText_27 ?_
  refine w_heq (hUs_set nd rfl 0 (cs' := [(oC 5 [.ref qt, .ref p, .int (nI E), .int (nI 0), .int x.2.2.1, .int (nI x.2.2.2.1), .int x.2.2.2.2.1, .int x.2.2.2.2.2.1, .int x.2.2.2.2.2.2.1, .int x.2.2.2.2.2.2.2]), (aB 600 ft), (oC 4 [.ref (p + 1), .ref (p + 10), .int (nI 0), .int (nI 0)])]) rfl rfl) ?_
  refine w_aload_n dX5_readText_30 rfl ?_
  refine w_iconst (v := 0) dX5_readText_31 (by decide) ?_
  refine w_put (fs' := [.ref qt, .ref p, .int (nI E), .int (nI 0), .int x.2.2.1, .int (nI x.2.2.2.1), .int x.2.2.2.2.1, .int x.2.2.2.2.2.1, .int 0, .int x.2.2.2.2.2.2.2]) fX5_37 (hUs_at nd 0 rfl rfl) rfl rfl (Nat.le_of_ble_eq_true rfl) rfl dX5_readText_32 ?_
  refine w_heq (hUs_set nd rfl 0 (cs' := [(oC 5 [.ref qt, .ref p, .int (nI E), .int (nI 0), .int x.2.2.1, .int (nI x.2.2.2.1), .int x.2.2.2.2.1, .int x.2.2.2.2.2.1, .int 0, .int x.2.2.2.2.2.2.2]), (aB 600 ft), (oC 4 [.ref (p + 1), .ref (p + 10), .int (nI 0), .int (nI 0)])]) rfl rfl) ?_
  have hx0 : rOk (E, 0, x.2.2.1, x.2.2.2.1, x.2.2.2.2.1, x.2.2.2.2.2.1, 0, x.2.2.2.2.2.2.2) := ⟨hE, Nat.zero_le _⟩
  refine w_heq (show _ = hUs h [q, qt, p] [(oC 5 (rdF qt p (E, 0, x.2.2.1, x.2.2.2.1, x.2.2.2.2.1, x.2.2.2.2.2.1, 0, x.2.2.2.2.2.2.2))), (aB 600 ft), (oC 4 [.ref (p + 1), .ref (p + 10), .int (nI 0), .int (nI 0)])] from rfl) ?_
  refine w_aload_n dX5_readText_35 rfl ?_
  refine w_callV (ci := 5) (d' := d + 10) (mc' := 0) (ms' := 0) (As := []) (st := []) lX5_40 vX5_step rfl (hUs_at nd 0 rfl rfl) rfl (Nat.le_of_ble_eq_true rfl) dX5_readText_36 (Nat.le_of_ble_eq_true rfl) (Nat.le_of_ble_eq_true rfl) (Nat.le_refl _) (c_step  (hHas_sub nd (as' := [q, qt]) (cs' := [(oC 5 (rdF qt p (E, 0, x.2.2.1, x.2.2.2.1, x.2.2.2.2.1, x.2.2.2.2.2.1, 0, x.2.2.2.2.2.2.2))), (aB 600 ft)]) [0, 1] rfl rfl) (nd_sub nd (as' := [q, qt]) [0, 1] rfl rfl) hx0 ?_)
  refine w_heq (hUs_in nd rfl [0, 1] (cs2 := [(oC 5 (rdF qt p (rStp ft (E, 0, x.2.2.1, x.2.2.2.1, x.2.2.2.2.1, x.2.2.2.2.2.1, 0, x.2.2.2.2.2.2.2)))), (aB 600 ft), (oC 4 [.ref (p + 1), .ref (p + 10), .int (nI 0), .int (nI 0)])]) rfl rfl) ?_
  have k36 : rOk (rStp ft (E, 0, x.2.2.1, x.2.2.2.1, x.2.2.2.2.1, x.2.2.2.2.2.1, 0, x.2.2.2.2.2.2.2)) := rStp_ok _ hx0
  generalize e36 : rStp ft (E, 0, x.2.2.1, x.2.2.2.1, x.2.2.2.2.1, x.2.2.2.2.2.1, 0, x.2.2.2.2.2.2.2) = t36 at k36 ⊢
  have hp2 : hPl (hUs h [q, qt, p] [(oC 5 (rdF qt p t36)), (aB 600 ft), (oC 4 [.ref (p + 1), .ref (p + 10), .int (nI 0), .int (nI 0)])]) p (0, 0, P.2.2.1, P.2.2.2) := by
    obtain ⟨p1, p2, p3, p4, p5, p6⟩ := hp
    obtain ⟨a1, a2, a3⟩ := ha
    refine ⟨⟨Nat.zero_le _, Nat.zero_le _⟩, hUs_at nd 2 rfl rfl, ?_, ?_, ?_, ?_⟩
    · rw [hUs_ne (by simp; omega)]; exact p3
    · rw [hUs_ne (by simp; omega)]; exact p4
    · intro i hi
      exact hHas_ne (p5 i hi) (fun b hb => hUs_ne (by simp at hb ⊢; omega))
    · intro i hi
      exact hHas_ne (p6 i hi) (fun b hb => hUs_ne (by simp at hb ⊢; omega))
  have hb2 : rB (hUs h [q, qt, p] [(oC 5 (rdF qt p t36)), (aB 600 ft), (oC 4 [.ref (p + 1), .ref (p + 10), .int (nI 0), .int (nI 0)])]) q qt p ft t36 (0, 0, P.2.2.1, P.2.2.2) := ⟨hUs_at nd 0 rfl rfl, hUs_at nd 1 rfl rfl, hp2, ha⟩
  have hf2 : rFr q p h (hUs h [q, qt, p] [(oC 5 (rdF qt p t36)), (aB 600 ft), (oC 4 [.ref (p + 1), .ref (p + 10), .int (nI 0), .int (nI 0)])]) := by
    refine ⟨hUs_2, fun a h1 h2 => ?_⟩
    by_cases z : a = qt
    · subst z; exact (hUs_at nd 1 rfl rfl).trans (hw 1 _ _ rfl rfl).symm
    · exact hUs_ne (by simp; omega)
  refine w_iconst (v := 1) dX5_readText_39 (by decide) ?_
  refine w_istore_n (ls2 := [some (.ref q), some (.int (nI E)), some (.ref p), some (.int 1), none]) dX5_readText_40 (by decide) rfl rfl ?_
  refine w_iconst (v := (nI 0)) dX5_readText_41 (by decide) ?_
  refine w_istore (ls2 := [some (.ref q), some (.int (nI E)), some (.ref p), some (.int 1), some (.int (nI 0))]) dX5_readText_42 (by decide) rfl rfl ?_
  exact l_readText 600 _ _ _ 0 rfl hb2 k36 hf2 (by rw [e36] at k; exact k)
