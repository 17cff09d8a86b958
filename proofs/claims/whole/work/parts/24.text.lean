theorem rLp7_ok (ft : Nat → Int32) (nm : Int32) (n : Nat) (f : Nat → Int32) (bd th : Int32) {x : rD} (h : rOk x) : rOk (rLp7 ft nm n f bd th x).2.1 := by
  unfold rLp7; split
  · exact h
  · exact rNz_ok ft 0 h
theorem rLp6_ok (ft : Nat → Int32) (nm : Int32) (n : Nat) (f : Nat → Int32) (bd : Int32) {x : rD} (h : rOk x) : rOk (rLp6 ft nm n f bd x).2.1 := by
  unfold rLp6; split
  · exact rLp7_ok ft _ _ _ _ _ h
  · exact rLp7_ok ft _ _ _ _ _ (rStp_ok ft h)
theorem rLp5_ok (ft : Nat → Int32) (nm : Int32) (n : Nat) (f : Nat → Int32) {x : rD} (h : rOk x) : rOk (rLp5 ft nm n f x).2.1 := by
  have h5 := rTN_ok ft 1000 9999 h
  unfold rLp5
  generalize rTN ft 1000 9999 x = t at h5 ⊢
  split
  · exact h5
  · exact rLp6_ok ft _ _ _ _ h5
theorem rLp4_ok (ft : Nat → Int32) (nm : Int32) (n : Nat) (f : Nat → Int32) {x : rD} (h : rOk x) : rOk (rLp4 ft nm n f x).2.1 := by
  have h5 := rTW_ok ft [98, 111, 117, 110, 100] 5 h
  unfold rLp4
  generalize rTW ft [98, 111, 117, 110, 100] 5 x = t at h5 ⊢
  split
  · exact h5
  · exact rLp5_ok ft _ _ _ h5
theorem rLp3_ok (ft : Nat → Int32) (nm : Int32) {x : rD} (h : rOk x) : rOk (rLp3 ft nm x).2.1 := by
  have h5 := rFc_ok ft 4 0 (fun _ => 0) h
  unfold rLp3
  generalize rFc ft 4 x 0 (fun _ => 0) = t at h5 ⊢
  split
  · exact h5
  · exact rLp4_ok ft _ _ _ h5
theorem rLp2_ok (ft : Nat → Int32) (nm : Int32) {x : rD} (h : rOk x) : rOk (rLp2 ft nm x).2.1 := by
  have h5 := rTW_ok ft [98, 121] 2 h
  unfold rLp2
  generalize rTW ft [98, 121] 2 x = t at h5 ⊢
  split
  · exact h5
  · exact rLp3_ok ft _ h5
theorem rLp1_ok (ft : Nat → Int32) (P : pD) {x : rD} (h : rOk x) : rOk (rLp1 ft P x).2.1 := by
  have h5 := rNm_ok ft (pL1 P) (rStp_ok ft h)
  unfold rLp1
  generalize rNm ft (pL1 P) (rStp ft x) = t at h5 ⊢
  split
  · exact h5
  · exact rLp2_ok ft _ h5
theorem rLp_ok (ft : Nat → Int32) {x : rD} {P : pD} (h : rOk x) : rOk (rLp ft x P).2.1 := by
  have h5 := rLp1_ok ft P h
  unfold rLp
  generalize rLp1 ft P x = t at h5 ⊢
  split
  · exact h5
  · exact h
theorem rWvL_ok (ft : Nat → Int32) : ∀ (n : Nat) (mo : Int32) {x : rD} {W : wP}, rOk x → W.2.2.2.2.1 ≤ 8 → rOk (rWvL ft n mo x W).2.1
  | 0, _, _, _, h, _ => h
  | n + 1, mo, x, W, h, hn => by
    rw [rWvL]; split
    · exact h
    · split
      · exact h
      · have := rPc_k ft (rStp_ok ft h) hn
        exact rWvL_ok ft n _ this.1 this.2.2.1
theorem rWv_ok (ft : Nat → Int32) {x : rD} {P : pD} (h : rOk x) : rOk (rWv ft x P).2.1 := by
  unfold rWv
  split
  · show rOk (rWv1 ft P x).2.1
    have h1 := rNm_ok ft (pW1 P) (rStp_ok ft h)
    unfold rWv1; split
    · exact h1
    · have := rPc_k ft (W := wvC (P.2.2.2 P.2.1).2) h1 (Nat.zero_le 8)
      exact rWvL_ok ft 9 _ this.1 this.2.2.1
  · exact h
def rLn (ft : Nat → Int32) (x : rD) (P : pD) : Int32 × rD × pD :=
  if isW x.2.2.1 x.2.2.2.2.1 [108, 111, 111, 112] 4 = 0 then (if isW x.2.2.1 x.2.2.2.2.1 [119, 97, 118, 101] 4 = 0 then (0, rFl x 1 (nI x.2.2.2.1), P) else rWv ft x P) else rLp ft x P
def rTx (ft : Nat → Int32) : Nat → rD → pD → Int32 × rD × pD
  | 0, x, P => (0, x, P)
  | n + 1, x, P =>
    if (rLn ft x P).1 = 0 then (0, (rLn ft x P).2.1, (rLn ft x P).2.2)
    else if (rLn ft x P).2.1.2.2.1 = 0 then (1, (rLn ft x P).2.1, (rLn ft x P).2.2)
    else if (rTM ft 59 (rLn ft x P).2.1).1 = 0 then (0, (rTM ft 59 (rLn ft x P).2.1).2, (rLn ft x P).2.2)
    else rTx ft n (rTM ft 59 (rLn ft x P).2.1).2 (rLn ft x P).2.2
theorem rFr_refl {q p : Nat} {h : hH} : rFr q p h h := ⟨rfl, fun _ _ _ => rfl⟩
theorem rFr_t {q p : Nat} {h h1 h2 : hH} (a : rFr q p h h1) (b : rFr q p h1 h2) : rFr q p h h2 := ⟨b.1.trans a.1, fun x e f => (b.2 x e f).trans (a.2 x e f)⟩
theorem rB_ndq {h : hH} {q qt p : Nat} {ft : Nat → Int32} {x : rD} {P : pD} (hb : rB h q qt p ft x P) : [q, qt, p].Nodup := nd_sub (ndL hb.2.2.2 (j := 0) (by omega) rfl) [0, 1, 2] rfl rfl
theorem rB_hw {h : hH} {q qt p : Nat} {ft : Nat → Int32} {x : rD} {P : pD} (hb : rB h q qt p ft x P) : hHas h [q, qt, p] [oC 5 (rdF qt p x), aB 600 ft, oC 4 (plF p P.1 P.2.1)] := hHas_cons hb.1 (hHas_cons hb.2.1 (hHas_cons hb.2.2.1.2.1 hHas_nil))
set_option maxRecDepth 100000 in
set_option maxHeartbeats 4000000 in
theorem e_readText {G : wG} {d : Nat} {h : hH} {Q : Option Value → hH → Prop} {q i : Nat} {n0 : Int32} (hi : i ≤ 600) (k : Q (some (.int 0)) h) : WP G RX5 cX5_readText 4 (some .boolean) false (d + 11) 0 0 0 0 Q 38 [some (.ref q), some (.int n0), some (.int 0), some (.int (nI i))] [] h := by
  refine w_iload_n dX5_readText_38 rfl ?_
  refine w_sipush (v := 600) dX5_readText_39 (by decide) ?_
  refine w_icmp_ge (tgt := 125) dX5_readText_42 rfl (fun b42 => ?_) (fun b42 => ?_)
  · have b42 := (nI_leI (a := 600) (b := i) (by omega) (by omega)).mp b42
    refine w_iconst (v := 0) dX5_readText_125 (by decide) ?_
    refine w_zreturn rfl dX5_readText_126 rfl (Nat.le_of_ble_eq_true rfl) (Nat.le_of_ble_eq_true rfl) ?_
    exact k
  · have b42 : ¬ 600 ≤ i := fun z => b42 ((nI_leI (a := 600) (b := i) (by omega) (by omega)).mpr z)
    refine w_iload_n dX5_readText_45 rfl ?_
    refine w_if_eq_t (tgt := 125) dX5_readText_46 rfl (by decide) ?_
    refine w_iconst (v := 0) dX5_readText_125 (by decide) ?_
    refine w_zreturn rfl dX5_readText_126 rfl (Nat.le_of_ble_eq_true rfl) (Nat.le_of_ble_eq_true rfl) ?_
    exact k
set_option maxRecDepth 100000 in
set_option maxHeartbeats 4000000 in
theorem l_readText {G : wG} {d : Nat} {Q : Option Value → hH → Prop} {h0 : hH} {q qt p : Nat} {ft : Nat → Int32} {n0 : Int32}  : ∀ (n : Nat) (h : hH) (x : rD) (P : pD) (i : Nat), i + n = 600 → rB h q qt p ft x P → rOk x → rFr q p h0 h → (∀ h2, rB h2 q qt p ft (rTx ft n x P).2.1 (rTx ft n x P).2.2 → rFr q p h0 h2 → Q (some (.int (rTx ft n x P).1)) h2) → WP G RX5 cX5_readText 4 (some .boolean) false (d + 11) 0 0 0 0 Q 38 [some (.ref q), some (.int n0), some (.int 1), some (.int (nI i))] [] h := by
  intro n
  induction n with
  | zero =>
    intro h x P i hi hb hok hf k
    refine w_iload_n dX5_readText_38 rfl ?_
    refine w_sipush (v := 600) dX5_readText_39 (by decide) ?_
    refine w_icmp_ge_t (tgt := 125) dX5_readText_42 rfl ((nI_leI (a := 600) (b := i) (by omega) (by omega)).mpr (by omega)) ?_
    refine w_iconst (v := 0) dX5_readText_125 (by decide) ?_
    refine w_zreturn rfl dX5_readText_126 rfl (Nat.le_of_ble_eq_true rfl) (Nat.le_of_ble_eq_true rfl) ?_
    exact k _ hb hf
  | succ n ih =>
    intro h x P i hi hb hok hf k
    have hw := rB_hw hb
    refine w_iload_n dX5_readText_38 rfl ?_
    refine w_sipush (v := 600) dX5_readText_39 (by decide) ?_
    refine w_icmp_ge_f (tgt := 125) dX5_readText_42 rfl (fun z => absurd ((nI_leI (a := 600) (b := i) (by omega) (by omega)).mp z) (by omega)) ?_
    refine w_iload_n dX5_readText_45 rfl ?_
    refine w_if_eq_f (tgt := 125) dX5_readText_46 rfl (by decide) ?_
    refine w_aload_n dX5_readText_49 rfl ?_
    refine w_ldcS (i := 0) rfl rfl rfl dX5_readText_50 ?_
    refine w_callV (ci := 5) (d' := d + 10) (mc' := 0) (ms' := 0) (As := [.ref (G.2.2.1 0)]) (st := []) lX5_46 vX5_isWord rfl (hw 0 _ _ rfl rfl) rfl (Nat.le_of_ble_eq_true rfl) dX5_readText_52 (Nat.le_of_ble_eq_true rfl) (Nat.le_of_ble_eq_true rfl) (Nat.le_refl _) (c_isWord (i := 0) rfl (hHas_s hw (as' := [q]) (cs' := [(oC 5 (rdF qt p x))]) [0] rfl rfl) ?_)
    refine w_if_eq (tgt := 65) dX5_readText_55 rfl (fun b55 => ?_) (fun b55 => ?_)
    · refine w_aload_n dX5_readText_65 rfl ?_
      refine w_ldcS (i := 1) rfl rfl rfl dX5_readText_66 ?_
      refine w_callV (ci := 5) (d' := d + 10) (mc' := 0) (ms' := 0) (As := [.ref (G.2.2.1 1)]) (st := []) lX5_46 vX5_isWord rfl (hw 0 _ _ rfl rfl) rfl (Nat.le_of_ble_eq_true rfl) dX5_readText_68 (Nat.le_of_ble_eq_true rfl) (Nat.le_of_ble_eq_true rfl) (Nat.le_refl _) (c_isWord (i := 1) rfl (hHas_s hw (as' := [q]) (cs' := [(oC 5 (rdF qt p x))]) [0] rfl rfl) ?_)
      refine w_if_eq (tgt := 81) dX5_readText_71 rfl (fun b71 => ?_) (fun b71 => ?_)
      · have nd0 := rB_ndq hb
        refine w_heq (hUs_id hw).symm ?_
        refine w_aload_n dX5_readText_81 rfl ?_
        refine w_iconst (v := 1) dX5_readText_82 (by decide) ?_
        refine w_callV (ci := 5) (d' := d + 10) (mc' := 0) (ms' := 0) (As := [.int 1]) (st := []) lX5_59 vX5_failed rfl (hUs_at nd0 0 rfl rfl) rfl (Nat.le_of_ble_eq_true rfl) dX5_readText_83 (Nat.le_of_ble_eq_true rfl) (Nat.le_of_ble_eq_true rfl) (Nat.le_refl _) (c_failed (hHas_sub nd0 (as' := [q]) (cs' := [(oC 5 (rdF qt p x))]) [0] rfl rfl) (nd_sub nd0 (as' := [q]) [0] rfl rfl) ?_)
        refine w_heq (hUs_in nd0 rfl [0] (cs2 := [(oC 5 (rdF qt p (rFl x 1 (nI x.2.2.2.1)))), (aB 600 ft), (oC 4 (plF p P.1 P.2.1))]) rfl rfl) ?_
        refine w_istore_n (ls2 := [some (.ref q), some (.int n0), some (.int 0), some (.int (nI i))]) dX5_readText_86 (by decide) rfl rfl ?_
        refine w_iload_n dX5_readText_87 rfl ?_
        refine w_if_eq_t (tgt := 100) dX5_readText_88 rfl (by decide) ?_
        refine w_iload_n dX5_readText_100 rfl ?_
        refine w_if_eq_t (tgt := 117) dX5_readText_101 rfl (by decide) ?_
        refine w_iconst (v := 0) dX5_readText_117 (by decide) ?_
        refine w_istore_n (ls2 := [some (.ref q), some (.int n0), some (.int 0), some (.int (nI i))]) dX5_readText_118 (by decide) rfl rfl ?_
        refine w_iinc (v := nI (i + 1)) (ls2 := [some (.ref q), some (.int n0), some (.int 0), some (.int (nI (i + 1)))]) dX5_readText_119 rfl (nI_1 _) (by decide) rfl rfl ?_
        refine w_goto (tgt := 38) dX5_readText_122 rfl ?_
        have eL : rLn ft x P = (0, rFl x 1 (nI x.2.2.2.1), P) := by
          rw [rLn, if_pos b55, if_pos b71]
        rw [rTx, eL, if_pos rfl] at k
        exact e_readText (by omega) (k _ (rB_u hb) (rFr_t hf (rFr_u hb)))
      · refine w_aload_n dX5_readText_74 rfl ?_
        refine w_callV (ci := 5) (d' := d + 10) (mc' := 0) (ms' := 0) (As := []) (st := []) lX5_56 vX5_readWave rfl (hw 0 _ _ rfl rfl) rfl (Nat.le_of_ble_eq_true rfl) dX5_readText_75 (Nat.le_of_ble_eq_true rfl) (Nat.le_of_ble_eq_true rfl) (Nat.le_refl _) (c_readWave hb hok (fun h1 hb1 hf1 => ?_))
        have k75 := rWv_ok ft (P := P) hok
        generalize e75 : rWv ft x P = t75 at k75 hb1 ⊢
        have hw1 := rB_hw hb1
        have nd1 := rB_ndq hb1
        refine w_goto (tgt := 86) dX5_readText_78 rfl ?_
        refine w_istore_n (ls2 := [some (.ref q), some (.int n0), some (.int t75.1), some (.int (nI i))]) dX5_readText_86 (by decide) rfl rfl ?_
        refine w_iload_n dX5_readText_87 rfl ?_
        refine w_if_eq (tgt := 100) dX5_readText_88 rfl (fun b88 => ?_) (fun b88 => ?_)
        · refine w_iload_n dX5_readText_100 rfl ?_
          refine w_if_eq_t (tgt := 117) dX5_readText_101 rfl b88 ?_
          refine w_iconst (v := 0) dX5_readText_117 (by decide) ?_
          refine w_istore_n (ls2 := [some (.ref q), some (.int n0), some (.int 0), some (.int (nI i))]) dX5_readText_118 (by decide) rfl rfl ?_
          refine w_iinc (v := nI (i + 1)) (ls2 := [some (.ref q), some (.int n0), some (.int 0), some (.int (nI (i + 1)))]) dX5_readText_119 rfl (nI_1 _) (by decide) rfl rfl ?_
          refine w_goto (tgt := 38) dX5_readText_122 rfl ?_
          have eL : rLn ft x P = t75 := by
            rw [rLn, if_pos b55, if_neg b71, e75]
          rw [rTx, eL, if_pos b88] at k
          exact e_readText (by omega) (k _ hb1 (rFr_t hf hf1))
        · refine w_aload_n dX5_readText_91 rfl ?_
          refine w_get (v := .int t75.2.1.2.2.1) fX5_63 (hw1 0 _ _ rfl rfl) rfl dX5_readText_92 ?_
          refine w_if_ne (tgt := 100) dX5_readText_95 rfl (fun b95 => ?_) (fun b95 => ?_)
          · refine w_iload_n dX5_readText_100 rfl ?_
            refine w_if_eq_f (tgt := 117) dX5_readText_101 rfl b88 ?_
            have nd0 := rB_ndq hb1
            refine w_heq (hUs_id hw1).symm ?_
            refine w_aload_n dX5_readText_104 rfl ?_
            refine w_bipush (v := 59) dX5_readText_105 (by decide) ?_
            refine w_callV (ci := 5) (d' := d + 10) (mc' := 0) (ms' := 0) (As := [.int 59]) (st := []) lX5_66 vX5_takeMark rfl (hUs_at nd0 0 rfl rfl) rfl (Nat.le_of_ble_eq_true rfl) dX5_readText_107 (Nat.le_of_ble_eq_true rfl) (Nat.le_of_ble_eq_true rfl) (Nat.le_refl _) (c_takeMark  (hHas_sub nd0 (as' := [q, qt]) (cs' := [(oC 5 (rdF qt p t75.2.1)), (aB 600 ft)]) [0, 1] rfl rfl) (nd_sub nd0 (as' := [q, qt]) [0, 1] rfl rfl) k75 ?_)
            refine w_heq (hUs_in nd0 rfl [0, 1] (cs2 := [(oC 5 (rdF qt p (rTM ft 59 t75.2.1).2)), (aB 600 ft), (oC 4 (plF p t75.2.2.1 t75.2.2.2.1))]) rfl rfl) ?_
            have k107 : rOk (rTM ft 59 t75.2.1).2 := rTM_ok _ _ k75
            generalize e107 : rTM ft 59 t75.2.1 = t107 at k107 ⊢
            refine w_if_eq (tgt := 117) dX5_readText_110 rfl (fun b110 => ?_) (fun b110 => ?_)
            · refine w_iconst (v := 0) dX5_readText_117 (by decide) ?_
              refine w_istore_n (ls2 := [some (.ref q), some (.int n0), some (.int 0), some (.int (nI i))]) dX5_readText_118 (by decide) rfl rfl ?_
              refine w_iinc (v := nI (i + 1)) (ls2 := [some (.ref q), some (.int n0), some (.int 0), some (.int (nI (i + 1)))]) dX5_readText_119 rfl (nI_1 _) (by decide) rfl rfl ?_
              refine w_goto (tgt := 38) dX5_readText_122 rfl ?_
              have eL : rLn ft x P = t75 := by
                rw [rLn, if_pos b55, if_neg b71, e75]
              rw [rTx, eL, if_neg b88, if_neg b95, e107, if_pos b110] at k
              exact e_readText (by omega) (k _ (rB_u hb1) (rFr_t (rFr_t hf hf1) (rFr_u hb1)))
            · refine w_iconst (v := 1) dX5_readText_113 (by decide) ?_
              refine w_goto (tgt := 118) dX5_readText_114 rfl ?_
              refine w_istore_n (ls2 := [some (.ref q), some (.int n0), some (.int 1), some (.int (nI i))]) dX5_readText_118 (by decide) rfl rfl ?_
              refine w_iinc (v := nI (i + 1)) (ls2 := [some (.ref q), some (.int n0), some (.int 1), some (.int (nI (i + 1)))]) dX5_readText_119 rfl (nI_1 _) (by decide) rfl rfl ?_
              refine w_goto (tgt := 38) dX5_readText_122 rfl ?_
              have eL : rLn ft x P = t75 := by
                rw [rLn, if_pos b55, if_neg b71, e75]
              rw [rTx, eL, if_neg b88, if_neg b95, e107, if_neg b110] at k
              exact ih _ _ _ (i + 1) (by omega) (rB_u hb1) k107 (rFr_t (rFr_t hf hf1) (rFr_u hb1)) k
          · refine w_iconst (v := 1) dX5_readText_98 (by decide) ?_
            refine w_zreturn rfl dX5_readText_99 rfl (Nat.le_of_ble_eq_true rfl) (Nat.le_of_ble_eq_true rfl) ?_
            have eL : rLn ft x P = t75 := by
              rw [rLn, if_pos b55, if_neg b71, e75]
            rw [rTx, eL, if_neg b88, if_pos b95] at k
            exact k _ hb1 (rFr_t hf hf1)
    · refine w_aload_n dX5_readText_58 rfl ?_
      refine w_callV (ci := 5) (d' := d + 10) (mc' := 0) (ms' := 0) (As := []) (st := []) lX5_50 vX5_readLoop rfl (hw 0 _ _ rfl rfl) rfl (Nat.le_of_ble_eq_true rfl) dX5_readText_59 (Nat.le_of_ble_eq_true rfl) (Nat.le_of_ble_eq_true rfl) (Nat.le_refl _) (c_readLoop hb hok (fun h1 hb1 hf1 => ?_))
      have k59 := rLp_ok ft (P := P) hok
      generalize e59 : rLp ft x P = t59 at k59 hb1 ⊢
      have hw1 := rB_hw hb1
      have nd1 := rB_ndq hb1
      refine w_goto (tgt := 86) dX5_readText_62 rfl ?_
      refine w_istore_n (ls2 := [some (.ref q), some (.int n0), some (.int t59.1), some (.int (nI i))]) dX5_readText_86 (by decide) rfl rfl ?_
      refine w_iload_n dX5_readText_87 rfl ?_
      refine w_if_eq (tgt := 100) dX5_readText_88 rfl (fun b88 => ?_) (fun b88 => ?_)
      · refine w_iload_n dX5_readText_100 rfl ?_
        refine w_if_eq_t (tgt := 117) dX5_readText_101 rfl b88 ?_
        refine w_iconst (v := 0) dX5_readText_117 (by decide) ?_
        refine w_istore_n (ls2 := [some (.ref q), some (.int n0), some (.int 0), some (.int (nI i))]) dX5_readText_118 (by decide) rfl rfl ?_
        refine w_iinc (v := nI (i + 1)) (ls2 := [some (.ref q), some (.int n0), some (.int 0), some (.int (nI (i + 1)))]) dX5_readText_119 rfl (nI_1 _) (by decide) rfl rfl ?_
        refine w_goto (tgt := 38) dX5_readText_122 rfl ?_
        have eL : rLn ft x P = t59 := by
          rw [rLn, if_neg b55, e59]
        rw [rTx, eL, if_pos b88] at k
        exact e_readText (by omega) (k _ hb1 (rFr_t hf hf1))
      · refine w_aload_n dX5_readText_91 rfl ?_
        refine w_get (v := .int t59.2.1.2.2.1) fX5_63 (hw1 0 _ _ rfl rfl) rfl dX5_readText_92 ?_
        refine w_if_ne (tgt := 100) dX5_readText_95 rfl (fun b95 => ?_) (fun b95 => ?_)
        · refine w_iload_n dX5_readText_100 rfl ?_
          refine w_if_eq_f (tgt := 117) dX5_readText_101 rfl b88 ?_
          have nd0 := rB_ndq hb1
          refine w_heq (hUs_id hw1).symm ?_
          refine w_aload_n dX5_readText_104 rfl ?_
          refine w_bipush (v := 59) dX5_readText_105 (by decide) ?_
          refine w_callV (ci := 5) (d' := d + 10) (mc' := 0) (ms' := 0) (As := [.int 59]) (st := []) lX5_66 vX5_takeMark rfl (hUs_at nd0 0 rfl rfl) rfl (Nat.le_of_ble_eq_true rfl) dX5_readText_107 (Nat.le_of_ble_eq_true rfl) (Nat.le_of_ble_eq_true rfl) (Nat.le_refl _) (c_takeMark  (hHas_sub nd0 (as' := [q, qt]) (cs' := [(oC 5 (rdF qt p t59.2.1)), (aB 600 ft)]) [0, 1] rfl rfl) (nd_sub nd0 (as' := [q, qt]) [0, 1] rfl rfl) k59 ?_)
          refine w_heq (hUs_in nd0 rfl [0, 1] (cs2 := [(oC 5 (rdF qt p (rTM ft 59 t59.2.1).2)), (aB 600 ft), (oC 4 (plF p t59.2.2.1 t59.2.2.2.1))]) rfl rfl) ?_
          have k107 : rOk (rTM ft 59 t59.2.1).2 := rTM_ok _ _ k59
          generalize e107 : rTM ft 59 t59.2.1 = t107 at k107 ⊢
          refine w_if_eq (tgt := 117) dX5_readText_110 rfl (fun b110 => ?_) (fun b110 => ?_)
          · refine w_iconst (v := 0) dX5_readText_117 (by decide) ?_
            refine w_istore_n (ls2 := [some (.ref q), some (.int n0), some (.int 0), some (.int (nI i))]) dX5_readText_118 (by decide) rfl rfl ?_
            refine w_iinc (v := nI (i + 1)) (ls2 := [some (.ref q), some (.int n0), some (.int 0), some (.int (nI (i + 1)))]) dX5_readText_119 rfl (nI_1 _) (by decide) rfl rfl ?_
            refine w_goto (tgt := 38) dX5_readText_122 rfl ?_
            have eL : rLn ft x P = t59 := by
              rw [rLn, if_neg b55, e59]
            rw [rTx, eL, if_neg b88, if_neg b95, e107, if_pos b110] at k
            exact e_readText (by omega) (k _ (rB_u hb1) (rFr_t (rFr_t hf hf1) (rFr_u hb1)))
          · refine w_iconst (v := 1) dX5_readText_113 (by decide) ?_
            refine w_goto (tgt := 118) dX5_readText_114 rfl ?_
            refine w_istore_n (ls2 := [some (.ref q), some (.int n0), some (.int 1), some (.int (nI i))]) dX5_readText_118 (by decide) rfl rfl ?_
            refine w_iinc (v := nI (i + 1)) (ls2 := [some (.ref q), some (.int n0), some (.int 1), some (.int (nI (i + 1)))]) dX5_readText_119 rfl (nI_1 _) (by decide) rfl rfl ?_
            refine w_goto (tgt := 38) dX5_readText_122 rfl ?_
            have eL : rLn ft x P = t59 := by
              rw [rLn, if_neg b55, e59]
            rw [rTx, eL, if_neg b88, if_neg b95, e107, if_neg b110] at k
            exact ih _ _ _ (i + 1) (by omega) (rB_u hb1) k107 (rFr_t (rFr_t hf hf1) (rFr_u hb1)) k
        · refine w_iconst (v := 1) dX5_readText_98 (by decide) ?_
          refine w_zreturn rfl dX5_readText_99 rfl (Nat.le_of_ble_eq_true rfl) (Nat.le_of_ble_eq_true rfl) ?_
          have eL : rLn ft x P = t59 := by
            rw [rLn, if_neg b55, e59]
          rw [rTx, eL, if_neg b88, if_pos b95] at k
          exact k _ hb1 (rFr_t hf hf1)
theorem mnI_E {E : Nat} (h : E ≤ 600) : mnI (nI E) 600 = nI E := by
  have h6 : nI E ≤ nI 600 := (nI_leI (a := E) (b := 600) (by omega) (by omega)).mpr h
  unfold mnI
  rw [if_neg (show ¬ (600 : Int32) < nI E from Int32.not_lt.mpr h6)]
set_option maxRecDepth 100000 in
set_option maxHeartbeats 4000000 in
theorem c_readText {G : wG} {d : Nat} {h : hH} {Q : Option Value → hH → Prop} {q qt p E : Nat} {x : rD} {ft : Nat → Int32} {P : pD} (hq : h.1 q = some (oC 5 (rdF qt p x))) (ht : h.1 qt = some (aB 600 ft)) (hp : hPl h p P) (ha : rAp q qt p) (hE : E ≤ 600) (k : ∀ h2, rB h2 q qt p ft (rTx ft 600 (rStp ft (E, 0, x.2.2.1, x.2.2.2.1, x.2.2.2.2.1, x.2.2.2.2.2.1, 0, x.2.2.2.2.2.2.2)) (0, 0, P.2.2.1, P.2.2.2)).2.1 (rTx ft 600 (rStp ft (E, 0, x.2.2.1, x.2.2.2.1, x.2.2.2.2.1, x.2.2.2.2.2.1, 0, x.2.2.2.2.2.2.2)) (0, 0, P.2.2.1, P.2.2.2)).2.2 → rFr q p h h2 → Q (some (.int (rTx ft 600 (rStp ft (E, 0, x.2.2.1, x.2.2.2.1, x.2.2.2.2.1, x.2.2.2.2.2.1, 0, x.2.2.2.2.2.2.2)) (0, 0, P.2.2.1, P.2.2.2)).1)) h2) : Cl G yX5_readText (d + 11) 0 0 [.ref q, .int (nI E)] h Q := by
  have nd : [q, qt, p].Nodup := nd_sub (ndL ha (j := 0) (by omega) rfl) [0, 1, 2] rfl rfl
  have hw : hHas h [q, qt, p] [(oC 5 [.ref qt, .ref p, .int (nI x.1), .int (nI x.2.1), .int x.2.2.1, .int (nI x.2.2.2.1), .int x.2.2.2.2.1, .int x.2.2.2.2.2.1, .int x.2.2.2.2.2.2.1, .int x.2.2.2.2.2.2.2]), (aB 600 ft), (oC 4 [.ref (p + 1), .ref (p + 10), .int (nI P.1), .int (nI P.2.1)])] := hHas_cons hq (hHas_cons ht (hHas_cons hp.2.1 hHas_nil))
  refine Cl.of (ini := false) kX5_readText (plainFor_of_name (by decide)) (by decide) (Nat.le_of_ble_eq_true rfl) rfl rfl (fun z => by cases z) ?_
  refine w_heq (hUs_id hw).symm ?_
  refine w_aload_n dX5_readText_0 rfl ?_
  refine w_get (v := .ref p) fX5_18 (hUs_at nd 0 rfl rfl) rfl dX5_readText_1 ?_
  refine w_callV (ci := 4) (d' := d + 10) (mc' := 0) (ms' := 0) (As := []) (st := []) lX5_22 vX4_clear rfl (hUs_at nd 2 rfl rfl) rfl (Nat.le_of_ble_eq_true rfl) dX5_readText_4 (Nat.le_of_ble_eq_true rfl) (Nat.le_of_ble_eq_true rfl) (Nat.le_refl _) (c_Plan_clear (hHas_sub nd (as' := [p]) (cs' := [(oC 4 [.ref (p + 1), .ref (p + 10), .int (nI P.1), .int (nI P.2.1)])]) [2] rfl rfl) (nd_sub nd (as' := [p]) [2] rfl rfl) ?_)
  refine w_heq (hUs_in nd rfl [2] (cs2 := [(oC 5 [.ref qt, .ref p, .int (nI x.1), .int (nI x.2.1), .int x.2.2.1, .int (nI x.2.2.2.1), .int x.2.2.2.2.1, .int x.2.2.2.2.2.1, .int x.2.2.2.2.2.2.1, .int x.2.2.2.2.2.2.2]), (aB 600 ft), (oC 4 [.ref (p + 1), .ref (p + 10), .int (nI 0), .int (nI 0)])]) rfl rfl) ?_
  refine w_aload_n dX5_readText_7 rfl ?_
  refine w_iload_n dX5_readText_8 rfl ?_
  refine w_aload_n dX5_readText_9 rfl ?_
  refine w_get (v := .ref qt) fX5_9 (hUs_at nd 0 rfl rfl) rfl dX5_readText_10 ?_
  refine w_alen (v := 600) (hUs_at nd 1 rfl rfl) rfl dX5_readText_13 ?_
  refine w_callS (d' := d + 10) (mc' := 0) (ms' := 0) (As := [.int (nI E), .int 600]) (st := [.ref q]) lX5_25 vJ9_min_7cf53 rfl (Nat.le_of_ble_eq_true rfl) dX5_readText_14 (Nat.le_of_ble_eq_true rfl) (Nat.le_of_ble_eq_true rfl) (Nat.le_refl _) (c_min ?_)
  refine w_top (z := nI E) (mnI_E hE) ?_
  refine w_put (fs' := [.ref qt, .ref p, .int (nI E), .int (nI x.2.1), .int x.2.2.1, .int (nI x.2.2.2.1), .int x.2.2.2.2.1, .int x.2.2.2.2.2.1, .int x.2.2.2.2.2.2.1, .int x.2.2.2.2.2.2.2]) fX5_31 (hUs_at nd 0 rfl rfl) rfl rfl (Nat.le_of_ble_eq_true rfl) rfl dX5_readText_17 ?_
  refine w_heq (hUs_set nd rfl 0 (cs' := [(oC 5 [.ref qt, .ref p, .int (nI E), .int (nI x.2.1), .int x.2.2.1, .int (nI x.2.2.2.1), .int x.2.2.2.2.1, .int x.2.2.2.2.2.1, .int x.2.2.2.2.2.2.1, .int x.2.2.2.2.2.2.2]), (aB 600 ft), (oC 4 [.ref (p + 1), .ref (p + 10), .int (nI 0), .int (nI 0)])]) rfl rfl) ?_
  refine w_aload_n dX5_readText_20 rfl ?_
  refine w_iconst (v := (nI 0)) dX5_readText_21 (by decide) ?_
  refine w_put (fs' := [.ref qt, .ref p, .int (nI E), .int (nI 0), .int x.2.2.1, .int (nI x.2.2.2.1), .int x.2.2.2.2.1, .int x.2.2.2.2.2.1, .int x.2.2.2.2.2.2.1, .int x.2.2.2.2.2.2.2]) fX5_35 (hUs_at nd 0 rfl rfl) rfl rfl (Nat.le_of_ble_eq_true rfl) rfl dX5_readText_22 ?_
  refine w_heq (hUs_set nd rfl 0 (cs' := [(oC 5 [.ref qt, .ref p, .int (nI E), .int (nI 0), .int x.2.2.1, .int (nI x.2.2.2.1), .int x.2.2.2.2.1, .int x.2.2.2.2.2.1, .int x.2.2.2.2.2.2.1, .int x.2.2.2.2.2.2.2]), (aB 600 ft), (oC 4 [.ref (p + 1), .ref (p + 10), .int (nI 0), .int (nI 0)])]) rfl rfl) ?_
  refine w_aload_n dX5_readText_25 rfl ?_
  refine w_iconst (v := 0) dX5_readText_26 (by decide) ?_
  refine w_put (fs' := [.ref qt, .ref p, .int (nI E), .int (nI 0), .int x.2.2.1, .int (nI x.2.2.2.1), .int x.2.2.2.2.1, .int x.2.2.2.2.2.1, .int 0, .int x.2.2.2.2.2.2.2]) fX5_38 (hUs_at nd 0 rfl rfl) rfl rfl (Nat.le_of_ble_eq_true rfl) rfl dX5_readText_27 ?_
  refine w_heq (hUs_set nd rfl 0 (cs' := [(oC 5 [.ref qt, .ref p, .int (nI E), .int (nI 0), .int x.2.2.1, .int (nI x.2.2.2.1), .int x.2.2.2.2.1, .int x.2.2.2.2.2.1, .int 0, .int x.2.2.2.2.2.2.2]), (aB 600 ft), (oC 4 [.ref (p + 1), .ref (p + 10), .int (nI 0), .int (nI 0)])]) rfl rfl) ?_
  have hx0 : rOk (E, 0, x.2.2.1, x.2.2.2.1, x.2.2.2.2.1, x.2.2.2.2.2.1, 0, x.2.2.2.2.2.2.2) := ⟨hE, Nat.zero_le _⟩
  refine w_heq (show _ = hUs h [q, qt, p] [(oC 5 (rdF qt p (E, 0, x.2.2.1, x.2.2.2.1, x.2.2.2.2.1, x.2.2.2.2.2.1, 0, x.2.2.2.2.2.2.2))), (aB 600 ft), (oC 4 [.ref (p + 1), .ref (p + 10), .int (nI 0), .int (nI 0)])] from rfl) ?_
  refine w_aload_n dX5_readText_30 rfl ?_
  refine w_callV (ci := 5) (d' := d + 10) (mc' := 0) (ms' := 0) (As := []) (st := []) lX5_41 vX5_step rfl (hUs_at nd 0 rfl rfl) rfl (Nat.le_of_ble_eq_true rfl) dX5_readText_31 (Nat.le_of_ble_eq_true rfl) (Nat.le_of_ble_eq_true rfl) (Nat.le_refl _) (c_step  (hHas_sub nd (as' := [q, qt]) (cs' := [(oC 5 (rdF qt p (E, 0, x.2.2.1, x.2.2.2.1, x.2.2.2.2.1, x.2.2.2.2.2.1, 0, x.2.2.2.2.2.2.2))), (aB 600 ft)]) [0, 1] rfl rfl) (nd_sub nd (as' := [q, qt]) [0, 1] rfl rfl) hx0 ?_)
  refine w_heq (hUs_in nd rfl [0, 1] (cs2 := [(oC 5 (rdF qt p (rStp ft (E, 0, x.2.2.1, x.2.2.2.1, x.2.2.2.2.1, x.2.2.2.2.2.1, 0, x.2.2.2.2.2.2.2)))), (aB 600 ft), (oC 4 [.ref (p + 1), .ref (p + 10), .int (nI 0), .int (nI 0)])]) rfl rfl) ?_
  have k31 : rOk (rStp ft (E, 0, x.2.2.1, x.2.2.2.1, x.2.2.2.2.1, x.2.2.2.2.2.1, 0, x.2.2.2.2.2.2.2)) := rStp_ok _ hx0
  generalize e31 : rStp ft (E, 0, x.2.2.1, x.2.2.2.1, x.2.2.2.2.1, x.2.2.2.2.2.1, 0, x.2.2.2.2.2.2.2) = t31 at k31 ⊢
  have hp2 : hPl (hUs h [q, qt, p] [(oC 5 (rdF qt p t31)), (aB 600 ft), (oC 4 [.ref (p + 1), .ref (p + 10), .int (nI 0), .int (nI 0)])]) p (0, 0, P.2.2.1, P.2.2.2) := by
    obtain ⟨p1, p2, p3, p4, p5, p6⟩ := hp
    obtain ⟨a1, a2, a3⟩ := ha
    refine ⟨⟨Nat.zero_le _, Nat.zero_le _⟩, hUs_at nd 2 rfl rfl, ?_, ?_, ?_, ?_⟩
    · rw [hUs_ne (by simp; omega)]; exact p3
    · rw [hUs_ne (by simp; omega)]; exact p4
    · intro i hi
      exact hHas_ne (p5 i hi) (fun b hb => hUs_ne (by simp at hb ⊢; omega))
    · intro i hi
      exact hHas_ne (p6 i hi) (fun b hb => hUs_ne (by simp at hb ⊢; omega))
  have hb2 : rB (hUs h [q, qt, p] [(oC 5 (rdF qt p t31)), (aB 600 ft), (oC 4 [.ref (p + 1), .ref (p + 10), .int (nI 0), .int (nI 0)])]) q qt p ft t31 (0, 0, P.2.2.1, P.2.2.2) := ⟨hUs_at nd 0 rfl rfl, hUs_at nd 1 rfl rfl, hp2, ha⟩
  have hf2 : rFr q p h (hUs h [q, qt, p] [(oC 5 (rdF qt p t31)), (aB 600 ft), (oC 4 [.ref (p + 1), .ref (p + 10), .int (nI 0), .int (nI 0)])]) := by
    refine ⟨hUs_2, fun a h1 h2 => ?_⟩
    by_cases z : a = qt
    · subst z; exact (hUs_at nd 1 rfl rfl).trans (hw 1 _ _ rfl rfl).symm
    · exact hUs_ne (by simp; omega)
  refine w_iconst (v := 1) dX5_readText_34 (by decide) ?_
  refine w_istore_n (ls2 := [some (.ref q), some (.int (nI E)), some (.int 1), none]) dX5_readText_35 (by decide) rfl rfl ?_
  refine w_iconst (v := (nI 0)) dX5_readText_36 (by decide) ?_
  refine w_istore_n (ls2 := [some (.ref q), some (.int (nI E)), some (.int 1), some (.int (nI 0))]) dX5_readText_37 (by decide) rfl rfl ?_
  exact l_readText 600 _ _ _ 0 rfl hb2 k31 hf2 (by rw [e31] at k; exact k)
