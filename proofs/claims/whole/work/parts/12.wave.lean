set_option maxRecDepth 100000 in
set_option maxHeartbeats 4000000 in
theorem c_levelIn {G : wG} {d : Nat} {h : hH} {Q : Option Value → hH → Prop} {q qk qa qb qn : Nat} {nm : Int32} {W : wP} {p : Nat} {x : Int32} (hw : hHas h [q, qk, qa, qb, qn] [(oC 7 [.ref qk, .ref qa, .ref qb, .ref qn, .int nm, .int (nI W.2.2.2.2.1), .int (nI W.2.2.2.2.2)]), (aI 8 W.1), (aI 8 W.2.1), (aI 8 W.2.2.1), (aI 8 W.2.2.2.1)]) (hp : p < 8) (k : Q (some (.int (lvlI (W.1 p) (W.2.1 p) (W.2.2.1 p) (W.2.2.2.1 p) x))) h) : Cl G yX7_levelIn (d + 1) 0 0 [.ref q, .int (nI p), .int x] h Q := by
  refine Cl.of (ini := false) kX7_levelIn (plainFor_of_name (by decide)) (by decide) (Nat.le_of_ble_eq_true rfl) rfl rfl (fun z => by cases z) ?_
  refine w_aload_n dX7_levelIn_0 rfl ?_
  refine w_get (v := .ref qa) fX7_15 (hw 0 _ _ rfl rfl) rfl dX7_levelIn_1 ?_
  refine w_iload_n dX7_levelIn_4 rfl ?_
  refine w_ialoadN (hw 2 _ _ rfl rfl) (by omega) (by omega) dX7_levelIn_5 ?_
  refine w_istore_n (ls2 := [some (.ref q), some (.int (nI p)), some (.int x), some (.int (W.2.1 p)), none, none, none]) dX7_levelIn_6 (by decide) rfl rfl ?_
  refine w_aload_n dX7_levelIn_7 rfl ?_
  refine w_get (v := .ref qb) fX7_18 (hw 0 _ _ rfl rfl) rfl dX7_levelIn_8 ?_
  refine w_iload_n dX7_levelIn_11 rfl ?_
  refine w_ialoadN (hw 3 _ _ rfl rfl) (by omega) (by omega) dX7_levelIn_12 ?_
  refine w_istore (ls2 := [some (.ref q), some (.int (nI p)), some (.int x), some (.int (W.2.1 p)), some (.int (W.2.2.1 p)), none, none]) dX7_levelIn_13 (by decide) rfl rfl ?_
  refine w_aload_n dX7_levelIn_15 rfl ?_
  refine w_get (v := .ref qk) fX7_9 (hw 0 _ _ rfl rfl) rfl dX7_levelIn_16 ?_
  refine w_iload_n dX7_levelIn_19 rfl ?_
  refine w_ialoadN (hw 1 _ _ rfl rfl) (by omega) (by omega) dX7_levelIn_20 ?_
  refine w_iconst (v := 1) dX7_levelIn_21 (by decide) ?_
  refine w_icmp_ne (tgt := 52) dX7_levelIn_22 rfl (fun b22 => ?_) (fun b22 => ?_)
  · refine w_aload_n dX7_levelIn_52 rfl ?_
    refine w_get (v := .ref qk) fX7_9 (hw 0 _ _ rfl rfl) rfl dX7_levelIn_53 ?_
    refine w_iload_n dX7_levelIn_56 rfl ?_
    refine w_ialoadN (hw 1 _ _ rfl rfl) (by omega) (by omega) dX7_levelIn_57 ?_
    refine w_iconst (v := 2) dX7_levelIn_58 (by decide) ?_
    refine w_icmp_ne (tgt := 100) dX7_levelIn_59 rfl (fun b59 => ?_) (fun b59 => ?_)
    · refine w_iload_n dX7_levelIn_100 rfl ?_
      refine w_ireturn rfl dX7_levelIn_101 (Nat.le_of_ble_eq_true rfl) (Nat.le_of_ble_eq_true rfl) ?_
      have e0 : lvlI (W.1 p) (W.2.1 p) (W.2.2.1 p) (W.2.2.2.1 p) x = W.2.1 p := by
        rw [lvlI, if_neg (fun z => b22 z.1), if_neg (fun z => b59 z.1)]
      rw [e0] at k
      exact k
    · refine w_iload dX7_levelIn_62 rfl ?_
      refine w_if_le (tgt := 100) dX7_levelIn_64 rfl (fun b64 => ?_) (fun b64 => ?_)
      · refine w_iload_n dX7_levelIn_100 rfl ?_
        refine w_ireturn rfl dX7_levelIn_101 (Nat.le_of_ble_eq_true rfl) (Nat.le_of_ble_eq_true rfl) ?_
        have e0 : lvlI (W.1 p) (W.2.1 p) (W.2.2.1 p) (W.2.2.2.1 p) x = W.2.1 p := by
          rw [lvlI, if_neg (fun z => b22 z.1), if_neg (fun z => absurd z.2 (by simpa using b64))]
        rw [e0] at k
        exact k
      · refine w_iload_n dX7_levelIn_67 rfl ?_
        refine w_iload dX7_levelIn_68 rfl ?_
        refine w_irem dX7_levelIn_70 (fun z => b64 (by rw [z]; decide)) ?_
        refine w_istore (ls2 := [some (.ref q), some (.int (nI p)), some (.int x), some (.int (W.2.1 p)), some (.int (W.2.2.1 p)), some (.int (x - x / (W.2.2.1 p) * (W.2.2.1 p))), none]) dX7_levelIn_71 (by decide) rfl rfl ?_
        refine w_iload dX7_levelIn_73 rfl ?_
        refine w_iload dX7_levelIn_75 rfl ?_
        refine w_iload dX7_levelIn_77 rfl ?_
        refine w_isub dX7_levelIn_79 ?_
        refine w_callS (d' := d) (mc' := 0) (ms' := 0) (As := [.int (x - x / (W.2.2.1 p) * (W.2.2.1 p)), .int ((W.2.2.1 p) - (x - x / (W.2.2.1 p) * (W.2.2.1 p)))]) (st := []) lX7_45 vJ9_min_7cf53 rfl (Nat.le_of_ble_eq_true rfl) dX7_levelIn_80 (Nat.le_of_ble_eq_true rfl) (Nat.le_of_ble_eq_true rfl) (Nat.le_refl _) (c_min ?_)
        refine w_istore (ls2 := [some (.ref q), some (.int (nI p)), some (.int x), some (.int (W.2.1 p)), some (.int (W.2.2.1 p)), some (.int (x - x / (W.2.2.1 p) * (W.2.2.1 p))), some (.int (mnI (x - x / (W.2.2.1 p) * (W.2.2.1 p)) ((W.2.2.1 p) - (x - x / (W.2.2.1 p) * (W.2.2.1 p)))))]) dX7_levelIn_83 (by decide) rfl rfl ?_
        refine w_iload_n dX7_levelIn_85 rfl ?_
        refine w_iload dX7_levelIn_86 rfl ?_
        refine w_iconst (v := 4) dX7_levelIn_88 (by decide) ?_
        refine w_iload dX7_levelIn_89 rfl ?_
        refine w_imul dX7_levelIn_91 ?_
        refine w_isub dX7_levelIn_92 ?_
        refine w_imul dX7_levelIn_93 ?_
        refine w_iload dX7_levelIn_94 rfl ?_
        refine w_callS (d' := d) (mc' := 0) (ms' := 0) (As := [.int ((W.2.1 p) * ((W.2.2.1 p) - (4 * (mnI (x - x / (W.2.2.1 p) * (W.2.2.1 p)) ((W.2.2.1 p) - (x - x / (W.2.2.1 p) * (W.2.2.1 p))))))), .int (W.2.2.1 p)]) (st := []) lX7_60 vJ9_floorDiv_7cf53 rfl (Nat.le_of_ble_eq_true rfl) dX7_levelIn_96 (Nat.le_of_ble_eq_true rfl) (Nat.le_of_ble_eq_true rfl) (Nat.le_refl _) (c_floorDiv (fun z => b64 (by rw [z]; decide)) ?_)
        refine w_ireturn rfl dX7_levelIn_99 (Nat.le_of_ble_eq_true rfl) (Nat.le_of_ble_eq_true rfl) ?_
        have e0 : lvlI (W.1 p) (W.2.1 p) (W.2.2.1 p) (W.2.2.2.1 p) x = fdvI ((W.2.1 p) * ((W.2.2.1 p) - (4 * (mnI (x - x / (W.2.2.1 p) * (W.2.2.1 p)) ((W.2.2.1 p) - (x - x / (W.2.2.1 p) * (W.2.2.1 p))))))) (W.2.2.1 p) := by
          rw [lvlI, if_neg (fun z => b22 z.1), if_pos ⟨b59, (by simpa using b64)⟩]
        rw [e0] at k
        exact k
  · refine w_aload_n dX7_levelIn_25 rfl ?_
    refine w_get (v := .ref qn) fX7_21 (hw 0 _ _ rfl rfl) rfl dX7_levelIn_26 ?_
    refine w_iload_n dX7_levelIn_29 rfl ?_
    refine w_ialoadN (hw 4 _ _ rfl rfl) (by omega) (by omega) dX7_levelIn_30 ?_
    refine w_if_le (tgt := 52) dX7_levelIn_31 rfl (fun b31 => ?_) (fun b31 => ?_)
    · refine w_aload_n dX7_levelIn_52 rfl ?_
      refine w_get (v := .ref qk) fX7_9 (hw 0 _ _ rfl rfl) rfl dX7_levelIn_53 ?_
      refine w_iload_n dX7_levelIn_56 rfl ?_
      refine w_ialoadN (hw 1 _ _ rfl rfl) (by omega) (by omega) dX7_levelIn_57 ?_
      refine w_iconst (v := 2) dX7_levelIn_58 (by decide) ?_
      refine w_icmp_ne (tgt := 100) dX7_levelIn_59 rfl (fun b59 => ?_) (fun b59 => ?_)
      · refine w_iload_n dX7_levelIn_100 rfl ?_
        refine w_ireturn rfl dX7_levelIn_101 (Nat.le_of_ble_eq_true rfl) (Nat.le_of_ble_eq_true rfl) ?_
        have e0 : lvlI (W.1 p) (W.2.1 p) (W.2.2.1 p) (W.2.2.2.1 p) x = W.2.1 p := by
          rw [lvlI, if_neg (fun z => absurd z.2 (by simpa using b31)), if_neg (fun z => b59 z.1)]
        rw [e0] at k
        exact k
      · refine w_iload dX7_levelIn_62 rfl ?_
        refine w_if_le (tgt := 100) dX7_levelIn_64 rfl (fun b64 => ?_) (fun b64 => ?_)
        · refine w_iload_n dX7_levelIn_100 rfl ?_
          refine w_ireturn rfl dX7_levelIn_101 (Nat.le_of_ble_eq_true rfl) (Nat.le_of_ble_eq_true rfl) ?_
          have e0 : lvlI (W.1 p) (W.2.1 p) (W.2.2.1 p) (W.2.2.2.1 p) x = W.2.1 p := by
            rw [lvlI, if_neg (fun z => absurd z.2 (by simpa using b31)), if_neg (fun z => absurd z.2 (by simpa using b64))]
          rw [e0] at k
          exact k
        · refine w_iload_n dX7_levelIn_67 rfl ?_
          refine w_iload dX7_levelIn_68 rfl ?_
          refine w_irem dX7_levelIn_70 (fun z => b64 (by rw [z]; decide)) ?_
          refine w_istore (ls2 := [some (.ref q), some (.int (nI p)), some (.int x), some (.int (W.2.1 p)), some (.int (W.2.2.1 p)), some (.int (x - x / (W.2.2.1 p) * (W.2.2.1 p))), none]) dX7_levelIn_71 (by decide) rfl rfl ?_
          refine w_iload dX7_levelIn_73 rfl ?_
          refine w_iload dX7_levelIn_75 rfl ?_
          refine w_iload dX7_levelIn_77 rfl ?_
          refine w_isub dX7_levelIn_79 ?_
          refine w_callS (d' := d) (mc' := 0) (ms' := 0) (As := [.int (x - x / (W.2.2.1 p) * (W.2.2.1 p)), .int ((W.2.2.1 p) - (x - x / (W.2.2.1 p) * (W.2.2.1 p)))]) (st := []) lX7_45 vJ9_min_7cf53 rfl (Nat.le_of_ble_eq_true rfl) dX7_levelIn_80 (Nat.le_of_ble_eq_true rfl) (Nat.le_of_ble_eq_true rfl) (Nat.le_refl _) (c_min ?_)
          refine w_istore (ls2 := [some (.ref q), some (.int (nI p)), some (.int x), some (.int (W.2.1 p)), some (.int (W.2.2.1 p)), some (.int (x - x / (W.2.2.1 p) * (W.2.2.1 p))), some (.int (mnI (x - x / (W.2.2.1 p) * (W.2.2.1 p)) ((W.2.2.1 p) - (x - x / (W.2.2.1 p) * (W.2.2.1 p)))))]) dX7_levelIn_83 (by decide) rfl rfl ?_
          refine w_iload_n dX7_levelIn_85 rfl ?_
          refine w_iload dX7_levelIn_86 rfl ?_
          refine w_iconst (v := 4) dX7_levelIn_88 (by decide) ?_
          refine w_iload dX7_levelIn_89 rfl ?_
          refine w_imul dX7_levelIn_91 ?_
          refine w_isub dX7_levelIn_92 ?_
          refine w_imul dX7_levelIn_93 ?_
          refine w_iload dX7_levelIn_94 rfl ?_
          refine w_callS (d' := d) (mc' := 0) (ms' := 0) (As := [.int ((W.2.1 p) * ((W.2.2.1 p) - (4 * (mnI (x - x / (W.2.2.1 p) * (W.2.2.1 p)) ((W.2.2.1 p) - (x - x / (W.2.2.1 p) * (W.2.2.1 p))))))), .int (W.2.2.1 p)]) (st := []) lX7_60 vJ9_floorDiv_7cf53 rfl (Nat.le_of_ble_eq_true rfl) dX7_levelIn_96 (Nat.le_of_ble_eq_true rfl) (Nat.le_of_ble_eq_true rfl) (Nat.le_refl _) (c_floorDiv (fun z => b64 (by rw [z]; decide)) ?_)
          refine w_ireturn rfl dX7_levelIn_99 (Nat.le_of_ble_eq_true rfl) (Nat.le_of_ble_eq_true rfl) ?_
          have e0 : lvlI (W.1 p) (W.2.1 p) (W.2.2.1 p) (W.2.2.2.1 p) x = fdvI ((W.2.1 p) * ((W.2.2.1 p) - (4 * (mnI (x - x / (W.2.2.1 p) * (W.2.2.1 p)) ((W.2.2.1 p) - (x - x / (W.2.2.1 p) * (W.2.2.1 p))))))) (W.2.2.1 p) := by
            rw [lvlI, if_neg (fun z => absurd z.2 (by simpa using b31)), if_pos ⟨b59, (by simpa using b64)⟩]
          rw [e0] at k
          exact k
    · refine w_iload_n dX7_levelIn_34 rfl ?_
      refine w_iload dX7_levelIn_35 rfl ?_
      refine w_iload_n dX7_levelIn_37 rfl ?_
      refine w_isub dX7_levelIn_38 ?_
      refine w_iload_n dX7_levelIn_39 rfl ?_
      refine w_imul dX7_levelIn_40 ?_
      refine w_aload_n dX7_levelIn_41 rfl ?_
      refine w_get (v := .ref qn) fX7_21 (hw 0 _ _ rfl rfl) rfl dX7_levelIn_42 ?_
      refine w_iload_n dX7_levelIn_45 rfl ?_
      refine w_ialoadN (hw 4 _ _ rfl rfl) (by omega) (by omega) dX7_levelIn_46 ?_
      refine w_callS (d' := d) (mc' := 0) (ms' := 0) (As := [.int (((W.2.2.1 p) - (W.2.1 p)) * x), .int (W.2.2.2.1 p)]) (st := [.int (W.2.1 p)]) lX7_60 vJ9_floorDiv_7cf53 rfl (Nat.le_of_ble_eq_true rfl) dX7_levelIn_47 (Nat.le_of_ble_eq_true rfl) (Nat.le_of_ble_eq_true rfl) (Nat.le_refl _) (c_floorDiv (fun z => b31 (by rw [z]; decide)) ?_)
      refine w_iadd dX7_levelIn_50 ?_
      refine w_ireturn rfl dX7_levelIn_51 (Nat.le_of_ble_eq_true rfl) (Nat.le_of_ble_eq_true rfl) ?_
      have e0 : lvlI (W.1 p) (W.2.1 p) (W.2.2.1 p) (W.2.2.2.1 p) x = (W.2.1 p) + (fdvI (((W.2.2.1 p) - (W.2.1 p)) * x) (W.2.2.2.1 p)) := by
        rw [lvlI, if_pos ⟨b22, (by simpa using b31)⟩]
      rw [e0] at k
      exact k
set_option maxRecDepth 100000 in
set_option maxHeartbeats 4000000 in
theorem l_levelAt {G : wG} {d : Nat} {h : hH} {Q : Option Value → hH → Prop} {q qk qa qb qn : Nat} {nm : Int32} {W : wP} (hw : hHas h [q, qk, qa, qb, qn] [(oC 7 [.ref qk, .ref qa, .ref qb, .ref qn, .int nm, .int (nI W.2.2.2.2.1), .int (nI W.2.2.2.2.2)]), (aI 8 W.1), (aI 8 W.2.1), (aI 8 W.2.2.1), (aI 8 W.2.2.2.1)]) (hP : W.2.2.2.2.1 ≤ 8) : ∀ (n : Nat) (i : Nat) (t x : Int32), i + n = W.2.2.2.2.1 → Q (some (.int (lvlG W n i x))) h → WP G RX7 cX7_levelAt 4 (some .int) false (d + 2) 0 0 0 0 Q 22 [some (.ref q), some (.int t), some (.int x), some (.int (nI i))] [] h := by
  intro n
  induction n with
  | zero =>
    intro i t x hi k
    refine w_iload_n dX7_levelAt_22 rfl ?_
    refine w_aload_n dX7_levelAt_23 rfl ?_
    refine w_get (v := .int (nI W.2.2.2.2.1)) fX7_28 (hw 0 _ _ rfl rfl) rfl dX7_levelAt_24 ?_
    refine w_icmp_ge_t (tgt := 62) dX7_levelAt_27 rfl ((nI_leI (a := W.2.2.2.2.1) (b := i) (by omega) (by omega)).mpr (by omega)) ?_
    refine w_iconst (v := 0) dX7_levelAt_62 (by decide) ?_
    refine w_ireturn rfl dX7_levelAt_63 (Nat.le_of_ble_eq_true rfl) (Nat.le_of_ble_eq_true rfl) ?_
    exact k
  | succ n ih =>
    intro i t x hi k
    refine w_iload_n dX7_levelAt_22 rfl ?_
    refine w_aload_n dX7_levelAt_23 rfl ?_
    refine w_get (v := .int (nI W.2.2.2.2.1)) fX7_28 (hw 0 _ _ rfl rfl) rfl dX7_levelAt_24 ?_
    refine w_icmp_ge_f (tgt := 62) dX7_levelAt_27 rfl (fun z => absurd ((nI_leI (a := W.2.2.2.2.1) (b := i) (by omega) (by omega)).mp z) (by omega)) ?_
    refine w_iload_n dX7_levelAt_30 rfl ?_
    refine w_aload_n dX7_levelAt_31 rfl ?_
    refine w_get (v := .ref qn) fX7_21 (hw 0 _ _ rfl rfl) rfl dX7_levelAt_32 ?_
    refine w_iload_n dX7_levelAt_35 rfl ?_
    refine w_ialoadN (hw 4 _ _ rfl rfl) (by omega) (by omega) dX7_levelAt_36 ?_
    refine w_icmp_ge (tgt := 47) dX7_levelAt_37 rfl (fun b37 => ?_) (fun b37 => ?_)
    · refine w_iload_n dX7_levelAt_47 rfl ?_
      refine w_aload_n dX7_levelAt_48 rfl ?_
      refine w_get (v := .ref qn) fX7_21 (hw 0 _ _ rfl rfl) rfl dX7_levelAt_49 ?_
      refine w_iload_n dX7_levelAt_52 rfl ?_
      refine w_ialoadN (hw 4 _ _ rfl rfl) (by omega) (by omega) dX7_levelAt_53 ?_
      refine w_isub dX7_levelAt_54 ?_
      refine w_istore_n (ls2 := [some (.ref q), some (.int t), some (.int (x - (W.2.2.2.1 i))), some (.int (nI i))]) dX7_levelAt_55 (by decide) rfl rfl ?_
      refine w_iinc (v := nI (i + 1)) (ls2 := [some (.ref q), some (.int t), some (.int (x - (W.2.2.2.1 i))), some (.int (nI (i + 1)))]) dX7_levelAt_56 rfl (nI_1 _) (by decide) rfl rfl ?_
      refine w_goto (tgt := 22) dX7_levelAt_59 rfl ?_
      rw [lvlG, if_neg (by simpa using b37)] at k
      exact ih (i + 1) _ _ (by omega) k
    · refine w_aload_n dX7_levelAt_40 rfl ?_
      refine w_iload_n dX7_levelAt_41 rfl ?_
      refine w_iload_n dX7_levelAt_42 rfl ?_
      refine w_callV (ci := 7) (d' := d + 1) (mc' := 0) (ms' := 0) (As := [.int (nI i), .int x]) (st := []) lX7_57 vX7_levelIn rfl (hw 0 _ _ rfl rfl) rfl (Nat.le_of_ble_eq_true rfl) dX7_levelAt_43 (Nat.le_of_ble_eq_true rfl) (Nat.le_of_ble_eq_true rfl) (Nat.le_refl _) (c_levelIn (hHas_s hw (as' := [q, qk, qa, qb, qn]) (cs' := [(oC 7 [.ref qk, .ref qa, .ref qb, .ref qn, .int nm, .int (nI W.2.2.2.2.1), .int (nI W.2.2.2.2.2)]), (aI 8 W.1), (aI 8 W.2.1), (aI 8 W.2.2.1), (aI 8 W.2.2.2.1)]) [0, 1, 2, 3, 4] rfl rfl) (by omega) ?_)
      refine w_ireturn rfl dX7_levelAt_46 (Nat.le_of_ble_eq_true rfl) (Nat.le_of_ble_eq_true rfl) ?_
      rw [lvlG, if_pos (by simpa using b37)] at k
      exact k
set_option maxRecDepth 100000 in
set_option maxHeartbeats 4000000 in
theorem c_levelAt {G : wG} {d : Nat} {h : hH} {Q : Option Value → hH → Prop} {q qk qa qb qn : Nat} {nm : Int32} {W : wP} {t : Int32} (hw : hHas h [q, qk, qa, qb, qn] [(oC 7 [.ref qk, .ref qa, .ref qb, .ref qn, .int nm, .int (nI W.2.2.2.2.1), .int (nI W.2.2.2.2.2)]), (aI 8 W.1), (aI 8 W.2.1), (aI 8 W.2.2.1), (aI 8 W.2.2.2.1)]) (hP : W.2.2.2.2.1 ≤ 8) (hc : W.2.2.2.2.2 < 2 ^ 31) (k : Q (some (.int (lvlT W t))) h) : Cl G yX7_levelAt (d + 2) 0 0 [.ref q, .int t] h Q := by
  refine Cl.of (ini := false) kX7_levelAt (plainFor_of_name (by decide)) (by decide) (Nat.le_of_ble_eq_true rfl) rfl rfl (fun z => by cases z) ?_
  refine w_aload_n dX7_levelAt_0 rfl ?_
  refine w_get (v := .int (nI W.2.2.2.2.2)) fX7_31 (hw 0 _ _ rfl rfl) rfl dX7_levelAt_1 ?_
  refine w_if_le (tgt := 18) dX7_levelAt_4 rfl (fun b4 => ?_) (fun b4 => ?_)
  · have b4 := (nI_leI (a := W.2.2.2.2.2) (b := 0) (by omega) (by omega)).mp b4
    refine w_iconst (v := 0) dX7_levelAt_18 (by decide) ?_
    refine w_istore_n (ls2 := [some (.ref q), some (.int t), some (.int 0), none]) dX7_levelAt_19 (by decide) rfl rfl ?_
    refine w_iconst (v := (nI 0)) dX7_levelAt_20 (by decide) ?_
    refine w_istore_n (ls2 := [some (.ref q), some (.int t), some (.int 0), some (.int (nI 0))]) dX7_levelAt_21 (by decide) rfl rfl ?_
    rw [lvlT, if_neg (by omega)] at k
    exact l_levelAt hw hP W.2.2.2.2.1 0 _ _ (by omega) k
  · have b4 : ¬ W.2.2.2.2.2 ≤ 0 := fun z => b4 ((nI_leI (a := W.2.2.2.2.2) (b := 0) (by omega) (by omega)).mpr z)
    refine w_iload_n dX7_levelAt_7 rfl ?_
    refine w_aload_n dX7_levelAt_8 rfl ?_
    refine w_get (v := .int (nI W.2.2.2.2.2)) fX7_31 (hw 0 _ _ rfl rfl) rfl dX7_levelAt_9 ?_
    refine w_callS (d' := d + 1) (mc' := 0) (ms' := 0) (As := [.int t, .int (nI W.2.2.2.2.2)]) (st := []) lX7_54 vJ9_floorMod_7cf53 rfl (Nat.le_of_ble_eq_true rfl) dX7_levelAt_12 (Nat.le_of_ble_eq_true rfl) (Nat.le_of_ble_eq_true rfl) (Nat.le_refl _) (c_floorMod (nI_ne0 (by omega) (by omega)) ?_)
    refine w_goto (tgt := 19) dX7_levelAt_15 rfl ?_
    refine w_istore_n (ls2 := [some (.ref q), some (.int t), some (.int (fmdI t (nI W.2.2.2.2.2))), none]) dX7_levelAt_19 (by decide) rfl rfl ?_
    refine w_iconst (v := (nI 0)) dX7_levelAt_20 (by decide) ?_
    refine w_istore_n (ls2 := [some (.ref q), some (.int t), some (.int (fmdI t (nI W.2.2.2.2.2))), some (.int (nI 0))]) dX7_levelAt_21 (by decide) rfl rfl ?_
    rw [lvlT, if_pos (by omega)] at k
    exact l_levelAt hw hP W.2.2.2.2.1 0 _ _ (by omega) k
set_option maxRecDepth 100000 in
set_option maxHeartbeats 4000000 in
theorem l_least {G : wG} {d : Nat} {h : hH} {Q : Option Value → hH → Prop} {q qk qa qb qn : Nat} {nm : Int32} {W : wP} (hw : hHas h [q, qk, qa, qb, qn] [(oC 7 [.ref qk, .ref qa, .ref qb, .ref qn, .int nm, .int (nI W.2.2.2.2.1), .int (nI W.2.2.2.2.2)]), (aI 8 W.1), (aI 8 W.2.1), (aI 8 W.2.2.1), (aI 8 W.2.2.2.1)]) (hP : W.2.2.2.2.1 ≤ 8) (hc : W.2.2.2.2.2 < 2 ^ 31) (k : Q (some (.int (lowF W W.2.2.2.2.2))) h) : ∀ (n : Nat) (i : Nat) (x : Int32), i + n = W.2.2.2.2.2 → x = lowF W i → WP G RX7 cX7_least 3 (some .int) false (d + 3) 0 0 0 0 Q 6 [some (.ref q), some (.int x), some (.int (nI i))] [] h := by
  intro n
  induction n with
  | zero =>
    intro i x hi e
    refine w_iload_n dX7_least_6 rfl ?_
    refine w_aload_n dX7_least_7 rfl ?_
    refine w_get (v := .int (nI W.2.2.2.2.2)) fX7_31 (hw 0 _ _ rfl rfl) rfl dX7_least_8 ?_
    refine w_icmp_ge_t (tgt := 30) dX7_least_11 rfl ((nI_leI (a := W.2.2.2.2.2) (b := i) (by omega) (by omega)).mpr (by omega)) ?_
    refine w_iload_n dX7_least_30 rfl ?_
    refine w_ireturn rfl dX7_least_31 (Nat.le_of_ble_eq_true rfl) (Nat.le_of_ble_eq_true rfl) ?_
    have z : i = W.2.2.2.2.2 := by omega
    rw [← z, ← e] at k
    exact k
  | succ n ih =>
    intro i x hi e
    refine w_iload_n dX7_least_6 rfl ?_
    refine w_aload_n dX7_least_7 rfl ?_
    refine w_get (v := .int (nI W.2.2.2.2.2)) fX7_31 (hw 0 _ _ rfl rfl) rfl dX7_least_8 ?_
    refine w_icmp_ge_f (tgt := 30) dX7_least_11 rfl (fun z => absurd ((nI_leI (a := W.2.2.2.2.2) (b := i) (by omega) (by omega)).mp z) (by omega)) ?_
    refine w_iload_n dX7_least_14 rfl ?_
    refine w_aload_n dX7_least_15 rfl ?_
    refine w_iload_n dX7_least_16 rfl ?_
    refine w_callV (ci := 7) (d' := d + 2) (mc' := 0) (ms' := 0) (As := [.int (nI i)]) (st := [.int x]) lX7_41 vX7_levelAt rfl (hw 0 _ _ rfl rfl) rfl (Nat.le_of_ble_eq_true rfl) dX7_least_17 (Nat.le_of_ble_eq_true rfl) (Nat.le_of_ble_eq_true rfl) (Nat.le_refl _) (c_levelAt (hHas_s hw (as' := [q, qk, qa, qb, qn]) (cs' := [(oC 7 [.ref qk, .ref qa, .ref qb, .ref qn, .int nm, .int (nI W.2.2.2.2.1), .int (nI W.2.2.2.2.2)]), (aI 8 W.1), (aI 8 W.2.1), (aI 8 W.2.2.1), (aI 8 W.2.2.2.1)]) [0, 1, 2, 3, 4] rfl rfl) hP hc ?_)
    refine w_callS (d' := d + 2) (mc' := 0) (ms' := 0) (As := [.int x, .int (lvlT W (nI i))]) (st := []) lX7_45 vJ9_min_7cf53 rfl (Nat.le_of_ble_eq_true rfl) dX7_least_20 (Nat.le_of_ble_eq_true rfl) (Nat.le_of_ble_eq_true rfl) (Nat.le_refl _) (c_min ?_)
    refine w_istore_n (ls2 := [some (.ref q), some (.int (mnI x (lvlT W (nI i)))), some (.int (nI i))]) dX7_least_23 (by decide) rfl rfl ?_
    refine w_iinc (v := nI (i + 1)) (ls2 := [some (.ref q), some (.int (mnI x (lvlT W (nI i)))), some (.int (nI (i + 1)))]) dX7_least_24 rfl (nI_1 _) (by decide) rfl rfl ?_
    refine w_goto (tgt := 6) dX7_least_27 rfl ?_
    exact ih (i + 1) _ (by omega) (by rw [e]; simp [lowF, fld])
set_option maxRecDepth 100000 in
set_option maxHeartbeats 4000000 in
theorem c_least {G : wG} {d : Nat} {h : hH} {Q : Option Value → hH → Prop} {q qk qa qb qn : Nat} {nm : Int32} {W : wP} (hw : hHas h [q, qk, qa, qb, qn] [(oC 7 [.ref qk, .ref qa, .ref qb, .ref qn, .int nm, .int (nI W.2.2.2.2.1), .int (nI W.2.2.2.2.2)]), (aI 8 W.1), (aI 8 W.2.1), (aI 8 W.2.2.1), (aI 8 W.2.2.2.1)]) (hP : W.2.2.2.2.1 ≤ 8) (hc : W.2.2.2.2.2 < 2 ^ 31) (k : Q (some (.int (lowF W W.2.2.2.2.2))) h) : Cl G yX7_least (d + 3) 0 0 [.ref q] h Q := by
  refine Cl.of (ini := false) kX7_least (plainFor_of_name (by decide)) (by decide) (Nat.le_of_ble_eq_true rfl) rfl rfl (fun z => by cases z) ?_
  refine w_sipush (v := 1000) dX7_least_0 (by decide) ?_
  refine w_istore_n (ls2 := [some (.ref q), some (.int 1000), none]) dX7_least_3 (by decide) rfl rfl ?_
  refine w_iconst (v := (nI 0)) dX7_least_4 (by decide) ?_
  refine w_istore_n (ls2 := [some (.ref q), some (.int 1000), some (.int (nI 0))]) dX7_least_5 (by decide) rfl rfl ?_
  exact l_least hw hP hc k W.2.2.2.2.2 0 _ (by omega) rfl
set_option maxRecDepth 100000 in
set_option maxHeartbeats 4000000 in
theorem l_greatest {G : wG} {d : Nat} {h : hH} {Q : Option Value → hH → Prop} {q qk qa qb qn : Nat} {nm : Int32} {W : wP} (hw : hHas h [q, qk, qa, qb, qn] [(oC 7 [.ref qk, .ref qa, .ref qb, .ref qn, .int nm, .int (nI W.2.2.2.2.1), .int (nI W.2.2.2.2.2)]), (aI 8 W.1), (aI 8 W.2.1), (aI 8 W.2.2.1), (aI 8 W.2.2.2.1)]) (hP : W.2.2.2.2.1 ≤ 8) (hc : W.2.2.2.2.2 < 2 ^ 31) (k : Q (some (.int (topF W W.2.2.2.2.2))) h) : ∀ (n : Nat) (i : Nat) (x : Int32), i + n = W.2.2.2.2.2 → x = topF W i → WP G RX7 cX7_greatest 3 (some .int) false (d + 3) 0 0 0 0 Q 6 [some (.ref q), some (.int x), some (.int (nI i))] [] h := by
  intro n
  induction n with
  | zero =>
    intro i x hi e
    refine w_iload_n dX7_greatest_6 rfl ?_
    refine w_aload_n dX7_greatest_7 rfl ?_
    refine w_get (v := .int (nI W.2.2.2.2.2)) fX7_31 (hw 0 _ _ rfl rfl) rfl dX7_greatest_8 ?_
    refine w_icmp_ge_t (tgt := 30) dX7_greatest_11 rfl ((nI_leI (a := W.2.2.2.2.2) (b := i) (by omega) (by omega)).mpr (by omega)) ?_
    refine w_iload_n dX7_greatest_30 rfl ?_
    refine w_ireturn rfl dX7_greatest_31 (Nat.le_of_ble_eq_true rfl) (Nat.le_of_ble_eq_true rfl) ?_
    have z : i = W.2.2.2.2.2 := by omega
    rw [← z, ← e] at k
    exact k
  | succ n ih =>
    intro i x hi e
    refine w_iload_n dX7_greatest_6 rfl ?_
    refine w_aload_n dX7_greatest_7 rfl ?_
    refine w_get (v := .int (nI W.2.2.2.2.2)) fX7_31 (hw 0 _ _ rfl rfl) rfl dX7_greatest_8 ?_
    refine w_icmp_ge_f (tgt := 30) dX7_greatest_11 rfl (fun z => absurd ((nI_leI (a := W.2.2.2.2.2) (b := i) (by omega) (by omega)).mp z) (by omega)) ?_
    refine w_iload_n dX7_greatest_14 rfl ?_
    refine w_aload_n dX7_greatest_15 rfl ?_
    refine w_iload_n dX7_greatest_16 rfl ?_
    refine w_callV (ci := 7) (d' := d + 2) (mc' := 0) (ms' := 0) (As := [.int (nI i)]) (st := [.int x]) lX7_41 vX7_levelAt rfl (hw 0 _ _ rfl rfl) rfl (Nat.le_of_ble_eq_true rfl) dX7_greatest_17 (Nat.le_of_ble_eq_true rfl) (Nat.le_of_ble_eq_true rfl) (Nat.le_refl _) (c_levelAt (hHas_s hw (as' := [q, qk, qa, qb, qn]) (cs' := [(oC 7 [.ref qk, .ref qa, .ref qb, .ref qn, .int nm, .int (nI W.2.2.2.2.1), .int (nI W.2.2.2.2.2)]), (aI 8 W.1), (aI 8 W.2.1), (aI 8 W.2.2.1), (aI 8 W.2.2.2.1)]) [0, 1, 2, 3, 4] rfl rfl) hP hc ?_)
    refine w_callS (d' := d + 2) (mc' := 0) (ms' := 0) (As := [.int x, .int (lvlT W (nI i))]) (st := []) lX7_51 vJ9_max_7cf53 rfl (Nat.le_of_ble_eq_true rfl) dX7_greatest_20 (Nat.le_of_ble_eq_true rfl) (Nat.le_of_ble_eq_true rfl) (Nat.le_refl _) (c_max ?_)
    refine w_istore_n (ls2 := [some (.ref q), some (.int (mxI x (lvlT W (nI i)))), some (.int (nI i))]) dX7_greatest_23 (by decide) rfl rfl ?_
    refine w_iinc (v := nI (i + 1)) (ls2 := [some (.ref q), some (.int (mxI x (lvlT W (nI i)))), some (.int (nI (i + 1)))]) dX7_greatest_24 rfl (nI_1 _) (by decide) rfl rfl ?_
    refine w_goto (tgt := 6) dX7_greatest_27 rfl ?_
    exact ih (i + 1) _ (by omega) (by rw [e]; simp [topF, fld])
set_option maxRecDepth 100000 in
set_option maxHeartbeats 4000000 in
theorem c_greatest {G : wG} {d : Nat} {h : hH} {Q : Option Value → hH → Prop} {q qk qa qb qn : Nat} {nm : Int32} {W : wP} (hw : hHas h [q, qk, qa, qb, qn] [(oC 7 [.ref qk, .ref qa, .ref qb, .ref qn, .int nm, .int (nI W.2.2.2.2.1), .int (nI W.2.2.2.2.2)]), (aI 8 W.1), (aI 8 W.2.1), (aI 8 W.2.2.1), (aI 8 W.2.2.2.1)]) (hP : W.2.2.2.2.1 ≤ 8) (hc : W.2.2.2.2.2 < 2 ^ 31) (k : Q (some (.int (topF W W.2.2.2.2.2))) h) : Cl G yX7_greatest (d + 3) 0 0 [.ref q] h Q := by
  refine Cl.of (ini := false) kX7_greatest (plainFor_of_name (by decide)) (by decide) (Nat.le_of_ble_eq_true rfl) rfl rfl (fun z => by cases z) ?_
  refine w_sipush (v := (-1000)) dX7_greatest_0 (by decide) ?_
  refine w_istore_n (ls2 := [some (.ref q), some (.int (-1000)), none]) dX7_greatest_3 (by decide) rfl rfl ?_
  refine w_iconst (v := (nI 0)) dX7_greatest_4 (by decide) ?_
  refine w_istore_n (ls2 := [some (.ref q), some (.int (-1000)), some (.int (nI 0))]) dX7_greatest_5 (by decide) rfl rfl ?_
  exact l_greatest hw hP hc k W.2.2.2.2.2 0 _ (by omega) rfl
set_option maxRecDepth 100000 in
set_option maxHeartbeats 4000000 in
theorem c_Wave_clear {G : wG} {d : Nat} {h : hH} {Q : Option Value → hH → Prop} {q qk qa qb qn : Nat} {nm pn ck : Int32} (hw : hHas h [q] [(oC 7 [.ref qk, .ref qa, .ref qb, .ref qn, .int nm, .int pn, .int ck])]) (nd : [q].Nodup)  (k : Q none (hUs h [q] [oC 7 [.ref qk, .ref qa, .ref qb, .ref qn, .int 0, .int 0, .int 0]])) : Cl G yX7_clear d 0 0 [.ref q] h Q := by
  refine Cl.of (ini := false) kX7_clear (plainFor_of_name (by decide)) (by decide) (Nat.le_of_ble_eq_true rfl) rfl rfl (fun z => by cases z) ?_
  refine w_heq (hUs_id hw).symm ?_
  refine w_aload_n dX7_clear_0 rfl ?_
  refine w_iconst (v := 0) dX7_clear_1 (by decide) ?_
  refine w_put (fs' := [.ref qk, .ref qa, .ref qb, .ref qn, .int 0, .int pn, .int ck]) fX7_24 (hUs_at nd 0 rfl rfl) rfl rfl (Nat.le_of_ble_eq_true rfl) rfl dX7_clear_2 ?_
  refine w_heq (hUs_set nd rfl 0 (cs' := [(oC 7 [.ref qk, .ref qa, .ref qb, .ref qn, .int 0, .int pn, .int ck])]) rfl rfl) ?_
  refine w_aload_n dX7_clear_5 rfl ?_
  refine w_iconst (v := 0) dX7_clear_6 (by decide) ?_
  refine w_put (fs' := [.ref qk, .ref qa, .ref qb, .ref qn, .int 0, .int 0, .int ck]) fX7_28 (hUs_at nd 0 rfl rfl) rfl rfl (Nat.le_of_ble_eq_true rfl) rfl dX7_clear_7 ?_
  refine w_heq (hUs_set nd rfl 0 (cs' := [(oC 7 [.ref qk, .ref qa, .ref qb, .ref qn, .int 0, .int 0, .int ck])]) rfl rfl) ?_
  refine w_aload_n dX7_clear_10 rfl ?_
  refine w_iconst (v := 0) dX7_clear_11 (by decide) ?_
  refine w_put (fs' := [.ref qk, .ref qa, .ref qb, .ref qn, .int 0, .int 0, .int 0]) fX7_31 (hUs_at nd 0 rfl rfl) rfl rfl (Nat.le_of_ble_eq_true rfl) rfl dX7_clear_12 ?_
  refine w_heq (hUs_set nd rfl 0 (cs' := [(oC 7 [.ref qk, .ref qa, .ref qb, .ref qn, .int 0, .int 0, .int 0])]) rfl rfl) ?_
  refine w_return rfl dX7_clear_15 (Nat.le_of_ble_eq_true rfl) (Nat.le_of_ble_eq_true rfl) ?_
  exact k
set_option maxRecDepth 100000 in
set_option maxHeartbeats 4000000 in
theorem c_addPiece {G : wG} {d : Nat} {h : hH} {Q : Option Value → hH → Prop} {q qk qa qb qn n : Nat} {nm ck x1 x2 x3 x4 : Int32} {fk fa fb fn : Nat → Int32} (hw : hHas h [q, qk, qa, qb, qn] [(oC 7 [.ref qk, .ref qa, .ref qb, .ref qn, .int nm, .int (nI n), .int ck]), (aI 8 fk), (aI 8 fa), (aI 8 fb), (aI 8 fn)]) (nd : [q, qk, qa, qb, qn].Nodup) (hn : n < 8) (k : Q none (hUs h [q, qk, qa, qb, qn] [oC 7 [.ref qk, .ref qa, .ref qb, .ref qn, .int nm, .int (nI (n + 1)), .int (ck + x4)], aI 8 (upd fk n x1), aI 8 (upd fa n x2), aI 8 (upd fb n x3), aI 8 (upd fn n x4)])) : Cl G yX7_addPiece d 0 0 [.ref q, .int x1, .int x2, .int x3, .int x4] h Q := by
  refine Cl.of (ini := false) kX7_addPiece (plainFor_of_name (by decide)) (by decide) (Nat.le_of_ble_eq_true rfl) rfl rfl (fun z => by cases z) ?_
  refine w_heq (hUs_id hw).symm ?_
  refine w_aload_n dX7_addPiece_0 rfl ?_
  refine w_get (v := .int (nI n)) fX7_28 (hUs_at nd 0 rfl rfl) rfl dX7_addPiece_1 ?_
  refine w_bipush (v := 8) dX7_addPiece_4 (by decide) ?_
  refine w_icmp_lt_t (tgt := 10) dX7_addPiece_6 rfl ((nI_ltI (a := n) (b := 8) (by omega) (by omega)).mpr (by omega)) ?_
  refine w_aload_n dX7_addPiece_10 rfl ?_
  refine w_get (v := .ref qk) fX7_9 (hUs_at nd 0 rfl rfl) rfl dX7_addPiece_11 ?_
  refine w_aload_n dX7_addPiece_14 rfl ?_
  refine w_get (v := .int (nI n)) fX7_28 (hUs_at nd 0 rfl rfl) rfl dX7_addPiece_15 ?_
  refine w_iload_n dX7_addPiece_18 rfl ?_
  refine w_iastoreN (hUs_at nd 1 rfl rfl) (by omega) (by omega) dX7_addPiece_19 ?_
  refine w_heq (hUs_set nd rfl 1 (cs' := [(oC 7 [.ref qk, .ref qa, .ref qb, .ref qn, .int nm, .int (nI n), .int ck]), (aI 8 (upd fk n x1)), (aI 8 fa), (aI 8 fb), (aI 8 fn)]) rfl rfl) ?_
  refine w_aload_n dX7_addPiece_20 rfl ?_
  refine w_get (v := .ref qa) fX7_15 (hUs_at nd 0 rfl rfl) rfl dX7_addPiece_21 ?_
  refine w_aload_n dX7_addPiece_24 rfl ?_
  refine w_get (v := .int (nI n)) fX7_28 (hUs_at nd 0 rfl rfl) rfl dX7_addPiece_25 ?_
  refine w_iload_n dX7_addPiece_28 rfl ?_
  refine w_iastoreN (hUs_at nd 2 rfl rfl) (by omega) (by omega) dX7_addPiece_29 ?_
  refine w_heq (hUs_set nd rfl 2 (cs' := [(oC 7 [.ref qk, .ref qa, .ref qb, .ref qn, .int nm, .int (nI n), .int ck]), (aI 8 (upd fk n x1)), (aI 8 (upd fa n x2)), (aI 8 fb), (aI 8 fn)]) rfl rfl) ?_
  refine w_aload_n dX7_addPiece_30 rfl ?_
  refine w_get (v := .ref qb) fX7_18 (hUs_at nd 0 rfl rfl) rfl dX7_addPiece_31 ?_
  refine w_aload_n dX7_addPiece_34 rfl ?_
  refine w_get (v := .int (nI n)) fX7_28 (hUs_at nd 0 rfl rfl) rfl dX7_addPiece_35 ?_
  refine w_iload_n dX7_addPiece_38 rfl ?_
  refine w_iastoreN (hUs_at nd 3 rfl rfl) (by omega) (by omega) dX7_addPiece_39 ?_
  refine w_heq (hUs_set nd rfl 3 (cs' := [(oC 7 [.ref qk, .ref qa, .ref qb, .ref qn, .int nm, .int (nI n), .int ck]), (aI 8 (upd fk n x1)), (aI 8 (upd fa n x2)), (aI 8 (upd fb n x3)), (aI 8 fn)]) rfl rfl) ?_
  refine w_aload_n dX7_addPiece_40 rfl ?_
  refine w_get (v := .ref qn) fX7_21 (hUs_at nd 0 rfl rfl) rfl dX7_addPiece_41 ?_
  refine w_aload_n dX7_addPiece_44 rfl ?_
  refine w_get (v := .int (nI n)) fX7_28 (hUs_at nd 0 rfl rfl) rfl dX7_addPiece_45 ?_
  refine w_iload dX7_addPiece_48 rfl ?_
  refine w_iastoreN (hUs_at nd 4 rfl rfl) (by omega) (by omega) dX7_addPiece_50 ?_
  refine w_heq (hUs_set nd rfl 4 (cs' := [(oC 7 [.ref qk, .ref qa, .ref qb, .ref qn, .int nm, .int (nI n), .int ck]), (aI 8 (upd fk n x1)), (aI 8 (upd fa n x2)), (aI 8 (upd fb n x3)), (aI 8 (upd fn n x4))]) rfl rfl) ?_
  refine w_aload_n dX7_addPiece_51 rfl ?_
  refine w_dup dX7_addPiece_52 rfl ?_
  refine w_get (v := .int (nI n)) fX7_28 (hUs_at nd 0 rfl rfl) rfl dX7_addPiece_53 ?_
  refine w_iconst (v := 1) dX7_addPiece_56 (by decide) ?_
  refine w_iaddE (z := nI (n + 1)) dX7_addPiece_57 (nI_add (n) (1)) ?_
  refine w_put (fs' := [.ref qk, .ref qa, .ref qb, .ref qn, .int nm, .int (nI (n + 1)), .int ck]) fX7_28 (hUs_at nd 0 rfl rfl) rfl rfl (Nat.le_of_ble_eq_true rfl) rfl dX7_addPiece_58 ?_
  refine w_heq (hUs_set nd rfl 0 (cs' := [(oC 7 [.ref qk, .ref qa, .ref qb, .ref qn, .int nm, .int (nI (n + 1)), .int ck]), (aI 8 (upd fk n x1)), (aI 8 (upd fa n x2)), (aI 8 (upd fb n x3)), (aI 8 (upd fn n x4))]) rfl rfl) ?_
  refine w_aload_n dX7_addPiece_61 rfl ?_
  refine w_dup dX7_addPiece_62 rfl ?_
  refine w_get (v := .int ck) fX7_31 (hUs_at nd 0 rfl rfl) rfl dX7_addPiece_63 ?_
  refine w_iload dX7_addPiece_66 rfl ?_
  refine w_iadd dX7_addPiece_68 ?_
  refine w_put (fs' := [.ref qk, .ref qa, .ref qb, .ref qn, .int nm, .int (nI (n + 1)), .int (ck + x4)]) fX7_31 (hUs_at nd 0 rfl rfl) rfl rfl (Nat.le_of_ble_eq_true rfl) rfl dX7_addPiece_69 ?_
  refine w_heq (hUs_set nd rfl 0 (cs' := [(oC 7 [.ref qk, .ref qa, .ref qb, .ref qn, .int nm, .int (nI (n + 1)), .int (ck + x4)]), (aI 8 (upd fk n x1)), (aI 8 (upd fa n x2)), (aI 8 (upd fb n x3)), (aI 8 (upd fn n x4))]) rfl rfl) ?_
  refine w_return rfl dX7_addPiece_72 (Nat.le_of_ble_eq_true rfl) (Nat.le_of_ble_eq_true rfl) ?_
  exact k
