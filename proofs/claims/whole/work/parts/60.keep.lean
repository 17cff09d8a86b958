set_option maxRecDepth 100000 in
set_option maxHeartbeats 4000000 in
theorem lq_keep1_0 {G : wG} {d : Nat} {h : hH} {Q : Option Value → hH → Prop} {m tp : Nat} {P : pD} {ht sd fa pl tr sz sp fl tk ta sg nu : Int32} {wd : Int64} {rl rw ah cl : Int32} {fr : Nat → Int32} {fo : Nat → Int32} {fq : Nat → Int32} {fh : Nat → Int32} {fj : Nat → Int32} {f0 : Nat → Int32} (nd : [m, m + 14, m + 17, m + 18, m + 19, m + 20, m + 21].Nodup) (k : ∀ f : Nat → Int32, (∀ j, j < 11 → f (11 * 0 + j) = fr (j)) → (∀ j, (j < 11 * 0 ∨ 11 * 0 + 11 ≤ j) → f j = f0 j) → WP G RX10 cX10_keep 3 (some .boolean) false (d + 1) 0 0 0 0 Q 58 [some (.ref m), some (.int (nI 0)), none] [] (hUs h [m, m + 14, m + 17, m + 18, m + 19, m + 20, m + 21] [(oC 10 (mF m 0 tr pl (nI tp) sz sp fa fl tk ta sg nu wd (nI P.1) (nI P.2.1) rl rw ht sd ah cl)), (aI 11 fr), (aI 22 f), (aB 4096 fo), (aB 8192 fq), (aZ 2 fh), (aI 2 fj)])) : ∀ (n : Nat) (i : Nat) (f : Nat → Int32), i + n = 11 → (∀ j, j < i → f (11 * 0 + j) = fr (j)) → (∀ j, (j < 11 * 0 ∨ 11 * 0 + 11 ≤ j) → f j = f0 j) → WP G RX10 cX10_keep 3 (some .boolean) false (d + 1) 0 0 0 0 Q 29 [some (.ref m), some (.int (nI 0)), some (.int (nI i))] [] (hUs h [m, m + 14, m + 17, m + 18, m + 19, m + 20, m + 21] [(oC 10 (mF m 0 tr pl (nI tp) sz sp fa fl tk ta sg nu wd (nI P.1) (nI P.2.1) rl rw ht sd ah cl)), (aI 11 fr), (aI 22 f), (aB 4096 fo), (aB 8192 fq), (aZ 2 fh), (aI 2 fj)]) := by
  intro n
  induction n with
  | zero =>
    intro i f hi h1 h2
    refine w_iload_n dX10_keep_29 rfl ?_
    refine w_bipush (v := 11) dX10_keep_30 (by decide) ?_
    refine w_icmp_ge_t (tgt := 58) dX10_keep_32 rfl ((nI_leI (a := 11) (b := i) (by omega) (by omega)).mpr (by omega)) ?_
    refine w_less (ls2 := [some (.ref m), some (.int (nI 0)), none]) ⟨Or.inr rfl, Or.inr rfl, Or.inl rfl, trivial⟩ ?_
    exact k f (fun j hj => h1 j (by omega)) h2
  | succ n ih =>
    intro i f hi h1 h2
    refine w_iload_n dX10_keep_29 rfl ?_
    refine w_bipush (v := 11) dX10_keep_30 (by decide) ?_
    refine w_icmp_ge_f (tgt := 58) dX10_keep_32 rfl (fun z => absurd ((nI_leI (a := 11) (b := i) (by omega) (by omega)).mp z) (by omega)) ?_
    refine w_aload_n dX10_keep_35 rfl ?_
    refine w_get (v := .ref (m + 17)) fX10_64 (hUs_at nd 0 rfl rfl) rfl dX10_keep_36 ?_
    refine w_bipush (v := 11) dX10_keep_39 (by decide) ?_
    refine w_iload_n dX10_keep_41 rfl ?_
    refine w_imulE (z := nI (11 * 0)) dX10_keep_42 (pk_mul (11) (0)) ?_
    refine w_iload_n dX10_keep_43 rfl ?_
    refine w_iaddE (z := nI ((11 * 0) + i)) dX10_keep_44 (nI_add ((11 * 0)) (i)) ?_
    refine w_aload_n dX10_keep_45 rfl ?_
    refine w_get (v := .ref (m + 14)) fX10_55 (hUs_at nd 0 rfl rfl) rfl dX10_keep_46 ?_
    refine w_iload_n dX10_keep_49 rfl ?_
    refine w_ialoadN (hUs_at nd 1 rfl rfl) (by omega) (by omega) dX10_keep_50 ?_
    refine w_iastoreN (hUs_at nd 2 rfl rfl) (by omega) (by omega) dX10_keep_51 ?_
    refine w_heq (hUs_set nd rfl 2 (cs' := [(oC 10 (mF m 0 tr pl (nI tp) sz sp fa fl tk ta sg nu wd (nI P.1) (nI P.2.1) rl rw ht sd ah cl)), (aI 11 fr), (aI 22 (upd f ((11 * 0) + i) (fr i))), (aB 4096 fo), (aB 8192 fq), (aZ 2 fh), (aI 2 fj)]) rfl rfl) ?_
    refine w_iinc (v := nI (i + 1)) (ls2 := [some (.ref m), some (.int (nI 0)), some (.int (nI (i + 1)))]) dX10_keep_52 rfl (nI_1 _) (by decide) rfl rfl ?_
    refine w_goto (tgt := 29) dX10_keep_55 rfl ?_
    exact ih (i + 1) _ (by omega) (fun j hj => by
      by_cases e : j = i
      · subst e; exact pk_us
      · rw [pk_un (by omega)]; exact h1 j (by omega)) (fun j hj => by rw [pk_un (by omega)]; exact h2 j hj)
set_option maxRecDepth 100000 in
set_option maxHeartbeats 4000000 in
theorem lq_keep2_0 {G : wG} {d : Nat} {h : hH} {Q : Option Value → hH → Prop} {m tp : Nat} {P : pD} {ht sd fa pl tr sz sp fl tk ta sg nu : Int32} {wd : Int64} {rl rw ah cl : Int32} {fr : Nat → Int32} {fi : Nat → Int32} {fo : Nat → Int32} {fh : Nat → Int32} {fj : Nat → Int32} {f0 : Nat → Int32} (nd : [m, m + 14, m + 17, m + 18, m + 19, m + 20, m + 21].Nodup) (k : ∀ f : Nat → Int32, (∀ j, j < 4096 → f (4096 * 0 + j) = vp_nar .byte (fo (j))) → (∀ j, (j < 4096 * 0 ∨ 4096 * 0 + 4096 ≤ j) → f j = f0 j) → WP G RX10 cX10_keep 3 (some .boolean) false (d + 1) 0 0 0 0 Q 91 [some (.ref m), some (.int (nI 0)), none] [] (hUs h [m, m + 14, m + 17, m + 18, m + 19, m + 20, m + 21] [(oC 10 (mF m 0 tr pl (nI tp) sz sp fa fl tk ta sg nu wd (nI P.1) (nI P.2.1) rl rw ht sd ah cl)), (aI 11 fr), (aI 22 fi), (aB 4096 fo), (aB 8192 f), (aZ 2 fh), (aI 2 fj)])) : ∀ (n : Nat) (i : Nat) (f : Nat → Int32), i + n = 4096 → (∀ j, j < i → f (4096 * 0 + j) = vp_nar .byte (fo (j))) → (∀ j, (j < 4096 * 0 ∨ 4096 * 0 + 4096 ≤ j) → f j = f0 j) → WP G RX10 cX10_keep 3 (some .boolean) false (d + 1) 0 0 0 0 Q 60 [some (.ref m), some (.int (nI 0)), some (.int (nI i))] [] (hUs h [m, m + 14, m + 17, m + 18, m + 19, m + 20, m + 21] [(oC 10 (mF m 0 tr pl (nI tp) sz sp fa fl tk ta sg nu wd (nI P.1) (nI P.2.1) rl rw ht sd ah cl)), (aI 11 fr), (aI 22 fi), (aB 4096 fo), (aB 8192 f), (aZ 2 fh), (aI 2 fj)]) := by
  intro n
  induction n with
  | zero =>
    intro i f hi h1 h2
    refine w_iload_n dX10_keep_60 rfl ?_
    refine w_sipush (v := 4096) dX10_keep_61 (by decide) ?_
    refine w_icmp_ge_t (tgt := 91) dX10_keep_64 rfl ((nI_leI (a := 4096) (b := i) (by omega) (by omega)).mpr (by omega)) ?_
    refine w_less (ls2 := [some (.ref m), some (.int (nI 0)), none]) ⟨Or.inr rfl, Or.inr rfl, Or.inl rfl, trivial⟩ ?_
    exact k f (fun j hj => h1 j (by omega)) h2
  | succ n ih =>
    intro i f hi h1 h2
    refine w_iload_n dX10_keep_60 rfl ?_
    refine w_sipush (v := 4096) dX10_keep_61 (by decide) ?_
    refine w_icmp_ge_f (tgt := 91) dX10_keep_64 rfl (fun z => absurd ((nI_leI (a := 4096) (b := i) (by omega) (by omega)).mp z) (by omega)) ?_
    refine w_aload_n dX10_keep_67 rfl ?_
    refine w_get (v := .ref (m + 19)) fX10_71 (hUs_at nd 0 rfl rfl) rfl dX10_keep_68 ?_
    refine w_sipush (v := 4096) dX10_keep_71 (by decide) ?_
    refine w_iload_n dX10_keep_74 rfl ?_
    refine w_imulE (z := nI (4096 * 0)) dX10_keep_75 (pk_mul (4096) (0)) ?_
    refine w_iload_n dX10_keep_76 rfl ?_
    refine w_iaddE (z := nI ((4096 * 0) + i)) dX10_keep_77 (nI_add ((4096 * 0)) (i)) ?_
    refine w_aload_n dX10_keep_78 rfl ?_
    refine w_get (v := .ref (m + 18)) fX10_67 (hUs_at nd 0 rfl rfl) rfl dX10_keep_79 ?_
    refine w_iload_n dX10_keep_82 rfl ?_
    refine w_baloadN (hUs_at nd 3 rfl rfl) (by omega) (by omega) dX10_keep_83 ?_
    refine w_bastoreN (hUs_at nd 4 rfl rfl) (by omega) (by omega) dX10_keep_84 ?_
    refine w_heq (hUs_set nd rfl 4 (cs' := [(oC 10 (mF m 0 tr pl (nI tp) sz sp fa fl tk ta sg nu wd (nI P.1) (nI P.2.1) rl rw ht sd ah cl)), (aI 11 fr), (aI 22 fi), (aB 4096 fo), (aB 8192 (upd f ((4096 * 0) + i) (vp_nar .byte (fo i)))), (aZ 2 fh), (aI 2 fj)]) rfl rfl) ?_
    refine w_iinc (v := nI (i + 1)) (ls2 := [some (.ref m), some (.int (nI 0)), some (.int (nI (i + 1)))]) dX10_keep_85 rfl (nI_1 _) (by decide) rfl rfl ?_
    refine w_goto (tgt := 60) dX10_keep_88 rfl ?_
    exact ih (i + 1) _ (by omega) (fun j hj => by
      by_cases e : j = i
      · subst e; exact pk_us
      · rw [pk_un (by omega)]; exact h1 j (by omega)) (fun j hj => by rw [pk_un (by omega)]; exact h2 j hj)
set_option maxRecDepth 100000 in
set_option maxHeartbeats 4000000 in
theorem lq_back1_0 {G : wG} {d : Nat} {h : hH} {Q : Option Value → hH → Prop} {m tp : Nat} {P : pD} {ht sd fa pl tr sz sp fl tk ta sg nu : Int32} {wd : Int64} {rl rw ah cl : Int32} {fi : Nat → Int32} {fo : Nat → Int32} {fq : Nat → Int32} {fh : Nat → Int32} {fj : Nat → Int32} {f0 : Nat → Int32} (nd : [m, m + 14, m + 17, m + 18, m + 19, m + 20, m + 21].Nodup) (k : ∀ f : Nat → Int32, (∀ j, j < 11 → f (j) = fi (11 * 0 + j)) → (∀ j, (j < 0 ∨ 0 + 11 ≤ j) → f j = f0 j) → WP G RX10 cX10_back 3 (some .boolean) false (d + 1) 0 0 0 0 Q 67 [some (.ref m), some (.int (nI 0)), none] [] (hUs h [m, m + 14, m + 17, m + 18, m + 19, m + 20, m + 21] [(oC 10 (mF m 0 tr pl (nI tp) sz sp fa fl tk ta sg nu wd (nI P.1) (nI P.2.1) rl rw ht sd ah cl)), (aI 11 f), (aI 22 fi), (aB 4096 fo), (aB 8192 fq), (aZ 2 fh), (aI 2 fj)])) : ∀ (n : Nat) (i : Nat) (f : Nat → Int32), i + n = 11 → (∀ j, j < i → f (j) = fi (11 * 0 + j)) → (∀ j, (j < 0 ∨ 0 + 11 ≤ j) → f j = f0 j) → WP G RX10 cX10_back 3 (some .boolean) false (d + 1) 0 0 0 0 Q 38 [some (.ref m), some (.int (nI 0)), some (.int (nI i))] [] (hUs h [m, m + 14, m + 17, m + 18, m + 19, m + 20, m + 21] [(oC 10 (mF m 0 tr pl (nI tp) sz sp fa fl tk ta sg nu wd (nI P.1) (nI P.2.1) rl rw ht sd ah cl)), (aI 11 f), (aI 22 fi), (aB 4096 fo), (aB 8192 fq), (aZ 2 fh), (aI 2 fj)]) := by
  intro n
  induction n with
  | zero =>
    intro i f hi h1 h2
    refine w_iload_n dX10_back_38 rfl ?_
    refine w_bipush (v := 11) dX10_back_39 (by decide) ?_
    refine w_icmp_ge_t (tgt := 67) dX10_back_41 rfl ((nI_leI (a := 11) (b := i) (by omega) (by omega)).mpr (by omega)) ?_
    refine w_less (ls2 := [some (.ref m), some (.int (nI 0)), none]) ⟨Or.inr rfl, Or.inr rfl, Or.inl rfl, trivial⟩ ?_
    exact k f (fun j hj => h1 j (by omega)) h2
  | succ n ih =>
    intro i f hi h1 h2
    refine w_iload_n dX10_back_38 rfl ?_
    refine w_bipush (v := 11) dX10_back_39 (by decide) ?_
    refine w_icmp_ge_f (tgt := 67) dX10_back_41 rfl (fun z => absurd ((nI_leI (a := 11) (b := i) (by omega) (by omega)).mp z) (by omega)) ?_
    refine w_aload_n dX10_back_44 rfl ?_
    refine w_get (v := .ref (m + 14)) fX10_55 (hUs_at nd 0 rfl rfl) rfl dX10_back_45 ?_
    refine w_iload_n dX10_back_48 rfl ?_
    refine w_aload_n dX10_back_49 rfl ?_
    refine w_get (v := .ref (m + 17)) fX10_64 (hUs_at nd 0 rfl rfl) rfl dX10_back_50 ?_
    refine w_bipush (v := 11) dX10_back_53 (by decide) ?_
    refine w_iload_n dX10_back_55 rfl ?_
    refine w_imulE (z := nI (11 * 0)) dX10_back_56 (pk_mul (11) (0)) ?_
    refine w_iload_n dX10_back_57 rfl ?_
    refine w_iaddE (z := nI ((11 * 0) + i)) dX10_back_58 (nI_add ((11 * 0)) (i)) ?_
    refine w_ialoadN (hUs_at nd 2 rfl rfl) (by omega) (by omega) dX10_back_59 ?_
    refine w_iastoreN (hUs_at nd 1 rfl rfl) (by omega) (by omega) dX10_back_60 ?_
    refine w_heq (hUs_set nd rfl 1 (cs' := [(oC 10 (mF m 0 tr pl (nI tp) sz sp fa fl tk ta sg nu wd (nI P.1) (nI P.2.1) rl rw ht sd ah cl)), (aI 11 (upd f i (fi ((11 * 0) + i)))), (aI 22 fi), (aB 4096 fo), (aB 8192 fq), (aZ 2 fh), (aI 2 fj)]) rfl rfl) ?_
    refine w_iinc (v := nI (i + 1)) (ls2 := [some (.ref m), some (.int (nI 0)), some (.int (nI (i + 1)))]) dX10_back_61 rfl (nI_1 _) (by decide) rfl rfl ?_
    refine w_goto (tgt := 38) dX10_back_64 rfl ?_
    exact ih (i + 1) _ (by omega) (fun j hj => by
      by_cases e : j = i
      · subst e; exact pk_us
      · rw [pk_un (by omega)]; exact h1 j (by omega)) (fun j hj => by rw [pk_un (by omega)]; exact h2 j hj)
set_option maxRecDepth 100000 in
set_option maxHeartbeats 4000000 in
theorem lq_back2_0 {G : wG} {d : Nat} {h : hH} {Q : Option Value → hH → Prop} {m tp : Nat} {P : pD} {ht sd fa pl tr sz sp fl tk ta sg nu : Int32} {wd : Int64} {rl rw ah cl : Int32} {fr : Nat → Int32} {fi : Nat → Int32} {fq : Nat → Int32} {fh : Nat → Int32} {fj : Nat → Int32} {f0 : Nat → Int32} (nd : [m, m + 14, m + 17, m + 18, m + 19, m + 20, m + 21].Nodup) (k : ∀ f : Nat → Int32, (∀ j, j < 4096 → f (j) = vp_nar .byte (fq (4096 * 0 + j))) → (∀ j, (j < 0 ∨ 0 + 4096 ≤ j) → f j = f0 j) → WP G RX10 cX10_back 3 (some .boolean) false (d + 1) 0 0 0 0 Q 100 [some (.ref m), some (.int (nI 0)), none] [] (hUs h [m, m + 14, m + 17, m + 18, m + 19, m + 20, m + 21] [(oC 10 (mF m 0 tr pl (nI tp) sz sp fa fl tk ta sg nu wd (nI P.1) (nI P.2.1) rl rw ht sd ah cl)), (aI 11 fr), (aI 22 fi), (aB 4096 f), (aB 8192 fq), (aZ 2 fh), (aI 2 fj)])) : ∀ (n : Nat) (i : Nat) (f : Nat → Int32), i + n = 4096 → (∀ j, j < i → f (j) = vp_nar .byte (fq (4096 * 0 + j))) → (∀ j, (j < 0 ∨ 0 + 4096 ≤ j) → f j = f0 j) → WP G RX10 cX10_back 3 (some .boolean) false (d + 1) 0 0 0 0 Q 69 [some (.ref m), some (.int (nI 0)), some (.int (nI i))] [] (hUs h [m, m + 14, m + 17, m + 18, m + 19, m + 20, m + 21] [(oC 10 (mF m 0 tr pl (nI tp) sz sp fa fl tk ta sg nu wd (nI P.1) (nI P.2.1) rl rw ht sd ah cl)), (aI 11 fr), (aI 22 fi), (aB 4096 f), (aB 8192 fq), (aZ 2 fh), (aI 2 fj)]) := by
  intro n
  induction n with
  | zero =>
    intro i f hi h1 h2
    refine w_iload_n dX10_back_69 rfl ?_
    refine w_sipush (v := 4096) dX10_back_70 (by decide) ?_
    refine w_icmp_ge_t (tgt := 100) dX10_back_73 rfl ((nI_leI (a := 4096) (b := i) (by omega) (by omega)).mpr (by omega)) ?_
    refine w_less (ls2 := [some (.ref m), some (.int (nI 0)), none]) ⟨Or.inr rfl, Or.inr rfl, Or.inl rfl, trivial⟩ ?_
    exact k f (fun j hj => h1 j (by omega)) h2
  | succ n ih =>
    intro i f hi h1 h2
    refine w_iload_n dX10_back_69 rfl ?_
    refine w_sipush (v := 4096) dX10_back_70 (by decide) ?_
    refine w_icmp_ge_f (tgt := 100) dX10_back_73 rfl (fun z => absurd ((nI_leI (a := 4096) (b := i) (by omega) (by omega)).mp z) (by omega)) ?_
    refine w_aload_n dX10_back_76 rfl ?_
    refine w_get (v := .ref (m + 18)) fX10_67 (hUs_at nd 0 rfl rfl) rfl dX10_back_77 ?_
    refine w_iload_n dX10_back_80 rfl ?_
    refine w_aload_n dX10_back_81 rfl ?_
    refine w_get (v := .ref (m + 19)) fX10_71 (hUs_at nd 0 rfl rfl) rfl dX10_back_82 ?_
    refine w_sipush (v := 4096) dX10_back_85 (by decide) ?_
    refine w_iload_n dX10_back_88 rfl ?_
    refine w_imulE (z := nI (4096 * 0)) dX10_back_89 (pk_mul (4096) (0)) ?_
    refine w_iload_n dX10_back_90 rfl ?_
    refine w_iaddE (z := nI ((4096 * 0) + i)) dX10_back_91 (nI_add ((4096 * 0)) (i)) ?_
    refine w_baloadN (hUs_at nd 4 rfl rfl) (by omega) (by omega) dX10_back_92 ?_
    refine w_bastoreN (hUs_at nd 3 rfl rfl) (by omega) (by omega) dX10_back_93 ?_
    refine w_heq (hUs_set nd rfl 3 (cs' := [(oC 10 (mF m 0 tr pl (nI tp) sz sp fa fl tk ta sg nu wd (nI P.1) (nI P.2.1) rl rw ht sd ah cl)), (aI 11 fr), (aI 22 fi), (aB 4096 (upd f i (vp_nar .byte (fq ((4096 * 0) + i))))), (aB 8192 fq), (aZ 2 fh), (aI 2 fj)]) rfl rfl) ?_
    refine w_iinc (v := nI (i + 1)) (ls2 := [some (.ref m), some (.int (nI 0)), some (.int (nI (i + 1)))]) dX10_back_94 rfl (nI_1 _) (by decide) rfl rfl ?_
    refine w_goto (tgt := 69) dX10_back_97 rfl ?_
    exact ih (i + 1) _ (by omega) (fun j hj => by
      by_cases e : j = i
      · subst e; exact pk_us
      · rw [pk_un (by omega)]; exact h1 j (by omega)) (fun j hj => by rw [pk_un (by omega)]; exact h2 j hj)
set_option maxRecDepth 100000 in
set_option maxHeartbeats 4000000 in
theorem lq_keep1_1 {G : wG} {d : Nat} {h : hH} {Q : Option Value → hH → Prop} {m tp : Nat} {P : pD} {ht sd fa pl tr sz sp fl tk ta sg nu : Int32} {wd : Int64} {rl rw ah cl : Int32} {fr : Nat → Int32} {fo : Nat → Int32} {fq : Nat → Int32} {fh : Nat → Int32} {fj : Nat → Int32} {f0 : Nat → Int32} (nd : [m, m + 14, m + 17, m + 18, m + 19, m + 20, m + 21].Nodup) (k : ∀ f : Nat → Int32, (∀ j, j < 11 → f (11 * 1 + j) = fr (j)) → (∀ j, (j < 11 * 1 ∨ 11 * 1 + 11 ≤ j) → f j = f0 j) → WP G RX10 cX10_keep 3 (some .boolean) false (d + 1) 0 0 0 0 Q 58 [some (.ref m), some (.int (nI 1)), none] [] (hUs h [m, m + 14, m + 17, m + 18, m + 19, m + 20, m + 21] [(oC 10 (mF m 0 tr pl (nI tp) sz sp fa fl tk ta sg nu wd (nI P.1) (nI P.2.1) rl rw ht sd ah cl)), (aI 11 fr), (aI 22 f), (aB 4096 fo), (aB 8192 fq), (aZ 2 fh), (aI 2 fj)])) : ∀ (n : Nat) (i : Nat) (f : Nat → Int32), i + n = 11 → (∀ j, j < i → f (11 * 1 + j) = fr (j)) → (∀ j, (j < 11 * 1 ∨ 11 * 1 + 11 ≤ j) → f j = f0 j) → WP G RX10 cX10_keep 3 (some .boolean) false (d + 1) 0 0 0 0 Q 29 [some (.ref m), some (.int (nI 1)), some (.int (nI i))] [] (hUs h [m, m + 14, m + 17, m + 18, m + 19, m + 20, m + 21] [(oC 10 (mF m 0 tr pl (nI tp) sz sp fa fl tk ta sg nu wd (nI P.1) (nI P.2.1) rl rw ht sd ah cl)), (aI 11 fr), (aI 22 f), (aB 4096 fo), (aB 8192 fq), (aZ 2 fh), (aI 2 fj)]) := by
  intro n
  induction n with
  | zero =>
    intro i f hi h1 h2
    refine w_iload_n dX10_keep_29 rfl ?_
    refine w_bipush (v := 11) dX10_keep_30 (by decide) ?_
    refine w_icmp_ge_t (tgt := 58) dX10_keep_32 rfl ((nI_leI (a := 11) (b := i) (by omega) (by omega)).mpr (by omega)) ?_
    refine w_less (ls2 := [some (.ref m), some (.int (nI 1)), none]) ⟨Or.inr rfl, Or.inr rfl, Or.inl rfl, trivial⟩ ?_
    exact k f (fun j hj => h1 j (by omega)) h2
  | succ n ih =>
    intro i f hi h1 h2
    refine w_iload_n dX10_keep_29 rfl ?_
    refine w_bipush (v := 11) dX10_keep_30 (by decide) ?_
    refine w_icmp_ge_f (tgt := 58) dX10_keep_32 rfl (fun z => absurd ((nI_leI (a := 11) (b := i) (by omega) (by omega)).mp z) (by omega)) ?_
    refine w_aload_n dX10_keep_35 rfl ?_
    refine w_get (v := .ref (m + 17)) fX10_64 (hUs_at nd 0 rfl rfl) rfl dX10_keep_36 ?_
    refine w_bipush (v := 11) dX10_keep_39 (by decide) ?_
    refine w_iload_n dX10_keep_41 rfl ?_
    refine w_imulE (z := nI (11 * 1)) dX10_keep_42 (pk_mul (11) (1)) ?_
    refine w_iload_n dX10_keep_43 rfl ?_
    refine w_iaddE (z := nI ((11 * 1) + i)) dX10_keep_44 (nI_add ((11 * 1)) (i)) ?_
    refine w_aload_n dX10_keep_45 rfl ?_
    refine w_get (v := .ref (m + 14)) fX10_55 (hUs_at nd 0 rfl rfl) rfl dX10_keep_46 ?_
    refine w_iload_n dX10_keep_49 rfl ?_
    refine w_ialoadN (hUs_at nd 1 rfl rfl) (by omega) (by omega) dX10_keep_50 ?_
    refine w_iastoreN (hUs_at nd 2 rfl rfl) (by omega) (by omega) dX10_keep_51 ?_
    refine w_heq (hUs_set nd rfl 2 (cs' := [(oC 10 (mF m 0 tr pl (nI tp) sz sp fa fl tk ta sg nu wd (nI P.1) (nI P.2.1) rl rw ht sd ah cl)), (aI 11 fr), (aI 22 (upd f ((11 * 1) + i) (fr i))), (aB 4096 fo), (aB 8192 fq), (aZ 2 fh), (aI 2 fj)]) rfl rfl) ?_
    refine w_iinc (v := nI (i + 1)) (ls2 := [some (.ref m), some (.int (nI 1)), some (.int (nI (i + 1)))]) dX10_keep_52 rfl (nI_1 _) (by decide) rfl rfl ?_
    refine w_goto (tgt := 29) dX10_keep_55 rfl ?_
    exact ih (i + 1) _ (by omega) (fun j hj => by
      by_cases e : j = i
      · subst e; exact pk_us
      · rw [pk_un (by omega)]; exact h1 j (by omega)) (fun j hj => by rw [pk_un (by omega)]; exact h2 j hj)
set_option maxRecDepth 100000 in
set_option maxHeartbeats 4000000 in
theorem lq_keep2_1 {G : wG} {d : Nat} {h : hH} {Q : Option Value → hH → Prop} {m tp : Nat} {P : pD} {ht sd fa pl tr sz sp fl tk ta sg nu : Int32} {wd : Int64} {rl rw ah cl : Int32} {fr : Nat → Int32} {fi : Nat → Int32} {fo : Nat → Int32} {fh : Nat → Int32} {fj : Nat → Int32} {f0 : Nat → Int32} (nd : [m, m + 14, m + 17, m + 18, m + 19, m + 20, m + 21].Nodup) (k : ∀ f : Nat → Int32, (∀ j, j < 4096 → f (4096 * 1 + j) = vp_nar .byte (fo (j))) → (∀ j, (j < 4096 * 1 ∨ 4096 * 1 + 4096 ≤ j) → f j = f0 j) → WP G RX10 cX10_keep 3 (some .boolean) false (d + 1) 0 0 0 0 Q 91 [some (.ref m), some (.int (nI 1)), none] [] (hUs h [m, m + 14, m + 17, m + 18, m + 19, m + 20, m + 21] [(oC 10 (mF m 0 tr pl (nI tp) sz sp fa fl tk ta sg nu wd (nI P.1) (nI P.2.1) rl rw ht sd ah cl)), (aI 11 fr), (aI 22 fi), (aB 4096 fo), (aB 8192 f), (aZ 2 fh), (aI 2 fj)])) : ∀ (n : Nat) (i : Nat) (f : Nat → Int32), i + n = 4096 → (∀ j, j < i → f (4096 * 1 + j) = vp_nar .byte (fo (j))) → (∀ j, (j < 4096 * 1 ∨ 4096 * 1 + 4096 ≤ j) → f j = f0 j) → WP G RX10 cX10_keep 3 (some .boolean) false (d + 1) 0 0 0 0 Q 60 [some (.ref m), some (.int (nI 1)), some (.int (nI i))] [] (hUs h [m, m + 14, m + 17, m + 18, m + 19, m + 20, m + 21] [(oC 10 (mF m 0 tr pl (nI tp) sz sp fa fl tk ta sg nu wd (nI P.1) (nI P.2.1) rl rw ht sd ah cl)), (aI 11 fr), (aI 22 fi), (aB 4096 fo), (aB 8192 f), (aZ 2 fh), (aI 2 fj)]) := by
  intro n
  induction n with
  | zero =>
    intro i f hi h1 h2
    refine w_iload_n dX10_keep_60 rfl ?_
    refine w_sipush (v := 4096) dX10_keep_61 (by decide) ?_
    refine w_icmp_ge_t (tgt := 91) dX10_keep_64 rfl ((nI_leI (a := 4096) (b := i) (by omega) (by omega)).mpr (by omega)) ?_
    refine w_less (ls2 := [some (.ref m), some (.int (nI 1)), none]) ⟨Or.inr rfl, Or.inr rfl, Or.inl rfl, trivial⟩ ?_
    exact k f (fun j hj => h1 j (by omega)) h2
  | succ n ih =>
    intro i f hi h1 h2
    refine w_iload_n dX10_keep_60 rfl ?_
    refine w_sipush (v := 4096) dX10_keep_61 (by decide) ?_
    refine w_icmp_ge_f (tgt := 91) dX10_keep_64 rfl (fun z => absurd ((nI_leI (a := 4096) (b := i) (by omega) (by omega)).mp z) (by omega)) ?_
    refine w_aload_n dX10_keep_67 rfl ?_
    refine w_get (v := .ref (m + 19)) fX10_71 (hUs_at nd 0 rfl rfl) rfl dX10_keep_68 ?_
    refine w_sipush (v := 4096) dX10_keep_71 (by decide) ?_
    refine w_iload_n dX10_keep_74 rfl ?_
    refine w_imulE (z := nI (4096 * 1)) dX10_keep_75 (pk_mul (4096) (1)) ?_
    refine w_iload_n dX10_keep_76 rfl ?_
    refine w_iaddE (z := nI ((4096 * 1) + i)) dX10_keep_77 (nI_add ((4096 * 1)) (i)) ?_
    refine w_aload_n dX10_keep_78 rfl ?_
    refine w_get (v := .ref (m + 18)) fX10_67 (hUs_at nd 0 rfl rfl) rfl dX10_keep_79 ?_
    refine w_iload_n dX10_keep_82 rfl ?_
    refine w_baloadN (hUs_at nd 3 rfl rfl) (by omega) (by omega) dX10_keep_83 ?_
    refine w_bastoreN (hUs_at nd 4 rfl rfl) (by omega) (by omega) dX10_keep_84 ?_
    refine w_heq (hUs_set nd rfl 4 (cs' := [(oC 10 (mF m 0 tr pl (nI tp) sz sp fa fl tk ta sg nu wd (nI P.1) (nI P.2.1) rl rw ht sd ah cl)), (aI 11 fr), (aI 22 fi), (aB 4096 fo), (aB 8192 (upd f ((4096 * 1) + i) (vp_nar .byte (fo i)))), (aZ 2 fh), (aI 2 fj)]) rfl rfl) ?_
    refine w_iinc (v := nI (i + 1)) (ls2 := [some (.ref m), some (.int (nI 1)), some (.int (nI (i + 1)))]) dX10_keep_85 rfl (nI_1 _) (by decide) rfl rfl ?_
    refine w_goto (tgt := 60) dX10_keep_88 rfl ?_
    exact ih (i + 1) _ (by omega) (fun j hj => by
      by_cases e : j = i
      · subst e; exact pk_us
      · rw [pk_un (by omega)]; exact h1 j (by omega)) (fun j hj => by rw [pk_un (by omega)]; exact h2 j hj)
set_option maxRecDepth 100000 in
set_option maxHeartbeats 4000000 in
theorem lq_back1_1 {G : wG} {d : Nat} {h : hH} {Q : Option Value → hH → Prop} {m tp : Nat} {P : pD} {ht sd fa pl tr sz sp fl tk ta sg nu : Int32} {wd : Int64} {rl rw ah cl : Int32} {fi : Nat → Int32} {fo : Nat → Int32} {fq : Nat → Int32} {fh : Nat → Int32} {fj : Nat → Int32} {f0 : Nat → Int32} (nd : [m, m + 14, m + 17, m + 18, m + 19, m + 20, m + 21].Nodup) (k : ∀ f : Nat → Int32, (∀ j, j < 11 → f (j) = fi (11 * 1 + j)) → (∀ j, (j < 0 ∨ 0 + 11 ≤ j) → f j = f0 j) → WP G RX10 cX10_back 3 (some .boolean) false (d + 1) 0 0 0 0 Q 67 [some (.ref m), some (.int (nI 1)), none] [] (hUs h [m, m + 14, m + 17, m + 18, m + 19, m + 20, m + 21] [(oC 10 (mF m 0 tr pl (nI tp) sz sp fa fl tk ta sg nu wd (nI P.1) (nI P.2.1) rl rw ht sd ah cl)), (aI 11 f), (aI 22 fi), (aB 4096 fo), (aB 8192 fq), (aZ 2 fh), (aI 2 fj)])) : ∀ (n : Nat) (i : Nat) (f : Nat → Int32), i + n = 11 → (∀ j, j < i → f (j) = fi (11 * 1 + j)) → (∀ j, (j < 0 ∨ 0 + 11 ≤ j) → f j = f0 j) → WP G RX10 cX10_back 3 (some .boolean) false (d + 1) 0 0 0 0 Q 38 [some (.ref m), some (.int (nI 1)), some (.int (nI i))] [] (hUs h [m, m + 14, m + 17, m + 18, m + 19, m + 20, m + 21] [(oC 10 (mF m 0 tr pl (nI tp) sz sp fa fl tk ta sg nu wd (nI P.1) (nI P.2.1) rl rw ht sd ah cl)), (aI 11 f), (aI 22 fi), (aB 4096 fo), (aB 8192 fq), (aZ 2 fh), (aI 2 fj)]) := by
  intro n
  induction n with
  | zero =>
    intro i f hi h1 h2
    refine w_iload_n dX10_back_38 rfl ?_
    refine w_bipush (v := 11) dX10_back_39 (by decide) ?_
    refine w_icmp_ge_t (tgt := 67) dX10_back_41 rfl ((nI_leI (a := 11) (b := i) (by omega) (by omega)).mpr (by omega)) ?_
    refine w_less (ls2 := [some (.ref m), some (.int (nI 1)), none]) ⟨Or.inr rfl, Or.inr rfl, Or.inl rfl, trivial⟩ ?_
    exact k f (fun j hj => h1 j (by omega)) h2
  | succ n ih =>
    intro i f hi h1 h2
    refine w_iload_n dX10_back_38 rfl ?_
    refine w_bipush (v := 11) dX10_back_39 (by decide) ?_
    refine w_icmp_ge_f (tgt := 67) dX10_back_41 rfl (fun z => absurd ((nI_leI (a := 11) (b := i) (by omega) (by omega)).mp z) (by omega)) ?_
    refine w_aload_n dX10_back_44 rfl ?_
    refine w_get (v := .ref (m + 14)) fX10_55 (hUs_at nd 0 rfl rfl) rfl dX10_back_45 ?_
    refine w_iload_n dX10_back_48 rfl ?_
    refine w_aload_n dX10_back_49 rfl ?_
    refine w_get (v := .ref (m + 17)) fX10_64 (hUs_at nd 0 rfl rfl) rfl dX10_back_50 ?_
    refine w_bipush (v := 11) dX10_back_53 (by decide) ?_
    refine w_iload_n dX10_back_55 rfl ?_
    refine w_imulE (z := nI (11 * 1)) dX10_back_56 (pk_mul (11) (1)) ?_
    refine w_iload_n dX10_back_57 rfl ?_
    refine w_iaddE (z := nI ((11 * 1) + i)) dX10_back_58 (nI_add ((11 * 1)) (i)) ?_
    refine w_ialoadN (hUs_at nd 2 rfl rfl) (by omega) (by omega) dX10_back_59 ?_
    refine w_iastoreN (hUs_at nd 1 rfl rfl) (by omega) (by omega) dX10_back_60 ?_
    refine w_heq (hUs_set nd rfl 1 (cs' := [(oC 10 (mF m 0 tr pl (nI tp) sz sp fa fl tk ta sg nu wd (nI P.1) (nI P.2.1) rl rw ht sd ah cl)), (aI 11 (upd f i (fi ((11 * 1) + i)))), (aI 22 fi), (aB 4096 fo), (aB 8192 fq), (aZ 2 fh), (aI 2 fj)]) rfl rfl) ?_
    refine w_iinc (v := nI (i + 1)) (ls2 := [some (.ref m), some (.int (nI 1)), some (.int (nI (i + 1)))]) dX10_back_61 rfl (nI_1 _) (by decide) rfl rfl ?_
    refine w_goto (tgt := 38) dX10_back_64 rfl ?_
    exact ih (i + 1) _ (by omega) (fun j hj => by
      by_cases e : j = i
      · subst e; exact pk_us
      · rw [pk_un (by omega)]; exact h1 j (by omega)) (fun j hj => by rw [pk_un (by omega)]; exact h2 j hj)
set_option maxRecDepth 100000 in
set_option maxHeartbeats 4000000 in
theorem lq_back2_1 {G : wG} {d : Nat} {h : hH} {Q : Option Value → hH → Prop} {m tp : Nat} {P : pD} {ht sd fa pl tr sz sp fl tk ta sg nu : Int32} {wd : Int64} {rl rw ah cl : Int32} {fr : Nat → Int32} {fi : Nat → Int32} {fq : Nat → Int32} {fh : Nat → Int32} {fj : Nat → Int32} {f0 : Nat → Int32} (nd : [m, m + 14, m + 17, m + 18, m + 19, m + 20, m + 21].Nodup) (k : ∀ f : Nat → Int32, (∀ j, j < 4096 → f (j) = vp_nar .byte (fq (4096 * 1 + j))) → (∀ j, (j < 0 ∨ 0 + 4096 ≤ j) → f j = f0 j) → WP G RX10 cX10_back 3 (some .boolean) false (d + 1) 0 0 0 0 Q 100 [some (.ref m), some (.int (nI 1)), none] [] (hUs h [m, m + 14, m + 17, m + 18, m + 19, m + 20, m + 21] [(oC 10 (mF m 0 tr pl (nI tp) sz sp fa fl tk ta sg nu wd (nI P.1) (nI P.2.1) rl rw ht sd ah cl)), (aI 11 fr), (aI 22 fi), (aB 4096 f), (aB 8192 fq), (aZ 2 fh), (aI 2 fj)])) : ∀ (n : Nat) (i : Nat) (f : Nat → Int32), i + n = 4096 → (∀ j, j < i → f (j) = vp_nar .byte (fq (4096 * 1 + j))) → (∀ j, (j < 0 ∨ 0 + 4096 ≤ j) → f j = f0 j) → WP G RX10 cX10_back 3 (some .boolean) false (d + 1) 0 0 0 0 Q 69 [some (.ref m), some (.int (nI 1)), some (.int (nI i))] [] (hUs h [m, m + 14, m + 17, m + 18, m + 19, m + 20, m + 21] [(oC 10 (mF m 0 tr pl (nI tp) sz sp fa fl tk ta sg nu wd (nI P.1) (nI P.2.1) rl rw ht sd ah cl)), (aI 11 fr), (aI 22 fi), (aB 4096 f), (aB 8192 fq), (aZ 2 fh), (aI 2 fj)]) := by
  intro n
  induction n with
  | zero =>
    intro i f hi h1 h2
    refine w_iload_n dX10_back_69 rfl ?_
    refine w_sipush (v := 4096) dX10_back_70 (by decide) ?_
    refine w_icmp_ge_t (tgt := 100) dX10_back_73 rfl ((nI_leI (a := 4096) (b := i) (by omega) (by omega)).mpr (by omega)) ?_
    refine w_less (ls2 := [some (.ref m), some (.int (nI 1)), none]) ⟨Or.inr rfl, Or.inr rfl, Or.inl rfl, trivial⟩ ?_
    exact k f (fun j hj => h1 j (by omega)) h2
  | succ n ih =>
    intro i f hi h1 h2
    refine w_iload_n dX10_back_69 rfl ?_
    refine w_sipush (v := 4096) dX10_back_70 (by decide) ?_
    refine w_icmp_ge_f (tgt := 100) dX10_back_73 rfl (fun z => absurd ((nI_leI (a := 4096) (b := i) (by omega) (by omega)).mp z) (by omega)) ?_
    refine w_aload_n dX10_back_76 rfl ?_
    refine w_get (v := .ref (m + 18)) fX10_67 (hUs_at nd 0 rfl rfl) rfl dX10_back_77 ?_
    refine w_iload_n dX10_back_80 rfl ?_
    refine w_aload_n dX10_back_81 rfl ?_
    refine w_get (v := .ref (m + 19)) fX10_71 (hUs_at nd 0 rfl rfl) rfl dX10_back_82 ?_
    refine w_sipush (v := 4096) dX10_back_85 (by decide) ?_
    refine w_iload_n dX10_back_88 rfl ?_
    refine w_imulE (z := nI (4096 * 1)) dX10_back_89 (pk_mul (4096) (1)) ?_
    refine w_iload_n dX10_back_90 rfl ?_
    refine w_iaddE (z := nI ((4096 * 1) + i)) dX10_back_91 (nI_add ((4096 * 1)) (i)) ?_
    refine w_baloadN (hUs_at nd 4 rfl rfl) (by omega) (by omega) dX10_back_92 ?_
    refine w_bastoreN (hUs_at nd 3 rfl rfl) (by omega) (by omega) dX10_back_93 ?_
    refine w_heq (hUs_set nd rfl 3 (cs' := [(oC 10 (mF m 0 tr pl (nI tp) sz sp fa fl tk ta sg nu wd (nI P.1) (nI P.2.1) rl rw ht sd ah cl)), (aI 11 fr), (aI 22 fi), (aB 4096 (upd f i (vp_nar .byte (fq ((4096 * 1) + i))))), (aB 8192 fq), (aZ 2 fh), (aI 2 fj)]) rfl rfl) ?_
    refine w_iinc (v := nI (i + 1)) (ls2 := [some (.ref m), some (.int (nI 1)), some (.int (nI (i + 1)))]) dX10_back_94 rfl (nI_1 _) (by decide) rfl rfl ?_
    refine w_goto (tgt := 69) dX10_back_97 rfl ?_
    exact ih (i + 1) _ (by omega) (fun j hj => by
      by_cases e : j = i
      · subst e; exact pk_us
      · rw [pk_un (by omega)]; exact h1 j (by omega)) (fun j hj => by rw [pk_un (by omega)]; exact h2 j hj)
set_option maxRecDepth 100000 in
set_option maxHeartbeats 4000000 in
theorem q_keep_0 {G : wG} {d : Nat} {h : hH} {Q : Option Value → hH → Prop} {m : Nat} {ft : Nat → Int32} {tp : Nat} {P : pD} {ht : Int32} {R : Option rnD} {i0 i1 : imD} {sd fa pl tr : Int32} {th : Int32}  (hI : mI h m ft tp P ht R i0 i1 sd fa pl tr th)  (k : ∀ h2, mI h2 m ft tp P ht R (iKp ht (nI 0) 0 R sd i0) (iKp ht (nI 0) 1 R sd i1) sd fa (-1) (oKp ht (nI 0)).2 0 → mFr m h h2 → Q (some (.int (oKp ht (nI 0)).1)) h2) : Cl G yX10_keep (d + 1) 0 0 [.ref m, .int (nI 0)] h Q := by
  refine mI_e hI ?_
  intro sz sp fl tk ta sg nu wd rl rw ah cl gt ln wn fs ff fb fn fp f3 fk fx fy fc fr f1 f2 fi fo fq fh fj fw fz hW hT hPm hG hRm hm0 hm1 hsd hht htp
  have hnL : P.1 ≤ 4096 := Nat.le_trans hG.2.2.1 (by decide)
  have hnW : P.2.1 ≤ 4096 := Nat.le_trans hG.2.2.2 (by decide)
  have hhL : (ht = 0 ∧ P.1 = 0) ∨ ht = 1 := hht.imp (fun z => ⟨z.1, z.2.1⟩) id
  have hhW : (ht = 0 ∧ P.2.1 = 0) ∨ ht = 1 := hht.imp (fun z => ⟨z.1, z.2.2⟩) id
  have hw : hHas h [m, m + 14, m + 17, m + 18, m + 19, m + 20, m + 21] [(oC 10 (mF m th tr pl (nI tp) sz sp fa fl tk ta sg nu wd (nI P.1) (nI P.2.1) rl rw ht sd ah cl)), (aI 11 fr), (aI 22 fi), (aB 4096 fo), (aB 8192 fq), (aZ 2 fh), (aI 2 fj)] := hHas_s hW [0, 14, 17, 18, 19, 20, 21] rfl rfl
  have nd : [m, m + 14, m + 17, m + 18, m + 19, m + 20, m + 21].Nodup := (nd_inc ⟨by omega, by omega, by omega, by omega, by omega, by omega, trivial⟩)
  refine Cl.of (ini := false) kX10_keep (plainFor_of_name (by decide)) (by decide) (Nat.le_of_ble_eq_true rfl) rfl rfl (fun z => by cases z) ?_
  refine w_heq (hUs_id hw).symm ?_
  refine w_aload_n dX10_keep_0 rfl ?_
  refine w_iconst (v := 0) dX10_keep_1 (by decide) ?_
  refine w_put (fs' := (mF m 0 tr pl (nI tp) sz sp fa fl tk ta sg nu wd (nI P.1) (nI P.2.1) rl rw ht sd ah cl)) fX10_89 (hUs_at nd 0 rfl rfl) rfl rfl (Nat.le_of_ble_eq_true rfl) rfl dX10_keep_2 ?_
  refine w_heq (hUs_set nd rfl 0 (cs' := [(oC 10 (mF m 0 tr pl (nI tp) sz sp fa fl tk ta sg nu wd (nI P.1) (nI P.2.1) rl rw ht sd ah cl)), (aI 11 fr), (aI 22 fi), (aB 4096 fo), (aB 8192 fq), (aZ 2 fh), (aI 2 fj)]) rfl rfl) ?_
  refine w_aload_n dX10_keep_5 rfl ?_
  refine w_get (v := .int ht) fX10_247 (hUs_at nd 0 rfl rfl) rfl dX10_keep_6 ?_
  refine w_if_eq (tgt := 21) dX10_keep_9 rfl (fun b9 => ?_) (fun b9 => ?_)
  · refine w_aload_n dX10_keep_21 rfl ?_
    refine w_iconst (v := 1) dX10_keep_22 (by decide) ?_
    refine w_callV (ci := 10) (d' := d) (mc' := 0) (ms' := 0) (As := [.int 1]) (st := []) lX10_277 vX10_done rfl (hUs_at nd 0 rfl rfl) rfl (Nat.le_of_ble_eq_true rfl) dX10_keep_23 (Nat.le_of_ble_eq_true rfl) (Nat.le_of_ble_eq_true rfl) (Nat.le_refl _) (m_done (hHas_sub nd (as' := [m]) (cs' := [(oC 10 (mF m 0 tr pl (nI tp) sz sp fa fl tk ta sg nu wd (nI P.1) (nI P.2.1) rl rw ht sd ah cl))]) [0] rfl rfl) (nd_sub nd (as' := [m]) [0] rfl rfl)  ?_)
    refine w_heq (hUs_in nd rfl [0] (cs2 := [(oC 10 (mF m 0 1 (-1) (nI tp) sz sp fa fl tk ta sg nu wd (nI P.1) (nI P.2.1) rl rw ht sd ah cl)), (aI 11 fr), (aI 22 fi), (aB 4096 fo), (aB 8192 fq), (aZ 2 fh), (aI 2 fj)]) rfl rfl) ?_
    refine w_zreturn rfl dX10_keep_26 rfl (Nat.le_of_ble_eq_true rfl) (Nat.le_of_ble_eq_true rfl) ?_
    have e : oKp ht (nI 0) = (0, 1) := by
      rw [oKp, if_pos (Or.inl b9)]
    have e09 : iKp ht (nI 0) 0 R sd i0 = i0 := by
      rw [iKp, if_pos (Or.inl b9)]
    have e19 : iKp ht (nI 0) 1 R sd i1 = i1 := by
      rw [iKp, if_pos (Or.inl b9)]
    rw [e, e09, e19] at k
    exact k _ (mI_i (cI_put hW (mAs_nd m) rfl [0, 14, 17, 18, 19, 20, 21] (cs2 := [(oC 10 (mF m 0 1 (-1) (nI tp) sz sp fa fl tk ta sg nu wd (nI P.1) (nI P.2.1) rl rw ht sd ah cl)), (aI 600 gt), (aL 8 ln), (aL 8 wn), (aI 8 fs), (aI 24 ff), (aI 8 fb), (aI 8 fn), (aI 8 fp), (aZ 8 f3), (aI 64 fk), (aI 64 fx), (aI 64 fy), (aI 64 fc), (aI 11 fr), (aI 11 f1), (aI 11 f2), (aI 22 fi), (aB 4096 fo), (aB 8192 fq), (aZ 2 fh), (aI 2 fj), (aI 4096 fw), (aI 2100 fz)]) rfl rfl) hT hPm hG hRm hm0 hm1 hsd hht htp) (mFr_of (by intro a ha; simp only [List.mem_cons, List.not_mem_nil, or_false] at ha; omega))
  · refine w_iload_n dX10_keep_12 rfl ?_
    refine w_iconst (v := 0) dX10_keep_13 (by decide) ?_
    refine w_iconst (v := 1) dX10_keep_14 (by decide) ?_
    refine w_callS (d' := d) (mc' := 0) (ms' := 0) (As := [.int (nI 0), .int 0, .int 1]) (st := []) lX10_111 vX10_in rfl (Nat.le_of_ble_eq_true rfl) dX10_keep_15 (Nat.le_of_ble_eq_true rfl) (Nat.le_of_ble_eq_true rfl) (Nat.le_refl _) (c_in ?_)
    refine w_if_ne_t (tgt := 27) dX10_keep_18 rfl (by decide) ?_
    refine w_iconst (v := (nI 0)) dX10_keep_27 (by decide) ?_
    refine w_istore_n (ls2 := [some (.ref m), some (.int (nI 0)), some (.int (nI 0))]) dX10_keep_28 (by decide) rfl rfl ?_
    refine lq_keep1_0 nd (fun fi9 hi1 hi2 => ?_) 11 0 fi rfl (fun j hj => absurd hj (Nat.not_lt_zero j)) (fun _ _ => rfl)
    refine w_iconst (v := (nI 0)) dX10_keep_58 (by decide) ?_
    refine w_istore_n (ls2 := [some (.ref m), some (.int (nI 0)), some (.int (nI 0))]) dX10_keep_59 (by decide) rfl rfl ?_
    refine lq_keep2_0 nd (fun fq9 hq1 hq2 => ?_) 4096 0 fq rfl (fun j hj => absurd hj (Nat.not_lt_zero j)) (fun _ _ => rfl)
    refine w_aload_n dX10_keep_91 rfl ?_
    refine w_get (v := .ref (m + 21)) fX10_77 (hUs_at nd 0 rfl rfl) rfl dX10_keep_92 ?_
    refine w_iload_n dX10_keep_95 rfl ?_
    refine w_aload_n dX10_keep_96 rfl ?_
    refine w_get (v := .int sd) fX10_80 (hUs_at nd 0 rfl rfl) rfl dX10_keep_97 ?_
    refine w_iastoreN (hUs_at nd 6 rfl rfl) (by omega) (by omega) dX10_keep_100 ?_
    refine w_heq (hUs_set nd rfl 6 (cs' := [(oC 10 (mF m 0 tr pl (nI tp) sz sp fa fl tk ta sg nu wd (nI P.1) (nI P.2.1) rl rw ht sd ah cl)), (aI 11 fr), (aI 22 fi9), (aB 4096 fo), (aB 8192 fq9), (aZ 2 fh), (aI 2 (upd fj 0 sd))]) rfl rfl) ?_
    refine w_aload_n dX10_keep_101 rfl ?_
    refine w_get (v := .ref (m + 20)) fX10_74 (hUs_at nd 0 rfl rfl) rfl dX10_keep_102 ?_
    refine w_iload_n dX10_keep_105 rfl ?_
    refine w_iconst (v := 1) dX10_keep_106 (by decide) ?_
    refine w_zastoreN (hUs_at nd 5 rfl rfl) (by omega) (by omega) dX10_keep_107 ?_
    refine w_heq (hUs_set nd rfl 5 (cs' := [(oC 10 (mF m 0 tr pl (nI tp) sz sp fa fl tk ta sg nu wd (nI P.1) (nI P.2.1) rl rw ht sd ah cl)), (aI 11 fr), (aI 22 fi9), (aB 4096 fo), (aB 8192 fq9), (aZ 2 (upd fh 0 (vp_nar .boolean 1))), (aI 2 (upd fj 0 sd))]) rfl rfl) ?_
    refine w_aload_n dX10_keep_108 rfl ?_
    refine w_iconst (v := 0) dX10_keep_109 (by decide) ?_
    refine w_callV (ci := 10) (d' := d) (mc' := 0) (ms' := 0) (As := [.int 0]) (st := []) lX10_277 vX10_done rfl (hUs_at nd 0 rfl rfl) rfl (Nat.le_of_ble_eq_true rfl) dX10_keep_110 (Nat.le_of_ble_eq_true rfl) (Nat.le_of_ble_eq_true rfl) (Nat.le_refl _) (m_done (hHas_sub nd (as' := [m]) (cs' := [(oC 10 (mF m 0 tr pl (nI tp) sz sp fa fl tk ta sg nu wd (nI P.1) (nI P.2.1) rl rw ht sd ah cl))]) [0] rfl rfl) (nd_sub nd (as' := [m]) [0] rfl rfl)  ?_)
    refine w_heq (hUs_in nd rfl [0] (cs2 := [(oC 10 (mF m 0 0 (-1) (nI tp) sz sp fa fl tk ta sg nu wd (nI P.1) (nI P.2.1) rl rw ht sd ah cl)), (aI 11 fr), (aI 22 fi9), (aB 4096 fo), (aB 8192 fq9), (aZ 2 (upd fh 0 (vp_nar .boolean 1))), (aI 2 (upd fj 0 sd))]) rfl rfl) ?_
    refine w_zreturn rfl dX10_keep_113 rfl (Nat.le_of_ble_eq_true rfl) (Nat.le_of_ble_eq_true rfl) ?_
    have e : oKp ht (nI 0) = (1, 0) := by
      rw [oKp, if_neg (fun z => z.elim b9 (by decide))]
    have e09 : iKp ht (nI 0) 0 R sd i0 = some (R, sd) := by
      rw [iKp, if_neg (fun z => z.elim b9 (fun z => z rfl))]
    have e19 : iKp ht (nI 0) 1 R sd i1 = i1 := by
      rw [iKp, if_pos (Or.inr (by decide))]
    rw [e, e09, e19] at k
    have hht1 : ht = 1 := hht.resolve_left (fun z => b9 z.1)
    have hmk : mIv P ht 0 (some (R, sd)) fi9 fq9 (upd fh 0 (vp_nar .boolean 1)) (upd fj 0 sd) := by
      have hq3 : ∀ t, vp_nar .byte (fo t) = fo t → t < 4096 → fq9 (4096 * 0 + t) = fo t := fun t h9 ht9 => (hq1 t ht9).trans h9
      cases R with
      | none => exact ⟨hht1, rfl, rfl, hsd, (hi1 0 (by omega)).trans (hRm.resolve_left b9)⟩
      | some r => exact ⟨hht1, rfl, rfl, hsd, mRr_cp hRm.2 (hG.1 _ hRm.2.1.1).2.1 hi1 (fun t ht9 => hq3 t (by rw [hRm.2.2.2.2.2 t ht9]; exact nar_1 (rO_in _ _)) (Nat.lt_of_lt_of_le ht9 hRm.2.1.2.2))⟩
    have hmo : mIv P ht 1 i1 fi9 fq9 (upd fh 0 (vp_nar .boolean 1)) (upd fj 0 sd) := mIv_cp hm1 hG (fun j hj => hi2 _ (by omega)) (fun j hj => hq2 _ (by omega)) rfl rfl
    exact k _ (mI_i (cI_put hW (mAs_nd m) rfl [0, 14, 17, 18, 19, 20, 21] (cs2 := [(oC 10 (mF m 0 0 (-1) (nI tp) sz sp fa fl tk ta sg nu wd (nI P.1) (nI P.2.1) rl rw ht sd ah cl)), (aI 600 gt), (aL 8 ln), (aL 8 wn), (aI 8 fs), (aI 24 ff), (aI 8 fb), (aI 8 fn), (aI 8 fp), (aZ 8 f3), (aI 64 fk), (aI 64 fx), (aI 64 fy), (aI 64 fc), (aI 11 fr), (aI 11 f1), (aI 11 f2), (aI 22 fi9), (aB 4096 fo), (aB 8192 fq9), (aZ 2 (upd fh 0 (vp_nar .boolean 1))), (aI 2 (upd fj 0 sd)), (aI 4096 fw), (aI 2100 fz)]) rfl rfl) hT hPm hG hRm hmk hmo hsd hht htp) (mFr_of (by intro a ha; simp only [List.mem_cons, List.not_mem_nil, or_false] at ha; omega))
set_option maxRecDepth 100000 in
set_option maxHeartbeats 4000000 in
theorem q_keep_1 {G : wG} {d : Nat} {h : hH} {Q : Option Value → hH → Prop} {m : Nat} {ft : Nat → Int32} {tp : Nat} {P : pD} {ht : Int32} {R : Option rnD} {i0 i1 : imD} {sd fa pl tr : Int32} {th : Int32}  (hI : mI h m ft tp P ht R i0 i1 sd fa pl tr th)  (k : ∀ h2, mI h2 m ft tp P ht R (iKp ht (nI 1) 0 R sd i0) (iKp ht (nI 1) 1 R sd i1) sd fa (-1) (oKp ht (nI 1)).2 0 → mFr m h h2 → Q (some (.int (oKp ht (nI 1)).1)) h2) : Cl G yX10_keep (d + 1) 0 0 [.ref m, .int (nI 1)] h Q := by
  refine mI_e hI ?_
  intro sz sp fl tk ta sg nu wd rl rw ah cl gt ln wn fs ff fb fn fp f3 fk fx fy fc fr f1 f2 fi fo fq fh fj fw fz hW hT hPm hG hRm hm0 hm1 hsd hht htp
  have hnL : P.1 ≤ 4096 := Nat.le_trans hG.2.2.1 (by decide)
  have hnW : P.2.1 ≤ 4096 := Nat.le_trans hG.2.2.2 (by decide)
  have hhL : (ht = 0 ∧ P.1 = 0) ∨ ht = 1 := hht.imp (fun z => ⟨z.1, z.2.1⟩) id
  have hhW : (ht = 0 ∧ P.2.1 = 0) ∨ ht = 1 := hht.imp (fun z => ⟨z.1, z.2.2⟩) id
  have hw : hHas h [m, m + 14, m + 17, m + 18, m + 19, m + 20, m + 21] [(oC 10 (mF m th tr pl (nI tp) sz sp fa fl tk ta sg nu wd (nI P.1) (nI P.2.1) rl rw ht sd ah cl)), (aI 11 fr), (aI 22 fi), (aB 4096 fo), (aB 8192 fq), (aZ 2 fh), (aI 2 fj)] := hHas_s hW [0, 14, 17, 18, 19, 20, 21] rfl rfl
  have nd : [m, m + 14, m + 17, m + 18, m + 19, m + 20, m + 21].Nodup := (nd_inc ⟨by omega, by omega, by omega, by omega, by omega, by omega, trivial⟩)
  refine Cl.of (ini := false) kX10_keep (plainFor_of_name (by decide)) (by decide) (Nat.le_of_ble_eq_true rfl) rfl rfl (fun z => by cases z) ?_
  refine w_heq (hUs_id hw).symm ?_
  refine w_aload_n dX10_keep_0 rfl ?_
  refine w_iconst (v := 0) dX10_keep_1 (by decide) ?_
  refine w_put (fs' := (mF m 0 tr pl (nI tp) sz sp fa fl tk ta sg nu wd (nI P.1) (nI P.2.1) rl rw ht sd ah cl)) fX10_89 (hUs_at nd 0 rfl rfl) rfl rfl (Nat.le_of_ble_eq_true rfl) rfl dX10_keep_2 ?_
  refine w_heq (hUs_set nd rfl 0 (cs' := [(oC 10 (mF m 0 tr pl (nI tp) sz sp fa fl tk ta sg nu wd (nI P.1) (nI P.2.1) rl rw ht sd ah cl)), (aI 11 fr), (aI 22 fi), (aB 4096 fo), (aB 8192 fq), (aZ 2 fh), (aI 2 fj)]) rfl rfl) ?_
  refine w_aload_n dX10_keep_5 rfl ?_
  refine w_get (v := .int ht) fX10_247 (hUs_at nd 0 rfl rfl) rfl dX10_keep_6 ?_
  refine w_if_eq (tgt := 21) dX10_keep_9 rfl (fun b9 => ?_) (fun b9 => ?_)
  · refine w_aload_n dX10_keep_21 rfl ?_
    refine w_iconst (v := 1) dX10_keep_22 (by decide) ?_
    refine w_callV (ci := 10) (d' := d) (mc' := 0) (ms' := 0) (As := [.int 1]) (st := []) lX10_277 vX10_done rfl (hUs_at nd 0 rfl rfl) rfl (Nat.le_of_ble_eq_true rfl) dX10_keep_23 (Nat.le_of_ble_eq_true rfl) (Nat.le_of_ble_eq_true rfl) (Nat.le_refl _) (m_done (hHas_sub nd (as' := [m]) (cs' := [(oC 10 (mF m 0 tr pl (nI tp) sz sp fa fl tk ta sg nu wd (nI P.1) (nI P.2.1) rl rw ht sd ah cl))]) [0] rfl rfl) (nd_sub nd (as' := [m]) [0] rfl rfl)  ?_)
    refine w_heq (hUs_in nd rfl [0] (cs2 := [(oC 10 (mF m 0 1 (-1) (nI tp) sz sp fa fl tk ta sg nu wd (nI P.1) (nI P.2.1) rl rw ht sd ah cl)), (aI 11 fr), (aI 22 fi), (aB 4096 fo), (aB 8192 fq), (aZ 2 fh), (aI 2 fj)]) rfl rfl) ?_
    refine w_zreturn rfl dX10_keep_26 rfl (Nat.le_of_ble_eq_true rfl) (Nat.le_of_ble_eq_true rfl) ?_
    have e : oKp ht (nI 1) = (0, 1) := by
      rw [oKp, if_pos (Or.inl b9)]
    have e09 : iKp ht (nI 1) 0 R sd i0 = i0 := by
      rw [iKp, if_pos (Or.inl b9)]
    have e19 : iKp ht (nI 1) 1 R sd i1 = i1 := by
      rw [iKp, if_pos (Or.inl b9)]
    rw [e, e09, e19] at k
    exact k _ (mI_i (cI_put hW (mAs_nd m) rfl [0, 14, 17, 18, 19, 20, 21] (cs2 := [(oC 10 (mF m 0 1 (-1) (nI tp) sz sp fa fl tk ta sg nu wd (nI P.1) (nI P.2.1) rl rw ht sd ah cl)), (aI 600 gt), (aL 8 ln), (aL 8 wn), (aI 8 fs), (aI 24 ff), (aI 8 fb), (aI 8 fn), (aI 8 fp), (aZ 8 f3), (aI 64 fk), (aI 64 fx), (aI 64 fy), (aI 64 fc), (aI 11 fr), (aI 11 f1), (aI 11 f2), (aI 22 fi), (aB 4096 fo), (aB 8192 fq), (aZ 2 fh), (aI 2 fj), (aI 4096 fw), (aI 2100 fz)]) rfl rfl) hT hPm hG hRm hm0 hm1 hsd hht htp) (mFr_of (by intro a ha; simp only [List.mem_cons, List.not_mem_nil, or_false] at ha; omega))
  · refine w_iload_n dX10_keep_12 rfl ?_
    refine w_iconst (v := 0) dX10_keep_13 (by decide) ?_
    refine w_iconst (v := 1) dX10_keep_14 (by decide) ?_
    refine w_callS (d' := d) (mc' := 0) (ms' := 0) (As := [.int (nI 1), .int 0, .int 1]) (st := []) lX10_111 vX10_in rfl (Nat.le_of_ble_eq_true rfl) dX10_keep_15 (Nat.le_of_ble_eq_true rfl) (Nat.le_of_ble_eq_true rfl) (Nat.le_refl _) (c_in ?_)
    refine w_if_ne_t (tgt := 27) dX10_keep_18 rfl (by decide) ?_
    refine w_iconst (v := (nI 0)) dX10_keep_27 (by decide) ?_
    refine w_istore_n (ls2 := [some (.ref m), some (.int (nI 1)), some (.int (nI 0))]) dX10_keep_28 (by decide) rfl rfl ?_
    refine lq_keep1_1 nd (fun fi9 hi1 hi2 => ?_) 11 0 fi rfl (fun j hj => absurd hj (Nat.not_lt_zero j)) (fun _ _ => rfl)
    refine w_iconst (v := (nI 0)) dX10_keep_58 (by decide) ?_
    refine w_istore_n (ls2 := [some (.ref m), some (.int (nI 1)), some (.int (nI 0))]) dX10_keep_59 (by decide) rfl rfl ?_
    refine lq_keep2_1 nd (fun fq9 hq1 hq2 => ?_) 4096 0 fq rfl (fun j hj => absurd hj (Nat.not_lt_zero j)) (fun _ _ => rfl)
    refine w_aload_n dX10_keep_91 rfl ?_
    refine w_get (v := .ref (m + 21)) fX10_77 (hUs_at nd 0 rfl rfl) rfl dX10_keep_92 ?_
    refine w_iload_n dX10_keep_95 rfl ?_
    refine w_aload_n dX10_keep_96 rfl ?_
    refine w_get (v := .int sd) fX10_80 (hUs_at nd 0 rfl rfl) rfl dX10_keep_97 ?_
    refine w_iastoreN (hUs_at nd 6 rfl rfl) (by omega) (by omega) dX10_keep_100 ?_
    refine w_heq (hUs_set nd rfl 6 (cs' := [(oC 10 (mF m 0 tr pl (nI tp) sz sp fa fl tk ta sg nu wd (nI P.1) (nI P.2.1) rl rw ht sd ah cl)), (aI 11 fr), (aI 22 fi9), (aB 4096 fo), (aB 8192 fq9), (aZ 2 fh), (aI 2 (upd fj 1 sd))]) rfl rfl) ?_
    refine w_aload_n dX10_keep_101 rfl ?_
    refine w_get (v := .ref (m + 20)) fX10_74 (hUs_at nd 0 rfl rfl) rfl dX10_keep_102 ?_
    refine w_iload_n dX10_keep_105 rfl ?_
    refine w_iconst (v := 1) dX10_keep_106 (by decide) ?_
    refine w_zastoreN (hUs_at nd 5 rfl rfl) (by omega) (by omega) dX10_keep_107 ?_
    refine w_heq (hUs_set nd rfl 5 (cs' := [(oC 10 (mF m 0 tr pl (nI tp) sz sp fa fl tk ta sg nu wd (nI P.1) (nI P.2.1) rl rw ht sd ah cl)), (aI 11 fr), (aI 22 fi9), (aB 4096 fo), (aB 8192 fq9), (aZ 2 (upd fh 1 (vp_nar .boolean 1))), (aI 2 (upd fj 1 sd))]) rfl rfl) ?_
    refine w_aload_n dX10_keep_108 rfl ?_
    refine w_iconst (v := 0) dX10_keep_109 (by decide) ?_
    refine w_callV (ci := 10) (d' := d) (mc' := 0) (ms' := 0) (As := [.int 0]) (st := []) lX10_277 vX10_done rfl (hUs_at nd 0 rfl rfl) rfl (Nat.le_of_ble_eq_true rfl) dX10_keep_110 (Nat.le_of_ble_eq_true rfl) (Nat.le_of_ble_eq_true rfl) (Nat.le_refl _) (m_done (hHas_sub nd (as' := [m]) (cs' := [(oC 10 (mF m 0 tr pl (nI tp) sz sp fa fl tk ta sg nu wd (nI P.1) (nI P.2.1) rl rw ht sd ah cl))]) [0] rfl rfl) (nd_sub nd (as' := [m]) [0] rfl rfl)  ?_)
    refine w_heq (hUs_in nd rfl [0] (cs2 := [(oC 10 (mF m 0 0 (-1) (nI tp) sz sp fa fl tk ta sg nu wd (nI P.1) (nI P.2.1) rl rw ht sd ah cl)), (aI 11 fr), (aI 22 fi9), (aB 4096 fo), (aB 8192 fq9), (aZ 2 (upd fh 1 (vp_nar .boolean 1))), (aI 2 (upd fj 1 sd))]) rfl rfl) ?_
    refine w_zreturn rfl dX10_keep_113 rfl (Nat.le_of_ble_eq_true rfl) (Nat.le_of_ble_eq_true rfl) ?_
    have e : oKp ht (nI 1) = (1, 0) := by
      rw [oKp, if_neg (fun z => z.elim b9 (by decide))]
    have e09 : iKp ht (nI 1) 0 R sd i0 = i0 := by
      rw [iKp, if_pos (Or.inr (by decide))]
    have e19 : iKp ht (nI 1) 1 R sd i1 = some (R, sd) := by
      rw [iKp, if_neg (fun z => z.elim b9 (fun z => z rfl))]
    rw [e, e09, e19] at k
    have hht1 : ht = 1 := hht.resolve_left (fun z => b9 z.1)
    have hmk : mIv P ht 1 (some (R, sd)) fi9 fq9 (upd fh 1 (vp_nar .boolean 1)) (upd fj 1 sd) := by
      have hq3 : ∀ t, vp_nar .byte (fo t) = fo t → t < 4096 → fq9 (4096 * 1 + t) = fo t := fun t h9 ht9 => (hq1 t ht9).trans h9
      cases R with
      | none => exact ⟨hht1, rfl, rfl, hsd, (hi1 0 (by omega)).trans (hRm.resolve_left b9)⟩
      | some r => exact ⟨hht1, rfl, rfl, hsd, mRr_cp hRm.2 (hG.1 _ hRm.2.1.1).2.1 hi1 (fun t ht9 => hq3 t (by rw [hRm.2.2.2.2.2 t ht9]; exact nar_1 (rO_in _ _)) (Nat.lt_of_lt_of_le ht9 hRm.2.1.2.2))⟩
    have hmo : mIv P ht 0 i0 fi9 fq9 (upd fh 1 (vp_nar .boolean 1)) (upd fj 1 sd) := mIv_cp hm0 hG (fun j hj => hi2 _ (by omega)) (fun j hj => hq2 _ (by omega)) rfl rfl
    exact k _ (mI_i (cI_put hW (mAs_nd m) rfl [0, 14, 17, 18, 19, 20, 21] (cs2 := [(oC 10 (mF m 0 0 (-1) (nI tp) sz sp fa fl tk ta sg nu wd (nI P.1) (nI P.2.1) rl rw ht sd ah cl)), (aI 600 gt), (aL 8 ln), (aL 8 wn), (aI 8 fs), (aI 24 ff), (aI 8 fb), (aI 8 fn), (aI 8 fp), (aZ 8 f3), (aI 64 fk), (aI 64 fx), (aI 64 fy), (aI 64 fc), (aI 11 fr), (aI 11 f1), (aI 11 f2), (aI 22 fi9), (aB 4096 fo), (aB 8192 fq9), (aZ 2 (upd fh 1 (vp_nar .boolean 1))), (aI 2 (upd fj 1 sd)), (aI 4096 fw), (aI 2100 fz)]) rfl rfl) hT hPm hG hRm hmo hmk hsd hht htp) (mFr_of (by intro a ha; simp only [List.mem_cons, List.not_mem_nil, or_false] at ha; omega))
set_option maxRecDepth 100000 in
set_option maxHeartbeats 4000000 in
theorem q_keep_n {G : wG} {d : Nat} {h : hH} {Q : Option Value → hH → Prop} {m : Nat} {ft : Nat → Int32} {tp : Nat} {P : pD} {ht : Int32} {R : Option rnD} {i0 i1 : imD} {sd fa pl tr : Int32} {th : Int32}  {y : Int32} (hI : mI h m ft tp P ht R i0 i1 sd fa pl tr th) (hy : ¬ ∃ w, w < 2 ∧ y = nI w) (k : ∀ h2, mI h2 m ft tp P ht R (iKp ht y 0 R sd i0) (iKp ht y 1 R sd i1) sd fa (-1) (oKp ht y).2 0 → mFr m h h2 → Q (some (.int (oKp ht y).1)) h2) : Cl G yX10_keep (d + 1) 0 0 [.ref m, .int y] h Q := by
  refine mI_e hI ?_
  intro sz sp fl tk ta sg nu wd rl rw ah cl gt ln wn fs ff fb fn fp f3 fk fx fy fc fr f1 f2 fi fo fq fh fj fw fz hW hT hPm hG hRm hm0 hm1 hsd hht htp
  have hnL : P.1 ≤ 4096 := Nat.le_trans hG.2.2.1 (by decide)
  have hnW : P.2.1 ≤ 4096 := Nat.le_trans hG.2.2.2 (by decide)
  have hhL : (ht = 0 ∧ P.1 = 0) ∨ ht = 1 := hht.imp (fun z => ⟨z.1, z.2.1⟩) id
  have hhW : (ht = 0 ∧ P.2.1 = 0) ∨ ht = 1 := hht.imp (fun z => ⟨z.1, z.2.2⟩) id
  have hw : hHas h [m] [(oC 10 (mF m th tr pl (nI tp) sz sp fa fl tk ta sg nu wd (nI P.1) (nI P.2.1) rl rw ht sd ah cl))] := hHas_s hW [0] rfl rfl
  have nd : [m].Nodup := (nd_inc trivial)
  refine Cl.of (ini := false) kX10_keep (plainFor_of_name (by decide)) (by decide) (Nat.le_of_ble_eq_true rfl) rfl rfl (fun z => by cases z) ?_
  refine w_heq (hUs_id hw).symm ?_
  refine w_aload_n dX10_keep_0 rfl ?_
  refine w_iconst (v := 0) dX10_keep_1 (by decide) ?_
  refine w_put (fs' := (mF m 0 tr pl (nI tp) sz sp fa fl tk ta sg nu wd (nI P.1) (nI P.2.1) rl rw ht sd ah cl)) fX10_89 (hUs_at nd 0 rfl rfl) rfl rfl (Nat.le_of_ble_eq_true rfl) rfl dX10_keep_2 ?_
  refine w_heq (hUs_set nd rfl 0 (cs' := [(oC 10 (mF m 0 tr pl (nI tp) sz sp fa fl tk ta sg nu wd (nI P.1) (nI P.2.1) rl rw ht sd ah cl))]) rfl rfl) ?_
  refine w_aload_n dX10_keep_5 rfl ?_
  refine w_get (v := .int ht) fX10_247 (hUs_at nd 0 rfl rfl) rfl dX10_keep_6 ?_
  refine w_if_eq (tgt := 21) dX10_keep_9 rfl (fun b9 => ?_) (fun b9 => ?_)
  · refine w_aload_n dX10_keep_21 rfl ?_
    refine w_iconst (v := 1) dX10_keep_22 (by decide) ?_
    refine w_callV (ci := 10) (d' := d) (mc' := 0) (ms' := 0) (As := [.int 1]) (st := []) lX10_277 vX10_done rfl (hUs_at nd 0 rfl rfl) rfl (Nat.le_of_ble_eq_true rfl) dX10_keep_23 (Nat.le_of_ble_eq_true rfl) (Nat.le_of_ble_eq_true rfl) (Nat.le_refl _) (m_done (hHas_sub nd (as' := [m]) (cs' := [(oC 10 (mF m 0 tr pl (nI tp) sz sp fa fl tk ta sg nu wd (nI P.1) (nI P.2.1) rl rw ht sd ah cl))]) [0] rfl rfl) (nd_sub nd (as' := [m]) [0] rfl rfl)  ?_)
    refine w_heq (hUs_in nd rfl [0] (cs2 := [(oC 10 (mF m 0 1 (-1) (nI tp) sz sp fa fl tk ta sg nu wd (nI P.1) (nI P.2.1) rl rw ht sd ah cl))]) rfl rfl) ?_
    refine w_zreturn rfl dX10_keep_26 rfl (Nat.le_of_ble_eq_true rfl) (Nat.le_of_ble_eq_true rfl) ?_
    have e : oKp ht y = (0, 1) := by
      rw [oKp, if_pos (Or.inl b9)]
    have e09 : iKp ht y 0 R sd i0 = i0 := by
      rw [iKp, if_pos (Or.inr (fun z => hy ⟨0, by decide, z⟩))]
    have e19 : iKp ht y 1 R sd i1 = i1 := by
      rw [iKp, if_pos (Or.inr (fun z => hy ⟨1, by decide, z⟩))]
    rw [e, e09, e19] at k
    exact k _ (mI_i (cI_put hW (mAs_nd m) rfl [0] (cs2 := [(oC 10 (mF m 0 1 (-1) (nI tp) sz sp fa fl tk ta sg nu wd (nI P.1) (nI P.2.1) rl rw ht sd ah cl)), (aI 600 gt), (aL 8 ln), (aL 8 wn), (aI 8 fs), (aI 24 ff), (aI 8 fb), (aI 8 fn), (aI 8 fp), (aZ 8 f3), (aI 64 fk), (aI 64 fx), (aI 64 fy), (aI 64 fc), (aI 11 fr), (aI 11 f1), (aI 11 f2), (aI 22 fi), (aB 4096 fo), (aB 8192 fq), (aZ 2 fh), (aI 2 fj), (aI 4096 fw), (aI 2100 fz)]) rfl rfl) hT hPm hG hRm hm0 hm1 hsd hht htp) (mFr_of (by intro a ha; simp only [List.mem_cons, List.not_mem_nil, or_false] at ha; omega))
  · refine w_iload_n dX10_keep_12 rfl ?_
    refine w_iconst (v := 0) dX10_keep_13 (by decide) ?_
    refine w_iconst (v := 1) dX10_keep_14 (by decide) ?_
    refine w_callS (d' := d) (mc' := 0) (ms' := 0) (As := [.int y, .int 0, .int 1]) (st := []) lX10_111 vX10_in rfl (Nat.le_of_ble_eq_true rfl) dX10_keep_15 (Nat.le_of_ble_eq_true rfl) (Nat.le_of_ble_eq_true rfl) (Nat.le_refl _) (c_in ?_)
    refine w_if_ne_f (tgt := 27) dX10_keep_18 rfl (inB_n (fun z => by obtain ⟨w9, h9, e9⟩ := in2 (m := 1) (Int32.not_lt.mpr z.1) z.2 (by decide); exact hy ⟨w9, by omega, e9⟩)) ?_
    refine w_aload_n dX10_keep_21 rfl ?_
    refine w_iconst (v := 1) dX10_keep_22 (by decide) ?_
    refine w_callV (ci := 10) (d' := d) (mc' := 0) (ms' := 0) (As := [.int 1]) (st := []) lX10_277 vX10_done rfl (hUs_at nd 0 rfl rfl) rfl (Nat.le_of_ble_eq_true rfl) dX10_keep_23 (Nat.le_of_ble_eq_true rfl) (Nat.le_of_ble_eq_true rfl) (Nat.le_refl _) (m_done (hHas_sub nd (as' := [m]) (cs' := [(oC 10 (mF m 0 tr pl (nI tp) sz sp fa fl tk ta sg nu wd (nI P.1) (nI P.2.1) rl rw ht sd ah cl))]) [0] rfl rfl) (nd_sub nd (as' := [m]) [0] rfl rfl)  ?_)
    refine w_heq (hUs_in nd rfl [0] (cs2 := [(oC 10 (mF m 0 1 (-1) (nI tp) sz sp fa fl tk ta sg nu wd (nI P.1) (nI P.2.1) rl rw ht sd ah cl))]) rfl rfl) ?_
    refine w_zreturn rfl dX10_keep_26 rfl (Nat.le_of_ble_eq_true rfl) (Nat.le_of_ble_eq_true rfl) ?_
    have e : oKp ht y = (0, 1) := by
      rw [oKp, if_pos (Or.inr (by
        rcases Int32.lt_or_le y 0 with z | z
        · exact Or.inl z
        · exact Or.inr (Int32.not_lt.mp (fun z2 => by obtain ⟨w9, h9, e9⟩ := in3 (m := 2) (Int32.not_lt.mpr z) z2 (by decide); exact hy ⟨w9, h9, e9⟩))))]
    have e09 : iKp ht y 0 R sd i0 = i0 := by
      rw [iKp, if_pos (Or.inr (fun z => hy ⟨0, by decide, z⟩))]
    have e19 : iKp ht y 1 R sd i1 = i1 := by
      rw [iKp, if_pos (Or.inr (fun z => hy ⟨1, by decide, z⟩))]
    rw [e, e09, e19] at k
    exact k _ (mI_i (cI_put hW (mAs_nd m) rfl [0] (cs2 := [(oC 10 (mF m 0 1 (-1) (nI tp) sz sp fa fl tk ta sg nu wd (nI P.1) (nI P.2.1) rl rw ht sd ah cl)), (aI 600 gt), (aL 8 ln), (aL 8 wn), (aI 8 fs), (aI 24 ff), (aI 8 fb), (aI 8 fn), (aI 8 fp), (aZ 8 f3), (aI 64 fk), (aI 64 fx), (aI 64 fy), (aI 64 fc), (aI 11 fr), (aI 11 f1), (aI 11 f2), (aI 22 fi), (aB 4096 fo), (aB 8192 fq), (aZ 2 fh), (aI 2 fj), (aI 4096 fw), (aI 2100 fz)]) rfl rfl) hT hPm hG hRm hm0 hm1 hsd hht htp) (mFr_of (by intro a ha; simp only [List.mem_cons, List.not_mem_nil, or_false] at ha; omega))
theorem q_keep {G : wG} {d : Nat} {h : hH} {Q : Option Value → hH → Prop} {m : Nat} {ft : Nat → Int32} {tp : Nat} {P : pD} {ht : Int32} {R : Option rnD} {i0 i1 : imD} {sd fa pl tr : Int32} {th : Int32} {y : Int32} (hI : mI h m ft tp P ht R i0 i1 sd fa pl tr th) (k : ∀ h2, mI h2 m ft tp P ht R (iKp ht y 0 R sd i0) (iKp ht y 1 R sd i1) sd fa (-1) (oKp ht y).2 0 → mFr m h h2 → Q (some (.int (oKp ht y).1)) h2) : Cl G yX10_keep (d + 1) 0 0 [.ref m, .int y] h Q := by
  by_cases hy : ∃ w, w < 2 ∧ y = nI w
  · obtain ⟨w, hw, rfl⟩ := hy
    rcases (show w = 0 ∨ w = 1 by omega) with rfl | rfl
    · exact q_keep_0 hI k
    · exact q_keep_1 hI k
  · exact q_keep_n hI hy k
set_option maxRecDepth 100000 in
set_option maxHeartbeats 4000000 in
theorem q_back_0n {G : wG} {d : Nat} {h : hH} {Q : Option Value → hH → Prop} {m : Nat} {ft : Nat → Int32} {tp : Nat} {P : pD} {ht : Int32} {R : Option rnD} {i0 i1 : imD} {sd fa pl tr : Int32} {th : Int32}  (hI : mI h m ft tp P ht R (none) i1 sd fa pl tr th)  (k : ∀ h2, mI h2 m ft tp P ht (rBk (nI 0) (none) i1 R) (none) i1 (sBk (nI 0) (none) i1 sd) fa (-1) (oBk (nI 0) (none) i1).2 0 → mFr m h h2 → Q (some (.int (oBk (nI 0) (none) i1).1)) h2) : Cl G yX10_back (d + 1) 0 0 [.ref m, .int (nI 0)] h Q := by
  refine mI_e hI ?_
  intro sz sp fl tk ta sg nu wd rl rw ah cl gt ln wn fs ff fb fn fp f3 fk fx fy fc fr f1 f2 fi fo fq fh fj fw fz hW hT hPm hG hRm hm0 hm1 hsd hht htp
  have hnL : P.1 ≤ 4096 := Nat.le_trans hG.2.2.1 (by decide)
  have hnW : P.2.1 ≤ 4096 := Nat.le_trans hG.2.2.2 (by decide)
  have hhL : (ht = 0 ∧ P.1 = 0) ∨ ht = 1 := hht.imp (fun z => ⟨z.1, z.2.1⟩) id
  have hhW : (ht = 0 ∧ P.2.1 = 0) ∨ ht = 1 := hht.imp (fun z => ⟨z.1, z.2.2⟩) id
  have hw : hHas h [m, m + 14, m + 17, m + 18, m + 19, m + 20, m + 21] [(oC 10 (mF m th tr pl (nI tp) sz sp fa fl tk ta sg nu wd (nI P.1) (nI P.2.1) rl rw ht sd ah cl)), (aI 11 fr), (aI 22 fi), (aB 4096 fo), (aB 8192 fq), (aZ 2 fh), (aI 2 fj)] := hHas_s hW [0, 14, 17, 18, 19, 20, 21] rfl rfl
  have nd : [m, m + 14, m + 17, m + 18, m + 19, m + 20, m + 21].Nodup := (nd_inc ⟨by omega, by omega, by omega, by omega, by omega, by omega, trivial⟩)
  refine Cl.of (ini := false) kX10_back (plainFor_of_name (by decide)) (by decide) (Nat.le_of_ble_eq_true rfl) rfl rfl (fun z => by cases z) ?_
  refine w_heq (hUs_id hw).symm ?_
  refine w_aload_n dX10_back_0 rfl ?_
  refine w_iconst (v := 0) dX10_back_1 (by decide) ?_
  refine w_put (fs' := (mF m 0 tr pl (nI tp) sz sp fa fl tk ta sg nu wd (nI P.1) (nI P.2.1) rl rw ht sd ah cl)) fX10_89 (hUs_at nd 0 rfl rfl) rfl rfl (Nat.le_of_ble_eq_true rfl) rfl dX10_back_2 ?_
  refine w_heq (hUs_set nd rfl 0 (cs' := [(oC 10 (mF m 0 tr pl (nI tp) sz sp fa fl tk ta sg nu wd (nI P.1) (nI P.2.1) rl rw ht sd ah cl)), (aI 11 fr), (aI 22 fi), (aB 4096 fo), (aB 8192 fq), (aZ 2 fh), (aI 2 fj)]) rfl rfl) ?_
  refine w_aload_n dX10_back_5 rfl ?_
  refine w_get (v := .int ht) fX10_247 (hUs_at nd 0 rfl rfl) rfl dX10_back_6 ?_
  refine w_if_eq (tgt := 30) dX10_back_9 rfl (fun b9 => ?_) (fun b9 => ?_)
  · refine w_aload_n dX10_back_30 rfl ?_
    refine w_iconst (v := 1) dX10_back_31 (by decide) ?_
    refine w_callV (ci := 10) (d' := d) (mc' := 0) (ms' := 0) (As := [.int 1]) (st := []) lX10_277 vX10_done rfl (hUs_at nd 0 rfl rfl) rfl (Nat.le_of_ble_eq_true rfl) dX10_back_32 (Nat.le_of_ble_eq_true rfl) (Nat.le_of_ble_eq_true rfl) (Nat.le_refl _) (m_done (hHas_sub nd (as' := [m]) (cs' := [(oC 10 (mF m 0 tr pl (nI tp) sz sp fa fl tk ta sg nu wd (nI P.1) (nI P.2.1) rl rw ht sd ah cl))]) [0] rfl rfl) (nd_sub nd (as' := [m]) [0] rfl rfl)  ?_)
    refine w_heq (hUs_in nd rfl [0] (cs2 := [(oC 10 (mF m 0 1 (-1) (nI tp) sz sp fa fl tk ta sg nu wd (nI P.1) (nI P.2.1) rl rw ht sd ah cl)), (aI 11 fr), (aI 22 fi), (aB 4096 fo), (aB 8192 fq), (aZ 2 fh), (aI 2 fj)]) rfl rfl) ?_
    refine w_zreturn rfl dX10_back_35 rfl (Nat.le_of_ble_eq_true rfl) (Nat.le_of_ble_eq_true rfl) ?_
    have e8 : iBk (nI 0) (none) i1 = (none) := by
      simp [iBk]
    have e : oBk (nI 0) (none) i1 = (0, 1) := by
      rw [oBk, e8]
    have e1 : rBk (nI 0) (none) i1 R = R := by
      rw [rBk, e8]
    have e2 : sBk (nI 0) (none) i1 sd = sd := by
      rw [sBk, e8]
    rw [e, e1, e2] at k
    exact k _ (mI_i (cI_put hW (mAs_nd m) rfl [0, 14, 17, 18, 19, 20, 21] (cs2 := [(oC 10 (mF m 0 1 (-1) (nI tp) sz sp fa fl tk ta sg nu wd (nI P.1) (nI P.2.1) rl rw ht sd ah cl)), (aI 600 gt), (aL 8 ln), (aL 8 wn), (aI 8 fs), (aI 24 ff), (aI 8 fb), (aI 8 fn), (aI 8 fp), (aZ 8 f3), (aI 64 fk), (aI 64 fx), (aI 64 fy), (aI 64 fc), (aI 11 fr), (aI 11 f1), (aI 11 f2), (aI 22 fi), (aB 4096 fo), (aB 8192 fq), (aZ 2 fh), (aI 2 fj), (aI 4096 fw), (aI 2100 fz)]) rfl rfl) hT hPm hG hRm hm0 hm1 hsd hht htp) (mFr_of (by intro a ha; simp only [List.mem_cons, List.not_mem_nil, or_false] at ha; omega))
  · refine w_iload_n dX10_back_12 rfl ?_
    refine w_iconst (v := 0) dX10_back_13 (by decide) ?_
    refine w_iconst (v := 1) dX10_back_14 (by decide) ?_
    refine w_callS (d' := d) (mc' := 0) (ms' := 0) (As := [.int (nI 0), .int 0, .int 1]) (st := []) lX10_111 vX10_in rfl (Nat.le_of_ble_eq_true rfl) dX10_back_15 (Nat.le_of_ble_eq_true rfl) (Nat.le_of_ble_eq_true rfl) (Nat.le_refl _) (c_in ?_)
    refine w_if_eq_f (tgt := 30) dX10_back_18 rfl (by decide) ?_
    refine w_aload_n dX10_back_21 rfl ?_
    refine w_get (v := .ref (m + 20)) fX10_74 (hUs_at nd 0 rfl rfl) rfl dX10_back_22 ?_
    refine w_iload_n dX10_back_25 rfl ?_
    refine w_zaloadN (hUs_at nd 5 rfl rfl) (by omega) (by omega) dX10_back_26 ?_
    refine w_top (z := 0) (show fh 0 = 0 from hm0) ?_
    refine w_if_ne_f (tgt := 36) dX10_back_27 rfl (by decide) ?_
    refine w_aload_n dX10_back_30 rfl ?_
    refine w_iconst (v := 1) dX10_back_31 (by decide) ?_
    refine w_callV (ci := 10) (d' := d) (mc' := 0) (ms' := 0) (As := [.int 1]) (st := []) lX10_277 vX10_done rfl (hUs_at nd 0 rfl rfl) rfl (Nat.le_of_ble_eq_true rfl) dX10_back_32 (Nat.le_of_ble_eq_true rfl) (Nat.le_of_ble_eq_true rfl) (Nat.le_refl _) (m_done (hHas_sub nd (as' := [m]) (cs' := [(oC 10 (mF m 0 tr pl (nI tp) sz sp fa fl tk ta sg nu wd (nI P.1) (nI P.2.1) rl rw ht sd ah cl))]) [0] rfl rfl) (nd_sub nd (as' := [m]) [0] rfl rfl)  ?_)
    refine w_heq (hUs_in nd rfl [0] (cs2 := [(oC 10 (mF m 0 1 (-1) (nI tp) sz sp fa fl tk ta sg nu wd (nI P.1) (nI P.2.1) rl rw ht sd ah cl)), (aI 11 fr), (aI 22 fi), (aB 4096 fo), (aB 8192 fq), (aZ 2 fh), (aI 2 fj)]) rfl rfl) ?_
    refine w_zreturn rfl dX10_back_35 rfl (Nat.le_of_ble_eq_true rfl) (Nat.le_of_ble_eq_true rfl) ?_
    have e8 : iBk (nI 0) (none) i1 = (none) := by
      simp [iBk]
    have e : oBk (nI 0) (none) i1 = (0, 1) := by
      rw [oBk, e8]
    have e1 : rBk (nI 0) (none) i1 R = R := by
      rw [rBk, e8]
    have e2 : sBk (nI 0) (none) i1 sd = sd := by
      rw [sBk, e8]
    rw [e, e1, e2] at k
    exact k _ (mI_i (cI_put hW (mAs_nd m) rfl [0, 14, 17, 18, 19, 20, 21] (cs2 := [(oC 10 (mF m 0 1 (-1) (nI tp) sz sp fa fl tk ta sg nu wd (nI P.1) (nI P.2.1) rl rw ht sd ah cl)), (aI 600 gt), (aL 8 ln), (aL 8 wn), (aI 8 fs), (aI 24 ff), (aI 8 fb), (aI 8 fn), (aI 8 fp), (aZ 8 f3), (aI 64 fk), (aI 64 fx), (aI 64 fy), (aI 64 fc), (aI 11 fr), (aI 11 f1), (aI 11 f2), (aI 22 fi), (aB 4096 fo), (aB 8192 fq), (aZ 2 fh), (aI 2 fj), (aI 4096 fw), (aI 2100 fz)]) rfl rfl) hT hPm hG hRm hm0 hm1 hsd hht htp) (mFr_of (by intro a ha; simp only [List.mem_cons, List.not_mem_nil, or_false] at ha; omega))
set_option maxRecDepth 100000 in
set_option maxHeartbeats 4000000 in
theorem q_back_0o {G : wG} {d : Nat} {h : hH} {Q : Option Value → hH → Prop} {m : Nat} {ft : Nat → Int32} {tp : Nat} {P : pD} {ht : Int32} {R : Option rnD} {i0 i1 : imD} {sd fa pl tr : Int32} {th : Int32}  {s7 : Int32} (hI : mI h m ft tp P ht R (some (none, s7)) i1 sd fa pl tr th)  (k : ∀ h2, mI h2 m ft tp P ht (rBk (nI 0) (some (none, s7)) i1 R) (some (none, s7)) i1 (sBk (nI 0) (some (none, s7)) i1 sd) fa (-1) (oBk (nI 0) (some (none, s7)) i1).2 0 → mFr m h h2 → Q (some (.int (oBk (nI 0) (some (none, s7)) i1).1)) h2) : Cl G yX10_back (d + 1) 0 0 [.ref m, .int (nI 0)] h Q := by
  refine mI_e hI ?_
  intro sz sp fl tk ta sg nu wd rl rw ah cl gt ln wn fs ff fb fn fp f3 fk fx fy fc fr f1 f2 fi fo fq fh fj fw fz hW hT hPm hG hRm hm0 hm1 hsd hht htp
  have hnL : P.1 ≤ 4096 := Nat.le_trans hG.2.2.1 (by decide)
  have hnW : P.2.1 ≤ 4096 := Nat.le_trans hG.2.2.2 (by decide)
  have hhL : (ht = 0 ∧ P.1 = 0) ∨ ht = 1 := hht.imp (fun z => ⟨z.1, z.2.1⟩) id
  have hhW : (ht = 0 ∧ P.2.1 = 0) ∨ ht = 1 := hht.imp (fun z => ⟨z.1, z.2.2⟩) id
  have hw : hHas h [m, m + 14, m + 17, m + 18, m + 19, m + 20, m + 21] [(oC 10 (mF m th tr pl (nI tp) sz sp fa fl tk ta sg nu wd (nI P.1) (nI P.2.1) rl rw ht sd ah cl)), (aI 11 fr), (aI 22 fi), (aB 4096 fo), (aB 8192 fq), (aZ 2 fh), (aI 2 fj)] := hHas_s hW [0, 14, 17, 18, 19, 20, 21] rfl rfl
  have nd : [m, m + 14, m + 17, m + 18, m + 19, m + 20, m + 21].Nodup := (nd_inc ⟨by omega, by omega, by omega, by omega, by omega, by omega, trivial⟩)
  refine Cl.of (ini := false) kX10_back (plainFor_of_name (by decide)) (by decide) (Nat.le_of_ble_eq_true rfl) rfl rfl (fun z => by cases z) ?_
  refine w_heq (hUs_id hw).symm ?_
  refine w_aload_n dX10_back_0 rfl ?_
  refine w_iconst (v := 0) dX10_back_1 (by decide) ?_
  refine w_put (fs' := (mF m 0 tr pl (nI tp) sz sp fa fl tk ta sg nu wd (nI P.1) (nI P.2.1) rl rw ht sd ah cl)) fX10_89 (hUs_at nd 0 rfl rfl) rfl rfl (Nat.le_of_ble_eq_true rfl) rfl dX10_back_2 ?_
  refine w_heq (hUs_set nd rfl 0 (cs' := [(oC 10 (mF m 0 tr pl (nI tp) sz sp fa fl tk ta sg nu wd (nI P.1) (nI P.2.1) rl rw ht sd ah cl)), (aI 11 fr), (aI 22 fi), (aB 4096 fo), (aB 8192 fq), (aZ 2 fh), (aI 2 fj)]) rfl rfl) ?_
  refine w_aload_n dX10_back_5 rfl ?_
  refine w_get (v := .int ht) fX10_247 (hUs_at nd 0 rfl rfl) rfl dX10_back_6 ?_
  refine w_if_eq_f (tgt := 30) dX10_back_9 rfl (by rw [hm0.1]; decide) ?_
  refine w_iload_n dX10_back_12 rfl ?_
  refine w_iconst (v := 0) dX10_back_13 (by decide) ?_
  refine w_iconst (v := 1) dX10_back_14 (by decide) ?_
  refine w_callS (d' := d) (mc' := 0) (ms' := 0) (As := [.int (nI 0), .int 0, .int 1]) (st := []) lX10_111 vX10_in rfl (Nat.le_of_ble_eq_true rfl) dX10_back_15 (Nat.le_of_ble_eq_true rfl) (Nat.le_of_ble_eq_true rfl) (Nat.le_refl _) (c_in ?_)
  refine w_if_eq_f (tgt := 30) dX10_back_18 rfl (by decide) ?_
  refine w_aload_n dX10_back_21 rfl ?_
  refine w_get (v := .ref (m + 20)) fX10_74 (hUs_at nd 0 rfl rfl) rfl dX10_back_22 ?_
  refine w_iload_n dX10_back_25 rfl ?_
  refine w_zaloadN (hUs_at nd 5 rfl rfl) (by omega) (by omega) dX10_back_26 ?_
  refine w_top (z := 1) hm0.2.1 ?_
  refine w_if_ne_t (tgt := 36) dX10_back_27 rfl (by decide) ?_
  refine w_iconst (v := (nI 0)) dX10_back_36 (by decide) ?_
  refine w_istore_n (ls2 := [some (.ref m), some (.int (nI 0)), some (.int (nI 0))]) dX10_back_37 (by decide) rfl rfl ?_
  refine lq_back1_0 nd (fun fr9 hi1 hi2 => ?_) 11 0 fr rfl (fun j hj => absurd hj (Nat.not_lt_zero j)) (fun _ _ => rfl)
  refine w_iconst (v := (nI 0)) dX10_back_67 (by decide) ?_
  refine w_istore_n (ls2 := [some (.ref m), some (.int (nI 0)), some (.int (nI 0))]) dX10_back_68 (by decide) rfl rfl ?_
  refine lq_back2_0 nd (fun fo9 hq1 hq2 => ?_) 4096 0 fo rfl (fun j hj => absurd hj (Nat.not_lt_zero j)) (fun _ _ => rfl)
  refine w_aload_n dX10_back_100 rfl ?_
  refine w_aload_n dX10_back_101 rfl ?_
  refine w_get (v := .ref (m + 21)) fX10_77 (hUs_at nd 0 rfl rfl) rfl dX10_back_102 ?_
  refine w_iload_n dX10_back_105 rfl ?_
  refine w_ialoadN (hUs_at nd 6 rfl rfl) (by omega) (by omega) dX10_back_106 ?_
  refine w_top (z := s7) hm0.2.2.1 ?_
  refine w_put (fs' := (mF m 0 tr pl (nI tp) sz sp fa fl tk ta sg nu wd (nI P.1) (nI P.2.1) rl rw ht s7 ah cl)) fX10_80 (hUs_at nd 0 rfl rfl) rfl rfl (Nat.le_of_ble_eq_true rfl) rfl dX10_back_107 ?_
  refine w_heq (hUs_set nd rfl 0 (cs' := [(oC 10 (mF m 0 tr pl (nI tp) sz sp fa fl tk ta sg nu wd (nI P.1) (nI P.2.1) rl rw ht s7 ah cl)), (aI 11 fr9), (aI 22 fi), (aB 4096 fo9), (aB 8192 fq), (aZ 2 fh), (aI 2 fj)]) rfl rfl) ?_
  refine w_aload_n dX10_back_110 rfl ?_
  refine w_iconst (v := 0) dX10_back_111 (by decide) ?_
  refine w_callV (ci := 10) (d' := d) (mc' := 0) (ms' := 0) (As := [.int 0]) (st := []) lX10_277 vX10_done rfl (hUs_at nd 0 rfl rfl) rfl (Nat.le_of_ble_eq_true rfl) dX10_back_112 (Nat.le_of_ble_eq_true rfl) (Nat.le_of_ble_eq_true rfl) (Nat.le_refl _) (m_done (hHas_sub nd (as' := [m]) (cs' := [(oC 10 (mF m 0 tr pl (nI tp) sz sp fa fl tk ta sg nu wd (nI P.1) (nI P.2.1) rl rw ht s7 ah cl))]) [0] rfl rfl) (nd_sub nd (as' := [m]) [0] rfl rfl)  ?_)
  refine w_heq (hUs_in nd rfl [0] (cs2 := [(oC 10 (mF m 0 0 (-1) (nI tp) sz sp fa fl tk ta sg nu wd (nI P.1) (nI P.2.1) rl rw ht s7 ah cl)), (aI 11 fr9), (aI 22 fi), (aB 4096 fo9), (aB 8192 fq), (aZ 2 fh), (aI 2 fj)]) rfl rfl) ?_
  refine w_zreturn rfl dX10_back_115 rfl (Nat.le_of_ble_eq_true rfl) (Nat.le_of_ble_eq_true rfl) ?_
  have e8 : iBk (nI 0) (some (none, s7)) i1 = (some (none, s7)) := by
    simp [iBk]
  have e : oBk (nI 0) (some (none, s7)) i1 = (1, 0) := by
    rw [oBk, e8]
  have e1 : rBk (nI 0) (some (none, s7)) i1 R = none := by
    rw [rBk, e8]
  have e2 : sBk (nI 0) (some (none, s7)) i1 sd = s7 := by
    rw [sBk, e8]
  rw [e, e1, e2] at k
  exact k _ (mI_i (cI_put hW (mAs_nd m) rfl [0, 14, 17, 18, 19, 20, 21] (cs2 := [(oC 10 (mF m 0 0 (-1) (nI tp) sz sp fa fl tk ta sg nu wd (nI P.1) (nI P.2.1) rl rw ht s7 ah cl)), (aI 600 gt), (aL 8 ln), (aL 8 wn), (aI 8 fs), (aI 24 ff), (aI 8 fb), (aI 8 fn), (aI 8 fp), (aZ 8 f3), (aI 64 fk), (aI 64 fx), (aI 64 fy), (aI 64 fc), (aI 11 fr9), (aI 11 f1), (aI 11 f2), (aI 22 fi), (aB 4096 fo9), (aB 8192 fq), (aZ 2 fh), (aI 2 fj), (aI 4096 fw), (aI 2100 fz)]) rfl rfl) hT hPm hG (show mRv P ht none fr9 fo9 from Or.inr ((hi1 0 (by omega)).trans hm0.2.2.2.2)) hm0 hm1 hm0.2.2.2.1 hht htp) (mFr_of (by intro a ha; simp only [List.mem_cons, List.not_mem_nil, or_false] at ha; omega))
set_option maxRecDepth 100000 in
set_option maxHeartbeats 4000000 in
theorem q_back_0r {G : wG} {d : Nat} {h : hH} {Q : Option Value → hH → Prop} {m : Nat} {ft : Nat → Int32} {tp : Nat} {P : pD} {ht : Int32} {R : Option rnD} {i0 i1 : imD} {sd fa pl tr : Int32} {th : Int32}  {r7 : rnD} {s7 : Int32} (hI : mI h m ft tp P ht R (some (some r7, s7)) i1 sd fa pl tr th)  (k : ∀ h2, mI h2 m ft tp P ht (rBk (nI 0) (some (some r7, s7)) i1 R) (some (some r7, s7)) i1 (sBk (nI 0) (some (some r7, s7)) i1 sd) fa (-1) (oBk (nI 0) (some (some r7, s7)) i1).2 0 → mFr m h h2 → Q (some (.int (oBk (nI 0) (some (some r7, s7)) i1).1)) h2) : Cl G yX10_back (d + 1) 0 0 [.ref m, .int (nI 0)] h Q := by
  refine mI_e hI ?_
  intro sz sp fl tk ta sg nu wd rl rw ah cl gt ln wn fs ff fb fn fp f3 fk fx fy fc fr f1 f2 fi fo fq fh fj fw fz hW hT hPm hG hRm hm0 hm1 hsd hht htp
  have hnL : P.1 ≤ 4096 := Nat.le_trans hG.2.2.1 (by decide)
  have hnW : P.2.1 ≤ 4096 := Nat.le_trans hG.2.2.2 (by decide)
  have hhL : (ht = 0 ∧ P.1 = 0) ∨ ht = 1 := hht.imp (fun z => ⟨z.1, z.2.1⟩) id
  have hhW : (ht = 0 ∧ P.2.1 = 0) ∨ ht = 1 := hht.imp (fun z => ⟨z.1, z.2.2⟩) id
  have hw : hHas h [m, m + 14, m + 17, m + 18, m + 19, m + 20, m + 21] [(oC 10 (mF m th tr pl (nI tp) sz sp fa fl tk ta sg nu wd (nI P.1) (nI P.2.1) rl rw ht sd ah cl)), (aI 11 fr), (aI 22 fi), (aB 4096 fo), (aB 8192 fq), (aZ 2 fh), (aI 2 fj)] := hHas_s hW [0, 14, 17, 18, 19, 20, 21] rfl rfl
  have nd : [m, m + 14, m + 17, m + 18, m + 19, m + 20, m + 21].Nodup := (nd_inc ⟨by omega, by omega, by omega, by omega, by omega, by omega, trivial⟩)
  refine Cl.of (ini := false) kX10_back (plainFor_of_name (by decide)) (by decide) (Nat.le_of_ble_eq_true rfl) rfl rfl (fun z => by cases z) ?_
  refine w_heq (hUs_id hw).symm ?_
  refine w_aload_n dX10_back_0 rfl ?_
  refine w_iconst (v := 0) dX10_back_1 (by decide) ?_
  refine w_put (fs' := (mF m 0 tr pl (nI tp) sz sp fa fl tk ta sg nu wd (nI P.1) (nI P.2.1) rl rw ht sd ah cl)) fX10_89 (hUs_at nd 0 rfl rfl) rfl rfl (Nat.le_of_ble_eq_true rfl) rfl dX10_back_2 ?_
  refine w_heq (hUs_set nd rfl 0 (cs' := [(oC 10 (mF m 0 tr pl (nI tp) sz sp fa fl tk ta sg nu wd (nI P.1) (nI P.2.1) rl rw ht sd ah cl)), (aI 11 fr), (aI 22 fi), (aB 4096 fo), (aB 8192 fq), (aZ 2 fh), (aI 2 fj)]) rfl rfl) ?_
  refine w_aload_n dX10_back_5 rfl ?_
  refine w_get (v := .int ht) fX10_247 (hUs_at nd 0 rfl rfl) rfl dX10_back_6 ?_
  refine w_if_eq_f (tgt := 30) dX10_back_9 rfl (by rw [hm0.1]; decide) ?_
  refine w_iload_n dX10_back_12 rfl ?_
  refine w_iconst (v := 0) dX10_back_13 (by decide) ?_
  refine w_iconst (v := 1) dX10_back_14 (by decide) ?_
  refine w_callS (d' := d) (mc' := 0) (ms' := 0) (As := [.int (nI 0), .int 0, .int 1]) (st := []) lX10_111 vX10_in rfl (Nat.le_of_ble_eq_true rfl) dX10_back_15 (Nat.le_of_ble_eq_true rfl) (Nat.le_of_ble_eq_true rfl) (Nat.le_refl _) (c_in ?_)
  refine w_if_eq_f (tgt := 30) dX10_back_18 rfl (by decide) ?_
  refine w_aload_n dX10_back_21 rfl ?_
  refine w_get (v := .ref (m + 20)) fX10_74 (hUs_at nd 0 rfl rfl) rfl dX10_back_22 ?_
  refine w_iload_n dX10_back_25 rfl ?_
  refine w_zaloadN (hUs_at nd 5 rfl rfl) (by omega) (by omega) dX10_back_26 ?_
  refine w_top (z := 1) hm0.2.1 ?_
  refine w_if_ne_t (tgt := 36) dX10_back_27 rfl (by decide) ?_
  refine w_iconst (v := (nI 0)) dX10_back_36 (by decide) ?_
  refine w_istore_n (ls2 := [some (.ref m), some (.int (nI 0)), some (.int (nI 0))]) dX10_back_37 (by decide) rfl rfl ?_
  refine lq_back1_0 nd (fun fr9 hi1 hi2 => ?_) 11 0 fr rfl (fun j hj => absurd hj (Nat.not_lt_zero j)) (fun _ _ => rfl)
  refine w_iconst (v := (nI 0)) dX10_back_67 (by decide) ?_
  refine w_istore_n (ls2 := [some (.ref m), some (.int (nI 0)), some (.int (nI 0))]) dX10_back_68 (by decide) rfl rfl ?_
  refine lq_back2_0 nd (fun fo9 hq1 hq2 => ?_) 4096 0 fo rfl (fun j hj => absurd hj (Nat.not_lt_zero j)) (fun _ _ => rfl)
  refine w_aload_n dX10_back_100 rfl ?_
  refine w_aload_n dX10_back_101 rfl ?_
  refine w_get (v := .ref (m + 21)) fX10_77 (hUs_at nd 0 rfl rfl) rfl dX10_back_102 ?_
  refine w_iload_n dX10_back_105 rfl ?_
  refine w_ialoadN (hUs_at nd 6 rfl rfl) (by omega) (by omega) dX10_back_106 ?_
  refine w_top (z := s7) hm0.2.2.1 ?_
  refine w_put (fs' := (mF m 0 tr pl (nI tp) sz sp fa fl tk ta sg nu wd (nI P.1) (nI P.2.1) rl rw ht s7 ah cl)) fX10_80 (hUs_at nd 0 rfl rfl) rfl rfl (Nat.le_of_ble_eq_true rfl) rfl dX10_back_107 ?_
  refine w_heq (hUs_set nd rfl 0 (cs' := [(oC 10 (mF m 0 tr pl (nI tp) sz sp fa fl tk ta sg nu wd (nI P.1) (nI P.2.1) rl rw ht s7 ah cl)), (aI 11 fr9), (aI 22 fi), (aB 4096 fo9), (aB 8192 fq), (aZ 2 fh), (aI 2 fj)]) rfl rfl) ?_
  refine w_aload_n dX10_back_110 rfl ?_
  refine w_iconst (v := 0) dX10_back_111 (by decide) ?_
  refine w_callV (ci := 10) (d' := d) (mc' := 0) (ms' := 0) (As := [.int 0]) (st := []) lX10_277 vX10_done rfl (hUs_at nd 0 rfl rfl) rfl (Nat.le_of_ble_eq_true rfl) dX10_back_112 (Nat.le_of_ble_eq_true rfl) (Nat.le_of_ble_eq_true rfl) (Nat.le_refl _) (m_done (hHas_sub nd (as' := [m]) (cs' := [(oC 10 (mF m 0 tr pl (nI tp) sz sp fa fl tk ta sg nu wd (nI P.1) (nI P.2.1) rl rw ht s7 ah cl))]) [0] rfl rfl) (nd_sub nd (as' := [m]) [0] rfl rfl)  ?_)
  refine w_heq (hUs_in nd rfl [0] (cs2 := [(oC 10 (mF m 0 0 (-1) (nI tp) sz sp fa fl tk ta sg nu wd (nI P.1) (nI P.2.1) rl rw ht s7 ah cl)), (aI 11 fr9), (aI 22 fi), (aB 4096 fo9), (aB 8192 fq), (aZ 2 fh), (aI 2 fj)]) rfl rfl) ?_
  refine w_zreturn rfl dX10_back_115 rfl (Nat.le_of_ble_eq_true rfl) (Nat.le_of_ble_eq_true rfl) ?_
  have e8 : iBk (nI 0) (some (some r7, s7)) i1 = (some (some r7, s7)) := by
    simp [iBk]
  have e : oBk (nI 0) (some (some r7, s7)) i1 = (1, 0) := by
    rw [oBk, e8]
  have e1 : rBk (nI 0) (some (some r7, s7)) i1 R = some r7 := by
    rw [rBk, e8]
  have e2 : sBk (nI 0) (some (some r7, s7)) i1 sd = s7 := by
    rw [sBk, e8]
  rw [e, e1, e2] at k
  have hrr := hm0.2.2.2.2
  have hr9 : mRr P r7 fr9 fo9 := mRr_cp hrr (hG.1 _ hrr.1.1).2.1 hi1 (fun t ht9 => (hq1 t (Nat.lt_of_lt_of_le ht9 hrr.1.2.2)).trans (nar_1 (by have z := hrr.2.2.2.2 t ht9; rw [show fq (4096 * 0 + t) = _ from z]; exact rO_in _ _)))
  exact k _ (mI_i (cI_put hW (mAs_nd m) rfl [0, 14, 17, 18, 19, 20, 21] (cs2 := [(oC 10 (mF m 0 0 (-1) (nI tp) sz sp fa fl tk ta sg nu wd (nI P.1) (nI P.2.1) rl rw ht s7 ah cl)), (aI 600 gt), (aL 8 ln), (aL 8 wn), (aI 8 fs), (aI 24 ff), (aI 8 fb), (aI 8 fn), (aI 8 fp), (aZ 8 f3), (aI 64 fk), (aI 64 fx), (aI 64 fy), (aI 64 fc), (aI 11 fr9), (aI 11 f1), (aI 11 f2), (aI 22 fi), (aB 4096 fo9), (aB 8192 fq), (aZ 2 fh), (aI 2 fj), (aI 4096 fw), (aI 2100 fz)]) rfl rfl) hT hPm hG (show mRv P ht (some r7) fr9 fo9 from ⟨hm0.1, hr9⟩) hm0 hm1 hm0.2.2.2.1 hht htp) (mFr_of (by intro a ha; simp only [List.mem_cons, List.not_mem_nil, or_false] at ha; omega))
set_option maxRecDepth 100000 in
set_option maxHeartbeats 4000000 in
theorem q_back_1n {G : wG} {d : Nat} {h : hH} {Q : Option Value → hH → Prop} {m : Nat} {ft : Nat → Int32} {tp : Nat} {P : pD} {ht : Int32} {R : Option rnD} {i0 i1 : imD} {sd fa pl tr : Int32} {th : Int32}  (hI : mI h m ft tp P ht R i0 (none) sd fa pl tr th)  (k : ∀ h2, mI h2 m ft tp P ht (rBk (nI 1) i0 (none) R) i0 (none) (sBk (nI 1) i0 (none) sd) fa (-1) (oBk (nI 1) i0 (none)).2 0 → mFr m h h2 → Q (some (.int (oBk (nI 1) i0 (none)).1)) h2) : Cl G yX10_back (d + 1) 0 0 [.ref m, .int (nI 1)] h Q := by
  refine mI_e hI ?_
  intro sz sp fl tk ta sg nu wd rl rw ah cl gt ln wn fs ff fb fn fp f3 fk fx fy fc fr f1 f2 fi fo fq fh fj fw fz hW hT hPm hG hRm hm0 hm1 hsd hht htp
  have hnL : P.1 ≤ 4096 := Nat.le_trans hG.2.2.1 (by decide)
  have hnW : P.2.1 ≤ 4096 := Nat.le_trans hG.2.2.2 (by decide)
  have hhL : (ht = 0 ∧ P.1 = 0) ∨ ht = 1 := hht.imp (fun z => ⟨z.1, z.2.1⟩) id
  have hhW : (ht = 0 ∧ P.2.1 = 0) ∨ ht = 1 := hht.imp (fun z => ⟨z.1, z.2.2⟩) id
  have hw : hHas h [m, m + 14, m + 17, m + 18, m + 19, m + 20, m + 21] [(oC 10 (mF m th tr pl (nI tp) sz sp fa fl tk ta sg nu wd (nI P.1) (nI P.2.1) rl rw ht sd ah cl)), (aI 11 fr), (aI 22 fi), (aB 4096 fo), (aB 8192 fq), (aZ 2 fh), (aI 2 fj)] := hHas_s hW [0, 14, 17, 18, 19, 20, 21] rfl rfl
  have nd : [m, m + 14, m + 17, m + 18, m + 19, m + 20, m + 21].Nodup := (nd_inc ⟨by omega, by omega, by omega, by omega, by omega, by omega, trivial⟩)
  refine Cl.of (ini := false) kX10_back (plainFor_of_name (by decide)) (by decide) (Nat.le_of_ble_eq_true rfl) rfl rfl (fun z => by cases z) ?_
  refine w_heq (hUs_id hw).symm ?_
  refine w_aload_n dX10_back_0 rfl ?_
  refine w_iconst (v := 0) dX10_back_1 (by decide) ?_
  refine w_put (fs' := (mF m 0 tr pl (nI tp) sz sp fa fl tk ta sg nu wd (nI P.1) (nI P.2.1) rl rw ht sd ah cl)) fX10_89 (hUs_at nd 0 rfl rfl) rfl rfl (Nat.le_of_ble_eq_true rfl) rfl dX10_back_2 ?_
  refine w_heq (hUs_set nd rfl 0 (cs' := [(oC 10 (mF m 0 tr pl (nI tp) sz sp fa fl tk ta sg nu wd (nI P.1) (nI P.2.1) rl rw ht sd ah cl)), (aI 11 fr), (aI 22 fi), (aB 4096 fo), (aB 8192 fq), (aZ 2 fh), (aI 2 fj)]) rfl rfl) ?_
  refine w_aload_n dX10_back_5 rfl ?_
  refine w_get (v := .int ht) fX10_247 (hUs_at nd 0 rfl rfl) rfl dX10_back_6 ?_
  refine w_if_eq (tgt := 30) dX10_back_9 rfl (fun b9 => ?_) (fun b9 => ?_)
  · refine w_aload_n dX10_back_30 rfl ?_
    refine w_iconst (v := 1) dX10_back_31 (by decide) ?_
    refine w_callV (ci := 10) (d' := d) (mc' := 0) (ms' := 0) (As := [.int 1]) (st := []) lX10_277 vX10_done rfl (hUs_at nd 0 rfl rfl) rfl (Nat.le_of_ble_eq_true rfl) dX10_back_32 (Nat.le_of_ble_eq_true rfl) (Nat.le_of_ble_eq_true rfl) (Nat.le_refl _) (m_done (hHas_sub nd (as' := [m]) (cs' := [(oC 10 (mF m 0 tr pl (nI tp) sz sp fa fl tk ta sg nu wd (nI P.1) (nI P.2.1) rl rw ht sd ah cl))]) [0] rfl rfl) (nd_sub nd (as' := [m]) [0] rfl rfl)  ?_)
    refine w_heq (hUs_in nd rfl [0] (cs2 := [(oC 10 (mF m 0 1 (-1) (nI tp) sz sp fa fl tk ta sg nu wd (nI P.1) (nI P.2.1) rl rw ht sd ah cl)), (aI 11 fr), (aI 22 fi), (aB 4096 fo), (aB 8192 fq), (aZ 2 fh), (aI 2 fj)]) rfl rfl) ?_
    refine w_zreturn rfl dX10_back_35 rfl (Nat.le_of_ble_eq_true rfl) (Nat.le_of_ble_eq_true rfl) ?_
    have e8 : iBk (nI 1) i0 (none) = (none) := by
      simp [iBk, show ¬ nI 1 = nI 0 by decide]
    have e : oBk (nI 1) i0 (none) = (0, 1) := by
      rw [oBk, e8]
    have e1 : rBk (nI 1) i0 (none) R = R := by
      rw [rBk, e8]
    have e2 : sBk (nI 1) i0 (none) sd = sd := by
      rw [sBk, e8]
    rw [e, e1, e2] at k
    exact k _ (mI_i (cI_put hW (mAs_nd m) rfl [0, 14, 17, 18, 19, 20, 21] (cs2 := [(oC 10 (mF m 0 1 (-1) (nI tp) sz sp fa fl tk ta sg nu wd (nI P.1) (nI P.2.1) rl rw ht sd ah cl)), (aI 600 gt), (aL 8 ln), (aL 8 wn), (aI 8 fs), (aI 24 ff), (aI 8 fb), (aI 8 fn), (aI 8 fp), (aZ 8 f3), (aI 64 fk), (aI 64 fx), (aI 64 fy), (aI 64 fc), (aI 11 fr), (aI 11 f1), (aI 11 f2), (aI 22 fi), (aB 4096 fo), (aB 8192 fq), (aZ 2 fh), (aI 2 fj), (aI 4096 fw), (aI 2100 fz)]) rfl rfl) hT hPm hG hRm hm0 hm1 hsd hht htp) (mFr_of (by intro a ha; simp only [List.mem_cons, List.not_mem_nil, or_false] at ha; omega))
  · refine w_iload_n dX10_back_12 rfl ?_
    refine w_iconst (v := 0) dX10_back_13 (by decide) ?_
    refine w_iconst (v := 1) dX10_back_14 (by decide) ?_
    refine w_callS (d' := d) (mc' := 0) (ms' := 0) (As := [.int (nI 1), .int 0, .int 1]) (st := []) lX10_111 vX10_in rfl (Nat.le_of_ble_eq_true rfl) dX10_back_15 (Nat.le_of_ble_eq_true rfl) (Nat.le_of_ble_eq_true rfl) (Nat.le_refl _) (c_in ?_)
    refine w_if_eq_f (tgt := 30) dX10_back_18 rfl (by decide) ?_
    refine w_aload_n dX10_back_21 rfl ?_
    refine w_get (v := .ref (m + 20)) fX10_74 (hUs_at nd 0 rfl rfl) rfl dX10_back_22 ?_
    refine w_iload_n dX10_back_25 rfl ?_
    refine w_zaloadN (hUs_at nd 5 rfl rfl) (by omega) (by omega) dX10_back_26 ?_
    refine w_top (z := 0) (show fh 1 = 0 from hm1) ?_
    refine w_if_ne_f (tgt := 36) dX10_back_27 rfl (by decide) ?_
    refine w_aload_n dX10_back_30 rfl ?_
    refine w_iconst (v := 1) dX10_back_31 (by decide) ?_
    refine w_callV (ci := 10) (d' := d) (mc' := 0) (ms' := 0) (As := [.int 1]) (st := []) lX10_277 vX10_done rfl (hUs_at nd 0 rfl rfl) rfl (Nat.le_of_ble_eq_true rfl) dX10_back_32 (Nat.le_of_ble_eq_true rfl) (Nat.le_of_ble_eq_true rfl) (Nat.le_refl _) (m_done (hHas_sub nd (as' := [m]) (cs' := [(oC 10 (mF m 0 tr pl (nI tp) sz sp fa fl tk ta sg nu wd (nI P.1) (nI P.2.1) rl rw ht sd ah cl))]) [0] rfl rfl) (nd_sub nd (as' := [m]) [0] rfl rfl)  ?_)
    refine w_heq (hUs_in nd rfl [0] (cs2 := [(oC 10 (mF m 0 1 (-1) (nI tp) sz sp fa fl tk ta sg nu wd (nI P.1) (nI P.2.1) rl rw ht sd ah cl)), (aI 11 fr), (aI 22 fi), (aB 4096 fo), (aB 8192 fq), (aZ 2 fh), (aI 2 fj)]) rfl rfl) ?_
    refine w_zreturn rfl dX10_back_35 rfl (Nat.le_of_ble_eq_true rfl) (Nat.le_of_ble_eq_true rfl) ?_
    have e8 : iBk (nI 1) i0 (none) = (none) := by
      simp [iBk, show ¬ nI 1 = nI 0 by decide]
    have e : oBk (nI 1) i0 (none) = (0, 1) := by
      rw [oBk, e8]
    have e1 : rBk (nI 1) i0 (none) R = R := by
      rw [rBk, e8]
    have e2 : sBk (nI 1) i0 (none) sd = sd := by
      rw [sBk, e8]
    rw [e, e1, e2] at k
    exact k _ (mI_i (cI_put hW (mAs_nd m) rfl [0, 14, 17, 18, 19, 20, 21] (cs2 := [(oC 10 (mF m 0 1 (-1) (nI tp) sz sp fa fl tk ta sg nu wd (nI P.1) (nI P.2.1) rl rw ht sd ah cl)), (aI 600 gt), (aL 8 ln), (aL 8 wn), (aI 8 fs), (aI 24 ff), (aI 8 fb), (aI 8 fn), (aI 8 fp), (aZ 8 f3), (aI 64 fk), (aI 64 fx), (aI 64 fy), (aI 64 fc), (aI 11 fr), (aI 11 f1), (aI 11 f2), (aI 22 fi), (aB 4096 fo), (aB 8192 fq), (aZ 2 fh), (aI 2 fj), (aI 4096 fw), (aI 2100 fz)]) rfl rfl) hT hPm hG hRm hm0 hm1 hsd hht htp) (mFr_of (by intro a ha; simp only [List.mem_cons, List.not_mem_nil, or_false] at ha; omega))
set_option maxRecDepth 100000 in
set_option maxHeartbeats 4000000 in
theorem q_back_1o {G : wG} {d : Nat} {h : hH} {Q : Option Value → hH → Prop} {m : Nat} {ft : Nat → Int32} {tp : Nat} {P : pD} {ht : Int32} {R : Option rnD} {i0 i1 : imD} {sd fa pl tr : Int32} {th : Int32}  {s7 : Int32} (hI : mI h m ft tp P ht R i0 (some (none, s7)) sd fa pl tr th)  (k : ∀ h2, mI h2 m ft tp P ht (rBk (nI 1) i0 (some (none, s7)) R) i0 (some (none, s7)) (sBk (nI 1) i0 (some (none, s7)) sd) fa (-1) (oBk (nI 1) i0 (some (none, s7))).2 0 → mFr m h h2 → Q (some (.int (oBk (nI 1) i0 (some (none, s7))).1)) h2) : Cl G yX10_back (d + 1) 0 0 [.ref m, .int (nI 1)] h Q := by
  refine mI_e hI ?_
  intro sz sp fl tk ta sg nu wd rl rw ah cl gt ln wn fs ff fb fn fp f3 fk fx fy fc fr f1 f2 fi fo fq fh fj fw fz hW hT hPm hG hRm hm0 hm1 hsd hht htp
  have hnL : P.1 ≤ 4096 := Nat.le_trans hG.2.2.1 (by decide)
  have hnW : P.2.1 ≤ 4096 := Nat.le_trans hG.2.2.2 (by decide)
  have hhL : (ht = 0 ∧ P.1 = 0) ∨ ht = 1 := hht.imp (fun z => ⟨z.1, z.2.1⟩) id
  have hhW : (ht = 0 ∧ P.2.1 = 0) ∨ ht = 1 := hht.imp (fun z => ⟨z.1, z.2.2⟩) id
  have hw : hHas h [m, m + 14, m + 17, m + 18, m + 19, m + 20, m + 21] [(oC 10 (mF m th tr pl (nI tp) sz sp fa fl tk ta sg nu wd (nI P.1) (nI P.2.1) rl rw ht sd ah cl)), (aI 11 fr), (aI 22 fi), (aB 4096 fo), (aB 8192 fq), (aZ 2 fh), (aI 2 fj)] := hHas_s hW [0, 14, 17, 18, 19, 20, 21] rfl rfl
  have nd : [m, m + 14, m + 17, m + 18, m + 19, m + 20, m + 21].Nodup := (nd_inc ⟨by omega, by omega, by omega, by omega, by omega, by omega, trivial⟩)
  refine Cl.of (ini := false) kX10_back (plainFor_of_name (by decide)) (by decide) (Nat.le_of_ble_eq_true rfl) rfl rfl (fun z => by cases z) ?_
  refine w_heq (hUs_id hw).symm ?_
  refine w_aload_n dX10_back_0 rfl ?_
  refine w_iconst (v := 0) dX10_back_1 (by decide) ?_
  refine w_put (fs' := (mF m 0 tr pl (nI tp) sz sp fa fl tk ta sg nu wd (nI P.1) (nI P.2.1) rl rw ht sd ah cl)) fX10_89 (hUs_at nd 0 rfl rfl) rfl rfl (Nat.le_of_ble_eq_true rfl) rfl dX10_back_2 ?_
  refine w_heq (hUs_set nd rfl 0 (cs' := [(oC 10 (mF m 0 tr pl (nI tp) sz sp fa fl tk ta sg nu wd (nI P.1) (nI P.2.1) rl rw ht sd ah cl)), (aI 11 fr), (aI 22 fi), (aB 4096 fo), (aB 8192 fq), (aZ 2 fh), (aI 2 fj)]) rfl rfl) ?_
  refine w_aload_n dX10_back_5 rfl ?_
  refine w_get (v := .int ht) fX10_247 (hUs_at nd 0 rfl rfl) rfl dX10_back_6 ?_
  refine w_if_eq_f (tgt := 30) dX10_back_9 rfl (by rw [hm1.1]; decide) ?_
  refine w_iload_n dX10_back_12 rfl ?_
  refine w_iconst (v := 0) dX10_back_13 (by decide) ?_
  refine w_iconst (v := 1) dX10_back_14 (by decide) ?_
  refine w_callS (d' := d) (mc' := 0) (ms' := 0) (As := [.int (nI 1), .int 0, .int 1]) (st := []) lX10_111 vX10_in rfl (Nat.le_of_ble_eq_true rfl) dX10_back_15 (Nat.le_of_ble_eq_true rfl) (Nat.le_of_ble_eq_true rfl) (Nat.le_refl _) (c_in ?_)
  refine w_if_eq_f (tgt := 30) dX10_back_18 rfl (by decide) ?_
  refine w_aload_n dX10_back_21 rfl ?_
  refine w_get (v := .ref (m + 20)) fX10_74 (hUs_at nd 0 rfl rfl) rfl dX10_back_22 ?_
  refine w_iload_n dX10_back_25 rfl ?_
  refine w_zaloadN (hUs_at nd 5 rfl rfl) (by omega) (by omega) dX10_back_26 ?_
  refine w_top (z := 1) hm1.2.1 ?_
  refine w_if_ne_t (tgt := 36) dX10_back_27 rfl (by decide) ?_
  refine w_iconst (v := (nI 0)) dX10_back_36 (by decide) ?_
  refine w_istore_n (ls2 := [some (.ref m), some (.int (nI 1)), some (.int (nI 0))]) dX10_back_37 (by decide) rfl rfl ?_
  refine lq_back1_1 nd (fun fr9 hi1 hi2 => ?_) 11 0 fr rfl (fun j hj => absurd hj (Nat.not_lt_zero j)) (fun _ _ => rfl)
  refine w_iconst (v := (nI 0)) dX10_back_67 (by decide) ?_
  refine w_istore_n (ls2 := [some (.ref m), some (.int (nI 1)), some (.int (nI 0))]) dX10_back_68 (by decide) rfl rfl ?_
  refine lq_back2_1 nd (fun fo9 hq1 hq2 => ?_) 4096 0 fo rfl (fun j hj => absurd hj (Nat.not_lt_zero j)) (fun _ _ => rfl)
  refine w_aload_n dX10_back_100 rfl ?_
  refine w_aload_n dX10_back_101 rfl ?_
  refine w_get (v := .ref (m + 21)) fX10_77 (hUs_at nd 0 rfl rfl) rfl dX10_back_102 ?_
  refine w_iload_n dX10_back_105 rfl ?_
  refine w_ialoadN (hUs_at nd 6 rfl rfl) (by omega) (by omega) dX10_back_106 ?_
  refine w_top (z := s7) hm1.2.2.1 ?_
  refine w_put (fs' := (mF m 0 tr pl (nI tp) sz sp fa fl tk ta sg nu wd (nI P.1) (nI P.2.1) rl rw ht s7 ah cl)) fX10_80 (hUs_at nd 0 rfl rfl) rfl rfl (Nat.le_of_ble_eq_true rfl) rfl dX10_back_107 ?_
  refine w_heq (hUs_set nd rfl 0 (cs' := [(oC 10 (mF m 0 tr pl (nI tp) sz sp fa fl tk ta sg nu wd (nI P.1) (nI P.2.1) rl rw ht s7 ah cl)), (aI 11 fr9), (aI 22 fi), (aB 4096 fo9), (aB 8192 fq), (aZ 2 fh), (aI 2 fj)]) rfl rfl) ?_
  refine w_aload_n dX10_back_110 rfl ?_
  refine w_iconst (v := 0) dX10_back_111 (by decide) ?_
  refine w_callV (ci := 10) (d' := d) (mc' := 0) (ms' := 0) (As := [.int 0]) (st := []) lX10_277 vX10_done rfl (hUs_at nd 0 rfl rfl) rfl (Nat.le_of_ble_eq_true rfl) dX10_back_112 (Nat.le_of_ble_eq_true rfl) (Nat.le_of_ble_eq_true rfl) (Nat.le_refl _) (m_done (hHas_sub nd (as' := [m]) (cs' := [(oC 10 (mF m 0 tr pl (nI tp) sz sp fa fl tk ta sg nu wd (nI P.1) (nI P.2.1) rl rw ht s7 ah cl))]) [0] rfl rfl) (nd_sub nd (as' := [m]) [0] rfl rfl)  ?_)
  refine w_heq (hUs_in nd rfl [0] (cs2 := [(oC 10 (mF m 0 0 (-1) (nI tp) sz sp fa fl tk ta sg nu wd (nI P.1) (nI P.2.1) rl rw ht s7 ah cl)), (aI 11 fr9), (aI 22 fi), (aB 4096 fo9), (aB 8192 fq), (aZ 2 fh), (aI 2 fj)]) rfl rfl) ?_
  refine w_zreturn rfl dX10_back_115 rfl (Nat.le_of_ble_eq_true rfl) (Nat.le_of_ble_eq_true rfl) ?_
  have e8 : iBk (nI 1) i0 (some (none, s7)) = (some (none, s7)) := by
    simp [iBk, show ¬ nI 1 = nI 0 by decide]
  have e : oBk (nI 1) i0 (some (none, s7)) = (1, 0) := by
    rw [oBk, e8]
  have e1 : rBk (nI 1) i0 (some (none, s7)) R = none := by
    rw [rBk, e8]
  have e2 : sBk (nI 1) i0 (some (none, s7)) sd = s7 := by
    rw [sBk, e8]
  rw [e, e1, e2] at k
  exact k _ (mI_i (cI_put hW (mAs_nd m) rfl [0, 14, 17, 18, 19, 20, 21] (cs2 := [(oC 10 (mF m 0 0 (-1) (nI tp) sz sp fa fl tk ta sg nu wd (nI P.1) (nI P.2.1) rl rw ht s7 ah cl)), (aI 600 gt), (aL 8 ln), (aL 8 wn), (aI 8 fs), (aI 24 ff), (aI 8 fb), (aI 8 fn), (aI 8 fp), (aZ 8 f3), (aI 64 fk), (aI 64 fx), (aI 64 fy), (aI 64 fc), (aI 11 fr9), (aI 11 f1), (aI 11 f2), (aI 22 fi), (aB 4096 fo9), (aB 8192 fq), (aZ 2 fh), (aI 2 fj), (aI 4096 fw), (aI 2100 fz)]) rfl rfl) hT hPm hG (show mRv P ht none fr9 fo9 from Or.inr ((hi1 0 (by omega)).trans hm1.2.2.2.2)) hm0 hm1 hm1.2.2.2.1 hht htp) (mFr_of (by intro a ha; simp only [List.mem_cons, List.not_mem_nil, or_false] at ha; omega))
set_option maxRecDepth 100000 in
set_option maxHeartbeats 4000000 in
theorem q_back_1r {G : wG} {d : Nat} {h : hH} {Q : Option Value → hH → Prop} {m : Nat} {ft : Nat → Int32} {tp : Nat} {P : pD} {ht : Int32} {R : Option rnD} {i0 i1 : imD} {sd fa pl tr : Int32} {th : Int32}  {r7 : rnD} {s7 : Int32} (hI : mI h m ft tp P ht R i0 (some (some r7, s7)) sd fa pl tr th)  (k : ∀ h2, mI h2 m ft tp P ht (rBk (nI 1) i0 (some (some r7, s7)) R) i0 (some (some r7, s7)) (sBk (nI 1) i0 (some (some r7, s7)) sd) fa (-1) (oBk (nI 1) i0 (some (some r7, s7))).2 0 → mFr m h h2 → Q (some (.int (oBk (nI 1) i0 (some (some r7, s7))).1)) h2) : Cl G yX10_back (d + 1) 0 0 [.ref m, .int (nI 1)] h Q := by
  refine mI_e hI ?_
  intro sz sp fl tk ta sg nu wd rl rw ah cl gt ln wn fs ff fb fn fp f3 fk fx fy fc fr f1 f2 fi fo fq fh fj fw fz hW hT hPm hG hRm hm0 hm1 hsd hht htp
  have hnL : P.1 ≤ 4096 := Nat.le_trans hG.2.2.1 (by decide)
  have hnW : P.2.1 ≤ 4096 := Nat.le_trans hG.2.2.2 (by decide)
  have hhL : (ht = 0 ∧ P.1 = 0) ∨ ht = 1 := hht.imp (fun z => ⟨z.1, z.2.1⟩) id
  have hhW : (ht = 0 ∧ P.2.1 = 0) ∨ ht = 1 := hht.imp (fun z => ⟨z.1, z.2.2⟩) id
  have hw : hHas h [m, m + 14, m + 17, m + 18, m + 19, m + 20, m + 21] [(oC 10 (mF m th tr pl (nI tp) sz sp fa fl tk ta sg nu wd (nI P.1) (nI P.2.1) rl rw ht sd ah cl)), (aI 11 fr), (aI 22 fi), (aB 4096 fo), (aB 8192 fq), (aZ 2 fh), (aI 2 fj)] := hHas_s hW [0, 14, 17, 18, 19, 20, 21] rfl rfl
  have nd : [m, m + 14, m + 17, m + 18, m + 19, m + 20, m + 21].Nodup := (nd_inc ⟨by omega, by omega, by omega, by omega, by omega, by omega, trivial⟩)
  refine Cl.of (ini := false) kX10_back (plainFor_of_name (by decide)) (by decide) (Nat.le_of_ble_eq_true rfl) rfl rfl (fun z => by cases z) ?_
  refine w_heq (hUs_id hw).symm ?_
  refine w_aload_n dX10_back_0 rfl ?_
  refine w_iconst (v := 0) dX10_back_1 (by decide) ?_
  refine w_put (fs' := (mF m 0 tr pl (nI tp) sz sp fa fl tk ta sg nu wd (nI P.1) (nI P.2.1) rl rw ht sd ah cl)) fX10_89 (hUs_at nd 0 rfl rfl) rfl rfl (Nat.le_of_ble_eq_true rfl) rfl dX10_back_2 ?_
  refine w_heq (hUs_set nd rfl 0 (cs' := [(oC 10 (mF m 0 tr pl (nI tp) sz sp fa fl tk ta sg nu wd (nI P.1) (nI P.2.1) rl rw ht sd ah cl)), (aI 11 fr), (aI 22 fi), (aB 4096 fo), (aB 8192 fq), (aZ 2 fh), (aI 2 fj)]) rfl rfl) ?_
  refine w_aload_n dX10_back_5 rfl ?_
  refine w_get (v := .int ht) fX10_247 (hUs_at nd 0 rfl rfl) rfl dX10_back_6 ?_
  refine w_if_eq_f (tgt := 30) dX10_back_9 rfl (by rw [hm1.1]; decide) ?_
  refine w_iload_n dX10_back_12 rfl ?_
  refine w_iconst (v := 0) dX10_back_13 (by decide) ?_
  refine w_iconst (v := 1) dX10_back_14 (by decide) ?_
  refine w_callS (d' := d) (mc' := 0) (ms' := 0) (As := [.int (nI 1), .int 0, .int 1]) (st := []) lX10_111 vX10_in rfl (Nat.le_of_ble_eq_true rfl) dX10_back_15 (Nat.le_of_ble_eq_true rfl) (Nat.le_of_ble_eq_true rfl) (Nat.le_refl _) (c_in ?_)
  refine w_if_eq_f (tgt := 30) dX10_back_18 rfl (by decide) ?_
  refine w_aload_n dX10_back_21 rfl ?_
  refine w_get (v := .ref (m + 20)) fX10_74 (hUs_at nd 0 rfl rfl) rfl dX10_back_22 ?_
  refine w_iload_n dX10_back_25 rfl ?_
  refine w_zaloadN (hUs_at nd 5 rfl rfl) (by omega) (by omega) dX10_back_26 ?_
  refine w_top (z := 1) hm1.2.1 ?_
  refine w_if_ne_t (tgt := 36) dX10_back_27 rfl (by decide) ?_
  refine w_iconst (v := (nI 0)) dX10_back_36 (by decide) ?_
  refine w_istore_n (ls2 := [some (.ref m), some (.int (nI 1)), some (.int (nI 0))]) dX10_back_37 (by decide) rfl rfl ?_
  refine lq_back1_1 nd (fun fr9 hi1 hi2 => ?_) 11 0 fr rfl (fun j hj => absurd hj (Nat.not_lt_zero j)) (fun _ _ => rfl)
  refine w_iconst (v := (nI 0)) dX10_back_67 (by decide) ?_
  refine w_istore_n (ls2 := [some (.ref m), some (.int (nI 1)), some (.int (nI 0))]) dX10_back_68 (by decide) rfl rfl ?_
  refine lq_back2_1 nd (fun fo9 hq1 hq2 => ?_) 4096 0 fo rfl (fun j hj => absurd hj (Nat.not_lt_zero j)) (fun _ _ => rfl)
  refine w_aload_n dX10_back_100 rfl ?_
  refine w_aload_n dX10_back_101 rfl ?_
  refine w_get (v := .ref (m + 21)) fX10_77 (hUs_at nd 0 rfl rfl) rfl dX10_back_102 ?_
  refine w_iload_n dX10_back_105 rfl ?_
  refine w_ialoadN (hUs_at nd 6 rfl rfl) (by omega) (by omega) dX10_back_106 ?_
  refine w_top (z := s7) hm1.2.2.1 ?_
  refine w_put (fs' := (mF m 0 tr pl (nI tp) sz sp fa fl tk ta sg nu wd (nI P.1) (nI P.2.1) rl rw ht s7 ah cl)) fX10_80 (hUs_at nd 0 rfl rfl) rfl rfl (Nat.le_of_ble_eq_true rfl) rfl dX10_back_107 ?_
  refine w_heq (hUs_set nd rfl 0 (cs' := [(oC 10 (mF m 0 tr pl (nI tp) sz sp fa fl tk ta sg nu wd (nI P.1) (nI P.2.1) rl rw ht s7 ah cl)), (aI 11 fr9), (aI 22 fi), (aB 4096 fo9), (aB 8192 fq), (aZ 2 fh), (aI 2 fj)]) rfl rfl) ?_
  refine w_aload_n dX10_back_110 rfl ?_
  refine w_iconst (v := 0) dX10_back_111 (by decide) ?_
  refine w_callV (ci := 10) (d' := d) (mc' := 0) (ms' := 0) (As := [.int 0]) (st := []) lX10_277 vX10_done rfl (hUs_at nd 0 rfl rfl) rfl (Nat.le_of_ble_eq_true rfl) dX10_back_112 (Nat.le_of_ble_eq_true rfl) (Nat.le_of_ble_eq_true rfl) (Nat.le_refl _) (m_done (hHas_sub nd (as' := [m]) (cs' := [(oC 10 (mF m 0 tr pl (nI tp) sz sp fa fl tk ta sg nu wd (nI P.1) (nI P.2.1) rl rw ht s7 ah cl))]) [0] rfl rfl) (nd_sub nd (as' := [m]) [0] rfl rfl)  ?_)
  refine w_heq (hUs_in nd rfl [0] (cs2 := [(oC 10 (mF m 0 0 (-1) (nI tp) sz sp fa fl tk ta sg nu wd (nI P.1) (nI P.2.1) rl rw ht s7 ah cl)), (aI 11 fr9), (aI 22 fi), (aB 4096 fo9), (aB 8192 fq), (aZ 2 fh), (aI 2 fj)]) rfl rfl) ?_
  refine w_zreturn rfl dX10_back_115 rfl (Nat.le_of_ble_eq_true rfl) (Nat.le_of_ble_eq_true rfl) ?_
  have e8 : iBk (nI 1) i0 (some (some r7, s7)) = (some (some r7, s7)) := by
    simp [iBk, show ¬ nI 1 = nI 0 by decide]
  have e : oBk (nI 1) i0 (some (some r7, s7)) = (1, 0) := by
    rw [oBk, e8]
  have e1 : rBk (nI 1) i0 (some (some r7, s7)) R = some r7 := by
    rw [rBk, e8]
  have e2 : sBk (nI 1) i0 (some (some r7, s7)) sd = s7 := by
    rw [sBk, e8]
  rw [e, e1, e2] at k
  have hrr := hm1.2.2.2.2
  have hr9 : mRr P r7 fr9 fo9 := mRr_cp hrr (hG.1 _ hrr.1.1).2.1 hi1 (fun t ht9 => (hq1 t (Nat.lt_of_lt_of_le ht9 hrr.1.2.2)).trans (nar_1 (by have z := hrr.2.2.2.2 t ht9; rw [show fq (4096 * 1 + t) = _ from z]; exact rO_in _ _)))
  exact k _ (mI_i (cI_put hW (mAs_nd m) rfl [0, 14, 17, 18, 19, 20, 21] (cs2 := [(oC 10 (mF m 0 0 (-1) (nI tp) sz sp fa fl tk ta sg nu wd (nI P.1) (nI P.2.1) rl rw ht s7 ah cl)), (aI 600 gt), (aL 8 ln), (aL 8 wn), (aI 8 fs), (aI 24 ff), (aI 8 fb), (aI 8 fn), (aI 8 fp), (aZ 8 f3), (aI 64 fk), (aI 64 fx), (aI 64 fy), (aI 64 fc), (aI 11 fr9), (aI 11 f1), (aI 11 f2), (aI 22 fi), (aB 4096 fo9), (aB 8192 fq), (aZ 2 fh), (aI 2 fj), (aI 4096 fw), (aI 2100 fz)]) rfl rfl) hT hPm hG (show mRv P ht (some r7) fr9 fo9 from ⟨hm1.1, hr9⟩) hm0 hm1 hm1.2.2.2.1 hht htp) (mFr_of (by intro a ha; simp only [List.mem_cons, List.not_mem_nil, or_false] at ha; omega))
set_option maxRecDepth 100000 in
set_option maxHeartbeats 4000000 in
theorem q_back_n {G : wG} {d : Nat} {h : hH} {Q : Option Value → hH → Prop} {m : Nat} {ft : Nat → Int32} {tp : Nat} {P : pD} {ht : Int32} {R : Option rnD} {i0 i1 : imD} {sd fa pl tr : Int32} {th : Int32}  {y : Int32} (hI : mI h m ft tp P ht R i0 i1 sd fa pl tr th) (hy : ¬ ∃ w, w < 2 ∧ y = nI w) (k : ∀ h2, mI h2 m ft tp P ht (rBk y i0 i1 R) i0 i1 (sBk y i0 i1 sd) fa (-1) (oBk y i0 i1).2 0 → mFr m h h2 → Q (some (.int (oBk y i0 i1).1)) h2) : Cl G yX10_back (d + 1) 0 0 [.ref m, .int y] h Q := by
  refine mI_e hI ?_
  intro sz sp fl tk ta sg nu wd rl rw ah cl gt ln wn fs ff fb fn fp f3 fk fx fy fc fr f1 f2 fi fo fq fh fj fw fz hW hT hPm hG hRm hm0 hm1 hsd hht htp
  have hnL : P.1 ≤ 4096 := Nat.le_trans hG.2.2.1 (by decide)
  have hnW : P.2.1 ≤ 4096 := Nat.le_trans hG.2.2.2 (by decide)
  have hhL : (ht = 0 ∧ P.1 = 0) ∨ ht = 1 := hht.imp (fun z => ⟨z.1, z.2.1⟩) id
  have hhW : (ht = 0 ∧ P.2.1 = 0) ∨ ht = 1 := hht.imp (fun z => ⟨z.1, z.2.2⟩) id
  have hw : hHas h [m] [(oC 10 (mF m th tr pl (nI tp) sz sp fa fl tk ta sg nu wd (nI P.1) (nI P.2.1) rl rw ht sd ah cl))] := hHas_s hW [0] rfl rfl
  have nd : [m].Nodup := (nd_inc trivial)
  refine Cl.of (ini := false) kX10_back (plainFor_of_name (by decide)) (by decide) (Nat.le_of_ble_eq_true rfl) rfl rfl (fun z => by cases z) ?_
  refine w_heq (hUs_id hw).symm ?_
  refine w_aload_n dX10_back_0 rfl ?_
  refine w_iconst (v := 0) dX10_back_1 (by decide) ?_
  refine w_put (fs' := (mF m 0 tr pl (nI tp) sz sp fa fl tk ta sg nu wd (nI P.1) (nI P.2.1) rl rw ht sd ah cl)) fX10_89 (hUs_at nd 0 rfl rfl) rfl rfl (Nat.le_of_ble_eq_true rfl) rfl dX10_back_2 ?_
  refine w_heq (hUs_set nd rfl 0 (cs' := [(oC 10 (mF m 0 tr pl (nI tp) sz sp fa fl tk ta sg nu wd (nI P.1) (nI P.2.1) rl rw ht sd ah cl))]) rfl rfl) ?_
  refine w_aload_n dX10_back_5 rfl ?_
  refine w_get (v := .int ht) fX10_247 (hUs_at nd 0 rfl rfl) rfl dX10_back_6 ?_
  refine w_if_eq (tgt := 30) dX10_back_9 rfl (fun b9 => ?_) (fun b9 => ?_)
  · refine w_aload_n dX10_back_30 rfl ?_
    refine w_iconst (v := 1) dX10_back_31 (by decide) ?_
    refine w_callV (ci := 10) (d' := d) (mc' := 0) (ms' := 0) (As := [.int 1]) (st := []) lX10_277 vX10_done rfl (hUs_at nd 0 rfl rfl) rfl (Nat.le_of_ble_eq_true rfl) dX10_back_32 (Nat.le_of_ble_eq_true rfl) (Nat.le_of_ble_eq_true rfl) (Nat.le_refl _) (m_done (hHas_sub nd (as' := [m]) (cs' := [(oC 10 (mF m 0 tr pl (nI tp) sz sp fa fl tk ta sg nu wd (nI P.1) (nI P.2.1) rl rw ht sd ah cl))]) [0] rfl rfl) (nd_sub nd (as' := [m]) [0] rfl rfl)  ?_)
    refine w_heq (hUs_in nd rfl [0] (cs2 := [(oC 10 (mF m 0 1 (-1) (nI tp) sz sp fa fl tk ta sg nu wd (nI P.1) (nI P.2.1) rl rw ht sd ah cl))]) rfl rfl) ?_
    refine w_zreturn rfl dX10_back_35 rfl (Nat.le_of_ble_eq_true rfl) (Nat.le_of_ble_eq_true rfl) ?_
    have e8 : iBk y i0 i1 = none := by
      rw [iBk, if_neg (fun z => hy ⟨0, by decide, z⟩), if_neg (fun z => hy ⟨1, by decide, z⟩)]
    have e : oBk y i0 i1 = (0, 1) := by
      rw [oBk, e8]
    have e1 : rBk y i0 i1 R = R := by
      rw [rBk, e8]
    have e2 : sBk y i0 i1 sd = sd := by
      rw [sBk, e8]
    rw [e, e1, e2] at k
    exact k _ (mI_i (cI_put hW (mAs_nd m) rfl [0] (cs2 := [(oC 10 (mF m 0 1 (-1) (nI tp) sz sp fa fl tk ta sg nu wd (nI P.1) (nI P.2.1) rl rw ht sd ah cl)), (aI 600 gt), (aL 8 ln), (aL 8 wn), (aI 8 fs), (aI 24 ff), (aI 8 fb), (aI 8 fn), (aI 8 fp), (aZ 8 f3), (aI 64 fk), (aI 64 fx), (aI 64 fy), (aI 64 fc), (aI 11 fr), (aI 11 f1), (aI 11 f2), (aI 22 fi), (aB 4096 fo), (aB 8192 fq), (aZ 2 fh), (aI 2 fj), (aI 4096 fw), (aI 2100 fz)]) rfl rfl) hT hPm hG hRm hm0 hm1 hsd hht htp) (mFr_of (by intro a ha; simp only [List.mem_cons, List.not_mem_nil, or_false] at ha; omega))
  · refine w_iload_n dX10_back_12 rfl ?_
    refine w_iconst (v := 0) dX10_back_13 (by decide) ?_
    refine w_iconst (v := 1) dX10_back_14 (by decide) ?_
    refine w_callS (d' := d) (mc' := 0) (ms' := 0) (As := [.int y, .int 0, .int 1]) (st := []) lX10_111 vX10_in rfl (Nat.le_of_ble_eq_true rfl) dX10_back_15 (Nat.le_of_ble_eq_true rfl) (Nat.le_of_ble_eq_true rfl) (Nat.le_refl _) (c_in ?_)
    refine w_if_eq_t (tgt := 30) dX10_back_18 rfl (inB_n (fun z => by obtain ⟨w9, h9, e9⟩ := in2 (m := 1) (Int32.not_lt.mpr z.1) z.2 (by decide); exact hy ⟨w9, by omega, e9⟩)) ?_
    refine w_aload_n dX10_back_30 rfl ?_
    refine w_iconst (v := 1) dX10_back_31 (by decide) ?_
    refine w_callV (ci := 10) (d' := d) (mc' := 0) (ms' := 0) (As := [.int 1]) (st := []) lX10_277 vX10_done rfl (hUs_at nd 0 rfl rfl) rfl (Nat.le_of_ble_eq_true rfl) dX10_back_32 (Nat.le_of_ble_eq_true rfl) (Nat.le_of_ble_eq_true rfl) (Nat.le_refl _) (m_done (hHas_sub nd (as' := [m]) (cs' := [(oC 10 (mF m 0 tr pl (nI tp) sz sp fa fl tk ta sg nu wd (nI P.1) (nI P.2.1) rl rw ht sd ah cl))]) [0] rfl rfl) (nd_sub nd (as' := [m]) [0] rfl rfl)  ?_)
    refine w_heq (hUs_in nd rfl [0] (cs2 := [(oC 10 (mF m 0 1 (-1) (nI tp) sz sp fa fl tk ta sg nu wd (nI P.1) (nI P.2.1) rl rw ht sd ah cl))]) rfl rfl) ?_
    refine w_zreturn rfl dX10_back_35 rfl (Nat.le_of_ble_eq_true rfl) (Nat.le_of_ble_eq_true rfl) ?_
    have e8 : iBk y i0 i1 = none := by
      rw [iBk, if_neg (fun z => hy ⟨0, by decide, z⟩), if_neg (fun z => hy ⟨1, by decide, z⟩)]
    have e : oBk y i0 i1 = (0, 1) := by
      rw [oBk, e8]
    have e1 : rBk y i0 i1 R = R := by
      rw [rBk, e8]
    have e2 : sBk y i0 i1 sd = sd := by
      rw [sBk, e8]
    rw [e, e1, e2] at k
    exact k _ (mI_i (cI_put hW (mAs_nd m) rfl [0] (cs2 := [(oC 10 (mF m 0 1 (-1) (nI tp) sz sp fa fl tk ta sg nu wd (nI P.1) (nI P.2.1) rl rw ht sd ah cl)), (aI 600 gt), (aL 8 ln), (aL 8 wn), (aI 8 fs), (aI 24 ff), (aI 8 fb), (aI 8 fn), (aI 8 fp), (aZ 8 f3), (aI 64 fk), (aI 64 fx), (aI 64 fy), (aI 64 fc), (aI 11 fr), (aI 11 f1), (aI 11 f2), (aI 22 fi), (aB 4096 fo), (aB 8192 fq), (aZ 2 fh), (aI 2 fj), (aI 4096 fw), (aI 2100 fz)]) rfl rfl) hT hPm hG hRm hm0 hm1 hsd hht htp) (mFr_of (by intro a ha; simp only [List.mem_cons, List.not_mem_nil, or_false] at ha; omega))
theorem q_back {G : wG} {d : Nat} {h : hH} {Q : Option Value → hH → Prop} {m : Nat} {ft : Nat → Int32} {tp : Nat} {P : pD} {ht : Int32} {R : Option rnD} {i0 i1 : imD} {sd fa pl tr : Int32} {th : Int32} {y : Int32} (hI : mI h m ft tp P ht R i0 i1 sd fa pl tr th) (k : ∀ h2, mI h2 m ft tp P ht (rBk y i0 i1 R) i0 i1 (sBk y i0 i1 sd) fa (-1) (oBk y i0 i1).2 0 → mFr m h h2 → Q (some (.int (oBk y i0 i1).1)) h2) : Cl G yX10_back (d + 1) 0 0 [.ref m, .int y] h Q := by
  by_cases hy : ∃ w, w < 2 ∧ y = nI w
  · obtain ⟨w, hw, rfl⟩ := hy
    rcases (show w = 0 ∨ w = 1 by omega) with rfl | rfl
    · match i0, hI, k with
      | none, hI, k => exact q_back_0n (i0 := none) hI k
      | some (none, s7), hI, k => exact q_back_0o (i0 := none) hI k
      | some (some r7, s7), hI, k => exact q_back_0r (i0 := none) hI k
    · match i1, hI, k with
      | none, hI, k => exact q_back_1n (i1 := none) hI k
      | some (none, s7), hI, k => exact q_back_1o (i1 := none) hI k
      | some (some r7, s7), hI, k => exact q_back_1r (i1 := none) hI k
  · exact q_back_n hI hy k
