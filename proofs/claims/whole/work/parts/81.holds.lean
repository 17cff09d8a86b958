/-- the upper half over the lower one, so far -/
def cpH {α : Type} (N k : Nat) (v : α → α) (f g : Nat → α) : Prop := (∀ j, j < k → g j = v (f (N + j))) ∧ ∀ j, N ≤ j → g j = f j
theorem cpH_0 {α : Type} {N : Nat} {v : α → α} {f : Nat → α} : cpH N 0 v f f := ⟨fun j hj => absurd hj (Nat.not_lt_zero j), fun _ _ => rfl⟩
theorem cpH_s {N k : Nat} {v : Int32 → Int32} {f g : Nat → Int32} (h : cpH N k v f g) (hk : k < N) : cpH N (k + 1) v f (upd g k (v (g (N + k)))) := by
  refine ⟨fun j hj => ?_, fun j hj => by rw [pk_un (by omega)]; exact h.2 j hj⟩
  by_cases z : j = k
  · subst z; rw [pk_us, h.2 _ (by omega)]
  · rw [pk_un z]; exact h.1 j (by omega)
theorem cpH_sL {N k : Nat} {f g : Nat → Int64} (h : cpH N k id f g) (hk : k < N) : cpH N (k + 1) id f (vp_updL g k (g (N + k))) := by
  refine ⟨fun j hj => ?_, fun j hj => by rw [pk_uLn (by omega)]; exact h.2 j hj⟩
  by_cases z : j = k
  · subst z; rw [pk_uLs, h.2 _ (by omega)]; rfl
  · rw [pk_uLn z]; exact h.1 j (by omega)
set_option maxRecDepth 100000 in
set_option maxHeartbeats 4000000 in
theorem l_hd1 {G : wG} {d : Nat} {h : hH} {Q : Option Value → hH → Prop} {m : Nat} {th tr wa tp sz sp fa fl tk ta sg nu : Int32} {wd : Int64} {lo wv rl rw ht sd ah cl : Int32} {ln : Nat → Int64} {wn : Nat → Int64} {fs : Nat → Int32} {ff : Nat → Int32} {fb : Nat → Int32} {fn : Nat → Int32} {fp : Nat → Int32} {f3 : Nat → Int32} {fk : Nat → Int32} {fx : Nat → Int32} {fy : Nat → Int32} {fc : Nat → Int32} {fr : Nat → Int32} {fh : Nat → Int32} (nd : [m, m + 2, m + 3, m + 4, m + 5, m + 6, m + 7, m + 8, m + 9, m + 10, m + 11, m + 12, m + 13, m + 14, m + 20].Nodup) (k : ∀ (g2 : Nat → Int64) (g3 : Nat → Int64) (g4 : Nat → Int32) (g6 : Nat → Int32) (g7 : Nat → Int32) (g9 : Nat → Int32) (g8 : Nat → Int32), cpH 4 4 id ln g2 → cpH 4 4 id wn g3 → cpH 4 4 id fs g4 → cpH 4 4 id fb g6 → cpH 4 4 id fn g7 → cpH 4 4 (vp_nar .boolean) f3 g9 → cpH 4 4 id fp g8 → WP G RX10 cX10_holds 2 none false d 0 0 0 0 Q 127 [some (.ref m), none] [] (hUs h [m, m + 2, m + 3, m + 4, m + 5, m + 6, m + 7, m + 8, m + 9, m + 10, m + 11, m + 12, m + 13, m + 14, m + 20] [(oC 10 (mF m th tr wa tp sz sp fa fl tk ta sg nu wd lo wv rl rw ht sd ah cl)), (aL 8 g2), (aL 8 g3), (aI 8 g4), (aI 24 ff), (aI 8 g6), (aI 8 g7), (aI 8 g8), (aZ 8 g9), (aI 64 fk), (aI 64 fx), (aI 64 fy), (aI 64 fc), (aI 11 fr), (aZ 2 fh)])) : ∀ (n : Nat) (i : Nat) (g2 : Nat → Int64) (g3 : Nat → Int64) (g4 : Nat → Int32) (g6 : Nat → Int32) (g7 : Nat → Int32) (g9 : Nat → Int32) (g8 : Nat → Int32), i + n = 4 → cpH 4 i id ln g2 → cpH 4 i id wn g3 → cpH 4 i id fs g4 → cpH 4 i id fb g6 → cpH 4 i id fn g7 → cpH 4 i (vp_nar .boolean) f3 g9 → cpH 4 i id fp g8 → WP G RX10 cX10_holds 2 none false d 0 0 0 0 Q 18 [some (.ref m), some (.int (nI i))] [] (hUs h [m, m + 2, m + 3, m + 4, m + 5, m + 6, m + 7, m + 8, m + 9, m + 10, m + 11, m + 12, m + 13, m + 14, m + 20] [(oC 10 (mF m th tr wa tp sz sp fa fl tk ta sg nu wd lo wv rl rw ht sd ah cl)), (aL 8 g2), (aL 8 g3), (aI 8 g4), (aI 24 ff), (aI 8 g6), (aI 8 g7), (aI 8 g8), (aZ 8 g9), (aI 64 fk), (aI 64 fx), (aI 64 fy), (aI 64 fc), (aI 11 fr), (aZ 2 fh)]) := by
  intro n
  induction n with
  | zero =>
    intro i g2 g3 g4 g6 g7 g9 g8 hi h2 h3 h4 h6 h7 h9 h8
    refine w_iload_n dX10_holds_18 rfl ?_
    refine w_iconst (v := 4) dX10_holds_19 (by decide) ?_
    refine w_icmp_ge_t (tgt := 127) dX10_holds_20 rfl ((nI_leI (a := 4) (b := i) (by omega) (by omega)).mpr (by omega)) ?_
    refine w_less (ls2 := [some (.ref m), none]) ⟨Or.inr rfl, Or.inl rfl, trivial⟩ ?_
    have z : i = 4 := by omega
    subst z
    exact k _ _ _ _ _ _ _ h2 h3 h4 h6 h7 h9 h8
  | succ n ih =>
    intro i g2 g3 g4 g6 g7 g9 g8 hi h2 h3 h4 h6 h7 h9 h8
    refine w_iload_n dX10_holds_18 rfl ?_
    refine w_iconst (v := 4) dX10_holds_19 (by decide) ?_
    refine w_icmp_ge_f (tgt := 127) dX10_holds_20 rfl (fun z => absurd ((nI_leI (a := 4) (b := i) (by omega) (by omega)).mp z) (by omega)) ?_
    refine w_aload_n dX10_holds_23 rfl ?_
    refine w_get (v := .ref (m + 2)) fX10_17 (hUs_at nd 0 rfl rfl) rfl dX10_holds_24 ?_
    refine w_iload_n dX10_holds_27 rfl ?_
    refine w_aload_n dX10_holds_28 rfl ?_
    refine w_get (v := .ref (m + 2)) fX10_17 (hUs_at nd 0 rfl rfl) rfl dX10_holds_29 ?_
    refine w_iconst (v := 4) dX10_holds_32 (by decide) ?_
    refine w_iload_n dX10_holds_33 rfl ?_
    refine w_iaddE (z := nI (4 + i)) dX10_holds_34 (nI_add (4) (i)) ?_
    refine w_laloadN (hUs_at nd 1 rfl rfl) (by omega) (by omega) dX10_holds_35 ?_
    refine w_lastoreN (hUs_at nd 1 rfl rfl) (by omega) (by omega) dX10_holds_36 ?_
    refine w_heq (hUs_set nd rfl 1 (cs' := [(oC 10 (mF m th tr wa tp sz sp fa fl tk ta sg nu wd lo wv rl rw ht sd ah cl)), (aL 8 (vp_updL g2 i (g2 (4 + i)))), (aL 8 g3), (aI 8 g4), (aI 24 ff), (aI 8 g6), (aI 8 g7), (aI 8 g8), (aZ 8 g9), (aI 64 fk), (aI 64 fx), (aI 64 fy), (aI 64 fc), (aI 11 fr), (aZ 2 fh)]) rfl rfl) ?_
    refine w_aload_n dX10_holds_37 rfl ?_
    refine w_get (v := .ref (m + 3)) fX10_21 (hUs_at nd 0 rfl rfl) rfl dX10_holds_38 ?_
    refine w_iload_n dX10_holds_41 rfl ?_
    refine w_aload_n dX10_holds_42 rfl ?_
    refine w_get (v := .ref (m + 3)) fX10_21 (hUs_at nd 0 rfl rfl) rfl dX10_holds_43 ?_
    refine w_iconst (v := 4) dX10_holds_46 (by decide) ?_
    refine w_iload_n dX10_holds_47 rfl ?_
    refine w_iaddE (z := nI (4 + i)) dX10_holds_48 (nI_add (4) (i)) ?_
    refine w_laloadN (hUs_at nd 2 rfl rfl) (by omega) (by omega) dX10_holds_49 ?_
    refine w_lastoreN (hUs_at nd 2 rfl rfl) (by omega) (by omega) dX10_holds_50 ?_
    refine w_heq (hUs_set nd rfl 2 (cs' := [(oC 10 (mF m th tr wa tp sz sp fa fl tk ta sg nu wd lo wv rl rw ht sd ah cl)), (aL 8 (vp_updL g2 i (g2 (4 + i)))), (aL 8 (vp_updL g3 i (g3 (4 + i)))), (aI 8 g4), (aI 24 ff), (aI 8 g6), (aI 8 g7), (aI 8 g8), (aZ 8 g9), (aI 64 fk), (aI 64 fx), (aI 64 fy), (aI 64 fc), (aI 11 fr), (aZ 2 fh)]) rfl rfl) ?_
    refine w_aload_n dX10_holds_51 rfl ?_
    refine w_get (v := .ref (m + 4)) fX10_24 (hUs_at nd 0 rfl rfl) rfl dX10_holds_52 ?_
    refine w_iload_n dX10_holds_55 rfl ?_
    refine w_aload_n dX10_holds_56 rfl ?_
    refine w_get (v := .ref (m + 4)) fX10_24 (hUs_at nd 0 rfl rfl) rfl dX10_holds_57 ?_
    refine w_iconst (v := 4) dX10_holds_60 (by decide) ?_
    refine w_iload_n dX10_holds_61 rfl ?_
    refine w_iaddE (z := nI (4 + i)) dX10_holds_62 (nI_add (4) (i)) ?_
    refine w_ialoadN (hUs_at nd 3 rfl rfl) (by omega) (by omega) dX10_holds_63 ?_
    refine w_iastoreN (hUs_at nd 3 rfl rfl) (by omega) (by omega) dX10_holds_64 ?_
    refine w_heq (hUs_set nd rfl 3 (cs' := [(oC 10 (mF m th tr wa tp sz sp fa fl tk ta sg nu wd lo wv rl rw ht sd ah cl)), (aL 8 (vp_updL g2 i (g2 (4 + i)))), (aL 8 (vp_updL g3 i (g3 (4 + i)))), (aI 8 (upd g4 i (g4 (4 + i)))), (aI 24 ff), (aI 8 g6), (aI 8 g7), (aI 8 g8), (aZ 8 g9), (aI 64 fk), (aI 64 fx), (aI 64 fy), (aI 64 fc), (aI 11 fr), (aZ 2 fh)]) rfl rfl) ?_
    refine w_aload_n dX10_holds_65 rfl ?_
    refine w_get (v := .ref (m + 6)) fX10_30 (hUs_at nd 0 rfl rfl) rfl dX10_holds_66 ?_
    refine w_iload_n dX10_holds_69 rfl ?_
    refine w_aload_n dX10_holds_70 rfl ?_
    refine w_get (v := .ref (m + 6)) fX10_30 (hUs_at nd 0 rfl rfl) rfl dX10_holds_71 ?_
    refine w_iconst (v := 4) dX10_holds_74 (by decide) ?_
    refine w_iload_n dX10_holds_75 rfl ?_
    refine w_iaddE (z := nI (4 + i)) dX10_holds_76 (nI_add (4) (i)) ?_
    refine w_ialoadN (hUs_at nd 5 rfl rfl) (by omega) (by omega) dX10_holds_77 ?_
    refine w_iastoreN (hUs_at nd 5 rfl rfl) (by omega) (by omega) dX10_holds_78 ?_
    refine w_heq (hUs_set nd rfl 5 (cs' := [(oC 10 (mF m th tr wa tp sz sp fa fl tk ta sg nu wd lo wv rl rw ht sd ah cl)), (aL 8 (vp_updL g2 i (g2 (4 + i)))), (aL 8 (vp_updL g3 i (g3 (4 + i)))), (aI 8 (upd g4 i (g4 (4 + i)))), (aI 24 ff), (aI 8 (upd g6 i (g6 (4 + i)))), (aI 8 g7), (aI 8 g8), (aZ 8 g9), (aI 64 fk), (aI 64 fx), (aI 64 fy), (aI 64 fc), (aI 11 fr), (aZ 2 fh)]) rfl rfl) ?_
    refine w_aload_n dX10_holds_79 rfl ?_
    refine w_get (v := .ref (m + 7)) fX10_33 (hUs_at nd 0 rfl rfl) rfl dX10_holds_80 ?_
    refine w_iload_n dX10_holds_83 rfl ?_
    refine w_aload_n dX10_holds_84 rfl ?_
    refine w_get (v := .ref (m + 7)) fX10_33 (hUs_at nd 0 rfl rfl) rfl dX10_holds_85 ?_
    refine w_iconst (v := 4) dX10_holds_88 (by decide) ?_
    refine w_iload_n dX10_holds_89 rfl ?_
    refine w_iaddE (z := nI (4 + i)) dX10_holds_90 (nI_add (4) (i)) ?_
    refine w_ialoadN (hUs_at nd 6 rfl rfl) (by omega) (by omega) dX10_holds_91 ?_
    refine w_iastoreN (hUs_at nd 6 rfl rfl) (by omega) (by omega) dX10_holds_92 ?_
    refine w_heq (hUs_set nd rfl 6 (cs' := [(oC 10 (mF m th tr wa tp sz sp fa fl tk ta sg nu wd lo wv rl rw ht sd ah cl)), (aL 8 (vp_updL g2 i (g2 (4 + i)))), (aL 8 (vp_updL g3 i (g3 (4 + i)))), (aI 8 (upd g4 i (g4 (4 + i)))), (aI 24 ff), (aI 8 (upd g6 i (g6 (4 + i)))), (aI 8 (upd g7 i (g7 (4 + i)))), (aI 8 g8), (aZ 8 g9), (aI 64 fk), (aI 64 fx), (aI 64 fy), (aI 64 fc), (aI 11 fr), (aZ 2 fh)]) rfl rfl) ?_
    refine w_aload_n dX10_holds_93 rfl ?_
    refine w_get (v := .ref (m + 9)) fX10_39 (hUs_at nd 0 rfl rfl) rfl dX10_holds_94 ?_
    refine w_iload_n dX10_holds_97 rfl ?_
    refine w_aload_n dX10_holds_98 rfl ?_
    refine w_get (v := .ref (m + 9)) fX10_39 (hUs_at nd 0 rfl rfl) rfl dX10_holds_99 ?_
    refine w_iconst (v := 4) dX10_holds_102 (by decide) ?_
    refine w_iload_n dX10_holds_103 rfl ?_
    refine w_iaddE (z := nI (4 + i)) dX10_holds_104 (nI_add (4) (i)) ?_
    refine w_zaloadN (hUs_at nd 8 rfl rfl) (by omega) (by omega) dX10_holds_105 ?_
    refine w_zastoreN (hUs_at nd 8 rfl rfl) (by omega) (by omega) dX10_holds_106 ?_
    refine w_heq (hUs_set nd rfl 8 (cs' := [(oC 10 (mF m th tr wa tp sz sp fa fl tk ta sg nu wd lo wv rl rw ht sd ah cl)), (aL 8 (vp_updL g2 i (g2 (4 + i)))), (aL 8 (vp_updL g3 i (g3 (4 + i)))), (aI 8 (upd g4 i (g4 (4 + i)))), (aI 24 ff), (aI 8 (upd g6 i (g6 (4 + i)))), (aI 8 (upd g7 i (g7 (4 + i)))), (aI 8 g8), (aZ 8 (upd g9 i (vp_nar .boolean (g9 (4 + i))))), (aI 64 fk), (aI 64 fx), (aI 64 fy), (aI 64 fc), (aI 11 fr), (aZ 2 fh)]) rfl rfl) ?_
    refine w_aload_n dX10_holds_107 rfl ?_
    refine w_get (v := .ref (m + 8)) fX10_36 (hUs_at nd 0 rfl rfl) rfl dX10_holds_108 ?_
    refine w_iload_n dX10_holds_111 rfl ?_
    refine w_aload_n dX10_holds_112 rfl ?_
    refine w_get (v := .ref (m + 8)) fX10_36 (hUs_at nd 0 rfl rfl) rfl dX10_holds_113 ?_
    refine w_iconst (v := 4) dX10_holds_116 (by decide) ?_
    refine w_iload_n dX10_holds_117 rfl ?_
    refine w_iaddE (z := nI (4 + i)) dX10_holds_118 (nI_add (4) (i)) ?_
    refine w_ialoadN (hUs_at nd 7 rfl rfl) (by omega) (by omega) dX10_holds_119 ?_
    refine w_iastoreN (hUs_at nd 7 rfl rfl) (by omega) (by omega) dX10_holds_120 ?_
    refine w_heq (hUs_set nd rfl 7 (cs' := [(oC 10 (mF m th tr wa tp sz sp fa fl tk ta sg nu wd lo wv rl rw ht sd ah cl)), (aL 8 (vp_updL g2 i (g2 (4 + i)))), (aL 8 (vp_updL g3 i (g3 (4 + i)))), (aI 8 (upd g4 i (g4 (4 + i)))), (aI 24 ff), (aI 8 (upd g6 i (g6 (4 + i)))), (aI 8 (upd g7 i (g7 (4 + i)))), (aI 8 (upd g8 i (g8 (4 + i)))), (aZ 8 (upd g9 i (vp_nar .boolean (g9 (4 + i))))), (aI 64 fk), (aI 64 fx), (aI 64 fy), (aI 64 fc), (aI 11 fr), (aZ 2 fh)]) rfl rfl) ?_
    refine w_iinc (v := nI (i + 1)) (ls2 := [some (.ref m), some (.int (nI (i + 1)))]) dX10_holds_121 rfl (nI_1 _) (by decide) rfl rfl ?_
    refine w_goto (tgt := 18) dX10_holds_124 rfl ?_
    exact ih (i + 1) _ _ _ _ _ _ _ (by omega) (cpH_sL h2 (by omega)) (cpH_sL h3 (by omega)) (cpH_s h4 (by omega)) (cpH_s h6 (by omega)) (cpH_s h7 (by omega)) (cpH_s h9 (by omega)) (cpH_s h8 (by omega))
set_option maxRecDepth 100000 in
set_option maxHeartbeats 4000000 in
theorem l_hd2 {G : wG} {d : Nat} {h : hH} {Q : Option Value → hH → Prop} {m : Nat} {th tr wa tp sz sp fa fl tk ta sg nu : Int32} {wd : Int64} {lo wv rl rw ht sd ah cl : Int32} {ln : Nat → Int64} {wn : Nat → Int64} {fs : Nat → Int32} {ff : Nat → Int32} {fb : Nat → Int32} {fn : Nat → Int32} {fp : Nat → Int32} {f3 : Nat → Int32} {fk : Nat → Int32} {fx : Nat → Int32} {fy : Nat → Int32} {fc : Nat → Int32} {fr : Nat → Int32} {fh : Nat → Int32} (nd : [m, m + 2, m + 3, m + 4, m + 5, m + 6, m + 7, m + 8, m + 9, m + 10, m + 11, m + 12, m + 13, m + 14, m + 20].Nodup) (k : ∀ (g5 : Nat → Int32), cpH 12 12 id ff g5 → WP G RX10 cX10_holds 2 none false d 0 0 0 0 Q 156 [some (.ref m), none] [] (hUs h [m, m + 2, m + 3, m + 4, m + 5, m + 6, m + 7, m + 8, m + 9, m + 10, m + 11, m + 12, m + 13, m + 14, m + 20] [(oC 10 (mF m th tr wa tp sz sp fa fl tk ta sg nu wd lo wv rl rw ht sd ah cl)), (aL 8 ln), (aL 8 wn), (aI 8 fs), (aI 24 g5), (aI 8 fb), (aI 8 fn), (aI 8 fp), (aZ 8 f3), (aI 64 fk), (aI 64 fx), (aI 64 fy), (aI 64 fc), (aI 11 fr), (aZ 2 fh)])) : ∀ (n : Nat) (i : Nat) (g5 : Nat → Int32), i + n = 12 → cpH 12 i id ff g5 → WP G RX10 cX10_holds 2 none false d 0 0 0 0 Q 129 [some (.ref m), some (.int (nI i))] [] (hUs h [m, m + 2, m + 3, m + 4, m + 5, m + 6, m + 7, m + 8, m + 9, m + 10, m + 11, m + 12, m + 13, m + 14, m + 20] [(oC 10 (mF m th tr wa tp sz sp fa fl tk ta sg nu wd lo wv rl rw ht sd ah cl)), (aL 8 ln), (aL 8 wn), (aI 8 fs), (aI 24 g5), (aI 8 fb), (aI 8 fn), (aI 8 fp), (aZ 8 f3), (aI 64 fk), (aI 64 fx), (aI 64 fy), (aI 64 fc), (aI 11 fr), (aZ 2 fh)]) := by
  intro n
  induction n with
  | zero =>
    intro i g5 hi h5
    refine w_iload_n dX10_holds_129 rfl ?_
    refine w_bipush (v := 12) dX10_holds_130 (by decide) ?_
    refine w_icmp_ge_t (tgt := 156) dX10_holds_132 rfl ((nI_leI (a := 12) (b := i) (by omega) (by omega)).mpr (by omega)) ?_
    refine w_less (ls2 := [some (.ref m), none]) ⟨Or.inr rfl, Or.inl rfl, trivial⟩ ?_
    have z : i = 12 := by omega
    subst z
    exact k _ h5
  | succ n ih =>
    intro i g5 hi h5
    refine w_iload_n dX10_holds_129 rfl ?_
    refine w_bipush (v := 12) dX10_holds_130 (by decide) ?_
    refine w_icmp_ge_f (tgt := 156) dX10_holds_132 rfl (fun z => absurd ((nI_leI (a := 12) (b := i) (by omega) (by omega)).mp z) (by omega)) ?_
    refine w_aload_n dX10_holds_135 rfl ?_
    refine w_get (v := .ref (m + 5)) fX10_27 (hUs_at nd 0 rfl rfl) rfl dX10_holds_136 ?_
    refine w_iload_n dX10_holds_139 rfl ?_
    refine w_aload_n dX10_holds_140 rfl ?_
    refine w_get (v := .ref (m + 5)) fX10_27 (hUs_at nd 0 rfl rfl) rfl dX10_holds_141 ?_
    refine w_bipush (v := 12) dX10_holds_144 (by decide) ?_
    refine w_iload_n dX10_holds_146 rfl ?_
    refine w_iaddE (z := nI (12 + i)) dX10_holds_147 (nI_add (12) (i)) ?_
    refine w_ialoadN (hUs_at nd 4 rfl rfl) (by omega) (by omega) dX10_holds_148 ?_
    refine w_iastoreN (hUs_at nd 4 rfl rfl) (by omega) (by omega) dX10_holds_149 ?_
    refine w_heq (hUs_set nd rfl 4 (cs' := [(oC 10 (mF m th tr wa tp sz sp fa fl tk ta sg nu wd lo wv rl rw ht sd ah cl)), (aL 8 ln), (aL 8 wn), (aI 8 fs), (aI 24 (upd g5 i (g5 (12 + i)))), (aI 8 fb), (aI 8 fn), (aI 8 fp), (aZ 8 f3), (aI 64 fk), (aI 64 fx), (aI 64 fy), (aI 64 fc), (aI 11 fr), (aZ 2 fh)]) rfl rfl) ?_
    refine w_iinc (v := nI (i + 1)) (ls2 := [some (.ref m), some (.int (nI (i + 1)))]) dX10_holds_150 rfl (nI_1 _) (by decide) rfl rfl ?_
    refine w_goto (tgt := 129) dX10_holds_153 rfl ?_
    exact ih (i + 1) _ (by omega) (cpH_s h5 (by omega))
set_option maxRecDepth 100000 in
set_option maxHeartbeats 4000000 in
theorem l_hd3 {G : wG} {d : Nat} {h : hH} {Q : Option Value → hH → Prop} {m : Nat} {th tr wa tp sz sp fa fl tk ta sg nu : Int32} {wd : Int64} {lo wv rl rw ht sd ah cl : Int32} {ln : Nat → Int64} {wn : Nat → Int64} {fs : Nat → Int32} {ff : Nat → Int32} {fb : Nat → Int32} {fn : Nat → Int32} {fp : Nat → Int32} {f3 : Nat → Int32} {fk : Nat → Int32} {fx : Nat → Int32} {fy : Nat → Int32} {fc : Nat → Int32} {fr : Nat → Int32} {fh : Nat → Int32} (nd : [m, m + 2, m + 3, m + 4, m + 5, m + 6, m + 7, m + 8, m + 9, m + 10, m + 11, m + 12, m + 13, m + 14, m + 20].Nodup) (k : ∀ (g10 : Nat → Int32) (g11 : Nat → Int32) (g12 : Nat → Int32) (g13 : Nat → Int32), cpH 32 32 id fk g10 → cpH 32 32 id fx g11 → cpH 32 32 id fy g12 → cpH 32 32 id fc g13 → WP G RX10 cX10_holds 2 none false d 0 0 0 0 Q 230 [some (.ref m), none] [] (hUs h [m, m + 2, m + 3, m + 4, m + 5, m + 6, m + 7, m + 8, m + 9, m + 10, m + 11, m + 12, m + 13, m + 14, m + 20] [(oC 10 (mF m th tr wa tp sz sp fa fl tk ta sg nu wd lo wv rl rw ht sd ah cl)), (aL 8 ln), (aL 8 wn), (aI 8 fs), (aI 24 ff), (aI 8 fb), (aI 8 fn), (aI 8 fp), (aZ 8 f3), (aI 64 g10), (aI 64 g11), (aI 64 g12), (aI 64 g13), (aI 11 fr), (aZ 2 fh)])) : ∀ (n : Nat) (i : Nat) (g10 : Nat → Int32) (g11 : Nat → Int32) (g12 : Nat → Int32) (g13 : Nat → Int32), i + n = 32 → cpH 32 i id fk g10 → cpH 32 i id fx g11 → cpH 32 i id fy g12 → cpH 32 i id fc g13 → WP G RX10 cX10_holds 2 none false d 0 0 0 0 Q 158 [some (.ref m), some (.int (nI i))] [] (hUs h [m, m + 2, m + 3, m + 4, m + 5, m + 6, m + 7, m + 8, m + 9, m + 10, m + 11, m + 12, m + 13, m + 14, m + 20] [(oC 10 (mF m th tr wa tp sz sp fa fl tk ta sg nu wd lo wv rl rw ht sd ah cl)), (aL 8 ln), (aL 8 wn), (aI 8 fs), (aI 24 ff), (aI 8 fb), (aI 8 fn), (aI 8 fp), (aZ 8 f3), (aI 64 g10), (aI 64 g11), (aI 64 g12), (aI 64 g13), (aI 11 fr), (aZ 2 fh)]) := by
  intro n
  induction n with
  | zero =>
    intro i g10 g11 g12 g13 hi h10 h11 h12 h13
    refine w_iload_n dX10_holds_158 rfl ?_
    refine w_bipush (v := 32) dX10_holds_159 (by decide) ?_
    refine w_icmp_ge_t (tgt := 230) dX10_holds_161 rfl ((nI_leI (a := 32) (b := i) (by omega) (by omega)).mpr (by omega)) ?_
    refine w_less (ls2 := [some (.ref m), none]) ⟨Or.inr rfl, Or.inl rfl, trivial⟩ ?_
    have z : i = 32 := by omega
    subst z
    exact k _ _ _ _ h10 h11 h12 h13
  | succ n ih =>
    intro i g10 g11 g12 g13 hi h10 h11 h12 h13
    refine w_iload_n dX10_holds_158 rfl ?_
    refine w_bipush (v := 32) dX10_holds_159 (by decide) ?_
    refine w_icmp_ge_f (tgt := 230) dX10_holds_161 rfl (fun z => absurd ((nI_leI (a := 32) (b := i) (by omega) (by omega)).mp z) (by omega)) ?_
    refine w_aload_n dX10_holds_164 rfl ?_
    refine w_get (v := .ref (m + 10)) fX10_43 (hUs_at nd 0 rfl rfl) rfl dX10_holds_165 ?_
    refine w_iload_n dX10_holds_168 rfl ?_
    refine w_aload_n dX10_holds_169 rfl ?_
    refine w_get (v := .ref (m + 10)) fX10_43 (hUs_at nd 0 rfl rfl) rfl dX10_holds_170 ?_
    refine w_bipush (v := 32) dX10_holds_173 (by decide) ?_
    refine w_iload_n dX10_holds_175 rfl ?_
    refine w_iaddE (z := nI (32 + i)) dX10_holds_176 (nI_add (32) (i)) ?_
    refine w_ialoadN (hUs_at nd 9 rfl rfl) (by omega) (by omega) dX10_holds_177 ?_
    refine w_iastoreN (hUs_at nd 9 rfl rfl) (by omega) (by omega) dX10_holds_178 ?_
    refine w_heq (hUs_set nd rfl 9 (cs' := [(oC 10 (mF m th tr wa tp sz sp fa fl tk ta sg nu wd lo wv rl rw ht sd ah cl)), (aL 8 ln), (aL 8 wn), (aI 8 fs), (aI 24 ff), (aI 8 fb), (aI 8 fn), (aI 8 fp), (aZ 8 f3), (aI 64 (upd g10 i (g10 (32 + i)))), (aI 64 g11), (aI 64 g12), (aI 64 g13), (aI 11 fr), (aZ 2 fh)]) rfl rfl) ?_
    refine w_aload_n dX10_holds_179 rfl ?_
    refine w_get (v := .ref (m + 11)) fX10_46 (hUs_at nd 0 rfl rfl) rfl dX10_holds_180 ?_
    refine w_iload_n dX10_holds_183 rfl ?_
    refine w_aload_n dX10_holds_184 rfl ?_
    refine w_get (v := .ref (m + 11)) fX10_46 (hUs_at nd 0 rfl rfl) rfl dX10_holds_185 ?_
    refine w_bipush (v := 32) dX10_holds_188 (by decide) ?_
    refine w_iload_n dX10_holds_190 rfl ?_
    refine w_iaddE (z := nI (32 + i)) dX10_holds_191 (nI_add (32) (i)) ?_
    refine w_ialoadN (hUs_at nd 10 rfl rfl) (by omega) (by omega) dX10_holds_192 ?_
    refine w_iastoreN (hUs_at nd 10 rfl rfl) (by omega) (by omega) dX10_holds_193 ?_
    refine w_heq (hUs_set nd rfl 10 (cs' := [(oC 10 (mF m th tr wa tp sz sp fa fl tk ta sg nu wd lo wv rl rw ht sd ah cl)), (aL 8 ln), (aL 8 wn), (aI 8 fs), (aI 24 ff), (aI 8 fb), (aI 8 fn), (aI 8 fp), (aZ 8 f3), (aI 64 (upd g10 i (g10 (32 + i)))), (aI 64 (upd g11 i (g11 (32 + i)))), (aI 64 g12), (aI 64 g13), (aI 11 fr), (aZ 2 fh)]) rfl rfl) ?_
    refine w_aload_n dX10_holds_194 rfl ?_
    refine w_get (v := .ref (m + 12)) fX10_49 (hUs_at nd 0 rfl rfl) rfl dX10_holds_195 ?_
    refine w_iload_n dX10_holds_198 rfl ?_
    refine w_aload_n dX10_holds_199 rfl ?_
    refine w_get (v := .ref (m + 12)) fX10_49 (hUs_at nd 0 rfl rfl) rfl dX10_holds_200 ?_
    refine w_bipush (v := 32) dX10_holds_203 (by decide) ?_
    refine w_iload_n dX10_holds_205 rfl ?_
    refine w_iaddE (z := nI (32 + i)) dX10_holds_206 (nI_add (32) (i)) ?_
    refine w_ialoadN (hUs_at nd 11 rfl rfl) (by omega) (by omega) dX10_holds_207 ?_
    refine w_iastoreN (hUs_at nd 11 rfl rfl) (by omega) (by omega) dX10_holds_208 ?_
    refine w_heq (hUs_set nd rfl 11 (cs' := [(oC 10 (mF m th tr wa tp sz sp fa fl tk ta sg nu wd lo wv rl rw ht sd ah cl)), (aL 8 ln), (aL 8 wn), (aI 8 fs), (aI 24 ff), (aI 8 fb), (aI 8 fn), (aI 8 fp), (aZ 8 f3), (aI 64 (upd g10 i (g10 (32 + i)))), (aI 64 (upd g11 i (g11 (32 + i)))), (aI 64 (upd g12 i (g12 (32 + i)))), (aI 64 g13), (aI 11 fr), (aZ 2 fh)]) rfl rfl) ?_
    refine w_aload_n dX10_holds_209 rfl ?_
    refine w_get (v := .ref (m + 13)) fX10_52 (hUs_at nd 0 rfl rfl) rfl dX10_holds_210 ?_
    refine w_iload_n dX10_holds_213 rfl ?_
    refine w_aload_n dX10_holds_214 rfl ?_
    refine w_get (v := .ref (m + 13)) fX10_52 (hUs_at nd 0 rfl rfl) rfl dX10_holds_215 ?_
    refine w_bipush (v := 32) dX10_holds_218 (by decide) ?_
    refine w_iload_n dX10_holds_220 rfl ?_
    refine w_iaddE (z := nI (32 + i)) dX10_holds_221 (nI_add (32) (i)) ?_
    refine w_ialoadN (hUs_at nd 12 rfl rfl) (by omega) (by omega) dX10_holds_222 ?_
    refine w_iastoreN (hUs_at nd 12 rfl rfl) (by omega) (by omega) dX10_holds_223 ?_
    refine w_heq (hUs_set nd rfl 12 (cs' := [(oC 10 (mF m th tr wa tp sz sp fa fl tk ta sg nu wd lo wv rl rw ht sd ah cl)), (aL 8 ln), (aL 8 wn), (aI 8 fs), (aI 24 ff), (aI 8 fb), (aI 8 fn), (aI 8 fp), (aZ 8 f3), (aI 64 (upd g10 i (g10 (32 + i)))), (aI 64 (upd g11 i (g11 (32 + i)))), (aI 64 (upd g12 i (g12 (32 + i)))), (aI 64 (upd g13 i (g13 (32 + i)))), (aI 11 fr), (aZ 2 fh)]) rfl rfl) ?_
    refine w_iinc (v := nI (i + 1)) (ls2 := [some (.ref m), some (.int (nI (i + 1)))]) dX10_holds_224 rfl (nI_1 _) (by decide) rfl rfl ?_
    refine w_goto (tgt := 158) dX10_holds_227 rfl ?_
    exact ih (i + 1) _ _ _ _ (by omega) (cpH_s h10 (by omega)) (cpH_s h11 (by omega)) (cpH_s h12 (by omega)) (cpH_s h13 (by omega))
