/-- a run's row: loop, wave, clocks, register, clips, sums -/
def mRn (f : Nat → Int32) (l w c : Int32) (s : cS) : Prop := f 0 = l ∧ f 1 = w ∧ f 2 = c ∧ f 3 = s.2.1 ∧ f 4 = s.2.2 ∧ f 5 = s.1 0 ∧ f 6 = s.1 1 ∧ f 7 = s.1 2
def stA (l w sd : Int32) : Nat → Int32 := fun j => if j = 0 then l else if j = 1 then w else if j = 3 then sd else 0
theorem stA_rn (l w sd : Int32) : mRn (stA l w sd) l w 0 (fun _ => 0, sd, 0) := ⟨rfl, rfl, rfl, rfl, rfl, rfl, rfl, rfl⟩
theorem stA_sz (l w sd : Int32) (j : Nat) : stA l w sd (8 + j) = 0 := by
  unfold stA
  rw [if_neg (by omega), if_neg (by omega), if_neg (by omega)]
set_option maxRecDepth 100000 in
set_option maxHeartbeats 4000000 in
theorem l_starts {G : wG} {d : Nat} {h : hH} {Q : Option Value → hH → Prop} {m : Nat} {th tr wa tp sz sp fa fl tk ta sg nu : Int32} {wd : Int64} {lo wv rl rw ht sd ah cl : Int32} {q : Nat} {x y : Int32} (nd : [m, q].Nodup) (k : WP G RX10 cX10_starts 5 none false d 0 0 0 0 Q 21 [some (.ref m), some (.ref q), some (.int x), some (.int y), none] [] (hUs h [m, q] [(oC 10 (mF m th tr wa tp sz sp fa fl tk ta sg nu wd lo wv rl rw ht sd ah cl)), (aI 11 (fun _ => 0))])) : ∀ (n : Nat) (i : Nat) (f : Nat → Int32), i + n = 11 → (∀ j, j < i → f j = 0) → WP G RX10 cX10_starts 5 none false d 0 0 0 0 Q 3 [some (.ref m), some (.ref q), some (.int x), some (.int y), some (.int (nI i))] [] (hUs h [m, q] [(oC 10 (mF m th tr wa tp sz sp fa fl tk ta sg nu wd lo wv rl rw ht sd ah cl)), (aI 11 f)]) := by
  intro n
  induction n with
  | zero =>
    intro i f hi hf
    refine w_wext nd rfl 1 (fun _ => 0) rfl rfl rfl (fun j hj => hf j (by omega)) ?_
    refine w_iload dX10_starts_3 rfl ?_
    refine w_bipush (v := 11) dX10_starts_5 (by decide) ?_
    refine w_icmp_ge_t (tgt := 21) dX10_starts_7 rfl ((nI_leI (a := 11) (b := i) (by omega) (by omega)).mpr (by omega)) ?_
    refine w_less (ls2 := [some (.ref m), some (.ref q), some (.int x), some (.int y), none]) ⟨Or.inr rfl, Or.inr rfl, Or.inr rfl, Or.inr rfl, Or.inl rfl, trivial⟩ ?_
    exact k
  | succ n ih =>
    intro i f hi hf
    refine w_iload dX10_starts_3 rfl ?_
    refine w_bipush (v := 11) dX10_starts_5 (by decide) ?_
    refine w_icmp_ge_f (tgt := 21) dX10_starts_7 rfl (fun z => absurd ((nI_leI (a := 11) (b := i) (by omega) (by omega)).mp z) (by omega)) ?_
    refine w_aload_n dX10_starts_10 rfl ?_
    refine w_iload dX10_starts_11 rfl ?_
    refine w_iconst (v := 0) dX10_starts_13 (by decide) ?_
    refine w_iastoreN (hUs_at nd 1 rfl rfl) (by omega) (by omega) dX10_starts_14 ?_
    refine w_heq (hUs_set nd rfl 1 (cs' := [(oC 10 (mF m th tr wa tp sz sp fa fl tk ta sg nu wd lo wv rl rw ht sd ah cl)), (aI 11 (upd f i 0))]) rfl rfl) ?_
    refine w_iinc (v := nI (i + 1)) (ls2 := [some (.ref m), some (.ref q), some (.int x), some (.int y), some (.int (nI (i + 1)))]) dX10_starts_15 rfl (nI_1 _) (by decide) rfl rfl ?_
    refine w_goto (tgt := 3) dX10_starts_18 rfl ?_
    exact ih (i + 1) _ (by omega) (fun j hj => by
      by_cases e : j = i
      · subst e; exact pk_us
      · rw [pk_un e]; exact hf j (by omega))
set_option maxRecDepth 100000 in
set_option maxHeartbeats 4000000 in
theorem m_starts {G : wG} {d : Nat} {h : hH} {Q : Option Value → hH → Prop} {m : Nat} {th tr wa tp sz sp fa fl tk ta sg nu : Int32} {wd : Int64} {lo wv rl rw ht sd ah cl : Int32} {q : Nat} {x y : Int32} {f : Nat → Int32} (hw : hHas h [m, q] [(oC 10 (mF m th tr wa tp sz sp fa fl tk ta sg nu wd lo wv rl rw ht sd ah cl)), (aI 11 f)]) (nd : [m, q].Nodup)  (k : Q none (hUs h [m, q] [(oC 10 (mF m th tr wa tp sz sp fa fl tk ta sg nu wd lo wv rl rw ht sd ah cl)), aI 11 (stA x y sd)])) : Cl G yX10_starts d 0 0 [.ref m, .ref q, .int x, .int y] h Q := by
  refine Cl.of (ini := false) kX10_starts (plainFor_of_name (by decide)) (by decide) (Nat.le_of_ble_eq_true rfl) rfl rfl (fun z => by cases z) ?_
  refine w_heq (hUs_id hw).symm ?_
  refine w_iconst (v := (nI 0)) dX10_starts_0 (by decide) ?_
  refine w_istore (ls2 := [some (.ref m), some (.ref q), some (.int x), some (.int y), some (.int (nI 0))]) dX10_starts_1 (by decide) rfl rfl ?_
  refine l_starts nd ?_ 11 0 _ rfl (fun j hj => absurd hj (Nat.not_lt_zero j))
  refine w_aload_n dX10_starts_21 rfl ?_
  refine w_iconst (v := (nI 0)) dX10_starts_22 (by decide) ?_
  refine w_iload_n dX10_starts_23 rfl ?_
  refine w_iastoreN (hUs_at nd 1 rfl rfl) (by omega) (by omega) dX10_starts_24 ?_
  refine w_heq (hUs_set nd rfl 1 (cs' := [(oC 10 (mF m th tr wa tp sz sp fa fl tk ta sg nu wd lo wv rl rw ht sd ah cl)), (aI 11 (upd (fun _ => 0) 0 x))]) rfl rfl) ?_
  refine w_aload_n dX10_starts_25 rfl ?_
  refine w_iconst (v := (nI 1)) dX10_starts_26 (by decide) ?_
  refine w_iload_n dX10_starts_27 rfl ?_
  refine w_iastoreN (hUs_at nd 1 rfl rfl) (by omega) (by omega) dX10_starts_28 ?_
  refine w_heq (hUs_set nd rfl 1 (cs' := [(oC 10 (mF m th tr wa tp sz sp fa fl tk ta sg nu wd lo wv rl rw ht sd ah cl)), (aI 11 (upd (upd (fun _ => 0) 0 x) 1 y))]) rfl rfl) ?_
  refine w_aload_n dX10_starts_29 rfl ?_
  refine w_iconst (v := (nI 3)) dX10_starts_30 (by decide) ?_
  refine w_aload_n dX10_starts_31 rfl ?_
  refine w_get (v := .int sd) fX10_80 (hUs_at nd 0 rfl rfl) rfl dX10_starts_32 ?_
  refine w_iastoreN (hUs_at nd 1 rfl rfl) (by omega) (by omega) dX10_starts_35 ?_
  refine w_heq (hUs_set nd rfl 1 (cs' := [(oC 10 (mF m th tr wa tp sz sp fa fl tk ta sg nu wd lo wv rl rw ht sd ah cl)), (aI 11 (upd (upd (upd (fun _ => 0) 0 x) 1 y) 3 sd))]) rfl rfl) ?_
  refine w_wext nd rfl 1 (stA x y sd) rfl rfl rfl (fun j hj => ?_) ?_
  · simp only [upd, stA]
    by_cases e3 : j = 3
    · subst e3; rfl
    · rw [if_neg e3]
      by_cases e1 : j = 1
      · subst e1; rfl
      · rw [if_neg e1]
        by_cases e0 : j = 0
        · subst e0; rfl
        · rw [if_neg e0, if_neg e0, if_neg e1, if_neg e3]
  · exact w_return rfl dX10_starts_36 (Nat.le_of_ble_eq_true rfl) (Nat.le_of_ble_eq_true rfl) k
def ckN (f : Nat → Int32) (i : Nat) (c y z : Int32) : Nat → Int32 := fun j => if j = 8 + i then z else if j = 5 + i then y else if j = 4 then c else f j
theorem ck_cs {f : Nat → Int32} {i : Nat} {c y z : Int32} (hi : i < 3) : upd (upd (upd f 4 c) (5 + i) y) (8 + i) z = ckN f i c y z := rfl
theorem ck_cn {f : Nat → Int32} {i : Nat} {c y : Int32} (hi : i < 3) : upd (upd f 4 c) (5 + i) y = ckN f i c y (f (8 + i)) := by
  funext j
  unfold upd ckN
  by_cases e : j = 8 + i
  · subst e; rw [if_neg (by omega), if_neg (by omega), if_pos rfl]
  · rw [if_neg e]
theorem ck_ns {f : Nat → Int32} {i : Nat} {y z : Int32} (hi : i < 3) : upd (upd f (5 + i) y) (8 + i) z = ckN f i (f 4) y z := by
  funext j
  unfold upd ckN
  by_cases e : j = 4
  · subst e; rw [if_neg (by omega), if_neg (by omega), if_neg (by omega), if_neg (by omega), if_pos rfl]
  · rw [if_neg e]
theorem ck_nn {f : Nat → Int32} {i : Nat} {y : Int32} (hi : i < 3) : upd f (5 + i) y = ckN f i (f 4) y (f (8 + i)) := by
  funext j
  unfold upd ckN
  by_cases e : j = 8 + i
  · subst e; rw [if_neg (by omega), if_pos rfl]
  · rw [if_neg e]
    by_cases e2 : j = 4
    · subst e2; rw [if_neg (by omega), if_neg (by omega), if_pos rfl]
    · rw [if_neg e2]
/-- a row within a clock: the first i stages are done -/
def mSg (f0 f : Nat → Int32) (l w c rg : Int32) (i : Nat) (p : (Nat → Int32) × Int32 × Int32) : Prop := (f 0 = l ∧ f 1 = w ∧ f 2 = c ∧ f 3 = rg ∧ f 4 = p.2.1) ∧ (∀ j, j < 3 → f (5 + j) = p.1 j) ∧ (∀ j, j < i → f (8 + j) = mxI (f0 (8 + j)) (abI (p.1 j))) ∧ (∀ j, i ≤ j → j < 3 → f (8 + j) = f0 (8 + j))
theorem mSg_s {f0 f : Nat → Int32} {l w c rg : Int32} {i : Nat} {p : (Nat → Int32) × Int32 × Int32} {cc y : Int32} (h : mSg f0 f l w c rg i p) (hi : i < 3) : mSg f0 (ckN f i cc y (mxI (f (8 + i)) (abI y))) l w c rg (i + 1) (upd p.1 i y, cc, y) := by
  obtain ⟨⟨h0, h1, h2, h3, h4⟩, h5, h6, h7⟩ := h
  have ne : ∀ j, j < 4 → ckN f i cc y (mxI (f (8 + i)) (abI y)) j = f j := fun j hj => by
    unfold ckN; rw [if_neg (by omega), if_neg (by omega), if_neg (by omega)]
  refine ⟨⟨(ne 0 (by omega)).trans h0, (ne 1 (by omega)).trans h1, (ne 2 (by omega)).trans h2, (ne 3 (by omega)).trans h3, ?_⟩, ?_, ?_, ?_⟩
  · unfold ckN; rw [if_neg (by omega), if_neg (by omega), if_pos rfl]
  · intro j hj
    show ckN f i cc y (mxI (f (8 + i)) (abI y)) (5 + j) = upd p.1 i y j
    unfold ckN upd
    rw [if_neg (by omega)]
    by_cases e : j = i
    · subst e; rw [if_pos rfl, if_pos rfl]
    · rw [if_neg (by omega), if_neg (by omega), if_neg e]; exact h5 j hj
  · intro j hj
    show ckN f i cc y (mxI (f (8 + i)) (abI y)) (8 + j) = mxI (f0 (8 + j)) (abI (upd p.1 i y j))
    unfold ckN upd
    by_cases e : j = i
    · subst e; rw [if_pos rfl, if_pos rfl, h7 j (by omega) hi]
    · rw [if_neg (by omega), if_neg (by omega), if_neg (by omega), if_neg e]; exact h6 j (by omega)
  · intro j h1 hj
    show ckN f i cc y (mxI (f (8 + i)) (abI y)) (8 + j) = _
    unfold ckN
    rw [if_neg (by omega), if_neg (by omega), if_neg (by omega)]; exact h7 j (by omega) hj
theorem stg_s {fac : Nat → Int32} {bd out v c0 : Int32} {s0 su : Nat → Int32} {cl a X : Int32} {i : Nat} (hp : stgF fac bd out v s0 c0 i = (su, cl, a)) (hX : X = su i + ((fac i * (a - 1000 * out)) >>> ((4 : Int32) &&& 31))) : stgF fac bd out v s0 c0 (i + 1) = (upd su i (hldF bd X), hldC bd X cl, hldF bd X) := by
  simp only [stgF, hp, ← hX]
set_option maxRecDepth 100000 in
set_option maxHeartbeats 4000000 in
theorem l_mclock {G : wG} {d : Nat} {h : hH} {Q : Option Value → hH → Prop} {m : Nat} {th tr wa tp sz sp fa fl tk ta sg nu : Int32} {wd : Int64} {lo wv rl rw ht sd ah cl : Int32} {fs : Nat → Int32} {ff : Nat → Int32} {fb : Nat → Int32} {f3 : Nat → Int32} {q l n : Nat} {cn v : Int32} {fac : Nat → Int32} {w c rg out : Int32} {f0 : Nat → Int32} {s : cS} (nd : [m, m + 4, m + 5, m + 6, m + 9, q].Nodup) (hl : l < 8) (hs : fs l = nI n) (h1 : 1 ≤ n) (h3 : n ≤ 3) (hfac : ∀ j, j < n → ff (3 * l + j) = fac j) (hb : 0 < fb l) (k : (∀ f9 : Nat → Int32, mSg f0 f9 (nI l) w c rg n (stgF fac (fb l) out v s.1 s.2.2 n) → Q (some (.int out)) (hUs h [m, m + 4, m + 5, m + 6, m + 9, q] [(oC 10 (mF m th tr wa tp sz sp fa fl tk ta sg nu wd lo wv rl rw ht sd ah cl)), (aI 8 fs), (aI 24 ff), (aI 8 fb), (aZ 8 f3), (aI 11 (upd f9 2 (c + 1)))]))) : ∀ (n9 : Nat) (i : Nat) (a cp9 : Int32) (su f : Nat → Int32), i + n9 = n → stgF fac (fb l) out v s.1 s.2.2 i = (su, cp9, a) → mSg f0 f (nI l) w c rg i (su, cp9, a) → WP G RX10 cX10_clock 11 (some .int) false (d + 1) 0 0 0 0 Q 146 [some (.ref m), some (.ref q), some (.int v), some (.int cn), some (.int (nI l)), none, none, some (.int out), some (.int a), some (.int (nI i)), none] [] (hUs h [m, m + 4, m + 5, m + 6, m + 9, q] [(oC 10 (mF m th tr wa tp sz sp fa fl tk ta sg nu wd lo wv rl rw ht sd ah cl)), (aI 8 fs), (aI 24 ff), (aI 8 fb), (aZ 8 f3), (aI 11 f)]) := by
  intro n9
  induction n9 with
  | zero =>
    intro i a cp9 su f hi hp hg
    refine w_iload dX10_clock_146 rfl ?_
    refine w_aload_n dX10_clock_148 rfl ?_
    refine w_get (v := .ref (m + 4)) fX10_24 (hUs_at nd 0 rfl rfl) rfl dX10_clock_149 ?_
    refine w_iload dX10_clock_152 rfl ?_
    refine w_ialoadN (hUs_at nd 1 rfl rfl) (by omega) (by omega) dX10_clock_154 ?_
    refine w_top (z := nI n) hs ?_
    refine w_icmp_ge_t (tgt := 296) dX10_clock_155 rfl ((nI_leI (a := n) (b := i) (by omega) (by omega)).mpr (by omega)) ?_
    refine w_aload_n dX10_clock_296 rfl ?_
    refine w_iconst (v := (nI 2)) dX10_clock_297 (by decide) ?_
    refine w_dup2_11 dX10_clock_298 rfl rfl ?_
    refine w_ialoadN (hUs_at nd 5 rfl rfl) (by omega) (by omega) dX10_clock_299 ?_
    refine w_top (z := c) hg.1.2.2.1 ?_
    refine w_iconst (v := 1) dX10_clock_300 (by decide) ?_
    refine w_iadd dX10_clock_301 ?_
    refine w_iastoreN (hUs_at nd 5 rfl rfl) (by omega) (by omega) dX10_clock_302 ?_
    refine w_heq (hUs_set nd rfl 5 (cs' := [(oC 10 (mF m th tr wa tp sz sp fa fl tk ta sg nu wd lo wv rl rw ht sd ah cl)), (aI 8 fs), (aI 24 ff), (aI 8 fb), (aZ 8 f3), (aI 11 (upd f 2 (c + 1)))]) rfl rfl) ?_
    refine w_iload dX10_clock_303 rfl ?_
    refine w_ireturn rfl dX10_clock_305 (Nat.le_of_ble_eq_true rfl) (Nat.le_of_ble_eq_true rfl) ?_
    have z : i = n := by omega
    subst z
    rw [hp] at k
    exact k f hg
  | succ n9 ih =>
    intro i a cp9 su f hi hp hg
    refine w_iload dX10_clock_146 rfl ?_
    refine w_aload_n dX10_clock_148 rfl ?_
    refine w_get (v := .ref (m + 4)) fX10_24 (hUs_at nd 0 rfl rfl) rfl dX10_clock_149 ?_
    refine w_iload dX10_clock_152 rfl ?_
    refine w_ialoadN (hUs_at nd 1 rfl rfl) (by omega) (by omega) dX10_clock_154 ?_
    refine w_top (z := nI n) hs ?_
    refine w_icmp_ge_f (tgt := 296) dX10_clock_155 rfl (fun z => absurd ((nI_leI (a := n) (b := i) (by omega) (by omega)).mp z) (by omega)) ?_
    refine w_aload_n dX10_clock_158 rfl ?_
    refine w_iconst (v := (nI 5)) dX10_clock_159 (by decide) ?_
    refine w_iload dX10_clock_160 rfl ?_
    refine w_iaddE (z := nI (5 + i)) dX10_clock_162 (nI_add (5) (i)) ?_
    refine w_ialoadN (hUs_at nd 5 rfl rfl) (by omega) (by omega) dX10_clock_163 ?_
    refine w_top (z := su i) (hg.2.1 i (by omega)) ?_
    refine w_aload_n dX10_clock_164 rfl ?_
    refine w_get (v := .ref (m + 5)) fX10_27 (hUs_at nd 0 rfl rfl) rfl dX10_clock_165 ?_
    refine w_iconst (v := (nI 3)) dX10_clock_168 (by decide) ?_
    refine w_iload dX10_clock_169 rfl ?_
    refine w_imulE (z := nI (3 * l)) dX10_clock_171 (pk_mul (3) (l)) ?_
    refine w_iload dX10_clock_172 rfl ?_
    refine w_iaddE (z := nI ((3 * l) + i)) dX10_clock_174 (nI_add ((3 * l)) (i)) ?_
    refine w_ialoadN (hUs_at nd 2 rfl rfl) (by omega) (by omega) dX10_clock_175 ?_
    refine w_top (z := fac i) (hfac i (by omega)) ?_
    refine w_iload dX10_clock_176 rfl ?_
    refine w_sipush (v := 1000) dX10_clock_178 (by decide) ?_
    refine w_iload dX10_clock_181 rfl ?_
    refine w_imul dX10_clock_183 ?_
    refine w_isub dX10_clock_184 ?_
    refine w_imul dX10_clock_185 ?_
    refine w_bipush (v := 16) dX10_clock_186 (by decide) ?_
    refine w_callS (d' := d) (mc' := 0) (ms' := 0) (As := [.int ((fac i) * (a - (1000 * out))), .int 16]) (st := [.int (su i)]) lX10_254 vX10_down rfl (Nat.le_of_ble_eq_true rfl) dX10_clock_188 (Nat.le_of_ble_eq_true rfl) (Nat.le_of_ble_eq_true rfl) (Nat.le_refl _) (c_down (by decide) ?_)
    refine w_top (z := (fac i * (a - 1000 * out)) >>> ((4 : Int32) &&& 31)) ((fdv_dn (by decide)).trans (sh4_dn _)) ?_
    refine w_iadd dX10_clock_191 ?_
    obtain ⟨X, hX⟩ : ∃ X, X = su i + ((fac i * (a - 1000 * out)) >>> ((4 : Int32) &&& 31)) := ⟨_, rfl⟩
    refine w_top (z := X) hX.symm ?_
    refine w_istore (ls2 := [some (.ref m), some (.ref q), some (.int v), some (.int cn), some (.int (nI l)), none, none, some (.int out), some (.int a), some (.int (nI i)), some (.int X)]) dX10_clock_192 (by decide) rfl rfl ?_
    refine w_iload dX10_clock_194 rfl ?_
    refine w_aload_n dX10_clock_196 rfl ?_
    refine w_get (v := .ref (m + 6)) fX10_30 (hUs_at nd 0 rfl rfl) rfl dX10_clock_197 ?_
    refine w_iload dX10_clock_200 rfl ?_
    refine w_ialoadN (hUs_at nd 3 rfl rfl) (by omega) (by omega) dX10_clock_202 ?_
    refine w_icmp_gt (tgt := 219) dX10_clock_203 rfl (fun b203 => ?_) (fun b203 => ?_)
    · refine w_aload_n dX10_clock_219 rfl ?_
      refine w_iconst (v := (nI 4)) dX10_clock_220 (by decide) ?_
      refine w_dup2_11 dX10_clock_221 rfl rfl ?_
      refine w_ialoadN (hUs_at nd 5 rfl rfl) (by omega) (by omega) dX10_clock_222 ?_
      refine w_top (z := cp9) hg.1.2.2.2.2 ?_
      refine w_iconst (v := 1) dX10_clock_223 (by decide) ?_
      refine w_iadd dX10_clock_224 ?_
      refine w_iastoreN (hUs_at nd 5 rfl rfl) (by omega) (by omega) dX10_clock_225 ?_
      refine w_heq (hUs_set nd rfl 5 (cs' := [(oC 10 (mF m th tr wa tp sz sp fa fl tk ta sg nu wd lo wv rl rw ht sd ah cl)), (aI 8 fs), (aI 24 ff), (aI 8 fb), (aZ 8 f3), (aI 11 (upd f 4 (cp9 + 1)))]) rfl rfl) ?_
      refine w_iload dX10_clock_226 rfl ?_
      refine w_if_le_f (tgt := 241) dX10_clock_228 rfl (Int32.not_le.mpr (hld_hi hb b203).2.1) ?_
      refine w_aload_n dX10_clock_231 rfl ?_
      refine w_get (v := .ref (m + 6)) fX10_30 (hUs_at nd 0 rfl rfl) rfl dX10_clock_232 ?_
      refine w_iload dX10_clock_235 rfl ?_
      refine w_ialoadN (hUs_at nd 3 rfl rfl) (by omega) (by omega) dX10_clock_237 ?_
      refine w_goto (tgt := 249) dX10_clock_238 rfl ?_
      refine w_istore (ls2 := [some (.ref m), some (.ref q), some (.int v), some (.int cn), some (.int (nI l)), none, none, some (.int out), some (.int a), some (.int (nI i)), some (.int (fb l))]) dX10_clock_249 (by decide) rfl rfl ?_
      refine w_aload_n dX10_clock_251 rfl ?_
      refine w_iconst (v := (nI 5)) dX10_clock_252 (by decide) ?_
      refine w_iload dX10_clock_253 rfl ?_
      refine w_iaddE (z := nI (5 + i)) dX10_clock_255 (nI_add (5) (i)) ?_
      refine w_iload dX10_clock_256 rfl ?_
      refine w_iastoreN (hUs_at nd 5 rfl rfl) (by omega) (by omega) dX10_clock_258 ?_
      refine w_heq (hUs_set nd rfl 5 (cs' := [(oC 10 (mF m th tr wa tp sz sp fa fl tk ta sg nu wd lo wv rl rw ht sd ah cl)), (aI 8 fs), (aI 24 ff), (aI 8 fb), (aZ 8 f3), (aI 11 (upd (upd f 4 (cp9 + 1)) (5 + i) (fb l)))]) rfl rfl) ?_
      refine w_iload dX10_clock_259 rfl ?_
      refine w_callS (d' := d) (mc' := 0) (ms' := 0) (As := [.int (fb l)]) (st := []) lX10_273 vX10_without rfl (Nat.le_of_ble_eq_true rfl) dX10_clock_261 (Nat.le_of_ble_eq_true rfl) (Nat.le_of_ble_eq_true rfl) (Nat.le_refl _) (c_without ?_)
      refine w_aload_n dX10_clock_264 rfl ?_
      refine w_bipush (v := (nI 8)) dX10_clock_265 (by decide) ?_
      refine w_iload dX10_clock_267 rfl ?_
      refine w_iaddE (z := nI (8 + i)) dX10_clock_269 (nI_add (8) (i)) ?_
      refine w_ialoadN (hUs_at nd 5 rfl rfl) (by omega) (by omega) dX10_clock_270 ?_
      refine w_top (z := f (8 + i)) (by simp only [upd]; rw [if_neg (by omega)]; try rw [if_neg (by omega)]) ?_
      refine w_icmp_le (tgt := 286) dX10_clock_271 rfl (fun b271 => ?_) (fun b271 => ?_)
      · refine w_iload dX10_clock_286 rfl ?_
        refine w_istore (ls2 := [some (.ref m), some (.ref q), some (.int v), some (.int cn), some (.int (nI l)), none, none, some (.int out), some (.int (fb l)), some (.int (nI i)), some (.int (fb l))]) dX10_clock_288 (by decide) rfl rfl ?_
        refine w_iinc (v := nI (i + 1)) (ls2 := [some (.ref m), some (.ref q), some (.int v), some (.int cn), some (.int (nI l)), none, none, some (.int out), some (.int (fb l)), some (.int (nI (i + 1))), some (.int (fb l))]) dX10_clock_290 rfl (nI_1 _) (by decide) rfl rfl ?_
        refine w_goto (tgt := 146) dX10_clock_293 rfl ?_
        have hH := hld_hi hb b203
        have ec : hldC (fb l) X cp9 = cp9 + 1 := by
          rw [hldC, hH.1, if_neg hH.2.2]
        have ey := hH.1
        have ez : mxI (f (8 + i)) (abI (fb l)) = f (8 + i) := if_neg (Int32.not_lt.mpr b271)
        rw [ck_cn (show i < 3 by omega)]
        refine w_less (ls2 := [some (.ref m), some (.ref q), some (.int v), some (.int cn), some (.int (nI l)), none, none, some (.int out), some (.int (fb l)), some (.int (nI (i + 1))), none]) ⟨Or.inr rfl, Or.inr rfl, Or.inr rfl, Or.inr rfl, Or.inr rfl, Or.inl rfl, Or.inl rfl, Or.inr rfl, Or.inr rfl, Or.inr rfl, Or.inl rfl, trivial⟩ ?_
        exact ih (i + 1) (fb l) (cp9 + 1) (upd su i (fb l)) (ckN f i (cp9 + 1) (fb l) (f (8 + i))) (by omega) (by rw [stg_s hp hX, ec, ey]) (by
          have hz := mSg_s (cc := (cp9 + 1)) (y := (fb l)) hg (show i < 3 by omega)
          rw [ez] at hz
          exact hz)
      · refine w_aload_n dX10_clock_274 rfl ?_
        refine w_bipush (v := (nI 8)) dX10_clock_275 (by decide) ?_
        refine w_iload dX10_clock_277 rfl ?_
        refine w_iaddE (z := nI (8 + i)) dX10_clock_279 (nI_add (8) (i)) ?_
        refine w_iload dX10_clock_280 rfl ?_
        refine w_callS (d' := d) (mc' := 0) (ms' := 0) (As := [.int (fb l)]) (st := [.int (nI (8 + i)), .ref q]) lX10_273 vX10_without rfl (Nat.le_of_ble_eq_true rfl) dX10_clock_282 (Nat.le_of_ble_eq_true rfl) (Nat.le_of_ble_eq_true rfl) (Nat.le_refl _) (c_without ?_)
        refine w_iastoreN (hUs_at nd 5 rfl rfl) (by omega) (by omega) dX10_clock_285 ?_
        refine w_heq (hUs_set nd rfl 5 (cs' := [(oC 10 (mF m th tr wa tp sz sp fa fl tk ta sg nu wd lo wv rl rw ht sd ah cl)), (aI 8 fs), (aI 24 ff), (aI 8 fb), (aZ 8 f3), (aI 11 (upd (upd (upd f 4 (cp9 + 1)) (5 + i) (fb l)) (8 + i) (abI (fb l))))]) rfl rfl) ?_
        refine w_iload dX10_clock_286 rfl ?_
        refine w_istore (ls2 := [some (.ref m), some (.ref q), some (.int v), some (.int cn), some (.int (nI l)), none, none, some (.int out), some (.int (fb l)), some (.int (nI i)), some (.int (fb l))]) dX10_clock_288 (by decide) rfl rfl ?_
        refine w_iinc (v := nI (i + 1)) (ls2 := [some (.ref m), some (.ref q), some (.int v), some (.int cn), some (.int (nI l)), none, none, some (.int out), some (.int (fb l)), some (.int (nI (i + 1))), some (.int (fb l))]) dX10_clock_290 rfl (nI_1 _) (by decide) rfl rfl ?_
        refine w_goto (tgt := 146) dX10_clock_293 rfl ?_
        have hH := hld_hi hb b203
        have ec : hldC (fb l) X cp9 = cp9 + 1 := by
          rw [hldC, hH.1, if_neg hH.2.2]
        have ey := hH.1
        have ez : mxI (f (8 + i)) (abI (fb l)) = abI (fb l) := if_pos (Int32.not_le.mp b271)
        rw [ck_cs (show i < 3 by omega)]
        refine w_less (ls2 := [some (.ref m), some (.ref q), some (.int v), some (.int cn), some (.int (nI l)), none, none, some (.int out), some (.int (fb l)), some (.int (nI (i + 1))), none]) ⟨Or.inr rfl, Or.inr rfl, Or.inr rfl, Or.inr rfl, Or.inr rfl, Or.inl rfl, Or.inl rfl, Or.inr rfl, Or.inr rfl, Or.inr rfl, Or.inl rfl, trivial⟩ ?_
        exact ih (i + 1) (fb l) (cp9 + 1) (upd su i (fb l)) (ckN f i (cp9 + 1) (fb l) (abI (fb l))) (by omega) (by rw [stg_s hp hX, ec, ey]) (by
          have hz := mSg_s (cc := (cp9 + 1)) (y := (fb l)) hg (show i < 3 by omega)
          rw [ez] at hz
          exact hz)
    · refine w_iload dX10_clock_206 rfl ?_
      refine w_aload_n dX10_clock_208 rfl ?_
      refine w_get (v := .ref (m + 6)) fX10_30 (hUs_at nd 0 rfl rfl) rfl dX10_clock_209 ?_
      refine w_iload dX10_clock_212 rfl ?_
      refine w_ialoadN (hUs_at nd 3 rfl rfl) (by omega) (by omega) dX10_clock_214 ?_
      refine w_ineg dX10_clock_215 ?_
      refine w_icmp_ge (tgt := 251) dX10_clock_216 rfl (fun b216 => ?_) (fun b216 => ?_)
      · refine w_aload_n dX10_clock_251 rfl ?_
        refine w_iconst (v := (nI 5)) dX10_clock_252 (by decide) ?_
        refine w_iload dX10_clock_253 rfl ?_
        refine w_iaddE (z := nI (5 + i)) dX10_clock_255 (nI_add (5) (i)) ?_
        refine w_iload dX10_clock_256 rfl ?_
        refine w_iastoreN (hUs_at nd 5 rfl rfl) (by omega) (by omega) dX10_clock_258 ?_
        refine w_heq (hUs_set nd rfl 5 (cs' := [(oC 10 (mF m th tr wa tp sz sp fa fl tk ta sg nu wd lo wv rl rw ht sd ah cl)), (aI 8 fs), (aI 24 ff), (aI 8 fb), (aZ 8 f3), (aI 11 (upd f (5 + i) X))]) rfl rfl) ?_
        refine w_iload dX10_clock_259 rfl ?_
        refine w_callS (d' := d) (mc' := 0) (ms' := 0) (As := [.int X]) (st := []) lX10_273 vX10_without rfl (Nat.le_of_ble_eq_true rfl) dX10_clock_261 (Nat.le_of_ble_eq_true rfl) (Nat.le_of_ble_eq_true rfl) (Nat.le_refl _) (c_without ?_)
        refine w_aload_n dX10_clock_264 rfl ?_
        refine w_bipush (v := (nI 8)) dX10_clock_265 (by decide) ?_
        refine w_iload dX10_clock_267 rfl ?_
        refine w_iaddE (z := nI (8 + i)) dX10_clock_269 (nI_add (8) (i)) ?_
        refine w_ialoadN (hUs_at nd 5 rfl rfl) (by omega) (by omega) dX10_clock_270 ?_
        refine w_top (z := f (8 + i)) (by simp only [upd]; rw [if_neg (by omega)]; try rw [if_neg (by omega)]) ?_
        refine w_icmp_le (tgt := 286) dX10_clock_271 rfl (fun b271 => ?_) (fun b271 => ?_)
        · refine w_iload dX10_clock_286 rfl ?_
          refine w_istore (ls2 := [some (.ref m), some (.ref q), some (.int v), some (.int cn), some (.int (nI l)), none, none, some (.int out), some (.int X), some (.int (nI i)), some (.int X)]) dX10_clock_288 (by decide) rfl rfl ?_
          refine w_iinc (v := nI (i + 1)) (ls2 := [some (.ref m), some (.ref q), some (.int v), some (.int cn), some (.int (nI l)), none, none, some (.int out), some (.int X), some (.int (nI (i + 1))), some (.int X)]) dX10_clock_290 rfl (nI_1 _) (by decide) rfl rfl ?_
          refine w_goto (tgt := 146) dX10_clock_293 rfl ?_
          have ey := hld_in hb b203 (Int32.not_lt.mpr b216)
          have ec : hldC (fb l) X cp9 = cp9 := by
            rw [hldC, ey, if_pos rfl]
          have ez : mxI (f (8 + i)) (abI X) = f (8 + i) := if_neg (Int32.not_lt.mpr b271)
          rw [ck_nn (show i < 3 by omega), hg.1.2.2.2.2]
          refine w_less (ls2 := [some (.ref m), some (.ref q), some (.int v), some (.int cn), some (.int (nI l)), none, none, some (.int out), some (.int X), some (.int (nI (i + 1))), none]) ⟨Or.inr rfl, Or.inr rfl, Or.inr rfl, Or.inr rfl, Or.inr rfl, Or.inl rfl, Or.inl rfl, Or.inr rfl, Or.inr rfl, Or.inr rfl, Or.inl rfl, trivial⟩ ?_
          exact ih (i + 1) X cp9 (upd su i X) (ckN f i cp9 X (f (8 + i))) (by omega) (by rw [stg_s hp hX, ec, ey]) (by
            have hz := mSg_s (cc := cp9) (y := X) hg (show i < 3 by omega)
            rw [ez] at hz
            exact hz)
        · refine w_aload_n dX10_clock_274 rfl ?_
          refine w_bipush (v := (nI 8)) dX10_clock_275 (by decide) ?_
          refine w_iload dX10_clock_277 rfl ?_
          refine w_iaddE (z := nI (8 + i)) dX10_clock_279 (nI_add (8) (i)) ?_
          refine w_iload dX10_clock_280 rfl ?_
          refine w_callS (d' := d) (mc' := 0) (ms' := 0) (As := [.int X]) (st := [.int (nI (8 + i)), .ref q]) lX10_273 vX10_without rfl (Nat.le_of_ble_eq_true rfl) dX10_clock_282 (Nat.le_of_ble_eq_true rfl) (Nat.le_of_ble_eq_true rfl) (Nat.le_refl _) (c_without ?_)
          refine w_iastoreN (hUs_at nd 5 rfl rfl) (by omega) (by omega) dX10_clock_285 ?_
          refine w_heq (hUs_set nd rfl 5 (cs' := [(oC 10 (mF m th tr wa tp sz sp fa fl tk ta sg nu wd lo wv rl rw ht sd ah cl)), (aI 8 fs), (aI 24 ff), (aI 8 fb), (aZ 8 f3), (aI 11 (upd (upd f (5 + i) X) (8 + i) (abI X)))]) rfl rfl) ?_
          refine w_iload dX10_clock_286 rfl ?_
          refine w_istore (ls2 := [some (.ref m), some (.ref q), some (.int v), some (.int cn), some (.int (nI l)), none, none, some (.int out), some (.int X), some (.int (nI i)), some (.int X)]) dX10_clock_288 (by decide) rfl rfl ?_
          refine w_iinc (v := nI (i + 1)) (ls2 := [some (.ref m), some (.ref q), some (.int v), some (.int cn), some (.int (nI l)), none, none, some (.int out), some (.int X), some (.int (nI (i + 1))), some (.int X)]) dX10_clock_290 rfl (nI_1 _) (by decide) rfl rfl ?_
          refine w_goto (tgt := 146) dX10_clock_293 rfl ?_
          have ey := hld_in hb b203 (Int32.not_lt.mpr b216)
          have ec : hldC (fb l) X cp9 = cp9 := by
            rw [hldC, ey, if_pos rfl]
          have ez : mxI (f (8 + i)) (abI X) = abI X := if_pos (Int32.not_le.mp b271)
          rw [ck_ns (show i < 3 by omega), hg.1.2.2.2.2]
          refine w_less (ls2 := [some (.ref m), some (.ref q), some (.int v), some (.int cn), some (.int (nI l)), none, none, some (.int out), some (.int X), some (.int (nI (i + 1))), none]) ⟨Or.inr rfl, Or.inr rfl, Or.inr rfl, Or.inr rfl, Or.inr rfl, Or.inl rfl, Or.inl rfl, Or.inr rfl, Or.inr rfl, Or.inr rfl, Or.inl rfl, trivial⟩ ?_
          exact ih (i + 1) X cp9 (upd su i X) (ckN f i cp9 X (abI X)) (by omega) (by rw [stg_s hp hX, ec, ey]) (by
            have hz := mSg_s (cc := cp9) (y := X) hg (show i < 3 by omega)
            rw [ez] at hz
            exact hz)
      · refine w_aload_n dX10_clock_219 rfl ?_
        refine w_iconst (v := (nI 4)) dX10_clock_220 (by decide) ?_
        refine w_dup2_11 dX10_clock_221 rfl rfl ?_
        refine w_ialoadN (hUs_at nd 5 rfl rfl) (by omega) (by omega) dX10_clock_222 ?_
        refine w_top (z := cp9) hg.1.2.2.2.2 ?_
        refine w_iconst (v := 1) dX10_clock_223 (by decide) ?_
        refine w_iadd dX10_clock_224 ?_
        refine w_iastoreN (hUs_at nd 5 rfl rfl) (by omega) (by omega) dX10_clock_225 ?_
        refine w_heq (hUs_set nd rfl 5 (cs' := [(oC 10 (mF m th tr wa tp sz sp fa fl tk ta sg nu wd lo wv rl rw ht sd ah cl)), (aI 8 fs), (aI 24 ff), (aI 8 fb), (aZ 8 f3), (aI 11 (upd f 4 (cp9 + 1)))]) rfl rfl) ?_
        refine w_iload dX10_clock_226 rfl ?_
        refine w_if_le_t (tgt := 241) dX10_clock_228 rfl (Int32.not_lt.mp (hld_lo hb (Int32.not_le.mp b216)).2.1) ?_
        refine w_aload_n dX10_clock_241 rfl ?_
        refine w_get (v := .ref (m + 6)) fX10_30 (hUs_at nd 0 rfl rfl) rfl dX10_clock_242 ?_
        refine w_iload dX10_clock_245 rfl ?_
        refine w_ialoadN (hUs_at nd 3 rfl rfl) (by omega) (by omega) dX10_clock_247 ?_
        refine w_ineg dX10_clock_248 ?_
        refine w_istore (ls2 := [some (.ref m), some (.ref q), some (.int v), some (.int cn), some (.int (nI l)), none, none, some (.int out), some (.int a), some (.int (nI i)), some (.int (-(fb l)))]) dX10_clock_249 (by decide) rfl rfl ?_
        refine w_aload_n dX10_clock_251 rfl ?_
        refine w_iconst (v := (nI 5)) dX10_clock_252 (by decide) ?_
        refine w_iload dX10_clock_253 rfl ?_
        refine w_iaddE (z := nI (5 + i)) dX10_clock_255 (nI_add (5) (i)) ?_
        refine w_iload dX10_clock_256 rfl ?_
        refine w_iastoreN (hUs_at nd 5 rfl rfl) (by omega) (by omega) dX10_clock_258 ?_
        refine w_heq (hUs_set nd rfl 5 (cs' := [(oC 10 (mF m th tr wa tp sz sp fa fl tk ta sg nu wd lo wv rl rw ht sd ah cl)), (aI 8 fs), (aI 24 ff), (aI 8 fb), (aZ 8 f3), (aI 11 (upd (upd f 4 (cp9 + 1)) (5 + i) (-(fb l))))]) rfl rfl) ?_
        refine w_iload dX10_clock_259 rfl ?_
        refine w_callS (d' := d) (mc' := 0) (ms' := 0) (As := [.int (-(fb l))]) (st := []) lX10_273 vX10_without rfl (Nat.le_of_ble_eq_true rfl) dX10_clock_261 (Nat.le_of_ble_eq_true rfl) (Nat.le_of_ble_eq_true rfl) (Nat.le_refl _) (c_without ?_)
        refine w_aload_n dX10_clock_264 rfl ?_
        refine w_bipush (v := (nI 8)) dX10_clock_265 (by decide) ?_
        refine w_iload dX10_clock_267 rfl ?_
        refine w_iaddE (z := nI (8 + i)) dX10_clock_269 (nI_add (8) (i)) ?_
        refine w_ialoadN (hUs_at nd 5 rfl rfl) (by omega) (by omega) dX10_clock_270 ?_
        refine w_top (z := f (8 + i)) (by simp only [upd]; rw [if_neg (by omega)]; try rw [if_neg (by omega)]) ?_
        refine w_icmp_le (tgt := 286) dX10_clock_271 rfl (fun b271 => ?_) (fun b271 => ?_)
        · refine w_iload dX10_clock_286 rfl ?_
          refine w_istore (ls2 := [some (.ref m), some (.ref q), some (.int v), some (.int cn), some (.int (nI l)), none, none, some (.int out), some (.int (-(fb l))), some (.int (nI i)), some (.int (-(fb l)))]) dX10_clock_288 (by decide) rfl rfl ?_
          refine w_iinc (v := nI (i + 1)) (ls2 := [some (.ref m), some (.ref q), some (.int v), some (.int cn), some (.int (nI l)), none, none, some (.int out), some (.int (-(fb l))), some (.int (nI (i + 1))), some (.int (-(fb l)))]) dX10_clock_290 rfl (nI_1 _) (by decide) rfl rfl ?_
          refine w_goto (tgt := 146) dX10_clock_293 rfl ?_
          have hH := hld_lo hb (Int32.not_le.mp b216)
          have ec : hldC (fb l) X cp9 = cp9 + 1 := by
            rw [hldC, hH.1, if_neg hH.2.2]
          have ey := hH.1
          have ez : mxI (f (8 + i)) (abI (-fb l)) = f (8 + i) := if_neg (Int32.not_lt.mpr b271)
          rw [ck_cn (show i < 3 by omega)]
          refine w_less (ls2 := [some (.ref m), some (.ref q), some (.int v), some (.int cn), some (.int (nI l)), none, none, some (.int out), some (.int (-(fb l))), some (.int (nI (i + 1))), none]) ⟨Or.inr rfl, Or.inr rfl, Or.inr rfl, Or.inr rfl, Or.inr rfl, Or.inl rfl, Or.inl rfl, Or.inr rfl, Or.inr rfl, Or.inr rfl, Or.inl rfl, trivial⟩ ?_
          exact ih (i + 1) (-fb l) (cp9 + 1) (upd su i (-fb l)) (ckN f i (cp9 + 1) (-fb l) (f (8 + i))) (by omega) (by rw [stg_s hp hX, ec, ey]) (by
            have hz := mSg_s (cc := (cp9 + 1)) (y := (-fb l)) hg (show i < 3 by omega)
            rw [ez] at hz
            exact hz)
        · refine w_aload_n dX10_clock_274 rfl ?_
          refine w_bipush (v := (nI 8)) dX10_clock_275 (by decide) ?_
          refine w_iload dX10_clock_277 rfl ?_
          refine w_iaddE (z := nI (8 + i)) dX10_clock_279 (nI_add (8) (i)) ?_
          refine w_iload dX10_clock_280 rfl ?_
          refine w_callS (d' := d) (mc' := 0) (ms' := 0) (As := [.int (-(fb l))]) (st := [.int (nI (8 + i)), .ref q]) lX10_273 vX10_without rfl (Nat.le_of_ble_eq_true rfl) dX10_clock_282 (Nat.le_of_ble_eq_true rfl) (Nat.le_of_ble_eq_true rfl) (Nat.le_refl _) (c_without ?_)
          refine w_iastoreN (hUs_at nd 5 rfl rfl) (by omega) (by omega) dX10_clock_285 ?_
          refine w_heq (hUs_set nd rfl 5 (cs' := [(oC 10 (mF m th tr wa tp sz sp fa fl tk ta sg nu wd lo wv rl rw ht sd ah cl)), (aI 8 fs), (aI 24 ff), (aI 8 fb), (aZ 8 f3), (aI 11 (upd (upd (upd f 4 (cp9 + 1)) (5 + i) (-(fb l))) (8 + i) (abI (-(fb l)))))]) rfl rfl) ?_
          refine w_iload dX10_clock_286 rfl ?_
          refine w_istore (ls2 := [some (.ref m), some (.ref q), some (.int v), some (.int cn), some (.int (nI l)), none, none, some (.int out), some (.int (-(fb l))), some (.int (nI i)), some (.int (-(fb l)))]) dX10_clock_288 (by decide) rfl rfl ?_
          refine w_iinc (v := nI (i + 1)) (ls2 := [some (.ref m), some (.ref q), some (.int v), some (.int cn), some (.int (nI l)), none, none, some (.int out), some (.int (-(fb l))), some (.int (nI (i + 1))), some (.int (-(fb l)))]) dX10_clock_290 rfl (nI_1 _) (by decide) rfl rfl ?_
          refine w_goto (tgt := 146) dX10_clock_293 rfl ?_
          have hH := hld_lo hb (Int32.not_le.mp b216)
          have ec : hldC (fb l) X cp9 = cp9 + 1 := by
            rw [hldC, hH.1, if_neg hH.2.2]
          have ey := hH.1
          have ez : mxI (f (8 + i)) (abI (-fb l)) = abI (-fb l) := if_pos (Int32.not_le.mp b271)
          rw [ck_cs (show i < 3 by omega)]
          refine w_less (ls2 := [some (.ref m), some (.ref q), some (.int v), some (.int cn), some (.int (nI l)), none, none, some (.int out), some (.int (-(fb l))), some (.int (nI (i + 1))), none]) ⟨Or.inr rfl, Or.inr rfl, Or.inr rfl, Or.inr rfl, Or.inr rfl, Or.inl rfl, Or.inl rfl, Or.inr rfl, Or.inr rfl, Or.inr rfl, Or.inl rfl, trivial⟩ ?_
          exact ih (i + 1) (-fb l) (cp9 + 1) (upd su i (-fb l)) (ckN f i (cp9 + 1) (-fb l) (abI (-fb l))) (by omega) (by rw [stg_s hp hX, ec, ey]) (by
            have hz := mSg_s (cc := (cp9 + 1)) (y := (-fb l)) hg (show i < 3 by omega)
            rw [ez] at hz
            exact hz)
set_option maxRecDepth 100000 in
set_option maxHeartbeats 4000000 in
theorem m_clock3 {G : wG} {d : Nat} {h : hH} {Q : Option Value → hH → Prop} {m : Nat} {th tr wa tp sz sp fa fl tk ta sg nu : Int32} {wd : Int64} {lo wv rl rw ht sd ah cl : Int32} {fs : Nat → Int32} {ff : Nat → Int32} {fb : Nat → Int32} {f3 : Nat → Int32} {q l n : Nat} {cn v : Int32} {fac : Nat → Int32} {w c out r9 : Int32} {f : Nat → Int32} {s : cS} (nd : [m, m + 4, m + 5, m + 6, m + 9, q].Nodup) (hl : l < 8) (hs : fs l = nI n) (h1 : 1 ≤ n) (h3 : n ≤ 3) (hfac : ∀ j, j < n → ff (3 * l + j) = fac j) (hb : 0 < fb l) (hf : mRn f (nI l) w c (s.1, r9, s.2.2)) (k : ∀ f9 : Nat → Int32, mSg f f9 (nI l) w c r9 n (stgF fac (fb l) out v s.1 s.2.2 n) → Q (some (.int out)) (hUs h [m, m + 4, m + 5, m + 6, m + 9, q] [(oC 10 (mF m th tr wa tp sz sp fa fl tk ta sg nu wd lo wv rl rw ht sd ah cl)), (aI 8 fs), (aI 24 ff), (aI 8 fb), (aZ 8 f3), (aI 11 (upd f9 2 (c + 1)))])) : WP G RX10 cX10_clock 11 (some .int) false (d + 1) 0 0 0 0 Q 138 [some (.ref m), some (.ref q), some (.int v), some (.int cn), some (.int (nI l)), none, none, none, none, none, none] [.int out] (hUs h [m, m + 4, m + 5, m + 6, m + 9, q] [(oC 10 (mF m th tr wa tp sz sp fa fl tk ta sg nu wd lo wv rl rw ht sd ah cl)), (aI 8 fs), (aI 24 ff), (aI 8 fb), (aZ 8 f3), (aI 11 f)]) := by
  refine w_istore (ls2 := [some (.ref m), some (.ref q), some (.int v), some (.int cn), some (.int (nI l)), none, none, some (.int out), none, none, none]) dX10_clock_138 (by decide) rfl rfl ?_
  refine w_iload_n dX10_clock_140 rfl ?_
  refine w_istore (ls2 := [some (.ref m), some (.ref q), some (.int v), some (.int cn), some (.int (nI l)), none, none, some (.int out), some (.int v), none, none]) dX10_clock_141 (by decide) rfl rfl ?_
  refine w_iconst (v := (nI 0)) dX10_clock_143 (by decide) ?_
  refine w_istore (ls2 := [some (.ref m), some (.ref q), some (.int v), some (.int cn), some (.int (nI l)), none, none, some (.int out), some (.int v), some (.int (nI 0)), none]) dX10_clock_144 (by decide) rfl rfl ?_
  exact l_mclock (f0 := f) nd hl hs h1 h3 hfac hb k n 0 v s.2.2 s.1 f (by omega) rfl ⟨⟨hf.1, hf.2.1, hf.2.2.1, hf.2.2.2.1, hf.2.2.2.2.1⟩, fun j hj => by
    rcases (show j = 0 ∨ j = 1 ∨ j = 2 by omega) with rfl | rfl | rfl
    · exact hf.2.2.2.2.2.1
    · exact hf.2.2.2.2.2.2.1
    · exact hf.2.2.2.2.2.2.2, fun j hj => absurd hj (Nat.not_lt_zero j), fun j _ _ => rfl⟩
set_option maxRecDepth 100000 in
set_option maxHeartbeats 4000000 in
theorem m_clock2 {G : wG} {d : Nat} {h : hH} {Q : Option Value → hH → Prop} {m : Nat} {th tr wa tp sz sp fa fl tk ta sg nu : Int32} {wd : Int64} {lo wv rl rw ht sd ah cl : Int32} {fs : Nat → Int32} {ff : Nat → Int32} {fb : Nat → Int32} {f3 : Nat → Int32} {q l n : Nat} {cn v : Int32} {fac : Nat → Int32} {w c z r9 : Int32} {f : Nat → Int32} {s : cS} (nd : [m, m + 4, m + 5, m + 6, m + 9, q].Nodup) (hl : l < 8) (hs : fs l = nI n) (h1 : 1 ≤ n) (h3 : n ≤ 3) (hfac : ∀ j, j < n → ff (3 * l + j) = fac j) (hb : 0 < fb l) (hf : mRn f (nI l) w c (s.1, r9, s.2.2)) (k : ∀ f9 : Nat → Int32, mSg f f9 (nI l) w c r9 n (stgF fac (fb l) (valF (f3 l) (lstF n s.1 + z)) v s.1 s.2.2 n) → Q (some (.int (valF (f3 l) (lstF n s.1 + z)))) (hUs h [m, m + 4, m + 5, m + 6, m + 9, q] [(oC 10 (mF m th tr wa tp sz sp fa fl tk ta sg nu wd lo wv rl rw ht sd ah cl)), (aI 8 fs), (aI 24 ff), (aI 8 fb), (aZ 8 f3), (aI 11 (upd f9 2 (c + 1)))])) : WP G RX10 cX10_clock 11 (some .int) false (d + 1) 0 0 0 0 Q 72 [some (.ref m), some (.ref q), some (.int v), some (.int cn), some (.int (nI l)), some (.int z), none, none, none, none, none] [] (hUs h [m, m + 4, m + 5, m + 6, m + 9, q] [(oC 10 (mF m th tr wa tp sz sp fa fl tk ta sg nu wd lo wv rl rw ht sd ah cl)), (aI 8 fs), (aI 24 ff), (aI 8 fb), (aZ 8 f3), (aI 11 f)]) := by
  refine w_aload_n dX10_clock_72 rfl ?_
  refine w_iconst (v := (nI 5)) dX10_clock_73 (by decide) ?_
  refine w_aload_n dX10_clock_74 rfl ?_
  refine w_get (v := .ref (m + 4)) fX10_24 (hUs_at nd 0 rfl rfl) rfl dX10_clock_75 ?_
  refine w_iload dX10_clock_78 rfl ?_
  refine w_ialoadN (hUs_at nd 1 rfl rfl) (by omega) (by omega) dX10_clock_80 ?_
  refine w_top (z := nI n) hs ?_
  refine w_iaddE (z := nI (5 + n)) dX10_clock_81 (nI_add (5) (n)) ?_
  refine w_iconst (v := 1) dX10_clock_82 (by decide) ?_
  refine w_isubE (z := nI ((5 + n) - 1)) dX10_clock_83 (pk_sub (a := (5 + n)) (b := 1) (by omega)) ?_
  refine w_ialoadN (hUs_at nd 5 rfl rfl) (by omega) (by omega) dX10_clock_84 ?_
  refine w_top (z := lstF n s.1) (by
    rw [lstF, if_neg (by omega)]
    rcases (show n = 1 ∨ n = 2 ∨ n = 3 by omega) with rfl | rfl | rfl
    · exact hf.2.2.2.2.2.1
    · exact hf.2.2.2.2.2.2.1
    · exact hf.2.2.2.2.2.2.2) ?_
  refine w_iload dX10_clock_85 rfl ?_
  refine w_iadd dX10_clock_87 ?_
  refine w_istore (ls2 := [some (.ref m), some (.ref q), some (.int v), some (.int cn), some (.int (nI l)), some (.int z), some (.int ((lstF n s.1) + z)), none, none, none, none]) dX10_clock_88 (by decide) rfl rfl ?_
  refine w_aload_n dX10_clock_90 rfl ?_
  refine w_get (v := .ref (m + 9)) fX10_39 (hUs_at nd 0 rfl rfl) rfl dX10_clock_91 ?_
  refine w_iload dX10_clock_94 rfl ?_
  refine w_zaloadN (hUs_at nd 4 rfl rfl) (by omega) (by omega) dX10_clock_96 ?_
  refine w_if_eq (tgt := 128) dX10_clock_97 rfl (fun b97 => ?_) (fun b97 => ?_)
  · refine w_iload dX10_clock_128 rfl ?_
    refine w_if_lt (tgt := 137) dX10_clock_130 rfl (fun b130 => ?_) (fun b130 => ?_)
    · refine w_iconst (v := (-1)) dX10_clock_137 (by decide) ?_
      have eo : valF (f3 l) (lstF n s.1 + z) = (-1) := by
        rw [valF, if_pos b97, if_pos b130]
      refine w_less (ls2 := [some (.ref m), some (.ref q), some (.int v), some (.int cn), some (.int (nI l)), none, none, none, none, none, none]) ⟨Or.inr rfl, Or.inr rfl, Or.inr rfl, Or.inr rfl, Or.inr rfl, Or.inl rfl, Or.inl rfl, Or.inl rfl, Or.inl rfl, Or.inl rfl, Or.inl rfl, trivial⟩ ?_
      refine w_top (z := valF (f3 l) (lstF n s.1 + z)) eo.symm ?_
      exact m_clock3 nd hl hs h1 h3 hfac hb hf k
    · refine w_iconst (v := 1) dX10_clock_133 (by decide) ?_
      refine w_goto (tgt := 138) dX10_clock_134 rfl ?_
      have eo : valF (f3 l) (lstF n s.1 + z) = 1 := by
        rw [valF, if_pos b97, if_neg b130]
      refine w_less (ls2 := [some (.ref m), some (.ref q), some (.int v), some (.int cn), some (.int (nI l)), none, none, none, none, none, none]) ⟨Or.inr rfl, Or.inr rfl, Or.inr rfl, Or.inr rfl, Or.inr rfl, Or.inl rfl, Or.inl rfl, Or.inl rfl, Or.inl rfl, Or.inl rfl, Or.inl rfl, trivial⟩ ?_
      refine w_top (z := valF (f3 l) (lstF n s.1 + z)) eo.symm ?_
      exact m_clock3 nd hl hs h1 h3 hfac hb hf k
  · refine w_iload dX10_clock_100 rfl ?_
    refine w_sipush (v := 500) dX10_clock_102 (by decide) ?_
    refine w_icmp_lt (tgt := 112) dX10_clock_105 rfl (fun b105 => ?_) (fun b105 => ?_)
    · refine w_iload dX10_clock_112 rfl ?_
      refine w_sipush (v := (-500)) dX10_clock_114 (by decide) ?_
      refine w_icmp_gt (tgt := 124) dX10_clock_117 rfl (fun b117 => ?_) (fun b117 => ?_)
      · refine w_iconst (v := 0) dX10_clock_124 (by decide) ?_
        refine w_goto (tgt := 138) dX10_clock_125 rfl ?_
        have eo : valF (f3 l) (lstF n s.1 + z) = 0 := by
          rw [valF, if_neg b97, if_pos b105, if_pos b117]
        refine w_less (ls2 := [some (.ref m), some (.ref q), some (.int v), some (.int cn), some (.int (nI l)), none, none, none, none, none, none]) ⟨Or.inr rfl, Or.inr rfl, Or.inr rfl, Or.inr rfl, Or.inr rfl, Or.inl rfl, Or.inl rfl, Or.inl rfl, Or.inl rfl, Or.inl rfl, Or.inl rfl, trivial⟩ ?_
        refine w_top (z := valF (f3 l) (lstF n s.1 + z)) eo.symm ?_
        exact m_clock3 nd hl hs h1 h3 hfac hb hf k
      · refine w_iconst (v := (-1)) dX10_clock_120 (by decide) ?_
        refine w_goto (tgt := 138) dX10_clock_121 rfl ?_
        have eo : valF (f3 l) (lstF n s.1 + z) = (-1) := by
          rw [valF, if_neg b97, if_pos b105, if_neg b117]
        refine w_less (ls2 := [some (.ref m), some (.ref q), some (.int v), some (.int cn), some (.int (nI l)), none, none, none, none, none, none]) ⟨Or.inr rfl, Or.inr rfl, Or.inr rfl, Or.inr rfl, Or.inr rfl, Or.inl rfl, Or.inl rfl, Or.inl rfl, Or.inl rfl, Or.inl rfl, Or.inl rfl, trivial⟩ ?_
        refine w_top (z := valF (f3 l) (lstF n s.1 + z)) eo.symm ?_
        exact m_clock3 nd hl hs h1 h3 hfac hb hf k
    · refine w_iconst (v := 1) dX10_clock_108 (by decide) ?_
      refine w_goto (tgt := 138) dX10_clock_109 rfl ?_
      have eo : valF (f3 l) (lstF n s.1 + z) = 1 := by
        rw [valF, if_neg b97, if_neg b105]
      refine w_less (ls2 := [some (.ref m), some (.ref q), some (.int v), some (.int cn), some (.int (nI l)), none, none, none, none, none, none]) ⟨Or.inr rfl, Or.inr rfl, Or.inr rfl, Or.inr rfl, Or.inr rfl, Or.inl rfl, Or.inl rfl, Or.inl rfl, Or.inl rfl, Or.inl rfl, Or.inl rfl, trivial⟩ ?_
      refine w_top (z := valF (f3 l) (lstF n s.1 + z)) eo.symm ?_
      exact m_clock3 nd hl hs h1 h3 hfac hb hf k
set_option maxRecDepth 100000 in
set_option maxHeartbeats 4000000 in
theorem m_clock {G : wG} {d : Nat} {h : hH} {Q : Option Value → hH → Prop} {m : Nat} {th tr wa tp sz sp fa fl tk ta sg nu : Int32} {wd : Int64} {lo wv rl rw ht sd ah cl : Int32} {fs : Nat → Int32} {ff : Nat → Int32} {fb : Nat → Int32} {f3 : Nat → Int32} {q l n : Nat} {cn v : Int32} {fac : Nat → Int32} {w c : Int32} {f : Nat → Int32} {s : cS} (hw : hHas h [m, m + 4, m + 5, m + 6, m + 9, q] [(oC 10 (mF m th tr wa tp sz sp fa fl tk ta sg nu wd lo wv rl rw ht sd ah cl)), (aI 8 fs), (aI 24 ff), (aI 8 fb), (aZ 8 f3), (aI 11 f)]) (nd : [m, m + 4, m + 5, m + 6, m + 9, q].Nodup) (hl : l < 8) (hs : fs l = nI n) (h1 : 1 ≤ n) (h3 : n ≤ 3) (hfac : ∀ j, j < n → ff (3 * l + j) = fac j) (hb : 0 < fb l) (hf : mRn f (nI l) w c s) (hcn : ¬ cn < 0) (hrg : cn = 0 ∨ 0 ≤ regF s.2.1) (k : ∀ f9 : Nat → Int32, mRn f9 (nI l) w (c + 1) (cStp (n, fac, fb l, f3 l) cn v s) → (∀ j, j < n → f9 (8 + j) = mxI (f (8 + j)) (abI ((cStp (n, fac, fb l, f3 l) cn v s).1 j))) → Q (some (.int (cOut (n, fac, fb l, f3 l) cn s))) (hUs h [m, m + 4, m + 5, m + 6, m + 9, q] [(oC 10 (mF m th tr wa tp sz sp fa fl tk ta sg nu wd lo wv rl rw ht sd ah cl)), (aI 8 fs), (aI 24 ff), (aI 8 fb), (aZ 8 f3), (aI 11 f9)])) : Cl G yX10_clock (d + 1) 0 0 [.ref m, .ref q, .int v, .int cn] h Q := by
  refine Cl.of (ini := false) kX10_clock (plainFor_of_name (by decide)) (by decide) (Nat.le_of_ble_eq_true rfl) rfl rfl (fun z => by cases z) ?_
  refine w_heq (hUs_id hw).symm ?_
  refine w_aload_n dX10_clock_0 rfl ?_
  refine w_iconst (v := (nI 0)) dX10_clock_1 (by decide) ?_
  refine w_ialoadN (hUs_at nd 5 rfl rfl) (by omega) (by omega) dX10_clock_2 ?_
  refine w_top (z := nI l) hf.1 ?_
  refine w_istore (ls2 := [some (.ref m), some (.ref q), some (.int v), some (.int cn), some (.int (nI l)), none, none, none, none, none, none]) dX10_clock_3 (by decide) rfl rfl ?_
  refine w_iconst (v := 0) dX10_clock_5 (by decide) ?_
  refine w_istore (ls2 := [some (.ref m), some (.ref q), some (.int v), some (.int cn), some (.int (nI l)), some (.int 0), none, none, none, none, none]) dX10_clock_6 (by decide) rfl rfl ?_
  refine w_iload_n dX10_clock_8 rfl ?_
  refine w_if_le (tgt := 72) dX10_clock_9 rfl (fun b9 => ?_) (fun b9 => ?_)
  · have hc0 : cn = 0 := Int32.le_antisymm b9 (Int32.not_lt.mp hcn)
    have es : stiF cn s.2.1 = 0 := if_pos hc0
    have er : stiR cn s.2.1 = s.2.1 := if_pos hc0
    refine w_less (ls2 := [some (.ref m), some (.ref q), some (.int v), some (.int cn), some (.int (nI l)), some (.int 0), none, none, none, none, none]) ⟨Or.inr rfl, Or.inr rfl, Or.inr rfl, Or.inr rfl, Or.inr rfl, Or.inr rfl, Or.inl rfl, Or.inl rfl, Or.inl rfl, Or.inl rfl, Or.inl rfl, trivial⟩ ?_
    rw [← es]
    refine m_clock2 (r9 := stiR cn s.2.1) (s := s) nd hl hs h1 h3 hfac hb ⟨hf.1, hf.2.1, hf.2.2.1, hf.2.2.2.1.trans er.symm, hf.2.2.2.2.1, hf.2.2.2.2.2⟩ (fun f9 hg => ?_)
    have hst : stgF fac (fb l) (valF (f3 l) (lstF n s.1 + stiF cn s.2.1)) v s.1 s.2.2 n = ((cStp (n, fac, fb l, f3 l) cn v s).1, (cStp (n, fac, fb l, f3 l) cn v s).2.2, (stgF fac (fb l) (valF (f3 l) (lstF n s.1 + stiF cn s.2.1)) v s.1 s.2.2 n).2.2) := rfl
    rw [hst] at hg
    exact k _ ⟨hg.1.1, hg.1.2.1, rfl, hg.1.2.2.2.1, hg.1.2.2.2.2, hg.2.1 0 (by omega), hg.2.1 1 (by omega), hg.2.1 2 (by omega)⟩ (fun j hj => (pk_un (show ¬ 8 + j = 2 by omega)).trans ((hg.2.2.1 j hj)))
  · refine w_aload_n dX10_clock_12 rfl ?_
    refine w_iconst (v := (nI 3)) dX10_clock_13 (by decide) ?_
    refine w_ialoadN (hUs_at nd 5 rfl rfl) (by omega) (by omega) dX10_clock_14 ?_
    refine w_top (z := s.2.1) hf.2.2.2.1 ?_
    refine w_istore (ls2 := [some (.ref m), some (.ref q), some (.int v), some (.int cn), some (.int (nI l)), some (.int 0), some (.int s.2.1), none, none, none, none]) dX10_clock_15 (by decide) rfl rfl ?_
    refine w_iload dX10_clock_17 rfl ?_
    refine w_iload dX10_clock_19 rfl ?_
    refine w_iconst (v := 2) dX10_clock_21 (by decide) ?_
    refine w_ishr dX10_clock_22 ?_
    refine w_ixor dX10_clock_23 ?_
    refine w_iload dX10_clock_24 rfl ?_
    refine w_iconst (v := 3) dX10_clock_26 (by decide) ?_
    refine w_ishr dX10_clock_27 ?_
    refine w_ixor dX10_clock_28 ?_
    refine w_iload dX10_clock_29 rfl ?_
    refine w_iconst (v := 5) dX10_clock_31 (by decide) ?_
    refine w_ishr dX10_clock_32 ?_
    refine w_ixor dX10_clock_33 ?_
    refine w_iconst (v := 1) dX10_clock_34 (by decide) ?_
    refine w_iand dX10_clock_35 ?_
    refine w_istore (ls2 := [some (.ref m), some (.ref q), some (.int v), some (.int cn), some (.int (nI l)), some (.int 0), some (.int s.2.1), some (.int ((((s.2.1 ^^^ (s.2.1 >>> ((2 : Int32) &&& 31))) ^^^ (s.2.1 >>> ((3 : Int32) &&& 31))) ^^^ (s.2.1 >>> ((5 : Int32) &&& 31))) &&& 1)), none, none, none]) dX10_clock_36 (by decide) rfl rfl ?_
    refine w_iload dX10_clock_38 rfl ?_
    refine w_iconst (v := 2) dX10_clock_40 (by decide) ?_
    refine w_idiv dX10_clock_41 (by decide) ?_
    refine w_ldcw nX10_272 dX10_clock_42 ?_
    refine w_iload dX10_clock_45 rfl ?_
    refine w_imul dX10_clock_47 ?_
    refine w_iadd dX10_clock_48 ?_
    refine w_top (z := regF s.2.1) rfl ?_
    refine w_istore (ls2 := [some (.ref m), some (.ref q), some (.int v), some (.int cn), some (.int (nI l)), some (.int 0), some (.int (regF s.2.1)), some (.int ((((s.2.1 ^^^ (s.2.1 >>> ((2 : Int32) &&& 31))) ^^^ (s.2.1 >>> ((3 : Int32) &&& 31))) ^^^ (s.2.1 >>> ((5 : Int32) &&& 31))) &&& 1)), none, none, none]) dX10_clock_49 (by decide) rfl rfl ?_
    refine w_aload_n dX10_clock_51 rfl ?_
    refine w_iconst (v := (nI 3)) dX10_clock_52 (by decide) ?_
    refine w_iload dX10_clock_53 rfl ?_
    refine w_iastoreN (hUs_at nd 5 rfl rfl) (by omega) (by omega) dX10_clock_55 ?_
    refine w_heq (hUs_set nd rfl 5 (cs' := [(oC 10 (mF m th tr wa tp sz sp fa fl tk ta sg nu wd lo wv rl rw ht sd ah cl)), (aI 8 fs), (aI 24 ff), (aI 8 fb), (aZ 8 f3), (aI 11 (upd f 3 (regF s.2.1)))]) rfl rfl) ?_
    refine w_iload dX10_clock_56 rfl ?_
    refine w_iconst (v := 2) dX10_clock_58 (by decide) ?_
    refine w_irem dX10_clock_59 (by decide) ?_
    refine w_top (z := regF s.2.1 &&& 1) (odd_and (hrg.resolve_left (fun z => b9 (by rw [z]; decide)))) ?_
    refine w_iconst (v := 1) dX10_clock_60 (by decide) ?_
    refine w_icmp_ne (tgt := 68) dX10_clock_61 rfl (fun b61 => ?_) (fun b61 => ?_)
    · refine w_iload_n dX10_clock_68 rfl ?_
      refine w_ineg dX10_clock_69 ?_
      refine w_istore (ls2 := [some (.ref m), some (.ref q), some (.int v), some (.int cn), some (.int (nI l)), some (.int (-cn)), some (.int (regF s.2.1)), some (.int ((((s.2.1 ^^^ (s.2.1 >>> ((2 : Int32) &&& 31))) ^^^ (s.2.1 >>> ((3 : Int32) &&& 31))) ^^^ (s.2.1 >>> ((5 : Int32) &&& 31))) &&& 1)), none, none, none]) dX10_clock_70 (by decide) rfl rfl ?_
      have hc0 : ¬ cn = 0 := fun z => b9 (by rw [z]; decide)
      have er : stiR cn s.2.1 = regF s.2.1 := if_neg hc0
      have es : stiF cn s.2.1 = -cn := by
        rw [stiF, if_neg hc0, if_neg b61]
      refine w_less (ls2 := [some (.ref m), some (.ref q), some (.int v), some (.int cn), some (.int (nI l)), some (.int (-cn)), none, none, none, none, none]) ⟨Or.inr rfl, Or.inr rfl, Or.inr rfl, Or.inr rfl, Or.inr rfl, Or.inr rfl, Or.inl rfl, Or.inl rfl, Or.inl rfl, Or.inl rfl, Or.inl rfl, trivial⟩ ?_
      rw [← es]
      refine m_clock2 (r9 := stiR cn s.2.1) (s := s) nd hl hs h1 h3 hfac hb ⟨hf.1, hf.2.1, hf.2.2.1, er.symm, hf.2.2.2.2.1, hf.2.2.2.2.2⟩ (fun f9 hg => ?_)
      have hst : stgF fac (fb l) (valF (f3 l) (lstF n s.1 + stiF cn s.2.1)) v s.1 s.2.2 n = ((cStp (n, fac, fb l, f3 l) cn v s).1, (cStp (n, fac, fb l, f3 l) cn v s).2.2, (stgF fac (fb l) (valF (f3 l) (lstF n s.1 + stiF cn s.2.1)) v s.1 s.2.2 n).2.2) := rfl
      rw [hst] at hg
      exact k _ ⟨hg.1.1, hg.1.2.1, rfl, hg.1.2.2.2.1, hg.1.2.2.2.2, hg.2.1 0 (by omega), hg.2.1 1 (by omega), hg.2.1 2 (by omega)⟩ (fun j hj => (pk_un (show ¬ 8 + j = 2 by omega)).trans ((hg.2.2.1 j hj).trans (by rw [pk_un (show ¬ 8 + j = 3 by omega)])))
    · refine w_iload_n dX10_clock_64 rfl ?_
      refine w_goto (tgt := 70) dX10_clock_65 rfl ?_
      refine w_istore (ls2 := [some (.ref m), some (.ref q), some (.int v), some (.int cn), some (.int (nI l)), some (.int cn), some (.int (regF s.2.1)), some (.int ((((s.2.1 ^^^ (s.2.1 >>> ((2 : Int32) &&& 31))) ^^^ (s.2.1 >>> ((3 : Int32) &&& 31))) ^^^ (s.2.1 >>> ((5 : Int32) &&& 31))) &&& 1)), none, none, none]) dX10_clock_70 (by decide) rfl rfl ?_
      have hc0 : ¬ cn = 0 := fun z => b9 (by rw [z]; decide)
      have er : stiR cn s.2.1 = regF s.2.1 := if_neg hc0
      have es : stiF cn s.2.1 = cn := by
        rw [stiF, if_neg hc0, if_pos b61]
      refine w_less (ls2 := [some (.ref m), some (.ref q), some (.int v), some (.int cn), some (.int (nI l)), some (.int cn), none, none, none, none, none]) ⟨Or.inr rfl, Or.inr rfl, Or.inr rfl, Or.inr rfl, Or.inr rfl, Or.inr rfl, Or.inl rfl, Or.inl rfl, Or.inl rfl, Or.inl rfl, Or.inl rfl, trivial⟩ ?_
      rw [← es]
      refine m_clock2 (r9 := stiR cn s.2.1) (s := s) nd hl hs h1 h3 hfac hb ⟨hf.1, hf.2.1, hf.2.2.1, er.symm, hf.2.2.2.2.1, hf.2.2.2.2.2⟩ (fun f9 hg => ?_)
      have hst : stgF fac (fb l) (valF (f3 l) (lstF n s.1 + stiF cn s.2.1)) v s.1 s.2.2 n = ((cStp (n, fac, fb l, f3 l) cn v s).1, (cStp (n, fac, fb l, f3 l) cn v s).2.2, (stgF fac (fb l) (valF (f3 l) (lstF n s.1 + stiF cn s.2.1)) v s.1 s.2.2 n).2.2) := rfl
      rw [hst] at hg
      exact k _ ⟨hg.1.1, hg.1.2.1, rfl, hg.1.2.2.2.1, hg.1.2.2.2.2, hg.2.1 0 (by omega), hg.2.1 1 (by omega), hg.2.1 2 (by omega)⟩ (fun j hj => (pk_un (show ¬ 8 + j = 2 by omega)).trans ((hg.2.2.1 j hj).trans (by rw [pk_un (show ¬ 8 + j = 3 by omega)])))
