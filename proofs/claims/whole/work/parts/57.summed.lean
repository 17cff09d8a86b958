/-- sums -/
def sS (f : Nat → Int32) : Nat → Int32
  | 0 => 0
  | n + 1 => sS f n + f n
theorem sS_fld (f : Nat → Int32) : ∀ n, fld (fun j (s : Int32) => s + f j) 0 n 0 = sS f n
  | 0 => rfl
  | n + 1 => by rw [fld, sS_fld f n, Nat.zero_add]; rfl
theorem sS_c {f g : Nat → Int32} : ∀ {n : Nat}, (∀ j, j < n → f j = g j) → sS f n = sS g n
  | 0, _ => rfl
  | n + 1, h => by rw [sS, sS, sS_c (fun j hj => h j (by omega)), h n (by omega)]
theorem sS_0 {f : Nat → Int32} : ∀ {n : Nat}, (∀ j, j < n → f j = 0) → sS f n = 0
  | 0, _ => rfl
  | n + 1, h => by rw [sS, sS_0 (fun j hj => h j (by omega)), h n (by omega)]; rfl
theorem sS_add (f g : Nat → Int32) : ∀ n, sS (fun j => f j + g j) n = sS f n + sS g n
  | 0 => rfl
  | n + 1 => by rw [sS, sS, sS, sS_add f g n]; grind
theorem sS_mulr (f : Nat → Int32) (a : Int32) : ∀ n, sS (fun j => f j * a) n = sS f n * a
  | 0 => by rw [sS, sS]; grind
  | n + 1 => by rw [sS, sS, sS_mulr f a n]; grind
theorem sS_lin (f g : Nat → Int32) (a : Int32) : ∀ n, sS (fun j => a * f j - g j) n = a * sS f n - sS g n
  | 0 => by rw [sS, sS, sS]; grind
  | n + 1 => by rw [sS, sS, sS, sS_lin f g a n]; grind
theorem sS_swap (f : Nat → Nat → Int32) (m : Nat) : ∀ n, sS (fun i => sS (fun j => f i j) m) n = sS (fun j => sS (fun i => f i j) n) m
  | 0 => (sS_0 (fun _ _ => rfl)).symm
  | n + 1 => by
    rw [sS, sS_swap f m n, ← sS_add]
    rfl
theorem sS_ext {f : Nat → Int32} {N : Nat} (h : ∀ j, N ≤ j → f j = 0) : ∀ r, sS f (N + r) = sS f N
  | 0 => rfl
  | r + 1 => by
    show sS f (N + r) + f (N + r) = _
    rw [sS_ext h r, h (N + r) (by omega)]; exact Int32.add_zero _
theorem sS_shift (g : Nat → Int32) (k : Nat) : ∀ N, sS (fun n => if k ≤ n then g (n - k) else 0) (k + N) = sS g N
  | 0 => sS_0 (fun j hj => if_neg (by omega))
  | N + 1 => by
    show sS _ (k + N) + (if k ≤ k + N then g (k + N - k) else 0) = sS g N + g N
    rw [sS_shift g k N, if_pos (by omega), show k + N - k = N by omega]
theorem sS_min (f : Nat → Int32) (n : Nat) : ∀ Y, sS (fun i => if i ≤ n then f i else 0) Y = sS f (min Y (n + 1))
  | 0 => by rw [Nat.zero_min]; rfl
  | Y + 1 => by
    rw [sS, sS_min f n Y]
    by_cases e : Y ≤ n
    · rw [if_pos e, show min Y (n + 1) = Y by omega, show min (Y + 1) (n + 1) = Y + 1 by omega]; rfl
    · rw [if_neg e, show min Y (n + 1) = n + 1 by omega, show min (Y + 1) (n + 1) = n + 1 by omega]; exact Int32.add_zero _
/-- a row summed j times -/
def lay (F : Nat → Int32) (Y : Nat) : Nat → Nat → Int32
  | 0, t => F t
  | j + 1, t => fld (fun k s => s + lay F Y j (t + k)) 0 Y 0
theorem lay_s (F : Nat → Int32) (Y j t : Nat) : lay F Y (j + 1) t = sS (fun k => lay F Y j (t + k)) Y := sS_fld _ Y
theorem lay_lin (f g : Nat → Int32) (a : Int32) (Y : Nat) : ∀ j t, lay (fun t => a * f t - g t) Y j t = a * lay f Y j t - lay g Y j t
  | 0, t => rfl
  | j + 1, t => by
    rw [lay_s, lay_s, lay_s, ← sS_lin]
    exact sS_c (fun k _ => lay_lin f g a Y j (t + k))
theorem wgt_out {Y : Nat} : ∀ {M j : Nat}, 1 + M * (Y - 1) ≤ j → wgtF Y M j = 0
  | 0, j, h => by rw [wgtF, if_neg (by omega)]
  | M + 1, j, h => by
    have e : (M + 1) * (Y - 1) = M * (Y - 1) + (Y - 1) := Nat.succ_mul _ _
    rw [wgtF, if_neg (by omega)]
    exact wgt_out (by omega)
theorem wgt_lay (F : Nat → Int32) {Y : Nat} (hY : 1 ≤ Y) : ∀ M t, sS (fun j => wgtF Y M j * F (t + j)) (1 + M * (Y - 1)) = lay F Y M t
  | 0, t => by
    rw [Nat.zero_mul]
    show (0 : Int32) + wgtF Y 0 0 * F (t + 0) = F t
    rw [wgtF, if_pos rfl, Nat.add_zero]; grind
  | M + 1, t => by
    have e : (M + 1) * (Y - 1) = M * (Y - 1) + (Y - 1) := Nat.succ_mul _ _
    rw [lay_s]
    have h1 : ∀ k, k < Y → lay F Y M (t + k) = sS (fun n => if k ≤ n then wgtF Y M (n - k) * F (t + n) else 0) (1 + (M + 1) * (Y - 1)) := by
      intro k hk
      rw [← wgt_lay F hY M (t + k), ← sS_shift _ k (1 + M * (Y - 1)), show 1 + (M + 1) * (Y - 1) = k + (1 + M * (Y - 1)) + (Y - 1 - k) by omega, sS_ext (N := k + (1 + M * (Y - 1))) (fun j hj => by
        rw [if_pos (by omega), wgt_out (by omega)]; grind)]
      refine sS_c (fun n _ => ?_)
      by_cases z : k ≤ n
      · rw [if_pos z, if_pos z, show t + k + (n - k) = t + n by omega]
      · rw [if_neg z, if_neg z]
    rw [sS_c h1, sS_swap]
    refine sS_c (fun n hn => ?_)
    rw [wgtF, if_pos (by omega), wgtS, sS_fld, ← sS_min, ← sS_mulr]
    refine sS_c (fun k _ => ?_)
    by_cases z : k ≤ n
    · rw [if_pos z, if_pos z]
    · rw [if_neg z, if_neg z]; grind
theorem ws_lay (F : Nat → Int32) {M Y i : Nat} (hY : 2 ≤ Y) : wsF F M Y i = lay F Y M (i * Y) := by
  rw [← wgt_lay F (show 1 ≤ Y by omega) M (i * Y), ← sS_fld]
  rfl
theorem lay_fld (F : Nat → Int32) (Y j t : Nat) : lay F Y (j + 1) t = fld (fun k s => s + lay F Y j (t + k)) 0 Y 0 := rfl
set_option maxRecDepth 100000 in
set_option maxHeartbeats 4000000 in
theorem l_lays1_0 {G : wG} {d : Nat} {h : hH} {Q : Option Value → hH → Prop} {m : Nat} {th tr wa tp sz sp fa fl tk ta sg nu : Int32} {wd : Int64} {lo wv rl rw ht sd ah cl : Int32} {fr : Nat → Int32} {fo : Nat → Int32} {M Y c : Nat} (nd : [m, m + 14, m + 18, m + 22].Nodup) (hc4 : c ≤ 4096) (k : ∀ f : Nat → Int32, (∀ j, j < c → f j = fo j) → WP G RX10 cX10_laysSummed 9 none false (d + 3) 0 0 0 0 Q 57 [some (.ref m), some (.int (nI M)), some (.int (nI Y)), some (.int 0), some (.int (nI c)), none, none, none, none] [] (hUs h [m, m + 14, m + 18, m + 22] [(oC 10 (mF m th tr wa tp sz sp fa fl tk ta sg nu wd lo wv rl rw ht sd ah cl)), (aI 11 fr), (aB 4096 fo), (aI 4096 f)])) : ∀ (n : Nat) (i : Nat) (f : Nat → Int32), i + n = c → (∀ j, j < i → f j = fo j) → WP G RX10 cX10_laysSummed 9 none false (d + 3) 0 0 0 0 Q 11 [some (.ref m), some (.int (nI M)), some (.int (nI Y)), some (.int 0), some (.int (nI c)), some (.int (nI i)), none, none, none] [] (hUs h [m, m + 14, m + 18, m + 22] [(oC 10 (mF m th tr wa tp sz sp fa fl tk ta sg nu wd lo wv rl rw ht sd ah cl)), (aI 11 fr), (aB 4096 fo), (aI 4096 f)]) := by
  intro n
  induction n with
  | zero =>
    intro i f hi hf
    refine w_iload dX10_laysSummed_11 rfl ?_
    refine w_iload dX10_laysSummed_13 rfl ?_
    refine w_icmp_ge_t (tgt := 57) dX10_laysSummed_15 rfl ((nI_leI (a := c) (b := i) (by omega) (by omega)).mpr (by omega)) ?_
    refine w_less (ls2 := [some (.ref m), some (.int (nI M)), some (.int (nI Y)), some (.int 0), some (.int (nI c)), none, none, none, none]) ⟨Or.inr rfl, Or.inr rfl, Or.inr rfl, Or.inr rfl, Or.inr rfl, Or.inl rfl, Or.inl rfl, Or.inl rfl, Or.inl rfl, trivial⟩ ?_
    exact k f (fun j hj => hf j (by omega))
  | succ n ih =>
    intro i f hi hf
    refine w_iload dX10_laysSummed_11 rfl ?_
    refine w_iload dX10_laysSummed_13 rfl ?_
    refine w_icmp_ge_f (tgt := 57) dX10_laysSummed_15 rfl (fun z => absurd ((nI_leI (a := c) (b := i) (by omega) (by omega)).mp z) (by omega)) ?_
    refine w_aload_n dX10_laysSummed_18 rfl ?_
    refine w_get (v := .ref (m + 22)) fX10_83 (hUs_at nd 0 rfl rfl) rfl dX10_laysSummed_19 ?_
    refine w_iload dX10_laysSummed_22 rfl ?_
    refine w_iload_n dX10_laysSummed_24 rfl ?_
    refine w_if_eq_t (tgt := 43) dX10_laysSummed_25 rfl rfl ?_
    refine w_aload_n dX10_laysSummed_43 rfl ?_
    refine w_get (v := .ref (m + 18)) fX10_67 (hUs_at nd 0 rfl rfl) rfl dX10_laysSummed_44 ?_
    refine w_iload dX10_laysSummed_47 rfl ?_
    refine w_baloadN (hUs_at nd 2 rfl rfl) (by omega) (by omega) dX10_laysSummed_49 ?_
    refine w_iastoreN (hUs_at nd 3 rfl rfl) (by omega) (by omega) dX10_laysSummed_50 ?_
    refine w_heq (hUs_set nd rfl 3 (cs' := [(oC 10 (mF m th tr wa tp sz sp fa fl tk ta sg nu wd lo wv rl rw ht sd ah cl)), (aI 11 fr), (aB 4096 fo), (aI 4096 (upd f i (fo i)))]) rfl rfl) ?_
    refine w_iinc (v := nI (i + 1)) (ls2 := [some (.ref m), some (.int (nI M)), some (.int (nI Y)), some (.int 0), some (.int (nI c)), some (.int (nI (i + 1))), none, none, none]) dX10_laysSummed_51 rfl (nI_1 _) (by decide) rfl rfl ?_
    refine w_goto (tgt := 11) dX10_laysSummed_54 rfl ?_
    exact ih (i + 1) _ (by omega) (fun j hj => by
      by_cases e : j = i
      · subst e; exact pk_us
      · rw [pk_un e]; exact hf j (by omega))
set_option maxRecDepth 100000 in
set_option maxHeartbeats 4000000 in
theorem l_lays4_0 {G : wG} {d : Nat} {h : hH} {Q : Option Value → hH → Prop} {m : Nat} {th tr wa tp sz sp fa fl tk ta sg nu : Int32} {wd : Int64} {lo wv rl rw ht sd ah cl : Int32} {fr : Nat → Int32} {fo : Nat → Int32} {M Y : Nat} {D j t : Nat} {f : Nat → Int32} (nd : [m, m + 14, m + 18, m + 22].Nodup) (htY : t + Y ≤ 4096) (hY2 : Y ≤ 32) (k : WP G RX10 cX10_laysSummed 9 none false (d + 3) 0 0 0 0 Q 117 [some (.ref m), some (.int (nI M)), some (.int (nI Y)), some (.int 0), some (.int (nI D)), some (.int (nI j)), some (.int (nI t)), some (.int (fld (fun k s => s + f (t + k)) 0 Y 0)), none] [] (hUs h [m, m + 14, m + 18, m + 22] [(oC 10 (mF m th tr wa tp sz sp fa fl tk ta sg nu wd lo wv rl rw ht sd ah cl)), (aI 11 fr), (aB 4096 fo), (aI 4096 f)])) : ∀ (n : Nat) (i : Nat) (x : Int32), i + n = Y → x = fld (fun k s => s + f (t + k)) 0 i 0 → WP G RX10 cX10_laysSummed 9 none false (d + 3) 0 0 0 0 Q 90 [some (.ref m), some (.int (nI M)), some (.int (nI Y)), some (.int 0), some (.int (nI D)), some (.int (nI j)), some (.int (nI t)), some (.int x), some (.int (nI i))] [] (hUs h [m, m + 14, m + 18, m + 22] [(oC 10 (mF m th tr wa tp sz sp fa fl tk ta sg nu wd lo wv rl rw ht sd ah cl)), (aI 11 fr), (aB 4096 fo), (aI 4096 f)]) := by
  intro n
  induction n with
  | zero =>
    intro i x hi e
    refine w_iload dX10_laysSummed_90 rfl ?_
    refine w_iload_n dX10_laysSummed_92 rfl ?_
    refine w_icmp_ge_t (tgt := 117) dX10_laysSummed_93 rfl ((nI_leI (a := Y) (b := i) (by omega) (by omega)).mpr (by omega)) ?_
    refine w_less (ls2 := [some (.ref m), some (.int (nI M)), some (.int (nI Y)), some (.int 0), some (.int (nI D)), some (.int (nI j)), some (.int (nI t)), some (.int x), none]) ⟨Or.inr rfl, Or.inr rfl, Or.inr rfl, Or.inr rfl, Or.inr rfl, Or.inr rfl, Or.inr rfl, Or.inr rfl, Or.inl rfl, trivial⟩ ?_
    have z : i = Y := by omega
    rw [z] at e
    rw [← e] at k
    exact k
  | succ n ih =>
    intro i x hi e
    refine w_iload dX10_laysSummed_90 rfl ?_
    refine w_iload_n dX10_laysSummed_92 rfl ?_
    refine w_icmp_ge_f (tgt := 117) dX10_laysSummed_93 rfl (fun z => absurd ((nI_leI (a := Y) (b := i) (by omega) (by omega)).mp z) (by omega)) ?_
    refine w_iload dX10_laysSummed_96 rfl ?_
    refine w_aload_n dX10_laysSummed_98 rfl ?_
    refine w_get (v := .ref (m + 22)) fX10_83 (hUs_at nd 0 rfl rfl) rfl dX10_laysSummed_99 ?_
    refine w_iload dX10_laysSummed_102 rfl ?_
    refine w_iload dX10_laysSummed_104 rfl ?_
    refine w_iaddE (z := nI (t + i)) dX10_laysSummed_106 (nI_add (t) (i)) ?_
    refine w_ialoadN (hUs_at nd 3 rfl rfl) (by omega) (by omega) dX10_laysSummed_107 ?_
    refine w_iadd dX10_laysSummed_108 ?_
    refine w_istore (ls2 := [some (.ref m), some (.int (nI M)), some (.int (nI Y)), some (.int 0), some (.int (nI D)), some (.int (nI j)), some (.int (nI t)), some (.int (x + (f (t + i)))), some (.int (nI i))]) dX10_laysSummed_109 (by decide) rfl rfl ?_
    refine w_iinc (v := nI (i + 1)) (ls2 := [some (.ref m), some (.int (nI M)), some (.int (nI Y)), some (.int 0), some (.int (nI D)), some (.int (nI j)), some (.int (nI t)), some (.int (x + (f (t + i)))), some (.int (nI (i + 1)))]) dX10_laysSummed_111 rfl (nI_1 _) (by decide) rfl rfl ?_
    refine w_goto (tgt := 90) dX10_laysSummed_114 rfl ?_
    exact ih (i + 1) _ (by omega) (by rw [fld, ← e, Nat.zero_add])
set_option maxRecDepth 100000 in
set_option maxHeartbeats 4000000 in
theorem l_lays3_0 {G : wG} {d : Nat} {h : hH} {Q : Option Value → hH → Prop} {m : Nat} {th tr wa tp sz sp fa fl tk ta sg nu : Int32} {wd : Int64} {lo wv rl rw ht sd ah cl : Int32} {fr : Nat → Int32} {fo : Nat → Int32} {M Y : Nat} {D j : Nat} {F : Nat → Int32} (nd : [m, m + 14, m + 18, m + 22].Nodup) (hD : D + (Y - 1) ≤ 4096) (hY : 2 ≤ Y) (hY2 : Y ≤ 32) (k : ∀ f : Nat → Int32, (∀ s, s < D → f s = lay F Y (j + 1) s) → WP G RX10 cX10_laysSummed 9 none false (d + 3) 0 0 0 0 Q 132 [some (.ref m), some (.int (nI M)), some (.int (nI Y)), some (.int 0), some (.int (nI D)), some (.int (nI j)), none, none, none] [] (hUs h [m, m + 14, m + 18, m + 22] [(oC 10 (mF m th tr wa tp sz sp fa fl tk ta sg nu wd lo wv rl rw ht sd ah cl)), (aI 11 fr), (aB 4096 fo), (aI 4096 f)])) : ∀ (n : Nat) (t : Nat) (f : Nat → Int32), t + n = D → (∀ s, s < t → f s = lay F Y (j + 1) s) → (∀ s, t ≤ s → s < D + (Y - 1) → f s = lay F Y j s) → WP G RX10 cX10_laysSummed 9 none false (d + 3) 0 0 0 0 Q 77 [some (.ref m), some (.int (nI M)), some (.int (nI Y)), some (.int 0), some (.int (nI D)), some (.int (nI j)), some (.int (nI t)), none, none] [] (hUs h [m, m + 14, m + 18, m + 22] [(oC 10 (mF m th tr wa tp sz sp fa fl tk ta sg nu wd lo wv rl rw ht sd ah cl)), (aI 11 fr), (aB 4096 fo), (aI 4096 f)]) := by
  intro n
  induction n with
  | zero =>
    intro t f hi h1 h2
    refine w_iload dX10_laysSummed_77 rfl ?_
    refine w_iload dX10_laysSummed_79 rfl ?_
    refine w_icmp_ge_t (tgt := 132) dX10_laysSummed_81 rfl ((nI_leI (a := D) (b := t) (by omega) (by omega)).mpr (by omega)) ?_
    refine w_less (ls2 := [some (.ref m), some (.int (nI M)), some (.int (nI Y)), some (.int 0), some (.int (nI D)), some (.int (nI j)), none, none, none]) ⟨Or.inr rfl, Or.inr rfl, Or.inr rfl, Or.inr rfl, Or.inr rfl, Or.inr rfl, Or.inl rfl, Or.inl rfl, Or.inl rfl, trivial⟩ ?_
    exact k f (fun s hs => h1 s (by omega))
  | succ n ih =>
    intro t f hi h1 h2
    refine w_iload dX10_laysSummed_77 rfl ?_
    refine w_iload dX10_laysSummed_79 rfl ?_
    refine w_icmp_ge_f (tgt := 132) dX10_laysSummed_81 rfl (fun z => absurd ((nI_leI (a := D) (b := t) (by omega) (by omega)).mp z) (by omega)) ?_
    refine w_iconst (v := 0) dX10_laysSummed_84 (by decide) ?_
    refine w_istore (ls2 := [some (.ref m), some (.int (nI M)), some (.int (nI Y)), some (.int 0), some (.int (nI D)), some (.int (nI j)), some (.int (nI t)), some (.int 0), none]) dX10_laysSummed_85 (by decide) rfl rfl ?_
    refine w_iconst (v := (nI 0)) dX10_laysSummed_87 (by decide) ?_
    refine w_istore (ls2 := [some (.ref m), some (.int (nI M)), some (.int (nI Y)), some (.int 0), some (.int (nI D)), some (.int (nI j)), some (.int (nI t)), some (.int 0), some (.int (nI 0))]) dX10_laysSummed_88 (by decide) rfl rfl ?_
    refine l_lays4_0 nd (by omega) hY2 ?_ Y 0 0 (by omega) rfl
    refine w_aload_n dX10_laysSummed_117 rfl ?_
    refine w_get (v := .ref (m + 22)) fX10_83 (hUs_at nd 0 rfl rfl) rfl dX10_laysSummed_118 ?_
    refine w_iload dX10_laysSummed_121 rfl ?_
    refine w_iload dX10_laysSummed_123 rfl ?_
    refine w_iastoreN (hUs_at nd 3 rfl rfl) (by omega) (by omega) dX10_laysSummed_125 ?_
    refine w_heq (hUs_set nd rfl 3 (cs' := [(oC 10 (mF m th tr wa tp sz sp fa fl tk ta sg nu wd lo wv rl rw ht sd ah cl)), (aI 11 fr), (aB 4096 fo), (aI 4096 (upd f t (fld (fun k s => s + f (t + k)) 0 Y 0)))]) rfl rfl) ?_
    refine w_iinc (v := nI (t + 1)) (ls2 := [some (.ref m), some (.int (nI M)), some (.int (nI Y)), some (.int 0), some (.int (nI D)), some (.int (nI j)), some (.int (nI (t + 1))), some (.int (fld (fun k s => s + f (t + k)) 0 Y 0)), none]) dX10_laysSummed_126 rfl (nI_1 _) (by decide) rfl rfl ?_
    refine w_goto (tgt := 77) dX10_laysSummed_129 rfl ?_
    refine w_less (ls2 := [some (.ref m), some (.int (nI M)), some (.int (nI Y)), some (.int 0), some (.int (nI D)), some (.int (nI j)), some (.int (nI (t + 1))), none, none]) ⟨Or.inr rfl, Or.inr rfl, Or.inr rfl, Or.inr rfl, Or.inr rfl, Or.inr rfl, Or.inr rfl, Or.inl rfl, Or.inl rfl, trivial⟩ ?_
    exact ih (t + 1) _ (by omega) (fun s hs => by
      by_cases e : s = t
      · subst e
        rw [pk_us, lay_fld]
        exact fld_c 0 _ _ (fun k9 _ hk => by funext s9; rw [h2 (s + k9) (by omega) (by omega)])
      · rw [pk_un e]; exact h1 s (by omega)) (fun s hs hs2 => by rw [pk_un (by omega)]; exact h2 s (by omega) hs2)
set_option maxRecDepth 100000 in
set_option maxHeartbeats 4000000 in
theorem l_lays2_0 {G : wG} {d : Nat} {h : hH} {Q : Option Value → hH → Prop} {m : Nat} {th tr wa tp sz sp fa fl tk ta sg nu : Int32} {wd : Int64} {lo wv rl rw ht sd ah cl : Int32} {fr : Nat → Int32} {fo : Nat → Int32} {M Y c : Nat} {F : Nat → Int32} (nd : [m, m + 14, m + 18, m + 22].Nodup) (hc4 : c ≤ 4096) (hM : M ≤ 3) (hY : 2 ≤ Y) (hY2 : Y ≤ 32) (hMc : M * (Y - 1) < c) (k : ∀ f : Nat → Int32, (∀ s, s + M * (Y - 1) < c → f s = lay F Y M s) → Q none (hUs h [m, m + 14, m + 18, m + 22] [(oC 10 (mF m th tr wa tp sz sp fa fl tk ta sg nu wd lo wv rl rw ht sd ah cl)), (aI 11 fr), (aB 4096 fo), (aI 4096 f)])) : ∀ (n : Nat) (j E : Nat) (f : Nat → Int32), j + n = M → E + j * (Y - 1) = c → (∀ s, s < E → f s = lay F Y j s) → WP G RX10 cX10_laysSummed 9 none false (d + 3) 0 0 0 0 Q 60 [some (.ref m), some (.int (nI M)), some (.int (nI Y)), some (.int 0), some (.int (nI E)), some (.int (nI j)), none, none, none] [] (hUs h [m, m + 14, m + 18, m + 22] [(oC 10 (mF m th tr wa tp sz sp fa fl tk ta sg nu wd lo wv rl rw ht sd ah cl)), (aI 11 fr), (aB 4096 fo), (aI 4096 f)]) := by
  intro n
  induction n with
  | zero =>
    intro j E f hi hE hf
    refine w_iload dX10_laysSummed_60 rfl ?_
    refine w_iload_n dX10_laysSummed_62 rfl ?_
    refine w_icmp_ge_t (tgt := 138) dX10_laysSummed_63 rfl ((nI_leI (a := M) (b := j) (by omega) (by omega)).mpr (by omega)) ?_
    refine w_return rfl dX10_laysSummed_138 (Nat.le_of_ble_eq_true rfl) (Nat.le_of_ble_eq_true rfl) ?_
    have z : j = M := by omega
    subst z
    exact k f (fun s hs => hf s (by omega))
  | succ n ih =>
    intro j E f hi hE hf
    have e1 : (j + 1) * (Y - 1) = j * (Y - 1) + (Y - 1) := Nat.succ_mul _ _
    have e2 : (j + 1) * (Y - 1) ≤ M * (Y - 1) := Nat.mul_le_mul_right _ (by omega)
    refine w_iload dX10_laysSummed_60 rfl ?_
    refine w_iload_n dX10_laysSummed_62 rfl ?_
    refine w_icmp_ge_f (tgt := 138) dX10_laysSummed_63 rfl (fun z => absurd ((nI_leI (a := M) (b := j) (by omega) (by omega)).mp z) (by omega)) ?_
    refine w_iload dX10_laysSummed_66 rfl ?_
    refine w_iload_n dX10_laysSummed_68 rfl ?_
    refine w_iconst (v := 1) dX10_laysSummed_69 (by decide) ?_
    refine w_isubE (z := nI (Y - 1)) dX10_laysSummed_70 (pk_sub (a := Y) (b := 1) (by omega)) ?_
    refine w_isubE (z := nI (E - (Y - 1))) dX10_laysSummed_71 (pk_sub (a := E) (b := (Y - 1)) (by omega)) ?_
    refine w_istore (ls2 := [some (.ref m), some (.int (nI M)), some (.int (nI Y)), some (.int 0), some (.int (nI (E - (Y - 1)))), some (.int (nI j)), none, none, none]) dX10_laysSummed_72 (by decide) rfl rfl ?_
    refine w_iconst (v := (nI 0)) dX10_laysSummed_74 (by decide) ?_
    refine w_istore (ls2 := [some (.ref m), some (.int (nI M)), some (.int (nI Y)), some (.int 0), some (.int (nI (E - (Y - 1)))), some (.int (nI j)), some (.int (nI 0)), none, none]) dX10_laysSummed_75 (by decide) rfl rfl ?_
    refine l_lays3_0 nd (by omega) hY hY2 (fun g9 hg9 => ?_) (E - (Y - 1)) 0 f (by omega) (fun s hs => absurd hs (Nat.not_lt_zero s)) (fun s _ hs => hf s (by omega))
    refine w_iinc (v := nI (j + 1)) (ls2 := [some (.ref m), some (.int (nI M)), some (.int (nI Y)), some (.int 0), some (.int (nI (E - (Y - 1)))), some (.int (nI (j + 1))), none, none, none]) dX10_laysSummed_132 rfl (nI_1 _) (by decide) rfl rfl ?_
    refine w_goto (tgt := 60) dX10_laysSummed_135 rfl ?_
    exact ih (j + 1) _ g9 (by omega) (by omega) hg9
set_option maxRecDepth 100000 in
set_option maxHeartbeats 4000000 in
theorem m_lays0 {G : wG} {d : Nat} {h : hH} {Q : Option Value → hH → Prop} {m : Nat} {th tr wa tp sz sp fa fl tk ta sg nu : Int32} {wd : Int64} {lo wv rl rw ht sd ah cl : Int32} {fr : Nat → Int32} {fo : Nat → Int32} {M Y c : Nat} {f : Nat → Int32} (hw : hHas h [m, m + 14, m + 18, m + 22] [(oC 10 (mF m th tr wa tp sz sp fa fl tk ta sg nu wd lo wv rl rw ht sd ah cl)), (aI 11 fr), (aB 4096 fo), (aI 4096 f)]) (nd : [m, m + 14, m + 18, m + 22].Nodup) (hrc : fr 2 = nI c) (hc4 : c ≤ 4096) (hM : M ≤ 3) (hY : 2 ≤ Y) (hY2 : Y ≤ 32) (hMc : M * (Y - 1) < c) (k : ∀ f : Nat → Int32, (∀ s, s + M * (Y - 1) < c → f s = lay fo Y M s) → Q none (hUs h [m, m + 14, m + 18, m + 22] [(oC 10 (mF m th tr wa tp sz sp fa fl tk ta sg nu wd lo wv rl rw ht sd ah cl)), (aI 11 fr), (aB 4096 fo), (aI 4096 f)])) : Cl G yX10_laysSummed (d + 3) 0 0 [.ref m, .int (nI M), .int (nI Y), .int 0] h Q := by
  refine Cl.of (ini := false) kX10_laysSummed (plainFor_of_name (by decide)) (by decide) (Nat.le_of_ble_eq_true rfl) rfl rfl (fun z => by cases z) ?_
  refine w_heq (hUs_id hw).symm ?_
  refine w_aload_n dX10_laysSummed_0 rfl ?_
  refine w_get (v := .ref (m + 14)) fX10_55 (hUs_at nd 0 rfl rfl) rfl dX10_laysSummed_1 ?_
  refine w_iconst (v := (nI 2)) dX10_laysSummed_4 (by decide) ?_
  refine w_ialoadN (hUs_at nd 1 rfl rfl) (by omega) (by omega) dX10_laysSummed_5 ?_
  refine w_top (z := nI c) hrc ?_
  refine w_istore (ls2 := [some (.ref m), some (.int (nI M)), some (.int (nI Y)), some (.int 0), some (.int (nI c)), none, none, none, none]) dX10_laysSummed_6 (by decide) rfl rfl ?_
  refine w_iconst (v := (nI 0)) dX10_laysSummed_8 (by decide) ?_
  refine w_istore (ls2 := [some (.ref m), some (.int (nI M)), some (.int (nI Y)), some (.int 0), some (.int (nI c)), some (.int (nI 0)), none, none, none]) dX10_laysSummed_9 (by decide) rfl rfl ?_
  refine l_lays1_0 nd hc4 (fun g9 hg9 => ?_) c 0 f (by omega) (fun j hj => absurd hj (Nat.not_lt_zero j))
  refine w_iconst (v := (nI 0)) dX10_laysSummed_57 (by decide) ?_
  refine w_istore (ls2 := [some (.ref m), some (.int (nI M)), some (.int (nI Y)), some (.int 0), some (.int (nI c)), some (.int (nI 0)), none, none, none]) dX10_laysSummed_58 (by decide) rfl rfl ?_
  exact l_lays2_0 (F := fo) nd hc4 hM hY hY2 hMc k M 0 c g9 (by omega) (by omega) hg9
set_option maxRecDepth 100000 in
set_option maxHeartbeats 4000000 in
theorem l_lays1_1 {G : wG} {d : Nat} {h : hH} {Q : Option Value → hH → Prop} {m : Nat} {th tr wa tp sz sp fa fl tk ta sg nu : Int32} {wd : Int64} {lo wv rl rw ht sd ah cl : Int32} {fp : Nat → Int32} {fk : Nat → Int32} {fx : Nat → Int32} {fy : Nat → Int32} {fc : Nat → Int32} {fr : Nat → Int32} {M Y c : Nat} {w : Nat} {V : wP} (nd : [m, m + 8, m + 10, m + 11, m + 12, m + 13, m + 14, m + 22].Nodup) (hw8 : w < 8) (hfp : fp w = nI V.2.2.2.2.1) (hV : wGd V) (hAt : wAt V (8 * w) fk fx fy fc) (hr1 : fr 1 = nI w) (hc4 : c ≤ 4096) (k : ∀ f : Nat → Int32, (∀ j, j < c → f j = (fun t => lvlT V (nI t)) j) → WP G RX10 cX10_laysSummed 9 none false (d + 3) 0 0 0 0 Q 57 [some (.ref m), some (.int (nI M)), some (.int (nI Y)), some (.int 1), some (.int (nI c)), none, none, none, none] [] (hUs h [m, m + 8, m + 10, m + 11, m + 12, m + 13, m + 14, m + 22] [(oC 10 (mF m th tr wa tp sz sp fa fl tk ta sg nu wd lo wv rl rw ht sd ah cl)), (aI 8 fp), (aI 64 fk), (aI 64 fx), (aI 64 fy), (aI 64 fc), (aI 11 fr), (aI 4096 f)])) : ∀ (n : Nat) (i : Nat) (f : Nat → Int32), i + n = c → (∀ j, j < i → f j = (fun t => lvlT V (nI t)) j) → WP G RX10 cX10_laysSummed 9 none false (d + 3) 0 0 0 0 Q 11 [some (.ref m), some (.int (nI M)), some (.int (nI Y)), some (.int 1), some (.int (nI c)), some (.int (nI i)), none, none, none] [] (hUs h [m, m + 8, m + 10, m + 11, m + 12, m + 13, m + 14, m + 22] [(oC 10 (mF m th tr wa tp sz sp fa fl tk ta sg nu wd lo wv rl rw ht sd ah cl)), (aI 8 fp), (aI 64 fk), (aI 64 fx), (aI 64 fy), (aI 64 fc), (aI 11 fr), (aI 4096 f)]) := by
  intro n
  induction n with
  | zero =>
    intro i f hi hf
    refine w_iload dX10_laysSummed_11 rfl ?_
    refine w_iload dX10_laysSummed_13 rfl ?_
    refine w_icmp_ge_t (tgt := 57) dX10_laysSummed_15 rfl ((nI_leI (a := c) (b := i) (by omega) (by omega)).mpr (by omega)) ?_
    refine w_less (ls2 := [some (.ref m), some (.int (nI M)), some (.int (nI Y)), some (.int 1), some (.int (nI c)), none, none, none, none]) ⟨Or.inr rfl, Or.inr rfl, Or.inr rfl, Or.inr rfl, Or.inr rfl, Or.inl rfl, Or.inl rfl, Or.inl rfl, Or.inl rfl, trivial⟩ ?_
    exact k f (fun j hj => hf j (by omega))
  | succ n ih =>
    intro i f hi hf
    refine w_iload dX10_laysSummed_11 rfl ?_
    refine w_iload dX10_laysSummed_13 rfl ?_
    refine w_icmp_ge_f (tgt := 57) dX10_laysSummed_15 rfl (fun z => absurd ((nI_leI (a := c) (b := i) (by omega) (by omega)).mp z) (by omega)) ?_
    refine w_aload_n dX10_laysSummed_18 rfl ?_
    refine w_get (v := .ref (m + 22)) fX10_83 (hUs_at nd 0 rfl rfl) rfl dX10_laysSummed_19 ?_
    refine w_iload dX10_laysSummed_22 rfl ?_
    refine w_iload_n dX10_laysSummed_24 rfl ?_
    refine w_if_eq_f (tgt := 43) dX10_laysSummed_25 rfl (by decide) ?_
    refine w_aload_n dX10_laysSummed_28 rfl ?_
    refine w_aload_n dX10_laysSummed_29 rfl ?_
    refine w_get (v := .ref (m + 14)) fX10_55 (hUs_at nd 0 rfl rfl) rfl dX10_laysSummed_30 ?_
    refine w_iconst (v := (nI 1)) dX10_laysSummed_33 (by decide) ?_
    refine w_ialoadN (hUs_at nd 6 rfl rfl) (by omega) (by omega) dX10_laysSummed_34 ?_
    refine w_top (z := nI w) hr1 ?_
    refine w_iload dX10_laysSummed_35 rfl ?_
    refine w_callV (ci := 10) (d' := d + 2) (mc' := 0) (ms' := 0) (As := [.int (nI w), .int (nI i)]) (st := [.int (nI i), .ref (m + 22)]) lX10_269 vX10_levelOf rfl (hUs_at nd 0 rfl rfl) rfl (Nat.le_of_ble_eq_true rfl) dX10_laysSummed_37 (Nat.le_of_ble_eq_true rfl) (Nat.le_of_ble_eq_true rfl) (Nat.le_refl _) (m_levelOf (hHas_sub nd (as' := [m, m + 8, m + 10, m + 11, m + 12, m + 13]) (cs' := [(oC 10 (mF m th tr wa tp sz sp fa fl tk ta sg nu wd lo wv rl rw ht sd ah cl)), (aI 8 fp), (aI 64 fk), (aI 64 fx), (aI 64 fy), (aI 64 fc)]) [0, 1, 2, 3, 4, 5] rfl rfl) (V := V) hw8 hfp hV hAt (nI_pos' (show i < 2 ^ 31 by omega)) ?_)
    refine w_goto (tgt := 50) dX10_laysSummed_40 rfl ?_
    refine w_iastoreN (hUs_at nd 7 rfl rfl) (by omega) (by omega) dX10_laysSummed_50 ?_
    refine w_heq (hUs_set nd rfl 7 (cs' := [(oC 10 (mF m th tr wa tp sz sp fa fl tk ta sg nu wd lo wv rl rw ht sd ah cl)), (aI 8 fp), (aI 64 fk), (aI 64 fx), (aI 64 fy), (aI 64 fc), (aI 11 fr), (aI 4096 (upd f i (lvlT V (nI i))))]) rfl rfl) ?_
    refine w_iinc (v := nI (i + 1)) (ls2 := [some (.ref m), some (.int (nI M)), some (.int (nI Y)), some (.int 1), some (.int (nI c)), some (.int (nI (i + 1))), none, none, none]) dX10_laysSummed_51 rfl (nI_1 _) (by decide) rfl rfl ?_
    refine w_goto (tgt := 11) dX10_laysSummed_54 rfl ?_
    exact ih (i + 1) _ (by omega) (fun j hj => by
      by_cases e : j = i
      · subst e; exact pk_us
      · rw [pk_un e]; exact hf j (by omega))
set_option maxRecDepth 100000 in
set_option maxHeartbeats 4000000 in
theorem l_lays4_1 {G : wG} {d : Nat} {h : hH} {Q : Option Value → hH → Prop} {m : Nat} {th tr wa tp sz sp fa fl tk ta sg nu : Int32} {wd : Int64} {lo wv rl rw ht sd ah cl : Int32} {fp : Nat → Int32} {fk : Nat → Int32} {fx : Nat → Int32} {fy : Nat → Int32} {fc : Nat → Int32} {fr : Nat → Int32} {M Y : Nat} {D j t : Nat} {f : Nat → Int32} (nd : [m, m + 8, m + 10, m + 11, m + 12, m + 13, m + 14, m + 22].Nodup) (htY : t + Y ≤ 4096) (hY2 : Y ≤ 32) (k : WP G RX10 cX10_laysSummed 9 none false (d + 3) 0 0 0 0 Q 117 [some (.ref m), some (.int (nI M)), some (.int (nI Y)), some (.int 1), some (.int (nI D)), some (.int (nI j)), some (.int (nI t)), some (.int (fld (fun k s => s + f (t + k)) 0 Y 0)), none] [] (hUs h [m, m + 8, m + 10, m + 11, m + 12, m + 13, m + 14, m + 22] [(oC 10 (mF m th tr wa tp sz sp fa fl tk ta sg nu wd lo wv rl rw ht sd ah cl)), (aI 8 fp), (aI 64 fk), (aI 64 fx), (aI 64 fy), (aI 64 fc), (aI 11 fr), (aI 4096 f)])) : ∀ (n : Nat) (i : Nat) (x : Int32), i + n = Y → x = fld (fun k s => s + f (t + k)) 0 i 0 → WP G RX10 cX10_laysSummed 9 none false (d + 3) 0 0 0 0 Q 90 [some (.ref m), some (.int (nI M)), some (.int (nI Y)), some (.int 1), some (.int (nI D)), some (.int (nI j)), some (.int (nI t)), some (.int x), some (.int (nI i))] [] (hUs h [m, m + 8, m + 10, m + 11, m + 12, m + 13, m + 14, m + 22] [(oC 10 (mF m th tr wa tp sz sp fa fl tk ta sg nu wd lo wv rl rw ht sd ah cl)), (aI 8 fp), (aI 64 fk), (aI 64 fx), (aI 64 fy), (aI 64 fc), (aI 11 fr), (aI 4096 f)]) := by
  intro n
  induction n with
  | zero =>
    intro i x hi e
    refine w_iload dX10_laysSummed_90 rfl ?_
    refine w_iload_n dX10_laysSummed_92 rfl ?_
    refine w_icmp_ge_t (tgt := 117) dX10_laysSummed_93 rfl ((nI_leI (a := Y) (b := i) (by omega) (by omega)).mpr (by omega)) ?_
    refine w_less (ls2 := [some (.ref m), some (.int (nI M)), some (.int (nI Y)), some (.int 1), some (.int (nI D)), some (.int (nI j)), some (.int (nI t)), some (.int x), none]) ⟨Or.inr rfl, Or.inr rfl, Or.inr rfl, Or.inr rfl, Or.inr rfl, Or.inr rfl, Or.inr rfl, Or.inr rfl, Or.inl rfl, trivial⟩ ?_
    have z : i = Y := by omega
    rw [z] at e
    rw [← e] at k
    exact k
  | succ n ih =>
    intro i x hi e
    refine w_iload dX10_laysSummed_90 rfl ?_
    refine w_iload_n dX10_laysSummed_92 rfl ?_
    refine w_icmp_ge_f (tgt := 117) dX10_laysSummed_93 rfl (fun z => absurd ((nI_leI (a := Y) (b := i) (by omega) (by omega)).mp z) (by omega)) ?_
    refine w_iload dX10_laysSummed_96 rfl ?_
    refine w_aload_n dX10_laysSummed_98 rfl ?_
    refine w_get (v := .ref (m + 22)) fX10_83 (hUs_at nd 0 rfl rfl) rfl dX10_laysSummed_99 ?_
    refine w_iload dX10_laysSummed_102 rfl ?_
    refine w_iload dX10_laysSummed_104 rfl ?_
    refine w_iaddE (z := nI (t + i)) dX10_laysSummed_106 (nI_add (t) (i)) ?_
    refine w_ialoadN (hUs_at nd 7 rfl rfl) (by omega) (by omega) dX10_laysSummed_107 ?_
    refine w_iadd dX10_laysSummed_108 ?_
    refine w_istore (ls2 := [some (.ref m), some (.int (nI M)), some (.int (nI Y)), some (.int 1), some (.int (nI D)), some (.int (nI j)), some (.int (nI t)), some (.int (x + (f (t + i)))), some (.int (nI i))]) dX10_laysSummed_109 (by decide) rfl rfl ?_
    refine w_iinc (v := nI (i + 1)) (ls2 := [some (.ref m), some (.int (nI M)), some (.int (nI Y)), some (.int 1), some (.int (nI D)), some (.int (nI j)), some (.int (nI t)), some (.int (x + (f (t + i)))), some (.int (nI (i + 1)))]) dX10_laysSummed_111 rfl (nI_1 _) (by decide) rfl rfl ?_
    refine w_goto (tgt := 90) dX10_laysSummed_114 rfl ?_
    exact ih (i + 1) _ (by omega) (by rw [fld, ← e, Nat.zero_add])
set_option maxRecDepth 100000 in
set_option maxHeartbeats 4000000 in
theorem l_lays3_1 {G : wG} {d : Nat} {h : hH} {Q : Option Value → hH → Prop} {m : Nat} {th tr wa tp sz sp fa fl tk ta sg nu : Int32} {wd : Int64} {lo wv rl rw ht sd ah cl : Int32} {fp : Nat → Int32} {fk : Nat → Int32} {fx : Nat → Int32} {fy : Nat → Int32} {fc : Nat → Int32} {fr : Nat → Int32} {M Y : Nat} {D j : Nat} {F : Nat → Int32} (nd : [m, m + 8, m + 10, m + 11, m + 12, m + 13, m + 14, m + 22].Nodup) (hD : D + (Y - 1) ≤ 4096) (hY : 2 ≤ Y) (hY2 : Y ≤ 32) (k : ∀ f : Nat → Int32, (∀ s, s < D → f s = lay F Y (j + 1) s) → WP G RX10 cX10_laysSummed 9 none false (d + 3) 0 0 0 0 Q 132 [some (.ref m), some (.int (nI M)), some (.int (nI Y)), some (.int 1), some (.int (nI D)), some (.int (nI j)), none, none, none] [] (hUs h [m, m + 8, m + 10, m + 11, m + 12, m + 13, m + 14, m + 22] [(oC 10 (mF m th tr wa tp sz sp fa fl tk ta sg nu wd lo wv rl rw ht sd ah cl)), (aI 8 fp), (aI 64 fk), (aI 64 fx), (aI 64 fy), (aI 64 fc), (aI 11 fr), (aI 4096 f)])) : ∀ (n : Nat) (t : Nat) (f : Nat → Int32), t + n = D → (∀ s, s < t → f s = lay F Y (j + 1) s) → (∀ s, t ≤ s → s < D + (Y - 1) → f s = lay F Y j s) → WP G RX10 cX10_laysSummed 9 none false (d + 3) 0 0 0 0 Q 77 [some (.ref m), some (.int (nI M)), some (.int (nI Y)), some (.int 1), some (.int (nI D)), some (.int (nI j)), some (.int (nI t)), none, none] [] (hUs h [m, m + 8, m + 10, m + 11, m + 12, m + 13, m + 14, m + 22] [(oC 10 (mF m th tr wa tp sz sp fa fl tk ta sg nu wd lo wv rl rw ht sd ah cl)), (aI 8 fp), (aI 64 fk), (aI 64 fx), (aI 64 fy), (aI 64 fc), (aI 11 fr), (aI 4096 f)]) := by
  intro n
  induction n with
  | zero =>
    intro t f hi h1 h2
    refine w_iload dX10_laysSummed_77 rfl ?_
    refine w_iload dX10_laysSummed_79 rfl ?_
    refine w_icmp_ge_t (tgt := 132) dX10_laysSummed_81 rfl ((nI_leI (a := D) (b := t) (by omega) (by omega)).mpr (by omega)) ?_
    refine w_less (ls2 := [some (.ref m), some (.int (nI M)), some (.int (nI Y)), some (.int 1), some (.int (nI D)), some (.int (nI j)), none, none, none]) ⟨Or.inr rfl, Or.inr rfl, Or.inr rfl, Or.inr rfl, Or.inr rfl, Or.inr rfl, Or.inl rfl, Or.inl rfl, Or.inl rfl, trivial⟩ ?_
    exact k f (fun s hs => h1 s (by omega))
  | succ n ih =>
    intro t f hi h1 h2
    refine w_iload dX10_laysSummed_77 rfl ?_
    refine w_iload dX10_laysSummed_79 rfl ?_
    refine w_icmp_ge_f (tgt := 132) dX10_laysSummed_81 rfl (fun z => absurd ((nI_leI (a := D) (b := t) (by omega) (by omega)).mp z) (by omega)) ?_
    refine w_iconst (v := 0) dX10_laysSummed_84 (by decide) ?_
    refine w_istore (ls2 := [some (.ref m), some (.int (nI M)), some (.int (nI Y)), some (.int 1), some (.int (nI D)), some (.int (nI j)), some (.int (nI t)), some (.int 0), none]) dX10_laysSummed_85 (by decide) rfl rfl ?_
    refine w_iconst (v := (nI 0)) dX10_laysSummed_87 (by decide) ?_
    refine w_istore (ls2 := [some (.ref m), some (.int (nI M)), some (.int (nI Y)), some (.int 1), some (.int (nI D)), some (.int (nI j)), some (.int (nI t)), some (.int 0), some (.int (nI 0))]) dX10_laysSummed_88 (by decide) rfl rfl ?_
    refine l_lays4_1 nd (by omega) hY2 ?_ Y 0 0 (by omega) rfl
    refine w_aload_n dX10_laysSummed_117 rfl ?_
    refine w_get (v := .ref (m + 22)) fX10_83 (hUs_at nd 0 rfl rfl) rfl dX10_laysSummed_118 ?_
    refine w_iload dX10_laysSummed_121 rfl ?_
    refine w_iload dX10_laysSummed_123 rfl ?_
    refine w_iastoreN (hUs_at nd 7 rfl rfl) (by omega) (by omega) dX10_laysSummed_125 ?_
    refine w_heq (hUs_set nd rfl 7 (cs' := [(oC 10 (mF m th tr wa tp sz sp fa fl tk ta sg nu wd lo wv rl rw ht sd ah cl)), (aI 8 fp), (aI 64 fk), (aI 64 fx), (aI 64 fy), (aI 64 fc), (aI 11 fr), (aI 4096 (upd f t (fld (fun k s => s + f (t + k)) 0 Y 0)))]) rfl rfl) ?_
    refine w_iinc (v := nI (t + 1)) (ls2 := [some (.ref m), some (.int (nI M)), some (.int (nI Y)), some (.int 1), some (.int (nI D)), some (.int (nI j)), some (.int (nI (t + 1))), some (.int (fld (fun k s => s + f (t + k)) 0 Y 0)), none]) dX10_laysSummed_126 rfl (nI_1 _) (by decide) rfl rfl ?_
    refine w_goto (tgt := 77) dX10_laysSummed_129 rfl ?_
    refine w_less (ls2 := [some (.ref m), some (.int (nI M)), some (.int (nI Y)), some (.int 1), some (.int (nI D)), some (.int (nI j)), some (.int (nI (t + 1))), none, none]) ⟨Or.inr rfl, Or.inr rfl, Or.inr rfl, Or.inr rfl, Or.inr rfl, Or.inr rfl, Or.inr rfl, Or.inl rfl, Or.inl rfl, trivial⟩ ?_
    exact ih (t + 1) _ (by omega) (fun s hs => by
      by_cases e : s = t
      · subst e
        rw [pk_us, lay_fld]
        exact fld_c 0 _ _ (fun k9 _ hk => by funext s9; rw [h2 (s + k9) (by omega) (by omega)])
      · rw [pk_un e]; exact h1 s (by omega)) (fun s hs hs2 => by rw [pk_un (by omega)]; exact h2 s (by omega) hs2)
set_option maxRecDepth 100000 in
set_option maxHeartbeats 4000000 in
theorem l_lays2_1 {G : wG} {d : Nat} {h : hH} {Q : Option Value → hH → Prop} {m : Nat} {th tr wa tp sz sp fa fl tk ta sg nu : Int32} {wd : Int64} {lo wv rl rw ht sd ah cl : Int32} {fp : Nat → Int32} {fk : Nat → Int32} {fx : Nat → Int32} {fy : Nat → Int32} {fc : Nat → Int32} {fr : Nat → Int32} {M Y c : Nat} {F : Nat → Int32} (nd : [m, m + 8, m + 10, m + 11, m + 12, m + 13, m + 14, m + 22].Nodup) (hc4 : c ≤ 4096) (hM : M ≤ 3) (hY : 2 ≤ Y) (hY2 : Y ≤ 32) (hMc : M * (Y - 1) < c) (k : ∀ f : Nat → Int32, (∀ s, s + M * (Y - 1) < c → f s = lay F Y M s) → Q none (hUs h [m, m + 8, m + 10, m + 11, m + 12, m + 13, m + 14, m + 22] [(oC 10 (mF m th tr wa tp sz sp fa fl tk ta sg nu wd lo wv rl rw ht sd ah cl)), (aI 8 fp), (aI 64 fk), (aI 64 fx), (aI 64 fy), (aI 64 fc), (aI 11 fr), (aI 4096 f)])) : ∀ (n : Nat) (j E : Nat) (f : Nat → Int32), j + n = M → E + j * (Y - 1) = c → (∀ s, s < E → f s = lay F Y j s) → WP G RX10 cX10_laysSummed 9 none false (d + 3) 0 0 0 0 Q 60 [some (.ref m), some (.int (nI M)), some (.int (nI Y)), some (.int 1), some (.int (nI E)), some (.int (nI j)), none, none, none] [] (hUs h [m, m + 8, m + 10, m + 11, m + 12, m + 13, m + 14, m + 22] [(oC 10 (mF m th tr wa tp sz sp fa fl tk ta sg nu wd lo wv rl rw ht sd ah cl)), (aI 8 fp), (aI 64 fk), (aI 64 fx), (aI 64 fy), (aI 64 fc), (aI 11 fr), (aI 4096 f)]) := by
  intro n
  induction n with
  | zero =>
    intro j E f hi hE hf
    refine w_iload dX10_laysSummed_60 rfl ?_
    refine w_iload_n dX10_laysSummed_62 rfl ?_
    refine w_icmp_ge_t (tgt := 138) dX10_laysSummed_63 rfl ((nI_leI (a := M) (b := j) (by omega) (by omega)).mpr (by omega)) ?_
    refine w_return rfl dX10_laysSummed_138 (Nat.le_of_ble_eq_true rfl) (Nat.le_of_ble_eq_true rfl) ?_
    have z : j = M := by omega
    subst z
    exact k f (fun s hs => hf s (by omega))
  | succ n ih =>
    intro j E f hi hE hf
    have e1 : (j + 1) * (Y - 1) = j * (Y - 1) + (Y - 1) := Nat.succ_mul _ _
    have e2 : (j + 1) * (Y - 1) ≤ M * (Y - 1) := Nat.mul_le_mul_right _ (by omega)
    refine w_iload dX10_laysSummed_60 rfl ?_
    refine w_iload_n dX10_laysSummed_62 rfl ?_
    refine w_icmp_ge_f (tgt := 138) dX10_laysSummed_63 rfl (fun z => absurd ((nI_leI (a := M) (b := j) (by omega) (by omega)).mp z) (by omega)) ?_
    refine w_iload dX10_laysSummed_66 rfl ?_
    refine w_iload_n dX10_laysSummed_68 rfl ?_
    refine w_iconst (v := 1) dX10_laysSummed_69 (by decide) ?_
    refine w_isubE (z := nI (Y - 1)) dX10_laysSummed_70 (pk_sub (a := Y) (b := 1) (by omega)) ?_
    refine w_isubE (z := nI (E - (Y - 1))) dX10_laysSummed_71 (pk_sub (a := E) (b := (Y - 1)) (by omega)) ?_
    refine w_istore (ls2 := [some (.ref m), some (.int (nI M)), some (.int (nI Y)), some (.int 1), some (.int (nI (E - (Y - 1)))), some (.int (nI j)), none, none, none]) dX10_laysSummed_72 (by decide) rfl rfl ?_
    refine w_iconst (v := (nI 0)) dX10_laysSummed_74 (by decide) ?_
    refine w_istore (ls2 := [some (.ref m), some (.int (nI M)), some (.int (nI Y)), some (.int 1), some (.int (nI (E - (Y - 1)))), some (.int (nI j)), some (.int (nI 0)), none, none]) dX10_laysSummed_75 (by decide) rfl rfl ?_
    refine l_lays3_1 nd (by omega) hY hY2 (fun g9 hg9 => ?_) (E - (Y - 1)) 0 f (by omega) (fun s hs => absurd hs (Nat.not_lt_zero s)) (fun s _ hs => hf s (by omega))
    refine w_iinc (v := nI (j + 1)) (ls2 := [some (.ref m), some (.int (nI M)), some (.int (nI Y)), some (.int 1), some (.int (nI (E - (Y - 1)))), some (.int (nI (j + 1))), none, none, none]) dX10_laysSummed_132 rfl (nI_1 _) (by decide) rfl rfl ?_
    refine w_goto (tgt := 60) dX10_laysSummed_135 rfl ?_
    exact ih (j + 1) _ g9 (by omega) (by omega) hg9
set_option maxRecDepth 100000 in
set_option maxHeartbeats 4000000 in
theorem m_lays1 {G : wG} {d : Nat} {h : hH} {Q : Option Value → hH → Prop} {m : Nat} {th tr wa tp sz sp fa fl tk ta sg nu : Int32} {wd : Int64} {lo wv rl rw ht sd ah cl : Int32} {fp : Nat → Int32} {fk : Nat → Int32} {fx : Nat → Int32} {fy : Nat → Int32} {fc : Nat → Int32} {fr : Nat → Int32} {M Y c : Nat} {w : Nat} {V : wP} {f : Nat → Int32} (hw : hHas h [m, m + 8, m + 10, m + 11, m + 12, m + 13, m + 14, m + 22] [(oC 10 (mF m th tr wa tp sz sp fa fl tk ta sg nu wd lo wv rl rw ht sd ah cl)), (aI 8 fp), (aI 64 fk), (aI 64 fx), (aI 64 fy), (aI 64 fc), (aI 11 fr), (aI 4096 f)]) (nd : [m, m + 8, m + 10, m + 11, m + 12, m + 13, m + 14, m + 22].Nodup) (hw8 : w < 8) (hfp : fp w = nI V.2.2.2.2.1) (hV : wGd V) (hAt : wAt V (8 * w) fk fx fy fc) (hr1 : fr 1 = nI w) (hrc : fr 2 = nI c) (hc4 : c ≤ 4096) (hM : M ≤ 3) (hY : 2 ≤ Y) (hY2 : Y ≤ 32) (hMc : M * (Y - 1) < c) (k : ∀ f : Nat → Int32, (∀ s, s + M * (Y - 1) < c → f s = lay (fun t => lvlT V (nI t)) Y M s) → Q none (hUs h [m, m + 8, m + 10, m + 11, m + 12, m + 13, m + 14, m + 22] [(oC 10 (mF m th tr wa tp sz sp fa fl tk ta sg nu wd lo wv rl rw ht sd ah cl)), (aI 8 fp), (aI 64 fk), (aI 64 fx), (aI 64 fy), (aI 64 fc), (aI 11 fr), (aI 4096 f)])) : Cl G yX10_laysSummed (d + 3) 0 0 [.ref m, .int (nI M), .int (nI Y), .int 1] h Q := by
  refine Cl.of (ini := false) kX10_laysSummed (plainFor_of_name (by decide)) (by decide) (Nat.le_of_ble_eq_true rfl) rfl rfl (fun z => by cases z) ?_
  refine w_heq (hUs_id hw).symm ?_
  refine w_aload_n dX10_laysSummed_0 rfl ?_
  refine w_get (v := .ref (m + 14)) fX10_55 (hUs_at nd 0 rfl rfl) rfl dX10_laysSummed_1 ?_
  refine w_iconst (v := (nI 2)) dX10_laysSummed_4 (by decide) ?_
  refine w_ialoadN (hUs_at nd 6 rfl rfl) (by omega) (by omega) dX10_laysSummed_5 ?_
  refine w_top (z := nI c) hrc ?_
  refine w_istore (ls2 := [some (.ref m), some (.int (nI M)), some (.int (nI Y)), some (.int 1), some (.int (nI c)), none, none, none, none]) dX10_laysSummed_6 (by decide) rfl rfl ?_
  refine w_iconst (v := (nI 0)) dX10_laysSummed_8 (by decide) ?_
  refine w_istore (ls2 := [some (.ref m), some (.int (nI M)), some (.int (nI Y)), some (.int 1), some (.int (nI c)), some (.int (nI 0)), none, none, none]) dX10_laysSummed_9 (by decide) rfl rfl ?_
  refine l_lays1_1 nd hw8 hfp hV hAt hr1 hc4 (fun g9 hg9 => ?_) c 0 f (by omega) (fun j hj => absurd hj (Nat.not_lt_zero j))
  refine w_iconst (v := (nI 0)) dX10_laysSummed_57 (by decide) ?_
  refine w_istore (ls2 := [some (.ref m), some (.int (nI M)), some (.int (nI Y)), some (.int 1), some (.int (nI c)), some (.int (nI 0)), none, none, none]) dX10_laysSummed_58 (by decide) rfl rfl ?_
  exact l_lays2_1 (F := (fun t => lvlT V (nI t))) nd hc4 hM hY hY2 hMc k M 0 c g9 (by omega) (by omega) hg9
set_option maxRecDepth 100000 in
set_option maxHeartbeats 4000000 in
theorem q_summedAt_n {G : wG} {d : Nat} {h : hH} {Q : Option Value → hH → Prop} {m : Nat} {ft : Nat → Int32} {tp : Nat} {P : pD} {ht : Int32} {i0 i1 : imD} {sd fa pl tr : Int32} {th : Int32}  {y1 y u : Int32} (hI : mI h m ft tp P ht none i0 i1 sd fa pl tr th)  (k : ∀ h2, mI h2 m ft tp P ht none i0 i1 sd fa (-1) (oSat P (none) y1 y u).2 0 → mFr m h h2 → Q (some (.int (oSat P (none) y1 y u).1)) h2) : Cl G yX10_summedAt (d + 4) 0 0 [.ref m, .int y1, .int y, .int u] h Q := by
  refine mI_e hI ?_
  intro sz sp fl tk ta sg nu wd rl rw ah cl gt ln wn fs ff fb fn fp f3 fk fx fy fc fr f1 f2 fi fo fq fh fj fw fz hW hT hPm hG hRm hm0 hm1 hsd hht htp
  have hnL : P.1 ≤ 4096 := Nat.le_trans hG.2.2.1 (by decide)
  have hnW : P.2.1 ≤ 4096 := Nat.le_trans hG.2.2.2 (by decide)
  have hhL : (ht = 0 ∧ P.1 = 0) ∨ ht = 1 := hht.imp (fun z => ⟨z.1, z.2.1⟩) id
  have hhW : (ht = 0 ∧ P.2.1 = 0) ∨ ht = 1 := hht.imp (fun z => ⟨z.1, z.2.2⟩) id
  have hw : hHas h [m, m + 14] [(oC 10 (mF m th tr pl (nI tp) sz sp fa fl tk ta sg nu wd (nI P.1) (nI P.2.1) rl rw ht sd ah cl)), (aI 11 fr)] := hHas_s hW [0, 14] rfl rfl
  have nd : [m, m + 14].Nodup := (nd_inc ⟨by omega, trivial⟩)
  refine Cl.of (ini := false) kX10_summedAt (plainFor_of_name (by decide)) (by decide) (Nat.le_of_ble_eq_true rfl) rfl rfl (fun z => by cases z) ?_
  refine w_heq (hUs_id hw).symm ?_
  refine w_aload_n dX10_summedAt_0 rfl ?_
  refine w_iconst (v := 0) dX10_summedAt_1 (by decide) ?_
  refine w_put (fs' := (mF m 0 tr pl (nI tp) sz sp fa fl tk ta sg nu wd (nI P.1) (nI P.2.1) rl rw ht sd ah cl)) fX10_89 (hUs_at nd 0 rfl rfl) rfl rfl (Nat.le_of_ble_eq_true rfl) rfl dX10_summedAt_2 ?_
  refine w_heq (hUs_set nd rfl 0 (cs' := [(oC 10 (mF m 0 tr pl (nI tp) sz sp fa fl tk ta sg nu wd (nI P.1) (nI P.2.1) rl rw ht sd ah cl)), (aI 11 fr)]) rfl rfl) ?_
  refine w_aload_n dX10_summedAt_5 rfl ?_
  refine w_iload_n dX10_summedAt_6 rfl ?_
  refine w_iload_n dX10_summedAt_7 rfl ?_
  refine w_callV (ci := 10) (d' := d + 3) (mc' := 0) (ms' := 0) (As := [.int y1, .int y]) (st := []) lX10_308 vX10_refusesSummed rfl (hUs_at nd 0 rfl rfl) rfl (Nat.le_of_ble_eq_true rfl) dX10_summedAt_8 (Nat.le_of_ble_eq_true rfl) (Nat.le_of_ble_eq_true rfl) (Nat.le_refl _) (m_refSum_n (hHas_sub nd (as' := [m, m + 14]) (cs' := [(oC 10 (mF m 0 tr pl (nI tp) sz sp fa fl tk ta sg nu wd (nI P.1) (nI P.2.1) rl rw ht sd ah cl)), (aI 11 fr)]) [0, 1] rfl rfl) hRm ?_)
  refine w_istore (ls2 := [some (.ref m), some (.int y1), some (.int y), some (.int u), some (.int 1)]) dX10_summedAt_11 (by decide) rfl rfl ?_
  refine w_iload dX10_summedAt_13 rfl ?_
  refine w_if_le_f (tgt := 25) dX10_summedAt_15 rfl (by decide) ?_
  refine w_aload_n dX10_summedAt_18 rfl ?_
  refine w_iload dX10_summedAt_19 rfl ?_
  refine w_callV (ci := 10) (d' := d + 3) (mc' := 0) (ms' := 0) (As := [.int 1]) (st := []) lX10_266 vX10_lost rfl (hUs_at nd 0 rfl rfl) rfl (Nat.le_of_ble_eq_true rfl) dX10_summedAt_21 (Nat.le_of_ble_eq_true rfl) (Nat.le_of_ble_eq_true rfl) (Nat.le_refl _) (m_lost (hHas_sub nd (as' := [m]) (cs' := [(oC 10 (mF m 0 tr pl (nI tp) sz sp fa fl tk ta sg nu wd (nI P.1) (nI P.2.1) rl rw ht sd ah cl))]) [0] rfl rfl) (nd_sub nd (as' := [m]) [0] rfl rfl)  ?_)
  refine w_heq (hUs_in nd rfl [0] (cs2 := [(oC 10 (mF m 0 1 (-1) (nI tp) sz sp fa fl tk ta sg nu wd (nI P.1) (nI P.2.1) rl rw ht sd ah cl)), (aI 11 fr)]) rfl rfl) ?_
  refine w_ireturn rfl dX10_summedAt_24 (Nat.le_of_ble_eq_true rfl) (Nat.le_of_ble_eq_true rfl) ?_
  have e : oSat P none y1 y u = ((-1000000000), 1) := by
    rfl
  rw [e] at k
  exact k _ (mI_i (cI_put hW (mAs_nd m) rfl [0, 14] (cs2 := [(oC 10 (mF m 0 1 (-1) (nI tp) sz sp fa fl tk ta sg nu wd (nI P.1) (nI P.2.1) rl rw ht sd ah cl)), (aI 600 gt), (aL 8 ln), (aL 8 wn), (aI 8 fs), (aI 24 ff), (aI 8 fb), (aI 8 fn), (aI 8 fp), (aZ 8 f3), (aI 64 fk), (aI 64 fx), (aI 64 fy), (aI 64 fc), (aI 11 fr), (aI 11 f1), (aI 11 f2), (aI 22 fi), (aB 4096 fo), (aB 8192 fq), (aZ 2 fh), (aI 2 fj), (aI 4096 fw), (aI 2100 fz)]) rfl rfl) hT hPm hG hRm hm0 hm1 hsd hht htp) (mFr_of (by intro a ha; simp only [List.mem_cons, List.not_mem_nil, or_false] at ha; omega))
set_option maxRecDepth 100000 in
set_option maxHeartbeats 4000000 in
theorem q_summedAt_s {G : wG} {d : Nat} {h : hH} {Q : Option Value → hH → Prop} {m : Nat} {ft : Nat → Int32} {tp : Nat} {P : pD} {ht : Int32} {i0 i1 : imD} {sd fa pl tr : Int32} {th : Int32}  {l w c : Nat} {rs : Int32} {y1 y u : Int32} (hI : mI h m ft tp P ht (some (l, w, rs, c)) i0 i1 sd fa pl tr th)  (k : ∀ h2, mI h2 m ft tp P ht (some (l, w, rs, c)) i0 i1 sd fa (-1) (oSat P (some (l, w, rs, c)) y1 y u).2 0 → mFr m h h2 → Q (some (.int (oSat P (some (l, w, rs, c)) y1 y u).1)) h2) : Cl G yX10_summedAt (d + 4) 0 0 [.ref m, .int y1, .int y, .int u] h Q := by
  refine mI_e hI ?_
  intro sz sp fl tk ta sg nu wd rl rw ah cl gt ln wn fs ff fb fn fp f3 fk fx fy fc fr f1 f2 fi fo fq fh fj fw fz hW hT hPm hG hRm hm0 hm1 hsd hht htp
  have hnL : P.1 ≤ 4096 := Nat.le_trans hG.2.2.1 (by decide)
  have hnW : P.2.1 ≤ 4096 := Nat.le_trans hG.2.2.2 (by decide)
  have hhL : (ht = 0 ∧ P.1 = 0) ∨ ht = 1 := hht.imp (fun z => ⟨z.1, z.2.1⟩) id
  have hhW : (ht = 0 ∧ P.2.1 = 0) ∨ ht = 1 := hht.imp (fun z => ⟨z.1, z.2.2⟩) id
  obtain ⟨hht1, hok, hsr, hrn, hsz, hfo⟩ : ht = 1 ∧ mRr P (l, w, rs, c) fr fo := id hRm
  have hl : l < P.1 := hok.1
  have hwv9 : w < P.2.1 := hok.2.1
  have hc4 : c ≤ 4096 := hok.2.2
  have hl4 : l < 4 := Nat.lt_of_lt_of_le hl hG.2.2.1
  have hl31 : l < 2 ^ 31 := by omega
  have hLp := hPm.1 l hl
  rw [Nat.zero_add] at hLp
  have hGl := hG.1 l hl
  have hrc : fr 2 = nI c := hrn.2.2.1
  rw [show oSat P (some (l, w, rs, c)) y1 y u = oSatF fo c y1 y u from (oSatF_c hfo hc4 y1 y u).symm] at k
  have hw : hHas h [m, m + 14, m + 18, m + 22] [(oC 10 (mF m th tr pl (nI tp) sz sp fa fl tk ta sg nu wd (nI P.1) (nI P.2.1) rl rw ht sd ah cl)), (aI 11 fr), (aB 4096 fo), (aI 4096 fw)] := hHas_s hW [0, 14, 18, 22] rfl rfl
  have nd : [m, m + 14, m + 18, m + 22].Nodup := (nd_inc ⟨by omega, by omega, by omega, trivial⟩)
  refine Cl.of (ini := false) kX10_summedAt (plainFor_of_name (by decide)) (by decide) (Nat.le_of_ble_eq_true rfl) rfl rfl (fun z => by cases z) ?_
  refine w_heq (hUs_id hw).symm ?_
  refine w_aload_n dX10_summedAt_0 rfl ?_
  refine w_iconst (v := 0) dX10_summedAt_1 (by decide) ?_
  refine w_put (fs' := (mF m 0 tr pl (nI tp) sz sp fa fl tk ta sg nu wd (nI P.1) (nI P.2.1) rl rw ht sd ah cl)) fX10_89 (hUs_at nd 0 rfl rfl) rfl rfl (Nat.le_of_ble_eq_true rfl) rfl dX10_summedAt_2 ?_
  refine w_heq (hUs_set nd rfl 0 (cs' := [(oC 10 (mF m 0 tr pl (nI tp) sz sp fa fl tk ta sg nu wd (nI P.1) (nI P.2.1) rl rw ht sd ah cl)), (aI 11 fr), (aB 4096 fo), (aI 4096 fw)]) rfl rfl) ?_
  refine w_aload_n dX10_summedAt_5 rfl ?_
  refine w_iload_n dX10_summedAt_6 rfl ?_
  refine w_iload_n dX10_summedAt_7 rfl ?_
  refine w_callV (ci := 10) (d' := d + 3) (mc' := 0) (ms' := 0) (As := [.int y1, .int y]) (st := []) lX10_308 vX10_refusesSummed rfl (hUs_at nd 0 rfl rfl) rfl (Nat.le_of_ble_eq_true rfl) dX10_summedAt_8 (Nat.le_of_ble_eq_true rfl) (Nat.le_of_ble_eq_true rfl) (Nat.le_refl _) (m_refSum_s (hHas_sub nd (as' := [m, m + 14]) (cs' := [(oC 10 (mF m 0 tr pl (nI tp) sz sp fa fl tk ta sg nu wd (nI P.1) (nI P.2.1) rl rw ht sd ah cl)), (aI 11 fr)]) [0, 1] rfl rfl) hht1 hrn hl31 ?_)
  refine w_istore (ls2 := [some (.ref m), some (.int y1), some (.int y), some (.int u), some (.int (if smB y1 y = 0 then 2 else 0))]) dX10_summedAt_11 (by decide) rfl rfl ?_
  refine w_iload dX10_summedAt_13 rfl ?_
  refine w_if_le (tgt := 25) dX10_summedAt_15 rfl (fun b15 => ?_) (fun b15 => ?_)
  · have hsm := rs_le.mp b15
    obtain ⟨M, Y, hM, hY, hY2, rfl, rfl⟩ := smB_n hsm
    have hMc : tN (nI M) = M := nI_clamp (by omega)
    have hYc : tN (nI Y) = Y := nI_clamp (by omega)
    have hMY : M * (Y - 1) ≤ 93 := Nat.le_trans (Nat.mul_le_mul hM (show Y - 1 ≤ 31 by omega)) (by decide)
    have hsl := smN_le (M := M) (c := c) hY
    refine w_iload_n dX10_summedAt_25 rfl ?_
    refine w_iconst (v := 0) dX10_summedAt_26 (by decide) ?_
    refine w_aload_n dX10_summedAt_27 rfl ?_
    refine w_iload_n dX10_summedAt_28 rfl ?_
    refine w_iload_n dX10_summedAt_29 rfl ?_
    refine w_callV (ci := 10) (d' := d + 3) (mc' := 0) (ms' := 0) (As := [.int (nI M), .int (nI Y)]) (st := [.int 0, .int u]) lX10_311 vX10_summedMany rfl (hUs_at nd 0 rfl rfl) rfl (Nat.le_of_ble_eq_true rfl) dX10_summedAt_30 (Nat.le_of_ble_eq_true rfl) (Nat.le_of_ble_eq_true rfl) (Nat.le_refl _) (m_summedMany (hHas_sub nd (as' := [m, m + 14]) (cs' := [(oC 10 (mF m 0 tr pl (nI tp) sz sp fa fl tk ta sg nu wd (nI P.1) (nI P.2.1) rl rw ht sd ah cl)), (aI 11 fr)]) [0, 1] rfl rfl) hrc hc4 (by omega) (by omega) (by omega) ?_)
    refine w_iconst (v := 1) dX10_summedAt_33 (by decide) ?_
    refine w_isub dX10_summedAt_34 ?_
    refine w_callS (d' := d + 3) (mc' := 0) (ms' := 0) (As := [.int u, .int 0, .int ((nI (smN M Y c)) - 1)]) (st := []) lX10_111 vX10_in rfl (Nat.le_of_ble_eq_true rfl) dX10_summedAt_35 (Nat.le_of_ble_eq_true rfl) (Nat.le_of_ble_eq_true rfl) (Nat.le_refl _) (c_in ?_)
    refine w_top (z := ixB u (smN M Y c)) (ixB_in (by omega)) ?_
    refine w_if_ne (tgt := 47) dX10_summedAt_38 rfl (fun b38 => ?_) (fun b38 => ?_)
    · obtain ⟨w9, hw9, rfl⟩ := in3 (Int32.not_lt.mpr (ixB_1 b38).1) (ixB_1 b38).2 (show smN M Y c < 2 ^ 31 by omega)
      have hwc : tN (nI w9) = w9 := nI_clamp (by omega)
      have hfit := smN_fit hw9
      refine w_aload_n dX10_summedAt_47 rfl ?_
      refine w_iload_n dX10_summedAt_48 rfl ?_
      refine w_iload_n dX10_summedAt_49 rfl ?_
      refine w_iconst (v := 0) dX10_summedAt_50 (by decide) ?_
      refine w_callV (ci := 10) (d' := d + 3) (mc' := 0) (ms' := 0) (As := [.int (nI M), .int (nI Y), .int 0]) (st := []) lX10_314 vX10_laysSummed rfl (hUs_at nd 0 rfl rfl) rfl (Nat.le_of_ble_eq_true rfl) dX10_summedAt_51 (Nat.le_of_ble_eq_true rfl) (Nat.le_of_ble_eq_true rfl) (Nat.le_refl _) (m_lays0 (hHas_sub nd (as' := [m, m + 14, m + 18, m + 22]) (cs' := [(oC 10 (mF m 0 tr pl (nI tp) sz sp fa fl tk ta sg nu wd (nI P.1) (nI P.2.1) rl rw ht sd ah cl)), (aI 11 fr), (aB 4096 fo), (aI 4096 fw)]) [0, 1, 2, 3] rfl rfl) (nd_sub nd (as' := [m, m + 14, m + 18, m + 22]) [0, 1, 2, 3] rfl rfl) hrc hc4 hM hY hY2 (by omega) (fun g09 hg09 => ?_))
      refine w_heq (hUs_in nd rfl [0, 1, 2, 3] (cs2 := [(oC 10 (mF m 0 tr pl (nI tp) sz sp fa fl tk ta sg nu wd (nI P.1) (nI P.2.1) rl rw ht sd ah cl)), (aI 11 fr), (aB 4096 fo), (aI 4096 g09)]) rfl rfl) ?_
      refine w_aload_n dX10_summedAt_54 rfl ?_
      refine w_aload_n dX10_summedAt_55 rfl ?_
      refine w_get (v := .ref (m + 22)) fX10_83 (hUs_at nd 0 rfl rfl) rfl dX10_summedAt_56 ?_
      refine w_iload_n dX10_summedAt_59 rfl ?_
      refine w_iload_n dX10_summedAt_60 rfl ?_
      refine w_imulE (z := nI (w9 * Y)) dX10_summedAt_61 (pk_mul (w9) (Y)) ?_
      refine w_ialoadN (hUs_at nd 3 rfl rfl) (by omega) (by omega) dX10_summedAt_62 ?_
      refine w_top (z := wsF fo M Y w9) ((hg09 _ (by omega)).trans (ws_lay fo hY).symm) ?_
      refine w_callV (ci := 10) (d' := d + 3) (mc' := 0) (ms' := 0) (As := [.int (wsF fo M Y w9)]) (st := []) lX10_241 vX10_good rfl (hUs_at nd 0 rfl rfl) rfl (Nat.le_of_ble_eq_true rfl) dX10_summedAt_63 (Nat.le_of_ble_eq_true rfl) (Nat.le_of_ble_eq_true rfl) (Nat.le_refl _) (m_good (hHas_sub nd (as' := [m]) (cs' := [(oC 10 (mF m 0 tr pl (nI tp) sz sp fa fl tk ta sg nu wd (nI P.1) (nI P.2.1) rl rw ht sd ah cl))]) [0] rfl rfl) (nd_sub nd (as' := [m]) [0] rfl rfl)  ?_)
      refine w_heq (hUs_in nd rfl [0] (cs2 := [(oC 10 (mF m 0 0 (-1) (nI tp) sz sp fa fl tk ta sg nu wd (nI P.1) (nI P.2.1) rl rw ht sd ah cl)), (aI 11 fr), (aB 4096 fo), (aI 4096 g09)]) rfl rfl) ?_
      refine w_ireturn rfl dX10_summedAt_66 (Nat.le_of_ble_eq_true rfl) (Nat.le_of_ble_eq_true rfl) ?_
      have e : oSatF fo c (nI M) (nI Y) (nI w9) = (wsF fo M Y w9, 0) := by
        simp only [oSatF]
        rw [hMc, hYc, hwc, if_neg (fun z => z.elim hsm (fun z => z.elim (fun z => absurd (ixB_1 b38).1 (Int32.not_le.mpr z)) (fun z => absurd (ixB_1 b38).2 (Int32.not_lt.mpr z))))]
      rw [e] at k
      exact k _ (mI_i (cI_put hW (mAs_nd m) rfl [0, 14, 18, 22] (cs2 := [(oC 10 (mF m 0 0 (-1) (nI tp) sz sp fa fl tk ta sg nu wd (nI P.1) (nI P.2.1) rl rw ht sd ah cl)), (aI 600 gt), (aL 8 ln), (aL 8 wn), (aI 8 fs), (aI 24 ff), (aI 8 fb), (aI 8 fn), (aI 8 fp), (aZ 8 f3), (aI 64 fk), (aI 64 fx), (aI 64 fy), (aI 64 fc), (aI 11 fr), (aI 11 f1), (aI 11 f2), (aI 22 fi), (aB 4096 fo), (aB 8192 fq), (aZ 2 fh), (aI 2 fj), (aI 4096 g09), (aI 2100 fz)]) rfl rfl) hT hPm hG hRm hm0 hm1 hsd hht htp) (mFr_of (by intro a ha; simp only [List.mem_cons, List.not_mem_nil, or_false] at ha; omega))
    · refine w_aload_n dX10_summedAt_41 rfl ?_
      refine w_iconst (v := 2) dX10_summedAt_42 (by decide) ?_
      refine w_callV (ci := 10) (d' := d + 3) (mc' := 0) (ms' := 0) (As := [.int 2]) (st := []) lX10_266 vX10_lost rfl (hUs_at nd 0 rfl rfl) rfl (Nat.le_of_ble_eq_true rfl) dX10_summedAt_43 (Nat.le_of_ble_eq_true rfl) (Nat.le_of_ble_eq_true rfl) (Nat.le_refl _) (m_lost (hHas_sub nd (as' := [m]) (cs' := [(oC 10 (mF m 0 tr pl (nI tp) sz sp fa fl tk ta sg nu wd (nI P.1) (nI P.2.1) rl rw ht sd ah cl))]) [0] rfl rfl) (nd_sub nd (as' := [m]) [0] rfl rfl)  ?_)
      refine w_heq (hUs_in nd rfl [0] (cs2 := [(oC 10 (mF m 0 2 (-1) (nI tp) sz sp fa fl tk ta sg nu wd (nI P.1) (nI P.2.1) rl rw ht sd ah cl)), (aI 11 fr), (aB 4096 fo), (aI 4096 fw)]) rfl rfl) ?_
      refine w_ireturn rfl dX10_summedAt_46 (Nat.le_of_ble_eq_true rfl) (Nat.le_of_ble_eq_true rfl) ?_
      have e : oSatF fo c (nI M) (nI Y) u = ((-1000000000), 2) := by
        simp only [oSatF]
        refine if_pos (Or.inr ?_)
        rw [hMc, hYc]
        rcases Int32.lt_or_le u 0 with z | z
        · exact Or.inl z
        · exact Or.inr (Int32.not_lt.mp (fun z2 => ixB_0 b38 ⟨z, z2⟩))
      rw [e] at k
      exact k _ (mI_i (cI_put hW (mAs_nd m) rfl [0, 14, 18, 22] (cs2 := [(oC 10 (mF m 0 2 (-1) (nI tp) sz sp fa fl tk ta sg nu wd (nI P.1) (nI P.2.1) rl rw ht sd ah cl)), (aI 600 gt), (aL 8 ln), (aL 8 wn), (aI 8 fs), (aI 24 ff), (aI 8 fb), (aI 8 fn), (aI 8 fp), (aZ 8 f3), (aI 64 fk), (aI 64 fx), (aI 64 fy), (aI 64 fc), (aI 11 fr), (aI 11 f1), (aI 11 f2), (aI 22 fi), (aB 4096 fo), (aB 8192 fq), (aZ 2 fh), (aI 2 fj), (aI 4096 fw), (aI 2100 fz)]) rfl rfl) hT hPm hG hRm hm0 hm1 hsd hht htp) (mFr_of (by intro a ha; simp only [List.mem_cons, List.not_mem_nil, or_false] at ha; omega))
  · have hsm0 : smB y1 y = 0 := Classical.byContradiction (fun z => b15 (rs_le.mpr z))
    rw [if_pos hsm0]
    refine w_aload_n dX10_summedAt_18 rfl ?_
    refine w_iload dX10_summedAt_19 rfl ?_
    refine w_callV (ci := 10) (d' := d + 3) (mc' := 0) (ms' := 0) (As := [.int 2]) (st := []) lX10_266 vX10_lost rfl (hUs_at nd 0 rfl rfl) rfl (Nat.le_of_ble_eq_true rfl) dX10_summedAt_21 (Nat.le_of_ble_eq_true rfl) (Nat.le_of_ble_eq_true rfl) (Nat.le_refl _) (m_lost (hHas_sub nd (as' := [m]) (cs' := [(oC 10 (mF m 0 tr pl (nI tp) sz sp fa fl tk ta sg nu wd (nI P.1) (nI P.2.1) rl rw ht sd ah cl))]) [0] rfl rfl) (nd_sub nd (as' := [m]) [0] rfl rfl)  ?_)
    refine w_heq (hUs_in nd rfl [0] (cs2 := [(oC 10 (mF m 0 2 (-1) (nI tp) sz sp fa fl tk ta sg nu wd (nI P.1) (nI P.2.1) rl rw ht sd ah cl)), (aI 11 fr), (aB 4096 fo), (aI 4096 fw)]) rfl rfl) ?_
    refine w_ireturn rfl dX10_summedAt_24 (Nat.le_of_ble_eq_true rfl) (Nat.le_of_ble_eq_true rfl) ?_
    have e : oSatF fo c y1 y u = ((-1000000000), 2) := by
      simp only [oSatF]
      exact if_pos (Or.inl hsm0)
    rw [e] at k
    exact k _ (mI_i (cI_put hW (mAs_nd m) rfl [0, 14, 18, 22] (cs2 := [(oC 10 (mF m 0 2 (-1) (nI tp) sz sp fa fl tk ta sg nu wd (nI P.1) (nI P.2.1) rl rw ht sd ah cl)), (aI 600 gt), (aL 8 ln), (aL 8 wn), (aI 8 fs), (aI 24 ff), (aI 8 fb), (aI 8 fn), (aI 8 fp), (aZ 8 f3), (aI 64 fk), (aI 64 fx), (aI 64 fy), (aI 64 fc), (aI 11 fr), (aI 11 f1), (aI 11 f2), (aI 22 fi), (aB 4096 fo), (aB 8192 fq), (aZ 2 fh), (aI 2 fj), (aI 4096 fw), (aI 2100 fz)]) rfl rfl) hT hPm hG hRm hm0 hm1 hsd hht htp) (mFr_of (by intro a ha; simp only [List.mem_cons, List.not_mem_nil, or_false] at ha; omega))
theorem q_summedAt {G : wG} {d : Nat} {h : hH} {Q : Option Value → hH → Prop} {m : Nat} {ft : Nat → Int32} {tp : Nat} {P : pD} {ht : Int32} {R : Option rnD} {i0 i1 : imD} {sd fa pl tr : Int32} {th : Int32}  {y1 y u : Int32} (hI : mI h m ft tp P ht R i0 i1 sd fa pl tr th) (k : ∀ h2, mI h2 m ft tp P ht R i0 i1 sd fa (-1) (oSat P (R) y1 y u).2 0 → mFr m h h2 → Q (some (.int (oSat P (R) y1 y u).1)) h2) : Cl G yX10_summedAt (d + 4) 0 0 [.ref m, .int y1, .int y, .int u] h Q := by
  cases R with
  | none => exact q_summedAt_n hI k
  | some r => obtain ⟨l, w, rs, c⟩ := r; exact q_summedAt_s hI k
