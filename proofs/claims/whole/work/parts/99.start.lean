theorem st_ex : ∀ r ∈ wSL, Cond.exactly (.string r.1 r.2.1) "java/lang/String" ∈ flatC (Jvm.Cond.and given_1 narrow_1) := by decide +kernel
theorem st_co : ∀ r ∈ wSL, Cond.eq (.field (.string r.1 r.2.1) "java/lang/String" "coder" "B") (.int 0) ∈ flatC (Jvm.Cond.and given_1 narrow_1) := by decide +kernel
theorem st_ar : ∀ r ∈ wSL, Cond.arrayOf (Term.field (.string r.1 r.2.1) "java/lang/String" "value" "[B") .byte ∈ flatC (Jvm.Cond.and given_1 narrow_1) := by decide +kernel
theorem st_le : ∀ r ∈ wSL, Cond.eq (.length (Term.field (.string r.1 r.2.1) "java/lang/String" "value" "[B")) (.int (Int32.ofNat r.2.2.2.1)) ∈ flatC (Jvm.Cond.and given_1 narrow_1) := by decide +kernel
theorem st_el : ∀ r ∈ wSL, ∀ j : Nat, j < r.2.2.2.1 → Cond.eq (.elem (Term.field (.string r.1 r.2.1) "java/lang/String" "value" "[B") (.int (Int32.ofNat j))) (.int (r.2.2.2.2.getD j 0)) ∈ flatC (Jvm.Cond.and given_1 narrow_1) := by decide +kernel
theorem st_ln : ∀ r ∈ wSL, r.2.2.2.1 < 2 ^ 31 := by decide +kernel
theorem st_rf : ∀ r ∈ wSL, Cond.stringRef r.1 r.2.1 r.2.2.1 ∈ lw_tbl := by decide +kernel
theorem wXL_in : ∀ w ∈ wXL, w ∈ lw_tbl ∧ w.onTables = true := by decide +kernel
theorem zt_cs : Cond.laysStatic "java/lang/String" "COMPACT_STRINGS" "Z" ∈ lw_tbl := tq 432 (by decide +kernel)
theorem zt_ci : Cond.initialized "java/lang/String" ∈ lw_tbl := tq 13 (by decide +kernel)
theorem zt_sf : Cond.laysStatic "jdk/internal/util/Preconditions" "SIOOBE_FORMATTER" "Ljava/util/function/BiFunction;" ∈ lw_tbl := tq 448 (by decide +kernel)
theorem zt_si : Cond.initialized "jdk/internal/util/Preconditions" ∈ lw_tbl := tq 15 (by decide +kernel)
theorem zt_us : Cond.laysStatic Bundle.tN "UNASSIGNED_STACK" Bundle.steD ∈ lw_tbl := tq 1008 (by decide +kernel)
theorem zt_ss : Cond.laysStatic Bundle.tN "SUPPRESSED_SENTINEL" Bundle.listD ∈ lw_tbl := tq 1010 (by decide +kernel)
theorem zt_ti : Cond.initialized Bundle.tN ∈ lw_tbl := tq 19 (by decide +kernel)
theorem zn_cs : Cond.eq (.static "java/lang/String" "COMPACT_STRINGS" "Z") (.int 1) ∈ flatC (Jvm.Cond.and given_1 narrow_1) := by decide +kernel
theorem zn_sf : Cond.isRef (.static "jdk/internal/util/Preconditions" "SIOOBE_FORMATTER" "Ljava/util/function/BiFunction;") ∈ flatC (Jvm.Cond.and given_1 narrow_1) := by decide +kernel
theorem zn_us : Cond.isRef (.static Bundle.tN "UNASSIGNED_STACK" Bundle.steD) ∈ flatC (Jvm.Cond.and given_1 narrow_1) := by decide +kernel
theorem zn_ss : Cond.isRef (.static Bundle.tN "SUPPRESSED_SENTINEL" Bundle.listD) ∈ flatC (Jvm.Cond.and given_1 narrow_1) := by decide +kernel
/-- the String constants as the Statement gives them -/
theorem st_of {args : Array Value} {s : State} {A : Nat → Prop} (hts : ∀ w ∈ lw_tbl, w.before args s = true) (hs : ∀ c ∈ flatC (Jvm.Cond.and given_1 narrow_1), c.before args s = true) (hA : ∀ a : Nat, a < s.heap.size → ¬ A a) : ∃ adK adV : Nat → Nat, ∀ (i : Nat) (r : String × Nat × String × Nat × List Int32), wSL[i]? = some r →
    vk_R r.1 r.2.1 r.2.2.1 (adK i) s ∧ va_O "java/lang/String" (adK i) A s s.heap ∧ va_OF "java/lang/String" "coder" "B" (.int 0) (adK i) A s s.heap ∧ va_OF "java/lang/String" "value" "[B" (.ref (adV i)) (adK i) A s s.heap ∧ va_T .byte (adV i) r.2.2.2.1 (fun j => .int (r.2.2.2.2.getD j 0)) A s s.heap := by
  have h0 : ∀ i : Nat, ∃ q : Nat × Nat, ∀ r : String × Nat × String × Nat × List Int32, wSL[i]? = some r →
      vk_R r.1 r.2.1 r.2.2.1 q.1 s ∧ va_O "java/lang/String" q.1 A s s.heap ∧ va_OF "java/lang/String" "coder" "B" (.int 0) q.1 A s s.heap ∧ va_OF "java/lang/String" "value" "[B" (.ref q.2) q.1 A s s.heap ∧ va_T .byte q.2 r.2.2.2.1 (fun j => .int (r.2.2.2.2.getD j 0)) A s s.heap := by
    intro i
    cases hr : wSL[i]? with
    | none => exact ⟨(0, 0), fun r e => by cases e⟩
    | some r =>
      have hm : r ∈ wSL := List.mem_of_getElem? hr
      obtain ⟨a, c, cA, kA, q1, q2, q3, q4, q5, q6, -⟩ := Cond.exactly_spec (args := args) (first := s) (o := none) (s := s) (idx := []) (t := .string r.1 r.2.1) (cls := "java/lang/String") (hs _ (st_ex r hm))
      obtain ⟨t, ht, hT⟩ := va_Tof (tm := (Term.field (.string r.1 r.2.1) "java/lang/String" "value" "[B")) (f := fun j => .int (r.2.2.2.2.getD j 0)) (A := A) (st_ln r hm) (hs _ (st_ar r hm)) (va_eqt (hs _ (st_le r hm))) (fun j hj => va_eqt (hs _ (st_el r hm j hj))) hA
      refine ⟨(a, t), fun r' e => ?_⟩
      cases e
      exact ⟨vk_R.of (hts _ (st_rf r hm)) q1, ⟨cA, q3, q5, by rw [q6]; exact q2, hA a (Array.getElem?_eq_some_iff.mp q3).1⟩, vk_OFof q1 (va_eqt (hs _ (st_co r hm))) hA, vk_OFof q1 ht hA, hT⟩
  obtain ⟨ad, had⟩ := Classical.axiomOfChoice h0
  exact ⟨fun i => (ad i).1, fun i => (ad i).2, fun i r hr => had i r hr⟩
theorem wTb_of {args : Array Value} {s : State} (hts : ∀ w ∈ lw_tbl, w.before args s = true) : wTb s := by
  intro w hw hk
  have h1 := hts w hw
  cases w <;> first
    | exact va_tabs rfl rfl h1
    | (simp [wOk, goodWord, Cond.onTables] at hk; done)
    | exact h1
theorem kn_of {args : Array Value} {s : State} (hts : ∀ w ∈ lw_tbl, w.before args s = true) : ∃ D : va_G, va_K D vwCl [] s := by
  have h0 : ∀ k : Nat, ∃ q : ClassId × (Nat → Nat), ∀ r : vw_C, vwCl[k]? = some r → u_Kn s r.1 r.2.1 r.2.2 q.1 q.2 := by
    intro k
    match k with
    | 0 =>
      obtain ⟨c9, i9, z9⟩ := u_known (C := RX0) (T := TX0) (N := 5) (n := 5) hts wcX0.2.1 (hts _ iX0)
      exact ⟨(c9, i9), fun r e => by cases e; exact z9⟩
    | 1 =>
      obtain ⟨c9, i9, z9⟩ := u_known (C := RX1) (T := TX1) (N := 9) (n := 9) hts wcX1.2.1 (hts _ iX1)
      exact ⟨(c9, i9), fun r e => by cases e; exact z9⟩
    | 2 =>
      obtain ⟨c9, i9, z9⟩ := u_known (C := RX2) (T := TX2) (N := 7) (n := 7) hts wcX2.2.1 (hts _ iX2)
      exact ⟨(c9, i9), fun r e => by cases e; exact z9⟩
    | 3 =>
      obtain ⟨c9, i9, z9⟩ := u_known (C := RX3) (T := TX3) (N := 6) (n := 6) hts wcX3.2.1 (hts _ iX3)
      exact ⟨(c9, i9), fun r e => by cases e; exact z9⟩
    | 4 =>
      obtain ⟨c9, i9, z9⟩ := u_known (C := RX4) (T := TX4) (N := 4) (n := 4) hts wcX4.2.1 (hts _ iX4)
      exact ⟨(c9, i9), fun r e => by cases e; exact z9⟩
    | 5 =>
      obtain ⟨c9, i9, z9⟩ := u_known (C := RX5) (T := TX5) (N := 10) (n := 10) hts wcX5.2.1 (hts _ iX5)
      exact ⟨(c9, i9), fun r e => by cases e; exact z9⟩
    | 6 =>
      obtain ⟨c9, i9, z9⟩ := u_known (C := RX6) (T := TX6) (N := 10) (n := 10) hts wcX6.2.1 (hts _ iX6)
      exact ⟨(c9, i9), fun r e => by cases e; exact z9⟩
    | 7 =>
      obtain ⟨c9, i9, z9⟩ := u_known (C := RX7) (T := TX7) (N := 7) (n := 7) hts wcX7.2.1 (hts _ iX7)
      exact ⟨(c9, i9), fun r e => by cases e; exact z9⟩
    | 8 =>
      obtain ⟨c9, i9, z9⟩ := u_known (C := RX8) (T := TX8) (N := 2) (n := 2) hts wcX8.2.1 (hts _ iX8)
      exact ⟨(c9, i9), fun r e => by cases e; exact z9⟩
    | 9 =>
      obtain ⟨c9, i9, z9⟩ := u_known (C := RX9) (T := TX9) (N := 14) (n := 14) hts wcX9.2.1 (hts _ iX9)
      exact ⟨(c9, i9), fun r e => by cases e; exact z9⟩
    | 10 =>
      obtain ⟨c9, i9, z9⟩ := u_known (C := RX10) (T := TX10) (N := 44) (n := 44) hts wcX10.2.1 (hts _ iX10)
      exact ⟨(c9, i9), fun r e => by cases e; exact z9⟩
    | k + 11 => exact ⟨(0, fun _ => 0), fun r e => by simp [vwCl] at e⟩
  obtain ⟨ad, had⟩ := Classical.axiomOfChoice h0
  exact ⟨(fun k => (ad k).1, fun k => (ad k).2), fun k r hr => had k r hr, fun k q e => by simp at e⟩
/-- the empty heap of ours at the law's entry -/
theorem hR_of {l : Launch} (hflags : l.flags = flags0) {args : Array Value} {s : State} (hts : ∀ w ∈ lw_tbl, w.before args s = true) (hgv : (Jvm.Cond.and given_1 narrow_1).before args s = true) : ∃ adK adV : Nat → Nat, hR (l, s.heap.size, adK, adV) (fun _ => none, s.heap.size) s.heap s := by
  have hs := flat_of_before _ hgv
  have hA : ∀ a : Nat, a < s.heap.size → ¬ (fun q : Nat => s.heap.size ≤ q) a := fun a h z => absurd h (Nat.not_lt.mpr z)
  obtain ⟨adK, adV, hstr⟩ := st_of (A := fun q : Nat => s.heap.size ≤ q) hts hs hA
  obtain ⟨D, hK⟩ := kn_of hts
  refine ⟨adK, adV, rfl, wTb_of hts, hstr, ⟨va_Zof (hts _ zt_cs) (hts _ zt_ci) (va_eqt (hs _ zn_cs)) hA, va_Zqof (hts _ zt_sf) (hts _ zt_si) (hs _ zn_sf) hA, vx_Zqof (hts _ zt_us) (hts _ zt_ti) (hs _ zn_us) hA, vx_Zqof (hts _ zt_ss) (hts _ zt_ti) (hs _ zn_ss) hA, ?_⟩, fun q c (hq : (none : Option hC) = some c) => (by cases hq), Nat.le_refl _, D, hK, fun q c (hq : (none : Option hC) = some c) => (by cases hq)⟩
  show (!l.flags.contains Jvm.noTraceFlag) = false
  rw [hflags]
  decide +kernel
theorem wX_of {args : Array Value} {s : State} (hts : ∀ w ∈ lw_tbl, w.before args s = true) : wX s := fun w hw => va_tabs (wXL_in w hw).2 rfl (hts w (wXL_in w hw).1)
