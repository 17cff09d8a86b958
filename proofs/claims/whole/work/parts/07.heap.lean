/-! rows that read or write the heap, and calls -/
/-- a class of the worlds: its fields stand in the tables -/
def wC (ci : Nat) (C : String) (T : u_T) (N : Nat) (ty : Nat → FieldType) : Prop := vwCl[ci]? = some (C, T, N) ∧ (∀ w ∈ u_ws C T N, w ∈ lw_tbl) ∧ (∀ k, k < N → parseFieldDescriptor (T k).2.2.1 = some (ty k)) ∧ (∀ a, a < N → ∀ b, b < N → a ≠ b → (T a).2.1 ≠ (T b).2.1)
/-- the entry idx of own's pool is the field k of the class ci, of type ty, final or not -/
def wF (own : String) (idx ci k : Nat) (ty : FieldType) (fin : Bool) : Prop := ∃ (C : String) (T : u_T) (N : Nat) (ty0 : Nat → FieldType), wC ci C T N ty0 ∧ k < N ∧ (T k).1 = C ∧ ty0 k = ty ∧ (T k).2.2.2 = fin ∧ (Cond.fieldLink own idx C (T k).2.1 (T k).2.2.1 ∈ lw_tbl ∨ ∃ host, Cond.fieldLinkNest own idx C (T k).2.1 (T k).2.2.1 host ∈ lw_tbl)
theorem wC.hts {ci : Nat} {C : String} {T : u_T} {N : Nat} {ty : Nat → FieldType} (h : wC ci C T N ty) {s : State} (ht : wTb s) {A : Array Value} : ∀ w ∈ u_ws C T N, w.before A s = true := by
  intro w hw
  have h1 := h.2.1 w hw
  obtain ⟨k, -, rfl⟩ := List.mem_map.mp hw
  have h2 : wOk (u_lay C T k) = true ∧ (u_lay C T k).onTables = true := by
    unfold u_lay
    split <;> exact ⟨rfl, rfl⟩
  exact ht.at h1 h2.1 h2.2
section
variable {G : wG} {own : String} {cc : ByteArray} {nL : Nat} {ret : Option FieldType} {ini : Bool} {d mc ms cells slots : Nat} {Q : Option Value → hH → Prop} {pc : Nat} {ls : List (Option Value)} {st : List Value} {h : hH}
theorem w_get {idx ci k q : Nat} {ty : FieldType} {fin : Bool} {fs : List Value} {v : Value} (hF : wF own idx ci k ty fin) (hq : h.1 q = some (oC ci fs)) (hv : fs[k]? = some v) (hd : decode cc pc = .ok (.getfield idx, 3)) (kk : WP G own cc nL ret ini d mc ms cells slots Q (pc + 3) ls (v :: st) h) : WP G own cc nL ret ini d mc ms cells slots Q pc ls (.ref q :: st) h := by
  intro p e s m args below meth c H locs lsA h1 h2 h3 h4 h5 h6 h7 h8 h9 h10
  have K9 := kk p e s m args below meth c H locs lsA h1 h2 h3 h4 h5 h6 h7 h8 h9 h10
  obtain ⟨C, T, N, ty0, hC, hk, hTC, -, -, hlink⟩ := hF
  obtain ⟨-, hts, -, -, -, -, D, hK, hcell⟩ := id h8
  obtain ⟨r, g1, cell, q1, q2, q3, q4⟩ := hcell q _ hq
  have hr : r = (C, T, N) := Option.some.inj (g1.symm.trans hC.1)
  subst hr
  obtain ⟨hS, hfc, kC, hkC, hkind⟩ := hK.1 ci _ hC.1
  obtain ⟨cf, kf, fi, f, hi, hsl⟩ := hS k hk
  have hst := (u_facts (args := args) hfc hkC (u_lays (hC.hts hts) (fun _ z => z) hk) hi).1
  have hsv : cell.slots[f.slot]? = some v := by
    rw [hsl, q4 k hk]
    simp [vp_V, hv]
  rw [hTC] at hi
  rcases hlink with hlink | ⟨host, hlink⟩
  · exact W.getf h1 h2 h5 (hts.at hlink rfl rfl) hi hst q1 (by rw [q3]; exact fun z => by cases z) (v := v) hsv rfl rfl hd K9
  · exact va_Wgetf h1 h2 h5 (hts.at hlink rfl rfl) hi hst q1 (by rw [q3]; exact fun z => by cases z) (v := v) hsv rfl rfl hd K9
theorem w_put {idx ci k q : Nat} {ty : FieldType} {fs fs' : List Value} {v : Value} (hF : wF own idx ci k ty false) (hq : h.1 q = some (oC ci fs)) (hn : narrow ty v = v) (hfit : fits ty v = true) (hl : k < fs.length) (hs : fs.set k v = fs') (hd : decode cc pc = .ok (.putfield idx, 3)) (kk : WP G own cc nL ret ini d mc ms cells slots Q (pc + 3) ls st (hU h q (oC ci fs'))) : WP G own cc nL ret ini d mc ms cells slots Q pc ls (v :: .ref q :: st) h := by
  intro p e s m args below meth c H locs lsA h1 h2 h3 h4 h5 h6 h7 h8 h9 h10
  subst hs
  obtain ⟨C, T, N, ty0, hC, hk, hTC, hty, hfin, hlink⟩ := hF
  obtain ⟨-, hts, -, -, hb0, -, D, hK, hcell⟩ := id h8
  obtain ⟨r, g1, cell, q1, q2, q3, q4⟩ := hcell q _ hq
  have hr : r = (C, T, N) := Option.some.inj (g1.symm.trans hC.1)
  subst hr
  obtain ⟨hS, hfc, kC, hkC, hkind⟩ := hK.1 ci _ hC.1
  obtain ⟨cf, kf, fi, f, hi, hsl⟩ := hS k hk
  have hws : ∀ w ∈ u_ws C T N, w.before args s = true := hC.hts hts
  have hlay := hws _ (u_in_lay hk)
  unfold u_lay at hlay
  rw [if_neg (by rw [hfin]; decide)] at hlay
  have hst := (u_facts (args := args) hfc hkC (u_lays hws (fun _ z => z) hk) hi).1
  have h66 := u_store hfc hkC hkind hlay hi ((hC.2.2.1 k hk).trans (congrArg some hty)) hn hfit
  rw [hTC] at hi
  have fin : ∀ H' : Heap, H'[q]? = some (cell.setSlot f.slot v) → H'.size = H.size → (∀ x, x ≠ q → H'[x]? = H[x]?) → W p G.1 e (wR d mc ms) s m args below meth c H' (locs ++ [⟨q, f.slot⟩]) cells slots (MQ below (wQc G Q) args s mc ms (wA G)) (F0 m (pc + 3) lsA st) := by
    intro H' e1 e2 e3
    refine kk p e s m args below meth c H' _ lsA h1 h2 h3 h4 h5 h6 h7 (h8.put hq e2 e3 (fun D' hK' hc' => ?_)) (h9.put e2 e3 (hb0 q _ hq)) h10
    obtain ⟨r', g1', cell', q1', q2', q3', q4'⟩ := hc'
    have hr' : r' = (C, T, N) := Option.some.inj (g1'.symm.trans hC.1)
    subst hr'
    cases q1.symm.trans q1'
    have hap := va_apart (own := own) (args := args) hws (fun _ z => z) ty0 hC.2.2.1 hC.2.2.2 hK' hC.1
    obtain ⟨cf2, kf2, fi2, f2, hi2, hsl2⟩ := (hK'.1 ci _ hC.1).1 k hk
    rw [hTC] at hi2
    have hff : f2.slot = f.slot := by
      have := hi2.symm.trans hi
      cases this
      rfl
    rw [hff] at hsl2
    rw [hsl2] at e1
    exact ⟨_, hC.1, t_OB.to (V := updV (vp_V fs) k v) ⟨_, e1, q2', q3', t_set q4' hap hk v⟩ (fun j _ => vp_updV_set hl v j)⟩
  rcases hlink with hlink | ⟨host, hlink⟩
  · exact W.putK h1 h2 (f := f) ⟨h5, hts.at hlink rfl rfl, ⟨_, _, _, hi⟩, hst⟩ (by rw [q2]; exact h66) q1 q3 (by rw [hsl]; exact k2_hasslot (q4 k hk)) rfl rfl hd fin
  · exact va_WputK h1 h2 (f := f) h5 (hts.at hlink rfl rfl) hi hst (by rw [q2]; exact h66) q1 q3 (by rw [hsl]; exact k2_hasslot (q4 k hk)) rfl rfl hd fin
theorem w_putF {idx ci k q : Nat} {ty : FieldType} {fs fs' : List Value} {v : Value} (hini : ini = true) (hF : wF own idx ci k ty true) (hown : (vwCl[ci]?.map (fun z => z.1)) = some own) (hq : h.1 q = some (oC ci fs)) (hn : narrow ty v = v) (hfit : fits ty v = true) (hl : k < fs.length) (hs : fs.set k v = fs') (hd : decode cc pc = .ok (.putfield idx, 3)) (kk : WP G own cc nL ret ini d mc ms cells slots Q (pc + 3) ls st (hU h q (oC ci fs'))) : WP G own cc nL ret ini d mc ms cells slots Q pc ls (v :: .ref q :: st) h := by
  intro p e s m args below meth c H locs lsA h1 h2 h3 h4 h5 h6 h7 h8 h9 h10
  subst hs
  obtain ⟨C, T, N, ty0, hC, hk, hTC, hty, hfin, hlink⟩ := hF
  obtain ⟨-, hts, -, -, hb0, -, D, hK, hcell⟩ := id h8
  obtain ⟨r, g1, cell, q1, q2, q3, q4⟩ := hcell q _ hq
  have hr : r = (C, T, N) := Option.some.inj (g1.symm.trans hC.1)
  subst hr
  have hCo : C = own := by
    rw [hC.1] at hown
    exact Option.some.inj hown
  obtain ⟨hS, hfc, kC, hkC, hkind⟩ := hK.1 ci _ hC.1
  obtain ⟨cf, kf, fi, f, hi, hsl⟩ := hS k hk
  have hws : ∀ w ∈ u_ws C T N, w.before args s = true := hC.hts hts
  have hlay := hws _ (u_in_lay hk)
  unfold u_lay at hlay
  rw [if_pos hfin] at hlay
  have hst := (u_facts (args := args) hfc hkC (u_lays hws (fun _ z => z) hk) hi).1
  have hcf : m.cls = cf := by
    obtain ⟨_, _, c', _, _, _, -, -, hf', -, -, -, hown2, -⟩ := Cond.laysFinal_spec hlay
    have e1 : c' = cf := by have := hi.symm.trans hf'; simp at this; exact this.1.symm
    rw [hTC, hCo] at hown2
    rw [← e1]; exact Option.some.inj (h5.symm.trans hown2)
  have h66 := u_fits hfc hkC hkind (Or.inr hlay) hi ((hC.2.2.1 k hk).trans (congrArg some hty)) hn hfit
  rw [hTC] at hi
  have fin : ∀ H' : Heap, H'[q]? = some (cell.setSlot f.slot v) → H'.size = H.size → (∀ x, x ≠ q → H'[x]? = H[x]?) → W p G.1 e (wR d mc ms) s m args below meth c H' (locs ++ [⟨q, f.slot⟩]) cells slots (MQ below (wQc G Q) args s mc ms (wA G)) (F0 m (pc + 3) lsA st) := by
    intro H' e1 e2 e3
    refine kk p e s m args below meth c H' _ lsA h1 h2 h3 h4 h5 h6 h7 (h8.put hq e2 e3 (fun D' hK' hc' => ?_)) (h9.put e2 e3 (hb0 q _ hq)) h10
    obtain ⟨r', g1', cell', q1', q2', q3', q4'⟩ := hc'
    have hr' : r' = (C, T, N) := Option.some.inj (g1'.symm.trans hC.1)
    subst hr'
    cases q1.symm.trans q1'
    have hap := va_apart (own := own) (args := args) hws (fun _ z => z) ty0 hC.2.2.1 hC.2.2.2 hK' hC.1
    obtain ⟨cf2, kf2, fi2, f2, hi2, hsl2⟩ := (hK'.1 ci _ hC.1).1 k hk
    rw [hTC] at hi2
    have hff : f2.slot = f.slot := by
      have := hi2.symm.trans hi
      cases this
      rfl
    rw [hff] at hsl2
    rw [hsl2] at e1
    exact ⟨_, hC.1, t_OB.to (V := updV (vp_V fs) k v) ⟨_, e1, q2', q3', t_set q4' hap hk v⟩ (fun j _ => vp_updV_set hl v j)⟩
  rcases hlink with hlink | ⟨host, hlink⟩
  · exact W.putFinK h1 h2 h5 (hts.at hlink rfl rfl) hi hst hcf (h7 hini) (by rw [q2]; exact h66) q1 q3 (by rw [hsl]; exact k2_hasslot (q4 k hk)) rfl rfl hd fin
  · refine va_Wputf h1 h2 h5 (hts.at hlink rfl rfl) hi hst (Or.inr ⟨hcf, h7 hini⟩) q1 (by rw [q3]; exact fun z => by cases z) (by rw [hsl]; exact k2_hasslot (q4 k hk)) h66.1 (by rw [q2, q3]; exact h66.2) rfl rfl hd ?_
    have ha : q < H.size := (Array.getElem?_eq_some_iff.mp q1).1
    exact fin _ (by simp [Array.getElem?_setIfInBounds, ha]) (by simp) (fun x hx => by simp [Array.getElem?_setIfInBounds, Ne.symm hx])
theorem w_iaload {q n : Nat} {f : Nat → Int32} {i : Int32} (hq : h.1 q = some (aI n f)) (hin : vp_in i n) (hd : decode cc pc = .ok (.iaload, 1)) (kk : WP G own cc nL ret ini d mc ms cells slots Q (pc + 1) ls (.int (f i.toNatClampNeg) :: st) h) : WP G own cc nL ret ini d mc ms cells slots Q pc ls (.int i :: .ref q :: st) h := by
  intro p e s m args below meth c H locs lsA h1 h2 h3 h4 h5 h6 h7 h8 h9 h10
  have K9 := kk p e s m args below meth c H locs lsA h1 h2 h3 h4 h5 h6 h7 h8 h9 h10
  obtain ⟨-, -, -, -, -, -, D, hK, hcell⟩ := id h8
  obtain ⟨cA, g1, g2, g3⟩ := hcell q _ hq
  have hlt : i.toNatClampNeg < n := Nat.not_le.mp fun z => hin (Or.inr z)
  exact W.iald (v := .int (f i.toNatClampNeg)) h1 h2 g3 (g1 n (fun j => .int (f j))) (fun z => by cases z) (by show ¬ (i < 0 ∨ (arrV _ _ _).slots.size ≤ _); rw [arrV_size]; exact hin) (by show (arrV _ _ _).slots[_]? = _; rw [arrV_read _ _ hlt]) rfl rfl hd K9
theorem w_baload {q n : Nat} {f : Nat → Int32} {i : Int32} (hq : h.1 q = some (aB n f)) (hin : vp_in i n) (hd : decode cc pc = .ok (.baload, 1)) (kk : WP G own cc nL ret ini d mc ms cells slots Q (pc + 1) ls (.int (f i.toNatClampNeg) :: st) h) : WP G own cc nL ret ini d mc ms cells slots Q pc ls (.int i :: .ref q :: st) h := by
  intro p e s m args below meth c H locs lsA h1 h2 h3 h4 h5 h6 h7 h8 h9 h10
  have K9 := kk p e s m args below meth c H locs lsA h1 h2 h3 h4 h5 h6 h7 h8 h9 h10
  obtain ⟨-, -, -, -, -, -, D, hK, hcell⟩ := id h8
  obtain ⟨cA, g1, g2, g3⟩ := hcell q _ hq
  have hlt : i.toNatClampNeg < n := Nat.not_le.mp fun z => hin (Or.inr z)
  exact W.bald (v := .int (f i.toNatClampNeg)) h1 h2 g3 (g1 n (fun j => .int (f j))) (fun z => by cases z) (by show ¬ (i < 0 ∨ (arrV _ _ _).slots.size ≤ _); rw [arrV_size]; exact hin) (by show (arrV _ _ _).slots[_]? = _; rw [arrV_read _ _ hlt]) rfl rfl hd K9
theorem w_zaload {q n : Nat} {f : Nat → Int32} {i : Int32} (hq : h.1 q = some (aZ n f)) (hin : vp_in i n) (hd : decode cc pc = .ok (.baload, 1)) (kk : WP G own cc nL ret ini d mc ms cells slots Q (pc + 1) ls (.int (f i.toNatClampNeg) :: st) h) : WP G own cc nL ret ini d mc ms cells slots Q pc ls (.int i :: .ref q :: st) h := by
  intro p e s m args below meth c H locs lsA h1 h2 h3 h4 h5 h6 h7 h8 h9 h10
  have K9 := kk p e s m args below meth c H locs lsA h1 h2 h3 h4 h5 h6 h7 h8 h9 h10
  obtain ⟨-, -, -, -, -, -, D, hK, hcell⟩ := id h8
  obtain ⟨cA, g1, g2, g3⟩ := hcell q _ hq
  have hlt : i.toNatClampNeg < n := Nat.not_le.mp fun z => hin (Or.inr z)
  exact W.zald (v := .int (f i.toNatClampNeg)) h1 h2 g3 (g1 n (fun j => .int (f j))) (fun z => by cases z) (by show ¬ (i < 0 ∨ (arrV _ _ _).slots.size ≤ _); rw [arrV_size]; exact hin) (by show (arrV _ _ _).slots[_]? = _; rw [arrV_read _ _ hlt]) rfl rfl hd K9
theorem w_laload {q n : Nat} {f : Nat → Int64} {i : Int32} (hq : h.1 q = some (aL n f)) (hin : vp_in i n) (hd : decode cc pc = .ok (.laload, 1)) (kk : WP G own cc nL ret ini d mc ms cells slots Q (pc + 1) ls (.long (f i.toNatClampNeg) :: st) h) : WP G own cc nL ret ini d mc ms cells slots Q pc ls (.int i :: .ref q :: st) h := by
  intro p e s m args below meth c H locs lsA h1 h2 h3 h4 h5 h6 h7 h8 h9 h10
  have K9 := kk p e s m args below meth c H locs lsA h1 h2 h3 h4 h5 h6 h7 h8 h9 h10
  obtain ⟨-, -, -, -, -, -, D, hK, hcell⟩ := id h8
  obtain ⟨cA, g1, g2, g3⟩ := hcell q _ hq
  have hlt : i.toNatClampNeg < n := Nat.not_le.mp fun z => hin (Or.inr z)
  exact W.lald (v := .long (f i.toNatClampNeg)) h1 h2 g3 (g1 n (fun j => .long (f j))) (fun z => by cases z) (by show ¬ (i < 0 ∨ (arrV _ _ _).slots.size ≤ _); rw [arrV_size]; exact hin) (by show (arrV _ _ _).slots[_]? = _; rw [arrV_read _ _ hlt]) rfl rfl hd K9
theorem w_ialoadN {q n j : Nat} {f : Nat → Int32} (hq : h.1 q = some (aI n f)) (hj : j < n) (hn : n < 2 ^ 31) (hd : decode cc pc = .ok (.iaload, 1)) (kk : WP G own cc nL ret ini d mc ms cells slots Q (pc + 1) ls (.int (f j) :: st) h) : WP G own cc nL ret ini d mc ms cells slots Q pc ls (.int (nI j) :: .ref q :: st) h := by
  refine w_iaload hq (vp_in_nI hj hn) hd ?_
  rw [nI_clamp (Nat.lt_trans hj hn)]
  exact kk
theorem w_baloadN {q n j : Nat} {f : Nat → Int32} (hq : h.1 q = some (aB n f)) (hj : j < n) (hn : n < 2 ^ 31) (hd : decode cc pc = .ok (.baload, 1)) (kk : WP G own cc nL ret ini d mc ms cells slots Q (pc + 1) ls (.int (f j) :: st) h) : WP G own cc nL ret ini d mc ms cells slots Q pc ls (.int (nI j) :: .ref q :: st) h := by
  refine w_baload hq (vp_in_nI hj hn) hd ?_
  rw [nI_clamp (Nat.lt_trans hj hn)]
  exact kk
theorem w_zaloadN {q n j : Nat} {f : Nat → Int32} (hq : h.1 q = some (aZ n f)) (hj : j < n) (hn : n < 2 ^ 31) (hd : decode cc pc = .ok (.baload, 1)) (kk : WP G own cc nL ret ini d mc ms cells slots Q (pc + 1) ls (.int (f j) :: st) h) : WP G own cc nL ret ini d mc ms cells slots Q pc ls (.int (nI j) :: .ref q :: st) h := by
  refine w_zaload hq (vp_in_nI hj hn) hd ?_
  rw [nI_clamp (Nat.lt_trans hj hn)]
  exact kk
theorem w_laloadN {q n j : Nat} {f : Nat → Int64} (hq : h.1 q = some (aL n f)) (hj : j < n) (hn : n < 2 ^ 31) (hd : decode cc pc = .ok (.laload, 1)) (kk : WP G own cc nL ret ini d mc ms cells slots Q (pc + 1) ls (.long (f j) :: st) h) : WP G own cc nL ret ini d mc ms cells slots Q pc ls (.int (nI j) :: .ref q :: st) h := by
  refine w_laload hq (vp_in_nI hj hn) hd ?_
  rw [nI_clamp (Nat.lt_trans hj hn)]
  exact kk
theorem w_aaload {q n : Nat} {C : String} {f : Nat → Option Nat} {i : Int32} (hq : h.1 q = some (aR C n f)) (hin : vp_in i n) (hd : decode cc pc = .ok (.aaload, 1)) (kk : WP G own cc nL ret ini d mc ms cells slots Q (pc + 1) ls (va_rf (f i.toNatClampNeg) :: st) h) : WP G own cc nL ret ini d mc ms cells slots Q pc ls (.int i :: .ref q :: st) h := by
  intro p e s m args below meth c H locs lsA h1 h2 h3 h4 h5 h6 h7 h8 h9 h10
  have K9 := kk p e s m args below meth c H locs lsA h1 h2 h3 h4 h5 h6 h7 h8 h9 h10
  obtain ⟨-, -, -, -, -, -, D, hK, hcell⟩ := id h8
  obtain ⟨cA, g1, g2, g3⟩ := hcell q _ hq
  have hlt : i.toNatClampNeg < n := Nat.not_le.mp fun z => hin (Or.inr z)
  exact W.aald (v := va_rf (f i.toNatClampNeg)) (ty := .object C) h1 h2 g3 (g1 n (fun j => va_rf (f j))) rfl (fun z => by cases z) (by show ¬ (i < 0 ∨ (arrV _ _ _).slots.size ≤ _); rw [arrV_size]; exact hin) (by show (arrV _ _ _).slots[_]? = _; rw [arrV_read _ _ hlt]) rfl rfl hd K9
theorem w_alen {q : Nat} {ty : FieldType} {a : vp_A} {v : Int32} (hq : h.1 q = some (.inl (ty, a))) (hv : Int32.ofNat a.1 = v) (hd : decode cc pc = .ok (.arraylength, 1)) (kk : WP G own cc nL ret ini d mc ms cells slots Q (pc + 1) ls (.int v :: st) h) : WP G own cc nL ret ini d mc ms cells slots Q pc ls (.ref q :: st) h := by
  intro p e s m args below meth c H locs lsA h1 h2 h3 h4 h5 h6 h7 h8 h9 h10
  subst hv
  have K9 := kk p e s m args below meth c H locs lsA h1 h2 h3 h4 h5 h6 h7 h8 h9 h10
  obtain ⟨-, -, -, -, -, -, D, hK, hcell⟩ := id h8
  obtain ⟨cA, g1, g2, g3⟩ := hcell q _ hq
  obtain ⟨n, f | f | f | f | f⟩ := a
  · exact W.alen (n := Int32.ofNat n) h1 h2 g3 (g1 n (fun j => .int (f j))) (by rw [vp_cell_i, arrV_size] <;> rfl) rfl rfl hd K9
  · exact W.alen (n := Int32.ofNat n) h1 h2 g3 (g1 n (fun j => .long (f j))) (by rw [vp_cell_l, arrV_size] <;> rfl) rfl rfl hd K9
  · exact W.alen (n := Int32.ofNat n) h1 h2 g3 (g1 n (fun j => .float (f j))) (by rw [vp_cell_f, arrV_size] <;> rfl) rfl rfl hd K9
  · exact W.alen (n := Int32.ofNat n) h1 h2 g3 (g1 n (fun j => .double (f j))) (by rw [vp_cell_d, arrV_size] <;> rfl) rfl rfl hd K9
  · exact W.alen (n := Int32.ofNat n) h1 h2 g3 (g1 n (fun j => va_rf (f j))) (by rw [vp_cell_q, arrV_size] <;> rfl) rfl rfl hd K9
theorem w_iastore {q n : Nat} {f : Nat → Int32} {i : Int32} {x : Int32} (hq : h.1 q = some (aI n f)) (hin : vp_in i n) (hd : decode cc pc = .ok (.iastore, 1)) (kk : WP G own cc nL ret ini d mc ms cells slots Q (pc + 1) ls st (hU h q (aI n (upd f i.toNatClampNeg x)))) : WP G own cc nL ret ini d mc ms cells slots Q pc ls (.int x :: .int i :: .ref q :: st) h := by
  intro p e s m args below meth c H locs lsA h1 h2 h3 h4 h5 h6 h7 h8 h9 h10
  obtain ⟨-, -, -, -, hb0, -, D, hK, hcell⟩ := id h8
  obtain ⟨cA, g1, g2, g3⟩ := hcell q _ hq
  refine W.iast h1 h2 g3 (g1 n (fun j => .int (f j))) (fun z => by cases z) (by show ¬ (i < 0 ∨ (arrV _ _ _).slots.size ≤ _); rw [arrV_size]; exact hin) rfl rfl hd fun H1 e1 z oq => ?_
  refine kk p e s m args below meth c H1 _ lsA h1 h2 h3 h4 h5 h6 h7 (h8.put hq z oq (fun D' hK' hc' => ?_)) (h9.put z oq (hb0 q _ hq)) h10
  refine ⟨cA, g1, g2, ?_⟩
  show H1[q]? = some (vp_cell _ _)
  rw [e1]
  rw [vp_cell_i, vp_cell_i, arrV_store]
  congr 2
  funext j
  by_cases hj : j = i.toNatClampNeg
  · subst hj
    simp [updV, upd]
    try rfl
  · simp [updV, upd, hj]
theorem w_bastore {q n : Nat} {f : Nat → Int32} {i : Int32} {x : Int32} (hq : h.1 q = some (aB n f)) (hin : vp_in i n) (hd : decode cc pc = .ok (.bastore, 1)) (kk : WP G own cc nL ret ini d mc ms cells slots Q (pc + 1) ls st (hU h q (aB n (upd f i.toNatClampNeg (vp_nar .byte x))))) : WP G own cc nL ret ini d mc ms cells slots Q pc ls (.int x :: .int i :: .ref q :: st) h := by
  intro p e s m args below meth c H locs lsA h1 h2 h3 h4 h5 h6 h7 h8 h9 h10
  obtain ⟨-, -, -, -, hb0, -, D, hK, hcell⟩ := id h8
  obtain ⟨cA, g1, g2, g3⟩ := hcell q _ hq
  refine W.bast h1 h2 g3 (g1 n (fun j => .int (f j))) (fun z => by cases z) (by show ¬ (i < 0 ∨ (arrV _ _ _).slots.size ≤ _); rw [arrV_size]; exact hin) rfl rfl hd fun H1 e1 z oq => ?_
  refine kk p e s m args below meth c H1 _ lsA h1 h2 h3 h4 h5 h6 h7 (h8.put hq z oq (fun D' hK' hc' => ?_)) (h9.put z oq (hb0 q _ hq)) h10
  refine ⟨cA, g1, g2, ?_⟩
  show H1[q]? = some (vp_cell _ _)
  rw [e1]
  rw [vp_cell_i, vp_cell_i, arrV_store]
  congr 2
  funext j
  by_cases hj : j = i.toNatClampNeg
  · subst hj
    simp [updV, upd, vp_nar]
    try rfl
  · simp [updV, upd, vp_nar, hj]
theorem w_zastore {q n : Nat} {f : Nat → Int32} {i : Int32} {x : Int32} (hq : h.1 q = some (aZ n f)) (hin : vp_in i n) (hd : decode cc pc = .ok (.bastore, 1)) (kk : WP G own cc nL ret ini d mc ms cells slots Q (pc + 1) ls st (hU h q (aZ n (upd f i.toNatClampNeg (vp_nar .boolean x))))) : WP G own cc nL ret ini d mc ms cells slots Q pc ls (.int x :: .int i :: .ref q :: st) h := by
  intro p e s m args below meth c H locs lsA h1 h2 h3 h4 h5 h6 h7 h8 h9 h10
  obtain ⟨-, -, -, -, hb0, -, D, hK, hcell⟩ := id h8
  obtain ⟨cA, g1, g2, g3⟩ := hcell q _ hq
  refine W.zast h1 h2 g3 (g1 n (fun j => .int (f j))) (fun z => by cases z) (by show ¬ (i < 0 ∨ (arrV _ _ _).slots.size ≤ _); rw [arrV_size]; exact hin) rfl rfl hd fun H1 e1 z oq => ?_
  refine kk p e s m args below meth c H1 _ lsA h1 h2 h3 h4 h5 h6 h7 (h8.put hq z oq (fun D' hK' hc' => ?_)) (h9.put z oq (hb0 q _ hq)) h10
  refine ⟨cA, g1, g2, ?_⟩
  show H1[q]? = some (vp_cell _ _)
  rw [e1]
  rw [vp_cell_i, vp_cell_i, arrV_store]
  congr 2
  funext j
  by_cases hj : j = i.toNatClampNeg
  · subst hj
    simp [updV, upd, vp_nar]
    try rfl
  · simp [updV, upd, vp_nar, hj]
theorem w_lastore {q n : Nat} {f : Nat → Int64} {i : Int32} {x : Int64} (hq : h.1 q = some (aL n f)) (hin : vp_in i n) (hd : decode cc pc = .ok (.lastore, 1)) (kk : WP G own cc nL ret ini d mc ms cells slots Q (pc + 1) ls st (hU h q (aL n (vp_updL f i.toNatClampNeg x)))) : WP G own cc nL ret ini d mc ms cells slots Q pc ls (.long x :: .int i :: .ref q :: st) h := by
  intro p e s m args below meth c H locs lsA h1 h2 h3 h4 h5 h6 h7 h8 h9 h10
  obtain ⟨-, -, -, -, hb0, -, D, hK, hcell⟩ := id h8
  obtain ⟨cA, g1, g2, g3⟩ := hcell q _ hq
  refine W.last h1 h2 g3 (g1 n (fun j => .long (f j))) (fun z => by cases z) (by show ¬ (i < 0 ∨ (arrV _ _ _).slots.size ≤ _); rw [arrV_size]; exact hin) rfl rfl hd fun H1 e1 z oq => ?_
  refine kk p e s m args below meth c H1 _ lsA h1 h2 h3 h4 h5 h6 h7 (h8.put hq z oq (fun D' hK' hc' => ?_)) (h9.put z oq (hb0 q _ hq)) h10
  refine ⟨cA, g1, g2, ?_⟩
  show H1[q]? = some (vp_cell _ _)
  rw [e1]
  rw [vp_cell_l, vp_cell_l, arrV_store]
  congr 2
  funext j
  by_cases hj : j = i.toNatClampNeg
  · subst hj
    simp [updV, vp_updL]
    try rfl
  · simp [updV, vp_updL, hj]
theorem w_iastoreN {q n j : Nat} {f : Nat → Int32} {x : Int32} (hq : h.1 q = some (aI n f)) (hj : j < n) (hn : n < 2 ^ 31) (hd : decode cc pc = .ok (.iastore, 1)) (kk : WP G own cc nL ret ini d mc ms cells slots Q (pc + 1) ls st (hU h q (aI n (upd f j x)))) : WP G own cc nL ret ini d mc ms cells slots Q pc ls (.int x :: .int (nI j) :: .ref q :: st) h := by
  refine w_iastore hq (vp_in_nI hj hn) hd ?_
  rw [nI_clamp (Nat.lt_trans hj hn)]
  exact kk
theorem w_bastoreN {q n j : Nat} {f : Nat → Int32} {x : Int32} (hq : h.1 q = some (aB n f)) (hj : j < n) (hn : n < 2 ^ 31) (hd : decode cc pc = .ok (.bastore, 1)) (kk : WP G own cc nL ret ini d mc ms cells slots Q (pc + 1) ls st (hU h q (aB n (upd f j (vp_nar .byte x))))) : WP G own cc nL ret ini d mc ms cells slots Q pc ls (.int x :: .int (nI j) :: .ref q :: st) h := by
  refine w_bastore hq (vp_in_nI hj hn) hd ?_
  rw [nI_clamp (Nat.lt_trans hj hn)]
  exact kk
theorem w_zastoreN {q n j : Nat} {f : Nat → Int32} {x : Int32} (hq : h.1 q = some (aZ n f)) (hj : j < n) (hn : n < 2 ^ 31) (hd : decode cc pc = .ok (.bastore, 1)) (kk : WP G own cc nL ret ini d mc ms cells slots Q (pc + 1) ls st (hU h q (aZ n (upd f j (vp_nar .boolean x))))) : WP G own cc nL ret ini d mc ms cells slots Q pc ls (.int x :: .int (nI j) :: .ref q :: st) h := by
  refine w_zastore hq (vp_in_nI hj hn) hd ?_
  rw [nI_clamp (Nat.lt_trans hj hn)]
  exact kk
theorem w_lastoreN {q n j : Nat} {f : Nat → Int64} {x : Int64} (hq : h.1 q = some (aL n f)) (hj : j < n) (hn : n < 2 ^ 31) (hd : decode cc pc = .ok (.lastore, 1)) (kk : WP G own cc nL ret ini d mc ms cells slots Q (pc + 1) ls st (hU h q (aL n (vp_updL f j x)))) : WP G own cc nL ret ini d mc ms cells slots Q pc ls (.long x :: .int (nI j) :: .ref q :: st) h := by
  refine w_lastore hq (vp_in_nI hj hn) hd ?_
  rw [nI_clamp (Nat.lt_trans hj hn)]
  exact kk
theorem w_aaloadN {q n j : Nat} {C : String} {f : Nat → Option Nat} (hq : h.1 q = some (aR C n f)) (hj : j < n) (hn : n < 2 ^ 31) (hd : decode cc pc = .ok (.aaload, 1)) (kk : WP G own cc nL ret ini d mc ms cells slots Q (pc + 1) ls (va_rf (f j) :: st) h) : WP G own cc nL ret ini d mc ms cells slots Q pc ls (.int (nI j) :: .ref q :: st) h := by
  refine w_aaload hq (vp_in_nI hj hn) hd ?_
  rw [nI_clamp (Nat.lt_trans hj hn)]
  exact kk
theorem w_aastore {q n v ci : Nat} {r : vw_C} {vs : List Value} {f : Nat → Option Nat} {i : Int32} (hc : vwCl[ci]? = some r) (hq : h.1 q = some (aR r.1 n f)) (hv : h.1 v = some (oC ci vs)) (hin : vp_in i n) (hd : decode cc pc = .ok (.aastore, 1)) (kk : WP G own cc nL ret ini d mc ms cells slots Q (pc + 1) ls st (hU h q (aR r.1 n (va_up f i.toNatClampNeg (some v))))) : WP G own cc nL ret ini d mc ms cells slots Q pc ls (.ref v :: .int i :: .ref q :: st) h := by
  intro p e s m args below meth c H locs lsA h1 h2 h3 h4 h5 h6 h7 h8 h9 h10
  obtain ⟨-, -, -, -, hb0, -, D, hK, hcell⟩ := id h8
  obtain ⟨cA, g1, g2, g3⟩ := hcell q _ hq
  obtain ⟨r', hr', cellV, v1, v2, v3, -⟩ := hcell v _ hv
  have hlt : i.toNatClampNeg < n := Nat.not_le.mp fun z => hin (Or.inr z)
  have h0 : ¬ i < 0 := fun z => hin (Or.inl z)
  have hcls := (hK.1 ci r hc).2
  obtain ⟨kA, comp, k1, k2, k3, -⟩ := id g2
  have hcomp : comp = D.1 ci := Option.some.inj (k3.symm.trans hcls.1)
  subst hcomp
  obtain ⟨kC, hkC, -⟩ := hcls.2
  refine W.aast h1 h2 g3 (fun z y => by cases y) (fun y => by cases y) k1 k2 rfl hkC ⟨h0, by show _ < (arrV _ _ _).slots.size; rw [arrV_size]; exact hlt⟩ v1 (fun z y => by rw [v3] at y; cases y) (by rw [v2]; exact hkC) (by rw [v2]; exact va_assign hcls) rfl rfl hd fun H1 e1 z oq => ?_
  refine kk p e s m args below meth c H1 _ lsA h1 h2 h3 h4 h5 h6 h7 (h8.put hq z oq (fun D' hK' hc' => ?_)) (h9.put z oq (hb0 q _ hq)) h10
  refine ⟨cA, g1, g2, ?_⟩
  show H1[q]? = some (vp_cell _ _)
  rw [e1]
  rw [vp_cell_q, vp_cell_q, arrV_store]
  congr 2
  funext j
  by_cases hj : j = i.toNatClampNeg
  · subst hj
    simp [updV, va_up, va_rf]
  · simp [updV, va_up, hj]
theorem w_new {idx ci N : Nat} {C : String} {T : u_T} {ty : Nat → FieldType} {fs : List Value} (hC : wC ci C T N ty) (hl : Cond.classLink own idx C ∈ lw_tbl) (hi : Cond.instantiable C N ∈ lw_tbl) (hz : Cond.initialized C ∈ lw_tbl) (hfs : ∀ j, j < N → defaultValue (ty j) = vp_V fs j) (hcells : cells + 1 ≤ mc) (hslots : slots + N ≤ ms) (hd : decode cc pc = .ok (.new idx, 3)) (kk : WP G own cc nL ret ini d mc ms (cells + 1) (slots + N) Q (pc + 3) ls (.ref h.2 :: st) (hN h (oC ci fs))) : WP G own cc nL ret ini d mc ms cells slots Q pc ls st h := by
  intro p e s m args below meth c H locs lsA h1 h2 h3 h4 h5 h6 h7 h8 h9 h10
  obtain ⟨hsz, hts, -, -, hb0, -, D, hK, hcell⟩ := id h8
  have hKn := hK.1 ci _ hC.1
  refine W.newcK h1 h2 h5 (hts.at hl rfl rfl) (hts.at hi rfl rfl) (hts.at hz rfl rfl) rfl hd hcells hslots hKn.2.1 rfl fun H1 kC hkC e1 z1 o1 => ?_
  have hX := kk p e s m args below meth c H1 locs lsA h1 h2 h3 h4 h5 h6 h7 (h8.new z1 o1 (fun D' hK' => ?_)) ⟨Nat.le_trans h9.1 (by omega), fun x g1 g2 => (o1 x (Nat.lt_of_lt_of_le g1 h9.1)).trans (h9.2.1 x g1 g2), h9.2.2⟩ h10
  · rw [← hsz] at hX
    exact hX
  · have hKn' := hK'.1 ci _ hC.1
    have hcc : D'.1 ci = D.1 ci := Option.some.inj (hKn'.2.1.symm.trans hKn.2.1)
    exact ⟨_, hC.1, (u_born (args := args) ty (hC.hts hts) (fun _ z => z) hKn' (hcc ▸ hkC) (by rw [hcc]; exact e1) hC.2.2.1).to hfs⟩
theorem w_newI {n : Int32} {N : Nat} (hw : Cond.arrayClass .int ∈ lw_tbl) (hn : ¬ n < 0) (hNn : n.toNatClampNeg = N) (hbig : N * componentBytes .int ≤ 536870912) (hcells : cells + 1 ≤ mc) (hslots : slots + N ≤ ms) (hd : decode cc pc = .ok (.newarray .int, 2)) (kk : WP G own cc nL ret ini d mc ms (cells + 1) (slots + N) Q (pc + 2) ls (.ref h.2 :: st) (hN h (aI N (fun _ => 0)))) : WP G own cc nL ret ini d mc ms cells slots Q pc ls (.int n :: st) h := by
  intro p e s m args below meth c H locs lsA h1 h2 h3 h4 h5 h6 h7 h8 h9 h10
  obtain ⟨hsz, hts, -, -, hb0, -, D, hK, hcell⟩ := id h8
  have hwd : (Cond.arrayClass .int).before args s = true := by
    have h0 := hts _ hw rfl
    first
      | exact h0
      | exact va_tabs rfl rfl h0
  refine va_newaK (atype := .int) h1 h2 hwd rfl hd rfl hn hNn hbig hcells hslots rfl fun H1 cA e1 z1 o1 hAr hNm => ?_
  have hX := kk p e s m args below meth c H1 locs lsA h1 h2 h3 h4 h5 h6 h7 (h8.new z1 o1 (fun D' hK' => ?_)) ⟨Nat.le_trans h9.1 (by omega), fun x g1 g2 => (o1 x (Nat.lt_of_lt_of_le g1 h9.1)).trans (h9.2.1 x g1 g2), h9.2.2⟩ h10
  · rw [← hsz] at hX
    exact hX
  · refine ⟨cA, hAr, hNm, ?_⟩
    show H1[H.size]? = some (vp_cell _ _)
    rw [vp_cell_i]
    exact e1
theorem w_newB {n : Int32} {N : Nat} (hw : Cond.arrayClass .byte ∈ lw_tbl) (hn : ¬ n < 0) (hNn : n.toNatClampNeg = N) (hbig : N * componentBytes .byte ≤ 536870912) (hcells : cells + 1 ≤ mc) (hslots : slots + N ≤ ms) (hd : decode cc pc = .ok (.newarray .byte, 2)) (kk : WP G own cc nL ret ini d mc ms (cells + 1) (slots + N) Q (pc + 2) ls (.ref h.2 :: st) (hN h (aB N (fun _ => 0)))) : WP G own cc nL ret ini d mc ms cells slots Q pc ls (.int n :: st) h := by
  intro p e s m args below meth c H locs lsA h1 h2 h3 h4 h5 h6 h7 h8 h9 h10
  obtain ⟨hsz, hts, -, -, hb0, -, D, hK, hcell⟩ := id h8
  have hwd : (Cond.arrayClass .byte).before args s = true := by
    have h0 := hts _ hw rfl
    first
      | exact h0
      | exact va_tabs rfl rfl h0
  refine va_newaK (atype := .byte) h1 h2 hwd rfl hd rfl hn hNn hbig hcells hslots rfl fun H1 cA e1 z1 o1 hAr hNm => ?_
  have hX := kk p e s m args below meth c H1 locs lsA h1 h2 h3 h4 h5 h6 h7 (h8.new z1 o1 (fun D' hK' => ?_)) ⟨Nat.le_trans h9.1 (by omega), fun x g1 g2 => (o1 x (Nat.lt_of_lt_of_le g1 h9.1)).trans (h9.2.1 x g1 g2), h9.2.2⟩ h10
  · rw [← hsz] at hX
    exact hX
  · refine ⟨cA, hAr, hNm, ?_⟩
    show H1[H.size]? = some (vp_cell _ _)
    rw [vp_cell_i]
    exact e1
theorem w_newZ {n : Int32} {N : Nat} (hw : Cond.arrayClass .boolean ∈ lw_tbl) (hn : ¬ n < 0) (hNn : n.toNatClampNeg = N) (hbig : N * componentBytes .boolean ≤ 536870912) (hcells : cells + 1 ≤ mc) (hslots : slots + N ≤ ms) (hd : decode cc pc = .ok (.newarray .boolean, 2)) (kk : WP G own cc nL ret ini d mc ms (cells + 1) (slots + N) Q (pc + 2) ls (.ref h.2 :: st) (hN h (aZ N (fun _ => 0)))) : WP G own cc nL ret ini d mc ms cells slots Q pc ls (.int n :: st) h := by
  intro p e s m args below meth c H locs lsA h1 h2 h3 h4 h5 h6 h7 h8 h9 h10
  obtain ⟨hsz, hts, -, -, hb0, -, D, hK, hcell⟩ := id h8
  have hwd : (Cond.arrayClass .boolean).before args s = true := by
    have h0 := hts _ hw rfl
    first
      | exact h0
      | exact va_tabs rfl rfl h0
  refine va_newaK (atype := .boolean) h1 h2 hwd rfl hd rfl hn hNn hbig hcells hslots rfl fun H1 cA e1 z1 o1 hAr hNm => ?_
  have hX := kk p e s m args below meth c H1 locs lsA h1 h2 h3 h4 h5 h6 h7 (h8.new z1 o1 (fun D' hK' => ?_)) ⟨Nat.le_trans h9.1 (by omega), fun x g1 g2 => (o1 x (Nat.lt_of_lt_of_le g1 h9.1)).trans (h9.2.1 x g1 g2), h9.2.2⟩ h10
  · rw [← hsz] at hX
    exact hX
  · refine ⟨cA, hAr, hNm, ?_⟩
    show H1[H.size]? = some (vp_cell _ _)
    rw [vp_cell_i]
    exact e1
theorem w_newL {n : Int32} {N : Nat} (hw : Cond.arrayClass .long ∈ lw_tbl) (hn : ¬ n < 0) (hNn : n.toNatClampNeg = N) (hbig : N * componentBytes .long ≤ 536870912) (hcells : cells + 1 ≤ mc) (hslots : slots + N ≤ ms) (hd : decode cc pc = .ok (.newarray .long, 2)) (kk : WP G own cc nL ret ini d mc ms (cells + 1) (slots + N) Q (pc + 2) ls (.ref h.2 :: st) (hN h (aL N (fun _ => 0)))) : WP G own cc nL ret ini d mc ms cells slots Q pc ls (.int n :: st) h := by
  intro p e s m args below meth c H locs lsA h1 h2 h3 h4 h5 h6 h7 h8 h9 h10
  obtain ⟨hsz, hts, -, -, hb0, -, D, hK, hcell⟩ := id h8
  have hwd : (Cond.arrayClass .long).before args s = true := by
    have h0 := hts _ hw rfl
    first
      | exact h0
      | exact va_tabs rfl rfl h0
  refine va_newaK (atype := .long) h1 h2 hwd rfl hd rfl hn hNn hbig hcells hslots rfl fun H1 cA e1 z1 o1 hAr hNm => ?_
  have hX := kk p e s m args below meth c H1 locs lsA h1 h2 h3 h4 h5 h6 h7 (h8.new z1 o1 (fun D' hK' => ?_)) ⟨Nat.le_trans h9.1 (by omega), fun x g1 g2 => (o1 x (Nat.lt_of_lt_of_le g1 h9.1)).trans (h9.2.1 x g1 g2), h9.2.2⟩ h10
  · rw [← hsz] at hX
    exact hX
  · refine ⟨cA, hAr, hNm, ?_⟩
    show H1[H.size]? = some (vp_cell _ _)
    rw [vp_cell_l]
    exact e1
theorem w_newR {idx : Nat} {C : String} {n : Int32} {N : Nat} (hl : Cond.classLink own idx C ∈ lw_tbl) (hw : Cond.arrayOver (.object C) ∈ lw_tbl) (hn : ¬ n < 0) (hNn : n.toNatClampNeg = N) (hbig : N * 4 ≤ 536870912) (hcells : cells + 1 ≤ mc) (hslots : slots + N ≤ ms) (hd : decode cc pc = .ok (.anewarray idx, 3)) (kk : WP G own cc nL ret ini d mc ms (cells + 1) (slots + N) Q (pc + 3) ls (.ref h.2 :: st) (hN h (aR C N (fun _ => none)))) : WP G own cc nL ret ini d mc ms cells slots Q pc ls (.int n :: st) h := by
  intro p e s m args below meth c H locs lsA h1 h2 h3 h4 h5 h6 h7 h8 h9 h10
  subst hNn
  obtain ⟨hsz, hts, -, -, hb0, -, D, hK, hcell⟩ := id h8
  have hao : va_AO C s := hts _ hw rfl
  refine W.anew h1 h2 h5 (hts.at hl rfl rfl) (va_AO.use hao) rfl hd rfl hn hbig hcells hslots fun cA kA comp f1 f2 f3 f4 => ?_
  generalize hH1 : H.push ({ cls := cA, slots := Array.replicate n.toNatClampNeg .null, vm := .none } : Cell) = H1
  have z1 : H1.size = H.size + 1 := by rw [← hH1, Array.size_push]
  have e1 : H1[H.size]? = some (arrV cA n.toNatClampNeg (fun _ => .null)) := by rw [← hH1, Array.getElem?_push_size, ← arrV_new]
  have o1 : ∀ x : Nat, x < H.size → H1[x]? = H[x]? := fun x hx => by rw [← hH1, Array.getElem?_push, if_neg (Nat.ne_of_lt hx)]
  have hAr : ArrOfT s cA (.object C) := fun N z => ⟨(fun k h => by cases h), kA, f2, comp, f3⟩
  have hX := kk p e s m args below meth c H1 locs lsA h1 h2 h3 h4 h5 h6 h7 (h8.new z1 o1 (fun D' hK' => ?_)) ⟨Nat.le_trans h9.1 (by omega), fun x g1 g2 => (o1 x (Nat.lt_of_lt_of_le g1 h9.1)).trans (h9.2.1 x g1 g2), h9.2.2⟩ h10
  · rw [← hsz] at hX
    exact hX
  · refine ⟨cA, hAr, ⟨kA, comp, f2, f3, f4, f1⟩, ?_⟩
    show H1[H.size]? = some (vp_cell _ _)
    rw [vp_cell_q]
    exact e1
theorem w_objInit {idx q : Nat} (hl : Cond.methodLink own idx Lib.objectInit ∈ lw_tbl) (hi : Cond.instanceMethod Lib.objectInit ∈ lw_tbl) (hc : Cond.code Lib.objectInit ⟨#[0xb1]⟩ 1 none ∈ lw_tbl) (hst : (st.map fun v => v.category).sum ≤ 8) (hd : decode cc pc = .ok (.invokespecial idx, 3)) (k : WP G own cc nL ret ini (d + 1) mc ms cells slots Q (pc + 3) ls st h) : WP G own cc nL ret ini (d + 1) mc ms cells slots Q pc ls (.ref q :: st) h := by
  intro p e s m args below meth c H locs lsA h1 h2 h3 h4 h5 h6 h7 h8 h9 h10
  have hts := h8.2.1
  refine W.objInit h1 h2 h5 (hts.at hl rfl rfl) (hts.at hi rfl rfl) (hts.at hc rfl rfl) rfl (by rw [h4]; exact h10.1) rfl hd (by show 1 ≤ d + 1; omega) ?_ ?_
  · show 2 * 0 + _ + 12 ≤ 37 * (d + 1)
    omega
  · exact k p e s m args below meth c H locs lsA h1 h2 h3 h4 h5 h6 h7 h8 h9 h10
/-- a method by its name: initialised, an ordinary class, so many arguments -/
def wY (y : MethodName) (n : Nat) : Prop := Cond.initialized y.cls ∈ lw_tbl ∧ (y.cls ≠ "java/lang/invoke/MethodHandle" ∧ y.cls ≠ "java/lang/invoke/VarHandle") ∧ (parseMethodDescriptor y.desc).map (fun d => d.parameters.length) = some n
def wYv (y : MethodName) (n : Nat) : Prop := wY y n ∧ Cond.instanceMethod y ∈ lw_tbl ∧ Cond.selects y.cls y y ∈ lw_tbl
def wYs (y : MethodName) (n : Nat) : Prop := wY y n ∧ Cond.static y ∈ lw_tbl
def wYi (y : MethodName) (n : Nat) : Prop := wY y n ∧ Cond.instanceMethod y ∈ lw_tbl ∧ y.name = "<init>"
def wLk (own : String) (idx : Nat) (y : MethodName) : Prop := Cond.methodLink own idx y ∈ lw_tbl ∨ ∃ host, Cond.methodLinkNest own idx y host ∈ lw_tbl
theorem wY.len {y : MethodName} {n : Nat} (h : wY y n) : ∀ sig, parseMethodDescriptor y.desc = some sig → n = sig.parameters.length := by
  intro sig hs
  have h2 := h.2.2
  rw [hs] at h2
  exact (Option.some.inj h2).symm
theorem hR.blind {G : wG} {h : hH} {as : List Value} : FrameBlind (va_Pc as (fun U => hR G h U.heap U)) := fun a U g mk q => ⟨q.1, hR.warm (s := U) (U := U.calling g mk a) (State.WarmedH.refl U) q.2⟩
theorem hR.at {G : wG} {h : hH} {H : Heap} {U : State} (e : U.heap = H) (k : hR G h H U) : hR G h U.heap U := e ▸ k
/-- a constructor's call -/
def ClI (G : wG) (y : MethodName) (d mc ms : Nat) (as : List Value) (h : hH) (Q : hH → Prop) : Prop :=
  ∃ (cc : ByteArray) (maxL : Nat), Cond.code y cc maxL none ∈ lw_tbl ∧ maxL ≤ 18 ∧ Met G.1 y [Cond.code y cc maxL none] (wR d mc ms) (va_Pc as (fun U => hR G h U.heap U)) (wQc G (fun r h => r = none ∧ Q h)) mc ms (wA G)
theorem ClI.of {G : wG} {y : MethodName} {d mc ms : Nat} {as : List Value} {h : hH} {Q : hH → Prop} {cc : ByteArray} {maxL : Nat} (hc : Cond.code y cc maxL none ∈ lw_tbl) (hy : plainFor y = true) (hm : maxL ≤ 18) (hl : (lg_sl as).length ≤ maxL) {ls : List (Option Value)} (hls : wAr as ++ List.replicate (maxL - (wAr as).length) none = ls) {own : String} (hown : y.cls = own) (hini : y.name = "<init>")
    (k : WP G own cc maxL none true d mc ms 0 0 (fun r h => r = none ∧ Q h) 0 ls [] h) : ClI G y d mc ms as h Q := by
  subst hown
  subst hls
  refine ⟨cc, maxL, hc, hm, ?_⟩
  refine wMet_ofW (cc := cc) (maxL := maxL) (ret := none) hy rfl ?_
  intro p e s m args below meth c s₁ B hml hv
  obtain ⟨rfl, hR⟩ := hv
  have hin : true = true → meth.name = "<init>" := fun z => (name_of_methodNamed B.named B.method).1.trans hini
  rw [lg_entry_eq]
  exact k p e s m _ below meth c s.heap [] _ B.exec B.bytes B.returns hml (findClass_of_methodNamed B.named) B.notSynchronized hin hR va_S.rf (wLo_entry as hl (fun i v hi => wPad_in hi))
/-- what came back, seen from the caller -/
theorem hR.back {G : wG} {h h' : hH} {H H1 : Heap} {s t : State} (hs : hR G h H s) (ht : hR G h' H1 t) (hvm : s.vm.Alike t.vm) (hk : ∀ a : Nat, a < H.size → ¬ wA G a → H1[a]? = H[a]?) : hR G h' H1 s := by
  obtain ⟨k1, k2, k3, k4, -⟩ := hs
  obtain ⟨j1, -, -, -, j5, j6, D, j7, j8⟩ := ht
  exact ⟨j1, k2, k3.kept hk, k4.kept hk, j5, j6, D, va_K.moved hvm.symm j7, fun q c hq => (j8 q c hq).moved hvm.symm⟩
abbrev psh (r : Option Value) (st : List Value) : List Value := match r with
  | none => st
  | some v => v :: st
theorem psh_eq (r : Option Value) (st : List Value) : r.toList ++ st = psh r st := by cases r <;> rfl
theorem w_after {p : Program} {G : wG} {e : Env} {R : Room} {s : State} {m : MethodId} {args : Array Value} {below : List Frame} {meth : Method} {c : Code} {H : Heap} {locs : List Loc} {cells slots mc ms pc : Nat} {Q : State → Prop} {lsA : Array Slot} {st0 st : List Value} {a : Array Value} {h : hH} {Qk : Option Value → hH → Prop}
    (hr : va_Run p G.1 e R s m args below meth c H locs cells slots mc ms (F0 m pc lsA st0) st (wQc G Qk a) (wA G)) (h8 : hR G h H s) (h9 : va_S (wA G) s.heap H locs)
    (kk : ∀ (r : Option Value) (h' : hH), Qk r h' → ∀ (H1 : Heap) (locs1 : List Loc), hR G h' H1 s → va_S (wA G) s.heap H1 locs1 → W p G.1 e R s m args below meth c H1 locs1 (cells + mc) (slots + ms) Q (F0 m (pc + 3) lsA (psh r st))) : W p G.1 e R s m args below meth c H locs cells slots Q (F0 m pc lsA st0) := by
  intro T hT X
  obtain ⟨v, st₀, t, T', L, h0, X', hL, e1, e2, ⟨r, h', hv, hq, hRt, hz, hk⟩, st9⟩ := hr T hT X
  cases hv
  rw [h0] at hz hk
  have hvm : s.vm.Alike t.vm := by rw [← e2]; exact X'.warmed.alike
  obtain ⟨t2, a1, b1⟩ := kk v h' hq T'.heap (locs ++ L) (by rw [e1]; exact h8.back hRt hvm hk) ⟨Nat.le_trans h9.1 (by rw [e1]; exact hz), fun q g1 g2 => by rw [e1, hk q (Nat.lt_of_lt_of_le g1 h9.1) g2]; exact h9.2.1 q g1 g2, fun q hq => by
      rcases List.mem_append.mp hq with z | z
      · exact h9.2.2 q z
      · exact hL q z⟩ T' rfl X'
  exact ⟨t2, st9 t2 (by rw [psh_eq]; exact a1), b1⟩
theorem w_callV {idx n d' mc' ms' q ci : Nat} {y : MethodName} {As : List Value} {fs : List Value} (hL : wLk own idx y) (hY : wYv y n) (hn : As.length = n) (hq : h.1 q = some (oC ci fs)) (hcl : (vwCl[ci]?.map (fun z => z.1)) = some y.cls) (hst : (st.map fun v => v.category).sum ≤ 8) (hd : decode cc pc = .ok (.invokevirtual idx, 3)) (hcells : cells + mc' ≤ mc) (hslots : slots + ms' ≤ ms) (hdd : d' + 1 ≤ d) (k : Cl G y d' mc' ms' (.ref q :: As) h (fun r h' => WP G own cc nL ret ini d mc ms (cells + mc') (slots + ms') Q (pc + 3) ls (psh r st) h')) : WP G own cc nL ret ini d mc ms cells slots Q pc ls (As.reverse ++ .ref q :: st) h := by
  intro p e s m args below meth c H locs lsA h1 h2 h3 h4 h5 h6 h7 h8 h9 h10
  obtain ⟨bytes, maxL, rt, hcode, hmx, hM⟩ := k
  have hts := h8.2.1
  have hroom : 8 + (maxL + 11) + (wR d' mc' ms').locals ≤ (wR d mc ms).locals := by
    show 8 + (maxL + 11) + 37 * d' ≤ 37 * d
    omega
  have hww : ∀ w ∈ [Cond.code y bytes maxL rt], ∀ (a' : Array Value) (U : State), s.WarmedH U.vm → w.before a' U = true := by
    intro w hw a' U hW
    rw [List.mem_singleton.mp hw]
    exact (hts.warm hW).at hcode rfl rfl
  have hrv : ∃ cellB : Cell, H[q]? = some cellB ∧ cellB.vm.isStatics = false ∧ s.vm.findClass y.cls = some cellB.cls := by
    obtain ⟨-, -, -, -, -, -, D, hK, hcell⟩ := id h8
    obtain ⟨r, g1, cell, q1, q2, q3, -⟩ := hcell q _ hq
    rw [g1] at hcl
    have hcn : r.1 = y.cls := Option.some.inj hcl
    exact ⟨cell, q1, by rw [q3]; rfl, by rw [q2, ← hcn]; exact (hK.1 ci r g1).2.1⟩
  rcases hL with hL | ⟨host, hL⟩
  · refine w_after (va_runV (As := As) (rest := st) (C := y.cls) (Ts := []) ⟨h1, h2, h4, h5, fun _ z => nomatch z⟩ hM ⟨⟨rfl, rfl, hdd, hroom, hww, List.mem_singleton.mpr rfl, hts.at hcode rfl rfl, hts.at hY.1.1 rfl rfl, hY.1.2.1, hY.1.len, hts.at hL rfl rfl⟩, hts.at hY.2.1 rfl rfl, hts.at hY.2.2 rfl rfl⟩ ⟨hR.blind, hrv, fun U hU hW => ⟨rfl, hR.at hU (h8.warm hW)⟩⟩ rfl hn h10.1 rfl (lv_room hst) hd ⟨hcells, hslots⟩) h8 h9 (fun r h' hQ H1 locs1 hR1 hS1 => hQ p e s m args below meth c H1 locs1 lsA h1 h2 h3 h4 h5 h6 h7 hR1 hS1 h10)
  · refine w_after (va_runVN (As := As) (rest := st) (C := y.cls) (Ts := []) ⟨h1, h2, h4, h5, fun _ z => nomatch z⟩ hM ⟨⟨⟨rfl, rfl, hdd, hroom, hww, List.mem_singleton.mpr rfl⟩, hts.at hcode rfl rfl, hts.at hY.1.1 rfl rfl, hY.1.2.1, hY.1.len, hts.at hL rfl rfl⟩, hts.at hY.2.1 rfl rfl, hts.at hY.2.2 rfl rfl⟩ ⟨hR.blind, hrv, fun U hU hW => ⟨rfl, hR.at hU (h8.warm hW)⟩⟩ rfl hn h10.1 rfl (lv_room hst) hd ⟨hcells, hslots⟩) h8 h9 (fun r h' hQ H1 locs1 hR1 hS1 => hQ p e s m args below meth c H1 locs1 lsA h1 h2 h3 h4 h5 h6 h7 hR1 hS1 h10)
theorem w_callS {idx n d' mc' ms'  : Nat} {y : MethodName} {As : List Value} (hL : wLk own idx y) (hY : wYs y n) (hn : As.length = n) (hst : (st.map fun v => v.category).sum ≤ 8) (hd : decode cc pc = .ok (.invokestatic idx, 3)) (hcells : cells + mc' ≤ mc) (hslots : slots + ms' ≤ ms) (hdd : d' + 1 ≤ d) (k : Cl G y d' mc' ms' As h (fun r h' => WP G own cc nL ret ini d mc ms (cells + mc') (slots + ms') Q (pc + 3) ls (psh r st) h')) : WP G own cc nL ret ini d mc ms cells slots Q pc ls (As.reverse ++ st) h := by
  intro p e s m args below meth c H locs lsA h1 h2 h3 h4 h5 h6 h7 h8 h9 h10
  obtain ⟨bytes, maxL, rt, hcode, hmx, hM⟩ := k
  have hts := h8.2.1
  have hroom : 8 + (maxL + 11) + (wR d' mc' ms').locals ≤ (wR d mc ms).locals := by
    show 8 + (maxL + 11) + 37 * d' ≤ 37 * d
    omega
  have hww : ∀ w ∈ [Cond.code y bytes maxL rt], ∀ (a' : Array Value) (U : State), s.WarmedH U.vm → w.before a' U = true := by
    intro w hw a' U hW
    rw [List.mem_singleton.mp hw]
    exact (hts.warm hW).at hcode rfl rfl
  skip
  rcases hL with hL | ⟨host, hL⟩
  · refine w_after (va_runS (As := As) (rest := st) (Ts := []) ⟨h1, h2, h4, h5, fun _ z => nomatch z⟩ hM ⟨⟨rfl, rfl, hdd, hroom, hww, List.mem_singleton.mpr rfl, hts.at hcode rfl rfl, hts.at hY.1.1 rfl rfl, hY.1.2.1, hY.1.len, hts.at hL rfl rfl⟩, hts.at hY.2 rfl rfl⟩ ⟨hR.blind, fun U hU hW => ⟨rfl, hR.at hU (h8.warm hW)⟩⟩ rfl hn h10.1 rfl (lv_room hst) hd ⟨hcells, hslots⟩) h8 h9 (fun r h' hQ H1 locs1 hR1 hS1 => hQ p e s m args below meth c H1 locs1 lsA h1 h2 h3 h4 h5 h6 h7 hR1 hS1 h10)
  · refine w_after (va_runSN (As := As) (rest := st) (Ts := []) ⟨h1, h2, h4, h5, fun _ z => nomatch z⟩ hM ⟨⟨⟨rfl, rfl, hdd, hroom, hww, List.mem_singleton.mpr rfl⟩, hts.at hcode rfl rfl, hts.at hY.1.1 rfl rfl, hY.1.2.1, hY.1.len, hts.at hL rfl rfl⟩, hts.at hY.2 rfl rfl, trivial⟩ ⟨hR.blind, fun U hU hW => ⟨rfl, hR.at hU (h8.warm hW)⟩⟩ rfl hn h10.1 rfl (lv_room hst) hd ⟨hcells, hslots⟩) h8 h9 (fun r h' hQ H1 locs1 hR1 hS1 => hQ p e s m args below meth c H1 locs1 lsA h1 h2 h3 h4 h5 h6 h7 hR1 hS1 h10)
theorem w_callI {idx n d' mc' ms' q : Nat} {y : MethodName} {As : List Value} (hL : wLk own idx y) (hY : wYi y n) (hn : As.length = n) (hst : (st.map fun v => v.category).sum ≤ 8) (hd : decode cc pc = .ok (.invokespecial idx, 3)) (hcells : cells + mc' ≤ mc) (hslots : slots + ms' ≤ ms) (hdd : d' + 1 ≤ d) (k : ClI G y d' mc' ms' (.ref q :: As) h (fun h' => WP G own cc nL ret ini d mc ms (cells + mc') (slots + ms') Q (pc + 3) ls st h')) : WP G own cc nL ret ini d mc ms cells slots Q pc ls (As.reverse ++ .ref q :: st) h := by
  intro p e s m args below meth c H locs lsA h1 h2 h3 h4 h5 h6 h7 h8 h9 h10
  obtain ⟨bytes, maxL, hcode, hmx, hM⟩ := k
  have hts := h8.2.1
  have hroom : 8 + (maxL + 11) + (wR d' mc' ms').locals ≤ (wR d mc ms).locals := by
    show 8 + (maxL + 11) + 37 * d' ≤ 37 * d
    omega
  have hww : ∀ w ∈ [Cond.code y bytes maxL none], ∀ (a' : Array Value) (U : State), s.WarmedH U.vm → w.before a' U = true := by
    intro w hw a' U hW
    rw [List.mem_singleton.mp hw]
    exact (hts.warm hW).at hcode rfl rfl
  skip
  rcases hL with hL | ⟨host, hL⟩
  · refine w_after (va_runI (As := As) (rest := st) (Ts := []) ⟨h1, h2, h4, h5, fun _ z => nomatch z⟩ hM ⟨⟨rfl, rfl, hdd, hroom, hww, List.mem_singleton.mpr rfl, hts.at hcode rfl rfl, hts.at hY.1.1 rfl rfl, hY.1.2.1, hY.1.len, hts.at hL rfl rfl⟩, hY.2.2, hts.at hY.2.1 rfl rfl⟩ ⟨hR.blind, fun U hU hW => ⟨rfl, hR.at hU (h8.warm hW)⟩⟩ rfl hn h10.1 rfl (lv_room hst) hd ⟨hcells, hslots⟩) h8 h9 (fun r h' hQ H1 locs1 hR1 hS1 => by obtain ⟨rfl, hQ⟩ := hQ; exact hQ p e s m args below meth c H1 locs1 lsA h1 h2 h3 h4 h5 h6 h7 hR1 hS1 h10)
  · refine w_after (va_runIN (As := As) (rest := st) (Ts := []) ⟨h1, h2, h4, h5, fun _ z => nomatch z⟩ hM ⟨⟨⟨rfl, rfl, hdd, hroom, hww, List.mem_singleton.mpr rfl⟩, hts.at hcode rfl rfl, hts.at hY.1.1 rfl rfl, hY.1.2.1, hY.1.len, hts.at hL rfl rfl⟩, hY.2.2, hts.at hY.2.1 rfl rfl⟩ ⟨hR.blind, fun U hU hW => ⟨rfl, hR.at hU (h8.warm hW)⟩⟩ rfl hn h10.1 rfl (lv_room hst) hd ⟨hcells, hslots⟩) h8 h9 (fun r h' hQ H1 locs1 hR1 hS1 => by obtain ⟨rfl, hQ⟩ := hQ; exact hQ p e s m args below meth c H1 locs1 lsA h1 h2 h3 h4 h5 h6 h7 hR1 hS1 h10)
end
theorem ne_off {b i j : Nat} (h : Nat.beq i j = false) : b + i ≠ b + j := fun e => by
  have := Nat.add_left_cancel e
  subst this
  rw [Nat.beq_refl] at h
  cases h
theorem ne_off0 {b j : Nat} (h : Nat.beq 0 j = false) : b ≠ b + j := ne_off (i := 0) h
theorem ne_off1 {b j : Nat} (h : Nat.beq j 0 = false) : b + j ≠ b := ne_off (j := 0) h
theorem ne_oo {h : hH} {x y ci cj : Nat} {fs gs : List Value} (h1 : h.1 x = some (oC ci fs)) (h2 : h.1 y = some (oC cj gs)) (hc : Nat.beq ci cj = false) : x ≠ y := by
  intro e
  subst e
  have e1 := h1.symm.trans h2
  simp only [Option.some.injEq, Sum.inr.injEq, Prod.mk.injEq] at e1
  rw [e1.1, Nat.beq_refl] at hc
  cases hc
theorem ne_oa {h : hH} {x y ci : Nat} {fs : List Value} {a : FieldType × vp_A} (h1 : h.1 x = some (oC ci fs)) (h2 : h.1 y = some (.inl a)) : x ≠ y := by
  intro e
  subst e
  have e1 := h1.symm.trans h2
  cases e1
theorem ne_ao {h : hH} {x y ci : Nat} {fs : List Value} {a : FieldType × vp_A} (h1 : h.1 x = some (.inl a)) (h2 : h.1 y = some (oC ci fs)) : x ≠ y := fun e => ne_oa h2 h1 e.symm
theorem ne_aa {h : hH} {x y : Nat} {a b : FieldType × vp_A} (h1 : h.1 x = some (.inl a)) (h2 : h.1 y = some (.inl b)) (hc : decide (a.1 = b.1) = false) : x ≠ y := by
  intro e
  subst e
  have e1 := h1.symm.trans h2
  simp only [Option.some.injEq, Sum.inl.injEq] at e1
  rw [e1] at hc
  simp at hc
theorem hU_hU {h : hH} {q : Nat} {c c' : hC} : hU (hU h q c) q c' = hU h q c' := by
  unfold hU
  refine Prod.ext ?_ rfl
  funext x
  by_cases e : x = q <;> simp [e]
theorem hU_sw {h : hH} {q r : Nat} {c c' : hC} (n : q ≠ r) : hU (hU h q c) r c' = hU (hU h r c') q c := by
  unfold hU
  refine Prod.ext ?_ rfl
  funext x
  by_cases e : x = q
  · subst e; simp [n]
  · by_cases e2 : x = r
    · subst e2; simp [e]
    · simp [e, e2]
theorem hU4 {h : hH} {q r : Nat} {a b c e : hC} (n : q ≠ r) : hU (hU (hU (hU h q a) r b) q c) r e = hU (hU h q c) r e := by
  rw [hU_sw (h := hU h q a) (Ne.symm n), hU_hU, hU_hU]
theorem hU3 {h : hH} {q r : Nat} {a b c : hC} (n : q ≠ r) : hU (hU (hU h q a) r b) q c = hU (hU h q c) r b := by
  rw [hU_sw (h := hU h q a) (Ne.symm n), hU_hU]
theorem vp_cell_ext {cA : ClassId} {n : Nat} {f g : Nat → Int32} (he : ∀ j, j < n → f j = g j) : vp_cell cA (n, .inl f) = vp_cell cA (n, .inl g) := by
  rw [vp_cell_i, vp_cell_i]
  unfold arrV
  congr 1
  congr 1
  funext j
  exact congrArg Value.int (he j.val j.isLt)
theorem vp_cell_extL {cA : ClassId} {n : Nat} {f g : Nat → Int64} (he : ∀ j, j < n → f j = g j) : vp_cell cA (n, .inr (.inl f)) = vp_cell cA (n, .inr (.inl g)) := by
  rw [vp_cell_l, vp_cell_l]
  unfold arrV
  congr 1
  congr 1
  funext j
  exact congrArg Value.long (he j.val j.isLt)
theorem hR.same {G : wG} {h : hH} {H : Heap} {s : State} {q : Nat} {ty : FieldType} {a b : vp_A} (hc : ∀ cA : ClassId, vp_cell cA a = vp_cell cA b) (k : hR G (hU h q (.inl (ty, a))) H s) : hR G (hU h q (.inl (ty, b))) H s := by
  obtain ⟨k1, k2, k3, k4, k5, k6, D, k7, k8⟩ := k
  refine ⟨k1, k2, k3, k4, fun x d hx => ?_, k6, D, k7, fun x d hx => ?_⟩
  · by_cases e : x = q
    · subst e
      exact k5 x _ hU_s
    · rw [hU_n e] at hx
      exact k5 x d (hU_e e hx)
  · by_cases e : x = q
    · subst e
      rw [hU_s] at hx
      cases hx
      obtain ⟨cA, g1, g2, g3⟩ := k8 x _ hU_s
      exact ⟨cA, g1, g2, by rw [← hc cA]; exact g3⟩
    · rw [hU_n e] at hx
      exact k8 x d (hU_e e hx)
theorem w_aext {G : wG} {own : String} {cc : ByteArray} {nL : Nat} {ret : Option FieldType} {ini : Bool} {d mc ms cells slots : Nat} {Q : Option Value → hH → Prop} {pc : Nat} {ls : List (Option Value)} {st : List Value} {h : hH} {q n : Nat} {ty : FieldType} {f : Nat → Int32} (g : Nat → Int32) (he : ∀ j, j < n → f j = g j) (k : WP G own cc nL ret ini d mc ms cells slots Q pc ls st (hU h q (.inl (ty, n, .inl g)))) : WP G own cc nL ret ini d mc ms cells slots Q pc ls st (hU h q (.inl (ty, n, .inl f))) := by
  intro p e s m args below meth c H locs lsA h1 h2 h3 h4 h5 h6 h7 h8 h9 h10
  exact k p e s m args below meth c H locs lsA h1 h2 h3 h4 h5 h6 h7 (hR.same (fun cA => vp_cell_ext he) h8) h9 h10
theorem w_aextL {G : wG} {own : String} {cc : ByteArray} {nL : Nat} {ret : Option FieldType} {ini : Bool} {d mc ms cells slots : Nat} {Q : Option Value → hH → Prop} {pc : Nat} {ls : List (Option Value)} {st : List Value} {h : hH} {q n : Nat} {ty : FieldType} {f : Nat → Int64} (g : Nat → Int64) (he : ∀ j, j < n → f j = g j) (k : WP G own cc nL ret ini d mc ms cells slots Q pc ls st (hU h q (.inl (ty, n, .inr (.inl g))))) : WP G own cc nL ret ini d mc ms cells slots Q pc ls st (hU h q (.inl (ty, n, .inr (.inl f)))) := by
  intro p e s m args below meth c H locs lsA h1 h2 h3 h4 h5 h6 h7 h8 h9 h10
  exact k p e s m args below meth c H locs lsA h1 h2 h3 h4 h5 h6 h7 (hR.same (fun cA => vp_cell_extL he) h8) h9 h10
theorem hU_id {h : hH} {q : Nat} {c : hC} (e : h.1 q = some c) : hU h q c = h := by
  unfold hU
  refine Prod.ext ?_ rfl
  funext x
  by_cases z : x = q
  · subst z; simp [e]
  · simp [z]
