/-- a reader: end, at, kind, start, value, taken, fault, place -/
abbrev rD : Type := Nat × Nat × Int32 × Nat × Int32 × Int32 × Int32 × Int32
def rdF (qt p : Nat) (x : rD) : List Value := [.ref qt, .ref p, .int (nI x.1), .int (nI x.2.1), .int x.2.2.1, .int (nI x.2.2.2.1), .int x.2.2.2.2.1, .int x.2.2.2.2.2.1, .int x.2.2.2.2.2.2.1, .int x.2.2.2.2.2.2.2]
def rTk (x : rD) (v : Int32) : rD := (x.1, x.2.1, x.2.2.1, x.2.2.2.1, x.2.2.2.2.1, v, x.2.2.2.2.2.2.1, x.2.2.2.2.2.2.2)
def rFl (x : rD) (v w : Int32) : rD := (x.1, x.2.1, x.2.2.1, x.2.2.2.1, x.2.2.2.2.1, x.2.2.2.2.2.1, v, w)
def rOk (x : rD) : Prop := x.1 ≤ 600 ∧ x.2.1 ≤ x.1
/-- the token at a -/
def rTok (ft : Nat → Int32) (E a : Nat) (vl tk fl pl : Int32) : rD :=
  if a < E then
    if 97 ≤ ft a ∧ ft a ≤ 122 then (E, (scW ft E (E - a) a 0 0).1, (if 6 < (scW ft E (E - a) a 0 0).2.1 then 4 else 1), a, (scW ft E (E - a) a 0 0).2.2, tk, fl, pl)
    else if 48 ≤ ft a ∧ ft a ≤ 57 then (E, (scD ft E (E - a) a 0 0).1, (if 4 < (scD ft E (E - a) a 0 0).2.1 then 4 else 2), a, (scD ft E (E - a) a 0 0).2.2, tk, fl, pl)
    else (E, a + 1, (if ft a = 59 ∨ ft a = 44 ∨ ft a = 45 then 3 else 4), a, ft a, tk, fl, pl)
  else (E, a, 0, a, vl, tk, fl, pl)
def rStp (ft : Nat → Int32) (x : rD) : rD := rTok ft x.1 (scB ft x.1 (x.1 - x.2.1) x.2.1) x.2.2.2.2.1 x.2.2.2.2.2.1 x.2.2.2.2.2.2.1 x.2.2.2.2.2.2.2
theorem scW_le (ft : Nat → Int32) (E : Nat) : ∀ (n a c : Nat) (v : Int32), a ≤ E → a ≤ (scW ft E n a c v).1 ∧ (scW ft E n a c v).1 ≤ E
  | 0, a, c, v, h => ⟨Nat.le_refl _, h⟩
  | n + 1, a, c, v, h => by
    rw [scW]
    split
    · rename_i z
      have := scW_le ft E n (a + 1) (c + 1) (if c < 6 then v ||| ((ft a - 97 + 1) <<< (nI (5 * c) &&& 31)) else v) (by omega)
      exact ⟨by omega, this.2⟩
    · exact ⟨Nat.le_refl _, h⟩
theorem scD_le (ft : Nat → Int32) (E : Nat) : ∀ (n a c : Nat) (v : Int32), a ≤ E → a ≤ (scD ft E n a c v).1 ∧ (scD ft E n a c v).1 ≤ E
  | 0, a, c, v, h => ⟨Nat.le_refl _, h⟩
  | n + 1, a, c, v, h => by
    rw [scD]
    split
    · rename_i z
      have := scD_le ft E n (a + 1) (c + 1) (if c < 4 then v * 10 + ft a - 48 else v) (by omega)
      exact ⟨by omega, this.2⟩
    · exact ⟨Nat.le_refl _, h⟩
theorem scB_le (ft : Nat → Int32) (E : Nat) : ∀ (n a : Nat), a ≤ E → a ≤ scB ft E n a ∧ scB ft E n a ≤ E
  | 0, a, h => ⟨Nat.le_refl _, h⟩
  | n + 1, a, h => by
    rw [scB]
    split
    · rename_i z
      have := scB_le ft E n (a + 1) (by omega)
      exact ⟨by omega, this.2⟩
    · exact ⟨Nat.le_refl _, h⟩
theorem rTok_ok (ft : Nat → Int32) {E a : Nat} (vl tk fl pl : Int32) (hE : E ≤ 600) (ha : a ≤ E) : rOk (rTok ft E a vl tk fl pl) := by
  unfold rTok
  split
  · split
    · exact ⟨hE, (scW_le ft E _ a 0 0 ha).2⟩
    · split
      · exact ⟨hE, (scD_le ft E _ a 0 0 ha).2⟩
      · exact ⟨hE, by show a + 1 ≤ E; omega⟩
  · exact ⟨hE, ha⟩
theorem rTk_ok {x : rD} (v : Int32) (h : rOk x) : rOk (rTk x v) := h
theorem rFl_ok {x : rD} (v w : Int32) (h : rOk x) : rOk (rFl x v w) := h
theorem rStp_ok (ft : Nat → Int32) {x : rD} (h : rOk x) : rOk (rStp ft x) := rTok_ok ft _ _ _ _ h.1 (scB_le ft x.1 _ _ h.2).2
set_option maxRecDepth 100000 in
set_option maxHeartbeats 4000000 in
theorem t_step {G : wG} {d : Nat} {h : hH} {Q : Option Value → hH → Prop} {q qt p E a b : Nat} {kd vl tk fl pl : Int32}  {ft : Nat → Int32} (nd : [q, qt].Nodup) (hE : E ≤ 600) (ha : a ≤ E) (k : Q none (hUs h [q, qt] [oC 5 (rdF qt p (rTok ft E a vl tk fl pl)), aB 600 ft])) : WP G RX5 cX5_step 1 none false (d + 1) 0 0 0 0 Q 38 [some (.ref q)] [] (hUs h [q, qt] [(oC 5 [.ref qt, .ref p, .int (nI E), .int (nI a), .int kd, .int (nI b), .int vl, .int tk, .int fl, .int pl]), (aB 600 ft)]) := by
  refine w_aload_n dX5_step_38 rfl ?_
  refine w_aload_n dX5_step_39 rfl ?_
  refine w_get (v := .int (nI a)) fX5_35 (hUs_at nd 0 rfl rfl) rfl dX5_step_40 ?_
  refine w_put (fs' := [.ref qt, .ref p, .int (nI E), .int (nI a), .int kd, .int (nI a), .int vl, .int tk, .int fl, .int pl]) fX5_112 (hUs_at nd 0 rfl rfl) rfl rfl (Nat.le_of_ble_eq_true rfl) rfl dX5_step_43 ?_
  refine w_heq (hUs_set nd rfl 0 (cs' := [(oC 5 [.ref qt, .ref p, .int (nI E), .int (nI a), .int kd, .int (nI a), .int vl, .int tk, .int fl, .int pl]), (aB 600 ft)]) rfl rfl) ?_
  refine w_aload_n dX5_step_46 rfl ?_
  refine w_get (v := .int (nI a)) fX5_35 (hUs_at nd 0 rfl rfl) rfl dX5_step_47 ?_
  refine w_aload_n dX5_step_50 rfl ?_
  refine w_get (v := .int (nI E)) fX5_31 (hUs_at nd 0 rfl rfl) rfl dX5_step_51 ?_
  refine w_icmp_lt (tgt := 65) dX5_step_54 rfl (fun b54 => ?_) (fun b54 => ?_)
  · have b54 := (nI_ltI (a := a) (b := E) (by omega) (by omega)).mp b54
    refine w_aload_n dX5_step_65 rfl ?_
    refine w_get (v := .ref qt) fX5_9 (hUs_at nd 0 rfl rfl) rfl dX5_step_66 ?_
    refine w_aload_n dX5_step_69 rfl ?_
    refine w_get (v := .int (nI a)) fX5_35 (hUs_at nd 0 rfl rfl) rfl dX5_step_70 ?_
    refine w_baloadN (hUs_at nd 1 rfl rfl) (by omega) (by omega) dX5_step_73 ?_
    refine w_bipush (v := 97) dX5_step_74 (by decide) ?_
    refine w_icmp_lt (tgt := 100) dX5_step_76 rfl (fun b76 => ?_) (fun b76 => ?_)
    · refine w_aload_n dX5_step_100 rfl ?_
      refine w_get (v := .ref qt) fX5_9 (hUs_at nd 0 rfl rfl) rfl dX5_step_101 ?_
      refine w_aload_n dX5_step_104 rfl ?_
      refine w_get (v := .int (nI a)) fX5_35 (hUs_at nd 0 rfl rfl) rfl dX5_step_105 ?_
      refine w_baloadN (hUs_at nd 1 rfl rfl) (by omega) (by omega) dX5_step_108 ?_
      refine w_bipush (v := 48) dX5_step_109 (by decide) ?_
      refine w_icmp_lt (tgt := 135) dX5_step_111 rfl (fun b111 => ?_) (fun b111 => ?_)
      · refine w_aload_n dX5_step_135 rfl ?_
        refine w_aload_n dX5_step_136 rfl ?_
        refine w_get (v := .ref qt) fX5_9 (hUs_at nd 0 rfl rfl) rfl dX5_step_137 ?_
        refine w_aload_n dX5_step_140 rfl ?_
        refine w_get (v := .int (nI a)) fX5_35 (hUs_at nd 0 rfl rfl) rfl dX5_step_141 ?_
        refine w_baloadN (hUs_at nd 1 rfl rfl) (by omega) (by omega) dX5_step_144 ?_
        refine w_put (fs' := [.ref qt, .ref p, .int (nI E), .int (nI a), .int kd, .int (nI a), .int (ft a), .int tk, .int fl, .int pl]) fX5_159 (hUs_at nd 0 rfl rfl) rfl rfl (Nat.le_of_ble_eq_true rfl) rfl dX5_step_145 ?_
        refine w_heq (hUs_set nd rfl 0 (cs' := [(oC 5 [.ref qt, .ref p, .int (nI E), .int (nI a), .int kd, .int (nI a), .int (ft a), .int tk, .int fl, .int pl]), (aB 600 ft)]) rfl rfl) ?_
        refine w_aload_n dX5_step_148 rfl ?_
        refine w_aload_n dX5_step_149 rfl ?_
        refine w_get (v := .int (ft a)) fX5_159 (hUs_at nd 0 rfl rfl) rfl dX5_step_150 ?_
        refine w_bipush (v := 59) dX5_step_153 (by decide) ?_
        refine w_icmp_eq (tgt := 176) dX5_step_155 rfl (fun b155 => ?_) (fun b155 => ?_)
        · refine w_iconst (v := 3) dX5_step_176 (by decide) ?_
          refine w_goto (tgt := 181) dX5_step_177 rfl ?_
          refine w_put (fs' := [.ref qt, .ref p, .int (nI E), .int (nI a), .int 3, .int (nI a), .int (ft a), .int tk, .int fl, .int pl]) fX5_63 (hUs_at nd 0 rfl rfl) rfl rfl (Nat.le_of_ble_eq_true rfl) rfl dX5_step_181 ?_
          refine w_heq (hUs_set nd rfl 0 (cs' := [(oC 5 [.ref qt, .ref p, .int (nI E), .int (nI a), .int 3, .int (nI a), .int (ft a), .int tk, .int fl, .int pl]), (aB 600 ft)]) rfl rfl) ?_
          refine w_aload_n dX5_step_184 rfl ?_
          refine w_dup dX5_step_185 rfl ?_
          refine w_get (v := .int (nI a)) fX5_35 (hUs_at nd 0 rfl rfl) rfl dX5_step_186 ?_
          refine w_iconst (v := 1) dX5_step_189 (by decide) ?_
          refine w_iaddE (z := nI (a + 1)) dX5_step_190 (nI_add (a) (1)) ?_
          refine w_put (fs' := [.ref qt, .ref p, .int (nI E), .int (nI (a + 1)), .int 3, .int (nI a), .int (ft a), .int tk, .int fl, .int pl]) fX5_35 (hUs_at nd 0 rfl rfl) rfl rfl (Nat.le_of_ble_eq_true rfl) rfl dX5_step_191 ?_
          refine w_heq (hUs_set nd rfl 0 (cs' := [(oC 5 [.ref qt, .ref p, .int (nI E), .int (nI (a + 1)), .int 3, .int (nI a), .int (ft a), .int tk, .int fl, .int pl]), (aB 600 ft)]) rfl rfl) ?_
          refine w_return rfl dX5_step_194 (Nat.le_of_ble_eq_true rfl) (Nat.le_of_ble_eq_true rfl) ?_
          have e : rTok ft E a vl tk fl pl = (E, (a + 1), 3, a, ft a, tk, fl, pl) := by
            rw [rTok, if_pos b54, if_neg (fun z => absurd z.1 (by simpa using b76)), if_neg (fun z => absurd z.1 (by simpa using b111)), if_pos (Or.inl b155)]
          rw [e] at k
          exact k
        · refine w_aload_n dX5_step_158 rfl ?_
          refine w_get (v := .int (ft a)) fX5_159 (hUs_at nd 0 rfl rfl) rfl dX5_step_159 ?_
          refine w_bipush (v := 44) dX5_step_162 (by decide) ?_
          refine w_icmp_eq (tgt := 176) dX5_step_164 rfl (fun b164 => ?_) (fun b164 => ?_)
          · refine w_iconst (v := 3) dX5_step_176 (by decide) ?_
            refine w_goto (tgt := 181) dX5_step_177 rfl ?_
            refine w_put (fs' := [.ref qt, .ref p, .int (nI E), .int (nI a), .int 3, .int (nI a), .int (ft a), .int tk, .int fl, .int pl]) fX5_63 (hUs_at nd 0 rfl rfl) rfl rfl (Nat.le_of_ble_eq_true rfl) rfl dX5_step_181 ?_
            refine w_heq (hUs_set nd rfl 0 (cs' := [(oC 5 [.ref qt, .ref p, .int (nI E), .int (nI a), .int 3, .int (nI a), .int (ft a), .int tk, .int fl, .int pl]), (aB 600 ft)]) rfl rfl) ?_
            refine w_aload_n dX5_step_184 rfl ?_
            refine w_dup dX5_step_185 rfl ?_
            refine w_get (v := .int (nI a)) fX5_35 (hUs_at nd 0 rfl rfl) rfl dX5_step_186 ?_
            refine w_iconst (v := 1) dX5_step_189 (by decide) ?_
            refine w_iaddE (z := nI (a + 1)) dX5_step_190 (nI_add (a) (1)) ?_
            refine w_put (fs' := [.ref qt, .ref p, .int (nI E), .int (nI (a + 1)), .int 3, .int (nI a), .int (ft a), .int tk, .int fl, .int pl]) fX5_35 (hUs_at nd 0 rfl rfl) rfl rfl (Nat.le_of_ble_eq_true rfl) rfl dX5_step_191 ?_
            refine w_heq (hUs_set nd rfl 0 (cs' := [(oC 5 [.ref qt, .ref p, .int (nI E), .int (nI (a + 1)), .int 3, .int (nI a), .int (ft a), .int tk, .int fl, .int pl]), (aB 600 ft)]) rfl rfl) ?_
            refine w_return rfl dX5_step_194 (Nat.le_of_ble_eq_true rfl) (Nat.le_of_ble_eq_true rfl) ?_
            have e : rTok ft E a vl tk fl pl = (E, (a + 1), 3, a, ft a, tk, fl, pl) := by
              rw [rTok, if_pos b54, if_neg (fun z => absurd z.1 (by simpa using b76)), if_neg (fun z => absurd z.1 (by simpa using b111)), if_pos (Or.inr (Or.inl b164))]
            rw [e] at k
            exact k
          · refine w_aload_n dX5_step_167 rfl ?_
            refine w_get (v := .int (ft a)) fX5_159 (hUs_at nd 0 rfl rfl) rfl dX5_step_168 ?_
            refine w_bipush (v := 45) dX5_step_171 (by decide) ?_
            refine w_icmp_ne (tgt := 180) dX5_step_173 rfl (fun b173 => ?_) (fun b173 => ?_)
            · refine w_iconst (v := 4) dX5_step_180 (by decide) ?_
              refine w_put (fs' := [.ref qt, .ref p, .int (nI E), .int (nI a), .int 4, .int (nI a), .int (ft a), .int tk, .int fl, .int pl]) fX5_63 (hUs_at nd 0 rfl rfl) rfl rfl (Nat.le_of_ble_eq_true rfl) rfl dX5_step_181 ?_
              refine w_heq (hUs_set nd rfl 0 (cs' := [(oC 5 [.ref qt, .ref p, .int (nI E), .int (nI a), .int 4, .int (nI a), .int (ft a), .int tk, .int fl, .int pl]), (aB 600 ft)]) rfl rfl) ?_
              refine w_aload_n dX5_step_184 rfl ?_
              refine w_dup dX5_step_185 rfl ?_
              refine w_get (v := .int (nI a)) fX5_35 (hUs_at nd 0 rfl rfl) rfl dX5_step_186 ?_
              refine w_iconst (v := 1) dX5_step_189 (by decide) ?_
              refine w_iaddE (z := nI (a + 1)) dX5_step_190 (nI_add (a) (1)) ?_
              refine w_put (fs' := [.ref qt, .ref p, .int (nI E), .int (nI (a + 1)), .int 4, .int (nI a), .int (ft a), .int tk, .int fl, .int pl]) fX5_35 (hUs_at nd 0 rfl rfl) rfl rfl (Nat.le_of_ble_eq_true rfl) rfl dX5_step_191 ?_
              refine w_heq (hUs_set nd rfl 0 (cs' := [(oC 5 [.ref qt, .ref p, .int (nI E), .int (nI (a + 1)), .int 4, .int (nI a), .int (ft a), .int tk, .int fl, .int pl]), (aB 600 ft)]) rfl rfl) ?_
              refine w_return rfl dX5_step_194 (Nat.le_of_ble_eq_true rfl) (Nat.le_of_ble_eq_true rfl) ?_
              have e : rTok ft E a vl tk fl pl = (E, (a + 1), 4, a, ft a, tk, fl, pl) := by
                rw [rTok, if_pos b54, if_neg (fun z => absurd z.1 (by simpa using b76)), if_neg (fun z => absurd z.1 (by simpa using b111)), if_neg (fun z => z.elim b155 (fun z => z.elim b164 b173))]
              rw [e] at k
              exact k
            · refine w_iconst (v := 3) dX5_step_176 (by decide) ?_
              refine w_goto (tgt := 181) dX5_step_177 rfl ?_
              refine w_put (fs' := [.ref qt, .ref p, .int (nI E), .int (nI a), .int 3, .int (nI a), .int (ft a), .int tk, .int fl, .int pl]) fX5_63 (hUs_at nd 0 rfl rfl) rfl rfl (Nat.le_of_ble_eq_true rfl) rfl dX5_step_181 ?_
              refine w_heq (hUs_set nd rfl 0 (cs' := [(oC 5 [.ref qt, .ref p, .int (nI E), .int (nI a), .int 3, .int (nI a), .int (ft a), .int tk, .int fl, .int pl]), (aB 600 ft)]) rfl rfl) ?_
              refine w_aload_n dX5_step_184 rfl ?_
              refine w_dup dX5_step_185 rfl ?_
              refine w_get (v := .int (nI a)) fX5_35 (hUs_at nd 0 rfl rfl) rfl dX5_step_186 ?_
              refine w_iconst (v := 1) dX5_step_189 (by decide) ?_
              refine w_iaddE (z := nI (a + 1)) dX5_step_190 (nI_add (a) (1)) ?_
              refine w_put (fs' := [.ref qt, .ref p, .int (nI E), .int (nI (a + 1)), .int 3, .int (nI a), .int (ft a), .int tk, .int fl, .int pl]) fX5_35 (hUs_at nd 0 rfl rfl) rfl rfl (Nat.le_of_ble_eq_true rfl) rfl dX5_step_191 ?_
              refine w_heq (hUs_set nd rfl 0 (cs' := [(oC 5 [.ref qt, .ref p, .int (nI E), .int (nI (a + 1)), .int 3, .int (nI a), .int (ft a), .int tk, .int fl, .int pl]), (aB 600 ft)]) rfl rfl) ?_
              refine w_return rfl dX5_step_194 (Nat.le_of_ble_eq_true rfl) (Nat.le_of_ble_eq_true rfl) ?_
              have e : rTok ft E a vl tk fl pl = (E, (a + 1), 3, a, ft a, tk, fl, pl) := by
                rw [rTok, if_pos b54, if_neg (fun z => absurd z.1 (by simpa using b76)), if_neg (fun z => absurd z.1 (by simpa using b111)), if_pos (Or.inr (Or.inr (by simpa using b173)))]
              rw [e] at k
              exact k
      · refine w_aload_n dX5_step_114 rfl ?_
        refine w_get (v := .ref qt) fX5_9 (hUs_at nd 0 rfl rfl) rfl dX5_step_115 ?_
        refine w_aload_n dX5_step_118 rfl ?_
        refine w_get (v := .int (nI a)) fX5_35 (hUs_at nd 0 rfl rfl) rfl dX5_step_119 ?_
        refine w_baloadN (hUs_at nd 1 rfl rfl) (by omega) (by omega) dX5_step_122 ?_
        refine w_bipush (v := 57) dX5_step_123 (by decide) ?_
        refine w_icmp_gt (tgt := 135) dX5_step_125 rfl (fun b125 => ?_) (fun b125 => ?_)
        · refine w_aload_n dX5_step_135 rfl ?_
          refine w_aload_n dX5_step_136 rfl ?_
          refine w_get (v := .ref qt) fX5_9 (hUs_at nd 0 rfl rfl) rfl dX5_step_137 ?_
          refine w_aload_n dX5_step_140 rfl ?_
          refine w_get (v := .int (nI a)) fX5_35 (hUs_at nd 0 rfl rfl) rfl dX5_step_141 ?_
          refine w_baloadN (hUs_at nd 1 rfl rfl) (by omega) (by omega) dX5_step_144 ?_
          refine w_put (fs' := [.ref qt, .ref p, .int (nI E), .int (nI a), .int kd, .int (nI a), .int (ft a), .int tk, .int fl, .int pl]) fX5_159 (hUs_at nd 0 rfl rfl) rfl rfl (Nat.le_of_ble_eq_true rfl) rfl dX5_step_145 ?_
          refine w_heq (hUs_set nd rfl 0 (cs' := [(oC 5 [.ref qt, .ref p, .int (nI E), .int (nI a), .int kd, .int (nI a), .int (ft a), .int tk, .int fl, .int pl]), (aB 600 ft)]) rfl rfl) ?_
          refine w_aload_n dX5_step_148 rfl ?_
          refine w_aload_n dX5_step_149 rfl ?_
          refine w_get (v := .int (ft a)) fX5_159 (hUs_at nd 0 rfl rfl) rfl dX5_step_150 ?_
          refine w_bipush (v := 59) dX5_step_153 (by decide) ?_
          refine w_icmp_eq (tgt := 176) dX5_step_155 rfl (fun b155 => ?_) (fun b155 => ?_)
          · refine w_iconst (v := 3) dX5_step_176 (by decide) ?_
            refine w_goto (tgt := 181) dX5_step_177 rfl ?_
            refine w_put (fs' := [.ref qt, .ref p, .int (nI E), .int (nI a), .int 3, .int (nI a), .int (ft a), .int tk, .int fl, .int pl]) fX5_63 (hUs_at nd 0 rfl rfl) rfl rfl (Nat.le_of_ble_eq_true rfl) rfl dX5_step_181 ?_
            refine w_heq (hUs_set nd rfl 0 (cs' := [(oC 5 [.ref qt, .ref p, .int (nI E), .int (nI a), .int 3, .int (nI a), .int (ft a), .int tk, .int fl, .int pl]), (aB 600 ft)]) rfl rfl) ?_
            refine w_aload_n dX5_step_184 rfl ?_
            refine w_dup dX5_step_185 rfl ?_
            refine w_get (v := .int (nI a)) fX5_35 (hUs_at nd 0 rfl rfl) rfl dX5_step_186 ?_
            refine w_iconst (v := 1) dX5_step_189 (by decide) ?_
            refine w_iaddE (z := nI (a + 1)) dX5_step_190 (nI_add (a) (1)) ?_
            refine w_put (fs' := [.ref qt, .ref p, .int (nI E), .int (nI (a + 1)), .int 3, .int (nI a), .int (ft a), .int tk, .int fl, .int pl]) fX5_35 (hUs_at nd 0 rfl rfl) rfl rfl (Nat.le_of_ble_eq_true rfl) rfl dX5_step_191 ?_
            refine w_heq (hUs_set nd rfl 0 (cs' := [(oC 5 [.ref qt, .ref p, .int (nI E), .int (nI (a + 1)), .int 3, .int (nI a), .int (ft a), .int tk, .int fl, .int pl]), (aB 600 ft)]) rfl rfl) ?_
            refine w_return rfl dX5_step_194 (Nat.le_of_ble_eq_true rfl) (Nat.le_of_ble_eq_true rfl) ?_
            have e : rTok ft E a vl tk fl pl = (E, (a + 1), 3, a, ft a, tk, fl, pl) := by
              rw [rTok, if_pos b54, if_neg (fun z => absurd z.1 (by simpa using b76)), if_neg (fun z => absurd z.2 (by simpa using b125)), if_pos (Or.inl b155)]
            rw [e] at k
            exact k
          · refine w_aload_n dX5_step_158 rfl ?_
            refine w_get (v := .int (ft a)) fX5_159 (hUs_at nd 0 rfl rfl) rfl dX5_step_159 ?_
            refine w_bipush (v := 44) dX5_step_162 (by decide) ?_
            refine w_icmp_eq (tgt := 176) dX5_step_164 rfl (fun b164 => ?_) (fun b164 => ?_)
            · refine w_iconst (v := 3) dX5_step_176 (by decide) ?_
              refine w_goto (tgt := 181) dX5_step_177 rfl ?_
              refine w_put (fs' := [.ref qt, .ref p, .int (nI E), .int (nI a), .int 3, .int (nI a), .int (ft a), .int tk, .int fl, .int pl]) fX5_63 (hUs_at nd 0 rfl rfl) rfl rfl (Nat.le_of_ble_eq_true rfl) rfl dX5_step_181 ?_
              refine w_heq (hUs_set nd rfl 0 (cs' := [(oC 5 [.ref qt, .ref p, .int (nI E), .int (nI a), .int 3, .int (nI a), .int (ft a), .int tk, .int fl, .int pl]), (aB 600 ft)]) rfl rfl) ?_
              refine w_aload_n dX5_step_184 rfl ?_
              refine w_dup dX5_step_185 rfl ?_
              refine w_get (v := .int (nI a)) fX5_35 (hUs_at nd 0 rfl rfl) rfl dX5_step_186 ?_
              refine w_iconst (v := 1) dX5_step_189 (by decide) ?_
              refine w_iaddE (z := nI (a + 1)) dX5_step_190 (nI_add (a) (1)) ?_
              refine w_put (fs' := [.ref qt, .ref p, .int (nI E), .int (nI (a + 1)), .int 3, .int (nI a), .int (ft a), .int tk, .int fl, .int pl]) fX5_35 (hUs_at nd 0 rfl rfl) rfl rfl (Nat.le_of_ble_eq_true rfl) rfl dX5_step_191 ?_
              refine w_heq (hUs_set nd rfl 0 (cs' := [(oC 5 [.ref qt, .ref p, .int (nI E), .int (nI (a + 1)), .int 3, .int (nI a), .int (ft a), .int tk, .int fl, .int pl]), (aB 600 ft)]) rfl rfl) ?_
              refine w_return rfl dX5_step_194 (Nat.le_of_ble_eq_true rfl) (Nat.le_of_ble_eq_true rfl) ?_
              have e : rTok ft E a vl tk fl pl = (E, (a + 1), 3, a, ft a, tk, fl, pl) := by
                rw [rTok, if_pos b54, if_neg (fun z => absurd z.1 (by simpa using b76)), if_neg (fun z => absurd z.2 (by simpa using b125)), if_pos (Or.inr (Or.inl b164))]
              rw [e] at k
              exact k
            · refine w_aload_n dX5_step_167 rfl ?_
              refine w_get (v := .int (ft a)) fX5_159 (hUs_at nd 0 rfl rfl) rfl dX5_step_168 ?_
              refine w_bipush (v := 45) dX5_step_171 (by decide) ?_
              refine w_icmp_ne (tgt := 180) dX5_step_173 rfl (fun b173 => ?_) (fun b173 => ?_)
              · refine w_iconst (v := 4) dX5_step_180 (by decide) ?_
                refine w_put (fs' := [.ref qt, .ref p, .int (nI E), .int (nI a), .int 4, .int (nI a), .int (ft a), .int tk, .int fl, .int pl]) fX5_63 (hUs_at nd 0 rfl rfl) rfl rfl (Nat.le_of_ble_eq_true rfl) rfl dX5_step_181 ?_
                refine w_heq (hUs_set nd rfl 0 (cs' := [(oC 5 [.ref qt, .ref p, .int (nI E), .int (nI a), .int 4, .int (nI a), .int (ft a), .int tk, .int fl, .int pl]), (aB 600 ft)]) rfl rfl) ?_
                refine w_aload_n dX5_step_184 rfl ?_
                refine w_dup dX5_step_185 rfl ?_
                refine w_get (v := .int (nI a)) fX5_35 (hUs_at nd 0 rfl rfl) rfl dX5_step_186 ?_
                refine w_iconst (v := 1) dX5_step_189 (by decide) ?_
                refine w_iaddE (z := nI (a + 1)) dX5_step_190 (nI_add (a) (1)) ?_
                refine w_put (fs' := [.ref qt, .ref p, .int (nI E), .int (nI (a + 1)), .int 4, .int (nI a), .int (ft a), .int tk, .int fl, .int pl]) fX5_35 (hUs_at nd 0 rfl rfl) rfl rfl (Nat.le_of_ble_eq_true rfl) rfl dX5_step_191 ?_
                refine w_heq (hUs_set nd rfl 0 (cs' := [(oC 5 [.ref qt, .ref p, .int (nI E), .int (nI (a + 1)), .int 4, .int (nI a), .int (ft a), .int tk, .int fl, .int pl]), (aB 600 ft)]) rfl rfl) ?_
                refine w_return rfl dX5_step_194 (Nat.le_of_ble_eq_true rfl) (Nat.le_of_ble_eq_true rfl) ?_
                have e : rTok ft E a vl tk fl pl = (E, (a + 1), 4, a, ft a, tk, fl, pl) := by
                  rw [rTok, if_pos b54, if_neg (fun z => absurd z.1 (by simpa using b76)), if_neg (fun z => absurd z.2 (by simpa using b125)), if_neg (fun z => z.elim b155 (fun z => z.elim b164 b173))]
                rw [e] at k
                exact k
              · refine w_iconst (v := 3) dX5_step_176 (by decide) ?_
                refine w_goto (tgt := 181) dX5_step_177 rfl ?_
                refine w_put (fs' := [.ref qt, .ref p, .int (nI E), .int (nI a), .int 3, .int (nI a), .int (ft a), .int tk, .int fl, .int pl]) fX5_63 (hUs_at nd 0 rfl rfl) rfl rfl (Nat.le_of_ble_eq_true rfl) rfl dX5_step_181 ?_
                refine w_heq (hUs_set nd rfl 0 (cs' := [(oC 5 [.ref qt, .ref p, .int (nI E), .int (nI a), .int 3, .int (nI a), .int (ft a), .int tk, .int fl, .int pl]), (aB 600 ft)]) rfl rfl) ?_
                refine w_aload_n dX5_step_184 rfl ?_
                refine w_dup dX5_step_185 rfl ?_
                refine w_get (v := .int (nI a)) fX5_35 (hUs_at nd 0 rfl rfl) rfl dX5_step_186 ?_
                refine w_iconst (v := 1) dX5_step_189 (by decide) ?_
                refine w_iaddE (z := nI (a + 1)) dX5_step_190 (nI_add (a) (1)) ?_
                refine w_put (fs' := [.ref qt, .ref p, .int (nI E), .int (nI (a + 1)), .int 3, .int (nI a), .int (ft a), .int tk, .int fl, .int pl]) fX5_35 (hUs_at nd 0 rfl rfl) rfl rfl (Nat.le_of_ble_eq_true rfl) rfl dX5_step_191 ?_
                refine w_heq (hUs_set nd rfl 0 (cs' := [(oC 5 [.ref qt, .ref p, .int (nI E), .int (nI (a + 1)), .int 3, .int (nI a), .int (ft a), .int tk, .int fl, .int pl]), (aB 600 ft)]) rfl rfl) ?_
                refine w_return rfl dX5_step_194 (Nat.le_of_ble_eq_true rfl) (Nat.le_of_ble_eq_true rfl) ?_
                have e : rTok ft E a vl tk fl pl = (E, (a + 1), 3, a, ft a, tk, fl, pl) := by
                  rw [rTok, if_pos b54, if_neg (fun z => absurd z.1 (by simpa using b76)), if_neg (fun z => absurd z.2 (by simpa using b125)), if_pos (Or.inr (Or.inr (by simpa using b173)))]
                rw [e] at k
                exact k
        · refine w_aload_n dX5_step_128 rfl ?_
          refine w_callV (ci := 5) (d' := d) (mc' := 0) (ms' := 0) (As := []) (st := []) lX5_175 vX5_scanWhole rfl (hUs_at nd 0 rfl rfl) rfl (Nat.le_of_ble_eq_true rfl) dX5_step_129 (Nat.le_of_ble_eq_true rfl) (Nat.le_of_ble_eq_true rfl) (Nat.le_refl _) (c_scanWhole (hHas_sub nd (as' := [q, qt]) (cs' := [(oC 5 [.ref qt, .ref p, .int (nI E), .int (nI a), .int kd, .int (nI a), .int vl, .int tk, .int fl, .int pl]), (aB 600 ft)]) [0, 1] rfl rfl) (nd_sub nd (as' := [q, qt]) [0, 1] rfl rfl) hE (by omega) ?_)
          refine w_heq (hUs_in nd rfl [0, 1] (cs2 := [(oC 5 [.ref qt, .ref p, .int (nI E), .int (nI (scD ft E (E - a) a 0 0).1), .int (if 4 < (scD ft E (E - a) a 0 0).2.1 then 4 else 2), .int (nI a), .int (scD ft E (E - a) a 0 0).2.2, .int tk, .int fl, .int pl]), (aB 600 ft)]) rfl rfl) ?_
          refine w_goto (tgt := 194) dX5_step_132 rfl ?_
          refine w_return rfl dX5_step_194 (Nat.le_of_ble_eq_true rfl) (Nat.le_of_ble_eq_true rfl) ?_
          have e : rTok ft E a vl tk fl pl = (E, (scD ft E (E - a) a 0 0).1, (if 4 < (scD ft E (E - a) a 0 0).2.1 then 4 else 2), a, (scD ft E (E - a) a 0 0).2.2, tk, fl, pl) := by
            rw [rTok, if_pos b54, if_neg (fun z => absurd z.1 (by simpa using b76)), if_pos ⟨by simpa using b111, by simpa using b125⟩]
          rw [e] at k
          exact k
    · refine w_aload_n dX5_step_79 rfl ?_
      refine w_get (v := .ref qt) fX5_9 (hUs_at nd 0 rfl rfl) rfl dX5_step_80 ?_
      refine w_aload_n dX5_step_83 rfl ?_
      refine w_get (v := .int (nI a)) fX5_35 (hUs_at nd 0 rfl rfl) rfl dX5_step_84 ?_
      refine w_baloadN (hUs_at nd 1 rfl rfl) (by omega) (by omega) dX5_step_87 ?_
      refine w_bipush (v := 122) dX5_step_88 (by decide) ?_
      refine w_icmp_gt (tgt := 100) dX5_step_90 rfl (fun b90 => ?_) (fun b90 => ?_)
      · refine w_aload_n dX5_step_100 rfl ?_
        refine w_get (v := .ref qt) fX5_9 (hUs_at nd 0 rfl rfl) rfl dX5_step_101 ?_
        refine w_aload_n dX5_step_104 rfl ?_
        refine w_get (v := .int (nI a)) fX5_35 (hUs_at nd 0 rfl rfl) rfl dX5_step_105 ?_
        refine w_baloadN (hUs_at nd 1 rfl rfl) (by omega) (by omega) dX5_step_108 ?_
        refine w_bipush (v := 48) dX5_step_109 (by decide) ?_
        refine w_icmp_lt (tgt := 135) dX5_step_111 rfl (fun b111 => ?_) (fun b111 => ?_)
        · refine w_aload_n dX5_step_135 rfl ?_
          refine w_aload_n dX5_step_136 rfl ?_
          refine w_get (v := .ref qt) fX5_9 (hUs_at nd 0 rfl rfl) rfl dX5_step_137 ?_
          refine w_aload_n dX5_step_140 rfl ?_
          refine w_get (v := .int (nI a)) fX5_35 (hUs_at nd 0 rfl rfl) rfl dX5_step_141 ?_
          refine w_baloadN (hUs_at nd 1 rfl rfl) (by omega) (by omega) dX5_step_144 ?_
          refine w_put (fs' := [.ref qt, .ref p, .int (nI E), .int (nI a), .int kd, .int (nI a), .int (ft a), .int tk, .int fl, .int pl]) fX5_159 (hUs_at nd 0 rfl rfl) rfl rfl (Nat.le_of_ble_eq_true rfl) rfl dX5_step_145 ?_
          refine w_heq (hUs_set nd rfl 0 (cs' := [(oC 5 [.ref qt, .ref p, .int (nI E), .int (nI a), .int kd, .int (nI a), .int (ft a), .int tk, .int fl, .int pl]), (aB 600 ft)]) rfl rfl) ?_
          refine w_aload_n dX5_step_148 rfl ?_
          refine w_aload_n dX5_step_149 rfl ?_
          refine w_get (v := .int (ft a)) fX5_159 (hUs_at nd 0 rfl rfl) rfl dX5_step_150 ?_
          refine w_bipush (v := 59) dX5_step_153 (by decide) ?_
          refine w_icmp_eq (tgt := 176) dX5_step_155 rfl (fun b155 => ?_) (fun b155 => ?_)
          · refine w_iconst (v := 3) dX5_step_176 (by decide) ?_
            refine w_goto (tgt := 181) dX5_step_177 rfl ?_
            refine w_put (fs' := [.ref qt, .ref p, .int (nI E), .int (nI a), .int 3, .int (nI a), .int (ft a), .int tk, .int fl, .int pl]) fX5_63 (hUs_at nd 0 rfl rfl) rfl rfl (Nat.le_of_ble_eq_true rfl) rfl dX5_step_181 ?_
            refine w_heq (hUs_set nd rfl 0 (cs' := [(oC 5 [.ref qt, .ref p, .int (nI E), .int (nI a), .int 3, .int (nI a), .int (ft a), .int tk, .int fl, .int pl]), (aB 600 ft)]) rfl rfl) ?_
            refine w_aload_n dX5_step_184 rfl ?_
            refine w_dup dX5_step_185 rfl ?_
            refine w_get (v := .int (nI a)) fX5_35 (hUs_at nd 0 rfl rfl) rfl dX5_step_186 ?_
            refine w_iconst (v := 1) dX5_step_189 (by decide) ?_
            refine w_iaddE (z := nI (a + 1)) dX5_step_190 (nI_add (a) (1)) ?_
            refine w_put (fs' := [.ref qt, .ref p, .int (nI E), .int (nI (a + 1)), .int 3, .int (nI a), .int (ft a), .int tk, .int fl, .int pl]) fX5_35 (hUs_at nd 0 rfl rfl) rfl rfl (Nat.le_of_ble_eq_true rfl) rfl dX5_step_191 ?_
            refine w_heq (hUs_set nd rfl 0 (cs' := [(oC 5 [.ref qt, .ref p, .int (nI E), .int (nI (a + 1)), .int 3, .int (nI a), .int (ft a), .int tk, .int fl, .int pl]), (aB 600 ft)]) rfl rfl) ?_
            refine w_return rfl dX5_step_194 (Nat.le_of_ble_eq_true rfl) (Nat.le_of_ble_eq_true rfl) ?_
            have e : rTok ft E a vl tk fl pl = (E, (a + 1), 3, a, ft a, tk, fl, pl) := by
              rw [rTok, if_pos b54, if_neg (fun z => absurd z.2 (by simpa using b90)), if_neg (fun z => absurd z.1 (by simpa using b111)), if_pos (Or.inl b155)]
            rw [e] at k
            exact k
          · refine w_aload_n dX5_step_158 rfl ?_
            refine w_get (v := .int (ft a)) fX5_159 (hUs_at nd 0 rfl rfl) rfl dX5_step_159 ?_
            refine w_bipush (v := 44) dX5_step_162 (by decide) ?_
            refine w_icmp_eq (tgt := 176) dX5_step_164 rfl (fun b164 => ?_) (fun b164 => ?_)
            · refine w_iconst (v := 3) dX5_step_176 (by decide) ?_
              refine w_goto (tgt := 181) dX5_step_177 rfl ?_
              refine w_put (fs' := [.ref qt, .ref p, .int (nI E), .int (nI a), .int 3, .int (nI a), .int (ft a), .int tk, .int fl, .int pl]) fX5_63 (hUs_at nd 0 rfl rfl) rfl rfl (Nat.le_of_ble_eq_true rfl) rfl dX5_step_181 ?_
              refine w_heq (hUs_set nd rfl 0 (cs' := [(oC 5 [.ref qt, .ref p, .int (nI E), .int (nI a), .int 3, .int (nI a), .int (ft a), .int tk, .int fl, .int pl]), (aB 600 ft)]) rfl rfl) ?_
              refine w_aload_n dX5_step_184 rfl ?_
              refine w_dup dX5_step_185 rfl ?_
              refine w_get (v := .int (nI a)) fX5_35 (hUs_at nd 0 rfl rfl) rfl dX5_step_186 ?_
              refine w_iconst (v := 1) dX5_step_189 (by decide) ?_
              refine w_iaddE (z := nI (a + 1)) dX5_step_190 (nI_add (a) (1)) ?_
              refine w_put (fs' := [.ref qt, .ref p, .int (nI E), .int (nI (a + 1)), .int 3, .int (nI a), .int (ft a), .int tk, .int fl, .int pl]) fX5_35 (hUs_at nd 0 rfl rfl) rfl rfl (Nat.le_of_ble_eq_true rfl) rfl dX5_step_191 ?_
              refine w_heq (hUs_set nd rfl 0 (cs' := [(oC 5 [.ref qt, .ref p, .int (nI E), .int (nI (a + 1)), .int 3, .int (nI a), .int (ft a), .int tk, .int fl, .int pl]), (aB 600 ft)]) rfl rfl) ?_
              refine w_return rfl dX5_step_194 (Nat.le_of_ble_eq_true rfl) (Nat.le_of_ble_eq_true rfl) ?_
              have e : rTok ft E a vl tk fl pl = (E, (a + 1), 3, a, ft a, tk, fl, pl) := by
                rw [rTok, if_pos b54, if_neg (fun z => absurd z.2 (by simpa using b90)), if_neg (fun z => absurd z.1 (by simpa using b111)), if_pos (Or.inr (Or.inl b164))]
              rw [e] at k
              exact k
            · refine w_aload_n dX5_step_167 rfl ?_
              refine w_get (v := .int (ft a)) fX5_159 (hUs_at nd 0 rfl rfl) rfl dX5_step_168 ?_
              refine w_bipush (v := 45) dX5_step_171 (by decide) ?_
              refine w_icmp_ne (tgt := 180) dX5_step_173 rfl (fun b173 => ?_) (fun b173 => ?_)
              · refine w_iconst (v := 4) dX5_step_180 (by decide) ?_
                refine w_put (fs' := [.ref qt, .ref p, .int (nI E), .int (nI a), .int 4, .int (nI a), .int (ft a), .int tk, .int fl, .int pl]) fX5_63 (hUs_at nd 0 rfl rfl) rfl rfl (Nat.le_of_ble_eq_true rfl) rfl dX5_step_181 ?_
                refine w_heq (hUs_set nd rfl 0 (cs' := [(oC 5 [.ref qt, .ref p, .int (nI E), .int (nI a), .int 4, .int (nI a), .int (ft a), .int tk, .int fl, .int pl]), (aB 600 ft)]) rfl rfl) ?_
                refine w_aload_n dX5_step_184 rfl ?_
                refine w_dup dX5_step_185 rfl ?_
                refine w_get (v := .int (nI a)) fX5_35 (hUs_at nd 0 rfl rfl) rfl dX5_step_186 ?_
                refine w_iconst (v := 1) dX5_step_189 (by decide) ?_
                refine w_iaddE (z := nI (a + 1)) dX5_step_190 (nI_add (a) (1)) ?_
                refine w_put (fs' := [.ref qt, .ref p, .int (nI E), .int (nI (a + 1)), .int 4, .int (nI a), .int (ft a), .int tk, .int fl, .int pl]) fX5_35 (hUs_at nd 0 rfl rfl) rfl rfl (Nat.le_of_ble_eq_true rfl) rfl dX5_step_191 ?_
                refine w_heq (hUs_set nd rfl 0 (cs' := [(oC 5 [.ref qt, .ref p, .int (nI E), .int (nI (a + 1)), .int 4, .int (nI a), .int (ft a), .int tk, .int fl, .int pl]), (aB 600 ft)]) rfl rfl) ?_
                refine w_return rfl dX5_step_194 (Nat.le_of_ble_eq_true rfl) (Nat.le_of_ble_eq_true rfl) ?_
                have e : rTok ft E a vl tk fl pl = (E, (a + 1), 4, a, ft a, tk, fl, pl) := by
                  rw [rTok, if_pos b54, if_neg (fun z => absurd z.2 (by simpa using b90)), if_neg (fun z => absurd z.1 (by simpa using b111)), if_neg (fun z => z.elim b155 (fun z => z.elim b164 b173))]
                rw [e] at k
                exact k
              · refine w_iconst (v := 3) dX5_step_176 (by decide) ?_
                refine w_goto (tgt := 181) dX5_step_177 rfl ?_
                refine w_put (fs' := [.ref qt, .ref p, .int (nI E), .int (nI a), .int 3, .int (nI a), .int (ft a), .int tk, .int fl, .int pl]) fX5_63 (hUs_at nd 0 rfl rfl) rfl rfl (Nat.le_of_ble_eq_true rfl) rfl dX5_step_181 ?_
                refine w_heq (hUs_set nd rfl 0 (cs' := [(oC 5 [.ref qt, .ref p, .int (nI E), .int (nI a), .int 3, .int (nI a), .int (ft a), .int tk, .int fl, .int pl]), (aB 600 ft)]) rfl rfl) ?_
                refine w_aload_n dX5_step_184 rfl ?_
                refine w_dup dX5_step_185 rfl ?_
                refine w_get (v := .int (nI a)) fX5_35 (hUs_at nd 0 rfl rfl) rfl dX5_step_186 ?_
                refine w_iconst (v := 1) dX5_step_189 (by decide) ?_
                refine w_iaddE (z := nI (a + 1)) dX5_step_190 (nI_add (a) (1)) ?_
                refine w_put (fs' := [.ref qt, .ref p, .int (nI E), .int (nI (a + 1)), .int 3, .int (nI a), .int (ft a), .int tk, .int fl, .int pl]) fX5_35 (hUs_at nd 0 rfl rfl) rfl rfl (Nat.le_of_ble_eq_true rfl) rfl dX5_step_191 ?_
                refine w_heq (hUs_set nd rfl 0 (cs' := [(oC 5 [.ref qt, .ref p, .int (nI E), .int (nI (a + 1)), .int 3, .int (nI a), .int (ft a), .int tk, .int fl, .int pl]), (aB 600 ft)]) rfl rfl) ?_
                refine w_return rfl dX5_step_194 (Nat.le_of_ble_eq_true rfl) (Nat.le_of_ble_eq_true rfl) ?_
                have e : rTok ft E a vl tk fl pl = (E, (a + 1), 3, a, ft a, tk, fl, pl) := by
                  rw [rTok, if_pos b54, if_neg (fun z => absurd z.2 (by simpa using b90)), if_neg (fun z => absurd z.1 (by simpa using b111)), if_pos (Or.inr (Or.inr (by simpa using b173)))]
                rw [e] at k
                exact k
        · refine w_aload_n dX5_step_114 rfl ?_
          refine w_get (v := .ref qt) fX5_9 (hUs_at nd 0 rfl rfl) rfl dX5_step_115 ?_
          refine w_aload_n dX5_step_118 rfl ?_
          refine w_get (v := .int (nI a)) fX5_35 (hUs_at nd 0 rfl rfl) rfl dX5_step_119 ?_
          refine w_baloadN (hUs_at nd 1 rfl rfl) (by omega) (by omega) dX5_step_122 ?_
          refine w_bipush (v := 57) dX5_step_123 (by decide) ?_
          refine w_icmp_gt (tgt := 135) dX5_step_125 rfl (fun b125 => ?_) (fun b125 => ?_)
          · refine w_aload_n dX5_step_135 rfl ?_
            refine w_aload_n dX5_step_136 rfl ?_
            refine w_get (v := .ref qt) fX5_9 (hUs_at nd 0 rfl rfl) rfl dX5_step_137 ?_
            refine w_aload_n dX5_step_140 rfl ?_
            refine w_get (v := .int (nI a)) fX5_35 (hUs_at nd 0 rfl rfl) rfl dX5_step_141 ?_
            refine w_baloadN (hUs_at nd 1 rfl rfl) (by omega) (by omega) dX5_step_144 ?_
            refine w_put (fs' := [.ref qt, .ref p, .int (nI E), .int (nI a), .int kd, .int (nI a), .int (ft a), .int tk, .int fl, .int pl]) fX5_159 (hUs_at nd 0 rfl rfl) rfl rfl (Nat.le_of_ble_eq_true rfl) rfl dX5_step_145 ?_
            refine w_heq (hUs_set nd rfl 0 (cs' := [(oC 5 [.ref qt, .ref p, .int (nI E), .int (nI a), .int kd, .int (nI a), .int (ft a), .int tk, .int fl, .int pl]), (aB 600 ft)]) rfl rfl) ?_
            refine w_aload_n dX5_step_148 rfl ?_
            refine w_aload_n dX5_step_149 rfl ?_
            refine w_get (v := .int (ft a)) fX5_159 (hUs_at nd 0 rfl rfl) rfl dX5_step_150 ?_
            refine w_bipush (v := 59) dX5_step_153 (by decide) ?_
            refine w_icmp_eq (tgt := 176) dX5_step_155 rfl (fun b155 => ?_) (fun b155 => ?_)
            · refine w_iconst (v := 3) dX5_step_176 (by decide) ?_
              refine w_goto (tgt := 181) dX5_step_177 rfl ?_
              refine w_put (fs' := [.ref qt, .ref p, .int (nI E), .int (nI a), .int 3, .int (nI a), .int (ft a), .int tk, .int fl, .int pl]) fX5_63 (hUs_at nd 0 rfl rfl) rfl rfl (Nat.le_of_ble_eq_true rfl) rfl dX5_step_181 ?_
              refine w_heq (hUs_set nd rfl 0 (cs' := [(oC 5 [.ref qt, .ref p, .int (nI E), .int (nI a), .int 3, .int (nI a), .int (ft a), .int tk, .int fl, .int pl]), (aB 600 ft)]) rfl rfl) ?_
              refine w_aload_n dX5_step_184 rfl ?_
              refine w_dup dX5_step_185 rfl ?_
              refine w_get (v := .int (nI a)) fX5_35 (hUs_at nd 0 rfl rfl) rfl dX5_step_186 ?_
              refine w_iconst (v := 1) dX5_step_189 (by decide) ?_
              refine w_iaddE (z := nI (a + 1)) dX5_step_190 (nI_add (a) (1)) ?_
              refine w_put (fs' := [.ref qt, .ref p, .int (nI E), .int (nI (a + 1)), .int 3, .int (nI a), .int (ft a), .int tk, .int fl, .int pl]) fX5_35 (hUs_at nd 0 rfl rfl) rfl rfl (Nat.le_of_ble_eq_true rfl) rfl dX5_step_191 ?_
              refine w_heq (hUs_set nd rfl 0 (cs' := [(oC 5 [.ref qt, .ref p, .int (nI E), .int (nI (a + 1)), .int 3, .int (nI a), .int (ft a), .int tk, .int fl, .int pl]), (aB 600 ft)]) rfl rfl) ?_
              refine w_return rfl dX5_step_194 (Nat.le_of_ble_eq_true rfl) (Nat.le_of_ble_eq_true rfl) ?_
              have e : rTok ft E a vl tk fl pl = (E, (a + 1), 3, a, ft a, tk, fl, pl) := by
                rw [rTok, if_pos b54, if_neg (fun z => absurd z.2 (by simpa using b90)), if_neg (fun z => absurd z.2 (by simpa using b125)), if_pos (Or.inl b155)]
              rw [e] at k
              exact k
            · refine w_aload_n dX5_step_158 rfl ?_
              refine w_get (v := .int (ft a)) fX5_159 (hUs_at nd 0 rfl rfl) rfl dX5_step_159 ?_
              refine w_bipush (v := 44) dX5_step_162 (by decide) ?_
              refine w_icmp_eq (tgt := 176) dX5_step_164 rfl (fun b164 => ?_) (fun b164 => ?_)
              · refine w_iconst (v := 3) dX5_step_176 (by decide) ?_
                refine w_goto (tgt := 181) dX5_step_177 rfl ?_
                refine w_put (fs' := [.ref qt, .ref p, .int (nI E), .int (nI a), .int 3, .int (nI a), .int (ft a), .int tk, .int fl, .int pl]) fX5_63 (hUs_at nd 0 rfl rfl) rfl rfl (Nat.le_of_ble_eq_true rfl) rfl dX5_step_181 ?_
                refine w_heq (hUs_set nd rfl 0 (cs' := [(oC 5 [.ref qt, .ref p, .int (nI E), .int (nI a), .int 3, .int (nI a), .int (ft a), .int tk, .int fl, .int pl]), (aB 600 ft)]) rfl rfl) ?_
                refine w_aload_n dX5_step_184 rfl ?_
                refine w_dup dX5_step_185 rfl ?_
                refine w_get (v := .int (nI a)) fX5_35 (hUs_at nd 0 rfl rfl) rfl dX5_step_186 ?_
                refine w_iconst (v := 1) dX5_step_189 (by decide) ?_
                refine w_iaddE (z := nI (a + 1)) dX5_step_190 (nI_add (a) (1)) ?_
                refine w_put (fs' := [.ref qt, .ref p, .int (nI E), .int (nI (a + 1)), .int 3, .int (nI a), .int (ft a), .int tk, .int fl, .int pl]) fX5_35 (hUs_at nd 0 rfl rfl) rfl rfl (Nat.le_of_ble_eq_true rfl) rfl dX5_step_191 ?_
                refine w_heq (hUs_set nd rfl 0 (cs' := [(oC 5 [.ref qt, .ref p, .int (nI E), .int (nI (a + 1)), .int 3, .int (nI a), .int (ft a), .int tk, .int fl, .int pl]), (aB 600 ft)]) rfl rfl) ?_
                refine w_return rfl dX5_step_194 (Nat.le_of_ble_eq_true rfl) (Nat.le_of_ble_eq_true rfl) ?_
                have e : rTok ft E a vl tk fl pl = (E, (a + 1), 3, a, ft a, tk, fl, pl) := by
                  rw [rTok, if_pos b54, if_neg (fun z => absurd z.2 (by simpa using b90)), if_neg (fun z => absurd z.2 (by simpa using b125)), if_pos (Or.inr (Or.inl b164))]
                rw [e] at k
                exact k
              · refine w_aload_n dX5_step_167 rfl ?_
                refine w_get (v := .int (ft a)) fX5_159 (hUs_at nd 0 rfl rfl) rfl dX5_step_168 ?_
                refine w_bipush (v := 45) dX5_step_171 (by decide) ?_
                refine w_icmp_ne (tgt := 180) dX5_step_173 rfl (fun b173 => ?_) (fun b173 => ?_)
                · refine w_iconst (v := 4) dX5_step_180 (by decide) ?_
                  refine w_put (fs' := [.ref qt, .ref p, .int (nI E), .int (nI a), .int 4, .int (nI a), .int (ft a), .int tk, .int fl, .int pl]) fX5_63 (hUs_at nd 0 rfl rfl) rfl rfl (Nat.le_of_ble_eq_true rfl) rfl dX5_step_181 ?_
                  refine w_heq (hUs_set nd rfl 0 (cs' := [(oC 5 [.ref qt, .ref p, .int (nI E), .int (nI a), .int 4, .int (nI a), .int (ft a), .int tk, .int fl, .int pl]), (aB 600 ft)]) rfl rfl) ?_
                  refine w_aload_n dX5_step_184 rfl ?_
                  refine w_dup dX5_step_185 rfl ?_
                  refine w_get (v := .int (nI a)) fX5_35 (hUs_at nd 0 rfl rfl) rfl dX5_step_186 ?_
                  refine w_iconst (v := 1) dX5_step_189 (by decide) ?_
                  refine w_iaddE (z := nI (a + 1)) dX5_step_190 (nI_add (a) (1)) ?_
                  refine w_put (fs' := [.ref qt, .ref p, .int (nI E), .int (nI (a + 1)), .int 4, .int (nI a), .int (ft a), .int tk, .int fl, .int pl]) fX5_35 (hUs_at nd 0 rfl rfl) rfl rfl (Nat.le_of_ble_eq_true rfl) rfl dX5_step_191 ?_
                  refine w_heq (hUs_set nd rfl 0 (cs' := [(oC 5 [.ref qt, .ref p, .int (nI E), .int (nI (a + 1)), .int 4, .int (nI a), .int (ft a), .int tk, .int fl, .int pl]), (aB 600 ft)]) rfl rfl) ?_
                  refine w_return rfl dX5_step_194 (Nat.le_of_ble_eq_true rfl) (Nat.le_of_ble_eq_true rfl) ?_
                  have e : rTok ft E a vl tk fl pl = (E, (a + 1), 4, a, ft a, tk, fl, pl) := by
                    rw [rTok, if_pos b54, if_neg (fun z => absurd z.2 (by simpa using b90)), if_neg (fun z => absurd z.2 (by simpa using b125)), if_neg (fun z => z.elim b155 (fun z => z.elim b164 b173))]
                  rw [e] at k
                  exact k
                · refine w_iconst (v := 3) dX5_step_176 (by decide) ?_
                  refine w_goto (tgt := 181) dX5_step_177 rfl ?_
                  refine w_put (fs' := [.ref qt, .ref p, .int (nI E), .int (nI a), .int 3, .int (nI a), .int (ft a), .int tk, .int fl, .int pl]) fX5_63 (hUs_at nd 0 rfl rfl) rfl rfl (Nat.le_of_ble_eq_true rfl) rfl dX5_step_181 ?_
                  refine w_heq (hUs_set nd rfl 0 (cs' := [(oC 5 [.ref qt, .ref p, .int (nI E), .int (nI a), .int 3, .int (nI a), .int (ft a), .int tk, .int fl, .int pl]), (aB 600 ft)]) rfl rfl) ?_
                  refine w_aload_n dX5_step_184 rfl ?_
                  refine w_dup dX5_step_185 rfl ?_
                  refine w_get (v := .int (nI a)) fX5_35 (hUs_at nd 0 rfl rfl) rfl dX5_step_186 ?_
                  refine w_iconst (v := 1) dX5_step_189 (by decide) ?_
                  refine w_iaddE (z := nI (a + 1)) dX5_step_190 (nI_add (a) (1)) ?_
                  refine w_put (fs' := [.ref qt, .ref p, .int (nI E), .int (nI (a + 1)), .int 3, .int (nI a), .int (ft a), .int tk, .int fl, .int pl]) fX5_35 (hUs_at nd 0 rfl rfl) rfl rfl (Nat.le_of_ble_eq_true rfl) rfl dX5_step_191 ?_
                  refine w_heq (hUs_set nd rfl 0 (cs' := [(oC 5 [.ref qt, .ref p, .int (nI E), .int (nI (a + 1)), .int 3, .int (nI a), .int (ft a), .int tk, .int fl, .int pl]), (aB 600 ft)]) rfl rfl) ?_
                  refine w_return rfl dX5_step_194 (Nat.le_of_ble_eq_true rfl) (Nat.le_of_ble_eq_true rfl) ?_
                  have e : rTok ft E a vl tk fl pl = (E, (a + 1), 3, a, ft a, tk, fl, pl) := by
                    rw [rTok, if_pos b54, if_neg (fun z => absurd z.2 (by simpa using b90)), if_neg (fun z => absurd z.2 (by simpa using b125)), if_pos (Or.inr (Or.inr (by simpa using b173)))]
                  rw [e] at k
                  exact k
          · refine w_aload_n dX5_step_128 rfl ?_
            refine w_callV (ci := 5) (d' := d) (mc' := 0) (ms' := 0) (As := []) (st := []) lX5_175 vX5_scanWhole rfl (hUs_at nd 0 rfl rfl) rfl (Nat.le_of_ble_eq_true rfl) dX5_step_129 (Nat.le_of_ble_eq_true rfl) (Nat.le_of_ble_eq_true rfl) (Nat.le_refl _) (c_scanWhole (hHas_sub nd (as' := [q, qt]) (cs' := [(oC 5 [.ref qt, .ref p, .int (nI E), .int (nI a), .int kd, .int (nI a), .int vl, .int tk, .int fl, .int pl]), (aB 600 ft)]) [0, 1] rfl rfl) (nd_sub nd (as' := [q, qt]) [0, 1] rfl rfl) hE (by omega) ?_)
            refine w_heq (hUs_in nd rfl [0, 1] (cs2 := [(oC 5 [.ref qt, .ref p, .int (nI E), .int (nI (scD ft E (E - a) a 0 0).1), .int (if 4 < (scD ft E (E - a) a 0 0).2.1 then 4 else 2), .int (nI a), .int (scD ft E (E - a) a 0 0).2.2, .int tk, .int fl, .int pl]), (aB 600 ft)]) rfl rfl) ?_
            refine w_goto (tgt := 194) dX5_step_132 rfl ?_
            refine w_return rfl dX5_step_194 (Nat.le_of_ble_eq_true rfl) (Nat.le_of_ble_eq_true rfl) ?_
            have e : rTok ft E a vl tk fl pl = (E, (scD ft E (E - a) a 0 0).1, (if 4 < (scD ft E (E - a) a 0 0).2.1 then 4 else 2), a, (scD ft E (E - a) a 0 0).2.2, tk, fl, pl) := by
              rw [rTok, if_pos b54, if_neg (fun z => absurd z.2 (by simpa using b90)), if_pos ⟨by simpa using b111, by simpa using b125⟩]
            rw [e] at k
            exact k
      · refine w_aload_n dX5_step_93 rfl ?_
        refine w_callV (ci := 5) (d' := d) (mc' := 0) (ms' := 0) (As := []) (st := []) lX5_172 vX5_scanWord rfl (hUs_at nd 0 rfl rfl) rfl (Nat.le_of_ble_eq_true rfl) dX5_step_94 (Nat.le_of_ble_eq_true rfl) (Nat.le_of_ble_eq_true rfl) (Nat.le_refl _) (c_scanWord (hHas_sub nd (as' := [q, qt]) (cs' := [(oC 5 [.ref qt, .ref p, .int (nI E), .int (nI a), .int kd, .int (nI a), .int vl, .int tk, .int fl, .int pl]), (aB 600 ft)]) [0, 1] rfl rfl) (nd_sub nd (as' := [q, qt]) [0, 1] rfl rfl) hE (by omega) ?_)
        refine w_heq (hUs_in nd rfl [0, 1] (cs2 := [(oC 5 [.ref qt, .ref p, .int (nI E), .int (nI (scW ft E (E - a) a 0 0).1), .int (if 6 < (scW ft E (E - a) a 0 0).2.1 then 4 else 1), .int (nI a), .int (scW ft E (E - a) a 0 0).2.2, .int tk, .int fl, .int pl]), (aB 600 ft)]) rfl rfl) ?_
        refine w_goto (tgt := 194) dX5_step_97 rfl ?_
        refine w_return rfl dX5_step_194 (Nat.le_of_ble_eq_true rfl) (Nat.le_of_ble_eq_true rfl) ?_
        have e : rTok ft E a vl tk fl pl = (E, (scW ft E (E - a) a 0 0).1, (if 6 < (scW ft E (E - a) a 0 0).2.1 then 4 else 1), a, (scW ft E (E - a) a 0 0).2.2, tk, fl, pl) := by
          rw [rTok, if_pos b54, if_pos ⟨by simpa using b76, by simpa using b90⟩]
        rw [e] at k
        exact k
  · have b54 : ¬ a < E := fun z => b54 ((nI_ltI (a := a) (b := E) (by omega) (by omega)).mpr z)
    refine w_aload_n dX5_step_57 rfl ?_
    refine w_iconst (v := 0) dX5_step_58 (by decide) ?_
    refine w_put (fs' := [.ref qt, .ref p, .int (nI E), .int (nI a), .int 0, .int (nI a), .int vl, .int tk, .int fl, .int pl]) fX5_63 (hUs_at nd 0 rfl rfl) rfl rfl (Nat.le_of_ble_eq_true rfl) rfl dX5_step_59 ?_
    refine w_heq (hUs_set nd rfl 0 (cs' := [(oC 5 [.ref qt, .ref p, .int (nI E), .int (nI a), .int 0, .int (nI a), .int vl, .int tk, .int fl, .int pl]), (aB 600 ft)]) rfl rfl) ?_
    refine w_goto (tgt := 194) dX5_step_62 rfl ?_
    refine w_return rfl dX5_step_194 (Nat.le_of_ble_eq_true rfl) (Nat.le_of_ble_eq_true rfl) ?_
    have e : rTok ft E a vl tk fl pl = (E, a, 0, a, vl, tk, fl, pl) := by
      rw [rTok, if_neg (by omega)]
    rw [e] at k
    exact k
set_option maxRecDepth 100000 in
set_option maxHeartbeats 4000000 in
theorem l_step {G : wG} {d : Nat} {h : hH} {Q : Option Value → hH → Prop} {q qt p E b : Nat} {kd vl tk fl pl : Int32} {ft : Nat → Int32} (nd : [q, qt].Nodup) (hE : E ≤ 600) : ∀ (n : Nat) (a : Nat), a + n = E → a ≤ E → Q none (hUs h [q, qt] [oC 5 (rdF qt p (rTok ft E (scB ft E n a) vl tk fl pl)), aB 600 ft]) → WP G RX5 cX5_step 1 none false (d + 1) 0 0 0 0 Q 0 [some (.ref q)] [] (hUs h [q, qt] [(oC 5 [.ref qt, .ref p, .int (nI E), .int (nI a), .int kd, .int (nI b), .int vl, .int tk, .int fl, .int pl]), (aB 600 ft)]) := by
  intro n
  induction n with
  | zero =>
    intro a hi ha k
    refine w_aload_n dX5_step_0 rfl ?_
    refine w_get (v := .int (nI a)) fX5_35 (hUs_at nd 0 rfl rfl) rfl dX5_step_1 ?_
    refine w_aload_n dX5_step_4 rfl ?_
    refine w_get (v := .int (nI E)) fX5_31 (hUs_at nd 0 rfl rfl) rfl dX5_step_5 ?_
    refine w_icmp_ge_t (tgt := 38) dX5_step_8 rfl ((nI_leI (a := E) (b := a) (by omega) (by omega)).mpr (by omega)) ?_
    exact t_step nd hE ha k
  | succ n ih =>
    intro a hi ha k
    refine w_aload_n dX5_step_0 rfl ?_
    refine w_get (v := .int (nI a)) fX5_35 (hUs_at nd 0 rfl rfl) rfl dX5_step_1 ?_
    refine w_aload_n dX5_step_4 rfl ?_
    refine w_get (v := .int (nI E)) fX5_31 (hUs_at nd 0 rfl rfl) rfl dX5_step_5 ?_
    refine w_icmp_ge_f (tgt := 38) dX5_step_8 rfl (fun z => absurd ((nI_leI (a := E) (b := a) (by omega) (by omega)).mp z) (by omega)) ?_
    refine w_aload_n dX5_step_11 rfl ?_
    refine w_get (v := .ref qt) fX5_9 (hUs_at nd 0 rfl rfl) rfl dX5_step_12 ?_
    refine w_aload_n dX5_step_15 rfl ?_
    refine w_get (v := .int (nI a)) fX5_35 (hUs_at nd 0 rfl rfl) rfl dX5_step_16 ?_
    refine w_baloadN (hUs_at nd 1 rfl rfl) (by omega) (by omega) dX5_step_19 ?_
    refine w_bipush (v := 32) dX5_step_20 (by decide) ?_
    refine w_icmp_ne (tgt := 38) dX5_step_22 rfl (fun b22 => ?_) (fun b22 => ?_)
    · have e : scB ft E (n + 1) a = a := by
        rw [scB, if_neg (fun z => b22 z.2)]
      rw [e] at k
      exact t_step nd hE ha k
    · refine w_aload_n dX5_step_25 rfl ?_
      refine w_dup dX5_step_26 rfl ?_
      refine w_get (v := .int (nI a)) fX5_35 (hUs_at nd 0 rfl rfl) rfl dX5_step_27 ?_
      refine w_iconst (v := 1) dX5_step_30 (by decide) ?_
      refine w_iaddE (z := nI (a + 1)) dX5_step_31 (nI_add (a) (1)) ?_
      refine w_put (fs' := [.ref qt, .ref p, .int (nI E), .int (nI (a + 1)), .int kd, .int (nI b), .int vl, .int tk, .int fl, .int pl]) fX5_35 (hUs_at nd 0 rfl rfl) rfl rfl (Nat.le_of_ble_eq_true rfl) rfl dX5_step_32 ?_
      refine w_heq (hUs_set nd rfl 0 (cs' := [(oC 5 [.ref qt, .ref p, .int (nI E), .int (nI (a + 1)), .int kd, .int (nI b), .int vl, .int tk, .int fl, .int pl]), (aB 600 ft)]) rfl rfl) ?_
      refine w_goto (tgt := 0) dX5_step_35 rfl ?_
      have e : scB ft E (n + 1) a = scB ft E n (a + 1) := by
        rw [scB, if_pos ⟨by omega, by simpa using b22⟩]
      rw [e] at k
      exact ih (a + 1) (by omega) (by omega) k
theorem c_step {G : wG} {d : Nat} {h : hH} {Q : Option Value → hH → Prop} {q qt p : Nat} {x : rD} {ft : Nat → Int32} (hw : hHas h [q, qt] [oC 5 (rdF qt p x), aB 600 ft]) (nd : [q, qt].Nodup) (hok : rOk x) (k : Q none (hUs h [q, qt] [oC 5 (rdF qt p (rStp ft x)), aB 600 ft])) : Cl G yX5_step (d + 1) 0 0 [.ref q] h Q := by
  obtain ⟨E, a, kd, b, vl, tk, fl, pl⟩ := x
  refine Cl.of (ini := false) kX5_step (plainFor_of_name (by decide)) (by decide) (Nat.le_of_ble_eq_true rfl) rfl rfl (fun z => by cases z) ?_
  refine w_heq (hUs_id hw).symm ?_
  exact l_step nd hok.1 (E - a) a (by have := hok.2; simp only at this; omega) hok.2 k
def rTW (ft : Nat → Int32) (bs : List Int32) (n : Nat) (x : rD) : Int32 × rD :=
  if isW x.2.2.1 x.2.2.2.2.1 bs n = 0 then (0, rFl x 1 (nI x.2.2.2.1)) else (1, rStp ft x)
def rTM (ft : Nat → Int32) (c : Int32) (x : rD) : Int32 × rD :=
  if isM x.2.2.1 x.2.2.2.2.1 c = 0 then (0, rFl x 1 (nI x.2.2.2.1)) else (1, rStp ft x)
def rTN2 (ft : Nat → Int32) (lo hi : Int32) (x : rD) : Int32 × rD :=
  if x.2.2.2.2.2.1 < lo ∨ hi < x.2.2.2.2.2.1 then (0, rFl x 2 (nI x.2.2.2.1)) else (1, rStp ft x)
def rTN1 (ft : Nat → Int32) (lo hi ng : Int32) (x : rD) : Int32 × rD :=
  if x.2.2.1 = 2 then rTN2 ft lo hi (rTk x (if ng = 0 then x.2.2.2.2.1 else -x.2.2.2.2.1)) else (0, rFl x 1 (nI x.2.2.2.1))
def rTN (ft : Nat → Int32) (lo hi : Int32) (x : rD) : Int32 × rD :=
  if lo < 0 ∧ ¬ isM x.2.2.1 x.2.2.2.2.1 45 = 0 then rTN1 ft lo hi 1 (rStp ft x) else rTN1 ft lo hi 0 x
theorem rTW_ok (ft : Nat → Int32) (bs : List Int32) (n : Nat) {x : rD} (h : rOk x) : rOk (rTW ft bs n x).2 := by
  unfold rTW; split
  · exact h
  · exact rStp_ok ft h
theorem rTM_ok (ft : Nat → Int32) (c : Int32) {x : rD} (h : rOk x) : rOk (rTM ft c x).2 := by
  unfold rTM; split
  · exact h
  · exact rStp_ok ft h
theorem rTN1_ok (ft : Nat → Int32) (lo hi ng : Int32) {x : rD} (h : rOk x) : rOk (rTN1 ft lo hi ng x).2 := by
  unfold rTN1
  by_cases e : x.2.2.1 = 2
  · rw [if_pos e]
    unfold rTN2
    generalize (if ng = 0 then x.2.2.2.2.1 else -x.2.2.2.2.1) = v
    split
    · exact h
    · exact rStp_ok ft (rTk_ok v h)
  · rw [if_neg e]; exact h
theorem rTN_ok (ft : Nat → Int32) (lo hi : Int32) {x : rD} (h : rOk x) : rOk (rTN ft lo hi x).2 := by
  unfold rTN; split
  · exact rTN1_ok ft _ _ _ (rStp_ok ft h)
  · exact rTN1_ok ft _ _ _ h
/-- the words that no name may be -/
def rRs (kd vl : Int32) : Int32 :=
  if ¬ isW kd vl [108, 111, 111, 112] 4 = 0 then 1
  else if ¬ isW kd vl [119, 97, 118, 101] 4 = 0 then 1
  else if ¬ isW kd vl [98, 121] 2 = 0 then 1
  else if ¬ isW kd vl [98, 111, 117, 110, 100] 5 = 0 then 1
  else if ¬ isW kd vl [116, 104, 114, 101, 101] 5 = 0 then 1
  else if ¬ isW kd vl [110, 111, 105, 115, 101] 5 = 0 then 1
  else if ¬ isW kd vl [104, 111, 108, 100] 4 = 0 then 1
  else if ¬ isW kd vl [114, 97, 109, 112] 4 = 0 then 1
  else if ¬ isW kd vl [115, 119, 105, 110, 103] 5 = 0 then 1
  else if ¬ isW kd vl [116, 111] 2 = 0 then 1
  else if ¬ isW kd vl [101, 118, 101, 114, 121] 5 = 0 then 1
  else if ¬ isW kd vl [102, 111, 114] 3 = 0 then 1
  else 0
set_option maxRecDepth 100000 in
set_option maxHeartbeats 4000000 in
theorem c_takeWord {G : wG} {d : Nat} {h : hH} {Q : Option Value → hH → Prop} {i : Nat} {r : String × Nat × String × Nat × List Int32} {q qt p : Nat} {x : rD} {ft : Nat → Int32} (hr : wSL[i]? = some r) (hw : hHas h [q, qt] [(oC 5 (rdF qt p x)), (aB 600 ft)]) (nd : [q, qt].Nodup)  (hok : rOk x) (k : Q (some (.int (rTW ft r.2.2.2.2 r.2.2.2.1 x).1)) (hUs h [q, qt] [oC 5 (rdF qt p (rTW ft r.2.2.2.2 r.2.2.2.1 x).2), aB 600 ft])) : Cl G yX5_takeWord (d + 8) 0 0 [.ref q, .ref (G.2.2.1 i)] h Q := by
  refine Cl.of (ini := false) kX5_takeWord (plainFor_of_name (by decide)) (by decide) (Nat.le_of_ble_eq_true rfl) rfl rfl (fun z => by cases z) ?_
  refine w_heq (hUs_id hw).symm ?_
  refine w_aload_n dX5_takeWord_0 rfl ?_
  refine w_aload_n dX5_takeWord_1 rfl ?_
  refine w_callV (ci := 5) (d' := d + 7) (mc' := 0) (ms' := 0) (As := [.ref (G.2.2.1 i)]) (st := []) lX5_46 vX5_isWord rfl (hUs_at nd 0 rfl rfl) rfl (Nat.le_of_ble_eq_true rfl) dX5_takeWord_2 (Nat.le_of_ble_eq_true rfl) (Nat.le_of_ble_eq_true rfl) (Nat.le_refl _) (c_isWord hr (hHas_sub nd (as' := [q]) (cs' := [(oC 5 (rdF qt p x))]) [0] rfl rfl) ?_)
  refine w_if_ne (tgt := 14) dX5_takeWord_5 rfl (fun b5 => ?_) (fun b5 => ?_)
  · refine w_aload_n dX5_takeWord_14 rfl ?_
    refine w_callV (ci := 5) (d' := d + 7) (mc' := 0) (ms' := 0) (As := []) (st := []) lX5_41 vX5_step rfl (hUs_at nd 0 rfl rfl) rfl (Nat.le_of_ble_eq_true rfl) dX5_takeWord_15 (Nat.le_of_ble_eq_true rfl) (Nat.le_of_ble_eq_true rfl) (Nat.le_refl _) (c_step  (hHas_sub nd (as' := [q, qt]) (cs' := [(oC 5 (rdF qt p x)), (aB 600 ft)]) [0, 1] rfl rfl) (nd_sub nd (as' := [q, qt]) [0, 1] rfl rfl) hok ?_)
    refine w_heq (hUs_in nd rfl [0, 1] (cs2 := [(oC 5 (rdF qt p (rStp ft x))), (aB 600 ft)]) rfl rfl) ?_
    refine w_iconst (v := 1) dX5_takeWord_18 (by decide) ?_
    refine w_zreturn rfl dX5_takeWord_19 rfl (Nat.le_of_ble_eq_true rfl) (Nat.le_of_ble_eq_true rfl) ?_
    have e : rTW ft r.2.2.2.2 r.2.2.2.1 x = (1, rStp ft x) := by
      rw [rTW, if_neg b5]
    rw [e] at k
    exact k
  · refine w_aload_n dX5_takeWord_8 rfl ?_
    refine w_iconst (v := 1) dX5_takeWord_9 (by decide) ?_
    refine w_callV (ci := 5) (d' := d + 7) (mc' := 0) (ms' := 0) (As := [.int 1]) (st := []) lX5_59 vX5_failed rfl (hUs_at nd 0 rfl rfl) rfl (Nat.le_of_ble_eq_true rfl) dX5_takeWord_10 (Nat.le_of_ble_eq_true rfl) (Nat.le_of_ble_eq_true rfl) (Nat.le_refl _) (c_failed (hHas_sub nd (as' := [q]) (cs' := [(oC 5 (rdF qt p x))]) [0] rfl rfl) (nd_sub nd (as' := [q]) [0] rfl rfl) ?_)
    refine w_heq (hUs_in nd rfl [0] (cs2 := [(oC 5 (rdF qt p (rFl x 1 (nI x.2.2.2.1)))), (aB 600 ft)]) rfl rfl) ?_
    refine w_zreturn rfl dX5_takeWord_13 rfl (Nat.le_of_ble_eq_true rfl) (Nat.le_of_ble_eq_true rfl) ?_
    have e : rTW ft r.2.2.2.2 r.2.2.2.1 x = (0, rFl x 1 (nI x.2.2.2.1)) := by
      rw [rTW, if_pos b5]
    rw [e] at k
    exact k
set_option maxRecDepth 100000 in
set_option maxHeartbeats 4000000 in
theorem c_takeMark {G : wG} {d : Nat} {h : hH} {Q : Option Value → hH → Prop} {q qt p : Nat} {x : rD} {ft : Nat → Int32} {c : Int32} (hw : hHas h [q, qt] [(oC 5 (rdF qt p x)), (aB 600 ft)]) (nd : [q, qt].Nodup)  (hok : rOk x) (k : Q (some (.int (rTM ft c x).1)) (hUs h [q, qt] [oC 5 (rdF qt p (rTM ft c x).2), aB 600 ft])) : Cl G yX5_takeMark (d + 2) 0 0 [.ref q, .int c] h Q := by
  refine Cl.of (ini := false) kX5_takeMark (plainFor_of_name (by decide)) (by decide) (Nat.le_of_ble_eq_true rfl) rfl rfl (fun z => by cases z) ?_
  refine w_heq (hUs_id hw).symm ?_
  refine w_aload_n dX5_takeMark_0 rfl ?_
  refine w_iload_n dX5_takeMark_1 rfl ?_
  refine w_callV (ci := 5) (d' := d + 1) (mc' := 0) (ms' := 0) (As := [.int c]) (st := []) lX5_134 vX5_isMark rfl (hUs_at nd 0 rfl rfl) rfl (Nat.le_of_ble_eq_true rfl) dX5_takeMark_2 (Nat.le_of_ble_eq_true rfl) (Nat.le_of_ble_eq_true rfl) (Nat.le_refl _) (c_isMark (hHas_sub nd (as' := [q]) (cs' := [(oC 5 (rdF qt p x))]) [0] rfl rfl)  ?_)
  refine w_if_ne (tgt := 14) dX5_takeMark_5 rfl (fun b5 => ?_) (fun b5 => ?_)
  · refine w_aload_n dX5_takeMark_14 rfl ?_
    refine w_callV (ci := 5) (d' := d + 1) (mc' := 0) (ms' := 0) (As := []) (st := []) lX5_41 vX5_step rfl (hUs_at nd 0 rfl rfl) rfl (Nat.le_of_ble_eq_true rfl) dX5_takeMark_15 (Nat.le_of_ble_eq_true rfl) (Nat.le_of_ble_eq_true rfl) (Nat.le_refl _) (c_step  (hHas_sub nd (as' := [q, qt]) (cs' := [(oC 5 (rdF qt p x)), (aB 600 ft)]) [0, 1] rfl rfl) (nd_sub nd (as' := [q, qt]) [0, 1] rfl rfl) hok ?_)
    refine w_heq (hUs_in nd rfl [0, 1] (cs2 := [(oC 5 (rdF qt p (rStp ft x))), (aB 600 ft)]) rfl rfl) ?_
    refine w_iconst (v := 1) dX5_takeMark_18 (by decide) ?_
    refine w_zreturn rfl dX5_takeMark_19 rfl (Nat.le_of_ble_eq_true rfl) (Nat.le_of_ble_eq_true rfl) ?_
    have e : rTM ft c x = (1, rStp ft x) := by
      rw [rTM, if_neg b5]
    rw [e] at k
    exact k
  · refine w_aload_n dX5_takeMark_8 rfl ?_
    refine w_iconst (v := 1) dX5_takeMark_9 (by decide) ?_
    refine w_callV (ci := 5) (d' := d + 1) (mc' := 0) (ms' := 0) (As := [.int 1]) (st := []) lX5_59 vX5_failed rfl (hUs_at nd 0 rfl rfl) rfl (Nat.le_of_ble_eq_true rfl) dX5_takeMark_10 (Nat.le_of_ble_eq_true rfl) (Nat.le_of_ble_eq_true rfl) (Nat.le_refl _) (c_failed (hHas_sub nd (as' := [q]) (cs' := [(oC 5 (rdF qt p x))]) [0] rfl rfl) (nd_sub nd (as' := [q]) [0] rfl rfl) ?_)
    refine w_heq (hUs_in nd rfl [0] (cs2 := [(oC 5 (rdF qt p (rFl x 1 (nI x.2.2.2.1)))), (aB 600 ft)]) rfl rfl) ?_
    refine w_zreturn rfl dX5_takeMark_13 rfl (Nat.le_of_ble_eq_true rfl) (Nat.le_of_ble_eq_true rfl) ?_
    have e : rTM ft c x = (0, rFl x 1 (nI x.2.2.2.1)) := by
      rw [rTM, if_pos b5]
    rw [e] at k
    exact k
set_option maxRecDepth 100000 in
set_option maxHeartbeats 4000000 in
theorem c_takeNumber {G : wG} {d : Nat} {h : hH} {Q : Option Value → hH → Prop} {q qt p : Nat} {x : rD} {ft : Nat → Int32} {lo hi : Int32} (hw : hHas h [q, qt] [(oC 5 (rdF qt p x)), (aB 600 ft)]) (nd : [q, qt].Nodup)  (hok : rOk x) (k : Q (some (.int (rTN ft lo hi x).1)) (hUs h [q, qt] [oC 5 (rdF qt p (rTN ft lo hi x).2), aB 600 ft])) : Cl G yX5_takeNumber (d + 2) 0 0 [.ref q, .int lo, .int hi] h Q := by
  refine Cl.of (ini := false) kX5_takeNumber (plainFor_of_name (by decide)) (by decide) (Nat.le_of_ble_eq_true rfl) rfl rfl (fun z => by cases z) ?_
  refine w_heq (hUs_id hw).symm ?_
  refine w_iload_n dX5_takeNumber_0 rfl ?_
  refine w_if_ge (tgt := 17) dX5_takeNumber_1 rfl (fun b1 => ?_) (fun b1 => ?_)
  · refine w_iconst (v := 0) dX5_takeNumber_17 (by decide) ?_
    refine w_istore_n (ls2 := [some (.ref q), some (.int lo), some (.int hi), some (.int 0)]) dX5_takeNumber_18 (by decide) rfl rfl ?_
    refine w_iload_n dX5_takeNumber_19 rfl ?_
    refine w_if_eq_t (tgt := 27) dX5_takeNumber_20 rfl rfl ?_
    refine w_aload_n dX5_takeNumber_27 rfl ?_
    refine w_get (v := .int x.2.2.1) fX5_63 (hUs_at nd 0 rfl rfl) rfl dX5_takeNumber_28 ?_
    refine w_iconst (v := 2) dX5_takeNumber_31 (by decide) ?_
    refine w_icmp_eq (tgt := 41) dX5_takeNumber_32 rfl (fun b32 => ?_) (fun b32 => ?_)
    · refine w_aload_n dX5_takeNumber_41 rfl ?_
      refine w_iload_n dX5_takeNumber_42 rfl ?_
      refine w_if_eq_t (tgt := 54) dX5_takeNumber_43 rfl rfl ?_
      refine w_aload_n dX5_takeNumber_54 rfl ?_
      refine w_get (v := .int x.2.2.2.2.1) fX5_159 (hUs_at nd 0 rfl rfl) rfl dX5_takeNumber_55 ?_
      refine w_put (fs' := (rdF qt p (rTk x x.2.2.2.2.1))) fX5_77 (hUs_at nd 0 rfl rfl) rfl rfl (Nat.le_of_ble_eq_true rfl) rfl dX5_takeNumber_58 ?_
      refine w_heq (hUs_set nd rfl 0 (cs' := [(oC 5 (rdF qt p (rTk x x.2.2.2.2.1))), (aB 600 ft)]) rfl rfl) ?_
      refine w_aload_n dX5_takeNumber_61 rfl ?_
      refine w_get (v := .int (rTk x x.2.2.2.2.1).2.2.2.2.2.1) fX5_77 (hUs_at nd 0 rfl rfl) rfl dX5_takeNumber_62 ?_
      refine w_iload_n dX5_takeNumber_65 rfl ?_
      refine w_icmp_lt (tgt := 77) dX5_takeNumber_66 rfl (fun b66 => ?_) (fun b66 => ?_)
      · refine w_aload_n dX5_takeNumber_77 rfl ?_
        refine w_iconst (v := 2) dX5_takeNumber_78 (by decide) ?_
        refine w_callV (ci := 5) (d' := d + 1) (mc' := 0) (ms' := 0) (As := [.int 2]) (st := []) lX5_59 vX5_failed rfl (hUs_at nd 0 rfl rfl) rfl (Nat.le_of_ble_eq_true rfl) dX5_takeNumber_79 (Nat.le_of_ble_eq_true rfl) (Nat.le_of_ble_eq_true rfl) (Nat.le_refl _) (c_failed (hHas_sub nd (as' := [q]) (cs' := [(oC 5 (rdF qt p (rTk x x.2.2.2.2.1)))]) [0] rfl rfl) (nd_sub nd (as' := [q]) [0] rfl rfl) ?_)
        refine w_heq (hUs_in nd rfl [0] (cs2 := [(oC 5 (rdF qt p (rFl (rTk x x.2.2.2.2.1) 2 (nI (rTk x x.2.2.2.2.1).2.2.2.1)))), (aB 600 ft)]) rfl rfl) ?_
        refine w_zreturn rfl dX5_takeNumber_82 rfl (Nat.le_of_ble_eq_true rfl) (Nat.le_of_ble_eq_true rfl) ?_
        have e : rTN ft lo hi x = (0, rFl (rTk x x.2.2.2.2.1) 2 (nI (rTk x x.2.2.2.2.1).2.2.2.1)) := by
          rw [rTN, if_neg (fun z => absurd z.1 (by simpa using b1)), rTN1, if_pos (by simpa using b32), if_pos rfl, rTN2, if_pos (Or.inl b66)]
        rw [e] at k
        exact k
      · refine w_aload_n dX5_takeNumber_69 rfl ?_
        refine w_get (v := .int (rTk x x.2.2.2.2.1).2.2.2.2.2.1) fX5_77 (hUs_at nd 0 rfl rfl) rfl dX5_takeNumber_70 ?_
        refine w_iload_n dX5_takeNumber_73 rfl ?_
        refine w_icmp_le (tgt := 83) dX5_takeNumber_74 rfl (fun b74 => ?_) (fun b74 => ?_)
        · refine w_aload_n dX5_takeNumber_83 rfl ?_
          refine w_callV (ci := 5) (d' := d + 1) (mc' := 0) (ms' := 0) (As := []) (st := []) lX5_41 vX5_step rfl (hUs_at nd 0 rfl rfl) rfl (Nat.le_of_ble_eq_true rfl) dX5_takeNumber_84 (Nat.le_of_ble_eq_true rfl) (Nat.le_of_ble_eq_true rfl) (Nat.le_refl _) (c_step  (hHas_sub nd (as' := [q, qt]) (cs' := [(oC 5 (rdF qt p (rTk x x.2.2.2.2.1))), (aB 600 ft)]) [0, 1] rfl rfl) (nd_sub nd (as' := [q, qt]) [0, 1] rfl rfl) (rTk_ok _ hok) ?_)
          refine w_heq (hUs_in nd rfl [0, 1] (cs2 := [(oC 5 (rdF qt p (rStp ft (rTk x x.2.2.2.2.1)))), (aB 600 ft)]) rfl rfl) ?_
          refine w_iconst (v := 1) dX5_takeNumber_87 (by decide) ?_
          refine w_zreturn rfl dX5_takeNumber_88 rfl (Nat.le_of_ble_eq_true rfl) (Nat.le_of_ble_eq_true rfl) ?_
          have e : rTN ft lo hi x = (1, rStp ft (rTk x x.2.2.2.2.1)) := by
            rw [rTN, if_neg (fun z => absurd z.1 (by simpa using b1)), rTN1, if_pos (by simpa using b32), if_pos rfl, rTN2, if_neg (fun z => z.elim b66 (fun z => absurd z (by simpa using b74)))]
          rw [e] at k
          exact k
        · refine w_aload_n dX5_takeNumber_77 rfl ?_
          refine w_iconst (v := 2) dX5_takeNumber_78 (by decide) ?_
          refine w_callV (ci := 5) (d' := d + 1) (mc' := 0) (ms' := 0) (As := [.int 2]) (st := []) lX5_59 vX5_failed rfl (hUs_at nd 0 rfl rfl) rfl (Nat.le_of_ble_eq_true rfl) dX5_takeNumber_79 (Nat.le_of_ble_eq_true rfl) (Nat.le_of_ble_eq_true rfl) (Nat.le_refl _) (c_failed (hHas_sub nd (as' := [q]) (cs' := [(oC 5 (rdF qt p (rTk x x.2.2.2.2.1)))]) [0] rfl rfl) (nd_sub nd (as' := [q]) [0] rfl rfl) ?_)
          refine w_heq (hUs_in nd rfl [0] (cs2 := [(oC 5 (rdF qt p (rFl (rTk x x.2.2.2.2.1) 2 (nI (rTk x x.2.2.2.2.1).2.2.2.1)))), (aB 600 ft)]) rfl rfl) ?_
          refine w_zreturn rfl dX5_takeNumber_82 rfl (Nat.le_of_ble_eq_true rfl) (Nat.le_of_ble_eq_true rfl) ?_
          have e : rTN ft lo hi x = (0, rFl (rTk x x.2.2.2.2.1) 2 (nI (rTk x x.2.2.2.2.1).2.2.2.1)) := by
            rw [rTN, if_neg (fun z => absurd z.1 (by simpa using b1)), rTN1, if_pos (by simpa using b32), if_pos rfl, rTN2, if_pos (Or.inr (by simpa using b74))]
          rw [e] at k
          exact k
    · refine w_aload_n dX5_takeNumber_35 rfl ?_
      refine w_iconst (v := 1) dX5_takeNumber_36 (by decide) ?_
      refine w_callV (ci := 5) (d' := d + 1) (mc' := 0) (ms' := 0) (As := [.int 1]) (st := []) lX5_59 vX5_failed rfl (hUs_at nd 0 rfl rfl) rfl (Nat.le_of_ble_eq_true rfl) dX5_takeNumber_37 (Nat.le_of_ble_eq_true rfl) (Nat.le_of_ble_eq_true rfl) (Nat.le_refl _) (c_failed (hHas_sub nd (as' := [q]) (cs' := [(oC 5 (rdF qt p x))]) [0] rfl rfl) (nd_sub nd (as' := [q]) [0] rfl rfl) ?_)
      refine w_heq (hUs_in nd rfl [0] (cs2 := [(oC 5 (rdF qt p (rFl x 1 (nI x.2.2.2.1)))), (aB 600 ft)]) rfl rfl) ?_
      refine w_zreturn rfl dX5_takeNumber_40 rfl (Nat.le_of_ble_eq_true rfl) (Nat.le_of_ble_eq_true rfl) ?_
      have e : rTN ft lo hi x = (0, rFl x 1 (nI x.2.2.2.1)) := by
        rw [rTN, if_neg (fun z => absurd z.1 (by simpa using b1)), rTN1, if_neg b32]
      rw [e] at k
      exact k
  · refine w_aload_n dX5_takeNumber_4 rfl ?_
    refine w_bipush (v := 45) dX5_takeNumber_5 (by decide) ?_
    refine w_callV (ci := 5) (d' := d + 1) (mc' := 0) (ms' := 0) (As := [.int 45]) (st := []) lX5_134 vX5_isMark rfl (hUs_at nd 0 rfl rfl) rfl (Nat.le_of_ble_eq_true rfl) dX5_takeNumber_7 (Nat.le_of_ble_eq_true rfl) (Nat.le_of_ble_eq_true rfl) (Nat.le_refl _) (c_isMark (hHas_sub nd (as' := [q]) (cs' := [(oC 5 (rdF qt p x))]) [0] rfl rfl)  ?_)
    refine w_if_eq (tgt := 17) dX5_takeNumber_10 rfl (fun b10 => ?_) (fun b10 => ?_)
    · refine w_iconst (v := 0) dX5_takeNumber_17 (by decide) ?_
      refine w_istore_n (ls2 := [some (.ref q), some (.int lo), some (.int hi), some (.int 0)]) dX5_takeNumber_18 (by decide) rfl rfl ?_
      refine w_iload_n dX5_takeNumber_19 rfl ?_
      refine w_if_eq_t (tgt := 27) dX5_takeNumber_20 rfl rfl ?_
      refine w_aload_n dX5_takeNumber_27 rfl ?_
      refine w_get (v := .int x.2.2.1) fX5_63 (hUs_at nd 0 rfl rfl) rfl dX5_takeNumber_28 ?_
      refine w_iconst (v := 2) dX5_takeNumber_31 (by decide) ?_
      refine w_icmp_eq (tgt := 41) dX5_takeNumber_32 rfl (fun b32 => ?_) (fun b32 => ?_)
      · refine w_aload_n dX5_takeNumber_41 rfl ?_
        refine w_iload_n dX5_takeNumber_42 rfl ?_
        refine w_if_eq_t (tgt := 54) dX5_takeNumber_43 rfl rfl ?_
        refine w_aload_n dX5_takeNumber_54 rfl ?_
        refine w_get (v := .int x.2.2.2.2.1) fX5_159 (hUs_at nd 0 rfl rfl) rfl dX5_takeNumber_55 ?_
        refine w_put (fs' := (rdF qt p (rTk x x.2.2.2.2.1))) fX5_77 (hUs_at nd 0 rfl rfl) rfl rfl (Nat.le_of_ble_eq_true rfl) rfl dX5_takeNumber_58 ?_
        refine w_heq (hUs_set nd rfl 0 (cs' := [(oC 5 (rdF qt p (rTk x x.2.2.2.2.1))), (aB 600 ft)]) rfl rfl) ?_
        refine w_aload_n dX5_takeNumber_61 rfl ?_
        refine w_get (v := .int (rTk x x.2.2.2.2.1).2.2.2.2.2.1) fX5_77 (hUs_at nd 0 rfl rfl) rfl dX5_takeNumber_62 ?_
        refine w_iload_n dX5_takeNumber_65 rfl ?_
        refine w_icmp_lt (tgt := 77) dX5_takeNumber_66 rfl (fun b66 => ?_) (fun b66 => ?_)
        · refine w_aload_n dX5_takeNumber_77 rfl ?_
          refine w_iconst (v := 2) dX5_takeNumber_78 (by decide) ?_
          refine w_callV (ci := 5) (d' := d + 1) (mc' := 0) (ms' := 0) (As := [.int 2]) (st := []) lX5_59 vX5_failed rfl (hUs_at nd 0 rfl rfl) rfl (Nat.le_of_ble_eq_true rfl) dX5_takeNumber_79 (Nat.le_of_ble_eq_true rfl) (Nat.le_of_ble_eq_true rfl) (Nat.le_refl _) (c_failed (hHas_sub nd (as' := [q]) (cs' := [(oC 5 (rdF qt p (rTk x x.2.2.2.2.1)))]) [0] rfl rfl) (nd_sub nd (as' := [q]) [0] rfl rfl) ?_)
          refine w_heq (hUs_in nd rfl [0] (cs2 := [(oC 5 (rdF qt p (rFl (rTk x x.2.2.2.2.1) 2 (nI (rTk x x.2.2.2.2.1).2.2.2.1)))), (aB 600 ft)]) rfl rfl) ?_
          refine w_zreturn rfl dX5_takeNumber_82 rfl (Nat.le_of_ble_eq_true rfl) (Nat.le_of_ble_eq_true rfl) ?_
          have e : rTN ft lo hi x = (0, rFl (rTk x x.2.2.2.2.1) 2 (nI (rTk x x.2.2.2.2.1).2.2.2.1)) := by
            rw [rTN, if_neg (fun z => z.2 b10), rTN1, if_pos (by simpa using b32), if_pos rfl, rTN2, if_pos (Or.inl b66)]
          rw [e] at k
          exact k
        · refine w_aload_n dX5_takeNumber_69 rfl ?_
          refine w_get (v := .int (rTk x x.2.2.2.2.1).2.2.2.2.2.1) fX5_77 (hUs_at nd 0 rfl rfl) rfl dX5_takeNumber_70 ?_
          refine w_iload_n dX5_takeNumber_73 rfl ?_
          refine w_icmp_le (tgt := 83) dX5_takeNumber_74 rfl (fun b74 => ?_) (fun b74 => ?_)
          · refine w_aload_n dX5_takeNumber_83 rfl ?_
            refine w_callV (ci := 5) (d' := d + 1) (mc' := 0) (ms' := 0) (As := []) (st := []) lX5_41 vX5_step rfl (hUs_at nd 0 rfl rfl) rfl (Nat.le_of_ble_eq_true rfl) dX5_takeNumber_84 (Nat.le_of_ble_eq_true rfl) (Nat.le_of_ble_eq_true rfl) (Nat.le_refl _) (c_step  (hHas_sub nd (as' := [q, qt]) (cs' := [(oC 5 (rdF qt p (rTk x x.2.2.2.2.1))), (aB 600 ft)]) [0, 1] rfl rfl) (nd_sub nd (as' := [q, qt]) [0, 1] rfl rfl) (rTk_ok _ hok) ?_)
            refine w_heq (hUs_in nd rfl [0, 1] (cs2 := [(oC 5 (rdF qt p (rStp ft (rTk x x.2.2.2.2.1)))), (aB 600 ft)]) rfl rfl) ?_
            refine w_iconst (v := 1) dX5_takeNumber_87 (by decide) ?_
            refine w_zreturn rfl dX5_takeNumber_88 rfl (Nat.le_of_ble_eq_true rfl) (Nat.le_of_ble_eq_true rfl) ?_
            have e : rTN ft lo hi x = (1, rStp ft (rTk x x.2.2.2.2.1)) := by
              rw [rTN, if_neg (fun z => z.2 b10), rTN1, if_pos (by simpa using b32), if_pos rfl, rTN2, if_neg (fun z => z.elim b66 (fun z => absurd z (by simpa using b74)))]
            rw [e] at k
            exact k
          · refine w_aload_n dX5_takeNumber_77 rfl ?_
            refine w_iconst (v := 2) dX5_takeNumber_78 (by decide) ?_
            refine w_callV (ci := 5) (d' := d + 1) (mc' := 0) (ms' := 0) (As := [.int 2]) (st := []) lX5_59 vX5_failed rfl (hUs_at nd 0 rfl rfl) rfl (Nat.le_of_ble_eq_true rfl) dX5_takeNumber_79 (Nat.le_of_ble_eq_true rfl) (Nat.le_of_ble_eq_true rfl) (Nat.le_refl _) (c_failed (hHas_sub nd (as' := [q]) (cs' := [(oC 5 (rdF qt p (rTk x x.2.2.2.2.1)))]) [0] rfl rfl) (nd_sub nd (as' := [q]) [0] rfl rfl) ?_)
            refine w_heq (hUs_in nd rfl [0] (cs2 := [(oC 5 (rdF qt p (rFl (rTk x x.2.2.2.2.1) 2 (nI (rTk x x.2.2.2.2.1).2.2.2.1)))), (aB 600 ft)]) rfl rfl) ?_
            refine w_zreturn rfl dX5_takeNumber_82 rfl (Nat.le_of_ble_eq_true rfl) (Nat.le_of_ble_eq_true rfl) ?_
            have e : rTN ft lo hi x = (0, rFl (rTk x x.2.2.2.2.1) 2 (nI (rTk x x.2.2.2.2.1).2.2.2.1)) := by
              rw [rTN, if_neg (fun z => z.2 b10), rTN1, if_pos (by simpa using b32), if_pos rfl, rTN2, if_pos (Or.inr (by simpa using b74))]
            rw [e] at k
            exact k
      · refine w_aload_n dX5_takeNumber_35 rfl ?_
        refine w_iconst (v := 1) dX5_takeNumber_36 (by decide) ?_
        refine w_callV (ci := 5) (d' := d + 1) (mc' := 0) (ms' := 0) (As := [.int 1]) (st := []) lX5_59 vX5_failed rfl (hUs_at nd 0 rfl rfl) rfl (Nat.le_of_ble_eq_true rfl) dX5_takeNumber_37 (Nat.le_of_ble_eq_true rfl) (Nat.le_of_ble_eq_true rfl) (Nat.le_refl _) (c_failed (hHas_sub nd (as' := [q]) (cs' := [(oC 5 (rdF qt p x))]) [0] rfl rfl) (nd_sub nd (as' := [q]) [0] rfl rfl) ?_)
        refine w_heq (hUs_in nd rfl [0] (cs2 := [(oC 5 (rdF qt p (rFl x 1 (nI x.2.2.2.1)))), (aB 600 ft)]) rfl rfl) ?_
        refine w_zreturn rfl dX5_takeNumber_40 rfl (Nat.le_of_ble_eq_true rfl) (Nat.le_of_ble_eq_true rfl) ?_
        have e : rTN ft lo hi x = (0, rFl x 1 (nI x.2.2.2.1)) := by
          rw [rTN, if_neg (fun z => z.2 b10), rTN1, if_neg b32]
        rw [e] at k
        exact k
    · refine w_iconst (v := 1) dX5_takeNumber_13 (by decide) ?_
      refine w_goto (tgt := 18) dX5_takeNumber_14 rfl ?_
      refine w_istore_n (ls2 := [some (.ref q), some (.int lo), some (.int hi), some (.int 1)]) dX5_takeNumber_18 (by decide) rfl rfl ?_
      refine w_iload_n dX5_takeNumber_19 rfl ?_
      refine w_if_eq_f (tgt := 27) dX5_takeNumber_20 rfl (by decide) ?_
      refine w_aload_n dX5_takeNumber_23 rfl ?_
      refine w_callV (ci := 5) (d' := d + 1) (mc' := 0) (ms' := 0) (As := []) (st := []) lX5_41 vX5_step rfl (hUs_at nd 0 rfl rfl) rfl (Nat.le_of_ble_eq_true rfl) dX5_takeNumber_24 (Nat.le_of_ble_eq_true rfl) (Nat.le_of_ble_eq_true rfl) (Nat.le_refl _) (c_step  (hHas_sub nd (as' := [q, qt]) (cs' := [(oC 5 (rdF qt p x)), (aB 600 ft)]) [0, 1] rfl rfl) (nd_sub nd (as' := [q, qt]) [0, 1] rfl rfl) hok ?_)
      refine w_heq (hUs_in nd rfl [0, 1] (cs2 := [(oC 5 (rdF qt p (rStp ft x))), (aB 600 ft)]) rfl rfl) ?_
      refine w_aload_n dX5_takeNumber_27 rfl ?_
      refine w_get (v := .int (rStp ft x).2.2.1) fX5_63 (hUs_at nd 0 rfl rfl) rfl dX5_takeNumber_28 ?_
      refine w_iconst (v := 2) dX5_takeNumber_31 (by decide) ?_
      refine w_icmp_eq (tgt := 41) dX5_takeNumber_32 rfl (fun b32 => ?_) (fun b32 => ?_)
      · refine w_aload_n dX5_takeNumber_41 rfl ?_
        refine w_iload_n dX5_takeNumber_42 rfl ?_
        refine w_if_eq_f (tgt := 54) dX5_takeNumber_43 rfl (by decide) ?_
        refine w_aload_n dX5_takeNumber_46 rfl ?_
        refine w_get (v := .int (rStp ft x).2.2.2.2.1) fX5_159 (hUs_at nd 0 rfl rfl) rfl dX5_takeNumber_47 ?_
        refine w_ineg dX5_takeNumber_50 ?_
        refine w_goto (tgt := 58) dX5_takeNumber_51 rfl ?_
        refine w_put (fs' := (rdF qt p (rTk (rStp ft x) (-(rStp ft x).2.2.2.2.1)))) fX5_77 (hUs_at nd 0 rfl rfl) rfl rfl (Nat.le_of_ble_eq_true rfl) rfl dX5_takeNumber_58 ?_
        refine w_heq (hUs_set nd rfl 0 (cs' := [(oC 5 (rdF qt p (rTk (rStp ft x) (-(rStp ft x).2.2.2.2.1)))), (aB 600 ft)]) rfl rfl) ?_
        refine w_aload_n dX5_takeNumber_61 rfl ?_
        refine w_get (v := .int (rTk (rStp ft x) (-(rStp ft x).2.2.2.2.1)).2.2.2.2.2.1) fX5_77 (hUs_at nd 0 rfl rfl) rfl dX5_takeNumber_62 ?_
        refine w_iload_n dX5_takeNumber_65 rfl ?_
        refine w_icmp_lt (tgt := 77) dX5_takeNumber_66 rfl (fun b66 => ?_) (fun b66 => ?_)
        · refine w_aload_n dX5_takeNumber_77 rfl ?_
          refine w_iconst (v := 2) dX5_takeNumber_78 (by decide) ?_
          refine w_callV (ci := 5) (d' := d + 1) (mc' := 0) (ms' := 0) (As := [.int 2]) (st := []) lX5_59 vX5_failed rfl (hUs_at nd 0 rfl rfl) rfl (Nat.le_of_ble_eq_true rfl) dX5_takeNumber_79 (Nat.le_of_ble_eq_true rfl) (Nat.le_of_ble_eq_true rfl) (Nat.le_refl _) (c_failed (hHas_sub nd (as' := [q]) (cs' := [(oC 5 (rdF qt p (rTk (rStp ft x) (-(rStp ft x).2.2.2.2.1))))]) [0] rfl rfl) (nd_sub nd (as' := [q]) [0] rfl rfl) ?_)
          refine w_heq (hUs_in nd rfl [0] (cs2 := [(oC 5 (rdF qt p (rFl (rTk (rStp ft x) (-(rStp ft x).2.2.2.2.1)) 2 (nI (rTk (rStp ft x) (-(rStp ft x).2.2.2.2.1)).2.2.2.1)))), (aB 600 ft)]) rfl rfl) ?_
          refine w_zreturn rfl dX5_takeNumber_82 rfl (Nat.le_of_ble_eq_true rfl) (Nat.le_of_ble_eq_true rfl) ?_
          have e : rTN ft lo hi x = (0, rFl (rTk (rStp ft x) (-(rStp ft x).2.2.2.2.1)) 2 (nI (rTk (rStp ft x) (-(rStp ft x).2.2.2.2.1)).2.2.2.1)) := by
            rw [rTN, if_pos ⟨by simpa using b1, b10⟩, rTN1, if_pos (by simpa using b32), if_neg (by decide), rTN2, if_pos (Or.inl b66)]
          rw [e] at k
          exact k
        · refine w_aload_n dX5_takeNumber_69 rfl ?_
          refine w_get (v := .int (rTk (rStp ft x) (-(rStp ft x).2.2.2.2.1)).2.2.2.2.2.1) fX5_77 (hUs_at nd 0 rfl rfl) rfl dX5_takeNumber_70 ?_
          refine w_iload_n dX5_takeNumber_73 rfl ?_
          refine w_icmp_le (tgt := 83) dX5_takeNumber_74 rfl (fun b74 => ?_) (fun b74 => ?_)
          · refine w_aload_n dX5_takeNumber_83 rfl ?_
            refine w_callV (ci := 5) (d' := d + 1) (mc' := 0) (ms' := 0) (As := []) (st := []) lX5_41 vX5_step rfl (hUs_at nd 0 rfl rfl) rfl (Nat.le_of_ble_eq_true rfl) dX5_takeNumber_84 (Nat.le_of_ble_eq_true rfl) (Nat.le_of_ble_eq_true rfl) (Nat.le_refl _) (c_step  (hHas_sub nd (as' := [q, qt]) (cs' := [(oC 5 (rdF qt p (rTk (rStp ft x) (-(rStp ft x).2.2.2.2.1)))), (aB 600 ft)]) [0, 1] rfl rfl) (nd_sub nd (as' := [q, qt]) [0, 1] rfl rfl) (rTk_ok _ (rStp_ok _ hok)) ?_)
            refine w_heq (hUs_in nd rfl [0, 1] (cs2 := [(oC 5 (rdF qt p (rStp ft (rTk (rStp ft x) (-(rStp ft x).2.2.2.2.1))))), (aB 600 ft)]) rfl rfl) ?_
            refine w_iconst (v := 1) dX5_takeNumber_87 (by decide) ?_
            refine w_zreturn rfl dX5_takeNumber_88 rfl (Nat.le_of_ble_eq_true rfl) (Nat.le_of_ble_eq_true rfl) ?_
            have e : rTN ft lo hi x = (1, rStp ft (rTk (rStp ft x) (-(rStp ft x).2.2.2.2.1))) := by
              rw [rTN, if_pos ⟨by simpa using b1, b10⟩, rTN1, if_pos (by simpa using b32), if_neg (by decide), rTN2, if_neg (fun z => z.elim b66 (fun z => absurd z (by simpa using b74)))]
            rw [e] at k
            exact k
          · refine w_aload_n dX5_takeNumber_77 rfl ?_
            refine w_iconst (v := 2) dX5_takeNumber_78 (by decide) ?_
            refine w_callV (ci := 5) (d' := d + 1) (mc' := 0) (ms' := 0) (As := [.int 2]) (st := []) lX5_59 vX5_failed rfl (hUs_at nd 0 rfl rfl) rfl (Nat.le_of_ble_eq_true rfl) dX5_takeNumber_79 (Nat.le_of_ble_eq_true rfl) (Nat.le_of_ble_eq_true rfl) (Nat.le_refl _) (c_failed (hHas_sub nd (as' := [q]) (cs' := [(oC 5 (rdF qt p (rTk (rStp ft x) (-(rStp ft x).2.2.2.2.1))))]) [0] rfl rfl) (nd_sub nd (as' := [q]) [0] rfl rfl) ?_)
            refine w_heq (hUs_in nd rfl [0] (cs2 := [(oC 5 (rdF qt p (rFl (rTk (rStp ft x) (-(rStp ft x).2.2.2.2.1)) 2 (nI (rTk (rStp ft x) (-(rStp ft x).2.2.2.2.1)).2.2.2.1)))), (aB 600 ft)]) rfl rfl) ?_
            refine w_zreturn rfl dX5_takeNumber_82 rfl (Nat.le_of_ble_eq_true rfl) (Nat.le_of_ble_eq_true rfl) ?_
            have e : rTN ft lo hi x = (0, rFl (rTk (rStp ft x) (-(rStp ft x).2.2.2.2.1)) 2 (nI (rTk (rStp ft x) (-(rStp ft x).2.2.2.2.1)).2.2.2.1)) := by
              rw [rTN, if_pos ⟨by simpa using b1, b10⟩, rTN1, if_pos (by simpa using b32), if_neg (by decide), rTN2, if_pos (Or.inr (by simpa using b74))]
            rw [e] at k
            exact k
      · refine w_aload_n dX5_takeNumber_35 rfl ?_
        refine w_iconst (v := 1) dX5_takeNumber_36 (by decide) ?_
        refine w_callV (ci := 5) (d' := d + 1) (mc' := 0) (ms' := 0) (As := [.int 1]) (st := []) lX5_59 vX5_failed rfl (hUs_at nd 0 rfl rfl) rfl (Nat.le_of_ble_eq_true rfl) dX5_takeNumber_37 (Nat.le_of_ble_eq_true rfl) (Nat.le_of_ble_eq_true rfl) (Nat.le_refl _) (c_failed (hHas_sub nd (as' := [q]) (cs' := [(oC 5 (rdF qt p (rStp ft x)))]) [0] rfl rfl) (nd_sub nd (as' := [q]) [0] rfl rfl) ?_)
        refine w_heq (hUs_in nd rfl [0] (cs2 := [(oC 5 (rdF qt p (rFl (rStp ft x) 1 (nI (rStp ft x).2.2.2.1)))), (aB 600 ft)]) rfl rfl) ?_
        refine w_zreturn rfl dX5_takeNumber_40 rfl (Nat.le_of_ble_eq_true rfl) (Nat.le_of_ble_eq_true rfl) ?_
        have e : rTN ft lo hi x = (0, rFl (rStp ft x) 1 (nI (rStp ft x).2.2.2.1)) := by
          rw [rTN, if_pos ⟨by simpa using b1, b10⟩, rTN1, if_neg b32]
        rw [e] at k
        exact k
set_option maxRecDepth 100000 in
set_option maxHeartbeats 4000000 in
theorem c_isReserved {G : wG} {d : Nat} {h : hH} {Q : Option Value → hH → Prop} {q qt p : Nat} {x : rD} (hw : hHas h [q] [(oC 5 (rdF qt p x))])  (k : Q (some (.int (rRs x.2.2.1 x.2.2.2.2.1))) h) : Cl G yX5_isReserved (d + 8) 0 0 [.ref q] h Q := by
  refine Cl.of (ini := false) kX5_isReserved (plainFor_of_name (by decide)) (by decide) (Nat.le_of_ble_eq_true rfl) rfl rfl (fun z => by cases z) ?_
  refine w_aload_n dX5_isReserved_0 rfl ?_
  refine w_ldcS (i := 0) rfl rfl rfl dX5_isReserved_1 ?_
  refine w_callV (ci := 5) (d' := d + 7) (mc' := 0) (ms' := 0) (As := [.ref (G.2.2.1 0)]) (st := []) lX5_46 vX5_isWord rfl (hw 0 _ _ rfl rfl) rfl (Nat.le_of_ble_eq_true rfl) dX5_isReserved_3 (Nat.le_of_ble_eq_true rfl) (Nat.le_of_ble_eq_true rfl) (Nat.le_refl _) (c_isWord (i := 0) rfl (hHas_s hw (as' := [q]) (cs' := [(oC 5 (rdF qt p x))]) [0] rfl rfl) ?_)
  refine w_if_ne (tgt := 108) dX5_isReserved_6 rfl (fun b6 => ?_) (fun b6 => ?_)
  · refine w_iconst (v := 1) dX5_isReserved_108 (by decide) ?_
    refine w_goto (tgt := 113) dX5_isReserved_109 rfl ?_
    refine w_zreturn rfl dX5_isReserved_113 rfl (Nat.le_of_ble_eq_true rfl) (Nat.le_of_ble_eq_true rfl) ?_
    have e0 : rRs x.2.2.1 x.2.2.2.2.1 = 1 := by
      rw [rRs, if_pos b6]
    rw [e0] at k
    exact k
  · refine w_aload_n dX5_isReserved_9 rfl ?_
    refine w_ldcS (i := 1) rfl rfl rfl dX5_isReserved_10 ?_
    refine w_callV (ci := 5) (d' := d + 7) (mc' := 0) (ms' := 0) (As := [.ref (G.2.2.1 1)]) (st := []) lX5_46 vX5_isWord rfl (hw 0 _ _ rfl rfl) rfl (Nat.le_of_ble_eq_true rfl) dX5_isReserved_12 (Nat.le_of_ble_eq_true rfl) (Nat.le_of_ble_eq_true rfl) (Nat.le_refl _) (c_isWord (i := 1) rfl (hHas_s hw (as' := [q]) (cs' := [(oC 5 (rdF qt p x))]) [0] rfl rfl) ?_)
    refine w_if_ne (tgt := 108) dX5_isReserved_15 rfl (fun b15 => ?_) (fun b15 => ?_)
    · refine w_iconst (v := 1) dX5_isReserved_108 (by decide) ?_
      refine w_goto (tgt := 113) dX5_isReserved_109 rfl ?_
      refine w_zreturn rfl dX5_isReserved_113 rfl (Nat.le_of_ble_eq_true rfl) (Nat.le_of_ble_eq_true rfl) ?_
      have e0 : rRs x.2.2.1 x.2.2.2.2.1 = 1 := by
        rw [rRs, if_neg (fun z => z b6), if_pos b15]
      rw [e0] at k
      exact k
    · refine w_aload_n dX5_isReserved_18 rfl ?_
      refine w_ldcS (i := 2) rfl rfl rfl dX5_isReserved_19 ?_
      refine w_callV (ci := 5) (d' := d + 7) (mc' := 0) (ms' := 0) (As := [.ref (G.2.2.1 2)]) (st := []) lX5_46 vX5_isWord rfl (hw 0 _ _ rfl rfl) rfl (Nat.le_of_ble_eq_true rfl) dX5_isReserved_21 (Nat.le_of_ble_eq_true rfl) (Nat.le_of_ble_eq_true rfl) (Nat.le_refl _) (c_isWord (i := 2) rfl (hHas_s hw (as' := [q]) (cs' := [(oC 5 (rdF qt p x))]) [0] rfl rfl) ?_)
      refine w_if_ne (tgt := 108) dX5_isReserved_24 rfl (fun b24 => ?_) (fun b24 => ?_)
      · refine w_iconst (v := 1) dX5_isReserved_108 (by decide) ?_
        refine w_goto (tgt := 113) dX5_isReserved_109 rfl ?_
        refine w_zreturn rfl dX5_isReserved_113 rfl (Nat.le_of_ble_eq_true rfl) (Nat.le_of_ble_eq_true rfl) ?_
        have e0 : rRs x.2.2.1 x.2.2.2.2.1 = 1 := by
          rw [rRs, if_neg (fun z => z b6), if_neg (fun z => z b15), if_pos b24]
        rw [e0] at k
        exact k
      · refine w_aload_n dX5_isReserved_27 rfl ?_
        refine w_ldcS (i := 3) rfl rfl rfl dX5_isReserved_28 ?_
        refine w_callV (ci := 5) (d' := d + 7) (mc' := 0) (ms' := 0) (As := [.ref (G.2.2.1 3)]) (st := []) lX5_46 vX5_isWord rfl (hw 0 _ _ rfl rfl) rfl (Nat.le_of_ble_eq_true rfl) dX5_isReserved_30 (Nat.le_of_ble_eq_true rfl) (Nat.le_of_ble_eq_true rfl) (Nat.le_refl _) (c_isWord (i := 3) rfl (hHas_s hw (as' := [q]) (cs' := [(oC 5 (rdF qt p x))]) [0] rfl rfl) ?_)
        refine w_if_ne (tgt := 108) dX5_isReserved_33 rfl (fun b33 => ?_) (fun b33 => ?_)
        · refine w_iconst (v := 1) dX5_isReserved_108 (by decide) ?_
          refine w_goto (tgt := 113) dX5_isReserved_109 rfl ?_
          refine w_zreturn rfl dX5_isReserved_113 rfl (Nat.le_of_ble_eq_true rfl) (Nat.le_of_ble_eq_true rfl) ?_
          have e0 : rRs x.2.2.1 x.2.2.2.2.1 = 1 := by
            rw [rRs, if_neg (fun z => z b6), if_neg (fun z => z b15), if_neg (fun z => z b24), if_pos b33]
          rw [e0] at k
          exact k
        · refine w_aload_n dX5_isReserved_36 rfl ?_
          refine w_ldcS (i := 4) rfl rfl rfl dX5_isReserved_37 ?_
          refine w_callV (ci := 5) (d' := d + 7) (mc' := 0) (ms' := 0) (As := [.ref (G.2.2.1 4)]) (st := []) lX5_46 vX5_isWord rfl (hw 0 _ _ rfl rfl) rfl (Nat.le_of_ble_eq_true rfl) dX5_isReserved_39 (Nat.le_of_ble_eq_true rfl) (Nat.le_of_ble_eq_true rfl) (Nat.le_refl _) (c_isWord (i := 4) rfl (hHas_s hw (as' := [q]) (cs' := [(oC 5 (rdF qt p x))]) [0] rfl rfl) ?_)
          refine w_if_ne (tgt := 108) dX5_isReserved_42 rfl (fun b42 => ?_) (fun b42 => ?_)
          · refine w_iconst (v := 1) dX5_isReserved_108 (by decide) ?_
            refine w_goto (tgt := 113) dX5_isReserved_109 rfl ?_
            refine w_zreturn rfl dX5_isReserved_113 rfl (Nat.le_of_ble_eq_true rfl) (Nat.le_of_ble_eq_true rfl) ?_
            have e0 : rRs x.2.2.1 x.2.2.2.2.1 = 1 := by
              rw [rRs, if_neg (fun z => z b6), if_neg (fun z => z b15), if_neg (fun z => z b24), if_neg (fun z => z b33), if_pos b42]
            rw [e0] at k
            exact k
          · refine w_aload_n dX5_isReserved_45 rfl ?_
            refine w_ldcS (i := 5) rfl rfl rfl dX5_isReserved_46 ?_
            refine w_callV (ci := 5) (d' := d + 7) (mc' := 0) (ms' := 0) (As := [.ref (G.2.2.1 5)]) (st := []) lX5_46 vX5_isWord rfl (hw 0 _ _ rfl rfl) rfl (Nat.le_of_ble_eq_true rfl) dX5_isReserved_48 (Nat.le_of_ble_eq_true rfl) (Nat.le_of_ble_eq_true rfl) (Nat.le_refl _) (c_isWord (i := 5) rfl (hHas_s hw (as' := [q]) (cs' := [(oC 5 (rdF qt p x))]) [0] rfl rfl) ?_)
            refine w_if_ne (tgt := 108) dX5_isReserved_51 rfl (fun b51 => ?_) (fun b51 => ?_)
            · refine w_iconst (v := 1) dX5_isReserved_108 (by decide) ?_
              refine w_goto (tgt := 113) dX5_isReserved_109 rfl ?_
              refine w_zreturn rfl dX5_isReserved_113 rfl (Nat.le_of_ble_eq_true rfl) (Nat.le_of_ble_eq_true rfl) ?_
              have e0 : rRs x.2.2.1 x.2.2.2.2.1 = 1 := by
                rw [rRs, if_neg (fun z => z b6), if_neg (fun z => z b15), if_neg (fun z => z b24), if_neg (fun z => z b33), if_neg (fun z => z b42), if_pos b51]
              rw [e0] at k
              exact k
            · refine w_aload_n dX5_isReserved_54 rfl ?_
              refine w_ldcS (i := 6) rfl rfl rfl dX5_isReserved_55 ?_
              refine w_callV (ci := 5) (d' := d + 7) (mc' := 0) (ms' := 0) (As := [.ref (G.2.2.1 6)]) (st := []) lX5_46 vX5_isWord rfl (hw 0 _ _ rfl rfl) rfl (Nat.le_of_ble_eq_true rfl) dX5_isReserved_57 (Nat.le_of_ble_eq_true rfl) (Nat.le_of_ble_eq_true rfl) (Nat.le_refl _) (c_isWord (i := 6) rfl (hHas_s hw (as' := [q]) (cs' := [(oC 5 (rdF qt p x))]) [0] rfl rfl) ?_)
              refine w_if_ne (tgt := 108) dX5_isReserved_60 rfl (fun b60 => ?_) (fun b60 => ?_)
              · refine w_iconst (v := 1) dX5_isReserved_108 (by decide) ?_
                refine w_goto (tgt := 113) dX5_isReserved_109 rfl ?_
                refine w_zreturn rfl dX5_isReserved_113 rfl (Nat.le_of_ble_eq_true rfl) (Nat.le_of_ble_eq_true rfl) ?_
                have e0 : rRs x.2.2.1 x.2.2.2.2.1 = 1 := by
                  rw [rRs, if_neg (fun z => z b6), if_neg (fun z => z b15), if_neg (fun z => z b24), if_neg (fun z => z b33), if_neg (fun z => z b42), if_neg (fun z => z b51), if_pos b60]
                rw [e0] at k
                exact k
              · refine w_aload_n dX5_isReserved_63 rfl ?_
                refine w_ldcS (i := 7) rfl rfl rfl dX5_isReserved_64 ?_
                refine w_callV (ci := 5) (d' := d + 7) (mc' := 0) (ms' := 0) (As := [.ref (G.2.2.1 7)]) (st := []) lX5_46 vX5_isWord rfl (hw 0 _ _ rfl rfl) rfl (Nat.le_of_ble_eq_true rfl) dX5_isReserved_66 (Nat.le_of_ble_eq_true rfl) (Nat.le_of_ble_eq_true rfl) (Nat.le_refl _) (c_isWord (i := 7) rfl (hHas_s hw (as' := [q]) (cs' := [(oC 5 (rdF qt p x))]) [0] rfl rfl) ?_)
                refine w_if_ne (tgt := 108) dX5_isReserved_69 rfl (fun b69 => ?_) (fun b69 => ?_)
                · refine w_iconst (v := 1) dX5_isReserved_108 (by decide) ?_
                  refine w_goto (tgt := 113) dX5_isReserved_109 rfl ?_
                  refine w_zreturn rfl dX5_isReserved_113 rfl (Nat.le_of_ble_eq_true rfl) (Nat.le_of_ble_eq_true rfl) ?_
                  have e0 : rRs x.2.2.1 x.2.2.2.2.1 = 1 := by
                    rw [rRs, if_neg (fun z => z b6), if_neg (fun z => z b15), if_neg (fun z => z b24), if_neg (fun z => z b33), if_neg (fun z => z b42), if_neg (fun z => z b51), if_neg (fun z => z b60), if_pos b69]
                  rw [e0] at k
                  exact k
                · refine w_aload_n dX5_isReserved_72 rfl ?_
                  refine w_ldcS (i := 8) rfl rfl rfl dX5_isReserved_73 ?_
                  refine w_callV (ci := 5) (d' := d + 7) (mc' := 0) (ms' := 0) (As := [.ref (G.2.2.1 8)]) (st := []) lX5_46 vX5_isWord rfl (hw 0 _ _ rfl rfl) rfl (Nat.le_of_ble_eq_true rfl) dX5_isReserved_75 (Nat.le_of_ble_eq_true rfl) (Nat.le_of_ble_eq_true rfl) (Nat.le_refl _) (c_isWord (i := 8) rfl (hHas_s hw (as' := [q]) (cs' := [(oC 5 (rdF qt p x))]) [0] rfl rfl) ?_)
                  refine w_if_ne (tgt := 108) dX5_isReserved_78 rfl (fun b78 => ?_) (fun b78 => ?_)
                  · refine w_iconst (v := 1) dX5_isReserved_108 (by decide) ?_
                    refine w_goto (tgt := 113) dX5_isReserved_109 rfl ?_
                    refine w_zreturn rfl dX5_isReserved_113 rfl (Nat.le_of_ble_eq_true rfl) (Nat.le_of_ble_eq_true rfl) ?_
                    have e0 : rRs x.2.2.1 x.2.2.2.2.1 = 1 := by
                      rw [rRs, if_neg (fun z => z b6), if_neg (fun z => z b15), if_neg (fun z => z b24), if_neg (fun z => z b33), if_neg (fun z => z b42), if_neg (fun z => z b51), if_neg (fun z => z b60), if_neg (fun z => z b69), if_pos b78]
                    rw [e0] at k
                    exact k
                  · refine w_aload_n dX5_isReserved_81 rfl ?_
                    refine w_ldcS (i := 9) rfl rfl rfl dX5_isReserved_82 ?_
                    refine w_callV (ci := 5) (d' := d + 7) (mc' := 0) (ms' := 0) (As := [.ref (G.2.2.1 9)]) (st := []) lX5_46 vX5_isWord rfl (hw 0 _ _ rfl rfl) rfl (Nat.le_of_ble_eq_true rfl) dX5_isReserved_84 (Nat.le_of_ble_eq_true rfl) (Nat.le_of_ble_eq_true rfl) (Nat.le_refl _) (c_isWord (i := 9) rfl (hHas_s hw (as' := [q]) (cs' := [(oC 5 (rdF qt p x))]) [0] rfl rfl) ?_)
                    refine w_if_ne (tgt := 108) dX5_isReserved_87 rfl (fun b87 => ?_) (fun b87 => ?_)
                    · refine w_iconst (v := 1) dX5_isReserved_108 (by decide) ?_
                      refine w_goto (tgt := 113) dX5_isReserved_109 rfl ?_
                      refine w_zreturn rfl dX5_isReserved_113 rfl (Nat.le_of_ble_eq_true rfl) (Nat.le_of_ble_eq_true rfl) ?_
                      have e0 : rRs x.2.2.1 x.2.2.2.2.1 = 1 := by
                        rw [rRs, if_neg (fun z => z b6), if_neg (fun z => z b15), if_neg (fun z => z b24), if_neg (fun z => z b33), if_neg (fun z => z b42), if_neg (fun z => z b51), if_neg (fun z => z b60), if_neg (fun z => z b69), if_neg (fun z => z b78), if_pos b87]
                      rw [e0] at k
                      exact k
                    · refine w_aload_n dX5_isReserved_90 rfl ?_
                      refine w_ldcS (i := 10) rfl rfl rfl dX5_isReserved_91 ?_
                      refine w_callV (ci := 5) (d' := d + 7) (mc' := 0) (ms' := 0) (As := [.ref (G.2.2.1 10)]) (st := []) lX5_46 vX5_isWord rfl (hw 0 _ _ rfl rfl) rfl (Nat.le_of_ble_eq_true rfl) dX5_isReserved_93 (Nat.le_of_ble_eq_true rfl) (Nat.le_of_ble_eq_true rfl) (Nat.le_refl _) (c_isWord (i := 10) rfl (hHas_s hw (as' := [q]) (cs' := [(oC 5 (rdF qt p x))]) [0] rfl rfl) ?_)
                      refine w_if_ne (tgt := 108) dX5_isReserved_96 rfl (fun b96 => ?_) (fun b96 => ?_)
                      · refine w_iconst (v := 1) dX5_isReserved_108 (by decide) ?_
                        refine w_goto (tgt := 113) dX5_isReserved_109 rfl ?_
                        refine w_zreturn rfl dX5_isReserved_113 rfl (Nat.le_of_ble_eq_true rfl) (Nat.le_of_ble_eq_true rfl) ?_
                        have e0 : rRs x.2.2.1 x.2.2.2.2.1 = 1 := by
                          rw [rRs, if_neg (fun z => z b6), if_neg (fun z => z b15), if_neg (fun z => z b24), if_neg (fun z => z b33), if_neg (fun z => z b42), if_neg (fun z => z b51), if_neg (fun z => z b60), if_neg (fun z => z b69), if_neg (fun z => z b78), if_neg (fun z => z b87), if_pos b96]
                        rw [e0] at k
                        exact k
                      · refine w_aload_n dX5_isReserved_99 rfl ?_
                        refine w_ldcS (i := 11) rfl rfl rfl dX5_isReserved_100 ?_
                        refine w_callV (ci := 5) (d' := d + 7) (mc' := 0) (ms' := 0) (As := [.ref (G.2.2.1 11)]) (st := []) lX5_46 vX5_isWord rfl (hw 0 _ _ rfl rfl) rfl (Nat.le_of_ble_eq_true rfl) dX5_isReserved_102 (Nat.le_of_ble_eq_true rfl) (Nat.le_of_ble_eq_true rfl) (Nat.le_refl _) (c_isWord (i := 11) rfl (hHas_s hw (as' := [q]) (cs' := [(oC 5 (rdF qt p x))]) [0] rfl rfl) ?_)
                        refine w_if_eq (tgt := 112) dX5_isReserved_105 rfl (fun b105 => ?_) (fun b105 => ?_)
                        · refine w_iconst (v := 0) dX5_isReserved_112 (by decide) ?_
                          refine w_zreturn rfl dX5_isReserved_113 rfl (Nat.le_of_ble_eq_true rfl) (Nat.le_of_ble_eq_true rfl) ?_
                          have e0 : rRs x.2.2.1 x.2.2.2.2.1 = 0 := by
                            rw [rRs, if_neg (fun z => z b6), if_neg (fun z => z b15), if_neg (fun z => z b24), if_neg (fun z => z b33), if_neg (fun z => z b42), if_neg (fun z => z b51), if_neg (fun z => z b60), if_neg (fun z => z b69), if_neg (fun z => z b78), if_neg (fun z => z b87), if_neg (fun z => z b96), if_neg (fun z => z b105)]
                          rw [e0] at k
                          exact k
                        · refine w_iconst (v := 1) dX5_isReserved_108 (by decide) ?_
                          refine w_goto (tgt := 113) dX5_isReserved_109 rfl ?_
                          refine w_zreturn rfl dX5_isReserved_113 rfl (Nat.le_of_ble_eq_true rfl) (Nat.le_of_ble_eq_true rfl) ?_
                          have e0 : rRs x.2.2.1 x.2.2.2.2.1 = 1 := by
                            rw [rRs, if_neg (fun z => z b6), if_neg (fun z => z b15), if_neg (fun z => z b24), if_neg (fun z => z b33), if_neg (fun z => z b42), if_neg (fun z => z b51), if_neg (fun z => z b60), if_neg (fun z => z b69), if_neg (fun z => z b78), if_neg (fun z => z b87), if_neg (fun z => z b96), if_pos b105]
                          rw [e0] at k
                          exact k
