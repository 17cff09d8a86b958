set_option maxRecDepth 100000 in
set_option maxHeartbeats 4000000 in
/-- the class's object stands where its cells stand -/
theorem cI_fr {h h2 : hH} {b : Nat} {ft : Nat → Int32} {tp : Nat} {P : pD} {ht : Int32} {R : Option rnD} {i0 i1 : imD} {sd fa pl tr : Int32} (hI : cI h b ft tp P ht R i0 i1 sd fa pl tr) (hf : ∀ a, b ≤ a → a < b + 97 → h2.1 a = h.1 a) : cI h2 b ft tp P ht R i0 i1 sd fa pl tr := by
  refine cI_e hI ?_
  intro pp ps P2 go ln wn rsd c qw ql cn s fo fg fz i01 i02 i03 i04 i05 i06 i07 i11 i12 i13 i14 i15 i16 i17 wm fw f q0 c0 s1 q1 c1 s2 q2 c2 x hW hpp hP1 hP2 hR hi0 hi1 htp hpo hht
  have q1 : b ≤ pp ∧ pp + 31 ≤ b + 97 ∧ b ≤ ps ∧ ps + 31 ≤ b + 97 := by
    rcases hpp with ⟨e1, e2⟩ | ⟨e1, e2⟩ <;> omega
  exact cI_i (hHas_ne hW (by intro a ha; simp only [List.mem_cons, List.not_mem_nil, or_false] at ha; exact hf a (by omega) (by omega))) hpp (hPl_ne hP1 (fun a a1 a2 => hf a (by omega) (by omega))) (hPl_ne hP2 (fun a a1 a2 => hf a (by omega) (by omega))) hR hi0 hi1 htp hpo hht
set_option maxRecDepth 100000 in
set_option maxHeartbeats 4000000 in
theorem mI_fr {h h2 : hH} {m : Nat} {ft : Nat → Int32} {tp : Nat} {P : pD} {ht : Int32} {R : Option rnD} {i0 i1 : imD} {sd fa pl tr : Int32} {th : Int32} (hI : mI h m ft tp P ht R i0 i1 sd fa pl tr th) (hf : ∀ a, m ≤ a → a < m + 24 → h2.1 a = h.1 a) : mI h2 m ft tp P ht R i0 i1 sd fa pl tr th := by
  refine mI_e hI ?_
  intro sz sp fl tk ta sg nu wd rl rw ah cl gt ln wn fs ff fb fn fp f3 fk fx fy fc fr f1 f2 fi fo fq fh fj fw fz hW hT hPm hG hRm hm0 hm1 hsd hht htp
  exact mI_i (hHas_ne hW (by intro a ha; simp only [List.mem_cons, List.not_mem_nil, or_false] at ha; exact hf a (by omega) (by omega))) hT hPm hG hRm hm0 hm1 hsd hht htp
theorem cI_at {h : hH} {b : Nat} {ft : Nat → Int32} {tp : Nat} {P : pD} {ht : Int32} {R : Option rnD} {i0 i1 : imD} {sd fa pl tr : Int32} (hI : cI h b ft tp P ht R i0 i1 sd fa pl tr) : ∃ fs, h.1 b = some (oC 9 fs) := by
  refine cI_e hI ?_
  intro pp ps P2 go ln wn rsd c qw ql cn s fo fg fz i01 i02 i03 i04 i05 i06 i07 i11 i12 i13 i14 i15 i16 i17 wm fw f q0 c0 s1 q1 c1 s2 q2 c2 x hW hpp hP1 hP2 hR hi0 hi1 htp hpo hht
  exact ⟨_, hW 0 _ _ rfl rfl⟩
theorem mI_at {h : hH} {m : Nat} {ft : Nat → Int32} {tp : Nat} {P : pD} {ht : Int32} {R : Option rnD} {i0 i1 : imD} {sd fa pl tr : Int32} {th : Int32} (hI : mI h m ft tp P ht R i0 i1 sd fa pl tr th) : ∃ fs, h.1 m = some (oC 10 fs) := by
  refine mI_e hI ?_
  intro sz sp fl tk ta sg nu wd rl rw ah cl gt ln wn fs ff fb fn fp f3 fk fx fy fc fr f1 f2 fi fo fq fh fj fw fz hW hT hPm hG hRm hm0 hm1 hsd hht htp
  exact ⟨_, hW 0 _ _ rfl rfl⟩
theorem q_thrown {G : wG} {d : Nat} {h : hH} {Q : Option Value → hH → Prop} {m : Nat} {ft : Nat → Int32} {tp : Nat} {P : pD} {ht : Int32} {R : Option rnD} {i0 i1 : imD} {sd fa pl tr : Int32} {th : Int32} (hI : mI h m ft tp P ht R i0 i1 sd fa pl tr th) (k : Q (some (.int th)) h) : Cl G yX10_thrown d 0 0 [.ref m] h Q := by
  refine mI_e hI ?_
  intro sz sp fl tk ta sg nu wd rl rw ah cl gt ln wn fs ff fb fn fp f3 fk fx fy fc fr f1 f2 fi fo fq fh fj fw fz hW hT hPm hG hRm hm0 hm1 hsd hht htp
  exact m_thrown (hHas_s hW [0] rfl rfl) k
/-- both objects in one state, and the law's own row -/
def LI (b : Nat) (h : hH) : Prop := ∃ (ft : Nat → Int32) (tp : Nat) (P : pD) (ht : Int32) (R : Option rnD) (i0 i1 : imD) (sd fa pl tr th : Int32) (f : Nat → Int64), cI h b ft tp P ht R i0 i1 sd fa pl tr ∧ mI h (b + 97) ft tp P ht R i0 i1 sd fa pl tr th ∧ h.1 (b + 121) = some (aL 1 f)
/-- the class moved: the reference and the row stand -/
theorem LI_c {h h2 : hH} {b : Nat} {ft : Nat → Int32} {tp : Nat} {P : pD} {ht : Int32} {R : Option rnD} {i0 i1 : imD} {sd fa pl tr : Int32} {th : Int32} {f : Nat → Int64} (hf : cFr b h h2) (hM : mI h (b + 97) ft tp P ht R i0 i1 sd fa pl tr th) (hq : h.1 (b + 121) = some (aL 1 f)) : mI h2 (b + 97) ft tp P ht R i0 i1 sd fa pl tr th ∧ h2.1 (b + 121) = some (aL 1 f) :=
  ⟨mI_fr hM (fun a a1 a2 => hf.2 a (by omega)), (hf.2 (b + 121) (by omega)).trans hq⟩
theorem LI_m {h h2 : hH} {b : Nat} {ft : Nat → Int32} {tp : Nat} {P : pD} {ht : Int32} {R : Option rnD} {i0 i1 : imD} {sd fa pl tr : Int32} {th : Int32} {f : Nat → Int64} (hf : mFr (b + 97) h h2) (hC : cI h b ft tp P ht R i0 i1 sd fa pl tr) (hq : h.1 (b + 121) = some (aL 1 f)) (hM : mI h2 (b + 97) ft tp P ht R i0 i1 sd fa pl tr th) : LI b h2 :=
  ⟨ft, tp, P, ht, R, i0, i1, sd, fa, pl, tr, th, f, cI_fr hC (fun a a1 a2 => hf.2 a (by omega)), hM, (hf.2 (b + 121) (by omega)).trans hq⟩
section
variable {X : lX} {G : wG} {own : String} {cc : ByteArray} {nL cells slots pc : Nat} {ls : List (Option Value)} {st : List Value} {h : hH}
/-- one word of the script: aload_0; iload 4; iconst; iadd; iaload -/
theorem l_arg {sb L j n : Nat} {xs : Nat → Int32} {kk : Int} (C : lK X own cc nL) (hS : lS X G sb L xs) (hL : L ≤ 3072) (hj : j + n < L) (h0 : ls[0]? = some (some (.ref sb))) (h4 : ls[4]? = some (some (.int (nI j)))) (d0 : decode cc pc = .ok (.aload_n 0, 1)) (d1 : decode cc (pc + 1) = .ok (.iload 4, 2)) (d3 : decode cc (pc + 3) = .ok (.iconst kk, 1)) (d4 : decode cc (pc + 4) = .ok (.iadd, 1)) (d5 : decode cc (pc + 5) = .ok (.iaload, 1)) (hk : Int32.ofInt kk = nI n) (k : WL X G nL cells slots (pc + 6) ls (.int (xs (j + n)) :: st) h) : WL X G nL cells slots pc ls st h := by
  refine l_aload_n C d0 h0 ?_
  refine l_iload C d1 h4 ?_
  refine l_iconst C d3 hk ?_
  refine l_iadd C d4 ?_
  rw [nI_add]
  refine l_sld C hS (vp_in_nI hj (by omega)) d5 ?_
  rw [nI_clamp (by omega)]
  exact k
/-- the locals in the law's loop -/
abbrev lL (sb b j : Nat) : List (Option Value) := [some (.ref sb), some (.ref b), some (.ref (b + 97)), some (.ref (b + 121)), some (.int (nI j)), none, none]
end
