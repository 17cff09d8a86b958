theorem gd_gcd : ∀ (k n a b : Nat), 2 * k ≤ n → b < 2 ^ k → a < 2 ^ 31 → b < 2 ^ 31 → gdF n (nI a) (nI b) = nI (Nat.gcd b a)
  | 0, n, a, b, _, hb, _, _ => by
    have z : b = 0 := by omega
    subst z
    rw [Nat.gcd_zero_left]
    cases n with
    | zero => rfl
    | succ n => rw [gdF, if_pos (by decide)]
  | k + 1, n, a, b, hn, hb, ha, hb2 => by
    obtain ⟨n, rfl⟩ : ∃ j, n = j + 2 := ⟨n - 2, by omega⟩
    rw [gdF]
    by_cases e : b = 0
    · subst e; rw [if_pos (by decide), Nat.gcd_zero_left]
    · have hr : a % b < b := Nat.mod_lt _ (by omega)
      rw [if_neg (nI_nle (by omega) hb2), pk_rem ha (by omega) hb2, gdF]
      by_cases e2 : a % b = 0
      · rw [e2, if_pos (by decide), Nat.gcd_rec, e2, Nat.gcd_zero_left]
      · rw [if_neg (nI_nle (by omega) (by omega)), pk_rem hb2 (by omega) (by omega), Nat.gcd_rec b a, Nat.gcd_rec (a % b) b]
        have h3 : b % (a % b) < a % b := Nat.mod_lt _ (by omega)
        have h2 : b % (a % b) < 2 ^ k := by
          have h4 : b % (a % b) + a % b ≤ b := by
            have h5 := Nat.div_add_mod b (a % b)
            have h6 : 1 ≤ b / (a % b) := (Nat.one_le_div_iff (by omega)).mpr (by omega)
            have h7 : a % b ≤ a % b * (b / (a % b)) := Nat.le_mul_of_pos_right _ (by omega)
            omega
          have h8 : 2 ^ (k + 1) = 2 * 2 ^ k := by rw [Nat.pow_succ]; omega
          omega
        exact gd_gcd k n (a % b) (b % (a % b)) (by omega) h2 (by omega) (by omega)
theorem mx1 {g : Nat} (h : 0 < g) (h2 : g < 2 ^ 31) : mxI 1 (nI g) = nI g := by
  unfold mxI
  by_cases e : g = 1
  · subst e; rfl
  · exact if_pos (nI_lt (a := 1) (by omega) h2)
theorem ab_sum {F : Nat → Int32} (a : Nat) : ∀ n, n ≤ 4096 → (∀ t, a ≤ t → t < a + n → F t = -1 ∨ F t = 0 ∨ F t = 1) → ∃ z : Int, -(n : Int) ≤ z ∧ z ≤ n ∧ (fld (fun t (s : Int32) => s + F t) a n 0).toInt = z
  | 0, _, _ => ⟨0, by omega, by omega, rfl⟩
  | n + 1, hn, h => by
    obtain ⟨z, h1, h2, h3⟩ := ab_sum a n (by omega) (fun t g1 g2 => h t g1 (by omega))
    rw [fld]
    have e : ∃ d : Int, -1 ≤ d ∧ d ≤ 1 ∧ (F (a + n)).toInt = d := by
      rcases h (a + n) (by omega) (by omega) with g | g | g <;> rw [g]
      · exact ⟨-1, by omega, by omega, rfl⟩
      · exact ⟨0, by omega, by omega, rfl⟩
      · exact ⟨1, by omega, by omega, rfl⟩
    obtain ⟨d, d1, d2, d3⟩ := e
    exact ⟨z + d, by omega, by omega, by rw [Int32.toInt_add, h3, d3, bm_id (by omega) (by omega)]⟩
theorem ab_nat {x : Int32} {n : Nat} (hn : n ≤ 4096) (h1 : -(n : Int) ≤ x.toInt) (h2 : x.toInt ≤ n) : ∃ s, s ≤ n ∧ abI x = nI s := by
  refine ⟨x.toInt.natAbs, by omega, ?_⟩
  apply Int32.toInt_inj.mp
  rw [nI_toInt (by omega)]
  unfold abI
  by_cases e : 0 ≤ x
  · rw [if_pos e]
    have := Int32.le_iff_toInt_le.mp e
    rw [show (0 : Int32).toInt = 0 from rfl] at this
    omega
  · rw [if_neg e, Int32.toInt_neg, bm_id (by omega) (by omega)]
    have hx : x.toInt < 0 := Int32.lt_iff_toInt_lt.mp (Int32.not_le.mp e)
    omega
set_option maxRecDepth 100000 in
set_option maxHeartbeats 4000000 in
theorem l_common {G : wG} {d : Nat} {h : hH} {Q : Option Value → hH → Prop} {x y : Int32} {g : Nat} (k : Q (some (.int (nI g))) h) : ∀ (n : Nat) (a b : Nat), b ≤ n → (a < 2 ^ 31 ∧ b < 2 ^ 31) → Nat.gcd a b = g → WP G RX10 cX10_common 5 (some .int) false (d + 1) 0 0 0 0 Q 7 [some (.int x), some (.int y), some (.int (nI a)), some (.int (nI b)), none] [] h := by
  intro n
  induction n with
  | zero =>
    intro a b hb hab e
    refine w_iload_n dX10_common_7 rfl ?_
    refine w_if_eq_t (tgt := 24) dX10_common_8 rfl ((nI_eq (a := b) (b := 0) (by omega) (by omega)).mpr (by omega)) ?_
    refine w_iload_n dX10_common_24 rfl ?_
    refine w_ireturn rfl dX10_common_25 (Nat.le_of_ble_eq_true rfl) (Nat.le_of_ble_eq_true rfl) ?_
    have z : b = 0 := by omega
    rw [z, Nat.gcd_zero_right] at e
    rw [← e] at k
    exact k
  | succ n ih =>
    intro a b hb hab e
    refine w_iload_n dX10_common_7 rfl ?_
    refine w_if_eq (tgt := 24) dX10_common_8 rfl (fun b8 => ?_) (fun b8 => ?_)
    · have b8 := (nI_eq (a := b) (b := 0) (by omega) (by omega)).mp b8
      refine w_iload_n dX10_common_24 rfl ?_
      refine w_ireturn rfl dX10_common_25 (Nat.le_of_ble_eq_true rfl) (Nat.le_of_ble_eq_true rfl) ?_
      have z : b = 0 := by omega
      rw [z, Nat.gcd_zero_right] at e
      rw [← e] at k
      exact k
    · have b8 : ¬ b = 0 := fun z => b8 ((nI_eq (a := b) (b := 0) (by omega) (by omega)).mpr z)
      refine w_iload_n dX10_common_11 rfl ?_
      refine w_iload_n dX10_common_12 rfl ?_
      refine w_iremE (z := nI (a % b)) dX10_common_13 (nI_ne0 (by omega) (by omega)) (pk_rem (a := a) (d := b) (by omega) (by omega) (by omega)) ?_
      refine w_istore (ls2 := [some (.int x), some (.int y), some (.int (nI a)), some (.int (nI b)), some (.int (nI (a % b)))]) dX10_common_14 (by decide) rfl rfl ?_
      refine w_iload_n dX10_common_16 rfl ?_
      refine w_istore_n (ls2 := [some (.int x), some (.int y), some (.int (nI b)), some (.int (nI b)), some (.int (nI (a % b)))]) dX10_common_17 (by decide) rfl rfl ?_
      refine w_iload dX10_common_18 rfl ?_
      refine w_istore_n (ls2 := [some (.int x), some (.int y), some (.int (nI b)), some (.int (nI (a % b))), some (.int (nI (a % b)))]) dX10_common_20 (by decide) rfl rfl ?_
      refine w_goto (tgt := 7) dX10_common_21 rfl ?_
      refine w_less (ls2 := [some (.int x), some (.int y), some (.int (nI b)), some (.int (nI (a % b))), none]) ⟨Or.inr rfl, Or.inr rfl, Or.inr rfl, Or.inr rfl, Or.inl rfl, trivial⟩ ?_
      rw [Nat.gcd_comm, Nat.gcd_rec] at e
      have hr : a % b < b := Nat.mod_lt _ (by omega)
      exact ih b (a % b) (by omega) (by omega) (by rw [Nat.gcd_comm]; exact e)
set_option maxRecDepth 100000 in
set_option maxHeartbeats 4000000 in
theorem m_common {G : wG} {d : Nat} {h : hH} {Q : Option Value → hH → Prop} {x : Int32} {s N : Nat} (hs : abI x = nI s) (hs1 : s < 2 ^ 31) (hN : N < 2 ^ 31) (k : Q (some (.int (nI (Nat.gcd s N)))) h) : Cl G yX10_common (d + 1) 0 0 [.int x, .int (nI N)] h Q := by
  refine Cl.of (ini := false) kX10_common (plainFor_of_name (by decide)) (by decide) (Nat.le_of_ble_eq_true rfl) rfl rfl (fun z => by cases z) ?_
  refine w_iload_n dX10_common_0 rfl ?_
  refine w_callS (d' := d) (mc' := 0) (ms' := 0) (As := [.int x]) (st := []) lX10_273 vX10_without rfl (Nat.le_of_ble_eq_true rfl) dX10_common_1 (Nat.le_of_ble_eq_true rfl) (Nat.le_of_ble_eq_true rfl) (Nat.le_refl _) (c_without ?_)
  refine w_top (z := nI s) hs ?_
  refine w_istore_n (ls2 := [some (.int x), some (.int (nI N)), some (.int (nI s)), none, none]) dX10_common_4 (by decide) rfl rfl ?_
  refine w_iload_n dX10_common_5 rfl ?_
  refine w_istore_n (ls2 := [some (.int x), some (.int (nI N)), some (.int (nI s)), some (.int (nI N)), none]) dX10_common_6 (by decide) rfl rfl ?_
  exact l_common k N s N (Nat.le_refl _) ⟨by omega, by omega⟩ rfl
set_option maxRecDepth 100000 in
set_option maxHeartbeats 4000000 in
theorem lq_mean {G : wG} {d : Nat} {h : hH} {Q : Option Value → hH → Prop} {m tp : Nat} {P : pD} {ht sd fa pl tr sz sp fl tk ta sg nu : Int32} {wd : Int64} {rl rw ah cl : Int32} {fr : Nat → Int32} {fo : Nat → Int32} {y : Int32} {A B : Nat} (nd : [m, m + 14, m + 18].Nodup) (hA : A ≤ B) (hB : B < 4096) (k : WP G RX10 cX10_mean 6 (some .int) false (d + 3) 0 0 0 0 Q 72 [some (.ref m), some (.int (nI A)), some (.int (nI B)), some (.int y), some (.int (fld (fun t s => s + fo t) A (B + 1 - A) 0)), none] [] (hUs h [m, m + 14, m + 18] [(oC 10 (mF m 0 tr pl (nI tp) sz sp fa fl tk ta sg nu wd (nI P.1) (nI P.2.1) rl rw ht sd ah cl)), (aI 11 fr), (aB 4096 fo)])) : ∀ (n : Nat) (i : Nat) (x : Int32), i + n = B + 1 - A → x = fld (fun t s => s + fo t) A i 0 → WP G RX10 cX10_mean 6 (some .int) false (d + 3) 0 0 0 0 Q 48 [some (.ref m), some (.int (nI A)), some (.int (nI B)), some (.int y), some (.int x), some (.int (nI (A + i)))] [] (hUs h [m, m + 14, m + 18] [(oC 10 (mF m 0 tr pl (nI tp) sz sp fa fl tk ta sg nu wd (nI P.1) (nI P.2.1) rl rw ht sd ah cl)), (aI 11 fr), (aB 4096 fo)]) := by
  intro n
  induction n with
  | zero =>
    intro i x hi e
    refine w_iload dX10_mean_48 rfl ?_
    refine w_iload_n dX10_mean_50 rfl ?_
    refine w_icmp_gt_t (tgt := 72) dX10_mean_51 rfl ((nI_ltI (a := B) (b := (A + i)) (by omega) (by omega)).mpr (by omega)) ?_
    refine w_less (ls2 := [some (.ref m), some (.int (nI A)), some (.int (nI B)), some (.int y), some (.int x), none]) ⟨Or.inr rfl, Or.inr rfl, Or.inr rfl, Or.inr rfl, Or.inr rfl, Or.inl rfl, trivial⟩ ?_
    have z : i = B + 1 - A := by omega
    rw [← z, ← e] at k
    exact k
  | succ n ih =>
    intro i x hi e
    refine w_iload dX10_mean_48 rfl ?_
    refine w_iload_n dX10_mean_50 rfl ?_
    refine w_icmp_gt_f (tgt := 72) dX10_mean_51 rfl (fun z => absurd ((nI_ltI (a := B) (b := (A + i)) (by omega) (by omega)).mp z) (by omega)) ?_
    refine w_iload dX10_mean_54 rfl ?_
    refine w_aload_n dX10_mean_56 rfl ?_
    refine w_get (v := .ref (m + 18)) fX10_67 (hUs_at nd 0 rfl rfl) rfl dX10_mean_57 ?_
    refine w_iload dX10_mean_60 rfl ?_
    refine w_baloadN (hUs_at nd 2 rfl rfl) (by omega) (by omega) dX10_mean_62 ?_
    refine w_iadd dX10_mean_63 ?_
    refine w_istore (ls2 := [some (.ref m), some (.int (nI A)), some (.int (nI B)), some (.int y), some (.int (x + (fo (A + i)))), some (.int (nI (A + i)))]) dX10_mean_64 (by decide) rfl rfl ?_
    refine w_iinc (v := nI ((A + i) + 1)) (ls2 := [some (.ref m), some (.int (nI A)), some (.int (nI B)), some (.int y), some (.int (x + (fo (A + i)))), some (.int (nI ((A + i) + 1)))]) dX10_mean_66 rfl (nI_1 _) (by decide) rfl rfl ?_
    refine w_goto (tgt := 48) dX10_mean_69 rfl ?_
    exact ih (i + 1) _ (by omega) (by rw [fld, ← e])
set_option maxRecDepth 100000 in
set_option maxHeartbeats 4000000 in
theorem q_mean_n {G : wG} {d : Nat} {h : hH} {Q : Option Value → hH → Prop} {m : Nat} {ft : Nat → Int32} {tp : Nat} {P : pD} {ht : Int32} {i0 i1 : imD} {sd fa pl tr : Int32} {th : Int32}  {a u y : Int32} (hI : mI h m ft tp P ht none i0 i1 sd fa pl tr th)  (k : ∀ h2, mI h2 m ft tp P ht none i0 i1 sd fa (-1) (oMn P (none) a u y).2 0 → mFr m h h2 → Q (some (.int (oMn P (none) a u y).1)) h2) : Cl G yX10_mean (d + 3) 0 0 [.ref m, .int a, .int u, .int y] h Q := by
  refine mI_e hI ?_
  intro sz sp fl tk ta sg nu wd rl rw ah cl gt ln wn fs ff fb fn fp f3 fk fx fy fc fr f1 f2 fi fo fq fh fj fw fz hW hT hPm hG hRm hm0 hm1 hsd hht htp
  have hnL : P.1 ≤ 4096 := Nat.le_trans hG.2.2.1 (by decide)
  have hnW : P.2.1 ≤ 4096 := Nat.le_trans hG.2.2.2 (by decide)
  have hhL : (ht = 0 ∧ P.1 = 0) ∨ ht = 1 := hht.imp (fun z => ⟨z.1, z.2.1⟩) id
  have hhW : (ht = 0 ∧ P.2.1 = 0) ∨ ht = 1 := hht.imp (fun z => ⟨z.1, z.2.2⟩) id
  have hw : hHas h [m, m + 14] [(oC 10 (mF m th tr pl (nI tp) sz sp fa fl tk ta sg nu wd (nI P.1) (nI P.2.1) rl rw ht sd ah cl)), (aI 11 fr)] := hHas_s hW [0, 14] rfl rfl
  have nd : [m, m + 14].Nodup := (nd_inc ⟨by omega, trivial⟩)
  refine Cl.of (ini := false) kX10_mean (plainFor_of_name (by decide)) (by decide) (Nat.le_of_ble_eq_true rfl) rfl rfl (fun z => by cases z) ?_
  refine w_heq (hUs_id hw).symm ?_
  refine w_aload_n dX10_mean_0 rfl ?_
  refine w_iconst (v := 0) dX10_mean_1 (by decide) ?_
  refine w_put (fs' := (mF m 0 tr pl (nI tp) sz sp fa fl tk ta sg nu wd (nI P.1) (nI P.2.1) rl rw ht sd ah cl)) fX10_89 (hUs_at nd 0 rfl rfl) rfl rfl (Nat.le_of_ble_eq_true rfl) rfl dX10_mean_2 ?_
  refine w_heq (hUs_set nd rfl 0 (cs' := [(oC 10 (mF m 0 tr pl (nI tp) sz sp fa fl tk ta sg nu wd (nI P.1) (nI P.2.1) rl rw ht sd ah cl)), (aI 11 fr)]) rfl rfl) ?_
  refine w_aload_n dX10_mean_5 rfl ?_
  refine w_callV (ci := 10) (d' := d + 2) (mc' := 0) (ms' := 0) (As := []) (st := []) lX10_284 vX10_hasRun rfl (hUs_at nd 0 rfl rfl) rfl (Nat.le_of_ble_eq_true rfl) dX10_mean_6 (Nat.le_of_ble_eq_true rfl) (Nat.le_of_ble_eq_true rfl) (Nat.le_refl _) (m_hasRun_n (hHas_sub nd (as' := [m, m + 14]) (cs' := [(oC 10 (mF m 0 tr pl (nI tp) sz sp fa fl tk ta sg nu wd (nI P.1) (nI P.2.1) rl rw ht sd ah cl)), (aI 11 fr)]) [0, 1] rfl rfl) hRm ?_)
  refine w_if_eq_t (tgt := 21) dX10_mean_9 rfl (by decide) ?_
  refine w_aload_n dX10_mean_21 rfl ?_
  refine w_iconst (v := 1) dX10_mean_22 (by decide) ?_
  refine w_callV (ci := 10) (d' := d + 2) (mc' := 0) (ms' := 0) (As := [.int 1]) (st := []) lX10_266 vX10_lost rfl (hUs_at nd 0 rfl rfl) rfl (Nat.le_of_ble_eq_true rfl) dX10_mean_23 (Nat.le_of_ble_eq_true rfl) (Nat.le_of_ble_eq_true rfl) (Nat.le_refl _) (m_lost (hHas_sub nd (as' := [m]) (cs' := [(oC 10 (mF m 0 tr pl (nI tp) sz sp fa fl tk ta sg nu wd (nI P.1) (nI P.2.1) rl rw ht sd ah cl))]) [0] rfl rfl) (nd_sub nd (as' := [m]) [0] rfl rfl)  ?_)
  refine w_heq (hUs_in nd rfl [0] (cs2 := [(oC 10 (mF m 0 1 (-1) (nI tp) sz sp fa fl tk ta sg nu wd (nI P.1) (nI P.2.1) rl rw ht sd ah cl)), (aI 11 fr)]) rfl rfl) ?_
  refine w_ireturn rfl dX10_mean_26 (Nat.le_of_ble_eq_true rfl) (Nat.le_of_ble_eq_true rfl) ?_
  have e : oMn P none a u y = ((-1000000000), 1) := by
    rfl
  rw [e] at k
  exact k _ (mI_i (cI_put hW (mAs_nd m) rfl [0, 14] (cs2 := [(oC 10 (mF m 0 1 (-1) (nI tp) sz sp fa fl tk ta sg nu wd (nI P.1) (nI P.2.1) rl rw ht sd ah cl)), (aI 600 gt), (aL 8 ln), (aL 8 wn), (aI 8 fs), (aI 24 ff), (aI 8 fb), (aI 8 fn), (aI 8 fp), (aZ 8 f3), (aI 64 fk), (aI 64 fx), (aI 64 fy), (aI 64 fc), (aI 11 fr), (aI 11 f1), (aI 11 f2), (aI 22 fi), (aB 4096 fo), (aB 8192 fq), (aZ 2 fh), (aI 2 fj), (aI 4096 fw), (aI 2100 fz)]) rfl rfl) hT hPm hG hRm hm0 hm1 hsd hht htp) (mFr_of (by intro a ha; simp only [List.mem_cons, List.not_mem_nil, or_false] at ha; omega))
set_option maxRecDepth 100000 in
set_option maxHeartbeats 4000000 in
theorem q_mean_s {G : wG} {d : Nat} {h : hH} {Q : Option Value → hH → Prop} {m : Nat} {ft : Nat → Int32} {tp : Nat} {P : pD} {ht : Int32} {i0 i1 : imD} {sd fa pl tr : Int32} {th : Int32}  {l w c : Nat} {rs : Int32} {a u y : Int32} (hI : mI h m ft tp P ht (some (l, w, rs, c)) i0 i1 sd fa pl tr th)  (k : ∀ h2, mI h2 m ft tp P ht (some (l, w, rs, c)) i0 i1 sd fa (-1) (oMn P (some (l, w, rs, c)) a u y).2 0 → mFr m h h2 → Q (some (.int (oMn P (some (l, w, rs, c)) a u y).1)) h2) : Cl G yX10_mean (d + 3) 0 0 [.ref m, .int a, .int u, .int y] h Q := by
  refine mI_e hI ?_
  intro sz sp fl tk ta sg nu wd rl rw ah cl gt ln wn fs ff fb fn fp f3 fk fx fy fc fr f1 f2 fi fo fq fh fj fw fz hW hT hPm hG hRm hm0 hm1 hsd hht htp
  have hnL : P.1 ≤ 4096 := Nat.le_trans hG.2.2.1 (by decide)
  have hnW : P.2.1 ≤ 4096 := Nat.le_trans hG.2.2.2 (by decide)
  have hhL : (ht = 0 ∧ P.1 = 0) ∨ ht = 1 := hht.imp (fun z => ⟨z.1, z.2.1⟩) id
  have hhW : (ht = 0 ∧ P.2.1 = 0) ∨ ht = 1 := hht.imp (fun z => ⟨z.1, z.2.2⟩) id
  obtain ⟨hht1, hok, hsr, hrn, hsz, hfo⟩ : ht = 1 ∧ mRr P (l, w, rs, c) fr fo := id hRm
  have hl : l < P.1 := hok.1
  have hwv9 : w < P.2.1 := hok.2.1
  have hc4 : c ≤ 4096 := hok.2.2
  have hl4 : l < 4 := Nat.lt_of_lt_of_le hl hG.2.2.1
  have hl31 : l < 2 ^ 31 := by omega
  have hLp := hPm.1 l hl
  rw [Nat.zero_add] at hLp
  have hGl := hG.1 l hl
  have hrc : fr 2 = nI c := hrn.2.2.1
  rw [show oMn P (some (l, w, rs, c)) a u y = oMnF fo c a u y from (oMnF_c hfo hc4 a u y).symm] at k
  have hw : hHas h [m, m + 14, m + 18] [(oC 10 (mF m th tr pl (nI tp) sz sp fa fl tk ta sg nu wd (nI P.1) (nI P.2.1) rl rw ht sd ah cl)), (aI 11 fr), (aB 4096 fo)] := hHas_s hW [0, 14, 18] rfl rfl
  have nd : [m, m + 14, m + 18].Nodup := (nd_inc ⟨by omega, by omega, trivial⟩)
  refine Cl.of (ini := false) kX10_mean (plainFor_of_name (by decide)) (by decide) (Nat.le_of_ble_eq_true rfl) rfl rfl (fun z => by cases z) ?_
  refine w_heq (hUs_id hw).symm ?_
  refine w_aload_n dX10_mean_0 rfl ?_
  refine w_iconst (v := 0) dX10_mean_1 (by decide) ?_
  refine w_put (fs' := (mF m 0 tr pl (nI tp) sz sp fa fl tk ta sg nu wd (nI P.1) (nI P.2.1) rl rw ht sd ah cl)) fX10_89 (hUs_at nd 0 rfl rfl) rfl rfl (Nat.le_of_ble_eq_true rfl) rfl dX10_mean_2 ?_
  refine w_heq (hUs_set nd rfl 0 (cs' := [(oC 10 (mF m 0 tr pl (nI tp) sz sp fa fl tk ta sg nu wd (nI P.1) (nI P.2.1) rl rw ht sd ah cl)), (aI 11 fr), (aB 4096 fo)]) rfl rfl) ?_
  refine w_aload_n dX10_mean_5 rfl ?_
  refine w_callV (ci := 10) (d' := d + 2) (mc' := 0) (ms' := 0) (As := []) (st := []) lX10_284 vX10_hasRun rfl (hUs_at nd 0 rfl rfl) rfl (Nat.le_of_ble_eq_true rfl) dX10_mean_6 (Nat.le_of_ble_eq_true rfl) (Nat.le_of_ble_eq_true rfl) (Nat.le_refl _) (m_hasRun_s (hHas_sub nd (as' := [m, m + 14]) (cs' := [(oC 10 (mF m 0 tr pl (nI tp) sz sp fa fl tk ta sg nu wd (nI P.1) (nI P.2.1) rl rw ht sd ah cl)), (aI 11 fr)]) [0, 1] rfl rfl) hht1 hrn.1 hl31 ?_)
  refine w_if_eq_f (tgt := 21) dX10_mean_9 rfl (by decide) ?_
  refine w_iload_n dX10_mean_12 rfl ?_
  refine w_iconst (v := 0) dX10_mean_13 (by decide) ?_
  refine w_iconst (v := 1) dX10_mean_14 (by decide) ?_
  refine w_callS (d' := d + 2) (mc' := 0) (ms' := 0) (As := [.int y, .int 0, .int 1]) (st := []) lX10_111 vX10_in rfl (Nat.le_of_ble_eq_true rfl) dX10_mean_15 (Nat.le_of_ble_eq_true rfl) (Nat.le_of_ble_eq_true rfl) (Nat.le_refl _) (c_in ?_)
  refine w_if_ne (tgt := 27) dX10_mean_18 rfl (fun b18 => ?_) (fun b18 => ?_)
  · refine w_aload_n dX10_mean_27 rfl ?_
    refine w_iload_n dX10_mean_28 rfl ?_
    refine w_iload_n dX10_mean_29 rfl ?_
    refine w_callV (ci := 10) (d' := d + 2) (mc' := 0) (ms' := 0) (As := [.int a, .int u]) (st := []) lX10_297 vX10_isStretch rfl (hUs_at nd 0 rfl rfl) rfl (Nat.le_of_ble_eq_true rfl) dX10_mean_30 (Nat.le_of_ble_eq_true rfl) (Nat.le_of_ble_eq_true rfl) (Nat.le_refl _) (m_isStretch (hHas_sub nd (as' := [m, m + 14]) (cs' := [(oC 10 (mF m 0 tr pl (nI tp) sz sp fa fl tk ta sg nu wd (nI P.1) (nI P.2.1) rl rw ht sd ah cl)), (aI 11 fr)]) [0, 1] rfl rfl) hrc hc4 ?_)
    refine w_if_ne (tgt := 42) dX10_mean_33 rfl (fun b33 => ?_) (fun b33 => ?_)
    · obtain ⟨A, B, hA, hB, rfl, rfl⟩ := hasS_n b33 hc4
      have hAc : tN (nI A) = A := nI_clamp (by omega)
      have hBc : tN (nI B) = B := nI_clamp (by omega)
      refine w_iconst (v := 0) dX10_mean_42 (by decide) ?_
      refine w_istore (ls2 := [some (.ref m), some (.int (nI A)), some (.int (nI B)), some (.int y), some (.int 0), none]) dX10_mean_43 (by decide) rfl rfl ?_
      refine w_iload_n dX10_mean_45 rfl ?_
      refine w_istore (ls2 := [some (.ref m), some (.int (nI A)), some (.int (nI B)), some (.int y), some (.int 0), some (.int (nI A))]) dX10_mean_46 (by decide) rfl rfl ?_
      refine lq_mean nd hA (by omega) ?_ (B + 1 - A) 0 0 (by omega) rfl
      obtain ⟨s9, hs8, hs9⟩ : ∃ s, s ≤ 4096 ∧ abI (fld (fun t s => s + fo t) A (B + 1 - A) 0) = nI s := by
        obtain ⟨z, z1, z2, z3⟩ := ab_sum (F := fo) A (B + 1 - A) (by omega) (fun t h1 h2 => by rw [hfo t (show t < c by omega)]; exact rO_in _ _)
        obtain ⟨s, s1, s2⟩ := ab_nat (n := B + 1 - A) (by omega) (by omega) (show (fld (fun t s => s + fo t) A (B + 1 - A) 0).toInt ≤ _ by omega)
        exact ⟨s, by omega, s2⟩
      have hg0 : 0 < Nat.gcd s9 (B - A + 1) := Nat.gcd_pos_of_pos_right _ (by omega)
      have hg1 : Nat.gcd s9 (B - A + 1) ≤ B - A + 1 := Nat.gcd_le_right _ (by omega)
      refine w_iload dX10_mean_72 rfl ?_
      refine w_iload_n dX10_mean_74 rfl ?_
      refine w_iload_n dX10_mean_75 rfl ?_
      refine w_isubE (z := nI (B - A)) dX10_mean_76 (pk_sub (a := B) (b := A) (by omega)) ?_
      refine w_iconst (v := 1) dX10_mean_77 (by decide) ?_
      refine w_iaddE (z := nI ((B - A) + 1)) dX10_mean_78 (nI_add ((B - A)) (1)) ?_
      refine w_callS (d' := d + 2) (mc' := 0) (ms' := 0) (As := [.int (fld (fun t s => s + fo t) A (B + 1 - A) 0), .int (nI ((B - A) + 1))]) (st := []) lX10_301 vX10_common rfl (Nat.le_of_ble_eq_true rfl) dX10_mean_79 (Nat.le_of_ble_eq_true rfl) (Nat.le_of_ble_eq_true rfl) (Nat.le_refl _) (m_common (s := s9) hs9 (by omega) (by omega) ?_)
      refine w_istore (ls2 := [some (.ref m), some (.int (nI A)), some (.int (nI B)), some (.int y), some (.int (fld (fun t s => s + fo t) A (B + 1 - A) 0)), some (.int (nI (Nat.gcd s9 (B - A + 1))))]) dX10_mean_82 (by decide) rfl rfl ?_
      refine w_aload_n dX10_mean_84 rfl ?_
      refine w_iload_n dX10_mean_85 rfl ?_
      refine w_if_ne (tgt := 97) dX10_mean_86 rfl (fun b86 => ?_) (fun b86 => ?_)
      · refine w_iload_n dX10_mean_97 rfl ?_
        refine w_iload_n dX10_mean_98 rfl ?_
        refine w_isubE (z := nI (B - A)) dX10_mean_99 (pk_sub (a := B) (b := A) (by omega)) ?_
        refine w_iconst (v := 1) dX10_mean_100 (by decide) ?_
        refine w_iaddE (z := nI ((B - A) + 1)) dX10_mean_101 (nI_add ((B - A)) (1)) ?_
        refine w_iload dX10_mean_102 rfl ?_
        refine w_idiv dX10_mean_104 (nI_ne0 hg0 (by omega)) ?_
        refine w_callV (ci := 10) (d' := d + 2) (mc' := 0) (ms' := 0) (As := [.int ((nI ((B - A) + 1)) / (nI (Nat.gcd s9 (B - A + 1))))]) (st := []) lX10_241 vX10_good rfl (hUs_at nd 0 rfl rfl) rfl (Nat.le_of_ble_eq_true rfl) dX10_mean_105 (Nat.le_of_ble_eq_true rfl) (Nat.le_of_ble_eq_true rfl) (Nat.le_refl _) (m_good (hHas_sub nd (as' := [m]) (cs' := [(oC 10 (mF m 0 tr pl (nI tp) sz sp fa fl tk ta sg nu wd (nI P.1) (nI P.2.1) rl rw ht sd ah cl))]) [0] rfl rfl) (nd_sub nd (as' := [m]) [0] rfl rfl)  ?_)
        refine w_heq (hUs_in nd rfl [0] (cs2 := [(oC 10 (mF m 0 0 (-1) (nI tp) sz sp fa fl tk ta sg nu wd (nI P.1) (nI P.2.1) rl rw ht sd ah cl)), (aI 11 fr), (aB 4096 fo)]) rfl rfl) ?_
        refine w_ireturn rfl dX10_mean_108 (Nat.le_of_ble_eq_true rfl) (Nat.le_of_ble_eq_true rfl) ?_
        have e : oMnF fo c (nI A) (nI B) y = ((nI ((B - A) + 1)) / (nI (Nat.gcd s9 (B - A + 1))), 0) := by
          simp only [oMnF]
          rw [if_neg (fun z => z.elim (fun z => absurd (inB_1 b18).1 (Int32.not_le.mpr z)) (fun z => absurd (inB_1 b18).2 (Int32.not_le.mpr z))), if_neg b33, hAc, hBc, hs9, pk_sub hA, nI_1, gd_gcd 13 64 (B - A + 1) s9 (by decide) (by omega) (by omega) (by omega), mx1 hg0 (by omega), if_neg b86]
        rw [e] at k
        exact k _ (mI_i (cI_put hW (mAs_nd m) rfl [0, 14, 18] (cs2 := [(oC 10 (mF m 0 0 (-1) (nI tp) sz sp fa fl tk ta sg nu wd (nI P.1) (nI P.2.1) rl rw ht sd ah cl)), (aI 600 gt), (aL 8 ln), (aL 8 wn), (aI 8 fs), (aI 24 ff), (aI 8 fb), (aI 8 fn), (aI 8 fp), (aZ 8 f3), (aI 64 fk), (aI 64 fx), (aI 64 fy), (aI 64 fc), (aI 11 fr), (aI 11 f1), (aI 11 f2), (aI 22 fi), (aB 4096 fo), (aB 8192 fq), (aZ 2 fh), (aI 2 fj), (aI 4096 fw), (aI 2100 fz)]) rfl rfl) hT hPm hG hRm hm0 hm1 hsd hht htp) (mFr_of (by intro a ha; simp only [List.mem_cons, List.not_mem_nil, or_false] at ha; omega))
      · refine w_iload dX10_mean_89 rfl ?_
        refine w_iload dX10_mean_91 rfl ?_
        refine w_idiv dX10_mean_93 (nI_ne0 hg0 (by omega)) ?_
        refine w_goto (tgt := 105) dX10_mean_94 rfl ?_
        refine w_callV (ci := 10) (d' := d + 2) (mc' := 0) (ms' := 0) (As := [.int ((fld (fun t s => s + fo t) A (B + 1 - A) 0) / (nI (Nat.gcd s9 (B - A + 1))))]) (st := []) lX10_241 vX10_good rfl (hUs_at nd 0 rfl rfl) rfl (Nat.le_of_ble_eq_true rfl) dX10_mean_105 (Nat.le_of_ble_eq_true rfl) (Nat.le_of_ble_eq_true rfl) (Nat.le_refl _) (m_good (hHas_sub nd (as' := [m]) (cs' := [(oC 10 (mF m 0 tr pl (nI tp) sz sp fa fl tk ta sg nu wd (nI P.1) (nI P.2.1) rl rw ht sd ah cl))]) [0] rfl rfl) (nd_sub nd (as' := [m]) [0] rfl rfl)  ?_)
        refine w_heq (hUs_in nd rfl [0] (cs2 := [(oC 10 (mF m 0 0 (-1) (nI tp) sz sp fa fl tk ta sg nu wd (nI P.1) (nI P.2.1) rl rw ht sd ah cl)), (aI 11 fr), (aB 4096 fo)]) rfl rfl) ?_
        refine w_ireturn rfl dX10_mean_108 (Nat.le_of_ble_eq_true rfl) (Nat.le_of_ble_eq_true rfl) ?_
        have e : oMnF fo c (nI A) (nI B) y = ((fld (fun t s => s + fo t) A (B + 1 - A) 0) / (nI (Nat.gcd s9 (B - A + 1))), 0) := by
          simp only [oMnF]
          rw [if_neg (fun z => z.elim (fun z => absurd (inB_1 b18).1 (Int32.not_le.mpr z)) (fun z => absurd (inB_1 b18).2 (Int32.not_le.mpr z))), if_neg b33, hAc, hBc, hs9, pk_sub hA, nI_1, gd_gcd 13 64 (B - A + 1) s9 (by decide) (by omega) (by omega) (by omega), mx1 hg0 (by omega), if_pos b86]
        rw [e] at k
        exact k _ (mI_i (cI_put hW (mAs_nd m) rfl [0, 14, 18] (cs2 := [(oC 10 (mF m 0 0 (-1) (nI tp) sz sp fa fl tk ta sg nu wd (nI P.1) (nI P.2.1) rl rw ht sd ah cl)), (aI 600 gt), (aL 8 ln), (aL 8 wn), (aI 8 fs), (aI 24 ff), (aI 8 fb), (aI 8 fn), (aI 8 fp), (aZ 8 f3), (aI 64 fk), (aI 64 fx), (aI 64 fy), (aI 64 fc), (aI 11 fr), (aI 11 f1), (aI 11 f2), (aI 22 fi), (aB 4096 fo), (aB 8192 fq), (aZ 2 fh), (aI 2 fj), (aI 4096 fw), (aI 2100 fz)]) rfl rfl) hT hPm hG hRm hm0 hm1 hsd hht htp) (mFr_of (by intro a ha; simp only [List.mem_cons, List.not_mem_nil, or_false] at ha; omega))
    · refine w_aload_n dX10_mean_36 rfl ?_
      refine w_iconst (v := 2) dX10_mean_37 (by decide) ?_
      refine w_callV (ci := 10) (d' := d + 2) (mc' := 0) (ms' := 0) (As := [.int 2]) (st := []) lX10_266 vX10_lost rfl (hUs_at nd 0 rfl rfl) rfl (Nat.le_of_ble_eq_true rfl) dX10_mean_38 (Nat.le_of_ble_eq_true rfl) (Nat.le_of_ble_eq_true rfl) (Nat.le_refl _) (m_lost (hHas_sub nd (as' := [m]) (cs' := [(oC 10 (mF m 0 tr pl (nI tp) sz sp fa fl tk ta sg nu wd (nI P.1) (nI P.2.1) rl rw ht sd ah cl))]) [0] rfl rfl) (nd_sub nd (as' := [m]) [0] rfl rfl)  ?_)
      refine w_heq (hUs_in nd rfl [0] (cs2 := [(oC 10 (mF m 0 2 (-1) (nI tp) sz sp fa fl tk ta sg nu wd (nI P.1) (nI P.2.1) rl rw ht sd ah cl)), (aI 11 fr), (aB 4096 fo)]) rfl rfl) ?_
      refine w_ireturn rfl dX10_mean_41 (Nat.le_of_ble_eq_true rfl) (Nat.le_of_ble_eq_true rfl) ?_
      have e : oMnF fo c a u y = ((-1000000000), 2) := by
        simp only [oMnF]
        rw [if_neg (fun z => z.elim (fun z => absurd (inB_1 b18).1 (Int32.not_le.mpr z)) (fun z => absurd (inB_1 b18).2 (Int32.not_le.mpr z))), if_pos b33]
      rw [e] at k
      exact k _ (mI_i (cI_put hW (mAs_nd m) rfl [0, 14, 18] (cs2 := [(oC 10 (mF m 0 2 (-1) (nI tp) sz sp fa fl tk ta sg nu wd (nI P.1) (nI P.2.1) rl rw ht sd ah cl)), (aI 600 gt), (aL 8 ln), (aL 8 wn), (aI 8 fs), (aI 24 ff), (aI 8 fb), (aI 8 fn), (aI 8 fp), (aZ 8 f3), (aI 64 fk), (aI 64 fx), (aI 64 fy), (aI 64 fc), (aI 11 fr), (aI 11 f1), (aI 11 f2), (aI 22 fi), (aB 4096 fo), (aB 8192 fq), (aZ 2 fh), (aI 2 fj), (aI 4096 fw), (aI 2100 fz)]) rfl rfl) hT hPm hG hRm hm0 hm1 hsd hht htp) (mFr_of (by intro a ha; simp only [List.mem_cons, List.not_mem_nil, or_false] at ha; omega))
  · refine w_aload_n dX10_mean_21 rfl ?_
    refine w_iconst (v := 1) dX10_mean_22 (by decide) ?_
    refine w_callV (ci := 10) (d' := d + 2) (mc' := 0) (ms' := 0) (As := [.int 1]) (st := []) lX10_266 vX10_lost rfl (hUs_at nd 0 rfl rfl) rfl (Nat.le_of_ble_eq_true rfl) dX10_mean_23 (Nat.le_of_ble_eq_true rfl) (Nat.le_of_ble_eq_true rfl) (Nat.le_refl _) (m_lost (hHas_sub nd (as' := [m]) (cs' := [(oC 10 (mF m 0 tr pl (nI tp) sz sp fa fl tk ta sg nu wd (nI P.1) (nI P.2.1) rl rw ht sd ah cl))]) [0] rfl rfl) (nd_sub nd (as' := [m]) [0] rfl rfl)  ?_)
    refine w_heq (hUs_in nd rfl [0] (cs2 := [(oC 10 (mF m 0 1 (-1) (nI tp) sz sp fa fl tk ta sg nu wd (nI P.1) (nI P.2.1) rl rw ht sd ah cl)), (aI 11 fr), (aB 4096 fo)]) rfl rfl) ?_
    refine w_ireturn rfl dX10_mean_26 (Nat.le_of_ble_eq_true rfl) (Nat.le_of_ble_eq_true rfl) ?_
    have e : oMnF fo c a u y = ((-1000000000), 1) := by
      simp only [oMnF]
      exact if_pos (inB_0 b18)
    rw [e] at k
    exact k _ (mI_i (cI_put hW (mAs_nd m) rfl [0, 14, 18] (cs2 := [(oC 10 (mF m 0 1 (-1) (nI tp) sz sp fa fl tk ta sg nu wd (nI P.1) (nI P.2.1) rl rw ht sd ah cl)), (aI 600 gt), (aL 8 ln), (aL 8 wn), (aI 8 fs), (aI 24 ff), (aI 8 fb), (aI 8 fn), (aI 8 fp), (aZ 8 f3), (aI 64 fk), (aI 64 fx), (aI 64 fy), (aI 64 fc), (aI 11 fr), (aI 11 f1), (aI 11 f2), (aI 22 fi), (aB 4096 fo), (aB 8192 fq), (aZ 2 fh), (aI 2 fj), (aI 4096 fw), (aI 2100 fz)]) rfl rfl) hT hPm hG hRm hm0 hm1 hsd hht htp) (mFr_of (by intro a ha; simp only [List.mem_cons, List.not_mem_nil, or_false] at ha; omega))
theorem q_mean {G : wG} {d : Nat} {h : hH} {Q : Option Value → hH → Prop} {m : Nat} {ft : Nat → Int32} {tp : Nat} {P : pD} {ht : Int32} {R : Option rnD} {i0 i1 : imD} {sd fa pl tr : Int32} {th : Int32}  {a u y : Int32} (hI : mI h m ft tp P ht R i0 i1 sd fa pl tr th) (k : ∀ h2, mI h2 m ft tp P ht R i0 i1 sd fa (-1) (oMn P (R) a u y).2 0 → mFr m h h2 → Q (some (.int (oMn P (R) a u y).1)) h2) : Cl G yX10_mean (d + 3) 0 0 [.ref m, .int a, .int u, .int y] h Q := by
  cases R with
  | none => exact q_mean_n hI k
  | some r => obtain ⟨l, w, rs, c⟩ := r; exact q_mean_s hI k
theorem smN_2 {M Y c : Nat} (hY : 2 ≤ Y) : 2 * smN M Y c ≤ c + 1 := by
  unfold smN
  by_cases e : M * (Y - 1) < c
  · rw [if_pos e]
    have h2 : (c - 1 - M * (Y - 1)) / Y ≤ (c - 1 - M * (Y - 1)) / 2 := Nat.div_le_div_left hY (by decide)
    omega
  · rw [if_neg e]; omega
set_option maxRecDepth 100000 in
set_option maxHeartbeats 4000000 in
theorem lq_worst1 {G : wG} {d : Nat} {h : hH} {Q : Option Value → hH → Prop} {m tp : Nat} {P : pD} {ht sd fa pl tr sz sp fl tk ta sg nu : Int32} {wd : Int64} {rl rw ah cl : Int32} {fp : Nat → Int32} {fk : Nat → Int32} {fx : Nat → Int32} {fy : Nat → Int32} {fc : Nat → Int32} {fr : Nat → Int32} {fo : Nat → Int32} {fw : Nat → Int32} {fz : Nat → Int32} {q : Int32} {M Y c : Nat} (nd : [m, m + 8, m + 10, m + 11, m + 12, m + 13, m + 14, m + 18, m + 22, m + 23].Nodup) (hc4 : c ≤ 4096) (hY : 2 ≤ Y) (hg : ∀ s, s + M * (Y - 1) < c → fw s = lay fo Y M s) (k : ∀ fz : Nat → Int32, (∀ j, j < smN M Y c → fz j = lay fo Y M (j * Y)) → WP G RX10 cX10_worst 8 (some .int) false (d + 4) 0 0 0 0 Q 80 [some (.ref m), some (.int (nI M)), some (.int (nI Y)), some (.int q), some (.int (nI (smN M Y c))), none, none, none] [] (hUs h [m, m + 8, m + 10, m + 11, m + 12, m + 13, m + 14, m + 18, m + 22, m + 23] [(oC 10 (mF m 0 tr pl (nI tp) sz sp fa fl tk ta sg nu wd (nI P.1) (nI P.2.1) rl rw ht sd ah cl)), (aI 8 fp), (aI 64 fk), (aI 64 fx), (aI 64 fy), (aI 64 fc), (aI 11 fr), (aB 4096 fo), (aI 4096 fw), (aI 2100 fz)])) : ∀ (n : Nat) (i : Nat) (fz : Nat → Int32), i + n = smN M Y c → (∀ j, j < i → fz j = lay fo Y M (j * Y)) → WP G RX10 cX10_worst 8 (some .int) false (d + 4) 0 0 0 0 Q 51 [some (.ref m), some (.int (nI M)), some (.int (nI Y)), some (.int q), some (.int (nI (smN M Y c))), some (.int (nI i)), none, none] [] (hUs h [m, m + 8, m + 10, m + 11, m + 12, m + 13, m + 14, m + 18, m + 22, m + 23] [(oC 10 (mF m 0 tr pl (nI tp) sz sp fa fl tk ta sg nu wd (nI P.1) (nI P.2.1) rl rw ht sd ah cl)), (aI 8 fp), (aI 64 fk), (aI 64 fx), (aI 64 fy), (aI 64 fc), (aI 11 fr), (aB 4096 fo), (aI 4096 fw), (aI 2100 fz)]) := by
  intro n
  induction n with
  | zero =>
    intro i fz hi hf
    have hsl := smN_le (M := M) (c := c) hY
    refine w_iload dX10_worst_51 rfl ?_
    refine w_iload dX10_worst_53 rfl ?_
    refine w_icmp_ge_t (tgt := 80) dX10_worst_55 rfl ((nI_leI (a := (smN M Y c)) (b := i) (by omega) (by omega)).mpr (by omega)) ?_
    refine w_less (ls2 := [some (.ref m), some (.int (nI M)), some (.int (nI Y)), some (.int q), some (.int (nI (smN M Y c))), none, none, none]) ⟨Or.inr rfl, Or.inr rfl, Or.inr rfl, Or.inr rfl, Or.inr rfl, Or.inl rfl, Or.inl rfl, Or.inl rfl, trivial⟩ ?_
    exact k fz (fun j hj => hf j (by omega))
  | succ n ih =>
    intro i fz hi hf
    have hfit := smN_fit (M := M) (Y := Y) (c := c) (i := i) (by omega)
    have hsl := smN_le (M := M) (c := c) hY
    have hs2 : 2 * smN M Y c ≤ c + 1 := smN_2 hY
    refine w_iload dX10_worst_51 rfl ?_
    refine w_iload dX10_worst_53 rfl ?_
    refine w_icmp_ge_f (tgt := 80) dX10_worst_55 rfl (fun z => absurd ((nI_leI (a := (smN M Y c)) (b := i) (by omega) (by omega)).mp z) (by omega)) ?_
    refine w_aload_n dX10_worst_58 rfl ?_
    refine w_get (v := .ref (m + 23)) fX10_86 (hUs_at nd 0 rfl rfl) rfl dX10_worst_59 ?_
    refine w_iload dX10_worst_62 rfl ?_
    refine w_aload_n dX10_worst_64 rfl ?_
    refine w_get (v := .ref (m + 22)) fX10_83 (hUs_at nd 0 rfl rfl) rfl dX10_worst_65 ?_
    refine w_iload dX10_worst_68 rfl ?_
    refine w_iload_n dX10_worst_70 rfl ?_
    refine w_imulE (z := nI (i * Y)) dX10_worst_71 (pk_mul (i) (Y)) ?_
    refine w_ialoadN (hUs_at nd 8 rfl rfl) (by omega) (by omega) dX10_worst_72 ?_
    refine w_iastoreN (hUs_at nd 9 rfl rfl) (by omega) (by omega) dX10_worst_73 ?_
    refine w_heq (hUs_set nd rfl 9 (cs' := [(oC 10 (mF m 0 tr pl (nI tp) sz sp fa fl tk ta sg nu wd (nI P.1) (nI P.2.1) rl rw ht sd ah cl)), (aI 8 fp), (aI 64 fk), (aI 64 fx), (aI 64 fy), (aI 64 fc), (aI 11 fr), (aB 4096 fo), (aI 4096 fw), (aI 2100 (upd fz i (fw (i * Y))))]) rfl rfl) ?_
    refine w_iinc (v := nI (i + 1)) (ls2 := [some (.ref m), some (.int (nI M)), some (.int (nI Y)), some (.int q), some (.int (nI (smN M Y c))), some (.int (nI (i + 1))), none, none]) dX10_worst_74 rfl (nI_1 _) (by decide) rfl rfl ?_
    refine w_goto (tgt := 51) dX10_worst_77 rfl ?_
    exact ih (i + 1) _ (by omega) (fun j hj => by
      by_cases e : j = i
      · subst e; rw [pk_us]; exact hg _ (by omega)
      · rw [pk_un e]; exact hf j (by omega))
set_option maxRecDepth 100000 in
set_option maxHeartbeats 4000000 in
theorem lq_worst2 {G : wG} {d : Nat} {h : hH} {Q : Option Value → hH → Prop} {m tp : Nat} {P : pD} {ht sd fa pl tr sz sp fl tk ta sg nu : Int32} {wd : Int64} {rl rw ah cl : Int32} {fp : Nat → Int32} {fk : Nat → Int32} {fx : Nat → Int32} {fy : Nat → Int32} {fc : Nat → Int32} {fr : Nat → Int32} {fo : Nat → Int32} {fw : Nat → Int32} {fz : Nat → Int32} {q : Int32} {M Y c w : Nat} (nd : [m, m + 8, m + 10, m + 11, m + 12, m + 13, m + 14, m + 18, m + 22, m + 23].Nodup) (hc4 : c ≤ 4096) (hY : 2 ≤ Y) (hz : ∀ j, j < smN M Y c → fz j = lay fo Y M (j * Y)) (hg : ∀ s, s + M * (Y - 1) < c → fw s = lay (fun t => lvlT (P.2.2.2 w).2 (nI t)) Y M s) (k : WP G RX10 cX10_worst 8 (some .int) false (d + 4) 0 0 0 0 Q 148 [some (.ref m), some (.int (nI M)), some (.int (nI Y)), some (.int q), some (.int (nI (smN M Y c))), some (.int (woF (fun t => 1000 * fo t - lvlT (P.2.2.2 w).2 (nI t)) M Y c)), none, none] [] (hUs h [m, m + 8, m + 10, m + 11, m + 12, m + 13, m + 14, m + 18, m + 22, m + 23] [(oC 10 (mF m 0 tr pl (nI tp) sz sp fa fl tk ta sg nu wd (nI P.1) (nI P.2.1) rl rw ht sd ah cl)), (aI 8 fp), (aI 64 fk), (aI 64 fx), (aI 64 fy), (aI 64 fc), (aI 11 fr), (aB 4096 fo), (aI 4096 fw), (aI 2100 fz)])) : ∀ (n : Nat) (i : Nat) (x : Int32), i + n = smN M Y c → x = fld (fun i s => mxI s (abI (wsF (fun t => 1000 * fo t - lvlT (P.2.2.2 w).2 (nI t)) M Y i))) 0 i 0 → WP G RX10 cX10_worst 8 (some .int) false (d + 4) 0 0 0 0 Q 93 [some (.ref m), some (.int (nI M)), some (.int (nI Y)), some (.int q), some (.int (nI (smN M Y c))), some (.int x), some (.int (nI i)), none] [] (hUs h [m, m + 8, m + 10, m + 11, m + 12, m + 13, m + 14, m + 18, m + 22, m + 23] [(oC 10 (mF m 0 tr pl (nI tp) sz sp fa fl tk ta sg nu wd (nI P.1) (nI P.2.1) rl rw ht sd ah cl)), (aI 8 fp), (aI 64 fk), (aI 64 fx), (aI 64 fy), (aI 64 fc), (aI 11 fr), (aB 4096 fo), (aI 4096 fw), (aI 2100 fz)]) := by
  intro n
  induction n with
  | zero =>
    intro i x hi e
    have hsl := smN_le (M := M) (c := c) hY
    refine w_iload dX10_worst_93 rfl ?_
    refine w_iload dX10_worst_95 rfl ?_
    refine w_icmp_ge_t (tgt := 148) dX10_worst_97 rfl ((nI_leI (a := (smN M Y c)) (b := i) (by omega) (by omega)).mpr (by omega)) ?_
    refine w_less (ls2 := [some (.ref m), some (.int (nI M)), some (.int (nI Y)), some (.int q), some (.int (nI (smN M Y c))), some (.int x), none, none]) ⟨Or.inr rfl, Or.inr rfl, Or.inr rfl, Or.inr rfl, Or.inr rfl, Or.inr rfl, Or.inl rfl, Or.inl rfl, trivial⟩ ?_
    have z : i = smN M Y c := by omega
    have e2 : woF (fun t => 1000 * fo t - lvlT (P.2.2.2 w).2 (nI t)) M Y c = x := by rw [e, z]; rfl
    rw [e2] at k
    exact k
  | succ n ih =>
    intro i x hi e
    have hfit := smN_fit (M := M) (Y := Y) (c := c) (i := i) (by omega)
    have hsl := smN_le (M := M) (c := c) hY
    have hs2 : 2 * smN M Y c ≤ c + 1 := smN_2 hY
    refine w_iload dX10_worst_93 rfl ?_
    refine w_iload dX10_worst_95 rfl ?_
    refine w_icmp_ge_f (tgt := 148) dX10_worst_97 rfl (fun z => absurd ((nI_leI (a := (smN M Y c)) (b := i) (by omega) (by omega)).mp z) (by omega)) ?_
    refine w_sipush (v := 1000) dX10_worst_100 (by decide) ?_
    refine w_aload_n dX10_worst_103 rfl ?_
    refine w_get (v := .ref (m + 23)) fX10_86 (hUs_at nd 0 rfl rfl) rfl dX10_worst_104 ?_
    refine w_iload dX10_worst_107 rfl ?_
    refine w_ialoadN (hUs_at nd 9 rfl rfl) (by omega) (by omega) dX10_worst_109 ?_
    refine w_imul dX10_worst_110 ?_
    refine w_aload_n dX10_worst_111 rfl ?_
    refine w_get (v := .ref (m + 22)) fX10_83 (hUs_at nd 0 rfl rfl) rfl dX10_worst_112 ?_
    refine w_iload dX10_worst_115 rfl ?_
    refine w_iload_n dX10_worst_117 rfl ?_
    refine w_imulE (z := nI (i * Y)) dX10_worst_118 (pk_mul (i) (Y)) ?_
    refine w_ialoadN (hUs_at nd 8 rfl rfl) (by omega) (by omega) dX10_worst_119 ?_
    refine w_isub dX10_worst_120 ?_
    refine w_callS (d' := d + 3) (mc' := 0) (ms' := 0) (As := [.int ((1000 * (fz i)) - (fw (i * Y)))]) (st := []) lX10_273 vX10_without rfl (Nat.le_of_ble_eq_true rfl) dX10_worst_121 (Nat.le_of_ble_eq_true rfl) (Nat.le_of_ble_eq_true rfl) (Nat.le_refl _) (c_without ?_)
    refine w_istore (ls2 := [some (.ref m), some (.int (nI M)), some (.int (nI Y)), some (.int q), some (.int (nI (smN M Y c))), some (.int x), some (.int (nI i)), some (.int (abI ((1000 * (fz i)) - (fw (i * Y)))))]) dX10_worst_124 (by decide) rfl rfl ?_
    refine w_iload dX10_worst_126 rfl ?_
    refine w_iload dX10_worst_128 rfl ?_
    refine w_icmp_le (tgt := 138) dX10_worst_130 rfl (fun b130 => ?_) (fun b130 => ?_)
    · refine w_iload dX10_worst_138 rfl ?_
      refine w_istore (ls2 := [some (.ref m), some (.int (nI M)), some (.int (nI Y)), some (.int q), some (.int (nI (smN M Y c))), some (.int x), some (.int (nI i)), some (.int (abI ((1000 * (fz i)) - (fw (i * Y)))))]) dX10_worst_140 (by decide) rfl rfl ?_
      refine w_iinc (v := nI (i + 1)) (ls2 := [some (.ref m), some (.int (nI M)), some (.int (nI Y)), some (.int q), some (.int (nI (smN M Y c))), some (.int x), some (.int (nI (i + 1))), some (.int (abI ((1000 * (fz i)) - (fw (i * Y)))))]) dX10_worst_142 rfl (nI_1 _) (by decide) rfl rfl ?_
      refine w_goto (tgt := 93) dX10_worst_145 rfl ?_
      refine w_less (ls2 := [some (.ref m), some (.int (nI M)), some (.int (nI Y)), some (.int q), some (.int (nI (smN M Y c))), some (.int x), some (.int (nI (i + 1))), none]) ⟨Or.inr rfl, Or.inr rfl, Or.inr rfl, Or.inr rfl, Or.inr rfl, Or.inr rfl, Or.inr rfl, Or.inl rfl, trivial⟩ ?_
      have ew : wsF (fun t => 1000 * fo t - lvlT (P.2.2.2 w).2 (nI t)) M Y i = 1000 * fz i - fw (i * Y) := by
        rw [ws_lay _ hY, lay_lin, hz i (by omega), hg _ (by omega)]
      exact ih (i + 1) _ (by omega) (by rw [fld, ← e, Nat.zero_add]; simp only [ew, mxI, if_neg (Int32.not_lt.mpr b130)])
    · refine w_iload dX10_worst_133 rfl ?_
      refine w_goto (tgt := 140) dX10_worst_135 rfl ?_
      refine w_istore (ls2 := [some (.ref m), some (.int (nI M)), some (.int (nI Y)), some (.int q), some (.int (nI (smN M Y c))), some (.int (abI ((1000 * (fz i)) - (fw (i * Y))))), some (.int (nI i)), some (.int (abI ((1000 * (fz i)) - (fw (i * Y)))))]) dX10_worst_140 (by decide) rfl rfl ?_
      refine w_iinc (v := nI (i + 1)) (ls2 := [some (.ref m), some (.int (nI M)), some (.int (nI Y)), some (.int q), some (.int (nI (smN M Y c))), some (.int (abI ((1000 * (fz i)) - (fw (i * Y))))), some (.int (nI (i + 1))), some (.int (abI ((1000 * (fz i)) - (fw (i * Y)))))]) dX10_worst_142 rfl (nI_1 _) (by decide) rfl rfl ?_
      refine w_goto (tgt := 93) dX10_worst_145 rfl ?_
      refine w_less (ls2 := [some (.ref m), some (.int (nI M)), some (.int (nI Y)), some (.int q), some (.int (nI (smN M Y c))), some (.int (abI ((1000 * (fz i)) - (fw (i * Y))))), some (.int (nI (i + 1))), none]) ⟨Or.inr rfl, Or.inr rfl, Or.inr rfl, Or.inr rfl, Or.inr rfl, Or.inr rfl, Or.inr rfl, Or.inl rfl, trivial⟩ ?_
      have ew : wsF (fun t => 1000 * fo t - lvlT (P.2.2.2 w).2 (nI t)) M Y i = 1000 * fz i - fw (i * Y) := by
        rw [ws_lay _ hY, lay_lin, hz i (by omega), hg _ (by omega)]
      exact ih (i + 1) _ (by omega) (by rw [fld, ← e, Nat.zero_add]; simp only [ew, mxI, if_pos (Int32.not_le.mp b130)])
set_option maxRecDepth 100000 in
set_option maxHeartbeats 4000000 in
theorem q_worst_n {G : wG} {d : Nat} {h : hH} {Q : Option Value → hH → Prop} {m : Nat} {ft : Nat → Int32} {tp : Nat} {P : pD} {ht : Int32} {i0 i1 : imD} {sd fa pl tr : Int32} {th : Int32}  {y1 y : Int32} (hI : mI h m ft tp P ht none i0 i1 sd fa pl tr th)  (k : ∀ h2, mI h2 m ft tp P ht none i0 i1 sd fa (-1) (oWst P (none) y1 y).2 0 → mFr m h h2 → Q (some (.int (oWst P (none) y1 y).1)) h2) : Cl G yX10_worst (d + 4) 0 0 [.ref m, .int y1, .int y] h Q := by
  refine mI_e hI ?_
  intro sz sp fl tk ta sg nu wd rl rw ah cl gt ln wn fs ff fb fn fp f3 fk fx fy fc fr f1 f2 fi fo fq fh fj fw fz hW hT hPm hG hRm hm0 hm1 hsd hht htp
  have hnL : P.1 ≤ 4096 := Nat.le_trans hG.2.2.1 (by decide)
  have hnW : P.2.1 ≤ 4096 := Nat.le_trans hG.2.2.2 (by decide)
  have hhL : (ht = 0 ∧ P.1 = 0) ∨ ht = 1 := hht.imp (fun z => ⟨z.1, z.2.1⟩) id
  have hhW : (ht = 0 ∧ P.2.1 = 0) ∨ ht = 1 := hht.imp (fun z => ⟨z.1, z.2.2⟩) id
  have hw : hHas h [m, m + 14] [(oC 10 (mF m th tr pl (nI tp) sz sp fa fl tk ta sg nu wd (nI P.1) (nI P.2.1) rl rw ht sd ah cl)), (aI 11 fr)] := hHas_s hW [0, 14] rfl rfl
  have nd : [m, m + 14].Nodup := (nd_inc ⟨by omega, trivial⟩)
  refine Cl.of (ini := false) kX10_worst (plainFor_of_name (by decide)) (by decide) (Nat.le_of_ble_eq_true rfl) rfl rfl (fun z => by cases z) ?_
  refine w_heq (hUs_id hw).symm ?_
  refine w_aload_n dX10_worst_0 rfl ?_
  refine w_iconst (v := 0) dX10_worst_1 (by decide) ?_
  refine w_put (fs' := (mF m 0 tr pl (nI tp) sz sp fa fl tk ta sg nu wd (nI P.1) (nI P.2.1) rl rw ht sd ah cl)) fX10_89 (hUs_at nd 0 rfl rfl) rfl rfl (Nat.le_of_ble_eq_true rfl) rfl dX10_worst_2 ?_
  refine w_heq (hUs_set nd rfl 0 (cs' := [(oC 10 (mF m 0 tr pl (nI tp) sz sp fa fl tk ta sg nu wd (nI P.1) (nI P.2.1) rl rw ht sd ah cl)), (aI 11 fr)]) rfl rfl) ?_
  refine w_aload_n dX10_worst_5 rfl ?_
  refine w_iload_n dX10_worst_6 rfl ?_
  refine w_iload_n dX10_worst_7 rfl ?_
  refine w_callV (ci := 10) (d' := d + 3) (mc' := 0) (ms' := 0) (As := [.int y1, .int y]) (st := []) lX10_308 vX10_refusesSummed rfl (hUs_at nd 0 rfl rfl) rfl (Nat.le_of_ble_eq_true rfl) dX10_worst_8 (Nat.le_of_ble_eq_true rfl) (Nat.le_of_ble_eq_true rfl) (Nat.le_refl _) (m_refSum_n (hHas_sub nd (as' := [m, m + 14]) (cs' := [(oC 10 (mF m 0 tr pl (nI tp) sz sp fa fl tk ta sg nu wd (nI P.1) (nI P.2.1) rl rw ht sd ah cl)), (aI 11 fr)]) [0, 1] rfl rfl) hRm ?_)
  refine w_istore_n (ls2 := [some (.ref m), some (.int y1), some (.int y), some (.int 1), none, none, none, none]) dX10_worst_11 (by decide) rfl rfl ?_
  refine w_iload_n dX10_worst_12 rfl ?_
  refine w_if_le_f (tgt := 22) dX10_worst_13 rfl (by decide) ?_
  refine w_aload_n dX10_worst_16 rfl ?_
  refine w_iload_n dX10_worst_17 rfl ?_
  refine w_callV (ci := 10) (d' := d + 3) (mc' := 0) (ms' := 0) (As := [.int 1]) (st := []) lX10_228 vX10_refused rfl (hUs_at nd 0 rfl rfl) rfl (Nat.le_of_ble_eq_true rfl) dX10_worst_18 (Nat.le_of_ble_eq_true rfl) (Nat.le_of_ble_eq_true rfl) (Nat.le_refl _) (m_refused (hHas_sub nd (as' := [m]) (cs' := [(oC 10 (mF m 0 tr pl (nI tp) sz sp fa fl tk ta sg nu wd (nI P.1) (nI P.2.1) rl rw ht sd ah cl))]) [0] rfl rfl) (nd_sub nd (as' := [m]) [0] rfl rfl)  ?_)
  refine w_heq (hUs_in nd rfl [0] (cs2 := [(oC 10 (mF m 0 1 (-1) (nI tp) sz sp fa fl tk ta sg nu wd (nI P.1) (nI P.2.1) rl rw ht sd ah cl)), (aI 11 fr)]) rfl rfl) ?_
  refine w_ireturn rfl dX10_worst_21 (Nat.le_of_ble_eq_true rfl) (Nat.le_of_ble_eq_true rfl) ?_
  have e : oWst P none y1 y = ((-1), 1) := by
    rfl
  rw [e] at k
  exact k _ (mI_i (cI_put hW (mAs_nd m) rfl [0, 14] (cs2 := [(oC 10 (mF m 0 1 (-1) (nI tp) sz sp fa fl tk ta sg nu wd (nI P.1) (nI P.2.1) rl rw ht sd ah cl)), (aI 600 gt), (aL 8 ln), (aL 8 wn), (aI 8 fs), (aI 24 ff), (aI 8 fb), (aI 8 fn), (aI 8 fp), (aZ 8 f3), (aI 64 fk), (aI 64 fx), (aI 64 fy), (aI 64 fc), (aI 11 fr), (aI 11 f1), (aI 11 f2), (aI 22 fi), (aB 4096 fo), (aB 8192 fq), (aZ 2 fh), (aI 2 fj), (aI 4096 fw), (aI 2100 fz)]) rfl rfl) hT hPm hG hRm hm0 hm1 hsd hht htp) (mFr_of (by intro a ha; simp only [List.mem_cons, List.not_mem_nil, or_false] at ha; omega))
set_option maxRecDepth 100000 in
set_option maxHeartbeats 4000000 in
theorem q_worst_s {G : wG} {d : Nat} {h : hH} {Q : Option Value → hH → Prop} {m : Nat} {ft : Nat → Int32} {tp : Nat} {P : pD} {ht : Int32} {i0 i1 : imD} {sd fa pl tr : Int32} {th : Int32}  {l w c : Nat} {rs : Int32} {y1 y : Int32} (hI : mI h m ft tp P ht (some (l, w, rs, c)) i0 i1 sd fa pl tr th)  (k : ∀ h2, mI h2 m ft tp P ht (some (l, w, rs, c)) i0 i1 sd fa (-1) (oWst P (some (l, w, rs, c)) y1 y).2 0 → mFr m h h2 → Q (some (.int (oWst P (some (l, w, rs, c)) y1 y).1)) h2) : Cl G yX10_worst (d + 4) 0 0 [.ref m, .int y1, .int y] h Q := by
  refine mI_e hI ?_
  intro sz sp fl tk ta sg nu wd rl rw ah cl gt ln wn fs ff fb fn fp f3 fk fx fy fc fr f1 f2 fi fo fq fh fj fw fz hW hT hPm hG hRm hm0 hm1 hsd hht htp
  have hnL : P.1 ≤ 4096 := Nat.le_trans hG.2.2.1 (by decide)
  have hnW : P.2.1 ≤ 4096 := Nat.le_trans hG.2.2.2 (by decide)
  have hhL : (ht = 0 ∧ P.1 = 0) ∨ ht = 1 := hht.imp (fun z => ⟨z.1, z.2.1⟩) id
  have hhW : (ht = 0 ∧ P.2.1 = 0) ∨ ht = 1 := hht.imp (fun z => ⟨z.1, z.2.2⟩) id
  obtain ⟨hht1, hok, hsr, hrn, hsz, hfo⟩ : ht = 1 ∧ mRr P (l, w, rs, c) fr fo := id hRm
  have hl : l < P.1 := hok.1
  have hwv9 : w < P.2.1 := hok.2.1
  have hc4 : c ≤ 4096 := hok.2.2
  have hl4 : l < 4 := Nat.lt_of_lt_of_le hl hG.2.2.1
  have hl31 : l < 2 ^ 31 := by omega
  have hLp := hPm.1 l hl
  rw [Nat.zero_add] at hLp
  have hGl := hG.1 l hl
  have hrc : fr 2 = nI c := hrn.2.2.1
  have hWv := hPm.2 w hwv9
  rw [Nat.zero_add] at hWv
  have hGw := (hG.2.1 w hwv9).1
  have hw4 : w < 4 := Nat.lt_of_lt_of_le hwv9 hG.2.2.2
  have hw : hHas h [m, m + 8, m + 10, m + 11, m + 12, m + 13, m + 14, m + 18, m + 22, m + 23] [(oC 10 (mF m th tr pl (nI tp) sz sp fa fl tk ta sg nu wd (nI P.1) (nI P.2.1) rl rw ht sd ah cl)), (aI 8 fp), (aI 64 fk), (aI 64 fx), (aI 64 fy), (aI 64 fc), (aI 11 fr), (aB 4096 fo), (aI 4096 fw), (aI 2100 fz)] := hHas_s hW [0, 8, 10, 11, 12, 13, 14, 18, 22, 23] rfl rfl
  have nd : [m, m + 8, m + 10, m + 11, m + 12, m + 13, m + 14, m + 18, m + 22, m + 23].Nodup := (nd_inc ⟨by omega, by omega, by omega, by omega, by omega, by omega, by omega, by omega, by omega, trivial⟩)
  refine Cl.of (ini := false) kX10_worst (plainFor_of_name (by decide)) (by decide) (Nat.le_of_ble_eq_true rfl) rfl rfl (fun z => by cases z) ?_
  refine w_heq (hUs_id hw).symm ?_
  refine w_aload_n dX10_worst_0 rfl ?_
  refine w_iconst (v := 0) dX10_worst_1 (by decide) ?_
  refine w_put (fs' := (mF m 0 tr pl (nI tp) sz sp fa fl tk ta sg nu wd (nI P.1) (nI P.2.1) rl rw ht sd ah cl)) fX10_89 (hUs_at nd 0 rfl rfl) rfl rfl (Nat.le_of_ble_eq_true rfl) rfl dX10_worst_2 ?_
  refine w_heq (hUs_set nd rfl 0 (cs' := [(oC 10 (mF m 0 tr pl (nI tp) sz sp fa fl tk ta sg nu wd (nI P.1) (nI P.2.1) rl rw ht sd ah cl)), (aI 8 fp), (aI 64 fk), (aI 64 fx), (aI 64 fy), (aI 64 fc), (aI 11 fr), (aB 4096 fo), (aI 4096 fw), (aI 2100 fz)]) rfl rfl) ?_
  refine w_aload_n dX10_worst_5 rfl ?_
  refine w_iload_n dX10_worst_6 rfl ?_
  refine w_iload_n dX10_worst_7 rfl ?_
  refine w_callV (ci := 10) (d' := d + 3) (mc' := 0) (ms' := 0) (As := [.int y1, .int y]) (st := []) lX10_308 vX10_refusesSummed rfl (hUs_at nd 0 rfl rfl) rfl (Nat.le_of_ble_eq_true rfl) dX10_worst_8 (Nat.le_of_ble_eq_true rfl) (Nat.le_of_ble_eq_true rfl) (Nat.le_refl _) (m_refSum_s (hHas_sub nd (as' := [m, m + 14]) (cs' := [(oC 10 (mF m 0 tr pl (nI tp) sz sp fa fl tk ta sg nu wd (nI P.1) (nI P.2.1) rl rw ht sd ah cl)), (aI 11 fr)]) [0, 6] rfl rfl) hht1 hrn hl31 ?_)
  refine w_istore_n (ls2 := [some (.ref m), some (.int y1), some (.int y), some (.int (if smB y1 y = 0 then 2 else 0)), none, none, none, none]) dX10_worst_11 (by decide) rfl rfl ?_
  refine w_iload_n dX10_worst_12 rfl ?_
  refine w_if_le (tgt := 22) dX10_worst_13 rfl (fun b13 => ?_) (fun b13 => ?_)
  · have hsm := rs_le.mp b13
    obtain ⟨M, Y, hM, hY, hY2, rfl, rfl⟩ := smB_n hsm
    have hMc : tN (nI M) = M := nI_clamp (by omega)
    have hYc : tN (nI Y) = Y := nI_clamp (by omega)
    have hMY : M * (Y - 1) ≤ 93 := Nat.le_trans (Nat.mul_le_mul hM (show Y - 1 ≤ 31 by omega)) (by decide)
    have hsl := smN_le (M := M) (c := c) hY
    refine w_aload_n dX10_worst_22 rfl ?_
    refine w_iload_n dX10_worst_23 rfl ?_
    refine w_iload_n dX10_worst_24 rfl ?_
    refine w_callV (ci := 10) (d' := d + 3) (mc' := 0) (ms' := 0) (As := [.int (nI M), .int (nI Y)]) (st := []) lX10_311 vX10_summedMany rfl (hUs_at nd 0 rfl rfl) rfl (Nat.le_of_ble_eq_true rfl) dX10_worst_25 (Nat.le_of_ble_eq_true rfl) (Nat.le_of_ble_eq_true rfl) (Nat.le_refl _) (m_summedMany (hHas_sub nd (as' := [m, m + 14]) (cs' := [(oC 10 (mF m 0 tr pl (nI tp) sz sp fa fl tk ta sg nu wd (nI P.1) (nI P.2.1) rl rw ht sd ah cl)), (aI 11 fr)]) [0, 6] rfl rfl) hrc hc4 (by omega) (by omega) (by omega) ?_)
    refine w_istore (ls2 := [some (.ref m), some (.int (nI M)), some (.int (nI Y)), some (.int (if smB (nI M) (nI Y) = 0 then 2 else 0)), some (.int (nI (smN M Y c))), none, none, none]) dX10_worst_28 (by decide) rfl rfl ?_
    refine w_iload dX10_worst_30 rfl ?_
    refine w_if_ne (tgt := 41) dX10_worst_32 rfl (fun b32 => ?_) (fun b32 => ?_)
    · have b32 : ¬ (smN M Y c) = 0 := fun z => b32 ((nI_eq (a := (smN M Y c)) (b := 0) (by omega) (by omega)).mpr z)
      have hMc9 : M * (Y - 1) < c := by
        unfold smN at b32
        by_cases e : M * (Y - 1) < c
        · exact e
        · rw [if_neg e] at b32; exact absurd rfl b32
      refine w_aload_n dX10_worst_41 rfl ?_
      refine w_iload_n dX10_worst_42 rfl ?_
      refine w_iload_n dX10_worst_43 rfl ?_
      refine w_iconst (v := 0) dX10_worst_44 (by decide) ?_
      refine w_callV (ci := 10) (d' := d + 3) (mc' := 0) (ms' := 0) (As := [.int (nI M), .int (nI Y), .int 0]) (st := []) lX10_314 vX10_laysSummed rfl (hUs_at nd 0 rfl rfl) rfl (Nat.le_of_ble_eq_true rfl) dX10_worst_45 (Nat.le_of_ble_eq_true rfl) (Nat.le_of_ble_eq_true rfl) (Nat.le_refl _) (m_lays0 (hHas_sub nd (as' := [m, m + 14, m + 18, m + 22]) (cs' := [(oC 10 (mF m 0 tr pl (nI tp) sz sp fa fl tk ta sg nu wd (nI P.1) (nI P.2.1) rl rw ht sd ah cl)), (aI 11 fr), (aB 4096 fo), (aI 4096 fw)]) [0, 6, 7, 8] rfl rfl) (nd_sub nd (as' := [m, m + 14, m + 18, m + 22]) [0, 6, 7, 8] rfl rfl) hrc hc4 hM hY hY2 (by omega) (fun g09 hg09 => ?_))
      refine w_heq (hUs_in nd rfl [0, 6, 7, 8] (cs2 := [(oC 10 (mF m 0 tr pl (nI tp) sz sp fa fl tk ta sg nu wd (nI P.1) (nI P.2.1) rl rw ht sd ah cl)), (aI 8 fp), (aI 64 fk), (aI 64 fx), (aI 64 fy), (aI 64 fc), (aI 11 fr), (aB 4096 fo), (aI 4096 g09), (aI 2100 fz)]) rfl rfl) ?_
      refine w_iconst (v := (nI 0)) dX10_worst_48 (by decide) ?_
      refine w_istore (ls2 := [some (.ref m), some (.int (nI M)), some (.int (nI Y)), some (.int (if smB (nI M) (nI Y) = 0 then 2 else 0)), some (.int (nI (smN M Y c))), some (.int (nI 0)), none, none]) dX10_worst_49 (by decide) rfl rfl ?_
      refine lq_worst1 (fz := fz) nd hc4 hY hg09 (fun fz9 hfz9 => ?_) (smN M Y c) 0 fz (by omega) (fun j hj => absurd hj (Nat.not_lt_zero j))
      refine w_aload_n dX10_worst_80 rfl ?_
      refine w_iload_n dX10_worst_81 rfl ?_
      refine w_iload_n dX10_worst_82 rfl ?_
      refine w_iconst (v := 1) dX10_worst_83 (by decide) ?_
      refine w_callV (ci := 10) (d' := d + 3) (mc' := 0) (ms' := 0) (As := [.int (nI M), .int (nI Y), .int 1]) (st := []) lX10_314 vX10_laysSummed rfl (hUs_at nd 0 rfl rfl) rfl (Nat.le_of_ble_eq_true rfl) dX10_worst_84 (Nat.le_of_ble_eq_true rfl) (Nat.le_of_ble_eq_true rfl) (Nat.le_refl _) (m_lays1 (hHas_sub nd (as' := [m, m + 8, m + 10, m + 11, m + 12, m + 13, m + 14, m + 22]) (cs' := [(oC 10 (mF m 0 tr pl (nI tp) sz sp fa fl tk ta sg nu wd (nI P.1) (nI P.2.1) rl rw ht sd ah cl)), (aI 8 fp), (aI 64 fk), (aI 64 fx), (aI 64 fy), (aI 64 fc), (aI 11 fr), (aI 4096 g09)]) [0, 1, 2, 3, 4, 5, 6, 8] rfl rfl) (nd_sub nd (as' := [m, m + 8, m + 10, m + 11, m + 12, m + 13, m + 14, m + 22]) [0, 1, 2, 3, 4, 5, 6, 8] rfl rfl) (show w < 8 by omega) hWv.1 hGw hWv.2.1 hrn.2.1 hrc hc4 hM hY hY2 (by omega) (fun g19 hg19 => ?_))
      refine w_heq (hUs_in nd rfl [0, 1, 2, 3, 4, 5, 6, 8] (cs2 := [(oC 10 (mF m 0 tr pl (nI tp) sz sp fa fl tk ta sg nu wd (nI P.1) (nI P.2.1) rl rw ht sd ah cl)), (aI 8 fp), (aI 64 fk), (aI 64 fx), (aI 64 fy), (aI 64 fc), (aI 11 fr), (aB 4096 fo), (aI 4096 g19), (aI 2100 fz9)]) rfl rfl) ?_
      refine w_iconst (v := 0) dX10_worst_87 (by decide) ?_
      refine w_istore (ls2 := [some (.ref m), some (.int (nI M)), some (.int (nI Y)), some (.int (if smB (nI M) (nI Y) = 0 then 2 else 0)), some (.int (nI (smN M Y c))), some (.int 0), none, none]) dX10_worst_88 (by decide) rfl rfl ?_
      refine w_iconst (v := (nI 0)) dX10_worst_90 (by decide) ?_
      refine w_istore (ls2 := [some (.ref m), some (.int (nI M)), some (.int (nI Y)), some (.int (if smB (nI M) (nI Y) = 0 then 2 else 0)), some (.int (nI (smN M Y c))), some (.int 0), some (.int (nI 0)), none]) dX10_worst_91 (by decide) rfl rfl ?_
      refine lq_worst2 (w := w) nd hc4 hY hfz9 hg19 ?_ (smN M Y c) 0 0 (by omega) rfl
      refine w_aload_n dX10_worst_148 rfl ?_
      refine w_iload dX10_worst_149 rfl ?_
      refine w_callV (ci := 10) (d' := d + 3) (mc' := 0) (ms' := 0) (As := [.int (woF (fun t => 1000 * fo t - lvlT (P.2.2.2 w).2 (nI t)) M Y c)]) (st := []) lX10_241 vX10_good rfl (hUs_at nd 0 rfl rfl) rfl (Nat.le_of_ble_eq_true rfl) dX10_worst_151 (Nat.le_of_ble_eq_true rfl) (Nat.le_of_ble_eq_true rfl) (Nat.le_refl _) (m_good (hHas_sub nd (as' := [m]) (cs' := [(oC 10 (mF m 0 tr pl (nI tp) sz sp fa fl tk ta sg nu wd (nI P.1) (nI P.2.1) rl rw ht sd ah cl))]) [0] rfl rfl) (nd_sub nd (as' := [m]) [0] rfl rfl)  ?_)
      refine w_heq (hUs_in nd rfl [0] (cs2 := [(oC 10 (mF m 0 0 (-1) (nI tp) sz sp fa fl tk ta sg nu wd (nI P.1) (nI P.2.1) rl rw ht sd ah cl)), (aI 8 fp), (aI 64 fk), (aI 64 fx), (aI 64 fy), (aI 64 fc), (aI 11 fr), (aB 4096 fo), (aI 4096 g19), (aI 2100 fz9)]) rfl rfl) ?_
      refine w_ireturn rfl dX10_worst_154 (Nat.le_of_ble_eq_true rfl) (Nat.le_of_ble_eq_true rfl) ?_
      have e : oWst P (some (l, w, rs, c)) (nI M) (nI Y) = (woF (fun t => 1000 * fo t - lvlT (P.2.2.2 w).2 (nI t)) M Y c, 0) := by
        simp only [oWst, oWstF]
        rw [if_neg hsm, hMc, hYc, if_neg b32, woF_c (g := (fun t => 1000 * fo t - lvlT (P.2.2.2 w).2 (nI t))) (fun t ht => by
          rw [hfo t ht]
          rfl)]
      rw [e] at k
      exact k _ (mI_i (cI_put hW (mAs_nd m) rfl [0, 8, 10, 11, 12, 13, 14, 18, 22, 23] (cs2 := [(oC 10 (mF m 0 0 (-1) (nI tp) sz sp fa fl tk ta sg nu wd (nI P.1) (nI P.2.1) rl rw ht sd ah cl)), (aI 600 gt), (aL 8 ln), (aL 8 wn), (aI 8 fs), (aI 24 ff), (aI 8 fb), (aI 8 fn), (aI 8 fp), (aZ 8 f3), (aI 64 fk), (aI 64 fx), (aI 64 fy), (aI 64 fc), (aI 11 fr), (aI 11 f1), (aI 11 f2), (aI 22 fi), (aB 4096 fo), (aB 8192 fq), (aZ 2 fh), (aI 2 fj), (aI 4096 g19), (aI 2100 fz9)]) rfl rfl) hT hPm hG hRm hm0 hm1 hsd hht htp) (mFr_of (by intro a ha; simp only [List.mem_cons, List.not_mem_nil, or_false] at ha; omega))
    · have b32 := (nI_eq (a := (smN M Y c)) (b := 0) (by omega) (by omega)).mp b32
      refine w_aload_n dX10_worst_35 rfl ?_
      refine w_iconst (v := 5) dX10_worst_36 (by decide) ?_
      refine w_callV (ci := 10) (d' := d + 3) (mc' := 0) (ms' := 0) (As := [.int 5]) (st := []) lX10_228 vX10_refused rfl (hUs_at nd 0 rfl rfl) rfl (Nat.le_of_ble_eq_true rfl) dX10_worst_37 (Nat.le_of_ble_eq_true rfl) (Nat.le_of_ble_eq_true rfl) (Nat.le_refl _) (m_refused (hHas_sub nd (as' := [m]) (cs' := [(oC 10 (mF m 0 tr pl (nI tp) sz sp fa fl tk ta sg nu wd (nI P.1) (nI P.2.1) rl rw ht sd ah cl))]) [0] rfl rfl) (nd_sub nd (as' := [m]) [0] rfl rfl)  ?_)
      refine w_heq (hUs_in nd rfl [0] (cs2 := [(oC 10 (mF m 0 5 (-1) (nI tp) sz sp fa fl tk ta sg nu wd (nI P.1) (nI P.2.1) rl rw ht sd ah cl)), (aI 8 fp), (aI 64 fk), (aI 64 fx), (aI 64 fy), (aI 64 fc), (aI 11 fr), (aB 4096 fo), (aI 4096 fw), (aI 2100 fz)]) rfl rfl) ?_
      refine w_ireturn rfl dX10_worst_40 (Nat.le_of_ble_eq_true rfl) (Nat.le_of_ble_eq_true rfl) ?_
      have e : oWst P (some (l, w, rs, c)) (nI M) (nI Y) = ((-1), 5) := by
        simp only [oWst, oWstF]
        rw [if_neg hsm, hMc, hYc, if_pos b32]
      rw [e] at k
      exact k _ (mI_i (cI_put hW (mAs_nd m) rfl [0, 8, 10, 11, 12, 13, 14, 18, 22, 23] (cs2 := [(oC 10 (mF m 0 5 (-1) (nI tp) sz sp fa fl tk ta sg nu wd (nI P.1) (nI P.2.1) rl rw ht sd ah cl)), (aI 600 gt), (aL 8 ln), (aL 8 wn), (aI 8 fs), (aI 24 ff), (aI 8 fb), (aI 8 fn), (aI 8 fp), (aZ 8 f3), (aI 64 fk), (aI 64 fx), (aI 64 fy), (aI 64 fc), (aI 11 fr), (aI 11 f1), (aI 11 f2), (aI 22 fi), (aB 4096 fo), (aB 8192 fq), (aZ 2 fh), (aI 2 fj), (aI 4096 fw), (aI 2100 fz)]) rfl rfl) hT hPm hG hRm hm0 hm1 hsd hht htp) (mFr_of (by intro a ha; simp only [List.mem_cons, List.not_mem_nil, or_false] at ha; omega))
  · have hsm0 : smB y1 y = 0 := Classical.byContradiction (fun z => b13 (rs_le.mpr z))
    rw [if_pos hsm0]
    refine w_aload_n dX10_worst_16 rfl ?_
    refine w_iload_n dX10_worst_17 rfl ?_
    refine w_callV (ci := 10) (d' := d + 3) (mc' := 0) (ms' := 0) (As := [.int 2]) (st := []) lX10_228 vX10_refused rfl (hUs_at nd 0 rfl rfl) rfl (Nat.le_of_ble_eq_true rfl) dX10_worst_18 (Nat.le_of_ble_eq_true rfl) (Nat.le_of_ble_eq_true rfl) (Nat.le_refl _) (m_refused (hHas_sub nd (as' := [m]) (cs' := [(oC 10 (mF m 0 tr pl (nI tp) sz sp fa fl tk ta sg nu wd (nI P.1) (nI P.2.1) rl rw ht sd ah cl))]) [0] rfl rfl) (nd_sub nd (as' := [m]) [0] rfl rfl)  ?_)
    refine w_heq (hUs_in nd rfl [0] (cs2 := [(oC 10 (mF m 0 2 (-1) (nI tp) sz sp fa fl tk ta sg nu wd (nI P.1) (nI P.2.1) rl rw ht sd ah cl)), (aI 8 fp), (aI 64 fk), (aI 64 fx), (aI 64 fy), (aI 64 fc), (aI 11 fr), (aB 4096 fo), (aI 4096 fw), (aI 2100 fz)]) rfl rfl) ?_
    refine w_ireturn rfl dX10_worst_21 (Nat.le_of_ble_eq_true rfl) (Nat.le_of_ble_eq_true rfl) ?_
    have e : oWst P (some (l, w, rs, c)) y1 y = ((-1), 2) := by
      simp only [oWst, oWstF]
      exact if_pos hsm0
    rw [e] at k
    exact k _ (mI_i (cI_put hW (mAs_nd m) rfl [0, 8, 10, 11, 12, 13, 14, 18, 22, 23] (cs2 := [(oC 10 (mF m 0 2 (-1) (nI tp) sz sp fa fl tk ta sg nu wd (nI P.1) (nI P.2.1) rl rw ht sd ah cl)), (aI 600 gt), (aL 8 ln), (aL 8 wn), (aI 8 fs), (aI 24 ff), (aI 8 fb), (aI 8 fn), (aI 8 fp), (aZ 8 f3), (aI 64 fk), (aI 64 fx), (aI 64 fy), (aI 64 fc), (aI 11 fr), (aI 11 f1), (aI 11 f2), (aI 22 fi), (aB 4096 fo), (aB 8192 fq), (aZ 2 fh), (aI 2 fj), (aI 4096 fw), (aI 2100 fz)]) rfl rfl) hT hPm hG hRm hm0 hm1 hsd hht htp) (mFr_of (by intro a ha; simp only [List.mem_cons, List.not_mem_nil, or_false] at ha; omega))
theorem q_worst {G : wG} {d : Nat} {h : hH} {Q : Option Value → hH → Prop} {m : Nat} {ft : Nat → Int32} {tp : Nat} {P : pD} {ht : Int32} {R : Option rnD} {i0 i1 : imD} {sd fa pl tr : Int32} {th : Int32}  {y1 y : Int32} (hI : mI h m ft tp P ht R i0 i1 sd fa pl tr th) (k : ∀ h2, mI h2 m ft tp P ht R i0 i1 sd fa (-1) (oWst P (R) y1 y).2 0 → mFr m h h2 → Q (some (.int (oWst P (R) y1 y).1)) h2) : Cl G yX10_worst (d + 4) 0 0 [.ref m, .int y1, .int y] h Q := by
  cases R with
  | none => exact q_worst_n hI k
  | some r => obtain ⟨l, w, rs, c⟩ := r; exact q_worst_s hI k
