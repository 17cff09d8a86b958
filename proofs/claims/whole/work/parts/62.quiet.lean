theorem nar_b (x : Int32) : vp_nar .byte x.toInt8.toInt32 = x.toInt8.toInt32.toInt8.toInt32 := rfl
theorem and255 {x y : Int32} (h : x.toInt % 256 = y.toInt % 256) : x &&& 255 = y &&& 255 := by
  have e : ∀ z : Int32, z.toBitVec.toNat % 256 = (z.toInt % 256).toNat := fun z => by
    have h1 := BitVec.toInt_eq_toNat_bmod z.toBitVec
    rw [Int32.toInt_toBitVec] at h1
    have h2 : z.toInt % 256 = ((z.toBitVec.toNat : Int)) % 256 := by
      rw [h1, Int.bmod_def]
      split <;> omega
    omega
  rw [pk_and x 8 rfl, pk_and y 8 rfl]
  show nI (x.toBitVec.toNat % 256) = nI (y.toBitVec.toNat % 256)
  rw [e x, e y, h]
theorem by255 (z : Int32) : z &&& 255 = vp_nar .byte z.toInt8.toInt32 &&& 255 := by
  rw [nar_b]
  refine and255 ?_
  rw [Int8.toInt_toInt32, Int32.toInt_toInt8, Int8.toInt_toInt32, Int32.toInt_toInt8]
  rw [Int.bmod_def, Int.bmod_def]
  split <;> split <;> omega
theorem by_rng (z : Int32) : -128 ≤ vp_nar .byte z.toInt8.toInt32 ∧ vp_nar .byte z.toInt8.toInt32 ≤ 127 := by
  rw [nar_b, Int32.le_iff_toInt_le, Int32.le_iff_toInt_le, Int8.toInt_toInt32]
  have h1 := z.toInt8.toInt32.toInt8.le_toInt
  have h2 := z.toInt8.toInt32.toInt8.toInt_lt
  rw [show (-128 : Int32).toInt = -128 from rfl, show (127 : Int32).toInt = 127 from rfl]
  omega
theorem mT_u {N : Nat} {f g : Nat → Int32} {x y : Int32} (h : mT N f g) (e : y = x &&& 255) (hx : -128 ≤ x ∧ x ≤ 127) : mT (N + 1) (upd f N x) (upd g N y) := by
  intro j hj
  by_cases z : j = N
  · subst z; rw [pk_us, pk_us]; exact ⟨e, hx⟩
  · rw [pk_un z, pk_un z]; exact h j (by omega)
set_option maxRecDepth 100000 in
set_option maxHeartbeats 4000000 in
theorem q_feed {G : wG} {d : Nat} {h : hH} {Q : Option Value → hH → Prop} {m : Nat} {ft : Nat → Int32} {tp : Nat} {P : pD} {ht : Int32} {R : Option rnD} {i0 i1 : imD} {sd fa pl tr : Int32} {th : Int32}  {a1 a2 a3 a4 a5 : Int32} (hI : mI h m ft tp P ht R i0 i1 sd fa pl tr th)  (k : if tp + 20 ≤ 600 then (∀ h2, mI h2 m (tp4 (tp4 (tp4 (tp4 (tp4 ft tp a1) (tp + 4) a2) (tp + 8) a3) (tp + 12) a4) (tp + 16) a5) (tp + 20) P ht R i0 i1 sd fa pl tr 0 → mFr m h h2 → Q (some (.int (nI (tp + 20)))) h2) else (∀ h2, mI h2 m ft tp P ht R i0 i1 sd fa pl tr 0 → mFr m h h2 → Q (some (.int (-1))) h2)) : Cl G yX10_feed d 0 0 [.ref m, .int a1, .int a2, .int a3, .int a4, .int a5] h Q := by
  refine mI_e hI ?_
  intro sz sp fl tk ta sg nu wd rl rw ah cl gt ln wn fs ff fb fn fp f3 fk fx fy fc fr f1 f2 fi fo fq fh fj fw fz hW hT hPm hG hRm hm0 hm1 hsd hht htp
  have hnL : P.1 ≤ 4096 := Nat.le_trans hG.2.2.1 (by decide)
  have hnW : P.2.1 ≤ 4096 := Nat.le_trans hG.2.2.2 (by decide)
  have hhL : (ht = 0 ∧ P.1 = 0) ∨ ht = 1 := hht.imp (fun z => ⟨z.1, z.2.1⟩) id
  have hhW : (ht = 0 ∧ P.2.1 = 0) ∨ ht = 1 := hht.imp (fun z => ⟨z.1, z.2.2⟩) id
  have hw : hHas h [m, m + 1] [(oC 10 (mF m th tr pl (nI tp) sz sp fa fl tk ta sg nu wd (nI P.1) (nI P.2.1) rl rw ht sd ah cl)), (aI 600 gt)] := hHas_s hW [0, 1] rfl rfl
  have nd : [m, m + 1].Nodup := (nd_inc ⟨by omega, trivial⟩)
  refine Cl.of (ini := false) kX10_feed (plainFor_of_name (by decide)) (by decide) (Nat.le_of_ble_eq_true rfl) rfl rfl (fun z => by cases z) ?_
  refine w_heq (hUs_id hw).symm ?_
  refine w_aload_n dX10_feed_0 rfl ?_
  refine w_iconst (v := 0) dX10_feed_1 (by decide) ?_
  refine w_put (fs' := (mF m 0 tr pl (nI tp) sz sp fa fl tk ta sg nu wd (nI P.1) (nI P.2.1) rl rw ht sd ah cl)) fX10_89 (hUs_at nd 0 rfl rfl) rfl rfl (Nat.le_of_ble_eq_true rfl) rfl dX10_feed_2 ?_
  refine w_heq (hUs_set nd rfl 0 (cs' := [(oC 10 (mF m 0 tr pl (nI tp) sz sp fa fl tk ta sg nu wd (nI P.1) (nI P.2.1) rl rw ht sd ah cl)), (aI 600 gt)]) rfl rfl) ?_
  refine w_aload_n dX10_feed_5 rfl ?_
  refine w_get (v := .int (nI tp)) fX10_96 (hUs_at nd 0 rfl rfl) rfl dX10_feed_6 ?_
  refine w_bipush (v := 20) dX10_feed_9 (by decide) ?_
  refine w_iaddE (z := nI (tp + 20)) dX10_feed_11 (nI_add (tp) (20)) ?_
  refine w_sipush (v := 600) dX10_feed_12 (by decide) ?_
  refine w_icmp_le (tgt := 20) dX10_feed_15 rfl (fun b15 => ?_) (fun b15 => ?_)
  · have b15 := (nI_leI (a := (tp + 20)) (b := 600) (by omega) (by omega)).mp b15
    refine w_iconst (v := (nI 0)) dX10_feed_20 (by decide) ?_
    refine w_istore (ls2 := [some (.ref m), some (.int a1), some (.int a2), some (.int a3), some (.int a4), some (.int a5), some (.int (nI 0)), none]) dX10_feed_21 (by decide) rfl rfl ?_
    refine w_iload dX10_feed_23 rfl ?_
    refine w_bipush (v := 20) dX10_feed_25 (by decide) ?_
    refine w_icmp_ge_f (tgt := 113) dX10_feed_27 rfl (fun z => absurd ((nI_leI (a := 20) (b := 0) (by omega) (by omega)).mp z) (by omega)) ?_
    refine w_iload dX10_feed_30 rfl ?_
    refine w_iconst (v := 4) dX10_feed_32 (by decide) ?_
    refine w_icmp_ge_f (tgt := 40) dX10_feed_33 rfl (fun z => absurd ((nI_leI (a := 4) (b := 0) (by omega) (by omega)).mp z) (by omega)) ?_
    refine w_iload_n dX10_feed_36 rfl ?_
    refine w_goto (tgt := 76) dX10_feed_37 rfl ?_
    refine w_istore (ls2 := [some (.ref m), some (.int a1), some (.int a2), some (.int a3), some (.int a4), some (.int a5), some (.int (nI 0)), some (.int a1)]) dX10_feed_76 (by decide) rfl rfl ?_
    refine w_aload_n dX10_feed_78 rfl ?_
    refine w_get (v := .ref (m + 1)) fX10_13 (hUs_at nd 0 rfl rfl) rfl dX10_feed_79 ?_
    refine w_aload_n dX10_feed_82 rfl ?_
    refine w_get (v := .int (nI tp)) fX10_96 (hUs_at nd 0 rfl rfl) rfl dX10_feed_83 ?_
    refine w_iload dX10_feed_86 rfl ?_
    refine w_iaddE (z := nI (tp + 0)) dX10_feed_88 (nI_add (tp) (0)) ?_
    refine w_iload dX10_feed_89 rfl ?_
    refine w_bipush (v := 24) dX10_feed_91 (by decide) ?_
    refine w_bipush (v := 8) dX10_feed_93 (by decide) ?_
    refine w_iload dX10_feed_95 rfl ?_
    refine w_iconst (v := 4) dX10_feed_97 (by decide) ?_
    refine w_iremE (z := nI (0 % 4)) dX10_feed_98 (nI_ne0 (n := 4) (by omega) (by omega)) (pk_rem (a := 0) (d := 4) (by omega) (by omega) (by omega)) ?_
    refine w_imulE (z := nI (8 * (0 % 4))) dX10_feed_99 (pk_mul (8) ((0 % 4))) ?_
    refine w_isubE (z := nI (24 - (8 * (0 % 4)))) dX10_feed_100 (pk_sub (a := 24) (b := (8 * (0 % 4))) (by omega)) ?_
    refine w_ishr dX10_feed_101 ?_
    refine w_sipush (v := 255) dX10_feed_102 (by decide) ?_
    refine w_iand dX10_feed_105 ?_
    refine w_iastoreN (hUs_at nd 1 rfl rfl) (by omega) (by omega) dX10_feed_106 ?_
    refine w_heq (hUs_set nd rfl 1 (cs' := [(oC 10 (mF m 0 tr pl (nI tp) sz sp fa fl tk ta sg nu wd (nI P.1) (nI P.2.1) rl rw ht sd ah cl)), (aI 600 (upd gt (tp + 0) ((a1 >>> ((nI (24 - (8 * (0 % 4)))) &&& 31)) &&& 255)))]) rfl rfl) ?_
    refine w_iinc (v := nI (0 + 1)) (ls2 := [some (.ref m), some (.int a1), some (.int a2), some (.int a3), some (.int a4), some (.int a5), some (.int (nI (0 + 1))), some (.int a1)]) dX10_feed_107 rfl (nI_1 _) (by decide) rfl rfl ?_
    refine w_goto (tgt := 23) dX10_feed_110 rfl ?_
    refine w_iload dX10_feed_23 rfl ?_
    refine w_bipush (v := 20) dX10_feed_25 (by decide) ?_
    refine w_icmp_ge_f (tgt := 113) dX10_feed_27 rfl (fun z => absurd ((nI_leI (a := 20) (b := (0 + 1)) (by omega) (by omega)).mp z) (by omega)) ?_
    refine w_iload dX10_feed_30 rfl ?_
    refine w_iconst (v := 4) dX10_feed_32 (by decide) ?_
    refine w_icmp_ge_f (tgt := 40) dX10_feed_33 rfl (fun z => absurd ((nI_leI (a := 4) (b := (0 + 1)) (by omega) (by omega)).mp z) (by omega)) ?_
    refine w_iload_n dX10_feed_36 rfl ?_
    refine w_goto (tgt := 76) dX10_feed_37 rfl ?_
    refine w_istore (ls2 := [some (.ref m), some (.int a1), some (.int a2), some (.int a3), some (.int a4), some (.int a5), some (.int (nI (0 + 1))), some (.int a1)]) dX10_feed_76 (by decide) rfl rfl ?_
    refine w_aload_n dX10_feed_78 rfl ?_
    refine w_get (v := .ref (m + 1)) fX10_13 (hUs_at nd 0 rfl rfl) rfl dX10_feed_79 ?_
    refine w_aload_n dX10_feed_82 rfl ?_
    refine w_get (v := .int (nI tp)) fX10_96 (hUs_at nd 0 rfl rfl) rfl dX10_feed_83 ?_
    refine w_iload dX10_feed_86 rfl ?_
    refine w_iaddE (z := nI (tp + (0 + 1))) dX10_feed_88 (nI_add (tp) ((0 + 1))) ?_
    refine w_iload dX10_feed_89 rfl ?_
    refine w_bipush (v := 24) dX10_feed_91 (by decide) ?_
    refine w_bipush (v := 8) dX10_feed_93 (by decide) ?_
    refine w_iload dX10_feed_95 rfl ?_
    refine w_iconst (v := 4) dX10_feed_97 (by decide) ?_
    refine w_iremE (z := nI ((0 + 1) % 4)) dX10_feed_98 (nI_ne0 (n := 4) (by omega) (by omega)) (pk_rem (a := (0 + 1)) (d := 4) (by omega) (by omega) (by omega)) ?_
    refine w_imulE (z := nI (8 * ((0 + 1) % 4))) dX10_feed_99 (pk_mul (8) (((0 + 1) % 4))) ?_
    refine w_isubE (z := nI (24 - (8 * ((0 + 1) % 4)))) dX10_feed_100 (pk_sub (a := 24) (b := (8 * ((0 + 1) % 4))) (by omega)) ?_
    refine w_ishr dX10_feed_101 ?_
    refine w_sipush (v := 255) dX10_feed_102 (by decide) ?_
    refine w_iand dX10_feed_105 ?_
    refine w_iastoreN (hUs_at nd 1 rfl rfl) (by omega) (by omega) dX10_feed_106 ?_
    refine w_heq (hUs_set nd rfl 1 (cs' := [(oC 10 (mF m 0 tr pl (nI tp) sz sp fa fl tk ta sg nu wd (nI P.1) (nI P.2.1) rl rw ht sd ah cl)), (aI 600 (upd (upd gt (tp + 0) ((a1 >>> ((nI (24 - (8 * (0 % 4)))) &&& 31)) &&& 255)) (tp + (0 + 1)) ((a1 >>> ((nI (24 - (8 * ((0 + 1) % 4)))) &&& 31)) &&& 255)))]) rfl rfl) ?_
    refine w_iinc (v := nI ((0 + 1) + 1)) (ls2 := [some (.ref m), some (.int a1), some (.int a2), some (.int a3), some (.int a4), some (.int a5), some (.int (nI ((0 + 1) + 1))), some (.int a1)]) dX10_feed_107 rfl (nI_1 _) (by decide) rfl rfl ?_
    refine w_goto (tgt := 23) dX10_feed_110 rfl ?_
    refine w_iload dX10_feed_23 rfl ?_
    refine w_bipush (v := 20) dX10_feed_25 (by decide) ?_
    refine w_icmp_ge_f (tgt := 113) dX10_feed_27 rfl (fun z => absurd ((nI_leI (a := 20) (b := ((0 + 1) + 1)) (by omega) (by omega)).mp z) (by omega)) ?_
    refine w_iload dX10_feed_30 rfl ?_
    refine w_iconst (v := 4) dX10_feed_32 (by decide) ?_
    refine w_icmp_ge_f (tgt := 40) dX10_feed_33 rfl (fun z => absurd ((nI_leI (a := 4) (b := ((0 + 1) + 1)) (by omega) (by omega)).mp z) (by omega)) ?_
    refine w_iload_n dX10_feed_36 rfl ?_
    refine w_goto (tgt := 76) dX10_feed_37 rfl ?_
    refine w_istore (ls2 := [some (.ref m), some (.int a1), some (.int a2), some (.int a3), some (.int a4), some (.int a5), some (.int (nI ((0 + 1) + 1))), some (.int a1)]) dX10_feed_76 (by decide) rfl rfl ?_
    refine w_aload_n dX10_feed_78 rfl ?_
    refine w_get (v := .ref (m + 1)) fX10_13 (hUs_at nd 0 rfl rfl) rfl dX10_feed_79 ?_
    refine w_aload_n dX10_feed_82 rfl ?_
    refine w_get (v := .int (nI tp)) fX10_96 (hUs_at nd 0 rfl rfl) rfl dX10_feed_83 ?_
    refine w_iload dX10_feed_86 rfl ?_
    refine w_iaddE (z := nI (tp + ((0 + 1) + 1))) dX10_feed_88 (nI_add (tp) (((0 + 1) + 1))) ?_
    refine w_iload dX10_feed_89 rfl ?_
    refine w_bipush (v := 24) dX10_feed_91 (by decide) ?_
    refine w_bipush (v := 8) dX10_feed_93 (by decide) ?_
    refine w_iload dX10_feed_95 rfl ?_
    refine w_iconst (v := 4) dX10_feed_97 (by decide) ?_
    refine w_iremE (z := nI (((0 + 1) + 1) % 4)) dX10_feed_98 (nI_ne0 (n := 4) (by omega) (by omega)) (pk_rem (a := ((0 + 1) + 1)) (d := 4) (by omega) (by omega) (by omega)) ?_
    refine w_imulE (z := nI (8 * (((0 + 1) + 1) % 4))) dX10_feed_99 (pk_mul (8) ((((0 + 1) + 1) % 4))) ?_
    refine w_isubE (z := nI (24 - (8 * (((0 + 1) + 1) % 4)))) dX10_feed_100 (pk_sub (a := 24) (b := (8 * (((0 + 1) + 1) % 4))) (by omega)) ?_
    refine w_ishr dX10_feed_101 ?_
    refine w_sipush (v := 255) dX10_feed_102 (by decide) ?_
    refine w_iand dX10_feed_105 ?_
    refine w_iastoreN (hUs_at nd 1 rfl rfl) (by omega) (by omega) dX10_feed_106 ?_
    refine w_heq (hUs_set nd rfl 1 (cs' := [(oC 10 (mF m 0 tr pl (nI tp) sz sp fa fl tk ta sg nu wd (nI P.1) (nI P.2.1) rl rw ht sd ah cl)), (aI 600 (upd (upd (upd gt (tp + 0) ((a1 >>> ((nI (24 - (8 * (0 % 4)))) &&& 31)) &&& 255)) (tp + (0 + 1)) ((a1 >>> ((nI (24 - (8 * ((0 + 1) % 4)))) &&& 31)) &&& 255)) (tp + ((0 + 1) + 1)) ((a1 >>> ((nI (24 - (8 * (((0 + 1) + 1) % 4)))) &&& 31)) &&& 255)))]) rfl rfl) ?_
    refine w_iinc (v := nI (((0 + 1) + 1) + 1)) (ls2 := [some (.ref m), some (.int a1), some (.int a2), some (.int a3), some (.int a4), some (.int a5), some (.int (nI (((0 + 1) + 1) + 1))), some (.int a1)]) dX10_feed_107 rfl (nI_1 _) (by decide) rfl rfl ?_
    refine w_goto (tgt := 23) dX10_feed_110 rfl ?_
    refine w_iload dX10_feed_23 rfl ?_
    refine w_bipush (v := 20) dX10_feed_25 (by decide) ?_
    refine w_icmp_ge_f (tgt := 113) dX10_feed_27 rfl (fun z => absurd ((nI_leI (a := 20) (b := (((0 + 1) + 1) + 1)) (by omega) (by omega)).mp z) (by omega)) ?_
    refine w_iload dX10_feed_30 rfl ?_
    refine w_iconst (v := 4) dX10_feed_32 (by decide) ?_
    refine w_icmp_ge_f (tgt := 40) dX10_feed_33 rfl (fun z => absurd ((nI_leI (a := 4) (b := (((0 + 1) + 1) + 1)) (by omega) (by omega)).mp z) (by omega)) ?_
    refine w_iload_n dX10_feed_36 rfl ?_
    refine w_goto (tgt := 76) dX10_feed_37 rfl ?_
    refine w_istore (ls2 := [some (.ref m), some (.int a1), some (.int a2), some (.int a3), some (.int a4), some (.int a5), some (.int (nI (((0 + 1) + 1) + 1))), some (.int a1)]) dX10_feed_76 (by decide) rfl rfl ?_
    refine w_aload_n dX10_feed_78 rfl ?_
    refine w_get (v := .ref (m + 1)) fX10_13 (hUs_at nd 0 rfl rfl) rfl dX10_feed_79 ?_
    refine w_aload_n dX10_feed_82 rfl ?_
    refine w_get (v := .int (nI tp)) fX10_96 (hUs_at nd 0 rfl rfl) rfl dX10_feed_83 ?_
    refine w_iload dX10_feed_86 rfl ?_
    refine w_iaddE (z := nI (tp + (((0 + 1) + 1) + 1))) dX10_feed_88 (nI_add (tp) ((((0 + 1) + 1) + 1))) ?_
    refine w_iload dX10_feed_89 rfl ?_
    refine w_bipush (v := 24) dX10_feed_91 (by decide) ?_
    refine w_bipush (v := 8) dX10_feed_93 (by decide) ?_
    refine w_iload dX10_feed_95 rfl ?_
    refine w_iconst (v := 4) dX10_feed_97 (by decide) ?_
    refine w_iremE (z := nI ((((0 + 1) + 1) + 1) % 4)) dX10_feed_98 (nI_ne0 (n := 4) (by omega) (by omega)) (pk_rem (a := (((0 + 1) + 1) + 1)) (d := 4) (by omega) (by omega) (by omega)) ?_
    refine w_imulE (z := nI (8 * ((((0 + 1) + 1) + 1) % 4))) dX10_feed_99 (pk_mul (8) (((((0 + 1) + 1) + 1) % 4))) ?_
    refine w_isubE (z := nI (24 - (8 * ((((0 + 1) + 1) + 1) % 4)))) dX10_feed_100 (pk_sub (a := 24) (b := (8 * ((((0 + 1) + 1) + 1) % 4))) (by omega)) ?_
    refine w_ishr dX10_feed_101 ?_
    refine w_sipush (v := 255) dX10_feed_102 (by decide) ?_
    refine w_iand dX10_feed_105 ?_
    refine w_iastoreN (hUs_at nd 1 rfl rfl) (by omega) (by omega) dX10_feed_106 ?_
    refine w_heq (hUs_set nd rfl 1 (cs' := [(oC 10 (mF m 0 tr pl (nI tp) sz sp fa fl tk ta sg nu wd (nI P.1) (nI P.2.1) rl rw ht sd ah cl)), (aI 600 (upd (upd (upd (upd gt (tp + 0) ((a1 >>> ((nI (24 - (8 * (0 % 4)))) &&& 31)) &&& 255)) (tp + (0 + 1)) ((a1 >>> ((nI (24 - (8 * ((0 + 1) % 4)))) &&& 31)) &&& 255)) (tp + ((0 + 1) + 1)) ((a1 >>> ((nI (24 - (8 * (((0 + 1) + 1) % 4)))) &&& 31)) &&& 255)) (tp + (((0 + 1) + 1) + 1)) ((a1 >>> ((nI (24 - (8 * ((((0 + 1) + 1) + 1) % 4)))) &&& 31)) &&& 255)))]) rfl rfl) ?_
    refine w_iinc (v := nI ((((0 + 1) + 1) + 1) + 1)) (ls2 := [some (.ref m), some (.int a1), some (.int a2), some (.int a3), some (.int a4), some (.int a5), some (.int (nI ((((0 + 1) + 1) + 1) + 1))), some (.int a1)]) dX10_feed_107 rfl (nI_1 _) (by decide) rfl rfl ?_
    refine w_goto (tgt := 23) dX10_feed_110 rfl ?_
    refine w_iload dX10_feed_23 rfl ?_
    refine w_bipush (v := 20) dX10_feed_25 (by decide) ?_
    refine w_icmp_ge_f (tgt := 113) dX10_feed_27 rfl (fun z => absurd ((nI_leI (a := 20) (b := ((((0 + 1) + 1) + 1) + 1)) (by omega) (by omega)).mp z) (by omega)) ?_
    refine w_iload dX10_feed_30 rfl ?_
    refine w_iconst (v := 4) dX10_feed_32 (by decide) ?_
    refine w_icmp_ge_t (tgt := 40) dX10_feed_33 rfl ((nI_leI (a := 4) (b := ((((0 + 1) + 1) + 1) + 1)) (by omega) (by omega)).mpr (by omega)) ?_
    refine w_iload dX10_feed_40 rfl ?_
    refine w_bipush (v := 8) dX10_feed_42 (by decide) ?_
    refine w_icmp_ge_f (tgt := 51) dX10_feed_44 rfl (fun z => absurd ((nI_leI (a := 8) (b := ((((0 + 1) + 1) + 1) + 1)) (by omega) (by omega)).mp z) (by omega)) ?_
    refine w_iload_n dX10_feed_47 rfl ?_
    refine w_goto (tgt := 76) dX10_feed_48 rfl ?_
    refine w_istore (ls2 := [some (.ref m), some (.int a1), some (.int a2), some (.int a3), some (.int a4), some (.int a5), some (.int (nI ((((0 + 1) + 1) + 1) + 1))), some (.int a2)]) dX10_feed_76 (by decide) rfl rfl ?_
    refine w_aload_n dX10_feed_78 rfl ?_
    refine w_get (v := .ref (m + 1)) fX10_13 (hUs_at nd 0 rfl rfl) rfl dX10_feed_79 ?_
    refine w_aload_n dX10_feed_82 rfl ?_
    refine w_get (v := .int (nI tp)) fX10_96 (hUs_at nd 0 rfl rfl) rfl dX10_feed_83 ?_
    refine w_iload dX10_feed_86 rfl ?_
    refine w_iaddE (z := nI (tp + ((((0 + 1) + 1) + 1) + 1))) dX10_feed_88 (nI_add (tp) (((((0 + 1) + 1) + 1) + 1))) ?_
    refine w_iload dX10_feed_89 rfl ?_
    refine w_bipush (v := 24) dX10_feed_91 (by decide) ?_
    refine w_bipush (v := 8) dX10_feed_93 (by decide) ?_
    refine w_iload dX10_feed_95 rfl ?_
    refine w_iconst (v := 4) dX10_feed_97 (by decide) ?_
    refine w_iremE (z := nI (((((0 + 1) + 1) + 1) + 1) % 4)) dX10_feed_98 (nI_ne0 (n := 4) (by omega) (by omega)) (pk_rem (a := ((((0 + 1) + 1) + 1) + 1)) (d := 4) (by omega) (by omega) (by omega)) ?_
    refine w_imulE (z := nI (8 * (((((0 + 1) + 1) + 1) + 1) % 4))) dX10_feed_99 (pk_mul (8) ((((((0 + 1) + 1) + 1) + 1) % 4))) ?_
    refine w_isubE (z := nI (24 - (8 * (((((0 + 1) + 1) + 1) + 1) % 4)))) dX10_feed_100 (pk_sub (a := 24) (b := (8 * (((((0 + 1) + 1) + 1) + 1) % 4))) (by omega)) ?_
    refine w_ishr dX10_feed_101 ?_
    refine w_sipush (v := 255) dX10_feed_102 (by decide) ?_
    refine w_iand dX10_feed_105 ?_
    refine w_iastoreN (hUs_at nd 1 rfl rfl) (by omega) (by omega) dX10_feed_106 ?_
    refine w_heq (hUs_set nd rfl 1 (cs' := [(oC 10 (mF m 0 tr pl (nI tp) sz sp fa fl tk ta sg nu wd (nI P.1) (nI P.2.1) rl rw ht sd ah cl)), (aI 600 (upd (upd (upd (upd (upd gt (tp + 0) ((a1 >>> ((nI (24 - (8 * (0 % 4)))) &&& 31)) &&& 255)) (tp + (0 + 1)) ((a1 >>> ((nI (24 - (8 * ((0 + 1) % 4)))) &&& 31)) &&& 255)) (tp + ((0 + 1) + 1)) ((a1 >>> ((nI (24 - (8 * (((0 + 1) + 1) % 4)))) &&& 31)) &&& 255)) (tp + (((0 + 1) + 1) + 1)) ((a1 >>> ((nI (24 - (8 * ((((0 + 1) + 1) + 1) % 4)))) &&& 31)) &&& 255)) (tp + ((((0 + 1) + 1) + 1) + 1)) ((a2 >>> ((nI (24 - (8 * (((((0 + 1) + 1) + 1) + 1) % 4)))) &&& 31)) &&& 255)))]) rfl rfl) ?_
    refine w_iinc (v := nI (((((0 + 1) + 1) + 1) + 1) + 1)) (ls2 := [some (.ref m), some (.int a1), some (.int a2), some (.int a3), some (.int a4), some (.int a5), some (.int (nI (((((0 + 1) + 1) + 1) + 1) + 1))), some (.int a2)]) dX10_feed_107 rfl (nI_1 _) (by decide) rfl rfl ?_
    refine w_goto (tgt := 23) dX10_feed_110 rfl ?_
    refine w_iload dX10_feed_23 rfl ?_
    refine w_bipush (v := 20) dX10_feed_25 (by decide) ?_
    refine w_icmp_ge_f (tgt := 113) dX10_feed_27 rfl (fun z => absurd ((nI_leI (a := 20) (b := (((((0 + 1) + 1) + 1) + 1) + 1)) (by omega) (by omega)).mp z) (by omega)) ?_
    refine w_iload dX10_feed_30 rfl ?_
    refine w_iconst (v := 4) dX10_feed_32 (by decide) ?_
    refine w_icmp_ge_t (tgt := 40) dX10_feed_33 rfl ((nI_leI (a := 4) (b := (((((0 + 1) + 1) + 1) + 1) + 1)) (by omega) (by omega)).mpr (by omega)) ?_
    refine w_iload dX10_feed_40 rfl ?_
    refine w_bipush (v := 8) dX10_feed_42 (by decide) ?_
    refine w_icmp_ge_f (tgt := 51) dX10_feed_44 rfl (fun z => absurd ((nI_leI (a := 8) (b := (((((0 + 1) + 1) + 1) + 1) + 1)) (by omega) (by omega)).mp z) (by omega)) ?_
    refine w_iload_n dX10_feed_47 rfl ?_
    refine w_goto (tgt := 76) dX10_feed_48 rfl ?_
    refine w_istore (ls2 := [some (.ref m), some (.int a1), some (.int a2), some (.int a3), some (.int a4), some (.int a5), some (.int (nI (((((0 + 1) + 1) + 1) + 1) + 1))), some (.int a2)]) dX10_feed_76 (by decide) rfl rfl ?_
    refine w_aload_n dX10_feed_78 rfl ?_
    refine w_get (v := .ref (m + 1)) fX10_13 (hUs_at nd 0 rfl rfl) rfl dX10_feed_79 ?_
    refine w_aload_n dX10_feed_82 rfl ?_
    refine w_get (v := .int (nI tp)) fX10_96 (hUs_at nd 0 rfl rfl) rfl dX10_feed_83 ?_
    refine w_iload dX10_feed_86 rfl ?_
    refine w_iaddE (z := nI (tp + (((((0 + 1) + 1) + 1) + 1) + 1))) dX10_feed_88 (nI_add (tp) ((((((0 + 1) + 1) + 1) + 1) + 1))) ?_
    refine w_iload dX10_feed_89 rfl ?_
    refine w_bipush (v := 24) dX10_feed_91 (by decide) ?_
    refine w_bipush (v := 8) dX10_feed_93 (by decide) ?_
    refine w_iload dX10_feed_95 rfl ?_
    refine w_iconst (v := 4) dX10_feed_97 (by decide) ?_
    refine w_iremE (z := nI ((((((0 + 1) + 1) + 1) + 1) + 1) % 4)) dX10_feed_98 (nI_ne0 (n := 4) (by omega) (by omega)) (pk_rem (a := (((((0 + 1) + 1) + 1) + 1) + 1)) (d := 4) (by omega) (by omega) (by omega)) ?_
    refine w_imulE (z := nI (8 * ((((((0 + 1) + 1) + 1) + 1) + 1) % 4))) dX10_feed_99 (pk_mul (8) (((((((0 + 1) + 1) + 1) + 1) + 1) % 4))) ?_
    refine w_isubE (z := nI (24 - (8 * ((((((0 + 1) + 1) + 1) + 1) + 1) % 4)))) dX10_feed_100 (pk_sub (a := 24) (b := (8 * ((((((0 + 1) + 1) + 1) + 1) + 1) % 4))) (by omega)) ?_
    refine w_ishr dX10_feed_101 ?_
    refine w_sipush (v := 255) dX10_feed_102 (by decide) ?_
    refine w_iand dX10_feed_105 ?_
    refine w_iastoreN (hUs_at nd 1 rfl rfl) (by omega) (by omega) dX10_feed_106 ?_
    refine w_heq (hUs_set nd rfl 1 (cs' := [(oC 10 (mF m 0 tr pl (nI tp) sz sp fa fl tk ta sg nu wd (nI P.1) (nI P.2.1) rl rw ht sd ah cl)), (aI 600 (upd (upd (upd (upd (upd (upd gt (tp + 0) ((a1 >>> ((nI (24 - (8 * (0 % 4)))) &&& 31)) &&& 255)) (tp + (0 + 1)) ((a1 >>> ((nI (24 - (8 * ((0 + 1) % 4)))) &&& 31)) &&& 255)) (tp + ((0 + 1) + 1)) ((a1 >>> ((nI (24 - (8 * (((0 + 1) + 1) % 4)))) &&& 31)) &&& 255)) (tp + (((0 + 1) + 1) + 1)) ((a1 >>> ((nI (24 - (8 * ((((0 + 1) + 1) + 1) % 4)))) &&& 31)) &&& 255)) (tp + ((((0 + 1) + 1) + 1) + 1)) ((a2 >>> ((nI (24 - (8 * (((((0 + 1) + 1) + 1) + 1) % 4)))) &&& 31)) &&& 255)) (tp + (((((0 + 1) + 1) + 1) + 1) + 1)) ((a2 >>> ((nI (24 - (8 * ((((((0 + 1) + 1) + 1) + 1) + 1) % 4)))) &&& 31)) &&& 255)))]) rfl rfl) ?_
    refine w_iinc (v := nI ((((((0 + 1) + 1) + 1) + 1) + 1) + 1)) (ls2 := [some (.ref m), some (.int a1), some (.int a2), some (.int a3), some (.int a4), some (.int a5), some (.int (nI ((((((0 + 1) + 1) + 1) + 1) + 1) + 1))), some (.int a2)]) dX10_feed_107 rfl (nI_1 _) (by decide) rfl rfl ?_
    refine w_goto (tgt := 23) dX10_feed_110 rfl ?_
    refine w_iload dX10_feed_23 rfl ?_
    refine w_bipush (v := 20) dX10_feed_25 (by decide) ?_
    refine w_icmp_ge_f (tgt := 113) dX10_feed_27 rfl (fun z => absurd ((nI_leI (a := 20) (b := ((((((0 + 1) + 1) + 1) + 1) + 1) + 1)) (by omega) (by omega)).mp z) (by omega)) ?_
    refine w_iload dX10_feed_30 rfl ?_
    refine w_iconst (v := 4) dX10_feed_32 (by decide) ?_
    refine w_icmp_ge_t (tgt := 40) dX10_feed_33 rfl ((nI_leI (a := 4) (b := ((((((0 + 1) + 1) + 1) + 1) + 1) + 1)) (by omega) (by omega)).mpr (by omega)) ?_
    refine w_iload dX10_feed_40 rfl ?_
    refine w_bipush (v := 8) dX10_feed_42 (by decide) ?_
    refine w_icmp_ge_f (tgt := 51) dX10_feed_44 rfl (fun z => absurd ((nI_leI (a := 8) (b := ((((((0 + 1) + 1) + 1) + 1) + 1) + 1)) (by omega) (by omega)).mp z) (by omega)) ?_
    refine w_iload_n dX10_feed_47 rfl ?_
    refine w_goto (tgt := 76) dX10_feed_48 rfl ?_
    refine w_istore (ls2 := [some (.ref m), some (.int a1), some (.int a2), some (.int a3), some (.int a4), some (.int a5), some (.int (nI ((((((0 + 1) + 1) + 1) + 1) + 1) + 1))), some (.int a2)]) dX10_feed_76 (by decide) rfl rfl ?_
    refine w_aload_n dX10_feed_78 rfl ?_
    refine w_get (v := .ref (m + 1)) fX10_13 (hUs_at nd 0 rfl rfl) rfl dX10_feed_79 ?_
    refine w_aload_n dX10_feed_82 rfl ?_
    refine w_get (v := .int (nI tp)) fX10_96 (hUs_at nd 0 rfl rfl) rfl dX10_feed_83 ?_
    refine w_iload dX10_feed_86 rfl ?_
    refine w_iaddE (z := nI (tp + ((((((0 + 1) + 1) + 1) + 1) + 1) + 1))) dX10_feed_88 (nI_add (tp) (((((((0 + 1) + 1) + 1) + 1) + 1) + 1))) ?_
    refine w_iload dX10_feed_89 rfl ?_
    refine w_bipush (v := 24) dX10_feed_91 (by decide) ?_
    refine w_bipush (v := 8) dX10_feed_93 (by decide) ?_
    refine w_iload dX10_feed_95 rfl ?_
    refine w_iconst (v := 4) dX10_feed_97 (by decide) ?_
    refine w_iremE (z := nI (((((((0 + 1) + 1) + 1) + 1) + 1) + 1) % 4)) dX10_feed_98 (nI_ne0 (n := 4) (by omega) (by omega)) (pk_rem (a := ((((((0 + 1) + 1) + 1) + 1) + 1) + 1)) (d := 4) (by omega) (by omega) (by omega)) ?_
    refine w_imulE (z := nI (8 * (((((((0 + 1) + 1) + 1) + 1) + 1) + 1) % 4))) dX10_feed_99 (pk_mul (8) ((((((((0 + 1) + 1) + 1) + 1) + 1) + 1) % 4))) ?_
    refine w_isubE (z := nI (24 - (8 * (((((((0 + 1) + 1) + 1) + 1) + 1) + 1) % 4)))) dX10_feed_100 (pk_sub (a := 24) (b := (8 * (((((((0 + 1) + 1) + 1) + 1) + 1) + 1) % 4))) (by omega)) ?_
    refine w_ishr dX10_feed_101 ?_
    refine w_sipush (v := 255) dX10_feed_102 (by decide) ?_
    refine w_iand dX10_feed_105 ?_
    refine w_iastoreN (hUs_at nd 1 rfl rfl) (by omega) (by omega) dX10_feed_106 ?_
    refine w_heq (hUs_set nd rfl 1 (cs' := [(oC 10 (mF m 0 tr pl (nI tp) sz sp fa fl tk ta sg nu wd (nI P.1) (nI P.2.1) rl rw ht sd ah cl)), (aI 600 (upd (upd (upd (upd (upd (upd (upd gt (tp + 0) ((a1 >>> ((nI (24 - (8 * (0 % 4)))) &&& 31)) &&& 255)) (tp + (0 + 1)) ((a1 >>> ((nI (24 - (8 * ((0 + 1) % 4)))) &&& 31)) &&& 255)) (tp + ((0 + 1) + 1)) ((a1 >>> ((nI (24 - (8 * (((0 + 1) + 1) % 4)))) &&& 31)) &&& 255)) (tp + (((0 + 1) + 1) + 1)) ((a1 >>> ((nI (24 - (8 * ((((0 + 1) + 1) + 1) % 4)))) &&& 31)) &&& 255)) (tp + ((((0 + 1) + 1) + 1) + 1)) ((a2 >>> ((nI (24 - (8 * (((((0 + 1) + 1) + 1) + 1) % 4)))) &&& 31)) &&& 255)) (tp + (((((0 + 1) + 1) + 1) + 1) + 1)) ((a2 >>> ((nI (24 - (8 * ((((((0 + 1) + 1) + 1) + 1) + 1) % 4)))) &&& 31)) &&& 255)) (tp + ((((((0 + 1) + 1) + 1) + 1) + 1) + 1)) ((a2 >>> ((nI (24 - (8 * (((((((0 + 1) + 1) + 1) + 1) + 1) + 1) % 4)))) &&& 31)) &&& 255)))]) rfl rfl) ?_
    refine w_iinc (v := nI (((((((0 + 1) + 1) + 1) + 1) + 1) + 1) + 1)) (ls2 := [some (.ref m), some (.int a1), some (.int a2), some (.int a3), some (.int a4), some (.int a5), some (.int (nI (((((((0 + 1) + 1) + 1) + 1) + 1) + 1) + 1))), some (.int a2)]) dX10_feed_107 rfl (nI_1 _) (by decide) rfl rfl ?_
    refine w_goto (tgt := 23) dX10_feed_110 rfl ?_
    refine w_iload dX10_feed_23 rfl ?_
    refine w_bipush (v := 20) dX10_feed_25 (by decide) ?_
    refine w_icmp_ge_f (tgt := 113) dX10_feed_27 rfl (fun z => absurd ((nI_leI (a := 20) (b := (((((((0 + 1) + 1) + 1) + 1) + 1) + 1) + 1)) (by omega) (by omega)).mp z) (by omega)) ?_
    refine w_iload dX10_feed_30 rfl ?_
    refine w_iconst (v := 4) dX10_feed_32 (by decide) ?_
    refine w_icmp_ge_t (tgt := 40) dX10_feed_33 rfl ((nI_leI (a := 4) (b := (((((((0 + 1) + 1) + 1) + 1) + 1) + 1) + 1)) (by omega) (by omega)).mpr (by omega)) ?_
    refine w_iload dX10_feed_40 rfl ?_
    refine w_bipush (v := 8) dX10_feed_42 (by decide) ?_
    refine w_icmp_ge_f (tgt := 51) dX10_feed_44 rfl (fun z => absurd ((nI_leI (a := 8) (b := (((((((0 + 1) + 1) + 1) + 1) + 1) + 1) + 1)) (by omega) (by omega)).mp z) (by omega)) ?_
    refine w_iload_n dX10_feed_47 rfl ?_
    refine w_goto (tgt := 76) dX10_feed_48 rfl ?_
    refine w_istore (ls2 := [some (.ref m), some (.int a1), some (.int a2), some (.int a3), some (.int a4), some (.int a5), some (.int (nI (((((((0 + 1) + 1) + 1) + 1) + 1) + 1) + 1))), some (.int a2)]) dX10_feed_76 (by decide) rfl rfl ?_
    refine w_aload_n dX10_feed_78 rfl ?_
    refine w_get (v := .ref (m + 1)) fX10_13 (hUs_at nd 0 rfl rfl) rfl dX10_feed_79 ?_
    refine w_aload_n dX10_feed_82 rfl ?_
    refine w_get (v := .int (nI tp)) fX10_96 (hUs_at nd 0 rfl rfl) rfl dX10_feed_83 ?_
    refine w_iload dX10_feed_86 rfl ?_
    refine w_iaddE (z := nI (tp + (((((((0 + 1) + 1) + 1) + 1) + 1) + 1) + 1))) dX10_feed_88 (nI_add (tp) ((((((((0 + 1) + 1) + 1) + 1) + 1) + 1) + 1))) ?_
    refine w_iload dX10_feed_89 rfl ?_
    refine w_bipush (v := 24) dX10_feed_91 (by decide) ?_
    refine w_bipush (v := 8) dX10_feed_93 (by decide) ?_
    refine w_iload dX10_feed_95 rfl ?_
    refine w_iconst (v := 4) dX10_feed_97 (by decide) ?_
    refine w_iremE (z := nI ((((((((0 + 1) + 1) + 1) + 1) + 1) + 1) + 1) % 4)) dX10_feed_98 (nI_ne0 (n := 4) (by omega) (by omega)) (pk_rem (a := (((((((0 + 1) + 1) + 1) + 1) + 1) + 1) + 1)) (d := 4) (by omega) (by omega) (by omega)) ?_
    refine w_imulE (z := nI (8 * ((((((((0 + 1) + 1) + 1) + 1) + 1) + 1) + 1) % 4))) dX10_feed_99 (pk_mul (8) (((((((((0 + 1) + 1) + 1) + 1) + 1) + 1) + 1) % 4))) ?_
    refine w_isubE (z := nI (24 - (8 * ((((((((0 + 1) + 1) + 1) + 1) + 1) + 1) + 1) % 4)))) dX10_feed_100 (pk_sub (a := 24) (b := (8 * ((((((((0 + 1) + 1) + 1) + 1) + 1) + 1) + 1) % 4))) (by omega)) ?_
    refine w_ishr dX10_feed_101 ?_
    refine w_sipush (v := 255) dX10_feed_102 (by decide) ?_
    refine w_iand dX10_feed_105 ?_
    refine w_iastoreN (hUs_at nd 1 rfl rfl) (by omega) (by omega) dX10_feed_106 ?_
    refine w_heq (hUs_set nd rfl 1 (cs' := [(oC 10 (mF m 0 tr pl (nI tp) sz sp fa fl tk ta sg nu wd (nI P.1) (nI P.2.1) rl rw ht sd ah cl)), (aI 600 (upd (upd (upd (upd (upd (upd (upd (upd gt (tp + 0) ((a1 >>> ((nI (24 - (8 * (0 % 4)))) &&& 31)) &&& 255)) (tp + (0 + 1)) ((a1 >>> ((nI (24 - (8 * ((0 + 1) % 4)))) &&& 31)) &&& 255)) (tp + ((0 + 1) + 1)) ((a1 >>> ((nI (24 - (8 * (((0 + 1) + 1) % 4)))) &&& 31)) &&& 255)) (tp + (((0 + 1) + 1) + 1)) ((a1 >>> ((nI (24 - (8 * ((((0 + 1) + 1) + 1) % 4)))) &&& 31)) &&& 255)) (tp + ((((0 + 1) + 1) + 1) + 1)) ((a2 >>> ((nI (24 - (8 * (((((0 + 1) + 1) + 1) + 1) % 4)))) &&& 31)) &&& 255)) (tp + (((((0 + 1) + 1) + 1) + 1) + 1)) ((a2 >>> ((nI (24 - (8 * ((((((0 + 1) + 1) + 1) + 1) + 1) % 4)))) &&& 31)) &&& 255)) (tp + ((((((0 + 1) + 1) + 1) + 1) + 1) + 1)) ((a2 >>> ((nI (24 - (8 * (((((((0 + 1) + 1) + 1) + 1) + 1) + 1) % 4)))) &&& 31)) &&& 255)) (tp + (((((((0 + 1) + 1) + 1) + 1) + 1) + 1) + 1)) ((a2 >>> ((nI (24 - (8 * ((((((((0 + 1) + 1) + 1) + 1) + 1) + 1) + 1) % 4)))) &&& 31)) &&& 255)))]) rfl rfl) ?_
    refine w_iinc (v := nI ((((((((0 + 1) + 1) + 1) + 1) + 1) + 1) + 1) + 1)) (ls2 := [some (.ref m), some (.int a1), some (.int a2), some (.int a3), some (.int a4), some (.int a5), some (.int (nI ((((((((0 + 1) + 1) + 1) + 1) + 1) + 1) + 1) + 1))), some (.int a2)]) dX10_feed_107 rfl (nI_1 _) (by decide) rfl rfl ?_
    refine w_goto (tgt := 23) dX10_feed_110 rfl ?_
    refine w_iload dX10_feed_23 rfl ?_
    refine w_bipush (v := 20) dX10_feed_25 (by decide) ?_
    refine w_icmp_ge_f (tgt := 113) dX10_feed_27 rfl (fun z => absurd ((nI_leI (a := 20) (b := ((((((((0 + 1) + 1) + 1) + 1) + 1) + 1) + 1) + 1)) (by omega) (by omega)).mp z) (by omega)) ?_
    refine w_iload dX10_feed_30 rfl ?_
    refine w_iconst (v := 4) dX10_feed_32 (by decide) ?_
    refine w_icmp_ge_t (tgt := 40) dX10_feed_33 rfl ((nI_leI (a := 4) (b := ((((((((0 + 1) + 1) + 1) + 1) + 1) + 1) + 1) + 1)) (by omega) (by omega)).mpr (by omega)) ?_
    refine w_iload dX10_feed_40 rfl ?_
    refine w_bipush (v := 8) dX10_feed_42 (by decide) ?_
    refine w_icmp_ge_t (tgt := 51) dX10_feed_44 rfl ((nI_leI (a := 8) (b := ((((((((0 + 1) + 1) + 1) + 1) + 1) + 1) + 1) + 1)) (by omega) (by omega)).mpr (by omega)) ?_
    refine w_iload dX10_feed_51 rfl ?_
    refine w_bipush (v := 12) dX10_feed_53 (by decide) ?_
    refine w_icmp_ge_f (tgt := 62) dX10_feed_55 rfl (fun z => absurd ((nI_leI (a := 12) (b := ((((((((0 + 1) + 1) + 1) + 1) + 1) + 1) + 1) + 1)) (by omega) (by omega)).mp z) (by omega)) ?_
    refine w_iload_n dX10_feed_58 rfl ?_
    refine w_goto (tgt := 76) dX10_feed_59 rfl ?_
    refine w_istore (ls2 := [some (.ref m), some (.int a1), some (.int a2), some (.int a3), some (.int a4), some (.int a5), some (.int (nI ((((((((0 + 1) + 1) + 1) + 1) + 1) + 1) + 1) + 1))), some (.int a3)]) dX10_feed_76 (by decide) rfl rfl ?_
    refine w_aload_n dX10_feed_78 rfl ?_
    refine w_get (v := .ref (m + 1)) fX10_13 (hUs_at nd 0 rfl rfl) rfl dX10_feed_79 ?_
    refine w_aload_n dX10_feed_82 rfl ?_
    refine w_get (v := .int (nI tp)) fX10_96 (hUs_at nd 0 rfl rfl) rfl dX10_feed_83 ?_
    refine w_iload dX10_feed_86 rfl ?_
    refine w_iaddE (z := nI (tp + ((((((((0 + 1) + 1) + 1) + 1) + 1) + 1) + 1) + 1))) dX10_feed_88 (nI_add (tp) (((((((((0 + 1) + 1) + 1) + 1) + 1) + 1) + 1) + 1))) ?_
    refine w_iload dX10_feed_89 rfl ?_
    refine w_bipush (v := 24) dX10_feed_91 (by decide) ?_
    refine w_bipush (v := 8) dX10_feed_93 (by decide) ?_
    refine w_iload dX10_feed_95 rfl ?_
    refine w_iconst (v := 4) dX10_feed_97 (by decide) ?_
    refine w_iremE (z := nI (((((((((0 + 1) + 1) + 1) + 1) + 1) + 1) + 1) + 1) % 4)) dX10_feed_98 (nI_ne0 (n := 4) (by omega) (by omega)) (pk_rem (a := ((((((((0 + 1) + 1) + 1) + 1) + 1) + 1) + 1) + 1)) (d := 4) (by omega) (by omega) (by omega)) ?_
    refine w_imulE (z := nI (8 * (((((((((0 + 1) + 1) + 1) + 1) + 1) + 1) + 1) + 1) % 4))) dX10_feed_99 (pk_mul (8) ((((((((((0 + 1) + 1) + 1) + 1) + 1) + 1) + 1) + 1) % 4))) ?_
    refine w_isubE (z := nI (24 - (8 * (((((((((0 + 1) + 1) + 1) + 1) + 1) + 1) + 1) + 1) % 4)))) dX10_feed_100 (pk_sub (a := 24) (b := (8 * (((((((((0 + 1) + 1) + 1) + 1) + 1) + 1) + 1) + 1) % 4))) (by omega)) ?_
    refine w_ishr dX10_feed_101 ?_
    refine w_sipush (v := 255) dX10_feed_102 (by decide) ?_
    refine w_iand dX10_feed_105 ?_
    refine w_iastoreN (hUs_at nd 1 rfl rfl) (by omega) (by omega) dX10_feed_106 ?_
    refine w_heq (hUs_set nd rfl 1 (cs' := [(oC 10 (mF m 0 tr pl (nI tp) sz sp fa fl tk ta sg nu wd (nI P.1) (nI P.2.1) rl rw ht sd ah cl)), (aI 600 (upd (upd (upd (upd (upd (upd (upd (upd (upd gt (tp + 0) ((a1 >>> ((nI (24 - (8 * (0 % 4)))) &&& 31)) &&& 255)) (tp + (0 + 1)) ((a1 >>> ((nI (24 - (8 * ((0 + 1) % 4)))) &&& 31)) &&& 255)) (tp + ((0 + 1) + 1)) ((a1 >>> ((nI (24 - (8 * (((0 + 1) + 1) % 4)))) &&& 31)) &&& 255)) (tp + (((0 + 1) + 1) + 1)) ((a1 >>> ((nI (24 - (8 * ((((0 + 1) + 1) + 1) % 4)))) &&& 31)) &&& 255)) (tp + ((((0 + 1) + 1) + 1) + 1)) ((a2 >>> ((nI (24 - (8 * (((((0 + 1) + 1) + 1) + 1) % 4)))) &&& 31)) &&& 255)) (tp + (((((0 + 1) + 1) + 1) + 1) + 1)) ((a2 >>> ((nI (24 - (8 * ((((((0 + 1) + 1) + 1) + 1) + 1) % 4)))) &&& 31)) &&& 255)) (tp + ((((((0 + 1) + 1) + 1) + 1) + 1) + 1)) ((a2 >>> ((nI (24 - (8 * (((((((0 + 1) + 1) + 1) + 1) + 1) + 1) % 4)))) &&& 31)) &&& 255)) (tp + (((((((0 + 1) + 1) + 1) + 1) + 1) + 1) + 1)) ((a2 >>> ((nI (24 - (8 * ((((((((0 + 1) + 1) + 1) + 1) + 1) + 1) + 1) % 4)))) &&& 31)) &&& 255)) (tp + ((((((((0 + 1) + 1) + 1) + 1) + 1) + 1) + 1) + 1)) ((a3 >>> ((nI (24 - (8 * (((((((((0 + 1) + 1) + 1) + 1) + 1) + 1) + 1) + 1) % 4)))) &&& 31)) &&& 255)))]) rfl rfl) ?_
    refine w_iinc (v := nI (((((((((0 + 1) + 1) + 1) + 1) + 1) + 1) + 1) + 1) + 1)) (ls2 := [some (.ref m), some (.int a1), some (.int a2), some (.int a3), some (.int a4), some (.int a5), some (.int (nI (((((((((0 + 1) + 1) + 1) + 1) + 1) + 1) + 1) + 1) + 1))), some (.int a3)]) dX10_feed_107 rfl (nI_1 _) (by decide) rfl rfl ?_
    refine w_goto (tgt := 23) dX10_feed_110 rfl ?_
    refine w_iload dX10_feed_23 rfl ?_
    refine w_bipush (v := 20) dX10_feed_25 (by decide) ?_
    refine w_icmp_ge_f (tgt := 113) dX10_feed_27 rfl (fun z => absurd ((nI_leI (a := 20) (b := (((((((((0 + 1) + 1) + 1) + 1) + 1) + 1) + 1) + 1) + 1)) (by omega) (by omega)).mp z) (by omega)) ?_
    refine w_iload dX10_feed_30 rfl ?_
    refine w_iconst (v := 4) dX10_feed_32 (by decide) ?_
    refine w_icmp_ge_t (tgt := 40) dX10_feed_33 rfl ((nI_leI (a := 4) (b := (((((((((0 + 1) + 1) + 1) + 1) + 1) + 1) + 1) + 1) + 1)) (by omega) (by omega)).mpr (by omega)) ?_
    refine w_iload dX10_feed_40 rfl ?_
    refine w_bipush (v := 8) dX10_feed_42 (by decide) ?_
    refine w_icmp_ge_t (tgt := 51) dX10_feed_44 rfl ((nI_leI (a := 8) (b := (((((((((0 + 1) + 1) + 1) + 1) + 1) + 1) + 1) + 1) + 1)) (by omega) (by omega)).mpr (by omega)) ?_
    refine w_iload dX10_feed_51 rfl ?_
    refine w_bipush (v := 12) dX10_feed_53 (by decide) ?_
    refine w_icmp_ge_f (tgt := 62) dX10_feed_55 rfl (fun z => absurd ((nI_leI (a := 12) (b := (((((((((0 + 1) + 1) + 1) + 1) + 1) + 1) + 1) + 1) + 1)) (by omega) (by omega)).mp z) (by omega)) ?_
    refine w_iload_n dX10_feed_58 rfl ?_
    refine w_goto (tgt := 76) dX10_feed_59 rfl ?_
    refine w_istore (ls2 := [some (.ref m), some (.int a1), some (.int a2), some (.int a3), some (.int a4), some (.int a5), some (.int (nI (((((((((0 + 1) + 1) + 1) + 1) + 1) + 1) + 1) + 1) + 1))), some (.int a3)]) dX10_feed_76 (by decide) rfl rfl ?_
    refine w_aload_n dX10_feed_78 rfl ?_
    refine w_get (v := .ref (m + 1)) fX10_13 (hUs_at nd 0 rfl rfl) rfl dX10_feed_79 ?_
    refine w_aload_n dX10_feed_82 rfl ?_
    refine w_get (v := .int (nI tp)) fX10_96 (hUs_at nd 0 rfl rfl) rfl dX10_feed_83 ?_
    refine w_iload dX10_feed_86 rfl ?_
    refine w_iaddE (z := nI (tp + (((((((((0 + 1) + 1) + 1) + 1) + 1) + 1) + 1) + 1) + 1))) dX10_feed_88 (nI_add (tp) ((((((((((0 + 1) + 1) + 1) + 1) + 1) + 1) + 1) + 1) + 1))) ?_
    refine w_iload dX10_feed_89 rfl ?_
    refine w_bipush (v := 24) dX10_feed_91 (by decide) ?_
    refine w_bipush (v := 8) dX10_feed_93 (by decide) ?_
    refine w_iload dX10_feed_95 rfl ?_
    refine w_iconst (v := 4) dX10_feed_97 (by decide) ?_
    refine w_iremE (z := nI ((((((((((0 + 1) + 1) + 1) + 1) + 1) + 1) + 1) + 1) + 1) % 4)) dX10_feed_98 (nI_ne0 (n := 4) (by omega) (by omega)) (pk_rem (a := (((((((((0 + 1) + 1) + 1) + 1) + 1) + 1) + 1) + 1) + 1)) (d := 4) (by omega) (by omega) (by omega)) ?_
    refine w_imulE (z := nI (8 * ((((((((((0 + 1) + 1) + 1) + 1) + 1) + 1) + 1) + 1) + 1) % 4))) dX10_feed_99 (pk_mul (8) (((((((((((0 + 1) + 1) + 1) + 1) + 1) + 1) + 1) + 1) + 1) % 4))) ?_
    refine w_isubE (z := nI (24 - (8 * ((((((((((0 + 1) + 1) + 1) + 1) + 1) + 1) + 1) + 1) + 1) % 4)))) dX10_feed_100 (pk_sub (a := 24) (b := (8 * ((((((((((0 + 1) + 1) + 1) + 1) + 1) + 1) + 1) + 1) + 1) % 4))) (by omega)) ?_
    refine w_ishr dX10_feed_101 ?_
    refine w_sipush (v := 255) dX10_feed_102 (by decide) ?_
    refine w_iand dX10_feed_105 ?_
    refine w_iastoreN (hUs_at nd 1 rfl rfl) (by omega) (by omega) dX10_feed_106 ?_
    refine w_heq (hUs_set nd rfl 1 (cs' := [(oC 10 (mF m 0 tr pl (nI tp) sz sp fa fl tk ta sg nu wd (nI P.1) (nI P.2.1) rl rw ht sd ah cl)), (aI 600 (upd (upd (upd (upd (upd (upd (upd (upd (upd (upd gt (tp + 0) ((a1 >>> ((nI (24 - (8 * (0 % 4)))) &&& 31)) &&& 255)) (tp + (0 + 1)) ((a1 >>> ((nI (24 - (8 * ((0 + 1) % 4)))) &&& 31)) &&& 255)) (tp + ((0 + 1) + 1)) ((a1 >>> ((nI (24 - (8 * (((0 + 1) + 1) % 4)))) &&& 31)) &&& 255)) (tp + (((0 + 1) + 1) + 1)) ((a1 >>> ((nI (24 - (8 * ((((0 + 1) + 1) + 1) % 4)))) &&& 31)) &&& 255)) (tp + ((((0 + 1) + 1) + 1) + 1)) ((a2 >>> ((nI (24 - (8 * (((((0 + 1) + 1) + 1) + 1) % 4)))) &&& 31)) &&& 255)) (tp + (((((0 + 1) + 1) + 1) + 1) + 1)) ((a2 >>> ((nI (24 - (8 * ((((((0 + 1) + 1) + 1) + 1) + 1) % 4)))) &&& 31)) &&& 255)) (tp + ((((((0 + 1) + 1) + 1) + 1) + 1) + 1)) ((a2 >>> ((nI (24 - (8 * (((((((0 + 1) + 1) + 1) + 1) + 1) + 1) % 4)))) &&& 31)) &&& 255)) (tp + (((((((0 + 1) + 1) + 1) + 1) + 1) + 1) + 1)) ((a2 >>> ((nI (24 - (8 * ((((((((0 + 1) + 1) + 1) + 1) + 1) + 1) + 1) % 4)))) &&& 31)) &&& 255)) (tp + ((((((((0 + 1) + 1) + 1) + 1) + 1) + 1) + 1) + 1)) ((a3 >>> ((nI (24 - (8 * (((((((((0 + 1) + 1) + 1) + 1) + 1) + 1) + 1) + 1) % 4)))) &&& 31)) &&& 255)) (tp + (((((((((0 + 1) + 1) + 1) + 1) + 1) + 1) + 1) + 1) + 1)) ((a3 >>> ((nI (24 - (8 * ((((((((((0 + 1) + 1) + 1) + 1) + 1) + 1) + 1) + 1) + 1) % 4)))) &&& 31)) &&& 255)))]) rfl rfl) ?_
    refine w_iinc (v := nI ((((((((((0 + 1) + 1) + 1) + 1) + 1) + 1) + 1) + 1) + 1) + 1)) (ls2 := [some (.ref m), some (.int a1), some (.int a2), some (.int a3), some (.int a4), some (.int a5), some (.int (nI ((((((((((0 + 1) + 1) + 1) + 1) + 1) + 1) + 1) + 1) + 1) + 1))), some (.int a3)]) dX10_feed_107 rfl (nI_1 _) (by decide) rfl rfl ?_
    refine w_goto (tgt := 23) dX10_feed_110 rfl ?_
    refine w_iload dX10_feed_23 rfl ?_
    refine w_bipush (v := 20) dX10_feed_25 (by decide) ?_
    refine w_icmp_ge_f (tgt := 113) dX10_feed_27 rfl (fun z => absurd ((nI_leI (a := 20) (b := ((((((((((0 + 1) + 1) + 1) + 1) + 1) + 1) + 1) + 1) + 1) + 1)) (by omega) (by omega)).mp z) (by omega)) ?_
    refine w_iload dX10_feed_30 rfl ?_
    refine w_iconst (v := 4) dX10_feed_32 (by decide) ?_
    refine w_icmp_ge_t (tgt := 40) dX10_feed_33 rfl ((nI_leI (a := 4) (b := ((((((((((0 + 1) + 1) + 1) + 1) + 1) + 1) + 1) + 1) + 1) + 1)) (by omega) (by omega)).mpr (by omega)) ?_
    refine w_iload dX10_feed_40 rfl ?_
    refine w_bipush (v := 8) dX10_feed_42 (by decide) ?_
    refine w_icmp_ge_t (tgt := 51) dX10_feed_44 rfl ((nI_leI (a := 8) (b := ((((((((((0 + 1) + 1) + 1) + 1) + 1) + 1) + 1) + 1) + 1) + 1)) (by omega) (by omega)).mpr (by omega)) ?_
    refine w_iload dX10_feed_51 rfl ?_
    refine w_bipush (v := 12) dX10_feed_53 (by decide) ?_
    refine w_icmp_ge_f (tgt := 62) dX10_feed_55 rfl (fun z => absurd ((nI_leI (a := 12) (b := ((((((((((0 + 1) + 1) + 1) + 1) + 1) + 1) + 1) + 1) + 1) + 1)) (by omega) (by omega)).mp z) (by omega)) ?_
    refine w_iload_n dX10_feed_58 rfl ?_
    refine w_goto (tgt := 76) dX10_feed_59 rfl ?_
    refine w_istore (ls2 := [some (.ref m), some (.int a1), some (.int a2), some (.int a3), some (.int a4), some (.int a5), some (.int (nI ((((((((((0 + 1) + 1) + 1) + 1) + 1) + 1) + 1) + 1) + 1) + 1))), some (.int a3)]) dX10_feed_76 (by decide) rfl rfl ?_
    refine w_aload_n dX10_feed_78 rfl ?_
    refine w_get (v := .ref (m + 1)) fX10_13 (hUs_at nd 0 rfl rfl) rfl dX10_feed_79 ?_
    refine w_aload_n dX10_feed_82 rfl ?_
    refine w_get (v := .int (nI tp)) fX10_96 (hUs_at nd 0 rfl rfl) rfl dX10_feed_83 ?_
    refine w_iload dX10_feed_86 rfl ?_
    refine w_iaddE (z := nI (tp + ((((((((((0 + 1) + 1) + 1) + 1) + 1) + 1) + 1) + 1) + 1) + 1))) dX10_feed_88 (nI_add (tp) (((((((((((0 + 1) + 1) + 1) + 1) + 1) + 1) + 1) + 1) + 1) + 1))) ?_
    refine w_iload dX10_feed_89 rfl ?_
    refine w_bipush (v := 24) dX10_feed_91 (by decide) ?_
    refine w_bipush (v := 8) dX10_feed_93 (by decide) ?_
    refine w_iload dX10_feed_95 rfl ?_
    refine w_iconst (v := 4) dX10_feed_97 (by decide) ?_
    refine w_iremE (z := nI (((((((((((0 + 1) + 1) + 1) + 1) + 1) + 1) + 1) + 1) + 1) + 1) % 4)) dX10_feed_98 (nI_ne0 (n := 4) (by omega) (by omega)) (pk_rem (a := ((((((((((0 + 1) + 1) + 1) + 1) + 1) + 1) + 1) + 1) + 1) + 1)) (d := 4) (by omega) (by omega) (by omega)) ?_
    refine w_imulE (z := nI (8 * (((((((((((0 + 1) + 1) + 1) + 1) + 1) + 1) + 1) + 1) + 1) + 1) % 4))) dX10_feed_99 (pk_mul (8) ((((((((((((0 + 1) + 1) + 1) + 1) + 1) + 1) + 1) + 1) + 1) + 1) % 4))) ?_
    refine w_isubE (z := nI (24 - (8 * (((((((((((0 + 1) + 1) + 1) + 1) + 1) + 1) + 1) + 1) + 1) + 1) % 4)))) dX10_feed_100 (pk_sub (a := 24) (b := (8 * (((((((((((0 + 1) + 1) + 1) + 1) + 1) + 1) + 1) + 1) + 1) + 1) % 4))) (by omega)) ?_
    refine w_ishr dX10_feed_101 ?_
    refine w_sipush (v := 255) dX10_feed_102 (by decide) ?_
    refine w_iand dX10_feed_105 ?_
    refine w_iastoreN (hUs_at nd 1 rfl rfl) (by omega) (by omega) dX10_feed_106 ?_
    refine w_heq (hUs_set nd rfl 1 (cs' := [(oC 10 (mF m 0 tr pl (nI tp) sz sp fa fl tk ta sg nu wd (nI P.1) (nI P.2.1) rl rw ht sd ah cl)), (aI 600 (upd (upd (upd (upd (upd (upd (upd (upd (upd (upd (upd gt (tp + 0) ((a1 >>> ((nI (24 - (8 * (0 % 4)))) &&& 31)) &&& 255)) (tp + (0 + 1)) ((a1 >>> ((nI (24 - (8 * ((0 + 1) % 4)))) &&& 31)) &&& 255)) (tp + ((0 + 1) + 1)) ((a1 >>> ((nI (24 - (8 * (((0 + 1) + 1) % 4)))) &&& 31)) &&& 255)) (tp + (((0 + 1) + 1) + 1)) ((a1 >>> ((nI (24 - (8 * ((((0 + 1) + 1) + 1) % 4)))) &&& 31)) &&& 255)) (tp + ((((0 + 1) + 1) + 1) + 1)) ((a2 >>> ((nI (24 - (8 * (((((0 + 1) + 1) + 1) + 1) % 4)))) &&& 31)) &&& 255)) (tp + (((((0 + 1) + 1) + 1) + 1) + 1)) ((a2 >>> ((nI (24 - (8 * ((((((0 + 1) + 1) + 1) + 1) + 1) % 4)))) &&& 31)) &&& 255)) (tp + ((((((0 + 1) + 1) + 1) + 1) + 1) + 1)) ((a2 >>> ((nI (24 - (8 * (((((((0 + 1) + 1) + 1) + 1) + 1) + 1) % 4)))) &&& 31)) &&& 255)) (tp + (((((((0 + 1) + 1) + 1) + 1) + 1) + 1) + 1)) ((a2 >>> ((nI (24 - (8 * ((((((((0 + 1) + 1) + 1) + 1) + 1) + 1) + 1) % 4)))) &&& 31)) &&& 255)) (tp + ((((((((0 + 1) + 1) + 1) + 1) + 1) + 1) + 1) + 1)) ((a3 >>> ((nI (24 - (8 * (((((((((0 + 1) + 1) + 1) + 1) + 1) + 1) + 1) + 1) % 4)))) &&& 31)) &&& 255)) (tp + (((((((((0 + 1) + 1) + 1) + 1) + 1) + 1) + 1) + 1) + 1)) ((a3 >>> ((nI (24 - (8 * ((((((((((0 + 1) + 1) + 1) + 1) + 1) + 1) + 1) + 1) + 1) % 4)))) &&& 31)) &&& 255)) (tp + ((((((((((0 + 1) + 1) + 1) + 1) + 1) + 1) + 1) + 1) + 1) + 1)) ((a3 >>> ((nI (24 - (8 * (((((((((((0 + 1) + 1) + 1) + 1) + 1) + 1) + 1) + 1) + 1) + 1) % 4)))) &&& 31)) &&& 255)))]) rfl rfl) ?_
    refine w_iinc (v := nI (((((((((((0 + 1) + 1) + 1) + 1) + 1) + 1) + 1) + 1) + 1) + 1) + 1)) (ls2 := [some (.ref m), some (.int a1), some (.int a2), some (.int a3), some (.int a4), some (.int a5), some (.int (nI (((((((((((0 + 1) + 1) + 1) + 1) + 1) + 1) + 1) + 1) + 1) + 1) + 1))), some (.int a3)]) dX10_feed_107 rfl (nI_1 _) (by decide) rfl rfl ?_
    refine w_goto (tgt := 23) dX10_feed_110 rfl ?_
    refine w_iload dX10_feed_23 rfl ?_
    refine w_bipush (v := 20) dX10_feed_25 (by decide) ?_
    refine w_icmp_ge_f (tgt := 113) dX10_feed_27 rfl (fun z => absurd ((nI_leI (a := 20) (b := (((((((((((0 + 1) + 1) + 1) + 1) + 1) + 1) + 1) + 1) + 1) + 1) + 1)) (by omega) (by omega)).mp z) (by omega)) ?_
    refine w_iload dX10_feed_30 rfl ?_
    refine w_iconst (v := 4) dX10_feed_32 (by decide) ?_
    refine w_icmp_ge_t (tgt := 40) dX10_feed_33 rfl ((nI_leI (a := 4) (b := (((((((((((0 + 1) + 1) + 1) + 1) + 1) + 1) + 1) + 1) + 1) + 1) + 1)) (by omega) (by omega)).mpr (by omega)) ?_
    refine w_iload dX10_feed_40 rfl ?_
    refine w_bipush (v := 8) dX10_feed_42 (by decide) ?_
    refine w_icmp_ge_t (tgt := 51) dX10_feed_44 rfl ((nI_leI (a := 8) (b := (((((((((((0 + 1) + 1) + 1) + 1) + 1) + 1) + 1) + 1) + 1) + 1) + 1)) (by omega) (by omega)).mpr (by omega)) ?_
    refine w_iload dX10_feed_51 rfl ?_
    refine w_bipush (v := 12) dX10_feed_53 (by decide) ?_
    refine w_icmp_ge_f (tgt := 62) dX10_feed_55 rfl (fun z => absurd ((nI_leI (a := 12) (b := (((((((((((0 + 1) + 1) + 1) + 1) + 1) + 1) + 1) + 1) + 1) + 1) + 1)) (by omega) (by omega)).mp z) (by omega)) ?_
    refine w_iload_n dX10_feed_58 rfl ?_
    refine w_goto (tgt := 76) dX10_feed_59 rfl ?_
    refine w_istore (ls2 := [some (.ref m), some (.int a1), some (.int a2), some (.int a3), some (.int a4), some (.int a5), some (.int (nI (((((((((((0 + 1) + 1) + 1) + 1) + 1) + 1) + 1) + 1) + 1) + 1) + 1))), some (.int a3)]) dX10_feed_76 (by decide) rfl rfl ?_
    refine w_aload_n dX10_feed_78 rfl ?_
    refine w_get (v := .ref (m + 1)) fX10_13 (hUs_at nd 0 rfl rfl) rfl dX10_feed_79 ?_
    refine w_aload_n dX10_feed_82 rfl ?_
    refine w_get (v := .int (nI tp)) fX10_96 (hUs_at nd 0 rfl rfl) rfl dX10_feed_83 ?_
    refine w_iload dX10_feed_86 rfl ?_
    refine w_iaddE (z := nI (tp + (((((((((((0 + 1) + 1) + 1) + 1) + 1) + 1) + 1) + 1) + 1) + 1) + 1))) dX10_feed_88 (nI_add (tp) ((((((((((((0 + 1) + 1) + 1) + 1) + 1) + 1) + 1) + 1) + 1) + 1) + 1))) ?_
    refine w_iload dX10_feed_89 rfl ?_
    refine w_bipush (v := 24) dX10_feed_91 (by decide) ?_
    refine w_bipush (v := 8) dX10_feed_93 (by decide) ?_
    refine w_iload dX10_feed_95 rfl ?_
    refine w_iconst (v := 4) dX10_feed_97 (by decide) ?_
    refine w_iremE (z := nI ((((((((((((0 + 1) + 1) + 1) + 1) + 1) + 1) + 1) + 1) + 1) + 1) + 1) % 4)) dX10_feed_98 (nI_ne0 (n := 4) (by omega) (by omega)) (pk_rem (a := (((((((((((0 + 1) + 1) + 1) + 1) + 1) + 1) + 1) + 1) + 1) + 1) + 1)) (d := 4) (by omega) (by omega) (by omega)) ?_
    refine w_imulE (z := nI (8 * ((((((((((((0 + 1) + 1) + 1) + 1) + 1) + 1) + 1) + 1) + 1) + 1) + 1) % 4))) dX10_feed_99 (pk_mul (8) (((((((((((((0 + 1) + 1) + 1) + 1) + 1) + 1) + 1) + 1) + 1) + 1) + 1) % 4))) ?_
    refine w_isubE (z := nI (24 - (8 * ((((((((((((0 + 1) + 1) + 1) + 1) + 1) + 1) + 1) + 1) + 1) + 1) + 1) % 4)))) dX10_feed_100 (pk_sub (a := 24) (b := (8 * ((((((((((((0 + 1) + 1) + 1) + 1) + 1) + 1) + 1) + 1) + 1) + 1) + 1) % 4))) (by omega)) ?_
    refine w_ishr dX10_feed_101 ?_
    refine w_sipush (v := 255) dX10_feed_102 (by decide) ?_
    refine w_iand dX10_feed_105 ?_
    refine w_iastoreN (hUs_at nd 1 rfl rfl) (by omega) (by omega) dX10_feed_106 ?_
    refine w_heq (hUs_set nd rfl 1 (cs' := [(oC 10 (mF m 0 tr pl (nI tp) sz sp fa fl tk ta sg nu wd (nI P.1) (nI P.2.1) rl rw ht sd ah cl)), (aI 600 (upd (upd (upd (upd (upd (upd (upd (upd (upd (upd (upd (upd gt (tp + 0) ((a1 >>> ((nI (24 - (8 * (0 % 4)))) &&& 31)) &&& 255)) (tp + (0 + 1)) ((a1 >>> ((nI (24 - (8 * ((0 + 1) % 4)))) &&& 31)) &&& 255)) (tp + ((0 + 1) + 1)) ((a1 >>> ((nI (24 - (8 * (((0 + 1) + 1) % 4)))) &&& 31)) &&& 255)) (tp + (((0 + 1) + 1) + 1)) ((a1 >>> ((nI (24 - (8 * ((((0 + 1) + 1) + 1) % 4)))) &&& 31)) &&& 255)) (tp + ((((0 + 1) + 1) + 1) + 1)) ((a2 >>> ((nI (24 - (8 * (((((0 + 1) + 1) + 1) + 1) % 4)))) &&& 31)) &&& 255)) (tp + (((((0 + 1) + 1) + 1) + 1) + 1)) ((a2 >>> ((nI (24 - (8 * ((((((0 + 1) + 1) + 1) + 1) + 1) % 4)))) &&& 31)) &&& 255)) (tp + ((((((0 + 1) + 1) + 1) + 1) + 1) + 1)) ((a2 >>> ((nI (24 - (8 * (((((((0 + 1) + 1) + 1) + 1) + 1) + 1) % 4)))) &&& 31)) &&& 255)) (tp + (((((((0 + 1) + 1) + 1) + 1) + 1) + 1) + 1)) ((a2 >>> ((nI (24 - (8 * ((((((((0 + 1) + 1) + 1) + 1) + 1) + 1) + 1) % 4)))) &&& 31)) &&& 255)) (tp + ((((((((0 + 1) + 1) + 1) + 1) + 1) + 1) + 1) + 1)) ((a3 >>> ((nI (24 - (8 * (((((((((0 + 1) + 1) + 1) + 1) + 1) + 1) + 1) + 1) % 4)))) &&& 31)) &&& 255)) (tp + (((((((((0 + 1) + 1) + 1) + 1) + 1) + 1) + 1) + 1) + 1)) ((a3 >>> ((nI (24 - (8 * ((((((((((0 + 1) + 1) + 1) + 1) + 1) + 1) + 1) + 1) + 1) % 4)))) &&& 31)) &&& 255)) (tp + ((((((((((0 + 1) + 1) + 1) + 1) + 1) + 1) + 1) + 1) + 1) + 1)) ((a3 >>> ((nI (24 - (8 * (((((((((((0 + 1) + 1) + 1) + 1) + 1) + 1) + 1) + 1) + 1) + 1) % 4)))) &&& 31)) &&& 255)) (tp + (((((((((((0 + 1) + 1) + 1) + 1) + 1) + 1) + 1) + 1) + 1) + 1) + 1)) ((a3 >>> ((nI (24 - (8 * ((((((((((((0 + 1) + 1) + 1) + 1) + 1) + 1) + 1) + 1) + 1) + 1) + 1) % 4)))) &&& 31)) &&& 255)))]) rfl rfl) ?_
    refine w_iinc (v := nI ((((((((((((0 + 1) + 1) + 1) + 1) + 1) + 1) + 1) + 1) + 1) + 1) + 1) + 1)) (ls2 := [some (.ref m), some (.int a1), some (.int a2), some (.int a3), some (.int a4), some (.int a5), some (.int (nI ((((((((((((0 + 1) + 1) + 1) + 1) + 1) + 1) + 1) + 1) + 1) + 1) + 1) + 1))), some (.int a3)]) dX10_feed_107 rfl (nI_1 _) (by decide) rfl rfl ?_
    refine w_goto (tgt := 23) dX10_feed_110 rfl ?_
    refine w_iload dX10_feed_23 rfl ?_
    refine w_bipush (v := 20) dX10_feed_25 (by decide) ?_
    refine w_icmp_ge_f (tgt := 113) dX10_feed_27 rfl (fun z => absurd ((nI_leI (a := 20) (b := ((((((((((((0 + 1) + 1) + 1) + 1) + 1) + 1) + 1) + 1) + 1) + 1) + 1) + 1)) (by omega) (by omega)).mp z) (by omega)) ?_
    refine w_iload dX10_feed_30 rfl ?_
    refine w_iconst (v := 4) dX10_feed_32 (by decide) ?_
    refine w_icmp_ge_t (tgt := 40) dX10_feed_33 rfl ((nI_leI (a := 4) (b := ((((((((((((0 + 1) + 1) + 1) + 1) + 1) + 1) + 1) + 1) + 1) + 1) + 1) + 1)) (by omega) (by omega)).mpr (by omega)) ?_
    refine w_iload dX10_feed_40 rfl ?_
    refine w_bipush (v := 8) dX10_feed_42 (by decide) ?_
    refine w_icmp_ge_t (tgt := 51) dX10_feed_44 rfl ((nI_leI (a := 8) (b := ((((((((((((0 + 1) + 1) + 1) + 1) + 1) + 1) + 1) + 1) + 1) + 1) + 1) + 1)) (by omega) (by omega)).mpr (by omega)) ?_
    refine w_iload dX10_feed_51 rfl ?_
    refine w_bipush (v := 12) dX10_feed_53 (by decide) ?_
    refine w_icmp_ge_t (tgt := 62) dX10_feed_55 rfl ((nI_leI (a := 12) (b := ((((((((((((0 + 1) + 1) + 1) + 1) + 1) + 1) + 1) + 1) + 1) + 1) + 1) + 1)) (by omega) (by omega)).mpr (by omega)) ?_
    refine w_iload dX10_feed_62 rfl ?_
    refine w_bipush (v := 16) dX10_feed_64 (by decide) ?_
    refine w_icmp_ge_f (tgt := 74) dX10_feed_66 rfl (fun z => absurd ((nI_leI (a := 16) (b := ((((((((((((0 + 1) + 1) + 1) + 1) + 1) + 1) + 1) + 1) + 1) + 1) + 1) + 1)) (by omega) (by omega)).mp z) (by omega)) ?_
    refine w_iload dX10_feed_69 rfl ?_
    refine w_goto (tgt := 76) dX10_feed_71 rfl ?_
    refine w_istore (ls2 := [some (.ref m), some (.int a1), some (.int a2), some (.int a3), some (.int a4), some (.int a5), some (.int (nI ((((((((((((0 + 1) + 1) + 1) + 1) + 1) + 1) + 1) + 1) + 1) + 1) + 1) + 1))), some (.int a4)]) dX10_feed_76 (by decide) rfl rfl ?_
    refine w_aload_n dX10_feed_78 rfl ?_
    refine w_get (v := .ref (m + 1)) fX10_13 (hUs_at nd 0 rfl rfl) rfl dX10_feed_79 ?_
    refine w_aload_n dX10_feed_82 rfl ?_
    refine w_get (v := .int (nI tp)) fX10_96 (hUs_at nd 0 rfl rfl) rfl dX10_feed_83 ?_
    refine w_iload dX10_feed_86 rfl ?_
    refine w_iaddE (z := nI (tp + ((((((((((((0 + 1) + 1) + 1) + 1) + 1) + 1) + 1) + 1) + 1) + 1) + 1) + 1))) dX10_feed_88 (nI_add (tp) (((((((((((((0 + 1) + 1) + 1) + 1) + 1) + 1) + 1) + 1) + 1) + 1) + 1) + 1))) ?_
    refine w_iload dX10_feed_89 rfl ?_
    refine w_bipush (v := 24) dX10_feed_91 (by decide) ?_
    refine w_bipush (v := 8) dX10_feed_93 (by decide) ?_
    refine w_iload dX10_feed_95 rfl ?_
    refine w_iconst (v := 4) dX10_feed_97 (by decide) ?_
    refine w_iremE (z := nI (((((((((((((0 + 1) + 1) + 1) + 1) + 1) + 1) + 1) + 1) + 1) + 1) + 1) + 1) % 4)) dX10_feed_98 (nI_ne0 (n := 4) (by omega) (by omega)) (pk_rem (a := ((((((((((((0 + 1) + 1) + 1) + 1) + 1) + 1) + 1) + 1) + 1) + 1) + 1) + 1)) (d := 4) (by omega) (by omega) (by omega)) ?_
    refine w_imulE (z := nI (8 * (((((((((((((0 + 1) + 1) + 1) + 1) + 1) + 1) + 1) + 1) + 1) + 1) + 1) + 1) % 4))) dX10_feed_99 (pk_mul (8) ((((((((((((((0 + 1) + 1) + 1) + 1) + 1) + 1) + 1) + 1) + 1) + 1) + 1) + 1) % 4))) ?_
    refine w_isubE (z := nI (24 - (8 * (((((((((((((0 + 1) + 1) + 1) + 1) + 1) + 1) + 1) + 1) + 1) + 1) + 1) + 1) % 4)))) dX10_feed_100 (pk_sub (a := 24) (b := (8 * (((((((((((((0 + 1) + 1) + 1) + 1) + 1) + 1) + 1) + 1) + 1) + 1) + 1) + 1) % 4))) (by omega)) ?_
    refine w_ishr dX10_feed_101 ?_
    refine w_sipush (v := 255) dX10_feed_102 (by decide) ?_
    refine w_iand dX10_feed_105 ?_
    refine w_iastoreN (hUs_at nd 1 rfl rfl) (by omega) (by omega) dX10_feed_106 ?_
    refine w_heq (hUs_set nd rfl 1 (cs' := [(oC 10 (mF m 0 tr pl (nI tp) sz sp fa fl tk ta sg nu wd (nI P.1) (nI P.2.1) rl rw ht sd ah cl)), (aI 600 (upd (upd (upd (upd (upd (upd (upd (upd (upd (upd (upd (upd (upd gt (tp + 0) ((a1 >>> ((nI (24 - (8 * (0 % 4)))) &&& 31)) &&& 255)) (tp + (0 + 1)) ((a1 >>> ((nI (24 - (8 * ((0 + 1) % 4)))) &&& 31)) &&& 255)) (tp + ((0 + 1) + 1)) ((a1 >>> ((nI (24 - (8 * (((0 + 1) + 1) % 4)))) &&& 31)) &&& 255)) (tp + (((0 + 1) + 1) + 1)) ((a1 >>> ((nI (24 - (8 * ((((0 + 1) + 1) + 1) % 4)))) &&& 31)) &&& 255)) (tp + ((((0 + 1) + 1) + 1) + 1)) ((a2 >>> ((nI (24 - (8 * (((((0 + 1) + 1) + 1) + 1) % 4)))) &&& 31)) &&& 255)) (tp + (((((0 + 1) + 1) + 1) + 1) + 1)) ((a2 >>> ((nI (24 - (8 * ((((((0 + 1) + 1) + 1) + 1) + 1) % 4)))) &&& 31)) &&& 255)) (tp + ((((((0 + 1) + 1) + 1) + 1) + 1) + 1)) ((a2 >>> ((nI (24 - (8 * (((((((0 + 1) + 1) + 1) + 1) + 1) + 1) % 4)))) &&& 31)) &&& 255)) (tp + (((((((0 + 1) + 1) + 1) + 1) + 1) + 1) + 1)) ((a2 >>> ((nI (24 - (8 * ((((((((0 + 1) + 1) + 1) + 1) + 1) + 1) + 1) % 4)))) &&& 31)) &&& 255)) (tp + ((((((((0 + 1) + 1) + 1) + 1) + 1) + 1) + 1) + 1)) ((a3 >>> ((nI (24 - (8 * (((((((((0 + 1) + 1) + 1) + 1) + 1) + 1) + 1) + 1) % 4)))) &&& 31)) &&& 255)) (tp + (((((((((0 + 1) + 1) + 1) + 1) + 1) + 1) + 1) + 1) + 1)) ((a3 >>> ((nI (24 - (8 * ((((((((((0 + 1) + 1) + 1) + 1) + 1) + 1) + 1) + 1) + 1) % 4)))) &&& 31)) &&& 255)) (tp + ((((((((((0 + 1) + 1) + 1) + 1) + 1) + 1) + 1) + 1) + 1) + 1)) ((a3 >>> ((nI (24 - (8 * (((((((((((0 + 1) + 1) + 1) + 1) + 1) + 1) + 1) + 1) + 1) + 1) % 4)))) &&& 31)) &&& 255)) (tp + (((((((((((0 + 1) + 1) + 1) + 1) + 1) + 1) + 1) + 1) + 1) + 1) + 1)) ((a3 >>> ((nI (24 - (8 * ((((((((((((0 + 1) + 1) + 1) + 1) + 1) + 1) + 1) + 1) + 1) + 1) + 1) % 4)))) &&& 31)) &&& 255)) (tp + ((((((((((((0 + 1) + 1) + 1) + 1) + 1) + 1) + 1) + 1) + 1) + 1) + 1) + 1)) ((a4 >>> ((nI (24 - (8 * (((((((((((((0 + 1) + 1) + 1) + 1) + 1) + 1) + 1) + 1) + 1) + 1) + 1) + 1) % 4)))) &&& 31)) &&& 255)))]) rfl rfl) ?_
    refine w_iinc (v := nI (((((((((((((0 + 1) + 1) + 1) + 1) + 1) + 1) + 1) + 1) + 1) + 1) + 1) + 1) + 1)) (ls2 := [some (.ref m), some (.int a1), some (.int a2), some (.int a3), some (.int a4), some (.int a5), some (.int (nI (((((((((((((0 + 1) + 1) + 1) + 1) + 1) + 1) + 1) + 1) + 1) + 1) + 1) + 1) + 1))), some (.int a4)]) dX10_feed_107 rfl (nI_1 _) (by decide) rfl rfl ?_
    refine w_goto (tgt := 23) dX10_feed_110 rfl ?_
    refine w_iload dX10_feed_23 rfl ?_
    refine w_bipush (v := 20) dX10_feed_25 (by decide) ?_
    refine w_icmp_ge_f (tgt := 113) dX10_feed_27 rfl (fun z => absurd ((nI_leI (a := 20) (b := (((((((((((((0 + 1) + 1) + 1) + 1) + 1) + 1) + 1) + 1) + 1) + 1) + 1) + 1) + 1)) (by omega) (by omega)).mp z) (by omega)) ?_
    refine w_iload dX10_feed_30 rfl ?_
    refine w_iconst (v := 4) dX10_feed_32 (by decide) ?_
    refine w_icmp_ge_t (tgt := 40) dX10_feed_33 rfl ((nI_leI (a := 4) (b := (((((((((((((0 + 1) + 1) + 1) + 1) + 1) + 1) + 1) + 1) + 1) + 1) + 1) + 1) + 1)) (by omega) (by omega)).mpr (by omega)) ?_
    refine w_iload dX10_feed_40 rfl ?_
    refine w_bipush (v := 8) dX10_feed_42 (by decide) ?_
    refine w_icmp_ge_t (tgt := 51) dX10_feed_44 rfl ((nI_leI (a := 8) (b := (((((((((((((0 + 1) + 1) + 1) + 1) + 1) + 1) + 1) + 1) + 1) + 1) + 1) + 1) + 1)) (by omega) (by omega)).mpr (by omega)) ?_
    refine w_iload dX10_feed_51 rfl ?_
    refine w_bipush (v := 12) dX10_feed_53 (by decide) ?_
    refine w_icmp_ge_t (tgt := 62) dX10_feed_55 rfl ((nI_leI (a := 12) (b := (((((((((((((0 + 1) + 1) + 1) + 1) + 1) + 1) + 1) + 1) + 1) + 1) + 1) + 1) + 1)) (by omega) (by omega)).mpr (by omega)) ?_
    refine w_iload dX10_feed_62 rfl ?_
    refine w_bipush (v := 16) dX10_feed_64 (by decide) ?_
    refine w_icmp_ge_f (tgt := 74) dX10_feed_66 rfl (fun z => absurd ((nI_leI (a := 16) (b := (((((((((((((0 + 1) + 1) + 1) + 1) + 1) + 1) + 1) + 1) + 1) + 1) + 1) + 1) + 1)) (by omega) (by omega)).mp z) (by omega)) ?_
    refine w_iload dX10_feed_69 rfl ?_
    refine w_goto (tgt := 76) dX10_feed_71 rfl ?_
    refine w_istore (ls2 := [some (.ref m), some (.int a1), some (.int a2), some (.int a3), some (.int a4), some (.int a5), some (.int (nI (((((((((((((0 + 1) + 1) + 1) + 1) + 1) + 1) + 1) + 1) + 1) + 1) + 1) + 1) + 1))), some (.int a4)]) dX10_feed_76 (by decide) rfl rfl ?_
    refine w_aload_n dX10_feed_78 rfl ?_
    refine w_get (v := .ref (m + 1)) fX10_13 (hUs_at nd 0 rfl rfl) rfl dX10_feed_79 ?_
    refine w_aload_n dX10_feed_82 rfl ?_
    refine w_get (v := .int (nI tp)) fX10_96 (hUs_at nd 0 rfl rfl) rfl dX10_feed_83 ?_
    refine w_iload dX10_feed_86 rfl ?_
    refine w_iaddE (z := nI (tp + (((((((((((((0 + 1) + 1) + 1) + 1) + 1) + 1) + 1) + 1) + 1) + 1) + 1) + 1) + 1))) dX10_feed_88 (nI_add (tp) ((((((((((((((0 + 1) + 1) + 1) + 1) + 1) + 1) + 1) + 1) + 1) + 1) + 1) + 1) + 1))) ?_
    refine w_iload dX10_feed_89 rfl ?_
    refine w_bipush (v := 24) dX10_feed_91 (by decide) ?_
    refine w_bipush (v := 8) dX10_feed_93 (by decide) ?_
    refine w_iload dX10_feed_95 rfl ?_
    refine w_iconst (v := 4) dX10_feed_97 (by decide) ?_
    refine w_iremE (z := nI ((((((((((((((0 + 1) + 1) + 1) + 1) + 1) + 1) + 1) + 1) + 1) + 1) + 1) + 1) + 1) % 4)) dX10_feed_98 (nI_ne0 (n := 4) (by omega) (by omega)) (pk_rem (a := (((((((((((((0 + 1) + 1) + 1) + 1) + 1) + 1) + 1) + 1) + 1) + 1) + 1) + 1) + 1)) (d := 4) (by omega) (by omega) (by omega)) ?_
    refine w_imulE (z := nI (8 * ((((((((((((((0 + 1) + 1) + 1) + 1) + 1) + 1) + 1) + 1) + 1) + 1) + 1) + 1) + 1) % 4))) dX10_feed_99 (pk_mul (8) (((((((((((((((0 + 1) + 1) + 1) + 1) + 1) + 1) + 1) + 1) + 1) + 1) + 1) + 1) + 1) % 4))) ?_
    refine w_isubE (z := nI (24 - (8 * ((((((((((((((0 + 1) + 1) + 1) + 1) + 1) + 1) + 1) + 1) + 1) + 1) + 1) + 1) + 1) % 4)))) dX10_feed_100 (pk_sub (a := 24) (b := (8 * ((((((((((((((0 + 1) + 1) + 1) + 1) + 1) + 1) + 1) + 1) + 1) + 1) + 1) + 1) + 1) % 4))) (by omega)) ?_
    refine w_ishr dX10_feed_101 ?_
    refine w_sipush (v := 255) dX10_feed_102 (by decide) ?_
    refine w_iand dX10_feed_105 ?_
    refine w_iastoreN (hUs_at nd 1 rfl rfl) (by omega) (by omega) dX10_feed_106 ?_
    refine w_heq (hUs_set nd rfl 1 (cs' := [(oC 10 (mF m 0 tr pl (nI tp) sz sp fa fl tk ta sg nu wd (nI P.1) (nI P.2.1) rl rw ht sd ah cl)), (aI 600 (upd (upd (upd (upd (upd (upd (upd (upd (upd (upd (upd (upd (upd (upd gt (tp + 0) ((a1 >>> ((nI (24 - (8 * (0 % 4)))) &&& 31)) &&& 255)) (tp + (0 + 1)) ((a1 >>> ((nI (24 - (8 * ((0 + 1) % 4)))) &&& 31)) &&& 255)) (tp + ((0 + 1) + 1)) ((a1 >>> ((nI (24 - (8 * (((0 + 1) + 1) % 4)))) &&& 31)) &&& 255)) (tp + (((0 + 1) + 1) + 1)) ((a1 >>> ((nI (24 - (8 * ((((0 + 1) + 1) + 1) % 4)))) &&& 31)) &&& 255)) (tp + ((((0 + 1) + 1) + 1) + 1)) ((a2 >>> ((nI (24 - (8 * (((((0 + 1) + 1) + 1) + 1) % 4)))) &&& 31)) &&& 255)) (tp + (((((0 + 1) + 1) + 1) + 1) + 1)) ((a2 >>> ((nI (24 - (8 * ((((((0 + 1) + 1) + 1) + 1) + 1) % 4)))) &&& 31)) &&& 255)) (tp + ((((((0 + 1) + 1) + 1) + 1) + 1) + 1)) ((a2 >>> ((nI (24 - (8 * (((((((0 + 1) + 1) + 1) + 1) + 1) + 1) % 4)))) &&& 31)) &&& 255)) (tp + (((((((0 + 1) + 1) + 1) + 1) + 1) + 1) + 1)) ((a2 >>> ((nI (24 - (8 * ((((((((0 + 1) + 1) + 1) + 1) + 1) + 1) + 1) % 4)))) &&& 31)) &&& 255)) (tp + ((((((((0 + 1) + 1) + 1) + 1) + 1) + 1) + 1) + 1)) ((a3 >>> ((nI (24 - (8 * (((((((((0 + 1) + 1) + 1) + 1) + 1) + 1) + 1) + 1) % 4)))) &&& 31)) &&& 255)) (tp + (((((((((0 + 1) + 1) + 1) + 1) + 1) + 1) + 1) + 1) + 1)) ((a3 >>> ((nI (24 - (8 * ((((((((((0 + 1) + 1) + 1) + 1) + 1) + 1) + 1) + 1) + 1) % 4)))) &&& 31)) &&& 255)) (tp + ((((((((((0 + 1) + 1) + 1) + 1) + 1) + 1) + 1) + 1) + 1) + 1)) ((a3 >>> ((nI (24 - (8 * (((((((((((0 + 1) + 1) + 1) + 1) + 1) + 1) + 1) + 1) + 1) + 1) % 4)))) &&& 31)) &&& 255)) (tp + (((((((((((0 + 1) + 1) + 1) + 1) + 1) + 1) + 1) + 1) + 1) + 1) + 1)) ((a3 >>> ((nI (24 - (8 * ((((((((((((0 + 1) + 1) + 1) + 1) + 1) + 1) + 1) + 1) + 1) + 1) + 1) % 4)))) &&& 31)) &&& 255)) (tp + ((((((((((((0 + 1) + 1) + 1) + 1) + 1) + 1) + 1) + 1) + 1) + 1) + 1) + 1)) ((a4 >>> ((nI (24 - (8 * (((((((((((((0 + 1) + 1) + 1) + 1) + 1) + 1) + 1) + 1) + 1) + 1) + 1) + 1) % 4)))) &&& 31)) &&& 255)) (tp + (((((((((((((0 + 1) + 1) + 1) + 1) + 1) + 1) + 1) + 1) + 1) + 1) + 1) + 1) + 1)) ((a4 >>> ((nI (24 - (8 * ((((((((((((((0 + 1) + 1) + 1) + 1) + 1) + 1) + 1) + 1) + 1) + 1) + 1) + 1) + 1) % 4)))) &&& 31)) &&& 255)))]) rfl rfl) ?_
    refine w_iinc (v := nI ((((((((((((((0 + 1) + 1) + 1) + 1) + 1) + 1) + 1) + 1) + 1) + 1) + 1) + 1) + 1) + 1)) (ls2 := [some (.ref m), some (.int a1), some (.int a2), some (.int a3), some (.int a4), some (.int a5), some (.int (nI ((((((((((((((0 + 1) + 1) + 1) + 1) + 1) + 1) + 1) + 1) + 1) + 1) + 1) + 1) + 1) + 1))), some (.int a4)]) dX10_feed_107 rfl (nI_1 _) (by decide) rfl rfl ?_
    refine w_goto (tgt := 23) dX10_feed_110 rfl ?_
    refine w_iload dX10_feed_23 rfl ?_
    refine w_bipush (v := 20) dX10_feed_25 (by decide) ?_
    refine w_icmp_ge_f (tgt := 113) dX10_feed_27 rfl (fun z => absurd ((nI_leI (a := 20) (b := ((((((((((((((0 + 1) + 1) + 1) + 1) + 1) + 1) + 1) + 1) + 1) + 1) + 1) + 1) + 1) + 1)) (by omega) (by omega)).mp z) (by omega)) ?_
    refine w_iload dX10_feed_30 rfl ?_
    refine w_iconst (v := 4) dX10_feed_32 (by decide) ?_
    refine w_icmp_ge_t (tgt := 40) dX10_feed_33 rfl ((nI_leI (a := 4) (b := ((((((((((((((0 + 1) + 1) + 1) + 1) + 1) + 1) + 1) + 1) + 1) + 1) + 1) + 1) + 1) + 1)) (by omega) (by omega)).mpr (by omega)) ?_
    refine w_iload dX10_feed_40 rfl ?_
    refine w_bipush (v := 8) dX10_feed_42 (by decide) ?_
    refine w_icmp_ge_t (tgt := 51) dX10_feed_44 rfl ((nI_leI (a := 8) (b := ((((((((((((((0 + 1) + 1) + 1) + 1) + 1) + 1) + 1) + 1) + 1) + 1) + 1) + 1) + 1) + 1)) (by omega) (by omega)).mpr (by omega)) ?_
    refine w_iload dX10_feed_51 rfl ?_
    refine w_bipush (v := 12) dX10_feed_53 (by decide) ?_
    refine w_icmp_ge_t (tgt := 62) dX10_feed_55 rfl ((nI_leI (a := 12) (b := ((((((((((((((0 + 1) + 1) + 1) + 1) + 1) + 1) + 1) + 1) + 1) + 1) + 1) + 1) + 1) + 1)) (by omega) (by omega)).mpr (by omega)) ?_
    refine w_iload dX10_feed_62 rfl ?_
    refine w_bipush (v := 16) dX10_feed_64 (by decide) ?_
    refine w_icmp_ge_f (tgt := 74) dX10_feed_66 rfl (fun z => absurd ((nI_leI (a := 16) (b := ((((((((((((((0 + 1) + 1) + 1) + 1) + 1) + 1) + 1) + 1) + 1) + 1) + 1) + 1) + 1) + 1)) (by omega) (by omega)).mp z) (by omega)) ?_
    refine w_iload dX10_feed_69 rfl ?_
    refine w_goto (tgt := 76) dX10_feed_71 rfl ?_
    refine w_istore (ls2 := [some (.ref m), some (.int a1), some (.int a2), some (.int a3), some (.int a4), some (.int a5), some (.int (nI ((((((((((((((0 + 1) + 1) + 1) + 1) + 1) + 1) + 1) + 1) + 1) + 1) + 1) + 1) + 1) + 1))), some (.int a4)]) dX10_feed_76 (by decide) rfl rfl ?_
    refine w_aload_n dX10_feed_78 rfl ?_
    refine w_get (v := .ref (m + 1)) fX10_13 (hUs_at nd 0 rfl rfl) rfl dX10_feed_79 ?_
    refine w_aload_n dX10_feed_82 rfl ?_
    refine w_get (v := .int (nI tp)) fX10_96 (hUs_at nd 0 rfl rfl) rfl dX10_feed_83 ?_
    refine w_iload dX10_feed_86 rfl ?_
    refine w_iaddE (z := nI (tp + ((((((((((((((0 + 1) + 1) + 1) + 1) + 1) + 1) + 1) + 1) + 1) + 1) + 1) + 1) + 1) + 1))) dX10_feed_88 (nI_add (tp) (((((((((((((((0 + 1) + 1) + 1) + 1) + 1) + 1) + 1) + 1) + 1) + 1) + 1) + 1) + 1) + 1))) ?_
    refine w_iload dX10_feed_89 rfl ?_
    refine w_bipush (v := 24) dX10_feed_91 (by decide) ?_
    refine w_bipush (v := 8) dX10_feed_93 (by decide) ?_
    refine w_iload dX10_feed_95 rfl ?_
    refine w_iconst (v := 4) dX10_feed_97 (by decide) ?_
    refine w_iremE (z := nI (((((((((((((((0 + 1) + 1) + 1) + 1) + 1) + 1) + 1) + 1) + 1) + 1) + 1) + 1) + 1) + 1) % 4)) dX10_feed_98 (nI_ne0 (n := 4) (by omega) (by omega)) (pk_rem (a := ((((((((((((((0 + 1) + 1) + 1) + 1) + 1) + 1) + 1) + 1) + 1) + 1) + 1) + 1) + 1) + 1)) (d := 4) (by omega) (by omega) (by omega)) ?_
    refine w_imulE (z := nI (8 * (((((((((((((((0 + 1) + 1) + 1) + 1) + 1) + 1) + 1) + 1) + 1) + 1) + 1) + 1) + 1) + 1) % 4))) dX10_feed_99 (pk_mul (8) ((((((((((((((((0 + 1) + 1) + 1) + 1) + 1) + 1) + 1) + 1) + 1) + 1) + 1) + 1) + 1) + 1) % 4))) ?_
    refine w_isubE (z := nI (24 - (8 * (((((((((((((((0 + 1) + 1) + 1) + 1) + 1) + 1) + 1) + 1) + 1) + 1) + 1) + 1) + 1) + 1) % 4)))) dX10_feed_100 (pk_sub (a := 24) (b := (8 * (((((((((((((((0 + 1) + 1) + 1) + 1) + 1) + 1) + 1) + 1) + 1) + 1) + 1) + 1) + 1) + 1) % 4))) (by omega)) ?_
    refine w_ishr dX10_feed_101 ?_
    refine w_sipush (v := 255) dX10_feed_102 (by decide) ?_
    refine w_iand dX10_feed_105 ?_
    refine w_iastoreN (hUs_at nd 1 rfl rfl) (by omega) (by omega) dX10_feed_106 ?_
    refine w_heq (hUs_set nd rfl 1 (cs' := [(oC 10 (mF m 0 tr pl (nI tp) sz sp fa fl tk ta sg nu wd (nI P.1) (nI P.2.1) rl rw ht sd ah cl)), (aI 600 (upd (upd (upd (upd (upd (upd (upd (upd (upd (upd (upd (upd (upd (upd (upd gt (tp + 0) ((a1 >>> ((nI (24 - (8 * (0 % 4)))) &&& 31)) &&& 255)) (tp + (0 + 1)) ((a1 >>> ((nI (24 - (8 * ((0 + 1) % 4)))) &&& 31)) &&& 255)) (tp + ((0 + 1) + 1)) ((a1 >>> ((nI (24 - (8 * (((0 + 1) + 1) % 4)))) &&& 31)) &&& 255)) (tp + (((0 + 1) + 1) + 1)) ((a1 >>> ((nI (24 - (8 * ((((0 + 1) + 1) + 1) % 4)))) &&& 31)) &&& 255)) (tp + ((((0 + 1) + 1) + 1) + 1)) ((a2 >>> ((nI (24 - (8 * (((((0 + 1) + 1) + 1) + 1) % 4)))) &&& 31)) &&& 255)) (tp + (((((0 + 1) + 1) + 1) + 1) + 1)) ((a2 >>> ((nI (24 - (8 * ((((((0 + 1) + 1) + 1) + 1) + 1) % 4)))) &&& 31)) &&& 255)) (tp + ((((((0 + 1) + 1) + 1) + 1) + 1) + 1)) ((a2 >>> ((nI (24 - (8 * (((((((0 + 1) + 1) + 1) + 1) + 1) + 1) % 4)))) &&& 31)) &&& 255)) (tp + (((((((0 + 1) + 1) + 1) + 1) + 1) + 1) + 1)) ((a2 >>> ((nI (24 - (8 * ((((((((0 + 1) + 1) + 1) + 1) + 1) + 1) + 1) % 4)))) &&& 31)) &&& 255)) (tp + ((((((((0 + 1) + 1) + 1) + 1) + 1) + 1) + 1) + 1)) ((a3 >>> ((nI (24 - (8 * (((((((((0 + 1) + 1) + 1) + 1) + 1) + 1) + 1) + 1) % 4)))) &&& 31)) &&& 255)) (tp + (((((((((0 + 1) + 1) + 1) + 1) + 1) + 1) + 1) + 1) + 1)) ((a3 >>> ((nI (24 - (8 * ((((((((((0 + 1) + 1) + 1) + 1) + 1) + 1) + 1) + 1) + 1) % 4)))) &&& 31)) &&& 255)) (tp + ((((((((((0 + 1) + 1) + 1) + 1) + 1) + 1) + 1) + 1) + 1) + 1)) ((a3 >>> ((nI (24 - (8 * (((((((((((0 + 1) + 1) + 1) + 1) + 1) + 1) + 1) + 1) + 1) + 1) % 4)))) &&& 31)) &&& 255)) (tp + (((((((((((0 + 1) + 1) + 1) + 1) + 1) + 1) + 1) + 1) + 1) + 1) + 1)) ((a3 >>> ((nI (24 - (8 * ((((((((((((0 + 1) + 1) + 1) + 1) + 1) + 1) + 1) + 1) + 1) + 1) + 1) % 4)))) &&& 31)) &&& 255)) (tp + ((((((((((((0 + 1) + 1) + 1) + 1) + 1) + 1) + 1) + 1) + 1) + 1) + 1) + 1)) ((a4 >>> ((nI (24 - (8 * (((((((((((((0 + 1) + 1) + 1) + 1) + 1) + 1) + 1) + 1) + 1) + 1) + 1) + 1) % 4)))) &&& 31)) &&& 255)) (tp + (((((((((((((0 + 1) + 1) + 1) + 1) + 1) + 1) + 1) + 1) + 1) + 1) + 1) + 1) + 1)) ((a4 >>> ((nI (24 - (8 * ((((((((((((((0 + 1) + 1) + 1) + 1) + 1) + 1) + 1) + 1) + 1) + 1) + 1) + 1) + 1) % 4)))) &&& 31)) &&& 255)) (tp + ((((((((((((((0 + 1) + 1) + 1) + 1) + 1) + 1) + 1) + 1) + 1) + 1) + 1) + 1) + 1) + 1)) ((a4 >>> ((nI (24 - (8 * (((((((((((((((0 + 1) + 1) + 1) + 1) + 1) + 1) + 1) + 1) + 1) + 1) + 1) + 1) + 1) + 1) % 4)))) &&& 31)) &&& 255)))]) rfl rfl) ?_
    refine w_iinc (v := nI (((((((((((((((0 + 1) + 1) + 1) + 1) + 1) + 1) + 1) + 1) + 1) + 1) + 1) + 1) + 1) + 1) + 1)) (ls2 := [some (.ref m), some (.int a1), some (.int a2), some (.int a3), some (.int a4), some (.int a5), some (.int (nI (((((((((((((((0 + 1) + 1) + 1) + 1) + 1) + 1) + 1) + 1) + 1) + 1) + 1) + 1) + 1) + 1) + 1))), some (.int a4)]) dX10_feed_107 rfl (nI_1 _) (by decide) rfl rfl ?_
    refine w_goto (tgt := 23) dX10_feed_110 rfl ?_
    refine w_iload dX10_feed_23 rfl ?_
    refine w_bipush (v := 20) dX10_feed_25 (by decide) ?_
    refine w_icmp_ge_f (tgt := 113) dX10_feed_27 rfl (fun z => absurd ((nI_leI (a := 20) (b := (((((((((((((((0 + 1) + 1) + 1) + 1) + 1) + 1) + 1) + 1) + 1) + 1) + 1) + 1) + 1) + 1) + 1)) (by omega) (by omega)).mp z) (by omega)) ?_
    refine w_iload dX10_feed_30 rfl ?_
    refine w_iconst (v := 4) dX10_feed_32 (by decide) ?_
    refine w_icmp_ge_t (tgt := 40) dX10_feed_33 rfl ((nI_leI (a := 4) (b := (((((((((((((((0 + 1) + 1) + 1) + 1) + 1) + 1) + 1) + 1) + 1) + 1) + 1) + 1) + 1) + 1) + 1)) (by omega) (by omega)).mpr (by omega)) ?_
    refine w_iload dX10_feed_40 rfl ?_
    refine w_bipush (v := 8) dX10_feed_42 (by decide) ?_
    refine w_icmp_ge_t (tgt := 51) dX10_feed_44 rfl ((nI_leI (a := 8) (b := (((((((((((((((0 + 1) + 1) + 1) + 1) + 1) + 1) + 1) + 1) + 1) + 1) + 1) + 1) + 1) + 1) + 1)) (by omega) (by omega)).mpr (by omega)) ?_
    refine w_iload dX10_feed_51 rfl ?_
    refine w_bipush (v := 12) dX10_feed_53 (by decide) ?_
    refine w_icmp_ge_t (tgt := 62) dX10_feed_55 rfl ((nI_leI (a := 12) (b := (((((((((((((((0 + 1) + 1) + 1) + 1) + 1) + 1) + 1) + 1) + 1) + 1) + 1) + 1) + 1) + 1) + 1)) (by omega) (by omega)).mpr (by omega)) ?_
    refine w_iload dX10_feed_62 rfl ?_
    refine w_bipush (v := 16) dX10_feed_64 (by decide) ?_
    refine w_icmp_ge_f (tgt := 74) dX10_feed_66 rfl (fun z => absurd ((nI_leI (a := 16) (b := (((((((((((((((0 + 1) + 1) + 1) + 1) + 1) + 1) + 1) + 1) + 1) + 1) + 1) + 1) + 1) + 1) + 1)) (by omega) (by omega)).mp z) (by omega)) ?_
    refine w_iload dX10_feed_69 rfl ?_
    refine w_goto (tgt := 76) dX10_feed_71 rfl ?_
    refine w_istore (ls2 := [some (.ref m), some (.int a1), some (.int a2), some (.int a3), some (.int a4), some (.int a5), some (.int (nI (((((((((((((((0 + 1) + 1) + 1) + 1) + 1) + 1) + 1) + 1) + 1) + 1) + 1) + 1) + 1) + 1) + 1))), some (.int a4)]) dX10_feed_76 (by decide) rfl rfl ?_
    refine w_aload_n dX10_feed_78 rfl ?_
    refine w_get (v := .ref (m + 1)) fX10_13 (hUs_at nd 0 rfl rfl) rfl dX10_feed_79 ?_
    refine w_aload_n dX10_feed_82 rfl ?_
    refine w_get (v := .int (nI tp)) fX10_96 (hUs_at nd 0 rfl rfl) rfl dX10_feed_83 ?_
    refine w_iload dX10_feed_86 rfl ?_
    refine w_iaddE (z := nI (tp + (((((((((((((((0 + 1) + 1) + 1) + 1) + 1) + 1) + 1) + 1) + 1) + 1) + 1) + 1) + 1) + 1) + 1))) dX10_feed_88 (nI_add (tp) ((((((((((((((((0 + 1) + 1) + 1) + 1) + 1) + 1) + 1) + 1) + 1) + 1) + 1) + 1) + 1) + 1) + 1))) ?_
    refine w_iload dX10_feed_89 rfl ?_
    refine w_bipush (v := 24) dX10_feed_91 (by decide) ?_
    refine w_bipush (v := 8) dX10_feed_93 (by decide) ?_
    refine w_iload dX10_feed_95 rfl ?_
    refine w_iconst (v := 4) dX10_feed_97 (by decide) ?_
    refine w_iremE (z := nI ((((((((((((((((0 + 1) + 1) + 1) + 1) + 1) + 1) + 1) + 1) + 1) + 1) + 1) + 1) + 1) + 1) + 1) % 4)) dX10_feed_98 (nI_ne0 (n := 4) (by omega) (by omega)) (pk_rem (a := (((((((((((((((0 + 1) + 1) + 1) + 1) + 1) + 1) + 1) + 1) + 1) + 1) + 1) + 1) + 1) + 1) + 1)) (d := 4) (by omega) (by omega) (by omega)) ?_
    refine w_imulE (z := nI (8 * ((((((((((((((((0 + 1) + 1) + 1) + 1) + 1) + 1) + 1) + 1) + 1) + 1) + 1) + 1) + 1) + 1) + 1) % 4))) dX10_feed_99 (pk_mul (8) (((((((((((((((((0 + 1) + 1) + 1) + 1) + 1) + 1) + 1) + 1) + 1) + 1) + 1) + 1) + 1) + 1) + 1) % 4))) ?_
    refine w_isubE (z := nI (24 - (8 * ((((((((((((((((0 + 1) + 1) + 1) + 1) + 1) + 1) + 1) + 1) + 1) + 1) + 1) + 1) + 1) + 1) + 1) % 4)))) dX10_feed_100 (pk_sub (a := 24) (b := (8 * ((((((((((((((((0 + 1) + 1) + 1) + 1) + 1) + 1) + 1) + 1) + 1) + 1) + 1) + 1) + 1) + 1) + 1) % 4))) (by omega)) ?_
    refine w_ishr dX10_feed_101 ?_
    refine w_sipush (v := 255) dX10_feed_102 (by decide) ?_
    refine w_iand dX10_feed_105 ?_
    refine w_iastoreN (hUs_at nd 1 rfl rfl) (by omega) (by omega) dX10_feed_106 ?_
    refine w_heq (hUs_set nd rfl 1 (cs' := [(oC 10 (mF m 0 tr pl (nI tp) sz sp fa fl tk ta sg nu wd (nI P.1) (nI P.2.1) rl rw ht sd ah cl)), (aI 600 (upd (upd (upd (upd (upd (upd (upd (upd (upd (upd (upd (upd (upd (upd (upd (upd gt (tp + 0) ((a1 >>> ((nI (24 - (8 * (0 % 4)))) &&& 31)) &&& 255)) (tp + (0 + 1)) ((a1 >>> ((nI (24 - (8 * ((0 + 1) % 4)))) &&& 31)) &&& 255)) (tp + ((0 + 1) + 1)) ((a1 >>> ((nI (24 - (8 * (((0 + 1) + 1) % 4)))) &&& 31)) &&& 255)) (tp + (((0 + 1) + 1) + 1)) ((a1 >>> ((nI (24 - (8 * ((((0 + 1) + 1) + 1) % 4)))) &&& 31)) &&& 255)) (tp + ((((0 + 1) + 1) + 1) + 1)) ((a2 >>> ((nI (24 - (8 * (((((0 + 1) + 1) + 1) + 1) % 4)))) &&& 31)) &&& 255)) (tp + (((((0 + 1) + 1) + 1) + 1) + 1)) ((a2 >>> ((nI (24 - (8 * ((((((0 + 1) + 1) + 1) + 1) + 1) % 4)))) &&& 31)) &&& 255)) (tp + ((((((0 + 1) + 1) + 1) + 1) + 1) + 1)) ((a2 >>> ((nI (24 - (8 * (((((((0 + 1) + 1) + 1) + 1) + 1) + 1) % 4)))) &&& 31)) &&& 255)) (tp + (((((((0 + 1) + 1) + 1) + 1) + 1) + 1) + 1)) ((a2 >>> ((nI (24 - (8 * ((((((((0 + 1) + 1) + 1) + 1) + 1) + 1) + 1) % 4)))) &&& 31)) &&& 255)) (tp + ((((((((0 + 1) + 1) + 1) + 1) + 1) + 1) + 1) + 1)) ((a3 >>> ((nI (24 - (8 * (((((((((0 + 1) + 1) + 1) + 1) + 1) + 1) + 1) + 1) % 4)))) &&& 31)) &&& 255)) (tp + (((((((((0 + 1) + 1) + 1) + 1) + 1) + 1) + 1) + 1) + 1)) ((a3 >>> ((nI (24 - (8 * ((((((((((0 + 1) + 1) + 1) + 1) + 1) + 1) + 1) + 1) + 1) % 4)))) &&& 31)) &&& 255)) (tp + ((((((((((0 + 1) + 1) + 1) + 1) + 1) + 1) + 1) + 1) + 1) + 1)) ((a3 >>> ((nI (24 - (8 * (((((((((((0 + 1) + 1) + 1) + 1) + 1) + 1) + 1) + 1) + 1) + 1) % 4)))) &&& 31)) &&& 255)) (tp + (((((((((((0 + 1) + 1) + 1) + 1) + 1) + 1) + 1) + 1) + 1) + 1) + 1)) ((a3 >>> ((nI (24 - (8 * ((((((((((((0 + 1) + 1) + 1) + 1) + 1) + 1) + 1) + 1) + 1) + 1) + 1) % 4)))) &&& 31)) &&& 255)) (tp + ((((((((((((0 + 1) + 1) + 1) + 1) + 1) + 1) + 1) + 1) + 1) + 1) + 1) + 1)) ((a4 >>> ((nI (24 - (8 * (((((((((((((0 + 1) + 1) + 1) + 1) + 1) + 1) + 1) + 1) + 1) + 1) + 1) + 1) % 4)))) &&& 31)) &&& 255)) (tp + (((((((((((((0 + 1) + 1) + 1) + 1) + 1) + 1) + 1) + 1) + 1) + 1) + 1) + 1) + 1)) ((a4 >>> ((nI (24 - (8 * ((((((((((((((0 + 1) + 1) + 1) + 1) + 1) + 1) + 1) + 1) + 1) + 1) + 1) + 1) + 1) % 4)))) &&& 31)) &&& 255)) (tp + ((((((((((((((0 + 1) + 1) + 1) + 1) + 1) + 1) + 1) + 1) + 1) + 1) + 1) + 1) + 1) + 1)) ((a4 >>> ((nI (24 - (8 * (((((((((((((((0 + 1) + 1) + 1) + 1) + 1) + 1) + 1) + 1) + 1) + 1) + 1) + 1) + 1) + 1) % 4)))) &&& 31)) &&& 255)) (tp + (((((((((((((((0 + 1) + 1) + 1) + 1) + 1) + 1) + 1) + 1) + 1) + 1) + 1) + 1) + 1) + 1) + 1)) ((a4 >>> ((nI (24 - (8 * ((((((((((((((((0 + 1) + 1) + 1) + 1) + 1) + 1) + 1) + 1) + 1) + 1) + 1) + 1) + 1) + 1) + 1) % 4)))) &&& 31)) &&& 255)))]) rfl rfl) ?_
    refine w_iinc (v := nI ((((((((((((((((0 + 1) + 1) + 1) + 1) + 1) + 1) + 1) + 1) + 1) + 1) + 1) + 1) + 1) + 1) + 1) + 1)) (ls2 := [some (.ref m), some (.int a1), some (.int a2), some (.int a3), some (.int a4), some (.int a5), some (.int (nI ((((((((((((((((0 + 1) + 1) + 1) + 1) + 1) + 1) + 1) + 1) + 1) + 1) + 1) + 1) + 1) + 1) + 1) + 1))), some (.int a4)]) dX10_feed_107 rfl (nI_1 _) (by decide) rfl rfl ?_
    refine w_goto (tgt := 23) dX10_feed_110 rfl ?_
    refine w_iload dX10_feed_23 rfl ?_
    refine w_bipush (v := 20) dX10_feed_25 (by decide) ?_
    refine w_icmp_ge_f (tgt := 113) dX10_feed_27 rfl (fun z => absurd ((nI_leI (a := 20) (b := ((((((((((((((((0 + 1) + 1) + 1) + 1) + 1) + 1) + 1) + 1) + 1) + 1) + 1) + 1) + 1) + 1) + 1) + 1)) (by omega) (by omega)).mp z) (by omega)) ?_
    refine w_iload dX10_feed_30 rfl ?_
    refine w_iconst (v := 4) dX10_feed_32 (by decide) ?_
    refine w_icmp_ge_t (tgt := 40) dX10_feed_33 rfl ((nI_leI (a := 4) (b := ((((((((((((((((0 + 1) + 1) + 1) + 1) + 1) + 1) + 1) + 1) + 1) + 1) + 1) + 1) + 1) + 1) + 1) + 1)) (by omega) (by omega)).mpr (by omega)) ?_
    refine w_iload dX10_feed_40 rfl ?_
    refine w_bipush (v := 8) dX10_feed_42 (by decide) ?_
    refine w_icmp_ge_t (tgt := 51) dX10_feed_44 rfl ((nI_leI (a := 8) (b := ((((((((((((((((0 + 1) + 1) + 1) + 1) + 1) + 1) + 1) + 1) + 1) + 1) + 1) + 1) + 1) + 1) + 1) + 1)) (by omega) (by omega)).mpr (by omega)) ?_
    refine w_iload dX10_feed_51 rfl ?_
    refine w_bipush (v := 12) dX10_feed_53 (by decide) ?_
    refine w_icmp_ge_t (tgt := 62) dX10_feed_55 rfl ((nI_leI (a := 12) (b := ((((((((((((((((0 + 1) + 1) + 1) + 1) + 1) + 1) + 1) + 1) + 1) + 1) + 1) + 1) + 1) + 1) + 1) + 1)) (by omega) (by omega)).mpr (by omega)) ?_
    refine w_iload dX10_feed_62 rfl ?_
    refine w_bipush (v := 16) dX10_feed_64 (by decide) ?_
    refine w_icmp_ge_t (tgt := 74) dX10_feed_66 rfl ((nI_leI (a := 16) (b := ((((((((((((((((0 + 1) + 1) + 1) + 1) + 1) + 1) + 1) + 1) + 1) + 1) + 1) + 1) + 1) + 1) + 1) + 1)) (by omega) (by omega)).mpr (by omega)) ?_
    refine w_iload dX10_feed_74 rfl ?_
    refine w_istore (ls2 := [some (.ref m), some (.int a1), some (.int a2), some (.int a3), some (.int a4), some (.int a5), some (.int (nI ((((((((((((((((0 + 1) + 1) + 1) + 1) + 1) + 1) + 1) + 1) + 1) + 1) + 1) + 1) + 1) + 1) + 1) + 1))), some (.int a5)]) dX10_feed_76 (by decide) rfl rfl ?_
    refine w_aload_n dX10_feed_78 rfl ?_
    refine w_get (v := .ref (m + 1)) fX10_13 (hUs_at nd 0 rfl rfl) rfl dX10_feed_79 ?_
    refine w_aload_n dX10_feed_82 rfl ?_
    refine w_get (v := .int (nI tp)) fX10_96 (hUs_at nd 0 rfl rfl) rfl dX10_feed_83 ?_
    refine w_iload dX10_feed_86 rfl ?_
    refine w_iaddE (z := nI (tp + ((((((((((((((((0 + 1) + 1) + 1) + 1) + 1) + 1) + 1) + 1) + 1) + 1) + 1) + 1) + 1) + 1) + 1) + 1))) dX10_feed_88 (nI_add (tp) (((((((((((((((((0 + 1) + 1) + 1) + 1) + 1) + 1) + 1) + 1) + 1) + 1) + 1) + 1) + 1) + 1) + 1) + 1))) ?_
    refine w_iload dX10_feed_89 rfl ?_
    refine w_bipush (v := 24) dX10_feed_91 (by decide) ?_
    refine w_bipush (v := 8) dX10_feed_93 (by decide) ?_
    refine w_iload dX10_feed_95 rfl ?_
    refine w_iconst (v := 4) dX10_feed_97 (by decide) ?_
    refine w_iremE (z := nI (((((((((((((((((0 + 1) + 1) + 1) + 1) + 1) + 1) + 1) + 1) + 1) + 1) + 1) + 1) + 1) + 1) + 1) + 1) % 4)) dX10_feed_98 (nI_ne0 (n := 4) (by omega) (by omega)) (pk_rem (a := ((((((((((((((((0 + 1) + 1) + 1) + 1) + 1) + 1) + 1) + 1) + 1) + 1) + 1) + 1) + 1) + 1) + 1) + 1)) (d := 4) (by omega) (by omega) (by omega)) ?_
    refine w_imulE (z := nI (8 * (((((((((((((((((0 + 1) + 1) + 1) + 1) + 1) + 1) + 1) + 1) + 1) + 1) + 1) + 1) + 1) + 1) + 1) + 1) % 4))) dX10_feed_99 (pk_mul (8) ((((((((((((((((((0 + 1) + 1) + 1) + 1) + 1) + 1) + 1) + 1) + 1) + 1) + 1) + 1) + 1) + 1) + 1) + 1) % 4))) ?_
    refine w_isubE (z := nI (24 - (8 * (((((((((((((((((0 + 1) + 1) + 1) + 1) + 1) + 1) + 1) + 1) + 1) + 1) + 1) + 1) + 1) + 1) + 1) + 1) % 4)))) dX10_feed_100 (pk_sub (a := 24) (b := (8 * (((((((((((((((((0 + 1) + 1) + 1) + 1) + 1) + 1) + 1) + 1) + 1) + 1) + 1) + 1) + 1) + 1) + 1) + 1) % 4))) (by omega)) ?_
    refine w_ishr dX10_feed_101 ?_
    refine w_sipush (v := 255) dX10_feed_102 (by decide) ?_
    refine w_iand dX10_feed_105 ?_
    refine w_iastoreN (hUs_at nd 1 rfl rfl) (by omega) (by omega) dX10_feed_106 ?_
    refine w_heq (hUs_set nd rfl 1 (cs' := [(oC 10 (mF m 0 tr pl (nI tp) sz sp fa fl tk ta sg nu wd (nI P.1) (nI P.2.1) rl rw ht sd ah cl)), (aI 600 (upd (upd (upd (upd (upd (upd (upd (upd (upd (upd (upd (upd (upd (upd (upd (upd (upd gt (tp + 0) ((a1 >>> ((nI (24 - (8 * (0 % 4)))) &&& 31)) &&& 255)) (tp + (0 + 1)) ((a1 >>> ((nI (24 - (8 * ((0 + 1) % 4)))) &&& 31)) &&& 255)) (tp + ((0 + 1) + 1)) ((a1 >>> ((nI (24 - (8 * (((0 + 1) + 1) % 4)))) &&& 31)) &&& 255)) (tp + (((0 + 1) + 1) + 1)) ((a1 >>> ((nI (24 - (8 * ((((0 + 1) + 1) + 1) % 4)))) &&& 31)) &&& 255)) (tp + ((((0 + 1) + 1) + 1) + 1)) ((a2 >>> ((nI (24 - (8 * (((((0 + 1) + 1) + 1) + 1) % 4)))) &&& 31)) &&& 255)) (tp + (((((0 + 1) + 1) + 1) + 1) + 1)) ((a2 >>> ((nI (24 - (8 * ((((((0 + 1) + 1) + 1) + 1) + 1) % 4)))) &&& 31)) &&& 255)) (tp + ((((((0 + 1) + 1) + 1) + 1) + 1) + 1)) ((a2 >>> ((nI (24 - (8 * (((((((0 + 1) + 1) + 1) + 1) + 1) + 1) % 4)))) &&& 31)) &&& 255)) (tp + (((((((0 + 1) + 1) + 1) + 1) + 1) + 1) + 1)) ((a2 >>> ((nI (24 - (8 * ((((((((0 + 1) + 1) + 1) + 1) + 1) + 1) + 1) % 4)))) &&& 31)) &&& 255)) (tp + ((((((((0 + 1) + 1) + 1) + 1) + 1) + 1) + 1) + 1)) ((a3 >>> ((nI (24 - (8 * (((((((((0 + 1) + 1) + 1) + 1) + 1) + 1) + 1) + 1) % 4)))) &&& 31)) &&& 255)) (tp + (((((((((0 + 1) + 1) + 1) + 1) + 1) + 1) + 1) + 1) + 1)) ((a3 >>> ((nI (24 - (8 * ((((((((((0 + 1) + 1) + 1) + 1) + 1) + 1) + 1) + 1) + 1) % 4)))) &&& 31)) &&& 255)) (tp + ((((((((((0 + 1) + 1) + 1) + 1) + 1) + 1) + 1) + 1) + 1) + 1)) ((a3 >>> ((nI (24 - (8 * (((((((((((0 + 1) + 1) + 1) + 1) + 1) + 1) + 1) + 1) + 1) + 1) % 4)))) &&& 31)) &&& 255)) (tp + (((((((((((0 + 1) + 1) + 1) + 1) + 1) + 1) + 1) + 1) + 1) + 1) + 1)) ((a3 >>> ((nI (24 - (8 * ((((((((((((0 + 1) + 1) + 1) + 1) + 1) + 1) + 1) + 1) + 1) + 1) + 1) % 4)))) &&& 31)) &&& 255)) (tp + ((((((((((((0 + 1) + 1) + 1) + 1) + 1) + 1) + 1) + 1) + 1) + 1) + 1) + 1)) ((a4 >>> ((nI (24 - (8 * (((((((((((((0 + 1) + 1) + 1) + 1) + 1) + 1) + 1) + 1) + 1) + 1) + 1) + 1) % 4)))) &&& 31)) &&& 255)) (tp + (((((((((((((0 + 1) + 1) + 1) + 1) + 1) + 1) + 1) + 1) + 1) + 1) + 1) + 1) + 1)) ((a4 >>> ((nI (24 - (8 * ((((((((((((((0 + 1) + 1) + 1) + 1) + 1) + 1) + 1) + 1) + 1) + 1) + 1) + 1) + 1) % 4)))) &&& 31)) &&& 255)) (tp + ((((((((((((((0 + 1) + 1) + 1) + 1) + 1) + 1) + 1) + 1) + 1) + 1) + 1) + 1) + 1) + 1)) ((a4 >>> ((nI (24 - (8 * (((((((((((((((0 + 1) + 1) + 1) + 1) + 1) + 1) + 1) + 1) + 1) + 1) + 1) + 1) + 1) + 1) % 4)))) &&& 31)) &&& 255)) (tp + (((((((((((((((0 + 1) + 1) + 1) + 1) + 1) + 1) + 1) + 1) + 1) + 1) + 1) + 1) + 1) + 1) + 1)) ((a4 >>> ((nI (24 - (8 * ((((((((((((((((0 + 1) + 1) + 1) + 1) + 1) + 1) + 1) + 1) + 1) + 1) + 1) + 1) + 1) + 1) + 1) % 4)))) &&& 31)) &&& 255)) (tp + ((((((((((((((((0 + 1) + 1) + 1) + 1) + 1) + 1) + 1) + 1) + 1) + 1) + 1) + 1) + 1) + 1) + 1) + 1)) ((a5 >>> ((nI (24 - (8 * (((((((((((((((((0 + 1) + 1) + 1) + 1) + 1) + 1) + 1) + 1) + 1) + 1) + 1) + 1) + 1) + 1) + 1) + 1) % 4)))) &&& 31)) &&& 255)))]) rfl rfl) ?_
    refine w_iinc (v := nI (((((((((((((((((0 + 1) + 1) + 1) + 1) + 1) + 1) + 1) + 1) + 1) + 1) + 1) + 1) + 1) + 1) + 1) + 1) + 1)) (ls2 := [some (.ref m), some (.int a1), some (.int a2), some (.int a3), some (.int a4), some (.int a5), some (.int (nI (((((((((((((((((0 + 1) + 1) + 1) + 1) + 1) + 1) + 1) + 1) + 1) + 1) + 1) + 1) + 1) + 1) + 1) + 1) + 1))), some (.int a5)]) dX10_feed_107 rfl (nI_1 _) (by decide) rfl rfl ?_
    refine w_goto (tgt := 23) dX10_feed_110 rfl ?_
    refine w_iload dX10_feed_23 rfl ?_
    refine w_bipush (v := 20) dX10_feed_25 (by decide) ?_
    refine w_icmp_ge_f (tgt := 113) dX10_feed_27 rfl (fun z => absurd ((nI_leI (a := 20) (b := (((((((((((((((((0 + 1) + 1) + 1) + 1) + 1) + 1) + 1) + 1) + 1) + 1) + 1) + 1) + 1) + 1) + 1) + 1) + 1)) (by omega) (by omega)).mp z) (by omega)) ?_
    refine w_iload dX10_feed_30 rfl ?_
    refine w_iconst (v := 4) dX10_feed_32 (by decide) ?_
    refine w_icmp_ge_t (tgt := 40) dX10_feed_33 rfl ((nI_leI (a := 4) (b := (((((((((((((((((0 + 1) + 1) + 1) + 1) + 1) + 1) + 1) + 1) + 1) + 1) + 1) + 1) + 1) + 1) + 1) + 1) + 1)) (by omega) (by omega)).mpr (by omega)) ?_
    refine w_iload dX10_feed_40 rfl ?_
    refine w_bipush (v := 8) dX10_feed_42 (by decide) ?_
    refine w_icmp_ge_t (tgt := 51) dX10_feed_44 rfl ((nI_leI (a := 8) (b := (((((((((((((((((0 + 1) + 1) + 1) + 1) + 1) + 1) + 1) + 1) + 1) + 1) + 1) + 1) + 1) + 1) + 1) + 1) + 1)) (by omega) (by omega)).mpr (by omega)) ?_
    refine w_iload dX10_feed_51 rfl ?_
    refine w_bipush (v := 12) dX10_feed_53 (by decide) ?_
    refine w_icmp_ge_t (tgt := 62) dX10_feed_55 rfl ((nI_leI (a := 12) (b := (((((((((((((((((0 + 1) + 1) + 1) + 1) + 1) + 1) + 1) + 1) + 1) + 1) + 1) + 1) + 1) + 1) + 1) + 1) + 1)) (by omega) (by omega)).mpr (by omega)) ?_
    refine w_iload dX10_feed_62 rfl ?_
    refine w_bipush (v := 16) dX10_feed_64 (by decide) ?_
    refine w_icmp_ge_t (tgt := 74) dX10_feed_66 rfl ((nI_leI (a := 16) (b := (((((((((((((((((0 + 1) + 1) + 1) + 1) + 1) + 1) + 1) + 1) + 1) + 1) + 1) + 1) + 1) + 1) + 1) + 1) + 1)) (by omega) (by omega)).mpr (by omega)) ?_
    refine w_iload dX10_feed_74 rfl ?_
    refine w_istore (ls2 := [some (.ref m), some (.int a1), some (.int a2), some (.int a3), some (.int a4), some (.int a5), some (.int (nI (((((((((((((((((0 + 1) + 1) + 1) + 1) + 1) + 1) + 1) + 1) + 1) + 1) + 1) + 1) + 1) + 1) + 1) + 1) + 1))), some (.int a5)]) dX10_feed_76 (by decide) rfl rfl ?_
    refine w_aload_n dX10_feed_78 rfl ?_
    refine w_get (v := .ref (m + 1)) fX10_13 (hUs_at nd 0 rfl rfl) rfl dX10_feed_79 ?_
    refine w_aload_n dX10_feed_82 rfl ?_
    refine w_get (v := .int (nI tp)) fX10_96 (hUs_at nd 0 rfl rfl) rfl dX10_feed_83 ?_
    refine w_iload dX10_feed_86 rfl ?_
    refine w_iaddE (z := nI (tp + (((((((((((((((((0 + 1) + 1) + 1) + 1) + 1) + 1) + 1) + 1) + 1) + 1) + 1) + 1) + 1) + 1) + 1) + 1) + 1))) dX10_feed_88 (nI_add (tp) ((((((((((((((((((0 + 1) + 1) + 1) + 1) + 1) + 1) + 1) + 1) + 1) + 1) + 1) + 1) + 1) + 1) + 1) + 1) + 1))) ?_
    refine w_iload dX10_feed_89 rfl ?_
    refine w_bipush (v := 24) dX10_feed_91 (by decide) ?_
    refine w_bipush (v := 8) dX10_feed_93 (by decide) ?_
    refine w_iload dX10_feed_95 rfl ?_
    refine w_iconst (v := 4) dX10_feed_97 (by decide) ?_
    refine w_iremE (z := nI ((((((((((((((((((0 + 1) + 1) + 1) + 1) + 1) + 1) + 1) + 1) + 1) + 1) + 1) + 1) + 1) + 1) + 1) + 1) + 1) % 4)) dX10_feed_98 (nI_ne0 (n := 4) (by omega) (by omega)) (pk_rem (a := (((((((((((((((((0 + 1) + 1) + 1) + 1) + 1) + 1) + 1) + 1) + 1) + 1) + 1) + 1) + 1) + 1) + 1) + 1) + 1)) (d := 4) (by omega) (by omega) (by omega)) ?_
    refine w_imulE (z := nI (8 * ((((((((((((((((((0 + 1) + 1) + 1) + 1) + 1) + 1) + 1) + 1) + 1) + 1) + 1) + 1) + 1) + 1) + 1) + 1) + 1) % 4))) dX10_feed_99 (pk_mul (8) (((((((((((((((((((0 + 1) + 1) + 1) + 1) + 1) + 1) + 1) + 1) + 1) + 1) + 1) + 1) + 1) + 1) + 1) + 1) + 1) % 4))) ?_
    refine w_isubE (z := nI (24 - (8 * ((((((((((((((((((0 + 1) + 1) + 1) + 1) + 1) + 1) + 1) + 1) + 1) + 1) + 1) + 1) + 1) + 1) + 1) + 1) + 1) % 4)))) dX10_feed_100 (pk_sub (a := 24) (b := (8 * ((((((((((((((((((0 + 1) + 1) + 1) + 1) + 1) + 1) + 1) + 1) + 1) + 1) + 1) + 1) + 1) + 1) + 1) + 1) + 1) % 4))) (by omega)) ?_
    refine w_ishr dX10_feed_101 ?_
    refine w_sipush (v := 255) dX10_feed_102 (by decide) ?_
    refine w_iand dX10_feed_105 ?_
    refine w_iastoreN (hUs_at nd 1 rfl rfl) (by omega) (by omega) dX10_feed_106 ?_
    refine w_heq (hUs_set nd rfl 1 (cs' := [(oC 10 (mF m 0 tr pl (nI tp) sz sp fa fl tk ta sg nu wd (nI P.1) (nI P.2.1) rl rw ht sd ah cl)), (aI 600 (upd (upd (upd (upd (upd (upd (upd (upd (upd (upd (upd (upd (upd (upd (upd (upd (upd (upd gt (tp + 0) ((a1 >>> ((nI (24 - (8 * (0 % 4)))) &&& 31)) &&& 255)) (tp + (0 + 1)) ((a1 >>> ((nI (24 - (8 * ((0 + 1) % 4)))) &&& 31)) &&& 255)) (tp + ((0 + 1) + 1)) ((a1 >>> ((nI (24 - (8 * (((0 + 1) + 1) % 4)))) &&& 31)) &&& 255)) (tp + (((0 + 1) + 1) + 1)) ((a1 >>> ((nI (24 - (8 * ((((0 + 1) + 1) + 1) % 4)))) &&& 31)) &&& 255)) (tp + ((((0 + 1) + 1) + 1) + 1)) ((a2 >>> ((nI (24 - (8 * (((((0 + 1) + 1) + 1) + 1) % 4)))) &&& 31)) &&& 255)) (tp + (((((0 + 1) + 1) + 1) + 1) + 1)) ((a2 >>> ((nI (24 - (8 * ((((((0 + 1) + 1) + 1) + 1) + 1) % 4)))) &&& 31)) &&& 255)) (tp + ((((((0 + 1) + 1) + 1) + 1) + 1) + 1)) ((a2 >>> ((nI (24 - (8 * (((((((0 + 1) + 1) + 1) + 1) + 1) + 1) % 4)))) &&& 31)) &&& 255)) (tp + (((((((0 + 1) + 1) + 1) + 1) + 1) + 1) + 1)) ((a2 >>> ((nI (24 - (8 * ((((((((0 + 1) + 1) + 1) + 1) + 1) + 1) + 1) % 4)))) &&& 31)) &&& 255)) (tp + ((((((((0 + 1) + 1) + 1) + 1) + 1) + 1) + 1) + 1)) ((a3 >>> ((nI (24 - (8 * (((((((((0 + 1) + 1) + 1) + 1) + 1) + 1) + 1) + 1) % 4)))) &&& 31)) &&& 255)) (tp + (((((((((0 + 1) + 1) + 1) + 1) + 1) + 1) + 1) + 1) + 1)) ((a3 >>> ((nI (24 - (8 * ((((((((((0 + 1) + 1) + 1) + 1) + 1) + 1) + 1) + 1) + 1) % 4)))) &&& 31)) &&& 255)) (tp + ((((((((((0 + 1) + 1) + 1) + 1) + 1) + 1) + 1) + 1) + 1) + 1)) ((a3 >>> ((nI (24 - (8 * (((((((((((0 + 1) + 1) + 1) + 1) + 1) + 1) + 1) + 1) + 1) + 1) % 4)))) &&& 31)) &&& 255)) (tp + (((((((((((0 + 1) + 1) + 1) + 1) + 1) + 1) + 1) + 1) + 1) + 1) + 1)) ((a3 >>> ((nI (24 - (8 * ((((((((((((0 + 1) + 1) + 1) + 1) + 1) + 1) + 1) + 1) + 1) + 1) + 1) % 4)))) &&& 31)) &&& 255)) (tp + ((((((((((((0 + 1) + 1) + 1) + 1) + 1) + 1) + 1) + 1) + 1) + 1) + 1) + 1)) ((a4 >>> ((nI (24 - (8 * (((((((((((((0 + 1) + 1) + 1) + 1) + 1) + 1) + 1) + 1) + 1) + 1) + 1) + 1) % 4)))) &&& 31)) &&& 255)) (tp + (((((((((((((0 + 1) + 1) + 1) + 1) + 1) + 1) + 1) + 1) + 1) + 1) + 1) + 1) + 1)) ((a4 >>> ((nI (24 - (8 * ((((((((((((((0 + 1) + 1) + 1) + 1) + 1) + 1) + 1) + 1) + 1) + 1) + 1) + 1) + 1) % 4)))) &&& 31)) &&& 255)) (tp + ((((((((((((((0 + 1) + 1) + 1) + 1) + 1) + 1) + 1) + 1) + 1) + 1) + 1) + 1) + 1) + 1)) ((a4 >>> ((nI (24 - (8 * (((((((((((((((0 + 1) + 1) + 1) + 1) + 1) + 1) + 1) + 1) + 1) + 1) + 1) + 1) + 1) + 1) % 4)))) &&& 31)) &&& 255)) (tp + (((((((((((((((0 + 1) + 1) + 1) + 1) + 1) + 1) + 1) + 1) + 1) + 1) + 1) + 1) + 1) + 1) + 1)) ((a4 >>> ((nI (24 - (8 * ((((((((((((((((0 + 1) + 1) + 1) + 1) + 1) + 1) + 1) + 1) + 1) + 1) + 1) + 1) + 1) + 1) + 1) % 4)))) &&& 31)) &&& 255)) (tp + ((((((((((((((((0 + 1) + 1) + 1) + 1) + 1) + 1) + 1) + 1) + 1) + 1) + 1) + 1) + 1) + 1) + 1) + 1)) ((a5 >>> ((nI (24 - (8 * (((((((((((((((((0 + 1) + 1) + 1) + 1) + 1) + 1) + 1) + 1) + 1) + 1) + 1) + 1) + 1) + 1) + 1) + 1) % 4)))) &&& 31)) &&& 255)) (tp + (((((((((((((((((0 + 1) + 1) + 1) + 1) + 1) + 1) + 1) + 1) + 1) + 1) + 1) + 1) + 1) + 1) + 1) + 1) + 1)) ((a5 >>> ((nI (24 - (8 * ((((((((((((((((((0 + 1) + 1) + 1) + 1) + 1) + 1) + 1) + 1) + 1) + 1) + 1) + 1) + 1) + 1) + 1) + 1) + 1) % 4)))) &&& 31)) &&& 255)))]) rfl rfl) ?_
    refine w_iinc (v := nI ((((((((((((((((((0 + 1) + 1) + 1) + 1) + 1) + 1) + 1) + 1) + 1) + 1) + 1) + 1) + 1) + 1) + 1) + 1) + 1) + 1)) (ls2 := [some (.ref m), some (.int a1), some (.int a2), some (.int a3), some (.int a4), some (.int a5), some (.int (nI ((((((((((((((((((0 + 1) + 1) + 1) + 1) + 1) + 1) + 1) + 1) + 1) + 1) + 1) + 1) + 1) + 1) + 1) + 1) + 1) + 1))), some (.int a5)]) dX10_feed_107 rfl (nI_1 _) (by decide) rfl rfl ?_
    refine w_goto (tgt := 23) dX10_feed_110 rfl ?_
    refine w_iload dX10_feed_23 rfl ?_
    refine w_bipush (v := 20) dX10_feed_25 (by decide) ?_
    refine w_icmp_ge_f (tgt := 113) dX10_feed_27 rfl (fun z => absurd ((nI_leI (a := 20) (b := ((((((((((((((((((0 + 1) + 1) + 1) + 1) + 1) + 1) + 1) + 1) + 1) + 1) + 1) + 1) + 1) + 1) + 1) + 1) + 1) + 1)) (by omega) (by omega)).mp z) (by omega)) ?_
    refine w_iload dX10_feed_30 rfl ?_
    refine w_iconst (v := 4) dX10_feed_32 (by decide) ?_
    refine w_icmp_ge_t (tgt := 40) dX10_feed_33 rfl ((nI_leI (a := 4) (b := ((((((((((((((((((0 + 1) + 1) + 1) + 1) + 1) + 1) + 1) + 1) + 1) + 1) + 1) + 1) + 1) + 1) + 1) + 1) + 1) + 1)) (by omega) (by omega)).mpr (by omega)) ?_
    refine w_iload dX10_feed_40 rfl ?_
    refine w_bipush (v := 8) dX10_feed_42 (by decide) ?_
    refine w_icmp_ge_t (tgt := 51) dX10_feed_44 rfl ((nI_leI (a := 8) (b := ((((((((((((((((((0 + 1) + 1) + 1) + 1) + 1) + 1) + 1) + 1) + 1) + 1) + 1) + 1) + 1) + 1) + 1) + 1) + 1) + 1)) (by omega) (by omega)).mpr (by omega)) ?_
    refine w_iload dX10_feed_51 rfl ?_
    refine w_bipush (v := 12) dX10_feed_53 (by decide) ?_
    refine w_icmp_ge_t (tgt := 62) dX10_feed_55 rfl ((nI_leI (a := 12) (b := ((((((((((((((((((0 + 1) + 1) + 1) + 1) + 1) + 1) + 1) + 1) + 1) + 1) + 1) + 1) + 1) + 1) + 1) + 1) + 1) + 1)) (by omega) (by omega)).mpr (by omega)) ?_
    refine w_iload dX10_feed_62 rfl ?_
    refine w_bipush (v := 16) dX10_feed_64 (by decide) ?_
    refine w_icmp_ge_t (tgt := 74) dX10_feed_66 rfl ((nI_leI (a := 16) (b := ((((((((((((((((((0 + 1) + 1) + 1) + 1) + 1) + 1) + 1) + 1) + 1) + 1) + 1) + 1) + 1) + 1) + 1) + 1) + 1) + 1)) (by omega) (by omega)).mpr (by omega)) ?_
    refine w_iload dX10_feed_74 rfl ?_
    refine w_istore (ls2 := [some (.ref m), some (.int a1), some (.int a2), some (.int a3), some (.int a4), some (.int a5), some (.int (nI ((((((((((((((((((0 + 1) + 1) + 1) + 1) + 1) + 1) + 1) + 1) + 1) + 1) + 1) + 1) + 1) + 1) + 1) + 1) + 1) + 1))), some (.int a5)]) dX10_feed_76 (by decide) rfl rfl ?_
    refine w_aload_n dX10_feed_78 rfl ?_
    refine w_get (v := .ref (m + 1)) fX10_13 (hUs_at nd 0 rfl rfl) rfl dX10_feed_79 ?_
    refine w_aload_n dX10_feed_82 rfl ?_
    refine w_get (v := .int (nI tp)) fX10_96 (hUs_at nd 0 rfl rfl) rfl dX10_feed_83 ?_
    refine w_iload dX10_feed_86 rfl ?_
    refine w_iaddE (z := nI (tp + ((((((((((((((((((0 + 1) + 1) + 1) + 1) + 1) + 1) + 1) + 1) + 1) + 1) + 1) + 1) + 1) + 1) + 1) + 1) + 1) + 1))) dX10_feed_88 (nI_add (tp) (((((((((((((((((((0 + 1) + 1) + 1) + 1) + 1) + 1) + 1) + 1) + 1) + 1) + 1) + 1) + 1) + 1) + 1) + 1) + 1) + 1))) ?_
    refine w_iload dX10_feed_89 rfl ?_
    refine w_bipush (v := 24) dX10_feed_91 (by decide) ?_
    refine w_bipush (v := 8) dX10_feed_93 (by decide) ?_
    refine w_iload dX10_feed_95 rfl ?_
    refine w_iconst (v := 4) dX10_feed_97 (by decide) ?_
    refine w_iremE (z := nI (((((((((((((((((((0 + 1) + 1) + 1) + 1) + 1) + 1) + 1) + 1) + 1) + 1) + 1) + 1) + 1) + 1) + 1) + 1) + 1) + 1) % 4)) dX10_feed_98 (nI_ne0 (n := 4) (by omega) (by omega)) (pk_rem (a := ((((((((((((((((((0 + 1) + 1) + 1) + 1) + 1) + 1) + 1) + 1) + 1) + 1) + 1) + 1) + 1) + 1) + 1) + 1) + 1) + 1)) (d := 4) (by omega) (by omega) (by omega)) ?_
    refine w_imulE (z := nI (8 * (((((((((((((((((((0 + 1) + 1) + 1) + 1) + 1) + 1) + 1) + 1) + 1) + 1) + 1) + 1) + 1) + 1) + 1) + 1) + 1) + 1) % 4))) dX10_feed_99 (pk_mul (8) ((((((((((((((((((((0 + 1) + 1) + 1) + 1) + 1) + 1) + 1) + 1) + 1) + 1) + 1) + 1) + 1) + 1) + 1) + 1) + 1) + 1) % 4))) ?_
    refine w_isubE (z := nI (24 - (8 * (((((((((((((((((((0 + 1) + 1) + 1) + 1) + 1) + 1) + 1) + 1) + 1) + 1) + 1) + 1) + 1) + 1) + 1) + 1) + 1) + 1) % 4)))) dX10_feed_100 (pk_sub (a := 24) (b := (8 * (((((((((((((((((((0 + 1) + 1) + 1) + 1) + 1) + 1) + 1) + 1) + 1) + 1) + 1) + 1) + 1) + 1) + 1) + 1) + 1) + 1) % 4))) (by omega)) ?_
    refine w_ishr dX10_feed_101 ?_
    refine w_sipush (v := 255) dX10_feed_102 (by decide) ?_
    refine w_iand dX10_feed_105 ?_
    refine w_iastoreN (hUs_at nd 1 rfl rfl) (by omega) (by omega) dX10_feed_106 ?_
    refine w_heq (hUs_set nd rfl 1 (cs' := [(oC 10 (mF m 0 tr pl (nI tp) sz sp fa fl tk ta sg nu wd (nI P.1) (nI P.2.1) rl rw ht sd ah cl)), (aI 600 (upd (upd (upd (upd (upd (upd (upd (upd (upd (upd (upd (upd (upd (upd (upd (upd (upd (upd (upd gt (tp + 0) ((a1 >>> ((nI (24 - (8 * (0 % 4)))) &&& 31)) &&& 255)) (tp + (0 + 1)) ((a1 >>> ((nI (24 - (8 * ((0 + 1) % 4)))) &&& 31)) &&& 255)) (tp + ((0 + 1) + 1)) ((a1 >>> ((nI (24 - (8 * (((0 + 1) + 1) % 4)))) &&& 31)) &&& 255)) (tp + (((0 + 1) + 1) + 1)) ((a1 >>> ((nI (24 - (8 * ((((0 + 1) + 1) + 1) % 4)))) &&& 31)) &&& 255)) (tp + ((((0 + 1) + 1) + 1) + 1)) ((a2 >>> ((nI (24 - (8 * (((((0 + 1) + 1) + 1) + 1) % 4)))) &&& 31)) &&& 255)) (tp + (((((0 + 1) + 1) + 1) + 1) + 1)) ((a2 >>> ((nI (24 - (8 * ((((((0 + 1) + 1) + 1) + 1) + 1) % 4)))) &&& 31)) &&& 255)) (tp + ((((((0 + 1) + 1) + 1) + 1) + 1) + 1)) ((a2 >>> ((nI (24 - (8 * (((((((0 + 1) + 1) + 1) + 1) + 1) + 1) % 4)))) &&& 31)) &&& 255)) (tp + (((((((0 + 1) + 1) + 1) + 1) + 1) + 1) + 1)) ((a2 >>> ((nI (24 - (8 * ((((((((0 + 1) + 1) + 1) + 1) + 1) + 1) + 1) % 4)))) &&& 31)) &&& 255)) (tp + ((((((((0 + 1) + 1) + 1) + 1) + 1) + 1) + 1) + 1)) ((a3 >>> ((nI (24 - (8 * (((((((((0 + 1) + 1) + 1) + 1) + 1) + 1) + 1) + 1) % 4)))) &&& 31)) &&& 255)) (tp + (((((((((0 + 1) + 1) + 1) + 1) + 1) + 1) + 1) + 1) + 1)) ((a3 >>> ((nI (24 - (8 * ((((((((((0 + 1) + 1) + 1) + 1) + 1) + 1) + 1) + 1) + 1) % 4)))) &&& 31)) &&& 255)) (tp + ((((((((((0 + 1) + 1) + 1) + 1) + 1) + 1) + 1) + 1) + 1) + 1)) ((a3 >>> ((nI (24 - (8 * (((((((((((0 + 1) + 1) + 1) + 1) + 1) + 1) + 1) + 1) + 1) + 1) % 4)))) &&& 31)) &&& 255)) (tp + (((((((((((0 + 1) + 1) + 1) + 1) + 1) + 1) + 1) + 1) + 1) + 1) + 1)) ((a3 >>> ((nI (24 - (8 * ((((((((((((0 + 1) + 1) + 1) + 1) + 1) + 1) + 1) + 1) + 1) + 1) + 1) % 4)))) &&& 31)) &&& 255)) (tp + ((((((((((((0 + 1) + 1) + 1) + 1) + 1) + 1) + 1) + 1) + 1) + 1) + 1) + 1)) ((a4 >>> ((nI (24 - (8 * (((((((((((((0 + 1) + 1) + 1) + 1) + 1) + 1) + 1) + 1) + 1) + 1) + 1) + 1) % 4)))) &&& 31)) &&& 255)) (tp + (((((((((((((0 + 1) + 1) + 1) + 1) + 1) + 1) + 1) + 1) + 1) + 1) + 1) + 1) + 1)) ((a4 >>> ((nI (24 - (8 * ((((((((((((((0 + 1) + 1) + 1) + 1) + 1) + 1) + 1) + 1) + 1) + 1) + 1) + 1) + 1) % 4)))) &&& 31)) &&& 255)) (tp + ((((((((((((((0 + 1) + 1) + 1) + 1) + 1) + 1) + 1) + 1) + 1) + 1) + 1) + 1) + 1) + 1)) ((a4 >>> ((nI (24 - (8 * (((((((((((((((0 + 1) + 1) + 1) + 1) + 1) + 1) + 1) + 1) + 1) + 1) + 1) + 1) + 1) + 1) % 4)))) &&& 31)) &&& 255)) (tp + (((((((((((((((0 + 1) + 1) + 1) + 1) + 1) + 1) + 1) + 1) + 1) + 1) + 1) + 1) + 1) + 1) + 1)) ((a4 >>> ((nI (24 - (8 * ((((((((((((((((0 + 1) + 1) + 1) + 1) + 1) + 1) + 1) + 1) + 1) + 1) + 1) + 1) + 1) + 1) + 1) % 4)))) &&& 31)) &&& 255)) (tp + ((((((((((((((((0 + 1) + 1) + 1) + 1) + 1) + 1) + 1) + 1) + 1) + 1) + 1) + 1) + 1) + 1) + 1) + 1)) ((a5 >>> ((nI (24 - (8 * (((((((((((((((((0 + 1) + 1) + 1) + 1) + 1) + 1) + 1) + 1) + 1) + 1) + 1) + 1) + 1) + 1) + 1) + 1) % 4)))) &&& 31)) &&& 255)) (tp + (((((((((((((((((0 + 1) + 1) + 1) + 1) + 1) + 1) + 1) + 1) + 1) + 1) + 1) + 1) + 1) + 1) + 1) + 1) + 1)) ((a5 >>> ((nI (24 - (8 * ((((((((((((((((((0 + 1) + 1) + 1) + 1) + 1) + 1) + 1) + 1) + 1) + 1) + 1) + 1) + 1) + 1) + 1) + 1) + 1) % 4)))) &&& 31)) &&& 255)) (tp + ((((((((((((((((((0 + 1) + 1) + 1) + 1) + 1) + 1) + 1) + 1) + 1) + 1) + 1) + 1) + 1) + 1) + 1) + 1) + 1) + 1)) ((a5 >>> ((nI (24 - (8 * (((((((((((((((((((0 + 1) + 1) + 1) + 1) + 1) + 1) + 1) + 1) + 1) + 1) + 1) + 1) + 1) + 1) + 1) + 1) + 1) + 1) % 4)))) &&& 31)) &&& 255)))]) rfl rfl) ?_
    refine w_iinc (v := nI (((((((((((((((((((0 + 1) + 1) + 1) + 1) + 1) + 1) + 1) + 1) + 1) + 1) + 1) + 1) + 1) + 1) + 1) + 1) + 1) + 1) + 1)) (ls2 := [some (.ref m), some (.int a1), some (.int a2), some (.int a3), some (.int a4), some (.int a5), some (.int (nI (((((((((((((((((((0 + 1) + 1) + 1) + 1) + 1) + 1) + 1) + 1) + 1) + 1) + 1) + 1) + 1) + 1) + 1) + 1) + 1) + 1) + 1))), some (.int a5)]) dX10_feed_107 rfl (nI_1 _) (by decide) rfl rfl ?_
    refine w_goto (tgt := 23) dX10_feed_110 rfl ?_
    refine w_iload dX10_feed_23 rfl ?_
    refine w_bipush (v := 20) dX10_feed_25 (by decide) ?_
    refine w_icmp_ge_f (tgt := 113) dX10_feed_27 rfl (fun z => absurd ((nI_leI (a := 20) (b := (((((((((((((((((((0 + 1) + 1) + 1) + 1) + 1) + 1) + 1) + 1) + 1) + 1) + 1) + 1) + 1) + 1) + 1) + 1) + 1) + 1) + 1)) (by omega) (by omega)).mp z) (by omega)) ?_
    refine w_iload dX10_feed_30 rfl ?_
    refine w_iconst (v := 4) dX10_feed_32 (by decide) ?_
    refine w_icmp_ge_t (tgt := 40) dX10_feed_33 rfl ((nI_leI (a := 4) (b := (((((((((((((((((((0 + 1) + 1) + 1) + 1) + 1) + 1) + 1) + 1) + 1) + 1) + 1) + 1) + 1) + 1) + 1) + 1) + 1) + 1) + 1)) (by omega) (by omega)).mpr (by omega)) ?_
    refine w_iload dX10_feed_40 rfl ?_
    refine w_bipush (v := 8) dX10_feed_42 (by decide) ?_
    refine w_icmp_ge_t (tgt := 51) dX10_feed_44 rfl ((nI_leI (a := 8) (b := (((((((((((((((((((0 + 1) + 1) + 1) + 1) + 1) + 1) + 1) + 1) + 1) + 1) + 1) + 1) + 1) + 1) + 1) + 1) + 1) + 1) + 1)) (by omega) (by omega)).mpr (by omega)) ?_
    refine w_iload dX10_feed_51 rfl ?_
    refine w_bipush (v := 12) dX10_feed_53 (by decide) ?_
    refine w_icmp_ge_t (tgt := 62) dX10_feed_55 rfl ((nI_leI (a := 12) (b := (((((((((((((((((((0 + 1) + 1) + 1) + 1) + 1) + 1) + 1) + 1) + 1) + 1) + 1) + 1) + 1) + 1) + 1) + 1) + 1) + 1) + 1)) (by omega) (by omega)).mpr (by omega)) ?_
    refine w_iload dX10_feed_62 rfl ?_
    refine w_bipush (v := 16) dX10_feed_64 (by decide) ?_
    refine w_icmp_ge_t (tgt := 74) dX10_feed_66 rfl ((nI_leI (a := 16) (b := (((((((((((((((((((0 + 1) + 1) + 1) + 1) + 1) + 1) + 1) + 1) + 1) + 1) + 1) + 1) + 1) + 1) + 1) + 1) + 1) + 1) + 1)) (by omega) (by omega)).mpr (by omega)) ?_
    refine w_iload dX10_feed_74 rfl ?_
    refine w_istore (ls2 := [some (.ref m), some (.int a1), some (.int a2), some (.int a3), some (.int a4), some (.int a5), some (.int (nI (((((((((((((((((((0 + 1) + 1) + 1) + 1) + 1) + 1) + 1) + 1) + 1) + 1) + 1) + 1) + 1) + 1) + 1) + 1) + 1) + 1) + 1))), some (.int a5)]) dX10_feed_76 (by decide) rfl rfl ?_
    refine w_aload_n dX10_feed_78 rfl ?_
    refine w_get (v := .ref (m + 1)) fX10_13 (hUs_at nd 0 rfl rfl) rfl dX10_feed_79 ?_
    refine w_aload_n dX10_feed_82 rfl ?_
    refine w_get (v := .int (nI tp)) fX10_96 (hUs_at nd 0 rfl rfl) rfl dX10_feed_83 ?_
    refine w_iload dX10_feed_86 rfl ?_
    refine w_iaddE (z := nI (tp + (((((((((((((((((((0 + 1) + 1) + 1) + 1) + 1) + 1) + 1) + 1) + 1) + 1) + 1) + 1) + 1) + 1) + 1) + 1) + 1) + 1) + 1))) dX10_feed_88 (nI_add (tp) ((((((((((((((((((((0 + 1) + 1) + 1) + 1) + 1) + 1) + 1) + 1) + 1) + 1) + 1) + 1) + 1) + 1) + 1) + 1) + 1) + 1) + 1))) ?_
    refine w_iload dX10_feed_89 rfl ?_
    refine w_bipush (v := 24) dX10_feed_91 (by decide) ?_
    refine w_bipush (v := 8) dX10_feed_93 (by decide) ?_
    refine w_iload dX10_feed_95 rfl ?_
    refine w_iconst (v := 4) dX10_feed_97 (by decide) ?_
    refine w_iremE (z := nI ((((((((((((((((((((0 + 1) + 1) + 1) + 1) + 1) + 1) + 1) + 1) + 1) + 1) + 1) + 1) + 1) + 1) + 1) + 1) + 1) + 1) + 1) % 4)) dX10_feed_98 (nI_ne0 (n := 4) (by omega) (by omega)) (pk_rem (a := (((((((((((((((((((0 + 1) + 1) + 1) + 1) + 1) + 1) + 1) + 1) + 1) + 1) + 1) + 1) + 1) + 1) + 1) + 1) + 1) + 1) + 1)) (d := 4) (by omega) (by omega) (by omega)) ?_
    refine w_imulE (z := nI (8 * ((((((((((((((((((((0 + 1) + 1) + 1) + 1) + 1) + 1) + 1) + 1) + 1) + 1) + 1) + 1) + 1) + 1) + 1) + 1) + 1) + 1) + 1) % 4))) dX10_feed_99 (pk_mul (8) (((((((((((((((((((((0 + 1) + 1) + 1) + 1) + 1) + 1) + 1) + 1) + 1) + 1) + 1) + 1) + 1) + 1) + 1) + 1) + 1) + 1) + 1) % 4))) ?_
    refine w_isubE (z := nI (24 - (8 * ((((((((((((((((((((0 + 1) + 1) + 1) + 1) + 1) + 1) + 1) + 1) + 1) + 1) + 1) + 1) + 1) + 1) + 1) + 1) + 1) + 1) + 1) % 4)))) dX10_feed_100 (pk_sub (a := 24) (b := (8 * ((((((((((((((((((((0 + 1) + 1) + 1) + 1) + 1) + 1) + 1) + 1) + 1) + 1) + 1) + 1) + 1) + 1) + 1) + 1) + 1) + 1) + 1) % 4))) (by omega)) ?_
    refine w_ishr dX10_feed_101 ?_
    refine w_sipush (v := 255) dX10_feed_102 (by decide) ?_
    refine w_iand dX10_feed_105 ?_
    refine w_iastoreN (hUs_at nd 1 rfl rfl) (by omega) (by omega) dX10_feed_106 ?_
    refine w_heq (hUs_set nd rfl 1 (cs' := [(oC 10 (mF m 0 tr pl (nI tp) sz sp fa fl tk ta sg nu wd (nI P.1) (nI P.2.1) rl rw ht sd ah cl)), (aI 600 (upd (upd (upd (upd (upd (upd (upd (upd (upd (upd (upd (upd (upd (upd (upd (upd (upd (upd (upd (upd gt (tp + 0) ((a1 >>> ((nI (24 - (8 * (0 % 4)))) &&& 31)) &&& 255)) (tp + (0 + 1)) ((a1 >>> ((nI (24 - (8 * ((0 + 1) % 4)))) &&& 31)) &&& 255)) (tp + ((0 + 1) + 1)) ((a1 >>> ((nI (24 - (8 * (((0 + 1) + 1) % 4)))) &&& 31)) &&& 255)) (tp + (((0 + 1) + 1) + 1)) ((a1 >>> ((nI (24 - (8 * ((((0 + 1) + 1) + 1) % 4)))) &&& 31)) &&& 255)) (tp + ((((0 + 1) + 1) + 1) + 1)) ((a2 >>> ((nI (24 - (8 * (((((0 + 1) + 1) + 1) + 1) % 4)))) &&& 31)) &&& 255)) (tp + (((((0 + 1) + 1) + 1) + 1) + 1)) ((a2 >>> ((nI (24 - (8 * ((((((0 + 1) + 1) + 1) + 1) + 1) % 4)))) &&& 31)) &&& 255)) (tp + ((((((0 + 1) + 1) + 1) + 1) + 1) + 1)) ((a2 >>> ((nI (24 - (8 * (((((((0 + 1) + 1) + 1) + 1) + 1) + 1) % 4)))) &&& 31)) &&& 255)) (tp + (((((((0 + 1) + 1) + 1) + 1) + 1) + 1) + 1)) ((a2 >>> ((nI (24 - (8 * ((((((((0 + 1) + 1) + 1) + 1) + 1) + 1) + 1) % 4)))) &&& 31)) &&& 255)) (tp + ((((((((0 + 1) + 1) + 1) + 1) + 1) + 1) + 1) + 1)) ((a3 >>> ((nI (24 - (8 * (((((((((0 + 1) + 1) + 1) + 1) + 1) + 1) + 1) + 1) % 4)))) &&& 31)) &&& 255)) (tp + (((((((((0 + 1) + 1) + 1) + 1) + 1) + 1) + 1) + 1) + 1)) ((a3 >>> ((nI (24 - (8 * ((((((((((0 + 1) + 1) + 1) + 1) + 1) + 1) + 1) + 1) + 1) % 4)))) &&& 31)) &&& 255)) (tp + ((((((((((0 + 1) + 1) + 1) + 1) + 1) + 1) + 1) + 1) + 1) + 1)) ((a3 >>> ((nI (24 - (8 * (((((((((((0 + 1) + 1) + 1) + 1) + 1) + 1) + 1) + 1) + 1) + 1) % 4)))) &&& 31)) &&& 255)) (tp + (((((((((((0 + 1) + 1) + 1) + 1) + 1) + 1) + 1) + 1) + 1) + 1) + 1)) ((a3 >>> ((nI (24 - (8 * ((((((((((((0 + 1) + 1) + 1) + 1) + 1) + 1) + 1) + 1) + 1) + 1) + 1) % 4)))) &&& 31)) &&& 255)) (tp + ((((((((((((0 + 1) + 1) + 1) + 1) + 1) + 1) + 1) + 1) + 1) + 1) + 1) + 1)) ((a4 >>> ((nI (24 - (8 * (((((((((((((0 + 1) + 1) + 1) + 1) + 1) + 1) + 1) + 1) + 1) + 1) + 1) + 1) % 4)))) &&& 31)) &&& 255)) (tp + (((((((((((((0 + 1) + 1) + 1) + 1) + 1) + 1) + 1) + 1) + 1) + 1) + 1) + 1) + 1)) ((a4 >>> ((nI (24 - (8 * ((((((((((((((0 + 1) + 1) + 1) + 1) + 1) + 1) + 1) + 1) + 1) + 1) + 1) + 1) + 1) % 4)))) &&& 31)) &&& 255)) (tp + ((((((((((((((0 + 1) + 1) + 1) + 1) + 1) + 1) + 1) + 1) + 1) + 1) + 1) + 1) + 1) + 1)) ((a4 >>> ((nI (24 - (8 * (((((((((((((((0 + 1) + 1) + 1) + 1) + 1) + 1) + 1) + 1) + 1) + 1) + 1) + 1) + 1) + 1) % 4)))) &&& 31)) &&& 255)) (tp + (((((((((((((((0 + 1) + 1) + 1) + 1) + 1) + 1) + 1) + 1) + 1) + 1) + 1) + 1) + 1) + 1) + 1)) ((a4 >>> ((nI (24 - (8 * ((((((((((((((((0 + 1) + 1) + 1) + 1) + 1) + 1) + 1) + 1) + 1) + 1) + 1) + 1) + 1) + 1) + 1) % 4)))) &&& 31)) &&& 255)) (tp + ((((((((((((((((0 + 1) + 1) + 1) + 1) + 1) + 1) + 1) + 1) + 1) + 1) + 1) + 1) + 1) + 1) + 1) + 1)) ((a5 >>> ((nI (24 - (8 * (((((((((((((((((0 + 1) + 1) + 1) + 1) + 1) + 1) + 1) + 1) + 1) + 1) + 1) + 1) + 1) + 1) + 1) + 1) % 4)))) &&& 31)) &&& 255)) (tp + (((((((((((((((((0 + 1) + 1) + 1) + 1) + 1) + 1) + 1) + 1) + 1) + 1) + 1) + 1) + 1) + 1) + 1) + 1) + 1)) ((a5 >>> ((nI (24 - (8 * ((((((((((((((((((0 + 1) + 1) + 1) + 1) + 1) + 1) + 1) + 1) + 1) + 1) + 1) + 1) + 1) + 1) + 1) + 1) + 1) % 4)))) &&& 31)) &&& 255)) (tp + ((((((((((((((((((0 + 1) + 1) + 1) + 1) + 1) + 1) + 1) + 1) + 1) + 1) + 1) + 1) + 1) + 1) + 1) + 1) + 1) + 1)) ((a5 >>> ((nI (24 - (8 * (((((((((((((((((((0 + 1) + 1) + 1) + 1) + 1) + 1) + 1) + 1) + 1) + 1) + 1) + 1) + 1) + 1) + 1) + 1) + 1) + 1) % 4)))) &&& 31)) &&& 255)) (tp + (((((((((((((((((((0 + 1) + 1) + 1) + 1) + 1) + 1) + 1) + 1) + 1) + 1) + 1) + 1) + 1) + 1) + 1) + 1) + 1) + 1) + 1)) ((a5 >>> ((nI (24 - (8 * ((((((((((((((((((((0 + 1) + 1) + 1) + 1) + 1) + 1) + 1) + 1) + 1) + 1) + 1) + 1) + 1) + 1) + 1) + 1) + 1) + 1) + 1) % 4)))) &&& 31)) &&& 255)))]) rfl rfl) ?_
    refine w_iinc (v := nI ((((((((((((((((((((0 + 1) + 1) + 1) + 1) + 1) + 1) + 1) + 1) + 1) + 1) + 1) + 1) + 1) + 1) + 1) + 1) + 1) + 1) + 1) + 1)) (ls2 := [some (.ref m), some (.int a1), some (.int a2), some (.int a3), some (.int a4), some (.int a5), some (.int (nI ((((((((((((((((((((0 + 1) + 1) + 1) + 1) + 1) + 1) + 1) + 1) + 1) + 1) + 1) + 1) + 1) + 1) + 1) + 1) + 1) + 1) + 1) + 1))), some (.int a5)]) dX10_feed_107 rfl (nI_1 _) (by decide) rfl rfl ?_
    refine w_goto (tgt := 23) dX10_feed_110 rfl ?_
    refine w_iload dX10_feed_23 rfl ?_
    refine w_bipush (v := 20) dX10_feed_25 (by decide) ?_
    refine w_icmp_ge_t (tgt := 113) dX10_feed_27 rfl ((nI_leI (a := 20) (b := ((((((((((((((((((((0 + 1) + 1) + 1) + 1) + 1) + 1) + 1) + 1) + 1) + 1) + 1) + 1) + 1) + 1) + 1) + 1) + 1) + 1) + 1) + 1)) (by omega) (by omega)).mpr (by omega)) ?_
    refine w_aload_n dX10_feed_113 rfl ?_
    refine w_dup dX10_feed_114 rfl ?_
    refine w_get (v := .int (nI tp)) fX10_96 (hUs_at nd 0 rfl rfl) rfl dX10_feed_115 ?_
    refine w_bipush (v := 20) dX10_feed_118 (by decide) ?_
    refine w_iaddE (z := nI (tp + 20)) dX10_feed_120 (nI_add (tp) (20)) ?_
    refine w_put (fs' := (mF m 0 tr pl (nI (tp + 20)) sz sp fa fl tk ta sg nu wd (nI P.1) (nI P.2.1) rl rw ht sd ah cl)) fX10_96 (hUs_at nd 0 rfl rfl) rfl rfl (Nat.le_of_ble_eq_true rfl) rfl dX10_feed_121 ?_
    refine w_heq (hUs_set nd rfl 0 (cs' := [(oC 10 (mF m 0 tr pl (nI (tp + 20)) sz sp fa fl tk ta sg nu wd (nI P.1) (nI P.2.1) rl rw ht sd ah cl)), (aI 600 (upd (upd (upd (upd (upd (upd (upd (upd (upd (upd (upd (upd (upd (upd (upd (upd (upd (upd (upd (upd gt (tp + 0) ((a1 >>> ((nI (24 - (8 * (0 % 4)))) &&& 31)) &&& 255)) (tp + (0 + 1)) ((a1 >>> ((nI (24 - (8 * ((0 + 1) % 4)))) &&& 31)) &&& 255)) (tp + ((0 + 1) + 1)) ((a1 >>> ((nI (24 - (8 * (((0 + 1) + 1) % 4)))) &&& 31)) &&& 255)) (tp + (((0 + 1) + 1) + 1)) ((a1 >>> ((nI (24 - (8 * ((((0 + 1) + 1) + 1) % 4)))) &&& 31)) &&& 255)) (tp + ((((0 + 1) + 1) + 1) + 1)) ((a2 >>> ((nI (24 - (8 * (((((0 + 1) + 1) + 1) + 1) % 4)))) &&& 31)) &&& 255)) (tp + (((((0 + 1) + 1) + 1) + 1) + 1)) ((a2 >>> ((nI (24 - (8 * ((((((0 + 1) + 1) + 1) + 1) + 1) % 4)))) &&& 31)) &&& 255)) (tp + ((((((0 + 1) + 1) + 1) + 1) + 1) + 1)) ((a2 >>> ((nI (24 - (8 * (((((((0 + 1) + 1) + 1) + 1) + 1) + 1) % 4)))) &&& 31)) &&& 255)) (tp + (((((((0 + 1) + 1) + 1) + 1) + 1) + 1) + 1)) ((a2 >>> ((nI (24 - (8 * ((((((((0 + 1) + 1) + 1) + 1) + 1) + 1) + 1) % 4)))) &&& 31)) &&& 255)) (tp + ((((((((0 + 1) + 1) + 1) + 1) + 1) + 1) + 1) + 1)) ((a3 >>> ((nI (24 - (8 * (((((((((0 + 1) + 1) + 1) + 1) + 1) + 1) + 1) + 1) % 4)))) &&& 31)) &&& 255)) (tp + (((((((((0 + 1) + 1) + 1) + 1) + 1) + 1) + 1) + 1) + 1)) ((a3 >>> ((nI (24 - (8 * ((((((((((0 + 1) + 1) + 1) + 1) + 1) + 1) + 1) + 1) + 1) % 4)))) &&& 31)) &&& 255)) (tp + ((((((((((0 + 1) + 1) + 1) + 1) + 1) + 1) + 1) + 1) + 1) + 1)) ((a3 >>> ((nI (24 - (8 * (((((((((((0 + 1) + 1) + 1) + 1) + 1) + 1) + 1) + 1) + 1) + 1) % 4)))) &&& 31)) &&& 255)) (tp + (((((((((((0 + 1) + 1) + 1) + 1) + 1) + 1) + 1) + 1) + 1) + 1) + 1)) ((a3 >>> ((nI (24 - (8 * ((((((((((((0 + 1) + 1) + 1) + 1) + 1) + 1) + 1) + 1) + 1) + 1) + 1) % 4)))) &&& 31)) &&& 255)) (tp + ((((((((((((0 + 1) + 1) + 1) + 1) + 1) + 1) + 1) + 1) + 1) + 1) + 1) + 1)) ((a4 >>> ((nI (24 - (8 * (((((((((((((0 + 1) + 1) + 1) + 1) + 1) + 1) + 1) + 1) + 1) + 1) + 1) + 1) % 4)))) &&& 31)) &&& 255)) (tp + (((((((((((((0 + 1) + 1) + 1) + 1) + 1) + 1) + 1) + 1) + 1) + 1) + 1) + 1) + 1)) ((a4 >>> ((nI (24 - (8 * ((((((((((((((0 + 1) + 1) + 1) + 1) + 1) + 1) + 1) + 1) + 1) + 1) + 1) + 1) + 1) % 4)))) &&& 31)) &&& 255)) (tp + ((((((((((((((0 + 1) + 1) + 1) + 1) + 1) + 1) + 1) + 1) + 1) + 1) + 1) + 1) + 1) + 1)) ((a4 >>> ((nI (24 - (8 * (((((((((((((((0 + 1) + 1) + 1) + 1) + 1) + 1) + 1) + 1) + 1) + 1) + 1) + 1) + 1) + 1) % 4)))) &&& 31)) &&& 255)) (tp + (((((((((((((((0 + 1) + 1) + 1) + 1) + 1) + 1) + 1) + 1) + 1) + 1) + 1) + 1) + 1) + 1) + 1)) ((a4 >>> ((nI (24 - (8 * ((((((((((((((((0 + 1) + 1) + 1) + 1) + 1) + 1) + 1) + 1) + 1) + 1) + 1) + 1) + 1) + 1) + 1) % 4)))) &&& 31)) &&& 255)) (tp + ((((((((((((((((0 + 1) + 1) + 1) + 1) + 1) + 1) + 1) + 1) + 1) + 1) + 1) + 1) + 1) + 1) + 1) + 1)) ((a5 >>> ((nI (24 - (8 * (((((((((((((((((0 + 1) + 1) + 1) + 1) + 1) + 1) + 1) + 1) + 1) + 1) + 1) + 1) + 1) + 1) + 1) + 1) % 4)))) &&& 31)) &&& 255)) (tp + (((((((((((((((((0 + 1) + 1) + 1) + 1) + 1) + 1) + 1) + 1) + 1) + 1) + 1) + 1) + 1) + 1) + 1) + 1) + 1)) ((a5 >>> ((nI (24 - (8 * ((((((((((((((((((0 + 1) + 1) + 1) + 1) + 1) + 1) + 1) + 1) + 1) + 1) + 1) + 1) + 1) + 1) + 1) + 1) + 1) % 4)))) &&& 31)) &&& 255)) (tp + ((((((((((((((((((0 + 1) + 1) + 1) + 1) + 1) + 1) + 1) + 1) + 1) + 1) + 1) + 1) + 1) + 1) + 1) + 1) + 1) + 1)) ((a5 >>> ((nI (24 - (8 * (((((((((((((((((((0 + 1) + 1) + 1) + 1) + 1) + 1) + 1) + 1) + 1) + 1) + 1) + 1) + 1) + 1) + 1) + 1) + 1) + 1) % 4)))) &&& 31)) &&& 255)) (tp + (((((((((((((((((((0 + 1) + 1) + 1) + 1) + 1) + 1) + 1) + 1) + 1) + 1) + 1) + 1) + 1) + 1) + 1) + 1) + 1) + 1) + 1)) ((a5 >>> ((nI (24 - (8 * ((((((((((((((((((((0 + 1) + 1) + 1) + 1) + 1) + 1) + 1) + 1) + 1) + 1) + 1) + 1) + 1) + 1) + 1) + 1) + 1) + 1) + 1) % 4)))) &&& 31)) &&& 255)))]) rfl rfl) ?_
    refine w_aload_n dX10_feed_124 rfl ?_
    refine w_get (v := .int (nI (tp + 20))) fX10_96 (hUs_at nd 0 rfl rfl) rfl dX10_feed_125 ?_
    refine w_ireturn rfl dX10_feed_128 (Nat.le_of_ble_eq_true rfl) (Nat.le_of_ble_eq_true rfl) ?_
    rw [if_pos (by omega)] at k
    exact k _ (mI_i (cI_put hW (mAs_nd m) rfl [0, 1] (cs2 := [(oC 10 (mF m 0 tr pl (nI (tp + 20)) sz sp fa fl tk ta sg nu wd (nI P.1) (nI P.2.1) rl rw ht sd ah cl)), (aI 600 (upd (upd (upd (upd (upd (upd (upd (upd (upd (upd (upd (upd (upd (upd (upd (upd (upd (upd (upd (upd gt (tp + 0) ((a1 >>> ((nI (24 - (8 * (0 % 4)))) &&& 31)) &&& 255)) (tp + (0 + 1)) ((a1 >>> ((nI (24 - (8 * ((0 + 1) % 4)))) &&& 31)) &&& 255)) (tp + ((0 + 1) + 1)) ((a1 >>> ((nI (24 - (8 * (((0 + 1) + 1) % 4)))) &&& 31)) &&& 255)) (tp + (((0 + 1) + 1) + 1)) ((a1 >>> ((nI (24 - (8 * ((((0 + 1) + 1) + 1) % 4)))) &&& 31)) &&& 255)) (tp + ((((0 + 1) + 1) + 1) + 1)) ((a2 >>> ((nI (24 - (8 * (((((0 + 1) + 1) + 1) + 1) % 4)))) &&& 31)) &&& 255)) (tp + (((((0 + 1) + 1) + 1) + 1) + 1)) ((a2 >>> ((nI (24 - (8 * ((((((0 + 1) + 1) + 1) + 1) + 1) % 4)))) &&& 31)) &&& 255)) (tp + ((((((0 + 1) + 1) + 1) + 1) + 1) + 1)) ((a2 >>> ((nI (24 - (8 * (((((((0 + 1) + 1) + 1) + 1) + 1) + 1) % 4)))) &&& 31)) &&& 255)) (tp + (((((((0 + 1) + 1) + 1) + 1) + 1) + 1) + 1)) ((a2 >>> ((nI (24 - (8 * ((((((((0 + 1) + 1) + 1) + 1) + 1) + 1) + 1) % 4)))) &&& 31)) &&& 255)) (tp + ((((((((0 + 1) + 1) + 1) + 1) + 1) + 1) + 1) + 1)) ((a3 >>> ((nI (24 - (8 * (((((((((0 + 1) + 1) + 1) + 1) + 1) + 1) + 1) + 1) % 4)))) &&& 31)) &&& 255)) (tp + (((((((((0 + 1) + 1) + 1) + 1) + 1) + 1) + 1) + 1) + 1)) ((a3 >>> ((nI (24 - (8 * ((((((((((0 + 1) + 1) + 1) + 1) + 1) + 1) + 1) + 1) + 1) % 4)))) &&& 31)) &&& 255)) (tp + ((((((((((0 + 1) + 1) + 1) + 1) + 1) + 1) + 1) + 1) + 1) + 1)) ((a3 >>> ((nI (24 - (8 * (((((((((((0 + 1) + 1) + 1) + 1) + 1) + 1) + 1) + 1) + 1) + 1) % 4)))) &&& 31)) &&& 255)) (tp + (((((((((((0 + 1) + 1) + 1) + 1) + 1) + 1) + 1) + 1) + 1) + 1) + 1)) ((a3 >>> ((nI (24 - (8 * ((((((((((((0 + 1) + 1) + 1) + 1) + 1) + 1) + 1) + 1) + 1) + 1) + 1) % 4)))) &&& 31)) &&& 255)) (tp + ((((((((((((0 + 1) + 1) + 1) + 1) + 1) + 1) + 1) + 1) + 1) + 1) + 1) + 1)) ((a4 >>> ((nI (24 - (8 * (((((((((((((0 + 1) + 1) + 1) + 1) + 1) + 1) + 1) + 1) + 1) + 1) + 1) + 1) % 4)))) &&& 31)) &&& 255)) (tp + (((((((((((((0 + 1) + 1) + 1) + 1) + 1) + 1) + 1) + 1) + 1) + 1) + 1) + 1) + 1)) ((a4 >>> ((nI (24 - (8 * ((((((((((((((0 + 1) + 1) + 1) + 1) + 1) + 1) + 1) + 1) + 1) + 1) + 1) + 1) + 1) % 4)))) &&& 31)) &&& 255)) (tp + ((((((((((((((0 + 1) + 1) + 1) + 1) + 1) + 1) + 1) + 1) + 1) + 1) + 1) + 1) + 1) + 1)) ((a4 >>> ((nI (24 - (8 * (((((((((((((((0 + 1) + 1) + 1) + 1) + 1) + 1) + 1) + 1) + 1) + 1) + 1) + 1) + 1) + 1) % 4)))) &&& 31)) &&& 255)) (tp + (((((((((((((((0 + 1) + 1) + 1) + 1) + 1) + 1) + 1) + 1) + 1) + 1) + 1) + 1) + 1) + 1) + 1)) ((a4 >>> ((nI (24 - (8 * ((((((((((((((((0 + 1) + 1) + 1) + 1) + 1) + 1) + 1) + 1) + 1) + 1) + 1) + 1) + 1) + 1) + 1) % 4)))) &&& 31)) &&& 255)) (tp + ((((((((((((((((0 + 1) + 1) + 1) + 1) + 1) + 1) + 1) + 1) + 1) + 1) + 1) + 1) + 1) + 1) + 1) + 1)) ((a5 >>> ((nI (24 - (8 * (((((((((((((((((0 + 1) + 1) + 1) + 1) + 1) + 1) + 1) + 1) + 1) + 1) + 1) + 1) + 1) + 1) + 1) + 1) % 4)))) &&& 31)) &&& 255)) (tp + (((((((((((((((((0 + 1) + 1) + 1) + 1) + 1) + 1) + 1) + 1) + 1) + 1) + 1) + 1) + 1) + 1) + 1) + 1) + 1)) ((a5 >>> ((nI (24 - (8 * ((((((((((((((((((0 + 1) + 1) + 1) + 1) + 1) + 1) + 1) + 1) + 1) + 1) + 1) + 1) + 1) + 1) + 1) + 1) + 1) % 4)))) &&& 31)) &&& 255)) (tp + ((((((((((((((((((0 + 1) + 1) + 1) + 1) + 1) + 1) + 1) + 1) + 1) + 1) + 1) + 1) + 1) + 1) + 1) + 1) + 1) + 1)) ((a5 >>> ((nI (24 - (8 * (((((((((((((((((((0 + 1) + 1) + 1) + 1) + 1) + 1) + 1) + 1) + 1) + 1) + 1) + 1) + 1) + 1) + 1) + 1) + 1) + 1) % 4)))) &&& 31)) &&& 255)) (tp + (((((((((((((((((((0 + 1) + 1) + 1) + 1) + 1) + 1) + 1) + 1) + 1) + 1) + 1) + 1) + 1) + 1) + 1) + 1) + 1) + 1) + 1)) ((a5 >>> ((nI (24 - (8 * ((((((((((((((((((((0 + 1) + 1) + 1) + 1) + 1) + 1) + 1) + 1) + 1) + 1) + 1) + 1) + 1) + 1) + 1) + 1) + 1) + 1) + 1) % 4)))) &&& 31)) &&& 255))), (aL 8 ln), (aL 8 wn), (aI 8 fs), (aI 24 ff), (aI 8 fb), (aI 8 fn), (aI 8 fp), (aZ 8 f3), (aI 64 fk), (aI 64 fx), (aI 64 fy), (aI 64 fc), (aI 11 fr), (aI 11 f1), (aI 11 f2), (aI 22 fi), (aB 4096 fo), (aB 8192 fq), (aZ 2 fh), (aI 2 fj), (aI 4096 fw), (aI 2100 fz)]) rfl rfl) (show mT (tp + 20) (tp4 (tp4 (tp4 (tp4 (tp4 ft tp a1) (tp + 4) a2) (tp + 8) a3) (tp + 12) a4) (tp + 16) a5) _ from (mT_u (mT_u (mT_u (mT_u (mT_u (mT_u (mT_u (mT_u (mT_u (mT_u (mT_u (mT_u (mT_u (mT_u (mT_u (mT_u (mT_u (mT_u (mT_u (mT_u hT (by255 _) (by_rng _)) (by255 _) (by_rng _)) (by255 _) (by_rng _)) (by255 _) (by_rng _)) (by255 _) (by_rng _)) (by255 _) (by_rng _)) (by255 _) (by_rng _)) (by255 _) (by_rng _)) (by255 _) (by_rng _)) (by255 _) (by_rng _)) (by255 _) (by_rng _)) (by255 _) (by_rng _)) (by255 _) (by_rng _)) (by255 _) (by_rng _)) (by255 _) (by_rng _)) (by255 _) (by_rng _)) (by255 _) (by_rng _)) (by255 _) (by_rng _)) (by255 _) (by_rng _)) (by255 _) (by_rng _))) hPm hG hRm hm0 hm1 hsd hht (by omega)) (mFr_of (by intro a ha; simp only [List.mem_cons, List.not_mem_nil, or_false] at ha; omega))
  · have b15 : ¬ (tp + 20) ≤ 600 := fun z => b15 ((nI_leI (a := (tp + 20)) (b := 600) (by omega) (by omega)).mpr z)
    refine w_iconst (v := (-1)) dX10_feed_18 (by decide) ?_
    refine w_ireturn rfl dX10_feed_19 (Nat.le_of_ble_eq_true rfl) (Nat.le_of_ble_eq_true rfl) ?_
    rw [if_neg (by omega)] at k
    exact k _ (mI_i (cI_put hW (mAs_nd m) rfl [0, 1] (cs2 := [(oC 10 (mF m 0 tr pl (nI tp) sz sp fa fl tk ta sg nu wd (nI P.1) (nI P.2.1) rl rw ht sd ah cl)), (aI 600 gt), (aL 8 ln), (aL 8 wn), (aI 8 fs), (aI 24 ff), (aI 8 fb), (aI 8 fn), (aI 8 fp), (aZ 8 f3), (aI 64 fk), (aI 64 fx), (aI 64 fy), (aI 64 fc), (aI 11 fr), (aI 11 f1), (aI 11 f2), (aI 22 fi), (aB 4096 fo), (aB 8192 fq), (aZ 2 fh), (aI 2 fj), (aI 4096 fw), (aI 2100 fz)]) rfl rfl) hT hPm hG hRm hm0 hm1 hsd hht htp) (mFr_of (by intro a ha; simp only [List.mem_cons, List.not_mem_nil, or_false] at ha; omega))
theorem cIt_f (L : lP) (cn v : Int32) : ∀ (n : Nat) (s : cS), cItr L cn v (n + 1) s = cItr L cn v n (cStp L cn v s)
  | 0, s => rfl
  | n + 1, s => by
    show cStp L cn v (cItr L cn v (n + 1) s) = cStp L cn v (cItr L cn v n (cStp L cn v s))
    rw [cIt_f L cn v n s]
/-- the register is of no account -/
theorem cSt_r (L : lP) (v r r' : Int32) (a : Nat → Int32) (c : Int32) : cStp L 0 v (a, r, c) = ((cStp L 0 v (a, r', c)).1, r, (cStp L 0 v (a, r', c)).2.2) := by
  simp only [cStp, cOut, clkO, stiF, stiR, if_pos]
theorem cOu_r (L : lP) (r r' : Int32) (a : Nat → Int32) (c c' : Int32) : cOut L 0 (a, r, c) = cOut L 0 (a, r', c') := by
  simp only [cOut, clkO, stiF, if_pos]
/-- the sums and the clips after n quiet clocks -/
def qS (L : lP) (v : Int32) (n : Nat) : Nat → Int32 := (cItr L 0 v n cS0).1
def qC (L : lP) (v : Int32) (n : Nat) : Int32 := (cItr L 0 v n cS0).2.2
theorem cSt_q (L : lP) (v r : Int32) (n : Nat) : cStp L 0 v (qS L v n, r, qC L v n) = (qS L v (n + 1), r, qC L v (n + 1)) := by
  rw [cSt_r L v r (cItr L 0 v n cS0).2.1]
  rfl
theorem hldC_n (bd x : Int32) (c : Nat) : ∃ d, d ≤ 1 ∧ hldC bd x (nI c) = nI (c + d) := by
  unfold hldC
  split
  · exact ⟨0, by omega, rfl⟩
  · exact ⟨1, by omega, nI_1 c⟩
theorem stgC_n (fac : Nat → Int32) (bd out v : Int32) (su : Nat → Int32) (c : Nat) : ∀ k, ∃ d, d ≤ k ∧ (stgF fac bd out v su (nI c) k).2.1 = nI (c + d)
  | 0 => ⟨0, by omega, rfl⟩
  | k + 1 => by
    obtain ⟨d, h1, h2⟩ := stgC_n fac bd out v su c k
    obtain ⟨e, h3, h4⟩ := hldC_n bd ((stgF fac bd out v su (nI c) k).1 k + ((fac k * ((stgF fac bd out v su (nI c) k).2.2 - 1000 * out)) >>> ((4 : Int32) &&& 31))) (c + d)
    refine ⟨d + e, by omega, ?_⟩
    rw [← Nat.add_assoc, ← h4, ← h2]
    rfl
theorem cStC_n (L : lP) (cn v : Int32) (hL : L.1 ≤ 3) (s : cS) (c : Nat) (h : s.2.2 = nI c) : ∃ d, d ≤ 3 ∧ (cStp L cn v s).2.2 = nI (c + d) := by
  obtain ⟨d, h1, h2⟩ := stgC_n L.2.1 L.2.2.1 (cOut L cn s) v s.1 c L.1
  rw [← h] at h2
  exact ⟨d, by omega, h2⟩
theorem cItC_n (L : lP) (cn v : Int32) (hL : L.1 ≤ 3) (s : cS) (c : Nat) (h : s.2.2 = nI c) : ∀ n, ∃ d, d ≤ 3 * n ∧ (cItr L cn v n s).2.2 = nI (c + d)
  | 0 => ⟨0, by omega, h⟩
  | n + 1 => by
    obtain ⟨d, h1, h2⟩ := cItC_n L cn v hL s c h n
    obtain ⟨e, h3, h4⟩ := cStC_n L cn v hL (cItr L cn v n s) (c + d) h2
    exact ⟨d + e, by omega, by rw [← Nat.add_assoc]; exact h4⟩
theorem su_it (L : lP) (v : Int32) (hL : L.1 ≤ 3) : ∀ (n : Nat) (s : cS) (c : Nat), s.2.2 = nI c → c + 3 * n < 2 ^ 31 → ((suF L v n s).2.2 = 0 ↔ (cItr L 0 v n s).2.2 = 0)
  | 0, s, c, h, hc => Iff.rfl
  | n + 1, s, c, h, hc => by
    rw [suF]
    by_cases e : s.2.2 = 0
    · rw [if_pos e, cIt_f]
      obtain ⟨d, h1, h2⟩ := cStC_n L 0 v hL s c h
      exact su_it L v hL n (cStp L 0 v s) (c + d) h2 (by omega)
    · rw [if_neg e]
      obtain ⟨d, h1, h2⟩ := cItC_n L 0 v hL s c h (n + 1)
      rw [h2]
      have hc0 : ¬ c = 0 := fun z => e (by rw [h, z]; rfl)
      exact ⟨fun z => absurd z e, fun z => absurd z (nI_ne0 (by omega) (by omega))⟩
theorem suB_q (L : lP) (v : Int32) (hL : L.1 ≤ 3) : suB L v = if qC L v 1000 = 0 then 1 else 0 := by
  have e := su_it L v hL 1000 cS0 0 rfl (by decide)
  unfold suB qC
  by_cases z : (suF L v 1000 cS0).2.2 = 0
  · rw [if_pos z, if_pos (e.mp z)]
  · rw [if_neg z, if_neg (fun y => z (e.mpr y))]
set_option maxRecDepth 100000 in
set_option maxHeartbeats 4000000 in
theorem lq_fed {G : wG} {d : Nat} {h : hH} {Q : Option Value → hH → Prop} {m tp : Nat} {P : pD} {ht sd fa pl tr sz sp fl tk ta sg nu : Int32} {wd : Int64} {rl rw ah cl : Int32} {ln : Nat → Int64} {fn : Nat → Int32} {fs : Nat → Int32} {ff : Nat → Int32} {fb : Nat → Int32} {f3 : Nat → Int32} {j : Nat} {v : Int32} {u : Int32} {N : Nat} (nd : [m, m + 4, m + 5, m + 6, m + 9, m + 15].Nodup) (h8 : j < 8) (hLp : mLp (P.2.2.1 j) j ln fs ff fb fn f3) (hGl : lGd (P.2.2.1 j)) (hN : N ≤ 3000) (k : ∀ (x : Int32) (f : Nat → Int32), mRn f (nI j) 0 (nI N) (qS (lPo (P.2.2.1 j)) v N, sd, qC (lPo (P.2.2.1 j)) v N) → WP G RX10 cX10_fed 7 (some .int) false (d + 2) 0 0 0 0 Q 110 [some (.ref m), some (.int (nI j)), some (.int u), some (.int v), some (.int (nI N)), some (.int x), none] [] (hUs h [m, m + 4, m + 5, m + 6, m + 9, m + 15] [(oC 10 (mF m 0 tr pl (nI tp) sz sp fa fl tk ta sg nu wd (nI P.1) (nI P.2.1) rl rw ht sd ah cl)), (aI 8 fs), (aI 24 ff), (aI 8 fb), (aZ 8 f3), (aI 11 f)])) : ∀ (n : Nat) (t : Nat) (x : Int32) (f : Nat → Int32), t + n = N → mRn f (nI j) 0 (nI t) (qS (lPo (P.2.2.1 j)) v t, sd, qC (lPo (P.2.2.1 j)) v t) → WP G RX10 cX10_fed 7 (some .int) false (d + 2) 0 0 0 0 Q 82 [some (.ref m), some (.int (nI j)), some (.int u), some (.int v), some (.int (nI N)), some (.int x), some (.int (nI t))] [] (hUs h [m, m + 4, m + 5, m + 6, m + 9, m + 15] [(oC 10 (mF m 0 tr pl (nI tp) sz sp fa fl tk ta sg nu wd (nI P.1) (nI P.2.1) rl rw ht sd ah cl)), (aI 8 fs), (aI 24 ff), (aI 8 fb), (aZ 8 f3), (aI 11 f)]) := by
  intro n
  induction n with
  | zero =>
    intro t x f hi hq
    refine w_iload dX10_fed_82 rfl ?_
    refine w_iload dX10_fed_84 rfl ?_
    refine w_icmp_ge_t (tgt := 110) dX10_fed_86 rfl ((nI_leI (a := N) (b := t) (by omega) (by omega)).mpr (by omega)) ?_
    refine w_less (ls2 := [some (.ref m), some (.int (nI j)), some (.int u), some (.int v), some (.int (nI N)), some (.int x), none]) ⟨Or.inr rfl, Or.inr rfl, Or.inr rfl, Or.inr rfl, Or.inr rfl, Or.inr rfl, Or.inl rfl, trivial⟩ ?_
    have z : t = N := by omega
    rw [z] at hq
    exact k x f hq
  | succ n ih =>
    intro t x f hi hq
    refine w_iload dX10_fed_82 rfl ?_
    refine w_iload dX10_fed_84 rfl ?_
    refine w_icmp_ge_f (tgt := 110) dX10_fed_86 rfl (fun z => absurd ((nI_leI (a := N) (b := t) (by omega) (by omega)).mp z) (by omega)) ?_
    refine w_iload dX10_fed_89 rfl ?_
    refine w_aload_n dX10_fed_91 rfl ?_
    refine w_aload_n dX10_fed_92 rfl ?_
    refine w_get (v := .ref (m + 15)) fX10_58 (hUs_at nd 0 rfl rfl) rfl dX10_fed_93 ?_
    refine w_iload_n dX10_fed_96 rfl ?_
    refine w_iconst (v := 0) dX10_fed_97 (by decide) ?_
    refine w_callV (ci := 10) (d' := d + 1) (mc' := 0) (ms' := 0) (As := [.ref (m + 15), .int v, .int 0]) (st := [.int x]) lX10_287 vX10_clock rfl (hUs_at nd 0 rfl rfl) rfl (Nat.le_of_ble_eq_true rfl) dX10_fed_98 (Nat.le_of_ble_eq_true rfl) (Nat.le_of_ble_eq_true rfl) (Nat.le_refl _) (m_clockL (D := (P.2.2.1 j)) (s := (qS (lPo (P.2.2.1 j)) v t, sd, qC (lPo (P.2.2.1 j)) v t)) (hHas_sub nd (as' := [m, m + 4, m + 5, m + 6, m + 9, m + 15]) (cs' := [(oC 10 (mF m 0 tr pl (nI tp) sz sp fa fl tk ta sg nu wd (nI P.1) (nI P.2.1) rl rw ht sd ah cl)), (aI 8 fs), (aI 24 ff), (aI 8 fb), (aZ 8 f3), (aI 11 f)]) [0, 1, 2, 3, 4, 5] rfl rfl) (nd_sub nd (as' := [m, m + 4, m + 5, m + 6, m + 9, m + 15]) [0, 1, 2, 3, 4, 5] rfl rfl) h8 hLp hGl hq (by decide) (Or.inl rfl) (fun fk19 hfk19 zfk19 => ?_))
    refine w_heq (hUs_in nd rfl [0, 1, 2, 3, 4, 5] (cs2 := [(oC 10 (mF m 0 tr pl (nI tp) sz sp fa fl tk ta sg nu wd (nI P.1) (nI P.2.1) rl rw ht sd ah cl)), (aI 8 fs), (aI 24 ff), (aI 8 fb), (aZ 8 f3), (aI 11 fk19)]) rfl rfl) ?_
    refine w_iadd dX10_fed_101 ?_
    refine w_istore (ls2 := [some (.ref m), some (.int (nI j)), some (.int u), some (.int v), some (.int (nI N)), some (.int (x + (cOut (lPo (P.2.2.1 j)) 0 (qS (lPo (P.2.2.1 j)) v t, sd, qC (lPo (P.2.2.1 j)) v t)))), some (.int (nI t))]) dX10_fed_102 (by decide) rfl rfl ?_
    refine w_iinc (v := nI (t + 1)) (ls2 := [some (.ref m), some (.int (nI j)), some (.int u), some (.int v), some (.int (nI N)), some (.int (x + (cOut (lPo (P.2.2.1 j)) 0 (qS (lPo (P.2.2.1 j)) v t, sd, qC (lPo (P.2.2.1 j)) v t)))), some (.int (nI (t + 1)))]) dX10_fed_104 rfl (nI_1 _) (by decide) rfl rfl ?_
    refine w_goto (tgt := 82) dX10_fed_107 rfl ?_
    exact ih (t + 1) _ fk19 (by omega) (by
      have z := hfk19
      rw [nI_1, cSt_q] at z
      exact z)
theorem lvB_in (v : Int32) : inB v (-1000) 1000 = lvB v.toInt64 := by
  unfold inB lvB
  have e1 : (-1000 ≤ v ∧ v ≤ 1000) ↔ (-1000 ≤ v.toInt64 ∧ v.toInt64 ≤ 1000) := by
    rw [Int32.le_iff_toInt_le, Int32.le_iff_toInt_le, Int64.le_iff_toInt_le, Int64.le_iff_toInt_le, Int32.toInt_toInt64]
    exact Iff.rfl
  by_cases z : -1000 ≤ v ∧ v ≤ 1000
  · rw [if_pos z, if_pos (e1.mp z)]
  · rw [if_neg z, if_neg (fun y => z (e1.mpr y))]
set_option maxRecDepth 100000 in
set_option maxHeartbeats 4000000 in
theorem q_fed_s {G : wG} {d : Nat} {h : hH} {Q : Option Value → hH → Prop} {m : Nat} {ft : Nat → Int32} {tp : Nat} {P : pD} {ht : Int32} {R : Option rnD} {i0 i1 : imD} {sd fa pl tr : Int32} {th : Int32}  {j : Nat} {y v u : Int32} (hI : mI h m ft tp P ht R i0 i1 sd fa pl tr th) (hj : j < P.1) (k : ∀ h2, mI h2 m ft tp P ht R i0 i1 sd fa (-1) (oFd P (nI j) y v u).2 0 → mFr m h h2 → Q (some (.int (oFd P (nI j) y v u).1)) h2) : Cl G yX10_fed (d + 2) 0 0 [.ref m, .int (nI j), .int y, .int v, .int u] h Q := by
  refine mI_e hI ?_
  intro sz sp fl tk ta sg nu wd rl rw ah cl gt ln wn fs ff fb fn fp f3 fk fx fy fc fr f1 f2 fi fo fq fh fj fw fz hW hT hPm hG hRm hm0 hm1 hsd hht htp
  have hnL : P.1 ≤ 4096 := Nat.le_trans hG.2.2.1 (by decide)
  have hnW : P.2.1 ≤ 4096 := Nat.le_trans hG.2.2.2 (by decide)
  have hhL : (ht = 0 ∧ P.1 = 0) ∨ ht = 1 := hht.imp (fun z => ⟨z.1, z.2.1⟩) id
  have hhW : (ht = 0 ∧ P.2.1 = 0) ∨ ht = 1 := hht.imp (fun z => ⟨z.1, z.2.2⟩) id
  have hLp := hPm.1 j hj
  rw [Nat.zero_add] at hLp
  have hGl := hG.1 j hj
  have hj4 : j < 4 := Nat.lt_of_lt_of_le hj hG.2.2.1
  have hs1 := hGl.1
  have hs3 := hGl.2.1
  have hw : hHas h [m, m + 4, m + 5, m + 6, m + 9, m + 15] [(oC 10 (mF m th tr pl (nI tp) sz sp fa fl tk ta sg nu wd (nI P.1) (nI P.2.1) rl rw ht sd ah cl)), (aI 8 fs), (aI 24 ff), (aI 8 fb), (aZ 8 f3), (aI 11 f1)] := hHas_s hW [0, 4, 5, 6, 9, 15] rfl rfl
  have nd : [m, m + 4, m + 5, m + 6, m + 9, m + 15].Nodup := (nd_inc ⟨by omega, by omega, by omega, by omega, by omega, trivial⟩)
  refine Cl.of (ini := false) kX10_fed (plainFor_of_name (by decide)) (by decide) (Nat.le_of_ble_eq_true rfl) rfl rfl (fun z => by cases z) ?_
  refine w_heq (hUs_id hw).symm ?_
  refine w_aload_n dX10_fed_0 rfl ?_
  refine w_iconst (v := 0) dX10_fed_1 (by decide) ?_
  refine w_put (fs' := (mF m 0 tr pl (nI tp) sz sp fa fl tk ta sg nu wd (nI P.1) (nI P.2.1) rl rw ht sd ah cl)) fX10_89 (hUs_at nd 0 rfl rfl) rfl rfl (Nat.le_of_ble_eq_true rfl) rfl dX10_fed_2 ?_
  refine w_heq (hUs_set nd rfl 0 (cs' := [(oC 10 (mF m 0 tr pl (nI tp) sz sp fa fl tk ta sg nu wd (nI P.1) (nI P.2.1) rl rw ht sd ah cl)), (aI 8 fs), (aI 24 ff), (aI 8 fb), (aZ 8 f3), (aI 11 f1)]) rfl rfl) ?_
  refine w_aload_n dX10_fed_5 rfl ?_
  refine w_iload_n dX10_fed_6 rfl ?_
  refine w_callV (ci := 10) (d' := d + 1) (mc' := 0) (ms' := 0) (As := [.int (nI j)]) (st := []) lX10_251 vX10_isLoop rfl (hUs_at nd 0 rfl rfl) rfl (Nat.le_of_ble_eq_true rfl) dX10_fed_7 (Nat.le_of_ble_eq_true rfl) (Nat.le_of_ble_eq_true rfl) (Nat.le_refl _) (m_isLoop (hHas_sub nd (as' := [m]) (cs' := [(oC 10 (mF m 0 tr pl (nI tp) sz sp fa fl tk ta sg nu wd (nI P.1) (nI P.2.1) rl rw ht sd ah cl))]) [0] rfl rfl) hnL hhL ?_)
  refine w_if_eq_f (tgt := 29) dX10_fed_10 rfl (by rw [ixB_s hj hnL]; decide) ?_
  refine w_iload_n dX10_fed_13 rfl ?_
  refine w_iconst (v := 0) dX10_fed_14 (by decide) ?_
  refine w_aload_n dX10_fed_15 rfl ?_
  refine w_get (v := .ref (m + 4)) fX10_24 (hUs_at nd 0 rfl rfl) rfl dX10_fed_16 ?_
  refine w_iload_n dX10_fed_19 rfl ?_
  refine w_ialoadN (hUs_at nd 1 rfl rfl) (by omega) (by omega) dX10_fed_20 ?_
  refine w_top (z := nI (P.2.2.1 j).2.1) hLp.1 ?_
  refine w_iconst (v := 1) dX10_fed_21 (by decide) ?_
  refine w_isub dX10_fed_22 ?_
  refine w_callS (d' := d + 1) (mc' := 0) (ms' := 0) (As := [.int y, .int 0, .int ((nI (P.2.2.1 j).2.1) - 1)]) (st := []) lX10_111 vX10_in rfl (Nat.le_of_ble_eq_true rfl) dX10_fed_23 (Nat.le_of_ble_eq_true rfl) (Nat.le_of_ble_eq_true rfl) (Nat.le_refl _) (c_in ?_)
  refine w_top (z := ixB y (P.2.2.1 j).2.1) (ixB_in (by omega)) ?_
  refine w_if_ne (tgt := 35) dX10_fed_26 rfl (fun b26 => ?_) (fun b26 => ?_)
  · obtain ⟨w9, hw9, rfl⟩ := in3 (Int32.not_lt.mpr (ixB_1 b26).1) (ixB_1 b26).2 (show (P.2.2.1 j).2.1 < 2 ^ 31 by omega)
    have hwc : tN (nI w9) = w9 := nI_clamp (by omega)
    refine w_iload_n dX10_fed_35 rfl ?_
    refine w_sipush (v := (-1000)) dX10_fed_36 (by decide) ?_
    refine w_sipush (v := 1000) dX10_fed_39 (by decide) ?_
    refine w_callS (d' := d + 1) (mc' := 0) (ms' := 0) (As := [.int v, .int (-1000), .int 1000]) (st := []) lX10_111 vX10_in rfl (Nat.le_of_ble_eq_true rfl) dX10_fed_42 (Nat.le_of_ble_eq_true rfl) (Nat.le_of_ble_eq_true rfl) (Nat.le_refl _) (c_in ?_)
    refine w_top (z := lvB v.toInt64) (lvB_in v) ?_
    refine w_if_eq (tgt := 60) dX10_fed_45 rfl (fun b45 => ?_) (fun b45 => ?_)
    · refine w_aload_n dX10_fed_60 rfl ?_
      refine w_iconst (v := 2) dX10_fed_61 (by decide) ?_
      refine w_callV (ci := 10) (d' := d + 1) (mc' := 0) (ms' := 0) (As := [.int 2]) (st := []) lX10_266 vX10_lost rfl (hUs_at nd 0 rfl rfl) rfl (Nat.le_of_ble_eq_true rfl) dX10_fed_62 (Nat.le_of_ble_eq_true rfl) (Nat.le_of_ble_eq_true rfl) (Nat.le_refl _) (m_lost (hHas_sub nd (as' := [m]) (cs' := [(oC 10 (mF m 0 tr pl (nI tp) sz sp fa fl tk ta sg nu wd (nI P.1) (nI P.2.1) rl rw ht sd ah cl))]) [0] rfl rfl) (nd_sub nd (as' := [m]) [0] rfl rfl)  ?_)
      refine w_heq (hUs_in nd rfl [0] (cs2 := [(oC 10 (mF m 0 2 (-1) (nI tp) sz sp fa fl tk ta sg nu wd (nI P.1) (nI P.2.1) rl rw ht sd ah cl)), (aI 8 fs), (aI 24 ff), (aI 8 fb), (aZ 8 f3), (aI 11 f1)]) rfl rfl) ?_
      refine w_ireturn rfl dX10_fed_65 (Nat.le_of_ble_eq_true rfl) (Nat.le_of_ble_eq_true rfl) ?_
      have e : oFd P (nI j) (nI w9) v u = ((-1000000000), 2) := by
        simp only [oFd, ixN_s hj hnL]
        refine (if_neg (fun z => z.elim (fun z => absurd (ixB_1 b26).1 (Int32.not_le.mpr z)) (fun z => absurd (ixB_1 b26).2 (Int32.not_lt.mpr z)))).trans ?_
        exact if_pos (Or.inl b45)
      rw [e] at k
      exact k _ (mI_i (cI_put hW (mAs_nd m) rfl [0, 4, 5, 6, 9, 15] (cs2 := [(oC 10 (mF m 0 2 (-1) (nI tp) sz sp fa fl tk ta sg nu wd (nI P.1) (nI P.2.1) rl rw ht sd ah cl)), (aI 600 gt), (aL 8 ln), (aL 8 wn), (aI 8 fs), (aI 24 ff), (aI 8 fb), (aI 8 fn), (aI 8 fp), (aZ 8 f3), (aI 64 fk), (aI 64 fx), (aI 64 fy), (aI 64 fc), (aI 11 fr), (aI 11 f1), (aI 11 f2), (aI 22 fi), (aB 4096 fo), (aB 8192 fq), (aZ 2 fh), (aI 2 fj), (aI 4096 fw), (aI 2100 fz)]) rfl rfl) hT hPm hG hRm hm0 hm1 hsd hht htp) (mFr_of (by intro a ha; simp only [List.mem_cons, List.not_mem_nil, or_false] at ha; omega))
    · refine w_iload dX10_fed_48 rfl ?_
      refine w_iconst (v := 0) dX10_fed_50 (by decide) ?_
      refine w_sipush (v := 3000) dX10_fed_51 (by decide) ?_
      refine w_callS (d' := d + 1) (mc' := 0) (ms' := 0) (As := [.int u, .int 0, .int 3000]) (st := []) lX10_111 vX10_in rfl (Nat.le_of_ble_eq_true rfl) dX10_fed_54 (Nat.le_of_ble_eq_true rfl) (Nat.le_of_ble_eq_true rfl) (Nat.le_refl _) (c_in ?_)
      refine w_if_ne (tgt := 66) dX10_fed_57 rfl (fun b57 => ?_) (fun b57 => ?_)
      · obtain ⟨N9, hN9, rfl⟩ := in2 (m := 3000) (Int32.not_lt.mpr (inB_1 b57).1) (inB_1 b57).2 (by decide)
        have hNc : tN (nI N9) = N9 := nI_clamp (by omega)
        refine w_aload_n dX10_fed_66 rfl ?_
        refine w_aload_n dX10_fed_67 rfl ?_
        refine w_get (v := .ref (m + 15)) fX10_58 (hUs_at nd 0 rfl rfl) rfl dX10_fed_68 ?_
        refine w_iload_n dX10_fed_71 rfl ?_
        refine w_iconst (v := 0) dX10_fed_72 (by decide) ?_
        refine w_callV (ci := 10) (d' := d + 1) (mc' := 0) (ms' := 0) (As := [.ref (m + 15), .int (nI j), .int 0]) (st := []) lX10_280 vX10_starts rfl (hUs_at nd 0 rfl rfl) rfl (Nat.le_of_ble_eq_true rfl) dX10_fed_73 (Nat.le_of_ble_eq_true rfl) (Nat.le_of_ble_eq_true rfl) (Nat.le_refl _) (m_starts (hHas_sub nd (as' := [m, m + 15]) (cs' := [(oC 10 (mF m 0 tr pl (nI tp) sz sp fa fl tk ta sg nu wd (nI P.1) (nI P.2.1) rl rw ht sd ah cl)), (aI 11 f1)]) [0, 5] rfl rfl) (nd_sub nd (as' := [m, m + 15]) [0, 5] rfl rfl)  ?_)
        refine w_heq (hUs_in nd rfl [0, 5] (cs2 := [(oC 10 (mF m 0 tr pl (nI tp) sz sp fa fl tk ta sg nu wd (nI P.1) (nI P.2.1) rl rw ht sd ah cl)), (aI 8 fs), (aI 24 ff), (aI 8 fb), (aZ 8 f3), (aI 11 (stA (nI j) 0 sd))]) rfl rfl) ?_
        refine w_iconst (v := 0) dX10_fed_76 (by decide) ?_
        refine w_istore (ls2 := [some (.ref m), some (.int (nI j)), some (.int (nI w9)), some (.int v), some (.int (nI N9)), some (.int 0), none]) dX10_fed_77 (by decide) rfl rfl ?_
        refine w_iconst (v := (nI 0)) dX10_fed_79 (by decide) ?_
        refine w_istore (ls2 := [some (.ref m), some (.int (nI j)), some (.int (nI w9)), some (.int v), some (.int (nI N9)), some (.int 0), some (.int (nI 0))]) dX10_fed_80 (by decide) rfl rfl ?_
        refine lq_fed (ln := ln) (fn := fn) nd (show j < 8 by omega) hLp hGl hN9 (fun x9 f9 hq9 => ?_) N9 0 _ _ (by omega) (stA_rn _ _ _)
        refine w_aload_n dX10_fed_110 rfl ?_
        refine w_aload_n dX10_fed_111 rfl ?_
        refine w_get (v := .ref (m + 15)) fX10_58 (hUs_at nd 0 rfl rfl) rfl dX10_fed_112 ?_
        refine w_iconst (v := (nI 5)) dX10_fed_115 (by decide) ?_
        refine w_iload_n dX10_fed_116 rfl ?_
        refine w_iaddE (z := nI (5 + w9)) dX10_fed_117 (nI_add (5) (w9)) ?_
        refine w_ialoadN (hUs_at nd 5 rfl rfl) (by omega) (by omega) dX10_fed_118 ?_
        refine w_top (z := qS (lPo (P.2.2.1 j)) v N9 w9) (by
          rcases (show w9 = 0 ∨ w9 = 1 ∨ w9 = 2 by omega) with rfl | rfl | rfl
          · exact hq9.2.2.2.2.2.1
          · exact hq9.2.2.2.2.2.2.1
          · exact hq9.2.2.2.2.2.2.2) ?_
        refine w_callV (ci := 10) (d' := d + 1) (mc' := 0) (ms' := 0) (As := [.int (qS (lPo (P.2.2.1 j)) v N9 w9)]) (st := []) lX10_241 vX10_good rfl (hUs_at nd 0 rfl rfl) rfl (Nat.le_of_ble_eq_true rfl) dX10_fed_119 (Nat.le_of_ble_eq_true rfl) (Nat.le_of_ble_eq_true rfl) (Nat.le_refl _) (m_good (hHas_sub nd (as' := [m]) (cs' := [(oC 10 (mF m 0 tr pl (nI tp) sz sp fa fl tk ta sg nu wd (nI P.1) (nI P.2.1) rl rw ht sd ah cl))]) [0] rfl rfl) (nd_sub nd (as' := [m]) [0] rfl rfl)  ?_)
        refine w_heq (hUs_in nd rfl [0] (cs2 := [(oC 10 (mF m 0 0 (-1) (nI tp) sz sp fa fl tk ta sg nu wd (nI P.1) (nI P.2.1) rl rw ht sd ah cl)), (aI 8 fs), (aI 24 ff), (aI 8 fb), (aZ 8 f3), (aI 11 f9)]) rfl rfl) ?_
        refine w_ireturn rfl dX10_fed_122 (Nat.le_of_ble_eq_true rfl) (Nat.le_of_ble_eq_true rfl) ?_
        have e : oFd P (nI j) (nI w9) v (nI N9) = (qS (lPo (P.2.2.1 j)) v N9 w9, 0) := by
          simp only [oFd, ixN_s hj hnL]
          refine (if_neg (fun z => z.elim (fun z => absurd (ixB_1 b26).1 (Int32.not_le.mpr z)) (fun z => absurd (ixB_1 b26).2 (Int32.not_lt.mpr z)))).trans ?_
          refine (if_neg (fun z => z.elim b45 (fun z => z.elim (fun z => absurd (inB_1 b57).1 (Int32.not_le.mpr z)) (fun z => absurd (inB_1 b57).2 (Int32.not_le.mpr z))))).trans ?_
          rw [hNc, hwc]
          rfl
        rw [e] at k
        exact k _ (mI_i (cI_put hW (mAs_nd m) rfl [0, 4, 5, 6, 9, 15] (cs2 := [(oC 10 (mF m 0 0 (-1) (nI tp) sz sp fa fl tk ta sg nu wd (nI P.1) (nI P.2.1) rl rw ht sd ah cl)), (aI 600 gt), (aL 8 ln), (aL 8 wn), (aI 8 fs), (aI 24 ff), (aI 8 fb), (aI 8 fn), (aI 8 fp), (aZ 8 f3), (aI 64 fk), (aI 64 fx), (aI 64 fy), (aI 64 fc), (aI 11 fr), (aI 11 f9), (aI 11 f2), (aI 22 fi), (aB 4096 fo), (aB 8192 fq), (aZ 2 fh), (aI 2 fj), (aI 4096 fw), (aI 2100 fz)]) rfl rfl) hT hPm hG hRm hm0 hm1 hsd hht htp) (mFr_of (by intro a ha; simp only [List.mem_cons, List.not_mem_nil, or_false] at ha; omega))
      · refine w_aload_n dX10_fed_60 rfl ?_
        refine w_iconst (v := 2) dX10_fed_61 (by decide) ?_
        refine w_callV (ci := 10) (d' := d + 1) (mc' := 0) (ms' := 0) (As := [.int 2]) (st := []) lX10_266 vX10_lost rfl (hUs_at nd 0 rfl rfl) rfl (Nat.le_of_ble_eq_true rfl) dX10_fed_62 (Nat.le_of_ble_eq_true rfl) (Nat.le_of_ble_eq_true rfl) (Nat.le_refl _) (m_lost (hHas_sub nd (as' := [m]) (cs' := [(oC 10 (mF m 0 tr pl (nI tp) sz sp fa fl tk ta sg nu wd (nI P.1) (nI P.2.1) rl rw ht sd ah cl))]) [0] rfl rfl) (nd_sub nd (as' := [m]) [0] rfl rfl)  ?_)
        refine w_heq (hUs_in nd rfl [0] (cs2 := [(oC 10 (mF m 0 2 (-1) (nI tp) sz sp fa fl tk ta sg nu wd (nI P.1) (nI P.2.1) rl rw ht sd ah cl)), (aI 8 fs), (aI 24 ff), (aI 8 fb), (aZ 8 f3), (aI 11 f1)]) rfl rfl) ?_
        refine w_ireturn rfl dX10_fed_65 (Nat.le_of_ble_eq_true rfl) (Nat.le_of_ble_eq_true rfl) ?_
        have e : oFd P (nI j) (nI w9) v u = ((-1000000000), 2) := by
          simp only [oFd, ixN_s hj hnL]
          refine (if_neg (fun z => z.elim (fun z => absurd (ixB_1 b26).1 (Int32.not_le.mpr z)) (fun z => absurd (ixB_1 b26).2 (Int32.not_lt.mpr z)))).trans ?_
          exact if_pos (Or.inr (inB_0 b57))
        rw [e] at k
        exact k _ (mI_i (cI_put hW (mAs_nd m) rfl [0, 4, 5, 6, 9, 15] (cs2 := [(oC 10 (mF m 0 2 (-1) (nI tp) sz sp fa fl tk ta sg nu wd (nI P.1) (nI P.2.1) rl rw ht sd ah cl)), (aI 600 gt), (aL 8 ln), (aL 8 wn), (aI 8 fs), (aI 24 ff), (aI 8 fb), (aI 8 fn), (aI 8 fp), (aZ 8 f3), (aI 64 fk), (aI 64 fx), (aI 64 fy), (aI 64 fc), (aI 11 fr), (aI 11 f1), (aI 11 f2), (aI 22 fi), (aB 4096 fo), (aB 8192 fq), (aZ 2 fh), (aI 2 fj), (aI 4096 fw), (aI 2100 fz)]) rfl rfl) hT hPm hG hRm hm0 hm1 hsd hht htp) (mFr_of (by intro a ha; simp only [List.mem_cons, List.not_mem_nil, or_false] at ha; omega))
  · refine w_aload_n dX10_fed_29 rfl ?_
    refine w_iconst (v := 1) dX10_fed_30 (by decide) ?_
    refine w_callV (ci := 10) (d' := d + 1) (mc' := 0) (ms' := 0) (As := [.int 1]) (st := []) lX10_266 vX10_lost rfl (hUs_at nd 0 rfl rfl) rfl (Nat.le_of_ble_eq_true rfl) dX10_fed_31 (Nat.le_of_ble_eq_true rfl) (Nat.le_of_ble_eq_true rfl) (Nat.le_refl _) (m_lost (hHas_sub nd (as' := [m]) (cs' := [(oC 10 (mF m 0 tr pl (nI tp) sz sp fa fl tk ta sg nu wd (nI P.1) (nI P.2.1) rl rw ht sd ah cl))]) [0] rfl rfl) (nd_sub nd (as' := [m]) [0] rfl rfl)  ?_)
    refine w_heq (hUs_in nd rfl [0] (cs2 := [(oC 10 (mF m 0 1 (-1) (nI tp) sz sp fa fl tk ta sg nu wd (nI P.1) (nI P.2.1) rl rw ht sd ah cl)), (aI 8 fs), (aI 24 ff), (aI 8 fb), (aZ 8 f3), (aI 11 f1)]) rfl rfl) ?_
    refine w_ireturn rfl dX10_fed_34 (Nat.le_of_ble_eq_true rfl) (Nat.le_of_ble_eq_true rfl) ?_
    have e : oFd P (nI j) y v u = ((-1000000000), 1) := by
      simp only [oFd, ixN_s hj hnL]
      refine if_pos ?_
      rcases Int32.lt_or_le y 0 with z | z
      · exact Or.inl z
      · exact Or.inr (Int32.not_lt.mp (fun z2 => ixB_0 b26 ⟨z, z2⟩))
    rw [e] at k
    exact k _ (mI_i (cI_put hW (mAs_nd m) rfl [0, 4, 5, 6, 9, 15] (cs2 := [(oC 10 (mF m 0 1 (-1) (nI tp) sz sp fa fl tk ta sg nu wd (nI P.1) (nI P.2.1) rl rw ht sd ah cl)), (aI 600 gt), (aL 8 ln), (aL 8 wn), (aI 8 fs), (aI 24 ff), (aI 8 fb), (aI 8 fn), (aI 8 fp), (aZ 8 f3), (aI 64 fk), (aI 64 fx), (aI 64 fy), (aI 64 fc), (aI 11 fr), (aI 11 f1), (aI 11 f2), (aI 22 fi), (aB 4096 fo), (aB 8192 fq), (aZ 2 fh), (aI 2 fj), (aI 4096 fw), (aI 2100 fz)]) rfl rfl) hT hPm hG hRm hm0 hm1 hsd hht htp) (mFr_of (by intro a ha; simp only [List.mem_cons, List.not_mem_nil, or_false] at ha; omega))
set_option maxRecDepth 100000 in
set_option maxHeartbeats 4000000 in
theorem q_fed_n {G : wG} {d : Nat} {h : hH} {Q : Option Value → hH → Prop} {m : Nat} {ft : Nat → Int32} {tp : Nat} {P : pD} {ht : Int32} {R : Option rnD} {i0 i1 : imD} {sd fa pl tr : Int32} {th : Int32}  {l y v u : Int32} (hI : mI h m ft tp P ht R i0 i1 sd fa pl tr th) (hl : ¬ ∃ j, j < P.1 ∧ l = nI j) (k : ∀ h2, mI h2 m ft tp P ht R i0 i1 sd fa (-1) (oFd P l y v u).2 0 → mFr m h h2 → Q (some (.int (oFd P l y v u).1)) h2) : Cl G yX10_fed (d + 2) 0 0 [.ref m, .int l, .int y, .int v, .int u] h Q := by
  refine mI_e hI ?_
  intro sz sp fl tk ta sg nu wd rl rw ah cl gt ln wn fs ff fb fn fp f3 fk fx fy fc fr f1 f2 fi fo fq fh fj fw fz hW hT hPm hG hRm hm0 hm1 hsd hht htp
  have hnL : P.1 ≤ 4096 := Nat.le_trans hG.2.2.1 (by decide)
  have hnW : P.2.1 ≤ 4096 := Nat.le_trans hG.2.2.2 (by decide)
  have hhL : (ht = 0 ∧ P.1 = 0) ∨ ht = 1 := hht.imp (fun z => ⟨z.1, z.2.1⟩) id
  have hhW : (ht = 0 ∧ P.2.1 = 0) ∨ ht = 1 := hht.imp (fun z => ⟨z.1, z.2.2⟩) id
  have hw : hHas h [m] [(oC 10 (mF m th tr pl (nI tp) sz sp fa fl tk ta sg nu wd (nI P.1) (nI P.2.1) rl rw ht sd ah cl))] := hHas_s hW [0] rfl rfl
  have nd : [m].Nodup := (nd_inc trivial)
  refine Cl.of (ini := false) kX10_fed (plainFor_of_name (by decide)) (by decide) (Nat.le_of_ble_eq_true rfl) rfl rfl (fun z => by cases z) ?_
  refine w_heq (hUs_id hw).symm ?_
  refine w_aload_n dX10_fed_0 rfl ?_
  refine w_iconst (v := 0) dX10_fed_1 (by decide) ?_
  refine w_put (fs' := (mF m 0 tr pl (nI tp) sz sp fa fl tk ta sg nu wd (nI P.1) (nI P.2.1) rl rw ht sd ah cl)) fX10_89 (hUs_at nd 0 rfl rfl) rfl rfl (Nat.le_of_ble_eq_true rfl) rfl dX10_fed_2 ?_
  refine w_heq (hUs_set nd rfl 0 (cs' := [(oC 10 (mF m 0 tr pl (nI tp) sz sp fa fl tk ta sg nu wd (nI P.1) (nI P.2.1) rl rw ht sd ah cl))]) rfl rfl) ?_
  refine w_aload_n dX10_fed_5 rfl ?_
  refine w_iload_n dX10_fed_6 rfl ?_
  refine w_callV (ci := 10) (d' := d + 1) (mc' := 0) (ms' := 0) (As := [.int l]) (st := []) lX10_251 vX10_isLoop rfl (hUs_at nd 0 rfl rfl) rfl (Nat.le_of_ble_eq_true rfl) dX10_fed_7 (Nat.le_of_ble_eq_true rfl) (Nat.le_of_ble_eq_true rfl) (Nat.le_refl _) (m_isLoop (hHas_sub nd (as' := [m]) (cs' := [(oC 10 (mF m 0 tr pl (nI tp) sz sp fa fl tk ta sg nu wd (nI P.1) (nI P.2.1) rl rw ht sd ah cl))]) [0] rfl rfl) hnL hhL ?_)
  refine w_if_eq_t (tgt := 29) dX10_fed_10 rfl (ixB_n hl hnL) ?_
  refine w_aload_n dX10_fed_29 rfl ?_
  refine w_iconst (v := 1) dX10_fed_30 (by decide) ?_
  refine w_callV (ci := 10) (d' := d + 1) (mc' := 0) (ms' := 0) (As := [.int 1]) (st := []) lX10_266 vX10_lost rfl (hUs_at nd 0 rfl rfl) rfl (Nat.le_of_ble_eq_true rfl) dX10_fed_31 (Nat.le_of_ble_eq_true rfl) (Nat.le_of_ble_eq_true rfl) (Nat.le_refl _) (m_lost (hHas_sub nd (as' := [m]) (cs' := [(oC 10 (mF m 0 tr pl (nI tp) sz sp fa fl tk ta sg nu wd (nI P.1) (nI P.2.1) rl rw ht sd ah cl))]) [0] rfl rfl) (nd_sub nd (as' := [m]) [0] rfl rfl)  ?_)
  refine w_heq (hUs_in nd rfl [0] (cs2 := [(oC 10 (mF m 0 1 (-1) (nI tp) sz sp fa fl tk ta sg nu wd (nI P.1) (nI P.2.1) rl rw ht sd ah cl))]) rfl rfl) ?_
  refine w_ireturn rfl dX10_fed_34 (Nat.le_of_ble_eq_true rfl) (Nat.le_of_ble_eq_true rfl) ?_
  have e : oFd P l y v u = ((-1000000000), 1) := by
    simp [oFd, ixN_n hl hnL]
  rw [e] at k
  exact k _ (mI_i (cI_put hW (mAs_nd m) rfl [0] (cs2 := [(oC 10 (mF m 0 1 (-1) (nI tp) sz sp fa fl tk ta sg nu wd (nI P.1) (nI P.2.1) rl rw ht sd ah cl)), (aI 600 gt), (aL 8 ln), (aL 8 wn), (aI 8 fs), (aI 24 ff), (aI 8 fb), (aI 8 fn), (aI 8 fp), (aZ 8 f3), (aI 64 fk), (aI 64 fx), (aI 64 fy), (aI 64 fc), (aI 11 fr), (aI 11 f1), (aI 11 f2), (aI 22 fi), (aB 4096 fo), (aB 8192 fq), (aZ 2 fh), (aI 2 fj), (aI 4096 fw), (aI 2100 fz)]) rfl rfl) hT hPm hG hRm hm0 hm1 hsd hht htp) (mFr_of (by intro a ha; simp only [List.mem_cons, List.not_mem_nil, or_false] at ha; omega))
theorem q_fed {G : wG} {d : Nat} {h : hH} {Q : Option Value → hH → Prop} {m : Nat} {ft : Nat → Int32} {tp : Nat} {P : pD} {ht : Int32} {R : Option rnD} {i0 i1 : imD} {sd fa pl tr : Int32} {th : Int32} {l y v u : Int32} (hI : mI h m ft tp P ht R i0 i1 sd fa pl tr th) (k : ∀ h2, mI h2 m ft tp P ht R i0 i1 sd fa (-1) (oFd P l y v u).2 0 → mFr m h h2 → Q (some (.int (oFd P l y v u).1)) h2) : Cl G yX10_fed (d + 2) 0 0 [.ref m, .int l, .int y, .int v, .int u] h Q := by
  by_cases hl : ∃ j, j < P.1 ∧ l = nI j
  · obtain ⟨j, hj, rfl⟩ := hl
    exact q_fed_s hI hj k
  · exact q_fed_n hI hl k
set_option maxRecDepth 100000 in
set_option maxHeartbeats 4000000 in
theorem l_stdy {G : wG} {d : Nat} {h : hH} {Q : Option Value → hH → Prop} {m : Nat} {th tr wa tp sz sp fa fl tk ta sg nu : Int32} {wd : Int64} {lo wv rl rw ht sd ah cl : Int32} {ln : Nat → Int64} {fn : Nat → Int32} {fs : Nat → Int32} {ff : Nat → Int32} {fb : Nat → Int32} {f3 : Nat → Int32} {j : Nat} {v : Int32} {P : pD} (nd : [m, m + 4, m + 5, m + 6, m + 9, m + 15].Nodup) (h8 : j < 8) (hLp : mLp (P.2.2.1 j) j ln fs ff fb fn f3) (hGl : lGd (P.2.2.1 j))  (k : ∀ (x : Int32) (f : Nat → Int32), mRn f (nI j) 0 (nI 1000) (qS (lPo (P.2.2.1 j)) v 1000, sd, qC (lPo (P.2.2.1 j)) v 1000) → WP G RX10 cX10_isSteadyAt 5 (some .boolean) false (d + 2) 0 0 0 0 Q 42 [some (.ref m), some (.int (nI j)), some (.int v), some (.int x), none] [] (hUs h [m, m + 4, m + 5, m + 6, m + 9, m + 15] [(oC 10 (mF m th tr wa tp sz sp fa fl tk ta sg nu wd lo wv rl rw ht sd ah cl)), (aI 8 fs), (aI 24 ff), (aI 8 fb), (aZ 8 f3), (aI 11 f)])) : ∀ (n : Nat) (t : Nat) (x : Int32) (f : Nat → Int32), t + n = 1000 → mRn f (nI j) 0 (nI t) (qS (lPo (P.2.2.1 j)) v t, sd, qC (lPo (P.2.2.1 j)) v t) → WP G RX10 cX10_isSteadyAt 5 (some .boolean) false (d + 2) 0 0 0 0 Q 15 [some (.ref m), some (.int (nI j)), some (.int v), some (.int x), some (.int (nI t))] [] (hUs h [m, m + 4, m + 5, m + 6, m + 9, m + 15] [(oC 10 (mF m th tr wa tp sz sp fa fl tk ta sg nu wd lo wv rl rw ht sd ah cl)), (aI 8 fs), (aI 24 ff), (aI 8 fb), (aZ 8 f3), (aI 11 f)]) := by
  intro n
  induction n with
  | zero =>
    intro t x f hi hq
    refine w_iload dX10_isSteadyAt_15 rfl ?_
    refine w_sipush (v := 1000) dX10_isSteadyAt_17 (by decide) ?_
    refine w_icmp_ge_t (tgt := 42) dX10_isSteadyAt_20 rfl ((nI_leI (a := 1000) (b := t) (by omega) (by omega)).mpr (by omega)) ?_
    refine w_less (ls2 := [some (.ref m), some (.int (nI j)), some (.int v), some (.int x), none]) ⟨Or.inr rfl, Or.inr rfl, Or.inr rfl, Or.inr rfl, Or.inl rfl, trivial⟩ ?_
    have z : t = 1000 := by omega
    rw [z] at hq
    exact k x f hq
  | succ n ih =>
    intro t x f hi hq
    refine w_iload dX10_isSteadyAt_15 rfl ?_
    refine w_sipush (v := 1000) dX10_isSteadyAt_17 (by decide) ?_
    refine w_icmp_ge_f (tgt := 42) dX10_isSteadyAt_20 rfl (fun z => absurd ((nI_leI (a := 1000) (b := t) (by omega) (by omega)).mp z) (by omega)) ?_
    refine w_iload_n dX10_isSteadyAt_23 rfl ?_
    refine w_aload_n dX10_isSteadyAt_24 rfl ?_
    refine w_aload_n dX10_isSteadyAt_25 rfl ?_
    refine w_get (v := .ref (m + 15)) fX10_58 (hUs_at nd 0 rfl rfl) rfl dX10_isSteadyAt_26 ?_
    refine w_iload_n dX10_isSteadyAt_29 rfl ?_
    refine w_iconst (v := 0) dX10_isSteadyAt_30 (by decide) ?_
    refine w_callV (ci := 10) (d' := d + 1) (mc' := 0) (ms' := 0) (As := [.ref (m + 15), .int v, .int 0]) (st := [.int x]) lX10_287 vX10_clock rfl (hUs_at nd 0 rfl rfl) rfl (Nat.le_of_ble_eq_true rfl) dX10_isSteadyAt_31 (Nat.le_of_ble_eq_true rfl) (Nat.le_of_ble_eq_true rfl) (Nat.le_refl _) (m_clockL (D := (P.2.2.1 j)) (s := (qS (lPo (P.2.2.1 j)) v t, sd, qC (lPo (P.2.2.1 j)) v t)) (hHas_sub nd (as' := [m, m + 4, m + 5, m + 6, m + 9, m + 15]) (cs' := [(oC 10 (mF m th tr wa tp sz sp fa fl tk ta sg nu wd lo wv rl rw ht sd ah cl)), (aI 8 fs), (aI 24 ff), (aI 8 fb), (aZ 8 f3), (aI 11 f)]) [0, 1, 2, 3, 4, 5] rfl rfl) (nd_sub nd (as' := [m, m + 4, m + 5, m + 6, m + 9, m + 15]) [0, 1, 2, 3, 4, 5] rfl rfl) h8 hLp hGl hq (by decide) (Or.inl rfl) (fun fk19 hfk19 zfk19 => ?_))
    refine w_heq (hUs_in nd rfl [0, 1, 2, 3, 4, 5] (cs2 := [(oC 10 (mF m th tr wa tp sz sp fa fl tk ta sg nu wd lo wv rl rw ht sd ah cl)), (aI 8 fs), (aI 24 ff), (aI 8 fb), (aZ 8 f3), (aI 11 fk19)]) rfl rfl) ?_
    refine w_iadd dX10_isSteadyAt_34 ?_
    refine w_istore_n (ls2 := [some (.ref m), some (.int (nI j)), some (.int v), some (.int (x + (cOut (lPo (P.2.2.1 j)) 0 (qS (lPo (P.2.2.1 j)) v t, sd, qC (lPo (P.2.2.1 j)) v t)))), some (.int (nI t))]) dX10_isSteadyAt_35 (by decide) rfl rfl ?_
    refine w_iinc (v := nI (t + 1)) (ls2 := [some (.ref m), some (.int (nI j)), some (.int v), some (.int (x + (cOut (lPo (P.2.2.1 j)) 0 (qS (lPo (P.2.2.1 j)) v t, sd, qC (lPo (P.2.2.1 j)) v t)))), some (.int (nI (t + 1)))]) dX10_isSteadyAt_36 rfl (nI_1 _) (by decide) rfl rfl ?_
    refine w_goto (tgt := 15) dX10_isSteadyAt_39 rfl ?_
    exact ih (t + 1) _ fk19 (by omega) (by
      have z := hfk19
      rw [nI_1, cSt_q] at z
      exact z)
set_option maxRecDepth 100000 in
set_option maxHeartbeats 4000000 in
theorem m_isSteadyAt {G : wG} {d : Nat} {h : hH} {Q : Option Value → hH → Prop} {m : Nat} {th tr wa tp sz sp fa fl tk ta sg nu : Int32} {wd : Int64} {lo wv rl rw ht sd ah cl : Int32} {ln : Nat → Int64} {fn : Nat → Int32} {fs : Nat → Int32} {ff : Nat → Int32} {fb : Nat → Int32} {f3 : Nat → Int32} {f1 : Nat → Int32} {P : pD} {j : Nat} {v : Int32} (hw : hHas h [m, m + 4, m + 5, m + 6, m + 9, m + 15] [(oC 10 (mF m th tr wa tp sz sp fa fl tk ta sg nu wd lo wv rl rw ht sd ah cl)), (aI 8 fs), (aI 24 ff), (aI 8 fb), (aZ 8 f3), (aI 11 f1)]) (nd : [m, m + 4, m + 5, m + 6, m + 9, m + 15].Nodup) (h8 : j < 8) (hLp : mLp (P.2.2.1 j) j ln fs ff fb fn f3) (hGl : lGd (P.2.2.1 j)) (k : ∀ f1 : Nat → Int32, Q (some (.int (suB (lPo (P.2.2.1 j)) v))) (hUs h [m, m + 4, m + 5, m + 6, m + 9, m + 15] [(oC 10 (mF m th tr wa tp sz sp fa fl tk ta sg nu wd lo wv rl rw ht sd ah cl)), (aI 8 fs), (aI 24 ff), (aI 8 fb), (aZ 8 f3), (aI 11 f1)])) : Cl G yX10_isSteadyAt (d + 2) 0 0 [.ref m, .int (nI j), .int v] h Q := by
  refine Cl.of (ini := false) kX10_isSteadyAt (plainFor_of_name (by decide)) (by decide) (Nat.le_of_ble_eq_true rfl) rfl rfl (fun z => by cases z) ?_
  refine w_heq (hUs_id hw).symm ?_
  refine w_aload_n dX10_isSteadyAt_0 rfl ?_
  refine w_aload_n dX10_isSteadyAt_1 rfl ?_
  refine w_get (v := .ref (m + 15)) fX10_58 (hUs_at nd 0 rfl rfl) rfl dX10_isSteadyAt_2 ?_
  refine w_iload_n dX10_isSteadyAt_5 rfl ?_
  refine w_iconst (v := 0) dX10_isSteadyAt_6 (by decide) ?_
  refine w_callV (ci := 10) (d' := d + 1) (mc' := 0) (ms' := 0) (As := [.ref (m + 15), .int (nI j), .int 0]) (st := []) lX10_280 vX10_starts rfl (hUs_at nd 0 rfl rfl) rfl (Nat.le_of_ble_eq_true rfl) dX10_isSteadyAt_7 (Nat.le_of_ble_eq_true rfl) (Nat.le_of_ble_eq_true rfl) (Nat.le_refl _) (m_starts (hHas_sub nd (as' := [m, m + 15]) (cs' := [(oC 10 (mF m th tr wa tp sz sp fa fl tk ta sg nu wd lo wv rl rw ht sd ah cl)), (aI 11 f1)]) [0, 5] rfl rfl) (nd_sub nd (as' := [m, m + 15]) [0, 5] rfl rfl)  ?_)
  refine w_heq (hUs_in nd rfl [0, 5] (cs2 := [(oC 10 (mF m th tr wa tp sz sp fa fl tk ta sg nu wd lo wv rl rw ht sd ah cl)), (aI 8 fs), (aI 24 ff), (aI 8 fb), (aZ 8 f3), (aI 11 (stA (nI j) 0 sd))]) rfl rfl) ?_
  refine w_iconst (v := 0) dX10_isSteadyAt_10 (by decide) ?_
  refine w_istore_n (ls2 := [some (.ref m), some (.int (nI j)), some (.int v), some (.int 0), none]) dX10_isSteadyAt_11 (by decide) rfl rfl ?_
  refine w_iconst (v := (nI 0)) dX10_isSteadyAt_12 (by decide) ?_
  refine w_istore (ls2 := [some (.ref m), some (.int (nI j)), some (.int v), some (.int 0), some (.int (nI 0))]) dX10_isSteadyAt_13 (by decide) rfl rfl ?_
  refine l_stdy (ln := ln) (fn := fn) nd h8 hLp hGl (fun x9 f9 hq9 => ?_) 1000 0 _ _ rfl (stA_rn _ _ _)
  refine w_aload_n dX10_isSteadyAt_42 rfl ?_
  refine w_get (v := .ref (m + 15)) fX10_58 (hUs_at nd 0 rfl rfl) rfl dX10_isSteadyAt_43 ?_
  refine w_iconst (v := (nI 4)) dX10_isSteadyAt_46 (by decide) ?_
  refine w_ialoadN (hUs_at nd 5 rfl rfl) (by omega) (by omega) dX10_isSteadyAt_47 ?_
  refine w_top (z := qC (lPo (P.2.2.1 j)) v 1000) hq9.2.2.2.2.1 ?_
  refine w_if_ne (tgt := 55) dX10_isSteadyAt_48 rfl (fun b48 => ?_) (fun b48 => ?_)
  · refine w_iconst (v := 0) dX10_isSteadyAt_55 (by decide) ?_
    refine w_zreturn rfl dX10_isSteadyAt_56 rfl (Nat.le_of_ble_eq_true rfl) (Nat.le_of_ble_eq_true rfl) ?_
    have e : suB (lPo (P.2.2.1 j)) v = 0 := by
      rw [suB_q _ _ hGl.2.1, if_neg b48]
    rw [e] at k
    exact k _
  · refine w_iconst (v := 1) dX10_isSteadyAt_51 (by decide) ?_
    refine w_goto (tgt := 56) dX10_isSteadyAt_52 rfl ?_
    refine w_zreturn rfl dX10_isSteadyAt_56 rfl (Nat.le_of_ble_eq_true rfl) (Nat.le_of_ble_eq_true rfl) ?_
    have e : suB (lPo (P.2.2.1 j)) v = 1 := by
      rw [suB_q _ _ hGl.2.1, if_pos b48]
    rw [e] at k
    exact k _
def gI (i : Nat) : Int32 := if i = 0 then -2 else nI (50 * (i - 1))
set_option maxRecDepth 100000 in
set_option maxHeartbeats 4000000 in
theorem lq_steady {G : wG} {d : Nat} {h : hH} {Q : Option Value → hH → Prop} {m tp : Nat} {P : pD} {ht sd fa pl tr sz sp fl tk ta sg nu : Int32} {wd : Int64} {rl rw ah cl : Int32} {ln : Nat → Int64} {fn : Nat → Int32} {fs : Nat → Int32} {ff : Nat → Int32} {fb : Nat → Int32} {f3 : Nat → Int32} {j : Nat} (nd : [m, m + 4, m + 5, m + 6, m + 9, m + 15].Nodup) (h8 : j < 8) (hLp : mLp (P.2.2.1 j) j ln fs ff fb fn f3) (hGl : lGd (P.2.2.1 j)) (k : ∀ (i : Nat) (f : Nat → Int32), i ≤ 21 → stF (lPo (P.2.2.1 j)) 21 0 (-2) = gI i → WP G RX10 cX10_steady 3 (some .int) false (d + 3) 0 0 0 0 Q 43 [some (.ref m), some (.int (nI j)), some (.int (nI (50 * i)))] [] (hUs h [m, m + 4, m + 5, m + 6, m + 9, m + 15] [(oC 10 (mF m 0 tr pl (nI tp) sz sp fa fl tk ta sg nu wd (nI P.1) (nI P.2.1) rl rw ht sd ah cl)), (aI 8 fs), (aI 24 ff), (aI 8 fb), (aZ 8 f3), (aI 11 f)])) : ∀ (n : Nat) (i : Nat) (f : Nat → Int32), i + n = 21 → stF (lPo (P.2.2.1 j)) 21 0 (-2) = stF (lPo (P.2.2.1 j)) n i (gI i) → WP G RX10 cX10_steady 3 (some .int) false (d + 3) 0 0 0 0 Q 21 [some (.ref m), some (.int (nI j)), some (.int (nI (50 * i)))] [] (hUs h [m, m + 4, m + 5, m + 6, m + 9, m + 15] [(oC 10 (mF m 0 tr pl (nI tp) sz sp fa fl tk ta sg nu wd (nI P.1) (nI P.2.1) rl rw ht sd ah cl)), (aI 8 fs), (aI 24 ff), (aI 8 fb), (aZ 8 f3), (aI 11 f)]) := by
  intro n
  induction n with
  | zero =>
    intro i f hi e
    refine w_iload_n dX10_steady_21 rfl ?_
    refine w_sipush (v := 1000) dX10_steady_22 (by decide) ?_
    refine w_icmp_gt_t (tgt := 43) dX10_steady_25 rfl ((nI_ltI (a := 1000) (b := (50 * i)) (by omega) (by omega)).mpr (by omega)) ?_
    exact k i _ (by omega) e
  | succ n ih =>
    intro i f hi e
    refine w_iload_n dX10_steady_21 rfl ?_
    refine w_sipush (v := 1000) dX10_steady_22 (by decide) ?_
    refine w_icmp_gt_f (tgt := 43) dX10_steady_25 rfl (fun z => absurd ((nI_ltI (a := 1000) (b := (50 * i)) (by omega) (by omega)).mp z) (by omega)) ?_
    refine w_aload_n dX10_steady_28 rfl ?_
    refine w_iload_n dX10_steady_29 rfl ?_
    refine w_iload_n dX10_steady_30 rfl ?_
    refine w_callV (ci := 10) (d' := d + 2) (mc' := 0) (ms' := 0) (As := [.int (nI j), .int (nI (50 * i))]) (st := []) lX10_338 vX10_isSteadyAt rfl (hUs_at nd 0 rfl rfl) rfl (Nat.le_of_ble_eq_true rfl) dX10_steady_31 (Nat.le_of_ble_eq_true rfl) (Nat.le_of_ble_eq_true rfl) (Nat.le_refl _) (m_isSteadyAt (ln := ln) (fn := fn) (P := P) (hHas_sub nd (as' := [m, m + 4, m + 5, m + 6, m + 9, m + 15]) (cs' := [(oC 10 (mF m 0 tr pl (nI tp) sz sp fa fl tk ta sg nu wd (nI P.1) (nI P.2.1) rl rw ht sd ah cl)), (aI 8 fs), (aI 24 ff), (aI 8 fb), (aZ 8 f3), (aI 11 f)]) [0, 1, 2, 3, 4, 5] rfl rfl) (nd_sub nd (as' := [m, m + 4, m + 5, m + 6, m + 9, m + 15]) [0, 1, 2, 3, 4, 5] rfl rfl) h8 hLp hGl (fun fs9 => ?_))
    refine w_heq (hUs_in nd rfl [0, 1, 2, 3, 4, 5] (cs2 := [(oC 10 (mF m 0 tr pl (nI tp) sz sp fa fl tk ta sg nu wd (nI P.1) (nI P.2.1) rl rw ht sd ah cl)), (aI 8 fs), (aI 24 ff), (aI 8 fb), (aZ 8 f3), (aI 11 fs9)]) rfl rfl) ?_
    refine w_if_eq (tgt := 43) dX10_steady_34 rfl (fun b34 => ?_) (fun b34 => ?_)
    · have e2 : stF (lPo (P.2.2.1 j)) (n + 1) i (gI i) = gI i := by
        rw [stF, if_pos b34]
      exact k i _ (by omega) (e.trans e2)
    · refine w_iinc (v := nI ((50 * i) + 50)) (ls2 := [some (.ref m), some (.int (nI j)), some (.int (nI ((50 * i) + 50)))]) dX10_steady_37 rfl (nI_add _ _) (by decide) rfl rfl ?_
      refine w_goto (tgt := 21) dX10_steady_40 rfl ?_
      have e2 : stF (lPo (P.2.2.1 j)) (n + 1) i (gI i) = stF (lPo (P.2.2.1 j)) n (i + 1) (nI (50 * i)) := by
        rw [stF, if_neg b34]
      exact ih (i + 1) _ (by omega) (e.trans (e2.trans (by rw [gI, if_neg (by omega)]; rfl)))
set_option maxRecDepth 100000 in
set_option maxHeartbeats 4000000 in
theorem q_steady_s {G : wG} {d : Nat} {h : hH} {Q : Option Value → hH → Prop} {m : Nat} {ft : Nat → Int32} {tp : Nat} {P : pD} {ht : Int32} {R : Option rnD} {i0 i1 : imD} {sd fa pl tr : Int32} {th : Int32}  {j : Nat} (hI : mI h m ft tp P ht R i0 i1 sd fa pl tr th) (hj : j < P.1) (k : ∀ h2, mI h2 m ft tp P ht R i0 i1 sd fa (-1) (oSt P (nI j)).2 0 → mFr m h h2 → Q (some (.int (oSt P (nI j)).1)) h2) : Cl G yX10_steady (d + 3) 0 0 [.ref m, .int (nI j)] h Q := by
  refine mI_e hI ?_
  intro sz sp fl tk ta sg nu wd rl rw ah cl gt ln wn fs ff fb fn fp f3 fk fx fy fc fr f1 f2 fi fo fq fh fj fw fz hW hT hPm hG hRm hm0 hm1 hsd hht htp
  have hnL : P.1 ≤ 4096 := Nat.le_trans hG.2.2.1 (by decide)
  have hnW : P.2.1 ≤ 4096 := Nat.le_trans hG.2.2.2 (by decide)
  have hhL : (ht = 0 ∧ P.1 = 0) ∨ ht = 1 := hht.imp (fun z => ⟨z.1, z.2.1⟩) id
  have hhW : (ht = 0 ∧ P.2.1 = 0) ∨ ht = 1 := hht.imp (fun z => ⟨z.1, z.2.2⟩) id
  have hLp := hPm.1 j hj
  rw [Nat.zero_add] at hLp
  have hGl := hG.1 j hj
  have hj4 : j < 4 := Nat.lt_of_lt_of_le hj hG.2.2.1
  have hs1 := hGl.1
  have hs3 := hGl.2.1
  have hw : hHas h [m, m + 4, m + 5, m + 6, m + 9, m + 15] [(oC 10 (mF m th tr pl (nI tp) sz sp fa fl tk ta sg nu wd (nI P.1) (nI P.2.1) rl rw ht sd ah cl)), (aI 8 fs), (aI 24 ff), (aI 8 fb), (aZ 8 f3), (aI 11 f1)] := hHas_s hW [0, 4, 5, 6, 9, 15] rfl rfl
  have nd : [m, m + 4, m + 5, m + 6, m + 9, m + 15].Nodup := (nd_inc ⟨by omega, by omega, by omega, by omega, by omega, trivial⟩)
  refine Cl.of (ini := false) kX10_steady (plainFor_of_name (by decide)) (by decide) (Nat.le_of_ble_eq_true rfl) rfl rfl (fun z => by cases z) ?_
  refine w_heq (hUs_id hw).symm ?_
  refine w_aload_n dX10_steady_0 rfl ?_
  refine w_iconst (v := 0) dX10_steady_1 (by decide) ?_
  refine w_put (fs' := (mF m 0 tr pl (nI tp) sz sp fa fl tk ta sg nu wd (nI P.1) (nI P.2.1) rl rw ht sd ah cl)) fX10_89 (hUs_at nd 0 rfl rfl) rfl rfl (Nat.le_of_ble_eq_true rfl) rfl dX10_steady_2 ?_
  refine w_heq (hUs_set nd rfl 0 (cs' := [(oC 10 (mF m 0 tr pl (nI tp) sz sp fa fl tk ta sg nu wd (nI P.1) (nI P.2.1) rl rw ht sd ah cl)), (aI 8 fs), (aI 24 ff), (aI 8 fb), (aZ 8 f3), (aI 11 f1)]) rfl rfl) ?_
  refine w_aload_n dX10_steady_5 rfl ?_
  refine w_iload_n dX10_steady_6 rfl ?_
  refine w_callV (ci := 10) (d' := d + 2) (mc' := 0) (ms' := 0) (As := [.int (nI j)]) (st := []) lX10_251 vX10_isLoop rfl (hUs_at nd 0 rfl rfl) rfl (Nat.le_of_ble_eq_true rfl) dX10_steady_7 (Nat.le_of_ble_eq_true rfl) (Nat.le_of_ble_eq_true rfl) (Nat.le_refl _) (m_isLoop (hHas_sub nd (as' := [m]) (cs' := [(oC 10 (mF m 0 tr pl (nI tp) sz sp fa fl tk ta sg nu wd (nI P.1) (nI P.2.1) rl rw ht sd ah cl))]) [0] rfl rfl) hnL hhL ?_)
  refine w_if_ne_t (tgt := 19) dX10_steady_10 rfl (by rw [ixB_s hj hnL]; decide) ?_
  refine w_iconst (v := (nI 0)) dX10_steady_19 (by decide) ?_
  refine w_istore_n (ls2 := [some (.ref m), some (.int (nI j)), some (.int (nI 0))]) dX10_steady_20 (by decide) rfl rfl ?_
  refine lq_steady (ln := ln) (fn := fn) nd (show j < 8 by omega) hLp hGl (fun i9 f9 hi9 he9 => ?_) 21 0 f1 rfl rfl
  refine w_aload_n dX10_steady_43 rfl ?_
  refine w_iload_n dX10_steady_44 rfl ?_
  refine w_if_ne (tgt := 53) dX10_steady_45 rfl (fun b45 => ?_) (fun b45 => ?_)
  · have b45 : ¬ (50 * i9) = 0 := fun z => b45 ((nI_eq (a := (50 * i9)) (b := 0) (by omega) (by omega)).mpr z)
    refine w_iload_n dX10_steady_53 rfl ?_
    refine w_bipush (v := 50) dX10_steady_54 (by decide) ?_
    refine w_isubE (z := nI ((50 * i9) - 50)) dX10_steady_56 (pk_sub (a := (50 * i9)) (b := 50) (by omega)) ?_
    refine w_callV (ci := 10) (d' := d + 2) (mc' := 0) (ms' := 0) (As := [.int (nI ((50 * i9) - 50))]) (st := []) lX10_241 vX10_good rfl (hUs_at nd 0 rfl rfl) rfl (Nat.le_of_ble_eq_true rfl) dX10_steady_57 (Nat.le_of_ble_eq_true rfl) (Nat.le_of_ble_eq_true rfl) (Nat.le_refl _) (m_good (hHas_sub nd (as' := [m]) (cs' := [(oC 10 (mF m 0 tr pl (nI tp) sz sp fa fl tk ta sg nu wd (nI P.1) (nI P.2.1) rl rw ht sd ah cl))]) [0] rfl rfl) (nd_sub nd (as' := [m]) [0] rfl rfl)  ?_)
    refine w_heq (hUs_in nd rfl [0] (cs2 := [(oC 10 (mF m 0 0 (-1) (nI tp) sz sp fa fl tk ta sg nu wd (nI P.1) (nI P.2.1) rl rw ht sd ah cl)), (aI 8 fs), (aI 24 ff), (aI 8 fb), (aZ 8 f3), (aI 11 f9)]) rfl rfl) ?_
    refine w_ireturn rfl dX10_steady_60 (Nat.le_of_ble_eq_true rfl) (Nat.le_of_ble_eq_true rfl) ?_
    have e : oSt P (nI j) = (nI ((50 * i9) - 50), 0) := by
      simp only [oSt, ixN_s hj hnL]
      rw [he9, gI, if_neg (by omega), show 50 * (i9 - 1) = 50 * i9 - 50 by omega]
    rw [e] at k
    exact k _ (mI_i (cI_put hW (mAs_nd m) rfl [0, 4, 5, 6, 9, 15] (cs2 := [(oC 10 (mF m 0 0 (-1) (nI tp) sz sp fa fl tk ta sg nu wd (nI P.1) (nI P.2.1) rl rw ht sd ah cl)), (aI 600 gt), (aL 8 ln), (aL 8 wn), (aI 8 fs), (aI 24 ff), (aI 8 fb), (aI 8 fn), (aI 8 fp), (aZ 8 f3), (aI 64 fk), (aI 64 fx), (aI 64 fy), (aI 64 fc), (aI 11 fr), (aI 11 f9), (aI 11 f2), (aI 22 fi), (aB 4096 fo), (aB 8192 fq), (aZ 2 fh), (aI 2 fj), (aI 4096 fw), (aI 2100 fz)]) rfl rfl) hT hPm hG hRm hm0 hm1 hsd hht htp) (mFr_of (by intro a ha; simp only [List.mem_cons, List.not_mem_nil, or_false] at ha; omega))
  · have b45 := (nI_eq (a := (50 * i9)) (b := 0) (by omega) (by omega)).mp b45
    refine w_bipush (v := (-2)) dX10_steady_48 (by decide) ?_
    refine w_goto (tgt := 57) dX10_steady_50 rfl ?_
    refine w_callV (ci := 10) (d' := d + 2) (mc' := 0) (ms' := 0) (As := [.int (-2)]) (st := []) lX10_241 vX10_good rfl (hUs_at nd 0 rfl rfl) rfl (Nat.le_of_ble_eq_true rfl) dX10_steady_57 (Nat.le_of_ble_eq_true rfl) (Nat.le_of_ble_eq_true rfl) (Nat.le_refl _) (m_good (hHas_sub nd (as' := [m]) (cs' := [(oC 10 (mF m 0 tr pl (nI tp) sz sp fa fl tk ta sg nu wd (nI P.1) (nI P.2.1) rl rw ht sd ah cl))]) [0] rfl rfl) (nd_sub nd (as' := [m]) [0] rfl rfl)  ?_)
    refine w_heq (hUs_in nd rfl [0] (cs2 := [(oC 10 (mF m 0 0 (-1) (nI tp) sz sp fa fl tk ta sg nu wd (nI P.1) (nI P.2.1) rl rw ht sd ah cl)), (aI 8 fs), (aI 24 ff), (aI 8 fb), (aZ 8 f3), (aI 11 f9)]) rfl rfl) ?_
    refine w_ireturn rfl dX10_steady_60 (Nat.le_of_ble_eq_true rfl) (Nat.le_of_ble_eq_true rfl) ?_
    have e : oSt P (nI j) = ((-2), 0) := by
      simp only [oSt, ixN_s hj hnL]
      rw [he9, gI, if_pos (by omega)]
    rw [e] at k
    exact k _ (mI_i (cI_put hW (mAs_nd m) rfl [0, 4, 5, 6, 9, 15] (cs2 := [(oC 10 (mF m 0 0 (-1) (nI tp) sz sp fa fl tk ta sg nu wd (nI P.1) (nI P.2.1) rl rw ht sd ah cl)), (aI 600 gt), (aL 8 ln), (aL 8 wn), (aI 8 fs), (aI 24 ff), (aI 8 fb), (aI 8 fn), (aI 8 fp), (aZ 8 f3), (aI 64 fk), (aI 64 fx), (aI 64 fy), (aI 64 fc), (aI 11 fr), (aI 11 f9), (aI 11 f2), (aI 22 fi), (aB 4096 fo), (aB 8192 fq), (aZ 2 fh), (aI 2 fj), (aI 4096 fw), (aI 2100 fz)]) rfl rfl) hT hPm hG hRm hm0 hm1 hsd hht htp) (mFr_of (by intro a ha; simp only [List.mem_cons, List.not_mem_nil, or_false] at ha; omega))
set_option maxRecDepth 100000 in
set_option maxHeartbeats 4000000 in
theorem q_steady_n {G : wG} {d : Nat} {h : hH} {Q : Option Value → hH → Prop} {m : Nat} {ft : Nat → Int32} {tp : Nat} {P : pD} {ht : Int32} {R : Option rnD} {i0 i1 : imD} {sd fa pl tr : Int32} {th : Int32}  {l : Int32} (hI : mI h m ft tp P ht R i0 i1 sd fa pl tr th) (hl : ¬ ∃ j, j < P.1 ∧ l = nI j) (k : ∀ h2, mI h2 m ft tp P ht R i0 i1 sd fa (-1) (oSt P l).2 0 → mFr m h h2 → Q (some (.int (oSt P l).1)) h2) : Cl G yX10_steady (d + 3) 0 0 [.ref m, .int l] h Q := by
  refine mI_e hI ?_
  intro sz sp fl tk ta sg nu wd rl rw ah cl gt ln wn fs ff fb fn fp f3 fk fx fy fc fr f1 f2 fi fo fq fh fj fw fz hW hT hPm hG hRm hm0 hm1 hsd hht htp
  have hnL : P.1 ≤ 4096 := Nat.le_trans hG.2.2.1 (by decide)
  have hnW : P.2.1 ≤ 4096 := Nat.le_trans hG.2.2.2 (by decide)
  have hhL : (ht = 0 ∧ P.1 = 0) ∨ ht = 1 := hht.imp (fun z => ⟨z.1, z.2.1⟩) id
  have hhW : (ht = 0 ∧ P.2.1 = 0) ∨ ht = 1 := hht.imp (fun z => ⟨z.1, z.2.2⟩) id
  have hw : hHas h [m] [(oC 10 (mF m th tr pl (nI tp) sz sp fa fl tk ta sg nu wd (nI P.1) (nI P.2.1) rl rw ht sd ah cl))] := hHas_s hW [0] rfl rfl
  have nd : [m].Nodup := (nd_inc trivial)
  refine Cl.of (ini := false) kX10_steady (plainFor_of_name (by decide)) (by decide) (Nat.le_of_ble_eq_true rfl) rfl rfl (fun z => by cases z) ?_
  refine w_heq (hUs_id hw).symm ?_
  refine w_aload_n dX10_steady_0 rfl ?_
  refine w_iconst (v := 0) dX10_steady_1 (by decide) ?_
  refine w_put (fs' := (mF m 0 tr pl (nI tp) sz sp fa fl tk ta sg nu wd (nI P.1) (nI P.2.1) rl rw ht sd ah cl)) fX10_89 (hUs_at nd 0 rfl rfl) rfl rfl (Nat.le_of_ble_eq_true rfl) rfl dX10_steady_2 ?_
  refine w_heq (hUs_set nd rfl 0 (cs' := [(oC 10 (mF m 0 tr pl (nI tp) sz sp fa fl tk ta sg nu wd (nI P.1) (nI P.2.1) rl rw ht sd ah cl))]) rfl rfl) ?_
  refine w_aload_n dX10_steady_5 rfl ?_
  refine w_iload_n dX10_steady_6 rfl ?_
  refine w_callV (ci := 10) (d' := d + 2) (mc' := 0) (ms' := 0) (As := [.int l]) (st := []) lX10_251 vX10_isLoop rfl (hUs_at nd 0 rfl rfl) rfl (Nat.le_of_ble_eq_true rfl) dX10_steady_7 (Nat.le_of_ble_eq_true rfl) (Nat.le_of_ble_eq_true rfl) (Nat.le_refl _) (m_isLoop (hHas_sub nd (as' := [m]) (cs' := [(oC 10 (mF m 0 tr pl (nI tp) sz sp fa fl tk ta sg nu wd (nI P.1) (nI P.2.1) rl rw ht sd ah cl))]) [0] rfl rfl) hnL hhL ?_)
  refine w_if_ne_f (tgt := 19) dX10_steady_10 rfl (ixB_n hl hnL) ?_
  refine w_aload_n dX10_steady_13 rfl ?_
  refine w_iconst (v := 1) dX10_steady_14 (by decide) ?_
  refine w_callV (ci := 10) (d' := d + 2) (mc' := 0) (ms' := 0) (As := [.int 1]) (st := []) lX10_228 vX10_refused rfl (hUs_at nd 0 rfl rfl) rfl (Nat.le_of_ble_eq_true rfl) dX10_steady_15 (Nat.le_of_ble_eq_true rfl) (Nat.le_of_ble_eq_true rfl) (Nat.le_refl _) (m_refused (hHas_sub nd (as' := [m]) (cs' := [(oC 10 (mF m 0 tr pl (nI tp) sz sp fa fl tk ta sg nu wd (nI P.1) (nI P.2.1) rl rw ht sd ah cl))]) [0] rfl rfl) (nd_sub nd (as' := [m]) [0] rfl rfl)  ?_)
  refine w_heq (hUs_in nd rfl [0] (cs2 := [(oC 10 (mF m 0 1 (-1) (nI tp) sz sp fa fl tk ta sg nu wd (nI P.1) (nI P.2.1) rl rw ht sd ah cl))]) rfl rfl) ?_
  refine w_ireturn rfl dX10_steady_18 (Nat.le_of_ble_eq_true rfl) (Nat.le_of_ble_eq_true rfl) ?_
  have e : oSt P l = ((-1), 1) := by
    simp [oSt, ixN_n hl hnL]
  rw [e] at k
  exact k _ (mI_i (cI_put hW (mAs_nd m) rfl [0] (cs2 := [(oC 10 (mF m 0 1 (-1) (nI tp) sz sp fa fl tk ta sg nu wd (nI P.1) (nI P.2.1) rl rw ht sd ah cl)), (aI 600 gt), (aL 8 ln), (aL 8 wn), (aI 8 fs), (aI 24 ff), (aI 8 fb), (aI 8 fn), (aI 8 fp), (aZ 8 f3), (aI 64 fk), (aI 64 fx), (aI 64 fy), (aI 64 fc), (aI 11 fr), (aI 11 f1), (aI 11 f2), (aI 22 fi), (aB 4096 fo), (aB 8192 fq), (aZ 2 fh), (aI 2 fj), (aI 4096 fw), (aI 2100 fz)]) rfl rfl) hT hPm hG hRm hm0 hm1 hsd hht htp) (mFr_of (by intro a ha; simp only [List.mem_cons, List.not_mem_nil, or_false] at ha; omega))
theorem q_steady {G : wG} {d : Nat} {h : hH} {Q : Option Value → hH → Prop} {m : Nat} {ft : Nat → Int32} {tp : Nat} {P : pD} {ht : Int32} {R : Option rnD} {i0 i1 : imD} {sd fa pl tr : Int32} {th : Int32} {l : Int32} (hI : mI h m ft tp P ht R i0 i1 sd fa pl tr th) (k : ∀ h2, mI h2 m ft tp P ht R i0 i1 sd fa (-1) (oSt P l).2 0 → mFr m h h2 → Q (some (.int (oSt P l).1)) h2) : Cl G yX10_steady (d + 3) 0 0 [.ref m, .int l] h Q := by
  by_cases hl : ∃ j, j < P.1 ∧ l = nI j
  · obtain ⟨j, hj, rfl⟩ := hl
    exact q_steady_s hI hj k
  · exact q_steady_n hI hl k
