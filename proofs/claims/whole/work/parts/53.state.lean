/-- a name as the reference has it: the letters in the other order -/
def nmN : Nat → Nat → Nat → Nat
  | 0, _, a => a
  | k + 1, N, a => if N = 0 then a else nmN k (N / 32) (a * 32 + N % 32)
def nmX (v : Int32) : Int64 := Int64.ofNat (nmN 6 (tN v) 0)
/-- letters, then nothing -/
def nmG : Nat → Nat → Prop
  | 0, N => N = 0
  | k + 1, N => N = 0 ∨ ((1 ≤ N % 32 ∧ N % 32 ≤ 26) ∧ nmG k (N / 32))
def nmOk (v : Int32) : Prop := ∃ N, v = nI N ∧ N < 2 ^ 30 ∧ 0 < N ∧ nmG 6 N
def lGd (D : lD) : Prop := 1 ≤ D.2.1 ∧ D.2.1 ≤ 3 ∧ (∀ s, D.2.1 ≤ s → s < 3 → D.2.2.1 s = 0) ∧ (1000 ≤ D.2.2.2.1 ∧ D.2.2.2.1 ≤ 9999) ∧ (0 ≤ D.2.2.2.2.1 ∧ D.2.2.2.2.1 ≤ 999) ∧ (D.2.2.2.2.2 = 0 ∨ D.2.2.2.2.2 = 1) ∧ nmOk D.1
def pGd (P : pD) : Prop := (∀ j, j < P.1 → lGd (P.2.2.1 j)) ∧ (∀ j, j < P.2.1 → wGd (P.2.2.2 j).2 ∧ nmOk (P.2.2.2 j).1) ∧ P.1 ≤ 4 ∧ P.2.1 ≤ 4
def mLp (D : lD) (j : Nat) (ln : Nat → Int64) (fs ff fb fn f3 : Nat → Int32) : Prop := fs j = nI D.2.1 ∧ (∀ s, s < D.2.1 → ff (3 * j + s) = D.2.2.1 s) ∧ fb j = D.2.2.2.1 ∧ fn j = D.2.2.2.2.1 ∧ f3 j = D.2.2.2.2.2 ∧ ln j = nmX D.1
def mWv (D : wD) (j : Nat) (wn : Nat → Int64) (fp fk fx fy fc : Nat → Int32) : Prop := fp j = nI D.2.2.2.2.2.1 ∧ wAt D.2 (8 * j) fk fx fy fc ∧ wn j = nmX D.1
def mPl (P : pD) (g : Nat) (ln wn : Nat → Int64) (fs ff fb fn fp f3 fk fx fy fc : Nat → Int32) : Prop := (∀ j, j < P.1 → mLp (P.2.2.1 j) (g + j) ln fs ff fb fn f3) ∧ (∀ j, j < P.2.1 → mWv (P.2.2.2 j) (g + j) wn fp fk fx fy fc)
def mT (tp : Nat) (ft gt : Nat → Int32) : Prop := ∀ j, j < tp → gt j = ft j &&& 255 ∧ -128 ≤ ft j ∧ ft j ≤ 127
def sdOk (s : Int32) : Prop := 1 ≤ s ∧ s ≤ 65535
/-- a run in a row, its outs in another -/
def mRr (P : pD) (r : rnD) (f fo : Nat → Int32) : Prop := rnOk P r ∧ sdOk r.2.2.1 ∧ mRn f (nI r.1) (nI r.2.1) (nI r.2.2.2) (rS (rQo P r.1 r.2.1 r.2.2.1) r.2.2.2) ∧ (∀ s, s < (P.2.2.1 r.1).2.1 → f (8 + s) = rZ (rQo P r.1 r.2.1 r.2.2.1) r.2.2.2 s) ∧ (∀ t, t < r.2.2.2 → fo t = rO (rQo P r.1 r.2.1 r.2.2.1) t)
def mRv (P : pD) (ht : Int32) (R : Option rnD) (fr fo : Nat → Int32) : Prop := match R with
  | none => ht = 0 ∨ fr 0 = -1
  | some r => ht = 1 ∧ mRr P r fr fo
def mIv (P : pD) (ht : Int32) (k : Nat) (i : imD) (fi fq fh fj : Nat → Int32) : Prop := match i with
  | none => fh k = 0
  | some (none, s) => ht = 1 ∧ fh k = 1 ∧ fj k = s ∧ sdOk s ∧ fi (11 * k) = -1
  | some (some r, s) => ht = 1 ∧ fh k = 1 ∧ fj k = s ∧ sdOk s ∧ mRr P r (fun j => fi (11 * k + j)) (fun t => fq (4096 * k + t))
def mHt (P : pD) (ht : Int32) : Prop := (ht = 0 ∧ P.1 = 0 ∧ P.2.1 = 0) ∨ ht = 1
/-- the reference's object at m, and what it holds -/
def mI (h : hH) (m : Nat) (ft : Nat → Int32) (tp : Nat) (P : pD) (ht : Int32) (R : Option rnD) (i0 i1 : imD) (sd fa pl tr : Int32) (th : Int32) : Prop := ∃ (sz sp fl tk ta sg nu : Int32) (wd : Int64) (rl rw ah cl : Int32) (gt : Nat → Int32) (ln wn : Nat → Int64) (fs ff fb fn fp f3 fk fx fy fc fr f1 f2 fi fo fq fh fj fw fz : Nat → Int32), hHas h [m, m + 1, m + 2, m + 3, m + 4, m + 5, m + 6, m + 7, m + 8, m + 9, m + 10, m + 11, m + 12, m + 13, m + 14, m + 15, m + 16, m + 17, m + 18, m + 19, m + 20, m + 21, m + 22, m + 23] [(oC 10 (mF m th tr pl (nI tp) sz sp fa fl tk ta sg nu wd (nI P.1) (nI P.2.1) rl rw ht sd ah cl)), (aI 600 gt), (aL 8 ln), (aL 8 wn), (aI 8 fs), (aI 24 ff), (aI 8 fb), (aI 8 fn), (aI 8 fp), (aZ 8 f3), (aI 64 fk), (aI 64 fx), (aI 64 fy), (aI 64 fc), (aI 11 fr), (aI 11 f1), (aI 11 f2), (aI 22 fi), (aB 4096 fo), (aB 8192 fq), (aZ 2 fh), (aI 2 fj), (aI 4096 fw), (aI 2100 fz)] ∧ mT tp ft gt ∧ mPl P 0 ln wn fs ff fb fn fp f3 fk fx fy fc ∧ pGd P ∧ mRv P ht R fr fo ∧ mIv P ht 0 i0 fi fq fh fj ∧ mIv P ht 1 i1 fi fq fh fj ∧ sdOk sd ∧ mHt P ht ∧ tp ≤ 600
def mFr (m : Nat) (h h2 : hH) : Prop := h2.2 = h.2 ∧ ∀ a, (a < m ∨ m + 24 ≤ a) → h2.1 a = h.1 a
theorem mFr_of {h : hH} {m : Nat} {as : List Nat} {cs : List hC} (n : ∀ a, a ∈ as → m ≤ a ∧ a < m + 24) : mFr m h (hUs h as cs) := ⟨hUs_2, fun a h1 => hUs_ne (fun z => by have := n a z; omega)⟩
theorem mFr_refl {m : Nat} {h : hH} : mFr m h h := ⟨rfl, fun _ _ => rfl⟩
theorem mFr_t {m : Nat} {h h1 h2 : hH} (a : mFr m h h1) (c : mFr m h1 h2) : mFr m h h2 := ⟨c.1.trans a.1, fun x e => (c.2 x e).trans (a.2 x e)⟩
theorem mAs_nd (m : Nat) : ([m, m + 1, m + 2, m + 3, m + 4, m + 5, m + 6, m + 7, m + 8, m + 9, m + 10, m + 11, m + 12, m + 13, m + 14, m + 15, m + 16, m + 17, m + 18, m + 19, m + 20, m + 21, m + 22, m + 23] : List Nat).Nodup := nd_inc ⟨by omega, by omega, by omega, by omega, by omega, by omega, by omega, by omega, by omega, by omega, by omega, by omega, by omega, by omega, by omega, by omega, by omega, by omega, by omega, by omega, by omega, by omega, by omega, trivial⟩
theorem mI_e {h : hH} {m : Nat} {ft : Nat → Int32} {tp : Nat} {P : pD} {ht : Int32} {R : Option rnD} {i0 i1 : imD} {sd fa pl tr : Int32} {th : Int32} {C : Prop} (hI : mI h m ft tp P ht R i0 i1 sd fa pl tr th) (k : ∀ (sz sp fl tk ta sg nu : Int32) (wd : Int64) (rl rw ah cl : Int32) (gt : Nat → Int32) (ln wn : Nat → Int64) (fs ff fb fn fp f3 fk fx fy fc fr f1 f2 fi fo fq fh fj fw fz : Nat → Int32), hHas h [m, m + 1, m + 2, m + 3, m + 4, m + 5, m + 6, m + 7, m + 8, m + 9, m + 10, m + 11, m + 12, m + 13, m + 14, m + 15, m + 16, m + 17, m + 18, m + 19, m + 20, m + 21, m + 22, m + 23] [(oC 10 (mF m th tr pl (nI tp) sz sp fa fl tk ta sg nu wd (nI P.1) (nI P.2.1) rl rw ht sd ah cl)), (aI 600 gt), (aL 8 ln), (aL 8 wn), (aI 8 fs), (aI 24 ff), (aI 8 fb), (aI 8 fn), (aI 8 fp), (aZ 8 f3), (aI 64 fk), (aI 64 fx), (aI 64 fy), (aI 64 fc), (aI 11 fr), (aI 11 f1), (aI 11 f2), (aI 22 fi), (aB 4096 fo), (aB 8192 fq), (aZ 2 fh), (aI 2 fj), (aI 4096 fw), (aI 2100 fz)] → mT tp ft gt → mPl P 0 ln wn fs ff fb fn fp f3 fk fx fy fc → pGd P → mRv P ht R fr fo → mIv P ht 0 i0 fi fq fh fj → mIv P ht 1 i1 fi fq fh fj → sdOk sd → mHt P ht → tp ≤ 600 → C) : C := by
  obtain ⟨sz, sp, fl, tk, ta, sg, nu, wd, rl, rw, ah, cl, gt, ln, wn, fs, ff, fb, fn, fp, f3, fk, fx, fy, fc, fr, f1, f2, fi, fo, fq, fh, fj, fw, fz, hW, hT, hPm, hG, hRm, hm0, hm1, hsd, hht, htp⟩ := hI
  exact k sz sp fl tk ta sg nu wd rl rw ah cl gt ln wn fs ff fb fn fp f3 fk fx fy fc fr f1 f2 fi fo fq fh fj fw fz hW hT hPm hG hRm hm0 hm1 hsd hht htp
theorem mI_i {h : hH} {m : Nat} {ft : Nat → Int32} {tp : Nat} {P : pD} {ht : Int32} {R : Option rnD} {i0 i1 : imD} {sd fa pl tr : Int32} {th : Int32} {sz sp fl tk ta sg nu : Int32} {wd : Int64} {rl rw ah cl : Int32} {gt : Nat → Int32} {ln wn : Nat → Int64} {fs ff fb fn fp f3 fk fx fy fc fr f1 f2 fi fo fq fh fj fw fz : Nat → Int32} (hW : hHas h [m, m + 1, m + 2, m + 3, m + 4, m + 5, m + 6, m + 7, m + 8, m + 9, m + 10, m + 11, m + 12, m + 13, m + 14, m + 15, m + 16, m + 17, m + 18, m + 19, m + 20, m + 21, m + 22, m + 23] [(oC 10 (mF m th tr pl (nI tp) sz sp fa fl tk ta sg nu wd (nI P.1) (nI P.2.1) rl rw ht sd ah cl)), (aI 600 gt), (aL 8 ln), (aL 8 wn), (aI 8 fs), (aI 24 ff), (aI 8 fb), (aI 8 fn), (aI 8 fp), (aZ 8 f3), (aI 64 fk), (aI 64 fx), (aI 64 fy), (aI 64 fc), (aI 11 fr), (aI 11 f1), (aI 11 f2), (aI 22 fi), (aB 4096 fo), (aB 8192 fq), (aZ 2 fh), (aI 2 fj), (aI 4096 fw), (aI 2100 fz)]) (hT : mT tp ft gt) (hPm : mPl P 0 ln wn fs ff fb fn fp f3 fk fx fy fc) (hG : pGd P) (hRm : mRv P ht R fr fo) (hm0 : mIv P ht 0 i0 fi fq fh fj) (hm1 : mIv P ht 1 i1 fi fq fh fj) (hsd : sdOk sd) (hht : mHt P ht) (htp : tp ≤ 600) : mI h m ft tp P ht R i0 i1 sd fa pl tr th := ⟨sz, sp, fl, tk, ta, sg, nu, wd, rl, rw, ah, cl, gt, ln, wn, fs, ff, fb, fn, fp, f3, fk, fx, fy, fc, fr, f1, f2, fi, fo, fq, fh, fj, fw, fz, hW, hT, hPm, hG, hRm, hm0, hm1, hsd, hht, htp⟩
set_option maxRecDepth 100000 in
set_option maxHeartbeats 4000000 in
theorem q_fault {G : wG} {d : Nat} {h : hH} {Q : Option Value → hH → Prop} {m : Nat} {ft : Nat → Int32} {tp : Nat} {P : pD} {ht : Int32} {R : Option rnD} {i0 i1 : imD} {sd fa pl tr : Int32} {th : Int32}  (hI : mI h m ft tp P ht R i0 i1 sd fa pl tr th)  (k : ∀ h2, mI h2 m ft tp P ht R i0 i1 sd fa pl tr 0 → mFr m h h2 → Q (some (.int (fa))) h2) : Cl G yX10_fault d 0 0 [.ref m] h Q := by
  refine mI_e hI ?_
  intro sz sp fl tk ta sg nu wd rl rw ah cl gt ln wn fs ff fb fn fp f3 fk fx fy fc fr f1 f2 fi fo fq fh fj fw fz hW hT hPm hG hRm hm0 hm1 hsd hht htp
  have hnL : P.1 ≤ 4096 := Nat.le_trans hG.2.2.1 (by decide)
  have hnW : P.2.1 ≤ 4096 := Nat.le_trans hG.2.2.2 (by decide)
  have hhL : (ht = 0 ∧ P.1 = 0) ∨ ht = 1 := hht.imp (fun z => ⟨z.1, z.2.1⟩) id
  have hhW : (ht = 0 ∧ P.2.1 = 0) ∨ ht = 1 := hht.imp (fun z => ⟨z.1, z.2.2⟩) id
  have hw : hHas h [m] [(oC 10 (mF m th tr pl (nI tp) sz sp fa fl tk ta sg nu wd (nI P.1) (nI P.2.1) rl rw ht sd ah cl))] := hHas_s hW [0] rfl rfl
  have nd : [m].Nodup := (nd_inc trivial)
  refine Cl.of (ini := false) kX10_fault (plainFor_of_name (by decide)) (by decide) (Nat.le_of_ble_eq_true rfl) rfl rfl (fun z => by cases z) ?_
  refine w_heq (hUs_id hw).symm ?_
  refine w_aload_n dX10_fault_0 rfl ?_
  refine w_iconst (v := 0) dX10_fault_1 (by decide) ?_
  refine w_put (fs' := (mF m 0 tr pl (nI tp) sz sp fa fl tk ta sg nu wd (nI P.1) (nI P.2.1) rl rw ht sd ah cl)) fX10_89 (hUs_at nd 0 rfl rfl) rfl rfl (Nat.le_of_ble_eq_true rfl) rfl dX10_fault_2 ?_
  refine w_heq (hUs_set nd rfl 0 (cs' := [(oC 10 (mF m 0 tr pl (nI tp) sz sp fa fl tk ta sg nu wd (nI P.1) (nI P.2.1) rl rw ht sd ah cl))]) rfl rfl) ?_
  refine w_aload_n dX10_fault_5 rfl ?_
  refine w_get (v := .int fa) fX10_99 (hUs_at nd 0 rfl rfl) rfl dX10_fault_6 ?_
  refine w_ireturn rfl dX10_fault_9 (Nat.le_of_ble_eq_true rfl) (Nat.le_of_ble_eq_true rfl) ?_
  exact k _ (mI_i (cI_put hW (mAs_nd m) rfl [0] (cs2 := [(oC 10 (mF m 0 tr pl (nI tp) sz sp fa fl tk ta sg nu wd (nI P.1) (nI P.2.1) rl rw ht sd ah cl)), (aI 600 gt), (aL 8 ln), (aL 8 wn), (aI 8 fs), (aI 24 ff), (aI 8 fb), (aI 8 fn), (aI 8 fp), (aZ 8 f3), (aI 64 fk), (aI 64 fx), (aI 64 fy), (aI 64 fc), (aI 11 fr), (aI 11 f1), (aI 11 f2), (aI 22 fi), (aB 4096 fo), (aB 8192 fq), (aZ 2 fh), (aI 2 fj), (aI 4096 fw), (aI 2100 fz)]) rfl rfl) hT hPm hG hRm hm0 hm1 hsd hht htp) (mFr_of (by intro a ha; simp only [List.mem_cons, List.not_mem_nil, or_false] at ha; omega))
set_option maxRecDepth 100000 in
set_option maxHeartbeats 4000000 in
theorem q_where {G : wG} {d : Nat} {h : hH} {Q : Option Value → hH → Prop} {m : Nat} {ft : Nat → Int32} {tp : Nat} {P : pD} {ht : Int32} {R : Option rnD} {i0 i1 : imD} {sd fa pl tr : Int32} {th : Int32}  (hI : mI h m ft tp P ht R i0 i1 sd fa pl tr th)  (k : ∀ h2, mI h2 m ft tp P ht R i0 i1 sd fa pl tr 0 → mFr m h h2 → Q (some (.int (pl))) h2) : Cl G yX10_where d 0 0 [.ref m] h Q := by
  refine mI_e hI ?_
  intro sz sp fl tk ta sg nu wd rl rw ah cl gt ln wn fs ff fb fn fp f3 fk fx fy fc fr f1 f2 fi fo fq fh fj fw fz hW hT hPm hG hRm hm0 hm1 hsd hht htp
  have hnL : P.1 ≤ 4096 := Nat.le_trans hG.2.2.1 (by decide)
  have hnW : P.2.1 ≤ 4096 := Nat.le_trans hG.2.2.2 (by decide)
  have hhL : (ht = 0 ∧ P.1 = 0) ∨ ht = 1 := hht.imp (fun z => ⟨z.1, z.2.1⟩) id
  have hhW : (ht = 0 ∧ P.2.1 = 0) ∨ ht = 1 := hht.imp (fun z => ⟨z.1, z.2.2⟩) id
  have hw : hHas h [m] [(oC 10 (mF m th tr pl (nI tp) sz sp fa fl tk ta sg nu wd (nI P.1) (nI P.2.1) rl rw ht sd ah cl))] := hHas_s hW [0] rfl rfl
  have nd : [m].Nodup := (nd_inc trivial)
  refine Cl.of (ini := false) kX10_where (plainFor_of_name (by decide)) (by decide) (Nat.le_of_ble_eq_true rfl) rfl rfl (fun z => by cases z) ?_
  refine w_heq (hUs_id hw).symm ?_
  refine w_aload_n dX10_where_0 rfl ?_
  refine w_iconst (v := 0) dX10_where_1 (by decide) ?_
  refine w_put (fs' := (mF m 0 tr pl (nI tp) sz sp fa fl tk ta sg nu wd (nI P.1) (nI P.2.1) rl rw ht sd ah cl)) fX10_89 (hUs_at nd 0 rfl rfl) rfl rfl (Nat.le_of_ble_eq_true rfl) rfl dX10_where_2 ?_
  refine w_heq (hUs_set nd rfl 0 (cs' := [(oC 10 (mF m 0 tr pl (nI tp) sz sp fa fl tk ta sg nu wd (nI P.1) (nI P.2.1) rl rw ht sd ah cl))]) rfl rfl) ?_
  refine w_aload_n dX10_where_5 rfl ?_
  refine w_get (v := .int pl) fX10_9 (hUs_at nd 0 rfl rfl) rfl dX10_where_6 ?_
  refine w_ireturn rfl dX10_where_9 (Nat.le_of_ble_eq_true rfl) (Nat.le_of_ble_eq_true rfl) ?_
  exact k _ (mI_i (cI_put hW (mAs_nd m) rfl [0] (cs2 := [(oC 10 (mF m 0 tr pl (nI tp) sz sp fa fl tk ta sg nu wd (nI P.1) (nI P.2.1) rl rw ht sd ah cl)), (aI 600 gt), (aL 8 ln), (aL 8 wn), (aI 8 fs), (aI 24 ff), (aI 8 fb), (aI 8 fn), (aI 8 fp), (aZ 8 f3), (aI 64 fk), (aI 64 fx), (aI 64 fy), (aI 64 fc), (aI 11 fr), (aI 11 f1), (aI 11 f2), (aI 22 fi), (aB 4096 fo), (aB 8192 fq), (aZ 2 fh), (aI 2 fj), (aI 4096 fw), (aI 2100 fz)]) rfl rfl) hT hPm hG hRm hm0 hm1 hsd hht htp) (mFr_of (by intro a ha; simp only [List.mem_cons, List.not_mem_nil, or_false] at ha; omega))
set_option maxRecDepth 100000 in
set_option maxHeartbeats 4000000 in
theorem q_bytes {G : wG} {d : Nat} {h : hH} {Q : Option Value → hH → Prop} {m : Nat} {ft : Nat → Int32} {tp : Nat} {P : pD} {ht : Int32} {R : Option rnD} {i0 i1 : imD} {sd fa pl tr : Int32} {th : Int32}  (hI : mI h m ft tp P ht R i0 i1 sd fa pl tr th)  (k : ∀ h2, mI h2 m ft tp P ht R i0 i1 sd fa pl tr 0 → mFr m h h2 → Q (some (.int (nI tp))) h2) : Cl G yX10_bytes d 0 0 [.ref m] h Q := by
  refine mI_e hI ?_
  intro sz sp fl tk ta sg nu wd rl rw ah cl gt ln wn fs ff fb fn fp f3 fk fx fy fc fr f1 f2 fi fo fq fh fj fw fz hW hT hPm hG hRm hm0 hm1 hsd hht htp
  have hnL : P.1 ≤ 4096 := Nat.le_trans hG.2.2.1 (by decide)
  have hnW : P.2.1 ≤ 4096 := Nat.le_trans hG.2.2.2 (by decide)
  have hhL : (ht = 0 ∧ P.1 = 0) ∨ ht = 1 := hht.imp (fun z => ⟨z.1, z.2.1⟩) id
  have hhW : (ht = 0 ∧ P.2.1 = 0) ∨ ht = 1 := hht.imp (fun z => ⟨z.1, z.2.2⟩) id
  have hw : hHas h [m] [(oC 10 (mF m th tr pl (nI tp) sz sp fa fl tk ta sg nu wd (nI P.1) (nI P.2.1) rl rw ht sd ah cl))] := hHas_s hW [0] rfl rfl
  have nd : [m].Nodup := (nd_inc trivial)
  refine Cl.of (ini := false) kX10_bytes (plainFor_of_name (by decide)) (by decide) (Nat.le_of_ble_eq_true rfl) rfl rfl (fun z => by cases z) ?_
  refine w_heq (hUs_id hw).symm ?_
  refine w_aload_n dX10_bytes_0 rfl ?_
  refine w_iconst (v := 0) dX10_bytes_1 (by decide) ?_
  refine w_put (fs' := (mF m 0 tr pl (nI tp) sz sp fa fl tk ta sg nu wd (nI P.1) (nI P.2.1) rl rw ht sd ah cl)) fX10_89 (hUs_at nd 0 rfl rfl) rfl rfl (Nat.le_of_ble_eq_true rfl) rfl dX10_bytes_2 ?_
  refine w_heq (hUs_set nd rfl 0 (cs' := [(oC 10 (mF m 0 tr pl (nI tp) sz sp fa fl tk ta sg nu wd (nI P.1) (nI P.2.1) rl rw ht sd ah cl))]) rfl rfl) ?_
  refine w_aload_n dX10_bytes_5 rfl ?_
  refine w_get (v := .int (nI tp)) fX10_96 (hUs_at nd 0 rfl rfl) rfl dX10_bytes_6 ?_
  refine w_ireturn rfl dX10_bytes_9 (Nat.le_of_ble_eq_true rfl) (Nat.le_of_ble_eq_true rfl) ?_
  exact k _ (mI_i (cI_put hW (mAs_nd m) rfl [0] (cs2 := [(oC 10 (mF m 0 tr pl (nI tp) sz sp fa fl tk ta sg nu wd (nI P.1) (nI P.2.1) rl rw ht sd ah cl)), (aI 600 gt), (aL 8 ln), (aL 8 wn), (aI 8 fs), (aI 24 ff), (aI 8 fb), (aI 8 fn), (aI 8 fp), (aZ 8 f3), (aI 64 fk), (aI 64 fx), (aI 64 fy), (aI 64 fc), (aI 11 fr), (aI 11 f1), (aI 11 f2), (aI 22 fi), (aB 4096 fo), (aB 8192 fq), (aZ 2 fh), (aI 2 fj), (aI 4096 fw), (aI 2100 fz)]) rfl rfl) hT hPm hG hRm hm0 hm1 hsd hht htp) (mFr_of (by intro a ha; simp only [List.mem_cons, List.not_mem_nil, or_false] at ha; omega))
set_option maxRecDepth 100000 in
set_option maxHeartbeats 4000000 in
theorem q_trouble {G : wG} {d : Nat} {h : hH} {Q : Option Value → hH → Prop} {m : Nat} {ft : Nat → Int32} {tp : Nat} {P : pD} {ht : Int32} {R : Option rnD} {i0 i1 : imD} {sd fa pl tr : Int32} {th : Int32}  (hI : mI h m ft tp P ht R i0 i1 sd fa pl tr th)  (k : ∀ h2, mI h2 m ft tp P ht R i0 i1 sd fa pl tr 0 → mFr m h h2 → Q (some (.int (tr))) h2) : Cl G yX10_trouble d 0 0 [.ref m] h Q := by
  refine mI_e hI ?_
  intro sz sp fl tk ta sg nu wd rl rw ah cl gt ln wn fs ff fb fn fp f3 fk fx fy fc fr f1 f2 fi fo fq fh fj fw fz hW hT hPm hG hRm hm0 hm1 hsd hht htp
  have hnL : P.1 ≤ 4096 := Nat.le_trans hG.2.2.1 (by decide)
  have hnW : P.2.1 ≤ 4096 := Nat.le_trans hG.2.2.2 (by decide)
  have hhL : (ht = 0 ∧ P.1 = 0) ∨ ht = 1 := hht.imp (fun z => ⟨z.1, z.2.1⟩) id
  have hhW : (ht = 0 ∧ P.2.1 = 0) ∨ ht = 1 := hht.imp (fun z => ⟨z.1, z.2.2⟩) id
  have hw : hHas h [m] [(oC 10 (mF m th tr pl (nI tp) sz sp fa fl tk ta sg nu wd (nI P.1) (nI P.2.1) rl rw ht sd ah cl))] := hHas_s hW [0] rfl rfl
  have nd : [m].Nodup := (nd_inc trivial)
  refine Cl.of (ini := false) kX10_trouble (plainFor_of_name (by decide)) (by decide) (Nat.le_of_ble_eq_true rfl) rfl rfl (fun z => by cases z) ?_
  refine w_heq (hUs_id hw).symm ?_
  refine w_aload_n dX10_trouble_0 rfl ?_
  refine w_iconst (v := 0) dX10_trouble_1 (by decide) ?_
  refine w_put (fs' := (mF m 0 tr pl (nI tp) sz sp fa fl tk ta sg nu wd (nI P.1) (nI P.2.1) rl rw ht sd ah cl)) fX10_89 (hUs_at nd 0 rfl rfl) rfl rfl (Nat.le_of_ble_eq_true rfl) rfl dX10_trouble_2 ?_
  refine w_heq (hUs_set nd rfl 0 (cs' := [(oC 10 (mF m 0 tr pl (nI tp) sz sp fa fl tk ta sg nu wd (nI P.1) (nI P.2.1) rl rw ht sd ah cl))]) rfl rfl) ?_
  refine w_aload_n dX10_trouble_5 rfl ?_
  refine w_get (v := .int tr) fX10_92 (hUs_at nd 0 rfl rfl) rfl dX10_trouble_6 ?_
  refine w_ireturn rfl dX10_trouble_9 (Nat.le_of_ble_eq_true rfl) (Nat.le_of_ble_eq_true rfl) ?_
  exact k _ (mI_i (cI_put hW (mAs_nd m) rfl [0] (cs2 := [(oC 10 (mF m 0 tr pl (nI tp) sz sp fa fl tk ta sg nu wd (nI P.1) (nI P.2.1) rl rw ht sd ah cl)), (aI 600 gt), (aL 8 ln), (aL 8 wn), (aI 8 fs), (aI 24 ff), (aI 8 fb), (aI 8 fn), (aI 8 fp), (aZ 8 f3), (aI 64 fk), (aI 64 fx), (aI 64 fy), (aI 64 fc), (aI 11 fr), (aI 11 f1), (aI 11 f2), (aI 22 fi), (aB 4096 fo), (aB 8192 fq), (aZ 2 fh), (aI 2 fj), (aI 4096 fw), (aI 2100 fz)]) rfl rfl) hT hPm hG hRm hm0 hm1 hsd hht htp) (mFr_of (by intro a ha; simp only [List.mem_cons, List.not_mem_nil, or_false] at ha; omega))
set_option maxRecDepth 100000 in
set_option maxHeartbeats 4000000 in
theorem q_about {G : wG} {d : Nat} {h : hH} {Q : Option Value → hH → Prop} {m : Nat} {ft : Nat → Int32} {tp : Nat} {P : pD} {ht : Int32} {R : Option rnD} {i0 i1 : imD} {sd fa pl tr : Int32} {th : Int32}  {y : Int32} (hI : mI h m ft tp P ht R i0 i1 sd fa pl tr th)  (k : ∀ h2, mI h2 m ft tp P ht R i0 i1 sd fa (-1) (oAb P ht y).2 0 → mFr m h h2 → Q (some (.int (oAb P ht y).1)) h2) : Cl G yX10_about (d + 1) 0 0 [.ref m, .int y] h Q := by
  refine mI_e hI ?_
  intro sz sp fl tk ta sg nu wd rl rw ah cl gt ln wn fs ff fb fn fp f3 fk fx fy fc fr f1 f2 fi fo fq fh fj fw fz hW hT hPm hG hRm hm0 hm1 hsd hht htp
  have hnL : P.1 ≤ 4096 := Nat.le_trans hG.2.2.1 (by decide)
  have hnW : P.2.1 ≤ 4096 := Nat.le_trans hG.2.2.2 (by decide)
  have hhL : (ht = 0 ∧ P.1 = 0) ∨ ht = 1 := hht.imp (fun z => ⟨z.1, z.2.1⟩) id
  have hhW : (ht = 0 ∧ P.2.1 = 0) ∨ ht = 1 := hht.imp (fun z => ⟨z.1, z.2.2⟩) id
  have hw : hHas h [m] [(oC 10 (mF m th tr pl (nI tp) sz sp fa fl tk ta sg nu wd (nI P.1) (nI P.2.1) rl rw ht sd ah cl))] := hHas_s hW [0] rfl rfl
  have nd : [m].Nodup := (nd_inc trivial)
  refine Cl.of (ini := false) kX10_about (plainFor_of_name (by decide)) (by decide) (Nat.le_of_ble_eq_true rfl) rfl rfl (fun z => by cases z) ?_
  refine w_heq (hUs_id hw).symm ?_
  refine w_aload_n dX10_about_0 rfl ?_
  refine w_iconst (v := 0) dX10_about_1 (by decide) ?_
  refine w_put (fs' := (mF m 0 tr pl (nI tp) sz sp fa fl tk ta sg nu wd (nI P.1) (nI P.2.1) rl rw ht sd ah cl)) fX10_89 (hUs_at nd 0 rfl rfl) rfl rfl (Nat.le_of_ble_eq_true rfl) rfl dX10_about_2 ?_
  refine w_heq (hUs_set nd rfl 0 (cs' := [(oC 10 (mF m 0 tr pl (nI tp) sz sp fa fl tk ta sg nu wd (nI P.1) (nI P.2.1) rl rw ht sd ah cl))]) rfl rfl) ?_
  refine w_aload_n dX10_about_5 rfl ?_
  refine w_get (v := .int ht) fX10_247 (hUs_at nd 0 rfl rfl) rfl dX10_about_6 ?_
  refine w_if_eq (tgt := 43) dX10_about_9 rfl (fun b9 => ?_) (fun b9 => ?_)
  · refine w_aload_n dX10_about_43 rfl ?_
    refine w_iconst (v := 1) dX10_about_44 (by decide) ?_
    refine w_callV (ci := 10) (d' := d) (mc' := 0) (ms' := 0) (As := [.int 1]) (st := []) lX10_228 vX10_refused rfl (hUs_at nd 0 rfl rfl) rfl (Nat.le_of_ble_eq_true rfl) dX10_about_45 (Nat.le_of_ble_eq_true rfl) (Nat.le_of_ble_eq_true rfl) (Nat.le_refl _) (m_refused (hHas_sub nd (as' := [m]) (cs' := [(oC 10 (mF m 0 tr pl (nI tp) sz sp fa fl tk ta sg nu wd (nI P.1) (nI P.2.1) rl rw ht sd ah cl))]) [0] rfl rfl) (nd_sub nd (as' := [m]) [0] rfl rfl)  ?_)
    refine w_heq (hUs_in nd rfl [0] (cs2 := [(oC 10 (mF m 0 1 (-1) (nI tp) sz sp fa fl tk ta sg nu wd (nI P.1) (nI P.2.1) rl rw ht sd ah cl))]) rfl rfl) ?_
    refine w_ireturn rfl dX10_about_48 (Nat.le_of_ble_eq_true rfl) (Nat.le_of_ble_eq_true rfl) ?_
    have e : oAb P ht y = ((-1), 1) := by
      rw [oAb, if_pos (Or.inl b9)]
    rw [e] at k
    exact k _ (mI_i (cI_put hW (mAs_nd m) rfl [0] (cs2 := [(oC 10 (mF m 0 1 (-1) (nI tp) sz sp fa fl tk ta sg nu wd (nI P.1) (nI P.2.1) rl rw ht sd ah cl)), (aI 600 gt), (aL 8 ln), (aL 8 wn), (aI 8 fs), (aI 24 ff), (aI 8 fb), (aI 8 fn), (aI 8 fp), (aZ 8 f3), (aI 64 fk), (aI 64 fx), (aI 64 fy), (aI 64 fc), (aI 11 fr), (aI 11 f1), (aI 11 f2), (aI 22 fi), (aB 4096 fo), (aB 8192 fq), (aZ 2 fh), (aI 2 fj), (aI 4096 fw), (aI 2100 fz)]) rfl rfl) hT hPm hG hRm hm0 hm1 hsd hht htp) (mFr_of (by intro a ha; simp only [List.mem_cons, List.not_mem_nil, or_false] at ha; omega))
  · refine w_iload_n dX10_about_12 rfl ?_
    refine w_iconst (v := 0) dX10_about_13 (by decide) ?_
    refine w_iconst (v := 1) dX10_about_14 (by decide) ?_
    refine w_callS (d' := d) (mc' := 0) (ms' := 0) (As := [.int y, .int 0, .int 1]) (st := []) lX10_111 vX10_in rfl (Nat.le_of_ble_eq_true rfl) dX10_about_15 (Nat.le_of_ble_eq_true rfl) (Nat.le_of_ble_eq_true rfl) (Nat.le_refl _) (c_in ?_)
    refine w_if_eq (tgt := 43) dX10_about_18 rfl (fun b18 => ?_) (fun b18 => ?_)
    · refine w_aload_n dX10_about_43 rfl ?_
      refine w_iconst (v := 1) dX10_about_44 (by decide) ?_
      refine w_callV (ci := 10) (d' := d) (mc' := 0) (ms' := 0) (As := [.int 1]) (st := []) lX10_228 vX10_refused rfl (hUs_at nd 0 rfl rfl) rfl (Nat.le_of_ble_eq_true rfl) dX10_about_45 (Nat.le_of_ble_eq_true rfl) (Nat.le_of_ble_eq_true rfl) (Nat.le_refl _) (m_refused (hHas_sub nd (as' := [m]) (cs' := [(oC 10 (mF m 0 tr pl (nI tp) sz sp fa fl tk ta sg nu wd (nI P.1) (nI P.2.1) rl rw ht sd ah cl))]) [0] rfl rfl) (nd_sub nd (as' := [m]) [0] rfl rfl)  ?_)
      refine w_heq (hUs_in nd rfl [0] (cs2 := [(oC 10 (mF m 0 1 (-1) (nI tp) sz sp fa fl tk ta sg nu wd (nI P.1) (nI P.2.1) rl rw ht sd ah cl))]) rfl rfl) ?_
      refine w_ireturn rfl dX10_about_48 (Nat.le_of_ble_eq_true rfl) (Nat.le_of_ble_eq_true rfl) ?_
      have e : oAb P ht y = ((-1), 1) := by
        rw [oAb, if_pos (Or.inr ((inB_0 b18).imp id id))]
      rw [e] at k
      exact k _ (mI_i (cI_put hW (mAs_nd m) rfl [0] (cs2 := [(oC 10 (mF m 0 1 (-1) (nI tp) sz sp fa fl tk ta sg nu wd (nI P.1) (nI P.2.1) rl rw ht sd ah cl)), (aI 600 gt), (aL 8 ln), (aL 8 wn), (aI 8 fs), (aI 24 ff), (aI 8 fb), (aI 8 fn), (aI 8 fp), (aZ 8 f3), (aI 64 fk), (aI 64 fx), (aI 64 fy), (aI 64 fc), (aI 11 fr), (aI 11 f1), (aI 11 f2), (aI 22 fi), (aB 4096 fo), (aB 8192 fq), (aZ 2 fh), (aI 2 fj), (aI 4096 fw), (aI 2100 fz)]) rfl rfl) hT hPm hG hRm hm0 hm1 hsd hht htp) (mFr_of (by intro a ha; simp only [List.mem_cons, List.not_mem_nil, or_false] at ha; omega))
    · refine w_aload_n dX10_about_21 rfl ?_
      refine w_iload_n dX10_about_22 rfl ?_
      refine w_if_ne (tgt := 33) dX10_about_23 rfl (fun b23 => ?_) (fun b23 => ?_)
      · refine w_aload_n dX10_about_33 rfl ?_
        refine w_get (v := .int (nI P.2.1)) fX10_244 (hUs_at nd 0 rfl rfl) rfl dX10_about_34 ?_
        refine w_callV (ci := 10) (d' := d) (mc' := 0) (ms' := 0) (As := [.int (nI P.2.1)]) (st := []) lX10_241 vX10_good rfl (hUs_at nd 0 rfl rfl) rfl (Nat.le_of_ble_eq_true rfl) dX10_about_37 (Nat.le_of_ble_eq_true rfl) (Nat.le_of_ble_eq_true rfl) (Nat.le_refl _) (m_good (hHas_sub nd (as' := [m]) (cs' := [(oC 10 (mF m 0 tr pl (nI tp) sz sp fa fl tk ta sg nu wd (nI P.1) (nI P.2.1) rl rw ht sd ah cl))]) [0] rfl rfl) (nd_sub nd (as' := [m]) [0] rfl rfl)  ?_)
        refine w_heq (hUs_in nd rfl [0] (cs2 := [(oC 10 (mF m 0 0 (-1) (nI tp) sz sp fa fl tk ta sg nu wd (nI P.1) (nI P.2.1) rl rw ht sd ah cl))]) rfl rfl) ?_
        refine w_goto (tgt := 48) dX10_about_40 rfl ?_
        refine w_ireturn rfl dX10_about_48 (Nat.le_of_ble_eq_true rfl) (Nat.le_of_ble_eq_true rfl) ?_
        have e : oAb P ht y = (nI P.2.1, 0) := by
          rw [oAb, if_neg (fun z => z.elim b9 (fun z => z.elim (fun z => absurd (inB_1 b18).1 (Int32.not_le.mpr z)) (fun z => absurd (inB_1 b18).2 (Int32.not_le.mpr z)))), if_neg b23]
        rw [e] at k
        exact k _ (mI_i (cI_put hW (mAs_nd m) rfl [0] (cs2 := [(oC 10 (mF m 0 0 (-1) (nI tp) sz sp fa fl tk ta sg nu wd (nI P.1) (nI P.2.1) rl rw ht sd ah cl)), (aI 600 gt), (aL 8 ln), (aL 8 wn), (aI 8 fs), (aI 24 ff), (aI 8 fb), (aI 8 fn), (aI 8 fp), (aZ 8 f3), (aI 64 fk), (aI 64 fx), (aI 64 fy), (aI 64 fc), (aI 11 fr), (aI 11 f1), (aI 11 f2), (aI 22 fi), (aB 4096 fo), (aB 8192 fq), (aZ 2 fh), (aI 2 fj), (aI 4096 fw), (aI 2100 fz)]) rfl rfl) hT hPm hG hRm hm0 hm1 hsd hht htp) (mFr_of (by intro a ha; simp only [List.mem_cons, List.not_mem_nil, or_false] at ha; omega))
      · refine w_aload_n dX10_about_26 rfl ?_
        refine w_get (v := .int (nI P.1)) fX10_238 (hUs_at nd 0 rfl rfl) rfl dX10_about_27 ?_
        refine w_goto (tgt := 37) dX10_about_30 rfl ?_
        refine w_callV (ci := 10) (d' := d) (mc' := 0) (ms' := 0) (As := [.int (nI P.1)]) (st := []) lX10_241 vX10_good rfl (hUs_at nd 0 rfl rfl) rfl (Nat.le_of_ble_eq_true rfl) dX10_about_37 (Nat.le_of_ble_eq_true rfl) (Nat.le_of_ble_eq_true rfl) (Nat.le_refl _) (m_good (hHas_sub nd (as' := [m]) (cs' := [(oC 10 (mF m 0 tr pl (nI tp) sz sp fa fl tk ta sg nu wd (nI P.1) (nI P.2.1) rl rw ht sd ah cl))]) [0] rfl rfl) (nd_sub nd (as' := [m]) [0] rfl rfl)  ?_)
        refine w_heq (hUs_in nd rfl [0] (cs2 := [(oC 10 (mF m 0 0 (-1) (nI tp) sz sp fa fl tk ta sg nu wd (nI P.1) (nI P.2.1) rl rw ht sd ah cl))]) rfl rfl) ?_
        refine w_goto (tgt := 48) dX10_about_40 rfl ?_
        refine w_ireturn rfl dX10_about_48 (Nat.le_of_ble_eq_true rfl) (Nat.le_of_ble_eq_true rfl) ?_
        have e : oAb P ht y = (nI P.1, 0) := by
          rw [oAb, if_neg (fun z => z.elim b9 (fun z => z.elim (fun z => absurd (inB_1 b18).1 (Int32.not_le.mpr z)) (fun z => absurd (inB_1 b18).2 (Int32.not_le.mpr z)))), if_pos b23]
        rw [e] at k
        exact k _ (mI_i (cI_put hW (mAs_nd m) rfl [0] (cs2 := [(oC 10 (mF m 0 0 (-1) (nI tp) sz sp fa fl tk ta sg nu wd (nI P.1) (nI P.2.1) rl rw ht sd ah cl)), (aI 600 gt), (aL 8 ln), (aL 8 wn), (aI 8 fs), (aI 24 ff), (aI 8 fb), (aI 8 fn), (aI 8 fp), (aZ 8 f3), (aI 64 fk), (aI 64 fx), (aI 64 fy), (aI 64 fc), (aI 11 fr), (aI 11 f1), (aI 11 f2), (aI 22 fi), (aB 4096 fo), (aB 8192 fq), (aZ 2 fh), (aI 2 fj), (aI 4096 fw), (aI 2100 fz)]) rfl rfl) hT hPm hG hRm hm0 hm1 hsd hht htp) (mFr_of (by intro a ha; simp only [List.mem_cons, List.not_mem_nil, or_false] at ha; omega))
set_option maxRecDepth 100000 in
set_option maxHeartbeats 4000000 in
theorem q_seed {G : wG} {d : Nat} {h : hH} {Q : Option Value → hH → Prop} {m : Nat} {ft : Nat → Int32} {tp : Nat} {P : pD} {ht : Int32} {R : Option rnD} {i0 i1 : imD} {sd fa pl tr : Int32} {th : Int32}  {y : Int32} (hI : mI h m ft tp P ht R i0 i1 sd fa pl tr th)  (k : ∀ h2, mI h2 m ft tp P ht R i0 i1 (if (oSd y).2 = 0 then y else sd) fa (-1) (oSd y).2 0 → mFr m h h2 → Q (some (.int (oSd y).1)) h2) : Cl G yX10_seed (d + 1) 0 0 [.ref m, .int y] h Q := by
  refine mI_e hI ?_
  intro sz sp fl tk ta sg nu wd rl rw ah cl gt ln wn fs ff fb fn fp f3 fk fx fy fc fr f1 f2 fi fo fq fh fj fw fz hW hT hPm hG hRm hm0 hm1 hsd hht htp
  have hnL : P.1 ≤ 4096 := Nat.le_trans hG.2.2.1 (by decide)
  have hnW : P.2.1 ≤ 4096 := Nat.le_trans hG.2.2.2 (by decide)
  have hhL : (ht = 0 ∧ P.1 = 0) ∨ ht = 1 := hht.imp (fun z => ⟨z.1, z.2.1⟩) id
  have hhW : (ht = 0 ∧ P.2.1 = 0) ∨ ht = 1 := hht.imp (fun z => ⟨z.1, z.2.2⟩) id
  have hw : hHas h [m] [(oC 10 (mF m th tr pl (nI tp) sz sp fa fl tk ta sg nu wd (nI P.1) (nI P.2.1) rl rw ht sd ah cl))] := hHas_s hW [0] rfl rfl
  have nd : [m].Nodup := (nd_inc trivial)
  refine Cl.of (ini := false) kX10_seed (plainFor_of_name (by decide)) (by decide) (Nat.le_of_ble_eq_true rfl) rfl rfl (fun z => by cases z) ?_
  refine w_heq (hUs_id hw).symm ?_
  refine w_aload_n dX10_seed_0 rfl ?_
  refine w_iconst (v := 0) dX10_seed_1 (by decide) ?_
  refine w_put (fs' := (mF m 0 tr pl (nI tp) sz sp fa fl tk ta sg nu wd (nI P.1) (nI P.2.1) rl rw ht sd ah cl)) fX10_89 (hUs_at nd 0 rfl rfl) rfl rfl (Nat.le_of_ble_eq_true rfl) rfl dX10_seed_2 ?_
  refine w_heq (hUs_set nd rfl 0 (cs' := [(oC 10 (mF m 0 tr pl (nI tp) sz sp fa fl tk ta sg nu wd (nI P.1) (nI P.2.1) rl rw ht sd ah cl))]) rfl rfl) ?_
  refine w_iload_n dX10_seed_5 rfl ?_
  refine w_iconst (v := 1) dX10_seed_6 (by decide) ?_
  refine w_ldcw nX10_276 dX10_seed_7 ?_
  refine w_callS (d' := d) (mc' := 0) (ms' := 0) (As := [.int y, .int 1, .int 65535]) (st := []) lX10_111 vX10_in rfl (Nat.le_of_ble_eq_true rfl) dX10_seed_10 (Nat.le_of_ble_eq_true rfl) (Nat.le_of_ble_eq_true rfl) (Nat.le_refl _) (c_in ?_)
  refine w_if_ne (tgt := 22) dX10_seed_13 rfl (fun b13 => ?_) (fun b13 => ?_)
  · refine w_aload_n dX10_seed_22 rfl ?_
    refine w_iload_n dX10_seed_23 rfl ?_
    refine w_put (fs' := (mF m 0 tr pl (nI tp) sz sp fa fl tk ta sg nu wd (nI P.1) (nI P.2.1) rl rw ht y ah cl)) fX10_80 (hUs_at nd 0 rfl rfl) rfl rfl (Nat.le_of_ble_eq_true rfl) rfl dX10_seed_24 ?_
    refine w_heq (hUs_set nd rfl 0 (cs' := [(oC 10 (mF m 0 tr pl (nI tp) sz sp fa fl tk ta sg nu wd (nI P.1) (nI P.2.1) rl rw ht y ah cl))]) rfl rfl) ?_
    refine w_aload_n dX10_seed_27 rfl ?_
    refine w_iconst (v := 0) dX10_seed_28 (by decide) ?_
    refine w_callV (ci := 10) (d' := d) (mc' := 0) (ms' := 0) (As := [.int 0]) (st := []) lX10_277 vX10_done rfl (hUs_at nd 0 rfl rfl) rfl (Nat.le_of_ble_eq_true rfl) dX10_seed_29 (Nat.le_of_ble_eq_true rfl) (Nat.le_of_ble_eq_true rfl) (Nat.le_refl _) (m_done (hHas_sub nd (as' := [m]) (cs' := [(oC 10 (mF m 0 tr pl (nI tp) sz sp fa fl tk ta sg nu wd (nI P.1) (nI P.2.1) rl rw ht y ah cl))]) [0] rfl rfl) (nd_sub nd (as' := [m]) [0] rfl rfl)  ?_)
    refine w_heq (hUs_in nd rfl [0] (cs2 := [(oC 10 (mF m 0 0 (-1) (nI tp) sz sp fa fl tk ta sg nu wd (nI P.1) (nI P.2.1) rl rw ht y ah cl))]) rfl rfl) ?_
    refine w_zreturn rfl dX10_seed_32 rfl (Nat.le_of_ble_eq_true rfl) (Nat.le_of_ble_eq_true rfl) ?_
    have e : oSd y = (1, 0) := by
      rw [oSd, if_neg (fun z => z.elim (fun z => absurd (inB_1 b13).1 (Int32.not_le.mpr z)) (fun z => absurd (inB_1 b13).2 (Int32.not_le.mpr z)))]
    rw [e] at k
    exact k _ (mI_i (cI_put hW (mAs_nd m) rfl [0] (cs2 := [(oC 10 (mF m 0 0 (-1) (nI tp) sz sp fa fl tk ta sg nu wd (nI P.1) (nI P.2.1) rl rw ht y ah cl)), (aI 600 gt), (aL 8 ln), (aL 8 wn), (aI 8 fs), (aI 24 ff), (aI 8 fb), (aI 8 fn), (aI 8 fp), (aZ 8 f3), (aI 64 fk), (aI 64 fx), (aI 64 fy), (aI 64 fc), (aI 11 fr), (aI 11 f1), (aI 11 f2), (aI 22 fi), (aB 4096 fo), (aB 8192 fq), (aZ 2 fh), (aI 2 fj), (aI 4096 fw), (aI 2100 fz)]) rfl rfl) hT hPm hG hRm hm0 hm1 (inB_1 b13) hht htp) (mFr_of (by intro a ha; simp only [List.mem_cons, List.not_mem_nil, or_false] at ha; omega))
  · refine w_aload_n dX10_seed_16 rfl ?_
    refine w_iconst (v := 2) dX10_seed_17 (by decide) ?_
    refine w_callV (ci := 10) (d' := d) (mc' := 0) (ms' := 0) (As := [.int 2]) (st := []) lX10_277 vX10_done rfl (hUs_at nd 0 rfl rfl) rfl (Nat.le_of_ble_eq_true rfl) dX10_seed_18 (Nat.le_of_ble_eq_true rfl) (Nat.le_of_ble_eq_true rfl) (Nat.le_refl _) (m_done (hHas_sub nd (as' := [m]) (cs' := [(oC 10 (mF m 0 tr pl (nI tp) sz sp fa fl tk ta sg nu wd (nI P.1) (nI P.2.1) rl rw ht sd ah cl))]) [0] rfl rfl) (nd_sub nd (as' := [m]) [0] rfl rfl)  ?_)
    refine w_heq (hUs_in nd rfl [0] (cs2 := [(oC 10 (mF m 0 2 (-1) (nI tp) sz sp fa fl tk ta sg nu wd (nI P.1) (nI P.2.1) rl rw ht sd ah cl))]) rfl rfl) ?_
    refine w_zreturn rfl dX10_seed_21 rfl (Nat.le_of_ble_eq_true rfl) (Nat.le_of_ble_eq_true rfl) ?_
    have e : oSd y = (0, 2) := by
      rw [oSd, if_pos (inB_0 b13)]
    rw [e] at k
    exact k _ (mI_i (cI_put hW (mAs_nd m) rfl [0] (cs2 := [(oC 10 (mF m 0 2 (-1) (nI tp) sz sp fa fl tk ta sg nu wd (nI P.1) (nI P.2.1) rl rw ht sd ah cl)), (aI 600 gt), (aL 8 ln), (aL 8 wn), (aI 8 fs), (aI 24 ff), (aI 8 fb), (aI 8 fn), (aI 8 fp), (aZ 8 f3), (aI 64 fk), (aI 64 fx), (aI 64 fy), (aI 64 fc), (aI 11 fr), (aI 11 f1), (aI 11 f2), (aI 22 fi), (aB 4096 fo), (aB 8192 fq), (aZ 2 fh), (aI 2 fj), (aI 4096 fw), (aI 2100 fz)]) rfl rfl) hT hPm hG hRm hm0 hm1 hsd hht htp) (mFr_of (by intro a ha; simp only [List.mem_cons, List.not_mem_nil, or_false] at ha; omega))
theorem out_k {y : Int32} {k : Nat} (hk : k < 2 ^ 31) (hy : ¬ (0 ≤ y ∧ y ≤ nI k)) : y.toInt < 0 ∨ (k : Int) < y.toInt := by
  rcases Int32.lt_or_le y 0 with z | z
  · exact Or.inl (Int32.lt_iff_toInt_lt.mp z)
  · have := Int32.lt_iff_toInt_lt.mp (Int32.not_le.mp (fun z2 => hy ⟨z, z2⟩))
    rw [nI_toInt hk] at this
    exact Or.inr this
set_option maxRecDepth 100000 in
set_option maxHeartbeats 4000000 in
theorem q_loop_s {G : wG} {d : Nat} {h : hH} {Q : Option Value → hH → Prop} {m : Nat} {ft : Nat → Int32} {tp : Nat} {P : pD} {ht : Int32} {R : Option rnD} {i0 i1 : imD} {sd fa pl tr : Int32} {th : Int32}  {j : Nat} {y : Int32} (hI : mI h m ft tp P ht R i0 i1 sd fa pl tr th) (hj : j < P.1) (k : ∀ h2, mI h2 m ft tp P ht R i0 i1 sd fa (-1) (oLp P (nI j) y).2 0 → mFr m h h2 → Q (some (.int (oLp P (nI j) y).1)) h2) : Cl G yX10_loop (d + 2) 0 0 [.ref m, .int (nI j), .int y] h Q := by
  refine mI_e hI ?_
  intro sz sp fl tk ta sg nu wd rl rw ah cl gt ln wn fs ff fb fn fp f3 fk fx fy fc fr f1 f2 fi fo fq fh fj fw fz hW hT hPm hG hRm hm0 hm1 hsd hht htp
  have hnL : P.1 ≤ 4096 := Nat.le_trans hG.2.2.1 (by decide)
  have hnW : P.2.1 ≤ 4096 := Nat.le_trans hG.2.2.2 (by decide)
  have hhL : (ht = 0 ∧ P.1 = 0) ∨ ht = 1 := hht.imp (fun z => ⟨z.1, z.2.1⟩) id
  have hhW : (ht = 0 ∧ P.2.1 = 0) ∨ ht = 1 := hht.imp (fun z => ⟨z.1, z.2.2⟩) id
  have hLp := hPm.1 j hj
  rw [Nat.zero_add] at hLp
  have hGl := hG.1 j hj
  have hj4 : j < 4 := Nat.lt_of_lt_of_le hj hG.2.2.1
  have hs1 := hGl.1
  have hs3 := hGl.2.1
  have hw : hHas h [m, m + 4, m + 5, m + 6, m + 7, m + 9] [(oC 10 (mF m th tr pl (nI tp) sz sp fa fl tk ta sg nu wd (nI P.1) (nI P.2.1) rl rw ht sd ah cl)), (aI 8 fs), (aI 24 ff), (aI 8 fb), (aI 8 fn), (aZ 8 f3)] := hHas_s hW [0, 4, 5, 6, 7, 9] rfl rfl
  have nd : [m, m + 4, m + 5, m + 6, m + 7, m + 9].Nodup := (nd_inc ⟨by omega, by omega, by omega, by omega, by omega, trivial⟩)
  refine Cl.of (ini := false) kX10_loop (plainFor_of_name (by decide)) (by decide) (Nat.le_of_ble_eq_true rfl) rfl rfl (fun z => by cases z) ?_
  refine w_heq (hUs_id hw).symm ?_
  refine w_aload_n dX10_loop_0 rfl ?_
  refine w_iconst (v := 0) dX10_loop_1 (by decide) ?_
  refine w_put (fs' := (mF m 0 tr pl (nI tp) sz sp fa fl tk ta sg nu wd (nI P.1) (nI P.2.1) rl rw ht sd ah cl)) fX10_89 (hUs_at nd 0 rfl rfl) rfl rfl (Nat.le_of_ble_eq_true rfl) rfl dX10_loop_2 ?_
  refine w_heq (hUs_set nd rfl 0 (cs' := [(oC 10 (mF m 0 tr pl (nI tp) sz sp fa fl tk ta sg nu wd (nI P.1) (nI P.2.1) rl rw ht sd ah cl)), (aI 8 fs), (aI 24 ff), (aI 8 fb), (aI 8 fn), (aZ 8 f3)]) rfl rfl) ?_
  refine w_aload_n dX10_loop_5 rfl ?_
  refine w_iload_n dX10_loop_6 rfl ?_
  refine w_callV (ci := 10) (d' := d + 1) (mc' := 0) (ms' := 0) (As := [.int (nI j)]) (st := []) lX10_251 vX10_isLoop rfl (hUs_at nd 0 rfl rfl) rfl (Nat.le_of_ble_eq_true rfl) dX10_loop_7 (Nat.le_of_ble_eq_true rfl) (Nat.le_of_ble_eq_true rfl) (Nat.le_refl _) (m_isLoop (hHas_sub nd (as' := [m]) (cs' := [(oC 10 (mF m 0 tr pl (nI tp) sz sp fa fl tk ta sg nu wd (nI P.1) (nI P.2.1) rl rw ht sd ah cl))]) [0] rfl rfl) hnL hhL ?_)
  refine w_if_ne_t (tgt := 19) dX10_loop_10 rfl (by rw [ixB_s hj hnL]; decide) ?_
  refine w_iload_n dX10_loop_19 rfl ?_
  -- switch
  by_cases hy : 0 ≤ y ∧ y ≤ 6
  · obtain ⟨w9, hw9, rfl⟩ := in2 (m := 6) (Int32.not_lt.mpr hy.1) hy.2 (by decide)
    have hwc := nI_clamp (show w9 < 2 ^ 31 by omega)
    rcases (show w9 = 0 ∨ w9 = 1 ∨ w9 = 2 ∨ w9 = 3 ∨ w9 = 4 ∨ w9 = 5 ∨ w9 = 6 by omega) with rfl | rfl | rfl | rfl | rfl | rfl | rfl
    · refine w_tableIn (off := 44) (tgt := 64) dX10_loop_20 (by decide) (by decide) rfl rfl ?_
      refine w_aload_n dX10_loop_64 rfl ?_
      refine w_aload_n dX10_loop_65 rfl ?_
      refine w_get (v := .ref (m + 4)) fX10_24 (hUs_at nd 0 rfl rfl) rfl dX10_loop_66 ?_
      refine w_iload_n dX10_loop_69 rfl ?_
      refine w_ialoadN (hUs_at nd 1 rfl rfl) (by omega) (by omega) dX10_loop_70 ?_
      refine w_top (z := nI (P.2.2.1 j).2.1) hLp.1 ?_
      refine w_callV (ci := 10) (d' := d + 1) (mc' := 0) (ms' := 0) (As := [.int (nI (P.2.2.1 j).2.1)]) (st := []) lX10_241 vX10_good rfl (hUs_at nd 0 rfl rfl) rfl (Nat.le_of_ble_eq_true rfl) dX10_loop_71 (Nat.le_of_ble_eq_true rfl) (Nat.le_of_ble_eq_true rfl) (Nat.le_refl _) (m_good (hHas_sub nd (as' := [m]) (cs' := [(oC 10 (mF m 0 tr pl (nI tp) sz sp fa fl tk ta sg nu wd (nI P.1) (nI P.2.1) rl rw ht sd ah cl))]) [0] rfl rfl) (nd_sub nd (as' := [m]) [0] rfl rfl)  ?_)
      refine w_heq (hUs_in nd rfl [0] (cs2 := [(oC 10 (mF m 0 0 (-1) (nI tp) sz sp fa fl tk ta sg nu wd (nI P.1) (nI P.2.1) rl rw ht sd ah cl)), (aI 8 fs), (aI 24 ff), (aI 8 fb), (aI 8 fn), (aZ 8 f3)]) rfl rfl) ?_
      refine w_ireturn rfl dX10_loop_74 (Nat.le_of_ble_eq_true rfl) (Nat.le_of_ble_eq_true rfl) ?_
      have e : oLp P (nI j) (nI 0) = (nI (P.2.2.1 j).2.1, 0) := by
        simp only [oLp, ixN_s hj hnL]
        rw [if_neg (by decide), show (nI 0).toNatClampNeg = 0 from nI_clamp (by omega)]
        rfl
      rw [e] at k
      exact k _ (mI_i (cI_put hW (mAs_nd m) rfl [0, 4, 5, 6, 7, 9] (cs2 := [(oC 10 (mF m 0 0 (-1) (nI tp) sz sp fa fl tk ta sg nu wd (nI P.1) (nI P.2.1) rl rw ht sd ah cl)), (aI 600 gt), (aL 8 ln), (aL 8 wn), (aI 8 fs), (aI 24 ff), (aI 8 fb), (aI 8 fn), (aI 8 fp), (aZ 8 f3), (aI 64 fk), (aI 64 fx), (aI 64 fy), (aI 64 fc), (aI 11 fr), (aI 11 f1), (aI 11 f2), (aI 22 fi), (aB 4096 fo), (aB 8192 fq), (aZ 2 fh), (aI 2 fj), (aI 4096 fw), (aI 2100 fz)]) rfl rfl) hT hPm hG hRm hm0 hm1 hsd hht htp) (mFr_of (by intro a ha; simp only [List.mem_cons, List.not_mem_nil, or_false] at ha; omega))
    · refine w_tableIn (off := 55) (tgt := 75) dX10_loop_20 (by decide) (by decide) rfl rfl ?_
      refine w_aload_n dX10_loop_75 rfl ?_
      refine w_iload_n dX10_loop_76 rfl ?_
      refine w_aload_n dX10_loop_77 rfl ?_
      refine w_get (v := .ref (m + 4)) fX10_24 (hUs_at nd 0 rfl rfl) rfl dX10_loop_78 ?_
      refine w_iload_n dX10_loop_81 rfl ?_
      refine w_ialoadN (hUs_at nd 1 rfl rfl) (by omega) (by omega) dX10_loop_82 ?_
      refine w_top (z := nI (P.2.2.1 j).2.1) hLp.1 ?_
      refine w_icmp_gt (tgt := 101) dX10_loop_83 rfl (fun b83 => ?_) (fun b83 => ?_)
      · have b83 := (nI_ltI (a := (P.2.2.1 j).2.1) (b := 1) (by omega) (by omega)).mp b83
        refine w_iconst (v := 0) dX10_loop_101 (by decide) ?_
        refine w_callV (ci := 10) (d' := d + 1) (mc' := 0) (ms' := 0) (As := [.int 0]) (st := []) lX10_241 vX10_good rfl (hUs_at nd 0 rfl rfl) rfl (Nat.le_of_ble_eq_true rfl) dX10_loop_102 (Nat.le_of_ble_eq_true rfl) (Nat.le_of_ble_eq_true rfl) (Nat.le_refl _) (m_good (hHas_sub nd (as' := [m]) (cs' := [(oC 10 (mF m 0 tr pl (nI tp) sz sp fa fl tk ta sg nu wd (nI P.1) (nI P.2.1) rl rw ht sd ah cl))]) [0] rfl rfl) (nd_sub nd (as' := [m]) [0] rfl rfl)  ?_)
        refine w_heq (hUs_in nd rfl [0] (cs2 := [(oC 10 (mF m 0 0 (-1) (nI tp) sz sp fa fl tk ta sg nu wd (nI P.1) (nI P.2.1) rl rw ht sd ah cl)), (aI 8 fs), (aI 24 ff), (aI 8 fb), (aI 8 fn), (aZ 8 f3)]) rfl rfl) ?_
        refine w_ireturn rfl dX10_loop_105 (Nat.le_of_ble_eq_true rfl) (Nat.le_of_ble_eq_true rfl) ?_
        have e : oLp P (nI j) (nI 1) = (0, 0) := by
          simp only [oLp, ixN_s hj hnL]
          rw [if_neg (by decide), show (nI 1).toNatClampNeg = 1 from nI_clamp (by omega)]
          show ((P.2.2.1 j).2.2.1 0, (0 : Int32)) = (0, 0)
          rw [hGl.2.2.1 0 (by omega) (by omega)]
        rw [e] at k
        exact k _ (mI_i (cI_put hW (mAs_nd m) rfl [0, 4, 5, 6, 7, 9] (cs2 := [(oC 10 (mF m 0 0 (-1) (nI tp) sz sp fa fl tk ta sg nu wd (nI P.1) (nI P.2.1) rl rw ht sd ah cl)), (aI 600 gt), (aL 8 ln), (aL 8 wn), (aI 8 fs), (aI 24 ff), (aI 8 fb), (aI 8 fn), (aI 8 fp), (aZ 8 f3), (aI 64 fk), (aI 64 fx), (aI 64 fy), (aI 64 fc), (aI 11 fr), (aI 11 f1), (aI 11 f2), (aI 22 fi), (aB 4096 fo), (aB 8192 fq), (aZ 2 fh), (aI 2 fj), (aI 4096 fw), (aI 2100 fz)]) rfl rfl) hT hPm hG hRm hm0 hm1 hsd hht htp) (mFr_of (by intro a ha; simp only [List.mem_cons, List.not_mem_nil, or_false] at ha; omega))
      · have b83 : ¬ (P.2.2.1 j).2.1 < 1 := fun z => b83 ((nI_ltI (a := (P.2.2.1 j).2.1) (b := 1) (by omega) (by omega)).mpr z)
        refine w_aload_n dX10_loop_86 rfl ?_
        refine w_get (v := .ref (m + 5)) fX10_27 (hUs_at nd 0 rfl rfl) rfl dX10_loop_87 ?_
        refine w_iconst (v := 3) dX10_loop_90 (by decide) ?_
        refine w_iload_n dX10_loop_91 rfl ?_
        refine w_imulE (z := nI (3 * j)) dX10_loop_92 (pk_mul (3) (j)) ?_
        refine w_iload_n dX10_loop_93 rfl ?_
        refine w_iaddE (z := nI ((3 * j) + 1)) dX10_loop_94 (nI_add ((3 * j)) (1)) ?_
        refine w_iconst (v := 1) dX10_loop_95 (by decide) ?_
        refine w_isubE (z := nI (((3 * j) + 1) - 1)) dX10_loop_96 (pk_sub (a := ((3 * j) + 1)) (b := 1) (by omega)) ?_
        refine w_ialoadN (hUs_at nd 2 rfl rfl) (by omega) (by omega) dX10_loop_97 ?_
        refine w_top (z := (P.2.2.1 j).2.2.1 0) (hLp.2.1 0 (by omega)) ?_
        refine w_goto (tgt := 102) dX10_loop_98 rfl ?_
        refine w_callV (ci := 10) (d' := d + 1) (mc' := 0) (ms' := 0) (As := [.int ((P.2.2.1 j).2.2.1 0)]) (st := []) lX10_241 vX10_good rfl (hUs_at nd 0 rfl rfl) rfl (Nat.le_of_ble_eq_true rfl) dX10_loop_102 (Nat.le_of_ble_eq_true rfl) (Nat.le_of_ble_eq_true rfl) (Nat.le_refl _) (m_good (hHas_sub nd (as' := [m]) (cs' := [(oC 10 (mF m 0 tr pl (nI tp) sz sp fa fl tk ta sg nu wd (nI P.1) (nI P.2.1) rl rw ht sd ah cl))]) [0] rfl rfl) (nd_sub nd (as' := [m]) [0] rfl rfl)  ?_)
        refine w_heq (hUs_in nd rfl [0] (cs2 := [(oC 10 (mF m 0 0 (-1) (nI tp) sz sp fa fl tk ta sg nu wd (nI P.1) (nI P.2.1) rl rw ht sd ah cl)), (aI 8 fs), (aI 24 ff), (aI 8 fb), (aI 8 fn), (aZ 8 f3)]) rfl rfl) ?_
        refine w_ireturn rfl dX10_loop_105 (Nat.le_of_ble_eq_true rfl) (Nat.le_of_ble_eq_true rfl) ?_
        have e : oLp P (nI j) (nI 1) = ((P.2.2.1 j).2.2.1 0, 0) := by
          simp only [oLp, ixN_s hj hnL]
          rw [if_neg (by decide), show (nI 1).toNatClampNeg = 1 from nI_clamp (by omega)]
          rfl
        rw [e] at k
        exact k _ (mI_i (cI_put hW (mAs_nd m) rfl [0, 4, 5, 6, 7, 9] (cs2 := [(oC 10 (mF m 0 0 (-1) (nI tp) sz sp fa fl tk ta sg nu wd (nI P.1) (nI P.2.1) rl rw ht sd ah cl)), (aI 600 gt), (aL 8 ln), (aL 8 wn), (aI 8 fs), (aI 24 ff), (aI 8 fb), (aI 8 fn), (aI 8 fp), (aZ 8 f3), (aI 64 fk), (aI 64 fx), (aI 64 fy), (aI 64 fc), (aI 11 fr), (aI 11 f1), (aI 11 f2), (aI 22 fi), (aB 4096 fo), (aB 8192 fq), (aZ 2 fh), (aI 2 fj), (aI 4096 fw), (aI 2100 fz)]) rfl rfl) hT hPm hG hRm hm0 hm1 hsd hht htp) (mFr_of (by intro a ha; simp only [List.mem_cons, List.not_mem_nil, or_false] at ha; omega))
    · refine w_tableIn (off := 55) (tgt := 75) dX10_loop_20 (by decide) (by decide) rfl rfl ?_
      refine w_aload_n dX10_loop_75 rfl ?_
      refine w_iload_n dX10_loop_76 rfl ?_
      refine w_aload_n dX10_loop_77 rfl ?_
      refine w_get (v := .ref (m + 4)) fX10_24 (hUs_at nd 0 rfl rfl) rfl dX10_loop_78 ?_
      refine w_iload_n dX10_loop_81 rfl ?_
      refine w_ialoadN (hUs_at nd 1 rfl rfl) (by omega) (by omega) dX10_loop_82 ?_
      refine w_top (z := nI (P.2.2.1 j).2.1) hLp.1 ?_
      refine w_icmp_gt (tgt := 101) dX10_loop_83 rfl (fun b83 => ?_) (fun b83 => ?_)
      · have b83 := (nI_ltI (a := (P.2.2.1 j).2.1) (b := 2) (by omega) (by omega)).mp b83
        refine w_iconst (v := 0) dX10_loop_101 (by decide) ?_
        refine w_callV (ci := 10) (d' := d + 1) (mc' := 0) (ms' := 0) (As := [.int 0]) (st := []) lX10_241 vX10_good rfl (hUs_at nd 0 rfl rfl) rfl (Nat.le_of_ble_eq_true rfl) dX10_loop_102 (Nat.le_of_ble_eq_true rfl) (Nat.le_of_ble_eq_true rfl) (Nat.le_refl _) (m_good (hHas_sub nd (as' := [m]) (cs' := [(oC 10 (mF m 0 tr pl (nI tp) sz sp fa fl tk ta sg nu wd (nI P.1) (nI P.2.1) rl rw ht sd ah cl))]) [0] rfl rfl) (nd_sub nd (as' := [m]) [0] rfl rfl)  ?_)
        refine w_heq (hUs_in nd rfl [0] (cs2 := [(oC 10 (mF m 0 0 (-1) (nI tp) sz sp fa fl tk ta sg nu wd (nI P.1) (nI P.2.1) rl rw ht sd ah cl)), (aI 8 fs), (aI 24 ff), (aI 8 fb), (aI 8 fn), (aZ 8 f3)]) rfl rfl) ?_
        refine w_ireturn rfl dX10_loop_105 (Nat.le_of_ble_eq_true rfl) (Nat.le_of_ble_eq_true rfl) ?_
        have e : oLp P (nI j) (nI 2) = (0, 0) := by
          simp only [oLp, ixN_s hj hnL]
          rw [if_neg (by decide), show (nI 2).toNatClampNeg = 2 from nI_clamp (by omega)]
          show ((P.2.2.1 j).2.2.1 1, (0 : Int32)) = (0, 0)
          rw [hGl.2.2.1 1 (by omega) (by omega)]
        rw [e] at k
        exact k _ (mI_i (cI_put hW (mAs_nd m) rfl [0, 4, 5, 6, 7, 9] (cs2 := [(oC 10 (mF m 0 0 (-1) (nI tp) sz sp fa fl tk ta sg nu wd (nI P.1) (nI P.2.1) rl rw ht sd ah cl)), (aI 600 gt), (aL 8 ln), (aL 8 wn), (aI 8 fs), (aI 24 ff), (aI 8 fb), (aI 8 fn), (aI 8 fp), (aZ 8 f3), (aI 64 fk), (aI 64 fx), (aI 64 fy), (aI 64 fc), (aI 11 fr), (aI 11 f1), (aI 11 f2), (aI 22 fi), (aB 4096 fo), (aB 8192 fq), (aZ 2 fh), (aI 2 fj), (aI 4096 fw), (aI 2100 fz)]) rfl rfl) hT hPm hG hRm hm0 hm1 hsd hht htp) (mFr_of (by intro a ha; simp only [List.mem_cons, List.not_mem_nil, or_false] at ha; omega))
      · have b83 : ¬ (P.2.2.1 j).2.1 < 2 := fun z => b83 ((nI_ltI (a := (P.2.2.1 j).2.1) (b := 2) (by omega) (by omega)).mpr z)
        refine w_aload_n dX10_loop_86 rfl ?_
        refine w_get (v := .ref (m + 5)) fX10_27 (hUs_at nd 0 rfl rfl) rfl dX10_loop_87 ?_
        refine w_iconst (v := 3) dX10_loop_90 (by decide) ?_
        refine w_iload_n dX10_loop_91 rfl ?_
        refine w_imulE (z := nI (3 * j)) dX10_loop_92 (pk_mul (3) (j)) ?_
        refine w_iload_n dX10_loop_93 rfl ?_
        refine w_iaddE (z := nI ((3 * j) + 2)) dX10_loop_94 (nI_add ((3 * j)) (2)) ?_
        refine w_iconst (v := 1) dX10_loop_95 (by decide) ?_
        refine w_isubE (z := nI (((3 * j) + 2) - 1)) dX10_loop_96 (pk_sub (a := ((3 * j) + 2)) (b := 1) (by omega)) ?_
        refine w_ialoadN (hUs_at nd 2 rfl rfl) (by omega) (by omega) dX10_loop_97 ?_
        refine w_top (z := (P.2.2.1 j).2.2.1 1) (hLp.2.1 1 (by omega)) ?_
        refine w_goto (tgt := 102) dX10_loop_98 rfl ?_
        refine w_callV (ci := 10) (d' := d + 1) (mc' := 0) (ms' := 0) (As := [.int ((P.2.2.1 j).2.2.1 1)]) (st := []) lX10_241 vX10_good rfl (hUs_at nd 0 rfl rfl) rfl (Nat.le_of_ble_eq_true rfl) dX10_loop_102 (Nat.le_of_ble_eq_true rfl) (Nat.le_of_ble_eq_true rfl) (Nat.le_refl _) (m_good (hHas_sub nd (as' := [m]) (cs' := [(oC 10 (mF m 0 tr pl (nI tp) sz sp fa fl tk ta sg nu wd (nI P.1) (nI P.2.1) rl rw ht sd ah cl))]) [0] rfl rfl) (nd_sub nd (as' := [m]) [0] rfl rfl)  ?_)
        refine w_heq (hUs_in nd rfl [0] (cs2 := [(oC 10 (mF m 0 0 (-1) (nI tp) sz sp fa fl tk ta sg nu wd (nI P.1) (nI P.2.1) rl rw ht sd ah cl)), (aI 8 fs), (aI 24 ff), (aI 8 fb), (aI 8 fn), (aZ 8 f3)]) rfl rfl) ?_
        refine w_ireturn rfl dX10_loop_105 (Nat.le_of_ble_eq_true rfl) (Nat.le_of_ble_eq_true rfl) ?_
        have e : oLp P (nI j) (nI 2) = ((P.2.2.1 j).2.2.1 1, 0) := by
          simp only [oLp, ixN_s hj hnL]
          rw [if_neg (by decide), show (nI 2).toNatClampNeg = 2 from nI_clamp (by omega)]
          rfl
        rw [e] at k
        exact k _ (mI_i (cI_put hW (mAs_nd m) rfl [0, 4, 5, 6, 7, 9] (cs2 := [(oC 10 (mF m 0 0 (-1) (nI tp) sz sp fa fl tk ta sg nu wd (nI P.1) (nI P.2.1) rl rw ht sd ah cl)), (aI 600 gt), (aL 8 ln), (aL 8 wn), (aI 8 fs), (aI 24 ff), (aI 8 fb), (aI 8 fn), (aI 8 fp), (aZ 8 f3), (aI 64 fk), (aI 64 fx), (aI 64 fy), (aI 64 fc), (aI 11 fr), (aI 11 f1), (aI 11 f2), (aI 22 fi), (aB 4096 fo), (aB 8192 fq), (aZ 2 fh), (aI 2 fj), (aI 4096 fw), (aI 2100 fz)]) rfl rfl) hT hPm hG hRm hm0 hm1 hsd hht htp) (mFr_of (by intro a ha; simp only [List.mem_cons, List.not_mem_nil, or_false] at ha; omega))
    · refine w_tableIn (off := 55) (tgt := 75) dX10_loop_20 (by decide) (by decide) rfl rfl ?_
      refine w_aload_n dX10_loop_75 rfl ?_
      refine w_iload_n dX10_loop_76 rfl ?_
      refine w_aload_n dX10_loop_77 rfl ?_
      refine w_get (v := .ref (m + 4)) fX10_24 (hUs_at nd 0 rfl rfl) rfl dX10_loop_78 ?_
      refine w_iload_n dX10_loop_81 rfl ?_
      refine w_ialoadN (hUs_at nd 1 rfl rfl) (by omega) (by omega) dX10_loop_82 ?_
      refine w_top (z := nI (P.2.2.1 j).2.1) hLp.1 ?_
      refine w_icmp_gt (tgt := 101) dX10_loop_83 rfl (fun b83 => ?_) (fun b83 => ?_)
      · have b83 := (nI_ltI (a := (P.2.2.1 j).2.1) (b := 3) (by omega) (by omega)).mp b83
        refine w_iconst (v := 0) dX10_loop_101 (by decide) ?_
        refine w_callV (ci := 10) (d' := d + 1) (mc' := 0) (ms' := 0) (As := [.int 0]) (st := []) lX10_241 vX10_good rfl (hUs_at nd 0 rfl rfl) rfl (Nat.le_of_ble_eq_true rfl) dX10_loop_102 (Nat.le_of_ble_eq_true rfl) (Nat.le_of_ble_eq_true rfl) (Nat.le_refl _) (m_good (hHas_sub nd (as' := [m]) (cs' := [(oC 10 (mF m 0 tr pl (nI tp) sz sp fa fl tk ta sg nu wd (nI P.1) (nI P.2.1) rl rw ht sd ah cl))]) [0] rfl rfl) (nd_sub nd (as' := [m]) [0] rfl rfl)  ?_)
        refine w_heq (hUs_in nd rfl [0] (cs2 := [(oC 10 (mF m 0 0 (-1) (nI tp) sz sp fa fl tk ta sg nu wd (nI P.1) (nI P.2.1) rl rw ht sd ah cl)), (aI 8 fs), (aI 24 ff), (aI 8 fb), (aI 8 fn), (aZ 8 f3)]) rfl rfl) ?_
        refine w_ireturn rfl dX10_loop_105 (Nat.le_of_ble_eq_true rfl) (Nat.le_of_ble_eq_true rfl) ?_
        have e : oLp P (nI j) (nI 3) = (0, 0) := by
          simp only [oLp, ixN_s hj hnL]
          rw [if_neg (by decide), show (nI 3).toNatClampNeg = 3 from nI_clamp (by omega)]
          show ((P.2.2.1 j).2.2.1 2, (0 : Int32)) = (0, 0)
          rw [hGl.2.2.1 2 (by omega) (by omega)]
        rw [e] at k
        exact k _ (mI_i (cI_put hW (mAs_nd m) rfl [0, 4, 5, 6, 7, 9] (cs2 := [(oC 10 (mF m 0 0 (-1) (nI tp) sz sp fa fl tk ta sg nu wd (nI P.1) (nI P.2.1) rl rw ht sd ah cl)), (aI 600 gt), (aL 8 ln), (aL 8 wn), (aI 8 fs), (aI 24 ff), (aI 8 fb), (aI 8 fn), (aI 8 fp), (aZ 8 f3), (aI 64 fk), (aI 64 fx), (aI 64 fy), (aI 64 fc), (aI 11 fr), (aI 11 f1), (aI 11 f2), (aI 22 fi), (aB 4096 fo), (aB 8192 fq), (aZ 2 fh), (aI 2 fj), (aI 4096 fw), (aI 2100 fz)]) rfl rfl) hT hPm hG hRm hm0 hm1 hsd hht htp) (mFr_of (by intro a ha; simp only [List.mem_cons, List.not_mem_nil, or_false] at ha; omega))
      · have b83 : ¬ (P.2.2.1 j).2.1 < 3 := fun z => b83 ((nI_ltI (a := (P.2.2.1 j).2.1) (b := 3) (by omega) (by omega)).mpr z)
        refine w_aload_n dX10_loop_86 rfl ?_
        refine w_get (v := .ref (m + 5)) fX10_27 (hUs_at nd 0 rfl rfl) rfl dX10_loop_87 ?_
        refine w_iconst (v := 3) dX10_loop_90 (by decide) ?_
        refine w_iload_n dX10_loop_91 rfl ?_
        refine w_imulE (z := nI (3 * j)) dX10_loop_92 (pk_mul (3) (j)) ?_
        refine w_iload_n dX10_loop_93 rfl ?_
        refine w_iaddE (z := nI ((3 * j) + 3)) dX10_loop_94 (nI_add ((3 * j)) (3)) ?_
        refine w_iconst (v := 1) dX10_loop_95 (by decide) ?_
        refine w_isubE (z := nI (((3 * j) + 3) - 1)) dX10_loop_96 (pk_sub (a := ((3 * j) + 3)) (b := 1) (by omega)) ?_
        refine w_ialoadN (hUs_at nd 2 rfl rfl) (by omega) (by omega) dX10_loop_97 ?_
        refine w_top (z := (P.2.2.1 j).2.2.1 2) (hLp.2.1 2 (by omega)) ?_
        refine w_goto (tgt := 102) dX10_loop_98 rfl ?_
        refine w_callV (ci := 10) (d' := d + 1) (mc' := 0) (ms' := 0) (As := [.int ((P.2.2.1 j).2.2.1 2)]) (st := []) lX10_241 vX10_good rfl (hUs_at nd 0 rfl rfl) rfl (Nat.le_of_ble_eq_true rfl) dX10_loop_102 (Nat.le_of_ble_eq_true rfl) (Nat.le_of_ble_eq_true rfl) (Nat.le_refl _) (m_good (hHas_sub nd (as' := [m]) (cs' := [(oC 10 (mF m 0 tr pl (nI tp) sz sp fa fl tk ta sg nu wd (nI P.1) (nI P.2.1) rl rw ht sd ah cl))]) [0] rfl rfl) (nd_sub nd (as' := [m]) [0] rfl rfl)  ?_)
        refine w_heq (hUs_in nd rfl [0] (cs2 := [(oC 10 (mF m 0 0 (-1) (nI tp) sz sp fa fl tk ta sg nu wd (nI P.1) (nI P.2.1) rl rw ht sd ah cl)), (aI 8 fs), (aI 24 ff), (aI 8 fb), (aI 8 fn), (aZ 8 f3)]) rfl rfl) ?_
        refine w_ireturn rfl dX10_loop_105 (Nat.le_of_ble_eq_true rfl) (Nat.le_of_ble_eq_true rfl) ?_
        have e : oLp P (nI j) (nI 3) = ((P.2.2.1 j).2.2.1 2, 0) := by
          simp only [oLp, ixN_s hj hnL]
          rw [if_neg (by decide), show (nI 3).toNatClampNeg = 3 from nI_clamp (by omega)]
          rfl
        rw [e] at k
        exact k _ (mI_i (cI_put hW (mAs_nd m) rfl [0, 4, 5, 6, 7, 9] (cs2 := [(oC 10 (mF m 0 0 (-1) (nI tp) sz sp fa fl tk ta sg nu wd (nI P.1) (nI P.2.1) rl rw ht sd ah cl)), (aI 600 gt), (aL 8 ln), (aL 8 wn), (aI 8 fs), (aI 24 ff), (aI 8 fb), (aI 8 fn), (aI 8 fp), (aZ 8 f3), (aI 64 fk), (aI 64 fx), (aI 64 fy), (aI 64 fc), (aI 11 fr), (aI 11 f1), (aI 11 f2), (aI 22 fi), (aB 4096 fo), (aB 8192 fq), (aZ 2 fh), (aI 2 fj), (aI 4096 fw), (aI 2100 fz)]) rfl rfl) hT hPm hG hRm hm0 hm1 hsd hht htp) (mFr_of (by intro a ha; simp only [List.mem_cons, List.not_mem_nil, or_false] at ha; omega))
    · refine w_tableIn (off := 86) (tgt := 106) dX10_loop_20 (by decide) (by decide) rfl rfl ?_
      refine w_aload_n dX10_loop_106 rfl ?_
      refine w_aload_n dX10_loop_107 rfl ?_
      refine w_get (v := .ref (m + 6)) fX10_30 (hUs_at nd 0 rfl rfl) rfl dX10_loop_108 ?_
      refine w_iload_n dX10_loop_111 rfl ?_
      refine w_ialoadN (hUs_at nd 3 rfl rfl) (by omega) (by omega) dX10_loop_112 ?_
      refine w_top (z := (P.2.2.1 j).2.2.2.1) hLp.2.2.1 ?_
      refine w_callV (ci := 10) (d' := d + 1) (mc' := 0) (ms' := 0) (As := [.int (P.2.2.1 j).2.2.2.1]) (st := []) lX10_241 vX10_good rfl (hUs_at nd 0 rfl rfl) rfl (Nat.le_of_ble_eq_true rfl) dX10_loop_113 (Nat.le_of_ble_eq_true rfl) (Nat.le_of_ble_eq_true rfl) (Nat.le_refl _) (m_good (hHas_sub nd (as' := [m]) (cs' := [(oC 10 (mF m 0 tr pl (nI tp) sz sp fa fl tk ta sg nu wd (nI P.1) (nI P.2.1) rl rw ht sd ah cl))]) [0] rfl rfl) (nd_sub nd (as' := [m]) [0] rfl rfl)  ?_)
      refine w_heq (hUs_in nd rfl [0] (cs2 := [(oC 10 (mF m 0 0 (-1) (nI tp) sz sp fa fl tk ta sg nu wd (nI P.1) (nI P.2.1) rl rw ht sd ah cl)), (aI 8 fs), (aI 24 ff), (aI 8 fb), (aI 8 fn), (aZ 8 f3)]) rfl rfl) ?_
      refine w_ireturn rfl dX10_loop_116 (Nat.le_of_ble_eq_true rfl) (Nat.le_of_ble_eq_true rfl) ?_
      have e : oLp P (nI j) (nI 4) = ((P.2.2.1 j).2.2.2.1, 0) := by
        simp only [oLp, ixN_s hj hnL]
        rw [if_neg (by decide), show (nI 4).toNatClampNeg = 4 from nI_clamp (by omega)]
        rfl
      rw [e] at k
      exact k _ (mI_i (cI_put hW (mAs_nd m) rfl [0, 4, 5, 6, 7, 9] (cs2 := [(oC 10 (mF m 0 0 (-1) (nI tp) sz sp fa fl tk ta sg nu wd (nI P.1) (nI P.2.1) rl rw ht sd ah cl)), (aI 600 gt), (aL 8 ln), (aL 8 wn), (aI 8 fs), (aI 24 ff), (aI 8 fb), (aI 8 fn), (aI 8 fp), (aZ 8 f3), (aI 64 fk), (aI 64 fx), (aI 64 fy), (aI 64 fc), (aI 11 fr), (aI 11 f1), (aI 11 f2), (aI 22 fi), (aB 4096 fo), (aB 8192 fq), (aZ 2 fh), (aI 2 fj), (aI 4096 fw), (aI 2100 fz)]) rfl rfl) hT hPm hG hRm hm0 hm1 hsd hht htp) (mFr_of (by intro a ha; simp only [List.mem_cons, List.not_mem_nil, or_false] at ha; omega))
    · refine w_tableIn (off := 97) (tgt := 117) dX10_loop_20 (by decide) (by decide) rfl rfl ?_
      refine w_aload_n dX10_loop_117 rfl ?_
      refine w_aload_n dX10_loop_118 rfl ?_
      refine w_get (v := .ref (m + 9)) fX10_39 (hUs_at nd 0 rfl rfl) rfl dX10_loop_119 ?_
      refine w_iload_n dX10_loop_122 rfl ?_
      refine w_zaloadN (hUs_at nd 5 rfl rfl) (by omega) (by omega) dX10_loop_123 ?_
      refine w_top (z := (P.2.2.1 j).2.2.2.2.2) hLp.2.2.2.2.1 ?_
      refine w_if_eq (tgt := 131) dX10_loop_124 rfl (fun b124 => ?_) (fun b124 => ?_)
      · refine w_iconst (v := 2) dX10_loop_131 (by decide) ?_
        refine w_callV (ci := 10) (d' := d + 1) (mc' := 0) (ms' := 0) (As := [.int 2]) (st := []) lX10_241 vX10_good rfl (hUs_at nd 0 rfl rfl) rfl (Nat.le_of_ble_eq_true rfl) dX10_loop_132 (Nat.le_of_ble_eq_true rfl) (Nat.le_of_ble_eq_true rfl) (Nat.le_refl _) (m_good (hHas_sub nd (as' := [m]) (cs' := [(oC 10 (mF m 0 tr pl (nI tp) sz sp fa fl tk ta sg nu wd (nI P.1) (nI P.2.1) rl rw ht sd ah cl))]) [0] rfl rfl) (nd_sub nd (as' := [m]) [0] rfl rfl)  ?_)
        refine w_heq (hUs_in nd rfl [0] (cs2 := [(oC 10 (mF m 0 0 (-1) (nI tp) sz sp fa fl tk ta sg nu wd (nI P.1) (nI P.2.1) rl rw ht sd ah cl)), (aI 8 fs), (aI 24 ff), (aI 8 fb), (aI 8 fn), (aZ 8 f3)]) rfl rfl) ?_
        refine w_ireturn rfl dX10_loop_135 (Nat.le_of_ble_eq_true rfl) (Nat.le_of_ble_eq_true rfl) ?_
        have e : oLp P (nI j) (nI 5) = (2, 0) := by
          simp only [oLp, ixN_s hj hnL]
          rw [if_neg (by decide), show (nI 5).toNatClampNeg = 5 from nI_clamp (by omega)]
          show (if (P.2.2.1 j).2.2.2.2.2 = 0 then (2 : Int32) else 3, (0 : Int32)) = _
          rw [if_pos b124]
        rw [e] at k
        exact k _ (mI_i (cI_put hW (mAs_nd m) rfl [0, 4, 5, 6, 7, 9] (cs2 := [(oC 10 (mF m 0 0 (-1) (nI tp) sz sp fa fl tk ta sg nu wd (nI P.1) (nI P.2.1) rl rw ht sd ah cl)), (aI 600 gt), (aL 8 ln), (aL 8 wn), (aI 8 fs), (aI 24 ff), (aI 8 fb), (aI 8 fn), (aI 8 fp), (aZ 8 f3), (aI 64 fk), (aI 64 fx), (aI 64 fy), (aI 64 fc), (aI 11 fr), (aI 11 f1), (aI 11 f2), (aI 22 fi), (aB 4096 fo), (aB 8192 fq), (aZ 2 fh), (aI 2 fj), (aI 4096 fw), (aI 2100 fz)]) rfl rfl) hT hPm hG hRm hm0 hm1 hsd hht htp) (mFr_of (by intro a ha; simp only [List.mem_cons, List.not_mem_nil, or_false] at ha; omega))
      · refine w_iconst (v := 3) dX10_loop_127 (by decide) ?_
        refine w_goto (tgt := 132) dX10_loop_128 rfl ?_
        refine w_callV (ci := 10) (d' := d + 1) (mc' := 0) (ms' := 0) (As := [.int 3]) (st := []) lX10_241 vX10_good rfl (hUs_at nd 0 rfl rfl) rfl (Nat.le_of_ble_eq_true rfl) dX10_loop_132 (Nat.le_of_ble_eq_true rfl) (Nat.le_of_ble_eq_true rfl) (Nat.le_refl _) (m_good (hHas_sub nd (as' := [m]) (cs' := [(oC 10 (mF m 0 tr pl (nI tp) sz sp fa fl tk ta sg nu wd (nI P.1) (nI P.2.1) rl rw ht sd ah cl))]) [0] rfl rfl) (nd_sub nd (as' := [m]) [0] rfl rfl)  ?_)
        refine w_heq (hUs_in nd rfl [0] (cs2 := [(oC 10 (mF m 0 0 (-1) (nI tp) sz sp fa fl tk ta sg nu wd (nI P.1) (nI P.2.1) rl rw ht sd ah cl)), (aI 8 fs), (aI 24 ff), (aI 8 fb), (aI 8 fn), (aZ 8 f3)]) rfl rfl) ?_
        refine w_ireturn rfl dX10_loop_135 (Nat.le_of_ble_eq_true rfl) (Nat.le_of_ble_eq_true rfl) ?_
        have e : oLp P (nI j) (nI 5) = (3, 0) := by
          simp only [oLp, ixN_s hj hnL]
          rw [if_neg (by decide), show (nI 5).toNatClampNeg = 5 from nI_clamp (by omega)]
          show (if (P.2.2.1 j).2.2.2.2.2 = 0 then (2 : Int32) else 3, (0 : Int32)) = _
          rw [if_neg b124]
        rw [e] at k
        exact k _ (mI_i (cI_put hW (mAs_nd m) rfl [0, 4, 5, 6, 7, 9] (cs2 := [(oC 10 (mF m 0 0 (-1) (nI tp) sz sp fa fl tk ta sg nu wd (nI P.1) (nI P.2.1) rl rw ht sd ah cl)), (aI 600 gt), (aL 8 ln), (aL 8 wn), (aI 8 fs), (aI 24 ff), (aI 8 fb), (aI 8 fn), (aI 8 fp), (aZ 8 f3), (aI 64 fk), (aI 64 fx), (aI 64 fy), (aI 64 fc), (aI 11 fr), (aI 11 f1), (aI 11 f2), (aI 22 fi), (aB 4096 fo), (aB 8192 fq), (aZ 2 fh), (aI 2 fj), (aI 4096 fw), (aI 2100 fz)]) rfl rfl) hT hPm hG hRm hm0 hm1 hsd hht htp) (mFr_of (by intro a ha; simp only [List.mem_cons, List.not_mem_nil, or_false] at ha; omega))
    · refine w_tableIn (off := 116) (tgt := 136) dX10_loop_20 (by decide) (by decide) rfl rfl ?_
      refine w_aload_n dX10_loop_136 rfl ?_
      refine w_aload_n dX10_loop_137 rfl ?_
      refine w_get (v := .ref (m + 7)) fX10_33 (hUs_at nd 0 rfl rfl) rfl dX10_loop_138 ?_
      refine w_iload_n dX10_loop_141 rfl ?_
      refine w_ialoadN (hUs_at nd 4 rfl rfl) (by omega) (by omega) dX10_loop_142 ?_
      refine w_top (z := (P.2.2.1 j).2.2.2.2.1) hLp.2.2.2.1 ?_
      refine w_callV (ci := 10) (d' := d + 1) (mc' := 0) (ms' := 0) (As := [.int (P.2.2.1 j).2.2.2.2.1]) (st := []) lX10_241 vX10_good rfl (hUs_at nd 0 rfl rfl) rfl (Nat.le_of_ble_eq_true rfl) dX10_loop_143 (Nat.le_of_ble_eq_true rfl) (Nat.le_of_ble_eq_true rfl) (Nat.le_refl _) (m_good (hHas_sub nd (as' := [m]) (cs' := [(oC 10 (mF m 0 tr pl (nI tp) sz sp fa fl tk ta sg nu wd (nI P.1) (nI P.2.1) rl rw ht sd ah cl))]) [0] rfl rfl) (nd_sub nd (as' := [m]) [0] rfl rfl)  ?_)
      refine w_heq (hUs_in nd rfl [0] (cs2 := [(oC 10 (mF m 0 0 (-1) (nI tp) sz sp fa fl tk ta sg nu wd (nI P.1) (nI P.2.1) rl rw ht sd ah cl)), (aI 8 fs), (aI 24 ff), (aI 8 fb), (aI 8 fn), (aZ 8 f3)]) rfl rfl) ?_
      refine w_ireturn rfl dX10_loop_146 (Nat.le_of_ble_eq_true rfl) (Nat.le_of_ble_eq_true rfl) ?_
      have e : oLp P (nI j) (nI 6) = ((P.2.2.1 j).2.2.2.2.1, 0) := by
        simp only [oLp, ixN_s hj hnL]
        rw [if_neg (by decide), show (nI 6).toNatClampNeg = 6 from nI_clamp (by omega)]
        rfl
      rw [e] at k
      exact k _ (mI_i (cI_put hW (mAs_nd m) rfl [0, 4, 5, 6, 7, 9] (cs2 := [(oC 10 (mF m 0 0 (-1) (nI tp) sz sp fa fl tk ta sg nu wd (nI P.1) (nI P.2.1) rl rw ht sd ah cl)), (aI 600 gt), (aL 8 ln), (aL 8 wn), (aI 8 fs), (aI 24 ff), (aI 8 fb), (aI 8 fn), (aI 8 fp), (aZ 8 f3), (aI 64 fk), (aI 64 fx), (aI 64 fy), (aI 64 fc), (aI 11 fr), (aI 11 f1), (aI 11 f2), (aI 22 fi), (aB 4096 fo), (aB 8192 fq), (aZ 2 fh), (aI 2 fj), (aI 4096 fw), (aI 2100 fz)]) rfl rfl) hT hPm hG hRm hm0 hm1 hsd hht htp) (mFr_of (by intro a ha; simp only [List.mem_cons, List.not_mem_nil, or_false] at ha; omega))
  · refine w_tableOut (tgt := 147) dX10_loop_20 (out_k (k := 6) (by decide) hy) rfl ?_
    refine w_aload_n dX10_loop_147 rfl ?_
    refine w_iconst (v := 1) dX10_loop_148 (by decide) ?_
    refine w_callV (ci := 10) (d' := d + 1) (mc' := 0) (ms' := 0) (As := [.int 1]) (st := []) lX10_228 vX10_refused rfl (hUs_at nd 0 rfl rfl) rfl (Nat.le_of_ble_eq_true rfl) dX10_loop_149 (Nat.le_of_ble_eq_true rfl) (Nat.le_of_ble_eq_true rfl) (Nat.le_refl _) (m_refused (hHas_sub nd (as' := [m]) (cs' := [(oC 10 (mF m 0 tr pl (nI tp) sz sp fa fl tk ta sg nu wd (nI P.1) (nI P.2.1) rl rw ht sd ah cl))]) [0] rfl rfl) (nd_sub nd (as' := [m]) [0] rfl rfl)  ?_)
    refine w_heq (hUs_in nd rfl [0] (cs2 := [(oC 10 (mF m 0 1 (-1) (nI tp) sz sp fa fl tk ta sg nu wd (nI P.1) (nI P.2.1) rl rw ht sd ah cl)), (aI 8 fs), (aI 24 ff), (aI 8 fb), (aI 8 fn), (aZ 8 f3)]) rfl rfl) ?_
    refine w_ireturn rfl dX10_loop_152 (Nat.le_of_ble_eq_true rfl) (Nat.le_of_ble_eq_true rfl) ?_
    have e : oLp P (nI j) y = ((-1), 1) := by
      simp only [oLp, ixN_s hj hnL]
      rw [if_pos (by
        rcases Int32.lt_or_le y 0 with z | z
        · exact Or.inl z
        · exact Or.inr (Int32.not_le.mp (fun z2 => hy ⟨z, z2⟩)))]
    rw [e] at k
    exact k _ (mI_i (cI_put hW (mAs_nd m) rfl [0, 4, 5, 6, 7, 9] (cs2 := [(oC 10 (mF m 0 1 (-1) (nI tp) sz sp fa fl tk ta sg nu wd (nI P.1) (nI P.2.1) rl rw ht sd ah cl)), (aI 600 gt), (aL 8 ln), (aL 8 wn), (aI 8 fs), (aI 24 ff), (aI 8 fb), (aI 8 fn), (aI 8 fp), (aZ 8 f3), (aI 64 fk), (aI 64 fx), (aI 64 fy), (aI 64 fc), (aI 11 fr), (aI 11 f1), (aI 11 f2), (aI 22 fi), (aB 4096 fo), (aB 8192 fq), (aZ 2 fh), (aI 2 fj), (aI 4096 fw), (aI 2100 fz)]) rfl rfl) hT hPm hG hRm hm0 hm1 hsd hht htp) (mFr_of (by intro a ha; simp only [List.mem_cons, List.not_mem_nil, or_false] at ha; omega))
set_option maxRecDepth 100000 in
set_option maxHeartbeats 4000000 in
theorem q_loop_n {G : wG} {d : Nat} {h : hH} {Q : Option Value → hH → Prop} {m : Nat} {ft : Nat → Int32} {tp : Nat} {P : pD} {ht : Int32} {R : Option rnD} {i0 i1 : imD} {sd fa pl tr : Int32} {th : Int32}  {l y : Int32} (hI : mI h m ft tp P ht R i0 i1 sd fa pl tr th) (hl : ¬ ∃ j, j < P.1 ∧ l = nI j) (k : ∀ h2, mI h2 m ft tp P ht R i0 i1 sd fa (-1) (oLp P l y).2 0 → mFr m h h2 → Q (some (.int (oLp P l y).1)) h2) : Cl G yX10_loop (d + 2) 0 0 [.ref m, .int l, .int y] h Q := by
  refine mI_e hI ?_
  intro sz sp fl tk ta sg nu wd rl rw ah cl gt ln wn fs ff fb fn fp f3 fk fx fy fc fr f1 f2 fi fo fq fh fj fw fz hW hT hPm hG hRm hm0 hm1 hsd hht htp
  have hnL : P.1 ≤ 4096 := Nat.le_trans hG.2.2.1 (by decide)
  have hnW : P.2.1 ≤ 4096 := Nat.le_trans hG.2.2.2 (by decide)
  have hhL : (ht = 0 ∧ P.1 = 0) ∨ ht = 1 := hht.imp (fun z => ⟨z.1, z.2.1⟩) id
  have hhW : (ht = 0 ∧ P.2.1 = 0) ∨ ht = 1 := hht.imp (fun z => ⟨z.1, z.2.2⟩) id
  have hw : hHas h [m] [(oC 10 (mF m th tr pl (nI tp) sz sp fa fl tk ta sg nu wd (nI P.1) (nI P.2.1) rl rw ht sd ah cl))] := hHas_s hW [0] rfl rfl
  have nd : [m].Nodup := (nd_inc trivial)
  refine Cl.of (ini := false) kX10_loop (plainFor_of_name (by decide)) (by decide) (Nat.le_of_ble_eq_true rfl) rfl rfl (fun z => by cases z) ?_
  refine w_heq (hUs_id hw).symm ?_
  refine w_aload_n dX10_loop_0 rfl ?_
  refine w_iconst (v := 0) dX10_loop_1 (by decide) ?_
  refine w_put (fs' := (mF m 0 tr pl (nI tp) sz sp fa fl tk ta sg nu wd (nI P.1) (nI P.2.1) rl rw ht sd ah cl)) fX10_89 (hUs_at nd 0 rfl rfl) rfl rfl (Nat.le_of_ble_eq_true rfl) rfl dX10_loop_2 ?_
  refine w_heq (hUs_set nd rfl 0 (cs' := [(oC 10 (mF m 0 tr pl (nI tp) sz sp fa fl tk ta sg nu wd (nI P.1) (nI P.2.1) rl rw ht sd ah cl))]) rfl rfl) ?_
  refine w_aload_n dX10_loop_5 rfl ?_
  refine w_iload_n dX10_loop_6 rfl ?_
  refine w_callV (ci := 10) (d' := d + 1) (mc' := 0) (ms' := 0) (As := [.int l]) (st := []) lX10_251 vX10_isLoop rfl (hUs_at nd 0 rfl rfl) rfl (Nat.le_of_ble_eq_true rfl) dX10_loop_7 (Nat.le_of_ble_eq_true rfl) (Nat.le_of_ble_eq_true rfl) (Nat.le_refl _) (m_isLoop (hHas_sub nd (as' := [m]) (cs' := [(oC 10 (mF m 0 tr pl (nI tp) sz sp fa fl tk ta sg nu wd (nI P.1) (nI P.2.1) rl rw ht sd ah cl))]) [0] rfl rfl) hnL hhL ?_)
  refine w_if_ne_f (tgt := 19) dX10_loop_10 rfl (ixB_n hl hnL) ?_
  refine w_aload_n dX10_loop_13 rfl ?_
  refine w_iconst (v := 1) dX10_loop_14 (by decide) ?_
  refine w_callV (ci := 10) (d' := d + 1) (mc' := 0) (ms' := 0) (As := [.int 1]) (st := []) lX10_228 vX10_refused rfl (hUs_at nd 0 rfl rfl) rfl (Nat.le_of_ble_eq_true rfl) dX10_loop_15 (Nat.le_of_ble_eq_true rfl) (Nat.le_of_ble_eq_true rfl) (Nat.le_refl _) (m_refused (hHas_sub nd (as' := [m]) (cs' := [(oC 10 (mF m 0 tr pl (nI tp) sz sp fa fl tk ta sg nu wd (nI P.1) (nI P.2.1) rl rw ht sd ah cl))]) [0] rfl rfl) (nd_sub nd (as' := [m]) [0] rfl rfl)  ?_)
  refine w_heq (hUs_in nd rfl [0] (cs2 := [(oC 10 (mF m 0 1 (-1) (nI tp) sz sp fa fl tk ta sg nu wd (nI P.1) (nI P.2.1) rl rw ht sd ah cl))]) rfl rfl) ?_
  refine w_ireturn rfl dX10_loop_18 (Nat.le_of_ble_eq_true rfl) (Nat.le_of_ble_eq_true rfl) ?_
  have e : oLp P l y = ((-1), 1) := by
    simp [oLp, ixN_n hl hnL]
  rw [e] at k
  exact k _ (mI_i (cI_put hW (mAs_nd m) rfl [0] (cs2 := [(oC 10 (mF m 0 1 (-1) (nI tp) sz sp fa fl tk ta sg nu wd (nI P.1) (nI P.2.1) rl rw ht sd ah cl)), (aI 600 gt), (aL 8 ln), (aL 8 wn), (aI 8 fs), (aI 24 ff), (aI 8 fb), (aI 8 fn), (aI 8 fp), (aZ 8 f3), (aI 64 fk), (aI 64 fx), (aI 64 fy), (aI 64 fc), (aI 11 fr), (aI 11 f1), (aI 11 f2), (aI 22 fi), (aB 4096 fo), (aB 8192 fq), (aZ 2 fh), (aI 2 fj), (aI 4096 fw), (aI 2100 fz)]) rfl rfl) hT hPm hG hRm hm0 hm1 hsd hht htp) (mFr_of (by intro a ha; simp only [List.mem_cons, List.not_mem_nil, or_false] at ha; omega))
theorem q_loop {G : wG} {d : Nat} {h : hH} {Q : Option Value → hH → Prop} {m : Nat} {ft : Nat → Int32} {tp : Nat} {P : pD} {ht : Int32} {R : Option rnD} {i0 i1 : imD} {sd fa pl tr : Int32} {th : Int32} {l y : Int32} (hI : mI h m ft tp P ht R i0 i1 sd fa pl tr th) (k : ∀ h2, mI h2 m ft tp P ht R i0 i1 sd fa (-1) (oLp P l y).2 0 → mFr m h h2 → Q (some (.int (oLp P l y).1)) h2) : Cl G yX10_loop (d + 2) 0 0 [.ref m, .int l, .int y] h Q := by
  by_cases hl : ∃ j, j < P.1 ∧ l = nI j
  · obtain ⟨j, hj, rfl⟩ := hl
    exact q_loop_s hI hj k
  · exact q_loop_n hI hl k
