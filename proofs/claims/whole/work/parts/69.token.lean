set_option maxRecDepth 100000 in
set_option maxHeartbeats 4000000 in
theorem m_goTok {G : wG} {d : Nat} {h : hH} {Q : Option Value → hH → Prop} {m : Nat} {th tr wa tp fl tk ta sg nu : Int32} {wd : Int64} {lo wv rl rw ht sd ah cl : Int32} {ft gt : Nat → Int32} {E : Nat} {a : Nat} {vl tn fn9 pn : Int32} (nd : [m, m + 1].Nodup) (hE : E ≤ 600) (hT : mT E ft gt) (ha : a ≤ E) (k : ∀ (sp fa fl tk ta sg nu : Int32) (wd : Int64), pR (.inl (rTok ft E a vl tn fn9 pn)) E sp fa fl tk ta sg nu wd → Q none (hUs h [m, m + 1] [(oC 10 (mF m th tr wa tp (nI E) sp fa fl tk ta sg nu wd lo wv rl rw ht sd ah cl)), (aI 600 gt)])) : WP G RX10 cX10_goOn 1 none false (d + 2) 0 0 0 0 Q 46 [some (.ref m)] [] (hUs h [m, m + 1] [(oC 10 (mF m th tr wa tp (nI E) (nI a) 0 fl tk ta sg nu wd lo wv rl rw ht sd ah cl)), (aI 600 gt)]) := by
  refine w_aload_n dX10_goOn_46 rfl ?_
  refine w_aload_n dX10_goOn_47 rfl ?_
  refine w_get (v := .int (nI a)) fX10_115 (hUs_at nd 0 rfl rfl) rfl dX10_goOn_48 ?_
  refine w_put (fs' := (mF m th tr wa tp (nI E) (nI a) 0 fl tk (nI a) sg nu wd lo wv rl rw ht sd ah cl)) fX10_102 (hUs_at nd 0 rfl rfl) rfl rfl (Nat.le_of_ble_eq_true rfl) rfl dX10_goOn_51 ?_
  refine w_heq (hUs_set nd rfl 0 (cs' := [(oC 10 (mF m th tr wa tp (nI E) (nI a) 0 fl tk (nI a) sg nu wd lo wv rl rw ht sd ah cl)), (aI 600 gt)]) rfl rfl) ?_
  refine w_aload_n dX10_goOn_54 rfl ?_
  refine w_get (v := .int (nI a)) fX10_115 (hUs_at nd 0 rfl rfl) rfl dX10_goOn_55 ?_
  refine w_aload_n dX10_goOn_58 rfl ?_
  refine w_get (v := .int (nI E)) fX10_108 (hUs_at nd 0 rfl rfl) rfl dX10_goOn_59 ?_
  refine w_icmp_ne (tgt := 73) dX10_goOn_62 rfl (fun b62 => ?_) (fun b62 => ?_)
  · have b62 : ¬ a = E := fun z => b62 ((nI_eq (a := a) (b := E) (by omega) (by omega)).mpr z)
    refine w_aload_n dX10_goOn_73 rfl ?_
    refine w_aload_n dX10_goOn_74 rfl ?_
    refine w_get (v := .int (nI a)) fX10_115 (hUs_at nd 0 rfl rfl) rfl dX10_goOn_75 ?_
    refine w_callV (ci := 10) (d' := d + 1) (mc' := 0) (ms' := 0) (As := [.int (nI a)]) (st := []) lX10_121 vX10_isLetterAt rfl (hUs_at nd 0 rfl rfl) rfl (Nat.le_of_ble_eq_true rfl) dX10_goOn_78 (Nat.le_of_ble_eq_true rfl) (Nat.le_of_ble_eq_true rfl) (Nat.le_refl _) (m_isLetterAt (hHas_sub nd (as' := [m, m + 1]) (cs' := [(oC 10 (mF m th tr wa tp (nI E) (nI a) 0 fl tk (nI a) sg nu wd lo wv rl rw ht sd ah cl)), (aI 600 gt)]) [0, 1] rfl rfl) hE hT (by omega) ?_)
    refine w_if_eq (tgt := 182) dX10_goOn_81 rfl (fun b81 => ?_) (fun b81 => ?_)
    · refine w_aload_n dX10_goOn_182 rfl ?_
      refine w_aload_n dX10_goOn_183 rfl ?_
      refine w_get (v := .int (nI a)) fX10_115 (hUs_at nd 0 rfl rfl) rfl dX10_goOn_184 ?_
      refine w_callV (ci := 10) (d' := d + 1) (mc' := 0) (ms' := 0) (As := [.int (nI a)]) (st := []) lX10_133 vX10_isDigitAt rfl (hUs_at nd 0 rfl rfl) rfl (Nat.le_of_ble_eq_true rfl) dX10_goOn_187 (Nat.le_of_ble_eq_true rfl) (Nat.le_of_ble_eq_true rfl) (Nat.le_refl _) (m_isDigitAt (hHas_sub nd (as' := [m, m + 1]) (cs' := [(oC 10 (mF m th tr wa tp (nI E) (nI a) 0 fl tk (nI a) sg nu wd lo wv rl rw ht sd ah cl)), (aI 600 gt)]) [0, 1] rfl rfl) hE hT (by omega) ?_)
      refine w_if_eq (tgt := 284) dX10_goOn_190 rfl (fun b190 => ?_) (fun b190 => ?_)
      · refine w_aload_n dX10_goOn_284 rfl ?_
        refine w_aload_n dX10_goOn_285 rfl ?_
        refine w_get (v := .ref (m + 1)) fX10_13 (hUs_at nd 0 rfl rfl) rfl dX10_goOn_286 ?_
        refine w_aload_n dX10_goOn_289 rfl ?_
        refine w_get (v := .int (nI a)) fX10_115 (hUs_at nd 0 rfl rfl) rfl dX10_goOn_290 ?_
        refine w_ialoadN (hUs_at nd 1 rfl rfl) (by omega) (by omega) dX10_goOn_293 ?_
        refine w_top (z := ft a &&& 255) (hT a (by omega)).1 ?_
        refine w_put (fs' := (mF m th tr wa tp (nI E) (nI a) 0 fl tk (nI a) (ft a &&& 255) nu wd lo wv rl rw ht sd ah cl)) fX10_139 (hUs_at nd 0 rfl rfl) rfl rfl (Nat.le_of_ble_eq_true rfl) rfl dX10_goOn_294 ?_
        refine w_heq (hUs_set nd rfl 0 (cs' := [(oC 10 (mF m th tr wa tp (nI E) (nI a) 0 fl tk (nI a) (ft a &&& 255) nu wd lo wv rl rw ht sd ah cl)), (aI 600 gt)]) rfl rfl) ?_
        refine w_aload_n dX10_goOn_297 rfl ?_
        refine w_aload_n dX10_goOn_298 rfl ?_
        refine w_get (v := .int (ft a &&& 255)) fX10_139 (hUs_at nd 0 rfl rfl) rfl dX10_goOn_299 ?_
        refine w_bipush (v := 59) dX10_goOn_302 (by decide) ?_
        refine w_icmp_eq (tgt := 325) dX10_goOn_304 rfl (fun b304 => ?_) (fun b304 => ?_)
        · refine w_iconst (v := 4) dX10_goOn_325 (by decide) ?_
          refine w_goto (tgt := 330) dX10_goOn_326 rfl ?_
          refine w_put (fs' := (mF m th tr wa tp (nI E) (nI a) 0 fl 4 (nI a) (ft a &&& 255) nu wd lo wv rl rw ht sd ah cl)) fX10_118 (hUs_at nd 0 rfl rfl) rfl rfl (Nat.le_of_ble_eq_true rfl) rfl dX10_goOn_330 ?_
          refine w_heq (hUs_set nd rfl 0 (cs' := [(oC 10 (mF m th tr wa tp (nI E) (nI a) 0 fl 4 (nI a) (ft a &&& 255) nu wd lo wv rl rw ht sd ah cl)), (aI 600 gt)]) rfl rfl) ?_
          refine w_aload_n dX10_goOn_333 rfl ?_
          refine w_dup dX10_goOn_334 rfl ?_
          refine w_get (v := .int (nI a)) fX10_115 (hUs_at nd 0 rfl rfl) rfl dX10_goOn_335 ?_
          refine w_iconst (v := 1) dX10_goOn_338 (by decide) ?_
          refine w_iaddE (z := nI (a + 1)) dX10_goOn_339 (nI_add (a) (1)) ?_
          refine w_put (fs' := (mF m th tr wa tp (nI E) (nI (a + 1)) 0 fl 4 (nI a) (ft a &&& 255) nu wd lo wv rl rw ht sd ah cl)) fX10_115 (hUs_at nd 0 rfl rfl) rfl rfl (Nat.le_of_ble_eq_true rfl) rfl dX10_goOn_340 ?_
          refine w_heq (hUs_set nd rfl 0 (cs' := [(oC 10 (mF m th tr wa tp (nI E) (nI (a + 1)) 0 fl 4 (nI a) (ft a &&& 255) nu wd lo wv rl rw ht sd ah cl)), (aI 600 gt)]) rfl rfl) ?_
          refine w_return rfl dX10_goOn_343 (Nat.le_of_ble_eq_true rfl) (Nat.le_of_ble_eq_true rfl) ?_
          have e9 : (rTok ft E a vl tn fn9 pn) = (E, a + 1, (if ft a = 59 ∨ ft a = 44 ∨ ft a = 45 then 3 else 4), a, ft a, tn, fn9, pn) := by
            rw [rTok, if_pos (by omega), if_neg (fun z => ltB_0 b81 ⟨by omega, z⟩), if_neg (fun z => dgB_0 b190 ⟨by omega, z⟩)]
          have es := (by_eq (c := 59) (hT a (by omega)).2.1 (hT a (by omega)).2.2 (by decide) (by decide)).mp b304
          rw [if_pos (Or.inl es)] at e9
          have hk9 := rTok_ok ft vl tn fn9 pn hE ha
          rw [e9] at hk9
          rw [e9] at k
          exact k _ _ _ _ _ _ _ _ ⟨rfl, rfl, hk9, rfl, rfl, Or.inr (Or.inr (Or.inr (Or.inl ⟨rfl, rfl, (show ft a &&& 255 = ft a by rw [es]; decide)⟩)))⟩
        · refine w_aload_n dX10_goOn_307 rfl ?_
          refine w_get (v := .int (ft a &&& 255)) fX10_139 (hUs_at nd 0 rfl rfl) rfl dX10_goOn_308 ?_
          refine w_bipush (v := 44) dX10_goOn_311 (by decide) ?_
          refine w_icmp_eq (tgt := 325) dX10_goOn_313 rfl (fun b313 => ?_) (fun b313 => ?_)
          · refine w_iconst (v := 4) dX10_goOn_325 (by decide) ?_
            refine w_goto (tgt := 330) dX10_goOn_326 rfl ?_
            refine w_put (fs' := (mF m th tr wa tp (nI E) (nI a) 0 fl 4 (nI a) (ft a &&& 255) nu wd lo wv rl rw ht sd ah cl)) fX10_118 (hUs_at nd 0 rfl rfl) rfl rfl (Nat.le_of_ble_eq_true rfl) rfl dX10_goOn_330 ?_
            refine w_heq (hUs_set nd rfl 0 (cs' := [(oC 10 (mF m th tr wa tp (nI E) (nI a) 0 fl 4 (nI a) (ft a &&& 255) nu wd lo wv rl rw ht sd ah cl)), (aI 600 gt)]) rfl rfl) ?_
            refine w_aload_n dX10_goOn_333 rfl ?_
            refine w_dup dX10_goOn_334 rfl ?_
            refine w_get (v := .int (nI a)) fX10_115 (hUs_at nd 0 rfl rfl) rfl dX10_goOn_335 ?_
            refine w_iconst (v := 1) dX10_goOn_338 (by decide) ?_
            refine w_iaddE (z := nI (a + 1)) dX10_goOn_339 (nI_add (a) (1)) ?_
            refine w_put (fs' := (mF m th tr wa tp (nI E) (nI (a + 1)) 0 fl 4 (nI a) (ft a &&& 255) nu wd lo wv rl rw ht sd ah cl)) fX10_115 (hUs_at nd 0 rfl rfl) rfl rfl (Nat.le_of_ble_eq_true rfl) rfl dX10_goOn_340 ?_
            refine w_heq (hUs_set nd rfl 0 (cs' := [(oC 10 (mF m th tr wa tp (nI E) (nI (a + 1)) 0 fl 4 (nI a) (ft a &&& 255) nu wd lo wv rl rw ht sd ah cl)), (aI 600 gt)]) rfl rfl) ?_
            refine w_return rfl dX10_goOn_343 (Nat.le_of_ble_eq_true rfl) (Nat.le_of_ble_eq_true rfl) ?_
            have e9 : (rTok ft E a vl tn fn9 pn) = (E, a + 1, (if ft a = 59 ∨ ft a = 44 ∨ ft a = 45 then 3 else 4), a, ft a, tn, fn9, pn) := by
              rw [rTok, if_pos (by omega), if_neg (fun z => ltB_0 b81 ⟨by omega, z⟩), if_neg (fun z => dgB_0 b190 ⟨by omega, z⟩)]
            have es := (by_eq (c := 44) (hT a (by omega)).2.1 (hT a (by omega)).2.2 (by decide) (by decide)).mp b313
            rw [if_pos (Or.inr (Or.inl es))] at e9
            have hk9 := rTok_ok ft vl tn fn9 pn hE ha
            rw [e9] at hk9
            rw [e9] at k
            exact k _ _ _ _ _ _ _ _ ⟨rfl, rfl, hk9, rfl, rfl, Or.inr (Or.inr (Or.inr (Or.inl ⟨rfl, rfl, (show ft a &&& 255 = ft a by rw [es]; decide)⟩)))⟩
          · refine w_aload_n dX10_goOn_316 rfl ?_
            refine w_get (v := .int (ft a &&& 255)) fX10_139 (hUs_at nd 0 rfl rfl) rfl dX10_goOn_317 ?_
            refine w_bipush (v := 45) dX10_goOn_320 (by decide) ?_
            refine w_icmp_ne (tgt := 329) dX10_goOn_322 rfl (fun b322 => ?_) (fun b322 => ?_)
            · refine w_iconst (v := 0) dX10_goOn_329 (by decide) ?_
              refine w_put (fs' := (mF m th tr wa tp (nI E) (nI a) 0 fl 0 (nI a) (ft a &&& 255) nu wd lo wv rl rw ht sd ah cl)) fX10_118 (hUs_at nd 0 rfl rfl) rfl rfl (Nat.le_of_ble_eq_true rfl) rfl dX10_goOn_330 ?_
              refine w_heq (hUs_set nd rfl 0 (cs' := [(oC 10 (mF m th tr wa tp (nI E) (nI a) 0 fl 0 (nI a) (ft a &&& 255) nu wd lo wv rl rw ht sd ah cl)), (aI 600 gt)]) rfl rfl) ?_
              refine w_aload_n dX10_goOn_333 rfl ?_
              refine w_dup dX10_goOn_334 rfl ?_
              refine w_get (v := .int (nI a)) fX10_115 (hUs_at nd 0 rfl rfl) rfl dX10_goOn_335 ?_
              refine w_iconst (v := 1) dX10_goOn_338 (by decide) ?_
              refine w_iaddE (z := nI (a + 1)) dX10_goOn_339 (nI_add (a) (1)) ?_
              refine w_put (fs' := (mF m th tr wa tp (nI E) (nI (a + 1)) 0 fl 0 (nI a) (ft a &&& 255) nu wd lo wv rl rw ht sd ah cl)) fX10_115 (hUs_at nd 0 rfl rfl) rfl rfl (Nat.le_of_ble_eq_true rfl) rfl dX10_goOn_340 ?_
              refine w_heq (hUs_set nd rfl 0 (cs' := [(oC 10 (mF m th tr wa tp (nI E) (nI (a + 1)) 0 fl 0 (nI a) (ft a &&& 255) nu wd lo wv rl rw ht sd ah cl)), (aI 600 gt)]) rfl rfl) ?_
              refine w_return rfl dX10_goOn_343 (Nat.le_of_ble_eq_true rfl) (Nat.le_of_ble_eq_true rfl) ?_
              have e9 : (rTok ft E a vl tn fn9 pn) = (E, a + 1, (if ft a = 59 ∨ ft a = 44 ∨ ft a = 45 then 3 else 4), a, ft a, tn, fn9, pn) := by
                rw [rTok, if_pos (by omega), if_neg (fun z => ltB_0 b81 ⟨by omega, z⟩), if_neg (fun z => dgB_0 b190 ⟨by omega, z⟩)]
              rw [if_neg (fun z => z.elim (fun z => b304 ((by_eq (c := 59) (hT a (by omega)).2.1 (hT a (by omega)).2.2 (by decide) (by decide)).mpr z)) (fun z => z.elim (fun z => b313 ((by_eq (c := 44) (hT a (by omega)).2.1 (hT a (by omega)).2.2 (by decide) (by decide)).mpr z)) (fun z => b322 ((by_eq (c := 45) (hT a (by omega)).2.1 (hT a (by omega)).2.2 (by decide) (by decide)).mpr z))))] at e9
              have hk9 := rTok_ok ft vl tn fn9 pn hE ha
              rw [e9] at hk9
              rw [e9] at k
              exact k _ _ _ _ _ _ _ _ ⟨rfl, rfl, hk9, rfl, rfl, Or.inr (Or.inr (Or.inr (Or.inr ⟨rfl, rfl⟩)))⟩
            · refine w_iconst (v := 4) dX10_goOn_325 (by decide) ?_
              refine w_goto (tgt := 330) dX10_goOn_326 rfl ?_
              refine w_put (fs' := (mF m th tr wa tp (nI E) (nI a) 0 fl 4 (nI a) (ft a &&& 255) nu wd lo wv rl rw ht sd ah cl)) fX10_118 (hUs_at nd 0 rfl rfl) rfl rfl (Nat.le_of_ble_eq_true rfl) rfl dX10_goOn_330 ?_
              refine w_heq (hUs_set nd rfl 0 (cs' := [(oC 10 (mF m th tr wa tp (nI E) (nI a) 0 fl 4 (nI a) (ft a &&& 255) nu wd lo wv rl rw ht sd ah cl)), (aI 600 gt)]) rfl rfl) ?_
              refine w_aload_n dX10_goOn_333 rfl ?_
              refine w_dup dX10_goOn_334 rfl ?_
              refine w_get (v := .int (nI a)) fX10_115 (hUs_at nd 0 rfl rfl) rfl dX10_goOn_335 ?_
              refine w_iconst (v := 1) dX10_goOn_338 (by decide) ?_
              refine w_iaddE (z := nI (a + 1)) dX10_goOn_339 (nI_add (a) (1)) ?_
              refine w_put (fs' := (mF m th tr wa tp (nI E) (nI (a + 1)) 0 fl 4 (nI a) (ft a &&& 255) nu wd lo wv rl rw ht sd ah cl)) fX10_115 (hUs_at nd 0 rfl rfl) rfl rfl (Nat.le_of_ble_eq_true rfl) rfl dX10_goOn_340 ?_
              refine w_heq (hUs_set nd rfl 0 (cs' := [(oC 10 (mF m th tr wa tp (nI E) (nI (a + 1)) 0 fl 4 (nI a) (ft a &&& 255) nu wd lo wv rl rw ht sd ah cl)), (aI 600 gt)]) rfl rfl) ?_
              refine w_return rfl dX10_goOn_343 (Nat.le_of_ble_eq_true rfl) (Nat.le_of_ble_eq_true rfl) ?_
              have e9 : (rTok ft E a vl tn fn9 pn) = (E, a + 1, (if ft a = 59 ∨ ft a = 44 ∨ ft a = 45 then 3 else 4), a, ft a, tn, fn9, pn) := by
                rw [rTok, if_pos (by omega), if_neg (fun z => ltB_0 b81 ⟨by omega, z⟩), if_neg (fun z => dgB_0 b190 ⟨by omega, z⟩)]
              have es := (by_eq (c := 45) (hT a (by omega)).2.1 (hT a (by omega)).2.2 (by decide) (by decide)).mp b322
              rw [if_pos (Or.inr (Or.inr es))] at e9
              have hk9 := rTok_ok ft vl tn fn9 pn hE ha
              rw [e9] at hk9
              rw [e9] at k
              exact k _ _ _ _ _ _ _ _ ⟨rfl, rfl, hk9, rfl, rfl, Or.inr (Or.inr (Or.inr (Or.inl ⟨rfl, rfl, (show ft a &&& 255 = ft a by rw [es]; decide)⟩)))⟩
      · refine w_aload_n dX10_goOn_193 rfl ?_
        refine w_iconst (v := 0) dX10_goOn_194 (by decide) ?_
        refine w_put (fs' := (mF m th tr wa tp (nI E) (nI a) 0 fl tk (nI a) sg 0 wd lo wv rl rw ht sd ah cl)) fX10_136 (hUs_at nd 0 rfl rfl) rfl rfl (Nat.le_of_ble_eq_true rfl) rfl dX10_goOn_195 ?_
        refine w_heq (hUs_set nd rfl 0 (cs' := [(oC 10 (mF m th tr wa tp (nI E) (nI a) 0 fl tk (nI a) sg 0 wd lo wv rl rw ht sd ah cl)), (aI 600 gt)]) rfl rfl) ?_
        refine l_go3 (R9 := (scD ft E (E - a) a 0 0)) nd hE hT ?_ (E - a) a 0 (by omega) (Nat.le_refl a) (by rw [Nat.sub_self])
        have hlt := dgB_n b190
        have hc9 := scD_c ft E (E - a) a 0 0
        obtain ⟨V9, hV1, hV2⟩ := scD_v ft E (E - a) a 0 0 0 rfl (by decide)
        have hle9 := scD_le ft E (E - a) a 0 0 (by omega)
        refine w_aload_n dX10_goOn_259 rfl ?_
        refine w_aload_n dX10_goOn_260 rfl ?_
        refine w_get (v := .int (nI (scD ft E (E - a) a 0 0).1)) fX10_115 (hUs_at nd 0 rfl rfl) rfl dX10_goOn_261 ?_
        refine w_aload_n dX10_goOn_264 rfl ?_
        refine w_get (v := .int (nI a)) fX10_102 (hUs_at nd 0 rfl rfl) rfl dX10_goOn_265 ?_
        refine w_isubE (z := nI ((scD ft E (E - a) a 0 0).1 - a)) dX10_goOn_268 (pk_sub (a := (scD ft E (E - a) a 0 0).1) (b := a) (by omega)) ?_
        refine w_iconst (v := 4) dX10_goOn_269 (by decide) ?_
        refine w_icmp_le (tgt := 277) dX10_goOn_270 rfl (fun b270 => ?_) (fun b270 => ?_)
        · have b270 := (nI_leI (a := ((scD ft E (E - a) a 0 0).1 - a)) (b := 4) (by omega) (by omega)).mp b270
          refine w_iconst (v := 3) dX10_goOn_277 (by decide) ?_
          refine w_put (fs' := (mF m th tr wa tp (nI E) (nI (scD ft E (E - a) a 0 0).1) 0 fl 3 (nI a) sg (scD ft E (E - a) a 0 0).2.2 wd lo wv rl rw ht sd ah cl)) fX10_118 (hUs_at nd 0 rfl rfl) rfl rfl (Nat.le_of_ble_eq_true rfl) rfl dX10_goOn_278 ?_
          refine w_heq (hUs_set nd rfl 0 (cs' := [(oC 10 (mF m th tr wa tp (nI E) (nI (scD ft E (E - a) a 0 0).1) 0 fl 3 (nI a) sg (scD ft E (E - a) a 0 0).2.2 wd lo wv rl rw ht sd ah cl)), (aI 600 gt)]) rfl rfl) ?_
          refine w_goto (tgt := 343) dX10_goOn_281 rfl ?_
          refine w_return rfl dX10_goOn_343 (Nat.le_of_ble_eq_true rfl) (Nat.le_of_ble_eq_true rfl) ?_
          have e9 : (rTok ft E a vl tn fn9 pn) = (E, (scD ft E (E - a) a 0 0).1, (if 4 < (scD ft E (E - a) a 0 0).2.1 then 4 else 2), a, (scD ft E (E - a) a 0 0).2.2, tn, fn9, pn) := by
            rw [rTok, if_pos (by omega), if_neg (fun z => ltB_0 b81 ⟨by omega, z⟩), if_pos hlt.2]
          rw [if_neg (show ¬ 4 < (scD ft E (E - a) a 0 0).2.1 by omega)] at e9
          have hk9 := rTok_ok ft vl tn fn9 pn hE ha
          rw [e9] at hk9
          rw [e9] at k
          exact k _ _ _ _ _ _ _ _ ⟨rfl, rfl, hk9, rfl, rfl, Or.inr (Or.inr (Or.inl ⟨rfl, rfl, rfl, by rw [hV1]; exact nI_pos' (by omega), by rw [hV1]; exact (nI_leI (b := 9999) (by omega) (by decide)).mpr hV2⟩))⟩
        · have b270 : ¬ ((scD ft E (E - a) a 0 0).1 - a) ≤ 4 := fun z => b270 ((nI_leI (a := ((scD ft E (E - a) a 0 0).1 - a)) (b := 4) (by omega) (by omega)).mpr z)
          refine w_iconst (v := 0) dX10_goOn_273 (by decide) ?_
          refine w_goto (tgt := 278) dX10_goOn_274 rfl ?_
          refine w_put (fs' := (mF m th tr wa tp (nI E) (nI (scD ft E (E - a) a 0 0).1) 0 fl 0 (nI a) sg (scD ft E (E - a) a 0 0).2.2 wd lo wv rl rw ht sd ah cl)) fX10_118 (hUs_at nd 0 rfl rfl) rfl rfl (Nat.le_of_ble_eq_true rfl) rfl dX10_goOn_278 ?_
          refine w_heq (hUs_set nd rfl 0 (cs' := [(oC 10 (mF m th tr wa tp (nI E) (nI (scD ft E (E - a) a 0 0).1) 0 fl 0 (nI a) sg (scD ft E (E - a) a 0 0).2.2 wd lo wv rl rw ht sd ah cl)), (aI 600 gt)]) rfl rfl) ?_
          refine w_goto (tgt := 343) dX10_goOn_281 rfl ?_
          refine w_return rfl dX10_goOn_343 (Nat.le_of_ble_eq_true rfl) (Nat.le_of_ble_eq_true rfl) ?_
          have e9 : (rTok ft E a vl tn fn9 pn) = (E, (scD ft E (E - a) a 0 0).1, (if 4 < (scD ft E (E - a) a 0 0).2.1 then 4 else 2), a, (scD ft E (E - a) a 0 0).2.2, tn, fn9, pn) := by
            rw [rTok, if_pos (by omega), if_neg (fun z => ltB_0 b81 ⟨by omega, z⟩), if_pos hlt.2]
          rw [if_pos (show 4 < (scD ft E (E - a) a 0 0).2.1 by omega)] at e9
          have hk9 := rTok_ok ft vl tn fn9 pn hE ha
          rw [e9] at hk9
          rw [e9] at k
          exact k _ _ _ _ _ _ _ _ ⟨rfl, rfl, hk9, rfl, rfl, Or.inr (Or.inr (Or.inr (Or.inr ⟨rfl, rfl⟩)))⟩
    · refine w_aload_n dX10_goOn_84 rfl ?_
      refine w_lconst (v := 0) dX10_goOn_85 (by decide) ?_
      refine w_put (fs' := (mF m th tr wa tp (nI E) (nI a) 0 fl tk (nI a) sg nu 0 lo wv rl rw ht sd ah cl)) fX10_125 (hUs_at nd 0 rfl rfl) rfl rfl (Nat.le_of_ble_eq_true rfl) rfl dX10_goOn_86 ?_
      refine w_heq (hUs_set nd rfl 0 (cs' := [(oC 10 (mF m th tr wa tp (nI E) (nI a) 0 fl tk (nI a) sg nu 0 lo wv rl rw ht sd ah cl)), (aI 600 gt)]) rfl rfl) ?_
      refine l_go2 (R9 := (scW ft E (E - a) a 0 0)) nd hE hT (fun wd9 hr9 => ?_) (E - a) a 0 0 (by omega) (Nat.le_refl a) (by rw [Nat.sub_self]; exact wRl_0) (by rw [Nat.sub_self])
      have hlt := ltB_n b81
      have hc9 := scW_c ft E (E - a) a 0 0
      have hg9 : a + 1 ≤ (scW ft E (E - a) a 0 0).1 := by
        obtain ⟨q, hq⟩ : ∃ q, E - a = q + 1 := ⟨E - a - 1, by omega⟩
        rw [hq, scW, if_pos hlt]
        exact (scW_le ft E q (a + 1) (0 + 1) _ (by omega)).1
      have hle9 := (scW_le ft E (E - a) a 0 0 (by omega)).2
      refine w_aload_n dX10_goOn_156 rfl ?_
      refine w_aload_n dX10_goOn_157 rfl ?_
      refine w_get (v := .int (nI (scW ft E (E - a) a 0 0).1)) fX10_115 (hUs_at nd 0 rfl rfl) rfl dX10_goOn_158 ?_
      refine w_aload_n dX10_goOn_161 rfl ?_
      refine w_get (v := .int (nI a)) fX10_102 (hUs_at nd 0 rfl rfl) rfl dX10_goOn_162 ?_
      refine w_isubE (z := nI ((scW ft E (E - a) a 0 0).1 - a)) dX10_goOn_165 (pk_sub (a := (scW ft E (E - a) a 0 0).1) (b := a) (by omega)) ?_
      refine w_bipush (v := 6) dX10_goOn_166 (by decide) ?_
      refine w_icmp_le (tgt := 175) dX10_goOn_168 rfl (fun b168 => ?_) (fun b168 => ?_)
      · have b168 := (nI_leI (a := ((scW ft E (E - a) a 0 0).1 - a)) (b := 6) (by omega) (by omega)).mp b168
        refine w_iconst (v := 2) dX10_goOn_175 (by decide) ?_
        refine w_put (fs' := (mF m th tr wa tp (nI E) (nI (scW ft E (E - a) a 0 0).1) 0 fl 2 (nI a) sg nu wd9 lo wv rl rw ht sd ah cl)) fX10_118 (hUs_at nd 0 rfl rfl) rfl rfl (Nat.le_of_ble_eq_true rfl) rfl dX10_goOn_176 ?_
        refine w_heq (hUs_set nd rfl 0 (cs' := [(oC 10 (mF m th tr wa tp (nI E) (nI (scW ft E (E - a) a 0 0).1) 0 fl 2 (nI a) sg nu wd9 lo wv rl rw ht sd ah cl)), (aI 600 gt)]) rfl rfl) ?_
        refine w_goto (tgt := 343) dX10_goOn_179 rfl ?_
        refine w_return rfl dX10_goOn_343 (Nat.le_of_ble_eq_true rfl) (Nat.le_of_ble_eq_true rfl) ?_
        have e9 : (rTok ft E a vl tn fn9 pn) = (E, (scW ft E (E - a) a 0 0).1, (if 6 < (scW ft E (E - a) a 0 0).2.1 then 4 else 1), a, (scW ft E (E - a) a 0 0).2.2, tn, fn9, pn) := by
          rw [rTok, if_pos (by omega), if_pos hlt.2]
        rw [if_neg (show ¬ 6 < (scW ft E (E - a) a 0 0).2.1 by omega)] at e9
        have hok9 := wRl_ok hr9 (by omega) (by omega)
        have hk9 := rTok_ok ft vl tn fn9 pn hE ha
        rw [e9] at hk9
        rw [e9] at k
        exact k _ _ _ _ _ _ _ _ ⟨rfl, rfl, hk9, rfl, rfl, Or.inr (Or.inl ⟨rfl, rfl, hok9.1, hok9.2⟩)⟩
      · have b168 : ¬ ((scW ft E (E - a) a 0 0).1 - a) ≤ 6 := fun z => b168 ((nI_leI (a := ((scW ft E (E - a) a 0 0).1 - a)) (b := 6) (by omega) (by omega)).mpr z)
        refine w_iconst (v := 0) dX10_goOn_171 (by decide) ?_
        refine w_goto (tgt := 176) dX10_goOn_172 rfl ?_
        refine w_put (fs' := (mF m th tr wa tp (nI E) (nI (scW ft E (E - a) a 0 0).1) 0 fl 0 (nI a) sg nu wd9 lo wv rl rw ht sd ah cl)) fX10_118 (hUs_at nd 0 rfl rfl) rfl rfl (Nat.le_of_ble_eq_true rfl) rfl dX10_goOn_176 ?_
        refine w_heq (hUs_set nd rfl 0 (cs' := [(oC 10 (mF m th tr wa tp (nI E) (nI (scW ft E (E - a) a 0 0).1) 0 fl 0 (nI a) sg nu wd9 lo wv rl rw ht sd ah cl)), (aI 600 gt)]) rfl rfl) ?_
        refine w_goto (tgt := 343) dX10_goOn_179 rfl ?_
        refine w_return rfl dX10_goOn_343 (Nat.le_of_ble_eq_true rfl) (Nat.le_of_ble_eq_true rfl) ?_
        have e9 : (rTok ft E a vl tn fn9 pn) = (E, (scW ft E (E - a) a 0 0).1, (if 6 < (scW ft E (E - a) a 0 0).2.1 then 4 else 1), a, (scW ft E (E - a) a 0 0).2.2, tn, fn9, pn) := by
          rw [rTok, if_pos (by omega), if_pos hlt.2]
        rw [if_pos (show 6 < (scW ft E (E - a) a 0 0).2.1 by omega)] at e9
        have hk9 := rTok_ok ft vl tn fn9 pn hE ha
        rw [e9] at hk9
        rw [e9] at k
        exact k _ _ _ _ _ _ _ _ ⟨rfl, rfl, hk9, rfl, rfl, Or.inr (Or.inr (Or.inr (Or.inr ⟨rfl, rfl⟩)))⟩
  · have b62 := (nI_eq (a := a) (b := E) (by omega) (by omega)).mp b62
    refine w_aload_n dX10_goOn_65 rfl ?_
    refine w_iconst (v := 1) dX10_goOn_66 (by decide) ?_
    refine w_put (fs' := (mF m th tr wa tp (nI E) (nI a) 0 fl 1 (nI a) sg nu wd lo wv rl rw ht sd ah cl)) fX10_118 (hUs_at nd 0 rfl rfl) rfl rfl (Nat.le_of_ble_eq_true rfl) rfl dX10_goOn_67 ?_
    refine w_heq (hUs_set nd rfl 0 (cs' := [(oC 10 (mF m th tr wa tp (nI E) (nI a) 0 fl 1 (nI a) sg nu wd lo wv rl rw ht sd ah cl)), (aI 600 gt)]) rfl rfl) ?_
    refine w_goto (tgt := 343) dX10_goOn_70 rfl ?_
    refine w_return rfl dX10_goOn_343 (Nat.le_of_ble_eq_true rfl) (Nat.le_of_ble_eq_true rfl) ?_
    have e9 : (rTok ft E a vl tn fn9 pn) = (E, a, 0, a, vl, tn, fn9, pn) := by
      rw [rTok, if_neg (by omega)]
    have hk9 := rTok_ok ft vl tn fn9 pn hE ha
    rw [e9] at hk9
    rw [e9] at k
    exact k _ _ _ _ _ _ _ _ ⟨rfl, rfl, hk9, rfl, rfl, Or.inl ⟨rfl, rfl⟩⟩
set_option maxRecDepth 100000 in
set_option maxHeartbeats 4000000 in
theorem m_goOn_r {G : wG} {d : Nat} {h : hH} {Q : Option Value → hH → Prop} {m : Nat} {th tr wa tp sp fa fl tk ta sg nu : Int32} {wd : Int64} {lo wv rl rw ht sd ah cl : Int32} {ft gt : Nat → Int32} {E : Nat} {b : Int32 × Int32} (hw : hHas h [m, m + 1] [(oC 10 (mF m th tr wa tp (nI E) sp fa fl tk ta sg nu wd lo wv rl rw ht sd ah cl)), (aI 600 gt)]) (nd : [m, m + 1].Nodup) (hp : pR (.inr b) E sp fa fl tk ta sg nu wd) (k : ∀ (sp fa fl tk ta sg nu : Int32) (wd : Int64), pR (gS ft (.inr b)) E sp fa fl tk ta sg nu wd → Q none (hUs h [m, m + 1] [(oC 10 (mF m th tr wa tp (nI E) sp fa fl tk ta sg nu wd lo wv rl rw ht sd ah cl)), (aI 600 gt)])) : Cl G yX10_goOn (d + 2) 0 0 [.ref m] h Q := by
  refine Cl.of (ini := false) kX10_goOn (plainFor_of_name (by decide)) (by decide) (Nat.le_of_ble_eq_true rfl) rfl rfl (fun z => by cases z) ?_
  refine w_heq (hUs_id hw).symm ?_
  refine w_aload_n dX10_goOn_0 rfl ?_
  refine w_get (v := .int fa) fX10_99 (hUs_at nd 0 rfl rfl) rfl dX10_goOn_1 ?_
  refine w_if_le_f (tgt := 8) dX10_goOn_4 rfl (fun z => absurd hp.2.1 (by rw [← hp.1]; exact Int32.not_lt.mpr z)) ?_
  refine w_return rfl dX10_goOn_7 (Nat.le_of_ble_eq_true rfl) (Nat.le_of_ble_eq_true rfl) ?_
  exact k _ _ _ _ _ _ _ _ hp
set_option maxRecDepth 100000 in
set_option maxHeartbeats 4000000 in
theorem m_goOn_l {G : wG} {d : Nat} {h : hH} {Q : Option Value → hH → Prop} {m : Nat} {th tr wa tp fl tk ta sg nu : Int32} {wd : Int64} {lo wv rl rw ht sd ah cl : Int32} {ft gt : Nat → Int32} {E : Nat} {x : rD} (hw : hHas h [m, m + 1] [(oC 10 (mF m th tr wa tp (nI E) (nI x.2.1) 0 fl tk ta sg nu wd lo wv rl rw ht sd ah cl)), (aI 600 gt)]) (nd : [m, m + 1].Nodup) (hE : E ≤ 600) (hT : mT E ft gt) (h2 : x.1 = E) (h3 : rOk x) (k : ∀ (sp fa fl tk ta sg nu : Int32) (wd : Int64), pR (gS ft (.inl x)) E sp fa fl tk ta sg nu wd → Q none (hUs h [m, m + 1] [(oC 10 (mF m th tr wa tp (nI E) sp fa fl tk ta sg nu wd lo wv rl rw ht sd ah cl)), (aI 600 gt)])) : Cl G yX10_goOn (d + 2) 0 0 [.ref m] h Q := by
  refine Cl.of (ini := false) kX10_goOn (plainFor_of_name (by decide)) (by decide) (Nat.le_of_ble_eq_true rfl) rfl rfl (fun z => by cases z) ?_
  refine w_heq (hUs_id hw).symm ?_
  refine w_aload_n dX10_goOn_0 rfl ?_
  refine w_get (v := .int 0) fX10_99 (hUs_at nd 0 rfl rfl) rfl dX10_goOn_1 ?_
  refine w_if_le_t (tgt := 8) dX10_goOn_4 rfl (by decide) ?_
  refine l_go1 nd hE hT ?_ (E - x.2.1) x.2.1 (by have := h3.2; omega) rfl
  subst h2
  exact m_goTok nd hE hT (scB_le ft x.1 _ _ h3.2).2 k
theorem m_goOn {G : wG} {d : Nat} {h : hH} {Q : Option Value → hH → Prop} {m : Nat} {th tr wa tp sp fa fl tk ta sg nu : Int32} {wd : Int64} {lo wv rl rw ht sd ah cl : Int32} {ft gt : Nat → Int32} {E : Nat} {s : pS} (hw : hHas h [m, m + 1] [(oC 10 (mF m th tr wa tp (nI E) sp fa fl tk ta sg nu wd lo wv rl rw ht sd ah cl)), (aI 600 gt)]) (nd : [m, m + 1].Nodup) (hE : E ≤ 600) (hT : mT E ft gt) (hp : pR s E sp fa fl tk ta sg nu wd) (k : ∀ (sp fa fl tk ta sg nu : Int32) (wd : Int64), pR (gS ft s) E sp fa fl tk ta sg nu wd → Q none (hUs h [m, m + 1] [(oC 10 (mF m th tr wa tp (nI E) sp fa fl tk ta sg nu wd lo wv rl rw ht sd ah cl)), (aI 600 gt)])) : Cl G yX10_goOn (d + 2) 0 0 [.ref m] h Q := by
  cases s with
  | inl x =>
    obtain ⟨h1, h2, h3, h4, h5, h6⟩ := hp
    subst h1; subst h4
    exact m_goOn_l hw nd hE hT h2 h3 k
  | inr b => exact m_goOn_r hw nd hp k
def wdF (bs : List Int32) (n : Nat) : Int64 := fld (fun i s => s * 32 + (bs.getD i 0 &&& 255).toInt64 - 97 + 1) 0 n 0
def nmB : Nat → Nat → Bool
  | 0, N => N == 0
  | k + 1, N => N == 0 || (decide (1 ≤ N % 32 ∧ N % 32 ≤ 26) && nmB k (N / 32))
theorem nmB_G : ∀ (k N : Nat), nmB k N = true → nmG k N
  | 0, N, h => by
    show N = 0
    simpa [nmB] using h
  | k + 1, N, h => by
    simp only [nmB, Bool.or_eq_true, Bool.and_eq_true, beq_iff_eq, decide_eq_true_eq] at h
    rcases h with h | h
    · exact Or.inl h
    · exact Or.inr ⟨h.1, nmB_G k (N / 32) h.2⟩
theorem wSL_nm : ∀ r ∈ wSL, nmX (pkF r.2.2.2.2 r.2.2.2.1) = wdF r.2.2.2.2 r.2.2.2.1 ∧ pkF r.2.2.2.2 r.2.2.2.1 = nI (tN (pkF r.2.2.2.2 r.2.2.2.1)) ∧ tN (pkF r.2.2.2.2 r.2.2.2.1) < 2 ^ 30 ∧ 0 < tN (pkF r.2.2.2.2 r.2.2.2.1) ∧ nmB 6 (tN (pkF r.2.2.2.2 r.2.2.2.1)) = true := by decide +kernel
def isS (s : pS) (bs : List Int32) (n : Nat) : Int32 := match s with
  | .inl x => isW x.2.2.1 x.2.2.2.2.1 bs n
  | .inr _ => 0
def siS (s : pS) (c : Int32) : Int32 := match s with
  | .inl x => isM x.2.2.1 x.2.2.2.2.1 c
  | .inr _ => 0
theorem tkR_w {x : rD} {sp tk ta sg nu : Int32} {wd : Int64} (h : tkR x sp tk ta sg nu wd) : (tk = 2 ↔ x.2.2.1 = 1) ∧ (x.2.2.1 = 1 → nmOk x.2.2.2.2.1 ∧ wd = nmX x.2.2.2.2.1) ∧ (tk = 3 ↔ x.2.2.1 = 2) ∧ (x.2.2.1 = 2 → nu = x.2.2.2.2.1 ∧ 0 ≤ nu ∧ nu ≤ 9999) ∧ (tk = 4 ↔ x.2.2.1 = 3) ∧ (x.2.2.1 = 3 → sg = x.2.2.2.2.1) ∧ (tk = 1 ↔ x.2.2.1 = 0) := by
  obtain ⟨h1, h2, h3⟩ := h
  rcases h3 with ⟨a, b⟩ | ⟨a, b, c⟩ | ⟨a, b, c⟩ | ⟨a, b, c⟩ | ⟨a, b⟩ <;> rw [a, b]
  · simp
  · exact ⟨by simp, fun _ => c, by simp, fun z => absurd z (by decide), by simp, fun z => absurd z (by decide), by simp⟩
  · exact ⟨by simp, fun z => absurd z (by decide), by simp, fun _ => c, by simp, fun z => absurd z (by decide), by simp⟩
  · exact ⟨by simp, fun z => absurd z (by decide), by simp, fun z => absurd z (by decide), by simp, fun _ => c, by simp⟩
  · simp
set_option maxRecDepth 100000 in
set_option maxHeartbeats 4000000 in
theorem l_wordOf {G : wG} {d : Nat} {h : hH} {Q : Option Value → hH → Prop} {i : Nat} {r : String × Nat × String × Nat × List Int32} (hr : wSL[i]? = some r) (kk : Q (some (.long (wdF r.2.2.2.2 r.2.2.2.1))) h) : ∀ (n : Nat) (k : Nat) (x : Int64), k + n = r.2.2.2.1 → x = wdF r.2.2.2.2 k → WP G RX10 cX10_wordOf 4 (some .long) false (d + 6) 0 0 0 0 Q 4 [some (.ref (G.2.2.1 i)), some (.long x), none, some (.int (nI k))] [] h := by
  intro n
  induction n with
  | zero =>
    intro k x hi e
    have hlen := wSL_len i r hr
    refine w_iload_n dX10_wordOf_4 rfl ?_
    refine w_aload_n dX10_wordOf_5 rfl ?_
    refine w_callVS (d' := d + 5) (mc' := 0) (ms' := 0) (As := []) (st := [.int (nI k)]) lX10_142 vJ0_length_8abf5 rfl hr rfl (Nat.le_of_ble_eq_true rfl) dX10_wordOf_6 (Nat.le_of_ble_eq_true rfl) (Nat.le_of_ble_eq_true rfl) (Nat.le_refl _) (c_length hr ?_)
    refine w_icmp_ge_t (tgt := 37) dX10_wordOf_9 rfl ((nI_leI (a := r.2.2.2.1) (b := k) (by omega) (by omega)).mpr (by omega)) ?_
    refine w_lload_n dX10_wordOf_37 rfl ?_
    refine w_lreturn rfl dX10_wordOf_38 (Nat.le_of_ble_eq_true rfl) (Nat.le_of_ble_eq_true rfl) ?_
    have z : k = r.2.2.2.1 := by omega
    rw [← z, ← e] at kk
    exact kk
  | succ n ih =>
    intro k x hi e
    have hlen := wSL_len i r hr
    refine w_iload_n dX10_wordOf_4 rfl ?_
    refine w_aload_n dX10_wordOf_5 rfl ?_
    refine w_callVS (d' := d + 5) (mc' := 0) (ms' := 0) (As := []) (st := [.int (nI k)]) lX10_142 vJ0_length_8abf5 rfl hr rfl (Nat.le_of_ble_eq_true rfl) dX10_wordOf_6 (Nat.le_of_ble_eq_true rfl) (Nat.le_of_ble_eq_true rfl) (Nat.le_refl _) (c_length hr ?_)
    refine w_icmp_ge_f (tgt := 37) dX10_wordOf_9 rfl (fun z => absurd ((nI_leI (a := r.2.2.2.1) (b := k) (by omega) (by omega)).mp z) (by omega)) ?_
    refine w_lload_n dX10_wordOf_12 rfl ?_
    refine w_ldc2 nX10_129 dX10_wordOf_13 ?_
    refine w_lmul dX10_wordOf_16 ?_
    refine w_aload_n dX10_wordOf_17 rfl ?_
    refine w_iload_n dX10_wordOf_18 rfl ?_
    refine w_callVS (d' := d + 5) (mc' := 0) (ms' := 0) (As := [.int (nI k)]) (st := [.long (x * 32)]) lX10_148 vJ0_charAt_5068e rfl hr rfl (Nat.le_of_ble_eq_true rfl) dX10_wordOf_19 (Nat.le_of_ble_eq_true rfl) (Nat.le_of_ble_eq_true rfl) (Nat.le_refl _) (c_charAt hr (by omega) (by omega) ?_)
    refine w_i2l dX10_wordOf_22 ?_
    refine w_ladd dX10_wordOf_23 ?_
    refine w_ldc2 nX10_131 dX10_wordOf_24 ?_
    refine w_lsub dX10_wordOf_27 ?_
    refine w_lconst (v := 1) dX10_wordOf_28 (by decide) ?_
    refine w_ladd dX10_wordOf_29 ?_
    refine w_lstore_n (ls2 := [some (.ref (G.2.2.1 i)), some (.long ((((x * 32) + ((r.2.2.2.2.getD k 0 &&& 255).toInt64)) - 97) + 1)), none, some (.int (nI k))]) dX10_wordOf_30 (by decide) rfl rfl ?_
    refine w_iinc (v := nI (k + 1)) (ls2 := [some (.ref (G.2.2.1 i)), some (.long ((((x * 32) + ((r.2.2.2.2.getD k 0 &&& 255).toInt64)) - 97) + 1)), none, some (.int (nI (k + 1)))]) dX10_wordOf_31 rfl (nI_1 _) (by decide) rfl rfl ?_
    refine w_goto (tgt := 4) dX10_wordOf_34 rfl ?_
    exact ih (k + 1) _ (by omega) (by rw [e, wdF, wdF, fld, Nat.zero_add])
set_option maxRecDepth 100000 in
set_option maxHeartbeats 4000000 in
theorem m_wordOf {G : wG} {d : Nat} {h : hH} {Q : Option Value → hH → Prop} {i : Nat} {r : String × Nat × String × Nat × List Int32}  (hr : wSL[i]? = some r)  (kk : Q (some (.long (wdF r.2.2.2.2 r.2.2.2.1))) h) : Cl G yX10_wordOf (d + 6) 0 0 [.ref (G.2.2.1 i)] h Q := by
  refine Cl.of (ini := false) kX10_wordOf (plainFor_of_name (by decide)) (by decide) (Nat.le_of_ble_eq_true rfl) rfl rfl (fun z => by cases z) ?_
  refine w_lconst (v := 0) dX10_wordOf_0 (by decide) ?_
  refine w_lstore_n (ls2 := [some (.ref (G.2.2.1 i)), some (.long 0), none, none]) dX10_wordOf_1 (by decide) rfl rfl ?_
  refine w_iconst (v := (nI 0)) dX10_wordOf_2 (by decide) ?_
  refine w_istore_n (ls2 := [some (.ref (G.2.2.1 i)), some (.long 0), none, some (.int (nI 0))]) dX10_wordOf_3 (by decide) rfl rfl ?_
  exact l_wordOf hr kk r.2.2.2.1 0 _ (by omega) rfl
set_option maxRecDepth 100000 in
set_option maxHeartbeats 4000000 in
theorem m_isWord_l {G : wG} {d : Nat} {h : hH} {Q : Option Value → hH → Prop} {i : Nat} {r : String × Nat × String × Nat × List Int32} {m : Nat} {th tr wa tp sp fa fl tk ta sg nu : Int32} {wd : Int64} {lo wv rl rw ht sd ah cl : Int32} {E : Nat} {x : rD} (hr : wSL[i]? = some r) (hw : hHas h [m] [(oC 10 (mF m th tr wa tp (nI E) sp fa fl tk ta sg nu wd lo wv rl rw ht sd ah cl))]) (hp : pR (.inl x) E sp fa fl tk ta sg nu wd) (k : Q (some (.int (isS (.inl x) r.2.2.2.2 r.2.2.2.1))) h) : Cl G yX10_isWord (d + 7) 0 0 [.ref m, .ref (G.2.2.1 i)] h Q := by
  have hk1 := tkR_w hp.2.2.2
  have hr9 := wSL_nm r (List.mem_of_getElem? hr)
  refine Cl.of (ini := false) kX10_isWord (plainFor_of_name (by decide)) (by decide) (Nat.le_of_ble_eq_true rfl) rfl rfl (fun z => by cases z) ?_
  refine w_aload_n dX10_isWord_0 rfl ?_
  refine w_get (v := .int fa) fX10_99 (hw 0 _ _ rfl rfl) rfl dX10_isWord_1 ?_
  refine w_if_ne_f (tgt := 31) dX10_isWord_4 rfl hp.1 ?_
  refine w_aload_n dX10_isWord_7 rfl ?_
  refine w_get (v := .int tk) fX10_118 (hw 0 _ _ rfl rfl) rfl dX10_isWord_8 ?_
  refine w_iconst (v := 2) dX10_isWord_11 (by decide) ?_
  refine w_icmp_ne (tgt := 31) dX10_isWord_12 rfl (fun b12 => ?_) (fun b12 => ?_)
  · refine w_iconst (v := 0) dX10_isWord_31 (by decide) ?_
    refine w_zreturn rfl dX10_isWord_32 rfl (Nat.le_of_ble_eq_true rfl) (Nat.le_of_ble_eq_true rfl) ?_
    have e : isS (.inl x) r.2.2.2.2 r.2.2.2.1 = 0 := by
      rw [isS, isW, if_neg (fun z => b12 (hk1.1.mpr z.1))]
    rw [e] at k
    exact k
  · refine w_aload_n dX10_isWord_15 rfl ?_
    refine w_get (v := .long wd) fX10_125 (hw 0 _ _ rfl rfl) rfl dX10_isWord_16 ?_
    refine w_aload_n dX10_isWord_19 rfl ?_
    refine w_callS (d' := d + 6) (mc' := 0) (ms' := 0) (As := [.ref (G.2.2.1 i)]) (st := [.long wd]) lX10_152 vX10_wordOf rfl (Nat.le_of_ble_eq_true rfl) dX10_isWord_20 (Nat.le_of_ble_eq_true rfl) (Nat.le_of_ble_eq_true rfl) (Nat.le_refl _) (m_wordOf hr ?_)
    refine w_lcmp dX10_isWord_23 ?_
    refine w_if_ne (tgt := 31) dX10_isWord_24 rfl (fun b24 => ?_) (fun b24 => ?_)
    · refine w_iconst (v := 0) dX10_isWord_31 (by decide) ?_
      refine w_zreturn rfl dX10_isWord_32 rfl (Nat.le_of_ble_eq_true rfl) (Nat.le_of_ble_eq_true rfl) ?_
      have e : isS (.inl x) r.2.2.2.2 r.2.2.2.1 = 0 := by
        rw [isS, isW, if_neg (fun z => b24 ((lg_cmp_eq _ _).mpr ((hk1.2.1 z.1).2.trans (by rw [z.2]; exact hr9.1))))]
      rw [e] at k
      exact k
    · refine w_iconst (v := 1) dX10_isWord_27 (by decide) ?_
      refine w_goto (tgt := 32) dX10_isWord_28 rfl ?_
      refine w_zreturn rfl dX10_isWord_32 rfl (Nat.le_of_ble_eq_true rfl) (Nat.le_of_ble_eq_true rfl) ?_
      have e : isS (.inl x) r.2.2.2.2 r.2.2.2.1 = 1 := by
        rw [isS, isW, if_pos ⟨hk1.1.mp b12, nmX_inj (hk1.2.1 (hk1.1.mp b12)).1 ⟨_, hr9.2.1, hr9.2.2.1, hr9.2.2.2.1, nmB_G _ _ hr9.2.2.2.2⟩ ((hk1.2.1 (hk1.1.mp b12)).2.symm.trans (((lg_cmp_eq _ _).mp b24).trans hr9.1.symm))⟩]
      rw [e] at k
      exact k
set_option maxRecDepth 100000 in
set_option maxHeartbeats 4000000 in
theorem m_isWord_r {G : wG} {d : Nat} {h : hH} {Q : Option Value → hH → Prop} {i : Nat} {r : String × Nat × String × Nat × List Int32} {m : Nat} {th tr wa tp sp fa fl tk ta sg nu : Int32} {wd : Int64} {lo wv rl rw ht sd ah cl : Int32} {E : Nat} {b : Int32 × Int32} (hr : wSL[i]? = some r) (hw : hHas h [m] [(oC 10 (mF m th tr wa tp (nI E) sp fa fl tk ta sg nu wd lo wv rl rw ht sd ah cl))]) (hp : pR (.inr b) E sp fa fl tk ta sg nu wd) (k : Q (some (.int (isS (.inr b) r.2.2.2.2 r.2.2.2.1))) h) : Cl G yX10_isWord (d + 7) 0 0 [.ref m, .ref (G.2.2.1 i)] h Q := by
  refine Cl.of (ini := false) kX10_isWord (plainFor_of_name (by decide)) (by decide) (Nat.le_of_ble_eq_true rfl) rfl rfl (fun z => by cases z) ?_
  refine w_aload_n dX10_isWord_0 rfl ?_
  refine w_get (v := .int fa) fX10_99 (hw 0 _ _ rfl rfl) rfl dX10_isWord_1 ?_
  refine w_if_ne_t (tgt := 31) dX10_isWord_4 rfl (fun z => absurd hp.2.1 (by rw [← hp.1, z]; decide)) ?_
  refine w_iconst (v := 0) dX10_isWord_31 (by decide) ?_
  refine w_zreturn rfl dX10_isWord_32 rfl (Nat.le_of_ble_eq_true rfl) (Nat.le_of_ble_eq_true rfl) ?_
  exact k
theorem m_isWord {G : wG} {d : Nat} {h : hH} {Q : Option Value → hH → Prop} {i : Nat} {r : String × Nat × String × Nat × List Int32} {m : Nat} {th tr wa tp sp fa fl tk ta sg nu : Int32} {wd : Int64} {lo wv rl rw ht sd ah cl : Int32} {E : Nat} {s : pS} (hr : wSL[i]? = some r) (hw : hHas h [m] [(oC 10 (mF m th tr wa tp (nI E) sp fa fl tk ta sg nu wd lo wv rl rw ht sd ah cl))]) (hp : pR s E sp fa fl tk ta sg nu wd) (k : Q (some (.int (isS s r.2.2.2.2 r.2.2.2.1))) h) : Cl G yX10_isWord (d + 7) 0 0 [.ref m, .ref (G.2.2.1 i)] h Q := by
  cases s with
  | inl x => exact m_isWord_l hr hw hp k
  | inr b => exact m_isWord_r hr hw hp k
set_option maxRecDepth 100000 in
set_option maxHeartbeats 4000000 in
theorem m_isSign_l {G : wG} {d : Nat} {h : hH} {Q : Option Value → hH → Prop} {m : Nat} {th tr wa tp sp fa fl tk ta sg nu : Int32} {wd : Int64} {lo wv rl rw ht sd ah cl : Int32} {E : Nat} {x : rD} {c : Int32} (hw : hHas h [m] [(oC 10 (mF m th tr wa tp (nI E) sp fa fl tk ta sg nu wd lo wv rl rw ht sd ah cl))]) (hp : pR (.inl x) E sp fa fl tk ta sg nu wd) (k : Q (some (.int (siS (.inl x) c))) h) : Cl G yX10_isSign d 0 0 [.ref m, .int c] h Q := by
  refine Cl.of (ini := false) kX10_isSign (plainFor_of_name (by decide)) (by decide) (Nat.le_of_ble_eq_true rfl) rfl rfl (fun z => by cases z) ?_
  have hk1 := tkR_w hp.2.2.2
  refine w_aload_n dX10_isSign_0 rfl ?_
  refine w_get (v := .int fa) fX10_99 (hw 0 _ _ rfl rfl) rfl dX10_isSign_1 ?_
  refine w_if_ne_f (tgt := 27) dX10_isSign_4 rfl hp.1 ?_
  refine w_aload_n dX10_isSign_7 rfl ?_
  refine w_get (v := .int tk) fX10_118 (hw 0 _ _ rfl rfl) rfl dX10_isSign_8 ?_
  refine w_iconst (v := 4) dX10_isSign_11 (by decide) ?_
  refine w_icmp_ne (tgt := 27) dX10_isSign_12 rfl (fun b12 => ?_) (fun b12 => ?_)
  · refine w_iconst (v := 0) dX10_isSign_27 (by decide) ?_
    refine w_zreturn rfl dX10_isSign_28 rfl (Nat.le_of_ble_eq_true rfl) (Nat.le_of_ble_eq_true rfl) ?_
    have e : siS (.inl x) c = 0 := by
      rw [siS, isM, if_neg (fun z => b12 (hk1.2.2.2.2.1.mpr z.1))]
    rw [e] at k
    exact k
  · refine w_aload_n dX10_isSign_15 rfl ?_
    refine w_get (v := .int sg) fX10_139 (hw 0 _ _ rfl rfl) rfl dX10_isSign_16 ?_
    refine w_iload_n dX10_isSign_19 rfl ?_
    refine w_icmp_ne (tgt := 27) dX10_isSign_20 rfl (fun b20 => ?_) (fun b20 => ?_)
    · refine w_iconst (v := 0) dX10_isSign_27 (by decide) ?_
      refine w_zreturn rfl dX10_isSign_28 rfl (Nat.le_of_ble_eq_true rfl) (Nat.le_of_ble_eq_true rfl) ?_
      have e : siS (.inl x) c = 0 := by
        rw [siS, isM, if_neg (fun z => b20 ((hk1.2.2.2.2.2.1 z.1).trans z.2))]
      rw [e] at k
      exact k
    · refine w_iconst (v := 1) dX10_isSign_23 (by decide) ?_
      refine w_goto (tgt := 28) dX10_isSign_24 rfl ?_
      refine w_zreturn rfl dX10_isSign_28 rfl (Nat.le_of_ble_eq_true rfl) (Nat.le_of_ble_eq_true rfl) ?_
      have e : siS (.inl x) c = 1 := by
        rw [siS, isM, if_pos ⟨hk1.2.2.2.2.1.mp b12, (hk1.2.2.2.2.2.1 (hk1.2.2.2.2.1.mp b12)).symm.trans b20⟩]
      rw [e] at k
      exact k
set_option maxRecDepth 100000 in
set_option maxHeartbeats 4000000 in
theorem m_isSign_r {G : wG} {d : Nat} {h : hH} {Q : Option Value → hH → Prop} {m : Nat} {th tr wa tp sp fa fl tk ta sg nu : Int32} {wd : Int64} {lo wv rl rw ht sd ah cl : Int32} {E : Nat} {b : Int32 × Int32} {c : Int32} (hw : hHas h [m] [(oC 10 (mF m th tr wa tp (nI E) sp fa fl tk ta sg nu wd lo wv rl rw ht sd ah cl))]) (hp : pR (.inr b) E sp fa fl tk ta sg nu wd) (k : Q (some (.int (siS (.inr b) c))) h) : Cl G yX10_isSign d 0 0 [.ref m, .int c] h Q := by
  refine Cl.of (ini := false) kX10_isSign (plainFor_of_name (by decide)) (by decide) (Nat.le_of_ble_eq_true rfl) rfl rfl (fun z => by cases z) ?_
  refine w_aload_n dX10_isSign_0 rfl ?_
  refine w_get (v := .int fa) fX10_99 (hw 0 _ _ rfl rfl) rfl dX10_isSign_1 ?_
  refine w_if_ne_t (tgt := 27) dX10_isSign_4 rfl (fun z => absurd hp.2.1 (by rw [← hp.1, z]; decide)) ?_
  refine w_iconst (v := 0) dX10_isSign_27 (by decide) ?_
  refine w_zreturn rfl dX10_isSign_28 rfl (Nat.le_of_ble_eq_true rfl) (Nat.le_of_ble_eq_true rfl) ?_
  exact k
theorem m_isSign {G : wG} {d : Nat} {h : hH} {Q : Option Value → hH → Prop} {m : Nat} {th tr wa tp sp fa fl tk ta sg nu : Int32} {wd : Int64} {lo wv rl rw ht sd ah cl : Int32} {E : Nat} {s : pS} {c : Int32} (hw : hHas h [m] [(oC 10 (mF m th tr wa tp (nI E) sp fa fl tk ta sg nu wd lo wv rl rw ht sd ah cl))]) (hp : pR s E sp fa fl tk ta sg nu wd) (k : Q (some (.int (siS s c))) h) : Cl G yX10_isSign d 0 0 [.ref m, .int c] h Q := by
  cases s with
  | inl x => exact m_isSign_l hw hp k
  | inr b => exact m_isSign_r hw hp k
