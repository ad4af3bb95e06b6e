set_option maxHeartbeats 4000000 in
set_option maxRecDepth 100000 in
theorem kX1_byFunction (l : Launch) (D : va_G) (q : Nat → Nat) (cA : Nat → ClassId) (sz : Nat) (σ : SM) (a1 : Int32) (hI : IM σ) : oMet l D vwCl (wM q cA) (tM cA) (q 0) sz yX1_byFunction wsX1_byFunction { frames := 2, cells := 0, slots := 0, locals := 45 } σ [.int a1] (FM_byFunction σ a1) := by
  refine o_met (cc := cX1_byFunction) (maxL := 6) (ret := some .int) (by decide) rfl (Nat.le_of_ble_eq_true rfl) ?_
  intro p e s m args below meth c A ls hx hb hr hml hts hown hlk hP hK hD hA hS hl
  have hl : lv_has ls 6 [(0, .ref (q 0)), (1, .int a1)] := hl
  have hin : ∀ w ∈ wsX10, w ∈ wsX1_byFunction := fun w h => mc (inX1 w h)
  generalize hF : FM_byFunction σ a1 = res
  refine lv_iload_n hx hb dX1_byFunction_0 rfl (lv_at hl 1 rfl) ?_
  refine lv_bipush (v := 63) hx hb dX1_byFunction_1 (by decide) ?_
  refine lv_iand hx hb dX1_byFunction_3 ?_
  refine lv_istore_n (lv' := [(2, .int (a1 &&& (63 : Int32))), (0, .ref (q 0)), (1, .int a1)]) hx hb dX1_byFunction_4 rfl hl (by decide) rfl (fun ls hl => ?_)
  refine lv_aload_n hx hb dX1_byFunction_5 rfl (lv_at hl 1 rfl) ?_
  refine getX1_mrg hx hb hts hin hown hK hP (hts _ (mc wd_303)) dX1_byFunction_6 ?_
  refine lv_iload_n hx hb dX1_byFunction_9 rfl (lv_at hl 2 rfl) ?_
  refine s_call (As := [.int a1]) (rest := [.ref (q 6)]) ⟨hx, hb, hml, hown, hts⟩ (kX1_first l a1) (cwS 1 hts (gS wd_395 wd_396 wd_39 wd_397) rfl rfl rfl (by decide +kernel) ⟨Nat.le_of_ble_eq_true rfl, Nat.le_of_ble_eq_true rfl⟩) hP hS rfl hl.1 rfl (Nat.le_of_ble_eq_true rfl) dX1_byFunction_10 (fun H locs hP hS => ?_)
  refine aldX1_mrg (f := (gmrg σ)) hx hb hK hP (im_first _) dX1_byFunction_13 rfl ?_
  refine lv_istore_n (lv' := [(3, .int ((gmrg σ) (Int32.toNatClampNeg (FM_first a1)))), (2, .int (a1 &&& (63 : Int32))), (0, .ref (q 0)), (1, .int a1)]) hx hb dX1_byFunction_14 rfl hl (by decide) rfl (fun ls hl => ?_)
  refine lv_aload_n hx hb dX1_byFunction_15 rfl (lv_at hl 2 rfl) ?_
  refine getX1_mrg hx hb hts hin hown hK hP (hts _ (mc wd_303)) dX1_byFunction_16 ?_
  refine lv_iload_n hx hb dX1_byFunction_19 rfl (lv_at hl 3 rfl) ?_
  refine s_call (As := [.int a1]) (rest := [.ref (q 6)]) ⟨hx, hb, hml, hown, hts⟩ (kX1_second l a1) (cwS 1 hts (gS wd_381 wd_382 wd_39 wd_383) rfl rfl rfl (by decide +kernel) ⟨Nat.le_of_ble_eq_true rfl, Nat.le_of_ble_eq_true rfl⟩) hP hS rfl hl.1 rfl (Nat.le_of_ble_eq_true rfl) dX1_byFunction_20 (fun H locs hP hS => ?_)
  refine aldX1_mrg (f := (gmrg σ)) hx hb hK hP (im_second _) dX1_byFunction_23 rfl ?_
  refine lv_istore (lv' := [(4, .int ((gmrg σ) (Int32.toNatClampNeg (FM_second a1)))), (3, .int ((gmrg σ) (Int32.toNatClampNeg (FM_first a1)))), (2, .int (a1 &&& (63 : Int32))), (0, .ref (q 0)), (1, .int a1)]) hx hb dX1_byFunction_24 hl (by decide) rfl (fun ls hl => ?_)
  refine lv_iload_n hx hb dX1_byFunction_26 rfl (lv_at hl 4 rfl) ?_
  refine s_call (As := [.int a1]) (rest := []) ⟨hx, hb, hml, hown, hts⟩ (kX1_third l a1) (cwS 1 hts (gS wd_402 wd_403 wd_39 wd_404) rfl rfl rfl (by decide +kernel) ⟨Nat.le_of_ble_eq_true rfl, Nat.le_of_ble_eq_true rfl⟩) hP hS rfl hl.1 rfl (Nat.le_of_ble_eq_true rfl) dX1_byFunction_27 (fun H locs hP hS => ?_)
  refine lv_istore (lv' := [(5, .int (FM_third a1)), (4, .int ((gmrg σ) (Int32.toNatClampNeg (FM_second a1)))), (3, .int ((gmrg σ) (Int32.toNatClampNeg (FM_first a1)))), (2, .int (a1 &&& (63 : Int32))), (0, .ref (q 0)), (1, .int a1)]) hx hb dX1_byFunction_30 hl (by decide) rfl (fun ls hl => ?_)
  refine lv_iload_n hx hb dX1_byFunction_32 rfl (lv_at hl 3 rfl) ?_
  by_cases c_1 : (a1 &&& (63 : Int32)) = (0 : Int32)
  · skip
    refine lv_tableIn (tgt := 224) hx hb dX1_byFunction_33 (by rw [c_1]; decide) (by rw [c_1]; decide) (by rw [c_1]; rfl) (by decide) ?_
    refine lv_aload_n hx hb dX1_byFunction_224 rfl (lv_at hl 4 rfl) ?_
    refine lv_iload hx hb dX1_byFunction_225 (lv_at hl 0 rfl) ?_
    refine lv_aload_n hx hb dX1_byFunction_227 rfl (lv_at hl 4 rfl) ?_
    refine lv_iload_n hx hb dX1_byFunction_228 rfl (lv_at hl 3 rfl) ?_
    refine lv_iload hx hb dX1_byFunction_229 (lv_at hl 1 rfl) ?_
    refine lv_iload_n hx hb dX1_byFunction_231 rfl (lv_at hl 5 rfl) ?_
    refine lv_bipush (v := 6) hx hb dX1_byFunction_232 (by decide) ?_
    refine lv_iushr (v := (jushr a1 (6 : Int32))) hx hb dX1_byFunction_234 rfl ?_
    refine lv_bipush (v := 31) hx hb dX1_byFunction_235 (by decide) ?_
    refine lv_iand hx hb dX1_byFunction_237 ?_
    refine o_callR (As := [.int (a1 &&& (63 : Int32)), .int ((gmrg σ) (Int32.toNatClampNeg (FM_second a1))), .int ((jushr a1 (6 : Int32)) &&& (31 : Int32))]) (rest := [.int (FM_third a1), .ref (q 0)]) ⟨hx, hb, hml, hown, hts⟩ (kX1_shiftOf l D q cA _ σ (a1 &&& (63 : Int32)) ((gmrg σ) (Int32.toNatClampNeg (FM_second a1))) ((jushr a1 (6 : Int32)) &&& (31 : Int32))) (cwV 3 hts (gV wd_424 wd_426 wd_29 wd_39 wd_427) rfl rfl rfl (by decide +kernel) ⟨Nat.le_of_ble_eq_true rfl, Nat.le_of_ble_eq_true rfl⟩) hK hP hD hS hA (va_recv hK hP (ci := 1) (q0 := 0) rfl rfl) rfl hl.1 rfl (Nat.le_of_ble_eq_true rfl) dX1_byFunction_238 (fun H locs hP hD hS => ?_)
    obtain ⟨r_2, hr_2⟩ : ∃ z, (FM_put σ (FM_third a1) (FM_shiftOf σ (a1 &&& (63 : Int32)) ((gmrg σ) (Int32.toNatClampNeg (FM_second a1))) ((jushr a1 (6 : Int32)) &&& (31 : Int32)))) = z := ⟨_, rfl⟩
    refine o_callV (As := [.int (FM_third a1), .int (FM_shiftOf σ (a1 &&& (63 : Int32)) ((gmrg σ) (Int32.toNatClampNeg (FM_second a1))) ((jushr a1 (6 : Int32)) &&& (31 : Int32)))]) (rest := []) (res := r_2) ⟨hx, hb, hml, hown, hts⟩ (by rw [← hr_2]; exact (kX1_put l D q cA _ σ (FM_third a1) (FM_shiftOf σ (a1 &&& (63 : Int32)) ((gmrg σ) (Int32.toNatClampNeg (FM_second a1))) ((jushr a1 (6 : Int32)) &&& (31 : Int32))) (im_third _))) (cwV 2 hts (gV wd_411 wd_413 wd_26 wd_39 wd_414) rfl rfl rfl (by decide +kernel) ⟨Nat.le_of_ble_eq_true rfl, Nat.le_of_ble_eq_true rfl⟩) hK hP hD hS hA (va_recv hK hP (ci := 1) (q0 := 0) rfl rfl) rfl hl.1 rfl (Nat.le_of_ble_eq_true rfl) dX1_byFunction_241 (fun H locs hP hD hS => ?_)
    refine lv_iconst (v := 0) hx hb dX1_byFunction_244 (by decide) ?_
    exact o_ret hx hb hr hlk hK hP hD hS (by subst hr_2; rw [← hF, FM_byFunction, if_pos c_1]) dX1_byFunction_245
  · skip
    by_cases c_3 : (a1 &&& (63 : Int32)) = (1 : Int32)
    · skip
      refine lv_tableIn (tgt := 521) hx hb dX1_byFunction_33 (by rw [c_3]; decide) (by rw [c_3]; decide) (by rw [c_3]; rfl) (by decide) ?_
      refine lv_iconst (v := 1) hx hb dX1_byFunction_521 (by decide) ?_
      exact o_ret hx hb hr hlk hK hP hD hS (by rw [← hF, FM_byFunction, if_neg c_1, if_pos c_3]) dX1_byFunction_522
    · skip
      by_cases c_4 : (a1 &&& (63 : Int32)) = (2 : Int32)
      · skip
        refine lv_tableIn (tgt := 224) hx hb dX1_byFunction_33 (by rw [c_4]; decide) (by rw [c_4]; decide) (by rw [c_4]; rfl) (by decide) ?_
        refine lv_aload_n hx hb dX1_byFunction_224 rfl (lv_at hl 4 rfl) ?_
        refine lv_iload hx hb dX1_byFunction_225 (lv_at hl 0 rfl) ?_
        refine lv_aload_n hx hb dX1_byFunction_227 rfl (lv_at hl 4 rfl) ?_
        refine lv_iload_n hx hb dX1_byFunction_228 rfl (lv_at hl 3 rfl) ?_
        refine lv_iload hx hb dX1_byFunction_229 (lv_at hl 1 rfl) ?_
        refine lv_iload_n hx hb dX1_byFunction_231 rfl (lv_at hl 5 rfl) ?_
        refine lv_bipush (v := 6) hx hb dX1_byFunction_232 (by decide) ?_
        refine lv_iushr (v := (jushr a1 (6 : Int32))) hx hb dX1_byFunction_234 rfl ?_
        refine lv_bipush (v := 31) hx hb dX1_byFunction_235 (by decide) ?_
        refine lv_iand hx hb dX1_byFunction_237 ?_
        refine o_callR (As := [.int (a1 &&& (63 : Int32)), .int ((gmrg σ) (Int32.toNatClampNeg (FM_second a1))), .int ((jushr a1 (6 : Int32)) &&& (31 : Int32))]) (rest := [.int (FM_third a1), .ref (q 0)]) ⟨hx, hb, hml, hown, hts⟩ (kX1_shiftOf l D q cA _ σ (a1 &&& (63 : Int32)) ((gmrg σ) (Int32.toNatClampNeg (FM_second a1))) ((jushr a1 (6 : Int32)) &&& (31 : Int32))) (cwV 3 hts (gV wd_424 wd_426 wd_29 wd_39 wd_427) rfl rfl rfl (by decide +kernel) ⟨Nat.le_of_ble_eq_true rfl, Nat.le_of_ble_eq_true rfl⟩) hK hP hD hS hA (va_recv hK hP (ci := 1) (q0 := 0) rfl rfl) rfl hl.1 rfl (Nat.le_of_ble_eq_true rfl) dX1_byFunction_238 (fun H locs hP hD hS => ?_)
        obtain ⟨r_5, hr_5⟩ : ∃ z, (FM_put σ (FM_third a1) (FM_shiftOf σ (a1 &&& (63 : Int32)) ((gmrg σ) (Int32.toNatClampNeg (FM_second a1))) ((jushr a1 (6 : Int32)) &&& (31 : Int32)))) = z := ⟨_, rfl⟩
        refine o_callV (As := [.int (FM_third a1), .int (FM_shiftOf σ (a1 &&& (63 : Int32)) ((gmrg σ) (Int32.toNatClampNeg (FM_second a1))) ((jushr a1 (6 : Int32)) &&& (31 : Int32)))]) (rest := []) (res := r_5) ⟨hx, hb, hml, hown, hts⟩ (by rw [← hr_5]; exact (kX1_put l D q cA _ σ (FM_third a1) (FM_shiftOf σ (a1 &&& (63 : Int32)) ((gmrg σ) (Int32.toNatClampNeg (FM_second a1))) ((jushr a1 (6 : Int32)) &&& (31 : Int32))) (im_third _))) (cwV 2 hts (gV wd_411 wd_413 wd_26 wd_39 wd_414) rfl rfl rfl (by decide +kernel) ⟨Nat.le_of_ble_eq_true rfl, Nat.le_of_ble_eq_true rfl⟩) hK hP hD hS hA (va_recv hK hP (ci := 1) (q0 := 0) rfl rfl) rfl hl.1 rfl (Nat.le_of_ble_eq_true rfl) dX1_byFunction_241 (fun H locs hP hD hS => ?_)
        refine lv_iconst (v := 0) hx hb dX1_byFunction_244 (by decide) ?_
        exact o_ret hx hb hr hlk hK hP hD hS (by subst hr_5; rw [← hF, FM_byFunction, if_neg c_1, if_neg c_3, if_pos c_4]) dX1_byFunction_245
      · skip
        by_cases c_6 : (a1 &&& (63 : Int32)) = (3 : Int32)
        · skip
          refine lv_tableIn (tgt := 224) hx hb dX1_byFunction_33 (by rw [c_6]; decide) (by rw [c_6]; decide) (by rw [c_6]; rfl) (by decide) ?_
          refine lv_aload_n hx hb dX1_byFunction_224 rfl (lv_at hl 4 rfl) ?_
          refine lv_iload hx hb dX1_byFunction_225 (lv_at hl 0 rfl) ?_
          refine lv_aload_n hx hb dX1_byFunction_227 rfl (lv_at hl 4 rfl) ?_
          refine lv_iload_n hx hb dX1_byFunction_228 rfl (lv_at hl 3 rfl) ?_
          refine lv_iload hx hb dX1_byFunction_229 (lv_at hl 1 rfl) ?_
          refine lv_iload_n hx hb dX1_byFunction_231 rfl (lv_at hl 5 rfl) ?_
          refine lv_bipush (v := 6) hx hb dX1_byFunction_232 (by decide) ?_
          refine lv_iushr (v := (jushr a1 (6 : Int32))) hx hb dX1_byFunction_234 rfl ?_
          refine lv_bipush (v := 31) hx hb dX1_byFunction_235 (by decide) ?_
          refine lv_iand hx hb dX1_byFunction_237 ?_
          refine o_callR (As := [.int (a1 &&& (63 : Int32)), .int ((gmrg σ) (Int32.toNatClampNeg (FM_second a1))), .int ((jushr a1 (6 : Int32)) &&& (31 : Int32))]) (rest := [.int (FM_third a1), .ref (q 0)]) ⟨hx, hb, hml, hown, hts⟩ (kX1_shiftOf l D q cA _ σ (a1 &&& (63 : Int32)) ((gmrg σ) (Int32.toNatClampNeg (FM_second a1))) ((jushr a1 (6 : Int32)) &&& (31 : Int32))) (cwV 3 hts (gV wd_424 wd_426 wd_29 wd_39 wd_427) rfl rfl rfl (by decide +kernel) ⟨Nat.le_of_ble_eq_true rfl, Nat.le_of_ble_eq_true rfl⟩) hK hP hD hS hA (va_recv hK hP (ci := 1) (q0 := 0) rfl rfl) rfl hl.1 rfl (Nat.le_of_ble_eq_true rfl) dX1_byFunction_238 (fun H locs hP hD hS => ?_)
          obtain ⟨r_7, hr_7⟩ : ∃ z, (FM_put σ (FM_third a1) (FM_shiftOf σ (a1 &&& (63 : Int32)) ((gmrg σ) (Int32.toNatClampNeg (FM_second a1))) ((jushr a1 (6 : Int32)) &&& (31 : Int32)))) = z := ⟨_, rfl⟩
          refine o_callV (As := [.int (FM_third a1), .int (FM_shiftOf σ (a1 &&& (63 : Int32)) ((gmrg σ) (Int32.toNatClampNeg (FM_second a1))) ((jushr a1 (6 : Int32)) &&& (31 : Int32)))]) (rest := []) (res := r_7) ⟨hx, hb, hml, hown, hts⟩ (by rw [← hr_7]; exact (kX1_put l D q cA _ σ (FM_third a1) (FM_shiftOf σ (a1 &&& (63 : Int32)) ((gmrg σ) (Int32.toNatClampNeg (FM_second a1))) ((jushr a1 (6 : Int32)) &&& (31 : Int32))) (im_third _))) (cwV 2 hts (gV wd_411 wd_413 wd_26 wd_39 wd_414) rfl rfl rfl (by decide +kernel) ⟨Nat.le_of_ble_eq_true rfl, Nat.le_of_ble_eq_true rfl⟩) hK hP hD hS hA (va_recv hK hP (ci := 1) (q0 := 0) rfl rfl) rfl hl.1 rfl (Nat.le_of_ble_eq_true rfl) dX1_byFunction_241 (fun H locs hP hD hS => ?_)
          refine lv_iconst (v := 0) hx hb dX1_byFunction_244 (by decide) ?_
          exact o_ret hx hb hr hlk hK hP hD hS (by subst hr_7; rw [← hF, FM_byFunction, if_neg c_1, if_neg c_3, if_neg c_4, if_pos c_6]) dX1_byFunction_245
        · skip
          by_cases c_8 : (a1 &&& (63 : Int32)) = (4 : Int32)
          · skip
            refine lv_tableIn (tgt := 246) hx hb dX1_byFunction_33 (by rw [c_8]; decide) (by rw [c_8]; decide) (by rw [c_8]; rfl) (by decide) ?_
            refine lv_aload_n hx hb dX1_byFunction_246 rfl (lv_at hl 4 rfl) ?_
            refine lv_iload hx hb dX1_byFunction_247 (lv_at hl 0 rfl) ?_
            refine lv_aload_n hx hb dX1_byFunction_249 rfl (lv_at hl 4 rfl) ?_
            refine lv_iload_n hx hb dX1_byFunction_250 rfl (lv_at hl 3 rfl) ?_
            refine lv_iload hx hb dX1_byFunction_251 (lv_at hl 1 rfl) ?_
            refine lv_iload_n hx hb dX1_byFunction_253 rfl (lv_at hl 2 rfl) ?_
            refine lv_bipush (v := 31) hx hb dX1_byFunction_254 (by decide) ?_
            refine lv_iand hx hb dX1_byFunction_256 ?_
            refine o_callR (As := [.int (a1 &&& (63 : Int32)), .int ((gmrg σ) (Int32.toNatClampNeg (FM_second a1))), .int (((gmrg σ) (Int32.toNatClampNeg (FM_first a1))) &&& (31 : Int32))]) (rest := [.int (FM_third a1), .ref (q 0)]) ⟨hx, hb, hml, hown, hts⟩ (kX1_shiftOf l D q cA _ σ (a1 &&& (63 : Int32)) ((gmrg σ) (Int32.toNatClampNeg (FM_second a1))) (((gmrg σ) (Int32.toNatClampNeg (FM_first a1))) &&& (31 : Int32))) (cwV 3 hts (gV wd_424 wd_426 wd_29 wd_39 wd_427) rfl rfl rfl (by decide +kernel) ⟨Nat.le_of_ble_eq_true rfl, Nat.le_of_ble_eq_true rfl⟩) hK hP hD hS hA (va_recv hK hP (ci := 1) (q0 := 0) rfl rfl) rfl hl.1 rfl (Nat.le_of_ble_eq_true rfl) dX1_byFunction_257 (fun H locs hP hD hS => ?_)
            obtain ⟨r_9, hr_9⟩ : ∃ z, (FM_put σ (FM_third a1) (FM_shiftOf σ (a1 &&& (63 : Int32)) ((gmrg σ) (Int32.toNatClampNeg (FM_second a1))) (((gmrg σ) (Int32.toNatClampNeg (FM_first a1))) &&& (31 : Int32)))) = z := ⟨_, rfl⟩
            refine o_callV (As := [.int (FM_third a1), .int (FM_shiftOf σ (a1 &&& (63 : Int32)) ((gmrg σ) (Int32.toNatClampNeg (FM_second a1))) (((gmrg σ) (Int32.toNatClampNeg (FM_first a1))) &&& (31 : Int32)))]) (rest := []) (res := r_9) ⟨hx, hb, hml, hown, hts⟩ (by rw [← hr_9]; exact (kX1_put l D q cA _ σ (FM_third a1) (FM_shiftOf σ (a1 &&& (63 : Int32)) ((gmrg σ) (Int32.toNatClampNeg (FM_second a1))) (((gmrg σ) (Int32.toNatClampNeg (FM_first a1))) &&& (31 : Int32))) (im_third _))) (cwV 2 hts (gV wd_411 wd_413 wd_26 wd_39 wd_414) rfl rfl rfl (by decide +kernel) ⟨Nat.le_of_ble_eq_true rfl, Nat.le_of_ble_eq_true rfl⟩) hK hP hD hS hA (va_recv hK hP (ci := 1) (q0 := 0) rfl rfl) rfl hl.1 rfl (Nat.le_of_ble_eq_true rfl) dX1_byFunction_260 (fun H locs hP hD hS => ?_)
            refine lv_iconst (v := 0) hx hb dX1_byFunction_263 (by decide) ?_
            exact o_ret hx hb hr hlk hK hP hD hS (by subst hr_9; rw [← hF, FM_byFunction, if_neg c_1, if_neg c_3, if_neg c_4, if_neg c_6, if_pos c_8]) dX1_byFunction_264
          · skip
            by_cases c_10 : (a1 &&& (63 : Int32)) = (5 : Int32)
            · skip
              refine lv_tableIn (tgt := 521) hx hb dX1_byFunction_33 (by rw [c_10]; decide) (by rw [c_10]; decide) (by rw [c_10]; rfl) (by decide) ?_
              refine lv_iconst (v := 1) hx hb dX1_byFunction_521 (by decide) ?_
              exact o_ret hx hb hr hlk hK hP hD hS (by rw [← hF, FM_byFunction, if_neg c_1, if_neg c_3, if_neg c_4, if_neg c_6, if_neg c_8, if_pos c_10]) dX1_byFunction_522
            · skip
              by_cases c_11 : (a1 &&& (63 : Int32)) = (6 : Int32)
              · skip
                refine lv_tableIn (tgt := 246) hx hb dX1_byFunction_33 (by rw [c_11]; decide) (by rw [c_11]; decide) (by rw [c_11]; rfl) (by decide) ?_
                refine lv_aload_n hx hb dX1_byFunction_246 rfl (lv_at hl 4 rfl) ?_
                refine lv_iload hx hb dX1_byFunction_247 (lv_at hl 0 rfl) ?_
                refine lv_aload_n hx hb dX1_byFunction_249 rfl (lv_at hl 4 rfl) ?_
                refine lv_iload_n hx hb dX1_byFunction_250 rfl (lv_at hl 3 rfl) ?_
                refine lv_iload hx hb dX1_byFunction_251 (lv_at hl 1 rfl) ?_
                refine lv_iload_n hx hb dX1_byFunction_253 rfl (lv_at hl 2 rfl) ?_
                refine lv_bipush (v := 31) hx hb dX1_byFunction_254 (by decide) ?_
                refine lv_iand hx hb dX1_byFunction_256 ?_
                refine o_callR (As := [.int (a1 &&& (63 : Int32)), .int ((gmrg σ) (Int32.toNatClampNeg (FM_second a1))), .int (((gmrg σ) (Int32.toNatClampNeg (FM_first a1))) &&& (31 : Int32))]) (rest := [.int (FM_third a1), .ref (q 0)]) ⟨hx, hb, hml, hown, hts⟩ (kX1_shiftOf l D q cA _ σ (a1 &&& (63 : Int32)) ((gmrg σ) (Int32.toNatClampNeg (FM_second a1))) (((gmrg σ) (Int32.toNatClampNeg (FM_first a1))) &&& (31 : Int32))) (cwV 3 hts (gV wd_424 wd_426 wd_29 wd_39 wd_427) rfl rfl rfl (by decide +kernel) ⟨Nat.le_of_ble_eq_true rfl, Nat.le_of_ble_eq_true rfl⟩) hK hP hD hS hA (va_recv hK hP (ci := 1) (q0 := 0) rfl rfl) rfl hl.1 rfl (Nat.le_of_ble_eq_true rfl) dX1_byFunction_257 (fun H locs hP hD hS => ?_)
                obtain ⟨r_12, hr_12⟩ : ∃ z, (FM_put σ (FM_third a1) (FM_shiftOf σ (a1 &&& (63 : Int32)) ((gmrg σ) (Int32.toNatClampNeg (FM_second a1))) (((gmrg σ) (Int32.toNatClampNeg (FM_first a1))) &&& (31 : Int32)))) = z := ⟨_, rfl⟩
                refine o_callV (As := [.int (FM_third a1), .int (FM_shiftOf σ (a1 &&& (63 : Int32)) ((gmrg σ) (Int32.toNatClampNeg (FM_second a1))) (((gmrg σ) (Int32.toNatClampNeg (FM_first a1))) &&& (31 : Int32)))]) (rest := []) (res := r_12) ⟨hx, hb, hml, hown, hts⟩ (by rw [← hr_12]; exact (kX1_put l D q cA _ σ (FM_third a1) (FM_shiftOf σ (a1 &&& (63 : Int32)) ((gmrg σ) (Int32.toNatClampNeg (FM_second a1))) (((gmrg σ) (Int32.toNatClampNeg (FM_first a1))) &&& (31 : Int32))) (im_third _))) (cwV 2 hts (gV wd_411 wd_413 wd_26 wd_39 wd_414) rfl rfl rfl (by decide +kernel) ⟨Nat.le_of_ble_eq_true rfl, Nat.le_of_ble_eq_true rfl⟩) hK hP hD hS hA (va_recv hK hP (ci := 1) (q0 := 0) rfl rfl) rfl hl.1 rfl (Nat.le_of_ble_eq_true rfl) dX1_byFunction_260 (fun H locs hP hD hS => ?_)
                refine lv_iconst (v := 0) hx hb dX1_byFunction_263 (by decide) ?_
                exact o_ret hx hb hr hlk hK hP hD hS (by subst hr_12; rw [← hF, FM_byFunction, if_neg c_1, if_neg c_3, if_neg c_4, if_neg c_6, if_neg c_8, if_neg c_10, if_pos c_11]) dX1_byFunction_264
              · skip
                by_cases c_13 : (a1 &&& (63 : Int32)) = (7 : Int32)
                · skip
                  refine lv_tableIn (tgt := 246) hx hb dX1_byFunction_33 (by rw [c_13]; decide) (by rw [c_13]; decide) (by rw [c_13]; rfl) (by decide) ?_
                  refine lv_aload_n hx hb dX1_byFunction_246 rfl (lv_at hl 4 rfl) ?_
                  refine lv_iload hx hb dX1_byFunction_247 (lv_at hl 0 rfl) ?_
                  refine lv_aload_n hx hb dX1_byFunction_249 rfl (lv_at hl 4 rfl) ?_
                  refine lv_iload_n hx hb dX1_byFunction_250 rfl (lv_at hl 3 rfl) ?_
                  refine lv_iload hx hb dX1_byFunction_251 (lv_at hl 1 rfl) ?_
                  refine lv_iload_n hx hb dX1_byFunction_253 rfl (lv_at hl 2 rfl) ?_
                  refine lv_bipush (v := 31) hx hb dX1_byFunction_254 (by decide) ?_
                  refine lv_iand hx hb dX1_byFunction_256 ?_
                  refine o_callR (As := [.int (a1 &&& (63 : Int32)), .int ((gmrg σ) (Int32.toNatClampNeg (FM_second a1))), .int (((gmrg σ) (Int32.toNatClampNeg (FM_first a1))) &&& (31 : Int32))]) (rest := [.int (FM_third a1), .ref (q 0)]) ⟨hx, hb, hml, hown, hts⟩ (kX1_shiftOf l D q cA _ σ (a1 &&& (63 : Int32)) ((gmrg σ) (Int32.toNatClampNeg (FM_second a1))) (((gmrg σ) (Int32.toNatClampNeg (FM_first a1))) &&& (31 : Int32))) (cwV 3 hts (gV wd_424 wd_426 wd_29 wd_39 wd_427) rfl rfl rfl (by decide +kernel) ⟨Nat.le_of_ble_eq_true rfl, Nat.le_of_ble_eq_true rfl⟩) hK hP hD hS hA (va_recv hK hP (ci := 1) (q0 := 0) rfl rfl) rfl hl.1 rfl (Nat.le_of_ble_eq_true rfl) dX1_byFunction_257 (fun H locs hP hD hS => ?_)
                  obtain ⟨r_14, hr_14⟩ : ∃ z, (FM_put σ (FM_third a1) (FM_shiftOf σ (a1 &&& (63 : Int32)) ((gmrg σ) (Int32.toNatClampNeg (FM_second a1))) (((gmrg σ) (Int32.toNatClampNeg (FM_first a1))) &&& (31 : Int32)))) = z := ⟨_, rfl⟩
                  refine o_callV (As := [.int (FM_third a1), .int (FM_shiftOf σ (a1 &&& (63 : Int32)) ((gmrg σ) (Int32.toNatClampNeg (FM_second a1))) (((gmrg σ) (Int32.toNatClampNeg (FM_first a1))) &&& (31 : Int32)))]) (rest := []) (res := r_14) ⟨hx, hb, hml, hown, hts⟩ (by rw [← hr_14]; exact (kX1_put l D q cA _ σ (FM_third a1) (FM_shiftOf σ (a1 &&& (63 : Int32)) ((gmrg σ) (Int32.toNatClampNeg (FM_second a1))) (((gmrg σ) (Int32.toNatClampNeg (FM_first a1))) &&& (31 : Int32))) (im_third _))) (cwV 2 hts (gV wd_411 wd_413 wd_26 wd_39 wd_414) rfl rfl rfl (by decide +kernel) ⟨Nat.le_of_ble_eq_true rfl, Nat.le_of_ble_eq_true rfl⟩) hK hP hD hS hA (va_recv hK hP (ci := 1) (q0 := 0) rfl rfl) rfl hl.1 rfl (Nat.le_of_ble_eq_true rfl) dX1_byFunction_260 (fun H locs hP hD hS => ?_)
                  refine lv_iconst (v := 0) hx hb dX1_byFunction_263 (by decide) ?_
                  exact o_ret hx hb hr hlk hK hP hD hS (by subst hr_14; rw [← hF, FM_byFunction, if_neg c_1, if_neg c_3, if_neg c_4, if_neg c_6, if_neg c_8, if_neg c_10, if_neg c_11, if_pos c_13]) dX1_byFunction_264
                · skip
                  by_cases c_15 : (a1 &&& (63 : Int32)) = (8 : Int32)
                  · skip
                    refine lv_tableIn (tgt := 521) hx hb dX1_byFunction_33 (by rw [c_15]; decide) (by rw [c_15]; decide) (by rw [c_15]; rfl) (by decide) ?_
                    refine lv_iconst (v := 1) hx hb dX1_byFunction_521 (by decide) ?_
                    exact o_ret hx hb hr hlk hK hP hD hS (by rw [← hF, FM_byFunction, if_neg c_1, if_neg c_3, if_neg c_4, if_neg c_6, if_neg c_8, if_neg c_10, if_neg c_11, if_neg c_13, if_pos c_15]) dX1_byFunction_522
                  · skip
                    by_cases c_16 : (a1 &&& (63 : Int32)) = (9 : Int32)
                    · skip
                      refine lv_tableIn (tgt := 521) hx hb dX1_byFunction_33 (by rw [c_16]; decide) (by rw [c_16]; decide) (by rw [c_16]; rfl) (by decide) ?_
                      refine lv_iconst (v := 1) hx hb dX1_byFunction_521 (by decide) ?_
                      exact o_ret hx hb hr hlk hK hP hD hS (by rw [← hF, FM_byFunction, if_neg c_1, if_neg c_3, if_neg c_4, if_neg c_6, if_neg c_8, if_neg c_10, if_neg c_11, if_neg c_13, if_neg c_15, if_pos c_16]) dX1_byFunction_522
                    · skip
                      by_cases c_17 : (a1 &&& (63 : Int32)) = (10 : Int32)
                      · skip
                        refine lv_tableIn (tgt := 521) hx hb dX1_byFunction_33 (by rw [c_17]; decide) (by rw [c_17]; decide) (by rw [c_17]; rfl) (by decide) ?_
                        refine lv_iconst (v := 1) hx hb dX1_byFunction_521 (by decide) ?_
                        exact o_ret hx hb hr hlk hK hP hD hS (by rw [← hF, FM_byFunction, if_neg c_1, if_neg c_3, if_neg c_4, if_neg c_6, if_neg c_8, if_neg c_10, if_neg c_11, if_neg c_13, if_neg c_15, if_neg c_16, if_pos c_17]) dX1_byFunction_522
                      · skip
                        by_cases c_18 : (a1 &&& (63 : Int32)) = (11 : Int32)
                        · skip
                          refine lv_tableIn (tgt := 521) hx hb dX1_byFunction_33 (by rw [c_18]; decide) (by rw [c_18]; decide) (by rw [c_18]; rfl) (by decide) ?_
                          refine lv_iconst (v := 1) hx hb dX1_byFunction_521 (by decide) ?_
                          exact o_ret hx hb hr hlk hK hP hD hS (by rw [← hF, FM_byFunction, if_neg c_1, if_neg c_3, if_neg c_4, if_neg c_6, if_neg c_8, if_neg c_10, if_neg c_11, if_neg c_13, if_neg c_15, if_neg c_16, if_neg c_17, if_pos c_18]) dX1_byFunction_522
                        · skip
                          by_cases c_19 : (a1 &&& (63 : Int32)) = (12 : Int32)
                          · skip
                            refine lv_tableIn (tgt := 265) hx hb dX1_byFunction_33 (by rw [c_19]; decide) (by rw [c_19]; decide) (by rw [c_19]; rfl) (by decide) ?_
                            refine lv_aload_n hx hb dX1_byFunction_265 rfl (lv_at hl 4 rfl) ?_
                            obtain ⟨r_20, hr_20⟩ : ∃ z, (FM_system σ) = z := ⟨_, rfl⟩
                            refine o_call (As := []) (rest := []) (res := r_20) ⟨hx, hb, hml, hown, hts⟩ (by rw [← hr_20]; exact (kX1_system l D q cA _ σ hI)) (cwV 0 hts (gV wd_428 wd_430 wd_30 wd_39 wd_431) rfl rfl rfl (by decide +kernel) ⟨Nat.le_of_ble_eq_true rfl, Nat.le_of_ble_eq_true rfl⟩) hK hP hD hS hA (va_recv hK hP (ci := 1) (q0 := 0) rfl rfl) rfl hl.1 rfl (Nat.le_of_ble_eq_true rfl) dX1_byFunction_266 (fun H locs hP hD hS => ?_)
                            exact o_ret hx hb hr hlk hK hP hD hS (by subst hr_20; rw [← hF, FM_byFunction, if_neg c_1, if_neg c_3, if_neg c_4, if_neg c_6, if_neg c_8, if_neg c_10, if_neg c_11, if_neg c_13, if_neg c_15, if_neg c_16, if_neg c_17, if_neg c_18, if_pos c_19]) dX1_byFunction_269
                          · skip
                            by_cases c_21 : (a1 &&& (63 : Int32)) = (13 : Int32)
                            · skip
                              refine lv_tableIn (tgt := 270) hx hb dX1_byFunction_33 (by rw [c_21]; decide) (by rw [c_21]; decide) (by rw [c_21]; rfl) (by decide) ?_
                              refine lv_iconst (v := 5) hx hb dX1_byFunction_270 (by decide) ?_
                              exact o_ret hx hb hr hlk hK hP hD hS (by rw [← hF, FM_byFunction, if_neg c_1, if_neg c_3, if_neg c_4, if_neg c_6, if_neg c_8, if_neg c_10, if_neg c_11, if_neg c_13, if_neg c_15, if_neg c_16, if_neg c_17, if_neg c_18, if_neg c_19, if_pos c_21]) dX1_byFunction_271
                            · skip
                              by_cases c_22 : (a1 &&& (63 : Int32)) = (14 : Int32)
                              · skip
                                refine lv_tableIn (tgt := 521) hx hb dX1_byFunction_33 (by rw [c_22]; decide) (by rw [c_22]; decide) (by rw [c_22]; rfl) (by decide) ?_
                                refine lv_iconst (v := 1) hx hb dX1_byFunction_521 (by decide) ?_
                                exact o_ret hx hb hr hlk hK hP hD hS (by rw [← hF, FM_byFunction, if_neg c_1, if_neg c_3, if_neg c_4, if_neg c_6, if_neg c_8, if_neg c_10, if_neg c_11, if_neg c_13, if_neg c_15, if_neg c_16, if_neg c_17, if_neg c_18, if_neg c_19, if_neg c_21, if_pos c_22]) dX1_byFunction_522
                              · skip
                                by_cases c_23 : (a1 &&& (63 : Int32)) = (15 : Int32)
                                · skip
                                  refine lv_tableIn (tgt := 521) hx hb dX1_byFunction_33 (by rw [c_23]; decide) (by rw [c_23]; decide) (by rw [c_23]; rfl) (by decide) ?_
                                  refine lv_iconst (v := 1) hx hb dX1_byFunction_521 (by decide) ?_
                                  exact o_ret hx hb hr hlk hK hP hD hS (by rw [← hF, FM_byFunction, if_neg c_1, if_neg c_3, if_neg c_4, if_neg c_6, if_neg c_8, if_neg c_10, if_neg c_11, if_neg c_13, if_neg c_15, if_neg c_16, if_neg c_17, if_neg c_18, if_neg c_19, if_neg c_21, if_neg c_22, if_pos c_23]) dX1_byFunction_522
                                · skip
                                  by_cases c_24 : (a1 &&& (63 : Int32)) = (16 : Int32)
                                  · skip
                                    refine lv_tableIn (tgt := 272) hx hb dX1_byFunction_33 (by rw [c_24]; decide) (by rw [c_24]; decide) (by rw [c_24]; rfl) (by decide) ?_
                                    refine lv_aload_n hx hb dX1_byFunction_272 rfl (lv_at hl 4 rfl) ?_
                                    refine lv_iload hx hb dX1_byFunction_273 (lv_at hl 0 rfl) ?_
                                    refine lv_aload_n hx hb dX1_byFunction_275 rfl (lv_at hl 4 rfl) ?_
                                    refine getX1_mrg hx hb hts hin hown hK hP (hts _ (mc wd_303)) dX1_byFunction_276 ?_
                                    refine lv_bipush (v := 32) hx hb dX1_byFunction_279 (by decide) ?_
                                    refine aldX1_mrg (f := (gmrg σ)) hx hb hK hP (in_c (by decide)) dX1_byFunction_281 rfl ?_
                                    obtain ⟨r_25, hr_25⟩ : ∃ z, (FM_put σ (FM_third a1) ((gmrg σ) (Int32.toNatClampNeg (32 : Int32)))) = z := ⟨_, rfl⟩
                                    refine o_callV (As := [.int (FM_third a1), .int ((gmrg σ) (Int32.toNatClampNeg (32 : Int32)))]) (rest := []) (res := r_25) ⟨hx, hb, hml, hown, hts⟩ (by rw [← hr_25]; exact (kX1_put l D q cA _ σ (FM_third a1) ((gmrg σ) (Int32.toNatClampNeg (32 : Int32))) (im_third _))) (cwV 2 hts (gV wd_411 wd_413 wd_26 wd_39 wd_414) rfl rfl rfl (by decide +kernel) ⟨Nat.le_of_ble_eq_true rfl, Nat.le_of_ble_eq_true rfl⟩) hK hP hD hS hA (va_recv hK hP (ci := 1) (q0 := 0) rfl rfl) rfl hl.1 rfl (Nat.le_of_ble_eq_true rfl) dX1_byFunction_282 (fun H locs hP hD hS => ?_)
                                    refine lv_iconst (v := 0) hx hb dX1_byFunction_285 (by decide) ?_
                                    exact o_ret hx hb hr hlk hK hP hD hS (by subst hr_25; rw [← hF, FM_byFunction, if_neg c_1, if_neg c_3, if_neg c_4, if_neg c_6, if_neg c_8, if_neg c_10, if_neg c_11, if_neg c_13, if_neg c_15, if_neg c_16, if_neg c_17, if_neg c_18, if_neg c_19, if_neg c_21, if_neg c_22, if_neg c_23, if_pos c_24]) dX1_byFunction_286
                                  · skip
                                    by_cases c_26 : (a1 &&& (63 : Int32)) = (17 : Int32)
                                    · skip
                                      refine lv_tableIn (tgt := 287) hx hb dX1_byFunction_33 (by rw [c_26]; decide) (by rw [c_26]; decide) (by rw [c_26]; rfl) (by decide) ?_
                                      refine lv_aload_n hx hb dX1_byFunction_287 rfl (lv_at hl 4 rfl) ?_
                                      refine getX1_mrg hx hb hts hin hown hK hP (hts _ (mc wd_303)) dX1_byFunction_288 ?_
                                      refine lv_bipush (v := 32) hx hb dX1_byFunction_291 (by decide) ?_
                                      refine lv_iload_n hx hb dX1_byFunction_293 rfl (lv_at hl 2 rfl) ?_
                                      refine astX1_mrg (f := (gmrg σ)) hx hb hK hP hD hS (in_c (by decide)) dX1_byFunction_294 rfl (fun H locs hP hD hS => ?_)
                                      refine lv_iconst (v := 0) hx hb dX1_byFunction_295 (by decide) ?_
                                      exact o_ret hx hb hr hlk hK hP hD hS (by rw [← hF, FM_byFunction, if_neg c_1, if_neg c_3, if_neg c_4, if_neg c_6, if_neg c_8, if_neg c_10, if_neg c_11, if_neg c_13, if_neg c_15, if_neg c_16, if_neg c_17, if_neg c_18, if_neg c_19, if_neg c_21, if_neg c_22, if_neg c_23, if_neg c_24, if_pos c_26]) dX1_byFunction_296
                                    · skip
                                      by_cases c_27 : (a1 &&& (63 : Int32)) = (18 : Int32)
                                      · skip
                                        refine lv_tableIn (tgt := 297) hx hb dX1_byFunction_33 (by rw [c_27]; decide) (by rw [c_27]; decide) (by rw [c_27]; rfl) (by decide) ?_
                                        refine lv_aload_n hx hb dX1_byFunction_297 rfl (lv_at hl 4 rfl) ?_
                                        refine lv_iload hx hb dX1_byFunction_298 (lv_at hl 0 rfl) ?_
                                        refine lv_aload_n hx hb dX1_byFunction_300 rfl (lv_at hl 4 rfl) ?_
                                        refine getX1_mrg hx hb hts hin hown hK hP (hts _ (mc wd_303)) dX1_byFunction_301 ?_
                                        refine lv_bipush (v := 33) hx hb dX1_byFunction_304 (by decide) ?_
                                        refine aldX1_mrg (f := (gmrg σ)) hx hb hK hP (in_c (by decide)) dX1_byFunction_306 rfl ?_
                                        obtain ⟨r_28, hr_28⟩ : ∃ z, (FM_put σ (FM_third a1) ((gmrg σ) (Int32.toNatClampNeg (33 : Int32)))) = z := ⟨_, rfl⟩
                                        refine o_callV (As := [.int (FM_third a1), .int ((gmrg σ) (Int32.toNatClampNeg (33 : Int32)))]) (rest := []) (res := r_28) ⟨hx, hb, hml, hown, hts⟩ (by rw [← hr_28]; exact (kX1_put l D q cA _ σ (FM_third a1) ((gmrg σ) (Int32.toNatClampNeg (33 : Int32))) (im_third _))) (cwV 2 hts (gV wd_411 wd_413 wd_26 wd_39 wd_414) rfl rfl rfl (by decide +kernel) ⟨Nat.le_of_ble_eq_true rfl, Nat.le_of_ble_eq_true rfl⟩) hK hP hD hS hA (va_recv hK hP (ci := 1) (q0 := 0) rfl rfl) rfl hl.1 rfl (Nat.le_of_ble_eq_true rfl) dX1_byFunction_307 (fun H locs hP hD hS => ?_)
                                        refine lv_iconst (v := 0) hx hb dX1_byFunction_310 (by decide) ?_
                                        exact o_ret hx hb hr hlk hK hP hD hS (by subst hr_28; rw [← hF, FM_byFunction, if_neg c_1, if_neg c_3, if_neg c_4, if_neg c_6, if_neg c_8, if_neg c_10, if_neg c_11, if_neg c_13, if_neg c_15, if_neg c_16, if_neg c_17, if_neg c_18, if_neg c_19, if_neg c_21, if_neg c_22, if_neg c_23, if_neg c_24, if_neg c_26, if_pos c_27]) dX1_byFunction_311
                                      · skip
                                        by_cases c_29 : (a1 &&& (63 : Int32)) = (19 : Int32)
                                        · skip
                                          refine lv_tableIn (tgt := 312) hx hb dX1_byFunction_33 (by rw [c_29]; decide) (by rw [c_29]; decide) (by rw [c_29]; rfl) (by decide) ?_
                                          refine lv_aload_n hx hb dX1_byFunction_312 rfl (lv_at hl 4 rfl) ?_
                                          refine getX1_mrg hx hb hts hin hown hK hP (hts _ (mc wd_303)) dX1_byFunction_313 ?_
                                          refine lv_bipush (v := 33) hx hb dX1_byFunction_316 (by decide) ?_
                                          refine lv_iload_n hx hb dX1_byFunction_318 rfl (lv_at hl 2 rfl) ?_
                                          refine astX1_mrg (f := (gmrg σ)) hx hb hK hP hD hS (in_c (by decide)) dX1_byFunction_319 rfl (fun H locs hP hD hS => ?_)
                                          refine lv_iconst (v := 0) hx hb dX1_byFunction_320 (by decide) ?_
                                          exact o_ret hx hb hr hlk hK hP hD hS (by rw [← hF, FM_byFunction, if_neg c_1, if_neg c_3, if_neg c_4, if_neg c_6, if_neg c_8, if_neg c_10, if_neg c_11, if_neg c_13, if_neg c_15, if_neg c_16, if_neg c_17, if_neg c_18, if_neg c_19, if_neg c_21, if_neg c_22, if_neg c_23, if_neg c_24, if_neg c_26, if_neg c_27, if_pos c_29]) dX1_byFunction_321
                                        · skip
                                          by_cases c_30 : (a1 &&& (63 : Int32)) = (20 : Int32)
                                          · skip
                                            refine lv_tableIn (tgt := 521) hx hb dX1_byFunction_33 (by rw [c_30]; decide) (by rw [c_30]; decide) (by rw [c_30]; rfl) (by decide) ?_
                                            refine lv_iconst (v := 1) hx hb dX1_byFunction_521 (by decide) ?_
                                            exact o_ret hx hb hr hlk hK hP hD hS (by rw [← hF, FM_byFunction, if_neg c_1, if_neg c_3, if_neg c_4, if_neg c_6, if_neg c_8, if_neg c_10, if_neg c_11, if_neg c_13, if_neg c_15, if_neg c_16, if_neg c_17, if_neg c_18, if_neg c_19, if_neg c_21, if_neg c_22, if_neg c_23, if_neg c_24, if_neg c_26, if_neg c_27, if_neg c_29, if_pos c_30]) dX1_byFunction_522
                                          · skip
                                            by_cases c_31 : (a1 &&& (63 : Int32)) = (21 : Int32)
                                            · skip
                                              refine lv_tableIn (tgt := 521) hx hb dX1_byFunction_33 (by rw [c_31]; decide) (by rw [c_31]; decide) (by rw [c_31]; rfl) (by decide) ?_
                                              refine lv_iconst (v := 1) hx hb dX1_byFunction_521 (by decide) ?_
                                              exact o_ret hx hb hr hlk hK hP hD hS (by rw [← hF, FM_byFunction, if_neg c_1, if_neg c_3, if_neg c_4, if_neg c_6, if_neg c_8, if_neg c_10, if_neg c_11, if_neg c_13, if_neg c_15, if_neg c_16, if_neg c_17, if_neg c_18, if_neg c_19, if_neg c_21, if_neg c_22, if_neg c_23, if_neg c_24, if_neg c_26, if_neg c_27, if_neg c_29, if_neg c_30, if_pos c_31]) dX1_byFunction_522
                                            · skip
                                              by_cases c_32 : (a1 &&& (63 : Int32)) = (22 : Int32)
                                              · skip
                                                refine lv_tableIn (tgt := 521) hx hb dX1_byFunction_33 (by rw [c_32]; decide) (by rw [c_32]; decide) (by rw [c_32]; rfl) (by decide) ?_
                                                refine lv_iconst (v := 1) hx hb dX1_byFunction_521 (by decide) ?_
                                                exact o_ret hx hb hr hlk hK hP hD hS (by rw [← hF, FM_byFunction, if_neg c_1, if_neg c_3, if_neg c_4, if_neg c_6, if_neg c_8, if_neg c_10, if_neg c_11, if_neg c_13, if_neg c_15, if_neg c_16, if_neg c_17, if_neg c_18, if_neg c_19, if_neg c_21, if_neg c_22, if_neg c_23, if_neg c_24, if_neg c_26, if_neg c_27, if_neg c_29, if_neg c_30, if_neg c_31, if_pos c_32]) dX1_byFunction_522
                                              · skip
                                                by_cases c_33 : (a1 &&& (63 : Int32)) = (23 : Int32)
                                                · skip
                                                  refine lv_tableIn (tgt := 521) hx hb dX1_byFunction_33 (by rw [c_33]; decide) (by rw [c_33]; decide) (by rw [c_33]; rfl) (by decide) ?_
                                                  refine lv_iconst (v := 1) hx hb dX1_byFunction_521 (by decide) ?_
                                                  exact o_ret hx hb hr hlk hK hP hD hS (by rw [← hF, FM_byFunction, if_neg c_1, if_neg c_3, if_neg c_4, if_neg c_6, if_neg c_8, if_neg c_10, if_neg c_11, if_neg c_13, if_neg c_15, if_neg c_16, if_neg c_17, if_neg c_18, if_neg c_19, if_neg c_21, if_neg c_22, if_neg c_23, if_neg c_24, if_neg c_26, if_neg c_27, if_neg c_29, if_neg c_30, if_neg c_31, if_neg c_32, if_pos c_33]) dX1_byFunction_522
                                                · skip
                                                  by_cases c_34 : (a1 &&& (63 : Int32)) = (24 : Int32)
                                                  · skip
                                                    refine lv_tableIn (tgt := 322) hx hb dX1_byFunction_33 (by rw [c_34]; decide) (by rw [c_34]; decide) (by rw [c_34]; rfl) (by decide) ?_
                                                    refine lv_aload_n hx hb dX1_byFunction_322 rfl (lv_at hl 4 rfl) ?_
                                                    refine lv_iload_n hx hb dX1_byFunction_323 rfl (lv_at hl 2 rfl) ?_
                                                    refine lv_i2l hx hb dX1_byFunction_324 rfl ?_
                                                    refine lv_iload hx hb dX1_byFunction_325 (lv_at hl 1 rfl) ?_
                                                    refine lv_i2l hx hb dX1_byFunction_327 rfl ?_
                                                    refine lv_lmul hx hb dX1_byFunction_328 ?_
                                                    obtain ⟨r_35, hr_35⟩ : ∃ z, (FM_halves σ ((Int32.toInt64 ((gmrg σ) (Int32.toNatClampNeg (FM_first a1)))) * (Int32.toInt64 ((gmrg σ) (Int32.toNatClampNeg (FM_second a1)))))) = z := ⟨_, rfl⟩
                                                    refine o_callV (As := [.long ((Int32.toInt64 ((gmrg σ) (Int32.toNatClampNeg (FM_first a1)))) * (Int32.toInt64 ((gmrg σ) (Int32.toNatClampNeg (FM_second a1)))))]) (rest := []) (res := r_35) ⟨hx, hb, hml, hown, hts⟩ (by rw [← hr_35]; exact (kX1_halves l D q cA _ σ ((Int32.toInt64 ((gmrg σ) (Int32.toNatClampNeg (FM_first a1)))) * (Int32.toInt64 ((gmrg σ) (Int32.toNatClampNeg (FM_second a1))))))) (cwV 1 hts (gV wd_432 wd_434 wd_31 wd_39 wd_435) rfl rfl rfl (by decide +kernel) ⟨Nat.le_of_ble_eq_true rfl, Nat.le_of_ble_eq_true rfl⟩) hK hP hD hS hA (va_recv hK hP (ci := 1) (q0 := 0) rfl rfl) rfl hl.1 rfl (Nat.le_of_ble_eq_true rfl) dX1_byFunction_329 (fun H locs hP hD hS => ?_)
                                                    refine lv_iconst (v := 0) hx hb dX1_byFunction_332 (by decide) ?_
                                                    exact o_ret hx hb hr hlk hK hP hD hS (by subst hr_35; rw [← hF, FM_byFunction, if_neg c_1, if_neg c_3, if_neg c_4, if_neg c_6, if_neg c_8, if_neg c_10, if_neg c_11, if_neg c_13, if_neg c_15, if_neg c_16, if_neg c_17, if_neg c_18, if_neg c_19, if_neg c_21, if_neg c_22, if_neg c_23, if_neg c_24, if_neg c_26, if_neg c_27, if_neg c_29, if_neg c_30, if_neg c_31, if_neg c_32, if_neg c_33, if_pos c_34]) dX1_byFunction_333
                                                  · skip
                                                    by_cases c_36 : (a1 &&& (63 : Int32)) = (25 : Int32)
                                                    · skip
                                                      refine lv_tableIn (tgt := 334) hx hb dX1_byFunction_33 (by rw [c_36]; decide) (by rw [c_36]; decide) (by rw [c_36]; rfl) (by decide) ?_
                                                      refine lv_aload_n hx hb dX1_byFunction_334 rfl (lv_at hl 4 rfl) ?_
                                                      refine lv_iload_n hx hb dX1_byFunction_335 rfl (lv_at hl 2 rfl) ?_
                                                      refine lv_i2l hx hb dX1_byFunction_336 rfl ?_
                                                      refine lv_ldc2 (v := 4294967295) hx hb hown (hts _ (mc wd_436)) dX1_byFunction_337 ?_
                                                      refine lv_land hx hb dX1_byFunction_340 ?_
                                                      refine lv_iload hx hb dX1_byFunction_341 (lv_at hl 1 rfl) ?_
                                                      refine lv_i2l hx hb dX1_byFunction_343 rfl ?_
                                                      refine lv_ldc2 (v := 4294967295) hx hb hown (hts _ (mc wd_436)) dX1_byFunction_344 ?_
                                                      refine lv_land hx hb dX1_byFunction_347 ?_
                                                      refine lv_lmul hx hb dX1_byFunction_348 ?_
                                                      obtain ⟨r_37, hr_37⟩ : ∃ z, (FM_halves σ (((Int32.toInt64 ((gmrg σ) (Int32.toNatClampNeg (FM_first a1)))) &&& (4294967295 : Int64)) * ((Int32.toInt64 ((gmrg σ) (Int32.toNatClampNeg (FM_second a1)))) &&& (4294967295 : Int64)))) = z := ⟨_, rfl⟩
                                                      refine o_callV (As := [.long (((Int32.toInt64 ((gmrg σ) (Int32.toNatClampNeg (FM_first a1)))) &&& (4294967295 : Int64)) * ((Int32.toInt64 ((gmrg σ) (Int32.toNatClampNeg (FM_second a1)))) &&& (4294967295 : Int64)))]) (rest := []) (res := r_37) ⟨hx, hb, hml, hown, hts⟩ (by rw [← hr_37]; exact (kX1_halves l D q cA _ σ (((Int32.toInt64 ((gmrg σ) (Int32.toNatClampNeg (FM_first a1)))) &&& (4294967295 : Int64)) * ((Int32.toInt64 ((gmrg σ) (Int32.toNatClampNeg (FM_second a1)))) &&& (4294967295 : Int64))))) (cwV 1 hts (gV wd_432 wd_434 wd_31 wd_39 wd_435) rfl rfl rfl (by decide +kernel) ⟨Nat.le_of_ble_eq_true rfl, Nat.le_of_ble_eq_true rfl⟩) hK hP hD hS hA (va_recv hK hP (ci := 1) (q0 := 0) rfl rfl) rfl hl.1 rfl (Nat.le_of_ble_eq_true rfl) dX1_byFunction_349 (fun H locs hP hD hS => ?_)
                                                      refine lv_iconst (v := 0) hx hb dX1_byFunction_352 (by decide) ?_
                                                      exact o_ret hx hb hr hlk hK hP hD hS (by subst hr_37; rw [← hF, FM_byFunction, if_neg c_1, if_neg c_3, if_neg c_4, if_neg c_6, if_neg c_8, if_neg c_10, if_neg c_11, if_neg c_13, if_neg c_15, if_neg c_16, if_neg c_17, if_neg c_18, if_neg c_19, if_neg c_21, if_neg c_22, if_neg c_23, if_neg c_24, if_neg c_26, if_neg c_27, if_neg c_29, if_neg c_30, if_neg c_31, if_neg c_32, if_neg c_33, if_neg c_34, if_pos c_36]) dX1_byFunction_353
                                                    · skip
                                                      by_cases c_38 : (a1 &&& (63 : Int32)) = (26 : Int32)
                                                      · skip
                                                        refine lv_tableIn (tgt := 354) hx hb dX1_byFunction_33 (by rw [c_38]; decide) (by rw [c_38]; decide) (by rw [c_38]; rfl) (by decide) ?_
                                                        refine lv_aload_n hx hb dX1_byFunction_354 rfl (lv_at hl 4 rfl) ?_
                                                        refine lv_iload_n hx hb dX1_byFunction_355 rfl (lv_at hl 2 rfl) ?_
                                                        refine lv_iload hx hb dX1_byFunction_356 (lv_at hl 1 rfl) ?_
                                                        obtain ⟨r_39, hr_39⟩ : ∃ z, (FM_divide σ ((gmrg σ) (Int32.toNatClampNeg (FM_first a1))) ((gmrg σ) (Int32.toNatClampNeg (FM_second a1)))) = z := ⟨_, rfl⟩
                                                        refine o_callV (As := [.int ((gmrg σ) (Int32.toNatClampNeg (FM_first a1))), .int ((gmrg σ) (Int32.toNatClampNeg (FM_second a1)))]) (rest := []) (res := r_39) ⟨hx, hb, hml, hown, hts⟩ (by rw [← hr_39]; exact (kX1_divide l D q cA _ σ ((gmrg σ) (Int32.toNatClampNeg (FM_first a1))) ((gmrg σ) (Int32.toNatClampNeg (FM_second a1))))) (cwV 2 hts (gV wd_437 wd_439 wd_32 wd_39 wd_440) rfl rfl rfl (by decide +kernel) ⟨Nat.le_of_ble_eq_true rfl, Nat.le_of_ble_eq_true rfl⟩) hK hP hD hS hA (va_recv hK hP (ci := 1) (q0 := 0) rfl rfl) rfl hl.1 rfl (Nat.le_of_ble_eq_true rfl) dX1_byFunction_358 (fun H locs hP hD hS => ?_)
                                                        refine lv_iconst (v := 0) hx hb dX1_byFunction_361 (by decide) ?_
                                                        exact o_ret hx hb hr hlk hK hP hD hS (by subst hr_39; rw [← hF, FM_byFunction, if_neg c_1, if_neg c_3, if_neg c_4, if_neg c_6, if_neg c_8, if_neg c_10, if_neg c_11, if_neg c_13, if_neg c_15, if_neg c_16, if_neg c_17, if_neg c_18, if_neg c_19, if_neg c_21, if_neg c_22, if_neg c_23, if_neg c_24, if_neg c_26, if_neg c_27, if_neg c_29, if_neg c_30, if_neg c_31, if_neg c_32, if_neg c_33, if_neg c_34, if_neg c_36, if_pos c_38]) dX1_byFunction_362
                                                      · skip
                                                        by_cases c_40 : (a1 &&& (63 : Int32)) = (27 : Int32)
                                                        · skip
                                                          refine lv_tableIn (tgt := 363) hx hb dX1_byFunction_33 (by rw [c_40]; decide) (by rw [c_40]; decide) (by rw [c_40]; rfl) (by decide) ?_
                                                          refine lv_aload_n hx hb dX1_byFunction_363 rfl (lv_at hl 4 rfl) ?_
                                                          refine lv_iload_n hx hb dX1_byFunction_364 rfl (lv_at hl 2 rfl) ?_
                                                          refine lv_iload hx hb dX1_byFunction_365 (lv_at hl 1 rfl) ?_
                                                          obtain ⟨r_41, hr_41⟩ : ∃ z, (FM_divideBare σ ((gmrg σ) (Int32.toNatClampNeg (FM_first a1))) ((gmrg σ) (Int32.toNatClampNeg (FM_second a1)))) = z := ⟨_, rfl⟩
                                                          refine o_callV (As := [.int ((gmrg σ) (Int32.toNatClampNeg (FM_first a1))), .int ((gmrg σ) (Int32.toNatClampNeg (FM_second a1)))]) (rest := []) (res := r_41) ⟨hx, hb, hml, hown, hts⟩ (by rw [← hr_41]; exact (kX1_divideBare l D q cA _ σ ((gmrg σ) (Int32.toNatClampNeg (FM_first a1))) ((gmrg σ) (Int32.toNatClampNeg (FM_second a1))))) (cwV 2 hts (gV wd_441 wd_443 wd_33 wd_39 wd_444) rfl rfl rfl (by decide +kernel) ⟨Nat.le_of_ble_eq_true rfl, Nat.le_of_ble_eq_true rfl⟩) hK hP hD hS hA (va_recv hK hP (ci := 1) (q0 := 0) rfl rfl) rfl hl.1 rfl (Nat.le_of_ble_eq_true rfl) dX1_byFunction_367 (fun H locs hP hD hS => ?_)
                                                          refine lv_iconst (v := 0) hx hb dX1_byFunction_370 (by decide) ?_
                                                          exact o_ret hx hb hr hlk hK hP hD hS (by subst hr_41; rw [← hF, FM_byFunction, if_neg c_1, if_neg c_3, if_neg c_4, if_neg c_6, if_neg c_8, if_neg c_10, if_neg c_11, if_neg c_13, if_neg c_15, if_neg c_16, if_neg c_17, if_neg c_18, if_neg c_19, if_neg c_21, if_neg c_22, if_neg c_23, if_neg c_24, if_neg c_26, if_neg c_27, if_neg c_29, if_neg c_30, if_neg c_31, if_neg c_32, if_neg c_33, if_neg c_34, if_neg c_36, if_neg c_38, if_pos c_40]) dX1_byFunction_371
                                                        · skip
                                                          by_cases c_42 : (a1 &&& (63 : Int32)) = (28 : Int32)
                                                          · skip
                                                            refine lv_tableIn (tgt := 521) hx hb dX1_byFunction_33 (by rw [c_42]; decide) (by rw [c_42]; decide) (by rw [c_42]; rfl) (by decide) ?_
                                                            refine lv_iconst (v := 1) hx hb dX1_byFunction_521 (by decide) ?_
                                                            exact o_ret hx hb hr hlk hK hP hD hS (by rw [← hF, FM_byFunction, if_neg c_1, if_neg c_3, if_neg c_4, if_neg c_6, if_neg c_8, if_neg c_10, if_neg c_11, if_neg c_13, if_neg c_15, if_neg c_16, if_neg c_17, if_neg c_18, if_neg c_19, if_neg c_21, if_neg c_22, if_neg c_23, if_neg c_24, if_neg c_26, if_neg c_27, if_neg c_29, if_neg c_30, if_neg c_31, if_neg c_32, if_neg c_33, if_neg c_34, if_neg c_36, if_neg c_38, if_neg c_40, if_pos c_42]) dX1_byFunction_522
                                                          · skip
                                                            by_cases c_43 : (a1 &&& (63 : Int32)) = (29 : Int32)
                                                            · skip
                                                              refine lv_tableIn (tgt := 521) hx hb dX1_byFunction_33 (by rw [c_43]; decide) (by rw [c_43]; decide) (by rw [c_43]; rfl) (by decide) ?_
                                                              refine lv_iconst (v := 1) hx hb dX1_byFunction_521 (by decide) ?_
                                                              exact o_ret hx hb hr hlk hK hP hD hS (by rw [← hF, FM_byFunction, if_neg c_1, if_neg c_3, if_neg c_4, if_neg c_6, if_neg c_8, if_neg c_10, if_neg c_11, if_neg c_13, if_neg c_15, if_neg c_16, if_neg c_17, if_neg c_18, if_neg c_19, if_neg c_21, if_neg c_22, if_neg c_23, if_neg c_24, if_neg c_26, if_neg c_27, if_neg c_29, if_neg c_30, if_neg c_31, if_neg c_32, if_neg c_33, if_neg c_34, if_neg c_36, if_neg c_38, if_neg c_40, if_neg c_42, if_pos c_43]) dX1_byFunction_522
                                                            · skip
                                                              by_cases c_44 : (a1 &&& (63 : Int32)) = (30 : Int32)
                                                              · skip
                                                                refine lv_tableIn (tgt := 521) hx hb dX1_byFunction_33 (by rw [c_44]; decide) (by rw [c_44]; decide) (by rw [c_44]; rfl) (by decide) ?_
                                                                refine lv_iconst (v := 1) hx hb dX1_byFunction_521 (by decide) ?_
                                                                exact o_ret hx hb hr hlk hK hP hD hS (by rw [← hF, FM_byFunction, if_neg c_1, if_neg c_3, if_neg c_4, if_neg c_6, if_neg c_8, if_neg c_10, if_neg c_11, if_neg c_13, if_neg c_15, if_neg c_16, if_neg c_17, if_neg c_18, if_neg c_19, if_neg c_21, if_neg c_22, if_neg c_23, if_neg c_24, if_neg c_26, if_neg c_27, if_neg c_29, if_neg c_30, if_neg c_31, if_neg c_32, if_neg c_33, if_neg c_34, if_neg c_36, if_neg c_38, if_neg c_40, if_neg c_42, if_neg c_43, if_pos c_44]) dX1_byFunction_522
                                                              · skip
                                                                by_cases c_45 : (a1 &&& (63 : Int32)) = (31 : Int32)
                                                                · skip
                                                                  refine lv_tableIn (tgt := 521) hx hb dX1_byFunction_33 (by rw [c_45]; decide) (by rw [c_45]; decide) (by rw [c_45]; rfl) (by decide) ?_
                                                                  refine lv_iconst (v := 1) hx hb dX1_byFunction_521 (by decide) ?_
                                                                  exact o_ret hx hb hr hlk hK hP hD hS (by rw [← hF, FM_byFunction, if_neg c_1, if_neg c_3, if_neg c_4, if_neg c_6, if_neg c_8, if_neg c_10, if_neg c_11, if_neg c_13, if_neg c_15, if_neg c_16, if_neg c_17, if_neg c_18, if_neg c_19, if_neg c_21, if_neg c_22, if_neg c_23, if_neg c_24, if_neg c_26, if_neg c_27, if_neg c_29, if_neg c_30, if_neg c_31, if_neg c_32, if_neg c_33, if_neg c_34, if_neg c_36, if_neg c_38, if_neg c_40, if_neg c_42, if_neg c_43, if_neg c_44, if_pos c_45]) dX1_byFunction_522
                                                                · skip
                                                                  by_cases c_46 : (a1 &&& (63 : Int32)) = (32 : Int32)
                                                                  · skip
                                                                    refine lv_tableIn (tgt := 372) hx hb dX1_byFunction_33 (by rw [c_46]; decide) (by rw [c_46]; decide) (by rw [c_46]; rfl) (by decide) ?_
                                                                    refine lv_aload_n hx hb dX1_byFunction_372 rfl (lv_at hl 4 rfl) ?_
                                                                    refine lv_iload hx hb dX1_byFunction_373 (lv_at hl 0 rfl) ?_
                                                                    refine lv_iload_n hx hb dX1_byFunction_375 rfl (lv_at hl 2 rfl) ?_
                                                                    refine lv_i2l hx hb dX1_byFunction_376 rfl ?_
                                                                    refine lv_iload hx hb dX1_byFunction_377 (lv_at hl 1 rfl) ?_
                                                                    refine lv_i2l hx hb dX1_byFunction_379 rfl ?_
                                                                    refine lv_ladd hx hb dX1_byFunction_380 ?_
                                                                    obtain ⟨r_47, hr_47⟩ : ∃ z, (FM_sum σ (FM_third a1) ((Int32.toInt64 ((gmrg σ) (Int32.toNatClampNeg (FM_first a1)))) + (Int32.toInt64 ((gmrg σ) (Int32.toNatClampNeg (FM_second a1)))))) = z := ⟨_, rfl⟩
                                                                    refine o_call (As := [.int (FM_third a1), .long ((Int32.toInt64 ((gmrg σ) (Int32.toNatClampNeg (FM_first a1)))) + (Int32.toInt64 ((gmrg σ) (Int32.toNatClampNeg (FM_second a1)))))]) (rest := []) (res := r_47) ⟨hx, hb, hml, hown, hts⟩ (by rw [← hr_47]; exact (kX1_sum l D q cA _ σ (FM_third a1) ((Int32.toInt64 ((gmrg σ) (Int32.toNatClampNeg (FM_first a1)))) + (Int32.toInt64 ((gmrg σ) (Int32.toNatClampNeg (FM_second a1))))) (im_third _))) (cwV 2 hts (gV wd_445 wd_447 wd_34 wd_39 wd_448) rfl rfl rfl (by decide +kernel) ⟨Nat.le_of_ble_eq_true rfl, Nat.le_of_ble_eq_true rfl⟩) hK hP hD hS hA (va_recv hK hP (ci := 1) (q0 := 0) rfl rfl) rfl hl.1 rfl (Nat.le_of_ble_eq_true rfl) dX1_byFunction_381 (fun H locs hP hD hS => ?_)
                                                                    exact o_ret hx hb hr hlk hK hP hD hS (by subst hr_47; rw [← hF, FM_byFunction, if_neg c_1, if_neg c_3, if_neg c_4, if_neg c_6, if_neg c_8, if_neg c_10, if_neg c_11, if_neg c_13, if_neg c_15, if_neg c_16, if_neg c_17, if_neg c_18, if_neg c_19, if_neg c_21, if_neg c_22, if_neg c_23, if_neg c_24, if_neg c_26, if_neg c_27, if_neg c_29, if_neg c_30, if_neg c_31, if_neg c_32, if_neg c_33, if_neg c_34, if_neg c_36, if_neg c_38, if_neg c_40, if_neg c_42, if_neg c_43, if_neg c_44, if_neg c_45, if_pos c_46]) dX1_byFunction_384
                                                                  · skip
                                                                    by_cases c_48 : (a1 &&& (63 : Int32)) = (33 : Int32)
                                                                    · skip
                                                                      refine lv_tableIn (tgt := 385) hx hb dX1_byFunction_33 (by rw [c_48]; decide) (by rw [c_48]; decide) (by rw [c_48]; rfl) (by decide) ?_
                                                                      refine lv_aload_n hx hb dX1_byFunction_385 rfl (lv_at hl 4 rfl) ?_
                                                                      refine lv_iload hx hb dX1_byFunction_386 (lv_at hl 0 rfl) ?_
                                                                      refine lv_iload_n hx hb dX1_byFunction_388 rfl (lv_at hl 2 rfl) ?_
                                                                      refine lv_iload hx hb dX1_byFunction_389 (lv_at hl 1 rfl) ?_
                                                                      refine lv_iadd hx hb dX1_byFunction_391 ?_
                                                                      obtain ⟨r_49, hr_49⟩ : ∃ z, (FM_put σ (FM_third a1) (((gmrg σ) (Int32.toNatClampNeg (FM_first a1))) + ((gmrg σ) (Int32.toNatClampNeg (FM_second a1))))) = z := ⟨_, rfl⟩
                                                                      refine o_callV (As := [.int (FM_third a1), .int (((gmrg σ) (Int32.toNatClampNeg (FM_first a1))) + ((gmrg σ) (Int32.toNatClampNeg (FM_second a1))))]) (rest := []) (res := r_49) ⟨hx, hb, hml, hown, hts⟩ (by rw [← hr_49]; exact (kX1_put l D q cA _ σ (FM_third a1) (((gmrg σ) (Int32.toNatClampNeg (FM_first a1))) + ((gmrg σ) (Int32.toNatClampNeg (FM_second a1)))) (im_third _))) (cwV 2 hts (gV wd_411 wd_413 wd_26 wd_39 wd_414) rfl rfl rfl (by decide +kernel) ⟨Nat.le_of_ble_eq_true rfl, Nat.le_of_ble_eq_true rfl⟩) hK hP hD hS hA (va_recv hK hP (ci := 1) (q0 := 0) rfl rfl) rfl hl.1 rfl (Nat.le_of_ble_eq_true rfl) dX1_byFunction_392 (fun H locs hP hD hS => ?_)
                                                                      refine lv_iconst (v := 0) hx hb dX1_byFunction_395 (by decide) ?_
                                                                      exact o_ret hx hb hr hlk hK hP hD hS (by subst hr_49; rw [← hF, FM_byFunction, if_neg c_1, if_neg c_3, if_neg c_4, if_neg c_6, if_neg c_8, if_neg c_10, if_neg c_11, if_neg c_13, if_neg c_15, if_neg c_16, if_neg c_17, if_neg c_18, if_neg c_19, if_neg c_21, if_neg c_22, if_neg c_23, if_neg c_24, if_neg c_26, if_neg c_27, if_neg c_29, if_neg c_30, if_neg c_31, if_neg c_32, if_neg c_33, if_neg c_34, if_neg c_36, if_neg c_38, if_neg c_40, if_neg c_42, if_neg c_43, if_neg c_44, if_neg c_45, if_neg c_46, if_pos c_48]) dX1_byFunction_396
                                                                    · skip
                                                                      by_cases c_50 : (a1 &&& (63 : Int32)) = (34 : Int32)
                                                                      · skip
                                                                        refine lv_tableIn (tgt := 397) hx hb dX1_byFunction_33 (by rw [c_50]; decide) (by rw [c_50]; decide) (by rw [c_50]; rfl) (by decide) ?_
                                                                        refine lv_aload_n hx hb dX1_byFunction_397 rfl (lv_at hl 4 rfl) ?_
                                                                        refine lv_iload hx hb dX1_byFunction_398 (lv_at hl 0 rfl) ?_
                                                                        refine lv_iload_n hx hb dX1_byFunction_400 rfl (lv_at hl 2 rfl) ?_
                                                                        refine lv_i2l hx hb dX1_byFunction_401 rfl ?_
                                                                        refine lv_iload hx hb dX1_byFunction_402 (lv_at hl 1 rfl) ?_
                                                                        refine lv_i2l hx hb dX1_byFunction_404 rfl ?_
                                                                        refine lv_lsub hx hb dX1_byFunction_405 ?_
                                                                        obtain ⟨r_51, hr_51⟩ : ∃ z, (FM_sum σ (FM_third a1) ((Int32.toInt64 ((gmrg σ) (Int32.toNatClampNeg (FM_first a1)))) - (Int32.toInt64 ((gmrg σ) (Int32.toNatClampNeg (FM_second a1)))))) = z := ⟨_, rfl⟩
                                                                        refine o_call (As := [.int (FM_third a1), .long ((Int32.toInt64 ((gmrg σ) (Int32.toNatClampNeg (FM_first a1)))) - (Int32.toInt64 ((gmrg σ) (Int32.toNatClampNeg (FM_second a1)))))]) (rest := []) (res := r_51) ⟨hx, hb, hml, hown, hts⟩ (by rw [← hr_51]; exact (kX1_sum l D q cA _ σ (FM_third a1) ((Int32.toInt64 ((gmrg σ) (Int32.toNatClampNeg (FM_first a1)))) - (Int32.toInt64 ((gmrg σ) (Int32.toNatClampNeg (FM_second a1))))) (im_third _))) (cwV 2 hts (gV wd_445 wd_447 wd_34 wd_39 wd_448) rfl rfl rfl (by decide +kernel) ⟨Nat.le_of_ble_eq_true rfl, Nat.le_of_ble_eq_true rfl⟩) hK hP hD hS hA (va_recv hK hP (ci := 1) (q0 := 0) rfl rfl) rfl hl.1 rfl (Nat.le_of_ble_eq_true rfl) dX1_byFunction_406 (fun H locs hP hD hS => ?_)
                                                                        exact o_ret hx hb hr hlk hK hP hD hS (by subst hr_51; rw [← hF, FM_byFunction, if_neg c_1, if_neg c_3, if_neg c_4, if_neg c_6, if_neg c_8, if_neg c_10, if_neg c_11, if_neg c_13, if_neg c_15, if_neg c_16, if_neg c_17, if_neg c_18, if_neg c_19, if_neg c_21, if_neg c_22, if_neg c_23, if_neg c_24, if_neg c_26, if_neg c_27, if_neg c_29, if_neg c_30, if_neg c_31, if_neg c_32, if_neg c_33, if_neg c_34, if_neg c_36, if_neg c_38, if_neg c_40, if_neg c_42, if_neg c_43, if_neg c_44, if_neg c_45, if_neg c_46, if_neg c_48, if_pos c_50]) dX1_byFunction_409
                                                                      · skip
                                                                        by_cases c_52 : (a1 &&& (63 : Int32)) = (35 : Int32)
                                                                        · skip
                                                                          refine lv_tableIn (tgt := 410) hx hb dX1_byFunction_33 (by rw [c_52]; decide) (by rw [c_52]; decide) (by rw [c_52]; rfl) (by decide) ?_
                                                                          refine lv_aload_n hx hb dX1_byFunction_410 rfl (lv_at hl 4 rfl) ?_
                                                                          refine lv_iload hx hb dX1_byFunction_411 (lv_at hl 0 rfl) ?_
                                                                          refine lv_iload_n hx hb dX1_byFunction_413 rfl (lv_at hl 2 rfl) ?_
                                                                          refine lv_iload hx hb dX1_byFunction_414 (lv_at hl 1 rfl) ?_
                                                                          refine lv_isub hx hb dX1_byFunction_416 ?_
                                                                          obtain ⟨r_53, hr_53⟩ : ∃ z, (FM_put σ (FM_third a1) (((gmrg σ) (Int32.toNatClampNeg (FM_first a1))) - ((gmrg σ) (Int32.toNatClampNeg (FM_second a1))))) = z := ⟨_, rfl⟩
                                                                          refine o_callV (As := [.int (FM_third a1), .int (((gmrg σ) (Int32.toNatClampNeg (FM_first a1))) - ((gmrg σ) (Int32.toNatClampNeg (FM_second a1))))]) (rest := []) (res := r_53) ⟨hx, hb, hml, hown, hts⟩ (by rw [← hr_53]; exact (kX1_put l D q cA _ σ (FM_third a1) (((gmrg σ) (Int32.toNatClampNeg (FM_first a1))) - ((gmrg σ) (Int32.toNatClampNeg (FM_second a1)))) (im_third _))) (cwV 2 hts (gV wd_411 wd_413 wd_26 wd_39 wd_414) rfl rfl rfl (by decide +kernel) ⟨Nat.le_of_ble_eq_true rfl, Nat.le_of_ble_eq_true rfl⟩) hK hP hD hS hA (va_recv hK hP (ci := 1) (q0 := 0) rfl rfl) rfl hl.1 rfl (Nat.le_of_ble_eq_true rfl) dX1_byFunction_417 (fun H locs hP hD hS => ?_)
                                                                          refine lv_iconst (v := 0) hx hb dX1_byFunction_420 (by decide) ?_
                                                                          exact o_ret hx hb hr hlk hK hP hD hS (by subst hr_53; rw [← hF, FM_byFunction, if_neg c_1, if_neg c_3, if_neg c_4, if_neg c_6, if_neg c_8, if_neg c_10, if_neg c_11, if_neg c_13, if_neg c_15, if_neg c_16, if_neg c_17, if_neg c_18, if_neg c_19, if_neg c_21, if_neg c_22, if_neg c_23, if_neg c_24, if_neg c_26, if_neg c_27, if_neg c_29, if_neg c_30, if_neg c_31, if_neg c_32, if_neg c_33, if_neg c_34, if_neg c_36, if_neg c_38, if_neg c_40, if_neg c_42, if_neg c_43, if_neg c_44, if_neg c_45, if_neg c_46, if_neg c_48, if_neg c_50, if_pos c_52]) dX1_byFunction_421
                                                                        · skip
                                                                          by_cases c_54 : (a1 &&& (63 : Int32)) = (36 : Int32)
                                                                          · skip
                                                                            refine lv_tableIn (tgt := 422) hx hb dX1_byFunction_33 (by rw [c_54]; decide) (by rw [c_54]; decide) (by rw [c_54]; rfl) (by decide) ?_
                                                                            refine lv_aload_n hx hb dX1_byFunction_422 rfl (lv_at hl 4 rfl) ?_
                                                                            refine lv_iload hx hb dX1_byFunction_423 (lv_at hl 0 rfl) ?_
                                                                            refine lv_iload_n hx hb dX1_byFunction_425 rfl (lv_at hl 2 rfl) ?_
                                                                            refine lv_iload hx hb dX1_byFunction_426 (lv_at hl 1 rfl) ?_
                                                                            refine lv_iand hx hb dX1_byFunction_428 ?_
                                                                            obtain ⟨r_55, hr_55⟩ : ∃ z, (FM_put σ (FM_third a1) (((gmrg σ) (Int32.toNatClampNeg (FM_first a1))) &&& ((gmrg σ) (Int32.toNatClampNeg (FM_second a1))))) = z := ⟨_, rfl⟩
                                                                            refine o_callV (As := [.int (FM_third a1), .int (((gmrg σ) (Int32.toNatClampNeg (FM_first a1))) &&& ((gmrg σ) (Int32.toNatClampNeg (FM_second a1))))]) (rest := []) (res := r_55) ⟨hx, hb, hml, hown, hts⟩ (by rw [← hr_55]; exact (kX1_put l D q cA _ σ (FM_third a1) (((gmrg σ) (Int32.toNatClampNeg (FM_first a1))) &&& ((gmrg σ) (Int32.toNatClampNeg (FM_second a1)))) (im_third _))) (cwV 2 hts (gV wd_411 wd_413 wd_26 wd_39 wd_414) rfl rfl rfl (by decide +kernel) ⟨Nat.le_of_ble_eq_true rfl, Nat.le_of_ble_eq_true rfl⟩) hK hP hD hS hA (va_recv hK hP (ci := 1) (q0 := 0) rfl rfl) rfl hl.1 rfl (Nat.le_of_ble_eq_true rfl) dX1_byFunction_429 (fun H locs hP hD hS => ?_)
                                                                            refine lv_iconst (v := 0) hx hb dX1_byFunction_432 (by decide) ?_
                                                                            exact o_ret hx hb hr hlk hK hP hD hS (by subst hr_55; rw [← hF, FM_byFunction, if_neg c_1, if_neg c_3, if_neg c_4, if_neg c_6, if_neg c_8, if_neg c_10, if_neg c_11, if_neg c_13, if_neg c_15, if_neg c_16, if_neg c_17, if_neg c_18, if_neg c_19, if_neg c_21, if_neg c_22, if_neg c_23, if_neg c_24, if_neg c_26, if_neg c_27, if_neg c_29, if_neg c_30, if_neg c_31, if_neg c_32, if_neg c_33, if_neg c_34, if_neg c_36, if_neg c_38, if_neg c_40, if_neg c_42, if_neg c_43, if_neg c_44, if_neg c_45, if_neg c_46, if_neg c_48, if_neg c_50, if_neg c_52, if_pos c_54]) dX1_byFunction_433
                                                                          · skip
                                                                            by_cases c_56 : (a1 &&& (63 : Int32)) = (37 : Int32)
                                                                            · skip
                                                                              refine lv_tableIn (tgt := 434) hx hb dX1_byFunction_33 (by rw [c_56]; decide) (by rw [c_56]; decide) (by rw [c_56]; rfl) (by decide) ?_
                                                                              refine lv_aload_n hx hb dX1_byFunction_434 rfl (lv_at hl 4 rfl) ?_
                                                                              refine lv_iload hx hb dX1_byFunction_435 (lv_at hl 0 rfl) ?_
                                                                              refine lv_iload_n hx hb dX1_byFunction_437 rfl (lv_at hl 2 rfl) ?_
                                                                              refine lv_iload hx hb dX1_byFunction_438 (lv_at hl 1 rfl) ?_
                                                                              refine lv_ior hx hb dX1_byFunction_440 ?_
                                                                              obtain ⟨r_57, hr_57⟩ : ∃ z, (FM_put σ (FM_third a1) (((gmrg σ) (Int32.toNatClampNeg (FM_first a1))) ||| ((gmrg σ) (Int32.toNatClampNeg (FM_second a1))))) = z := ⟨_, rfl⟩
                                                                              refine o_callV (As := [.int (FM_third a1), .int (((gmrg σ) (Int32.toNatClampNeg (FM_first a1))) ||| ((gmrg σ) (Int32.toNatClampNeg (FM_second a1))))]) (rest := []) (res := r_57) ⟨hx, hb, hml, hown, hts⟩ (by rw [← hr_57]; exact (kX1_put l D q cA _ σ (FM_third a1) (((gmrg σ) (Int32.toNatClampNeg (FM_first a1))) ||| ((gmrg σ) (Int32.toNatClampNeg (FM_second a1)))) (im_third _))) (cwV 2 hts (gV wd_411 wd_413 wd_26 wd_39 wd_414) rfl rfl rfl (by decide +kernel) ⟨Nat.le_of_ble_eq_true rfl, Nat.le_of_ble_eq_true rfl⟩) hK hP hD hS hA (va_recv hK hP (ci := 1) (q0 := 0) rfl rfl) rfl hl.1 rfl (Nat.le_of_ble_eq_true rfl) dX1_byFunction_441 (fun H locs hP hD hS => ?_)
                                                                              refine lv_iconst (v := 0) hx hb dX1_byFunction_444 (by decide) ?_
                                                                              exact o_ret hx hb hr hlk hK hP hD hS (by subst hr_57; rw [← hF, FM_byFunction, if_neg c_1, if_neg c_3, if_neg c_4, if_neg c_6, if_neg c_8, if_neg c_10, if_neg c_11, if_neg c_13, if_neg c_15, if_neg c_16, if_neg c_17, if_neg c_18, if_neg c_19, if_neg c_21, if_neg c_22, if_neg c_23, if_neg c_24, if_neg c_26, if_neg c_27, if_neg c_29, if_neg c_30, if_neg c_31, if_neg c_32, if_neg c_33, if_neg c_34, if_neg c_36, if_neg c_38, if_neg c_40, if_neg c_42, if_neg c_43, if_neg c_44, if_neg c_45, if_neg c_46, if_neg c_48, if_neg c_50, if_neg c_52, if_neg c_54, if_pos c_56]) dX1_byFunction_445
                                                                            · skip
                                                                              by_cases c_58 : (a1 &&& (63 : Int32)) = (38 : Int32)
                                                                              · skip
                                                                                refine lv_tableIn (tgt := 446) hx hb dX1_byFunction_33 (by rw [c_58]; decide) (by rw [c_58]; decide) (by rw [c_58]; rfl) (by decide) ?_
                                                                                refine lv_aload_n hx hb dX1_byFunction_446 rfl (lv_at hl 4 rfl) ?_
                                                                                refine lv_iload hx hb dX1_byFunction_447 (lv_at hl 0 rfl) ?_
                                                                                refine lv_iload_n hx hb dX1_byFunction_449 rfl (lv_at hl 2 rfl) ?_
                                                                                refine lv_iload hx hb dX1_byFunction_450 (lv_at hl 1 rfl) ?_
                                                                                refine lv_ixor hx hb dX1_byFunction_452 ?_
                                                                                obtain ⟨r_59, hr_59⟩ : ∃ z, (FM_put σ (FM_third a1) (((gmrg σ) (Int32.toNatClampNeg (FM_first a1))) ^^^ ((gmrg σ) (Int32.toNatClampNeg (FM_second a1))))) = z := ⟨_, rfl⟩
                                                                                refine o_callV (As := [.int (FM_third a1), .int (((gmrg σ) (Int32.toNatClampNeg (FM_first a1))) ^^^ ((gmrg σ) (Int32.toNatClampNeg (FM_second a1))))]) (rest := []) (res := r_59) ⟨hx, hb, hml, hown, hts⟩ (by rw [← hr_59]; exact (kX1_put l D q cA _ σ (FM_third a1) (((gmrg σ) (Int32.toNatClampNeg (FM_first a1))) ^^^ ((gmrg σ) (Int32.toNatClampNeg (FM_second a1)))) (im_third _))) (cwV 2 hts (gV wd_411 wd_413 wd_26 wd_39 wd_414) rfl rfl rfl (by decide +kernel) ⟨Nat.le_of_ble_eq_true rfl, Nat.le_of_ble_eq_true rfl⟩) hK hP hD hS hA (va_recv hK hP (ci := 1) (q0 := 0) rfl rfl) rfl hl.1 rfl (Nat.le_of_ble_eq_true rfl) dX1_byFunction_453 (fun H locs hP hD hS => ?_)
                                                                                refine lv_iconst (v := 0) hx hb dX1_byFunction_456 (by decide) ?_
                                                                                exact o_ret hx hb hr hlk hK hP hD hS (by subst hr_59; rw [← hF, FM_byFunction, if_neg c_1, if_neg c_3, if_neg c_4, if_neg c_6, if_neg c_8, if_neg c_10, if_neg c_11, if_neg c_13, if_neg c_15, if_neg c_16, if_neg c_17, if_neg c_18, if_neg c_19, if_neg c_21, if_neg c_22, if_neg c_23, if_neg c_24, if_neg c_26, if_neg c_27, if_neg c_29, if_neg c_30, if_neg c_31, if_neg c_32, if_neg c_33, if_neg c_34, if_neg c_36, if_neg c_38, if_neg c_40, if_neg c_42, if_neg c_43, if_neg c_44, if_neg c_45, if_neg c_46, if_neg c_48, if_neg c_50, if_neg c_52, if_neg c_54, if_neg c_56, if_pos c_58]) dX1_byFunction_457
                                                                              · skip
                                                                                by_cases c_60 : (a1 &&& (63 : Int32)) = (39 : Int32)
                                                                                · skip
                                                                                  refine lv_tableIn (tgt := 458) hx hb dX1_byFunction_33 (by rw [c_60]; decide) (by rw [c_60]; decide) (by rw [c_60]; rfl) (by decide) ?_
                                                                                  refine lv_aload_n hx hb dX1_byFunction_458 rfl (lv_at hl 4 rfl) ?_
                                                                                  refine lv_iload hx hb dX1_byFunction_459 (lv_at hl 0 rfl) ?_
                                                                                  refine lv_iload_n hx hb dX1_byFunction_461 rfl (lv_at hl 2 rfl) ?_
                                                                                  refine lv_iload hx hb dX1_byFunction_462 (lv_at hl 1 rfl) ?_
                                                                                  refine lv_ior hx hb dX1_byFunction_464 ?_
                                                                                  refine lv_iconst (v := -1) hx hb dX1_byFunction_465 (by decide) ?_
                                                                                  refine lv_ixor hx hb dX1_byFunction_466 ?_
                                                                                  obtain ⟨r_61, hr_61⟩ : ∃ z, (FM_put σ (FM_third a1) ((((gmrg σ) (Int32.toNatClampNeg (FM_first a1))) ||| ((gmrg σ) (Int32.toNatClampNeg (FM_second a1)))) ^^^ (-1 : Int32))) = z := ⟨_, rfl⟩
                                                                                  refine o_callV (As := [.int (FM_third a1), .int ((((gmrg σ) (Int32.toNatClampNeg (FM_first a1))) ||| ((gmrg σ) (Int32.toNatClampNeg (FM_second a1)))) ^^^ (-1 : Int32))]) (rest := []) (res := r_61) ⟨hx, hb, hml, hown, hts⟩ (by rw [← hr_61]; exact (kX1_put l D q cA _ σ (FM_third a1) ((((gmrg σ) (Int32.toNatClampNeg (FM_first a1))) ||| ((gmrg σ) (Int32.toNatClampNeg (FM_second a1)))) ^^^ (-1 : Int32)) (im_third _))) (cwV 2 hts (gV wd_411 wd_413 wd_26 wd_39 wd_414) rfl rfl rfl (by decide +kernel) ⟨Nat.le_of_ble_eq_true rfl, Nat.le_of_ble_eq_true rfl⟩) hK hP hD hS hA (va_recv hK hP (ci := 1) (q0 := 0) rfl rfl) rfl hl.1 rfl (Nat.le_of_ble_eq_true rfl) dX1_byFunction_467 (fun H locs hP hD hS => ?_)
                                                                                  refine lv_iconst (v := 0) hx hb dX1_byFunction_470 (by decide) ?_
                                                                                  exact o_ret hx hb hr hlk hK hP hD hS (by subst hr_61; rw [← hF, FM_byFunction, if_neg c_1, if_neg c_3, if_neg c_4, if_neg c_6, if_neg c_8, if_neg c_10, if_neg c_11, if_neg c_13, if_neg c_15, if_neg c_16, if_neg c_17, if_neg c_18, if_neg c_19, if_neg c_21, if_neg c_22, if_neg c_23, if_neg c_24, if_neg c_26, if_neg c_27, if_neg c_29, if_neg c_30, if_neg c_31, if_neg c_32, if_neg c_33, if_neg c_34, if_neg c_36, if_neg c_38, if_neg c_40, if_neg c_42, if_neg c_43, if_neg c_44, if_neg c_45, if_neg c_46, if_neg c_48, if_neg c_50, if_neg c_52, if_neg c_54, if_neg c_56, if_neg c_58, if_pos c_60]) dX1_byFunction_471
                                                                                · skip
                                                                                  by_cases c_62 : (a1 &&& (63 : Int32)) = (40 : Int32)
                                                                                  · skip
                                                                                    refine lv_tableIn (tgt := 521) hx hb dX1_byFunction_33 (by rw [c_62]; decide) (by rw [c_62]; decide) (by rw [c_62]; rfl) (by decide) ?_
                                                                                    refine lv_iconst (v := 1) hx hb dX1_byFunction_521 (by decide) ?_
                                                                                    exact o_ret hx hb hr hlk hK hP hD hS (by rw [← hF, FM_byFunction, if_neg c_1, if_neg c_3, if_neg c_4, if_neg c_6, if_neg c_8, if_neg c_10, if_neg c_11, if_neg c_13, if_neg c_15, if_neg c_16, if_neg c_17, if_neg c_18, if_neg c_19, if_neg c_21, if_neg c_22, if_neg c_23, if_neg c_24, if_neg c_26, if_neg c_27, if_neg c_29, if_neg c_30, if_neg c_31, if_neg c_32, if_neg c_33, if_neg c_34, if_neg c_36, if_neg c_38, if_neg c_40, if_neg c_42, if_neg c_43, if_neg c_44, if_neg c_45, if_neg c_46, if_neg c_48, if_neg c_50, if_neg c_52, if_neg c_54, if_neg c_56, if_neg c_58, if_neg c_60, if_pos c_62]) dX1_byFunction_522
                                                                                  · skip
                                                                                    by_cases c_63 : (a1 &&& (63 : Int32)) = (41 : Int32)
                                                                                    · skip
                                                                                      refine lv_tableIn (tgt := 521) hx hb dX1_byFunction_33 (by rw [c_63]; decide) (by rw [c_63]; decide) (by rw [c_63]; rfl) (by decide) ?_
                                                                                      refine lv_iconst (v := 1) hx hb dX1_byFunction_521 (by decide) ?_
                                                                                      exact o_ret hx hb hr hlk hK hP hD hS (by rw [← hF, FM_byFunction, if_neg c_1, if_neg c_3, if_neg c_4, if_neg c_6, if_neg c_8, if_neg c_10, if_neg c_11, if_neg c_13, if_neg c_15, if_neg c_16, if_neg c_17, if_neg c_18, if_neg c_19, if_neg c_21, if_neg c_22, if_neg c_23, if_neg c_24, if_neg c_26, if_neg c_27, if_neg c_29, if_neg c_30, if_neg c_31, if_neg c_32, if_neg c_33, if_neg c_34, if_neg c_36, if_neg c_38, if_neg c_40, if_neg c_42, if_neg c_43, if_neg c_44, if_neg c_45, if_neg c_46, if_neg c_48, if_neg c_50, if_neg c_52, if_neg c_54, if_neg c_56, if_neg c_58, if_neg c_60, if_neg c_62, if_pos c_63]) dX1_byFunction_522
                                                                                    · skip
                                                                                      by_cases c_64 : (a1 &&& (63 : Int32)) = (42 : Int32)
                                                                                      · skip
                                                                                        refine lv_tableIn (tgt := 472) hx hb dX1_byFunction_33 (by rw [c_64]; decide) (by rw [c_64]; decide) (by rw [c_64]; rfl) (by decide) ?_
                                                                                        refine lv_aload_n hx hb dX1_byFunction_472 rfl (lv_at hl 4 rfl) ?_
                                                                                        refine lv_iload hx hb dX1_byFunction_473 (lv_at hl 0 rfl) ?_
                                                                                        refine lv_iload_n hx hb dX1_byFunction_475 rfl (lv_at hl 2 rfl) ?_
                                                                                        refine lv_iload hx hb dX1_byFunction_476 (lv_at hl 1 rfl) ?_
                                                                                        refine lv_icmp_ge (tgt := 485) hx hb dX1_byFunction_478 (by decide) (fun c_65 => ?_) (fun c_65 => ?_)
                                                                                        · skip
                                                                                          refine lv_iconst (v := 0) hx hb dX1_byFunction_485 (by decide) ?_
                                                                                          obtain ⟨r_66, hr_66⟩ : ∃ z, (FM_put σ (FM_third a1) (0 : Int32)) = z := ⟨_, rfl⟩
                                                                                          refine o_callV (As := [.int (FM_third a1), .int (0 : Int32)]) (rest := []) (res := r_66) ⟨hx, hb, hml, hown, hts⟩ (by rw [← hr_66]; exact (kX1_put l D q cA _ σ (FM_third a1) (0 : Int32) (im_third _))) (cwV 2 hts (gV wd_411 wd_413 wd_26 wd_39 wd_414) rfl rfl rfl (by decide +kernel) ⟨Nat.le_of_ble_eq_true rfl, Nat.le_of_ble_eq_true rfl⟩) hK hP hD hS hA (va_recv hK hP (ci := 1) (q0 := 0) rfl rfl) rfl hl.1 rfl (Nat.le_of_ble_eq_true rfl) dX1_byFunction_486 (fun H locs hP hD hS => ?_)
                                                                                          refine lv_iconst (v := 0) hx hb dX1_byFunction_489 (by decide) ?_
                                                                                          exact o_ret hx hb hr hlk hK hP hD hS (by subst hr_66; rw [← hF, FM_byFunction, if_neg c_1, if_neg c_3, if_neg c_4, if_neg c_6, if_neg c_8, if_neg c_10, if_neg c_11, if_neg c_13, if_neg c_15, if_neg c_16, if_neg c_17, if_neg c_18, if_neg c_19, if_neg c_21, if_neg c_22, if_neg c_23, if_neg c_24, if_neg c_26, if_neg c_27, if_neg c_29, if_neg c_30, if_neg c_31, if_neg c_32, if_neg c_33, if_neg c_34, if_neg c_36, if_neg c_38, if_neg c_40, if_neg c_42, if_neg c_43, if_neg c_44, if_neg c_45, if_neg c_46, if_neg c_48, if_neg c_50, if_neg c_52, if_neg c_54, if_neg c_56, if_neg c_58, if_neg c_60, if_neg c_62, if_neg c_63, if_pos c_64, if_pos c_65]) dX1_byFunction_490
                                                                                        · skip
                                                                                          refine lv_iconst (v := 1) hx hb dX1_byFunction_481 (by decide) ?_
                                                                                          refine lv_goto (tgt := 486) hx hb dX1_byFunction_482 (by decide) ?_
                                                                                          obtain ⟨r_67, hr_67⟩ : ∃ z, (FM_put σ (FM_third a1) (1 : Int32)) = z := ⟨_, rfl⟩
                                                                                          refine o_callV (As := [.int (FM_third a1), .int (1 : Int32)]) (rest := []) (res := r_67) ⟨hx, hb, hml, hown, hts⟩ (by rw [← hr_67]; exact (kX1_put l D q cA _ σ (FM_third a1) (1 : Int32) (im_third _))) (cwV 2 hts (gV wd_411 wd_413 wd_26 wd_39 wd_414) rfl rfl rfl (by decide +kernel) ⟨Nat.le_of_ble_eq_true rfl, Nat.le_of_ble_eq_true rfl⟩) hK hP hD hS hA (va_recv hK hP (ci := 1) (q0 := 0) rfl rfl) rfl hl.1 rfl (Nat.le_of_ble_eq_true rfl) dX1_byFunction_486 (fun H locs hP hD hS => ?_)
                                                                                          refine lv_iconst (v := 0) hx hb dX1_byFunction_489 (by decide) ?_
                                                                                          exact o_ret hx hb hr hlk hK hP hD hS (by subst hr_67; rw [← hF, FM_byFunction, if_neg c_1, if_neg c_3, if_neg c_4, if_neg c_6, if_neg c_8, if_neg c_10, if_neg c_11, if_neg c_13, if_neg c_15, if_neg c_16, if_neg c_17, if_neg c_18, if_neg c_19, if_neg c_21, if_neg c_22, if_neg c_23, if_neg c_24, if_neg c_26, if_neg c_27, if_neg c_29, if_neg c_30, if_neg c_31, if_neg c_32, if_neg c_33, if_neg c_34, if_neg c_36, if_neg c_38, if_neg c_40, if_neg c_42, if_neg c_43, if_neg c_44, if_neg c_45, if_neg c_46, if_neg c_48, if_neg c_50, if_neg c_52, if_neg c_54, if_neg c_56, if_neg c_58, if_neg c_60, if_neg c_62, if_neg c_63, if_pos c_64, if_neg c_65]) dX1_byFunction_490
                                                                                      · skip
                                                                                        by_cases c_68 : (a1 &&& (63 : Int32)) = (43 : Int32)
                                                                                        · skip
                                                                                          refine lv_tableIn (tgt := 491) hx hb dX1_byFunction_33 (by rw [c_68]; decide) (by rw [c_68]; decide) (by rw [c_68]; rfl) (by decide) ?_
                                                                                          refine lv_aload_n hx hb dX1_byFunction_491 rfl (lv_at hl 4 rfl) ?_
                                                                                          refine lv_iload hx hb dX1_byFunction_492 (lv_at hl 0 rfl) ?_
                                                                                          refine lv_iload_n hx hb dX1_byFunction_494 rfl (lv_at hl 2 rfl) ?_
                                                                                          refine lv_i2l hx hb dX1_byFunction_495 rfl ?_
                                                                                          refine lv_ldc2 (v := 4294967295) hx hb hown (hts _ (mc wd_436)) dX1_byFunction_496 ?_
                                                                                          refine lv_land hx hb dX1_byFunction_499 ?_
                                                                                          refine lv_iload hx hb dX1_byFunction_500 (lv_at hl 1 rfl) ?_
                                                                                          refine lv_i2l hx hb dX1_byFunction_502 rfl ?_
                                                                                          refine lv_ldc2 (v := 4294967295) hx hb hown (hts _ (mc wd_436)) dX1_byFunction_503 ?_
                                                                                          refine lv_land hx hb dX1_byFunction_506 ?_
                                                                                          refine W.lcmp hx hb dX1_byFunction_507 ?_
                                                                                          refine lv_if_ge (tgt := 515) hx hb dX1_byFunction_508 (by decide) (fun c_69 => ?_) (fun c_69 => ?_)
                                                                                          · skip
                                                                                            refine lv_iconst (v := 0) hx hb dX1_byFunction_515 (by decide) ?_
                                                                                            obtain ⟨r_70, hr_70⟩ : ∃ z, (FM_put σ (FM_third a1) (0 : Int32)) = z := ⟨_, rfl⟩
                                                                                            refine o_callV (As := [.int (FM_third a1), .int (0 : Int32)]) (rest := []) (res := r_70) ⟨hx, hb, hml, hown, hts⟩ (by rw [← hr_70]; exact (kX1_put l D q cA _ σ (FM_third a1) (0 : Int32) (im_third _))) (cwV 2 hts (gV wd_411 wd_413 wd_26 wd_39 wd_414) rfl rfl rfl (by decide +kernel) ⟨Nat.le_of_ble_eq_true rfl, Nat.le_of_ble_eq_true rfl⟩) hK hP hD hS hA (va_recv hK hP (ci := 1) (q0 := 0) rfl rfl) rfl hl.1 rfl (Nat.le_of_ble_eq_true rfl) dX1_byFunction_516 (fun H locs hP hD hS => ?_)
                                                                                            refine lv_iconst (v := 0) hx hb dX1_byFunction_519 (by decide) ?_
                                                                                            exact o_ret hx hb hr hlk hK hP hD hS (by subst hr_70; rw [← hF, FM_byFunction, if_neg c_1, if_neg c_3, if_neg c_4, if_neg c_6, if_neg c_8, if_neg c_10, if_neg c_11, if_neg c_13, if_neg c_15, if_neg c_16, if_neg c_17, if_neg c_18, if_neg c_19, if_neg c_21, if_neg c_22, if_neg c_23, if_neg c_24, if_neg c_26, if_neg c_27, if_neg c_29, if_neg c_30, if_neg c_31, if_neg c_32, if_neg c_33, if_neg c_34, if_neg c_36, if_neg c_38, if_neg c_40, if_neg c_42, if_neg c_43, if_neg c_44, if_neg c_45, if_neg c_46, if_neg c_48, if_neg c_50, if_neg c_52, if_neg c_54, if_neg c_56, if_neg c_58, if_neg c_60, if_neg c_62, if_neg c_63, if_neg c_64, if_pos c_68, if_pos c_69]) dX1_byFunction_520
                                                                                          · skip
                                                                                            refine lv_iconst (v := 1) hx hb dX1_byFunction_511 (by decide) ?_
                                                                                            refine lv_goto (tgt := 516) hx hb dX1_byFunction_512 (by decide) ?_
                                                                                            obtain ⟨r_71, hr_71⟩ : ∃ z, (FM_put σ (FM_third a1) (1 : Int32)) = z := ⟨_, rfl⟩
                                                                                            refine o_callV (As := [.int (FM_third a1), .int (1 : Int32)]) (rest := []) (res := r_71) ⟨hx, hb, hml, hown, hts⟩ (by rw [← hr_71]; exact (kX1_put l D q cA _ σ (FM_third a1) (1 : Int32) (im_third _))) (cwV 2 hts (gV wd_411 wd_413 wd_26 wd_39 wd_414) rfl rfl rfl (by decide +kernel) ⟨Nat.le_of_ble_eq_true rfl, Nat.le_of_ble_eq_true rfl⟩) hK hP hD hS hA (va_recv hK hP (ci := 1) (q0 := 0) rfl rfl) rfl hl.1 rfl (Nat.le_of_ble_eq_true rfl) dX1_byFunction_516 (fun H locs hP hD hS => ?_)
                                                                                            refine lv_iconst (v := 0) hx hb dX1_byFunction_519 (by decide) ?_
                                                                                            exact o_ret hx hb hr hlk hK hP hD hS (by subst hr_71; rw [← hF, FM_byFunction, if_neg c_1, if_neg c_3, if_neg c_4, if_neg c_6, if_neg c_8, if_neg c_10, if_neg c_11, if_neg c_13, if_neg c_15, if_neg c_16, if_neg c_17, if_neg c_18, if_neg c_19, if_neg c_21, if_neg c_22, if_neg c_23, if_neg c_24, if_neg c_26, if_neg c_27, if_neg c_29, if_neg c_30, if_neg c_31, if_neg c_32, if_neg c_33, if_neg c_34, if_neg c_36, if_neg c_38, if_neg c_40, if_neg c_42, if_neg c_43, if_neg c_44, if_neg c_45, if_neg c_46, if_neg c_48, if_neg c_50, if_neg c_52, if_neg c_54, if_neg c_56, if_neg c_58, if_neg c_60, if_neg c_62, if_neg c_63, if_neg c_64, if_pos c_68, if_neg c_69]) dX1_byFunction_520
                                                                                        · skip
                                                                                          refine lv_tableOut (tgt := 521) hx hb dX1_byFunction_33 (by have h0 := lv_neT (a := 0) c_1 (by decide); have h1 := lv_neT (a := 1) c_3 (by decide); have h2 := lv_neT (a := 2) c_4 (by decide); have h3 := lv_neT (a := 3) c_6 (by decide); have h4 := lv_neT (a := 4) c_8 (by decide); have h5 := lv_neT (a := 5) c_10 (by decide); have h6 := lv_neT (a := 6) c_11 (by decide); have h7 := lv_neT (a := 7) c_13 (by decide); have h8 := lv_neT (a := 8) c_15 (by decide); have h9 := lv_neT (a := 9) c_16 (by decide); have h10 := lv_neT (a := 10) c_17 (by decide); have h11 := lv_neT (a := 11) c_18 (by decide); have h12 := lv_neT (a := 12) c_19 (by decide); have h13 := lv_neT (a := 13) c_21 (by decide); have h14 := lv_neT (a := 14) c_22 (by decide); have h15 := lv_neT (a := 15) c_23 (by decide); have h16 := lv_neT (a := 16) c_24 (by decide); have h17 := lv_neT (a := 17) c_26 (by decide); have h18 := lv_neT (a := 18) c_27 (by decide); have h19 := lv_neT (a := 19) c_29 (by decide); have h20 := lv_neT (a := 20) c_30 (by decide); have h21 := lv_neT (a := 21) c_31 (by decide); have h22 := lv_neT (a := 22) c_32 (by decide); have h23 := lv_neT (a := 23) c_33 (by decide); have h24 := lv_neT (a := 24) c_34 (by decide); have h25 := lv_neT (a := 25) c_36 (by decide); have h26 := lv_neT (a := 26) c_38 (by decide); have h27 := lv_neT (a := 27) c_40 (by decide); have h28 := lv_neT (a := 28) c_42 (by decide); have h29 := lv_neT (a := 29) c_43 (by decide); have h30 := lv_neT (a := 30) c_44 (by decide); have h31 := lv_neT (a := 31) c_45 (by decide); have h32 := lv_neT (a := 32) c_46 (by decide); have h33 := lv_neT (a := 33) c_48 (by decide); have h34 := lv_neT (a := 34) c_50 (by decide); have h35 := lv_neT (a := 35) c_52 (by decide); have h36 := lv_neT (a := 36) c_54 (by decide); have h37 := lv_neT (a := 37) c_56 (by decide); have h38 := lv_neT (a := 38) c_58 (by decide); have h39 := lv_neT (a := 39) c_60 (by decide); have h40 := lv_neT (a := 40) c_62 (by decide); have h41 := lv_neT (a := 41) c_63 (by decide); have h42 := lv_neT (a := 42) c_64 (by decide); have h43 := lv_neT (a := 43) c_68 (by decide); omega) (by decide) ?_
                                                                                          refine lv_iconst (v := 1) hx hb dX1_byFunction_521 (by decide) ?_
                                                                                          exact o_ret hx hb hr hlk hK hP hD hS (by rw [← hF, FM_byFunction, if_neg c_1, if_neg c_3, if_neg c_4, if_neg c_6, if_neg c_8, if_neg c_10, if_neg c_11, if_neg c_13, if_neg c_15, if_neg c_16, if_neg c_17, if_neg c_18, if_neg c_19, if_neg c_21, if_neg c_22, if_neg c_23, if_neg c_24, if_neg c_26, if_neg c_27, if_neg c_29, if_neg c_30, if_neg c_31, if_neg c_32, if_neg c_33, if_neg c_34, if_neg c_36, if_neg c_38, if_neg c_40, if_neg c_42, if_neg c_43, if_neg c_44, if_neg c_45, if_neg c_46, if_neg c_48, if_neg c_50, if_neg c_52, if_neg c_54, if_neg c_56, if_neg c_58, if_neg c_60, if_neg c_62, if_neg c_63, if_neg c_64, if_neg c_68]) dX1_byFunction_522
