set_option maxHeartbeats 4000000 in
set_option maxRecDepth 100000 in
theorem kX1_atOnce (l : Launch) (D : va_G) (q : Nat → Nat) (cA : Nat → ClassId) (sz : Nat) (σ : SM) (a1 : Int32) (hI : IM σ) : oMet l D vwCl (wM q cA) (tM cA) (q 0) sz yX1_atOnce wsX1_atOnce { frames := 3, cells := 0, slots := 0, locals := 70 } σ [.int a1] (FM_atOnce σ a1) := by
  refine o_met (cc := cX1_atOnce) (maxL := 6) (ret := some .int) (by decide) rfl (Nat.le_of_ble_eq_true rfl) ?_
  intro p e s m args below meth c A ls hx hb hr hml hts hown hlk hP hK hD hA hS hl
  have hl : lv_has ls 6 [(0, .ref (q 0)), (1, .int a1)] := hl
  have hin : ∀ w ∈ wsX10, w ∈ wsX1_atOnce := fun w h => mc (inX1 w h)
  generalize hF : FM_atOnce σ a1 = res
  refine lv_aload_n hx hb dX1_atOnce_0 rfl (lv_at hl 0 rfl) ?_
  refine getX1_mrg hx hb hts hin hown hK hP (hts _ (mc wd_303)) dX1_atOnce_1 ?_
  refine lv_iload_n hx hb dX1_atOnce_4 rfl (lv_at hl 1 rfl) ?_
  refine s_call (As := [.int a1]) (rest := [.ref (q 6)]) ⟨hx, hb, hml, hown, hts⟩ (kX1_first l a1) (cwS 1 hts (gS wd_395 wd_396 wd_39 wd_397) rfl rfl rfl (by decide +kernel) ⟨Nat.le_of_ble_eq_true rfl, Nat.le_of_ble_eq_true rfl⟩) hP hS rfl hl.1 rfl (Nat.le_of_ble_eq_true rfl) dX1_atOnce_5 (fun H locs hP hS => ?_)
  refine aldX1_mrg (f := (gmrg σ)) hx hb hK hP (im_first _) dX1_atOnce_8 rfl ?_
  refine lv_istore_n (lv' := [(2, .int ((gmrg σ) (Int32.toNatClampNeg (FM_first a1)))), (0, .ref (q 0)), (1, .int a1)]) hx hb dX1_atOnce_9 rfl hl (by decide) rfl (fun ls hl => ?_)
  refine lv_iload_n hx hb dX1_atOnce_10 rfl (lv_at hl 2 rfl) ?_
  refine s_call (As := [.int a1]) (rest := []) ⟨hx, hb, hml, hown, hts⟩ (kX1_second l a1) (cwS 1 hts (gS wd_381 wd_382 wd_39 wd_383) rfl rfl rfl (by decide +kernel) ⟨Nat.le_of_ble_eq_true rfl, Nat.le_of_ble_eq_true rfl⟩) hP hS rfl hl.1 rfl (Nat.le_of_ble_eq_true rfl) dX1_atOnce_11 (fun H locs hP hS => ?_)
  refine lv_istore_n (lv' := [(3, .int (FM_second a1)), (2, .int ((gmrg σ) (Int32.toNatClampNeg (FM_first a1)))), (0, .ref (q 0)), (1, .int a1)]) hx hb dX1_atOnce_14 rfl hl (by decide) rfl (fun ls hl => ?_)
  refine lv_iload_n hx hb dX1_atOnce_15 rfl (lv_at hl 3 rfl) ?_
  refine s_call (As := [.int a1]) (rest := []) ⟨hx, hb, hml, hown, hts⟩ (kX1_signed l a1) (cwS 1 hts (gS wd_399 wd_400 wd_39 wd_401) rfl rfl rfl (by decide +kernel) ⟨Nat.le_of_ble_eq_true rfl, Nat.le_of_ble_eq_true rfl⟩) hP hS rfl hl.1 rfl (Nat.le_of_ble_eq_true rfl) dX1_atOnce_16 (fun H locs hP hS => ?_)
  refine lv_istore (lv' := [(4, .int (FM_signed a1)), (3, .int (FM_second a1)), (2, .int ((gmrg σ) (Int32.toNatClampNeg (FM_first a1)))), (0, .ref (q 0)), (1, .int a1)]) hx hb dX1_atOnce_19 hl (by decide) rfl (fun ls hl => ?_)
  refine lv_iload_n hx hb dX1_atOnce_21 rfl (lv_at hl 4 rfl) ?_
  refine lv_ldc (v := 65535) hx hb hown (hts _ (mc wd_419)) dX1_atOnce_22 ?_
  refine lv_iand hx hb dX1_atOnce_24 ?_
  refine lv_istore (lv' := [(5, .int (a1 &&& (65535 : Int32))), (4, .int (FM_signed a1)), (3, .int (FM_second a1)), (2, .int ((gmrg σ) (Int32.toNatClampNeg (FM_first a1)))), (0, .ref (q 0)), (1, .int a1)]) hx hb dX1_atOnce_25 hl (by decide) rfl (fun ls hl => ?_)
  refine lv_iload_n hx hb dX1_atOnce_27 rfl (lv_at hl 5 rfl) ?_
  refine s_call (As := [.int a1]) (rest := []) ⟨hx, hb, hml, hown, hts⟩ (kX1_op l a1) (cwS 1 hts (gS wd_378 wd_379 wd_39 wd_380) rfl rfl rfl (by decide +kernel) ⟨Nat.le_of_ble_eq_true rfl, Nat.le_of_ble_eq_true rfl⟩) hP hS rfl hl.1 rfl (Nat.le_of_ble_eq_true rfl) dX1_atOnce_28 (fun H locs hP hS => ?_)
  by_cases c_1 : (FM_op a1) = (0 : Int32)
  · skip
    refine lv_tableIn (tgt := 220) hx hb dX1_atOnce_31 (by rw [c_1]; decide) (by rw [c_1]; decide) (by rw [c_1]; rfl) (by decide) ?_
    refine lv_aload_n hx hb dX1_atOnce_220 rfl (lv_at hl 4 rfl) ?_
    refine lv_iload_n hx hb dX1_atOnce_221 rfl (lv_at hl 5 rfl) ?_
    obtain ⟨r_2, hr_2⟩ : ∃ z, (FM_byFunction σ a1) = z := ⟨_, rfl⟩
    refine o_call (As := [.int a1]) (rest := []) (res := r_2) ⟨hx, hb, hml, hown, hts⟩ (by rw [← hr_2]; exact (kX1_byFunction l D q cA _ σ a1 hI)) (cwV 1 hts (gV wd_420 wd_422 wd_28 wd_39 wd_423) rfl rfl rfl (by decide +kernel) ⟨Nat.le_of_ble_eq_true rfl, Nat.le_of_ble_eq_true rfl⟩) hK hP hD hS hA (va_recv hK hP (ci := 1) (q0 := 0) rfl rfl) rfl hl.1 rfl (Nat.le_of_ble_eq_true rfl) dX1_atOnce_222 (fun H locs hP hD hS => ?_)
    exact o_ret hx hb hr hlk hK hP hD hS (by subst hr_2; rw [← hF, FM_atOnce, if_pos c_1]) dX1_atOnce_225
  · skip
    by_cases c_3 : (FM_op a1) = (1 : Int32)
    · skip
      refine lv_tableIn (tgt := 451) hx hb dX1_atOnce_31 (by rw [c_3]; decide) (by rw [c_3]; decide) (by rw [c_3]; rfl) (by decide) ?_
      refine lv_iconst (v := 1) hx hb dX1_atOnce_451 (by decide) ?_
      exact o_ret hx hb hr hlk hK hP hD hS (by rw [← hF, FM_atOnce, if_neg c_1, if_pos c_3]) dX1_atOnce_452
    · skip
      by_cases c_4 : (FM_op a1) = (2 : Int32)
      · skip
        refine lv_tableIn (tgt := 451) hx hb dX1_atOnce_31 (by rw [c_4]; decide) (by rw [c_4]; decide) (by rw [c_4]; rfl) (by decide) ?_
        refine lv_iconst (v := 1) hx hb dX1_atOnce_451 (by decide) ?_
        exact o_ret hx hb hr hlk hK hP hD hS (by rw [← hF, FM_atOnce, if_neg c_1, if_neg c_3, if_pos c_4]) dX1_atOnce_452
      · skip
        by_cases c_5 : (FM_op a1) = (3 : Int32)
        · skip
          refine lv_tableIn (tgt := 451) hx hb dX1_atOnce_31 (by rw [c_5]; decide) (by rw [c_5]; decide) (by rw [c_5]; rfl) (by decide) ?_
          refine lv_iconst (v := 1) hx hb dX1_atOnce_451 (by decide) ?_
          exact o_ret hx hb hr hlk hK hP hD hS (by rw [← hF, FM_atOnce, if_neg c_1, if_neg c_3, if_neg c_4, if_pos c_5]) dX1_atOnce_452
        · skip
          by_cases c_6 : (FM_op a1) = (4 : Int32)
          · skip
            refine lv_tableIn (tgt := 451) hx hb dX1_atOnce_31 (by rw [c_6]; decide) (by rw [c_6]; decide) (by rw [c_6]; rfl) (by decide) ?_
            refine lv_iconst (v := 1) hx hb dX1_atOnce_451 (by decide) ?_
            exact o_ret hx hb hr hlk hK hP hD hS (by rw [← hF, FM_atOnce, if_neg c_1, if_neg c_3, if_neg c_4, if_neg c_5, if_pos c_6]) dX1_atOnce_452
          · skip
            by_cases c_7 : (FM_op a1) = (5 : Int32)
            · skip
              refine lv_tableIn (tgt := 451) hx hb dX1_atOnce_31 (by rw [c_7]; decide) (by rw [c_7]; decide) (by rw [c_7]; rfl) (by decide) ?_
              refine lv_iconst (v := 1) hx hb dX1_atOnce_451 (by decide) ?_
              exact o_ret hx hb hr hlk hK hP hD hS (by rw [← hF, FM_atOnce, if_neg c_1, if_neg c_3, if_neg c_4, if_neg c_5, if_neg c_6, if_pos c_7]) dX1_atOnce_452
            · skip
              by_cases c_8 : (FM_op a1) = (6 : Int32)
              · skip
                refine lv_tableIn (tgt := 451) hx hb dX1_atOnce_31 (by rw [c_8]; decide) (by rw [c_8]; decide) (by rw [c_8]; rfl) (by decide) ?_
                refine lv_iconst (v := 1) hx hb dX1_atOnce_451 (by decide) ?_
                exact o_ret hx hb hr hlk hK hP hD hS (by rw [← hF, FM_atOnce, if_neg c_1, if_neg c_3, if_neg c_4, if_neg c_5, if_neg c_6, if_neg c_7, if_pos c_8]) dX1_atOnce_452
              · skip
                by_cases c_9 : (FM_op a1) = (7 : Int32)
                · skip
                  refine lv_tableIn (tgt := 451) hx hb dX1_atOnce_31 (by rw [c_9]; decide) (by rw [c_9]; decide) (by rw [c_9]; rfl) (by decide) ?_
                  refine lv_iconst (v := 1) hx hb dX1_atOnce_451 (by decide) ?_
                  exact o_ret hx hb hr hlk hK hP hD hS (by rw [← hF, FM_atOnce, if_neg c_1, if_neg c_3, if_neg c_4, if_neg c_5, if_neg c_6, if_neg c_7, if_neg c_8, if_pos c_9]) dX1_atOnce_452
                · skip
                  by_cases c_10 : (FM_op a1) = (8 : Int32)
                  · skip
                    refine lv_tableIn (tgt := 226) hx hb dX1_atOnce_31 (by rw [c_10]; decide) (by rw [c_10]; decide) (by rw [c_10]; rfl) (by decide) ?_
                    refine lv_aload_n hx hb dX1_atOnce_226 rfl (lv_at hl 4 rfl) ?_
                    refine lv_iload_n hx hb dX1_atOnce_227 rfl (lv_at hl 2 rfl) ?_
                    refine lv_iload_n hx hb dX1_atOnce_228 rfl (lv_at hl 3 rfl) ?_
                    refine lv_i2l hx hb dX1_atOnce_229 rfl ?_
                    refine lv_iload hx hb dX1_atOnce_230 (lv_at hl 1 rfl) ?_
                    refine lv_i2l hx hb dX1_atOnce_232 rfl ?_
                    refine lv_ladd hx hb dX1_atOnce_233 ?_
                    obtain ⟨r_11, hr_11⟩ : ∃ z, (FM_sum σ (FM_second a1) ((Int32.toInt64 ((gmrg σ) (Int32.toNatClampNeg (FM_first a1)))) + (Int32.toInt64 (FM_signed a1)))) = z := ⟨_, rfl⟩
                    refine o_call (As := [.int (FM_second a1), .long ((Int32.toInt64 ((gmrg σ) (Int32.toNatClampNeg (FM_first a1)))) + (Int32.toInt64 (FM_signed a1)))]) (rest := []) (res := r_11) ⟨hx, hb, hml, hown, hts⟩ (by rw [← hr_11]; exact (kX1_sum l D q cA _ σ (FM_second a1) ((Int32.toInt64 ((gmrg σ) (Int32.toNatClampNeg (FM_first a1)))) + (Int32.toInt64 (FM_signed a1))) (im_second _))) (cwV 2 hts (gV wd_445 wd_447 wd_34 wd_39 wd_448) rfl rfl rfl (by decide +kernel) ⟨Nat.le_of_ble_eq_true rfl, Nat.le_of_ble_eq_true rfl⟩) hK hP hD hS hA (va_recv hK hP (ci := 1) (q0 := 0) rfl rfl) rfl hl.1 rfl (Nat.le_of_ble_eq_true rfl) dX1_atOnce_234 (fun H locs hP hD hS => ?_)
                    exact o_ret hx hb hr hlk hK hP hD hS (by subst hr_11; rw [← hF, FM_atOnce, if_neg c_1, if_neg c_3, if_neg c_4, if_neg c_5, if_neg c_6, if_neg c_7, if_neg c_8, if_neg c_9, if_pos c_10]) dX1_atOnce_237
                  · skip
                    by_cases c_12 : (FM_op a1) = (9 : Int32)
                    · skip
                      refine lv_tableIn (tgt := 238) hx hb dX1_atOnce_31 (by rw [c_12]; decide) (by rw [c_12]; decide) (by rw [c_12]; rfl) (by decide) ?_
                      refine lv_aload_n hx hb dX1_atOnce_238 rfl (lv_at hl 4 rfl) ?_
                      refine lv_iload_n hx hb dX1_atOnce_239 rfl (lv_at hl 2 rfl) ?_
                      refine lv_iload_n hx hb dX1_atOnce_240 rfl (lv_at hl 3 rfl) ?_
                      refine lv_iload hx hb dX1_atOnce_241 (lv_at hl 1 rfl) ?_
                      refine lv_iadd hx hb dX1_atOnce_243 ?_
                      obtain ⟨r_13, hr_13⟩ : ∃ z, (FM_put σ (FM_second a1) (((gmrg σ) (Int32.toNatClampNeg (FM_first a1))) + (FM_signed a1))) = z := ⟨_, rfl⟩
                      refine o_callV (As := [.int (FM_second a1), .int (((gmrg σ) (Int32.toNatClampNeg (FM_first a1))) + (FM_signed a1))]) (rest := []) (res := r_13) ⟨hx, hb, hml, hown, hts⟩ (by rw [← hr_13]; exact (kX1_put l D q cA _ σ (FM_second a1) (((gmrg σ) (Int32.toNatClampNeg (FM_first a1))) + (FM_signed a1)) (im_second _))) (cwV 2 hts (gV wd_411 wd_413 wd_26 wd_39 wd_414) rfl rfl rfl (by decide +kernel) ⟨Nat.le_of_ble_eq_true rfl, Nat.le_of_ble_eq_true rfl⟩) hK hP hD hS hA (va_recv hK hP (ci := 1) (q0 := 0) rfl rfl) rfl hl.1 rfl (Nat.le_of_ble_eq_true rfl) dX1_atOnce_244 (fun H locs hP hD hS => ?_)
                      refine lv_iconst (v := 0) hx hb dX1_atOnce_247 (by decide) ?_
                      exact o_ret hx hb hr hlk hK hP hD hS (by subst hr_13; rw [← hF, FM_atOnce, if_neg c_1, if_neg c_3, if_neg c_4, if_neg c_5, if_neg c_6, if_neg c_7, if_neg c_8, if_neg c_9, if_neg c_10, if_pos c_12]) dX1_atOnce_248
                    · skip
                      by_cases c_14 : (FM_op a1) = (10 : Int32)
                      · skip
                        refine lv_tableIn (tgt := 249) hx hb dX1_atOnce_31 (by rw [c_14]; decide) (by rw [c_14]; decide) (by rw [c_14]; rfl) (by decide) ?_
                        refine lv_aload_n hx hb dX1_atOnce_249 rfl (lv_at hl 4 rfl) ?_
                        refine lv_iload_n hx hb dX1_atOnce_250 rfl (lv_at hl 2 rfl) ?_
                        refine lv_iload_n hx hb dX1_atOnce_251 rfl (lv_at hl 3 rfl) ?_
                        refine lv_iload hx hb dX1_atOnce_252 (lv_at hl 1 rfl) ?_
                        refine lv_icmp_ge (tgt := 261) hx hb dX1_atOnce_254 (by decide) (fun c_15 => ?_) (fun c_15 => ?_)
                        · skip
                          refine lv_iconst (v := 0) hx hb dX1_atOnce_261 (by decide) ?_
                          obtain ⟨r_16, hr_16⟩ : ∃ z, (FM_put σ (FM_second a1) (0 : Int32)) = z := ⟨_, rfl⟩
                          refine o_callV (As := [.int (FM_second a1), .int (0 : Int32)]) (rest := []) (res := r_16) ⟨hx, hb, hml, hown, hts⟩ (by rw [← hr_16]; exact (kX1_put l D q cA _ σ (FM_second a1) (0 : Int32) (im_second _))) (cwV 2 hts (gV wd_411 wd_413 wd_26 wd_39 wd_414) rfl rfl rfl (by decide +kernel) ⟨Nat.le_of_ble_eq_true rfl, Nat.le_of_ble_eq_true rfl⟩) hK hP hD hS hA (va_recv hK hP (ci := 1) (q0 := 0) rfl rfl) rfl hl.1 rfl (Nat.le_of_ble_eq_true rfl) dX1_atOnce_262 (fun H locs hP hD hS => ?_)
                          refine lv_iconst (v := 0) hx hb dX1_atOnce_265 (by decide) ?_
                          exact o_ret hx hb hr hlk hK hP hD hS (by subst hr_16; rw [← hF, FM_atOnce, if_neg c_1, if_neg c_3, if_neg c_4, if_neg c_5, if_neg c_6, if_neg c_7, if_neg c_8, if_neg c_9, if_neg c_10, if_neg c_12, if_pos c_14, if_pos c_15]) dX1_atOnce_266
                        · skip
                          refine lv_iconst (v := 1) hx hb dX1_atOnce_257 (by decide) ?_
                          refine lv_goto (tgt := 262) hx hb dX1_atOnce_258 (by decide) ?_
                          obtain ⟨r_17, hr_17⟩ : ∃ z, (FM_put σ (FM_second a1) (1 : Int32)) = z := ⟨_, rfl⟩
                          refine o_callV (As := [.int (FM_second a1), .int (1 : Int32)]) (rest := []) (res := r_17) ⟨hx, hb, hml, hown, hts⟩ (by rw [← hr_17]; exact (kX1_put l D q cA _ σ (FM_second a1) (1 : Int32) (im_second _))) (cwV 2 hts (gV wd_411 wd_413 wd_26 wd_39 wd_414) rfl rfl rfl (by decide +kernel) ⟨Nat.le_of_ble_eq_true rfl, Nat.le_of_ble_eq_true rfl⟩) hK hP hD hS hA (va_recv hK hP (ci := 1) (q0 := 0) rfl rfl) rfl hl.1 rfl (Nat.le_of_ble_eq_true rfl) dX1_atOnce_262 (fun H locs hP hD hS => ?_)
                          refine lv_iconst (v := 0) hx hb dX1_atOnce_265 (by decide) ?_
                          exact o_ret hx hb hr hlk hK hP hD hS (by subst hr_17; rw [← hF, FM_atOnce, if_neg c_1, if_neg c_3, if_neg c_4, if_neg c_5, if_neg c_6, if_neg c_7, if_neg c_8, if_neg c_9, if_neg c_10, if_neg c_12, if_pos c_14, if_neg c_15]) dX1_atOnce_266
                      · skip
                        by_cases c_18 : (FM_op a1) = (11 : Int32)
                        · skip
                          refine lv_tableIn (tgt := 267) hx hb dX1_atOnce_31 (by rw [c_18]; decide) (by rw [c_18]; decide) (by rw [c_18]; rfl) (by decide) ?_
                          refine lv_aload_n hx hb dX1_atOnce_267 rfl (lv_at hl 4 rfl) ?_
                          refine lv_iload_n hx hb dX1_atOnce_268 rfl (lv_at hl 2 rfl) ?_
                          refine lv_iload_n hx hb dX1_atOnce_269 rfl (lv_at hl 3 rfl) ?_
                          refine lv_i2l hx hb dX1_atOnce_270 rfl ?_
                          refine lv_ldc2 (v := 4294967295) hx hb hown (hts _ (mc wd_436)) dX1_atOnce_271 ?_
                          refine lv_land hx hb dX1_atOnce_274 ?_
                          refine lv_iload hx hb dX1_atOnce_275 (lv_at hl 1 rfl) ?_
                          refine lv_i2l hx hb dX1_atOnce_277 rfl ?_
                          refine lv_ldc2 (v := 4294967295) hx hb hown (hts _ (mc wd_436)) dX1_atOnce_278 ?_
                          refine lv_land hx hb dX1_atOnce_281 ?_
                          refine W.lcmp hx hb dX1_atOnce_282 ?_
                          refine lv_if_ge (tgt := 290) hx hb dX1_atOnce_283 (by decide) (fun c_19 => ?_) (fun c_19 => ?_)
                          · skip
                            refine lv_iconst (v := 0) hx hb dX1_atOnce_290 (by decide) ?_
                            obtain ⟨r_20, hr_20⟩ : ∃ z, (FM_put σ (FM_second a1) (0 : Int32)) = z := ⟨_, rfl⟩
                            refine o_callV (As := [.int (FM_second a1), .int (0 : Int32)]) (rest := []) (res := r_20) ⟨hx, hb, hml, hown, hts⟩ (by rw [← hr_20]; exact (kX1_put l D q cA _ σ (FM_second a1) (0 : Int32) (im_second _))) (cwV 2 hts (gV wd_411 wd_413 wd_26 wd_39 wd_414) rfl rfl rfl (by decide +kernel) ⟨Nat.le_of_ble_eq_true rfl, Nat.le_of_ble_eq_true rfl⟩) hK hP hD hS hA (va_recv hK hP (ci := 1) (q0 := 0) rfl rfl) rfl hl.1 rfl (Nat.le_of_ble_eq_true rfl) dX1_atOnce_291 (fun H locs hP hD hS => ?_)
                            refine lv_iconst (v := 0) hx hb dX1_atOnce_294 (by decide) ?_
                            exact o_ret hx hb hr hlk hK hP hD hS (by subst hr_20; rw [← hF, FM_atOnce, if_neg c_1, if_neg c_3, if_neg c_4, if_neg c_5, if_neg c_6, if_neg c_7, if_neg c_8, if_neg c_9, if_neg c_10, if_neg c_12, if_neg c_14, if_pos c_18, if_pos c_19]) dX1_atOnce_295
                          · skip
                            refine lv_iconst (v := 1) hx hb dX1_atOnce_286 (by decide) ?_
                            refine lv_goto (tgt := 291) hx hb dX1_atOnce_287 (by decide) ?_
                            obtain ⟨r_21, hr_21⟩ : ∃ z, (FM_put σ (FM_second a1) (1 : Int32)) = z := ⟨_, rfl⟩
                            refine o_callV (As := [.int (FM_second a1), .int (1 : Int32)]) (rest := []) (res := r_21) ⟨hx, hb, hml, hown, hts⟩ (by rw [← hr_21]; exact (kX1_put l D q cA _ σ (FM_second a1) (1 : Int32) (im_second _))) (cwV 2 hts (gV wd_411 wd_413 wd_26 wd_39 wd_414) rfl rfl rfl (by decide +kernel) ⟨Nat.le_of_ble_eq_true rfl, Nat.le_of_ble_eq_true rfl⟩) hK hP hD hS hA (va_recv hK hP (ci := 1) (q0 := 0) rfl rfl) rfl hl.1 rfl (Nat.le_of_ble_eq_true rfl) dX1_atOnce_291 (fun H locs hP hD hS => ?_)
                            refine lv_iconst (v := 0) hx hb dX1_atOnce_294 (by decide) ?_
                            exact o_ret hx hb hr hlk hK hP hD hS (by subst hr_21; rw [← hF, FM_atOnce, if_neg c_1, if_neg c_3, if_neg c_4, if_neg c_5, if_neg c_6, if_neg c_7, if_neg c_8, if_neg c_9, if_neg c_10, if_neg c_12, if_neg c_14, if_pos c_18, if_neg c_19]) dX1_atOnce_295
                        · skip
                          by_cases c_22 : (FM_op a1) = (12 : Int32)
                          · skip
                            refine lv_tableIn (tgt := 296) hx hb dX1_atOnce_31 (by rw [c_22]; decide) (by rw [c_22]; decide) (by rw [c_22]; rfl) (by decide) ?_
                            refine lv_aload_n hx hb dX1_atOnce_296 rfl (lv_at hl 4 rfl) ?_
                            refine lv_iload_n hx hb dX1_atOnce_297 rfl (lv_at hl 2 rfl) ?_
                            refine lv_iload_n hx hb dX1_atOnce_298 rfl (lv_at hl 3 rfl) ?_
                            refine lv_iload hx hb dX1_atOnce_299 (lv_at hl 0 rfl) ?_
                            refine lv_iand hx hb dX1_atOnce_301 ?_
                            obtain ⟨r_23, hr_23⟩ : ∃ z, (FM_put σ (FM_second a1) (((gmrg σ) (Int32.toNatClampNeg (FM_first a1))) &&& (a1 &&& (65535 : Int32)))) = z := ⟨_, rfl⟩
                            refine o_callV (As := [.int (FM_second a1), .int (((gmrg σ) (Int32.toNatClampNeg (FM_first a1))) &&& (a1 &&& (65535 : Int32)))]) (rest := []) (res := r_23) ⟨hx, hb, hml, hown, hts⟩ (by rw [← hr_23]; exact (kX1_put l D q cA _ σ (FM_second a1) (((gmrg σ) (Int32.toNatClampNeg (FM_first a1))) &&& (a1 &&& (65535 : Int32))) (im_second _))) (cwV 2 hts (gV wd_411 wd_413 wd_26 wd_39 wd_414) rfl rfl rfl (by decide +kernel) ⟨Nat.le_of_ble_eq_true rfl, Nat.le_of_ble_eq_true rfl⟩) hK hP hD hS hA (va_recv hK hP (ci := 1) (q0 := 0) rfl rfl) rfl hl.1 rfl (Nat.le_of_ble_eq_true rfl) dX1_atOnce_302 (fun H locs hP hD hS => ?_)
                            refine lv_iconst (v := 0) hx hb dX1_atOnce_305 (by decide) ?_
                            exact o_ret hx hb hr hlk hK hP hD hS (by subst hr_23; rw [← hF, FM_atOnce, if_neg c_1, if_neg c_3, if_neg c_4, if_neg c_5, if_neg c_6, if_neg c_7, if_neg c_8, if_neg c_9, if_neg c_10, if_neg c_12, if_neg c_14, if_neg c_18, if_pos c_22]) dX1_atOnce_306
                          · skip
                            by_cases c_24 : (FM_op a1) = (13 : Int32)
                            · skip
                              refine lv_tableIn (tgt := 307) hx hb dX1_atOnce_31 (by rw [c_24]; decide) (by rw [c_24]; decide) (by rw [c_24]; rfl) (by decide) ?_
                              refine lv_aload_n hx hb dX1_atOnce_307 rfl (lv_at hl 4 rfl) ?_
                              refine lv_iload_n hx hb dX1_atOnce_308 rfl (lv_at hl 2 rfl) ?_
                              refine lv_iload_n hx hb dX1_atOnce_309 rfl (lv_at hl 3 rfl) ?_
                              refine lv_iload hx hb dX1_atOnce_310 (lv_at hl 0 rfl) ?_
                              refine lv_ior hx hb dX1_atOnce_312 ?_
                              obtain ⟨r_25, hr_25⟩ : ∃ z, (FM_put σ (FM_second a1) (((gmrg σ) (Int32.toNatClampNeg (FM_first a1))) ||| (a1 &&& (65535 : Int32)))) = z := ⟨_, rfl⟩
                              refine o_callV (As := [.int (FM_second a1), .int (((gmrg σ) (Int32.toNatClampNeg (FM_first a1))) ||| (a1 &&& (65535 : Int32)))]) (rest := []) (res := r_25) ⟨hx, hb, hml, hown, hts⟩ (by rw [← hr_25]; exact (kX1_put l D q cA _ σ (FM_second a1) (((gmrg σ) (Int32.toNatClampNeg (FM_first a1))) ||| (a1 &&& (65535 : Int32))) (im_second _))) (cwV 2 hts (gV wd_411 wd_413 wd_26 wd_39 wd_414) rfl rfl rfl (by decide +kernel) ⟨Nat.le_of_ble_eq_true rfl, Nat.le_of_ble_eq_true rfl⟩) hK hP hD hS hA (va_recv hK hP (ci := 1) (q0 := 0) rfl rfl) rfl hl.1 rfl (Nat.le_of_ble_eq_true rfl) dX1_atOnce_313 (fun H locs hP hD hS => ?_)
                              refine lv_iconst (v := 0) hx hb dX1_atOnce_316 (by decide) ?_
                              exact o_ret hx hb hr hlk hK hP hD hS (by subst hr_25; rw [← hF, FM_atOnce, if_neg c_1, if_neg c_3, if_neg c_4, if_neg c_5, if_neg c_6, if_neg c_7, if_neg c_8, if_neg c_9, if_neg c_10, if_neg c_12, if_neg c_14, if_neg c_18, if_neg c_22, if_pos c_24]) dX1_atOnce_317
                            · skip
                              by_cases c_26 : (FM_op a1) = (14 : Int32)
                              · skip
                                refine lv_tableIn (tgt := 318) hx hb dX1_atOnce_31 (by rw [c_26]; decide) (by rw [c_26]; decide) (by rw [c_26]; rfl) (by decide) ?_
                                refine lv_aload_n hx hb dX1_atOnce_318 rfl (lv_at hl 4 rfl) ?_
                                refine lv_iload_n hx hb dX1_atOnce_319 rfl (lv_at hl 2 rfl) ?_
                                refine lv_iload_n hx hb dX1_atOnce_320 rfl (lv_at hl 3 rfl) ?_
                                refine lv_iload hx hb dX1_atOnce_321 (lv_at hl 0 rfl) ?_
                                refine lv_ixor hx hb dX1_atOnce_323 ?_
                                obtain ⟨r_27, hr_27⟩ : ∃ z, (FM_put σ (FM_second a1) (((gmrg σ) (Int32.toNatClampNeg (FM_first a1))) ^^^ (a1 &&& (65535 : Int32)))) = z := ⟨_, rfl⟩
                                refine o_callV (As := [.int (FM_second a1), .int (((gmrg σ) (Int32.toNatClampNeg (FM_first a1))) ^^^ (a1 &&& (65535 : Int32)))]) (rest := []) (res := r_27) ⟨hx, hb, hml, hown, hts⟩ (by rw [← hr_27]; exact (kX1_put l D q cA _ σ (FM_second a1) (((gmrg σ) (Int32.toNatClampNeg (FM_first a1))) ^^^ (a1 &&& (65535 : Int32))) (im_second _))) (cwV 2 hts (gV wd_411 wd_413 wd_26 wd_39 wd_414) rfl rfl rfl (by decide +kernel) ⟨Nat.le_of_ble_eq_true rfl, Nat.le_of_ble_eq_true rfl⟩) hK hP hD hS hA (va_recv hK hP (ci := 1) (q0 := 0) rfl rfl) rfl hl.1 rfl (Nat.le_of_ble_eq_true rfl) dX1_atOnce_324 (fun H locs hP hD hS => ?_)
                                refine lv_iconst (v := 0) hx hb dX1_atOnce_327 (by decide) ?_
                                exact o_ret hx hb hr hlk hK hP hD hS (by subst hr_27; rw [← hF, FM_atOnce, if_neg c_1, if_neg c_3, if_neg c_4, if_neg c_5, if_neg c_6, if_neg c_7, if_neg c_8, if_neg c_9, if_neg c_10, if_neg c_12, if_neg c_14, if_neg c_18, if_neg c_22, if_neg c_24, if_pos c_26]) dX1_atOnce_328
                              · skip
                                by_cases c_28 : (FM_op a1) = (15 : Int32)
                                · skip
                                  refine lv_tableIn (tgt := 329) hx hb dX1_atOnce_31 (by rw [c_28]; decide) (by rw [c_28]; decide) (by rw [c_28]; rfl) (by decide) ?_
                                  refine lv_aload_n hx hb dX1_atOnce_329 rfl (lv_at hl 4 rfl) ?_
                                  refine lv_iload_n hx hb dX1_atOnce_330 rfl (lv_at hl 2 rfl) ?_
                                  refine lv_iload hx hb dX1_atOnce_331 (lv_at hl 0 rfl) ?_
                                  refine lv_bipush (v := 16) hx hb dX1_atOnce_333 (by decide) ?_
                                  refine lv_ishl hx hb dX1_atOnce_335 ?_
                                  obtain ⟨r_29, hr_29⟩ : ∃ z, (FM_put σ (FM_second a1) ((a1 &&& (65535 : Int32)) <<< ((16 : Int32) &&& 31))) = z := ⟨_, rfl⟩
                                  refine o_callV (As := [.int (FM_second a1), .int ((a1 &&& (65535 : Int32)) <<< ((16 : Int32) &&& 31))]) (rest := []) (res := r_29) ⟨hx, hb, hml, hown, hts⟩ (by rw [← hr_29]; exact (kX1_put l D q cA _ σ (FM_second a1) ((a1 &&& (65535 : Int32)) <<< ((16 : Int32) &&& 31)) (im_second _))) (cwV 2 hts (gV wd_411 wd_413 wd_26 wd_39 wd_414) rfl rfl rfl (by decide +kernel) ⟨Nat.le_of_ble_eq_true rfl, Nat.le_of_ble_eq_true rfl⟩) hK hP hD hS hA (va_recv hK hP (ci := 1) (q0 := 0) rfl rfl) rfl hl.1 rfl (Nat.le_of_ble_eq_true rfl) dX1_atOnce_336 (fun H locs hP hD hS => ?_)
                                  refine lv_iconst (v := 0) hx hb dX1_atOnce_339 (by decide) ?_
                                  exact o_ret hx hb hr hlk hK hP hD hS (by subst hr_29; rw [← hF, FM_atOnce, if_neg c_1, if_neg c_3, if_neg c_4, if_neg c_5, if_neg c_6, if_neg c_7, if_neg c_8, if_neg c_9, if_neg c_10, if_neg c_12, if_neg c_14, if_neg c_18, if_neg c_22, if_neg c_24, if_neg c_26, if_pos c_28]) dX1_atOnce_340
                                · skip
                                  by_cases c_30 : (FM_op a1) = (16 : Int32)
                                  · skip
                                    refine lv_tableIn (tgt := 451) hx hb dX1_atOnce_31 (by rw [c_30]; decide) (by rw [c_30]; decide) (by rw [c_30]; rfl) (by decide) ?_
                                    refine lv_iconst (v := 1) hx hb dX1_atOnce_451 (by decide) ?_
                                    exact o_ret hx hb hr hlk hK hP hD hS (by rw [← hF, FM_atOnce, if_neg c_1, if_neg c_3, if_neg c_4, if_neg c_5, if_neg c_6, if_neg c_7, if_neg c_8, if_neg c_9, if_neg c_10, if_neg c_12, if_neg c_14, if_neg c_18, if_neg c_22, if_neg c_24, if_neg c_26, if_neg c_28, if_pos c_30]) dX1_atOnce_452
                                  · skip
                                    by_cases c_31 : (FM_op a1) = (17 : Int32)
                                    · skip
                                      refine lv_tableIn (tgt := 451) hx hb dX1_atOnce_31 (by rw [c_31]; decide) (by rw [c_31]; decide) (by rw [c_31]; rfl) (by decide) ?_
                                      refine lv_iconst (v := 1) hx hb dX1_atOnce_451 (by decide) ?_
                                      exact o_ret hx hb hr hlk hK hP hD hS (by rw [← hF, FM_atOnce, if_neg c_1, if_neg c_3, if_neg c_4, if_neg c_5, if_neg c_6, if_neg c_7, if_neg c_8, if_neg c_9, if_neg c_10, if_neg c_12, if_neg c_14, if_neg c_18, if_neg c_22, if_neg c_24, if_neg c_26, if_neg c_28, if_neg c_30, if_pos c_31]) dX1_atOnce_452
                                    · skip
                                      by_cases c_32 : (FM_op a1) = (18 : Int32)
                                      · skip
                                        refine lv_tableIn (tgt := 451) hx hb dX1_atOnce_31 (by rw [c_32]; decide) (by rw [c_32]; decide) (by rw [c_32]; rfl) (by decide) ?_
                                        refine lv_iconst (v := 1) hx hb dX1_atOnce_451 (by decide) ?_
                                        exact o_ret hx hb hr hlk hK hP hD hS (by rw [← hF, FM_atOnce, if_neg c_1, if_neg c_3, if_neg c_4, if_neg c_5, if_neg c_6, if_neg c_7, if_neg c_8, if_neg c_9, if_neg c_10, if_neg c_12, if_neg c_14, if_neg c_18, if_neg c_22, if_neg c_24, if_neg c_26, if_neg c_28, if_neg c_30, if_neg c_31, if_pos c_32]) dX1_atOnce_452
                                      · skip
                                        by_cases c_33 : (FM_op a1) = (19 : Int32)
                                        · skip
                                          refine lv_tableIn (tgt := 451) hx hb dX1_atOnce_31 (by rw [c_33]; decide) (by rw [c_33]; decide) (by rw [c_33]; rfl) (by decide) ?_
                                          refine lv_iconst (v := 1) hx hb dX1_atOnce_451 (by decide) ?_
                                          exact o_ret hx hb hr hlk hK hP hD hS (by rw [← hF, FM_atOnce, if_neg c_1, if_neg c_3, if_neg c_4, if_neg c_5, if_neg c_6, if_neg c_7, if_neg c_8, if_neg c_9, if_neg c_10, if_neg c_12, if_neg c_14, if_neg c_18, if_neg c_22, if_neg c_24, if_neg c_26, if_neg c_28, if_neg c_30, if_neg c_31, if_neg c_32, if_pos c_33]) dX1_atOnce_452
                                        · skip
                                          by_cases c_34 : (FM_op a1) = (20 : Int32)
                                          · skip
                                            refine lv_tableIn (tgt := 451) hx hb dX1_atOnce_31 (by rw [c_34]; decide) (by rw [c_34]; decide) (by rw [c_34]; rfl) (by decide) ?_
                                            refine lv_iconst (v := 1) hx hb dX1_atOnce_451 (by decide) ?_
                                            exact o_ret hx hb hr hlk hK hP hD hS (by rw [← hF, FM_atOnce, if_neg c_1, if_neg c_3, if_neg c_4, if_neg c_5, if_neg c_6, if_neg c_7, if_neg c_8, if_neg c_9, if_neg c_10, if_neg c_12, if_neg c_14, if_neg c_18, if_neg c_22, if_neg c_24, if_neg c_26, if_neg c_28, if_neg c_30, if_neg c_31, if_neg c_32, if_neg c_33, if_pos c_34]) dX1_atOnce_452
                                          · skip
                                            by_cases c_35 : (FM_op a1) = (21 : Int32)
                                            · skip
                                              refine lv_tableIn (tgt := 451) hx hb dX1_atOnce_31 (by rw [c_35]; decide) (by rw [c_35]; decide) (by rw [c_35]; rfl) (by decide) ?_
                                              refine lv_iconst (v := 1) hx hb dX1_atOnce_451 (by decide) ?_
                                              exact o_ret hx hb hr hlk hK hP hD hS (by rw [← hF, FM_atOnce, if_neg c_1, if_neg c_3, if_neg c_4, if_neg c_5, if_neg c_6, if_neg c_7, if_neg c_8, if_neg c_9, if_neg c_10, if_neg c_12, if_neg c_14, if_neg c_18, if_neg c_22, if_neg c_24, if_neg c_26, if_neg c_28, if_neg c_30, if_neg c_31, if_neg c_32, if_neg c_33, if_neg c_34, if_pos c_35]) dX1_atOnce_452
                                            · skip
                                              by_cases c_36 : (FM_op a1) = (22 : Int32)
                                              · skip
                                                refine lv_tableIn (tgt := 451) hx hb dX1_atOnce_31 (by rw [c_36]; decide) (by rw [c_36]; decide) (by rw [c_36]; rfl) (by decide) ?_
                                                refine lv_iconst (v := 1) hx hb dX1_atOnce_451 (by decide) ?_
                                                exact o_ret hx hb hr hlk hK hP hD hS (by rw [← hF, FM_atOnce, if_neg c_1, if_neg c_3, if_neg c_4, if_neg c_5, if_neg c_6, if_neg c_7, if_neg c_8, if_neg c_9, if_neg c_10, if_neg c_12, if_neg c_14, if_neg c_18, if_neg c_22, if_neg c_24, if_neg c_26, if_neg c_28, if_neg c_30, if_neg c_31, if_neg c_32, if_neg c_33, if_neg c_34, if_neg c_35, if_pos c_36]) dX1_atOnce_452
                                              · skip
                                                by_cases c_37 : (FM_op a1) = (23 : Int32)
                                                · skip
                                                  refine lv_tableIn (tgt := 451) hx hb dX1_atOnce_31 (by rw [c_37]; decide) (by rw [c_37]; decide) (by rw [c_37]; rfl) (by decide) ?_
                                                  refine lv_iconst (v := 1) hx hb dX1_atOnce_451 (by decide) ?_
                                                  exact o_ret hx hb hr hlk hK hP hD hS (by rw [← hF, FM_atOnce, if_neg c_1, if_neg c_3, if_neg c_4, if_neg c_5, if_neg c_6, if_neg c_7, if_neg c_8, if_neg c_9, if_neg c_10, if_neg c_12, if_neg c_14, if_neg c_18, if_neg c_22, if_neg c_24, if_neg c_26, if_neg c_28, if_neg c_30, if_neg c_31, if_neg c_32, if_neg c_33, if_neg c_34, if_neg c_35, if_neg c_36, if_pos c_37]) dX1_atOnce_452
                                                · skip
                                                  by_cases c_38 : (FM_op a1) = (24 : Int32)
                                                  · skip
                                                    refine lv_tableIn (tgt := 451) hx hb dX1_atOnce_31 (by rw [c_38]; decide) (by rw [c_38]; decide) (by rw [c_38]; rfl) (by decide) ?_
                                                    refine lv_iconst (v := 1) hx hb dX1_atOnce_451 (by decide) ?_
                                                    exact o_ret hx hb hr hlk hK hP hD hS (by rw [← hF, FM_atOnce, if_neg c_1, if_neg c_3, if_neg c_4, if_neg c_5, if_neg c_6, if_neg c_7, if_neg c_8, if_neg c_9, if_neg c_10, if_neg c_12, if_neg c_14, if_neg c_18, if_neg c_22, if_neg c_24, if_neg c_26, if_neg c_28, if_neg c_30, if_neg c_31, if_neg c_32, if_neg c_33, if_neg c_34, if_neg c_35, if_neg c_36, if_neg c_37, if_pos c_38]) dX1_atOnce_452
                                                  · skip
                                                    by_cases c_39 : (FM_op a1) = (25 : Int32)
                                                    · skip
                                                      refine lv_tableIn (tgt := 451) hx hb dX1_atOnce_31 (by rw [c_39]; decide) (by rw [c_39]; decide) (by rw [c_39]; rfl) (by decide) ?_
                                                      refine lv_iconst (v := 1) hx hb dX1_atOnce_451 (by decide) ?_
                                                      exact o_ret hx hb hr hlk hK hP hD hS (by rw [← hF, FM_atOnce, if_neg c_1, if_neg c_3, if_neg c_4, if_neg c_5, if_neg c_6, if_neg c_7, if_neg c_8, if_neg c_9, if_neg c_10, if_neg c_12, if_neg c_14, if_neg c_18, if_neg c_22, if_neg c_24, if_neg c_26, if_neg c_28, if_neg c_30, if_neg c_31, if_neg c_32, if_neg c_33, if_neg c_34, if_neg c_35, if_neg c_36, if_neg c_37, if_neg c_38, if_pos c_39]) dX1_atOnce_452
                                                    · skip
                                                      by_cases c_40 : (FM_op a1) = (26 : Int32)
                                                      · skip
                                                        refine lv_tableIn (tgt := 451) hx hb dX1_atOnce_31 (by rw [c_40]; decide) (by rw [c_40]; decide) (by rw [c_40]; rfl) (by decide) ?_
                                                        refine lv_iconst (v := 1) hx hb dX1_atOnce_451 (by decide) ?_
                                                        exact o_ret hx hb hr hlk hK hP hD hS (by rw [← hF, FM_atOnce, if_neg c_1, if_neg c_3, if_neg c_4, if_neg c_5, if_neg c_6, if_neg c_7, if_neg c_8, if_neg c_9, if_neg c_10, if_neg c_12, if_neg c_14, if_neg c_18, if_neg c_22, if_neg c_24, if_neg c_26, if_neg c_28, if_neg c_30, if_neg c_31, if_neg c_32, if_neg c_33, if_neg c_34, if_neg c_35, if_neg c_36, if_neg c_37, if_neg c_38, if_neg c_39, if_pos c_40]) dX1_atOnce_452
                                                      · skip
                                                        by_cases c_41 : (FM_op a1) = (27 : Int32)
                                                        · skip
                                                          refine lv_tableIn (tgt := 451) hx hb dX1_atOnce_31 (by rw [c_41]; decide) (by rw [c_41]; decide) (by rw [c_41]; rfl) (by decide) ?_
                                                          refine lv_iconst (v := 1) hx hb dX1_atOnce_451 (by decide) ?_
                                                          exact o_ret hx hb hr hlk hK hP hD hS (by rw [← hF, FM_atOnce, if_neg c_1, if_neg c_3, if_neg c_4, if_neg c_5, if_neg c_6, if_neg c_7, if_neg c_8, if_neg c_9, if_neg c_10, if_neg c_12, if_neg c_14, if_neg c_18, if_neg c_22, if_neg c_24, if_neg c_26, if_neg c_28, if_neg c_30, if_neg c_31, if_neg c_32, if_neg c_33, if_neg c_34, if_neg c_35, if_neg c_36, if_neg c_37, if_neg c_38, if_neg c_39, if_neg c_40, if_pos c_41]) dX1_atOnce_452
                                                        · skip
                                                          by_cases c_42 : (FM_op a1) = (28 : Int32)
                                                          · skip
                                                            refine lv_tableIn (tgt := 451) hx hb dX1_atOnce_31 (by rw [c_42]; decide) (by rw [c_42]; decide) (by rw [c_42]; rfl) (by decide) ?_
                                                            refine lv_iconst (v := 1) hx hb dX1_atOnce_451 (by decide) ?_
                                                            exact o_ret hx hb hr hlk hK hP hD hS (by rw [← hF, FM_atOnce, if_neg c_1, if_neg c_3, if_neg c_4, if_neg c_5, if_neg c_6, if_neg c_7, if_neg c_8, if_neg c_9, if_neg c_10, if_neg c_12, if_neg c_14, if_neg c_18, if_neg c_22, if_neg c_24, if_neg c_26, if_neg c_28, if_neg c_30, if_neg c_31, if_neg c_32, if_neg c_33, if_neg c_34, if_neg c_35, if_neg c_36, if_neg c_37, if_neg c_38, if_neg c_39, if_neg c_40, if_neg c_41, if_pos c_42]) dX1_atOnce_452
                                                          · skip
                                                            by_cases c_43 : (FM_op a1) = (29 : Int32)
                                                            · skip
                                                              refine lv_tableIn (tgt := 451) hx hb dX1_atOnce_31 (by rw [c_43]; decide) (by rw [c_43]; decide) (by rw [c_43]; rfl) (by decide) ?_
                                                              refine lv_iconst (v := 1) hx hb dX1_atOnce_451 (by decide) ?_
                                                              exact o_ret hx hb hr hlk hK hP hD hS (by rw [← hF, FM_atOnce, if_neg c_1, if_neg c_3, if_neg c_4, if_neg c_5, if_neg c_6, if_neg c_7, if_neg c_8, if_neg c_9, if_neg c_10, if_neg c_12, if_neg c_14, if_neg c_18, if_neg c_22, if_neg c_24, if_neg c_26, if_neg c_28, if_neg c_30, if_neg c_31, if_neg c_32, if_neg c_33, if_neg c_34, if_neg c_35, if_neg c_36, if_neg c_37, if_neg c_38, if_neg c_39, if_neg c_40, if_neg c_41, if_neg c_42, if_pos c_43]) dX1_atOnce_452
                                                            · skip
                                                              by_cases c_44 : (FM_op a1) = (30 : Int32)
                                                              · skip
                                                                refine lv_tableIn (tgt := 451) hx hb dX1_atOnce_31 (by rw [c_44]; decide) (by rw [c_44]; decide) (by rw [c_44]; rfl) (by decide) ?_
                                                                refine lv_iconst (v := 1) hx hb dX1_atOnce_451 (by decide) ?_
                                                                exact o_ret hx hb hr hlk hK hP hD hS (by rw [← hF, FM_atOnce, if_neg c_1, if_neg c_3, if_neg c_4, if_neg c_5, if_neg c_6, if_neg c_7, if_neg c_8, if_neg c_9, if_neg c_10, if_neg c_12, if_neg c_14, if_neg c_18, if_neg c_22, if_neg c_24, if_neg c_26, if_neg c_28, if_neg c_30, if_neg c_31, if_neg c_32, if_neg c_33, if_neg c_34, if_neg c_35, if_neg c_36, if_neg c_37, if_neg c_38, if_neg c_39, if_neg c_40, if_neg c_41, if_neg c_42, if_neg c_43, if_pos c_44]) dX1_atOnce_452
                                                              · skip
                                                                by_cases c_45 : (FM_op a1) = (31 : Int32)
                                                                · skip
                                                                  refine lv_tableIn (tgt := 451) hx hb dX1_atOnce_31 (by rw [c_45]; decide) (by rw [c_45]; decide) (by rw [c_45]; rfl) (by decide) ?_
                                                                  refine lv_iconst (v := 1) hx hb dX1_atOnce_451 (by decide) ?_
                                                                  exact o_ret hx hb hr hlk hK hP hD hS (by rw [← hF, FM_atOnce, if_neg c_1, if_neg c_3, if_neg c_4, if_neg c_5, if_neg c_6, if_neg c_7, if_neg c_8, if_neg c_9, if_neg c_10, if_neg c_12, if_neg c_14, if_neg c_18, if_neg c_22, if_neg c_24, if_neg c_26, if_neg c_28, if_neg c_30, if_neg c_31, if_neg c_32, if_neg c_33, if_neg c_34, if_neg c_35, if_neg c_36, if_neg c_37, if_neg c_38, if_neg c_39, if_neg c_40, if_neg c_41, if_neg c_42, if_neg c_43, if_neg c_44, if_pos c_45]) dX1_atOnce_452
                                                                · skip
                                                                  by_cases c_46 : (FM_op a1) = (32 : Int32)
                                                                  · skip
                                                                    refine lv_tableIn (tgt := 341) hx hb dX1_atOnce_31 (by rw [c_46]; decide) (by rw [c_46]; decide) (by rw [c_46]; rfl) (by decide) ?_
                                                                    refine lv_aload_n hx hb dX1_atOnce_341 rfl (lv_at hl 4 rfl) ?_
                                                                    refine lv_iload_n hx hb dX1_atOnce_342 rfl (lv_at hl 2 rfl) ?_
                                                                    refine lv_iload_n hx hb dX1_atOnce_343 rfl (lv_at hl 3 rfl) ?_
                                                                    refine lv_iload hx hb dX1_atOnce_344 (lv_at hl 1 rfl) ?_
                                                                    refine lv_iadd hx hb dX1_atOnce_346 ?_
                                                                    refine lv_iconst (v := 1) hx hb dX1_atOnce_347 (by decide) ?_
                                                                    refine lv_iload_n hx hb dX1_atOnce_348 rfl (lv_at hl 5 rfl) ?_
                                                                    refine s_call (As := [.int a1]) (rest := [.int (1 : Int32), .int (((gmrg σ) (Int32.toNatClampNeg (FM_first a1))) + (FM_signed a1)), .int (FM_second a1), .ref (q 0)]) ⟨hx, hb, hml, hown, hts⟩ (kX1_op l a1) (cwS 1 hts (gS wd_378 wd_379 wd_39 wd_380) rfl rfl rfl (by decide +kernel) ⟨Nat.le_of_ble_eq_true rfl, Nat.le_of_ble_eq_true rfl⟩) hP hS rfl hl.1 rfl (Nat.le_of_ble_eq_true rfl) dX1_atOnce_349 (fun H locs hP hS => ?_)
                                                                    refine lv_bipush (v := 32) hx hb dX1_atOnce_352 (by decide) ?_
                                                                    refine lv_icmp_ne (tgt := 361) hx hb dX1_atOnce_354 (by decide) (fun c0 => absurd c_46 c0) (fun _ => ?_)
                                                                    refine lv_iconst (v := 1) hx hb dX1_atOnce_357 (by decide) ?_
                                                                    refine lv_goto (tgt := 362) hx hb dX1_atOnce_358 (by decide) ?_
                                                                    obtain ⟨r_47, hr_47⟩ : ∃ z, (FM_load σ (FM_second a1) (((gmrg σ) (Int32.toNatClampNeg (FM_first a1))) + (FM_signed a1)) (1 : Int32) (1 : Int32)) = z := ⟨_, rfl⟩
                                                                    refine o_call (As := [.int (FM_second a1), .int (((gmrg σ) (Int32.toNatClampNeg (FM_first a1))) + (FM_signed a1)), .int (1 : Int32), .int (1 : Int32)]) (rest := []) (res := r_47) ⟨hx, hb, hml, hown, hts⟩ (by rw [← hr_47]; exact (kX1_load l D q cA _ σ (FM_second a1) (((gmrg σ) (Int32.toNatClampNeg (FM_first a1))) + (FM_signed a1)) (1 : Int32) (1 : Int32) ⟨im_second _, b3_1⟩)) (cwV 4 hts (gV wd_449 wd_451 wd_35 wd_39 wd_452) rfl rfl rfl (by decide +kernel) ⟨Nat.le_of_ble_eq_true rfl, Nat.le_of_ble_eq_true rfl⟩) hK hP hD hS hA (va_recv hK hP (ci := 1) (q0 := 0) rfl rfl) rfl hl.1 rfl (Nat.le_of_ble_eq_true rfl) dX1_atOnce_362 (fun H locs hP hD hS => ?_)
                                                                    exact o_ret hx hb hr hlk hK hP hD hS (by subst hr_47; rw [← hF, FM_atOnce, if_neg c_1, if_neg c_3, if_neg c_4, if_neg c_5, if_neg c_6, if_neg c_7, if_neg c_8, if_neg c_9, if_neg c_10, if_neg c_12, if_neg c_14, if_neg c_18, if_neg c_22, if_neg c_24, if_neg c_26, if_neg c_28, if_neg c_30, if_neg c_31, if_neg c_32, if_neg c_33, if_neg c_34, if_neg c_35, if_neg c_36, if_neg c_37, if_neg c_38, if_neg c_39, if_neg c_40, if_neg c_41, if_neg c_42, if_neg c_43, if_neg c_44, if_neg c_45, if_pos c_46]) dX1_atOnce_365
                                                                  · skip
                                                                    by_cases c_48 : (FM_op a1) = (33 : Int32)
                                                                    · skip
                                                                      refine lv_tableIn (tgt := 366) hx hb dX1_atOnce_31 (by rw [c_48]; decide) (by rw [c_48]; decide) (by rw [c_48]; rfl) (by decide) ?_
                                                                      refine lv_aload_n hx hb dX1_atOnce_366 rfl (lv_at hl 4 rfl) ?_
                                                                      refine lv_iload_n hx hb dX1_atOnce_367 rfl (lv_at hl 2 rfl) ?_
                                                                      refine lv_iload_n hx hb dX1_atOnce_368 rfl (lv_at hl 3 rfl) ?_
                                                                      refine lv_iload hx hb dX1_atOnce_369 (lv_at hl 1 rfl) ?_
                                                                      refine lv_iadd hx hb dX1_atOnce_371 ?_
                                                                      refine lv_iconst (v := 2) hx hb dX1_atOnce_372 (by decide) ?_
                                                                      refine lv_iload_n hx hb dX1_atOnce_373 rfl (lv_at hl 5 rfl) ?_
                                                                      refine s_call (As := [.int a1]) (rest := [.int (2 : Int32), .int (((gmrg σ) (Int32.toNatClampNeg (FM_first a1))) + (FM_signed a1)), .int (FM_second a1), .ref (q 0)]) ⟨hx, hb, hml, hown, hts⟩ (kX1_op l a1) (cwS 1 hts (gS wd_378 wd_379 wd_39 wd_380) rfl rfl rfl (by decide +kernel) ⟨Nat.le_of_ble_eq_true rfl, Nat.le_of_ble_eq_true rfl⟩) hP hS rfl hl.1 rfl (Nat.le_of_ble_eq_true rfl) dX1_atOnce_374 (fun H locs hP hS => ?_)
                                                                      refine lv_bipush (v := 33) hx hb dX1_atOnce_377 (by decide) ?_
                                                                      refine lv_icmp_ne (tgt := 386) hx hb dX1_atOnce_379 (by decide) (fun c0 => absurd c_48 c0) (fun _ => ?_)
                                                                      refine lv_iconst (v := 1) hx hb dX1_atOnce_382 (by decide) ?_
                                                                      refine lv_goto (tgt := 387) hx hb dX1_atOnce_383 (by decide) ?_
                                                                      obtain ⟨r_49, hr_49⟩ : ∃ z, (FM_load σ (FM_second a1) (((gmrg σ) (Int32.toNatClampNeg (FM_first a1))) + (FM_signed a1)) (2 : Int32) (1 : Int32)) = z := ⟨_, rfl⟩
                                                                      refine o_call (As := [.int (FM_second a1), .int (((gmrg σ) (Int32.toNatClampNeg (FM_first a1))) + (FM_signed a1)), .int (2 : Int32), .int (1 : Int32)]) (rest := []) (res := r_49) ⟨hx, hb, hml, hown, hts⟩ (by rw [← hr_49]; exact (kX1_load l D q cA _ σ (FM_second a1) (((gmrg σ) (Int32.toNatClampNeg (FM_first a1))) + (FM_signed a1)) (2 : Int32) (1 : Int32) ⟨im_second _, b3_2⟩)) (cwV 4 hts (gV wd_449 wd_451 wd_35 wd_39 wd_452) rfl rfl rfl (by decide +kernel) ⟨Nat.le_of_ble_eq_true rfl, Nat.le_of_ble_eq_true rfl⟩) hK hP hD hS hA (va_recv hK hP (ci := 1) (q0 := 0) rfl rfl) rfl hl.1 rfl (Nat.le_of_ble_eq_true rfl) dX1_atOnce_387 (fun H locs hP hD hS => ?_)
                                                                      exact o_ret hx hb hr hlk hK hP hD hS (by subst hr_49; rw [← hF, FM_atOnce, if_neg c_1, if_neg c_3, if_neg c_4, if_neg c_5, if_neg c_6, if_neg c_7, if_neg c_8, if_neg c_9, if_neg c_10, if_neg c_12, if_neg c_14, if_neg c_18, if_neg c_22, if_neg c_24, if_neg c_26, if_neg c_28, if_neg c_30, if_neg c_31, if_neg c_32, if_neg c_33, if_neg c_34, if_neg c_35, if_neg c_36, if_neg c_37, if_neg c_38, if_neg c_39, if_neg c_40, if_neg c_41, if_neg c_42, if_neg c_43, if_neg c_44, if_neg c_45, if_neg c_46, if_pos c_48]) dX1_atOnce_390
                                                                    · skip
                                                                      by_cases c_50 : (FM_op a1) = (34 : Int32)
                                                                      · skip
                                                                        refine lv_tableIn (tgt := 451) hx hb dX1_atOnce_31 (by rw [c_50]; decide) (by rw [c_50]; decide) (by rw [c_50]; rfl) (by decide) ?_
                                                                        refine lv_iconst (v := 1) hx hb dX1_atOnce_451 (by decide) ?_
                                                                        exact o_ret hx hb hr hlk hK hP hD hS (by rw [← hF, FM_atOnce, if_neg c_1, if_neg c_3, if_neg c_4, if_neg c_5, if_neg c_6, if_neg c_7, if_neg c_8, if_neg c_9, if_neg c_10, if_neg c_12, if_neg c_14, if_neg c_18, if_neg c_22, if_neg c_24, if_neg c_26, if_neg c_28, if_neg c_30, if_neg c_31, if_neg c_32, if_neg c_33, if_neg c_34, if_neg c_35, if_neg c_36, if_neg c_37, if_neg c_38, if_neg c_39, if_neg c_40, if_neg c_41, if_neg c_42, if_neg c_43, if_neg c_44, if_neg c_45, if_neg c_46, if_neg c_48, if_pos c_50]) dX1_atOnce_452
                                                                      · skip
                                                                        by_cases c_51 : (FM_op a1) = (35 : Int32)
                                                                        · skip
                                                                          refine lv_tableIn (tgt := 391) hx hb dX1_atOnce_31 (by rw [c_51]; decide) (by rw [c_51]; decide) (by rw [c_51]; rfl) (by decide) ?_
                                                                          refine lv_aload_n hx hb dX1_atOnce_391 rfl (lv_at hl 4 rfl) ?_
                                                                          refine lv_iload_n hx hb dX1_atOnce_392 rfl (lv_at hl 2 rfl) ?_
                                                                          refine lv_iload_n hx hb dX1_atOnce_393 rfl (lv_at hl 3 rfl) ?_
                                                                          refine lv_iload hx hb dX1_atOnce_394 (lv_at hl 1 rfl) ?_
                                                                          refine lv_iadd hx hb dX1_atOnce_396 ?_
                                                                          refine lv_iconst (v := 4) hx hb dX1_atOnce_397 (by decide) ?_
                                                                          refine lv_iconst (v := 0) hx hb dX1_atOnce_398 (by decide) ?_
                                                                          obtain ⟨r_52, hr_52⟩ : ∃ z, (FM_load σ (FM_second a1) (((gmrg σ) (Int32.toNatClampNeg (FM_first a1))) + (FM_signed a1)) (4 : Int32) (0 : Int32)) = z := ⟨_, rfl⟩
                                                                          refine o_call (As := [.int (FM_second a1), .int (((gmrg σ) (Int32.toNatClampNeg (FM_first a1))) + (FM_signed a1)), .int (4 : Int32), .int (0 : Int32)]) (rest := []) (res := r_52) ⟨hx, hb, hml, hown, hts⟩ (by rw [← hr_52]; exact (kX1_load l D q cA _ σ (FM_second a1) (((gmrg σ) (Int32.toNatClampNeg (FM_first a1))) + (FM_signed a1)) (4 : Int32) (0 : Int32) ⟨im_second _, b3_4⟩)) (cwV 4 hts (gV wd_449 wd_451 wd_35 wd_39 wd_452) rfl rfl rfl (by decide +kernel) ⟨Nat.le_of_ble_eq_true rfl, Nat.le_of_ble_eq_true rfl⟩) hK hP hD hS hA (va_recv hK hP (ci := 1) (q0 := 0) rfl rfl) rfl hl.1 rfl (Nat.le_of_ble_eq_true rfl) dX1_atOnce_399 (fun H locs hP hD hS => ?_)
                                                                          exact o_ret hx hb hr hlk hK hP hD hS (by subst hr_52; rw [← hF, FM_atOnce, if_neg c_1, if_neg c_3, if_neg c_4, if_neg c_5, if_neg c_6, if_neg c_7, if_neg c_8, if_neg c_9, if_neg c_10, if_neg c_12, if_neg c_14, if_neg c_18, if_neg c_22, if_neg c_24, if_neg c_26, if_neg c_28, if_neg c_30, if_neg c_31, if_neg c_32, if_neg c_33, if_neg c_34, if_neg c_35, if_neg c_36, if_neg c_37, if_neg c_38, if_neg c_39, if_neg c_40, if_neg c_41, if_neg c_42, if_neg c_43, if_neg c_44, if_neg c_45, if_neg c_46, if_neg c_48, if_neg c_50, if_pos c_51]) dX1_atOnce_402
                                                                        · skip
                                                                          by_cases c_53 : (FM_op a1) = (36 : Int32)
                                                                          · skip
                                                                            refine lv_tableIn (tgt := 341) hx hb dX1_atOnce_31 (by rw [c_53]; decide) (by rw [c_53]; decide) (by rw [c_53]; rfl) (by decide) ?_
                                                                            refine lv_aload_n hx hb dX1_atOnce_341 rfl (lv_at hl 4 rfl) ?_
                                                                            refine lv_iload_n hx hb dX1_atOnce_342 rfl (lv_at hl 2 rfl) ?_
                                                                            refine lv_iload_n hx hb dX1_atOnce_343 rfl (lv_at hl 3 rfl) ?_
                                                                            refine lv_iload hx hb dX1_atOnce_344 (lv_at hl 1 rfl) ?_
                                                                            refine lv_iadd hx hb dX1_atOnce_346 ?_
                                                                            refine lv_iconst (v := 1) hx hb dX1_atOnce_347 (by decide) ?_
                                                                            refine lv_iload_n hx hb dX1_atOnce_348 rfl (lv_at hl 5 rfl) ?_
                                                                            refine s_call (As := [.int a1]) (rest := [.int (1 : Int32), .int (((gmrg σ) (Int32.toNatClampNeg (FM_first a1))) + (FM_signed a1)), .int (FM_second a1), .ref (q 0)]) ⟨hx, hb, hml, hown, hts⟩ (kX1_op l a1) (cwS 1 hts (gS wd_378 wd_379 wd_39 wd_380) rfl rfl rfl (by decide +kernel) ⟨Nat.le_of_ble_eq_true rfl, Nat.le_of_ble_eq_true rfl⟩) hP hS rfl hl.1 rfl (Nat.le_of_ble_eq_true rfl) dX1_atOnce_349 (fun H locs hP hS => ?_)
                                                                            refine lv_bipush (v := 32) hx hb dX1_atOnce_352 (by decide) ?_
                                                                            refine lv_icmp_ne (tgt := 361) hx hb dX1_atOnce_354 (by decide) (fun _ => ?_) (fun c0 => absurd c0 c_46)
                                                                            refine lv_iconst (v := 0) hx hb dX1_atOnce_361 (by decide) ?_
                                                                            obtain ⟨r_54, hr_54⟩ : ∃ z, (FM_load σ (FM_second a1) (((gmrg σ) (Int32.toNatClampNeg (FM_first a1))) + (FM_signed a1)) (1 : Int32) (0 : Int32)) = z := ⟨_, rfl⟩
                                                                            refine o_call (As := [.int (FM_second a1), .int (((gmrg σ) (Int32.toNatClampNeg (FM_first a1))) + (FM_signed a1)), .int (1 : Int32), .int (0 : Int32)]) (rest := []) (res := r_54) ⟨hx, hb, hml, hown, hts⟩ (by rw [← hr_54]; exact (kX1_load l D q cA _ σ (FM_second a1) (((gmrg σ) (Int32.toNatClampNeg (FM_first a1))) + (FM_signed a1)) (1 : Int32) (0 : Int32) ⟨im_second _, b3_1⟩)) (cwV 4 hts (gV wd_449 wd_451 wd_35 wd_39 wd_452) rfl rfl rfl (by decide +kernel) ⟨Nat.le_of_ble_eq_true rfl, Nat.le_of_ble_eq_true rfl⟩) hK hP hD hS hA (va_recv hK hP (ci := 1) (q0 := 0) rfl rfl) rfl hl.1 rfl (Nat.le_of_ble_eq_true rfl) dX1_atOnce_362 (fun H locs hP hD hS => ?_)
                                                                            exact o_ret hx hb hr hlk hK hP hD hS (by subst hr_54; rw [← hF, FM_atOnce, if_neg c_1, if_neg c_3, if_neg c_4, if_neg c_5, if_neg c_6, if_neg c_7, if_neg c_8, if_neg c_9, if_neg c_10, if_neg c_12, if_neg c_14, if_neg c_18, if_neg c_22, if_neg c_24, if_neg c_26, if_neg c_28, if_neg c_30, if_neg c_31, if_neg c_32, if_neg c_33, if_neg c_34, if_neg c_35, if_neg c_36, if_neg c_37, if_neg c_38, if_neg c_39, if_neg c_40, if_neg c_41, if_neg c_42, if_neg c_43, if_neg c_44, if_neg c_45, if_neg c_46, if_neg c_48, if_neg c_50, if_neg c_51, if_pos c_53]) dX1_atOnce_365
                                                                          · skip
                                                                            by_cases c_55 : (FM_op a1) = (37 : Int32)
                                                                            · skip
                                                                              refine lv_tableIn (tgt := 366) hx hb dX1_atOnce_31 (by rw [c_55]; decide) (by rw [c_55]; decide) (by rw [c_55]; rfl) (by decide) ?_
                                                                              refine lv_aload_n hx hb dX1_atOnce_366 rfl (lv_at hl 4 rfl) ?_
                                                                              refine lv_iload_n hx hb dX1_atOnce_367 rfl (lv_at hl 2 rfl) ?_
                                                                              refine lv_iload_n hx hb dX1_atOnce_368 rfl (lv_at hl 3 rfl) ?_
                                                                              refine lv_iload hx hb dX1_atOnce_369 (lv_at hl 1 rfl) ?_
                                                                              refine lv_iadd hx hb dX1_atOnce_371 ?_
                                                                              refine lv_iconst (v := 2) hx hb dX1_atOnce_372 (by decide) ?_
                                                                              refine lv_iload_n hx hb dX1_atOnce_373 rfl (lv_at hl 5 rfl) ?_
                                                                              refine s_call (As := [.int a1]) (rest := [.int (2 : Int32), .int (((gmrg σ) (Int32.toNatClampNeg (FM_first a1))) + (FM_signed a1)), .int (FM_second a1), .ref (q 0)]) ⟨hx, hb, hml, hown, hts⟩ (kX1_op l a1) (cwS 1 hts (gS wd_378 wd_379 wd_39 wd_380) rfl rfl rfl (by decide +kernel) ⟨Nat.le_of_ble_eq_true rfl, Nat.le_of_ble_eq_true rfl⟩) hP hS rfl hl.1 rfl (Nat.le_of_ble_eq_true rfl) dX1_atOnce_374 (fun H locs hP hS => ?_)
                                                                              refine lv_bipush (v := 33) hx hb dX1_atOnce_377 (by decide) ?_
                                                                              refine lv_icmp_ne (tgt := 386) hx hb dX1_atOnce_379 (by decide) (fun _ => ?_) (fun c0 => absurd c0 c_48)
                                                                              refine lv_iconst (v := 0) hx hb dX1_atOnce_386 (by decide) ?_
                                                                              obtain ⟨r_56, hr_56⟩ : ∃ z, (FM_load σ (FM_second a1) (((gmrg σ) (Int32.toNatClampNeg (FM_first a1))) + (FM_signed a1)) (2 : Int32) (0 : Int32)) = z := ⟨_, rfl⟩
                                                                              refine o_call (As := [.int (FM_second a1), .int (((gmrg σ) (Int32.toNatClampNeg (FM_first a1))) + (FM_signed a1)), .int (2 : Int32), .int (0 : Int32)]) (rest := []) (res := r_56) ⟨hx, hb, hml, hown, hts⟩ (by rw [← hr_56]; exact (kX1_load l D q cA _ σ (FM_second a1) (((gmrg σ) (Int32.toNatClampNeg (FM_first a1))) + (FM_signed a1)) (2 : Int32) (0 : Int32) ⟨im_second _, b3_2⟩)) (cwV 4 hts (gV wd_449 wd_451 wd_35 wd_39 wd_452) rfl rfl rfl (by decide +kernel) ⟨Nat.le_of_ble_eq_true rfl, Nat.le_of_ble_eq_true rfl⟩) hK hP hD hS hA (va_recv hK hP (ci := 1) (q0 := 0) rfl rfl) rfl hl.1 rfl (Nat.le_of_ble_eq_true rfl) dX1_atOnce_387 (fun H locs hP hD hS => ?_)
                                                                              exact o_ret hx hb hr hlk hK hP hD hS (by subst hr_56; rw [← hF, FM_atOnce, if_neg c_1, if_neg c_3, if_neg c_4, if_neg c_5, if_neg c_6, if_neg c_7, if_neg c_8, if_neg c_9, if_neg c_10, if_neg c_12, if_neg c_14, if_neg c_18, if_neg c_22, if_neg c_24, if_neg c_26, if_neg c_28, if_neg c_30, if_neg c_31, if_neg c_32, if_neg c_33, if_neg c_34, if_neg c_35, if_neg c_36, if_neg c_37, if_neg c_38, if_neg c_39, if_neg c_40, if_neg c_41, if_neg c_42, if_neg c_43, if_neg c_44, if_neg c_45, if_neg c_46, if_neg c_48, if_neg c_50, if_neg c_51, if_neg c_53, if_pos c_55]) dX1_atOnce_390
                                                                            · skip
                                                                              by_cases c_57 : (FM_op a1) = (38 : Int32)
                                                                              · skip
                                                                                refine lv_tableIn (tgt := 451) hx hb dX1_atOnce_31 (by rw [c_57]; decide) (by rw [c_57]; decide) (by rw [c_57]; rfl) (by decide) ?_
                                                                                refine lv_iconst (v := 1) hx hb dX1_atOnce_451 (by decide) ?_
                                                                                exact o_ret hx hb hr hlk hK hP hD hS (by rw [← hF, FM_atOnce, if_neg c_1, if_neg c_3, if_neg c_4, if_neg c_5, if_neg c_6, if_neg c_7, if_neg c_8, if_neg c_9, if_neg c_10, if_neg c_12, if_neg c_14, if_neg c_18, if_neg c_22, if_neg c_24, if_neg c_26, if_neg c_28, if_neg c_30, if_neg c_31, if_neg c_32, if_neg c_33, if_neg c_34, if_neg c_35, if_neg c_36, if_neg c_37, if_neg c_38, if_neg c_39, if_neg c_40, if_neg c_41, if_neg c_42, if_neg c_43, if_neg c_44, if_neg c_45, if_neg c_46, if_neg c_48, if_neg c_50, if_neg c_51, if_neg c_53, if_neg c_55, if_pos c_57]) dX1_atOnce_452
                                                                              · skip
                                                                                by_cases c_58 : (FM_op a1) = (39 : Int32)
                                                                                · skip
                                                                                  refine lv_tableIn (tgt := 451) hx hb dX1_atOnce_31 (by rw [c_58]; decide) (by rw [c_58]; decide) (by rw [c_58]; rfl) (by decide) ?_
                                                                                  refine lv_iconst (v := 1) hx hb dX1_atOnce_451 (by decide) ?_
                                                                                  exact o_ret hx hb hr hlk hK hP hD hS (by rw [← hF, FM_atOnce, if_neg c_1, if_neg c_3, if_neg c_4, if_neg c_5, if_neg c_6, if_neg c_7, if_neg c_8, if_neg c_9, if_neg c_10, if_neg c_12, if_neg c_14, if_neg c_18, if_neg c_22, if_neg c_24, if_neg c_26, if_neg c_28, if_neg c_30, if_neg c_31, if_neg c_32, if_neg c_33, if_neg c_34, if_neg c_35, if_neg c_36, if_neg c_37, if_neg c_38, if_neg c_39, if_neg c_40, if_neg c_41, if_neg c_42, if_neg c_43, if_neg c_44, if_neg c_45, if_neg c_46, if_neg c_48, if_neg c_50, if_neg c_51, if_neg c_53, if_neg c_55, if_neg c_57, if_pos c_58]) dX1_atOnce_452
                                                                                · skip
                                                                                  by_cases c_59 : (FM_op a1) = (40 : Int32)
                                                                                  · skip
                                                                                    refine lv_tableIn (tgt := 403) hx hb dX1_atOnce_31 (by rw [c_59]; decide) (by rw [c_59]; decide) (by rw [c_59]; rfl) (by decide) ?_
                                                                                    refine lv_aload_n hx hb dX1_atOnce_403 rfl (lv_at hl 4 rfl) ?_
                                                                                    refine lv_aload_n hx hb dX1_atOnce_404 rfl (lv_at hl 4 rfl) ?_
                                                                                    refine getX1_mrg hx hb hts hin hown hK hP (hts _ (mc wd_303)) dX1_atOnce_405 ?_
                                                                                    refine lv_iload_n hx hb dX1_atOnce_408 rfl (lv_at hl 2 rfl) ?_
                                                                                    refine aldX1_mrg (f := (gmrg σ)) hx hb hK hP (im_second _) dX1_atOnce_409 rfl ?_
                                                                                    refine lv_iload_n hx hb dX1_atOnce_410 rfl (lv_at hl 3 rfl) ?_
                                                                                    refine lv_iload hx hb dX1_atOnce_411 (lv_at hl 1 rfl) ?_
                                                                                    refine lv_iadd hx hb dX1_atOnce_413 ?_
                                                                                    refine lv_iconst (v := 1) hx hb dX1_atOnce_414 (by decide) ?_
                                                                                    obtain ⟨r_60, hr_60⟩ : ∃ z, (FM_store σ ((gmrg σ) (Int32.toNatClampNeg (FM_second a1))) (((gmrg σ) (Int32.toNatClampNeg (FM_first a1))) + (FM_signed a1)) (1 : Int32)) = z := ⟨_, rfl⟩
                                                                                    refine o_call (As := [.int ((gmrg σ) (Int32.toNatClampNeg (FM_second a1))), .int (((gmrg σ) (Int32.toNatClampNeg (FM_first a1))) + (FM_signed a1)), .int (1 : Int32)]) (rest := []) (res := r_60) ⟨hx, hb, hml, hown, hts⟩ (by rw [← hr_60]; exact (kX1_store l D q cA _ σ ((gmrg σ) (Int32.toNatClampNeg (FM_second a1))) (((gmrg σ) (Int32.toNatClampNeg (FM_first a1))) + (FM_signed a1)) (1 : Int32) b3_1)) (cwV 3 hts (gV wd_455 wd_457 wd_36 wd_39 wd_458) rfl rfl rfl (by decide +kernel) ⟨Nat.le_of_ble_eq_true rfl, Nat.le_of_ble_eq_true rfl⟩) hK hP hD hS hA (va_recv hK hP (ci := 1) (q0 := 0) rfl rfl) rfl hl.1 rfl (Nat.le_of_ble_eq_true rfl) dX1_atOnce_415 (fun H locs hP hD hS => ?_)
                                                                                    exact o_ret hx hb hr hlk hK hP hD hS (by subst hr_60; rw [← hF, FM_atOnce, if_neg c_1, if_neg c_3, if_neg c_4, if_neg c_5, if_neg c_6, if_neg c_7, if_neg c_8, if_neg c_9, if_neg c_10, if_neg c_12, if_neg c_14, if_neg c_18, if_neg c_22, if_neg c_24, if_neg c_26, if_neg c_28, if_neg c_30, if_neg c_31, if_neg c_32, if_neg c_33, if_neg c_34, if_neg c_35, if_neg c_36, if_neg c_37, if_neg c_38, if_neg c_39, if_neg c_40, if_neg c_41, if_neg c_42, if_neg c_43, if_neg c_44, if_neg c_45, if_neg c_46, if_neg c_48, if_neg c_50, if_neg c_51, if_neg c_53, if_neg c_55, if_neg c_57, if_neg c_58, if_pos c_59]) dX1_atOnce_418
                                                                                  · skip
                                                                                    by_cases c_61 : (FM_op a1) = (41 : Int32)
                                                                                    · skip
                                                                                      refine lv_tableIn (tgt := 419) hx hb dX1_atOnce_31 (by rw [c_61]; decide) (by rw [c_61]; decide) (by rw [c_61]; rfl) (by decide) ?_
                                                                                      refine lv_aload_n hx hb dX1_atOnce_419 rfl (lv_at hl 4 rfl) ?_
                                                                                      refine lv_aload_n hx hb dX1_atOnce_420 rfl (lv_at hl 4 rfl) ?_
                                                                                      refine getX1_mrg hx hb hts hin hown hK hP (hts _ (mc wd_303)) dX1_atOnce_421 ?_
                                                                                      refine lv_iload_n hx hb dX1_atOnce_424 rfl (lv_at hl 2 rfl) ?_
                                                                                      refine aldX1_mrg (f := (gmrg σ)) hx hb hK hP (im_second _) dX1_atOnce_425 rfl ?_
                                                                                      refine lv_iload_n hx hb dX1_atOnce_426 rfl (lv_at hl 3 rfl) ?_
                                                                                      refine lv_iload hx hb dX1_atOnce_427 (lv_at hl 1 rfl) ?_
                                                                                      refine lv_iadd hx hb dX1_atOnce_429 ?_
                                                                                      refine lv_iconst (v := 2) hx hb dX1_atOnce_430 (by decide) ?_
                                                                                      obtain ⟨r_62, hr_62⟩ : ∃ z, (FM_store σ ((gmrg σ) (Int32.toNatClampNeg (FM_second a1))) (((gmrg σ) (Int32.toNatClampNeg (FM_first a1))) + (FM_signed a1)) (2 : Int32)) = z := ⟨_, rfl⟩
                                                                                      refine o_call (As := [.int ((gmrg σ) (Int32.toNatClampNeg (FM_second a1))), .int (((gmrg σ) (Int32.toNatClampNeg (FM_first a1))) + (FM_signed a1)), .int (2 : Int32)]) (rest := []) (res := r_62) ⟨hx, hb, hml, hown, hts⟩ (by rw [← hr_62]; exact (kX1_store l D q cA _ σ ((gmrg σ) (Int32.toNatClampNeg (FM_second a1))) (((gmrg σ) (Int32.toNatClampNeg (FM_first a1))) + (FM_signed a1)) (2 : Int32) b3_2)) (cwV 3 hts (gV wd_455 wd_457 wd_36 wd_39 wd_458) rfl rfl rfl (by decide +kernel) ⟨Nat.le_of_ble_eq_true rfl, Nat.le_of_ble_eq_true rfl⟩) hK hP hD hS hA (va_recv hK hP (ci := 1) (q0 := 0) rfl rfl) rfl hl.1 rfl (Nat.le_of_ble_eq_true rfl) dX1_atOnce_431 (fun H locs hP hD hS => ?_)
                                                                                      exact o_ret hx hb hr hlk hK hP hD hS (by subst hr_62; rw [← hF, FM_atOnce, if_neg c_1, if_neg c_3, if_neg c_4, if_neg c_5, if_neg c_6, if_neg c_7, if_neg c_8, if_neg c_9, if_neg c_10, if_neg c_12, if_neg c_14, if_neg c_18, if_neg c_22, if_neg c_24, if_neg c_26, if_neg c_28, if_neg c_30, if_neg c_31, if_neg c_32, if_neg c_33, if_neg c_34, if_neg c_35, if_neg c_36, if_neg c_37, if_neg c_38, if_neg c_39, if_neg c_40, if_neg c_41, if_neg c_42, if_neg c_43, if_neg c_44, if_neg c_45, if_neg c_46, if_neg c_48, if_neg c_50, if_neg c_51, if_neg c_53, if_neg c_55, if_neg c_57, if_neg c_58, if_neg c_59, if_pos c_61]) dX1_atOnce_434
                                                                                    · skip
                                                                                      by_cases c_63 : (FM_op a1) = (42 : Int32)
                                                                                      · skip
                                                                                        refine lv_tableIn (tgt := 451) hx hb dX1_atOnce_31 (by rw [c_63]; decide) (by rw [c_63]; decide) (by rw [c_63]; rfl) (by decide) ?_
                                                                                        refine lv_iconst (v := 1) hx hb dX1_atOnce_451 (by decide) ?_
                                                                                        exact o_ret hx hb hr hlk hK hP hD hS (by rw [← hF, FM_atOnce, if_neg c_1, if_neg c_3, if_neg c_4, if_neg c_5, if_neg c_6, if_neg c_7, if_neg c_8, if_neg c_9, if_neg c_10, if_neg c_12, if_neg c_14, if_neg c_18, if_neg c_22, if_neg c_24, if_neg c_26, if_neg c_28, if_neg c_30, if_neg c_31, if_neg c_32, if_neg c_33, if_neg c_34, if_neg c_35, if_neg c_36, if_neg c_37, if_neg c_38, if_neg c_39, if_neg c_40, if_neg c_41, if_neg c_42, if_neg c_43, if_neg c_44, if_neg c_45, if_neg c_46, if_neg c_48, if_neg c_50, if_neg c_51, if_neg c_53, if_neg c_55, if_neg c_57, if_neg c_58, if_neg c_59, if_neg c_61, if_pos c_63]) dX1_atOnce_452
                                                                                      · skip
                                                                                        by_cases c_64 : (FM_op a1) = (43 : Int32)
                                                                                        · skip
                                                                                          refine lv_tableIn (tgt := 435) hx hb dX1_atOnce_31 (by rw [c_64]; decide) (by rw [c_64]; decide) (by rw [c_64]; rfl) (by decide) ?_
                                                                                          refine lv_aload_n hx hb dX1_atOnce_435 rfl (lv_at hl 4 rfl) ?_
                                                                                          refine lv_aload_n hx hb dX1_atOnce_436 rfl (lv_at hl 4 rfl) ?_
                                                                                          refine getX1_mrg hx hb hts hin hown hK hP (hts _ (mc wd_303)) dX1_atOnce_437 ?_
                                                                                          refine lv_iload_n hx hb dX1_atOnce_440 rfl (lv_at hl 2 rfl) ?_
                                                                                          refine aldX1_mrg (f := (gmrg σ)) hx hb hK hP (im_second _) dX1_atOnce_441 rfl ?_
                                                                                          refine lv_iload_n hx hb dX1_atOnce_442 rfl (lv_at hl 3 rfl) ?_
                                                                                          refine lv_iload hx hb dX1_atOnce_443 (lv_at hl 1 rfl) ?_
                                                                                          refine lv_iadd hx hb dX1_atOnce_445 ?_
                                                                                          refine lv_iconst (v := 4) hx hb dX1_atOnce_446 (by decide) ?_
                                                                                          obtain ⟨r_65, hr_65⟩ : ∃ z, (FM_store σ ((gmrg σ) (Int32.toNatClampNeg (FM_second a1))) (((gmrg σ) (Int32.toNatClampNeg (FM_first a1))) + (FM_signed a1)) (4 : Int32)) = z := ⟨_, rfl⟩
                                                                                          refine o_call (As := [.int ((gmrg σ) (Int32.toNatClampNeg (FM_second a1))), .int (((gmrg σ) (Int32.toNatClampNeg (FM_first a1))) + (FM_signed a1)), .int (4 : Int32)]) (rest := []) (res := r_65) ⟨hx, hb, hml, hown, hts⟩ (by rw [← hr_65]; exact (kX1_store l D q cA _ σ ((gmrg σ) (Int32.toNatClampNeg (FM_second a1))) (((gmrg σ) (Int32.toNatClampNeg (FM_first a1))) + (FM_signed a1)) (4 : Int32) b3_4)) (cwV 3 hts (gV wd_455 wd_457 wd_36 wd_39 wd_458) rfl rfl rfl (by decide +kernel) ⟨Nat.le_of_ble_eq_true rfl, Nat.le_of_ble_eq_true rfl⟩) hK hP hD hS hA (va_recv hK hP (ci := 1) (q0 := 0) rfl rfl) rfl hl.1 rfl (Nat.le_of_ble_eq_true rfl) dX1_atOnce_447 (fun H locs hP hD hS => ?_)
                                                                                          exact o_ret hx hb hr hlk hK hP hD hS (by subst hr_65; rw [← hF, FM_atOnce, if_neg c_1, if_neg c_3, if_neg c_4, if_neg c_5, if_neg c_6, if_neg c_7, if_neg c_8, if_neg c_9, if_neg c_10, if_neg c_12, if_neg c_14, if_neg c_18, if_neg c_22, if_neg c_24, if_neg c_26, if_neg c_28, if_neg c_30, if_neg c_31, if_neg c_32, if_neg c_33, if_neg c_34, if_neg c_35, if_neg c_36, if_neg c_37, if_neg c_38, if_neg c_39, if_neg c_40, if_neg c_41, if_neg c_42, if_neg c_43, if_neg c_44, if_neg c_45, if_neg c_46, if_neg c_48, if_neg c_50, if_neg c_51, if_neg c_53, if_neg c_55, if_neg c_57, if_neg c_58, if_neg c_59, if_neg c_61, if_neg c_63, if_pos c_64]) dX1_atOnce_450
                                                                                        · skip
                                                                                          refine lv_tableOut (tgt := 451) hx hb dX1_atOnce_31 (by have h0 := lv_neT (a := 0) c_1 (by decide); have h1 := lv_neT (a := 1) c_3 (by decide); have h2 := lv_neT (a := 2) c_4 (by decide); have h3 := lv_neT (a := 3) c_5 (by decide); have h4 := lv_neT (a := 4) c_6 (by decide); have h5 := lv_neT (a := 5) c_7 (by decide); have h6 := lv_neT (a := 6) c_8 (by decide); have h7 := lv_neT (a := 7) c_9 (by decide); have h8 := lv_neT (a := 8) c_10 (by decide); have h9 := lv_neT (a := 9) c_12 (by decide); have h10 := lv_neT (a := 10) c_14 (by decide); have h11 := lv_neT (a := 11) c_18 (by decide); have h12 := lv_neT (a := 12) c_22 (by decide); have h13 := lv_neT (a := 13) c_24 (by decide); have h14 := lv_neT (a := 14) c_26 (by decide); have h15 := lv_neT (a := 15) c_28 (by decide); have h16 := lv_neT (a := 16) c_30 (by decide); have h17 := lv_neT (a := 17) c_31 (by decide); have h18 := lv_neT (a := 18) c_32 (by decide); have h19 := lv_neT (a := 19) c_33 (by decide); have h20 := lv_neT (a := 20) c_34 (by decide); have h21 := lv_neT (a := 21) c_35 (by decide); have h22 := lv_neT (a := 22) c_36 (by decide); have h23 := lv_neT (a := 23) c_37 (by decide); have h24 := lv_neT (a := 24) c_38 (by decide); have h25 := lv_neT (a := 25) c_39 (by decide); have h26 := lv_neT (a := 26) c_40 (by decide); have h27 := lv_neT (a := 27) c_41 (by decide); have h28 := lv_neT (a := 28) c_42 (by decide); have h29 := lv_neT (a := 29) c_43 (by decide); have h30 := lv_neT (a := 30) c_44 (by decide); have h31 := lv_neT (a := 31) c_45 (by decide); have h32 := lv_neT (a := 32) c_46 (by decide); have h33 := lv_neT (a := 33) c_48 (by decide); have h34 := lv_neT (a := 34) c_50 (by decide); have h35 := lv_neT (a := 35) c_51 (by decide); have h36 := lv_neT (a := 36) c_53 (by decide); have h37 := lv_neT (a := 37) c_55 (by decide); have h38 := lv_neT (a := 38) c_57 (by decide); have h39 := lv_neT (a := 39) c_58 (by decide); have h40 := lv_neT (a := 40) c_59 (by decide); have h41 := lv_neT (a := 41) c_61 (by decide); have h42 := lv_neT (a := 42) c_63 (by decide); have h43 := lv_neT (a := 43) c_64 (by decide); omega) (by decide) ?_
                                                                                          refine lv_iconst (v := 1) hx hb dX1_atOnce_451 (by decide) ?_
                                                                                          exact o_ret hx hb hr hlk hK hP hD hS (by rw [← hF, FM_atOnce, if_neg c_1, if_neg c_3, if_neg c_4, if_neg c_5, if_neg c_6, if_neg c_7, if_neg c_8, if_neg c_9, if_neg c_10, if_neg c_12, if_neg c_14, if_neg c_18, if_neg c_22, if_neg c_24, if_neg c_26, if_neg c_28, if_neg c_30, if_neg c_31, if_neg c_32, if_neg c_33, if_neg c_34, if_neg c_35, if_neg c_36, if_neg c_37, if_neg c_38, if_neg c_39, if_neg c_40, if_neg c_41, if_neg c_42, if_neg c_43, if_neg c_44, if_neg c_45, if_neg c_46, if_neg c_48, if_neg c_50, if_neg c_51, if_neg c_53, if_neg c_55, if_neg c_57, if_neg c_58, if_neg c_59, if_neg c_61, if_neg c_63, if_neg c_64]) dX1_atOnce_452
