set_option maxHeartbeats 4000000 in
set_option maxRecDepth 100000 in
theorem kX0_performFunction (l : Launch) (D : va_G) (q : Nat → Nat) (cA : Nat → ClassId) (sz : Nat) (σ : SG) (a1 : Int32) (hI : IG σ) : oMet l D vwCl (wG q cA) (tG cA) (q 0) sz yX0_performFunction wsX0_performFunction { frames := 3, cells := 0, slots := 0, locals := 69 } σ [.int a1] (FG_performFunction σ a1) := by
  refine o_met (cc := cX0_performFunction) (maxL := 3) (ret := some .int) (by decide) rfl (Nat.le_of_ble_eq_true rfl) ?_
  intro p e s m args below meth c A ls hx hb hr hml hts hown hlk hP hK hD hA hS hl
  have hl : lv_has ls 3 [(0, .ref (q 0)), (1, .int a1)] := hl
  have hin : ∀ w ∈ wsX00, w ∈ wsX0_performFunction := fun w h => mc (inX0 w h)
  generalize hF : FG_performFunction σ a1 = res
  refine lv_iload_n hx hb dX0_performFunction_0 rfl (lv_at hl 1 rfl) ?_
  refine s_call (As := [.int a1]) (rest := []) ⟨hx, hb, hml, hown, hts⟩ (kX0_fOf l a1) (cwS 1 hts (gS wd_136 wd_137 wd_38 wd_138) rfl rfl rfl (by decide +kernel) ⟨Nat.le_of_ble_eq_true rfl, Nat.le_of_ble_eq_true rfl⟩) hP hS rfl hl.1 rfl (Nat.le_of_ble_eq_true rfl) dX0_performFunction_1 (fun H locs hP hS => ?_)
  refine lv_istore_n (lv' := [(2, .int (FG_fOf a1)), (0, .ref (q 0)), (1, .int a1)]) hx hb dX0_performFunction_4 rfl hl (by decide) rfl (fun ls hl => ?_)
  refine lv_iload_n hx hb dX0_performFunction_5 rfl (lv_at hl 0 rfl) ?_
  refine lv_bipush (v := 8) hx hb dX0_performFunction_6 (by decide) ?_
  refine lv_icmp_ge (tgt := 17) hx hb dX0_performFunction_8 (by decide) (fun c_1 => ?_) (fun c_1 => ?_)
  · skip
    refine lv_iload_n hx hb dX0_performFunction_17 rfl (lv_at hl 0 rfl) ?_
    refine lv_bipush (v := 12) hx hb dX0_performFunction_18 (by decide) ?_
    refine lv_icmp_ne (tgt := 28) hx hb dX0_performFunction_20 (by decide) (fun c_2 => ?_) (fun c_2 => ?_)
    · skip
      refine lv_iload_n hx hb dX0_performFunction_28 rfl (lv_at hl 0 rfl) ?_
      refine lv_bipush (v := 13) hx hb dX0_performFunction_29 (by decide) ?_
      refine lv_icmp_ne (tgt := 36) hx hb dX0_performFunction_31 (by decide) (fun c_3 => ?_) (fun c_3 => ?_)
      · skip
        refine lv_iload_n hx hb dX0_performFunction_36 rfl (lv_at hl 0 rfl) ?_
        refine lv_bipush (v := 32) hx hb dX0_performFunction_37 (by decide) ?_
        refine lv_icmp_ge (tgt := 50) hx hb dX0_performFunction_39 (by decide) (fun c_4 => ?_) (fun c_4 => ?_)
        · skip
          refine lv_aload_n hx hb dX0_performFunction_50 rfl (lv_at hl 1 rfl) ?_
          refine lv_iload_n hx hb dX0_performFunction_51 rfl (lv_at hl 2 rfl) ?_
          obtain ⟨r_5, hr_5⟩ : ∃ z, (FG_performArithmetic σ a1) = z := ⟨_, rfl⟩
          refine o_call (As := [.int a1]) (rest := []) (res := r_5) ⟨hx, hb, hml, hown, hts⟩ (by rw [← hr_5]; exact (kX0_performArithmetic l D q cA _ σ a1)) (cwV 1 hts (gV wd_230 wd_232 wd_16 wd_38 wd_233) rfl rfl rfl (by decide +kernel) ⟨Nat.le_of_ble_eq_true rfl, Nat.le_of_ble_eq_true rfl⟩) hK hP hD hS hA (va_recv hK hP (ci := 0) (q0 := 0) rfl rfl) rfl hl.1 rfl (Nat.le_of_ble_eq_true rfl) dX0_performFunction_52 (fun H locs hP hD hS => ?_)
          exact o_ret hx hb hr hlk hK hP hD hS (by subst hr_5; rw [← hF, FG_performFunction, if_pos c_1, if_neg c_2, if_neg c_3, if_pos c_4]) dX0_performFunction_55
        · skip
          refine lv_aload_n hx hb dX0_performFunction_42 rfl (lv_at hl 1 rfl) ?_
          refine lv_iload_n hx hb dX0_performFunction_43 rfl (lv_at hl 2 rfl) ?_
          obtain ⟨r_6, hr_6⟩ : ∃ z, (FG_performHiLo σ a1) = z := ⟨_, rfl⟩
          refine o_call (As := [.int a1]) (rest := []) (res := r_6) ⟨hx, hb, hml, hown, hts⟩ (by rw [← hr_6]; exact (kX0_performHiLo l D q cA _ σ a1)) (cwV 1 hts (gV wd_214 wd_216 wd_13 wd_38 wd_217) rfl rfl rfl (by decide +kernel) ⟨Nat.le_of_ble_eq_true rfl, Nat.le_of_ble_eq_true rfl⟩) hK hP hD hS hA (va_recv hK hP (ci := 0) (q0 := 0) rfl rfl) rfl hl.1 rfl (Nat.le_of_ble_eq_true rfl) dX0_performFunction_44 (fun H locs hP hD hS => ?_)
          refine lv_goto (tgt := 55) hx hb dX0_performFunction_47 (by decide) ?_
          exact o_ret hx hb hr hlk hK hP hD hS (by subst hr_6; rw [← hF, FG_performFunction, if_pos c_1, if_neg c_2, if_neg c_3, if_neg c_4]) dX0_performFunction_55
      · skip
        refine lv_iconst (v := 5) hx hb dX0_performFunction_34 (by decide) ?_
        exact o_ret hx hb hr hlk hK hP hD hS (by rw [← hF, FG_performFunction, if_pos c_1, if_neg c_2, if_pos c_3]) dX0_performFunction_35
    · skip
      refine lv_aload_n hx hb dX0_performFunction_23 rfl (lv_at hl 1 rfl) ?_
      obtain ⟨r_7, hr_7⟩ : ∃ z, (FG_performSystem σ) = z := ⟨_, rfl⟩
      refine o_call (As := []) (rest := []) (res := r_7) ⟨hx, hb, hml, hown, hts⟩ (by rw [← hr_7]; exact (kX0_performSystem l D q cA _ σ hI)) (cwV 0 hts (gV wd_202 wd_204 wd_10 wd_38 wd_205) rfl rfl rfl (by decide +kernel) ⟨Nat.le_of_ble_eq_true rfl, Nat.le_of_ble_eq_true rfl⟩) hK hP hD hS hA (va_recv hK hP (ci := 0) (q0 := 0) rfl rfl) rfl hl.1 rfl (Nat.le_of_ble_eq_true rfl) dX0_performFunction_24 (fun H locs hP hD hS => ?_)
      exact o_ret hx hb hr hlk hK hP hD hS (by subst hr_7; rw [← hF, FG_performFunction, if_pos c_1, if_pos c_2]) dX0_performFunction_27
  · skip
    refine lv_aload_n hx hb dX0_performFunction_11 rfl (lv_at hl 1 rfl) ?_
    refine lv_iload_n hx hb dX0_performFunction_12 rfl (lv_at hl 2 rfl) ?_
    obtain ⟨r_8, hr_8⟩ : ∃ z, (FG_performShift σ a1) = z := ⟨_, rfl⟩
    refine o_call (As := [.int a1]) (rest := []) (res := r_8) ⟨hx, hb, hml, hown, hts⟩ (by rw [← hr_8]; exact (kX0_performShift l D q cA _ σ a1)) (cwV 1 hts (gV wd_195 wd_197 wd_9 wd_38 wd_198) rfl rfl rfl (by decide +kernel) ⟨Nat.le_of_ble_eq_true rfl, Nat.le_of_ble_eq_true rfl⟩) hK hP hD hS hA (va_recv hK hP (ci := 0) (q0 := 0) rfl rfl) rfl hl.1 rfl (Nat.le_of_ble_eq_true rfl) dX0_performFunction_13 (fun H locs hP hD hS => ?_)
    exact o_ret hx hb hr hlk hK hP hD hS (by subst hr_8; rw [← hF, FG_performFunction, if_neg c_1]) dX0_performFunction_16
set_option maxHeartbeats 4000000 in
set_option maxRecDepth 100000 in
theorem kX0_plainImmediate (l : Launch) (a1 : Int32) : sMet l yX0_plainImmediate wsX0_plainImmediate { frames := 0, cells := 0, slots := 0, locals := 0 } [.int a1] (FG_plainImmediate a1) := by
  refine s_met (cc := cX0_plainImmediate) (maxL := 1) (ret := some .int) (by decide) rfl (Nat.le_of_ble_eq_true rfl) ?_
  intro p e s m args below meth c ls hx hb hr hml hts hown hlk hS hl
  have hl : lv_has ls 1 [(0, .int a1)] := hl
  generalize hF : FG_plainImmediate a1 = res
  refine lv_iload_n hx hb dX0_plainImmediate_0 rfl (lv_at hl 0 rfl) ?_
  refine lv_ldc (v := 65535) hx hb hown (hts _ (mc wd_245)) dX0_plainImmediate_1 ?_
  refine lv_iand hx hb dX0_plainImmediate_3 ?_
  exact s_ret hx hb hr hlk hS (by rw [← hF, FG_plainImmediate]) dX0_plainImmediate_4
set_option maxHeartbeats 4000000 in
set_option maxRecDepth 100000 in
theorem kX0_performImmediate (l : Launch) (D : va_G) (q : Nat → Nat) (cA : Nat → ClassId) (sz : Nat) (σ : SG) (a1 : Int32) : oMet l D vwCl (wG q cA) (tG cA) (q 0) sz yX0_performImmediate wsX0_performImmediate { frames := 2, cells := 0, slots := 0, locals := 45 } σ [.int a1] (FG_performImmediate σ a1) := by
  refine o_met (cc := cX0_performImmediate) (maxL := 6) (ret := some .int) (by decide) rfl (Nat.le_of_ble_eq_true rfl) ?_
  intro p e s m args below meth c A ls hx hb hr hml hts hown hlk hP hK hD hA hS hl
  have hl : lv_has ls 6 [(0, .ref (q 0)), (1, .int a1)] := hl
  have hin : ∀ w ∈ wsX00, w ∈ wsX0_performImmediate := fun w h => mc (inX0 w h)
  generalize hF : FG_performImmediate σ a1 = res
  refine lv_aload_n hx hb dX0_performImmediate_0 rfl (lv_at hl 0 rfl) ?_
  refine getX0_rg hx hb hts hin hown hK hP (hts _ (mc wd_53)) dX0_performImmediate_1 ?_
  refine lv_iload_n hx hb dX0_performImmediate_4 rfl (lv_at hl 1 rfl) ?_
  refine s_call (As := [.int a1]) (rest := [.ref (q 3)]) ⟨hx, hb, hml, hown, hts⟩ (kX0_sOf l a1) (cwS 1 hts (gS wd_153 wd_154 wd_38 wd_155) rfl rfl rfl (by decide +kernel) ⟨Nat.le_of_ble_eq_true rfl, Nat.le_of_ble_eq_true rfl⟩) hP hS rfl hl.1 rfl (Nat.le_of_ble_eq_true rfl) dX0_performImmediate_5 (fun H locs hP hS => ?_)
  refine aldX0_rg (f := (grg σ)) hx hb hK hP (in_sOf _) dX0_performImmediate_8 rfl ?_
  refine lv_istore_n (lv' := [(2, .int ((grg σ) (Int32.toNatClampNeg (FG_sOf a1)))), (0, .ref (q 0)), (1, .int a1)]) hx hb dX0_performImmediate_9 rfl hl (by decide) rfl (fun ls hl => ?_)
  refine lv_iload_n hx hb dX0_performImmediate_10 rfl (lv_at hl 2 rfl) ?_
  refine s_call (As := [.int a1]) (rest := []) ⟨hx, hb, hml, hown, hts⟩ (kX0_tOf l a1) (cwS 1 hts (gS wd_139 wd_140 wd_38 wd_141) rfl rfl rfl (by decide +kernel) ⟨Nat.le_of_ble_eq_true rfl, Nat.le_of_ble_eq_true rfl⟩) hP hS rfl hl.1 rfl (Nat.le_of_ble_eq_true rfl) dX0_performImmediate_11 (fun H locs hP hS => ?_)
  refine lv_istore_n (lv' := [(3, .int (FG_tOf a1)), (2, .int ((grg σ) (Int32.toNatClampNeg (FG_sOf a1)))), (0, .ref (q 0)), (1, .int a1)]) hx hb dX0_performImmediate_14 rfl hl (by decide) rfl (fun ls hl => ?_)
  refine lv_iload_n hx hb dX0_performImmediate_15 rfl (lv_at hl 3 rfl) ?_
  refine s_call (As := [.int a1]) (rest := []) ⟨hx, hb, hml, hown, hts⟩ (kX0_signedImmediate l a1) (cwS 1 hts (gS wd_174 wd_175 wd_38 wd_176) rfl rfl rfl (by decide +kernel) ⟨Nat.le_of_ble_eq_true rfl, Nat.le_of_ble_eq_true rfl⟩) hP hS rfl hl.1 rfl (Nat.le_of_ble_eq_true rfl) dX0_performImmediate_16 (fun H locs hP hS => ?_)
  refine lv_istore (lv' := [(4, .int (FG_signedImmediate a1)), (3, .int (FG_tOf a1)), (2, .int ((grg σ) (Int32.toNatClampNeg (FG_sOf a1)))), (0, .ref (q 0)), (1, .int a1)]) hx hb dX0_performImmediate_19 hl (by decide) rfl (fun ls hl => ?_)
  refine lv_iload_n hx hb dX0_performImmediate_21 rfl (lv_at hl 4 rfl) ?_
  refine s_call (As := [.int a1]) (rest := []) ⟨hx, hb, hml, hown, hts⟩ (kX0_plainImmediate l a1) (cwS 1 hts (gS wd_242 wd_243 wd_38 wd_244) rfl rfl rfl (by decide +kernel) ⟨Nat.le_of_ble_eq_true rfl, Nat.le_of_ble_eq_true rfl⟩) hP hS rfl hl.1 rfl (Nat.le_of_ble_eq_true rfl) dX0_performImmediate_22 (fun H locs hP hS => ?_)
  refine lv_istore (lv' := [(5, .int (FG_plainImmediate a1)), (4, .int (FG_signedImmediate a1)), (3, .int (FG_tOf a1)), (2, .int ((grg σ) (Int32.toNatClampNeg (FG_sOf a1)))), (0, .ref (q 0)), (1, .int a1)]) hx hb dX0_performImmediate_25 hl (by decide) rfl (fun ls hl => ?_)
  refine lv_iload_n hx hb dX0_performImmediate_27 rfl (lv_at hl 5 rfl) ?_
  refine s_call (As := [.int a1]) (rest := []) ⟨hx, hb, hml, hown, hts⟩ (kX0_opOf l a1) (cwS 1 hts (gS wd_133 wd_134 wd_38 wd_135) rfl rfl rfl (by decide +kernel) ⟨Nat.le_of_ble_eq_true rfl, Nat.le_of_ble_eq_true rfl⟩) hP hS rfl hl.1 rfl (Nat.le_of_ble_eq_true rfl) dX0_performImmediate_28 (fun H locs hP hS => ?_)
  by_cases c_1 : (FG_opOf a1) = (8 : Int32)
  · skip
    refine lv_tableIn (tgt := 76) hx hb dX0_performImmediate_31 (by rw [c_1]; decide) (by rw [c_1]; decide) (by rw [c_1]; rfl) (by decide) ?_
    refine lv_aload_n hx hb dX0_performImmediate_76 rfl (lv_at hl 4 rfl) ?_
    refine lv_iload_n hx hb dX0_performImmediate_77 rfl (lv_at hl 2 rfl) ?_
    refine lv_iload_n hx hb dX0_performImmediate_78 rfl (lv_at hl 3 rfl) ?_
    refine lv_i2l hx hb dX0_performImmediate_79 rfl ?_
    refine lv_iload hx hb dX0_performImmediate_80 (lv_at hl 1 rfl) ?_
    refine lv_i2l hx hb dX0_performImmediate_82 rfl ?_
    refine lv_ladd hx hb dX0_performImmediate_83 ?_
    obtain ⟨r_2, hr_2⟩ : ∃ z, (FG_putUnlessOverflow σ (FG_tOf a1) ((Int32.toInt64 ((grg σ) (Int32.toNatClampNeg (FG_sOf a1)))) + (Int32.toInt64 (FG_signedImmediate a1)))) = z := ⟨_, rfl⟩
    refine o_call (As := [.int (FG_tOf a1), .long ((Int32.toInt64 ((grg σ) (Int32.toNatClampNeg (FG_sOf a1)))) + (Int32.toInt64 (FG_signedImmediate a1)))]) (rest := []) (res := r_2) ⟨hx, hb, hml, hown, hts⟩ (by rw [← hr_2]; exact (kX0_putUnlessOverflow l D q cA _ σ (FG_tOf a1) ((Int32.toInt64 ((grg σ) (Int32.toNatClampNeg (FG_sOf a1)))) + (Int32.toInt64 (FG_signedImmediate a1))))) (cwV 2 hts (gV wd_234 wd_236 wd_17 wd_38 wd_237) rfl rfl rfl (by decide +kernel) ⟨Nat.le_of_ble_eq_true rfl, Nat.le_of_ble_eq_true rfl⟩) hK hP hD hS hA (va_recv hK hP (ci := 0) (q0 := 0) rfl rfl) rfl hl.1 rfl (Nat.le_of_ble_eq_true rfl) dX0_performImmediate_84 (fun H locs hP hD hS => ?_)
    exact o_ret hx hb hr hlk hK hP hD hS (by subst hr_2; rw [← hF, FG_performImmediate, if_pos c_1]) dX0_performImmediate_87
  · skip
    by_cases c_3 : (FG_opOf a1) = (9 : Int32)
    · skip
      refine lv_tableIn (tgt := 88) hx hb dX0_performImmediate_31 (by rw [c_3]; decide) (by rw [c_3]; decide) (by rw [c_3]; rfl) (by decide) ?_
      refine lv_aload_n hx hb dX0_performImmediate_88 rfl (lv_at hl 4 rfl) ?_
      refine lv_iload_n hx hb dX0_performImmediate_89 rfl (lv_at hl 2 rfl) ?_
      refine lv_iload_n hx hb dX0_performImmediate_90 rfl (lv_at hl 3 rfl) ?_
      refine lv_iload hx hb dX0_performImmediate_91 (lv_at hl 1 rfl) ?_
      refine lv_iadd hx hb dX0_performImmediate_93 ?_
      obtain ⟨r_4, hr_4⟩ : ∃ z, (FG_put σ (FG_tOf a1) (((grg σ) (Int32.toNatClampNeg (FG_sOf a1))) + (FG_signedImmediate a1))) = z := ⟨_, rfl⟩
      refine o_call (As := [.int (FG_tOf a1), .int (((grg σ) (Int32.toNatClampNeg (FG_sOf a1))) + (FG_signedImmediate a1))]) (rest := []) (res := r_4) ⟨hx, hb, hml, hown, hts⟩ (by rw [← hr_4]; exact (kX0_put l D q cA _ σ (FG_tOf a1) (((grg σ) (Int32.toNatClampNeg (FG_sOf a1))) + (FG_signedImmediate a1)))) (cwV 2 hts (gV wd_183 wd_185 wd_6 wd_38 wd_186) rfl rfl rfl (by decide +kernel) ⟨Nat.le_of_ble_eq_true rfl, Nat.le_of_ble_eq_true rfl⟩) hK hP hD hS hA (va_recv hK hP (ci := 0) (q0 := 0) rfl rfl) rfl hl.1 rfl (Nat.le_of_ble_eq_true rfl) dX0_performImmediate_94 (fun H locs hP hD hS => ?_)
      exact o_ret hx hb hr hlk hK hP hD hS (by subst hr_4; rw [← hF, FG_performImmediate, if_neg c_1, if_pos c_3]) dX0_performImmediate_97
    · skip
      by_cases c_5 : (FG_opOf a1) = (10 : Int32)
      · skip
        refine lv_tableIn (tgt := 98) hx hb dX0_performImmediate_31 (by rw [c_5]; decide) (by rw [c_5]; decide) (by rw [c_5]; rfl) (by decide) ?_
        refine lv_aload_n hx hb dX0_performImmediate_98 rfl (lv_at hl 4 rfl) ?_
        refine lv_iload_n hx hb dX0_performImmediate_99 rfl (lv_at hl 2 rfl) ?_
        refine lv_iload_n hx hb dX0_performImmediate_100 rfl (lv_at hl 3 rfl) ?_
        refine lv_iload hx hb dX0_performImmediate_101 (lv_at hl 1 rfl) ?_
        refine lv_icmp_ge (tgt := 110) hx hb dX0_performImmediate_103 (by decide) (fun c_6 => ?_) (fun c_6 => ?_)
        · skip
          refine lv_iconst (v := 0) hx hb dX0_performImmediate_110 (by decide) ?_
          obtain ⟨r_7, hr_7⟩ : ∃ z, (FG_put σ (FG_tOf a1) (0 : Int32)) = z := ⟨_, rfl⟩
          refine o_call (As := [.int (FG_tOf a1), .int (0 : Int32)]) (rest := []) (res := r_7) ⟨hx, hb, hml, hown, hts⟩ (by rw [← hr_7]; exact (kX0_put l D q cA _ σ (FG_tOf a1) (0 : Int32))) (cwV 2 hts (gV wd_183 wd_185 wd_6 wd_38 wd_186) rfl rfl rfl (by decide +kernel) ⟨Nat.le_of_ble_eq_true rfl, Nat.le_of_ble_eq_true rfl⟩) hK hP hD hS hA (va_recv hK hP (ci := 0) (q0 := 0) rfl rfl) rfl hl.1 rfl (Nat.le_of_ble_eq_true rfl) dX0_performImmediate_111 (fun H locs hP hD hS => ?_)
          exact o_ret hx hb hr hlk hK hP hD hS (by subst hr_7; rw [← hF, FG_performImmediate, if_neg c_1, if_neg c_3, if_pos c_5, if_pos c_6]) dX0_performImmediate_114
        · skip
          refine lv_iconst (v := 1) hx hb dX0_performImmediate_106 (by decide) ?_
          refine lv_goto (tgt := 111) hx hb dX0_performImmediate_107 (by decide) ?_
          obtain ⟨r_8, hr_8⟩ : ∃ z, (FG_put σ (FG_tOf a1) (1 : Int32)) = z := ⟨_, rfl⟩
          refine o_call (As := [.int (FG_tOf a1), .int (1 : Int32)]) (rest := []) (res := r_8) ⟨hx, hb, hml, hown, hts⟩ (by rw [← hr_8]; exact (kX0_put l D q cA _ σ (FG_tOf a1) (1 : Int32))) (cwV 2 hts (gV wd_183 wd_185 wd_6 wd_38 wd_186) rfl rfl rfl (by decide +kernel) ⟨Nat.le_of_ble_eq_true rfl, Nat.le_of_ble_eq_true rfl⟩) hK hP hD hS hA (va_recv hK hP (ci := 0) (q0 := 0) rfl rfl) rfl hl.1 rfl (Nat.le_of_ble_eq_true rfl) dX0_performImmediate_111 (fun H locs hP hD hS => ?_)
          exact o_ret hx hb hr hlk hK hP hD hS (by subst hr_8; rw [← hF, FG_performImmediate, if_neg c_1, if_neg c_3, if_pos c_5, if_neg c_6]) dX0_performImmediate_114
      · skip
        by_cases c_9 : (FG_opOf a1) = (11 : Int32)
        · skip
          refine lv_tableIn (tgt := 115) hx hb dX0_performImmediate_31 (by rw [c_9]; decide) (by rw [c_9]; decide) (by rw [c_9]; rfl) (by decide) ?_
          refine lv_aload_n hx hb dX0_performImmediate_115 rfl (lv_at hl 4 rfl) ?_
          refine lv_iload_n hx hb dX0_performImmediate_116 rfl (lv_at hl 2 rfl) ?_
          refine lv_iload_n hx hb dX0_performImmediate_117 rfl (lv_at hl 3 rfl) ?_
          refine s_callL (As := [.int ((grg σ) (Int32.toNatClampNeg (FG_sOf a1)))]) (rest := [.int (FG_tOf a1), .ref (q 0)]) ⟨hx, hb, hml, hown, hts⟩ (kX0_unsigned l ((grg σ) (Int32.toNatClampNeg (FG_sOf a1)))) (cwS 1 hts (gS wd_222 wd_223 wd_38 wd_224) rfl rfl rfl (by decide +kernel) ⟨Nat.le_of_ble_eq_true rfl, Nat.le_of_ble_eq_true rfl⟩) hP hS rfl hl.1 rfl (Nat.le_of_ble_eq_true rfl) dX0_performImmediate_118 (fun H locs hP hS => ?_)
          refine lv_iload hx hb dX0_performImmediate_121 (lv_at hl 1 rfl) ?_
          refine s_callL (As := [.int (FG_signedImmediate a1)]) (rest := [.long (FG_unsigned ((grg σ) (Int32.toNatClampNeg (FG_sOf a1)))), .int (FG_tOf a1), .ref (q 0)]) ⟨hx, hb, hml, hown, hts⟩ (kX0_unsigned l (FG_signedImmediate a1)) (cwS 1 hts (gS wd_222 wd_223 wd_38 wd_224) rfl rfl rfl (by decide +kernel) ⟨Nat.le_of_ble_eq_true rfl, Nat.le_of_ble_eq_true rfl⟩) hP hS rfl hl.1 rfl (Nat.le_of_ble_eq_true rfl) dX0_performImmediate_123 (fun H locs hP hS => ?_)
          refine W.lcmp hx hb dX0_performImmediate_126 ?_
          refine lv_if_ge (tgt := 134) hx hb dX0_performImmediate_127 (by decide) (fun c_10 => ?_) (fun c_10 => ?_)
          · skip
            refine lv_iconst (v := 0) hx hb dX0_performImmediate_134 (by decide) ?_
            obtain ⟨r_11, hr_11⟩ : ∃ z, (FG_put σ (FG_tOf a1) (0 : Int32)) = z := ⟨_, rfl⟩
            refine o_call (As := [.int (FG_tOf a1), .int (0 : Int32)]) (rest := []) (res := r_11) ⟨hx, hb, hml, hown, hts⟩ (by rw [← hr_11]; exact (kX0_put l D q cA _ σ (FG_tOf a1) (0 : Int32))) (cwV 2 hts (gV wd_183 wd_185 wd_6 wd_38 wd_186) rfl rfl rfl (by decide +kernel) ⟨Nat.le_of_ble_eq_true rfl, Nat.le_of_ble_eq_true rfl⟩) hK hP hD hS hA (va_recv hK hP (ci := 0) (q0 := 0) rfl rfl) rfl hl.1 rfl (Nat.le_of_ble_eq_true rfl) dX0_performImmediate_135 (fun H locs hP hD hS => ?_)
            exact o_ret hx hb hr hlk hK hP hD hS (by subst hr_11; rw [← hF, FG_performImmediate, if_neg c_1, if_neg c_3, if_neg c_5, if_pos c_9, if_pos c_10]) dX0_performImmediate_138
          · skip
            refine lv_iconst (v := 1) hx hb dX0_performImmediate_130 (by decide) ?_
            refine lv_goto (tgt := 135) hx hb dX0_performImmediate_131 (by decide) ?_
            obtain ⟨r_12, hr_12⟩ : ∃ z, (FG_put σ (FG_tOf a1) (1 : Int32)) = z := ⟨_, rfl⟩
            refine o_call (As := [.int (FG_tOf a1), .int (1 : Int32)]) (rest := []) (res := r_12) ⟨hx, hb, hml, hown, hts⟩ (by rw [← hr_12]; exact (kX0_put l D q cA _ σ (FG_tOf a1) (1 : Int32))) (cwV 2 hts (gV wd_183 wd_185 wd_6 wd_38 wd_186) rfl rfl rfl (by decide +kernel) ⟨Nat.le_of_ble_eq_true rfl, Nat.le_of_ble_eq_true rfl⟩) hK hP hD hS hA (va_recv hK hP (ci := 0) (q0 := 0) rfl rfl) rfl hl.1 rfl (Nat.le_of_ble_eq_true rfl) dX0_performImmediate_135 (fun H locs hP hD hS => ?_)
            exact o_ret hx hb hr hlk hK hP hD hS (by subst hr_12; rw [← hF, FG_performImmediate, if_neg c_1, if_neg c_3, if_neg c_5, if_pos c_9, if_neg c_10]) dX0_performImmediate_138
        · skip
          by_cases c_13 : (FG_opOf a1) = (12 : Int32)
          · skip
            refine lv_tableIn (tgt := 139) hx hb dX0_performImmediate_31 (by rw [c_13]; decide) (by rw [c_13]; decide) (by rw [c_13]; rfl) (by decide) ?_
            refine lv_aload_n hx hb dX0_performImmediate_139 rfl (lv_at hl 4 rfl) ?_
            refine lv_iload_n hx hb dX0_performImmediate_140 rfl (lv_at hl 2 rfl) ?_
            refine lv_iload_n hx hb dX0_performImmediate_141 rfl (lv_at hl 3 rfl) ?_
            refine lv_iload hx hb dX0_performImmediate_142 (lv_at hl 0 rfl) ?_
            refine lv_iand hx hb dX0_performImmediate_144 ?_
            obtain ⟨r_14, hr_14⟩ : ∃ z, (FG_put σ (FG_tOf a1) (((grg σ) (Int32.toNatClampNeg (FG_sOf a1))) &&& (FG_plainImmediate a1))) = z := ⟨_, rfl⟩
            refine o_call (As := [.int (FG_tOf a1), .int (((grg σ) (Int32.toNatClampNeg (FG_sOf a1))) &&& (FG_plainImmediate a1))]) (rest := []) (res := r_14) ⟨hx, hb, hml, hown, hts⟩ (by rw [← hr_14]; exact (kX0_put l D q cA _ σ (FG_tOf a1) (((grg σ) (Int32.toNatClampNeg (FG_sOf a1))) &&& (FG_plainImmediate a1)))) (cwV 2 hts (gV wd_183 wd_185 wd_6 wd_38 wd_186) rfl rfl rfl (by decide +kernel) ⟨Nat.le_of_ble_eq_true rfl, Nat.le_of_ble_eq_true rfl⟩) hK hP hD hS hA (va_recv hK hP (ci := 0) (q0 := 0) rfl rfl) rfl hl.1 rfl (Nat.le_of_ble_eq_true rfl) dX0_performImmediate_145 (fun H locs hP hD hS => ?_)
            exact o_ret hx hb hr hlk hK hP hD hS (by subst hr_14; rw [← hF, FG_performImmediate, if_neg c_1, if_neg c_3, if_neg c_5, if_neg c_9, if_pos c_13]) dX0_performImmediate_148
          · skip
            by_cases c_15 : (FG_opOf a1) = (13 : Int32)
            · skip
              refine lv_tableIn (tgt := 149) hx hb dX0_performImmediate_31 (by rw [c_15]; decide) (by rw [c_15]; decide) (by rw [c_15]; rfl) (by decide) ?_
              refine lv_aload_n hx hb dX0_performImmediate_149 rfl (lv_at hl 4 rfl) ?_
              refine lv_iload_n hx hb dX0_performImmediate_150 rfl (lv_at hl 2 rfl) ?_
              refine lv_iload_n hx hb dX0_performImmediate_151 rfl (lv_at hl 3 rfl) ?_
              refine lv_iload hx hb dX0_performImmediate_152 (lv_at hl 0 rfl) ?_
              refine lv_ior hx hb dX0_performImmediate_154 ?_
              obtain ⟨r_16, hr_16⟩ : ∃ z, (FG_put σ (FG_tOf a1) (((grg σ) (Int32.toNatClampNeg (FG_sOf a1))) ||| (FG_plainImmediate a1))) = z := ⟨_, rfl⟩
              refine o_call (As := [.int (FG_tOf a1), .int (((grg σ) (Int32.toNatClampNeg (FG_sOf a1))) ||| (FG_plainImmediate a1))]) (rest := []) (res := r_16) ⟨hx, hb, hml, hown, hts⟩ (by rw [← hr_16]; exact (kX0_put l D q cA _ σ (FG_tOf a1) (((grg σ) (Int32.toNatClampNeg (FG_sOf a1))) ||| (FG_plainImmediate a1)))) (cwV 2 hts (gV wd_183 wd_185 wd_6 wd_38 wd_186) rfl rfl rfl (by decide +kernel) ⟨Nat.le_of_ble_eq_true rfl, Nat.le_of_ble_eq_true rfl⟩) hK hP hD hS hA (va_recv hK hP (ci := 0) (q0 := 0) rfl rfl) rfl hl.1 rfl (Nat.le_of_ble_eq_true rfl) dX0_performImmediate_155 (fun H locs hP hD hS => ?_)
              exact o_ret hx hb hr hlk hK hP hD hS (by subst hr_16; rw [← hF, FG_performImmediate, if_neg c_1, if_neg c_3, if_neg c_5, if_neg c_9, if_neg c_13, if_pos c_15]) dX0_performImmediate_158
            · skip
              by_cases c_17 : (FG_opOf a1) = (14 : Int32)
              · skip
                refine lv_tableIn (tgt := 159) hx hb dX0_performImmediate_31 (by rw [c_17]; decide) (by rw [c_17]; decide) (by rw [c_17]; rfl) (by decide) ?_
                refine lv_aload_n hx hb dX0_performImmediate_159 rfl (lv_at hl 4 rfl) ?_
                refine lv_iload_n hx hb dX0_performImmediate_160 rfl (lv_at hl 2 rfl) ?_
                refine lv_iload_n hx hb dX0_performImmediate_161 rfl (lv_at hl 3 rfl) ?_
                refine lv_iload hx hb dX0_performImmediate_162 (lv_at hl 0 rfl) ?_
                refine lv_ixor hx hb dX0_performImmediate_164 ?_
                obtain ⟨r_18, hr_18⟩ : ∃ z, (FG_put σ (FG_tOf a1) (((grg σ) (Int32.toNatClampNeg (FG_sOf a1))) ^^^ (FG_plainImmediate a1))) = z := ⟨_, rfl⟩
                refine o_call (As := [.int (FG_tOf a1), .int (((grg σ) (Int32.toNatClampNeg (FG_sOf a1))) ^^^ (FG_plainImmediate a1))]) (rest := []) (res := r_18) ⟨hx, hb, hml, hown, hts⟩ (by rw [← hr_18]; exact (kX0_put l D q cA _ σ (FG_tOf a1) (((grg σ) (Int32.toNatClampNeg (FG_sOf a1))) ^^^ (FG_plainImmediate a1)))) (cwV 2 hts (gV wd_183 wd_185 wd_6 wd_38 wd_186) rfl rfl rfl (by decide +kernel) ⟨Nat.le_of_ble_eq_true rfl, Nat.le_of_ble_eq_true rfl⟩) hK hP hD hS hA (va_recv hK hP (ci := 0) (q0 := 0) rfl rfl) rfl hl.1 rfl (Nat.le_of_ble_eq_true rfl) dX0_performImmediate_165 (fun H locs hP hD hS => ?_)
                exact o_ret hx hb hr hlk hK hP hD hS (by subst hr_18; rw [← hF, FG_performImmediate, if_neg c_1, if_neg c_3, if_neg c_5, if_neg c_9, if_neg c_13, if_neg c_15, if_pos c_17]) dX0_performImmediate_168
              · skip
                by_cases c_19 : (FG_opOf a1) = (15 : Int32)
                · skip
                  refine lv_tableIn (tgt := 169) hx hb dX0_performImmediate_31 (by rw [c_19]; decide) (by rw [c_19]; decide) (by rw [c_19]; rfl) (by decide) ?_
                  refine lv_aload_n hx hb dX0_performImmediate_169 rfl (lv_at hl 4 rfl) ?_
                  refine lv_iload_n hx hb dX0_performImmediate_170 rfl (lv_at hl 2 rfl) ?_
                  refine lv_iload hx hb dX0_performImmediate_171 (lv_at hl 0 rfl) ?_
                  refine lv_bipush (v := 16) hx hb dX0_performImmediate_173 (by decide) ?_
                  refine lv_ishl hx hb dX0_performImmediate_175 ?_
                  obtain ⟨r_20, hr_20⟩ : ∃ z, (FG_put σ (FG_tOf a1) ((FG_plainImmediate a1) <<< ((16 : Int32) &&& 31))) = z := ⟨_, rfl⟩
                  refine o_call (As := [.int (FG_tOf a1), .int ((FG_plainImmediate a1) <<< ((16 : Int32) &&& 31))]) (rest := []) (res := r_20) ⟨hx, hb, hml, hown, hts⟩ (by rw [← hr_20]; exact (kX0_put l D q cA _ σ (FG_tOf a1) ((FG_plainImmediate a1) <<< ((16 : Int32) &&& 31)))) (cwV 2 hts (gV wd_183 wd_185 wd_6 wd_38 wd_186) rfl rfl rfl (by decide +kernel) ⟨Nat.le_of_ble_eq_true rfl, Nat.le_of_ble_eq_true rfl⟩) hK hP hD hS hA (va_recv hK hP (ci := 0) (q0 := 0) rfl rfl) rfl hl.1 rfl (Nat.le_of_ble_eq_true rfl) dX0_performImmediate_176 (fun H locs hP hD hS => ?_)
                  exact o_ret hx hb hr hlk hK hP hD hS (by subst hr_20; rw [← hF, FG_performImmediate, if_neg c_1, if_neg c_3, if_neg c_5, if_neg c_9, if_neg c_13, if_neg c_15, if_neg c_17, if_pos c_19]) dX0_performImmediate_179
                · skip
                  refine lv_tableOut (tgt := 180) hx hb dX0_performImmediate_31 (by have h0 := lv_neT (a := 8) c_1 (by decide); have h1 := lv_neT (a := 9) c_3 (by decide); have h2 := lv_neT (a := 10) c_5 (by decide); have h3 := lv_neT (a := 11) c_9 (by decide); have h4 := lv_neT (a := 12) c_13 (by decide); have h5 := lv_neT (a := 13) c_15 (by decide); have h6 := lv_neT (a := 14) c_17 (by decide); have h7 := lv_neT (a := 15) c_19 (by decide); omega) (by decide) ?_
                  refine lv_iconst (v := 1) hx hb dX0_performImmediate_180 (by decide) ?_
                  exact o_ret hx hb hr hlk hK hP hD hS (by rw [← hF, FG_performImmediate, if_neg c_1, if_neg c_3, if_neg c_5, if_neg c_9, if_neg c_13, if_neg c_15, if_neg c_17, if_neg c_19]) dX0_performImmediate_181
