set_option maxHeartbeats 4000000 in
set_option maxRecDepth 100000 in
theorem kX0_unsigned (l : Launch) (a1 : Int32) : sMetL l yX0_unsigned wsX0_unsigned { frames := 0, cells := 0, slots := 0, locals := 0 } [.int a1] (FG_unsigned a1) := by
  refine s_metL (cc := cX0_unsigned) (maxL := 1) (ret := some .long) (by decide) rfl (Nat.le_of_ble_eq_true rfl) ?_
  intro p e s m args below meth c ls hx hb hr hml hts hown hlk hS hl
  have hl : lv_has ls 1 [(0, .int a1)] := hl
  generalize hF : FG_unsigned a1 = res
  refine lv_iload_n hx hb dX0_unsigned_0 rfl (lv_at hl 0 rfl) ?_
  refine lv_i2l hx hb dX0_unsigned_1 rfl ?_
  refine lv_ldc2 (v := 4294967295) hx hb hown (hts _ (mc wd_225)) dX0_unsigned_2 ?_
  refine lv_land hx hb dX0_unsigned_5 ?_
  exact s_retL hx hb hr hlk hS (by rw [← hF, FG_unsigned]) dX0_unsigned_6
set_option maxHeartbeats 4000000 in
set_option maxRecDepth 100000 in
theorem kX0_divide (l : Launch) (D : va_G) (q : Nat → Nat) (cA : Nat → ClassId) (sz : Nat) (σ : SG) (a1 : Int64) (a2 : Int64) : oMet l D vwCl (wG q cA) (tG cA) (q 0) sz yX0_divide wsX0_divide { frames := 1, cells := 0, slots := 0, locals := 22 } σ [.long a1, .long a2] (FG_divide σ a1 a2) := by
  refine o_met (cc := cX0_divide) (maxL := 5) (ret := some .int) (by decide) rfl (Nat.le_of_ble_eq_true rfl) ?_
  intro p e s m args below meth c A ls hx hb hr hml hts hown hlk hP hK hD hA hS hl
  have hl : lv_has ls 5 [(0, .ref (q 0)), (1, .long a1), (3, .long a2)] := hl
  have hin : ∀ w ∈ wsX00, w ∈ wsX0_divide := fun w h => mc (inX0 w h)
  generalize hF : FG_divide σ a1 a2 = res
  refine lv_lload_n hx hb dX0_divide_0 rfl (lv_at hl 2 rfl) ?_
  refine lv_lconst (v := 0) hx hb dX0_divide_1 (by decide) ?_
  refine W.lcmp hx hb dX0_divide_2 ?_
  refine lv_if_ne (tgt := 23) hx hb dX0_divide_3 (by decide) (fun c_1 => ?_) (fun c_1 => ?_)
  · skip
    refine lv_aload_n hx hb dX0_divide_23 rfl (lv_at hl 0 rfl) ?_
    refine lv_bipush (v := 32) hx hb dX0_divide_24 (by decide) ?_
    refine lv_lload_n hx hb dX0_divide_26 rfl (lv_at hl 1 rfl) ?_
    refine lv_lload_n hx hb dX0_divide_27 rfl (lv_at hl 2 rfl) ?_
    refine lv_lrem hx hb dX0_divide_28 (lc_ne c_1) ?_
    refine lv_l2i hx hb dX0_divide_29 rfl ?_
    obtain ⟨r_2, hr_2⟩ : ∃ z, (FG_put σ (32 : Int32) (Int64.toInt32 (a1 - a1 / a2 * a2))) = z := ⟨_, rfl⟩
    refine o_call (As := [.int (32 : Int32), .int (Int64.toInt32 (a1 - a1 / a2 * a2))]) (rest := []) (res := r_2) ⟨hx, hb, hml, hown, hts⟩ (by rw [← hr_2]; exact (kX0_put l D q cA _ σ (32 : Int32) (Int64.toInt32 (a1 - a1 / a2 * a2)))) (cwV 2 hts (gV wd_183 wd_185 wd_6 wd_38 wd_186) rfl rfl rfl (by decide +kernel) ⟨Nat.le_of_ble_eq_true rfl, Nat.le_of_ble_eq_true rfl⟩) hK hP hD hS hA (va_recv hK hP (ci := 0) (q0 := 0) rfl rfl) rfl hl.1 rfl (Nat.le_of_ble_eq_true rfl) dX0_divide_30 (fun H locs hP hD hS => ?_)
    refine lv_pop hx hb dX0_divide_33 rfl ?_
    refine lv_aload_n hx hb dX0_divide_34 rfl (lv_at hl 0 rfl) ?_
    refine lv_bipush (v := 33) hx hb dX0_divide_35 (by decide) ?_
    refine lv_lload_n hx hb dX0_divide_37 rfl (lv_at hl 1 rfl) ?_
    refine lv_lload_n hx hb dX0_divide_38 rfl (lv_at hl 2 rfl) ?_
    refine lv_ldiv hx hb dX0_divide_39 (by subst hr_2; exact (lc_ne c_1)) ?_
    refine lv_l2i hx hb dX0_divide_40 rfl ?_
    obtain ⟨r_3, hr_3⟩ : ∃ z, (FG_put r_2.2 (33 : Int32) (Int64.toInt32 (a1 / a2))) = z := ⟨_, rfl⟩
    refine o_call (As := [.int (33 : Int32), .int (Int64.toInt32 (a1 / a2))]) (rest := []) (res := r_3) ⟨hx, hb, hml, hown, hts⟩ (by rw [← hr_3]; exact (kX0_put l D q cA _ r_2.2 (33 : Int32) (Int64.toInt32 (a1 / a2)))) (cwV 2 hts (gV wd_183 wd_185 wd_6 wd_38 wd_186) rfl rfl rfl (by decide +kernel) ⟨Nat.le_of_ble_eq_true rfl, Nat.le_of_ble_eq_true rfl⟩) hK hP hD hS hA (va_recv hK hP (ci := 0) (q0 := 0) rfl rfl) rfl hl.1 rfl (Nat.le_of_ble_eq_true rfl) dX0_divide_41 (fun H locs hP hD hS => ?_)
    exact o_ret hx hb hr hlk hK hP hD hS (by subst hr_2; subst hr_3; rw [← hF, FG_divide, if_neg c_1]) dX0_divide_44
  · skip
    refine lv_aload_n hx hb dX0_divide_6 rfl (lv_at hl 0 rfl) ?_
    refine lv_bipush (v := 32) hx hb dX0_divide_7 (by decide) ?_
    refine lv_lload_n hx hb dX0_divide_9 rfl (lv_at hl 1 rfl) ?_
    refine lv_l2i hx hb dX0_divide_10 rfl ?_
    obtain ⟨r_4, hr_4⟩ : ∃ z, (FG_put σ (32 : Int32) (Int64.toInt32 a1)) = z := ⟨_, rfl⟩
    refine o_call (As := [.int (32 : Int32), .int (Int64.toInt32 a1)]) (rest := []) (res := r_4) ⟨hx, hb, hml, hown, hts⟩ (by rw [← hr_4]; exact (kX0_put l D q cA _ σ (32 : Int32) (Int64.toInt32 a1))) (cwV 2 hts (gV wd_183 wd_185 wd_6 wd_38 wd_186) rfl rfl rfl (by decide +kernel) ⟨Nat.le_of_ble_eq_true rfl, Nat.le_of_ble_eq_true rfl⟩) hK hP hD hS hA (va_recv hK hP (ci := 0) (q0 := 0) rfl rfl) rfl hl.1 rfl (Nat.le_of_ble_eq_true rfl) dX0_divide_11 (fun H locs hP hD hS => ?_)
    refine lv_pop hx hb dX0_divide_14 rfl ?_
    refine lv_aload_n hx hb dX0_divide_15 rfl (lv_at hl 0 rfl) ?_
    refine lv_bipush (v := 33) hx hb dX0_divide_16 (by decide) ?_
    refine lv_iconst (v := -1) hx hb dX0_divide_18 (by decide) ?_
    obtain ⟨r_5, hr_5⟩ : ∃ z, (FG_put r_4.2 (33 : Int32) (-1 : Int32)) = z := ⟨_, rfl⟩
    refine o_call (As := [.int (33 : Int32), .int (-1 : Int32)]) (rest := []) (res := r_5) ⟨hx, hb, hml, hown, hts⟩ (by rw [← hr_5]; exact (kX0_put l D q cA _ r_4.2 (33 : Int32) (-1 : Int32))) (cwV 2 hts (gV wd_183 wd_185 wd_6 wd_38 wd_186) rfl rfl rfl (by decide +kernel) ⟨Nat.le_of_ble_eq_true rfl, Nat.le_of_ble_eq_true rfl⟩) hK hP hD hS hA (va_recv hK hP (ci := 0) (q0 := 0) rfl rfl) rfl hl.1 rfl (Nat.le_of_ble_eq_true rfl) dX0_divide_19 (fun H locs hP hD hS => ?_)
    exact o_ret hx hb hr hlk hK hP hD hS (by subst hr_4; subst hr_5; rw [← hF, FG_divide, if_pos c_1]) dX0_divide_22
set_option maxHeartbeats 4000000 in
set_option maxRecDepth 100000 in
theorem kX0_performHiLo (l : Launch) (D : va_G) (q : Nat → Nat) (cA : Nat → ClassId) (sz : Nat) (σ : SG) (a1 : Int32) : oMet l D vwCl (wG q cA) (tG cA) (q 0) sz yX0_performHiLo wsX0_performHiLo { frames := 2, cells := 0, slots := 0, locals := 46 } σ [.int a1] (FG_performHiLo σ a1) := by
  refine o_met (cc := cX0_performHiLo) (maxL := 4) (ret := some .int) (by decide) rfl (Nat.le_of_ble_eq_true rfl) ?_
  intro p e s m args below meth c A ls hx hb hr hml hts hown hlk hP hK hD hA hS hl
  have hl : lv_has ls 4 [(0, .ref (q 0)), (1, .int a1)] := hl
  have hin : ∀ w ∈ wsX00, w ∈ wsX0_performHiLo := fun w h => mc (inX0 w h)
  generalize hF : FG_performHiLo σ a1 = res
  refine lv_aload_n hx hb dX0_performHiLo_0 rfl (lv_at hl 0 rfl) ?_
  refine getX0_rg hx hb hts hin hown hK hP (hts _ (mc wd_53)) dX0_performHiLo_1 ?_
  refine lv_iload_n hx hb dX0_performHiLo_4 rfl (lv_at hl 1 rfl) ?_
  refine s_call (As := [.int a1]) (rest := [.ref (q 3)]) ⟨hx, hb, hml, hown, hts⟩ (kX0_sOf l a1) (cwS 1 hts (gS wd_153 wd_154 wd_38 wd_155) rfl rfl rfl (by decide +kernel) ⟨Nat.le_of_ble_eq_true rfl, Nat.le_of_ble_eq_true rfl⟩) hP hS rfl hl.1 rfl (Nat.le_of_ble_eq_true rfl) dX0_performHiLo_5 (fun H locs hP hS => ?_)
  refine aldX0_rg (f := (grg σ)) hx hb hK hP (in_sOf _) dX0_performHiLo_8 rfl ?_
  refine lv_istore_n (lv' := [(2, .int ((grg σ) (Int32.toNatClampNeg (FG_sOf a1)))), (0, .ref (q 0)), (1, .int a1)]) hx hb dX0_performHiLo_9 rfl hl (by decide) rfl (fun ls hl => ?_)
  refine lv_aload_n hx hb dX0_performHiLo_10 rfl (lv_at hl 1 rfl) ?_
  refine getX0_rg hx hb hts hin hown hK hP (hts _ (mc wd_53)) dX0_performHiLo_11 ?_
  refine lv_iload_n hx hb dX0_performHiLo_14 rfl (lv_at hl 2 rfl) ?_
  refine s_call (As := [.int a1]) (rest := [.ref (q 3)]) ⟨hx, hb, hml, hown, hts⟩ (kX0_tOf l a1) (cwS 1 hts (gS wd_139 wd_140 wd_38 wd_141) rfl rfl rfl (by decide +kernel) ⟨Nat.le_of_ble_eq_true rfl, Nat.le_of_ble_eq_true rfl⟩) hP hS rfl hl.1 rfl (Nat.le_of_ble_eq_true rfl) dX0_performHiLo_15 (fun H locs hP hS => ?_)
  refine aldX0_rg (f := (grg σ)) hx hb hK hP (in_tOf _) dX0_performHiLo_18 rfl ?_
  refine lv_istore_n (lv' := [(3, .int ((grg σ) (Int32.toNatClampNeg (FG_tOf a1)))), (2, .int ((grg σ) (Int32.toNatClampNeg (FG_sOf a1)))), (0, .ref (q 0)), (1, .int a1)]) hx hb dX0_performHiLo_19 rfl hl (by decide) rfl (fun ls hl => ?_)
  refine lv_iload_n hx hb dX0_performHiLo_20 rfl (lv_at hl 3 rfl) ?_
  refine s_call (As := [.int a1]) (rest := []) ⟨hx, hb, hml, hown, hts⟩ (kX0_fOf l a1) (cwS 1 hts (gS wd_136 wd_137 wd_38 wd_138) rfl rfl rfl (by decide +kernel) ⟨Nat.le_of_ble_eq_true rfl, Nat.le_of_ble_eq_true rfl⟩) hP hS rfl hl.1 rfl (Nat.le_of_ble_eq_true rfl) dX0_performHiLo_21 (fun H locs hP hS => ?_)
  by_cases c_1 : (FG_fOf a1) = (16 : Int32)
  · skip
    refine lv_tableIn (tgt := 88) hx hb dX0_performHiLo_24 (by rw [c_1]; decide) (by rw [c_1]; decide) (by rw [c_1]; rfl) (by decide) ?_
    refine lv_aload_n hx hb dX0_performHiLo_88 rfl (lv_at hl 2 rfl) ?_
    refine lv_iload_n hx hb dX0_performHiLo_89 rfl (lv_at hl 3 rfl) ?_
    refine s_call (As := [.int a1]) (rest := [.ref (q 0)]) ⟨hx, hb, hml, hown, hts⟩ (kX0_dOf l a1) (cwS 1 hts (gS wd_180 wd_181 wd_38 wd_182) rfl rfl rfl (by decide +kernel) ⟨Nat.le_of_ble_eq_true rfl, Nat.le_of_ble_eq_true rfl⟩) hP hS rfl hl.1 rfl (Nat.le_of_ble_eq_true rfl) dX0_performHiLo_90 (fun H locs hP hS => ?_)
    refine lv_aload_n hx hb dX0_performHiLo_93 rfl (lv_at hl 2 rfl) ?_
    refine getX0_rg hx hb hts hin hown hK hP (hts _ (mc wd_53)) dX0_performHiLo_94 ?_
    refine lv_bipush (v := 32) hx hb dX0_performHiLo_97 (by decide) ?_
    refine aldX0_rg (f := (grg σ)) hx hb hK hP (in_c (by decide)) dX0_performHiLo_99 rfl ?_
    obtain ⟨r_2, hr_2⟩ : ∃ z, (FG_put σ (FG_dOf a1) ((grg σ) (Int32.toNatClampNeg (32 : Int32)))) = z := ⟨_, rfl⟩
    refine o_call (As := [.int (FG_dOf a1), .int ((grg σ) (Int32.toNatClampNeg (32 : Int32)))]) (rest := []) (res := r_2) ⟨hx, hb, hml, hown, hts⟩ (by rw [← hr_2]; exact (kX0_put l D q cA _ σ (FG_dOf a1) ((grg σ) (Int32.toNatClampNeg (32 : Int32))))) (cwV 2 hts (gV wd_183 wd_185 wd_6 wd_38 wd_186) rfl rfl rfl (by decide +kernel) ⟨Nat.le_of_ble_eq_true rfl, Nat.le_of_ble_eq_true rfl⟩) hK hP hD hS hA (va_recv hK hP (ci := 0) (q0 := 0) rfl rfl) rfl hl.1 rfl (Nat.le_of_ble_eq_true rfl) dX0_performHiLo_100 (fun H locs hP hD hS => ?_)
    exact o_ret hx hb hr hlk hK hP hD hS (by subst hr_2; rw [← hF, FG_performHiLo, if_pos c_1]) dX0_performHiLo_103
  · skip
    by_cases c_3 : (FG_fOf a1) = (17 : Int32)
    · skip
      refine lv_tableIn (tgt := 104) hx hb dX0_performHiLo_24 (by rw [c_3]; decide) (by rw [c_3]; decide) (by rw [c_3]; rfl) (by decide) ?_
      refine lv_aload_n hx hb dX0_performHiLo_104 rfl (lv_at hl 2 rfl) ?_
      refine lv_bipush (v := 32) hx hb dX0_performHiLo_105 (by decide) ?_
      refine lv_iload_n hx hb dX0_performHiLo_107 rfl (lv_at hl 1 rfl) ?_
      obtain ⟨r_4, hr_4⟩ : ∃ z, (FG_put σ (32 : Int32) ((grg σ) (Int32.toNatClampNeg (FG_sOf a1)))) = z := ⟨_, rfl⟩
      refine o_call (As := [.int (32 : Int32), .int ((grg σ) (Int32.toNatClampNeg (FG_sOf a1)))]) (rest := []) (res := r_4) ⟨hx, hb, hml, hown, hts⟩ (by rw [← hr_4]; exact (kX0_put l D q cA _ σ (32 : Int32) ((grg σ) (Int32.toNatClampNeg (FG_sOf a1))))) (cwV 2 hts (gV wd_183 wd_185 wd_6 wd_38 wd_186) rfl rfl rfl (by decide +kernel) ⟨Nat.le_of_ble_eq_true rfl, Nat.le_of_ble_eq_true rfl⟩) hK hP hD hS hA (va_recv hK hP (ci := 0) (q0 := 0) rfl rfl) rfl hl.1 rfl (Nat.le_of_ble_eq_true rfl) dX0_performHiLo_108 (fun H locs hP hD hS => ?_)
      exact o_ret hx hb hr hlk hK hP hD hS (by subst hr_4; rw [← hF, FG_performHiLo, if_neg c_1, if_pos c_3]) dX0_performHiLo_111
    · skip
      by_cases c_5 : (FG_fOf a1) = (18 : Int32)
      · skip
        refine lv_tableIn (tgt := 112) hx hb dX0_performHiLo_24 (by rw [c_5]; decide) (by rw [c_5]; decide) (by rw [c_5]; rfl) (by decide) ?_
        refine lv_aload_n hx hb dX0_performHiLo_112 rfl (lv_at hl 2 rfl) ?_
        refine lv_iload_n hx hb dX0_performHiLo_113 rfl (lv_at hl 3 rfl) ?_
        refine s_call (As := [.int a1]) (rest := [.ref (q 0)]) ⟨hx, hb, hml, hown, hts⟩ (kX0_dOf l a1) (cwS 1 hts (gS wd_180 wd_181 wd_38 wd_182) rfl rfl rfl (by decide +kernel) ⟨Nat.le_of_ble_eq_true rfl, Nat.le_of_ble_eq_true rfl⟩) hP hS rfl hl.1 rfl (Nat.le_of_ble_eq_true rfl) dX0_performHiLo_114 (fun H locs hP hS => ?_)
        refine lv_aload_n hx hb dX0_performHiLo_117 rfl (lv_at hl 2 rfl) ?_
        refine getX0_rg hx hb hts hin hown hK hP (hts _ (mc wd_53)) dX0_performHiLo_118 ?_
        refine lv_bipush (v := 33) hx hb dX0_performHiLo_121 (by decide) ?_
        refine aldX0_rg (f := (grg σ)) hx hb hK hP (in_c (by decide)) dX0_performHiLo_123 rfl ?_
        obtain ⟨r_6, hr_6⟩ : ∃ z, (FG_put σ (FG_dOf a1) ((grg σ) (Int32.toNatClampNeg (33 : Int32)))) = z := ⟨_, rfl⟩
        refine o_call (As := [.int (FG_dOf a1), .int ((grg σ) (Int32.toNatClampNeg (33 : Int32)))]) (rest := []) (res := r_6) ⟨hx, hb, hml, hown, hts⟩ (by rw [← hr_6]; exact (kX0_put l D q cA _ σ (FG_dOf a1) ((grg σ) (Int32.toNatClampNeg (33 : Int32))))) (cwV 2 hts (gV wd_183 wd_185 wd_6 wd_38 wd_186) rfl rfl rfl (by decide +kernel) ⟨Nat.le_of_ble_eq_true rfl, Nat.le_of_ble_eq_true rfl⟩) hK hP hD hS hA (va_recv hK hP (ci := 0) (q0 := 0) rfl rfl) rfl hl.1 rfl (Nat.le_of_ble_eq_true rfl) dX0_performHiLo_124 (fun H locs hP hD hS => ?_)
        exact o_ret hx hb hr hlk hK hP hD hS (by subst hr_6; rw [← hF, FG_performHiLo, if_neg c_1, if_neg c_3, if_pos c_5]) dX0_performHiLo_127
      · skip
        by_cases c_7 : (FG_fOf a1) = (19 : Int32)
        · skip
          refine lv_tableIn (tgt := 128) hx hb dX0_performHiLo_24 (by rw [c_7]; decide) (by rw [c_7]; decide) (by rw [c_7]; rfl) (by decide) ?_
          refine lv_aload_n hx hb dX0_performHiLo_128 rfl (lv_at hl 2 rfl) ?_
          refine lv_bipush (v := 33) hx hb dX0_performHiLo_129 (by decide) ?_
          refine lv_iload_n hx hb dX0_performHiLo_131 rfl (lv_at hl 1 rfl) ?_
          obtain ⟨r_8, hr_8⟩ : ∃ z, (FG_put σ (33 : Int32) ((grg σ) (Int32.toNatClampNeg (FG_sOf a1)))) = z := ⟨_, rfl⟩
          refine o_call (As := [.int (33 : Int32), .int ((grg σ) (Int32.toNatClampNeg (FG_sOf a1)))]) (rest := []) (res := r_8) ⟨hx, hb, hml, hown, hts⟩ (by rw [← hr_8]; exact (kX0_put l D q cA _ σ (33 : Int32) ((grg σ) (Int32.toNatClampNeg (FG_sOf a1))))) (cwV 2 hts (gV wd_183 wd_185 wd_6 wd_38 wd_186) rfl rfl rfl (by decide +kernel) ⟨Nat.le_of_ble_eq_true rfl, Nat.le_of_ble_eq_true rfl⟩) hK hP hD hS hA (va_recv hK hP (ci := 0) (q0 := 0) rfl rfl) rfl hl.1 rfl (Nat.le_of_ble_eq_true rfl) dX0_performHiLo_132 (fun H locs hP hD hS => ?_)
          exact o_ret hx hb hr hlk hK hP hD hS (by subst hr_8; rw [← hF, FG_performHiLo, if_neg c_1, if_neg c_3, if_neg c_5, if_pos c_7]) dX0_performHiLo_135
        · skip
          by_cases c_9 : (FG_fOf a1) = (20 : Int32)
          · skip
            refine lv_tableIn (tgt := 182) hx hb dX0_performHiLo_24 (by rw [c_9]; decide) (by rw [c_9]; decide) (by rw [c_9]; rfl) (by decide) ?_
            refine lv_iconst (v := 1) hx hb dX0_performHiLo_182 (by decide) ?_
            exact o_ret hx hb hr hlk hK hP hD hS (by rw [← hF, FG_performHiLo, if_neg c_1, if_neg c_3, if_neg c_5, if_neg c_7, if_pos c_9]) dX0_performHiLo_183
          · skip
            by_cases c_10 : (FG_fOf a1) = (21 : Int32)
            · skip
              refine lv_tableIn (tgt := 182) hx hb dX0_performHiLo_24 (by rw [c_10]; decide) (by rw [c_10]; decide) (by rw [c_10]; rfl) (by decide) ?_
              refine lv_iconst (v := 1) hx hb dX0_performHiLo_182 (by decide) ?_
              exact o_ret hx hb hr hlk hK hP hD hS (by rw [← hF, FG_performHiLo, if_neg c_1, if_neg c_3, if_neg c_5, if_neg c_7, if_neg c_9, if_pos c_10]) dX0_performHiLo_183
            · skip
              by_cases c_11 : (FG_fOf a1) = (22 : Int32)
              · skip
                refine lv_tableIn (tgt := 182) hx hb dX0_performHiLo_24 (by rw [c_11]; decide) (by rw [c_11]; decide) (by rw [c_11]; rfl) (by decide) ?_
                refine lv_iconst (v := 1) hx hb dX0_performHiLo_182 (by decide) ?_
                exact o_ret hx hb hr hlk hK hP hD hS (by rw [← hF, FG_performHiLo, if_neg c_1, if_neg c_3, if_neg c_5, if_neg c_7, if_neg c_9, if_neg c_10, if_pos c_11]) dX0_performHiLo_183
              · skip
                by_cases c_12 : (FG_fOf a1) = (23 : Int32)
                · skip
                  refine lv_tableIn (tgt := 182) hx hb dX0_performHiLo_24 (by rw [c_12]; decide) (by rw [c_12]; decide) (by rw [c_12]; rfl) (by decide) ?_
                  refine lv_iconst (v := 1) hx hb dX0_performHiLo_182 (by decide) ?_
                  exact o_ret hx hb hr hlk hK hP hD hS (by rw [← hF, FG_performHiLo, if_neg c_1, if_neg c_3, if_neg c_5, if_neg c_7, if_neg c_9, if_neg c_10, if_neg c_11, if_pos c_12]) dX0_performHiLo_183
                · skip
                  by_cases c_13 : (FG_fOf a1) = (24 : Int32)
                  · skip
                    refine lv_tableIn (tgt := 136) hx hb dX0_performHiLo_24 (by rw [c_13]; decide) (by rw [c_13]; decide) (by rw [c_13]; rfl) (by decide) ?_
                    refine lv_aload_n hx hb dX0_performHiLo_136 rfl (lv_at hl 2 rfl) ?_
                    refine lv_iload_n hx hb dX0_performHiLo_137 rfl (lv_at hl 1 rfl) ?_
                    refine lv_i2l hx hb dX0_performHiLo_138 rfl ?_
                    refine lv_iload_n hx hb dX0_performHiLo_139 rfl (lv_at hl 0 rfl) ?_
                    refine lv_i2l hx hb dX0_performHiLo_140 rfl ?_
                    refine lv_lmul hx hb dX0_performHiLo_141 ?_
                    obtain ⟨r_14, hr_14⟩ : ∃ z, (FG_putProduct σ ((Int32.toInt64 ((grg σ) (Int32.toNatClampNeg (FG_sOf a1)))) * (Int32.toInt64 ((grg σ) (Int32.toNatClampNeg (FG_tOf a1)))))) = z := ⟨_, rfl⟩
                    refine o_call (As := [.long ((Int32.toInt64 ((grg σ) (Int32.toNatClampNeg (FG_sOf a1)))) * (Int32.toInt64 ((grg σ) (Int32.toNatClampNeg (FG_tOf a1)))))]) (rest := []) (res := r_14) ⟨hx, hb, hml, hown, hts⟩ (by rw [← hr_14]; exact (kX0_putProduct l D q cA _ σ ((Int32.toInt64 ((grg σ) (Int32.toNatClampNeg (FG_sOf a1)))) * (Int32.toInt64 ((grg σ) (Int32.toNatClampNeg (FG_tOf a1))))))) (cwV 1 hts (gV wd_218 wd_220 wd_14 wd_38 wd_221) rfl rfl rfl (by decide +kernel) ⟨Nat.le_of_ble_eq_true rfl, Nat.le_of_ble_eq_true rfl⟩) hK hP hD hS hA (va_recv hK hP (ci := 0) (q0 := 0) rfl rfl) rfl hl.1 rfl (Nat.le_of_ble_eq_true rfl) dX0_performHiLo_142 (fun H locs hP hD hS => ?_)
                    exact o_ret hx hb hr hlk hK hP hD hS (by subst hr_14; rw [← hF, FG_performHiLo, if_neg c_1, if_neg c_3, if_neg c_5, if_neg c_7, if_neg c_9, if_neg c_10, if_neg c_11, if_neg c_12, if_pos c_13]) dX0_performHiLo_145
                  · skip
                    by_cases c_15 : (FG_fOf a1) = (25 : Int32)
                    · skip
                      refine lv_tableIn (tgt := 146) hx hb dX0_performHiLo_24 (by rw [c_15]; decide) (by rw [c_15]; decide) (by rw [c_15]; rfl) (by decide) ?_
                      refine lv_aload_n hx hb dX0_performHiLo_146 rfl (lv_at hl 2 rfl) ?_
                      refine lv_iload_n hx hb dX0_performHiLo_147 rfl (lv_at hl 1 rfl) ?_
                      refine s_callL (As := [.int ((grg σ) (Int32.toNatClampNeg (FG_sOf a1)))]) (rest := [.ref (q 0)]) ⟨hx, hb, hml, hown, hts⟩ (kX0_unsigned l ((grg σ) (Int32.toNatClampNeg (FG_sOf a1)))) (cwS 1 hts (gS wd_222 wd_223 wd_38 wd_224) rfl rfl rfl (by decide +kernel) ⟨Nat.le_of_ble_eq_true rfl, Nat.le_of_ble_eq_true rfl⟩) hP hS rfl hl.1 rfl (Nat.le_of_ble_eq_true rfl) dX0_performHiLo_148 (fun H locs hP hS => ?_)
                      refine lv_iload_n hx hb dX0_performHiLo_151 rfl (lv_at hl 0 rfl) ?_
                      refine s_callL (As := [.int ((grg σ) (Int32.toNatClampNeg (FG_tOf a1)))]) (rest := [.long (FG_unsigned ((grg σ) (Int32.toNatClampNeg (FG_sOf a1)))), .ref (q 0)]) ⟨hx, hb, hml, hown, hts⟩ (kX0_unsigned l ((grg σ) (Int32.toNatClampNeg (FG_tOf a1)))) (cwS 1 hts (gS wd_222 wd_223 wd_38 wd_224) rfl rfl rfl (by decide +kernel) ⟨Nat.le_of_ble_eq_true rfl, Nat.le_of_ble_eq_true rfl⟩) hP hS rfl hl.1 rfl (Nat.le_of_ble_eq_true rfl) dX0_performHiLo_152 (fun H locs hP hS => ?_)
                      refine lv_lmul hx hb dX0_performHiLo_155 ?_
                      obtain ⟨r_16, hr_16⟩ : ∃ z, (FG_putProduct σ ((FG_unsigned ((grg σ) (Int32.toNatClampNeg (FG_sOf a1)))) * (FG_unsigned ((grg σ) (Int32.toNatClampNeg (FG_tOf a1)))))) = z := ⟨_, rfl⟩
                      refine o_call (As := [.long ((FG_unsigned ((grg σ) (Int32.toNatClampNeg (FG_sOf a1)))) * (FG_unsigned ((grg σ) (Int32.toNatClampNeg (FG_tOf a1)))))]) (rest := []) (res := r_16) ⟨hx, hb, hml, hown, hts⟩ (by rw [← hr_16]; exact (kX0_putProduct l D q cA _ σ ((FG_unsigned ((grg σ) (Int32.toNatClampNeg (FG_sOf a1)))) * (FG_unsigned ((grg σ) (Int32.toNatClampNeg (FG_tOf a1))))))) (cwV 1 hts (gV wd_218 wd_220 wd_14 wd_38 wd_221) rfl rfl rfl (by decide +kernel) ⟨Nat.le_of_ble_eq_true rfl, Nat.le_of_ble_eq_true rfl⟩) hK hP hD hS hA (va_recv hK hP (ci := 0) (q0 := 0) rfl rfl) rfl hl.1 rfl (Nat.le_of_ble_eq_true rfl) dX0_performHiLo_156 (fun H locs hP hD hS => ?_)
                      exact o_ret hx hb hr hlk hK hP hD hS (by subst hr_16; rw [← hF, FG_performHiLo, if_neg c_1, if_neg c_3, if_neg c_5, if_neg c_7, if_neg c_9, if_neg c_10, if_neg c_11, if_neg c_12, if_neg c_13, if_pos c_15]) dX0_performHiLo_159
                    · skip
                      by_cases c_17 : (FG_fOf a1) = (26 : Int32)
                      · skip
                        refine lv_tableIn (tgt := 160) hx hb dX0_performHiLo_24 (by rw [c_17]; decide) (by rw [c_17]; decide) (by rw [c_17]; rfl) (by decide) ?_
                        refine lv_aload_n hx hb dX0_performHiLo_160 rfl (lv_at hl 2 rfl) ?_
                        refine lv_iload_n hx hb dX0_performHiLo_161 rfl (lv_at hl 1 rfl) ?_
                        refine lv_i2l hx hb dX0_performHiLo_162 rfl ?_
                        refine lv_iload_n hx hb dX0_performHiLo_163 rfl (lv_at hl 0 rfl) ?_
                        refine lv_i2l hx hb dX0_performHiLo_164 rfl ?_
                        obtain ⟨r_18, hr_18⟩ : ∃ z, (FG_divide σ (Int32.toInt64 ((grg σ) (Int32.toNatClampNeg (FG_sOf a1)))) (Int32.toInt64 ((grg σ) (Int32.toNatClampNeg (FG_tOf a1))))) = z := ⟨_, rfl⟩
                        refine o_call (As := [.long (Int32.toInt64 ((grg σ) (Int32.toNatClampNeg (FG_sOf a1)))), .long (Int32.toInt64 ((grg σ) (Int32.toNatClampNeg (FG_tOf a1))))]) (rest := []) (res := r_18) ⟨hx, hb, hml, hown, hts⟩ (by rw [← hr_18]; exact (kX0_divide l D q cA _ σ (Int32.toInt64 ((grg σ) (Int32.toNatClampNeg (FG_sOf a1)))) (Int32.toInt64 ((grg σ) (Int32.toNatClampNeg (FG_tOf a1)))))) (cwV 2 hts (gV wd_226 wd_228 wd_15 wd_38 wd_229) rfl rfl rfl (by decide +kernel) ⟨Nat.le_of_ble_eq_true rfl, Nat.le_of_ble_eq_true rfl⟩) hK hP hD hS hA (va_recv hK hP (ci := 0) (q0 := 0) rfl rfl) rfl hl.1 rfl (Nat.le_of_ble_eq_true rfl) dX0_performHiLo_165 (fun H locs hP hD hS => ?_)
                        exact o_ret hx hb hr hlk hK hP hD hS (by subst hr_18; rw [← hF, FG_performHiLo, if_neg c_1, if_neg c_3, if_neg c_5, if_neg c_7, if_neg c_9, if_neg c_10, if_neg c_11, if_neg c_12, if_neg c_13, if_neg c_15, if_pos c_17]) dX0_performHiLo_168
                      · skip
                        by_cases c_19 : (FG_fOf a1) = (27 : Int32)
                        · skip
                          refine lv_tableIn (tgt := 169) hx hb dX0_performHiLo_24 (by rw [c_19]; decide) (by rw [c_19]; decide) (by rw [c_19]; rfl) (by decide) ?_
                          refine lv_aload_n hx hb dX0_performHiLo_169 rfl (lv_at hl 2 rfl) ?_
                          refine lv_iload_n hx hb dX0_performHiLo_170 rfl (lv_at hl 1 rfl) ?_
                          refine s_callL (As := [.int ((grg σ) (Int32.toNatClampNeg (FG_sOf a1)))]) (rest := [.ref (q 0)]) ⟨hx, hb, hml, hown, hts⟩ (kX0_unsigned l ((grg σ) (Int32.toNatClampNeg (FG_sOf a1)))) (cwS 1 hts (gS wd_222 wd_223 wd_38 wd_224) rfl rfl rfl (by decide +kernel) ⟨Nat.le_of_ble_eq_true rfl, Nat.le_of_ble_eq_true rfl⟩) hP hS rfl hl.1 rfl (Nat.le_of_ble_eq_true rfl) dX0_performHiLo_171 (fun H locs hP hS => ?_)
                          refine lv_iload_n hx hb dX0_performHiLo_174 rfl (lv_at hl 0 rfl) ?_
                          refine s_callL (As := [.int ((grg σ) (Int32.toNatClampNeg (FG_tOf a1)))]) (rest := [.long (FG_unsigned ((grg σ) (Int32.toNatClampNeg (FG_sOf a1)))), .ref (q 0)]) ⟨hx, hb, hml, hown, hts⟩ (kX0_unsigned l ((grg σ) (Int32.toNatClampNeg (FG_tOf a1)))) (cwS 1 hts (gS wd_222 wd_223 wd_38 wd_224) rfl rfl rfl (by decide +kernel) ⟨Nat.le_of_ble_eq_true rfl, Nat.le_of_ble_eq_true rfl⟩) hP hS rfl hl.1 rfl (Nat.le_of_ble_eq_true rfl) dX0_performHiLo_175 (fun H locs hP hS => ?_)
                          obtain ⟨r_20, hr_20⟩ : ∃ z, (FG_divide σ (FG_unsigned ((grg σ) (Int32.toNatClampNeg (FG_sOf a1)))) (FG_unsigned ((grg σ) (Int32.toNatClampNeg (FG_tOf a1))))) = z := ⟨_, rfl⟩
                          refine o_call (As := [.long (FG_unsigned ((grg σ) (Int32.toNatClampNeg (FG_sOf a1)))), .long (FG_unsigned ((grg σ) (Int32.toNatClampNeg (FG_tOf a1))))]) (rest := []) (res := r_20) ⟨hx, hb, hml, hown, hts⟩ (by rw [← hr_20]; exact (kX0_divide l D q cA _ σ (FG_unsigned ((grg σ) (Int32.toNatClampNeg (FG_sOf a1)))) (FG_unsigned ((grg σ) (Int32.toNatClampNeg (FG_tOf a1)))))) (cwV 2 hts (gV wd_226 wd_228 wd_15 wd_38 wd_229) rfl rfl rfl (by decide +kernel) ⟨Nat.le_of_ble_eq_true rfl, Nat.le_of_ble_eq_true rfl⟩) hK hP hD hS hA (va_recv hK hP (ci := 0) (q0 := 0) rfl rfl) rfl hl.1 rfl (Nat.le_of_ble_eq_true rfl) dX0_performHiLo_178 (fun H locs hP hD hS => ?_)
                          exact o_ret hx hb hr hlk hK hP hD hS (by subst hr_20; rw [← hF, FG_performHiLo, if_neg c_1, if_neg c_3, if_neg c_5, if_neg c_7, if_neg c_9, if_neg c_10, if_neg c_11, if_neg c_12, if_neg c_13, if_neg c_15, if_neg c_17, if_pos c_19]) dX0_performHiLo_181
                        · skip
                          refine lv_tableOut (tgt := 182) hx hb dX0_performHiLo_24 (by have h0 := lv_neT (a := 16) c_1 (by decide); have h1 := lv_neT (a := 17) c_3 (by decide); have h2 := lv_neT (a := 18) c_5 (by decide); have h3 := lv_neT (a := 19) c_7 (by decide); have h4 := lv_neT (a := 20) c_9 (by decide); have h5 := lv_neT (a := 21) c_10 (by decide); have h6 := lv_neT (a := 22) c_11 (by decide); have h7 := lv_neT (a := 23) c_12 (by decide); have h8 := lv_neT (a := 24) c_13 (by decide); have h9 := lv_neT (a := 25) c_15 (by decide); have h10 := lv_neT (a := 26) c_17 (by decide); have h11 := lv_neT (a := 27) c_19 (by decide); omega) (by decide) ?_
                          refine lv_iconst (v := 1) hx hb dX0_performHiLo_182 (by decide) ?_
                          exact o_ret hx hb hr hlk hK hP hD hS (by rw [← hF, FG_performHiLo, if_neg c_1, if_neg c_3, if_neg c_5, if_neg c_7, if_neg c_9, if_neg c_10, if_neg c_11, if_neg c_12, if_neg c_13, if_neg c_15, if_neg c_17, if_neg c_19]) dX0_performHiLo_183
set_option maxHeartbeats 4000000 in
set_option maxRecDepth 100000 in
theorem kX0_putUnlessOverflow (l : Launch) (D : va_G) (q : Nat → Nat) (cA : Nat → ClassId) (sz : Nat) (σ : SG) (a1 : Int32) (a2 : Int64) : oMet l D vwCl (wG q cA) (tG cA) (q 0) sz yX0_putUnlessOverflow wsX0_putUnlessOverflow { frames := 1, cells := 0, slots := 0, locals := 22 } σ [.int a1, .long a2] (FG_putUnlessOverflow σ a1 a2) := by
  refine o_met (cc := cX0_putUnlessOverflow) (maxL := 4) (ret := some .int) (by decide) rfl (Nat.le_of_ble_eq_true rfl) ?_
  intro p e s m args below meth c A ls hx hb hr hml hts hown hlk hP hK hD hA hS hl
  have hl : lv_has ls 4 [(0, .ref (q 0)), (1, .int a1), (2, .long a2)] := hl
  have hin : ∀ w ∈ wsX00, w ∈ wsX0_putUnlessOverflow := fun w h => mc (inX0 w h)
  generalize hF : FG_putUnlessOverflow σ a1 a2 = res
  refine lv_lload_n hx hb dX0_putUnlessOverflow_0 rfl (lv_at hl 2 rfl) ?_
  refine lv_lload_n hx hb dX0_putUnlessOverflow_1 rfl (lv_at hl 2 rfl) ?_
  refine lv_l2i hx hb dX0_putUnlessOverflow_2 rfl ?_
  refine lv_i2l hx hb dX0_putUnlessOverflow_3 rfl ?_
  refine W.lcmp hx hb dX0_putUnlessOverflow_4 ?_
  refine lv_if_ne (tgt := 18) hx hb dX0_putUnlessOverflow_5 (by decide) (fun c_1 => ?_) (fun c_1 => ?_)
  · skip
    refine lv_iconst (v := 4) hx hb dX0_putUnlessOverflow_18 (by decide) ?_
    exact o_ret hx hb hr hlk hK hP hD hS (by rw [← hF, FG_putUnlessOverflow, if_neg c_1]) dX0_putUnlessOverflow_19
  · skip
    refine lv_aload_n hx hb dX0_putUnlessOverflow_8 rfl (lv_at hl 0 rfl) ?_
    refine lv_iload_n hx hb dX0_putUnlessOverflow_9 rfl (lv_at hl 1 rfl) ?_
    refine lv_lload_n hx hb dX0_putUnlessOverflow_10 rfl (lv_at hl 2 rfl) ?_
    refine lv_l2i hx hb dX0_putUnlessOverflow_11 rfl ?_
    obtain ⟨r_2, hr_2⟩ : ∃ z, (FG_put σ a1 (Int64.toInt32 a2)) = z := ⟨_, rfl⟩
    refine o_call (As := [.int a1, .int (Int64.toInt32 a2)]) (rest := []) (res := r_2) ⟨hx, hb, hml, hown, hts⟩ (by rw [← hr_2]; exact (kX0_put l D q cA _ σ a1 (Int64.toInt32 a2))) (cwV 2 hts (gV wd_183 wd_185 wd_6 wd_38 wd_186) rfl rfl rfl (by decide +kernel) ⟨Nat.le_of_ble_eq_true rfl, Nat.le_of_ble_eq_true rfl⟩) hK hP hD hS hA (va_recv hK hP (ci := 0) (q0 := 0) rfl rfl) rfl hl.1 rfl (Nat.le_of_ble_eq_true rfl) dX0_putUnlessOverflow_12 (fun H locs hP hD hS => ?_)
    refine lv_goto (tgt := 19) hx hb dX0_putUnlessOverflow_15 (by decide) ?_
    exact o_ret hx hb hr hlk hK hP hD hS (by subst hr_2; rw [← hF, FG_putUnlessOverflow, if_pos c_1]) dX0_putUnlessOverflow_19
