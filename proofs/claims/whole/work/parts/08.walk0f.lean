set_option maxHeartbeats 4000000 in
set_option maxRecDepth 100000 in
theorem kX0_performArithmetic (l : Launch) (D : va_G) (q : Nat → Nat) (cA : Nat → ClassId) (sz : Nat) (σ : SG) (a1 : Int32) : oMet l D vwCl (wG q cA) (tG cA) (q 0) sz yX0_performArithmetic wsX0_performArithmetic { frames := 2, cells := 0, slots := 0, locals := 45 } σ [.int a1] (FG_performArithmetic σ a1) := by
  refine o_met (cc := cX0_performArithmetic) (maxL := 5) (ret := some .int) (by decide) rfl (Nat.le_of_ble_eq_true rfl) ?_
  intro p e s m args below meth c A ls hx hb hr hml hts hown hlk hP hK hD hA hS hl
  have hl : lv_has ls 5 [(0, .ref (q 0)), (1, .int a1)] := hl
  have hin : ∀ w ∈ wsX00, w ∈ wsX0_performArithmetic := fun w h => mc (inX0 w h)
  generalize hF : FG_performArithmetic σ a1 = res
  refine lv_aload_n hx hb dX0_performArithmetic_0 rfl (lv_at hl 0 rfl) ?_
  refine getX0_rg hx hb hts hin hown hK hP (hts _ (mc wd_53)) dX0_performArithmetic_1 ?_
  refine lv_iload_n hx hb dX0_performArithmetic_4 rfl (lv_at hl 1 rfl) ?_
  refine s_call (As := [.int a1]) (rest := [.ref (q 3)]) ⟨hx, hb, hml, hown, hts⟩ (kX0_sOf l a1) (cwS 1 hts (gS wd_153 wd_154 wd_38 wd_155) rfl rfl rfl (by decide +kernel) ⟨Nat.le_of_ble_eq_true rfl, Nat.le_of_ble_eq_true rfl⟩) hP hS rfl hl.1 rfl (Nat.le_of_ble_eq_true rfl) dX0_performArithmetic_5 (fun H locs hP hS => ?_)
  refine aldX0_rg (f := (grg σ)) hx hb hK hP (in_sOf _) dX0_performArithmetic_8 rfl ?_
  refine lv_istore_n (lv' := [(2, .int ((grg σ) (Int32.toNatClampNeg (FG_sOf a1)))), (0, .ref (q 0)), (1, .int a1)]) hx hb dX0_performArithmetic_9 rfl hl (by decide) rfl (fun ls hl => ?_)
  refine lv_aload_n hx hb dX0_performArithmetic_10 rfl (lv_at hl 1 rfl) ?_
  refine getX0_rg hx hb hts hin hown hK hP (hts _ (mc wd_53)) dX0_performArithmetic_11 ?_
  refine lv_iload_n hx hb dX0_performArithmetic_14 rfl (lv_at hl 2 rfl) ?_
  refine s_call (As := [.int a1]) (rest := [.ref (q 3)]) ⟨hx, hb, hml, hown, hts⟩ (kX0_tOf l a1) (cwS 1 hts (gS wd_139 wd_140 wd_38 wd_141) rfl rfl rfl (by decide +kernel) ⟨Nat.le_of_ble_eq_true rfl, Nat.le_of_ble_eq_true rfl⟩) hP hS rfl hl.1 rfl (Nat.le_of_ble_eq_true rfl) dX0_performArithmetic_15 (fun H locs hP hS => ?_)
  refine aldX0_rg (f := (grg σ)) hx hb hK hP (in_tOf _) dX0_performArithmetic_18 rfl ?_
  refine lv_istore_n (lv' := [(3, .int ((grg σ) (Int32.toNatClampNeg (FG_tOf a1)))), (2, .int ((grg σ) (Int32.toNatClampNeg (FG_sOf a1)))), (0, .ref (q 0)), (1, .int a1)]) hx hb dX0_performArithmetic_19 rfl hl (by decide) rfl (fun ls hl => ?_)
  refine lv_iload_n hx hb dX0_performArithmetic_20 rfl (lv_at hl 3 rfl) ?_
  refine s_call (As := [.int a1]) (rest := []) ⟨hx, hb, hml, hown, hts⟩ (kX0_dOf l a1) (cwS 1 hts (gS wd_180 wd_181 wd_38 wd_182) rfl rfl rfl (by decide +kernel) ⟨Nat.le_of_ble_eq_true rfl, Nat.le_of_ble_eq_true rfl⟩) hP hS rfl hl.1 rfl (Nat.le_of_ble_eq_true rfl) dX0_performArithmetic_21 (fun H locs hP hS => ?_)
  refine lv_istore (lv' := [(4, .int (FG_dOf a1)), (3, .int ((grg σ) (Int32.toNatClampNeg (FG_tOf a1)))), (2, .int ((grg σ) (Int32.toNatClampNeg (FG_sOf a1)))), (0, .ref (q 0)), (1, .int a1)]) hx hb dX0_performArithmetic_24 hl (by decide) rfl (fun ls hl => ?_)
  refine lv_iload_n hx hb dX0_performArithmetic_26 rfl (lv_at hl 4 rfl) ?_
  refine s_call (As := [.int a1]) (rest := []) ⟨hx, hb, hml, hown, hts⟩ (kX0_fOf l a1) (cwS 1 hts (gS wd_136 wd_137 wd_38 wd_138) rfl rfl rfl (by decide +kernel) ⟨Nat.le_of_ble_eq_true rfl, Nat.le_of_ble_eq_true rfl⟩) hP hS rfl hl.1 rfl (Nat.le_of_ble_eq_true rfl) dX0_performArithmetic_27 (fun H locs hP hS => ?_)
  by_cases c_1 : (FG_fOf a1) = (32 : Int32)
  · skip
    refine lv_tableIn (tgt := 92) hx hb dX0_performArithmetic_30 (by rw [c_1]; decide) (by rw [c_1]; decide) (by rw [c_1]; rfl) (by decide) ?_
    refine lv_aload_n hx hb dX0_performArithmetic_92 rfl (lv_at hl 3 rfl) ?_
    refine lv_iload hx hb dX0_performArithmetic_93 (lv_at hl 0 rfl) ?_
    refine lv_iload_n hx hb dX0_performArithmetic_95 rfl (lv_at hl 2 rfl) ?_
    refine lv_i2l hx hb dX0_performArithmetic_96 rfl ?_
    refine lv_iload_n hx hb dX0_performArithmetic_97 rfl (lv_at hl 1 rfl) ?_
    refine lv_i2l hx hb dX0_performArithmetic_98 rfl ?_
    refine lv_ladd hx hb dX0_performArithmetic_99 ?_
    obtain ⟨r_2, hr_2⟩ : ∃ z, (FG_putUnlessOverflow σ (FG_dOf a1) ((Int32.toInt64 ((grg σ) (Int32.toNatClampNeg (FG_sOf a1)))) + (Int32.toInt64 ((grg σ) (Int32.toNatClampNeg (FG_tOf a1)))))) = z := ⟨_, rfl⟩
    refine o_call (As := [.int (FG_dOf a1), .long ((Int32.toInt64 ((grg σ) (Int32.toNatClampNeg (FG_sOf a1)))) + (Int32.toInt64 ((grg σ) (Int32.toNatClampNeg (FG_tOf a1)))))]) (rest := []) (res := r_2) ⟨hx, hb, hml, hown, hts⟩ (by rw [← hr_2]; exact (kX0_putUnlessOverflow l D q cA _ σ (FG_dOf a1) ((Int32.toInt64 ((grg σ) (Int32.toNatClampNeg (FG_sOf a1)))) + (Int32.toInt64 ((grg σ) (Int32.toNatClampNeg (FG_tOf a1))))))) (cwV 2 hts (gV wd_234 wd_236 wd_17 wd_38 wd_237) rfl rfl rfl (by decide +kernel) ⟨Nat.le_of_ble_eq_true rfl, Nat.le_of_ble_eq_true rfl⟩) hK hP hD hS hA (va_recv hK hP (ci := 0) (q0 := 0) rfl rfl) rfl hl.1 rfl (Nat.le_of_ble_eq_true rfl) dX0_performArithmetic_100 (fun H locs hP hD hS => ?_)
    exact o_ret hx hb hr hlk hK hP hD hS (by subst hr_2; rw [← hF, FG_performArithmetic, if_pos c_1]) dX0_performArithmetic_103
  · skip
    by_cases c_3 : (FG_fOf a1) = (33 : Int32)
    · skip
      refine lv_tableIn (tgt := 104) hx hb dX0_performArithmetic_30 (by rw [c_3]; decide) (by rw [c_3]; decide) (by rw [c_3]; rfl) (by decide) ?_
      refine lv_aload_n hx hb dX0_performArithmetic_104 rfl (lv_at hl 3 rfl) ?_
      refine lv_iload hx hb dX0_performArithmetic_105 (lv_at hl 0 rfl) ?_
      refine lv_iload_n hx hb dX0_performArithmetic_107 rfl (lv_at hl 2 rfl) ?_
      refine lv_iload_n hx hb dX0_performArithmetic_108 rfl (lv_at hl 1 rfl) ?_
      refine lv_iadd hx hb dX0_performArithmetic_109 ?_
      obtain ⟨r_4, hr_4⟩ : ∃ z, (FG_put σ (FG_dOf a1) (((grg σ) (Int32.toNatClampNeg (FG_sOf a1))) + ((grg σ) (Int32.toNatClampNeg (FG_tOf a1))))) = z := ⟨_, rfl⟩
      refine o_call (As := [.int (FG_dOf a1), .int (((grg σ) (Int32.toNatClampNeg (FG_sOf a1))) + ((grg σ) (Int32.toNatClampNeg (FG_tOf a1))))]) (rest := []) (res := r_4) ⟨hx, hb, hml, hown, hts⟩ (by rw [← hr_4]; exact (kX0_put l D q cA _ σ (FG_dOf a1) (((grg σ) (Int32.toNatClampNeg (FG_sOf a1))) + ((grg σ) (Int32.toNatClampNeg (FG_tOf a1)))))) (cwV 2 hts (gV wd_183 wd_185 wd_6 wd_38 wd_186) rfl rfl rfl (by decide +kernel) ⟨Nat.le_of_ble_eq_true rfl, Nat.le_of_ble_eq_true rfl⟩) hK hP hD hS hA (va_recv hK hP (ci := 0) (q0 := 0) rfl rfl) rfl hl.1 rfl (Nat.le_of_ble_eq_true rfl) dX0_performArithmetic_110 (fun H locs hP hD hS => ?_)
      exact o_ret hx hb hr hlk hK hP hD hS (by subst hr_4; rw [← hF, FG_performArithmetic, if_neg c_1, if_pos c_3]) dX0_performArithmetic_113
    · skip
      by_cases c_5 : (FG_fOf a1) = (34 : Int32)
      · skip
        refine lv_tableIn (tgt := 114) hx hb dX0_performArithmetic_30 (by rw [c_5]; decide) (by rw [c_5]; decide) (by rw [c_5]; rfl) (by decide) ?_
        refine lv_aload_n hx hb dX0_performArithmetic_114 rfl (lv_at hl 3 rfl) ?_
        refine lv_iload hx hb dX0_performArithmetic_115 (lv_at hl 0 rfl) ?_
        refine lv_iload_n hx hb dX0_performArithmetic_117 rfl (lv_at hl 2 rfl) ?_
        refine lv_i2l hx hb dX0_performArithmetic_118 rfl ?_
        refine lv_iload_n hx hb dX0_performArithmetic_119 rfl (lv_at hl 1 rfl) ?_
        refine lv_i2l hx hb dX0_performArithmetic_120 rfl ?_
        refine lv_lsub hx hb dX0_performArithmetic_121 ?_
        obtain ⟨r_6, hr_6⟩ : ∃ z, (FG_putUnlessOverflow σ (FG_dOf a1) ((Int32.toInt64 ((grg σ) (Int32.toNatClampNeg (FG_sOf a1)))) - (Int32.toInt64 ((grg σ) (Int32.toNatClampNeg (FG_tOf a1)))))) = z := ⟨_, rfl⟩
        refine o_call (As := [.int (FG_dOf a1), .long ((Int32.toInt64 ((grg σ) (Int32.toNatClampNeg (FG_sOf a1)))) - (Int32.toInt64 ((grg σ) (Int32.toNatClampNeg (FG_tOf a1)))))]) (rest := []) (res := r_6) ⟨hx, hb, hml, hown, hts⟩ (by rw [← hr_6]; exact (kX0_putUnlessOverflow l D q cA _ σ (FG_dOf a1) ((Int32.toInt64 ((grg σ) (Int32.toNatClampNeg (FG_sOf a1)))) - (Int32.toInt64 ((grg σ) (Int32.toNatClampNeg (FG_tOf a1))))))) (cwV 2 hts (gV wd_234 wd_236 wd_17 wd_38 wd_237) rfl rfl rfl (by decide +kernel) ⟨Nat.le_of_ble_eq_true rfl, Nat.le_of_ble_eq_true rfl⟩) hK hP hD hS hA (va_recv hK hP (ci := 0) (q0 := 0) rfl rfl) rfl hl.1 rfl (Nat.le_of_ble_eq_true rfl) dX0_performArithmetic_122 (fun H locs hP hD hS => ?_)
        exact o_ret hx hb hr hlk hK hP hD hS (by subst hr_6; rw [← hF, FG_performArithmetic, if_neg c_1, if_neg c_3, if_pos c_5]) dX0_performArithmetic_125
      · skip
        by_cases c_7 : (FG_fOf a1) = (35 : Int32)
        · skip
          refine lv_tableIn (tgt := 126) hx hb dX0_performArithmetic_30 (by rw [c_7]; decide) (by rw [c_7]; decide) (by rw [c_7]; rfl) (by decide) ?_
          refine lv_aload_n hx hb dX0_performArithmetic_126 rfl (lv_at hl 3 rfl) ?_
          refine lv_iload hx hb dX0_performArithmetic_127 (lv_at hl 0 rfl) ?_
          refine lv_iload_n hx hb dX0_performArithmetic_129 rfl (lv_at hl 2 rfl) ?_
          refine lv_iload_n hx hb dX0_performArithmetic_130 rfl (lv_at hl 1 rfl) ?_
          refine lv_isub hx hb dX0_performArithmetic_131 ?_
          obtain ⟨r_8, hr_8⟩ : ∃ z, (FG_put σ (FG_dOf a1) (((grg σ) (Int32.toNatClampNeg (FG_sOf a1))) - ((grg σ) (Int32.toNatClampNeg (FG_tOf a1))))) = z := ⟨_, rfl⟩
          refine o_call (As := [.int (FG_dOf a1), .int (((grg σ) (Int32.toNatClampNeg (FG_sOf a1))) - ((grg σ) (Int32.toNatClampNeg (FG_tOf a1))))]) (rest := []) (res := r_8) ⟨hx, hb, hml, hown, hts⟩ (by rw [← hr_8]; exact (kX0_put l D q cA _ σ (FG_dOf a1) (((grg σ) (Int32.toNatClampNeg (FG_sOf a1))) - ((grg σ) (Int32.toNatClampNeg (FG_tOf a1)))))) (cwV 2 hts (gV wd_183 wd_185 wd_6 wd_38 wd_186) rfl rfl rfl (by decide +kernel) ⟨Nat.le_of_ble_eq_true rfl, Nat.le_of_ble_eq_true rfl⟩) hK hP hD hS hA (va_recv hK hP (ci := 0) (q0 := 0) rfl rfl) rfl hl.1 rfl (Nat.le_of_ble_eq_true rfl) dX0_performArithmetic_132 (fun H locs hP hD hS => ?_)
          exact o_ret hx hb hr hlk hK hP hD hS (by subst hr_8; rw [← hF, FG_performArithmetic, if_neg c_1, if_neg c_3, if_neg c_5, if_pos c_7]) dX0_performArithmetic_135
        · skip
          by_cases c_9 : (FG_fOf a1) = (36 : Int32)
          · skip
            refine lv_tableIn (tgt := 136) hx hb dX0_performArithmetic_30 (by rw [c_9]; decide) (by rw [c_9]; decide) (by rw [c_9]; rfl) (by decide) ?_
            refine lv_aload_n hx hb dX0_performArithmetic_136 rfl (lv_at hl 3 rfl) ?_
            refine lv_iload hx hb dX0_performArithmetic_137 (lv_at hl 0 rfl) ?_
            refine lv_iload_n hx hb dX0_performArithmetic_139 rfl (lv_at hl 2 rfl) ?_
            refine lv_iload_n hx hb dX0_performArithmetic_140 rfl (lv_at hl 1 rfl) ?_
            refine lv_iand hx hb dX0_performArithmetic_141 ?_
            obtain ⟨r_10, hr_10⟩ : ∃ z, (FG_put σ (FG_dOf a1) (((grg σ) (Int32.toNatClampNeg (FG_sOf a1))) &&& ((grg σ) (Int32.toNatClampNeg (FG_tOf a1))))) = z := ⟨_, rfl⟩
            refine o_call (As := [.int (FG_dOf a1), .int (((grg σ) (Int32.toNatClampNeg (FG_sOf a1))) &&& ((grg σ) (Int32.toNatClampNeg (FG_tOf a1))))]) (rest := []) (res := r_10) ⟨hx, hb, hml, hown, hts⟩ (by rw [← hr_10]; exact (kX0_put l D q cA _ σ (FG_dOf a1) (((grg σ) (Int32.toNatClampNeg (FG_sOf a1))) &&& ((grg σ) (Int32.toNatClampNeg (FG_tOf a1)))))) (cwV 2 hts (gV wd_183 wd_185 wd_6 wd_38 wd_186) rfl rfl rfl (by decide +kernel) ⟨Nat.le_of_ble_eq_true rfl, Nat.le_of_ble_eq_true rfl⟩) hK hP hD hS hA (va_recv hK hP (ci := 0) (q0 := 0) rfl rfl) rfl hl.1 rfl (Nat.le_of_ble_eq_true rfl) dX0_performArithmetic_142 (fun H locs hP hD hS => ?_)
            exact o_ret hx hb hr hlk hK hP hD hS (by subst hr_10; rw [← hF, FG_performArithmetic, if_neg c_1, if_neg c_3, if_neg c_5, if_neg c_7, if_pos c_9]) dX0_performArithmetic_145
          · skip
            by_cases c_11 : (FG_fOf a1) = (37 : Int32)
            · skip
              refine lv_tableIn (tgt := 146) hx hb dX0_performArithmetic_30 (by rw [c_11]; decide) (by rw [c_11]; decide) (by rw [c_11]; rfl) (by decide) ?_
              refine lv_aload_n hx hb dX0_performArithmetic_146 rfl (lv_at hl 3 rfl) ?_
              refine lv_iload hx hb dX0_performArithmetic_147 (lv_at hl 0 rfl) ?_
              refine lv_iload_n hx hb dX0_performArithmetic_149 rfl (lv_at hl 2 rfl) ?_
              refine lv_iload_n hx hb dX0_performArithmetic_150 rfl (lv_at hl 1 rfl) ?_
              refine lv_ior hx hb dX0_performArithmetic_151 ?_
              obtain ⟨r_12, hr_12⟩ : ∃ z, (FG_put σ (FG_dOf a1) (((grg σ) (Int32.toNatClampNeg (FG_sOf a1))) ||| ((grg σ) (Int32.toNatClampNeg (FG_tOf a1))))) = z := ⟨_, rfl⟩
              refine o_call (As := [.int (FG_dOf a1), .int (((grg σ) (Int32.toNatClampNeg (FG_sOf a1))) ||| ((grg σ) (Int32.toNatClampNeg (FG_tOf a1))))]) (rest := []) (res := r_12) ⟨hx, hb, hml, hown, hts⟩ (by rw [← hr_12]; exact (kX0_put l D q cA _ σ (FG_dOf a1) (((grg σ) (Int32.toNatClampNeg (FG_sOf a1))) ||| ((grg σ) (Int32.toNatClampNeg (FG_tOf a1)))))) (cwV 2 hts (gV wd_183 wd_185 wd_6 wd_38 wd_186) rfl rfl rfl (by decide +kernel) ⟨Nat.le_of_ble_eq_true rfl, Nat.le_of_ble_eq_true rfl⟩) hK hP hD hS hA (va_recv hK hP (ci := 0) (q0 := 0) rfl rfl) rfl hl.1 rfl (Nat.le_of_ble_eq_true rfl) dX0_performArithmetic_152 (fun H locs hP hD hS => ?_)
              exact o_ret hx hb hr hlk hK hP hD hS (by subst hr_12; rw [← hF, FG_performArithmetic, if_neg c_1, if_neg c_3, if_neg c_5, if_neg c_7, if_neg c_9, if_pos c_11]) dX0_performArithmetic_155
            · skip
              by_cases c_13 : (FG_fOf a1) = (38 : Int32)
              · skip
                refine lv_tableIn (tgt := 156) hx hb dX0_performArithmetic_30 (by rw [c_13]; decide) (by rw [c_13]; decide) (by rw [c_13]; rfl) (by decide) ?_
                refine lv_aload_n hx hb dX0_performArithmetic_156 rfl (lv_at hl 3 rfl) ?_
                refine lv_iload hx hb dX0_performArithmetic_157 (lv_at hl 0 rfl) ?_
                refine lv_iload_n hx hb dX0_performArithmetic_159 rfl (lv_at hl 2 rfl) ?_
                refine lv_iload_n hx hb dX0_performArithmetic_160 rfl (lv_at hl 1 rfl) ?_
                refine lv_ixor hx hb dX0_performArithmetic_161 ?_
                obtain ⟨r_14, hr_14⟩ : ∃ z, (FG_put σ (FG_dOf a1) (((grg σ) (Int32.toNatClampNeg (FG_sOf a1))) ^^^ ((grg σ) (Int32.toNatClampNeg (FG_tOf a1))))) = z := ⟨_, rfl⟩
                refine o_call (As := [.int (FG_dOf a1), .int (((grg σ) (Int32.toNatClampNeg (FG_sOf a1))) ^^^ ((grg σ) (Int32.toNatClampNeg (FG_tOf a1))))]) (rest := []) (res := r_14) ⟨hx, hb, hml, hown, hts⟩ (by rw [← hr_14]; exact (kX0_put l D q cA _ σ (FG_dOf a1) (((grg σ) (Int32.toNatClampNeg (FG_sOf a1))) ^^^ ((grg σ) (Int32.toNatClampNeg (FG_tOf a1)))))) (cwV 2 hts (gV wd_183 wd_185 wd_6 wd_38 wd_186) rfl rfl rfl (by decide +kernel) ⟨Nat.le_of_ble_eq_true rfl, Nat.le_of_ble_eq_true rfl⟩) hK hP hD hS hA (va_recv hK hP (ci := 0) (q0 := 0) rfl rfl) rfl hl.1 rfl (Nat.le_of_ble_eq_true rfl) dX0_performArithmetic_162 (fun H locs hP hD hS => ?_)
                exact o_ret hx hb hr hlk hK hP hD hS (by subst hr_14; rw [← hF, FG_performArithmetic, if_neg c_1, if_neg c_3, if_neg c_5, if_neg c_7, if_neg c_9, if_neg c_11, if_pos c_13]) dX0_performArithmetic_165
              · skip
                by_cases c_15 : (FG_fOf a1) = (39 : Int32)
                · skip
                  refine lv_tableIn (tgt := 166) hx hb dX0_performArithmetic_30 (by rw [c_15]; decide) (by rw [c_15]; decide) (by rw [c_15]; rfl) (by decide) ?_
                  refine lv_aload_n hx hb dX0_performArithmetic_166 rfl (lv_at hl 3 rfl) ?_
                  refine lv_iload hx hb dX0_performArithmetic_167 (lv_at hl 0 rfl) ?_
                  refine lv_iload_n hx hb dX0_performArithmetic_169 rfl (lv_at hl 2 rfl) ?_
                  refine lv_iload_n hx hb dX0_performArithmetic_170 rfl (lv_at hl 1 rfl) ?_
                  refine lv_ior hx hb dX0_performArithmetic_171 ?_
                  refine lv_iconst (v := -1) hx hb dX0_performArithmetic_172 (by decide) ?_
                  refine lv_ixor hx hb dX0_performArithmetic_173 ?_
                  obtain ⟨r_16, hr_16⟩ : ∃ z, (FG_put σ (FG_dOf a1) ((((grg σ) (Int32.toNatClampNeg (FG_sOf a1))) ||| ((grg σ) (Int32.toNatClampNeg (FG_tOf a1)))) ^^^ (-1 : Int32))) = z := ⟨_, rfl⟩
                  refine o_call (As := [.int (FG_dOf a1), .int ((((grg σ) (Int32.toNatClampNeg (FG_sOf a1))) ||| ((grg σ) (Int32.toNatClampNeg (FG_tOf a1)))) ^^^ (-1 : Int32))]) (rest := []) (res := r_16) ⟨hx, hb, hml, hown, hts⟩ (by rw [← hr_16]; exact (kX0_put l D q cA _ σ (FG_dOf a1) ((((grg σ) (Int32.toNatClampNeg (FG_sOf a1))) ||| ((grg σ) (Int32.toNatClampNeg (FG_tOf a1)))) ^^^ (-1 : Int32)))) (cwV 2 hts (gV wd_183 wd_185 wd_6 wd_38 wd_186) rfl rfl rfl (by decide +kernel) ⟨Nat.le_of_ble_eq_true rfl, Nat.le_of_ble_eq_true rfl⟩) hK hP hD hS hA (va_recv hK hP (ci := 0) (q0 := 0) rfl rfl) rfl hl.1 rfl (Nat.le_of_ble_eq_true rfl) dX0_performArithmetic_174 (fun H locs hP hD hS => ?_)
                  exact o_ret hx hb hr hlk hK hP hD hS (by subst hr_16; rw [← hF, FG_performArithmetic, if_neg c_1, if_neg c_3, if_neg c_5, if_neg c_7, if_neg c_9, if_neg c_11, if_neg c_13, if_pos c_15]) dX0_performArithmetic_177
                · skip
                  by_cases c_17 : (FG_fOf a1) = (40 : Int32)
                  · skip
                    refine lv_tableIn (tgt := 219) hx hb dX0_performArithmetic_30 (by rw [c_17]; decide) (by rw [c_17]; decide) (by rw [c_17]; rfl) (by decide) ?_
                    refine lv_iconst (v := 1) hx hb dX0_performArithmetic_219 (by decide) ?_
                    exact o_ret hx hb hr hlk hK hP hD hS (by rw [← hF, FG_performArithmetic, if_neg c_1, if_neg c_3, if_neg c_5, if_neg c_7, if_neg c_9, if_neg c_11, if_neg c_13, if_neg c_15, if_pos c_17]) dX0_performArithmetic_220
                  · skip
                    by_cases c_18 : (FG_fOf a1) = (41 : Int32)
                    · skip
                      refine lv_tableIn (tgt := 219) hx hb dX0_performArithmetic_30 (by rw [c_18]; decide) (by rw [c_18]; decide) (by rw [c_18]; rfl) (by decide) ?_
                      refine lv_iconst (v := 1) hx hb dX0_performArithmetic_219 (by decide) ?_
                      exact o_ret hx hb hr hlk hK hP hD hS (by rw [← hF, FG_performArithmetic, if_neg c_1, if_neg c_3, if_neg c_5, if_neg c_7, if_neg c_9, if_neg c_11, if_neg c_13, if_neg c_15, if_neg c_17, if_pos c_18]) dX0_performArithmetic_220
                    · skip
                      by_cases c_19 : (FG_fOf a1) = (42 : Int32)
                      · skip
                        refine lv_tableIn (tgt := 178) hx hb dX0_performArithmetic_30 (by rw [c_19]; decide) (by rw [c_19]; decide) (by rw [c_19]; rfl) (by decide) ?_
                        refine lv_aload_n hx hb dX0_performArithmetic_178 rfl (lv_at hl 3 rfl) ?_
                        refine lv_iload hx hb dX0_performArithmetic_179 (lv_at hl 0 rfl) ?_
                        refine lv_iload_n hx hb dX0_performArithmetic_181 rfl (lv_at hl 2 rfl) ?_
                        refine lv_iload_n hx hb dX0_performArithmetic_182 rfl (lv_at hl 1 rfl) ?_
                        refine lv_icmp_ge (tgt := 190) hx hb dX0_performArithmetic_183 (by decide) (fun c_20 => ?_) (fun c_20 => ?_)
                        · skip
                          refine lv_iconst (v := 0) hx hb dX0_performArithmetic_190 (by decide) ?_
                          obtain ⟨r_21, hr_21⟩ : ∃ z, (FG_put σ (FG_dOf a1) (0 : Int32)) = z := ⟨_, rfl⟩
                          refine o_call (As := [.int (FG_dOf a1), .int (0 : Int32)]) (rest := []) (res := r_21) ⟨hx, hb, hml, hown, hts⟩ (by rw [← hr_21]; exact (kX0_put l D q cA _ σ (FG_dOf a1) (0 : Int32))) (cwV 2 hts (gV wd_183 wd_185 wd_6 wd_38 wd_186) rfl rfl rfl (by decide +kernel) ⟨Nat.le_of_ble_eq_true rfl, Nat.le_of_ble_eq_true rfl⟩) hK hP hD hS hA (va_recv hK hP (ci := 0) (q0 := 0) rfl rfl) rfl hl.1 rfl (Nat.le_of_ble_eq_true rfl) dX0_performArithmetic_191 (fun H locs hP hD hS => ?_)
                          exact o_ret hx hb hr hlk hK hP hD hS (by subst hr_21; rw [← hF, FG_performArithmetic, if_neg c_1, if_neg c_3, if_neg c_5, if_neg c_7, if_neg c_9, if_neg c_11, if_neg c_13, if_neg c_15, if_neg c_17, if_neg c_18, if_pos c_19, if_pos c_20]) dX0_performArithmetic_194
                        · skip
                          refine lv_iconst (v := 1) hx hb dX0_performArithmetic_186 (by decide) ?_
                          refine lv_goto (tgt := 191) hx hb dX0_performArithmetic_187 (by decide) ?_
                          obtain ⟨r_22, hr_22⟩ : ∃ z, (FG_put σ (FG_dOf a1) (1 : Int32)) = z := ⟨_, rfl⟩
                          refine o_call (As := [.int (FG_dOf a1), .int (1 : Int32)]) (rest := []) (res := r_22) ⟨hx, hb, hml, hown, hts⟩ (by rw [← hr_22]; exact (kX0_put l D q cA _ σ (FG_dOf a1) (1 : Int32))) (cwV 2 hts (gV wd_183 wd_185 wd_6 wd_38 wd_186) rfl rfl rfl (by decide +kernel) ⟨Nat.le_of_ble_eq_true rfl, Nat.le_of_ble_eq_true rfl⟩) hK hP hD hS hA (va_recv hK hP (ci := 0) (q0 := 0) rfl rfl) rfl hl.1 rfl (Nat.le_of_ble_eq_true rfl) dX0_performArithmetic_191 (fun H locs hP hD hS => ?_)
                          exact o_ret hx hb hr hlk hK hP hD hS (by subst hr_22; rw [← hF, FG_performArithmetic, if_neg c_1, if_neg c_3, if_neg c_5, if_neg c_7, if_neg c_9, if_neg c_11, if_neg c_13, if_neg c_15, if_neg c_17, if_neg c_18, if_pos c_19, if_neg c_20]) dX0_performArithmetic_194
                      · skip
                        by_cases c_23 : (FG_fOf a1) = (43 : Int32)
                        · skip
                          refine lv_tableIn (tgt := 195) hx hb dX0_performArithmetic_30 (by rw [c_23]; decide) (by rw [c_23]; decide) (by rw [c_23]; rfl) (by decide) ?_
                          refine lv_aload_n hx hb dX0_performArithmetic_195 rfl (lv_at hl 3 rfl) ?_
                          refine lv_iload hx hb dX0_performArithmetic_196 (lv_at hl 0 rfl) ?_
                          refine lv_iload_n hx hb dX0_performArithmetic_198 rfl (lv_at hl 2 rfl) ?_
                          refine s_callL (As := [.int ((grg σ) (Int32.toNatClampNeg (FG_sOf a1)))]) (rest := [.int (FG_dOf a1), .ref (q 0)]) ⟨hx, hb, hml, hown, hts⟩ (kX0_unsigned l ((grg σ) (Int32.toNatClampNeg (FG_sOf a1)))) (cwS 1 hts (gS wd_222 wd_223 wd_38 wd_224) rfl rfl rfl (by decide +kernel) ⟨Nat.le_of_ble_eq_true rfl, Nat.le_of_ble_eq_true rfl⟩) hP hS rfl hl.1 rfl (Nat.le_of_ble_eq_true rfl) dX0_performArithmetic_199 (fun H locs hP hS => ?_)
                          refine lv_iload_n hx hb dX0_performArithmetic_202 rfl (lv_at hl 1 rfl) ?_
                          refine s_callL (As := [.int ((grg σ) (Int32.toNatClampNeg (FG_tOf a1)))]) (rest := [.long (FG_unsigned ((grg σ) (Int32.toNatClampNeg (FG_sOf a1)))), .int (FG_dOf a1), .ref (q 0)]) ⟨hx, hb, hml, hown, hts⟩ (kX0_unsigned l ((grg σ) (Int32.toNatClampNeg (FG_tOf a1)))) (cwS 1 hts (gS wd_222 wd_223 wd_38 wd_224) rfl rfl rfl (by decide +kernel) ⟨Nat.le_of_ble_eq_true rfl, Nat.le_of_ble_eq_true rfl⟩) hP hS rfl hl.1 rfl (Nat.le_of_ble_eq_true rfl) dX0_performArithmetic_203 (fun H locs hP hS => ?_)
                          refine W.lcmp hx hb dX0_performArithmetic_206 ?_
                          refine lv_if_ge (tgt := 214) hx hb dX0_performArithmetic_207 (by decide) (fun c_24 => ?_) (fun c_24 => ?_)
                          · skip
                            refine lv_iconst (v := 0) hx hb dX0_performArithmetic_214 (by decide) ?_
                            obtain ⟨r_25, hr_25⟩ : ∃ z, (FG_put σ (FG_dOf a1) (0 : Int32)) = z := ⟨_, rfl⟩
                            refine o_call (As := [.int (FG_dOf a1), .int (0 : Int32)]) (rest := []) (res := r_25) ⟨hx, hb, hml, hown, hts⟩ (by rw [← hr_25]; exact (kX0_put l D q cA _ σ (FG_dOf a1) (0 : Int32))) (cwV 2 hts (gV wd_183 wd_185 wd_6 wd_38 wd_186) rfl rfl rfl (by decide +kernel) ⟨Nat.le_of_ble_eq_true rfl, Nat.le_of_ble_eq_true rfl⟩) hK hP hD hS hA (va_recv hK hP (ci := 0) (q0 := 0) rfl rfl) rfl hl.1 rfl (Nat.le_of_ble_eq_true rfl) dX0_performArithmetic_215 (fun H locs hP hD hS => ?_)
                            exact o_ret hx hb hr hlk hK hP hD hS (by subst hr_25; rw [← hF, FG_performArithmetic, if_neg c_1, if_neg c_3, if_neg c_5, if_neg c_7, if_neg c_9, if_neg c_11, if_neg c_13, if_neg c_15, if_neg c_17, if_neg c_18, if_neg c_19, if_pos c_23, if_pos c_24]) dX0_performArithmetic_218
                          · skip
                            refine lv_iconst (v := 1) hx hb dX0_performArithmetic_210 (by decide) ?_
                            refine lv_goto (tgt := 215) hx hb dX0_performArithmetic_211 (by decide) ?_
                            obtain ⟨r_26, hr_26⟩ : ∃ z, (FG_put σ (FG_dOf a1) (1 : Int32)) = z := ⟨_, rfl⟩
                            refine o_call (As := [.int (FG_dOf a1), .int (1 : Int32)]) (rest := []) (res := r_26) ⟨hx, hb, hml, hown, hts⟩ (by rw [← hr_26]; exact (kX0_put l D q cA _ σ (FG_dOf a1) (1 : Int32))) (cwV 2 hts (gV wd_183 wd_185 wd_6 wd_38 wd_186) rfl rfl rfl (by decide +kernel) ⟨Nat.le_of_ble_eq_true rfl, Nat.le_of_ble_eq_true rfl⟩) hK hP hD hS hA (va_recv hK hP (ci := 0) (q0 := 0) rfl rfl) rfl hl.1 rfl (Nat.le_of_ble_eq_true rfl) dX0_performArithmetic_215 (fun H locs hP hD hS => ?_)
                            exact o_ret hx hb hr hlk hK hP hD hS (by subst hr_26; rw [← hF, FG_performArithmetic, if_neg c_1, if_neg c_3, if_neg c_5, if_neg c_7, if_neg c_9, if_neg c_11, if_neg c_13, if_neg c_15, if_neg c_17, if_neg c_18, if_neg c_19, if_pos c_23, if_neg c_24]) dX0_performArithmetic_218
                        · skip
                          refine lv_tableOut (tgt := 219) hx hb dX0_performArithmetic_30 (by have h0 := lv_neT (a := 32) c_1 (by decide); have h1 := lv_neT (a := 33) c_3 (by decide); have h2 := lv_neT (a := 34) c_5 (by decide); have h3 := lv_neT (a := 35) c_7 (by decide); have h4 := lv_neT (a := 36) c_9 (by decide); have h5 := lv_neT (a := 37) c_11 (by decide); have h6 := lv_neT (a := 38) c_13 (by decide); have h7 := lv_neT (a := 39) c_15 (by decide); have h8 := lv_neT (a := 40) c_17 (by decide); have h9 := lv_neT (a := 41) c_18 (by decide); have h10 := lv_neT (a := 42) c_19 (by decide); have h11 := lv_neT (a := 43) c_23 (by decide); omega) (by decide) ?_
                          refine lv_iconst (v := 1) hx hb dX0_performArithmetic_219 (by decide) ?_
                          exact o_ret hx hb hr hlk hK hP hD hS (by rw [← hF, FG_performArithmetic, if_neg c_1, if_neg c_3, if_neg c_5, if_neg c_7, if_neg c_9, if_neg c_11, if_neg c_13, if_neg c_15, if_neg c_17, if_neg c_18, if_neg c_19, if_neg c_23]) dX0_performArithmetic_220
