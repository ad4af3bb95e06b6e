set_option maxHeartbeats 4000000 in
set_option maxRecDepth 100000 in
theorem kX0_performShift (l : Launch) (D : va_G) (q : Nat → Nat) (cA : Nat → ClassId) (sz : Nat) (σ : SG) (a1 : Int32) : oMet l D vwCl (wG q cA) (tG cA) (q 0) sz yX0_performShift wsX0_performShift { frames := 1, cells := 0, slots := 0, locals := 22 } σ [.int a1] (FG_performShift σ a1) := by
  refine o_met (cc := cX0_performShift) (maxL := 6) (ret := some .int) (by decide) rfl (Nat.le_of_ble_eq_true rfl) ?_
  intro p e s m args below meth c A ls hx hb hr hml hts hown hlk hP hK hD hA hS hl
  have hl : lv_has ls 6 [(0, .ref (q 0)), (1, .int a1)] := hl
  have hin : ∀ w ∈ wsX00, w ∈ wsX0_performShift := fun w h => mc (inX0 w h)
  generalize hF : FG_performShift σ a1 = res
  refine lv_aload_n hx hb dX0_performShift_0 rfl (lv_at hl 0 rfl) ?_
  refine getX0_rg hx hb hts hin hown hK hP (hts _ (mc wd_53)) dX0_performShift_1 ?_
  refine lv_iload_n hx hb dX0_performShift_4 rfl (lv_at hl 1 rfl) ?_
  refine s_call (As := [.int a1]) (rest := [.ref (q 3)]) ⟨hx, hb, hml, hown, hts⟩ (kX0_tOf l a1) (cwS 1 hts (gS wd_139 wd_140 wd_38 wd_141) rfl rfl rfl (by decide +kernel) ⟨Nat.le_of_ble_eq_true rfl, Nat.le_of_ble_eq_true rfl⟩) hP hS rfl hl.1 rfl (Nat.le_of_ble_eq_true rfl) dX0_performShift_5 (fun H locs hP hS => ?_)
  refine aldX0_rg (f := (grg σ)) hx hb hK hP (in_tOf _) dX0_performShift_8 rfl ?_
  refine lv_istore_n (lv' := [(2, .int ((grg σ) (Int32.toNatClampNeg (FG_tOf a1)))), (0, .ref (q 0)), (1, .int a1)]) hx hb dX0_performShift_9 rfl hl (by decide) rfl (fun ls hl => ?_)
  refine lv_iload_n hx hb dX0_performShift_10 rfl (lv_at hl 2 rfl) ?_
  refine s_call (As := [.int a1]) (rest := []) ⟨hx, hb, hml, hown, hts⟩ (kX0_hOf l a1) (cwS 1 hts (gS wd_199 wd_200 wd_38 wd_201) rfl rfl rfl (by decide +kernel) ⟨Nat.le_of_ble_eq_true rfl, Nat.le_of_ble_eq_true rfl⟩) hP hS rfl hl.1 rfl (Nat.le_of_ble_eq_true rfl) dX0_performShift_11 (fun H locs hP hS => ?_)
  refine lv_istore_n (lv' := [(3, .int (FG_hOf a1)), (2, .int ((grg σ) (Int32.toNatClampNeg (FG_tOf a1)))), (0, .ref (q 0)), (1, .int a1)]) hx hb dX0_performShift_14 rfl hl (by decide) rfl (fun ls hl => ?_)
  refine lv_aload_n hx hb dX0_performShift_15 rfl (lv_at hl 2 rfl) ?_
  refine getX0_rg hx hb hts hin hown hK hP (hts _ (mc wd_53)) dX0_performShift_16 ?_
  refine lv_iload_n hx hb dX0_performShift_19 rfl (lv_at hl 3 rfl) ?_
  refine s_call (As := [.int a1]) (rest := [.ref (q 3)]) ⟨hx, hb, hml, hown, hts⟩ (kX0_sOf l a1) (cwS 1 hts (gS wd_153 wd_154 wd_38 wd_155) rfl rfl rfl (by decide +kernel) ⟨Nat.le_of_ble_eq_true rfl, Nat.le_of_ble_eq_true rfl⟩) hP hS rfl hl.1 rfl (Nat.le_of_ble_eq_true rfl) dX0_performShift_20 (fun H locs hP hS => ?_)
  refine aldX0_rg (f := (grg σ)) hx hb hK hP (in_sOf _) dX0_performShift_23 rfl ?_
  refine lv_bipush (v := 31) hx hb dX0_performShift_24 (by decide) ?_
  refine lv_iand hx hb dX0_performShift_26 ?_
  refine lv_istore (lv' := [(4, .int (((grg σ) (Int32.toNatClampNeg (FG_sOf a1))) &&& (31 : Int32))), (3, .int (FG_hOf a1)), (2, .int ((grg σ) (Int32.toNatClampNeg (FG_tOf a1)))), (0, .ref (q 0)), (1, .int a1)]) hx hb dX0_performShift_27 hl (by decide) rfl (fun ls hl => ?_)
  refine lv_iload_n hx hb dX0_performShift_29 rfl (lv_at hl 4 rfl) ?_
  refine s_call (As := [.int a1]) (rest := []) ⟨hx, hb, hml, hown, hts⟩ (kX0_dOf l a1) (cwS 1 hts (gS wd_180 wd_181 wd_38 wd_182) rfl rfl rfl (by decide +kernel) ⟨Nat.le_of_ble_eq_true rfl, Nat.le_of_ble_eq_true rfl⟩) hP hS rfl hl.1 rfl (Nat.le_of_ble_eq_true rfl) dX0_performShift_30 (fun H locs hP hS => ?_)
  refine lv_istore (lv' := [(5, .int (FG_dOf a1)), (4, .int (((grg σ) (Int32.toNatClampNeg (FG_sOf a1))) &&& (31 : Int32))), (3, .int (FG_hOf a1)), (2, .int ((grg σ) (Int32.toNatClampNeg (FG_tOf a1)))), (0, .ref (q 0)), (1, .int a1)]) hx hb dX0_performShift_33 hl (by decide) rfl (fun ls hl => ?_)
  refine lv_iload_n hx hb dX0_performShift_35 rfl (lv_at hl 5 rfl) ?_
  refine s_call (As := [.int a1]) (rest := []) ⟨hx, hb, hml, hown, hts⟩ (kX0_fOf l a1) (cwS 1 hts (gS wd_136 wd_137 wd_38 wd_138) rfl rfl rfl (by decide +kernel) ⟨Nat.le_of_ble_eq_true rfl, Nat.le_of_ble_eq_true rfl⟩) hP hS rfl hl.1 rfl (Nat.le_of_ble_eq_true rfl) dX0_performShift_36 (fun H locs hP hS => ?_)
  by_cases c_1 : (FG_fOf a1) = (0 : Int32)
  · skip
    refine lv_tableIn (tgt := 84) hx hb dX0_performShift_39 (by rw [c_1]; decide) (by rw [c_1]; decide) (by rw [c_1]; rfl) (by decide) ?_
    refine lv_aload_n hx hb dX0_performShift_84 rfl (lv_at hl 4 rfl) ?_
    refine lv_iload hx hb dX0_performShift_85 (lv_at hl 0 rfl) ?_
    refine lv_iload_n hx hb dX0_performShift_87 rfl (lv_at hl 3 rfl) ?_
    refine lv_iload_n hx hb dX0_performShift_88 rfl (lv_at hl 2 rfl) ?_
    refine lv_ishl hx hb dX0_performShift_89 ?_
    obtain ⟨r_2, hr_2⟩ : ∃ z, (FG_put σ (FG_dOf a1) (((grg σ) (Int32.toNatClampNeg (FG_tOf a1))) <<< ((FG_hOf a1) &&& 31))) = z := ⟨_, rfl⟩
    refine o_call (As := [.int (FG_dOf a1), .int (((grg σ) (Int32.toNatClampNeg (FG_tOf a1))) <<< ((FG_hOf a1) &&& 31))]) (rest := []) (res := r_2) ⟨hx, hb, hml, hown, hts⟩ (by rw [← hr_2]; exact (kX0_put l D q cA _ σ (FG_dOf a1) (((grg σ) (Int32.toNatClampNeg (FG_tOf a1))) <<< ((FG_hOf a1) &&& 31)))) (cwV 2 hts (gV wd_183 wd_185 wd_6 wd_38 wd_186) rfl rfl rfl (by decide +kernel) ⟨Nat.le_of_ble_eq_true rfl, Nat.le_of_ble_eq_true rfl⟩) hK hP hD hS hA (va_recv hK hP (ci := 0) (q0 := 0) rfl rfl) rfl hl.1 rfl (Nat.le_of_ble_eq_true rfl) dX0_performShift_90 (fun H locs hP hD hS => ?_)
    exact o_ret hx hb hr hlk hK hP hD hS (by subst hr_2; rw [← hF, FG_performShift, if_pos c_1]) dX0_performShift_93
  · skip
    by_cases c_3 : (FG_fOf a1) = (1 : Int32)
    · skip
      refine lv_tableIn (tgt := 147) hx hb dX0_performShift_39 (by rw [c_3]; decide) (by rw [c_3]; decide) (by rw [c_3]; rfl) (by decide) ?_
      refine lv_iconst (v := 1) hx hb dX0_performShift_147 (by decide) ?_
      exact o_ret hx hb hr hlk hK hP hD hS (by rw [← hF, FG_performShift, if_neg c_1, if_pos c_3]) dX0_performShift_148
    · skip
      by_cases c_4 : (FG_fOf a1) = (2 : Int32)
      · skip
        refine lv_tableIn (tgt := 94) hx hb dX0_performShift_39 (by rw [c_4]; decide) (by rw [c_4]; decide) (by rw [c_4]; rfl) (by decide) ?_
        refine lv_aload_n hx hb dX0_performShift_94 rfl (lv_at hl 4 rfl) ?_
        refine lv_iload hx hb dX0_performShift_95 (lv_at hl 0 rfl) ?_
        refine lv_iload_n hx hb dX0_performShift_97 rfl (lv_at hl 3 rfl) ?_
        refine lv_iload_n hx hb dX0_performShift_98 rfl (lv_at hl 2 rfl) ?_
        refine lv_iushr (v := (jushr ((grg σ) (Int32.toNatClampNeg (FG_tOf a1))) (FG_hOf a1))) hx hb dX0_performShift_99 rfl ?_
        obtain ⟨r_5, hr_5⟩ : ∃ z, (FG_put σ (FG_dOf a1) (jushr ((grg σ) (Int32.toNatClampNeg (FG_tOf a1))) (FG_hOf a1))) = z := ⟨_, rfl⟩
        refine o_call (As := [.int (FG_dOf a1), .int (jushr ((grg σ) (Int32.toNatClampNeg (FG_tOf a1))) (FG_hOf a1))]) (rest := []) (res := r_5) ⟨hx, hb, hml, hown, hts⟩ (by rw [← hr_5]; exact (kX0_put l D q cA _ σ (FG_dOf a1) (jushr ((grg σ) (Int32.toNatClampNeg (FG_tOf a1))) (FG_hOf a1)))) (cwV 2 hts (gV wd_183 wd_185 wd_6 wd_38 wd_186) rfl rfl rfl (by decide +kernel) ⟨Nat.le_of_ble_eq_true rfl, Nat.le_of_ble_eq_true rfl⟩) hK hP hD hS hA (va_recv hK hP (ci := 0) (q0 := 0) rfl rfl) rfl hl.1 rfl (Nat.le_of_ble_eq_true rfl) dX0_performShift_100 (fun H locs hP hD hS => ?_)
        exact o_ret hx hb hr hlk hK hP hD hS (by subst hr_5; rw [← hF, FG_performShift, if_neg c_1, if_neg c_3, if_pos c_4]) dX0_performShift_103
      · skip
        by_cases c_6 : (FG_fOf a1) = (3 : Int32)
        · skip
          refine lv_tableIn (tgt := 104) hx hb dX0_performShift_39 (by rw [c_6]; decide) (by rw [c_6]; decide) (by rw [c_6]; rfl) (by decide) ?_
          refine lv_aload_n hx hb dX0_performShift_104 rfl (lv_at hl 4 rfl) ?_
          refine lv_iload hx hb dX0_performShift_105 (lv_at hl 0 rfl) ?_
          refine lv_iload_n hx hb dX0_performShift_107 rfl (lv_at hl 3 rfl) ?_
          refine lv_iload_n hx hb dX0_performShift_108 rfl (lv_at hl 2 rfl) ?_
          refine lv_ishr hx hb dX0_performShift_109 ?_
          obtain ⟨r_7, hr_7⟩ : ∃ z, (FG_put σ (FG_dOf a1) (((grg σ) (Int32.toNatClampNeg (FG_tOf a1))) >>> ((FG_hOf a1) &&& 31))) = z := ⟨_, rfl⟩
          refine o_call (As := [.int (FG_dOf a1), .int (((grg σ) (Int32.toNatClampNeg (FG_tOf a1))) >>> ((FG_hOf a1) &&& 31))]) (rest := []) (res := r_7) ⟨hx, hb, hml, hown, hts⟩ (by rw [← hr_7]; exact (kX0_put l D q cA _ σ (FG_dOf a1) (((grg σ) (Int32.toNatClampNeg (FG_tOf a1))) >>> ((FG_hOf a1) &&& 31)))) (cwV 2 hts (gV wd_183 wd_185 wd_6 wd_38 wd_186) rfl rfl rfl (by decide +kernel) ⟨Nat.le_of_ble_eq_true rfl, Nat.le_of_ble_eq_true rfl⟩) hK hP hD hS hA (va_recv hK hP (ci := 0) (q0 := 0) rfl rfl) rfl hl.1 rfl (Nat.le_of_ble_eq_true rfl) dX0_performShift_110 (fun H locs hP hD hS => ?_)
          exact o_ret hx hb hr hlk hK hP hD hS (by subst hr_7; rw [← hF, FG_performShift, if_neg c_1, if_neg c_3, if_neg c_4, if_pos c_6]) dX0_performShift_113
        · skip
          by_cases c_8 : (FG_fOf a1) = (4 : Int32)
          · skip
            refine lv_tableIn (tgt := 114) hx hb dX0_performShift_39 (by rw [c_8]; decide) (by rw [c_8]; decide) (by rw [c_8]; rfl) (by decide) ?_
            refine lv_aload_n hx hb dX0_performShift_114 rfl (lv_at hl 4 rfl) ?_
            refine lv_iload hx hb dX0_performShift_115 (lv_at hl 0 rfl) ?_
            refine lv_iload_n hx hb dX0_performShift_117 rfl (lv_at hl 3 rfl) ?_
            refine lv_iload hx hb dX0_performShift_118 (lv_at hl 1 rfl) ?_
            refine lv_ishl hx hb dX0_performShift_120 ?_
            obtain ⟨r_9, hr_9⟩ : ∃ z, (FG_put σ (FG_dOf a1) (((grg σ) (Int32.toNatClampNeg (FG_tOf a1))) <<< ((((grg σ) (Int32.toNatClampNeg (FG_sOf a1))) &&& (31 : Int32)) &&& 31))) = z := ⟨_, rfl⟩
            refine o_call (As := [.int (FG_dOf a1), .int (((grg σ) (Int32.toNatClampNeg (FG_tOf a1))) <<< ((((grg σ) (Int32.toNatClampNeg (FG_sOf a1))) &&& (31 : Int32)) &&& 31))]) (rest := []) (res := r_9) ⟨hx, hb, hml, hown, hts⟩ (by rw [← hr_9]; exact (kX0_put l D q cA _ σ (FG_dOf a1) (((grg σ) (Int32.toNatClampNeg (FG_tOf a1))) <<< ((((grg σ) (Int32.toNatClampNeg (FG_sOf a1))) &&& (31 : Int32)) &&& 31)))) (cwV 2 hts (gV wd_183 wd_185 wd_6 wd_38 wd_186) rfl rfl rfl (by decide +kernel) ⟨Nat.le_of_ble_eq_true rfl, Nat.le_of_ble_eq_true rfl⟩) hK hP hD hS hA (va_recv hK hP (ci := 0) (q0 := 0) rfl rfl) rfl hl.1 rfl (Nat.le_of_ble_eq_true rfl) dX0_performShift_121 (fun H locs hP hD hS => ?_)
            exact o_ret hx hb hr hlk hK hP hD hS (by subst hr_9; rw [← hF, FG_performShift, if_neg c_1, if_neg c_3, if_neg c_4, if_neg c_6, if_pos c_8]) dX0_performShift_124
          · skip
            by_cases c_10 : (FG_fOf a1) = (5 : Int32)
            · skip
              refine lv_tableIn (tgt := 147) hx hb dX0_performShift_39 (by rw [c_10]; decide) (by rw [c_10]; decide) (by rw [c_10]; rfl) (by decide) ?_
              refine lv_iconst (v := 1) hx hb dX0_performShift_147 (by decide) ?_
              exact o_ret hx hb hr hlk hK hP hD hS (by rw [← hF, FG_performShift, if_neg c_1, if_neg c_3, if_neg c_4, if_neg c_6, if_neg c_8, if_pos c_10]) dX0_performShift_148
            · skip
              by_cases c_11 : (FG_fOf a1) = (6 : Int32)
              · skip
                refine lv_tableIn (tgt := 125) hx hb dX0_performShift_39 (by rw [c_11]; decide) (by rw [c_11]; decide) (by rw [c_11]; rfl) (by decide) ?_
                refine lv_aload_n hx hb dX0_performShift_125 rfl (lv_at hl 4 rfl) ?_
                refine lv_iload hx hb dX0_performShift_126 (lv_at hl 0 rfl) ?_
                refine lv_iload_n hx hb dX0_performShift_128 rfl (lv_at hl 3 rfl) ?_
                refine lv_iload hx hb dX0_performShift_129 (lv_at hl 1 rfl) ?_
                refine lv_iushr (v := (jushr ((grg σ) (Int32.toNatClampNeg (FG_tOf a1))) (((grg σ) (Int32.toNatClampNeg (FG_sOf a1))) &&& (31 : Int32)))) hx hb dX0_performShift_131 rfl ?_
                obtain ⟨r_12, hr_12⟩ : ∃ z, (FG_put σ (FG_dOf a1) (jushr ((grg σ) (Int32.toNatClampNeg (FG_tOf a1))) (((grg σ) (Int32.toNatClampNeg (FG_sOf a1))) &&& (31 : Int32)))) = z := ⟨_, rfl⟩
                refine o_call (As := [.int (FG_dOf a1), .int (jushr ((grg σ) (Int32.toNatClampNeg (FG_tOf a1))) (((grg σ) (Int32.toNatClampNeg (FG_sOf a1))) &&& (31 : Int32)))]) (rest := []) (res := r_12) ⟨hx, hb, hml, hown, hts⟩ (by rw [← hr_12]; exact (kX0_put l D q cA _ σ (FG_dOf a1) (jushr ((grg σ) (Int32.toNatClampNeg (FG_tOf a1))) (((grg σ) (Int32.toNatClampNeg (FG_sOf a1))) &&& (31 : Int32))))) (cwV 2 hts (gV wd_183 wd_185 wd_6 wd_38 wd_186) rfl rfl rfl (by decide +kernel) ⟨Nat.le_of_ble_eq_true rfl, Nat.le_of_ble_eq_true rfl⟩) hK hP hD hS hA (va_recv hK hP (ci := 0) (q0 := 0) rfl rfl) rfl hl.1 rfl (Nat.le_of_ble_eq_true rfl) dX0_performShift_132 (fun H locs hP hD hS => ?_)
                exact o_ret hx hb hr hlk hK hP hD hS (by subst hr_12; rw [← hF, FG_performShift, if_neg c_1, if_neg c_3, if_neg c_4, if_neg c_6, if_neg c_8, if_neg c_10, if_pos c_11]) dX0_performShift_135
              · skip
                by_cases c_13 : (FG_fOf a1) = (7 : Int32)
                · skip
                  refine lv_tableIn (tgt := 136) hx hb dX0_performShift_39 (by rw [c_13]; decide) (by rw [c_13]; decide) (by rw [c_13]; rfl) (by decide) ?_
                  refine lv_aload_n hx hb dX0_performShift_136 rfl (lv_at hl 4 rfl) ?_
                  refine lv_iload hx hb dX0_performShift_137 (lv_at hl 0 rfl) ?_
                  refine lv_iload_n hx hb dX0_performShift_139 rfl (lv_at hl 3 rfl) ?_
                  refine lv_iload hx hb dX0_performShift_140 (lv_at hl 1 rfl) ?_
                  refine lv_ishr hx hb dX0_performShift_142 ?_
                  obtain ⟨r_14, hr_14⟩ : ∃ z, (FG_put σ (FG_dOf a1) (((grg σ) (Int32.toNatClampNeg (FG_tOf a1))) >>> ((((grg σ) (Int32.toNatClampNeg (FG_sOf a1))) &&& (31 : Int32)) &&& 31))) = z := ⟨_, rfl⟩
                  refine o_call (As := [.int (FG_dOf a1), .int (((grg σ) (Int32.toNatClampNeg (FG_tOf a1))) >>> ((((grg σ) (Int32.toNatClampNeg (FG_sOf a1))) &&& (31 : Int32)) &&& 31))]) (rest := []) (res := r_14) ⟨hx, hb, hml, hown, hts⟩ (by rw [← hr_14]; exact (kX0_put l D q cA _ σ (FG_dOf a1) (((grg σ) (Int32.toNatClampNeg (FG_tOf a1))) >>> ((((grg σ) (Int32.toNatClampNeg (FG_sOf a1))) &&& (31 : Int32)) &&& 31)))) (cwV 2 hts (gV wd_183 wd_185 wd_6 wd_38 wd_186) rfl rfl rfl (by decide +kernel) ⟨Nat.le_of_ble_eq_true rfl, Nat.le_of_ble_eq_true rfl⟩) hK hP hD hS hA (va_recv hK hP (ci := 0) (q0 := 0) rfl rfl) rfl hl.1 rfl (Nat.le_of_ble_eq_true rfl) dX0_performShift_143 (fun H locs hP hD hS => ?_)
                  exact o_ret hx hb hr hlk hK hP hD hS (by subst hr_14; rw [← hF, FG_performShift, if_neg c_1, if_neg c_3, if_neg c_4, if_neg c_6, if_neg c_8, if_neg c_10, if_neg c_11, if_pos c_13]) dX0_performShift_146
                · skip
                  refine lv_tableOut (tgt := 147) hx hb dX0_performShift_39 (by have h0 := lv_neT (a := 0) c_1 (by decide); have h1 := lv_neT (a := 1) c_3 (by decide); have h2 := lv_neT (a := 2) c_4 (by decide); have h3 := lv_neT (a := 3) c_6 (by decide); have h4 := lv_neT (a := 4) c_8 (by decide); have h5 := lv_neT (a := 5) c_10 (by decide); have h6 := lv_neT (a := 6) c_11 (by decide); have h7 := lv_neT (a := 7) c_13 (by decide); omega) (by decide) ?_
                  refine lv_iconst (v := 1) hx hb dX0_performShift_147 (by decide) ?_
                  exact o_ret hx hb hr hlk hK hP hD hS (by rw [← hF, FG_performShift, if_neg c_1, if_neg c_3, if_neg c_4, if_neg c_6, if_neg c_8, if_neg c_10, if_neg c_11, if_neg c_13]) dX0_performShift_148
set_option maxHeartbeats 4000000 in
set_option maxRecDepth 100000 in
theorem kX0_readByte (l : Launch) (D : va_G) (q : Nat → Nat) (cA : Nat → ClassId) (sz : Nat) (σ : SG) (hI : IG σ) : oMet l D vwCl (wG q cA) (tG cA) (q 0) sz yX0_readByte wsX0_readByte { frames := 1, cells := 0, slots := 0, locals := 22 } σ [] (FG_readByte σ) := by
  refine o_met (cc := cX0_readByte) (maxL := 2) (ret := some .int) (by decide) rfl (Nat.le_of_ble_eq_true rfl) ?_
  intro p e s m args below meth c A ls hx hb hr hml hts hown hlk hP hK hD hA hS hl
  have hl : lv_has ls 2 [(0, .ref (q 0))] := hl
  have hin : ∀ w ∈ wsX00, w ∈ wsX0_readByte := fun w h => mc (inX0 w h)
  generalize hF : FG_readByte σ = res
  refine lv_aload_n hx hb dX0_readByte_0 rfl (lv_at hl 0 rfl) ?_
  refine getX0_ir (v := (gir σ)) hx hb hts hin hown hK hP (hts _ (mc wd_57)) dX0_readByte_1 rfl ?_
  refine lv_aload_n hx hb dX0_readByte_4 rfl (lv_at hl 0 rfl) ?_
  refine getX0_ic (v := (gic σ)) hx hb hts hin hown hK hP (hts _ (mc wd_56)) dX0_readByte_5 rfl ?_
  refine lv_icmp_lt (tgt := 18) hx hb dX0_readByte_8 (by decide) (fun c_1 => ?_) (fun c_1 => ?_)
  · skip
    refine lv_aload_n hx hb dX0_readByte_18 rfl (lv_at hl 0 rfl) ?_
    refine getX0_ti hx hb hts hin hown hK hP (hts _ (mc wd_55)) dX0_readByte_19 ?_
    refine lv_aload_n hx hb dX0_readByte_22 rfl (lv_at hl 0 rfl) ?_
    refine getX0_ir (v := (gir σ)) hx hb hts hin hown hK hP (hts _ (mc wd_57)) dX0_readByte_23 rfl ?_
    refine aldX0_ti (f := (gti σ)) hx hb hK hP (in_ge0lt hI.2.2.2.1 c_1 hI.2.2.1.2) dX0_readByte_26 rfl ?_
    refine lv_istore_n (lv' := [(1, .int ((gti σ) (Int32.toNatClampNeg (gir σ)))), (0, .ref (q 0))]) hx hb dX0_readByte_27 rfl hl (by decide) rfl (fun ls hl => ?_)
    refine lv_aload_n hx hb dX0_readByte_28 rfl (lv_at hl 1 rfl) ?_
    refine lv_dup hx hb dX0_readByte_29 rfl ?_
    refine getX0_ir (v := (gir σ)) hx hb hts hin hown hK hP (hts _ (mc wd_57)) dX0_readByte_30 rfl ?_
    refine lv_iconst (v := 1) hx hb dX0_readByte_33 (by decide) ?_
    refine lv_iadd hx hb dX0_readByte_34 ?_
    refine putX0_ir hx hb hts hin hown hK hP hD hS (hts _ (mc wd_57)) dX0_readByte_35 (fun H locs hP hD hS => ?_)
    refine lv_aload_n hx hb dX0_readByte_38 rfl (lv_at hl 1 rfl) ?_
    refine lv_iconst (v := 2) hx hb dX0_readByte_39 (by decide) ?_
    refine lv_iload_n hx hb dX0_readByte_40 rfl (lv_at hl 0 rfl) ?_
    obtain ⟨r_2, hr_2⟩ : ∃ z, (FG_put (sir σ ((gir σ) + (1 : Int32))) (2 : Int32) ((gti σ) (Int32.toNatClampNeg (gir σ)))) = z := ⟨_, rfl⟩
    refine o_call (As := [.int (2 : Int32), .int ((gti σ) (Int32.toNatClampNeg (gir σ)))]) (rest := []) (res := r_2) ⟨hx, hb, hml, hown, hts⟩ (by rw [← hr_2]; exact (kX0_put l D q cA _ (sir σ ((gir σ) + (1 : Int32))) (2 : Int32) ((gti σ) (Int32.toNatClampNeg (gir σ))))) (cwV 2 hts (gV wd_183 wd_185 wd_6 wd_38 wd_186) rfl rfl rfl (by decide +kernel) ⟨Nat.le_of_ble_eq_true rfl, Nat.le_of_ble_eq_true rfl⟩) hK hP hD hS hA (va_recv hK hP (ci := 0) (q0 := 0) rfl rfl) rfl hl.1 rfl (Nat.le_of_ble_eq_true rfl) dX0_readByte_41 (fun H locs hP hD hS => ?_)
    exact o_ret hx hb hr hlk hK hP hD hS (by subst hr_2; rw [← hF, FG_readByte, if_pos c_1]) dX0_readByte_44
  · skip
    refine lv_aload_n hx hb dX0_readByte_11 rfl (lv_at hl 0 rfl) ?_
    refine lv_iconst (v := 2) hx hb dX0_readByte_12 (by decide) ?_
    refine lv_iconst (v := -1) hx hb dX0_readByte_13 (by decide) ?_
    obtain ⟨r_3, hr_3⟩ : ∃ z, (FG_put σ (2 : Int32) (-1 : Int32)) = z := ⟨_, rfl⟩
    refine o_call (As := [.int (2 : Int32), .int (-1 : Int32)]) (rest := []) (res := r_3) ⟨hx, hb, hml, hown, hts⟩ (by rw [← hr_3]; exact (kX0_put l D q cA _ σ (2 : Int32) (-1 : Int32))) (cwV 2 hts (gV wd_183 wd_185 wd_6 wd_38 wd_186) rfl rfl rfl (by decide +kernel) ⟨Nat.le_of_ble_eq_true rfl, Nat.le_of_ble_eq_true rfl⟩) hK hP hD hS hA (va_recv hK hP (ci := 0) (q0 := 0) rfl rfl) rfl hl.1 rfl (Nat.le_of_ble_eq_true rfl) dX0_readByte_14 (fun H locs hP hD hS => ?_)
    exact o_ret hx hb hr hlk hK hP hD hS (by subst hr_3; rw [← hF, FG_readByte, if_neg c_1]) dX0_readByte_17
set_option maxHeartbeats 4000000 in
set_option maxRecDepth 100000 in
theorem kX0_writeByte (l : Launch) (D : va_G) (q : Nat → Nat) (cA : Nat → ClassId) (sz : Nat) (σ : SG) (hI : IG σ) : oMet l D vwCl (wG q cA) (tG cA) (q 0) sz yX0_writeByte wsX0_writeByte { frames := 0, cells := 0, slots := 0, locals := 0 } σ [] (FG_writeByte σ) := by
  refine o_met (cc := cX0_writeByte) (maxL := 1) (ret := some .int) (by decide) rfl (Nat.le_of_ble_eq_true rfl) ?_
  intro p e s m args below meth c A ls hx hb hr hml hts hown hlk hP hK hD hA hS hl
  have hl : lv_has ls 1 [(0, .ref (q 0))] := hl
  have hin : ∀ w ∈ wsX00, w ∈ wsX0_writeByte := fun w h => mc (inX0 w h)
  generalize hF : FG_writeByte σ = res
  refine lv_aload_n hx hb dX0_writeByte_0 rfl (lv_at hl 0 rfl) ?_
  refine getX0_oc (v := (goc σ)) hx hb hts hin hown hK hP (hts _ (mc wd_59)) dX0_writeByte_1 rfl ?_
  refine lv_sipush (v := 256) hx hb dX0_writeByte_4 (by decide) ?_
  refine lv_icmp_ge (tgt := 39) hx hb dX0_writeByte_7 (by decide) (fun c_1 => ?_) (fun c_1 => ?_)
  · skip
    refine lv_iconst (v := 0) hx hb dX0_writeByte_39 (by decide) ?_
    exact o_ret hx hb hr hlk hK hP hD hS (by rw [← hF, FG_writeByte, if_pos c_1]) dX0_writeByte_40
  · skip
    refine lv_aload_n hx hb dX0_writeByte_10 rfl (lv_at hl 0 rfl) ?_
    refine getX0_to hx hb hts hin hown hK hP (hts _ (mc wd_58)) dX0_writeByte_11 ?_
    refine lv_aload_n hx hb dX0_writeByte_14 rfl (lv_at hl 0 rfl) ?_
    refine getX0_oc (v := (goc σ)) hx hb hts hin hown hK hP (hts _ (mc wd_59)) dX0_writeByte_15 rfl ?_
    refine lv_aload_n hx hb dX0_writeByte_18 rfl (lv_at hl 0 rfl) ?_
    refine getX0_rg hx hb hts hin hown hK hP (hts _ (mc wd_53)) dX0_writeByte_19 ?_
    refine lv_iconst (v := 4) hx hb dX0_writeByte_22 (by decide) ?_
    refine aldX0_rg (f := (grg σ)) hx hb hK hP (in_c (by decide)) dX0_writeByte_23 rfl ?_
    refine lv_sipush (v := 255) hx hb dX0_writeByte_24 (by decide) ?_
    refine lv_iand hx hb dX0_writeByte_27 ?_
    refine astX0_to (f := (gto σ)) hx hb hK hP hD hS (in_ge0lt hI.2.2.2.2.1 (k2_lt c_1) (by decide)) dX0_writeByte_28 rfl (fun H locs hP hD hS => ?_)
    refine lv_aload_n hx hb dX0_writeByte_29 rfl (lv_at hl 0 rfl) ?_
    refine lv_dup hx hb dX0_writeByte_30 rfl ?_
    refine getX0_oc (v := (goc σ)) hx hb hts hin hown hK hP (hts _ (mc wd_59)) dX0_writeByte_31 rfl ?_
    refine lv_iconst (v := 1) hx hb dX0_writeByte_34 (by decide) ?_
    refine lv_iadd hx hb dX0_writeByte_35 ?_
    refine putX0_oc hx hb hts hin hown hK hP hD hS (hts _ (mc wd_59)) dX0_writeByte_36 (fun H locs hP hD hS => ?_)
    refine lv_iconst (v := 0) hx hb dX0_writeByte_39 (by decide) ?_
    exact o_ret hx hb hr hlk hK hP hD hS (by rw [← hF, FG_writeByte, if_neg c_1]) dX0_writeByte_40
set_option maxHeartbeats 4000000 in
set_option maxRecDepth 100000 in
theorem kX0_performSystem (l : Launch) (D : va_G) (q : Nat → Nat) (cA : Nat → ClassId) (sz : Nat) (σ : SG) (hI : IG σ) : oMet l D vwCl (wG q cA) (tG cA) (q 0) sz yX0_performSystem wsX0_performSystem { frames := 2, cells := 0, slots := 0, locals := 43 } σ [] (FG_performSystem σ) := by
  refine o_met (cc := cX0_performSystem) (maxL := 1) (ret := some .int) (by decide) rfl (Nat.le_of_ble_eq_true rfl) ?_
  intro p e s m args below meth c A ls hx hb hr hml hts hown hlk hP hK hD hA hS hl
  have hl : lv_has ls 1 [(0, .ref (q 0))] := hl
  have hin : ∀ w ∈ wsX00, w ∈ wsX0_performSystem := fun w h => mc (inX0 w h)
  generalize hF : FG_performSystem σ = res
  refine lv_aload_n hx hb dX0_performSystem_0 rfl (lv_at hl 0 rfl) ?_
  refine getX0_rg hx hb hts hin hown hK hP (hts _ (mc wd_53)) dX0_performSystem_1 ?_
  refine lv_iconst (v := 2) hx hb dX0_performSystem_4 (by decide) ?_
  refine aldX0_rg (f := (grg σ)) hx hb hK hP (in_c (by decide)) dX0_performSystem_5 rfl ?_
  by_cases c_1 : ((grg σ) (Int32.toNatClampNeg (2 : Int32))) = (1 : Int32)
  · skip
    refine lv_tableIn (tgt := 32) hx hb dX0_performSystem_6 (by rw [c_1]; decide) (by rw [c_1]; decide) (by rw [c_1]; rfl) (by decide) ?_
    refine lv_aload_n hx hb dX0_performSystem_32 rfl (lv_at hl 0 rfl) ?_
    obtain ⟨r_2, hr_2⟩ : ∃ z, (FG_readByte σ) = z := ⟨_, rfl⟩
    refine o_call (As := []) (rest := []) (res := r_2) ⟨hx, hb, hml, hown, hts⟩ (by rw [← hr_2]; exact (kX0_readByte l D q cA _ σ hI)) (cwV 0 hts (gV wd_206 wd_208 wd_11 wd_38 wd_209) rfl rfl rfl (by decide +kernel) ⟨Nat.le_of_ble_eq_true rfl, Nat.le_of_ble_eq_true rfl⟩) hK hP hD hS hA (va_recv hK hP (ci := 0) (q0 := 0) rfl rfl) rfl hl.1 rfl (Nat.le_of_ble_eq_true rfl) dX0_performSystem_33 (fun H locs hP hD hS => ?_)
    exact o_ret hx hb hr hlk hK hP hD hS (by subst hr_2; rw [← hF, FG_performSystem, if_pos c_1]) dX0_performSystem_36
  · skip
    by_cases c_3 : ((grg σ) (Int32.toNatClampNeg (2 : Int32))) = (2 : Int32)
    · skip
      refine lv_tableIn (tgt := 37) hx hb dX0_performSystem_6 (by rw [c_3]; decide) (by rw [c_3]; decide) (by rw [c_3]; rfl) (by decide) ?_
      refine lv_aload_n hx hb dX0_performSystem_37 rfl (lv_at hl 0 rfl) ?_
      obtain ⟨r_4, hr_4⟩ : ∃ z, (FG_writeByte σ) = z := ⟨_, rfl⟩
      refine o_call (As := []) (rest := []) (res := r_4) ⟨hx, hb, hml, hown, hts⟩ (by rw [← hr_4]; exact (kX0_writeByte l D q cA _ σ hI)) (cwV 0 hts (gV wd_210 wd_212 wd_12 wd_38 wd_213) rfl rfl rfl (by decide +kernel) ⟨Nat.le_of_ble_eq_true rfl, Nat.le_of_ble_eq_true rfl⟩) hK hP hD hS hA (va_recv hK hP (ci := 0) (q0 := 0) rfl rfl) rfl hl.1 rfl (Nat.le_of_ble_eq_true rfl) dX0_performSystem_38 (fun H locs hP hD hS => ?_)
      exact o_ret hx hb hr hlk hK hP hD hS (by subst hr_4; rw [← hF, FG_performSystem, if_neg c_1, if_pos c_3]) dX0_performSystem_41
    · skip
      by_cases c_5 : ((grg σ) (Int32.toNatClampNeg (2 : Int32))) = (3 : Int32)
      · skip
        refine lv_tableIn (tgt := 42) hx hb dX0_performSystem_6 (by rw [c_5]; decide) (by rw [c_5]; decide) (by rw [c_5]; rfl) (by decide) ?_
        refine lv_aload_n hx hb dX0_performSystem_42 rfl (lv_at hl 0 rfl) ?_
        refine lv_aload_n hx hb dX0_performSystem_43 rfl (lv_at hl 0 rfl) ?_
        refine getX0_rg hx hb hts hin hown hK hP (hts _ (mc wd_53)) dX0_performSystem_44 ?_
        refine lv_iconst (v := 4) hx hb dX0_performSystem_47 (by decide) ?_
        refine aldX0_rg (f := (grg σ)) hx hb hK hP (in_c (by decide)) dX0_performSystem_48 rfl ?_
        refine putX0_ec hx hb hts hin hown hK hP hD hS (hts _ (mc wd_63)) dX0_performSystem_49 (fun H locs hP hD hS => ?_)
        refine lv_aload_n hx hb dX0_performSystem_52 rfl (lv_at hl 0 rfl) ?_
        refine lv_iconst (v := 1) hx hb dX0_performSystem_53 (by decide) ?_
        refine putX0_ou hx hb hts hin hown hK hP hD hS (hts _ (mc wd_62)) dX0_performSystem_54 (fun H locs hP hD hS => ?_)
        refine lv_iconst (v := 0) hx hb dX0_performSystem_57 (by decide) ?_
        exact o_ret hx hb hr hlk hK hP hD hS (by rw [← hF, FG_performSystem, if_neg c_1, if_neg c_3, if_pos c_5]) dX0_performSystem_58
      · skip
        refine lv_tableOut (tgt := 59) hx hb dX0_performSystem_6 (by have h0 := lv_neT (a := 1) c_1 (by decide); have h1 := lv_neT (a := 2) c_3 (by decide); have h2 := lv_neT (a := 3) c_5 (by decide); omega) (by decide) ?_
        refine lv_bipush (v := 10) hx hb dX0_performSystem_59 (by decide) ?_
        exact o_ret hx hb hr hlk hK hP hD hS (by rw [← hF, FG_performSystem, if_neg c_1, if_neg c_3, if_neg c_5]) dX0_performSystem_61
set_option maxHeartbeats 4000000 in
set_option maxRecDepth 100000 in
theorem kX0_putProduct (l : Launch) (D : va_G) (q : Nat → Nat) (cA : Nat → ClassId) (sz : Nat) (σ : SG) (a1 : Int64) : oMet l D vwCl (wG q cA) (tG cA) (q 0) sz yX0_putProduct wsX0_putProduct { frames := 1, cells := 0, slots := 0, locals := 22 } σ [.long a1] (FG_putProduct σ a1) := by
  refine o_met (cc := cX0_putProduct) (maxL := 3) (ret := some .int) (by decide) rfl (Nat.le_of_ble_eq_true rfl) ?_
  intro p e s m args below meth c A ls hx hb hr hml hts hown hlk hP hK hD hA hS hl
  have hl : lv_has ls 3 [(0, .ref (q 0)), (1, .long a1)] := hl
  have hin : ∀ w ∈ wsX00, w ∈ wsX0_putProduct := fun w h => mc (inX0 w h)
  generalize hF : FG_putProduct σ a1 = res
  refine lv_aload_n hx hb dX0_putProduct_0 rfl (lv_at hl 0 rfl) ?_
  refine lv_bipush (v := 32) hx hb dX0_putProduct_1 (by decide) ?_
  refine lv_lload_n hx hb dX0_putProduct_3 rfl (lv_at hl 1 rfl) ?_
  refine lv_bipush (v := 32) hx hb dX0_putProduct_4 (by decide) ?_
  refine lv_lushr (v := (jlushr a1 (32 : Int32))) hx hb dX0_putProduct_6 rfl ?_
  refine lv_l2i hx hb dX0_putProduct_7 rfl ?_
  obtain ⟨r_1, hr_1⟩ : ∃ z, (FG_put σ (32 : Int32) (Int64.toInt32 (jlushr a1 (32 : Int32)))) = z := ⟨_, rfl⟩
  refine o_call (As := [.int (32 : Int32), .int (Int64.toInt32 (jlushr a1 (32 : Int32)))]) (rest := []) (res := r_1) ⟨hx, hb, hml, hown, hts⟩ (by rw [← hr_1]; exact (kX0_put l D q cA _ σ (32 : Int32) (Int64.toInt32 (jlushr a1 (32 : Int32))))) (cwV 2 hts (gV wd_183 wd_185 wd_6 wd_38 wd_186) rfl rfl rfl (by decide +kernel) ⟨Nat.le_of_ble_eq_true rfl, Nat.le_of_ble_eq_true rfl⟩) hK hP hD hS hA (va_recv hK hP (ci := 0) (q0 := 0) rfl rfl) rfl hl.1 rfl (Nat.le_of_ble_eq_true rfl) dX0_putProduct_8 (fun H locs hP hD hS => ?_)
  refine lv_pop hx hb dX0_putProduct_11 rfl ?_
  refine lv_aload_n hx hb dX0_putProduct_12 rfl (lv_at hl 0 rfl) ?_
  refine lv_bipush (v := 33) hx hb dX0_putProduct_13 (by decide) ?_
  refine lv_lload_n hx hb dX0_putProduct_15 rfl (lv_at hl 1 rfl) ?_
  refine lv_l2i hx hb dX0_putProduct_16 rfl ?_
  obtain ⟨r_2, hr_2⟩ : ∃ z, (FG_put r_1.2 (33 : Int32) (Int64.toInt32 a1)) = z := ⟨_, rfl⟩
  refine o_call (As := [.int (33 : Int32), .int (Int64.toInt32 a1)]) (rest := []) (res := r_2) ⟨hx, hb, hml, hown, hts⟩ (by rw [← hr_2]; exact (kX0_put l D q cA _ r_1.2 (33 : Int32) (Int64.toInt32 a1))) (cwV 2 hts (gV wd_183 wd_185 wd_6 wd_38 wd_186) rfl rfl rfl (by decide +kernel) ⟨Nat.le_of_ble_eq_true rfl, Nat.le_of_ble_eq_true rfl⟩) hK hP hD hS hA (va_recv hK hP (ci := 0) (q0 := 0) rfl rfl) rfl hl.1 rfl (Nat.le_of_ble_eq_true rfl) dX0_putProduct_17 (fun H locs hP hD hS => ?_)
  exact o_ret hx hb hr hlk hK hP hD hS (by subst hr_1; subst hr_2; rw [← hF, FG_putProduct]) dX0_putProduct_20
