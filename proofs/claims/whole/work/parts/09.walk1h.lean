set_option maxHeartbeats 4000000 in
set_option maxRecDepth 100000 in
theorem kX1_two (l : Launch) (D : va_G) (q : Nat → Nat) (cA : Nat → ClassId) (sz : Nat) (σ : SM) (a1 : Int32) (hI : IM σ ∧ vp_in (gmpc σ) 64) : oMet l D vwCl (wM q cA) (tM cA) (q 0) sz yX1_two wsX1_two { frames := 4, cells := 0, slots := 0, locals := 95 } σ [.int a1] (FM_two σ a1) := by
  refine o_met (cc := cX1_two) (maxL := 5) (ret := some .int) (by decide) rfl (Nat.le_of_ble_eq_true rfl) ?_
  intro p e s m args below meth c A ls hx hb hr hml hts hown hlk hP hK hD hA hS hl
  have hl : lv_has ls 5 [(0, .ref (q 0)), (1, .int a1)] := hl
  have hin : ∀ w ∈ wsX10, w ∈ wsX1_two := fun w h => mc (inX1 w h)
  generalize hF : FM_two σ a1 = res
  refine lv_aload_n hx hb dX1_two_0 rfl (lv_at hl 0 rfl) ?_
  refine getX1_mpc (v := (gmpc σ)) hx hb hts hin hown hK hP (hts _ (mc wd_304)) dX1_two_1 rfl ?_
  refine lv_iconst (v := 1) hx hb dX1_two_4 (by decide) ?_
  refine lv_iadd hx hb dX1_two_5 ?_
  refine lv_aload_n hx hb dX1_two_6 rfl (lv_at hl 0 rfl) ?_
  refine getX1_msz (v := (gmsz σ)) hx hb hts hin hown hK hP (hts _ (mc wd_296)) dX1_two_7 rfl ?_
  refine lv_icmp_lt (tgt := 16) hx hb dX1_two_10 (by decide) (fun c_1 => ?_) (fun c_1 => ?_)
  · skip
    refine lv_aload_n hx hb dX1_two_16 rfl (lv_at hl 0 rfl) ?_
    refine getX1_mtx hx hb hts hin hown hK hP (hts _ (mc wd_295)) dX1_two_17 ?_
    refine lv_aload_n hx hb dX1_two_20 rfl (lv_at hl 0 rfl) ?_
    refine getX1_mpc (v := (gmpc σ)) hx hb hts hin hown hK hP (hts _ (mc wd_304)) dX1_two_21 rfl ?_
    refine lv_iconst (v := 1) hx hb dX1_two_24 (by decide) ?_
    refine lv_iadd hx hb dX1_two_25 ?_
    refine aldX1_mtx (f := (gmtx σ)) hx hb hK hP (im_slot hI.1 hI.2 c_1) dX1_two_26 rfl ?_
    refine lv_istore_n (lv' := [(2, .int ((gmtx σ) (Int32.toNatClampNeg ((gmpc σ) + (1 : Int32))))), (0, .ref (q 0)), (1, .int a1)]) hx hb dX1_two_27 rfl hl (by decide) rfl (fun ls hl => ?_)
    refine lv_iload_n hx hb dX1_two_28 rfl (lv_at hl 0 rfl) ?_
    refine s_call (As := [.int ((gmtx σ) (Int32.toNatClampNeg ((gmpc σ) + (1 : Int32))))]) (rest := []) ⟨hx, hb, hml, hown, hts⟩ (kX1_leads l ((gmtx σ) (Int32.toNatClampNeg ((gmpc σ) + (1 : Int32))))) (cwS 1 hts (gS wd_375 wd_376 wd_39 wd_377) rfl rfl rfl (by decide +kernel) ⟨Nat.le_of_ble_eq_true rfl, Nat.le_of_ble_eq_true rfl⟩) hP hS rfl hl.1 rfl (Nat.le_of_ble_eq_true rfl) dX1_two_29 (fun H locs hP hS => ?_)
    refine lv_if_ne (tgt := 42) hx hb dX1_two_32 (by decide) (fun c_2 => ?_) (fun c_2 => ?_)
    · skip
      refine lv_bipush (v := 8) hx hb dX1_two_42 (by decide) ?_
      exact o_ret hx hb hr hlk hK hP hD hS (by rw [← hF, FM_two, if_pos c_1, if_neg c_2]) dX1_two_44
    · skip
      refine lv_iload_n hx hb dX1_two_35 rfl (lv_at hl 0 rfl) ?_
      refine s_call (As := [.int ((gmtx σ) (Int32.toNatClampNeg ((gmpc σ) + (1 : Int32))))]) (rest := []) ⟨hx, hb, hml, hown, hts⟩ (kX1_calls l ((gmtx σ) (Int32.toNatClampNeg ((gmpc σ) + (1 : Int32))))) (cwS 1 hts (gS wd_388 wd_389 wd_39 wd_390) rfl rfl rfl (by decide +kernel) ⟨Nat.le_of_ble_eq_true rfl, Nat.le_of_ble_eq_true rfl⟩) hP hS rfl hl.1 rfl (Nat.le_of_ble_eq_true rfl) dX1_two_36 (fun H locs hP hS => ?_)
      refine lv_if_eq (tgt := 45) hx hb dX1_two_39 (by decide) (fun c_3 => ?_) (fun c_3 => ?_)
      · skip
        refine lv_aload_n hx hb dX1_two_45 rfl (lv_at hl 1 rfl) ?_
        refine lv_iload_n hx hb dX1_two_46 rfl (lv_at hl 2 rfl) ?_
        obtain ⟨r_4, hr_4⟩ : ∃ z, (FM_aim σ a1) = z := ⟨_, rfl⟩
        refine o_callV (As := [.int a1]) (rest := []) (res := r_4) ⟨hx, hb, hml, hown, hts⟩ (by rw [← hr_4]; exact (kX1_aim l D q cA _ σ a1)) (cwV 1 hts (gV wd_391 wd_393 wd_24 wd_39 wd_394) rfl rfl rfl (by decide +kernel) ⟨Nat.le_of_ble_eq_true rfl, Nat.le_of_ble_eq_true rfl⟩) hK hP hD hS hA (va_recv hK hP (ci := 1) (q0 := 0) rfl rfl) rfl hl.1 rfl (Nat.le_of_ble_eq_true rfl) dX1_two_47 (fun H locs hP hD hS => ?_)
        refine lv_aload_n hx hb dX1_two_50 rfl (lv_at hl 1 rfl) ?_
        refine getX1_mgo (v := (gmgo r_4)) hx hb hts hin hown hK hP (hts _ (mc wd_309)) dX1_two_51 rfl ?_
        refine lv_if_eq (tgt := 80) hx hb dX1_two_54 (by decide) (fun c_5 => ?_) (fun c_5 => ?_)
        · skip
          refine lv_aload_n hx hb dX1_two_80 rfl (lv_at hl 1 rfl) ?_
          refine getX1_mrg hx hb hts hin hown hK hP (hts _ (mc wd_303)) dX1_two_81 ?_
          refine lv_aload_n hx hb dX1_two_84 rfl (lv_at hl 1 rfl) ?_
          refine getX1_mlk (v := (gmlk r_4)) hx hb hts hin hown hK hP (hts _ (mc wd_311)) dX1_two_85 rfl ?_
          refine aldX1_mrg (f := (gmrg r_4)) hx hb hK hP (by subst hr_4; exact (im_lk1 _ _)) dX1_two_88 rfl ?_
          refine lv_istore_n (lv' := [(3, .int ((gmrg r_4) (Int32.toNatClampNeg (gmlk r_4)))), (2, .int ((gmtx σ) (Int32.toNatClampNeg ((gmpc σ) + (1 : Int32))))), (0, .ref (q 0)), (1, .int a1)]) hx hb dX1_two_89 rfl hl (by decide) rfl (fun ls hl => ?_)
          refine lv_aload_n hx hb dX1_two_90 rfl (lv_at hl 2 rfl) ?_
          refine lv_aload_n hx hb dX1_two_91 rfl (lv_at hl 2 rfl) ?_
          refine getX1_mlk (v := (gmlk r_4)) hx hb hts hin hown hK hP (hts _ (mc wd_311)) dX1_two_92 rfl ?_
          refine lv_aload_n hx hb dX1_two_95 rfl (lv_at hl 2 rfl) ?_
          refine getX1_mlk (v := (gmlk r_4)) hx hb hts hin hown hK hP (hts _ (mc wd_311)) dX1_two_96 rfl ?_
          refine lv_if_ne (tgt := 106) hx hb dX1_two_99 (by decide) (fun c_6 => ?_) (fun c_6 => ?_)
          · skip
            refine lv_ldc (v := 4194304) hx hb hown (hts _ (mc wd_398)) dX1_two_106 ?_
            refine lv_iconst (v := 4) hx hb dX1_two_108 (by decide) ?_
            refine lv_aload_n hx hb dX1_two_109 rfl (lv_at hl 2 rfl) ?_
            refine getX1_mpc (v := (gmpc r_4)) hx hb hts hin hown hK hP (hts _ (mc wd_304)) dX1_two_110 rfl ?_
            refine lv_iconst (v := 2) hx hb dX1_two_113 (by decide) ?_
            refine lv_iadd hx hb dX1_two_114 ?_
            refine lv_imul hx hb dX1_two_115 ?_
            refine lv_iadd hx hb dX1_two_116 ?_
            obtain ⟨r_7, hr_7⟩ : ∃ z, (FM_put r_4 (gmlk r_4) ((4194304 : Int32) + ((4 : Int32) * ((gmpc r_4) + (2 : Int32))))) = z := ⟨_, rfl⟩
            refine o_callV (As := [.int (gmlk r_4), .int ((4194304 : Int32) + ((4 : Int32) * ((gmpc r_4) + (2 : Int32))))]) (rest := []) (res := r_7) ⟨hx, hb, hml, hown, hts⟩ (by rw [← hr_7]; exact (kX1_put l D q cA _ r_4 (gmlk r_4) ((4194304 : Int32) + ((4 : Int32) * ((gmpc r_4) + (2 : Int32)))) (by subst hr_4; exact (im_lk1 _ _)))) (cwV 2 hts (gV wd_411 wd_413 wd_26 wd_39 wd_414) rfl rfl rfl (by decide +kernel) ⟨Nat.le_of_ble_eq_true rfl, Nat.le_of_ble_eq_true rfl⟩) hK hP hD hS hA (va_recv hK hP (ci := 1) (q0 := 0) rfl rfl) rfl hl.1 rfl (Nat.le_of_ble_eq_true rfl) dX1_two_117 (fun H locs hP hD hS => ?_)
            refine lv_aload_n hx hb dX1_two_120 rfl (lv_at hl 2 rfl) ?_
            refine lv_iload_n hx hb dX1_two_121 rfl (lv_at hl 1 rfl) ?_
            obtain ⟨r_8, hr_8⟩ : ∃ z, (FM_atOnce r_7 ((gmtx σ) (Int32.toNatClampNeg ((gmpc σ) + (1 : Int32))))) = z := ⟨_, rfl⟩
            refine o_call (As := [.int ((gmtx σ) (Int32.toNatClampNeg ((gmpc σ) + (1 : Int32))))]) (rest := []) (res := r_8) ⟨hx, hb, hml, hown, hts⟩ (by rw [← hr_8]; exact (kX1_atOnce l D q cA _ r_7 ((gmtx σ) (Int32.toNatClampNeg ((gmpc σ) + (1 : Int32)))) (by subst hr_4; subst hr_7; exact (imv_put (imv_aim hI.1))))) (cwV 1 hts (gV wd_415 wd_417 wd_27 wd_39 wd_418) rfl rfl rfl (by decide +kernel) ⟨Nat.le_of_ble_eq_true rfl, Nat.le_of_ble_eq_true rfl⟩) hK hP hD hS hA (va_recv hK hP (ci := 1) (q0 := 0) rfl rfl) rfl hl.1 rfl (Nat.le_of_ble_eq_true rfl) dX1_two_122 (fun H locs hP hD hS => ?_)
            refine lv_istore (lv' := [(4, .int r_8.1), (3, .int ((gmrg r_4) (Int32.toNatClampNeg (gmlk r_4)))), (2, .int ((gmtx σ) (Int32.toNatClampNeg ((gmpc σ) + (1 : Int32))))), (0, .ref (q 0)), (1, .int a1)]) hx hb dX1_two_125 hl (by decide) rfl (fun ls hl => ?_)
            refine lv_iload hx hb dX1_two_127 (lv_at hl 0 rfl) ?_
            refine lv_if_le (tgt := 145) hx hb dX1_two_129 (by decide) (fun c_9 => ?_) (fun c_9 => ?_)
            · skip
              refine lv_aload_n hx hb dX1_two_145 rfl (lv_at hl 3 rfl) ?_
              refine lv_aload_n hx hb dX1_two_146 rfl (lv_at hl 3 rfl) ?_
              refine getX1_mgo (v := (gmgo r_8.2)) hx hb hts hin hown hK hP (hts _ (mc wd_309)) dX1_two_147 rfl ?_
              refine lv_if_eq (tgt := 165) hx hb dX1_two_150 (by decide) (fun c_10 => ?_) (fun c_10 => ?_)
              · skip
                refine lv_aload_n hx hb dX1_two_165 rfl (lv_at hl 3 rfl) ?_
                refine getX1_mpc (v := (gmpc r_8.2)) hx hb hts hin hown hK hP (hts _ (mc wd_304)) dX1_two_166 rfl ?_
                refine lv_iconst (v := 2) hx hb dX1_two_169 (by decide) ?_
                refine lv_iadd hx hb dX1_two_170 ?_
                refine putX1_mpc hx hb hts hin hown hK hP hD hS (hts _ (mc wd_304)) dX1_two_171 (fun H locs hP hD hS => ?_)
                refine lv_iconst (v := 0) hx hb dX1_two_174 (by decide) ?_
                exact o_ret hx hb hr hlk hK hP hD hS (by subst hr_4; subst hr_7; subst hr_8; rw [← hF, FM_two, if_pos c_1, if_pos c_2, if_pos c_3, if_pos c_5, if_neg c_6, if_pos c_9, if_pos c_10]) dX1_two_175
              · skip
                refine lv_aload_n hx hb dX1_two_153 rfl (lv_at hl 3 rfl) ?_
                refine getX1_mgl (v := (gmgl r_8.2)) hx hb hts hin hown hK hP (hts _ (mc wd_310)) dX1_two_154 rfl ?_
                refine lv_ldc (v := 4194304) hx hb hown (hts _ (mc wd_398)) dX1_two_157 ?_
                refine lv_isub hx hb dX1_two_159 ?_
                refine lv_iconst (v := 4) hx hb dX1_two_160 (by decide) ?_
                refine lv_idiv hx hb dX1_two_161 (by decide) ?_
                refine lv_goto (tgt := 171) hx hb dX1_two_162 (by decide) ?_
                refine putX1_mpc hx hb hts hin hown hK hP hD hS (hts _ (mc wd_304)) dX1_two_171 (fun H locs hP hD hS => ?_)
                refine lv_iconst (v := 0) hx hb dX1_two_174 (by decide) ?_
                exact o_ret hx hb hr hlk hK hP hD hS (by subst hr_4; subst hr_7; subst hr_8; rw [← hF, FM_two, if_pos c_1, if_pos c_2, if_pos c_3, if_pos c_5, if_neg c_6, if_pos c_9, if_neg c_10]) dX1_two_175
            · skip
              refine lv_aload_n hx hb dX1_two_132 rfl (lv_at hl 3 rfl) ?_
              refine getX1_mrg hx hb hts hin hown hK hP (hts _ (mc wd_303)) dX1_two_133 ?_
              refine lv_aload_n hx hb dX1_two_136 rfl (lv_at hl 3 rfl) ?_
              refine getX1_mlk (v := (gmlk r_8.2)) hx hb hts hin hown hK hP (hts _ (mc wd_311)) dX1_two_137 rfl ?_
              refine lv_iload_n hx hb dX1_two_140 rfl (lv_at hl 1 rfl) ?_
              refine astX1_mrg (f := (gmrg r_8.2)) hx hb hK hP hD hS (by subst hr_4; subst hr_7; subst hr_8; exact (im_lk2 _ _ _ _ _)) dX1_two_141 rfl (fun H locs hP hD hS => ?_)
              refine lv_iload hx hb dX1_two_142 (lv_at hl 0 rfl) ?_
              exact o_ret hx hb hr hlk hK hP hD hS (by subst hr_4; subst hr_7; subst hr_8; rw [← hF, FM_two, if_pos c_1, if_pos c_2, if_pos c_3, if_pos c_5, if_neg c_6, if_neg c_9]) dX1_two_144
          · skip
            refine lv_iconst (v := 0) hx hb dX1_two_102 (by decide) ?_
            refine lv_goto (tgt := 117) hx hb dX1_two_103 (by decide) ?_
            obtain ⟨r_11, hr_11⟩ : ∃ z, (FM_put r_4 (gmlk r_4) (0 : Int32)) = z := ⟨_, rfl⟩
            refine o_callV (As := [.int (gmlk r_4), .int (0 : Int32)]) (rest := []) (res := r_11) ⟨hx, hb, hml, hown, hts⟩ (by rw [← hr_11]; exact (kX1_put l D q cA _ r_4 (gmlk r_4) (0 : Int32) (by subst hr_4; exact (im_lk1 _ _)))) (cwV 2 hts (gV wd_411 wd_413 wd_26 wd_39 wd_414) rfl rfl rfl (by decide +kernel) ⟨Nat.le_of_ble_eq_true rfl, Nat.le_of_ble_eq_true rfl⟩) hK hP hD hS hA (va_recv hK hP (ci := 1) (q0 := 0) rfl rfl) rfl hl.1 rfl (Nat.le_of_ble_eq_true rfl) dX1_two_117 (fun H locs hP hD hS => ?_)
            refine lv_aload_n hx hb dX1_two_120 rfl (lv_at hl 2 rfl) ?_
            refine lv_iload_n hx hb dX1_two_121 rfl (lv_at hl 1 rfl) ?_
            obtain ⟨r_12, hr_12⟩ : ∃ z, (FM_atOnce r_11 ((gmtx σ) (Int32.toNatClampNeg ((gmpc σ) + (1 : Int32))))) = z := ⟨_, rfl⟩
            refine o_call (As := [.int ((gmtx σ) (Int32.toNatClampNeg ((gmpc σ) + (1 : Int32))))]) (rest := []) (res := r_12) ⟨hx, hb, hml, hown, hts⟩ (by rw [← hr_12]; exact (kX1_atOnce l D q cA _ r_11 ((gmtx σ) (Int32.toNatClampNeg ((gmpc σ) + (1 : Int32)))) (by subst hr_4; subst hr_11; exact (imv_put (imv_aim hI.1))))) (cwV 1 hts (gV wd_415 wd_417 wd_27 wd_39 wd_418) rfl rfl rfl (by decide +kernel) ⟨Nat.le_of_ble_eq_true rfl, Nat.le_of_ble_eq_true rfl⟩) hK hP hD hS hA (va_recv hK hP (ci := 1) (q0 := 0) rfl rfl) rfl hl.1 rfl (Nat.le_of_ble_eq_true rfl) dX1_two_122 (fun H locs hP hD hS => ?_)
            refine lv_istore (lv' := [(4, .int r_12.1), (3, .int ((gmrg r_4) (Int32.toNatClampNeg (gmlk r_4)))), (2, .int ((gmtx σ) (Int32.toNatClampNeg ((gmpc σ) + (1 : Int32))))), (0, .ref (q 0)), (1, .int a1)]) hx hb dX1_two_125 hl (by decide) rfl (fun ls hl => ?_)
            refine lv_iload hx hb dX1_two_127 (lv_at hl 0 rfl) ?_
            refine lv_if_le (tgt := 145) hx hb dX1_two_129 (by decide) (fun c_13 => ?_) (fun c_13 => ?_)
            · skip
              refine lv_aload_n hx hb dX1_two_145 rfl (lv_at hl 3 rfl) ?_
              refine lv_aload_n hx hb dX1_two_146 rfl (lv_at hl 3 rfl) ?_
              refine getX1_mgo (v := (gmgo r_12.2)) hx hb hts hin hown hK hP (hts _ (mc wd_309)) dX1_two_147 rfl ?_
              refine lv_if_eq (tgt := 165) hx hb dX1_two_150 (by decide) (fun c_14 => ?_) (fun c_14 => ?_)
              · skip
                refine lv_aload_n hx hb dX1_two_165 rfl (lv_at hl 3 rfl) ?_
                refine getX1_mpc (v := (gmpc r_12.2)) hx hb hts hin hown hK hP (hts _ (mc wd_304)) dX1_two_166 rfl ?_
                refine lv_iconst (v := 2) hx hb dX1_two_169 (by decide) ?_
                refine lv_iadd hx hb dX1_two_170 ?_
                refine putX1_mpc hx hb hts hin hown hK hP hD hS (hts _ (mc wd_304)) dX1_two_171 (fun H locs hP hD hS => ?_)
                refine lv_iconst (v := 0) hx hb dX1_two_174 (by decide) ?_
                exact o_ret hx hb hr hlk hK hP hD hS (by subst hr_4; subst hr_11; subst hr_12; rw [← hF, FM_two, if_pos c_1, if_pos c_2, if_pos c_3, if_pos c_5, if_pos c_6, if_pos c_13, if_pos c_14]) dX1_two_175
              · skip
                refine lv_aload_n hx hb dX1_two_153 rfl (lv_at hl 3 rfl) ?_
                refine getX1_mgl (v := (gmgl r_12.2)) hx hb hts hin hown hK hP (hts _ (mc wd_310)) dX1_two_154 rfl ?_
                refine lv_ldc (v := 4194304) hx hb hown (hts _ (mc wd_398)) dX1_two_157 ?_
                refine lv_isub hx hb dX1_two_159 ?_
                refine lv_iconst (v := 4) hx hb dX1_two_160 (by decide) ?_
                refine lv_idiv hx hb dX1_two_161 (by decide) ?_
                refine lv_goto (tgt := 171) hx hb dX1_two_162 (by decide) ?_
                refine putX1_mpc hx hb hts hin hown hK hP hD hS (hts _ (mc wd_304)) dX1_two_171 (fun H locs hP hD hS => ?_)
                refine lv_iconst (v := 0) hx hb dX1_two_174 (by decide) ?_
                exact o_ret hx hb hr hlk hK hP hD hS (by subst hr_4; subst hr_11; subst hr_12; rw [← hF, FM_two, if_pos c_1, if_pos c_2, if_pos c_3, if_pos c_5, if_pos c_6, if_pos c_13, if_neg c_14]) dX1_two_175
            · skip
              refine lv_aload_n hx hb dX1_two_132 rfl (lv_at hl 3 rfl) ?_
              refine getX1_mrg hx hb hts hin hown hK hP (hts _ (mc wd_303)) dX1_two_133 ?_
              refine lv_aload_n hx hb dX1_two_136 rfl (lv_at hl 3 rfl) ?_
              refine getX1_mlk (v := (gmlk r_12.2)) hx hb hts hin hown hK hP (hts _ (mc wd_311)) dX1_two_137 rfl ?_
              refine lv_iload_n hx hb dX1_two_140 rfl (lv_at hl 1 rfl) ?_
              refine astX1_mrg (f := (gmrg r_12.2)) hx hb hK hP hD hS (by subst hr_4; subst hr_11; subst hr_12; exact (im_lk2 _ _ _ _ _)) dX1_two_141 rfl (fun H locs hP hD hS => ?_)
              refine lv_iload hx hb dX1_two_142 (lv_at hl 0 rfl) ?_
              exact o_ret hx hb hr hlk hK hP hD hS (by subst hr_4; subst hr_11; subst hr_12; rw [← hF, FM_two, if_pos c_1, if_pos c_2, if_pos c_3, if_pos c_5, if_pos c_6, if_neg c_13]) dX1_two_144
        · skip
          refine lv_aload_n hx hb dX1_two_57 rfl (lv_at hl 1 rfl) ?_
          refine getX1_mgl (v := (gmgl r_4)) hx hb hts hin hown hK hP (hts _ (mc wd_310)) dX1_two_58 rfl ?_
          refine lv_iconst (v := 4) hx hb dX1_two_61 (by decide) ?_
          refine lv_irem hx hb dX1_two_62 (by decide) ?_
          refine lv_if_ne (tgt := 77) hx hb dX1_two_63 (by decide) (fun c_15 => ?_) (fun c_15 => ?_)
          · skip
            refine lv_bipush (v := 7) hx hb dX1_two_77 (by decide) ?_
            exact o_ret hx hb hr hlk hK hP hD hS (by subst hr_4; rw [← hF, FM_two, if_pos c_1, if_pos c_2, if_pos c_3, if_neg c_5, if_neg c_15]) dX1_two_79
          · skip
            refine lv_aload_n hx hb dX1_two_66 rfl (lv_at hl 1 rfl) ?_
            refine lv_aload_n hx hb dX1_two_67 rfl (lv_at hl 1 rfl) ?_
            refine getX1_mgl (v := (gmgl r_4)) hx hb hts hin hown hK hP (hts _ (mc wd_310)) dX1_two_68 rfl ?_
            refine o_callR (As := [.int (gmgl r_4)]) (rest := []) ⟨hx, hb, hml, hown, hts⟩ (kX1_isText l D q cA _ r_4 (gmgl r_4)) (cwV 1 hts (gV wd_407 wd_409 wd_25 wd_39 wd_410) rfl rfl rfl (by decide +kernel) ⟨Nat.le_of_ble_eq_true rfl, Nat.le_of_ble_eq_true rfl⟩) hK hP hD hS hA (va_recv hK hP (ci := 1) (q0 := 0) rfl rfl) rfl hl.1 rfl (Nat.le_of_ble_eq_true rfl) dX1_two_71 (fun H locs hP hD hS => ?_)
            refine lv_if_ne (tgt := 80) hx hb dX1_two_74 (by decide) (fun c_16 => ?_) (fun c_16 => ?_)
            · skip
              refine lv_aload_n hx hb dX1_two_80 rfl (lv_at hl 1 rfl) ?_
              refine getX1_mrg hx hb hts hin hown hK hP (hts _ (mc wd_303)) dX1_two_81 ?_
              refine lv_aload_n hx hb dX1_two_84 rfl (lv_at hl 1 rfl) ?_
              refine getX1_mlk (v := (gmlk r_4)) hx hb hts hin hown hK hP (hts _ (mc wd_311)) dX1_two_85 rfl ?_
              refine aldX1_mrg (f := (gmrg r_4)) hx hb hK hP (by subst hr_4; exact (im_lk1 _ _)) dX1_two_88 rfl ?_
              refine lv_istore_n (lv' := [(3, .int ((gmrg r_4) (Int32.toNatClampNeg (gmlk r_4)))), (2, .int ((gmtx σ) (Int32.toNatClampNeg ((gmpc σ) + (1 : Int32))))), (0, .ref (q 0)), (1, .int a1)]) hx hb dX1_two_89 rfl hl (by decide) rfl (fun ls hl => ?_)
              refine lv_aload_n hx hb dX1_two_90 rfl (lv_at hl 2 rfl) ?_
              refine lv_aload_n hx hb dX1_two_91 rfl (lv_at hl 2 rfl) ?_
              refine getX1_mlk (v := (gmlk r_4)) hx hb hts hin hown hK hP (hts _ (mc wd_311)) dX1_two_92 rfl ?_
              refine lv_aload_n hx hb dX1_two_95 rfl (lv_at hl 2 rfl) ?_
              refine getX1_mlk (v := (gmlk r_4)) hx hb hts hin hown hK hP (hts _ (mc wd_311)) dX1_two_96 rfl ?_
              refine lv_if_ne (tgt := 106) hx hb dX1_two_99 (by decide) (fun c_17 => ?_) (fun c_17 => ?_)
              · skip
                refine lv_ldc (v := 4194304) hx hb hown (hts _ (mc wd_398)) dX1_two_106 ?_
                refine lv_iconst (v := 4) hx hb dX1_two_108 (by decide) ?_
                refine lv_aload_n hx hb dX1_two_109 rfl (lv_at hl 2 rfl) ?_
                refine getX1_mpc (v := (gmpc r_4)) hx hb hts hin hown hK hP (hts _ (mc wd_304)) dX1_two_110 rfl ?_
                refine lv_iconst (v := 2) hx hb dX1_two_113 (by decide) ?_
                refine lv_iadd hx hb dX1_two_114 ?_
                refine lv_imul hx hb dX1_two_115 ?_
                refine lv_iadd hx hb dX1_two_116 ?_
                obtain ⟨r_18, hr_18⟩ : ∃ z, (FM_put r_4 (gmlk r_4) ((4194304 : Int32) + ((4 : Int32) * ((gmpc r_4) + (2 : Int32))))) = z := ⟨_, rfl⟩
                refine o_callV (As := [.int (gmlk r_4), .int ((4194304 : Int32) + ((4 : Int32) * ((gmpc r_4) + (2 : Int32))))]) (rest := []) (res := r_18) ⟨hx, hb, hml, hown, hts⟩ (by rw [← hr_18]; exact (kX1_put l D q cA _ r_4 (gmlk r_4) ((4194304 : Int32) + ((4 : Int32) * ((gmpc r_4) + (2 : Int32)))) (by subst hr_4; exact (im_lk1 _ _)))) (cwV 2 hts (gV wd_411 wd_413 wd_26 wd_39 wd_414) rfl rfl rfl (by decide +kernel) ⟨Nat.le_of_ble_eq_true rfl, Nat.le_of_ble_eq_true rfl⟩) hK hP hD hS hA (va_recv hK hP (ci := 1) (q0 := 0) rfl rfl) rfl hl.1 rfl (Nat.le_of_ble_eq_true rfl) dX1_two_117 (fun H locs hP hD hS => ?_)
                refine lv_aload_n hx hb dX1_two_120 rfl (lv_at hl 2 rfl) ?_
                refine lv_iload_n hx hb dX1_two_121 rfl (lv_at hl 1 rfl) ?_
                obtain ⟨r_19, hr_19⟩ : ∃ z, (FM_atOnce r_18 ((gmtx σ) (Int32.toNatClampNeg ((gmpc σ) + (1 : Int32))))) = z := ⟨_, rfl⟩
                refine o_call (As := [.int ((gmtx σ) (Int32.toNatClampNeg ((gmpc σ) + (1 : Int32))))]) (rest := []) (res := r_19) ⟨hx, hb, hml, hown, hts⟩ (by rw [← hr_19]; exact (kX1_atOnce l D q cA _ r_18 ((gmtx σ) (Int32.toNatClampNeg ((gmpc σ) + (1 : Int32)))) (by subst hr_4; subst hr_18; exact (imv_put (imv_aim hI.1))))) (cwV 1 hts (gV wd_415 wd_417 wd_27 wd_39 wd_418) rfl rfl rfl (by decide +kernel) ⟨Nat.le_of_ble_eq_true rfl, Nat.le_of_ble_eq_true rfl⟩) hK hP hD hS hA (va_recv hK hP (ci := 1) (q0 := 0) rfl rfl) rfl hl.1 rfl (Nat.le_of_ble_eq_true rfl) dX1_two_122 (fun H locs hP hD hS => ?_)
                refine lv_istore (lv' := [(4, .int r_19.1), (3, .int ((gmrg r_4) (Int32.toNatClampNeg (gmlk r_4)))), (2, .int ((gmtx σ) (Int32.toNatClampNeg ((gmpc σ) + (1 : Int32))))), (0, .ref (q 0)), (1, .int a1)]) hx hb dX1_two_125 hl (by decide) rfl (fun ls hl => ?_)
                refine lv_iload hx hb dX1_two_127 (lv_at hl 0 rfl) ?_
                refine lv_if_le (tgt := 145) hx hb dX1_two_129 (by decide) (fun c_20 => ?_) (fun c_20 => ?_)
                · skip
                  refine lv_aload_n hx hb dX1_two_145 rfl (lv_at hl 3 rfl) ?_
                  refine lv_aload_n hx hb dX1_two_146 rfl (lv_at hl 3 rfl) ?_
                  refine getX1_mgo (v := (gmgo r_19.2)) hx hb hts hin hown hK hP (hts _ (mc wd_309)) dX1_two_147 rfl ?_
                  refine lv_if_eq (tgt := 165) hx hb dX1_two_150 (by decide) (fun c_21 => ?_) (fun c_21 => ?_)
                  · skip
                    refine lv_aload_n hx hb dX1_two_165 rfl (lv_at hl 3 rfl) ?_
                    refine getX1_mpc (v := (gmpc r_19.2)) hx hb hts hin hown hK hP (hts _ (mc wd_304)) dX1_two_166 rfl ?_
                    refine lv_iconst (v := 2) hx hb dX1_two_169 (by decide) ?_
                    refine lv_iadd hx hb dX1_two_170 ?_
                    refine putX1_mpc hx hb hts hin hown hK hP hD hS (hts _ (mc wd_304)) dX1_two_171 (fun H locs hP hD hS => ?_)
                    refine lv_iconst (v := 0) hx hb dX1_two_174 (by decide) ?_
                    exact o_ret hx hb hr hlk hK hP hD hS (by subst hr_4; subst hr_18; subst hr_19; rw [← hF, FM_two, if_pos c_1, if_pos c_2, if_pos c_3, if_neg c_5, if_pos c_15, if_neg c_16, if_neg c_17, if_pos c_20, if_pos c_21]) dX1_two_175
                  · skip
                    refine lv_aload_n hx hb dX1_two_153 rfl (lv_at hl 3 rfl) ?_
                    refine getX1_mgl (v := (gmgl r_19.2)) hx hb hts hin hown hK hP (hts _ (mc wd_310)) dX1_two_154 rfl ?_
                    refine lv_ldc (v := 4194304) hx hb hown (hts _ (mc wd_398)) dX1_two_157 ?_
                    refine lv_isub hx hb dX1_two_159 ?_
                    refine lv_iconst (v := 4) hx hb dX1_two_160 (by decide) ?_
                    refine lv_idiv hx hb dX1_two_161 (by decide) ?_
                    refine lv_goto (tgt := 171) hx hb dX1_two_162 (by decide) ?_
                    refine putX1_mpc hx hb hts hin hown hK hP hD hS (hts _ (mc wd_304)) dX1_two_171 (fun H locs hP hD hS => ?_)
                    refine lv_iconst (v := 0) hx hb dX1_two_174 (by decide) ?_
                    exact o_ret hx hb hr hlk hK hP hD hS (by subst hr_4; subst hr_18; subst hr_19; rw [← hF, FM_two, if_pos c_1, if_pos c_2, if_pos c_3, if_neg c_5, if_pos c_15, if_neg c_16, if_neg c_17, if_pos c_20, if_neg c_21]) dX1_two_175
                · skip
                  refine lv_aload_n hx hb dX1_two_132 rfl (lv_at hl 3 rfl) ?_
                  refine getX1_mrg hx hb hts hin hown hK hP (hts _ (mc wd_303)) dX1_two_133 ?_
                  refine lv_aload_n hx hb dX1_two_136 rfl (lv_at hl 3 rfl) ?_
                  refine getX1_mlk (v := (gmlk r_19.2)) hx hb hts hin hown hK hP (hts _ (mc wd_311)) dX1_two_137 rfl ?_
                  refine lv_iload_n hx hb dX1_two_140 rfl (lv_at hl 1 rfl) ?_
                  refine astX1_mrg (f := (gmrg r_19.2)) hx hb hK hP hD hS (by subst hr_4; subst hr_18; subst hr_19; exact (im_lk2 _ _ _ _ _)) dX1_two_141 rfl (fun H locs hP hD hS => ?_)
                  refine lv_iload hx hb dX1_two_142 (lv_at hl 0 rfl) ?_
                  exact o_ret hx hb hr hlk hK hP hD hS (by subst hr_4; subst hr_18; subst hr_19; rw [← hF, FM_two, if_pos c_1, if_pos c_2, if_pos c_3, if_neg c_5, if_pos c_15, if_neg c_16, if_neg c_17, if_neg c_20]) dX1_two_144
              · skip
                refine lv_iconst (v := 0) hx hb dX1_two_102 (by decide) ?_
                refine lv_goto (tgt := 117) hx hb dX1_two_103 (by decide) ?_
                obtain ⟨r_22, hr_22⟩ : ∃ z, (FM_put r_4 (gmlk r_4) (0 : Int32)) = z := ⟨_, rfl⟩
                refine o_callV (As := [.int (gmlk r_4), .int (0 : Int32)]) (rest := []) (res := r_22) ⟨hx, hb, hml, hown, hts⟩ (by rw [← hr_22]; exact (kX1_put l D q cA _ r_4 (gmlk r_4) (0 : Int32) (by subst hr_4; exact (im_lk1 _ _)))) (cwV 2 hts (gV wd_411 wd_413 wd_26 wd_39 wd_414) rfl rfl rfl (by decide +kernel) ⟨Nat.le_of_ble_eq_true rfl, Nat.le_of_ble_eq_true rfl⟩) hK hP hD hS hA (va_recv hK hP (ci := 1) (q0 := 0) rfl rfl) rfl hl.1 rfl (Nat.le_of_ble_eq_true rfl) dX1_two_117 (fun H locs hP hD hS => ?_)
                refine lv_aload_n hx hb dX1_two_120 rfl (lv_at hl 2 rfl) ?_
                refine lv_iload_n hx hb dX1_two_121 rfl (lv_at hl 1 rfl) ?_
                obtain ⟨r_23, hr_23⟩ : ∃ z, (FM_atOnce r_22 ((gmtx σ) (Int32.toNatClampNeg ((gmpc σ) + (1 : Int32))))) = z := ⟨_, rfl⟩
                refine o_call (As := [.int ((gmtx σ) (Int32.toNatClampNeg ((gmpc σ) + (1 : Int32))))]) (rest := []) (res := r_23) ⟨hx, hb, hml, hown, hts⟩ (by rw [← hr_23]; exact (kX1_atOnce l D q cA _ r_22 ((gmtx σ) (Int32.toNatClampNeg ((gmpc σ) + (1 : Int32)))) (by subst hr_4; subst hr_22; exact (imv_put (imv_aim hI.1))))) (cwV 1 hts (gV wd_415 wd_417 wd_27 wd_39 wd_418) rfl rfl rfl (by decide +kernel) ⟨Nat.le_of_ble_eq_true rfl, Nat.le_of_ble_eq_true rfl⟩) hK hP hD hS hA (va_recv hK hP (ci := 1) (q0 := 0) rfl rfl) rfl hl.1 rfl (Nat.le_of_ble_eq_true rfl) dX1_two_122 (fun H locs hP hD hS => ?_)
                refine lv_istore (lv' := [(4, .int r_23.1), (3, .int ((gmrg r_4) (Int32.toNatClampNeg (gmlk r_4)))), (2, .int ((gmtx σ) (Int32.toNatClampNeg ((gmpc σ) + (1 : Int32))))), (0, .ref (q 0)), (1, .int a1)]) hx hb dX1_two_125 hl (by decide) rfl (fun ls hl => ?_)
                refine lv_iload hx hb dX1_two_127 (lv_at hl 0 rfl) ?_
                refine lv_if_le (tgt := 145) hx hb dX1_two_129 (by decide) (fun c_24 => ?_) (fun c_24 => ?_)
                · skip
                  refine lv_aload_n hx hb dX1_two_145 rfl (lv_at hl 3 rfl) ?_
                  refine lv_aload_n hx hb dX1_two_146 rfl (lv_at hl 3 rfl) ?_
                  refine getX1_mgo (v := (gmgo r_23.2)) hx hb hts hin hown hK hP (hts _ (mc wd_309)) dX1_two_147 rfl ?_
                  refine lv_if_eq (tgt := 165) hx hb dX1_two_150 (by decide) (fun c_25 => ?_) (fun c_25 => ?_)
                  · skip
                    refine lv_aload_n hx hb dX1_two_165 rfl (lv_at hl 3 rfl) ?_
                    refine getX1_mpc (v := (gmpc r_23.2)) hx hb hts hin hown hK hP (hts _ (mc wd_304)) dX1_two_166 rfl ?_
                    refine lv_iconst (v := 2) hx hb dX1_two_169 (by decide) ?_
                    refine lv_iadd hx hb dX1_two_170 ?_
                    refine putX1_mpc hx hb hts hin hown hK hP hD hS (hts _ (mc wd_304)) dX1_two_171 (fun H locs hP hD hS => ?_)
                    refine lv_iconst (v := 0) hx hb dX1_two_174 (by decide) ?_
                    exact o_ret hx hb hr hlk hK hP hD hS (by subst hr_4; subst hr_22; subst hr_23; rw [← hF, FM_two, if_pos c_1, if_pos c_2, if_pos c_3, if_neg c_5, if_pos c_15, if_neg c_16, if_pos c_17, if_pos c_24, if_pos c_25]) dX1_two_175
                  · skip
                    refine lv_aload_n hx hb dX1_two_153 rfl (lv_at hl 3 rfl) ?_
                    refine getX1_mgl (v := (gmgl r_23.2)) hx hb hts hin hown hK hP (hts _ (mc wd_310)) dX1_two_154 rfl ?_
                    refine lv_ldc (v := 4194304) hx hb hown (hts _ (mc wd_398)) dX1_two_157 ?_
                    refine lv_isub hx hb dX1_two_159 ?_
                    refine lv_iconst (v := 4) hx hb dX1_two_160 (by decide) ?_
                    refine lv_idiv hx hb dX1_two_161 (by decide) ?_
                    refine lv_goto (tgt := 171) hx hb dX1_two_162 (by decide) ?_
                    refine putX1_mpc hx hb hts hin hown hK hP hD hS (hts _ (mc wd_304)) dX1_two_171 (fun H locs hP hD hS => ?_)
                    refine lv_iconst (v := 0) hx hb dX1_two_174 (by decide) ?_
                    exact o_ret hx hb hr hlk hK hP hD hS (by subst hr_4; subst hr_22; subst hr_23; rw [← hF, FM_two, if_pos c_1, if_pos c_2, if_pos c_3, if_neg c_5, if_pos c_15, if_neg c_16, if_pos c_17, if_pos c_24, if_neg c_25]) dX1_two_175
                · skip
                  refine lv_aload_n hx hb dX1_two_132 rfl (lv_at hl 3 rfl) ?_
                  refine getX1_mrg hx hb hts hin hown hK hP (hts _ (mc wd_303)) dX1_two_133 ?_
                  refine lv_aload_n hx hb dX1_two_136 rfl (lv_at hl 3 rfl) ?_
                  refine getX1_mlk (v := (gmlk r_23.2)) hx hb hts hin hown hK hP (hts _ (mc wd_311)) dX1_two_137 rfl ?_
                  refine lv_iload_n hx hb dX1_two_140 rfl (lv_at hl 1 rfl) ?_
                  refine astX1_mrg (f := (gmrg r_23.2)) hx hb hK hP hD hS (by subst hr_4; subst hr_22; subst hr_23; exact (im_lk2 _ _ _ _ _)) dX1_two_141 rfl (fun H locs hP hD hS => ?_)
                  refine lv_iload hx hb dX1_two_142 (lv_at hl 0 rfl) ?_
                  exact o_ret hx hb hr hlk hK hP hD hS (by subst hr_4; subst hr_22; subst hr_23; rw [← hF, FM_two, if_pos c_1, if_pos c_2, if_pos c_3, if_neg c_5, if_pos c_15, if_neg c_16, if_pos c_17, if_neg c_24]) dX1_two_144
            · skip
              refine lv_bipush (v := 7) hx hb dX1_two_77 (by decide) ?_
              exact o_ret hx hb hr hlk hK hP hD hS (by subst hr_4; rw [← hF, FM_two, if_pos c_1, if_pos c_2, if_pos c_3, if_neg c_5, if_pos c_15, if_pos c_16]) dX1_two_79
      · skip
        refine lv_bipush (v := 8) hx hb dX1_two_42 (by decide) ?_
        exact o_ret hx hb hr hlk hK hP hD hS (by rw [← hF, FM_two, if_pos c_1, if_pos c_2, if_neg c_3]) dX1_two_44
  · skip
    refine lv_bipush (v := 7) hx hb dX1_two_13 (by decide) ?_
    exact o_ret hx hb hr hlk hK hP hD hS (by rw [← hF, FM_two, if_neg c_1]) dX1_two_15
