set_option maxHeartbeats 4000000 in
set_option maxRecDepth 100000 in
theorem kX0_wordAt (l : Launch) (D : va_G) (q : Nat → Nat) (cA : Nat → ClassId) (sz : Nat) (σ : SG) (a1 : Int32) : oMet l D vwCl (wG q cA) (tG cA) (q 0) sz yX0_wordAt wsX0_wordAt { frames := 1, cells := 0, slots := 0, locals := 22 } σ [.int a1] (FG_wordAt σ a1, σ) := by
  refine o_met (cc := cX0_wordAt) (maxL := 2) (ret := some .int) (by decide) rfl (Nat.le_of_ble_eq_true rfl) ?_
  intro p e s m args below meth c A ls hx hb hr hml hts hown hlk hP hK hD hA hS hl
  have hl : lv_has ls 2 [(0, .ref (q 0)), (1, .int a1)] := hl
  have hin : ∀ w ∈ wsX00, w ∈ wsX0_wordAt := fun w h => mc (inX0 w h)
  generalize hF : (FG_wordAt σ a1, σ) = res
  refine lv_iload_n hx hb dX0_wordAt_0 rfl (lv_at hl 1 rfl) ?_
  refine lv_iconst (v := 3) hx hb dX0_wordAt_1 (by decide) ?_
  refine lv_iand hx hb dX0_wordAt_2 ?_
  refine lv_if_ne (tgt := 14) hx hb dX0_wordAt_3 (by decide) (fun c_1 => ?_) (fun c_1 => ?_)
  · skip
    refine lv_iconst (v := -1) hx hb dX0_wordAt_14 (by decide) ?_
    exact o_ret hx hb hr hlk hK hP hD hS (by rw [← hF, FG_wordAt, if_neg c_1]) dX0_wordAt_15
  · skip
    refine lv_aload_n hx hb dX0_wordAt_6 rfl (lv_at hl 0 rfl) ?_
    refine lv_iload_n hx hb dX0_wordAt_7 rfl (lv_at hl 1 rfl) ?_
    refine o_callR (As := [.int a1]) (rest := []) ⟨hx, hb, hml, hown, hts⟩ (kX0_isTextAddress l D q cA _ σ a1) (cwV 1 hts (gV wd_164 wd_166 wd_5 wd_38 wd_167) rfl rfl rfl (by decide +kernel) ⟨Nat.le_of_ble_eq_true rfl, Nat.le_of_ble_eq_true rfl⟩) hK hP hD hS hA (va_recv hK hP (ci := 0) (q0 := 0) rfl rfl) rfl hl.1 rfl (Nat.le_of_ble_eq_true rfl) dX0_wordAt_8 (fun H locs hP hD hS => ?_)
    refine lv_if_ne (tgt := 16) hx hb dX0_wordAt_11 (by decide) (fun c_2 => ?_) (fun c_2 => ?_)
    · skip
      refine lv_iload_n hx hb dX0_wordAt_16 rfl (lv_at hl 1 rfl) ?_
      refine lv_ldc (v := 4194304) hx hb hown (hts _ (mc wd_168)) dX0_wordAt_17 ?_
      refine lv_isub hx hb dX0_wordAt_19 ?_
      refine lv_iconst (v := 2) hx hb dX0_wordAt_20 (by decide) ?_
      refine lv_ishr hx hb dX0_wordAt_21 ?_
      exact o_ret hx hb hr hlk hK hP hD hS (by rw [← hF, FG_wordAt, if_pos c_1, if_neg c_2]) dX0_wordAt_22
    · skip
      refine lv_iconst (v := -1) hx hb dX0_wordAt_14 (by decide) ?_
      exact o_ret hx hb hr hlk hK hP hD hS (by rw [← hF, FG_wordAt, if_pos c_1, if_pos c_2]) dX0_wordAt_15
set_option maxHeartbeats 4000000 in
set_option maxRecDepth 100000 in
theorem kX0_addressOf (l : Launch) (a1 : Int32) : sMet l yX0_addressOf wsX0_addressOf { frames := 0, cells := 0, slots := 0, locals := 0 } [.int a1] (FG_addressOf a1) := by
  refine s_met (cc := cX0_addressOf) (maxL := 1) (ret := some .int) (by decide) rfl (Nat.le_of_ble_eq_true rfl) ?_
  intro p e s m args below meth c ls hx hb hr hml hts hown hlk hS hl
  have hl : lv_has ls 1 [(0, .int a1)] := hl
  generalize hF : FG_addressOf a1 = res
  refine lv_ldc (v := 4194304) hx hb hown (hts _ (mc wd_168)) dX0_addressOf_0 ?_
  refine lv_iconst (v := 4) hx hb dX0_addressOf_2 (by decide) ?_
  refine lv_iload_n hx hb dX0_addressOf_3 rfl (lv_at hl 0 rfl) ?_
  refine lv_imul hx hb dX0_addressOf_4 ?_
  refine lv_iadd hx hb dX0_addressOf_5 ?_
  exact s_ret hx hb hr hlk hS (by rw [← hF, FG_addressOf]) dX0_addressOf_6
set_option maxHeartbeats 4000000 in
set_option maxRecDepth 100000 in
theorem kX0_signedImmediate (l : Launch) (a1 : Int32) : sMet l yX0_signedImmediate wsX0_signedImmediate { frames := 0, cells := 0, slots := 0, locals := 0 } [.int a1] (FG_signedImmediate a1) := by
  refine s_met (cc := cX0_signedImmediate) (maxL := 1) (ret := some .int) (by decide) rfl (Nat.le_of_ble_eq_true rfl) ?_
  intro p e s m args below meth c ls hx hb hr hml hts hown hlk hS hl
  have hl : lv_has ls 1 [(0, .int a1)] := hl
  generalize hF : FG_signedImmediate a1 = res
  refine lv_iload_n hx hb dX0_signedImmediate_0 rfl (lv_at hl 0 rfl) ?_
  refine lv_bipush (v := 16) hx hb dX0_signedImmediate_1 (by decide) ?_
  refine lv_ishl hx hb dX0_signedImmediate_3 ?_
  refine lv_bipush (v := 16) hx hb dX0_signedImmediate_4 (by decide) ?_
  refine lv_ishr hx hb dX0_signedImmediate_6 ?_
  exact s_ret hx hb hr hlk hS (by rw [← hF, FG_signedImmediate]) dX0_signedImmediate_7
set_option maxHeartbeats 4000000 in
set_option maxRecDepth 100000 in
theorem kX0_aimOf (l : Launch) (D : va_G) (q : Nat → Nat) (cA : Nat → ClassId) (sz : Nat) (σ : SG) (a1 : Int32) : oMet l D vwCl (wG q cA) (tG cA) (q 0) sz yX0_aimOf wsX0_aimOf { frames := 2, cells := 0, slots := 0, locals := 43 } σ [.int a1] (FG_aimOf σ a1, σ) := by
  refine o_met (cc := cX0_aimOf) (maxL := 3) (ret := some .int) (by decide) rfl (Nat.le_of_ble_eq_true rfl) ?_
  intro p e s m args below meth c A ls hx hb hr hml hts hown hlk hP hK hD hA hS hl
  have hl : lv_has ls 3 [(0, .ref (q 0)), (1, .int a1)] := hl
  have hin : ∀ w ∈ wsX00, w ∈ wsX0_aimOf := fun w h => mc (inX0 w h)
  generalize hF : (FG_aimOf σ a1, σ) = res
  refine lv_aload_n hx hb dX0_aimOf_0 rfl (lv_at hl 0 rfl) ?_
  refine getX0_pc (v := (gpc σ)) hx hb hts hin hown hK hP (hts _ (mc wd_60)) dX0_aimOf_1 rfl ?_
  refine lv_iconst (v := 1) hx hb dX0_aimOf_4 (by decide) ?_
  refine lv_iadd hx hb dX0_aimOf_5 ?_
  refine lv_istore_n (lv' := [(2, .int ((gpc σ) + (1 : Int32))), (0, .ref (q 0)), (1, .int a1)]) hx hb dX0_aimOf_6 rfl hl (by decide) rfl (fun ls hl => ?_)
  refine lv_iload_n hx hb dX0_aimOf_7 rfl (lv_at hl 2 rfl) ?_
  refine s_call (As := [.int a1]) (rest := []) ⟨hx, hb, hml, hown, hts⟩ (kX0_opOf l a1) (cwS 1 hts (gS wd_133 wd_134 wd_38 wd_135) rfl rfl rfl (by decide +kernel) ⟨Nat.le_of_ble_eq_true rfl, Nat.le_of_ble_eq_true rfl⟩) hP hS rfl hl.1 rfl (Nat.le_of_ble_eq_true rfl) dX0_aimOf_8 (fun H locs hP hS => ?_)
  by_cases c_1 : (FG_opOf a1) = (0 : Int32)
  · skip
    refine lv_tableIn (tgt := 40) hx hb dX0_aimOf_11 (by rw [c_1]; decide) (by rw [c_1]; decide) (by rw [c_1]; rfl) (by decide) ?_
    refine lv_aload_n hx hb dX0_aimOf_40 rfl (lv_at hl 1 rfl) ?_
    refine lv_aload_n hx hb dX0_aimOf_41 rfl (lv_at hl 1 rfl) ?_
    refine getX0_rg hx hb hts hin hown hK hP (hts _ (mc wd_53)) dX0_aimOf_42 ?_
    refine lv_iload_n hx hb dX0_aimOf_45 rfl (lv_at hl 2 rfl) ?_
    refine s_call (As := [.int a1]) (rest := [.ref (q 3), .ref (q 0)]) ⟨hx, hb, hml, hown, hts⟩ (kX0_sOf l a1) (cwS 1 hts (gS wd_153 wd_154 wd_38 wd_155) rfl rfl rfl (by decide +kernel) ⟨Nat.le_of_ble_eq_true rfl, Nat.le_of_ble_eq_true rfl⟩) hP hS rfl hl.1 rfl (Nat.le_of_ble_eq_true rfl) dX0_aimOf_46 (fun H locs hP hS => ?_)
    refine aldX0_rg (f := (grg σ)) hx hb hK hP (in_sOf _) dX0_aimOf_49 rfl ?_
    refine o_callR (As := [.int ((grg σ) (Int32.toNatClampNeg (FG_sOf a1)))]) (rest := []) ⟨hx, hb, hml, hown, hts⟩ (kX0_wordAt l D q cA _ σ ((grg σ) (Int32.toNatClampNeg (FG_sOf a1)))) (cwV 1 hts (gV wd_160 wd_162 wd_4 wd_38 wd_163) rfl rfl rfl (by decide +kernel) ⟨Nat.le_of_ble_eq_true rfl, Nat.le_of_ble_eq_true rfl⟩) hK hP hD hS hA (va_recv hK hP (ci := 0) (q0 := 0) rfl rfl) rfl hl.1 rfl (Nat.le_of_ble_eq_true rfl) dX0_aimOf_50 (fun H locs hP hD hS => ?_)
    exact o_ret hx hb hr hlk hK hP hD hS (by rw [← hF, FG_aimOf, if_pos c_1]) dX0_aimOf_53
  · skip
    by_cases c_2 : (FG_opOf a1) = (1 : Int32)
    · skip
      refine lv_tableIn (tgt := 73) hx hb dX0_aimOf_11 (by rw [c_2]; decide) (by rw [c_2]; decide) (by rw [c_2]; rfl) (by decide) ?_
      refine lv_iload_n hx hb dX0_aimOf_73 rfl (lv_at hl 0 rfl) ?_
      refine lv_iload_n hx hb dX0_aimOf_74 rfl (lv_at hl 2 rfl) ?_
      refine s_call (As := [.int a1]) (rest := [.int ((gpc σ) + (1 : Int32))]) ⟨hx, hb, hml, hown, hts⟩ (kX0_signedImmediate l a1) (cwS 1 hts (gS wd_174 wd_175 wd_38 wd_176) rfl rfl rfl (by decide +kernel) ⟨Nat.le_of_ble_eq_true rfl, Nat.le_of_ble_eq_true rfl⟩) hP hS rfl hl.1 rfl (Nat.le_of_ble_eq_true rfl) dX0_aimOf_75 (fun H locs hP hS => ?_)
      refine lv_iadd hx hb dX0_aimOf_78 ?_
      exact o_ret hx hb hr hlk hK hP hD hS (by rw [← hF, FG_aimOf, if_neg c_1, if_pos c_2]) dX0_aimOf_79
    · skip
      by_cases c_3 : (FG_opOf a1) = (2 : Int32)
      · skip
        refine lv_tableIn (tgt := 54) hx hb dX0_aimOf_11 (by rw [c_3]; decide) (by rw [c_3]; decide) (by rw [c_3]; rfl) (by decide) ?_
        refine lv_aload_n hx hb dX0_aimOf_54 rfl (lv_at hl 1 rfl) ?_
        refine lv_iload_n hx hb dX0_aimOf_55 rfl (lv_at hl 0 rfl) ?_
        refine s_call (As := [.int ((gpc σ) + (1 : Int32))]) (rest := [.ref (q 0)]) ⟨hx, hb, hml, hown, hts⟩ (kX0_addressOf l ((gpc σ) + (1 : Int32))) (cwS 1 hts (gS wd_169 wd_170 wd_38 wd_171) rfl rfl rfl (by decide +kernel) ⟨Nat.le_of_ble_eq_true rfl, Nat.le_of_ble_eq_true rfl⟩) hP hS rfl hl.1 rfl (Nat.le_of_ble_eq_true rfl) dX0_aimOf_56 (fun H locs hP hS => ?_)
        refine lv_ldc (v := -268435456) hx hb hown (hts _ (mc wd_172)) dX0_aimOf_59 ?_
        refine lv_iand hx hb dX0_aimOf_61 ?_
        refine lv_iload_n hx hb dX0_aimOf_62 rfl (lv_at hl 2 rfl) ?_
        refine lv_ldc (v := 67108863) hx hb hown (hts _ (mc wd_173)) dX0_aimOf_63 ?_
        refine lv_iand hx hb dX0_aimOf_65 ?_
        refine lv_iconst (v := 2) hx hb dX0_aimOf_66 (by decide) ?_
        refine lv_ishl hx hb dX0_aimOf_67 ?_
        refine lv_ior hx hb dX0_aimOf_68 ?_
        refine o_callR (As := [.int (((FG_addressOf ((gpc σ) + (1 : Int32))) &&& (-268435456 : Int32)) ||| ((a1 &&& (67108863 : Int32)) <<< ((2 : Int32) &&& 31)))]) (rest := []) ⟨hx, hb, hml, hown, hts⟩ (kX0_wordAt l D q cA _ σ (((FG_addressOf ((gpc σ) + (1 : Int32))) &&& (-268435456 : Int32)) ||| ((a1 &&& (67108863 : Int32)) <<< ((2 : Int32) &&& 31)))) (cwV 1 hts (gV wd_160 wd_162 wd_4 wd_38 wd_163) rfl rfl rfl (by decide +kernel) ⟨Nat.le_of_ble_eq_true rfl, Nat.le_of_ble_eq_true rfl⟩) hK hP hD hS hA (va_recv hK hP (ci := 0) (q0 := 0) rfl rfl) rfl hl.1 rfl (Nat.le_of_ble_eq_true rfl) dX0_aimOf_69 (fun H locs hP hD hS => ?_)
        exact o_ret hx hb hr hlk hK hP hD hS (by rw [← hF, FG_aimOf, if_neg c_1, if_neg c_2, if_pos c_3]) dX0_aimOf_72
      · skip
        by_cases c_4 : (FG_opOf a1) = (3 : Int32)
        · skip
          refine lv_tableIn (tgt := 54) hx hb dX0_aimOf_11 (by rw [c_4]; decide) (by rw [c_4]; decide) (by rw [c_4]; rfl) (by decide) ?_
          refine lv_aload_n hx hb dX0_aimOf_54 rfl (lv_at hl 1 rfl) ?_
          refine lv_iload_n hx hb dX0_aimOf_55 rfl (lv_at hl 0 rfl) ?_
          refine s_call (As := [.int ((gpc σ) + (1 : Int32))]) (rest := [.ref (q 0)]) ⟨hx, hb, hml, hown, hts⟩ (kX0_addressOf l ((gpc σ) + (1 : Int32))) (cwS 1 hts (gS wd_169 wd_170 wd_38 wd_171) rfl rfl rfl (by decide +kernel) ⟨Nat.le_of_ble_eq_true rfl, Nat.le_of_ble_eq_true rfl⟩) hP hS rfl hl.1 rfl (Nat.le_of_ble_eq_true rfl) dX0_aimOf_56 (fun H locs hP hS => ?_)
          refine lv_ldc (v := -268435456) hx hb hown (hts _ (mc wd_172)) dX0_aimOf_59 ?_
          refine lv_iand hx hb dX0_aimOf_61 ?_
          refine lv_iload_n hx hb dX0_aimOf_62 rfl (lv_at hl 2 rfl) ?_
          refine lv_ldc (v := 67108863) hx hb hown (hts _ (mc wd_173)) dX0_aimOf_63 ?_
          refine lv_iand hx hb dX0_aimOf_65 ?_
          refine lv_iconst (v := 2) hx hb dX0_aimOf_66 (by decide) ?_
          refine lv_ishl hx hb dX0_aimOf_67 ?_
          refine lv_ior hx hb dX0_aimOf_68 ?_
          refine o_callR (As := [.int (((FG_addressOf ((gpc σ) + (1 : Int32))) &&& (-268435456 : Int32)) ||| ((a1 &&& (67108863 : Int32)) <<< ((2 : Int32) &&& 31)))]) (rest := []) ⟨hx, hb, hml, hown, hts⟩ (kX0_wordAt l D q cA _ σ (((FG_addressOf ((gpc σ) + (1 : Int32))) &&& (-268435456 : Int32)) ||| ((a1 &&& (67108863 : Int32)) <<< ((2 : Int32) &&& 31)))) (cwV 1 hts (gV wd_160 wd_162 wd_4 wd_38 wd_163) rfl rfl rfl (by decide +kernel) ⟨Nat.le_of_ble_eq_true rfl, Nat.le_of_ble_eq_true rfl⟩) hK hP hD hS hA (va_recv hK hP (ci := 0) (q0 := 0) rfl rfl) rfl hl.1 rfl (Nat.le_of_ble_eq_true rfl) dX0_aimOf_69 (fun H locs hP hD hS => ?_)
          exact o_ret hx hb hr hlk hK hP hD hS (by rw [← hF, FG_aimOf, if_neg c_1, if_neg c_2, if_neg c_3, if_pos c_4]) dX0_aimOf_72
        · skip
          refine lv_tableOut (tgt := 73) hx hb dX0_aimOf_11 (by have h0 := lv_neT (a := 0) c_1 (by decide); have h1 := lv_neT (a := 1) c_2 (by decide); have h2 := lv_neT (a := 2) c_3 (by decide); have h3 := lv_neT (a := 3) c_4 (by decide); omega) (by decide) ?_
          refine lv_iload_n hx hb dX0_aimOf_73 rfl (lv_at hl 0 rfl) ?_
          refine lv_iload_n hx hb dX0_aimOf_74 rfl (lv_at hl 2 rfl) ?_
          refine s_call (As := [.int a1]) (rest := [.int ((gpc σ) + (1 : Int32))]) ⟨hx, hb, hml, hown, hts⟩ (kX0_signedImmediate l a1) (cwS 1 hts (gS wd_174 wd_175 wd_38 wd_176) rfl rfl rfl (by decide +kernel) ⟨Nat.le_of_ble_eq_true rfl, Nat.le_of_ble_eq_true rfl⟩) hP hS rfl hl.1 rfl (Nat.le_of_ble_eq_true rfl) dX0_aimOf_75 (fun H locs hP hS => ?_)
          refine lv_iadd hx hb dX0_aimOf_78 ?_
          exact o_ret hx hb hr hlk hK hP hD hS (by rw [← hF, FG_aimOf, if_neg c_1, if_neg c_2, if_neg c_3, if_neg c_4]) dX0_aimOf_79
set_option maxHeartbeats 4000000 in
set_option maxRecDepth 100000 in
theorem kX0_dOf (l : Launch) (a1 : Int32) : sMet l yX0_dOf wsX0_dOf { frames := 0, cells := 0, slots := 0, locals := 0 } [.int a1] (FG_dOf a1) := by
  refine s_met (cc := cX0_dOf) (maxL := 1) (ret := some .int) (by decide) rfl (Nat.le_of_ble_eq_true rfl) ?_
  intro p e s m args below meth c ls hx hb hr hml hts hown hlk hS hl
  have hl : lv_has ls 1 [(0, .int a1)] := hl
  generalize hF : FG_dOf a1 = res
  refine lv_iload_n hx hb dX0_dOf_0 rfl (lv_at hl 0 rfl) ?_
  refine lv_bipush (v := 11) hx hb dX0_dOf_1 (by decide) ?_
  refine lv_iushr (v := (jushr a1 (11 : Int32))) hx hb dX0_dOf_3 rfl ?_
  refine lv_bipush (v := 31) hx hb dX0_dOf_4 (by decide) ?_
  refine lv_iand hx hb dX0_dOf_6 ?_
  exact s_ret hx hb hr hlk hS (by rw [← hF, FG_dOf]) dX0_dOf_7
set_option maxHeartbeats 4000000 in
set_option maxRecDepth 100000 in
theorem kX0_linkRegisterOf (l : Launch) (a1 : Int32) : sMet l yX0_linkRegisterOf wsX0_linkRegisterOf { frames := 1, cells := 0, slots := 0, locals := 20 } [.int a1] (FG_linkRegisterOf a1) := by
  refine s_met (cc := cX0_linkRegisterOf) (maxL := 1) (ret := some .int) (by decide) rfl (Nat.le_of_ble_eq_true rfl) ?_
  intro p e s m args below meth c ls hx hb hr hml hts hown hlk hS hl
  have hl : lv_has ls 1 [(0, .int a1)] := hl
  generalize hF : FG_linkRegisterOf a1 = res
  refine lv_iload_n hx hb dX0_linkRegisterOf_0 rfl (lv_at hl 0 rfl) ?_
  refine s_call0 (As := [.int a1]) (rest := []) ⟨hx, hb, hml, hown, hts⟩ (kX0_opOf l a1) (cwS 1 hts (gS wd_133 wd_134 wd_38 wd_135) rfl rfl rfl (by decide +kernel) ⟨Nat.le_of_ble_eq_true rfl, Nat.le_of_ble_eq_true rfl⟩) hS rfl hl.1 rfl (Nat.le_of_ble_eq_true rfl) dX0_linkRegisterOf_1 (fun H locs hS => ?_)
  by_cases c_1 : (FG_opOf a1) = (0 : Int32)
  · skip
    refine lv_tableIn (tgt := 36) hx hb dX0_linkRegisterOf_4 (by rw [c_1]; decide) (by rw [c_1]; decide) (by rw [c_1]; rfl) (by decide) ?_
    refine lv_iload_n hx hb dX0_linkRegisterOf_36 rfl (lv_at hl 0 rfl) ?_
    refine s_call0 (As := [.int a1]) (rest := []) ⟨hx, hb, hml, hown, hts⟩ (kX0_fOf l a1) (cwS 1 hts (gS wd_136 wd_137 wd_38 wd_138) rfl rfl rfl (by decide +kernel) ⟨Nat.le_of_ble_eq_true rfl, Nat.le_of_ble_eq_true rfl⟩) hS rfl hl.1 rfl (Nat.le_of_ble_eq_true rfl) dX0_linkRegisterOf_37 (fun H locs hS => ?_)
    refine lv_bipush (v := 9) hx hb dX0_linkRegisterOf_40 (by decide) ?_
    refine lv_icmp_ne (tgt := 52) hx hb dX0_linkRegisterOf_42 (by decide) (fun c_2 => ?_) (fun c_2 => ?_)
    · skip
      refine lv_iconst (v := 0) hx hb dX0_linkRegisterOf_52 (by decide) ?_
      exact s_ret hx hb hr hlk hS (by rw [← hF, FG_linkRegisterOf, if_pos c_1, if_neg c_2]) dX0_linkRegisterOf_53
    · skip
      refine lv_iload_n hx hb dX0_linkRegisterOf_45 rfl (lv_at hl 0 rfl) ?_
      refine s_call0 (As := [.int a1]) (rest := []) ⟨hx, hb, hml, hown, hts⟩ (kX0_dOf l a1) (cwS 1 hts (gS wd_180 wd_181 wd_38 wd_182) rfl rfl rfl (by decide +kernel) ⟨Nat.le_of_ble_eq_true rfl, Nat.le_of_ble_eq_true rfl⟩) hS rfl hl.1 rfl (Nat.le_of_ble_eq_true rfl) dX0_linkRegisterOf_46 (fun H locs hS => ?_)
      refine lv_goto (tgt := 53) hx hb dX0_linkRegisterOf_49 (by decide) ?_
      exact s_ret hx hb hr hlk hS (by rw [← hF, FG_linkRegisterOf, if_pos c_1, if_pos c_2]) dX0_linkRegisterOf_53
  · skip
    by_cases c_3 : (FG_opOf a1) = (1 : Int32)
    · skip
      refine lv_tableIn (tgt := 54) hx hb dX0_linkRegisterOf_4 (by rw [c_3]; decide) (by rw [c_3]; decide) (by rw [c_3]; rfl) (by decide) ?_
      refine lv_iload_n hx hb dX0_linkRegisterOf_54 rfl (lv_at hl 0 rfl) ?_
      refine s_call0 (As := [.int a1]) (rest := []) ⟨hx, hb, hml, hown, hts⟩ (kX0_tOf l a1) (cwS 1 hts (gS wd_139 wd_140 wd_38 wd_141) rfl rfl rfl (by decide +kernel) ⟨Nat.le_of_ble_eq_true rfl, Nat.le_of_ble_eq_true rfl⟩) hS rfl hl.1 rfl (Nat.le_of_ble_eq_true rfl) dX0_linkRegisterOf_55 (fun H locs hS => ?_)
      refine lv_bipush (v := 16) hx hb dX0_linkRegisterOf_58 (by decide) ?_
      refine lv_icmp_lt (tgt := 68) hx hb dX0_linkRegisterOf_60 (by decide) (fun c_4 => ?_) (fun c_4 => ?_)
      · skip
        refine lv_iconst (v := 0) hx hb dX0_linkRegisterOf_68 (by decide) ?_
        exact s_ret hx hb hr hlk hS (by rw [← hF, FG_linkRegisterOf, if_neg c_1, if_pos c_3, if_pos c_4]) dX0_linkRegisterOf_69
      · skip
        refine lv_bipush (v := 31) hx hb dX0_linkRegisterOf_63 (by decide) ?_
        refine lv_goto (tgt := 69) hx hb dX0_linkRegisterOf_65 (by decide) ?_
        exact s_ret hx hb hr hlk hS (by rw [← hF, FG_linkRegisterOf, if_neg c_1, if_pos c_3, if_neg c_4]) dX0_linkRegisterOf_69
    · skip
      by_cases c_5 : (FG_opOf a1) = (2 : Int32)
      · skip
        refine lv_tableIn (tgt := 73) hx hb dX0_linkRegisterOf_4 (by rw [c_5]; decide) (by rw [c_5]; decide) (by rw [c_5]; rfl) (by decide) ?_
        refine lv_iconst (v := 0) hx hb dX0_linkRegisterOf_73 (by decide) ?_
        exact s_ret hx hb hr hlk hS (by rw [← hF, FG_linkRegisterOf, if_neg c_1, if_neg c_3, if_pos c_5]) dX0_linkRegisterOf_74
      · skip
        by_cases c_6 : (FG_opOf a1) = (3 : Int32)
        · skip
          refine lv_tableIn (tgt := 70) hx hb dX0_linkRegisterOf_4 (by rw [c_6]; decide) (by rw [c_6]; decide) (by rw [c_6]; rfl) (by decide) ?_
          refine lv_bipush (v := 31) hx hb dX0_linkRegisterOf_70 (by decide) ?_
          exact s_ret hx hb hr hlk hS (by rw [← hF, FG_linkRegisterOf, if_neg c_1, if_neg c_3, if_neg c_5, if_pos c_6]) dX0_linkRegisterOf_72
        · skip
          refine lv_tableOut (tgt := 73) hx hb dX0_linkRegisterOf_4 (by have h0 := lv_neT (a := 0) c_1 (by decide); have h1 := lv_neT (a := 1) c_3 (by decide); have h2 := lv_neT (a := 2) c_5 (by decide); have h3 := lv_neT (a := 3) c_6 (by decide); omega) (by decide) ?_
          refine lv_iconst (v := 0) hx hb dX0_linkRegisterOf_73 (by decide) ?_
          exact s_ret hx hb hr hlk hS (by rw [← hF, FG_linkRegisterOf, if_neg c_1, if_neg c_3, if_neg c_5, if_neg c_6]) dX0_linkRegisterOf_74
set_option maxHeartbeats 4000000 in
set_option maxRecDepth 100000 in
theorem kX0_put (l : Launch) (D : va_G) (q : Nat → Nat) (cA : Nat → ClassId) (sz : Nat) (σ : SG) (a1 : Int32) (a2 : Int32) : oMet l D vwCl (wG q cA) (tG cA) (q 0) sz yX0_put wsX0_put { frames := 0, cells := 0, slots := 0, locals := 0 } σ [.int a1, .int a2] (FG_put σ a1 a2) := by
  refine o_met (cc := cX0_put) (maxL := 3) (ret := some .int) (by decide) rfl (Nat.le_of_ble_eq_true rfl) ?_
  intro p e s m args below meth c A ls hx hb hr hml hts hown hlk hP hK hD hA hS hl
  have hl : lv_has ls 3 [(0, .ref (q 0)), (1, .int a1), (2, .int a2)] := hl
  have hin : ∀ w ∈ wsX00, w ∈ wsX0_put := fun w h => mc (inX0 w h)
  generalize hF : FG_put σ a1 a2 = res
  refine lv_iload_n hx hb dX0_put_0 rfl (lv_at hl 1 rfl) ?_
  refine lv_if_le (tgt := 17) hx hb dX0_put_1 (by decide) (fun c_1 => ?_) (fun c_1 => ?_)
  · skip
    refine lv_iconst (v := 0) hx hb dX0_put_17 (by decide) ?_
    exact o_ret hx hb hr hlk hK hP hD hS (by rw [← hF, FG_put, if_pos c_1]) dX0_put_18
  · skip
    refine lv_iload_n hx hb dX0_put_4 rfl (lv_at hl 1 rfl) ?_
    refine lv_bipush (v := 34) hx hb dX0_put_5 (by decide) ?_
    refine lv_icmp_ge (tgt := 17) hx hb dX0_put_7 (by decide) (fun c_2 => ?_) (fun c_2 => ?_)
    · skip
      refine lv_iconst (v := 0) hx hb dX0_put_17 (by decide) ?_
      exact o_ret hx hb hr hlk hK hP hD hS (by rw [← hF, FG_put, if_neg c_1, if_pos c_2]) dX0_put_18
    · skip
      refine lv_aload_n hx hb dX0_put_10 rfl (lv_at hl 0 rfl) ?_
      refine getX0_rg hx hb hts hin hown hK hP (hts _ (mc wd_53)) dX0_put_11 ?_
      refine lv_iload_n hx hb dX0_put_14 rfl (lv_at hl 1 rfl) ?_
      refine lv_iload_n hx hb dX0_put_15 rfl (lv_at hl 2 rfl) ?_
      refine astX0_rg (f := (grg σ)) hx hb hK hP hD hS (in_gt0lt c_1 (k2_lt c_2) (by decide)) dX0_put_16 rfl (fun H locs hP hD hS => ?_)
      refine lv_iconst (v := 0) hx hb dX0_put_17 (by decide) ?_
      exact o_ret hx hb hr hlk hK hP hD hS (by rw [← hF, FG_put, if_neg c_1, if_neg c_2]) dX0_put_18
set_option maxHeartbeats 4000000 in
set_option maxRecDepth 100000 in
theorem kX0_hOf (l : Launch) (a1 : Int32) : sMet l yX0_hOf wsX0_hOf { frames := 0, cells := 0, slots := 0, locals := 0 } [.int a1] (FG_hOf a1) := by
  refine s_met (cc := cX0_hOf) (maxL := 1) (ret := some .int) (by decide) rfl (Nat.le_of_ble_eq_true rfl) ?_
  intro p e s m args below meth c ls hx hb hr hml hts hown hlk hS hl
  have hl : lv_has ls 1 [(0, .int a1)] := hl
  generalize hF : FG_hOf a1 = res
  refine lv_iload_n hx hb dX0_hOf_0 rfl (lv_at hl 0 rfl) ?_
  refine lv_bipush (v := 6) hx hb dX0_hOf_1 (by decide) ?_
  refine lv_iushr (v := (jushr a1 (6 : Int32))) hx hb dX0_hOf_3 rfl ?_
  refine lv_bipush (v := 31) hx hb dX0_hOf_4 (by decide) ?_
  refine lv_iand hx hb dX0_hOf_6 ?_
  exact s_ret hx hb hr hlk hS (by rw [← hF, FG_hOf]) dX0_hOf_7
