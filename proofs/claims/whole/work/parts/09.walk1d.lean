set_option maxHeartbeats 4000000 in
set_option maxRecDepth 100000 in
theorem kX1_system (l : Launch) (D : va_G) (q : Nat → Nat) (cA : Nat → ClassId) (sz : Nat) (σ : SM) (hI : IM σ) : oMet l D vwCl (wM q cA) (tM cA) (q 0) sz yX1_system wsX1_system { frames := 0, cells := 0, slots := 0, locals := 0 } σ [] (FM_system σ) := by
  refine o_met (cc := cX1_system) (maxL := 1) (ret := some .int) (by decide) rfl (Nat.le_of_ble_eq_true rfl) ?_
  intro p e s m args below meth c A ls hx hb hr hml hts hown hlk hP hK hD hA hS hl
  have hl : lv_has ls 1 [(0, .ref (q 0))] := hl
  have hin : ∀ w ∈ wsX10, w ∈ wsX1_system := fun w h => mc (inX1 w h)
  generalize hF : FM_system σ = res
  refine lv_aload_n hx hb dX1_system_0 rfl (lv_at hl 0 rfl) ?_
  refine getX1_mrg hx hb hts hin hown hK hP (hts _ (mc wd_303)) dX1_system_1 ?_
  refine lv_iconst (v := 2) hx hb dX1_system_4 (by decide) ?_
  refine aldX1_mrg (f := (gmrg σ)) hx hb hK hP (in_c (by decide)) dX1_system_5 rfl ?_
  by_cases c_1 : ((gmrg σ) (Int32.toNatClampNeg (2 : Int32))) = (1 : Int32)
  · skip
    refine lv_tableIn (tgt := 32) hx hb dX1_system_6 (by rw [c_1]; decide) (by rw [c_1]; decide) (by rw [c_1]; rfl) (by decide) ?_
    refine lv_aload_n hx hb dX1_system_32 rfl (lv_at hl 0 rfl) ?_
    refine getX1_mrg hx hb hts hin hown hK hP (hts _ (mc wd_303)) dX1_system_33 ?_
    refine lv_iconst (v := 2) hx hb dX1_system_36 (by decide) ?_
    refine lv_aload_n hx hb dX1_system_37 rfl (lv_at hl 0 rfl) ?_
    refine getX1_mia (v := (gmia σ)) hx hb hts hin hown hK hP (hts _ (mc wd_300)) dX1_system_38 rfl ?_
    refine lv_aload_n hx hb dX1_system_41 rfl (lv_at hl 0 rfl) ?_
    refine getX1_mis (v := (gmis σ)) hx hb hts hin hown hK hP (hts _ (mc wd_299)) dX1_system_42 rfl ?_
    refine lv_icmp_ge (tgt := 60) hx hb dX1_system_45 (by decide) (fun c_2 => ?_) (fun c_2 => ?_)
    · skip
      refine lv_iconst (v := -1) hx hb dX1_system_60 (by decide) ?_
      refine astX1_mrg (f := (gmrg σ)) hx hb hK hP hD hS (in_c (by decide)) dX1_system_61 rfl (fun H locs hP hD hS => ?_)
      refine lv_aload_n hx hb dX1_system_62 rfl (lv_at hl 0 rfl) ?_
      refine lv_dup hx hb dX1_system_63 rfl ?_
      refine getX1_mia (v := (gmia σ)) hx hb hts hin hown hK hP (hts _ (mc wd_300)) dX1_system_64 rfl ?_
      refine lv_aload_n hx hb dX1_system_67 rfl (lv_at hl 0 rfl) ?_
      refine getX1_mia (v := (gmia σ)) hx hb hts hin hown hK hP (hts _ (mc wd_300)) dX1_system_68 rfl ?_
      refine lv_aload_n hx hb dX1_system_71 rfl (lv_at hl 0 rfl) ?_
      refine getX1_mis (v := (gmis σ)) hx hb hts hin hown hK hP (hts _ (mc wd_299)) dX1_system_72 rfl ?_
      refine lv_icmp_ge (tgt := 82) hx hb dX1_system_75 (by decide) (fun _ => ?_) (fun c0 => absurd c_2 c0)
      refine lv_iconst (v := 0) hx hb dX1_system_82 (by decide) ?_
      refine lv_iadd hx hb dX1_system_83 ?_
      refine putX1_mia hx hb hts hin hown hK hP hD hS (hts _ (mc wd_300)) dX1_system_84 (fun H locs hP hD hS => ?_)
      refine lv_iconst (v := 0) hx hb dX1_system_87 (by decide) ?_
      exact o_ret hx hb hr hlk hK hP hD hS (by rw [← hF, FM_system, if_pos c_1, if_pos c_2]) dX1_system_88
    · skip
      refine lv_aload_n hx hb dX1_system_48 rfl (lv_at hl 0 rfl) ?_
      refine getX1_min hx hb hts hin hown hK hP (hts _ (mc wd_298)) dX1_system_49 ?_
      refine lv_aload_n hx hb dX1_system_52 rfl (lv_at hl 0 rfl) ?_
      refine getX1_mia (v := (gmia σ)) hx hb hts hin hown hK hP (hts _ (mc wd_300)) dX1_system_53 rfl ?_
      refine aldX1_min (f := (gmin σ)) hx hb hK hP (in_ge0lt hI.2.2.2.1 (k2_lt c_2) hI.2.2.1.2) dX1_system_56 rfl ?_
      refine lv_goto (tgt := 61) hx hb dX1_system_57 (by decide) ?_
      refine astX1_mrg (f := (gmrg σ)) hx hb hK hP hD hS (in_c (by decide)) dX1_system_61 rfl (fun H locs hP hD hS => ?_)
      refine lv_aload_n hx hb dX1_system_62 rfl (lv_at hl 0 rfl) ?_
      refine lv_dup hx hb dX1_system_63 rfl ?_
      refine getX1_mia (v := (gmia σ)) hx hb hts hin hown hK hP (hts _ (mc wd_300)) dX1_system_64 rfl ?_
      refine lv_aload_n hx hb dX1_system_67 rfl (lv_at hl 0 rfl) ?_
      refine getX1_mia (v := (gmia σ)) hx hb hts hin hown hK hP (hts _ (mc wd_300)) dX1_system_68 rfl ?_
      refine lv_aload_n hx hb dX1_system_71 rfl (lv_at hl 0 rfl) ?_
      refine getX1_mis (v := (gmis σ)) hx hb hts hin hown hK hP (hts _ (mc wd_299)) dX1_system_72 rfl ?_
      refine lv_icmp_ge (tgt := 82) hx hb dX1_system_75 (by decide) (fun c0 => absurd c0 c_2) (fun _ => ?_)
      refine lv_iconst (v := 1) hx hb dX1_system_78 (by decide) ?_
      refine lv_goto (tgt := 83) hx hb dX1_system_79 (by decide) ?_
      refine lv_iadd hx hb dX1_system_83 ?_
      refine putX1_mia hx hb hts hin hown hK hP hD hS (hts _ (mc wd_300)) dX1_system_84 (fun H locs hP hD hS => ?_)
      refine lv_iconst (v := 0) hx hb dX1_system_87 (by decide) ?_
      exact o_ret hx hb hr hlk hK hP hD hS (by rw [← hF, FM_system, if_pos c_1, if_neg c_2]) dX1_system_88
  · skip
    by_cases c_3 : ((gmrg σ) (Int32.toNatClampNeg (2 : Int32))) = (2 : Int32)
    · skip
      refine lv_tableIn (tgt := 89) hx hb dX1_system_6 (by rw [c_3]; decide) (by rw [c_3]; decide) (by rw [c_3]; rfl) (by decide) ?_
      refine lv_aload_n hx hb dX1_system_89 rfl (lv_at hl 0 rfl) ?_
      refine getX1_mos (v := (gmos σ)) hx hb hts hin hown hK hP (hts _ (mc wd_302)) dX1_system_90 rfl ?_
      refine lv_sipush (v := 256) hx hb dX1_system_93 (by decide) ?_
      refine lv_icmp_ge (tgt := 128) hx hb dX1_system_96 (by decide) (fun c_4 => ?_) (fun c_4 => ?_)
      · skip
        refine lv_iconst (v := 0) hx hb dX1_system_128 (by decide) ?_
        exact o_ret hx hb hr hlk hK hP hD hS (by rw [← hF, FM_system, if_neg c_1, if_pos c_3, if_pos c_4]) dX1_system_129
      · skip
        refine lv_aload_n hx hb dX1_system_99 rfl (lv_at hl 0 rfl) ?_
        refine getX1_mou hx hb hts hin hown hK hP (hts _ (mc wd_301)) dX1_system_100 ?_
        refine lv_aload_n hx hb dX1_system_103 rfl (lv_at hl 0 rfl) ?_
        refine getX1_mos (v := (gmos σ)) hx hb hts hin hown hK hP (hts _ (mc wd_302)) dX1_system_104 rfl ?_
        refine lv_aload_n hx hb dX1_system_107 rfl (lv_at hl 0 rfl) ?_
        refine getX1_mrg hx hb hts hin hown hK hP (hts _ (mc wd_303)) dX1_system_108 ?_
        refine lv_iconst (v := 4) hx hb dX1_system_111 (by decide) ?_
        refine aldX1_mrg (f := (gmrg σ)) hx hb hK hP (in_c (by decide)) dX1_system_112 rfl ?_
        refine lv_sipush (v := 255) hx hb dX1_system_113 (by decide) ?_
        refine lv_iand hx hb dX1_system_116 ?_
        refine astX1_mou (f := (gmou σ)) hx hb hK hP hD hS (in_ge0lt hI.2.2.2.2.1 (k2_lt c_4) (by decide)) dX1_system_117 rfl (fun H locs hP hD hS => ?_)
        refine lv_aload_n hx hb dX1_system_118 rfl (lv_at hl 0 rfl) ?_
        refine lv_dup hx hb dX1_system_119 rfl ?_
        refine getX1_mos (v := (gmos σ)) hx hb hts hin hown hK hP (hts _ (mc wd_302)) dX1_system_120 rfl ?_
        refine lv_iconst (v := 1) hx hb dX1_system_123 (by decide) ?_
        refine lv_iadd hx hb dX1_system_124 ?_
        refine putX1_mos hx hb hts hin hown hK hP hD hS (hts _ (mc wd_302)) dX1_system_125 (fun H locs hP hD hS => ?_)
        refine lv_iconst (v := 0) hx hb dX1_system_128 (by decide) ?_
        exact o_ret hx hb hr hlk hK hP hD hS (by rw [← hF, FM_system, if_neg c_1, if_pos c_3, if_neg c_4]) dX1_system_129
    · skip
      by_cases c_5 : ((gmrg σ) (Int32.toNatClampNeg (2 : Int32))) = (3 : Int32)
      · skip
        refine lv_tableIn (tgt := 130) hx hb dX1_system_6 (by rw [c_5]; decide) (by rw [c_5]; decide) (by rw [c_5]; rfl) (by decide) ?_
        refine lv_aload_n hx hb dX1_system_130 rfl (lv_at hl 0 rfl) ?_
        refine lv_iconst (v := 1) hx hb dX1_system_131 (by decide) ?_
        refine putX1_men hx hb hts hin hown hK hP hD hS rfl rfl (hts _ (mc wd_306)) dX1_system_132 (fun H locs hP hD hS => ?_)
        refine lv_aload_n hx hb dX1_system_135 rfl (lv_at hl 0 rfl) ?_
        refine lv_aload_n hx hb dX1_system_136 rfl (lv_at hl 0 rfl) ?_
        refine getX1_mrg hx hb hts hin hown hK hP (hts _ (mc wd_303)) dX1_system_137 ?_
        refine lv_iconst (v := 4) hx hb dX1_system_140 (by decide) ?_
        refine aldX1_mrg (f := (gmrg σ)) hx hb hK hP (in_c (by decide)) dX1_system_141 rfl ?_
        refine putX1_mex hx hb hts hin hown hK hP hD hS (hts _ (mc wd_308)) dX1_system_142 (fun H locs hP hD hS => ?_)
        refine lv_iconst (v := 0) hx hb dX1_system_145 (by decide) ?_
        exact o_ret hx hb hr hlk hK hP hD hS (by rw [← hF, FM_system, if_neg c_1, if_neg c_3, if_pos c_5]) dX1_system_146
      · skip
        refine lv_tableOut (tgt := 147) hx hb dX1_system_6 (by have h0 := lv_neT (a := 1) c_1 (by decide); have h1 := lv_neT (a := 2) c_3 (by decide); have h2 := lv_neT (a := 3) c_5 (by decide); omega) (by decide) ?_
        refine lv_bipush (v := 10) hx hb dX1_system_147 (by decide) ?_
        exact o_ret hx hb hr hlk hK hP hD hS (by rw [← hF, FM_system, if_neg c_1, if_neg c_3, if_neg c_5]) dX1_system_149
set_option maxHeartbeats 4000000 in
set_option maxRecDepth 100000 in
theorem kX1_halves (l : Launch) (D : va_G) (q : Nat → Nat) (cA : Nat → ClassId) (sz : Nat) (σ : SM) (a1 : Int64) : oMetV l D vwCl (wM q cA) (tM cA) (q 0) sz yX1_halves wsX1_halves { frames := 0, cells := 0, slots := 0, locals := 0 } σ [.long a1] (FM_halves σ a1) := by
  refine o_metV (cc := cX1_halves) (maxL := 3) (ret := none) (by decide) rfl (Nat.le_of_ble_eq_true rfl) ?_
  intro p e s m args below meth c A ls hx hb hr hml hts hown hlk hP hK hD hA hS hl
  have hl : lv_has ls 3 [(0, .ref (q 0)), (1, .long a1)] := hl
  have hin : ∀ w ∈ wsX10, w ∈ wsX1_halves := fun w h => mc (inX1 w h)
  generalize hF : FM_halves σ a1 = res
  refine lv_aload_n hx hb dX1_halves_0 rfl (lv_at hl 0 rfl) ?_
  refine getX1_mrg hx hb hts hin hown hK hP (hts _ (mc wd_303)) dX1_halves_1 ?_
  refine lv_bipush (v := 32) hx hb dX1_halves_4 (by decide) ?_
  refine lv_lload_n hx hb dX1_halves_6 rfl (lv_at hl 1 rfl) ?_
  refine lv_bipush (v := 32) hx hb dX1_halves_7 (by decide) ?_
  refine lv_lushr (v := (jlushr a1 (32 : Int32))) hx hb dX1_halves_9 rfl ?_
  refine lv_l2i hx hb dX1_halves_10 rfl ?_
  refine astX1_mrg (f := (gmrg σ)) hx hb hK hP hD hS (in_c (by decide)) dX1_halves_11 rfl (fun H locs hP hD hS => ?_)
  refine lv_aload_n hx hb dX1_halves_12 rfl (lv_at hl 0 rfl) ?_
  refine getX1_mrg hx hb hts hin hown hK hP (hts _ (mc wd_303)) dX1_halves_13 ?_
  refine lv_bipush (v := 33) hx hb dX1_halves_16 (by decide) ?_
  refine lv_lload_n hx hb dX1_halves_18 rfl (lv_at hl 1 rfl) ?_
  refine lv_l2i hx hb dX1_halves_19 rfl ?_
  refine astX1_mrg (f := (upd (gmrg σ) (Int32.toNatClampNeg (32 : Int32)) (Int64.toInt32 (jlushr a1 (32 : Int32))))) hx hb hK hP hD hS (in_c (by decide)) dX1_halves_20 rfl (fun H locs hP hD hS => ?_)
  exact o_retV hx hb hr hlk hK hP hD hS (by rw [← hF, FM_halves]) dX1_halves_21
set_option maxHeartbeats 4000000 in
set_option maxRecDepth 100000 in
theorem kX1_divide (l : Launch) (D : va_G) (q : Nat → Nat) (cA : Nat → ClassId) (sz : Nat) (σ : SM) (a1 : Int32) (a2 : Int32) : oMetV l D vwCl (wM q cA) (tM cA) (q 0) sz yX1_divide wsX1_divide { frames := 0, cells := 0, slots := 0, locals := 0 } σ [.int a1, .int a2] (FM_divide σ a1 a2) := by
  refine o_metV (cc := cX1_divide) (maxL := 5) (ret := none) (by decide) rfl (Nat.le_of_ble_eq_true rfl) ?_
  intro p e s m args below meth c A ls hx hb hr hml hts hown hlk hP hK hD hA hS hl
  have hl : lv_has ls 5 [(0, .ref (q 0)), (1, .int a1), (2, .int a2)] := hl
  have hin : ∀ w ∈ wsX10, w ∈ wsX1_divide := fun w h => mc (inX1 w h)
  generalize hF : FM_divide σ a1 a2 = res
  refine lv_iload_n hx hb dX1_divide_0 rfl (lv_at hl 1 rfl) ?_
  refine lv_i2l hx hb dX1_divide_1 rfl ?_
  refine lv_lstore_n (lv' := [(3, .long (Int32.toInt64 a1)), (0, .ref (q 0)), (1, .int a1), (2, .int a2)]) hx hb dX1_divide_2 rfl hl (by decide) rfl (fun ls hl => ?_)
  refine lv_aload_n hx hb dX1_divide_3 rfl (lv_at hl 1 rfl) ?_
  refine getX1_mrg hx hb hts hin hown hK hP (hts _ (mc wd_303)) dX1_divide_4 ?_
  refine lv_bipush (v := 33) hx hb dX1_divide_7 (by decide) ?_
  refine lv_iload_n hx hb dX1_divide_9 rfl (lv_at hl 3 rfl) ?_
  refine lv_if_ne (tgt := 17) hx hb dX1_divide_10 (by decide) (fun c_1 => ?_) (fun c_1 => ?_)
  · skip
    refine lv_lload_n hx hb dX1_divide_17 rfl (lv_at hl 0 rfl) ?_
    refine lv_iload_n hx hb dX1_divide_18 rfl (lv_at hl 3 rfl) ?_
    refine lv_i2l hx hb dX1_divide_19 rfl ?_
    refine lv_ldiv hx hb dX1_divide_20 (i64_ne c_1) ?_
    refine lv_l2i hx hb dX1_divide_21 rfl ?_
    refine astX1_mrg (f := (gmrg σ)) hx hb hK hP hD hS (in_c (by decide)) dX1_divide_22 rfl (fun H locs hP hD hS => ?_)
    refine lv_aload_n hx hb dX1_divide_23 rfl (lv_at hl 1 rfl) ?_
    refine getX1_mrg hx hb hts hin hown hK hP (hts _ (mc wd_303)) dX1_divide_24 ?_
    refine lv_bipush (v := 32) hx hb dX1_divide_27 (by decide) ?_
    refine lv_iload_n hx hb dX1_divide_29 rfl (lv_at hl 3 rfl) ?_
    refine lv_if_ne (tgt := 37) hx hb dX1_divide_30 (by decide) (fun _ => ?_) (fun c0 => absurd c0 c_1)
    refine lv_lload_n hx hb dX1_divide_37 rfl (lv_at hl 0 rfl) ?_
    refine lv_iload_n hx hb dX1_divide_38 rfl (lv_at hl 3 rfl) ?_
    refine lv_i2l hx hb dX1_divide_39 rfl ?_
    refine lv_lrem hx hb dX1_divide_40 (i64_ne c_1) ?_
    refine lv_l2i hx hb dX1_divide_41 rfl ?_
    refine astX1_mrg (f := (upd (gmrg σ) (Int32.toNatClampNeg (33 : Int32)) (Int64.toInt32 ((Int32.toInt64 a1) / (Int32.toInt64 a2))))) hx hb hK hP hD hS (in_c (by decide)) dX1_divide_42 rfl (fun H locs hP hD hS => ?_)
    exact o_retV hx hb hr hlk hK hP hD hS (by rw [← hF, FM_divide, if_neg c_1]) dX1_divide_43
  · skip
    refine lv_iconst (v := -1) hx hb dX1_divide_13 (by decide) ?_
    refine lv_goto (tgt := 22) hx hb dX1_divide_14 (by decide) ?_
    refine astX1_mrg (f := (gmrg σ)) hx hb hK hP hD hS (in_c (by decide)) dX1_divide_22 rfl (fun H locs hP hD hS => ?_)
    refine lv_aload_n hx hb dX1_divide_23 rfl (lv_at hl 1 rfl) ?_
    refine getX1_mrg hx hb hts hin hown hK hP (hts _ (mc wd_303)) dX1_divide_24 ?_
    refine lv_bipush (v := 32) hx hb dX1_divide_27 (by decide) ?_
    refine lv_iload_n hx hb dX1_divide_29 rfl (lv_at hl 3 rfl) ?_
    refine lv_if_ne (tgt := 37) hx hb dX1_divide_30 (by decide) (fun c0 => absurd c_1 c0) (fun _ => ?_)
    refine lv_iload_n hx hb dX1_divide_33 rfl (lv_at hl 2 rfl) ?_
    refine lv_goto (tgt := 42) hx hb dX1_divide_34 (by decide) ?_
    refine astX1_mrg (f := (upd (gmrg σ) (Int32.toNatClampNeg (33 : Int32)) (-1 : Int32))) hx hb hK hP hD hS (in_c (by decide)) dX1_divide_42 rfl (fun H locs hP hD hS => ?_)
    exact o_retV hx hb hr hlk hK hP hD hS (by rw [← hF, FM_divide, if_pos c_1]) dX1_divide_43
set_option maxHeartbeats 4000000 in
set_option maxRecDepth 100000 in
theorem kX1_divideBare (l : Launch) (D : va_G) (q : Nat → Nat) (cA : Nat → ClassId) (sz : Nat) (σ : SM) (a1 : Int32) (a2 : Int32) : oMetV l D vwCl (wM q cA) (tM cA) (q 0) sz yX1_divideBare wsX1_divideBare { frames := 0, cells := 0, slots := 0, locals := 0 } σ [.int a1, .int a2] (FM_divideBare σ a1 a2) := by
  refine o_metV (cc := cX1_divideBare) (maxL := 7) (ret := none) (by decide) rfl (Nat.le_of_ble_eq_true rfl) ?_
  intro p e s m args below meth c A ls hx hb hr hml hts hown hlk hP hK hD hA hS hl
  have hl : lv_has ls 7 [(0, .ref (q 0)), (1, .int a1), (2, .int a2)] := hl
  have hin : ∀ w ∈ wsX10, w ∈ wsX1_divideBare := fun w h => mc (inX1 w h)
  generalize hF : FM_divideBare σ a1 a2 = res
  refine lv_iload_n hx hb dX1_divideBare_0 rfl (lv_at hl 1 rfl) ?_
  refine lv_i2l hx hb dX1_divideBare_1 rfl ?_
  refine lv_ldc2 (v := 4294967295) hx hb hown (hts _ (mc wd_436)) dX1_divideBare_2 ?_
  refine lv_land hx hb dX1_divideBare_5 ?_
  refine lv_lstore_n (lv' := [(3, .long ((Int32.toInt64 a1) &&& (4294967295 : Int64))), (0, .ref (q 0)), (1, .int a1), (2, .int a2)]) hx hb dX1_divideBare_6 rfl hl (by decide) rfl (fun ls hl => ?_)
  refine lv_iload_n hx hb dX1_divideBare_7 rfl (lv_at hl 3 rfl) ?_
  refine lv_i2l hx hb dX1_divideBare_8 rfl ?_
  refine lv_ldc2 (v := 4294967295) hx hb hown (hts _ (mc wd_436)) dX1_divideBare_9 ?_
  refine lv_land hx hb dX1_divideBare_12 ?_
  refine lv_lstore (lv' := [(5, .long ((Int32.toInt64 a2) &&& (4294967295 : Int64))), (3, .long ((Int32.toInt64 a1) &&& (4294967295 : Int64))), (0, .ref (q 0)), (1, .int a1), (2, .int a2)]) hx hb dX1_divideBare_13 hl (by decide) rfl (fun ls hl => ?_)
  refine lv_aload_n hx hb dX1_divideBare_15 rfl (lv_at hl 2 rfl) ?_
  refine getX1_mrg hx hb hts hin hown hK hP (hts _ (mc wd_303)) dX1_divideBare_16 ?_
  refine lv_bipush (v := 33) hx hb dX1_divideBare_19 (by decide) ?_
  refine lv_lload hx hb dX1_divideBare_21 (lv_at hl 0 rfl) ?_
  refine lv_lconst (v := 0) hx hb dX1_divideBare_23 (by decide) ?_
  refine W.lcmp hx hb dX1_divideBare_24 ?_
  refine lv_if_ne (tgt := 32) hx hb dX1_divideBare_25 (by decide) (fun c_1 => ?_) (fun c_1 => ?_)
  · skip
    refine lv_lload_n hx hb dX1_divideBare_32 rfl (lv_at hl 1 rfl) ?_
    refine lv_lload hx hb dX1_divideBare_33 (lv_at hl 0 rfl) ?_
    refine lv_ldiv hx hb dX1_divideBare_35 (lc_ne c_1) ?_
    refine lv_l2i hx hb dX1_divideBare_36 rfl ?_
    refine astX1_mrg (f := (gmrg σ)) hx hb hK hP hD hS (in_c (by decide)) dX1_divideBare_37 rfl (fun H locs hP hD hS => ?_)
    refine lv_aload_n hx hb dX1_divideBare_38 rfl (lv_at hl 2 rfl) ?_
    refine getX1_mrg hx hb hts hin hown hK hP (hts _ (mc wd_303)) dX1_divideBare_39 ?_
    refine lv_bipush (v := 32) hx hb dX1_divideBare_42 (by decide) ?_
    refine lv_lload hx hb dX1_divideBare_44 (lv_at hl 0 rfl) ?_
    refine lv_lconst (v := 0) hx hb dX1_divideBare_46 (by decide) ?_
    refine W.lcmp hx hb dX1_divideBare_47 ?_
    refine lv_if_ne (tgt := 55) hx hb dX1_divideBare_48 (by decide) (fun _ => ?_) (fun c0 => absurd c0 c_1)
    refine lv_lload_n hx hb dX1_divideBare_55 rfl (lv_at hl 1 rfl) ?_
    refine lv_lload hx hb dX1_divideBare_56 (lv_at hl 0 rfl) ?_
    refine lv_lrem hx hb dX1_divideBare_58 (lc_ne c_1) ?_
    refine lv_l2i hx hb dX1_divideBare_59 rfl ?_
    refine astX1_mrg (f := (upd (gmrg σ) (Int32.toNatClampNeg (33 : Int32)) (Int64.toInt32 (((Int32.toInt64 a1) &&& (4294967295 : Int64)) / ((Int32.toInt64 a2) &&& (4294967295 : Int64)))))) hx hb hK hP hD hS (in_c (by decide)) dX1_divideBare_60 rfl (fun H locs hP hD hS => ?_)
    exact o_retV hx hb hr hlk hK hP hD hS (by rw [← hF, FM_divideBare, if_neg c_1]) dX1_divideBare_61
  · skip
    refine lv_iconst (v := -1) hx hb dX1_divideBare_28 (by decide) ?_
    refine lv_goto (tgt := 37) hx hb dX1_divideBare_29 (by decide) ?_
    refine astX1_mrg (f := (gmrg σ)) hx hb hK hP hD hS (in_c (by decide)) dX1_divideBare_37 rfl (fun H locs hP hD hS => ?_)
    refine lv_aload_n hx hb dX1_divideBare_38 rfl (lv_at hl 2 rfl) ?_
    refine getX1_mrg hx hb hts hin hown hK hP (hts _ (mc wd_303)) dX1_divideBare_39 ?_
    refine lv_bipush (v := 32) hx hb dX1_divideBare_42 (by decide) ?_
    refine lv_lload hx hb dX1_divideBare_44 (lv_at hl 0 rfl) ?_
    refine lv_lconst (v := 0) hx hb dX1_divideBare_46 (by decide) ?_
    refine W.lcmp hx hb dX1_divideBare_47 ?_
    refine lv_if_ne (tgt := 55) hx hb dX1_divideBare_48 (by decide) (fun c0 => absurd c_1 c0) (fun _ => ?_)
    refine lv_iload_n hx hb dX1_divideBare_51 rfl (lv_at hl 3 rfl) ?_
    refine lv_goto (tgt := 60) hx hb dX1_divideBare_52 (by decide) ?_
    refine astX1_mrg (f := (upd (gmrg σ) (Int32.toNatClampNeg (33 : Int32)) (-1 : Int32))) hx hb hK hP hD hS (in_c (by decide)) dX1_divideBare_60 rfl (fun H locs hP hD hS => ?_)
    exact o_retV hx hb hr hlk hK hP hD hS (by rw [← hF, FM_divideBare, if_pos c_1]) dX1_divideBare_61
set_option maxHeartbeats 4000000 in
set_option maxRecDepth 100000 in
theorem kX1_sum (l : Launch) (D : va_G) (q : Nat → Nat) (cA : Nat → ClassId) (sz : Nat) (σ : SM) (a1 : Int32) (a2 : Int64) (hI : vp_in a1 34) : oMet l D vwCl (wM q cA) (tM cA) (q 0) sz yX1_sum wsX1_sum { frames := 1, cells := 0, slots := 0, locals := 22 } σ [.int a1, .long a2] (FM_sum σ a1 a2) := by
  refine o_met (cc := cX1_sum) (maxL := 4) (ret := some .int) (by decide) rfl (Nat.le_of_ble_eq_true rfl) ?_
  intro p e s m args below meth c A ls hx hb hr hml hts hown hlk hP hK hD hA hS hl
  have hl : lv_has ls 4 [(0, .ref (q 0)), (1, .int a1), (2, .long a2)] := hl
  have hin : ∀ w ∈ wsX10, w ∈ wsX1_sum := fun w h => mc (inX1 w h)
  generalize hF : FM_sum σ a1 a2 = res
  refine lv_lload_n hx hb dX1_sum_0 rfl (lv_at hl 2 rfl) ?_
  refine lv_lload_n hx hb dX1_sum_1 rfl (lv_at hl 2 rfl) ?_
  refine lv_l2i hx hb dX1_sum_2 rfl ?_
  refine lv_i2l hx hb dX1_sum_3 rfl ?_
  refine W.lcmp hx hb dX1_sum_4 ?_
  refine lv_if_eq (tgt := 10) hx hb dX1_sum_5 (by decide) (fun c_1 => ?_) (fun c_1 => ?_)
  · skip
    refine lv_aload_n hx hb dX1_sum_10 rfl (lv_at hl 0 rfl) ?_
    refine lv_iload_n hx hb dX1_sum_11 rfl (lv_at hl 1 rfl) ?_
    refine lv_lload_n hx hb dX1_sum_12 rfl (lv_at hl 2 rfl) ?_
    refine lv_l2i hx hb dX1_sum_13 rfl ?_
    obtain ⟨r_2, hr_2⟩ : ∃ z, (FM_put σ a1 (Int64.toInt32 a2)) = z := ⟨_, rfl⟩
    refine o_callV (As := [.int a1, .int (Int64.toInt32 a2)]) (rest := []) (res := r_2) ⟨hx, hb, hml, hown, hts⟩ (by rw [← hr_2]; exact (kX1_put l D q cA _ σ a1 (Int64.toInt32 a2) hI)) (cwV 2 hts (gV wd_411 wd_413 wd_26 wd_39 wd_414) rfl rfl rfl (by decide +kernel) ⟨Nat.le_of_ble_eq_true rfl, Nat.le_of_ble_eq_true rfl⟩) hK hP hD hS hA (va_recv hK hP (ci := 1) (q0 := 0) rfl rfl) rfl hl.1 rfl (Nat.le_of_ble_eq_true rfl) dX1_sum_14 (fun H locs hP hD hS => ?_)
    refine lv_iconst (v := 0) hx hb dX1_sum_17 (by decide) ?_
    exact o_ret hx hb hr hlk hK hP hD hS (by subst hr_2; rw [← hF, FM_sum, if_pos c_1]) dX1_sum_18
  · skip
    refine lv_iconst (v := 4) hx hb dX1_sum_8 (by decide) ?_
    exact o_ret hx hb hr hlk hK hP hD hS (by rw [← hF, FM_sum, if_neg c_1]) dX1_sum_9
