set_option maxHeartbeats 4000000 in
set_option maxRecDepth 100000 in
theorem kX0_performAccess (l : Launch) (D : va_G) (q : Nat → Nat) (cA : Nat → ClassId) (sz : Nat) (σ : SG) (a1 : Int32) : oMet l D vwCl (wG q cA) (tG cA) (q 0) sz yX0_performAccess wsX0_performAccess { frames := 1, cells := 0, slots := 0, locals := 25 } σ [.int a1] (FG_performAccess σ a1) := by
  refine o_met (cc := cX0_performAccess) (maxL := 8) (ret := some .int) (by decide) rfl (Nat.le_of_ble_eq_true rfl) ?_
  intro p e s m args below meth c A ls hx hb hr hml hts hown hlk hP hK hD hA hS hl
  have hl : lv_has ls 8 [(0, .ref (q 0)), (1, .int a1)] := hl
  have hin : ∀ w ∈ wsX00, w ∈ wsX0_performAccess := fun w h => mc (inX0 w h)
  generalize hF : FG_performAccess σ a1 = res
  refine lv_iload_n hx hb dX0_performAccess_0 rfl (lv_at hl 1 rfl) ?_
  refine s_call (As := [.int a1]) (rest := []) ⟨hx, hb, hml, hown, hts⟩ (kX0_opOf l a1) (cwS 1 hts (gS wd_133 wd_134 wd_38 wd_135) rfl rfl rfl (by decide +kernel) ⟨Nat.le_of_ble_eq_true rfl, Nat.le_of_ble_eq_true rfl⟩) hP hS rfl hl.1 rfl (Nat.le_of_ble_eq_true rfl) dX0_performAccess_1 (fun H locs hP hS => ?_)
  refine lv_istore_n (lv' := [(2, .int (FG_opOf a1)), (0, .ref (q 0)), (1, .int a1)]) hx hb dX0_performAccess_4 rfl hl (by decide) rfl (fun ls hl => ?_)
  refine lv_iload_n hx hb dX0_performAccess_5 rfl (lv_at hl 0 rfl) ?_
  refine s_call (As := [.int (FG_opOf a1)]) (rest := []) ⟨hx, hb, hml, hown, hts⟩ (kX0_bytesOfAccess l (FG_opOf a1)) (cwS 1 hts (gS wd_250 wd_251 wd_38 wd_252) rfl rfl rfl (by decide +kernel) ⟨Nat.le_of_ble_eq_true rfl, Nat.le_of_ble_eq_true rfl⟩) hP hS rfl hl.1 rfl (Nat.le_of_ble_eq_true rfl) dX0_performAccess_6 (fun H locs hP hS => ?_)
  refine lv_istore_n (lv' := [(3, .int (FG_bytesOfAccess (FG_opOf a1))), (2, .int (FG_opOf a1)), (0, .ref (q 0)), (1, .int a1)]) hx hb dX0_performAccess_9 rfl hl (by decide) rfl (fun ls hl => ?_)
  refine lv_iload_n hx hb dX0_performAccess_10 rfl (lv_at hl 0 rfl) ?_
  refine lv_if_ne (tgt := 16) hx hb dX0_performAccess_11 (by decide) (fun c_1 => ?_) (fun c_1 => ?_)
  · skip
    refine lv_iload_n hx hb dX0_performAccess_16 rfl (lv_at hl 1 rfl) ?_
    refine lv_bipush (v := 40) hx hb dX0_performAccess_17 (by decide) ?_
    refine lv_icmp_lt (tgt := 26) hx hb dX0_performAccess_19 (by decide) (fun c_2 => ?_) (fun c_2 => ?_)
    · skip
      refine lv_iconst (v := 0) hx hb dX0_performAccess_26 (by decide) ?_
      refine lv_istore (lv' := [(4, .int (0 : Int32)), (3, .int (FG_bytesOfAccess (FG_opOf a1))), (2, .int (FG_opOf a1)), (0, .ref (q 0)), (1, .int a1)]) hx hb dX0_performAccess_27 hl (by decide) rfl (fun ls hl => ?_)
      refine lv_aload_n hx hb dX0_performAccess_29 rfl (lv_at hl 3 rfl) ?_
      refine getX0_rg hx hb hts hin hown hK hP (hts _ (mc wd_53)) dX0_performAccess_30 ?_
      refine lv_iload_n hx hb dX0_performAccess_33 rfl (lv_at hl 4 rfl) ?_
      refine s_call (As := [.int a1]) (rest := [.ref (q 3)]) ⟨hx, hb, hml, hown, hts⟩ (kX0_sOf l a1) (cwS 1 hts (gS wd_153 wd_154 wd_38 wd_155) rfl rfl rfl (by decide +kernel) ⟨Nat.le_of_ble_eq_true rfl, Nat.le_of_ble_eq_true rfl⟩) hP hS rfl hl.1 rfl (Nat.le_of_ble_eq_true rfl) dX0_performAccess_34 (fun H locs hP hS => ?_)
      refine aldX0_rg (f := (grg σ)) hx hb hK hP (in_sOf _) dX0_performAccess_37 rfl ?_
      refine lv_iload_n hx hb dX0_performAccess_38 rfl (lv_at hl 4 rfl) ?_
      refine s_call (As := [.int a1]) (rest := [.int ((grg σ) (Int32.toNatClampNeg (FG_sOf a1)))]) ⟨hx, hb, hml, hown, hts⟩ (kX0_signedImmediate l a1) (cwS 1 hts (gS wd_174 wd_175 wd_38 wd_176) rfl rfl rfl (by decide +kernel) ⟨Nat.le_of_ble_eq_true rfl, Nat.le_of_ble_eq_true rfl⟩) hP hS rfl hl.1 rfl (Nat.le_of_ble_eq_true rfl) dX0_performAccess_39 (fun H locs hP hS => ?_)
      refine lv_iadd hx hb dX0_performAccess_42 ?_
      refine lv_istore (lv' := [(5, .int (((grg σ) (Int32.toNatClampNeg (FG_sOf a1))) + (FG_signedImmediate a1))), (4, .int (0 : Int32)), (3, .int (FG_bytesOfAccess (FG_opOf a1))), (2, .int (FG_opOf a1)), (0, .ref (q 0)), (1, .int a1)]) hx hb dX0_performAccess_43 hl (by decide) rfl (fun ls hl => ?_)
      refine lv_iload hx hb dX0_performAccess_45 (lv_at hl 0 rfl) ?_
      refine lv_iload_n hx hb dX0_performAccess_47 rfl (lv_at hl 2 rfl) ?_
      refine lv_iconst (v := 1) hx hb dX0_performAccess_48 (by decide) ?_
      refine lv_isub hx hb dX0_performAccess_49 ?_
      refine lv_iand hx hb dX0_performAccess_50 ?_
      refine lv_if_eq (tgt := 56) hx hb dX0_performAccess_51 (by decide) (fun c_3 => ?_) (fun c_3 => ?_)
      · skip
        refine lv_iload hx hb dX0_performAccess_56 (lv_at hl 0 rfl) ?_
        refine lv_ldc (v := 268435456) hx hb hown (hts _ (mc wd_253)) dX0_performAccess_58 ?_
        refine lv_isub hx hb dX0_performAccess_60 ?_
        refine lv_istore (lv' := [(6, .int ((((grg σ) (Int32.toNatClampNeg (FG_sOf a1))) + (FG_signedImmediate a1)) - (268435456 : Int32))), (5, .int (((grg σ) (Int32.toNatClampNeg (FG_sOf a1))) + (FG_signedImmediate a1))), (4, .int (0 : Int32)), (3, .int (FG_bytesOfAccess (FG_opOf a1))), (2, .int (FG_opOf a1)), (0, .ref (q 0)), (1, .int a1)]) hx hb dX0_performAccess_61 hl (by decide) rfl (fun ls hl => ?_)
        refine lv_iload hx hb dX0_performAccess_63 (lv_at hl 0 rfl) ?_
        refine lv_if_lt (tgt := 78) hx hb dX0_performAccess_65 (by decide) (fun c_4 => ?_) (fun c_4 => ?_)
        · skip
          refine lv_iload hx hb dX0_performAccess_78 (lv_at hl 2 rfl) ?_
          refine lv_if_eq (tgt := 97) hx hb dX0_performAccess_80 (by decide) (fun _ => ?_) (fun c0 => absurd c0 (by decide))
          refine lv_iconst (v := 3) hx hb dX0_performAccess_97 (by decide) ?_
          exact o_ret hx hb hr hlk hK hP hD hS (by rw [← hF, FG_performAccess, if_neg c_1, if_pos c_2, if_pos c_3, if_pos c_4]) dX0_performAccess_98
        · skip
          refine lv_iload hx hb dX0_performAccess_68 (lv_at hl 0 rfl) ?_
          refine lv_sipush (v := 256) hx hb dX0_performAccess_70 (by decide) ?_
          refine lv_iload_n hx hb dX0_performAccess_73 rfl (lv_at hl 3 rfl) ?_
          refine lv_isub hx hb dX0_performAccess_74 ?_
          refine lv_icmp_le (tgt := 99) hx hb dX0_performAccess_75 (by decide) (fun c_5 => ?_) (fun c_5 => ?_)
          · skip
            refine lv_iload hx hb dX0_performAccess_99 (lv_at hl 2 rfl) ?_
            refine lv_if_eq (tgt := 121) hx hb dX0_performAccess_101 (by decide) (fun _ => ?_) (fun c0 => absurd c0 (by decide))
            refine lv_iload_n hx hb dX0_performAccess_121 rfl (lv_at hl 4 rfl) ?_
            refine lv_bipush (v := 36) hx hb dX0_performAccess_122 (by decide) ?_
            refine lv_icmp_ge (tgt := 131) hx hb dX0_performAccess_124 (by decide) (fun c_6 => ?_) (fun c_6 => ?_)
            · skip
              refine lv_iconst (v := 0) hx hb dX0_performAccess_131 (by decide) ?_
              refine lv_istore (lv' := [(7, .int (0 : Int32)), (6, .int ((((grg σ) (Int32.toNatClampNeg (FG_sOf a1))) + (FG_signedImmediate a1)) - (268435456 : Int32))), (5, .int (((grg σ) (Int32.toNatClampNeg (FG_sOf a1))) + (FG_signedImmediate a1))), (4, .int (0 : Int32)), (3, .int (FG_bytesOfAccess (FG_opOf a1))), (2, .int (FG_opOf a1)), (0, .ref (q 0)), (1, .int a1)]) hx hb dX0_performAccess_132 hl (by decide) rfl (fun ls hl => ?_)
              refine lv_aload_n hx hb dX0_performAccess_134 rfl (lv_at hl 6 rfl) ?_
              refine lv_iload_n hx hb dX0_performAccess_135 rfl (lv_at hl 7 rfl) ?_
              refine s_call (As := [.int a1]) (rest := [.ref (q 0)]) ⟨hx, hb, hml, hown, hts⟩ (kX0_tOf l a1) (cwS 1 hts (gS wd_139 wd_140 wd_38 wd_141) rfl rfl rfl (by decide +kernel) ⟨Nat.le_of_ble_eq_true rfl, Nat.le_of_ble_eq_true rfl⟩) hP hS rfl hl.1 rfl (Nat.le_of_ble_eq_true rfl) dX0_performAccess_136 (fun H locs hP hS => ?_)
              refine lv_aload_n hx hb dX0_performAccess_139 rfl (lv_at hl 6 rfl) ?_
              refine lv_iload hx hb dX0_performAccess_140 (lv_at hl 1 rfl) ?_
              refine lv_iload_n hx hb dX0_performAccess_142 rfl (lv_at hl 4 rfl) ?_
              refine lv_iload hx hb dX0_performAccess_143 (lv_at hl 0 rfl) ?_
              refine o_callR (As := [.int ((((grg σ) (Int32.toNatClampNeg (FG_sOf a1))) + (FG_signedImmediate a1)) - (268435456 : Int32)), .int (FG_bytesOfAccess (FG_opOf a1)), .int (0 : Int32)]) (rest := [.int (FG_tOf a1), .ref (q 0)]) ⟨hx, hb, hml, hown, hts⟩ (kX0_load l D q cA _ σ ((((grg σ) (Int32.toNatClampNeg (FG_sOf a1))) + (FG_signedImmediate a1)) - (268435456 : Int32)) (FG_bytesOfAccess (FG_opOf a1)) (0 : Int32) (ld_ok c_1 c_4 c_5)) (cwV 3 hts (gV wd_258 wd_260 wd_21 wd_38 wd_261) rfl rfl rfl (by decide +kernel) ⟨Nat.le_of_ble_eq_true rfl, Nat.le_of_ble_eq_true rfl⟩) hK hP hD hS hA (va_recv hK hP (ci := 0) (q0 := 0) rfl rfl) rfl hl.1 rfl (Nat.le_of_ble_eq_true rfl) dX0_performAccess_145 (fun H locs hP hD hS => ?_)
              obtain ⟨r_7, hr_7⟩ : ∃ z, (FG_put σ (FG_tOf a1) (FG_load σ ((((grg σ) (Int32.toNatClampNeg (FG_sOf a1))) + (FG_signedImmediate a1)) - (268435456 : Int32)) (FG_bytesOfAccess (FG_opOf a1)) (0 : Int32))) = z := ⟨_, rfl⟩
              refine o_call (As := [.int (FG_tOf a1), .int (FG_load σ ((((grg σ) (Int32.toNatClampNeg (FG_sOf a1))) + (FG_signedImmediate a1)) - (268435456 : Int32)) (FG_bytesOfAccess (FG_opOf a1)) (0 : Int32))]) (rest := []) (res := r_7) ⟨hx, hb, hml, hown, hts⟩ (by rw [← hr_7]; exact (kX0_put l D q cA _ σ (FG_tOf a1) (FG_load σ ((((grg σ) (Int32.toNatClampNeg (FG_sOf a1))) + (FG_signedImmediate a1)) - (268435456 : Int32)) (FG_bytesOfAccess (FG_opOf a1)) (0 : Int32)))) (cwV 2 hts (gV wd_183 wd_185 wd_6 wd_38 wd_186) rfl rfl rfl (by decide +kernel) ⟨Nat.le_of_ble_eq_true rfl, Nat.le_of_ble_eq_true rfl⟩) hK hP hD hS hA (va_recv hK hP (ci := 0) (q0 := 0) rfl rfl) rfl hl.1 rfl (Nat.le_of_ble_eq_true rfl) dX0_performAccess_148 (fun H locs hP hD hS => ?_)
              exact o_ret hx hb hr hlk hK hP hD hS (by subst hr_7; rw [← hF, FG_performAccess, if_neg c_1, if_pos c_2, if_pos c_3, if_neg c_4, if_pos c_5, if_pos c_6]) dX0_performAccess_151
            · skip
              refine lv_iconst (v := 1) hx hb dX0_performAccess_127 (by decide) ?_
              refine lv_goto (tgt := 132) hx hb dX0_performAccess_128 (by decide) ?_
              refine lv_istore (lv' := [(7, .int (1 : Int32)), (6, .int ((((grg σ) (Int32.toNatClampNeg (FG_sOf a1))) + (FG_signedImmediate a1)) - (268435456 : Int32))), (5, .int (((grg σ) (Int32.toNatClampNeg (FG_sOf a1))) + (FG_signedImmediate a1))), (4, .int (0 : Int32)), (3, .int (FG_bytesOfAccess (FG_opOf a1))), (2, .int (FG_opOf a1)), (0, .ref (q 0)), (1, .int a1)]) hx hb dX0_performAccess_132 hl (by decide) rfl (fun ls hl => ?_)
              refine lv_aload_n hx hb dX0_performAccess_134 rfl (lv_at hl 6 rfl) ?_
              refine lv_iload_n hx hb dX0_performAccess_135 rfl (lv_at hl 7 rfl) ?_
              refine s_call (As := [.int a1]) (rest := [.ref (q 0)]) ⟨hx, hb, hml, hown, hts⟩ (kX0_tOf l a1) (cwS 1 hts (gS wd_139 wd_140 wd_38 wd_141) rfl rfl rfl (by decide +kernel) ⟨Nat.le_of_ble_eq_true rfl, Nat.le_of_ble_eq_true rfl⟩) hP hS rfl hl.1 rfl (Nat.le_of_ble_eq_true rfl) dX0_performAccess_136 (fun H locs hP hS => ?_)
              refine lv_aload_n hx hb dX0_performAccess_139 rfl (lv_at hl 6 rfl) ?_
              refine lv_iload hx hb dX0_performAccess_140 (lv_at hl 1 rfl) ?_
              refine lv_iload_n hx hb dX0_performAccess_142 rfl (lv_at hl 4 rfl) ?_
              refine lv_iload hx hb dX0_performAccess_143 (lv_at hl 0 rfl) ?_
              refine o_callR (As := [.int ((((grg σ) (Int32.toNatClampNeg (FG_sOf a1))) + (FG_signedImmediate a1)) - (268435456 : Int32)), .int (FG_bytesOfAccess (FG_opOf a1)), .int (1 : Int32)]) (rest := [.int (FG_tOf a1), .ref (q 0)]) ⟨hx, hb, hml, hown, hts⟩ (kX0_load l D q cA _ σ ((((grg σ) (Int32.toNatClampNeg (FG_sOf a1))) + (FG_signedImmediate a1)) - (268435456 : Int32)) (FG_bytesOfAccess (FG_opOf a1)) (1 : Int32) (ld_ok c_1 c_4 c_5)) (cwV 3 hts (gV wd_258 wd_260 wd_21 wd_38 wd_261) rfl rfl rfl (by decide +kernel) ⟨Nat.le_of_ble_eq_true rfl, Nat.le_of_ble_eq_true rfl⟩) hK hP hD hS hA (va_recv hK hP (ci := 0) (q0 := 0) rfl rfl) rfl hl.1 rfl (Nat.le_of_ble_eq_true rfl) dX0_performAccess_145 (fun H locs hP hD hS => ?_)
              obtain ⟨r_8, hr_8⟩ : ∃ z, (FG_put σ (FG_tOf a1) (FG_load σ ((((grg σ) (Int32.toNatClampNeg (FG_sOf a1))) + (FG_signedImmediate a1)) - (268435456 : Int32)) (FG_bytesOfAccess (FG_opOf a1)) (1 : Int32))) = z := ⟨_, rfl⟩
              refine o_call (As := [.int (FG_tOf a1), .int (FG_load σ ((((grg σ) (Int32.toNatClampNeg (FG_sOf a1))) + (FG_signedImmediate a1)) - (268435456 : Int32)) (FG_bytesOfAccess (FG_opOf a1)) (1 : Int32))]) (rest := []) (res := r_8) ⟨hx, hb, hml, hown, hts⟩ (by rw [← hr_8]; exact (kX0_put l D q cA _ σ (FG_tOf a1) (FG_load σ ((((grg σ) (Int32.toNatClampNeg (FG_sOf a1))) + (FG_signedImmediate a1)) - (268435456 : Int32)) (FG_bytesOfAccess (FG_opOf a1)) (1 : Int32)))) (cwV 2 hts (gV wd_183 wd_185 wd_6 wd_38 wd_186) rfl rfl rfl (by decide +kernel) ⟨Nat.le_of_ble_eq_true rfl, Nat.le_of_ble_eq_true rfl⟩) hK hP hD hS hA (va_recv hK hP (ci := 0) (q0 := 0) rfl rfl) rfl hl.1 rfl (Nat.le_of_ble_eq_true rfl) dX0_performAccess_148 (fun H locs hP hD hS => ?_)
              exact o_ret hx hb hr hlk hK hP hD hS (by subst hr_8; rw [← hF, FG_performAccess, if_neg c_1, if_pos c_2, if_pos c_3, if_neg c_4, if_pos c_5, if_neg c_6]) dX0_performAccess_151
          · skip
            refine lv_iload hx hb dX0_performAccess_78 (lv_at hl 2 rfl) ?_
            refine lv_if_eq (tgt := 97) hx hb dX0_performAccess_80 (by decide) (fun _ => ?_) (fun c0 => absurd c0 (by decide))
            refine lv_iconst (v := 3) hx hb dX0_performAccess_97 (by decide) ?_
            exact o_ret hx hb hr hlk hK hP hD hS (by rw [← hF, FG_performAccess, if_neg c_1, if_pos c_2, if_pos c_3, if_neg c_4, if_neg c_5]) dX0_performAccess_98
      · skip
        refine lv_iconst (v := 2) hx hb dX0_performAccess_54 (by decide) ?_
        exact o_ret hx hb hr hlk hK hP hD hS (by rw [← hF, FG_performAccess, if_neg c_1, if_pos c_2, if_neg c_3]) dX0_performAccess_55
    · skip
      refine lv_iconst (v := 1) hx hb dX0_performAccess_22 (by decide) ?_
      refine lv_goto (tgt := 27) hx hb dX0_performAccess_23 (by decide) ?_
      refine lv_istore (lv' := [(4, .int (1 : Int32)), (3, .int (FG_bytesOfAccess (FG_opOf a1))), (2, .int (FG_opOf a1)), (0, .ref (q 0)), (1, .int a1)]) hx hb dX0_performAccess_27 hl (by decide) rfl (fun ls hl => ?_)
      refine lv_aload_n hx hb dX0_performAccess_29 rfl (lv_at hl 3 rfl) ?_
      refine getX0_rg hx hb hts hin hown hK hP (hts _ (mc wd_53)) dX0_performAccess_30 ?_
      refine lv_iload_n hx hb dX0_performAccess_33 rfl (lv_at hl 4 rfl) ?_
      refine s_call (As := [.int a1]) (rest := [.ref (q 3)]) ⟨hx, hb, hml, hown, hts⟩ (kX0_sOf l a1) (cwS 1 hts (gS wd_153 wd_154 wd_38 wd_155) rfl rfl rfl (by decide +kernel) ⟨Nat.le_of_ble_eq_true rfl, Nat.le_of_ble_eq_true rfl⟩) hP hS rfl hl.1 rfl (Nat.le_of_ble_eq_true rfl) dX0_performAccess_34 (fun H locs hP hS => ?_)
      refine aldX0_rg (f := (grg σ)) hx hb hK hP (in_sOf _) dX0_performAccess_37 rfl ?_
      refine lv_iload_n hx hb dX0_performAccess_38 rfl (lv_at hl 4 rfl) ?_
      refine s_call (As := [.int a1]) (rest := [.int ((grg σ) (Int32.toNatClampNeg (FG_sOf a1)))]) ⟨hx, hb, hml, hown, hts⟩ (kX0_signedImmediate l a1) (cwS 1 hts (gS wd_174 wd_175 wd_38 wd_176) rfl rfl rfl (by decide +kernel) ⟨Nat.le_of_ble_eq_true rfl, Nat.le_of_ble_eq_true rfl⟩) hP hS rfl hl.1 rfl (Nat.le_of_ble_eq_true rfl) dX0_performAccess_39 (fun H locs hP hS => ?_)
      refine lv_iadd hx hb dX0_performAccess_42 ?_
      refine lv_istore (lv' := [(5, .int (((grg σ) (Int32.toNatClampNeg (FG_sOf a1))) + (FG_signedImmediate a1))), (4, .int (1 : Int32)), (3, .int (FG_bytesOfAccess (FG_opOf a1))), (2, .int (FG_opOf a1)), (0, .ref (q 0)), (1, .int a1)]) hx hb dX0_performAccess_43 hl (by decide) rfl (fun ls hl => ?_)
      refine lv_iload hx hb dX0_performAccess_45 (lv_at hl 0 rfl) ?_
      refine lv_iload_n hx hb dX0_performAccess_47 rfl (lv_at hl 2 rfl) ?_
      refine lv_iconst (v := 1) hx hb dX0_performAccess_48 (by decide) ?_
      refine lv_isub hx hb dX0_performAccess_49 ?_
      refine lv_iand hx hb dX0_performAccess_50 ?_
      refine lv_if_eq (tgt := 56) hx hb dX0_performAccess_51 (by decide) (fun c_9 => ?_) (fun c_9 => ?_)
      · skip
        refine lv_iload hx hb dX0_performAccess_56 (lv_at hl 0 rfl) ?_
        refine lv_ldc (v := 268435456) hx hb hown (hts _ (mc wd_253)) dX0_performAccess_58 ?_
        refine lv_isub hx hb dX0_performAccess_60 ?_
        refine lv_istore (lv' := [(6, .int ((((grg σ) (Int32.toNatClampNeg (FG_sOf a1))) + (FG_signedImmediate a1)) - (268435456 : Int32))), (5, .int (((grg σ) (Int32.toNatClampNeg (FG_sOf a1))) + (FG_signedImmediate a1))), (4, .int (1 : Int32)), (3, .int (FG_bytesOfAccess (FG_opOf a1))), (2, .int (FG_opOf a1)), (0, .ref (q 0)), (1, .int a1)]) hx hb dX0_performAccess_61 hl (by decide) rfl (fun ls hl => ?_)
        refine lv_iload hx hb dX0_performAccess_63 (lv_at hl 0 rfl) ?_
        refine lv_if_lt (tgt := 78) hx hb dX0_performAccess_65 (by decide) (fun c_10 => ?_) (fun c_10 => ?_)
        · skip
          refine lv_iload hx hb dX0_performAccess_78 (lv_at hl 2 rfl) ?_
          refine lv_if_eq (tgt := 97) hx hb dX0_performAccess_80 (by decide) (fun c0 => absurd c0 (by decide)) (fun _ => ?_)
          refine lv_aload_n hx hb dX0_performAccess_83 rfl (lv_at hl 5 rfl) ?_
          refine lv_iload hx hb dX0_performAccess_84 (lv_at hl 1 rfl) ?_
          refine o_callR (As := [.int (((grg σ) (Int32.toNatClampNeg (FG_sOf a1))) + (FG_signedImmediate a1))]) (rest := []) ⟨hx, hb, hml, hown, hts⟩ (kX0_isTextAddress l D q cA _ σ (((grg σ) (Int32.toNatClampNeg (FG_sOf a1))) + (FG_signedImmediate a1))) (cwV 1 hts (gV wd_164 wd_166 wd_5 wd_38 wd_167) rfl rfl rfl (by decide +kernel) ⟨Nat.le_of_ble_eq_true rfl, Nat.le_of_ble_eq_true rfl⟩) hK hP hD hS hA (va_recv hK hP (ci := 0) (q0 := 0) rfl rfl) rfl hl.1 rfl (Nat.le_of_ble_eq_true rfl) dX0_performAccess_86 (fun H locs hP hD hS => ?_)
          refine lv_if_eq (tgt := 97) hx hb dX0_performAccess_89 (by decide) (fun c_11 => ?_) (fun c_11 => ?_)
          · skip
            refine lv_iconst (v := 3) hx hb dX0_performAccess_97 (by decide) ?_
            exact o_ret hx hb hr hlk hK hP hD hS (by rw [← hF, FG_performAccess, if_neg c_1, if_neg c_2, if_pos c_9, if_pos c_10, if_pos c_11]) dX0_performAccess_98
          · skip
            refine lv_bipush (v := 6) hx hb dX0_performAccess_92 (by decide) ?_
            refine lv_goto (tgt := 98) hx hb dX0_performAccess_94 (by decide) ?_
            exact o_ret hx hb hr hlk hK hP hD hS (by rw [← hF, FG_performAccess, if_neg c_1, if_neg c_2, if_pos c_9, if_pos c_10, if_neg c_11]) dX0_performAccess_98
        · skip
          refine lv_iload hx hb dX0_performAccess_68 (lv_at hl 0 rfl) ?_
          refine lv_sipush (v := 256) hx hb dX0_performAccess_70 (by decide) ?_
          refine lv_iload_n hx hb dX0_performAccess_73 rfl (lv_at hl 3 rfl) ?_
          refine lv_isub hx hb dX0_performAccess_74 ?_
          refine lv_icmp_le (tgt := 99) hx hb dX0_performAccess_75 (by decide) (fun c_12 => ?_) (fun c_12 => ?_)
          · skip
            refine lv_iload hx hb dX0_performAccess_99 (lv_at hl 2 rfl) ?_
            refine lv_if_eq (tgt := 121) hx hb dX0_performAccess_101 (by decide) (fun c0 => absurd c0 (by decide)) (fun _ => ?_)
            refine lv_aload_n hx hb dX0_performAccess_104 rfl (lv_at hl 5 rfl) ?_
            refine lv_iload hx hb dX0_performAccess_105 (lv_at hl 0 rfl) ?_
            refine lv_iload_n hx hb dX0_performAccess_107 rfl (lv_at hl 3 rfl) ?_
            refine lv_aload_n hx hb dX0_performAccess_108 rfl (lv_at hl 5 rfl) ?_
            refine getX0_rg hx hb hts hin hown hK hP (hts _ (mc wd_53)) dX0_performAccess_109 ?_
            refine lv_iload_n hx hb dX0_performAccess_112 rfl (lv_at hl 6 rfl) ?_
            refine s_call (As := [.int a1]) (rest := [.ref (q 3), .int (FG_bytesOfAccess (FG_opOf a1)), .int ((((grg σ) (Int32.toNatClampNeg (FG_sOf a1))) + (FG_signedImmediate a1)) - (268435456 : Int32)), .ref (q 0)]) ⟨hx, hb, hml, hown, hts⟩ (kX0_tOf l a1) (cwS 1 hts (gS wd_139 wd_140 wd_38 wd_141) rfl rfl rfl (by decide +kernel) ⟨Nat.le_of_ble_eq_true rfl, Nat.le_of_ble_eq_true rfl⟩) hP hS rfl hl.1 rfl (Nat.le_of_ble_eq_true rfl) dX0_performAccess_113 (fun H locs hP hS => ?_)
            refine aldX0_rg (f := (grg σ)) hx hb hK hP (in_tOf _) dX0_performAccess_116 rfl ?_
            obtain ⟨r_13, hr_13⟩ : ∃ z, (FG_store σ ((((grg σ) (Int32.toNatClampNeg (FG_sOf a1))) + (FG_signedImmediate a1)) - (268435456 : Int32)) (FG_bytesOfAccess (FG_opOf a1)) ((grg σ) (Int32.toNatClampNeg (FG_tOf a1)))) = z := ⟨_, rfl⟩
            refine o_call (As := [.int ((((grg σ) (Int32.toNatClampNeg (FG_sOf a1))) + (FG_signedImmediate a1)) - (268435456 : Int32)), .int (FG_bytesOfAccess (FG_opOf a1)), .int ((grg σ) (Int32.toNatClampNeg (FG_tOf a1)))]) (rest := []) (res := r_13) ⟨hx, hb, hml, hown, hts⟩ (by rw [← hr_13]; exact (kX0_store l D q cA _ σ ((((grg σ) (Int32.toNatClampNeg (FG_sOf a1))) + (FG_signedImmediate a1)) - (268435456 : Int32)) (FG_bytesOfAccess (FG_opOf a1)) ((grg σ) (Int32.toNatClampNeg (FG_tOf a1))) (ld_ok c_1 c_10 c_12))) (cwV 3 hts (gV wd_254 wd_256 wd_20 wd_38 wd_257) rfl rfl rfl (by decide +kernel) ⟨Nat.le_of_ble_eq_true rfl, Nat.le_of_ble_eq_true rfl⟩) hK hP hD hS hA (va_recv hK hP (ci := 0) (q0 := 0) rfl rfl) rfl hl.1 rfl (Nat.le_of_ble_eq_true rfl) dX0_performAccess_117 (fun H locs hP hD hS => ?_)
            exact o_ret hx hb hr hlk hK hP hD hS (by subst hr_13; rw [← hF, FG_performAccess, if_neg c_1, if_neg c_2, if_pos c_9, if_neg c_10, if_pos c_12]) dX0_performAccess_120
          · skip
            refine lv_iload hx hb dX0_performAccess_78 (lv_at hl 2 rfl) ?_
            refine lv_if_eq (tgt := 97) hx hb dX0_performAccess_80 (by decide) (fun c0 => absurd c0 (by decide)) (fun _ => ?_)
            refine lv_aload_n hx hb dX0_performAccess_83 rfl (lv_at hl 5 rfl) ?_
            refine lv_iload hx hb dX0_performAccess_84 (lv_at hl 1 rfl) ?_
            refine o_callR (As := [.int (((grg σ) (Int32.toNatClampNeg (FG_sOf a1))) + (FG_signedImmediate a1))]) (rest := []) ⟨hx, hb, hml, hown, hts⟩ (kX0_isTextAddress l D q cA _ σ (((grg σ) (Int32.toNatClampNeg (FG_sOf a1))) + (FG_signedImmediate a1))) (cwV 1 hts (gV wd_164 wd_166 wd_5 wd_38 wd_167) rfl rfl rfl (by decide +kernel) ⟨Nat.le_of_ble_eq_true rfl, Nat.le_of_ble_eq_true rfl⟩) hK hP hD hS hA (va_recv hK hP (ci := 0) (q0 := 0) rfl rfl) rfl hl.1 rfl (Nat.le_of_ble_eq_true rfl) dX0_performAccess_86 (fun H locs hP hD hS => ?_)
            refine lv_if_eq (tgt := 97) hx hb dX0_performAccess_89 (by decide) (fun c_14 => ?_) (fun c_14 => ?_)
            · skip
              refine lv_iconst (v := 3) hx hb dX0_performAccess_97 (by decide) ?_
              exact o_ret hx hb hr hlk hK hP hD hS (by rw [← hF, FG_performAccess, if_neg c_1, if_neg c_2, if_pos c_9, if_neg c_10, if_neg c_12, if_pos c_14]) dX0_performAccess_98
            · skip
              refine lv_bipush (v := 6) hx hb dX0_performAccess_92 (by decide) ?_
              refine lv_goto (tgt := 98) hx hb dX0_performAccess_94 (by decide) ?_
              exact o_ret hx hb hr hlk hK hP hD hS (by rw [← hF, FG_performAccess, if_neg c_1, if_neg c_2, if_pos c_9, if_neg c_10, if_neg c_12, if_neg c_14]) dX0_performAccess_98
      · skip
        refine lv_iconst (v := 2) hx hb dX0_performAccess_54 (by decide) ?_
        exact o_ret hx hb hr hlk hK hP hD hS (by rw [← hF, FG_performAccess, if_neg c_1, if_neg c_2, if_neg c_9]) dX0_performAccess_55
  · skip
    refine lv_iconst (v := 1) hx hb dX0_performAccess_14 (by decide) ?_
    exact o_ret hx hb hr hlk hK hP hD hS (by rw [← hF, FG_performAccess, if_pos c_1]) dX0_performAccess_15
set_option maxHeartbeats 4000000 in
set_option maxRecDepth 100000 in
theorem kX0_perform (l : Launch) (D : va_G) (q : Nat → Nat) (cA : Nat → ClassId) (sz : Nat) (σ : SG) (a1 : Int32) (hI : IG σ) : oMet l D vwCl (wG q cA) (tG cA) (q 0) sz yX0_perform wsX0_perform { frames := 4, cells := 0, slots := 0, locals := 91 } σ [.int a1] (FG_perform σ a1) := by
  refine o_met (cc := cX0_perform) (maxL := 3) (ret := some .int) (by decide) rfl (Nat.le_of_ble_eq_true rfl) ?_
  intro p e s m args below meth c A ls hx hb hr hml hts hown hlk hP hK hD hA hS hl
  have hl : lv_has ls 3 [(0, .ref (q 0)), (1, .int a1)] := hl
  have hin : ∀ w ∈ wsX00, w ∈ wsX0_perform := fun w h => mc (inX0 w h)
  generalize hF : FG_perform σ a1 = res
  refine lv_iload_n hx hb dX0_perform_0 rfl (lv_at hl 1 rfl) ?_
  refine s_call (As := [.int a1]) (rest := []) ⟨hx, hb, hml, hown, hts⟩ (kX0_opOf l a1) (cwS 1 hts (gS wd_133 wd_134 wd_38 wd_135) rfl rfl rfl (by decide +kernel) ⟨Nat.le_of_ble_eq_true rfl, Nat.le_of_ble_eq_true rfl⟩) hP hS rfl hl.1 rfl (Nat.le_of_ble_eq_true rfl) dX0_perform_1 (fun H locs hP hS => ?_)
  refine lv_istore_n (lv' := [(2, .int (FG_opOf a1)), (0, .ref (q 0)), (1, .int a1)]) hx hb dX0_perform_4 rfl hl (by decide) rfl (fun ls hl => ?_)
  refine lv_iload_n hx hb dX0_perform_5 rfl (lv_at hl 0 rfl) ?_
  refine lv_if_ne (tgt := 15) hx hb dX0_perform_6 (by decide) (fun c_1 => ?_) (fun c_1 => ?_)
  · skip
    refine lv_iload_n hx hb dX0_perform_15 rfl (lv_at hl 0 rfl) ?_
    refine lv_bipush (v := 32) hx hb dX0_perform_16 (by decide) ?_
    refine lv_icmp_ge (tgt := 29) hx hb dX0_perform_18 (by decide) (fun c_2 => ?_) (fun c_2 => ?_)
    · skip
      refine lv_aload_n hx hb dX0_perform_29 rfl (lv_at hl 1 rfl) ?_
      refine lv_iload_n hx hb dX0_perform_30 rfl (lv_at hl 2 rfl) ?_
      obtain ⟨r_3, hr_3⟩ : ∃ z, (FG_performAccess σ a1) = z := ⟨_, rfl⟩
      refine o_call (As := [.int a1]) (rest := []) (res := r_3) ⟨hx, hb, hml, hown, hts⟩ (by rw [← hr_3]; exact (kX0_performAccess l D q cA _ σ a1)) (cwV 1 hts (gV wd_246 wd_248 wd_19 wd_38 wd_249) rfl rfl rfl (by decide +kernel) ⟨Nat.le_of_ble_eq_true rfl, Nat.le_of_ble_eq_true rfl⟩) hK hP hD hS hA (va_recv hK hP (ci := 0) (q0 := 0) rfl rfl) rfl hl.1 rfl (Nat.le_of_ble_eq_true rfl) dX0_perform_31 (fun H locs hP hD hS => ?_)
      exact o_ret hx hb hr hlk hK hP hD hS (by subst hr_3; rw [← hF, FG_perform, if_neg c_1, if_pos c_2]) dX0_perform_34
    · skip
      refine lv_aload_n hx hb dX0_perform_21 rfl (lv_at hl 1 rfl) ?_
      refine lv_iload_n hx hb dX0_perform_22 rfl (lv_at hl 2 rfl) ?_
      obtain ⟨r_4, hr_4⟩ : ∃ z, (FG_performImmediate σ a1) = z := ⟨_, rfl⟩
      refine o_call (As := [.int a1]) (rest := []) (res := r_4) ⟨hx, hb, hml, hown, hts⟩ (by rw [← hr_4]; exact (kX0_performImmediate l D q cA _ σ a1)) (cwV 1 hts (gV wd_238 wd_240 wd_18 wd_38 wd_241) rfl rfl rfl (by decide +kernel) ⟨Nat.le_of_ble_eq_true rfl, Nat.le_of_ble_eq_true rfl⟩) hK hP hD hS hA (va_recv hK hP (ci := 0) (q0 := 0) rfl rfl) rfl hl.1 rfl (Nat.le_of_ble_eq_true rfl) dX0_perform_23 (fun H locs hP hD hS => ?_)
      refine lv_goto (tgt := 34) hx hb dX0_perform_26 (by decide) ?_
      exact o_ret hx hb hr hlk hK hP hD hS (by subst hr_4; rw [← hF, FG_perform, if_neg c_1, if_neg c_2]) dX0_perform_34
  · skip
    refine lv_aload_n hx hb dX0_perform_9 rfl (lv_at hl 1 rfl) ?_
    refine lv_iload_n hx hb dX0_perform_10 rfl (lv_at hl 2 rfl) ?_
    obtain ⟨r_5, hr_5⟩ : ∃ z, (FG_performFunction σ a1) = z := ⟨_, rfl⟩
    refine o_call (As := [.int a1]) (rest := []) (res := r_5) ⟨hx, hb, hml, hown, hts⟩ (by rw [← hr_5]; exact (kX0_performFunction l D q cA _ σ a1 hI)) (cwV 1 hts (gV wd_191 wd_193 wd_8 wd_38 wd_194) rfl rfl rfl (by decide +kernel) ⟨Nat.le_of_ble_eq_true rfl, Nat.le_of_ble_eq_true rfl⟩) hK hP hD hS hA (va_recv hK hP (ci := 0) (q0 := 0) rfl rfl) rfl hl.1 rfl (Nat.le_of_ble_eq_true rfl) dX0_perform_11 (fun H locs hP hD hS => ?_)
    exact o_ret hx hb hr hlk hK hP hD hS (by subst hr_5; rw [← hF, FG_perform, if_pos c_1]) dX0_perform_14
