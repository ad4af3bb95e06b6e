set_option maxHeartbeats 4000000 in
set_option maxRecDepth 100000 in
theorem kX0_stepOfTwo (l : Launch) (D : va_G) (q : Nat → Nat) (cA : Nat → ClassId) (sz : Nat) (σ : SG) (a1 : Int32) (hI : IG σ) : oMet l D vwCl (wG q cA) (tG cA) (q 0) sz yX0_stepOfTwo wsX0_stepOfTwo { frames := 5, cells := 0, slots := 0, locals := 113 } σ [.int a1] (FG_stepOfTwo σ a1) := by
  refine o_met (cc := cX0_stepOfTwo) (maxL := 9) (ret := some .int) (by decide) rfl (Nat.le_of_ble_eq_true rfl) ?_
  intro p e s m args below meth c A ls hx hb hr hml hts hown hlk hP hK hD hA hS hl
  have hl : lv_has ls 9 [(0, .ref (q 0)), (1, .int a1)] := hl
  have hin : ∀ w ∈ wsX00, w ∈ wsX0_stepOfTwo := fun w h => mc (inX0 w h)
  generalize hF : FG_stepOfTwo σ a1 = res
  refine lv_aload_n hx hb dX0_stepOfTwo_0 rfl (lv_at hl 0 rfl) ?_
  refine getX0_pc (v := (gpc σ)) hx hb hts hin hown hK hP (hts _ (mc wd_60)) dX0_stepOfTwo_1 rfl ?_
  refine lv_iconst (v := 1) hx hb dX0_stepOfTwo_4 (by decide) ?_
  refine lv_iadd hx hb dX0_stepOfTwo_5 ?_
  refine lv_istore_n (lv' := [(2, .int ((gpc σ) + (1 : Int32))), (0, .ref (q 0)), (1, .int a1)]) hx hb dX0_stepOfTwo_6 rfl hl (by decide) rfl (fun ls hl => ?_)
  refine lv_aload_n hx hb dX0_stepOfTwo_7 rfl (lv_at hl 1 rfl) ?_
  refine lv_iload_n hx hb dX0_stepOfTwo_8 rfl (lv_at hl 0 rfl) ?_
  refine o_callR (As := [.int ((gpc σ) + (1 : Int32))]) (rest := []) ⟨hx, hb, hml, hown, hts⟩ (kX0_isInText l D q cA _ σ ((gpc σ) + (1 : Int32))) (cwV 1 hts (gV wd_126 wd_128 wd_0 wd_38 wd_129) rfl rfl rfl (by decide +kernel) ⟨Nat.le_of_ble_eq_true rfl, Nat.le_of_ble_eq_true rfl⟩) hK hP hD hS hA (va_recv hK hP (ci := 0) (q0 := 0) rfl rfl) rfl hl.1 rfl (Nat.le_of_ble_eq_true rfl) dX0_stepOfTwo_9 (fun H locs hP hD hS => ?_)
  refine lv_if_ne (tgt := 18) hx hb dX0_stepOfTwo_12 (by decide) (fun c_1 => ?_) (fun c_1 => ?_)
  · skip
    refine lv_aload_n hx hb dX0_stepOfTwo_18 rfl (lv_at hl 1 rfl) ?_
    refine getX0_tx hx hb hts hin hown hK hP (hts _ (mc wd_51)) dX0_stepOfTwo_19 ?_
    refine lv_iload_n hx hb dX0_stepOfTwo_22 rfl (lv_at hl 0 rfl) ?_
    refine aldX0_tx (f := (gtx σ)) hx hb hK hP (in_text hI c_1) dX0_stepOfTwo_23 rfl ?_
    refine lv_istore_n (lv' := [(3, .int ((gtx σ) (Int32.toNatClampNeg ((gpc σ) + (1 : Int32))))), (2, .int ((gpc σ) + (1 : Int32))), (0, .ref (q 0)), (1, .int a1)]) hx hb dX0_stepOfTwo_24 rfl hl (by decide) rfl (fun ls hl => ?_)
    refine lv_iload_n hx hb dX0_stepOfTwo_25 rfl (lv_at hl 0 rfl) ?_
    refine s_call (As := [.int ((gtx σ) (Int32.toNatClampNeg ((gpc σ) + (1 : Int32))))]) (rest := []) ⟨hx, hb, hml, hown, hts⟩ (kX0_isBarredFromSlots l ((gtx σ) (Int32.toNatClampNeg ((gpc σ) + (1 : Int32))))) (cwS 1 hts (gS wd_146 wd_147 wd_38 wd_148) rfl rfl rfl (by decide +kernel) ⟨Nat.le_of_ble_eq_true rfl, Nat.le_of_ble_eq_true rfl⟩) hP hS rfl hl.1 rfl (Nat.le_of_ble_eq_true rfl) dX0_stepOfTwo_26 (fun H locs hP hS => ?_)
    refine lv_if_eq (tgt := 35) hx hb dX0_stepOfTwo_29 (by decide) (fun c_2 => ?_) (fun c_2 => ?_)
    · skip
      refine lv_aload_n hx hb dX0_stepOfTwo_35 rfl (lv_at hl 2 rfl) ?_
      refine lv_iload_n hx hb dX0_stepOfTwo_36 rfl (lv_at hl 3 rfl) ?_
      refine o_callR (As := [.int a1]) (rest := []) ⟨hx, hb, hml, hown, hts⟩ (kX0_turnGoes l D q cA _ σ a1) (cwV 1 hts (gV wd_149 wd_151 wd_2 wd_38 wd_152) rfl rfl rfl (by decide +kernel) ⟨Nat.le_of_ble_eq_true rfl, Nat.le_of_ble_eq_true rfl⟩) hK hP hD hS hA (va_recv hK hP (ci := 0) (q0 := 0) rfl rfl) rfl hl.1 rfl (Nat.le_of_ble_eq_true rfl) dX0_stepOfTwo_37 (fun H locs hP hD hS => ?_)
      refine lv_istore (lv' := [(4, .int (FG_turnGoes σ a1)), (3, .int ((gtx σ) (Int32.toNatClampNeg ((gpc σ) + (1 : Int32))))), (2, .int ((gpc σ) + (1 : Int32))), (0, .ref (q 0)), (1, .int a1)]) hx hb dX0_stepOfTwo_40 hl (by decide) rfl (fun ls hl => ?_)
      refine lv_iload hx hb dX0_stepOfTwo_42 (lv_at hl 0 rfl) ?_
      refine lv_if_eq (tgt := 55) hx hb dX0_stepOfTwo_44 (by decide) (fun c_3 => ?_) (fun c_3 => ?_)
      · skip
        refine lv_iload_n hx hb dX0_stepOfTwo_55 rfl (lv_at hl 2 rfl) ?_
        refine lv_iconst (v := 1) hx hb dX0_stepOfTwo_56 (by decide) ?_
        refine lv_iadd hx hb dX0_stepOfTwo_57 ?_
        refine lv_istore (lv' := [(5, .int (((gpc σ) + (1 : Int32)) + (1 : Int32))), (4, .int (FG_turnGoes σ a1)), (3, .int ((gtx σ) (Int32.toNatClampNeg ((gpc σ) + (1 : Int32))))), (2, .int ((gpc σ) + (1 : Int32))), (0, .ref (q 0)), (1, .int a1)]) hx hb dX0_stepOfTwo_58 hl (by decide) rfl (fun ls hl => ?_)
        refine lv_iload hx hb dX0_stepOfTwo_60 (lv_at hl 1 rfl) ?_
        refine lv_if_eq (tgt := 77) hx hb dX0_stepOfTwo_62 (by decide) (fun _ => ?_) (fun c0 => absurd c_3 c0)
        refine lv_iload_n hx hb dX0_stepOfTwo_77 rfl (lv_at hl 5 rfl) ?_
        refine s_call (As := [.int a1]) (rest := []) ⟨hx, hb, hml, hown, hts⟩ (kX0_linkRegisterOf l a1) (cwS 1 hts (gS wd_177 wd_178 wd_38 wd_179) rfl rfl rfl (by decide +kernel) ⟨Nat.le_of_ble_eq_true rfl, Nat.le_of_ble_eq_true rfl⟩) hP hS rfl hl.1 rfl (Nat.le_of_ble_eq_true rfl) dX0_stepOfTwo_78 (fun H locs hP hS => ?_)
        refine lv_istore (lv' := [(6, .int (FG_linkRegisterOf a1)), (5, .int (((gpc σ) + (1 : Int32)) + (1 : Int32))), (4, .int (FG_turnGoes σ a1)), (3, .int ((gtx σ) (Int32.toNatClampNeg ((gpc σ) + (1 : Int32))))), (2, .int ((gpc σ) + (1 : Int32))), (0, .ref (q 0)), (1, .int a1)]) hx hb dX0_stepOfTwo_81 hl (by decide) rfl (fun ls hl => ?_)
        refine lv_aload_n hx hb dX0_stepOfTwo_83 rfl (lv_at hl 5 rfl) ?_
        refine getX0_rg hx hb hts hin hown hK hP (hts _ (mc wd_53)) dX0_stepOfTwo_84 ?_
        refine lv_iload hx hb dX0_stepOfTwo_87 (lv_at hl 0 rfl) ?_
        refine aldX0_rg (f := (grg σ)) hx hb hK hP (in_linkRegisterOf _) dX0_stepOfTwo_89 rfl ?_
        refine lv_istore (lv' := [(7, .int ((grg σ) (Int32.toNatClampNeg (FG_linkRegisterOf a1)))), (6, .int (FG_linkRegisterOf a1)), (5, .int (((gpc σ) + (1 : Int32)) + (1 : Int32))), (4, .int (FG_turnGoes σ a1)), (3, .int ((gtx σ) (Int32.toNatClampNeg ((gpc σ) + (1 : Int32))))), (2, .int ((gpc σ) + (1 : Int32))), (0, .ref (q 0)), (1, .int a1)]) hx hb dX0_stepOfTwo_90 hl (by decide) rfl (fun ls hl => ?_)
        refine lv_aload_n hx hb dX0_stepOfTwo_92 rfl (lv_at hl 6 rfl) ?_
        refine lv_iload hx hb dX0_stepOfTwo_93 (lv_at hl 1 rfl) ?_
        refine lv_aload_n hx hb dX0_stepOfTwo_95 rfl (lv_at hl 6 rfl) ?_
        refine getX0_pc (v := (gpc σ)) hx hb hts hin hown hK hP (hts _ (mc wd_60)) dX0_stepOfTwo_96 rfl ?_
        refine lv_iconst (v := 2) hx hb dX0_stepOfTwo_99 (by decide) ?_
        refine lv_iadd hx hb dX0_stepOfTwo_100 ?_
        refine s_call (As := [.int ((gpc σ) + (2 : Int32))]) (rest := [.int (FG_linkRegisterOf a1), .ref (q 0)]) ⟨hx, hb, hml, hown, hts⟩ (kX0_addressOf l ((gpc σ) + (2 : Int32))) (cwS 1 hts (gS wd_169 wd_170 wd_38 wd_171) rfl rfl rfl (by decide +kernel) ⟨Nat.le_of_ble_eq_true rfl, Nat.le_of_ble_eq_true rfl⟩) hP hS rfl hl.1 rfl (Nat.le_of_ble_eq_true rfl) dX0_stepOfTwo_101 (fun H locs hP hS => ?_)
        obtain ⟨r_4, hr_4⟩ : ∃ z, (FG_put σ (FG_linkRegisterOf a1) (FG_addressOf ((gpc σ) + (2 : Int32)))) = z := ⟨_, rfl⟩
        refine o_call (As := [.int (FG_linkRegisterOf a1), .int (FG_addressOf ((gpc σ) + (2 : Int32)))]) (rest := []) (res := r_4) ⟨hx, hb, hml, hown, hts⟩ (by rw [← hr_4]; exact (kX0_put l D q cA _ σ (FG_linkRegisterOf a1) (FG_addressOf ((gpc σ) + (2 : Int32))))) (cwV 2 hts (gV wd_183 wd_185 wd_6 wd_38 wd_186) rfl rfl rfl (by decide +kernel) ⟨Nat.le_of_ble_eq_true rfl, Nat.le_of_ble_eq_true rfl⟩) hK hP hD hS hA (va_recv hK hP (ci := 0) (q0 := 0) rfl rfl) rfl hl.1 rfl (Nat.le_of_ble_eq_true rfl) dX0_stepOfTwo_104 (fun H locs hP hD hS => ?_)
        refine lv_pop hx hb dX0_stepOfTwo_107 rfl ?_
        refine lv_aload_n hx hb dX0_stepOfTwo_108 rfl (lv_at hl 6 rfl) ?_
        refine lv_iload_n hx hb dX0_stepOfTwo_109 rfl (lv_at hl 4 rfl) ?_
        obtain ⟨r_5, hr_5⟩ : ∃ z, (FG_perform r_4.2 ((gtx σ) (Int32.toNatClampNeg ((gpc σ) + (1 : Int32))))) = z := ⟨_, rfl⟩
        refine o_call (As := [.int ((gtx σ) (Int32.toNatClampNeg ((gpc σ) + (1 : Int32))))]) (rest := []) (res := r_5) ⟨hx, hb, hml, hown, hts⟩ (by rw [← hr_5]; exact (kX0_perform l D q cA _ r_4.2 ((gtx σ) (Int32.toNatClampNeg ((gpc σ) + (1 : Int32)))) (by subst hr_4; exact (inv_put hI)))) (cwV 1 hts (gV wd_187 wd_189 wd_7 wd_38 wd_190) rfl rfl rfl (by decide +kernel) ⟨Nat.le_of_ble_eq_true rfl, Nat.le_of_ble_eq_true rfl⟩) hK hP hD hS hA (va_recv hK hP (ci := 0) (q0 := 0) rfl rfl) rfl hl.1 rfl (Nat.le_of_ble_eq_true rfl) dX0_stepOfTwo_110 (fun H locs hP hD hS => ?_)
        refine lv_istore (lv' := [(8, .int r_5.1), (7, .int ((grg σ) (Int32.toNatClampNeg (FG_linkRegisterOf a1)))), (6, .int (FG_linkRegisterOf a1)), (5, .int (((gpc σ) + (1 : Int32)) + (1 : Int32))), (4, .int (FG_turnGoes σ a1)), (3, .int ((gtx σ) (Int32.toNatClampNeg ((gpc σ) + (1 : Int32))))), (2, .int ((gpc σ) + (1 : Int32))), (0, .ref (q 0)), (1, .int a1)]) hx hb dX0_stepOfTwo_113 hl (by decide) rfl (fun ls hl => ?_)
        refine lv_iload hx hb dX0_stepOfTwo_115 (lv_at hl 0 rfl) ?_
        refine lv_if_eq (tgt := 132) hx hb dX0_stepOfTwo_117 (by decide) (fun c_6 => ?_) (fun c_6 => ?_)
        · skip
          refine lv_aload_n hx hb dX0_stepOfTwo_132 rfl (lv_at hl 7 rfl) ?_
          refine lv_iload hx hb dX0_stepOfTwo_133 (lv_at hl 3 rfl) ?_
          refine putX0_pc hx hb hts hin hown hK hP hD hS (hts _ (mc wd_60)) dX0_stepOfTwo_135 (fun H locs hP hD hS => ?_)
          refine lv_iconst (v := 0) hx hb dX0_stepOfTwo_138 (by decide) ?_
          exact o_ret hx hb hr hlk hK hP hD hS (by subst hr_4; subst hr_5; rw [← hF, FG_stepOfTwo, if_neg c_1, if_pos c_2, if_pos c_3, if_pos c_6]) dX0_stepOfTwo_139
        · skip
          refine lv_aload_n hx hb dX0_stepOfTwo_120 rfl (lv_at hl 7 rfl) ?_
          refine getX0_rg hx hb hts hin hown hK hP (hts _ (mc wd_53)) dX0_stepOfTwo_121 ?_
          refine lv_iload hx hb dX0_stepOfTwo_124 (lv_at hl 2 rfl) ?_
          refine lv_iload hx hb dX0_stepOfTwo_126 (lv_at hl 1 rfl) ?_
          refine astX0_rg (f := (grg r_5.2)) hx hb hK hP hD hS (by subst hr_4; subst hr_5; exact (in_linkRegisterOf _)) dX0_stepOfTwo_128 rfl (fun H locs hP hD hS => ?_)
          refine lv_iload hx hb dX0_stepOfTwo_129 (lv_at hl 0 rfl) ?_
          exact o_ret hx hb hr hlk hK hP hD hS (by subst hr_4; subst hr_5; rw [← hF, FG_stepOfTwo, if_neg c_1, if_pos c_2, if_pos c_3, if_neg c_6]) dX0_stepOfTwo_131
      · skip
        refine lv_aload_n hx hb dX0_stepOfTwo_47 rfl (lv_at hl 3 rfl) ?_
        refine lv_iload_n hx hb dX0_stepOfTwo_48 rfl (lv_at hl 4 rfl) ?_
        refine o_callR (As := [.int a1]) (rest := []) ⟨hx, hb, hml, hown, hts⟩ (kX0_aimOf l D q cA _ σ a1) (cwV 1 hts (gV wd_156 wd_158 wd_3 wd_38 wd_159) rfl rfl rfl (by decide +kernel) ⟨Nat.le_of_ble_eq_true rfl, Nat.le_of_ble_eq_true rfl⟩) hK hP hD hS hA (va_recv hK hP (ci := 0) (q0 := 0) rfl rfl) rfl hl.1 rfl (Nat.le_of_ble_eq_true rfl) dX0_stepOfTwo_49 (fun H locs hP hD hS => ?_)
        refine lv_goto (tgt := 58) hx hb dX0_stepOfTwo_52 (by decide) ?_
        refine lv_istore (lv' := [(5, .int (FG_aimOf σ a1)), (4, .int (FG_turnGoes σ a1)), (3, .int ((gtx σ) (Int32.toNatClampNeg ((gpc σ) + (1 : Int32))))), (2, .int ((gpc σ) + (1 : Int32))), (0, .ref (q 0)), (1, .int a1)]) hx hb dX0_stepOfTwo_58 hl (by decide) rfl (fun ls hl => ?_)
        refine lv_iload hx hb dX0_stepOfTwo_60 (lv_at hl 1 rfl) ?_
        refine lv_if_eq (tgt := 77) hx hb dX0_stepOfTwo_62 (by decide) (fun c0 => absurd c0 c_3) (fun _ => ?_)
        refine lv_aload_n hx hb dX0_stepOfTwo_65 rfl (lv_at hl 4 rfl) ?_
        refine lv_iload hx hb dX0_stepOfTwo_66 (lv_at hl 0 rfl) ?_
        refine o_callR (As := [.int (FG_aimOf σ a1)]) (rest := []) ⟨hx, hb, hml, hown, hts⟩ (kX0_isInText l D q cA _ σ (FG_aimOf σ a1)) (cwV 1 hts (gV wd_126 wd_128 wd_0 wd_38 wd_129) rfl rfl rfl (by decide +kernel) ⟨Nat.le_of_ble_eq_true rfl, Nat.le_of_ble_eq_true rfl⟩) hK hP hD hS hA (va_recv hK hP (ci := 0) (q0 := 0) rfl rfl) rfl hl.1 rfl (Nat.le_of_ble_eq_true rfl) dX0_stepOfTwo_68 (fun H locs hP hD hS => ?_)
        refine lv_if_ne (tgt := 77) hx hb dX0_stepOfTwo_71 (by decide) (fun c_7 => ?_) (fun c_7 => ?_)
        · skip
          refine lv_iload_n hx hb dX0_stepOfTwo_77 rfl (lv_at hl 5 rfl) ?_
          refine s_call (As := [.int a1]) (rest := []) ⟨hx, hb, hml, hown, hts⟩ (kX0_linkRegisterOf l a1) (cwS 1 hts (gS wd_177 wd_178 wd_38 wd_179) rfl rfl rfl (by decide +kernel) ⟨Nat.le_of_ble_eq_true rfl, Nat.le_of_ble_eq_true rfl⟩) hP hS rfl hl.1 rfl (Nat.le_of_ble_eq_true rfl) dX0_stepOfTwo_78 (fun H locs hP hS => ?_)
          refine lv_istore (lv' := [(6, .int (FG_linkRegisterOf a1)), (5, .int (FG_aimOf σ a1)), (4, .int (FG_turnGoes σ a1)), (3, .int ((gtx σ) (Int32.toNatClampNeg ((gpc σ) + (1 : Int32))))), (2, .int ((gpc σ) + (1 : Int32))), (0, .ref (q 0)), (1, .int a1)]) hx hb dX0_stepOfTwo_81 hl (by decide) rfl (fun ls hl => ?_)
          refine lv_aload_n hx hb dX0_stepOfTwo_83 rfl (lv_at hl 5 rfl) ?_
          refine getX0_rg hx hb hts hin hown hK hP (hts _ (mc wd_53)) dX0_stepOfTwo_84 ?_
          refine lv_iload hx hb dX0_stepOfTwo_87 (lv_at hl 0 rfl) ?_
          refine aldX0_rg (f := (grg σ)) hx hb hK hP (in_linkRegisterOf _) dX0_stepOfTwo_89 rfl ?_
          refine lv_istore (lv' := [(7, .int ((grg σ) (Int32.toNatClampNeg (FG_linkRegisterOf a1)))), (6, .int (FG_linkRegisterOf a1)), (5, .int (FG_aimOf σ a1)), (4, .int (FG_turnGoes σ a1)), (3, .int ((gtx σ) (Int32.toNatClampNeg ((gpc σ) + (1 : Int32))))), (2, .int ((gpc σ) + (1 : Int32))), (0, .ref (q 0)), (1, .int a1)]) hx hb dX0_stepOfTwo_90 hl (by decide) rfl (fun ls hl => ?_)
          refine lv_aload_n hx hb dX0_stepOfTwo_92 rfl (lv_at hl 6 rfl) ?_
          refine lv_iload hx hb dX0_stepOfTwo_93 (lv_at hl 1 rfl) ?_
          refine lv_aload_n hx hb dX0_stepOfTwo_95 rfl (lv_at hl 6 rfl) ?_
          refine getX0_pc (v := (gpc σ)) hx hb hts hin hown hK hP (hts _ (mc wd_60)) dX0_stepOfTwo_96 rfl ?_
          refine lv_iconst (v := 2) hx hb dX0_stepOfTwo_99 (by decide) ?_
          refine lv_iadd hx hb dX0_stepOfTwo_100 ?_
          refine s_call (As := [.int ((gpc σ) + (2 : Int32))]) (rest := [.int (FG_linkRegisterOf a1), .ref (q 0)]) ⟨hx, hb, hml, hown, hts⟩ (kX0_addressOf l ((gpc σ) + (2 : Int32))) (cwS 1 hts (gS wd_169 wd_170 wd_38 wd_171) rfl rfl rfl (by decide +kernel) ⟨Nat.le_of_ble_eq_true rfl, Nat.le_of_ble_eq_true rfl⟩) hP hS rfl hl.1 rfl (Nat.le_of_ble_eq_true rfl) dX0_stepOfTwo_101 (fun H locs hP hS => ?_)
          obtain ⟨r_8, hr_8⟩ : ∃ z, (FG_put σ (FG_linkRegisterOf a1) (FG_addressOf ((gpc σ) + (2 : Int32)))) = z := ⟨_, rfl⟩
          refine o_call (As := [.int (FG_linkRegisterOf a1), .int (FG_addressOf ((gpc σ) + (2 : Int32)))]) (rest := []) (res := r_8) ⟨hx, hb, hml, hown, hts⟩ (by rw [← hr_8]; exact (kX0_put l D q cA _ σ (FG_linkRegisterOf a1) (FG_addressOf ((gpc σ) + (2 : Int32))))) (cwV 2 hts (gV wd_183 wd_185 wd_6 wd_38 wd_186) rfl rfl rfl (by decide +kernel) ⟨Nat.le_of_ble_eq_true rfl, Nat.le_of_ble_eq_true rfl⟩) hK hP hD hS hA (va_recv hK hP (ci := 0) (q0 := 0) rfl rfl) rfl hl.1 rfl (Nat.le_of_ble_eq_true rfl) dX0_stepOfTwo_104 (fun H locs hP hD hS => ?_)
          refine lv_pop hx hb dX0_stepOfTwo_107 rfl ?_
          refine lv_aload_n hx hb dX0_stepOfTwo_108 rfl (lv_at hl 6 rfl) ?_
          refine lv_iload_n hx hb dX0_stepOfTwo_109 rfl (lv_at hl 4 rfl) ?_
          obtain ⟨r_9, hr_9⟩ : ∃ z, (FG_perform r_8.2 ((gtx σ) (Int32.toNatClampNeg ((gpc σ) + (1 : Int32))))) = z := ⟨_, rfl⟩
          refine o_call (As := [.int ((gtx σ) (Int32.toNatClampNeg ((gpc σ) + (1 : Int32))))]) (rest := []) (res := r_9) ⟨hx, hb, hml, hown, hts⟩ (by rw [← hr_9]; exact (kX0_perform l D q cA _ r_8.2 ((gtx σ) (Int32.toNatClampNeg ((gpc σ) + (1 : Int32)))) (by subst hr_8; exact (inv_put hI)))) (cwV 1 hts (gV wd_187 wd_189 wd_7 wd_38 wd_190) rfl rfl rfl (by decide +kernel) ⟨Nat.le_of_ble_eq_true rfl, Nat.le_of_ble_eq_true rfl⟩) hK hP hD hS hA (va_recv hK hP (ci := 0) (q0 := 0) rfl rfl) rfl hl.1 rfl (Nat.le_of_ble_eq_true rfl) dX0_stepOfTwo_110 (fun H locs hP hD hS => ?_)
          refine lv_istore (lv' := [(8, .int r_9.1), (7, .int ((grg σ) (Int32.toNatClampNeg (FG_linkRegisterOf a1)))), (6, .int (FG_linkRegisterOf a1)), (5, .int (FG_aimOf σ a1)), (4, .int (FG_turnGoes σ a1)), (3, .int ((gtx σ) (Int32.toNatClampNeg ((gpc σ) + (1 : Int32))))), (2, .int ((gpc σ) + (1 : Int32))), (0, .ref (q 0)), (1, .int a1)]) hx hb dX0_stepOfTwo_113 hl (by decide) rfl (fun ls hl => ?_)
          refine lv_iload hx hb dX0_stepOfTwo_115 (lv_at hl 0 rfl) ?_
          refine lv_if_eq (tgt := 132) hx hb dX0_stepOfTwo_117 (by decide) (fun c_10 => ?_) (fun c_10 => ?_)
          · skip
            refine lv_aload_n hx hb dX0_stepOfTwo_132 rfl (lv_at hl 7 rfl) ?_
            refine lv_iload hx hb dX0_stepOfTwo_133 (lv_at hl 3 rfl) ?_
            refine putX0_pc hx hb hts hin hown hK hP hD hS (hts _ (mc wd_60)) dX0_stepOfTwo_135 (fun H locs hP hD hS => ?_)
            refine lv_iconst (v := 0) hx hb dX0_stepOfTwo_138 (by decide) ?_
            exact o_ret hx hb hr hlk hK hP hD hS (by subst hr_8; subst hr_9; rw [← hF, FG_stepOfTwo, if_neg c_1, if_pos c_2, if_neg c_3, if_neg c_7, if_pos c_10]) dX0_stepOfTwo_139
          · skip
            refine lv_aload_n hx hb dX0_stepOfTwo_120 rfl (lv_at hl 7 rfl) ?_
            refine getX0_rg hx hb hts hin hown hK hP (hts _ (mc wd_53)) dX0_stepOfTwo_121 ?_
            refine lv_iload hx hb dX0_stepOfTwo_124 (lv_at hl 2 rfl) ?_
            refine lv_iload hx hb dX0_stepOfTwo_126 (lv_at hl 1 rfl) ?_
            refine astX0_rg (f := (grg r_9.2)) hx hb hK hP hD hS (by subst hr_8; subst hr_9; exact (in_linkRegisterOf _)) dX0_stepOfTwo_128 rfl (fun H locs hP hD hS => ?_)
            refine lv_iload hx hb dX0_stepOfTwo_129 (lv_at hl 0 rfl) ?_
            exact o_ret hx hb hr hlk hK hP hD hS (by subst hr_8; subst hr_9; rw [← hF, FG_stepOfTwo, if_neg c_1, if_pos c_2, if_neg c_3, if_neg c_7, if_neg c_10]) dX0_stepOfTwo_131
        · skip
          refine lv_bipush (v := 7) hx hb dX0_stepOfTwo_74 (by decide) ?_
          exact o_ret hx hb hr hlk hK hP hD hS (by rw [← hF, FG_stepOfTwo, if_neg c_1, if_pos c_2, if_neg c_3, if_pos c_7]) dX0_stepOfTwo_76
    · skip
      refine lv_bipush (v := 8) hx hb dX0_stepOfTwo_32 (by decide) ?_
      exact o_ret hx hb hr hlk hK hP hD hS (by rw [← hF, FG_stepOfTwo, if_neg c_1, if_neg c_2]) dX0_stepOfTwo_34
  · skip
    refine lv_bipush (v := 7) hx hb dX0_stepOfTwo_15 (by decide) ?_
    exact o_ret hx hb hr hlk hK hP hD hS (by rw [← hF, FG_stepOfTwo, if_pos c_1]) dX0_stepOfTwo_17
set_option maxHeartbeats 4000000 in
set_option maxRecDepth 100000 in
theorem kX0_stepOfOne (l : Launch) (D : va_G) (q : Nat → Nat) (cA : Nat → ClassId) (sz : Nat) (σ : SG) (a1 : Int32) (hI : IG σ) : oMet l D vwCl (wG q cA) (tG cA) (q 0) sz yX0_stepOfOne wsX0_stepOfOne { frames := 5, cells := 0, slots := 0, locals := 113 } σ [.int a1] (FG_stepOfOne σ a1) := by
  refine o_met (cc := cX0_stepOfOne) (maxL := 3) (ret := some .int) (by decide) rfl (Nat.le_of_ble_eq_true rfl) ?_
  intro p e s m args below meth c A ls hx hb hr hml hts hown hlk hP hK hD hA hS hl
  have hl : lv_has ls 3 [(0, .ref (q 0)), (1, .int a1)] := hl
  have hin : ∀ w ∈ wsX00, w ∈ wsX0_stepOfOne := fun w h => mc (inX0 w h)
  generalize hF : FG_stepOfOne σ a1 = res
  refine lv_aload_n hx hb dX0_stepOfOne_0 rfl (lv_at hl 0 rfl) ?_
  refine lv_iload_n hx hb dX0_stepOfOne_1 rfl (lv_at hl 1 rfl) ?_
  obtain ⟨r_1, hr_1⟩ : ∃ z, (FG_perform σ a1) = z := ⟨_, rfl⟩
  refine o_call (As := [.int a1]) (rest := []) (res := r_1) ⟨hx, hb, hml, hown, hts⟩ (by rw [← hr_1]; exact (kX0_perform l D q cA _ σ a1 hI)) (cwV 1 hts (gV wd_187 wd_189 wd_7 wd_38 wd_190) rfl rfl rfl (by decide +kernel) ⟨Nat.le_of_ble_eq_true rfl, Nat.le_of_ble_eq_true rfl⟩) hK hP hD hS hA (va_recv hK hP (ci := 0) (q0 := 0) rfl rfl) rfl hl.1 rfl (Nat.le_of_ble_eq_true rfl) dX0_stepOfOne_2 (fun H locs hP hD hS => ?_)
  refine lv_istore_n (lv' := [(2, .int r_1.1), (0, .ref (q 0)), (1, .int a1)]) hx hb dX0_stepOfOne_5 rfl hl (by decide) rfl (fun ls hl => ?_)
  refine lv_iload_n hx hb dX0_stepOfOne_6 rfl (lv_at hl 0 rfl) ?_
  refine lv_if_ne (tgt := 27) hx hb dX0_stepOfOne_7 (by decide) (fun c_2 => ?_) (fun c_2 => ?_)
  · skip
    refine lv_iload_n hx hb dX0_stepOfOne_27 rfl (lv_at hl 0 rfl) ?_
    exact o_ret hx hb hr hlk hK hP hD hS (by subst hr_1; rw [← hF, FG_stepOfOne, if_neg c_2]) dX0_stepOfOne_28
  · skip
    refine lv_aload_n hx hb dX0_stepOfOne_10 rfl (lv_at hl 1 rfl) ?_
    refine getX0_ou (v := (gou r_1.2)) hx hb hts hin hown hK hP (hts _ (mc wd_62)) dX0_stepOfOne_11 rfl ?_
    refine lv_if_ne (tgt := 27) hx hb dX0_stepOfOne_14 (by decide) (fun c_3 => ?_) (fun c_3 => ?_)
    · skip
      refine lv_iload_n hx hb dX0_stepOfOne_27 rfl (lv_at hl 0 rfl) ?_
      exact o_ret hx hb hr hlk hK hP hD hS (by subst hr_1; rw [← hF, FG_stepOfOne, if_pos c_2, if_neg c_3]) dX0_stepOfOne_28
    · skip
      refine lv_aload_n hx hb dX0_stepOfOne_17 rfl (lv_at hl 1 rfl) ?_
      refine lv_dup hx hb dX0_stepOfOne_18 rfl ?_
      refine getX0_pc (v := (gpc r_1.2)) hx hb hts hin hown hK hP (hts _ (mc wd_60)) dX0_stepOfOne_19 rfl ?_
      refine lv_iconst (v := 1) hx hb dX0_stepOfOne_22 (by decide) ?_
      refine lv_iadd hx hb dX0_stepOfOne_23 ?_
      refine putX0_pc hx hb hts hin hown hK hP hD hS (hts _ (mc wd_60)) dX0_stepOfOne_24 (fun H locs hP hD hS => ?_)
      refine lv_iload_n hx hb dX0_stepOfOne_27 rfl (lv_at hl 0 rfl) ?_
      exact o_ret hx hb hr hlk hK hP hD hS (by subst hr_1; rw [← hF, FG_stepOfOne, if_pos c_2, if_pos c_3]) dX0_stepOfOne_28
