set_option maxHeartbeats 4000000 in
set_option maxRecDepth 100000 in
theorem kX0_isTurn (l : Launch) (a1 : Int32) : sMet l yX0_isTurn wsX0_isTurn { frames := 1, cells := 0, slots := 0, locals := 20 } [.int a1] (FG_isTurn a1) := by
  refine s_met (cc := cX0_isTurn) (maxL := 3) (ret := some .boolean) (by decide) rfl (Nat.le_of_ble_eq_true rfl) ?_
  intro p e s m args below meth c ls hx hb hr hml hts hown hlk hS hl
  have hl : lv_has ls 3 [(0, .int a1)] := hl
  generalize hF : FG_isTurn a1 = res
  refine lv_iload_n hx hb dX0_isTurn_0 rfl (lv_at hl 0 rfl) ?_
  refine s_call0 (As := [.int a1]) (rest := []) ⟨hx, hb, hml, hown, hts⟩ (kX0_opOf l a1) (cwS 1 hts (gS wd_133 wd_134 wd_38 wd_135) rfl rfl rfl (by decide +kernel) ⟨Nat.le_of_ble_eq_true rfl, Nat.le_of_ble_eq_true rfl⟩) hS rfl hl.1 rfl (Nat.le_of_ble_eq_true rfl) dX0_isTurn_1 (fun H locs hS => ?_)
  refine lv_istore_n (lv' := [(1, .int (FG_opOf a1)), (0, .int a1)]) hx hb dX0_isTurn_4 rfl hl (by decide) rfl (fun ls hl => ?_)
  refine lv_iload_n hx hb dX0_isTurn_5 rfl (lv_at hl 0 rfl) ?_
  refine lv_if_ne (tgt := 33) hx hb dX0_isTurn_6 (by decide) (fun c_1 => ?_) (fun c_1 => ?_)
  · skip
    refine lv_iload_n hx hb dX0_isTurn_33 rfl (lv_at hl 0 rfl) ?_
    refine lv_iconst (v := 1) hx hb dX0_isTurn_34 (by decide) ?_
    refine lv_icmp_ne (tgt := 70) hx hb dX0_isTurn_35 (by decide) (fun c_2 => ?_) (fun c_2 => ?_)
    · skip
      refine lv_iload_n hx hb dX0_isTurn_70 rfl (lv_at hl 0 rfl) ?_
      refine lv_iconst (v := 2) hx hb dX0_isTurn_71 (by decide) ?_
      refine lv_icmp_lt (tgt := 85) hx hb dX0_isTurn_72 (by decide) (fun c_3 => ?_) (fun c_3 => ?_)
      · skip
        refine lv_iconst (v := 0) hx hb dX0_isTurn_85 (by decide) ?_
        exact s_retz hx hb hr hlk hS rfl (by rw [← hF, FG_isTurn, if_neg c_1, if_neg c_2, if_pos c_3]) dX0_isTurn_86
      · skip
        refine lv_iload_n hx hb dX0_isTurn_75 rfl (lv_at hl 0 rfl) ?_
        refine lv_bipush (v := 7) hx hb dX0_isTurn_76 (by decide) ?_
        refine lv_icmp_gt (tgt := 85) hx hb dX0_isTurn_78 (by decide) (fun c_4 => ?_) (fun c_4 => ?_)
        · skip
          refine lv_iconst (v := 0) hx hb dX0_isTurn_85 (by decide) ?_
          exact s_retz hx hb hr hlk hS rfl (by rw [← hF, FG_isTurn, if_neg c_1, if_neg c_2, if_neg c_3, if_pos c_4]) dX0_isTurn_86
        · skip
          refine lv_iconst (v := 1) hx hb dX0_isTurn_81 (by decide) ?_
          refine lv_goto (tgt := 86) hx hb dX0_isTurn_82 (by decide) ?_
          exact s_retz hx hb hr hlk hS rfl (by rw [← hF, FG_isTurn, if_neg c_1, if_neg c_2, if_neg c_3, if_neg c_4]) dX0_isTurn_86
    · skip
      refine lv_iload_n hx hb dX0_isTurn_38 rfl (lv_at hl 1 rfl) ?_
      refine s_call0 (As := [.int a1]) (rest := []) ⟨hx, hb, hml, hown, hts⟩ (kX0_tOf l a1) (cwS 1 hts (gS wd_139 wd_140 wd_38 wd_141) rfl rfl rfl (by decide +kernel) ⟨Nat.le_of_ble_eq_true rfl, Nat.le_of_ble_eq_true rfl⟩) hS rfl hl.1 rfl (Nat.le_of_ble_eq_true rfl) dX0_isTurn_39 (fun H locs hS => ?_)
      refine lv_istore_n (lv' := [(2, .int (FG_tOf a1)), (1, .int (FG_opOf a1)), (0, .int a1)]) hx hb dX0_isTurn_42 rfl hl (by decide) rfl (fun ls hl => ?_)
      refine lv_iload_n hx hb dX0_isTurn_43 rfl (lv_at hl 0 rfl) ?_
      refine lv_if_eq (tgt := 64) hx hb dX0_isTurn_44 (by decide) (fun c_5 => ?_) (fun c_5 => ?_)
      · skip
        refine lv_iconst (v := 1) hx hb dX0_isTurn_64 (by decide) ?_
        refine lv_goto (tgt := 69) hx hb dX0_isTurn_65 (by decide) ?_
        exact s_retz hx hb hr hlk hS rfl (by rw [← hF, FG_isTurn, if_neg c_1, if_pos c_2, if_pos c_5]) dX0_isTurn_69
      · skip
        refine lv_iload_n hx hb dX0_isTurn_47 rfl (lv_at hl 0 rfl) ?_
        refine lv_iconst (v := 1) hx hb dX0_isTurn_48 (by decide) ?_
        refine lv_icmp_eq (tgt := 64) hx hb dX0_isTurn_49 (by decide) (fun c_6 => ?_) (fun c_6 => ?_)
        · skip
          refine lv_iconst (v := 1) hx hb dX0_isTurn_64 (by decide) ?_
          refine lv_goto (tgt := 69) hx hb dX0_isTurn_65 (by decide) ?_
          exact s_retz hx hb hr hlk hS rfl (by rw [← hF, FG_isTurn, if_neg c_1, if_pos c_2, if_neg c_5, if_pos c_6]) dX0_isTurn_69
        · skip
          refine lv_iload_n hx hb dX0_isTurn_52 rfl (lv_at hl 0 rfl) ?_
          refine lv_bipush (v := 16) hx hb dX0_isTurn_53 (by decide) ?_
          refine lv_icmp_eq (tgt := 64) hx hb dX0_isTurn_55 (by decide) (fun c_7 => ?_) (fun c_7 => ?_)
          · skip
            refine lv_iconst (v := 1) hx hb dX0_isTurn_64 (by decide) ?_
            refine lv_goto (tgt := 69) hx hb dX0_isTurn_65 (by decide) ?_
            exact s_retz hx hb hr hlk hS rfl (by rw [← hF, FG_isTurn, if_neg c_1, if_pos c_2, if_neg c_5, if_neg c_6, if_pos c_7]) dX0_isTurn_69
          · skip
            refine lv_iload_n hx hb dX0_isTurn_58 rfl (lv_at hl 0 rfl) ?_
            refine lv_bipush (v := 17) hx hb dX0_isTurn_59 (by decide) ?_
            refine lv_icmp_ne (tgt := 68) hx hb dX0_isTurn_61 (by decide) (fun c_8 => ?_) (fun c_8 => ?_)
            · skip
              refine lv_iconst (v := 0) hx hb dX0_isTurn_68 (by decide) ?_
              exact s_retz hx hb hr hlk hS rfl (by rw [← hF, FG_isTurn, if_neg c_1, if_pos c_2, if_neg c_5, if_neg c_6, if_neg c_7, if_neg c_8]) dX0_isTurn_69
            · skip
              refine lv_iconst (v := 1) hx hb dX0_isTurn_64 (by decide) ?_
              refine lv_goto (tgt := 69) hx hb dX0_isTurn_65 (by decide) ?_
              exact s_retz hx hb hr hlk hS rfl (by rw [← hF, FG_isTurn, if_neg c_1, if_pos c_2, if_neg c_5, if_neg c_6, if_neg c_7, if_pos c_8]) dX0_isTurn_69
  · skip
    refine lv_iload_n hx hb dX0_isTurn_9 rfl (lv_at hl 1 rfl) ?_
    refine s_call0 (As := [.int a1]) (rest := []) ⟨hx, hb, hml, hown, hts⟩ (kX0_fOf l a1) (cwS 1 hts (gS wd_136 wd_137 wd_38 wd_138) rfl rfl rfl (by decide +kernel) ⟨Nat.le_of_ble_eq_true rfl, Nat.le_of_ble_eq_true rfl⟩) hS rfl hl.1 rfl (Nat.le_of_ble_eq_true rfl) dX0_isTurn_10 (fun H locs hS => ?_)
    refine lv_bipush (v := 8) hx hb dX0_isTurn_13 (by decide) ?_
    refine lv_icmp_eq (tgt := 27) hx hb dX0_isTurn_15 (by decide) (fun c_9 => ?_) (fun c_9 => ?_)
    · skip
      refine lv_iconst (v := 1) hx hb dX0_isTurn_27 (by decide) ?_
      refine lv_goto (tgt := 32) hx hb dX0_isTurn_28 (by decide) ?_
      exact s_retz hx hb hr hlk hS rfl (by rw [← hF, FG_isTurn, if_pos c_1, if_pos c_9]) dX0_isTurn_32
    · skip
      refine lv_iload_n hx hb dX0_isTurn_18 rfl (lv_at hl 1 rfl) ?_
      refine s_call0 (As := [.int a1]) (rest := []) ⟨hx, hb, hml, hown, hts⟩ (kX0_fOf l a1) (cwS 1 hts (gS wd_136 wd_137 wd_38 wd_138) rfl rfl rfl (by decide +kernel) ⟨Nat.le_of_ble_eq_true rfl, Nat.le_of_ble_eq_true rfl⟩) hS rfl hl.1 rfl (Nat.le_of_ble_eq_true rfl) dX0_isTurn_19 (fun H locs hS => ?_)
      refine lv_bipush (v := 9) hx hb dX0_isTurn_22 (by decide) ?_
      refine lv_icmp_ne (tgt := 31) hx hb dX0_isTurn_24 (by decide) (fun c_10 => ?_) (fun c_10 => ?_)
      · skip
        refine lv_iconst (v := 0) hx hb dX0_isTurn_31 (by decide) ?_
        exact s_retz hx hb hr hlk hS rfl (by rw [← hF, FG_isTurn, if_pos c_1, if_neg c_9, if_neg c_10]) dX0_isTurn_32
      · skip
        refine lv_iconst (v := 1) hx hb dX0_isTurn_27 (by decide) ?_
        refine lv_goto (tgt := 32) hx hb dX0_isTurn_28 (by decide) ?_
        exact s_retz hx hb hr hlk hS rfl (by rw [← hF, FG_isTurn, if_pos c_1, if_neg c_9, if_pos c_10]) dX0_isTurn_32
set_option maxHeartbeats 4000000 in
set_option maxRecDepth 100000 in
theorem kX0_isBarredFromSlots (l : Launch) (a1 : Int32) : sMet l yX0_isBarredFromSlots wsX0_isBarredFromSlots { frames := 2, cells := 0, slots := 0, locals := 42 } [.int a1] (FG_isBarredFromSlots a1) := by
  refine s_met (cc := cX0_isBarredFromSlots) (maxL := 2) (ret := some .boolean) (by decide) rfl (Nat.le_of_ble_eq_true rfl) ?_
  intro p e s m args below meth c ls hx hb hr hml hts hown hlk hS hl
  have hl : lv_has ls 2 [(0, .int a1)] := hl
  generalize hF : FG_isBarredFromSlots a1 = res
  refine lv_iload_n hx hb dX0_isBarredFromSlots_0 rfl (lv_at hl 0 rfl) ?_
  refine s_call0 (As := [.int a1]) (rest := []) ⟨hx, hb, hml, hown, hts⟩ (kX0_opOf l a1) (cwS 1 hts (gS wd_133 wd_134 wd_38 wd_135) rfl rfl rfl (by decide +kernel) ⟨Nat.le_of_ble_eq_true rfl, Nat.le_of_ble_eq_true rfl⟩) hS rfl hl.1 rfl (Nat.le_of_ble_eq_true rfl) dX0_isBarredFromSlots_1 (fun H locs hS => ?_)
  refine lv_if_ne (tgt := 29) hx hb dX0_isBarredFromSlots_4 (by decide) (fun c_1 => ?_) (fun c_1 => ?_)
  · skip
    refine lv_iconst (v := 0) hx hb dX0_isBarredFromSlots_29 (by decide) ?_
    refine lv_istore_n (lv' := [(1, .int (0 : Int32)), (0, .int a1)]) hx hb dX0_isBarredFromSlots_30 rfl hl (by decide) rfl (fun ls hl => ?_)
    refine lv_iload_n hx hb dX0_isBarredFromSlots_31 rfl (lv_at hl 0 rfl) ?_
    refine lv_if_ne (tgt := 42) hx hb dX0_isBarredFromSlots_32 (by decide) (fun c0 => absurd c0 (by decide)) (fun _ => ?_)
    refine lv_iload_n hx hb dX0_isBarredFromSlots_35 rfl (lv_at hl 1 rfl) ?_
    refine s_call0 (As := [.int a1]) (rest := []) ⟨hx, hb, hml, hown, hts⟩ (kX0_isTurn l a1) (cwS 1 hts (gS wd_130 wd_131 wd_38 wd_132) rfl rfl rfl (by decide +kernel) ⟨Nat.le_of_ble_eq_true rfl, Nat.le_of_ble_eq_true rfl⟩) hS rfl hl.1 rfl (Nat.le_of_ble_eq_true rfl) dX0_isBarredFromSlots_36 (fun H locs hS => ?_)
    refine lv_if_eq (tgt := 46) hx hb dX0_isBarredFromSlots_39 (by decide) (fun c_2 => ?_) (fun c_2 => ?_)
    · skip
      refine lv_iconst (v := 0) hx hb dX0_isBarredFromSlots_46 (by decide) ?_
      exact s_retz hx hb hr hlk hS rfl (by rw [← hF, FG_isBarredFromSlots, if_neg c_1, if_pos c_2]) dX0_isBarredFromSlots_47
    · skip
      refine lv_iconst (v := 1) hx hb dX0_isBarredFromSlots_42 (by decide) ?_
      refine lv_goto (tgt := 47) hx hb dX0_isBarredFromSlots_43 (by decide) ?_
      exact s_retz hx hb hr hlk hS rfl (by rw [← hF, FG_isBarredFromSlots, if_neg c_1, if_neg c_2]) dX0_isBarredFromSlots_47
  · skip
    refine lv_iload_n hx hb dX0_isBarredFromSlots_7 rfl (lv_at hl 0 rfl) ?_
    refine s_call0 (As := [.int a1]) (rest := []) ⟨hx, hb, hml, hown, hts⟩ (kX0_fOf l a1) (cwS 1 hts (gS wd_136 wd_137 wd_38 wd_138) rfl rfl rfl (by decide +kernel) ⟨Nat.le_of_ble_eq_true rfl, Nat.le_of_ble_eq_true rfl⟩) hS rfl hl.1 rfl (Nat.le_of_ble_eq_true rfl) dX0_isBarredFromSlots_8 (fun H locs hS => ?_)
    refine lv_bipush (v := 12) hx hb dX0_isBarredFromSlots_11 (by decide) ?_
    refine lv_icmp_eq (tgt := 25) hx hb dX0_isBarredFromSlots_13 (by decide) (fun c_3 => ?_) (fun c_3 => ?_)
    · skip
      refine lv_iconst (v := 1) hx hb dX0_isBarredFromSlots_25 (by decide) ?_
      refine lv_goto (tgt := 30) hx hb dX0_isBarredFromSlots_26 (by decide) ?_
      refine lv_istore_n (lv' := [(1, .int (1 : Int32)), (0, .int a1)]) hx hb dX0_isBarredFromSlots_30 rfl hl (by decide) rfl (fun ls hl => ?_)
      refine lv_iload_n hx hb dX0_isBarredFromSlots_31 rfl (lv_at hl 0 rfl) ?_
      refine lv_if_ne (tgt := 42) hx hb dX0_isBarredFromSlots_32 (by decide) (fun _ => ?_) (fun c0 => absurd c0 (by decide))
      refine lv_iconst (v := 1) hx hb dX0_isBarredFromSlots_42 (by decide) ?_
      refine lv_goto (tgt := 47) hx hb dX0_isBarredFromSlots_43 (by decide) ?_
      exact s_retz hx hb hr hlk hS rfl (by rw [← hF, FG_isBarredFromSlots, if_pos c_1, if_pos c_3]) dX0_isBarredFromSlots_47
    · skip
      refine lv_iload_n hx hb dX0_isBarredFromSlots_16 rfl (lv_at hl 0 rfl) ?_
      refine s_call0 (As := [.int a1]) (rest := []) ⟨hx, hb, hml, hown, hts⟩ (kX0_fOf l a1) (cwS 1 hts (gS wd_136 wd_137 wd_38 wd_138) rfl rfl rfl (by decide +kernel) ⟨Nat.le_of_ble_eq_true rfl, Nat.le_of_ble_eq_true rfl⟩) hS rfl hl.1 rfl (Nat.le_of_ble_eq_true rfl) dX0_isBarredFromSlots_17 (fun H locs hS => ?_)
      refine lv_bipush (v := 13) hx hb dX0_isBarredFromSlots_20 (by decide) ?_
      refine lv_icmp_ne (tgt := 29) hx hb dX0_isBarredFromSlots_22 (by decide) (fun c_4 => ?_) (fun c_4 => ?_)
      · skip
        refine lv_iconst (v := 0) hx hb dX0_isBarredFromSlots_29 (by decide) ?_
        refine lv_istore_n (lv' := [(1, .int (0 : Int32)), (0, .int a1)]) hx hb dX0_isBarredFromSlots_30 rfl hl (by decide) rfl (fun ls hl => ?_)
        refine lv_iload_n hx hb dX0_isBarredFromSlots_31 rfl (lv_at hl 0 rfl) ?_
        refine lv_if_ne (tgt := 42) hx hb dX0_isBarredFromSlots_32 (by decide) (fun c0 => absurd c0 (by decide)) (fun _ => ?_)
        refine lv_iload_n hx hb dX0_isBarredFromSlots_35 rfl (lv_at hl 1 rfl) ?_
        refine s_call0 (As := [.int a1]) (rest := []) ⟨hx, hb, hml, hown, hts⟩ (kX0_isTurn l a1) (cwS 1 hts (gS wd_130 wd_131 wd_38 wd_132) rfl rfl rfl (by decide +kernel) ⟨Nat.le_of_ble_eq_true rfl, Nat.le_of_ble_eq_true rfl⟩) hS rfl hl.1 rfl (Nat.le_of_ble_eq_true rfl) dX0_isBarredFromSlots_36 (fun H locs hS => ?_)
        refine lv_if_eq (tgt := 46) hx hb dX0_isBarredFromSlots_39 (by decide) (fun c_5 => ?_) (fun c_5 => ?_)
        · skip
          refine lv_iconst (v := 0) hx hb dX0_isBarredFromSlots_46 (by decide) ?_
          exact s_retz hx hb hr hlk hS rfl (by rw [← hF, FG_isBarredFromSlots, if_pos c_1, if_neg c_3, if_neg c_4, if_pos c_5]) dX0_isBarredFromSlots_47
        · skip
          refine lv_iconst (v := 1) hx hb dX0_isBarredFromSlots_42 (by decide) ?_
          refine lv_goto (tgt := 47) hx hb dX0_isBarredFromSlots_43 (by decide) ?_
          exact s_retz hx hb hr hlk hS rfl (by rw [← hF, FG_isBarredFromSlots, if_pos c_1, if_neg c_3, if_neg c_4, if_neg c_5]) dX0_isBarredFromSlots_47
      · skip
        refine lv_iconst (v := 1) hx hb dX0_isBarredFromSlots_25 (by decide) ?_
        refine lv_goto (tgt := 30) hx hb dX0_isBarredFromSlots_26 (by decide) ?_
        refine lv_istore_n (lv' := [(1, .int (1 : Int32)), (0, .int a1)]) hx hb dX0_isBarredFromSlots_30 rfl hl (by decide) rfl (fun ls hl => ?_)
        refine lv_iload_n hx hb dX0_isBarredFromSlots_31 rfl (lv_at hl 0 rfl) ?_
        refine lv_if_ne (tgt := 42) hx hb dX0_isBarredFromSlots_32 (by decide) (fun _ => ?_) (fun c0 => absurd c0 (by decide))
        refine lv_iconst (v := 1) hx hb dX0_isBarredFromSlots_42 (by decide) ?_
        refine lv_goto (tgt := 47) hx hb dX0_isBarredFromSlots_43 (by decide) ?_
        exact s_retz hx hb hr hlk hS rfl (by rw [← hF, FG_isBarredFromSlots, if_pos c_1, if_neg c_3, if_pos c_4]) dX0_isBarredFromSlots_47
set_option maxHeartbeats 4000000 in
set_option maxRecDepth 100000 in
theorem kX0_sOf (l : Launch) (a1 : Int32) : sMet l yX0_sOf wsX0_sOf { frames := 0, cells := 0, slots := 0, locals := 0 } [.int a1] (FG_sOf a1) := by
  refine s_met (cc := cX0_sOf) (maxL := 1) (ret := some .int) (by decide) rfl (Nat.le_of_ble_eq_true rfl) ?_
  intro p e s m args below meth c ls hx hb hr hml hts hown hlk hS hl
  have hl : lv_has ls 1 [(0, .int a1)] := hl
  generalize hF : FG_sOf a1 = res
  refine lv_iload_n hx hb dX0_sOf_0 rfl (lv_at hl 0 rfl) ?_
  refine lv_bipush (v := 21) hx hb dX0_sOf_1 (by decide) ?_
  refine lv_iushr (v := (jushr a1 (21 : Int32))) hx hb dX0_sOf_3 rfl ?_
  refine lv_bipush (v := 31) hx hb dX0_sOf_4 (by decide) ?_
  refine lv_iand hx hb dX0_sOf_6 ?_
  exact s_ret hx hb hr hlk hS (by rw [← hF, FG_sOf]) dX0_sOf_7
set_option maxHeartbeats 4000000 in
set_option maxRecDepth 100000 in
theorem kX0_turnGoes (l : Launch) (D : va_G) (q : Nat → Nat) (cA : Nat → ClassId) (sz : Nat) (σ : SG) (a1 : Int32) : oMet l D vwCl (wG q cA) (tG cA) (q 0) sz yX0_turnGoes wsX0_turnGoes { frames := 1, cells := 0, slots := 0, locals := 20 } σ [.int a1] (FG_turnGoes σ a1, σ) := by
  refine o_met (cc := cX0_turnGoes) (maxL := 4) (ret := some .boolean) (by decide) rfl (Nat.le_of_ble_eq_true rfl) ?_
  intro p e s m args below meth c A ls hx hb hr hml hts hown hlk hP hK hD hA hS hl
  have hl : lv_has ls 4 [(0, .ref (q 0)), (1, .int a1)] := hl
  have hin : ∀ w ∈ wsX00, w ∈ wsX0_turnGoes := fun w h => mc (inX0 w h)
  generalize hF : (FG_turnGoes σ a1, σ) = res
  refine lv_aload_n hx hb dX0_turnGoes_0 rfl (lv_at hl 0 rfl) ?_
  refine getX0_rg hx hb hts hin hown hK hP (hts _ (mc wd_53)) dX0_turnGoes_1 ?_
  refine lv_iload_n hx hb dX0_turnGoes_4 rfl (lv_at hl 1 rfl) ?_
  refine s_call (As := [.int a1]) (rest := [.ref (q 3)]) ⟨hx, hb, hml, hown, hts⟩ (kX0_sOf l a1) (cwS 1 hts (gS wd_153 wd_154 wd_38 wd_155) rfl rfl rfl (by decide +kernel) ⟨Nat.le_of_ble_eq_true rfl, Nat.le_of_ble_eq_true rfl⟩) hP hS rfl hl.1 rfl (Nat.le_of_ble_eq_true rfl) dX0_turnGoes_5 (fun H locs hP hS => ?_)
  refine aldX0_rg (f := (grg σ)) hx hb hK hP (in_sOf _) dX0_turnGoes_8 rfl ?_
  refine lv_istore_n (lv' := [(2, .int ((grg σ) (Int32.toNatClampNeg (FG_sOf a1)))), (0, .ref (q 0)), (1, .int a1)]) hx hb dX0_turnGoes_9 rfl hl (by decide) rfl (fun ls hl => ?_)
  refine lv_aload_n hx hb dX0_turnGoes_10 rfl (lv_at hl 1 rfl) ?_
  refine getX0_rg hx hb hts hin hown hK hP (hts _ (mc wd_53)) dX0_turnGoes_11 ?_
  refine lv_iload_n hx hb dX0_turnGoes_14 rfl (lv_at hl 2 rfl) ?_
  refine s_call (As := [.int a1]) (rest := [.ref (q 3)]) ⟨hx, hb, hml, hown, hts⟩ (kX0_tOf l a1) (cwS 1 hts (gS wd_139 wd_140 wd_38 wd_141) rfl rfl rfl (by decide +kernel) ⟨Nat.le_of_ble_eq_true rfl, Nat.le_of_ble_eq_true rfl⟩) hP hS rfl hl.1 rfl (Nat.le_of_ble_eq_true rfl) dX0_turnGoes_15 (fun H locs hP hS => ?_)
  refine aldX0_rg (f := (grg σ)) hx hb hK hP (in_tOf _) dX0_turnGoes_18 rfl ?_
  refine lv_istore_n (lv' := [(3, .int ((grg σ) (Int32.toNatClampNeg (FG_tOf a1)))), (2, .int ((grg σ) (Int32.toNatClampNeg (FG_sOf a1)))), (0, .ref (q 0)), (1, .int a1)]) hx hb dX0_turnGoes_19 rfl hl (by decide) rfl (fun ls hl => ?_)
  refine lv_iload_n hx hb dX0_turnGoes_20 rfl (lv_at hl 3 rfl) ?_
  refine s_call (As := [.int a1]) (rest := []) ⟨hx, hb, hml, hown, hts⟩ (kX0_opOf l a1) (cwS 1 hts (gS wd_133 wd_134 wd_38 wd_135) rfl rfl rfl (by decide +kernel) ⟨Nat.le_of_ble_eq_true rfl, Nat.le_of_ble_eq_true rfl⟩) hP hS rfl hl.1 rfl (Nat.le_of_ble_eq_true rfl) dX0_turnGoes_21 (fun H locs hP hS => ?_)
  by_cases c_1 : (FG_opOf a1) = (1 : Int32)
  · skip
    refine lv_tableIn (tgt := 68) hx hb dX0_turnGoes_24 (by rw [c_1]; decide) (by rw [c_1]; decide) (by rw [c_1]; rfl) (by decide) ?_
    refine lv_iload_n hx hb dX0_turnGoes_68 rfl (lv_at hl 3 rfl) ?_
    refine s_call (As := [.int a1]) (rest := []) ⟨hx, hb, hml, hown, hts⟩ (kX0_tOf l a1) (cwS 1 hts (gS wd_139 wd_140 wd_38 wd_141) rfl rfl rfl (by decide +kernel) ⟨Nat.le_of_ble_eq_true rfl, Nat.le_of_ble_eq_true rfl⟩) hP hS rfl hl.1 rfl (Nat.le_of_ble_eq_true rfl) dX0_turnGoes_69 (fun H locs hP hS => ?_)
    refine lv_iconst (v := 1) hx hb dX0_turnGoes_72 (by decide) ?_
    refine lv_iand hx hb dX0_turnGoes_73 ?_
    refine lv_if_ne (tgt := 89) hx hb dX0_turnGoes_74 (by decide) (fun c_2 => ?_) (fun c_2 => ?_)
    · skip
      refine lv_iload_n hx hb dX0_turnGoes_89 rfl (lv_at hl 1 rfl) ?_
      refine lv_if_lt (tgt := 97) hx hb dX0_turnGoes_90 (by decide) (fun c_3 => ?_) (fun c_3 => ?_)
      · skip
        refine lv_iconst (v := 0) hx hb dX0_turnGoes_97 (by decide) ?_
        exact o_retz hx hb hr hlk hK hP hD hS rfl (by rw [← hF, FG_turnGoes, if_pos c_1, if_neg c_2, if_pos c_3]) dX0_turnGoes_98
      · skip
        refine lv_iconst (v := 1) hx hb dX0_turnGoes_93 (by decide) ?_
        refine lv_goto (tgt := 98) hx hb dX0_turnGoes_94 (by decide) ?_
        exact o_retz hx hb hr hlk hK hP hD hS rfl (by rw [← hF, FG_turnGoes, if_pos c_1, if_neg c_2, if_neg c_3]) dX0_turnGoes_98
    · skip
      refine lv_iload_n hx hb dX0_turnGoes_77 rfl (lv_at hl 1 rfl) ?_
      refine lv_if_ge (tgt := 85) hx hb dX0_turnGoes_78 (by decide) (fun c_4 => ?_) (fun c_4 => ?_)
      · skip
        refine lv_iconst (v := 0) hx hb dX0_turnGoes_85 (by decide) ?_
        refine lv_goto (tgt := 98) hx hb dX0_turnGoes_86 (by decide) ?_
        exact o_retz hx hb hr hlk hK hP hD hS rfl (by rw [← hF, FG_turnGoes, if_pos c_1, if_pos c_2, if_pos c_4]) dX0_turnGoes_98
      · skip
        refine lv_iconst (v := 1) hx hb dX0_turnGoes_81 (by decide) ?_
        refine lv_goto (tgt := 98) hx hb dX0_turnGoes_82 (by decide) ?_
        exact o_retz hx hb hr hlk hK hP hD hS rfl (by rw [← hF, FG_turnGoes, if_pos c_1, if_pos c_2, if_neg c_4]) dX0_turnGoes_98
  · skip
    by_cases c_5 : (FG_opOf a1) = (2 : Int32)
    · skip
      refine lv_tableIn (tgt := 141) hx hb dX0_turnGoes_24 (by rw [c_5]; decide) (by rw [c_5]; decide) (by rw [c_5]; rfl) (by decide) ?_
      refine lv_iconst (v := 1) hx hb dX0_turnGoes_141 (by decide) ?_
      exact o_retz hx hb hr hlk hK hP hD hS rfl (by rw [← hF, FG_turnGoes, if_neg c_1, if_pos c_5]) dX0_turnGoes_142
    · skip
      by_cases c_6 : (FG_opOf a1) = (3 : Int32)
      · skip
        refine lv_tableIn (tgt := 141) hx hb dX0_turnGoes_24 (by rw [c_6]; decide) (by rw [c_6]; decide) (by rw [c_6]; rfl) (by decide) ?_
        refine lv_iconst (v := 1) hx hb dX0_turnGoes_141 (by decide) ?_
        exact o_retz hx hb hr hlk hK hP hD hS rfl (by rw [← hF, FG_turnGoes, if_neg c_1, if_neg c_5, if_pos c_6]) dX0_turnGoes_142
      · skip
        by_cases c_7 : (FG_opOf a1) = (4 : Int32)
        · skip
          refine lv_tableIn (tgt := 99) hx hb dX0_turnGoes_24 (by rw [c_7]; decide) (by rw [c_7]; decide) (by rw [c_7]; rfl) (by decide) ?_
          refine lv_iload_n hx hb dX0_turnGoes_99 rfl (lv_at hl 1 rfl) ?_
          refine lv_iload_n hx hb dX0_turnGoes_100 rfl (lv_at hl 0 rfl) ?_
          refine lv_icmp_ne (tgt := 108) hx hb dX0_turnGoes_101 (by decide) (fun c_8 => ?_) (fun c_8 => ?_)
          · skip
            refine lv_iconst (v := 0) hx hb dX0_turnGoes_108 (by decide) ?_
            exact o_retz hx hb hr hlk hK hP hD hS rfl (by rw [← hF, FG_turnGoes, if_neg c_1, if_neg c_5, if_neg c_6, if_pos c_7, if_neg c_8]) dX0_turnGoes_109
          · skip
            refine lv_iconst (v := 1) hx hb dX0_turnGoes_104 (by decide) ?_
            refine lv_goto (tgt := 109) hx hb dX0_turnGoes_105 (by decide) ?_
            exact o_retz hx hb hr hlk hK hP hD hS rfl (by rw [← hF, FG_turnGoes, if_neg c_1, if_neg c_5, if_neg c_6, if_pos c_7, if_pos c_8]) dX0_turnGoes_109
        · skip
          by_cases c_9 : (FG_opOf a1) = (5 : Int32)
          · skip
            refine lv_tableIn (tgt := 110) hx hb dX0_turnGoes_24 (by rw [c_9]; decide) (by rw [c_9]; decide) (by rw [c_9]; rfl) (by decide) ?_
            refine lv_iload_n hx hb dX0_turnGoes_110 rfl (lv_at hl 1 rfl) ?_
            refine lv_iload_n hx hb dX0_turnGoes_111 rfl (lv_at hl 0 rfl) ?_
            refine lv_icmp_eq (tgt := 119) hx hb dX0_turnGoes_112 (by decide) (fun c_10 => ?_) (fun c_10 => ?_)
            · skip
              refine lv_iconst (v := 0) hx hb dX0_turnGoes_119 (by decide) ?_
              exact o_retz hx hb hr hlk hK hP hD hS rfl (by rw [← hF, FG_turnGoes, if_neg c_1, if_neg c_5, if_neg c_6, if_neg c_7, if_pos c_9, if_pos c_10]) dX0_turnGoes_120
            · skip
              refine lv_iconst (v := 1) hx hb dX0_turnGoes_115 (by decide) ?_
              refine lv_goto (tgt := 120) hx hb dX0_turnGoes_116 (by decide) ?_
              exact o_retz hx hb hr hlk hK hP hD hS rfl (by rw [← hF, FG_turnGoes, if_neg c_1, if_neg c_5, if_neg c_6, if_neg c_7, if_pos c_9, if_neg c_10]) dX0_turnGoes_120
          · skip
            by_cases c_11 : (FG_opOf a1) = (6 : Int32)
            · skip
              refine lv_tableIn (tgt := 121) hx hb dX0_turnGoes_24 (by rw [c_11]; decide) (by rw [c_11]; decide) (by rw [c_11]; rfl) (by decide) ?_
              refine lv_iload_n hx hb dX0_turnGoes_121 rfl (lv_at hl 1 rfl) ?_
              refine lv_if_gt (tgt := 129) hx hb dX0_turnGoes_122 (by decide) (fun c_12 => ?_) (fun c_12 => ?_)
              · skip
                refine lv_iconst (v := 0) hx hb dX0_turnGoes_129 (by decide) ?_
                exact o_retz hx hb hr hlk hK hP hD hS rfl (by rw [← hF, FG_turnGoes, if_neg c_1, if_neg c_5, if_neg c_6, if_neg c_7, if_neg c_9, if_pos c_11, if_pos c_12]) dX0_turnGoes_130
              · skip
                refine lv_iconst (v := 1) hx hb dX0_turnGoes_125 (by decide) ?_
                refine lv_goto (tgt := 130) hx hb dX0_turnGoes_126 (by decide) ?_
                exact o_retz hx hb hr hlk hK hP hD hS rfl (by rw [← hF, FG_turnGoes, if_neg c_1, if_neg c_5, if_neg c_6, if_neg c_7, if_neg c_9, if_pos c_11, if_neg c_12]) dX0_turnGoes_130
            · skip
              by_cases c_13 : (FG_opOf a1) = (7 : Int32)
              · skip
                refine lv_tableIn (tgt := 131) hx hb dX0_turnGoes_24 (by rw [c_13]; decide) (by rw [c_13]; decide) (by rw [c_13]; rfl) (by decide) ?_
                refine lv_iload_n hx hb dX0_turnGoes_131 rfl (lv_at hl 1 rfl) ?_
                refine lv_if_le (tgt := 139) hx hb dX0_turnGoes_132 (by decide) (fun c_14 => ?_) (fun c_14 => ?_)
                · skip
                  refine lv_iconst (v := 0) hx hb dX0_turnGoes_139 (by decide) ?_
                  exact o_retz hx hb hr hlk hK hP hD hS rfl (by rw [← hF, FG_turnGoes, if_neg c_1, if_neg c_5, if_neg c_6, if_neg c_7, if_neg c_9, if_neg c_11, if_pos c_13, if_pos c_14]) dX0_turnGoes_140
                · skip
                  refine lv_iconst (v := 1) hx hb dX0_turnGoes_135 (by decide) ?_
                  refine lv_goto (tgt := 140) hx hb dX0_turnGoes_136 (by decide) ?_
                  exact o_retz hx hb hr hlk hK hP hD hS rfl (by rw [← hF, FG_turnGoes, if_neg c_1, if_neg c_5, if_neg c_6, if_neg c_7, if_neg c_9, if_neg c_11, if_pos c_13, if_neg c_14]) dX0_turnGoes_140
              · skip
                refine lv_tableOut (tgt := 141) hx hb dX0_turnGoes_24 (by have h0 := lv_neT (a := 1) c_1 (by decide); have h1 := lv_neT (a := 2) c_5 (by decide); have h2 := lv_neT (a := 3) c_6 (by decide); have h3 := lv_neT (a := 4) c_7 (by decide); have h4 := lv_neT (a := 5) c_9 (by decide); have h5 := lv_neT (a := 6) c_11 (by decide); have h6 := lv_neT (a := 7) c_13 (by decide); omega) (by decide) ?_
                refine lv_iconst (v := 1) hx hb dX0_turnGoes_141 (by decide) ?_
                exact o_retz hx hb hr hlk hK hP hD hS rfl (by rw [← hF, FG_turnGoes, if_neg c_1, if_neg c_5, if_neg c_6, if_neg c_7, if_neg c_9, if_neg c_11, if_neg c_13]) dX0_turnGoes_142
set_option maxHeartbeats 4000000 in
set_option maxRecDepth 100000 in
theorem kX0_isTextAddress (l : Launch) (D : va_G) (q : Nat → Nat) (cA : Nat → ClassId) (sz : Nat) (σ : SG) (a1 : Int32) : oMet l D vwCl (wG q cA) (tG cA) (q 0) sz yX0_isTextAddress wsX0_isTextAddress { frames := 0, cells := 0, slots := 0, locals := 0 } σ [.int a1] (FG_isTextAddress σ a1, σ) := by
  refine o_met (cc := cX0_isTextAddress) (maxL := 3) (ret := some .boolean) (by decide) rfl (Nat.le_of_ble_eq_true rfl) ?_
  intro p e s m args below meth c A ls hx hb hr hml hts hown hlk hP hK hD hA hS hl
  have hl : lv_has ls 3 [(0, .ref (q 0)), (1, .int a1)] := hl
  have hin : ∀ w ∈ wsX00, w ∈ wsX0_isTextAddress := fun w h => mc (inX0 w h)
  generalize hF : (FG_isTextAddress σ a1, σ) = res
  refine lv_iload_n hx hb dX0_isTextAddress_0 rfl (lv_at hl 1 rfl) ?_
  refine lv_ldc (v := 4194304) hx hb hown (hts _ (mc wd_168)) dX0_isTextAddress_1 ?_
  refine lv_isub hx hb dX0_isTextAddress_3 ?_
  refine lv_istore_n (lv' := [(2, .int (a1 - (4194304 : Int32))), (0, .ref (q 0)), (1, .int a1)]) hx hb dX0_isTextAddress_4 rfl hl (by decide) rfl (fun ls hl => ?_)
  refine lv_iload_n hx hb dX0_isTextAddress_5 rfl (lv_at hl 0 rfl) ?_
  refine lv_if_lt (tgt := 23) hx hb dX0_isTextAddress_6 (by decide) (fun c_1 => ?_) (fun c_1 => ?_)
  · skip
    refine lv_iconst (v := 0) hx hb dX0_isTextAddress_23 (by decide) ?_
    exact o_retz hx hb hr hlk hK hP hD hS rfl (by rw [← hF, FG_isTextAddress, if_pos c_1]) dX0_isTextAddress_24
  · skip
    refine lv_iload_n hx hb dX0_isTextAddress_9 rfl (lv_at hl 0 rfl) ?_
    refine lv_iconst (v := 4) hx hb dX0_isTextAddress_10 (by decide) ?_
    refine lv_aload_n hx hb dX0_isTextAddress_11 rfl (lv_at hl 1 rfl) ?_
    refine getX0_tc (v := (gtc σ)) hx hb hts hin hown hK hP (hts _ (mc wd_52)) dX0_isTextAddress_12 rfl ?_
    refine lv_imul hx hb dX0_isTextAddress_15 ?_
    refine lv_icmp_ge (tgt := 23) hx hb dX0_isTextAddress_16 (by decide) (fun c_2 => ?_) (fun c_2 => ?_)
    · skip
      refine lv_iconst (v := 0) hx hb dX0_isTextAddress_23 (by decide) ?_
      exact o_retz hx hb hr hlk hK hP hD hS rfl (by rw [← hF, FG_isTextAddress, if_neg c_1, if_pos c_2]) dX0_isTextAddress_24
    · skip
      refine lv_iconst (v := 1) hx hb dX0_isTextAddress_19 (by decide) ?_
      refine lv_goto (tgt := 24) hx hb dX0_isTextAddress_20 (by decide) ?_
      exact o_retz hx hb hr hlk hK hP hD hS rfl (by rw [← hF, FG_isTextAddress, if_neg c_1, if_neg c_2]) dX0_isTextAddress_24
