set_option maxHeartbeats 4000000 in
set_option maxRecDepth 100000 in
theorem kX1_leads (l : Launch) (a1 : Int32) : sMet l yX1_leads wsX1_leads { frames := 1, cells := 0, slots := 0, locals := 20 } [.int a1] (FM_leads a1) := by
  refine s_met (cc := cX1_leads) (maxL := 4) (ret := some .boolean) (by decide) rfl (Nat.le_of_ble_eq_true rfl) ?_
  intro p e s m args below meth c ls hx hb hr hml hts hown hlk hS hl
  have hl : lv_has ls 4 [(0, .int a1)] := hl
  generalize hF : FM_leads a1 = res
  refine lv_iload_n hx hb dX1_leads_0 rfl (lv_at hl 0 rfl) ?_
  refine s_call0 (As := [.int a1]) (rest := []) ⟨hx, hb, hml, hown, hts⟩ (kX1_op l a1) (cwS 1 hts (gS wd_378 wd_379 wd_39 wd_380) rfl rfl rfl (by decide +kernel) ⟨Nat.le_of_ble_eq_true rfl, Nat.le_of_ble_eq_true rfl⟩) hS rfl hl.1 rfl (Nat.le_of_ble_eq_true rfl) dX1_leads_1 (fun H locs hS => ?_)
  refine lv_istore_n (lv' := [(1, .int (FM_op a1)), (0, .int a1)]) hx hb dX1_leads_4 rfl hl (by decide) rfl (fun ls hl => ?_)
  refine lv_iload_n hx hb dX1_leads_5 rfl (lv_at hl 1 rfl) ?_
  refine lv_bipush (v := 63) hx hb dX1_leads_6 (by decide) ?_
  refine lv_iand hx hb dX1_leads_8 ?_
  refine lv_istore_n (lv' := [(2, .int (a1 &&& (63 : Int32))), (1, .int (FM_op a1)), (0, .int a1)]) hx hb dX1_leads_9 rfl hl (by decide) rfl (fun ls hl => ?_)
  refine lv_iload_n hx hb dX1_leads_10 rfl (lv_at hl 2 rfl) ?_
  refine s_call0 (As := [.int a1]) (rest := []) ⟨hx, hb, hml, hown, hts⟩ (kX1_second l a1) (cwS 1 hts (gS wd_381 wd_382 wd_39 wd_383) rfl rfl rfl (by decide +kernel) ⟨Nat.le_of_ble_eq_true rfl, Nat.le_of_ble_eq_true rfl⟩) hS rfl hl.1 rfl (Nat.le_of_ble_eq_true rfl) dX1_leads_11 (fun H locs hS => ?_)
  refine lv_istore_n (lv' := [(3, .int (FM_second a1)), (2, .int (a1 &&& (63 : Int32))), (1, .int (FM_op a1)), (0, .int a1)]) hx hb dX1_leads_14 rfl hl (by decide) rfl (fun ls hl => ?_)
  refine lv_iload_n hx hb dX1_leads_15 rfl (lv_at hl 2 rfl) ?_
  refine lv_if_ne (tgt := 31) hx hb dX1_leads_16 (by decide) (fun c_1 => ?_) (fun c_1 => ?_)
  · skip
    refine lv_iload_n hx hb dX1_leads_31 rfl (lv_at hl 2 rfl) ?_
    refine lv_iconst (v := 1) hx hb dX1_leads_32 (by decide) ?_
    refine lv_icmp_ne (tgt := 57) hx hb dX1_leads_33 (by decide) (fun c_2 => ?_) (fun c_2 => ?_)
    · skip
      refine lv_iload_n hx hb dX1_leads_57 rfl (lv_at hl 2 rfl) ?_
      refine lv_iconst (v := 2) hx hb dX1_leads_58 (by decide) ?_
      refine lv_icmp_lt (tgt := 72) hx hb dX1_leads_59 (by decide) (fun c_3 => ?_) (fun c_3 => ?_)
      · skip
        refine lv_iconst (v := 0) hx hb dX1_leads_72 (by decide) ?_
        exact s_retz hx hb hr hlk hS rfl (by rw [← hF, FM_leads, if_neg c_1, if_neg c_2, if_pos c_3]) dX1_leads_73
      · skip
        refine lv_iload_n hx hb dX1_leads_62 rfl (lv_at hl 2 rfl) ?_
        refine lv_bipush (v := 7) hx hb dX1_leads_63 (by decide) ?_
        refine lv_icmp_gt (tgt := 72) hx hb dX1_leads_65 (by decide) (fun c_4 => ?_) (fun c_4 => ?_)
        · skip
          refine lv_iconst (v := 0) hx hb dX1_leads_72 (by decide) ?_
          exact s_retz hx hb hr hlk hS rfl (by rw [← hF, FM_leads, if_neg c_1, if_neg c_2, if_neg c_3, if_pos c_4]) dX1_leads_73
        · skip
          refine lv_iconst (v := 1) hx hb dX1_leads_68 (by decide) ?_
          refine lv_goto (tgt := 73) hx hb dX1_leads_69 (by decide) ?_
          exact s_retz hx hb hr hlk hS rfl (by rw [← hF, FM_leads, if_neg c_1, if_neg c_2, if_neg c_3, if_neg c_4]) dX1_leads_73
    · skip
      refine lv_iload_n hx hb dX1_leads_36 rfl (lv_at hl 0 rfl) ?_
      refine lv_if_eq (tgt := 68) hx hb dX1_leads_37 (by decide) (fun c_5 => ?_) (fun c_5 => ?_)
      · skip
        refine lv_iconst (v := 1) hx hb dX1_leads_68 (by decide) ?_
        refine lv_goto (tgt := 73) hx hb dX1_leads_69 (by decide) ?_
        exact s_retz hx hb hr hlk hS rfl (by rw [← hF, FM_leads, if_neg c_1, if_pos c_2, if_pos c_5]) dX1_leads_73
      · skip
        refine lv_iload_n hx hb dX1_leads_40 rfl (lv_at hl 0 rfl) ?_
        refine lv_iconst (v := 1) hx hb dX1_leads_41 (by decide) ?_
        refine lv_icmp_eq (tgt := 68) hx hb dX1_leads_42 (by decide) (fun c_6 => ?_) (fun c_6 => ?_)
        · skip
          refine lv_iconst (v := 1) hx hb dX1_leads_68 (by decide) ?_
          refine lv_goto (tgt := 73) hx hb dX1_leads_69 (by decide) ?_
          exact s_retz hx hb hr hlk hS rfl (by rw [← hF, FM_leads, if_neg c_1, if_pos c_2, if_neg c_5, if_pos c_6]) dX1_leads_73
        · skip
          refine lv_iload_n hx hb dX1_leads_45 rfl (lv_at hl 0 rfl) ?_
          refine lv_bipush (v := 16) hx hb dX1_leads_46 (by decide) ?_
          refine lv_icmp_eq (tgt := 68) hx hb dX1_leads_48 (by decide) (fun c_7 => ?_) (fun c_7 => ?_)
          · skip
            refine lv_iconst (v := 1) hx hb dX1_leads_68 (by decide) ?_
            refine lv_goto (tgt := 73) hx hb dX1_leads_69 (by decide) ?_
            exact s_retz hx hb hr hlk hS rfl (by rw [← hF, FM_leads, if_neg c_1, if_pos c_2, if_neg c_5, if_neg c_6, if_pos c_7]) dX1_leads_73
          · skip
            refine lv_iload_n hx hb dX1_leads_51 rfl (lv_at hl 0 rfl) ?_
            refine lv_bipush (v := 17) hx hb dX1_leads_52 (by decide) ?_
            refine lv_icmp_eq (tgt := 68) hx hb dX1_leads_54 (by decide) (fun c_8 => ?_) (fun c_8 => ?_)
            · skip
              refine lv_iconst (v := 1) hx hb dX1_leads_68 (by decide) ?_
              refine lv_goto (tgt := 73) hx hb dX1_leads_69 (by decide) ?_
              exact s_retz hx hb hr hlk hS rfl (by rw [← hF, FM_leads, if_neg c_1, if_pos c_2, if_neg c_5, if_neg c_6, if_neg c_7, if_pos c_8]) dX1_leads_73
            · skip
              refine lv_iload_n hx hb dX1_leads_57 rfl (lv_at hl 2 rfl) ?_
              refine lv_iconst (v := 2) hx hb dX1_leads_58 (by decide) ?_
              refine lv_icmp_lt (tgt := 72) hx hb dX1_leads_59 (by decide) (fun c_9 => ?_) (fun c_9 => ?_)
              · skip
                refine lv_iconst (v := 0) hx hb dX1_leads_72 (by decide) ?_
                exact s_retz hx hb hr hlk hS rfl (by rw [← hF, FM_leads, if_neg c_1, if_pos c_2, if_neg c_5, if_neg c_6, if_neg c_7, if_neg c_8, if_pos c_9]) dX1_leads_73
              · skip
                refine lv_iload_n hx hb dX1_leads_62 rfl (lv_at hl 2 rfl) ?_
                refine lv_bipush (v := 7) hx hb dX1_leads_63 (by decide) ?_
                refine lv_icmp_gt (tgt := 72) hx hb dX1_leads_65 (by decide) (fun c_10 => ?_) (fun c_10 => ?_)
                · skip
                  refine lv_iconst (v := 0) hx hb dX1_leads_72 (by decide) ?_
                  exact s_retz hx hb hr hlk hS rfl (by rw [← hF, FM_leads, if_neg c_1, if_pos c_2, if_neg c_5, if_neg c_6, if_neg c_7, if_neg c_8, if_neg c_9, if_pos c_10]) dX1_leads_73
                · skip
                  refine lv_iconst (v := 1) hx hb dX1_leads_68 (by decide) ?_
                  refine lv_goto (tgt := 73) hx hb dX1_leads_69 (by decide) ?_
                  exact s_retz hx hb hr hlk hS rfl (by rw [← hF, FM_leads, if_neg c_1, if_pos c_2, if_neg c_5, if_neg c_6, if_neg c_7, if_neg c_8, if_neg c_9, if_neg c_10]) dX1_leads_73
  · skip
    refine lv_iload_n hx hb dX1_leads_19 rfl (lv_at hl 1 rfl) ?_
    refine lv_bipush (v := 8) hx hb dX1_leads_20 (by decide) ?_
    refine lv_icmp_eq (tgt := 68) hx hb dX1_leads_22 (by decide) (fun c_11 => ?_) (fun c_11 => ?_)
    · skip
      refine lv_iconst (v := 1) hx hb dX1_leads_68 (by decide) ?_
      refine lv_goto (tgt := 73) hx hb dX1_leads_69 (by decide) ?_
      exact s_retz hx hb hr hlk hS rfl (by rw [← hF, FM_leads, if_pos c_1, if_pos c_11]) dX1_leads_73
    · skip
      refine lv_iload_n hx hb dX1_leads_25 rfl (lv_at hl 1 rfl) ?_
      refine lv_bipush (v := 9) hx hb dX1_leads_26 (by decide) ?_
      refine lv_icmp_eq (tgt := 68) hx hb dX1_leads_28 (by decide) (fun c_12 => ?_) (fun c_12 => ?_)
      · skip
        refine lv_iconst (v := 1) hx hb dX1_leads_68 (by decide) ?_
        refine lv_goto (tgt := 73) hx hb dX1_leads_69 (by decide) ?_
        exact s_retz hx hb hr hlk hS rfl (by rw [← hF, FM_leads, if_pos c_1, if_neg c_11, if_pos c_12]) dX1_leads_73
      · skip
        refine lv_iload_n hx hb dX1_leads_31 rfl (lv_at hl 2 rfl) ?_
        refine lv_iconst (v := 1) hx hb dX1_leads_32 (by decide) ?_
        refine lv_icmp_ne (tgt := 57) hx hb dX1_leads_33 (by decide) (fun c_13 => ?_) (fun c_13 => ?_)
        · skip
          refine lv_iload_n hx hb dX1_leads_57 rfl (lv_at hl 2 rfl) ?_
          refine lv_iconst (v := 2) hx hb dX1_leads_58 (by decide) ?_
          refine lv_icmp_lt (tgt := 72) hx hb dX1_leads_59 (by decide) (fun c_14 => ?_) (fun c_14 => ?_)
          · skip
            refine lv_iconst (v := 0) hx hb dX1_leads_72 (by decide) ?_
            exact s_retz hx hb hr hlk hS rfl (by rw [← hF, FM_leads, if_pos c_1, if_neg c_11, if_neg c_12, if_neg c_13, if_pos c_14]) dX1_leads_73
          · skip
            refine lv_iload_n hx hb dX1_leads_62 rfl (lv_at hl 2 rfl) ?_
            refine lv_bipush (v := 7) hx hb dX1_leads_63 (by decide) ?_
            refine lv_icmp_gt (tgt := 72) hx hb dX1_leads_65 (by decide) (fun c_15 => ?_) (fun c_15 => ?_)
            · skip
              refine lv_iconst (v := 0) hx hb dX1_leads_72 (by decide) ?_
              exact s_retz hx hb hr hlk hS rfl (by rw [← hF, FM_leads, if_pos c_1, if_neg c_11, if_neg c_12, if_neg c_13, if_neg c_14, if_pos c_15]) dX1_leads_73
            · skip
              refine lv_iconst (v := 1) hx hb dX1_leads_68 (by decide) ?_
              refine lv_goto (tgt := 73) hx hb dX1_leads_69 (by decide) ?_
              exact s_retz hx hb hr hlk hS rfl (by rw [← hF, FM_leads, if_pos c_1, if_neg c_11, if_neg c_12, if_neg c_13, if_neg c_14, if_neg c_15]) dX1_leads_73
        · skip
          refine lv_iload_n hx hb dX1_leads_36 rfl (lv_at hl 0 rfl) ?_
          refine lv_if_eq (tgt := 68) hx hb dX1_leads_37 (by decide) (fun c_16 => ?_) (fun c_16 => ?_)
          · skip
            refine lv_iconst (v := 1) hx hb dX1_leads_68 (by decide) ?_
            refine lv_goto (tgt := 73) hx hb dX1_leads_69 (by decide) ?_
            exact s_retz hx hb hr hlk hS rfl (by rw [← hF, FM_leads, if_pos c_1, if_neg c_11, if_neg c_12, if_pos c_13, if_pos c_16]) dX1_leads_73
          · skip
            refine lv_iload_n hx hb dX1_leads_40 rfl (lv_at hl 0 rfl) ?_
            refine lv_iconst (v := 1) hx hb dX1_leads_41 (by decide) ?_
            refine lv_icmp_eq (tgt := 68) hx hb dX1_leads_42 (by decide) (fun c_17 => ?_) (fun c_17 => ?_)
            · skip
              refine lv_iconst (v := 1) hx hb dX1_leads_68 (by decide) ?_
              refine lv_goto (tgt := 73) hx hb dX1_leads_69 (by decide) ?_
              exact s_retz hx hb hr hlk hS rfl (by rw [← hF, FM_leads, if_pos c_1, if_neg c_11, if_neg c_12, if_pos c_13, if_neg c_16, if_pos c_17]) dX1_leads_73
            · skip
              refine lv_iload_n hx hb dX1_leads_45 rfl (lv_at hl 0 rfl) ?_
              refine lv_bipush (v := 16) hx hb dX1_leads_46 (by decide) ?_
              refine lv_icmp_eq (tgt := 68) hx hb dX1_leads_48 (by decide) (fun c_18 => ?_) (fun c_18 => ?_)
              · skip
                refine lv_iconst (v := 1) hx hb dX1_leads_68 (by decide) ?_
                refine lv_goto (tgt := 73) hx hb dX1_leads_69 (by decide) ?_
                exact s_retz hx hb hr hlk hS rfl (by rw [← hF, FM_leads, if_pos c_1, if_neg c_11, if_neg c_12, if_pos c_13, if_neg c_16, if_neg c_17, if_pos c_18]) dX1_leads_73
              · skip
                refine lv_iload_n hx hb dX1_leads_51 rfl (lv_at hl 0 rfl) ?_
                refine lv_bipush (v := 17) hx hb dX1_leads_52 (by decide) ?_
                refine lv_icmp_eq (tgt := 68) hx hb dX1_leads_54 (by decide) (fun c_19 => ?_) (fun c_19 => ?_)
                · skip
                  refine lv_iconst (v := 1) hx hb dX1_leads_68 (by decide) ?_
                  refine lv_goto (tgt := 73) hx hb dX1_leads_69 (by decide) ?_
                  exact s_retz hx hb hr hlk hS rfl (by rw [← hF, FM_leads, if_pos c_1, if_neg c_11, if_neg c_12, if_pos c_13, if_neg c_16, if_neg c_17, if_neg c_18, if_pos c_19]) dX1_leads_73
                · skip
                  refine lv_iload_n hx hb dX1_leads_57 rfl (lv_at hl 2 rfl) ?_
                  refine lv_iconst (v := 2) hx hb dX1_leads_58 (by decide) ?_
                  refine lv_icmp_lt (tgt := 72) hx hb dX1_leads_59 (by decide) (fun c_20 => ?_) (fun c_20 => ?_)
                  · skip
                    refine lv_iconst (v := 0) hx hb dX1_leads_72 (by decide) ?_
                    exact s_retz hx hb hr hlk hS rfl (by rw [← hF, FM_leads, if_pos c_1, if_neg c_11, if_neg c_12, if_pos c_13, if_neg c_16, if_neg c_17, if_neg c_18, if_neg c_19, if_pos c_20]) dX1_leads_73
                  · skip
                    refine lv_iload_n hx hb dX1_leads_62 rfl (lv_at hl 2 rfl) ?_
                    refine lv_bipush (v := 7) hx hb dX1_leads_63 (by decide) ?_
                    refine lv_icmp_gt (tgt := 72) hx hb dX1_leads_65 (by decide) (fun c_21 => ?_) (fun c_21 => ?_)
                    · skip
                      refine lv_iconst (v := 0) hx hb dX1_leads_72 (by decide) ?_
                      exact s_retz hx hb hr hlk hS rfl (by rw [← hF, FM_leads, if_pos c_1, if_neg c_11, if_neg c_12, if_pos c_13, if_neg c_16, if_neg c_17, if_neg c_18, if_neg c_19, if_neg c_20, if_pos c_21]) dX1_leads_73
                    · skip
                      refine lv_iconst (v := 1) hx hb dX1_leads_68 (by decide) ?_
                      refine lv_goto (tgt := 73) hx hb dX1_leads_69 (by decide) ?_
                      exact s_retz hx hb hr hlk hS rfl (by rw [← hF, FM_leads, if_pos c_1, if_neg c_11, if_neg c_12, if_pos c_13, if_neg c_16, if_neg c_17, if_neg c_18, if_neg c_19, if_neg c_20, if_neg c_21]) dX1_leads_73
set_option maxHeartbeats 4000000 in
set_option maxRecDepth 100000 in
theorem kX1_calls (l : Launch) (a1 : Int32) : sMet l yX1_calls wsX1_calls { frames := 1, cells := 0, slots := 0, locals := 20 } [.int a1] (FM_calls a1) := by
  refine s_met (cc := cX1_calls) (maxL := 1) (ret := some .boolean) (by decide) rfl (Nat.le_of_ble_eq_true rfl) ?_
  intro p e s m args below meth c ls hx hb hr hml hts hown hlk hS hl
  have hl : lv_has ls 1 [(0, .int a1)] := hl
  generalize hF : FM_calls a1 = res
  refine lv_iload_n hx hb dX1_calls_0 rfl (lv_at hl 0 rfl) ?_
  refine s_call0 (As := [.int a1]) (rest := []) ⟨hx, hb, hml, hown, hts⟩ (kX1_op l a1) (cwS 1 hts (gS wd_378 wd_379 wd_39 wd_380) rfl rfl rfl (by decide +kernel) ⟨Nat.le_of_ble_eq_true rfl, Nat.le_of_ble_eq_true rfl⟩) hS rfl hl.1 rfl (Nat.le_of_ble_eq_true rfl) dX1_calls_1 (fun H locs hS => ?_)
  refine lv_if_ne (tgt := 29) hx hb dX1_calls_4 (by decide) (fun c_1 => ?_) (fun c_1 => ?_)
  · skip
    refine lv_iconst (v := 0) hx hb dX1_calls_29 (by decide) ?_
    exact s_retz hx hb hr hlk hS rfl (by rw [← hF, FM_calls, if_neg c_1]) dX1_calls_30
  · skip
    refine lv_iload_n hx hb dX1_calls_7 rfl (lv_at hl 0 rfl) ?_
    refine lv_bipush (v := 63) hx hb dX1_calls_8 (by decide) ?_
    refine lv_iand hx hb dX1_calls_10 ?_
    refine lv_bipush (v := 12) hx hb dX1_calls_11 (by decide) ?_
    refine lv_icmp_eq (tgt := 25) hx hb dX1_calls_13 (by decide) (fun c_2 => ?_) (fun c_2 => ?_)
    · skip
      refine lv_iconst (v := 1) hx hb dX1_calls_25 (by decide) ?_
      refine lv_goto (tgt := 30) hx hb dX1_calls_26 (by decide) ?_
      exact s_retz hx hb hr hlk hS rfl (by rw [← hF, FM_calls, if_pos c_1, if_pos c_2]) dX1_calls_30
    · skip
      refine lv_iload_n hx hb dX1_calls_16 rfl (lv_at hl 0 rfl) ?_
      refine lv_bipush (v := 63) hx hb dX1_calls_17 (by decide) ?_
      refine lv_iand hx hb dX1_calls_19 ?_
      refine lv_bipush (v := 13) hx hb dX1_calls_20 (by decide) ?_
      refine lv_icmp_ne (tgt := 29) hx hb dX1_calls_22 (by decide) (fun c_3 => ?_) (fun c_3 => ?_)
      · skip
        refine lv_iconst (v := 0) hx hb dX1_calls_29 (by decide) ?_
        exact s_retz hx hb hr hlk hS rfl (by rw [← hF, FM_calls, if_pos c_1, if_neg c_2, if_neg c_3]) dX1_calls_30
      · skip
        refine lv_iconst (v := 1) hx hb dX1_calls_25 (by decide) ?_
        refine lv_goto (tgt := 30) hx hb dX1_calls_26 (by decide) ?_
        exact s_retz hx hb hr hlk hS rfl (by rw [← hF, FM_calls, if_pos c_1, if_neg c_2, if_pos c_3]) dX1_calls_30
