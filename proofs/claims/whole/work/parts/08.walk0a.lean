set_option maxHeartbeats 4000000 in
set_option maxRecDepth 100000 in
theorem kX0_word (l : Launch) (D : va_G) (q : Nat → Nat) (cA : Nat → ClassId) (sz : Nat) (σ : SG) (a1 : Int32) (hI : IG σ) : oMet l D vwCl (wG q cA) (tG cA) (q 0) sz yX0_word wsX0_word { frames := 0, cells := 0, slots := 0, locals := 0 } σ [.int a1] (FG_word σ a1) := by
  refine o_met (cc := cX0_word) (maxL := 2) (ret := some .int) (by decide) rfl (Nat.le_of_ble_eq_true rfl) ?_
  intro p e s m args below meth c A ls hx hb hr hml hts hown hlk hP hK hD hA hS hl
  have hl : lv_has ls 2 [(0, .ref (q 0)), (1, .int a1)] := hl
  have hin : ∀ w ∈ wsX00, w ∈ wsX0_word := fun w h => mc (inX0 w h)
  generalize hF : FG_word σ a1 = res
  refine lv_aload_n hx hb dX0_word_0 rfl (lv_at hl 0 rfl) ?_
  refine getX0_dc (v := (gdc σ)) hx hb hts hin hown hK hP (hts _ (mc wd_50)) dX0_word_1 rfl ?_
  refine lv_bipush (v := 64) hx hb dX0_word_4 (by decide) ?_
  refine lv_icmp_lt (tgt := 12) hx hb dX0_word_6 (by decide) (fun c_1 => ?_) (fun c_1 => ?_)
  · skip
    refine lv_aload_n hx hb dX0_word_12 rfl (lv_at hl 0 rfl) ?_
    refine getX0_dr hx hb hts hin hown hK hP (hts _ (mc wd_49)) dX0_word_13 ?_
    refine lv_aload_n hx hb dX0_word_16 rfl (lv_at hl 0 rfl) ?_
    refine getX0_dc (v := (gdc σ)) hx hb hts hin hown hK hP (hts _ (mc wd_50)) dX0_word_17 rfl ?_
    refine lv_iload_n hx hb dX0_word_20 rfl (lv_at hl 1 rfl) ?_
    refine astX0_dr (f := (gdr σ)) hx hb hK hP hD hS (in_ge0lt hI.1.1 c_1 (by decide)) dX0_word_21 rfl (fun H locs hP hD hS => ?_)
    refine lv_aload_n hx hb dX0_word_22 rfl (lv_at hl 0 rfl) ?_
    refine lv_dup hx hb dX0_word_23 rfl ?_
    refine getX0_dc (v := (gdc σ)) hx hb hts hin hown hK hP (hts _ (mc wd_50)) dX0_word_24 rfl ?_
    refine lv_iconst (v := 1) hx hb dX0_word_27 (by decide) ?_
    refine lv_iadd hx hb dX0_word_28 ?_
    refine putX0_dc hx hb hts hin hown hK hP hD hS (hts _ (mc wd_50)) dX0_word_29 (fun H locs hP hD hS => ?_)
    refine lv_aload_n hx hb dX0_word_32 rfl (lv_at hl 0 rfl) ?_
    refine getX0_dc (v := ((gdc σ) + (1 : Int32))) hx hb hts hin hown hK hP (hts _ (mc wd_50)) dX0_word_33 rfl ?_
    exact o_ret hx hb hr hlk hK hP hD hS (by rw [← hF, FG_word, if_pos c_1]) dX0_word_36
  · skip
    refine lv_bipush (v := -2) hx hb dX0_word_9 (by decide) ?_
    exact o_ret hx hb hr hlk hK hP hD hS (by rw [← hF, FG_word, if_neg c_1]) dX0_word_11
set_option maxHeartbeats 4000000 in
set_option maxRecDepth 100000 in
theorem kX0_set (l : Launch) (D : va_G) (q : Nat → Nat) (cA : Nat → ClassId) (sz : Nat) (σ : SG) (a1 : Int32) (a2 : Int32) (hI : IG σ) : oMet l D vwCl (wG q cA) (tG cA) (q 0) sz yX0_set wsX0_set { frames := 0, cells := 0, slots := 0, locals := 0 } σ [.int a1, .int a2] (FG_set σ a1 a2) := by
  refine o_met (cc := cX0_set) (maxL := 3) (ret := some .int) (by decide) rfl (Nat.le_of_ble_eq_true rfl) ?_
  intro p e s m args below meth c A ls hx hb hr hml hts hown hlk hP hK hD hA hS hl
  have hl : lv_has ls 3 [(0, .ref (q 0)), (1, .int a1), (2, .int a2)] := hl
  have hin : ∀ w ∈ wsX00, w ∈ wsX0_set := fun w h => mc (inX0 w h)
  generalize hF : FG_set σ a1 a2 = res
  refine lv_iload_n hx hb dX0_set_0 rfl (lv_at hl 1 rfl) ?_
  refine lv_if_lt (tgt := 12) hx hb dX0_set_1 (by decide) (fun c_1 => ?_) (fun c_1 => ?_)
  · skip
    refine lv_iconst (v := -1) hx hb dX0_set_12 (by decide) ?_
    exact o_ret hx hb hr hlk hK hP hD hS (by rw [← hF, FG_set, if_pos c_1]) dX0_set_13
  · skip
    refine lv_iload_n hx hb dX0_set_4 rfl (lv_at hl 1 rfl) ?_
    refine lv_aload_n hx hb dX0_set_5 rfl (lv_at hl 0 rfl) ?_
    refine getX0_dc (v := (gdc σ)) hx hb hts hin hown hK hP (hts _ (mc wd_50)) dX0_set_6 rfl ?_
    refine lv_icmp_lt (tgt := 14) hx hb dX0_set_9 (by decide) (fun c_2 => ?_) (fun c_2 => ?_)
    · skip
      refine lv_aload_n hx hb dX0_set_14 rfl (lv_at hl 0 rfl) ?_
      refine getX0_dr hx hb hts hin hown hK hP (hts _ (mc wd_49)) dX0_set_15 ?_
      refine lv_iload_n hx hb dX0_set_18 rfl (lv_at hl 1 rfl) ?_
      refine lv_iload_n hx hb dX0_set_19 rfl (lv_at hl 2 rfl) ?_
      refine astX0_dr (f := (gdr σ)) hx hb hK hP hD hS (in_ge0lt c_1 c_2 hI.1.2) dX0_set_20 rfl (fun H locs hP hD hS => ?_)
      refine lv_iconst (v := 1) hx hb dX0_set_21 (by decide) ?_
      exact o_ret hx hb hr hlk hK hP hD hS (by rw [← hF, FG_set, if_neg c_1, if_pos c_2]) dX0_set_22
    · skip
      refine lv_iconst (v := -1) hx hb dX0_set_12 (by decide) ?_
      exact o_ret hx hb hr hlk hK hP hD hS (by rw [← hF, FG_set, if_neg c_1, if_neg c_2]) dX0_set_13
set_option maxHeartbeats 4000000 in
set_option maxRecDepth 100000 in
theorem kX0_isByte (l : Launch) (a1 : Int32) : sMet l yX0_isByte wsX0_isByte { frames := 0, cells := 0, slots := 0, locals := 0 } [.int a1] (FG_isByte a1) := by
  refine s_met (cc := cX0_isByte) (maxL := 1) (ret := some .boolean) (by decide) rfl (Nat.le_of_ble_eq_true rfl) ?_
  intro p e s m args below meth c ls hx hb hr hml hts hown hlk hS hl
  have hl : lv_has ls 1 [(0, .int a1)] := hl
  generalize hF : FG_isByte a1 = res
  refine lv_iload_n hx hb dX0_isByte_0 rfl (lv_at hl 0 rfl) ?_
  refine lv_if_lt (tgt := 15) hx hb dX0_isByte_1 (by decide) (fun c_1 => ?_) (fun c_1 => ?_)
  · skip
    refine lv_iconst (v := 0) hx hb dX0_isByte_15 (by decide) ?_
    exact s_retz hx hb hr hlk hS rfl (by rw [← hF, FG_isByte, if_pos c_1]) dX0_isByte_16
  · skip
    refine lv_iload_n hx hb dX0_isByte_4 rfl (lv_at hl 0 rfl) ?_
    refine lv_sipush (v := 255) hx hb dX0_isByte_5 (by decide) ?_
    refine lv_icmp_gt (tgt := 15) hx hb dX0_isByte_8 (by decide) (fun c_2 => ?_) (fun c_2 => ?_)
    · skip
      refine lv_iconst (v := 0) hx hb dX0_isByte_15 (by decide) ?_
      exact s_retz hx hb hr hlk hS rfl (by rw [← hF, FG_isByte, if_neg c_1, if_pos c_2]) dX0_isByte_16
    · skip
      refine lv_iconst (v := 1) hx hb dX0_isByte_11 (by decide) ?_
      refine lv_goto (tgt := 16) hx hb dX0_isByte_12 (by decide) ?_
      exact s_retz hx hb hr hlk hS rfl (by rw [← hF, FG_isByte, if_neg c_1, if_neg c_2]) dX0_isByte_16
set_option maxHeartbeats 4000000 in
set_option maxRecDepth 100000 in
theorem kX0_input (l : Launch) (D : va_G) (q : Nat → Nat) (cA : Nat → ClassId) (sz : Nat) (σ : SG) (a1 : Int32) (hI : IG σ) : oMet l D vwCl (wG q cA) (tG cA) (q 0) sz yX0_input wsX0_input { frames := 1, cells := 0, slots := 0, locals := 20 } σ [.int a1] (FG_input σ a1) := by
  refine o_met (cc := cX0_input) (maxL := 2) (ret := some .int) (by decide) rfl (Nat.le_of_ble_eq_true rfl) ?_
  intro p e s m args below meth c A ls hx hb hr hml hts hown hlk hP hK hD hA hS hl
  have hl : lv_has ls 2 [(0, .ref (q 0)), (1, .int a1)] := hl
  have hin : ∀ w ∈ wsX00, w ∈ wsX0_input := fun w h => mc (inX0 w h)
  generalize hF : FG_input σ a1 = res
  refine lv_iload_n hx hb dX0_input_0 rfl (lv_at hl 1 rfl) ?_
  refine s_call (As := [.int a1]) (rest := []) ⟨hx, hb, hml, hown, hts⟩ (kX0_isByte l a1) (cwS 1 hts (gS wd_108 wd_109 wd_38 wd_110) rfl rfl rfl (by decide +kernel) ⟨Nat.le_of_ble_eq_true rfl, Nat.le_of_ble_eq_true rfl⟩) hP hS rfl hl.1 rfl (Nat.le_of_ble_eq_true rfl) dX0_input_1 (fun H locs hP hS => ?_)
  refine lv_if_ne (tgt := 9) hx hb dX0_input_4 (by decide) (fun c_1 => ?_) (fun c_1 => ?_)
  · skip
    refine lv_aload_n hx hb dX0_input_9 rfl (lv_at hl 0 rfl) ?_
    refine getX0_ic (v := (gic σ)) hx hb hts hin hown hK hP (hts _ (mc wd_56)) dX0_input_10 rfl ?_
    refine lv_bipush (v := 64) hx hb dX0_input_13 (by decide) ?_
    refine lv_icmp_lt (tgt := 21) hx hb dX0_input_15 (by decide) (fun c_2 => ?_) (fun c_2 => ?_)
    · skip
      refine lv_aload_n hx hb dX0_input_21 rfl (lv_at hl 0 rfl) ?_
      refine getX0_ti hx hb hts hin hown hK hP (hts _ (mc wd_55)) dX0_input_22 ?_
      refine lv_aload_n hx hb dX0_input_25 rfl (lv_at hl 0 rfl) ?_
      refine getX0_ic (v := (gic σ)) hx hb hts hin hown hK hP (hts _ (mc wd_56)) dX0_input_26 rfl ?_
      refine lv_iload_n hx hb dX0_input_29 rfl (lv_at hl 1 rfl) ?_
      refine astX0_ti (f := (gti σ)) hx hb hK hP hD hS (in_ge0lt hI.2.2.1.1 c_2 (by decide)) dX0_input_30 rfl (fun H locs hP hD hS => ?_)
      refine lv_aload_n hx hb dX0_input_31 rfl (lv_at hl 0 rfl) ?_
      refine lv_dup hx hb dX0_input_32 rfl ?_
      refine getX0_ic (v := (gic σ)) hx hb hts hin hown hK hP (hts _ (mc wd_56)) dX0_input_33 rfl ?_
      refine lv_iconst (v := 1) hx hb dX0_input_36 (by decide) ?_
      refine lv_iadd hx hb dX0_input_37 ?_
      refine putX0_ic hx hb hts hin hown hK hP hD hS (hts _ (mc wd_56)) dX0_input_38 (fun H locs hP hD hS => ?_)
      refine lv_aload_n hx hb dX0_input_41 rfl (lv_at hl 0 rfl) ?_
      refine getX0_ic (v := ((gic σ) + (1 : Int32))) hx hb hts hin hown hK hP (hts _ (mc wd_56)) dX0_input_42 rfl ?_
      exact o_ret hx hb hr hlk hK hP hD hS (by rw [← hF, FG_input, if_neg c_1, if_pos c_2]) dX0_input_45
    · skip
      refine lv_bipush (v := -2) hx hb dX0_input_18 (by decide) ?_
      exact o_ret hx hb hr hlk hK hP hD hS (by rw [← hF, FG_input, if_neg c_1, if_neg c_2]) dX0_input_20
  · skip
    refine lv_iconst (v := -1) hx hb dX0_input_7 (by decide) ?_
    exact o_ret hx hb hr hlk hK hP hD hS (by rw [← hF, FG_input, if_pos c_1]) dX0_input_8
set_option maxHeartbeats 4000000 in
set_option maxRecDepth 100000 in
theorem kX0_isDataIndex (l : Launch) (a1 : Int32) : sMet l yX0_isDataIndex wsX0_isDataIndex { frames := 0, cells := 0, slots := 0, locals := 0 } [.int a1] (FG_isDataIndex a1) := by
  refine s_met (cc := cX0_isDataIndex) (maxL := 1) (ret := some .boolean) (by decide) rfl (Nat.le_of_ble_eq_true rfl) ?_
  intro p e s m args below meth c ls hx hb hr hml hts hown hlk hS hl
  have hl : lv_has ls 1 [(0, .int a1)] := hl
  generalize hF : FG_isDataIndex a1 = res
  refine lv_iload_n hx hb dX0_isDataIndex_0 rfl (lv_at hl 0 rfl) ?_
  refine lv_if_lt (tgt := 15) hx hb dX0_isDataIndex_1 (by decide) (fun c_1 => ?_) (fun c_1 => ?_)
  · skip
    refine lv_iconst (v := 0) hx hb dX0_isDataIndex_15 (by decide) ?_
    exact s_retz hx hb hr hlk hS rfl (by rw [← hF, FG_isDataIndex, if_pos c_1]) dX0_isDataIndex_16
  · skip
    refine lv_iload_n hx hb dX0_isDataIndex_4 rfl (lv_at hl 0 rfl) ?_
    refine lv_sipush (v := 256) hx hb dX0_isDataIndex_5 (by decide) ?_
    refine lv_icmp_ge (tgt := 15) hx hb dX0_isDataIndex_8 (by decide) (fun c_2 => ?_) (fun c_2 => ?_)
    · skip
      refine lv_iconst (v := 0) hx hb dX0_isDataIndex_15 (by decide) ?_
      exact s_retz hx hb hr hlk hS rfl (by rw [← hF, FG_isDataIndex, if_neg c_1, if_pos c_2]) dX0_isDataIndex_16
    · skip
      refine lv_iconst (v := 1) hx hb dX0_isDataIndex_11 (by decide) ?_
      refine lv_goto (tgt := 16) hx hb dX0_isDataIndex_12 (by decide) ?_
      exact s_retz hx hb hr hlk hS rfl (by rw [← hF, FG_isDataIndex, if_neg c_1, if_neg c_2]) dX0_isDataIndex_16
set_option maxHeartbeats 4000000 in
set_option maxRecDepth 100000 in
theorem kX0_data (l : Launch) (D : va_G) (q : Nat → Nat) (cA : Nat → ClassId) (sz : Nat) (σ : SG) (a1 : Int32) (a2 : Int32) : oMet l D vwCl (wG q cA) (tG cA) (q 0) sz yX0_data wsX0_data { frames := 1, cells := 0, slots := 0, locals := 20 } σ [.int a1, .int a2] (FG_data σ a1 a2) := by
  refine o_met (cc := cX0_data) (maxL := 3) (ret := some .int) (by decide) rfl (Nat.le_of_ble_eq_true rfl) ?_
  intro p e s m args below meth c A ls hx hb hr hml hts hown hlk hP hK hD hA hS hl
  have hl : lv_has ls 3 [(0, .ref (q 0)), (1, .int a1), (2, .int a2)] := hl
  have hin : ∀ w ∈ wsX00, w ∈ wsX0_data := fun w h => mc (inX0 w h)
  generalize hF : FG_data σ a1 a2 = res
  refine lv_iload_n hx hb dX0_data_0 rfl (lv_at hl 1 rfl) ?_
  refine s_call (As := [.int a1]) (rest := []) ⟨hx, hb, hml, hown, hts⟩ (kX0_isDataIndex l a1) (cwS 1 hts (gS wd_115 wd_116 wd_38 wd_117) rfl rfl rfl (by decide +kernel) ⟨Nat.le_of_ble_eq_true rfl, Nat.le_of_ble_eq_true rfl⟩) hP hS rfl hl.1 rfl (Nat.le_of_ble_eq_true rfl) dX0_data_1 (fun H locs hP hS => ?_)
  refine lv_if_eq (tgt := 14) hx hb dX0_data_4 (by decide) (fun c_1 => ?_) (fun c_1 => ?_)
  · skip
    refine lv_iconst (v := -1) hx hb dX0_data_14 (by decide) ?_
    exact o_ret hx hb hr hlk hK hP hD hS (by rw [← hF, FG_data, if_pos c_1]) dX0_data_15
  · skip
    refine lv_iload_n hx hb dX0_data_7 rfl (lv_at hl 2 rfl) ?_
    refine s_call (As := [.int a2]) (rest := []) ⟨hx, hb, hml, hown, hts⟩ (kX0_isByte l a2) (cwS 1 hts (gS wd_108 wd_109 wd_38 wd_110) rfl rfl rfl (by decide +kernel) ⟨Nat.le_of_ble_eq_true rfl, Nat.le_of_ble_eq_true rfl⟩) hP hS rfl hl.1 rfl (Nat.le_of_ble_eq_true rfl) dX0_data_8 (fun H locs hP hS => ?_)
    refine lv_if_ne (tgt := 16) hx hb dX0_data_11 (by decide) (fun c_2 => ?_) (fun c_2 => ?_)
    · skip
      refine lv_aload_n hx hb dX0_data_16 rfl (lv_at hl 0 rfl) ?_
      refine getX0_mm hx hb hts hin hown hK hP (hts _ (mc wd_54)) dX0_data_17 ?_
      refine lv_iload_n hx hb dX0_data_20 rfl (lv_at hl 1 rfl) ?_
      refine lv_iload_n hx hb dX0_data_21 rfl (lv_at hl 2 rfl) ?_
      refine astX0_mm (f := (gmm σ)) hx hb hK hP hD hS (in_data c_1) dX0_data_22 rfl (fun H locs hP hD hS => ?_)
      refine lv_iconst (v := 1) hx hb dX0_data_23 (by decide) ?_
      exact o_ret hx hb hr hlk hK hP hD hS (by rw [← hF, FG_data, if_neg c_1, if_neg c_2]) dX0_data_24
    · skip
      refine lv_iconst (v := -1) hx hb dX0_data_14 (by decide) ?_
      exact o_ret hx hb hr hlk hK hP hD hS (by rw [← hF, FG_data, if_neg c_1, if_pos c_2]) dX0_data_15
set_option maxHeartbeats 4000000 in
set_option maxRecDepth 100000 in
theorem kX0_begin (l : Launch) (D : va_G) (q : Nat → Nat) (cA : Nat → ClassId) (sz : Nat) (σ : SG) (hI : IG σ) : oMet l D vwCl (wG q cA) (tG cA) (q 0) sz yX0_begin wsX0_begin { frames := 0, cells := 0, slots := 0, locals := 0 } σ [] (FG_begin σ) := by
  refine o_met (cc := cX0_begin) (maxL := 2) (ret := some .int) (by decide) rfl (Nat.le_of_ble_eq_true rfl) ?_
  intro p e s m args below meth c A ls hx hb hr hml hts hown hlk hP hK hD hA hS hl
  have hl : lv_has ls 2 [(0, .ref (q 0))] := hl
  have hin : ∀ w ∈ wsX00, w ∈ wsX0_begin := fun w h => mc (inX0 w h)
  generalize hF : FG_begin σ = res
  refine lv_iconst (v := 0) hx hb dX0_begin_0 (by decide) ?_
  refine lv_istore_n (lv' := [(1, .int (0 : Int32)), (0, .ref (q 0))]) hx hb dX0_begin_1 rfl hl (by decide) rfl (fun ls hl => ?_)
  have hloop : ∀ (n : Nat) (σ : SG) (x1 : Int32), IG σ ∧ JUp (gdc σ) n x1 → ∀ (res : Int32 × SG), (LG_begin1 n σ x1) = res → ∀ (H : Heap) (locs : List Loc) (ls : Array Slot), va_P D vwCl (wG q cA σ) H → va_D A (wG q cA σ) → va_S A s.heap H locs → lv_has ls 2 [(1, .int x1), (0, .ref (q 0))] → W p l e ({ frames := 0, cells := 0, slots := 0, locals := 0 } : Room) s m args below meth c H locs 0 0 (MQ below (oQ D vwCl (wG q cA) (tG cA) A res) args s 0 0 A) (F0 m 2 ls []) := by
    clear hF
    intro n
    induction n with
    | zero =>
      intro σ x1 hJ
      exact absurd hJ (fun h => jup_0 h.2)
    | succ n ih =>
      intro σ x1 hJ res hF H locs ls hP hD hS hl
      have hI := hJ.1
      refine lv_iload_n hx hb dX0_begin_2 rfl (lv_at hl 0 rfl) ?_
      refine lv_aload_n hx hb dX0_begin_3 rfl (lv_at hl 1 rfl) ?_
      refine getX0_dc (v := (gdc σ)) hx hb hts hin hown hK hP (hts _ (mc wd_50)) dX0_begin_4 rfl ?_
      refine lv_icmp_ge (tgt := 28) hx hb dX0_begin_7 (by decide) (fun c_1 => ?_) (fun c_1 => ?_)
      · skip
        refine lv_aload_n hx hb dX0_begin_28 rfl (lv_at hl 1 rfl) ?_
        refine lv_aload_n hx hb dX0_begin_29 rfl (lv_at hl 1 rfl) ?_
        refine getX0_dc (v := (gdc σ)) hx hb hts hin hown hK hP (hts _ (mc wd_50)) dX0_begin_30 rfl ?_
        refine putX0_tc hx hb hts hin hown hK hP hD hS (hts _ (mc wd_52)) dX0_begin_33 (fun H locs hP hD hS => ?_)
        refine lv_iconst (v := 0) hx hb dX0_begin_36 (by decide) ?_
        refine lv_istore_n (lv' := [(1, .int (0 : Int32)), (0, .ref (q 0))]) hx hb dX0_begin_37 rfl hl (by decide) rfl (fun ls hl => ?_)
        have hloop : ∀ (n : Nat) (σ : SG) (x1 : Int32), IG σ ∧ JUp (34 : Int32) n x1 → ∀ (res : Int32 × SG), (LG_begin2 n σ x1) = res → ∀ (H : Heap) (locs : List Loc) (ls : Array Slot), va_P D vwCl (wG q cA σ) H → va_D A (wG q cA σ) → va_S A s.heap H locs → lv_has ls 2 [(1, .int x1), (0, .ref (q 0))] → W p l e ({ frames := 0, cells := 0, slots := 0, locals := 0 } : Room) s m args below meth c H locs 0 0 (MQ below (oQ D vwCl (wG q cA) (tG cA) A res) args s 0 0 A) (F0 m 38 ls []) := by
          clear hF
          intro n
          induction n with
          | zero =>
            intro σ x1 hJ
            exact absurd hJ (fun h => jup_0 h.2)
          | succ n ih =>
            intro σ x1 hJ res hF H locs ls hP hD hS hl
            have hI := hJ.1
            refine lv_iload_n hx hb dX0_begin_38 rfl (lv_at hl 0 rfl) ?_
            refine lv_bipush (v := 34) hx hb dX0_begin_39 (by decide) ?_
            refine lv_icmp_ge (tgt := 57) hx hb dX0_begin_41 (by decide) (fun c_2 => ?_) (fun c_2 => ?_)
            · skip
              refine lv_aload_n hx hb dX0_begin_57 rfl (lv_at hl 1 rfl) ?_
              refine getX0_rg hx hb hts hin hown hK hP (hts _ (mc wd_53)) dX0_begin_58 ?_
              refine lv_bipush (v := 29) hx hb dX0_begin_61 (by decide) ?_
              refine lv_ldc (v := 268435712) hx hb hown (hts _ (mc wd_48)) dX0_begin_63 ?_
              refine astX0_rg (f := (grg σ)) hx hb hK hP hD hS (in_c (by decide)) dX0_begin_65 rfl (fun H locs hP hD hS => ?_)
              refine lv_aload_n hx hb dX0_begin_66 rfl (lv_at hl 1 rfl) ?_
              refine lv_iconst (v := 0) hx hb dX0_begin_67 (by decide) ?_
              refine putX0_ir hx hb hts hin hown hK hP hD hS (hts _ (mc wd_57)) dX0_begin_68 (fun H locs hP hD hS => ?_)
              refine lv_aload_n hx hb dX0_begin_71 rfl (lv_at hl 1 rfl) ?_
              refine lv_iconst (v := 0) hx hb dX0_begin_72 (by decide) ?_
              refine putX0_oc hx hb hts hin hown hK hP hD hS (hts _ (mc wd_59)) dX0_begin_73 (fun H locs hP hD hS => ?_)
              refine lv_aload_n hx hb dX0_begin_76 rfl (lv_at hl 1 rfl) ?_
              refine lv_iconst (v := 0) hx hb dX0_begin_77 (by decide) ?_
              refine putX0_pc hx hb hts hin hown hK hP hD hS (hts _ (mc wd_60)) dX0_begin_78 (fun H locs hP hD hS => ?_)
              refine lv_aload_n hx hb dX0_begin_81 rfl (lv_at hl 1 rfl) ?_
              refine lv_iconst (v := 0) hx hb dX0_begin_82 (by decide) ?_
              refine putX0_us hx hb hts hin hown hK hP hD hS (hts _ (mc wd_61)) dX0_begin_83 (fun H locs hP hD hS => ?_)
              refine lv_aload_n hx hb dX0_begin_86 rfl (lv_at hl 1 rfl) ?_
              refine lv_iconst (v := 0) hx hb dX0_begin_87 (by decide) ?_
              refine putX0_ou hx hb hts hin hown hK hP hD hS (hts _ (mc wd_62)) dX0_begin_88 (fun H locs hP hD hS => ?_)
              refine lv_aload_n hx hb dX0_begin_91 rfl (lv_at hl 1 rfl) ?_
              refine lv_iconst (v := 0) hx hb dX0_begin_92 (by decide) ?_
              refine putX0_ec hx hb hts hin hown hK hP hD hS (hts _ (mc wd_63)) dX0_begin_93 (fun H locs hP hD hS => ?_)
              refine lv_aload_n hx hb dX0_begin_96 rfl (lv_at hl 1 rfl) ?_
              refine getX0_tc (v := (gtc σ)) hx hb hts hin hown hK hP (hts _ (mc wd_52)) dX0_begin_97 rfl ?_
              exact o_ret hx hb hr hlk hK hP hD hS (by rw [← hF, LG_begin2, if_pos c_2]) dX0_begin_100
            · skip
              refine lv_aload_n hx hb dX0_begin_44 rfl (lv_at hl 1 rfl) ?_
              refine getX0_rg hx hb hts hin hown hK hP (hts _ (mc wd_53)) dX0_begin_45 ?_
              refine lv_iload_n hx hb dX0_begin_48 rfl (lv_at hl 0 rfl) ?_
              refine lv_iconst (v := 0) hx hb dX0_begin_49 (by decide) ?_
              refine astX0_rg (f := (grg σ)) hx hb hK hP hD hS (jup_in hJ.2 c_2 (by decide)) dX0_begin_50 rfl (fun H locs hP hD hS => ?_)
              refine lv_iinc (v := (x1 + 1)) (lv' := [(1, .int (x1 + 1)), (0, .ref (q 0))]) hx hb dX0_begin_51 hl (k := 0) rfl rfl (by decide) rfl (fun ls hl => ?_)
              refine lv_goto (tgt := 38) hx hb dX0_begin_54 (by decide) ?_
              exact ih (srg σ (upd (grg σ) (Int32.toNatClampNeg x1) (0 : Int32))) (x1 + 1) ⟨igs_rg hI, jup_b (k := 34) hJ.2 c_2 (by decide)⟩ _ (by rw [← hF, LG_begin2, if_neg c_2]) _ _ _ hP hD hS (lv_sub hl [0, 1] rfl)
        exact hloop (36) (stc σ (gdc σ)) (0 : Int32) ⟨inv_tc hI, jup_s34⟩ _ (by rw [← hF, LG_begin1, if_pos c_1]) _ _ _ hP hD hS (lv_sub hl [0, 1] rfl)
      · skip
        refine lv_aload_n hx hb dX0_begin_10 rfl (lv_at hl 1 rfl) ?_
        refine getX0_tx hx hb hts hin hown hK hP (hts _ (mc wd_51)) dX0_begin_11 ?_
        refine lv_iload_n hx hb dX0_begin_14 rfl (lv_at hl 0 rfl) ?_
        refine lv_aload_n hx hb dX0_begin_15 rfl (lv_at hl 1 rfl) ?_
        refine getX0_dr hx hb hts hin hown hK hP (hts _ (mc wd_49)) dX0_begin_16 ?_
        refine lv_iload_n hx hb dX0_begin_19 rfl (lv_at hl 0 rfl) ?_
        refine aldX0_dr (f := (gdr σ)) hx hb hK hP (jup_in hJ.2 c_1 hI.1.2) dX0_begin_20 rfl ?_
        refine astX0_tx (f := (gtx σ)) hx hb hK hP hD hS (jup_in hJ.2 c_1 hI.1.2) dX0_begin_21 rfl (fun H locs hP hD hS => ?_)
        refine lv_iinc (v := (x1 + 1)) (lv' := [(1, .int (x1 + 1)), (0, .ref (q 0))]) hx hb dX0_begin_22 hl (k := 0) rfl rfl (by decide) rfl (fun ls hl => ?_)
        refine lv_goto (tgt := 2) hx hb dX0_begin_25 (by decide) ?_
        exact ih (stx σ (upd (gtx σ) (Int32.toNatClampNeg x1) ((gdr σ) (Int32.toNatClampNeg x1)))) (x1 + 1) ⟨igs_tx hI, jup_b hJ.2 c_1 hI.1.2⟩ _ (by rw [← hF, LG_begin1, if_neg c_1]) _ _ _ hP hD hS (lv_sub hl [0, 1] rfl)
  exact hloop (66) σ (0 : Int32) ⟨hI, jup_s hI.1⟩ _ (by rw [← hF, FG_begin]) _ _ _ hP hD hS (lv_sub hl [0, 1] rfl)
set_option maxHeartbeats 4000000 in
set_option maxRecDepth 100000 in
theorem kX0_isInText (l : Launch) (D : va_G) (q : Nat → Nat) (cA : Nat → ClassId) (sz : Nat) (σ : SG) (a1 : Int32) : oMet l D vwCl (wG q cA) (tG cA) (q 0) sz yX0_isInText wsX0_isInText { frames := 0, cells := 0, slots := 0, locals := 0 } σ [.int a1] (FG_isInText σ a1, σ) := by
  refine o_met (cc := cX0_isInText) (maxL := 2) (ret := some .boolean) (by decide) rfl (Nat.le_of_ble_eq_true rfl) ?_
  intro p e s m args below meth c A ls hx hb hr hml hts hown hlk hP hK hD hA hS hl
  have hl : lv_has ls 2 [(0, .ref (q 0)), (1, .int a1)] := hl
  have hin : ∀ w ∈ wsX00, w ∈ wsX0_isInText := fun w h => mc (inX0 w h)
  generalize hF : (FG_isInText σ a1, σ) = res
  refine lv_iload_n hx hb dX0_isInText_0 rfl (lv_at hl 1 rfl) ?_
  refine lv_if_lt (tgt := 16) hx hb dX0_isInText_1 (by decide) (fun c_1 => ?_) (fun c_1 => ?_)
  · skip
    refine lv_iconst (v := 0) hx hb dX0_isInText_16 (by decide) ?_
    exact o_retz hx hb hr hlk hK hP hD hS rfl (by rw [← hF, FG_isInText, if_pos c_1]) dX0_isInText_17
  · skip
    refine lv_iload_n hx hb dX0_isInText_4 rfl (lv_at hl 1 rfl) ?_
    refine lv_aload_n hx hb dX0_isInText_5 rfl (lv_at hl 0 rfl) ?_
    refine getX0_tc (v := (gtc σ)) hx hb hts hin hown hK hP (hts _ (mc wd_52)) dX0_isInText_6 rfl ?_
    refine lv_icmp_ge (tgt := 16) hx hb dX0_isInText_9 (by decide) (fun c_2 => ?_) (fun c_2 => ?_)
    · skip
      refine lv_iconst (v := 0) hx hb dX0_isInText_16 (by decide) ?_
      exact o_retz hx hb hr hlk hK hP hD hS rfl (by rw [← hF, FG_isInText, if_neg c_1, if_pos c_2]) dX0_isInText_17
    · skip
      refine lv_iconst (v := 1) hx hb dX0_isInText_12 (by decide) ?_
      refine lv_goto (tgt := 17) hx hb dX0_isInText_13 (by decide) ?_
      exact o_retz hx hb hr hlk hK hP hD hS rfl (by rw [← hF, FG_isInText, if_neg c_1, if_neg c_2]) dX0_isInText_17
set_option maxHeartbeats 4000000 in
set_option maxRecDepth 100000 in
theorem kX0_opOf (l : Launch) (a1 : Int32) : sMet l yX0_opOf wsX0_opOf { frames := 0, cells := 0, slots := 0, locals := 0 } [.int a1] (FG_opOf a1) := by
  refine s_met (cc := cX0_opOf) (maxL := 1) (ret := some .int) (by decide) rfl (Nat.le_of_ble_eq_true rfl) ?_
  intro p e s m args below meth c ls hx hb hr hml hts hown hlk hS hl
  have hl : lv_has ls 1 [(0, .int a1)] := hl
  generalize hF : FG_opOf a1 = res
  refine lv_iload_n hx hb dX0_opOf_0 rfl (lv_at hl 0 rfl) ?_
  refine lv_bipush (v := 26) hx hb dX0_opOf_1 (by decide) ?_
  refine lv_iushr (v := (jushr a1 (26 : Int32))) hx hb dX0_opOf_3 rfl ?_
  exact s_ret hx hb hr hlk hS (by rw [← hF, FG_opOf]) dX0_opOf_4
set_option maxHeartbeats 4000000 in
set_option maxRecDepth 100000 in
theorem kX0_fOf (l : Launch) (a1 : Int32) : sMet l yX0_fOf wsX0_fOf { frames := 0, cells := 0, slots := 0, locals := 0 } [.int a1] (FG_fOf a1) := by
  refine s_met (cc := cX0_fOf) (maxL := 1) (ret := some .int) (by decide) rfl (Nat.le_of_ble_eq_true rfl) ?_
  intro p e s m args below meth c ls hx hb hr hml hts hown hlk hS hl
  have hl : lv_has ls 1 [(0, .int a1)] := hl
  generalize hF : FG_fOf a1 = res
  refine lv_iload_n hx hb dX0_fOf_0 rfl (lv_at hl 0 rfl) ?_
  refine lv_bipush (v := 63) hx hb dX0_fOf_1 (by decide) ?_
  refine lv_iand hx hb dX0_fOf_3 ?_
  exact s_ret hx hb hr hlk hS (by rw [← hF, FG_fOf]) dX0_fOf_4
set_option maxHeartbeats 4000000 in
set_option maxRecDepth 100000 in
theorem kX0_tOf (l : Launch) (a1 : Int32) : sMet l yX0_tOf wsX0_tOf { frames := 0, cells := 0, slots := 0, locals := 0 } [.int a1] (FG_tOf a1) := by
  refine s_met (cc := cX0_tOf) (maxL := 1) (ret := some .int) (by decide) rfl (Nat.le_of_ble_eq_true rfl) ?_
  intro p e s m args below meth c ls hx hb hr hml hts hown hlk hS hl
  have hl : lv_has ls 1 [(0, .int a1)] := hl
  generalize hF : FG_tOf a1 = res
  refine lv_iload_n hx hb dX0_tOf_0 rfl (lv_at hl 0 rfl) ?_
  refine lv_bipush (v := 16) hx hb dX0_tOf_1 (by decide) ?_
  refine lv_iushr (v := (jushr a1 (16 : Int32))) hx hb dX0_tOf_3 rfl ?_
  refine lv_bipush (v := 31) hx hb dX0_tOf_4 (by decide) ?_
  refine lv_iand hx hb dX0_tOf_6 ?_
  exact s_ret hx hb hr hlk hS (by rw [← hF, FG_tOf]) dX0_tOf_7
