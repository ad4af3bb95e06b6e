set_option maxHeartbeats 4000000 in
set_option maxRecDepth 100000 in
theorem kX1_word (l : Launch) (D : va_G) (q : Nat → Nat) (cA : Nat → ClassId) (sz : Nat) (σ : SM) (a1 : Int32) (hI : IM σ) : oMet l D vwCl (wM q cA) (tM cA) (q 0) sz yX1_word wsX1_word { frames := 0, cells := 0, slots := 0, locals := 0 } σ [.int a1] (FM_word σ a1) := by
  refine o_met (cc := cX1_word) (maxL := 2) (ret := some .int) (by decide) rfl (Nat.le_of_ble_eq_true rfl) ?_
  intro p e s m args below meth c A ls hx hb hr hml hts hown hlk hP hK hD hA hS hl
  have hl : lv_has ls 2 [(0, .ref (q 0)), (1, .int a1)] := hl
  have hin : ∀ w ∈ wsX10, w ∈ wsX1_word := fun w h => mc (inX1 w h)
  generalize hF : FM_word σ a1 = res
  refine lv_aload_n hx hb dX1_word_0 rfl (lv_at hl 0 rfl) ?_
  refine getX1_mts (v := (gmts σ)) hx hb hts hin hown hK hP (hts _ (mc wd_294)) dX1_word_1 rfl ?_
  refine lv_bipush (v := 64) hx hb dX1_word_4 (by decide) ?_
  refine lv_icmp_ne (tgt := 12) hx hb dX1_word_6 (by decide) (fun c_1 => ?_) (fun c_1 => ?_)
  · skip
    refine lv_aload_n hx hb dX1_word_12 rfl (lv_at hl 0 rfl) ?_
    refine getX1_mty hx hb hts hin hown hK hP (hts _ (mc wd_293)) dX1_word_13 ?_
    refine lv_aload_n hx hb dX1_word_16 rfl (lv_at hl 0 rfl) ?_
    refine getX1_mts (v := (gmts σ)) hx hb hts hin hown hK hP (hts _ (mc wd_294)) dX1_word_17 rfl ?_
    refine lv_iload_n hx hb dX1_word_20 rfl (lv_at hl 1 rfl) ?_
    refine astX1_mty (f := (gmty σ)) hx hb hK hP hD hS (in_ne hI.1.1 hI.1.2 c_1 (by decide)) dX1_word_21 rfl (fun H locs hP hD hS => ?_)
    refine lv_aload_n hx hb dX1_word_22 rfl (lv_at hl 0 rfl) ?_
    refine lv_dup hx hb dX1_word_23 rfl ?_
    refine getX1_mts (v := (gmts σ)) hx hb hts hin hown hK hP (hts _ (mc wd_294)) dX1_word_24 rfl ?_
    refine lv_iconst (v := 1) hx hb dX1_word_27 (by decide) ?_
    refine lv_iadd hx hb dX1_word_28 ?_
    refine putX1_mts hx hb hts hin hown hK hP hD hS (hts _ (mc wd_294)) dX1_word_29 (fun H locs hP hD hS => ?_)
    refine lv_aload_n hx hb dX1_word_32 rfl (lv_at hl 0 rfl) ?_
    refine getX1_mts (v := ((gmts σ) + (1 : Int32))) hx hb hts hin hown hK hP (hts _ (mc wd_294)) dX1_word_33 rfl ?_
    exact o_ret hx hb hr hlk hK hP hD hS (by rw [← hF, FM_word, if_neg c_1]) dX1_word_36
  · skip
    refine lv_bipush (v := -2) hx hb dX1_word_9 (by decide) ?_
    exact o_ret hx hb hr hlk hK hP hD hS (by rw [← hF, FM_word, if_pos c_1]) dX1_word_11
set_option maxHeartbeats 4000000 in
set_option maxRecDepth 100000 in
theorem kX1_set (l : Launch) (D : va_G) (q : Nat → Nat) (cA : Nat → ClassId) (sz : Nat) (σ : SM) (a1 : Int32) (a2 : Int32) (hI : IM σ) : oMet l D vwCl (wM q cA) (tM cA) (q 0) sz yX1_set wsX1_set { frames := 0, cells := 0, slots := 0, locals := 0 } σ [.int a1, .int a2] (FM_set σ a1 a2) := by
  refine o_met (cc := cX1_set) (maxL := 3) (ret := some .int) (by decide) rfl (Nat.le_of_ble_eq_true rfl) ?_
  intro p e s m args below meth c A ls hx hb hr hml hts hown hlk hP hK hD hA hS hl
  have hl : lv_has ls 3 [(0, .ref (q 0)), (1, .int a1), (2, .int a2)] := hl
  have hin : ∀ w ∈ wsX10, w ∈ wsX1_set := fun w h => mc (inX1 w h)
  generalize hF : FM_set σ a1 a2 = res
  refine lv_iload_n hx hb dX1_set_0 rfl (lv_at hl 1 rfl) ?_
  refine lv_if_lt (tgt := 12) hx hb dX1_set_1 (by decide) (fun c_1 => ?_) (fun c_1 => ?_)
  · skip
    refine lv_iconst (v := -1) hx hb dX1_set_12 (by decide) ?_
    exact o_ret hx hb hr hlk hK hP hD hS (by rw [← hF, FM_set, if_pos c_1]) dX1_set_13
  · skip
    refine lv_iload_n hx hb dX1_set_4 rfl (lv_at hl 1 rfl) ?_
    refine lv_aload_n hx hb dX1_set_5 rfl (lv_at hl 0 rfl) ?_
    refine getX1_mts (v := (gmts σ)) hx hb hts hin hown hK hP (hts _ (mc wd_294)) dX1_set_6 rfl ?_
    refine lv_icmp_lt (tgt := 14) hx hb dX1_set_9 (by decide) (fun c_2 => ?_) (fun c_2 => ?_)
    · skip
      refine lv_aload_n hx hb dX1_set_14 rfl (lv_at hl 0 rfl) ?_
      refine getX1_mty hx hb hts hin hown hK hP (hts _ (mc wd_293)) dX1_set_15 ?_
      refine lv_iload_n hx hb dX1_set_18 rfl (lv_at hl 1 rfl) ?_
      refine lv_iload_n hx hb dX1_set_19 rfl (lv_at hl 2 rfl) ?_
      refine astX1_mty (f := (gmty σ)) hx hb hK hP hD hS (in_ge0lt c_1 c_2 hI.1.2) dX1_set_20 rfl (fun H locs hP hD hS => ?_)
      refine lv_iconst (v := 1) hx hb dX1_set_21 (by decide) ?_
      exact o_ret hx hb hr hlk hK hP hD hS (by rw [← hF, FM_set, if_neg c_1, if_pos c_2]) dX1_set_22
    · skip
      refine lv_iconst (v := -1) hx hb dX1_set_12 (by decide) ?_
      exact o_ret hx hb hr hlk hK hP hD hS (by rw [← hF, FM_set, if_neg c_1, if_neg c_2]) dX1_set_13
set_option maxHeartbeats 4000000 in
set_option maxRecDepth 100000 in
theorem kX1_input (l : Launch) (D : va_G) (q : Nat → Nat) (cA : Nat → ClassId) (sz : Nat) (σ : SM) (a1 : Int32) (hI : IM σ) : oMet l D vwCl (wM q cA) (tM cA) (q 0) sz yX1_input wsX1_input { frames := 0, cells := 0, slots := 0, locals := 0 } σ [.int a1] (FM_input σ a1) := by
  refine o_met (cc := cX1_input) (maxL := 2) (ret := some .int) (by decide) rfl (Nat.le_of_ble_eq_true rfl) ?_
  intro p e s m args below meth c A ls hx hb hr hml hts hown hlk hP hK hD hA hS hl
  have hl : lv_has ls 2 [(0, .ref (q 0)), (1, .int a1)] := hl
  have hin : ∀ w ∈ wsX10, w ∈ wsX1_input := fun w h => mc (inX1 w h)
  generalize hF : FM_input σ a1 = res
  refine lv_iload_n hx hb dX1_input_0 rfl (lv_at hl 1 rfl) ?_
  refine lv_if_lt (tgt := 11) hx hb dX1_input_1 (by decide) (fun c_1 => ?_) (fun c_1 => ?_)
  · skip
    refine lv_iconst (v := -1) hx hb dX1_input_11 (by decide) ?_
    exact o_ret hx hb hr hlk hK hP hD hS (by rw [← hF, FM_input, if_pos c_1]) dX1_input_12
  · skip
    refine lv_iload_n hx hb dX1_input_4 rfl (lv_at hl 1 rfl) ?_
    refine lv_sipush (v := 255) hx hb dX1_input_5 (by decide) ?_
    refine lv_icmp_le (tgt := 13) hx hb dX1_input_8 (by decide) (fun c_2 => ?_) (fun c_2 => ?_)
    · skip
      refine lv_aload_n hx hb dX1_input_13 rfl (lv_at hl 0 rfl) ?_
      refine getX1_mis (v := (gmis σ)) hx hb hts hin hown hK hP (hts _ (mc wd_299)) dX1_input_14 rfl ?_
      refine lv_bipush (v := 64) hx hb dX1_input_17 (by decide) ?_
      refine lv_icmp_ne (tgt := 25) hx hb dX1_input_19 (by decide) (fun c_3 => ?_) (fun c_3 => ?_)
      · skip
        refine lv_aload_n hx hb dX1_input_25 rfl (lv_at hl 0 rfl) ?_
        refine getX1_min hx hb hts hin hown hK hP (hts _ (mc wd_298)) dX1_input_26 ?_
        refine lv_aload_n hx hb dX1_input_29 rfl (lv_at hl 0 rfl) ?_
        refine getX1_mis (v := (gmis σ)) hx hb hts hin hown hK hP (hts _ (mc wd_299)) dX1_input_30 rfl ?_
        refine lv_iload_n hx hb dX1_input_33 rfl (lv_at hl 1 rfl) ?_
        refine astX1_min (f := (gmin σ)) hx hb hK hP hD hS (in_ne hI.2.2.1.1 hI.2.2.1.2 c_3 (by decide)) dX1_input_34 rfl (fun H locs hP hD hS => ?_)
        refine lv_aload_n hx hb dX1_input_35 rfl (lv_at hl 0 rfl) ?_
        refine lv_dup hx hb dX1_input_36 rfl ?_
        refine getX1_mis (v := (gmis σ)) hx hb hts hin hown hK hP (hts _ (mc wd_299)) dX1_input_37 rfl ?_
        refine lv_iconst (v := 1) hx hb dX1_input_40 (by decide) ?_
        refine lv_iadd hx hb dX1_input_41 ?_
        refine putX1_mis hx hb hts hin hown hK hP hD hS (hts _ (mc wd_299)) dX1_input_42 (fun H locs hP hD hS => ?_)
        refine lv_aload_n hx hb dX1_input_45 rfl (lv_at hl 0 rfl) ?_
        refine getX1_mis (v := ((gmis σ) + (1 : Int32))) hx hb hts hin hown hK hP (hts _ (mc wd_299)) dX1_input_46 rfl ?_
        exact o_ret hx hb hr hlk hK hP hD hS (by rw [← hF, FM_input, if_neg c_1, if_pos c_2, if_neg c_3]) dX1_input_49
      · skip
        refine lv_bipush (v := -2) hx hb dX1_input_22 (by decide) ?_
        exact o_ret hx hb hr hlk hK hP hD hS (by rw [← hF, FM_input, if_neg c_1, if_pos c_2, if_pos c_3]) dX1_input_24
    · skip
      refine lv_iconst (v := -1) hx hb dX1_input_11 (by decide) ?_
      exact o_ret hx hb hr hlk hK hP hD hS (by rw [← hF, FM_input, if_neg c_1, if_neg c_2]) dX1_input_12
set_option maxHeartbeats 4000000 in
set_option maxRecDepth 100000 in
theorem kX1_data (l : Launch) (D : va_G) (q : Nat → Nat) (cA : Nat → ClassId) (sz : Nat) (σ : SM) (a1 : Int32) (a2 : Int32) : oMet l D vwCl (wM q cA) (tM cA) (q 0) sz yX1_data wsX1_data { frames := 0, cells := 0, slots := 0, locals := 0 } σ [.int a1, .int a2] (FM_data σ a1 a2) := by
  refine o_met (cc := cX1_data) (maxL := 3) (ret := some .int) (by decide) rfl (Nat.le_of_ble_eq_true rfl) ?_
  intro p e s m args below meth c A ls hx hb hr hml hts hown hlk hP hK hD hA hS hl
  have hl : lv_has ls 3 [(0, .ref (q 0)), (1, .int a1), (2, .int a2)] := hl
  have hin : ∀ w ∈ wsX10, w ∈ wsX1_data := fun w h => mc (inX1 w h)
  generalize hF : FM_data σ a1 a2 = res
  refine lv_iload_n hx hb dX1_data_0 rfl (lv_at hl 1 rfl) ?_
  refine lv_if_lt (tgt := 22) hx hb dX1_data_1 (by decide) (fun c_1 => ?_) (fun c_1 => ?_)
  · skip
    refine lv_iconst (v := -1) hx hb dX1_data_22 (by decide) ?_
    exact o_ret hx hb hr hlk hK hP hD hS (by rw [← hF, FM_data, if_pos c_1]) dX1_data_23
  · skip
    refine lv_iload_n hx hb dX1_data_4 rfl (lv_at hl 1 rfl) ?_
    refine lv_sipush (v := 255) hx hb dX1_data_5 (by decide) ?_
    refine lv_icmp_gt (tgt := 22) hx hb dX1_data_8 (by decide) (fun c_2 => ?_) (fun c_2 => ?_)
    · skip
      refine lv_iconst (v := -1) hx hb dX1_data_22 (by decide) ?_
      exact o_ret hx hb hr hlk hK hP hD hS (by rw [← hF, FM_data, if_neg c_1, if_pos c_2]) dX1_data_23
    · skip
      refine lv_iload_n hx hb dX1_data_11 rfl (lv_at hl 2 rfl) ?_
      refine lv_if_lt (tgt := 22) hx hb dX1_data_12 (by decide) (fun c_3 => ?_) (fun c_3 => ?_)
      · skip
        refine lv_iconst (v := -1) hx hb dX1_data_22 (by decide) ?_
        exact o_ret hx hb hr hlk hK hP hD hS (by rw [← hF, FM_data, if_neg c_1, if_neg c_2, if_pos c_3]) dX1_data_23
      · skip
        refine lv_iload_n hx hb dX1_data_15 rfl (lv_at hl 2 rfl) ?_
        refine lv_sipush (v := 255) hx hb dX1_data_16 (by decide) ?_
        refine lv_icmp_le (tgt := 24) hx hb dX1_data_19 (by decide) (fun c_4 => ?_) (fun c_4 => ?_)
        · skip
          refine lv_aload_n hx hb dX1_data_24 rfl (lv_at hl 0 rfl) ?_
          refine getX1_mby hx hb hts hin hown hK hP (hts _ (mc wd_297)) dX1_data_25 ?_
          refine lv_iload_n hx hb dX1_data_28 rfl (lv_at hl 1 rfl) ?_
          refine lv_iload_n hx hb dX1_data_29 rfl (lv_at hl 2 rfl) ?_
          refine astX1_mby (f := (gmby σ)) hx hb hK hP hD hS (in_ge0le c_1 c_2 (by decide)) dX1_data_30 rfl (fun H locs hP hD hS => ?_)
          refine lv_iconst (v := 1) hx hb dX1_data_31 (by decide) ?_
          exact o_ret hx hb hr hlk hK hP hD hS (by rw [← hF, FM_data, if_neg c_1, if_neg c_2, if_neg c_3, if_pos c_4]) dX1_data_32
        · skip
          refine lv_iconst (v := -1) hx hb dX1_data_22 (by decide) ?_
          exact o_ret hx hb hr hlk hK hP hD hS (by rw [← hF, FM_data, if_neg c_1, if_neg c_2, if_neg c_3, if_neg c_4]) dX1_data_23
set_option maxHeartbeats 4000000 in
set_option maxRecDepth 100000 in
theorem kX1_begin (l : Launch) (D : va_G) (q : Nat → Nat) (cA : Nat → ClassId) (sz : Nat) (σ : SM) (hI : IM σ) : oMet l D vwCl (wM q cA) (tM cA) (q 0) sz yX1_begin wsX1_begin { frames := 0, cells := 0, slots := 0, locals := 0 } σ [] (FM_begin σ) := by
  refine o_met (cc := cX1_begin) (maxL := 2) (ret := some .int) (by decide) rfl (Nat.le_of_ble_eq_true rfl) ?_
  intro p e s m args below meth c A ls hx hb hr hml hts hown hlk hP hK hD hA hS hl
  have hl : lv_has ls 2 [(0, .ref (q 0))] := hl
  have hin : ∀ w ∈ wsX10, w ∈ wsX1_begin := fun w h => mc (inX1 w h)
  generalize hF : FM_begin σ = res
  refine lv_aload_n hx hb dX1_begin_0 rfl (lv_at hl 0 rfl) ?_
  refine lv_aload_n hx hb dX1_begin_1 rfl (lv_at hl 0 rfl) ?_
  refine getX1_mts (v := (gmts σ)) hx hb hts hin hown hK hP (hts _ (mc wd_294)) dX1_begin_2 rfl ?_
  refine putX1_msz hx hb hts hin hown hK hP hD hS (hts _ (mc wd_296)) dX1_begin_5 (fun H locs hP hD hS => ?_)
  refine lv_iconst (v := 0) hx hb dX1_begin_8 (by decide) ?_
  refine lv_istore_n (lv' := [(1, .int (0 : Int32)), (0, .ref (q 0))]) hx hb dX1_begin_9 rfl hl (by decide) rfl (fun ls hl => ?_)
  have hloop : ∀ (n : Nat) (σ : SM) (x1 : Int32), IM σ ∧ JUp (gmsz σ) n x1 → ∀ (res : Int32 × SM), (LM_begin1 n σ x1) = res → ∀ (H : Heap) (locs : List Loc) (ls : Array Slot), va_P D vwCl (wM q cA σ) H → va_D A (wM q cA σ) → va_S A s.heap H locs → lv_has ls 2 [(1, .int x1), (0, .ref (q 0))] → W p l e ({ frames := 0, cells := 0, slots := 0, locals := 0 } : Room) s m args below meth c H locs 0 0 (MQ below (oQ D vwCl (wM q cA) (tM cA) A res) args s 0 0 A) (F0 m 10 ls []) := by
    clear hF
    intro n
    induction n with
    | zero =>
      intro σ x1 hJ
      exact absurd hJ (fun h => jup_0 h.2)
    | succ n ih =>
      intro σ x1 hJ res hF H locs ls hP hD hS hl
      have hI := hJ.1
      refine lv_iload_n hx hb dX1_begin_10 rfl (lv_at hl 0 rfl) ?_
      refine lv_aload_n hx hb dX1_begin_11 rfl (lv_at hl 1 rfl) ?_
      refine getX1_msz (v := (gmsz σ)) hx hb hts hin hown hK hP (hts _ (mc wd_296)) dX1_begin_12 rfl ?_
      refine lv_icmp_ge (tgt := 36) hx hb dX1_begin_15 (by decide) (fun c_1 => ?_) (fun c_1 => ?_)
      · skip
        refine lv_iconst (v := 0) hx hb dX1_begin_36 (by decide) ?_
        refine lv_istore_n (lv' := [(1, .int (0 : Int32)), (0, .ref (q 0))]) hx hb dX1_begin_37 rfl hl (by decide) rfl (fun ls hl => ?_)
        have hloop : ∀ (n : Nat) (σ : SM) (x1 : Int32), IM σ ∧ JUp (34 : Int32) n x1 → ∀ (res : Int32 × SM), (LM_begin2 n σ x1) = res → ∀ (H : Heap) (locs : List Loc) (ls : Array Slot), va_P D vwCl (wM q cA σ) H → va_D A (wM q cA σ) → va_S A s.heap H locs → lv_has ls 2 [(1, .int x1), (0, .ref (q 0))] → W p l e ({ frames := 0, cells := 0, slots := 0, locals := 0 } : Room) s m args below meth c H locs 0 0 (MQ below (oQ D vwCl (wM q cA) (tM cA) A res) args s 0 0 A) (F0 m 38 ls []) := by
          clear hF
          intro n
          induction n with
          | zero =>
            intro σ x1 hJ
            exact absurd hJ (fun h => jup_0 h.2)
          | succ n ih =>
            intro σ x1 hJ res hF H locs ls hP hD hS hl
            have hI := hJ.1
            refine lv_iload_n hx hb dX1_begin_38 rfl (lv_at hl 0 rfl) ?_
            refine lv_bipush (v := 34) hx hb dX1_begin_39 (by decide) ?_
            refine lv_icmp_ge (tgt := 57) hx hb dX1_begin_41 (by decide) (fun c_2 => ?_) (fun c_2 => ?_)
            · skip
              refine lv_aload_n hx hb dX1_begin_57 rfl (lv_at hl 1 rfl) ?_
              refine getX1_mrg hx hb hts hin hown hK hP (hts _ (mc wd_303)) dX1_begin_58 ?_
              refine lv_bipush (v := 29) hx hb dX1_begin_61 (by decide) ?_
              refine lv_ldc (v := 268435712) hx hb hown (hts _ (mc wd_292)) dX1_begin_63 ?_
              refine astX1_mrg (f := (gmrg σ)) hx hb hK hP hD hS (in_c (by decide)) dX1_begin_65 rfl (fun H locs hP hD hS => ?_)
              refine lv_aload_n hx hb dX1_begin_66 rfl (lv_at hl 1 rfl) ?_
              refine lv_iconst (v := 0) hx hb dX1_begin_67 (by decide) ?_
              refine putX1_mpc hx hb hts hin hown hK hP hD hS (hts _ (mc wd_304)) dX1_begin_68 (fun H locs hP hD hS => ?_)
              refine lv_aload_n hx hb dX1_begin_71 rfl (lv_at hl 1 rfl) ?_
              refine lv_iconst (v := 0) hx hb dX1_begin_72 (by decide) ?_
              refine putX1_mia hx hb hts hin hown hK hP hD hS (hts _ (mc wd_300)) dX1_begin_73 (fun H locs hP hD hS => ?_)
              refine lv_aload_n hx hb dX1_begin_76 rfl (lv_at hl 1 rfl) ?_
              refine lv_iconst (v := 0) hx hb dX1_begin_77 (by decide) ?_
              refine putX1_mos hx hb hts hin hown hK hP hD hS (hts _ (mc wd_302)) dX1_begin_78 (fun H locs hP hD hS => ?_)
              refine lv_aload_n hx hb dX1_begin_81 rfl (lv_at hl 1 rfl) ?_
              refine lv_iconst (v := 0) hx hb dX1_begin_82 (by decide) ?_
              refine putX1_mus hx hb hts hin hown hK hP hD hS (hts _ (mc wd_305)) dX1_begin_83 (fun H locs hP hD hS => ?_)
              refine lv_aload_n hx hb dX1_begin_86 rfl (lv_at hl 1 rfl) ?_
              refine lv_iconst (v := 0) hx hb dX1_begin_87 (by decide) ?_
              refine putX1_men hx hb hts hin hown hK hP hD hS rfl rfl (hts _ (mc wd_306)) dX1_begin_88 (fun H locs hP hD hS => ?_)
              refine lv_aload_n hx hb dX1_begin_91 rfl (lv_at hl 1 rfl) ?_
              refine lv_iconst (v := 0) hx hb dX1_begin_92 (by decide) ?_
              refine putX1_mtr hx hb hts hin hown hK hP hD hS (hts _ (mc wd_307)) dX1_begin_93 (fun H locs hP hD hS => ?_)
              refine lv_aload_n hx hb dX1_begin_96 rfl (lv_at hl 1 rfl) ?_
              refine lv_iconst (v := 0) hx hb dX1_begin_97 (by decide) ?_
              refine putX1_mex hx hb hts hin hown hK hP hD hS (hts _ (mc wd_308)) dX1_begin_98 (fun H locs hP hD hS => ?_)
              refine lv_aload_n hx hb dX1_begin_101 rfl (lv_at hl 1 rfl) ?_
              refine getX1_msz (v := (gmsz σ)) hx hb hts hin hown hK hP (hts _ (mc wd_296)) dX1_begin_102 rfl ?_
              exact o_ret hx hb hr hlk hK hP hD hS (by rw [← hF, LM_begin2, if_pos c_2]) dX1_begin_105
            · skip
              refine lv_aload_n hx hb dX1_begin_44 rfl (lv_at hl 1 rfl) ?_
              refine getX1_mrg hx hb hts hin hown hK hP (hts _ (mc wd_303)) dX1_begin_45 ?_
              refine lv_iload_n hx hb dX1_begin_48 rfl (lv_at hl 0 rfl) ?_
              refine lv_iconst (v := 0) hx hb dX1_begin_49 (by decide) ?_
              refine astX1_mrg (f := (gmrg σ)) hx hb hK hP hD hS (jup_in hJ.2 c_2 (by decide)) dX1_begin_50 rfl (fun H locs hP hD hS => ?_)
              refine lv_iinc (v := (x1 + 1)) (lv' := [(1, .int (x1 + 1)), (0, .ref (q 0))]) hx hb dX1_begin_51 hl (k := 0) rfl rfl (by decide) rfl (fun ls hl => ?_)
              refine lv_goto (tgt := 38) hx hb dX1_begin_54 (by decide) ?_
              exact ih (smrg σ (upd (gmrg σ) (Int32.toNatClampNeg x1) (0 : Int32))) (x1 + 1) ⟨ims_mrg hI, jup_b (k := 34) hJ.2 c_2 (by decide)⟩ _ (by rw [← hF, LM_begin2, if_neg c_2]) _ _ _ hP hD hS (lv_sub hl [0, 1] rfl)
        exact hloop (36) σ (0 : Int32) ⟨hI, jup_s34⟩ _ (by rw [← hF, LM_begin1, if_pos c_1]) _ _ _ hP hD hS (lv_sub hl [0, 1] rfl)
      · skip
        refine lv_aload_n hx hb dX1_begin_18 rfl (lv_at hl 1 rfl) ?_
        refine getX1_mtx hx hb hts hin hown hK hP (hts _ (mc wd_295)) dX1_begin_19 ?_
        refine lv_iload_n hx hb dX1_begin_22 rfl (lv_at hl 0 rfl) ?_
        refine lv_aload_n hx hb dX1_begin_23 rfl (lv_at hl 1 rfl) ?_
        refine getX1_mty hx hb hts hin hown hK hP (hts _ (mc wd_293)) dX1_begin_24 ?_
        refine lv_iload_n hx hb dX1_begin_27 rfl (lv_at hl 0 rfl) ?_
        refine aldX1_mty (f := (gmty σ)) hx hb hK hP (jup_in hJ.2 c_1 hI.2.1.2) dX1_begin_28 rfl ?_
        refine astX1_mtx (f := (gmtx σ)) hx hb hK hP hD hS (jup_in hJ.2 c_1 hI.2.1.2) dX1_begin_29 rfl (fun H locs hP hD hS => ?_)
        refine lv_iinc (v := (x1 + 1)) (lv' := [(1, .int (x1 + 1)), (0, .ref (q 0))]) hx hb dX1_begin_30 hl (k := 0) rfl rfl (by decide) rfl (fun ls hl => ?_)
        refine lv_goto (tgt := 10) hx hb dX1_begin_33 (by decide) ?_
        exact ih (smtx σ (upd (gmtx σ) (Int32.toNatClampNeg x1) ((gmty σ) (Int32.toNatClampNeg x1)))) (x1 + 1) ⟨ims_mtx hI, jup_b hJ.2 c_1 hI.2.1.2⟩ _ (by rw [← hF, LM_begin1, if_neg c_1]) _ _ _ hP hD hS (lv_sub hl [0, 1] rfl)
  exact hloop (66) (smsz σ (gmts σ)) (0 : Int32) ⟨imv_sz hI, jup_s hI.1⟩ _ (by rw [← hF, FM_begin]) _ _ _ hP hD hS (lv_sub hl [0, 1] rfl)
set_option maxHeartbeats 4000000 in
set_option maxRecDepth 100000 in
theorem kX1_op (l : Launch) (a1 : Int32) : sMet l yX1_op wsX1_op { frames := 0, cells := 0, slots := 0, locals := 0 } [.int a1] (FM_op a1) := by
  refine s_met (cc := cX1_op) (maxL := 1) (ret := some .int) (by decide) rfl (Nat.le_of_ble_eq_true rfl) ?_
  intro p e s m args below meth c ls hx hb hr hml hts hown hlk hS hl
  have hl : lv_has ls 1 [(0, .int a1)] := hl
  generalize hF : FM_op a1 = res
  refine lv_iload_n hx hb dX1_op_0 rfl (lv_at hl 0 rfl) ?_
  refine lv_bipush (v := 26) hx hb dX1_op_1 (by decide) ?_
  refine lv_iushr (v := (jushr a1 (26 : Int32))) hx hb dX1_op_3 rfl ?_
  exact s_ret hx hb hr hlk hS (by rw [← hF, FM_op]) dX1_op_4
set_option maxHeartbeats 4000000 in
set_option maxRecDepth 100000 in
theorem kX1_first (l : Launch) (a1 : Int32) : sMet l yX1_first wsX1_first { frames := 0, cells := 0, slots := 0, locals := 0 } [.int a1] (FM_first a1) := by
  refine s_met (cc := cX1_first) (maxL := 1) (ret := some .int) (by decide) rfl (Nat.le_of_ble_eq_true rfl) ?_
  intro p e s m args below meth c ls hx hb hr hml hts hown hlk hS hl
  have hl : lv_has ls 1 [(0, .int a1)] := hl
  generalize hF : FM_first a1 = res
  refine lv_iload_n hx hb dX1_first_0 rfl (lv_at hl 0 rfl) ?_
  refine lv_bipush (v := 21) hx hb dX1_first_1 (by decide) ?_
  refine lv_iushr (v := (jushr a1 (21 : Int32))) hx hb dX1_first_3 rfl ?_
  refine lv_bipush (v := 31) hx hb dX1_first_4 (by decide) ?_
  refine lv_iand hx hb dX1_first_6 ?_
  exact s_ret hx hb hr hlk hS (by rw [← hF, FM_first]) dX1_first_7
set_option maxHeartbeats 4000000 in
set_option maxRecDepth 100000 in
theorem kX1_second (l : Launch) (a1 : Int32) : sMet l yX1_second wsX1_second { frames := 0, cells := 0, slots := 0, locals := 0 } [.int a1] (FM_second a1) := by
  refine s_met (cc := cX1_second) (maxL := 1) (ret := some .int) (by decide) rfl (Nat.le_of_ble_eq_true rfl) ?_
  intro p e s m args below meth c ls hx hb hr hml hts hown hlk hS hl
  have hl : lv_has ls 1 [(0, .int a1)] := hl
  generalize hF : FM_second a1 = res
  refine lv_iload_n hx hb dX1_second_0 rfl (lv_at hl 0 rfl) ?_
  refine lv_bipush (v := 16) hx hb dX1_second_1 (by decide) ?_
  refine lv_iushr (v := (jushr a1 (16 : Int32))) hx hb dX1_second_3 rfl ?_
  refine lv_bipush (v := 31) hx hb dX1_second_4 (by decide) ?_
  refine lv_iand hx hb dX1_second_6 ?_
  exact s_ret hx hb hr hlk hS (by rw [← hF, FM_second]) dX1_second_7
set_option maxHeartbeats 4000000 in
set_option maxRecDepth 100000 in
theorem kX1_third (l : Launch) (a1 : Int32) : sMet l yX1_third wsX1_third { frames := 0, cells := 0, slots := 0, locals := 0 } [.int a1] (FM_third a1) := by
  refine s_met (cc := cX1_third) (maxL := 1) (ret := some .int) (by decide) rfl (Nat.le_of_ble_eq_true rfl) ?_
  intro p e s m args below meth c ls hx hb hr hml hts hown hlk hS hl
  have hl : lv_has ls 1 [(0, .int a1)] := hl
  generalize hF : FM_third a1 = res
  refine lv_iload_n hx hb dX1_third_0 rfl (lv_at hl 0 rfl) ?_
  refine lv_bipush (v := 11) hx hb dX1_third_1 (by decide) ?_
  refine lv_iushr (v := (jushr a1 (11 : Int32))) hx hb dX1_third_3 rfl ?_
  refine lv_bipush (v := 31) hx hb dX1_third_4 (by decide) ?_
  refine lv_iand hx hb dX1_third_6 ?_
  exact s_ret hx hb hr hlk hS (by rw [← hF, FM_third]) dX1_third_7
set_option maxHeartbeats 4000000 in
set_option maxRecDepth 100000 in
theorem kX1_signed (l : Launch) (a1 : Int32) : sMet l yX1_signed wsX1_signed { frames := 0, cells := 0, slots := 0, locals := 0 } [.int a1] (FM_signed a1) := by
  refine s_met (cc := cX1_signed) (maxL := 1) (ret := some .int) (by decide) rfl (Nat.le_of_ble_eq_true rfl) ?_
  intro p e s m args below meth c ls hx hb hr hml hts hown hlk hS hl
  have hl : lv_has ls 1 [(0, .int a1)] := hl
  generalize hF : FM_signed a1 = res
  refine lv_iload_n hx hb dX1_signed_0 rfl (lv_at hl 0 rfl) ?_
  refine lv_bipush (v := 16) hx hb dX1_signed_1 (by decide) ?_
  refine lv_ishl hx hb dX1_signed_3 ?_
  refine lv_bipush (v := 16) hx hb dX1_signed_4 (by decide) ?_
  refine lv_ishr hx hb dX1_signed_6 ?_
  exact s_ret hx hb hr hlk hS (by rw [← hF, FM_signed]) dX1_signed_7
set_option maxHeartbeats 4000000 in
set_option maxRecDepth 100000 in
theorem kX1_put (l : Launch) (D : va_G) (q : Nat → Nat) (cA : Nat → ClassId) (sz : Nat) (σ : SM) (a1 : Int32) (a2 : Int32) (hI : vp_in a1 34) : oMetV l D vwCl (wM q cA) (tM cA) (q 0) sz yX1_put wsX1_put { frames := 0, cells := 0, slots := 0, locals := 0 } σ [.int a1, .int a2] (FM_put σ a1 a2) := by
  refine o_metV (cc := cX1_put) (maxL := 3) (ret := none) (by decide) rfl (Nat.le_of_ble_eq_true rfl) ?_
  intro p e s m args below meth c A ls hx hb hr hml hts hown hlk hP hK hD hA hS hl
  have hl : lv_has ls 3 [(0, .ref (q 0)), (1, .int a1), (2, .int a2)] := hl
  have hin : ∀ w ∈ wsX10, w ∈ wsX1_put := fun w h => mc (inX1 w h)
  generalize hF : FM_put σ a1 a2 = res
  refine lv_aload_n hx hb dX1_put_0 rfl (lv_at hl 0 rfl) ?_
  refine getX1_mrg hx hb hts hin hown hK hP (hts _ (mc wd_303)) dX1_put_1 ?_
  refine lv_iload_n hx hb dX1_put_4 rfl (lv_at hl 1 rfl) ?_
  refine lv_iload_n hx hb dX1_put_5 rfl (lv_at hl 1 rfl) ?_
  refine lv_if_ne (tgt := 13) hx hb dX1_put_6 (by decide) (fun c_1 => ?_) (fun c_1 => ?_)
  · skip
    refine lv_iload_n hx hb dX1_put_13 rfl (lv_at hl 2 rfl) ?_
    refine astX1_mrg (f := (gmrg σ)) hx hb hK hP hD hS hI dX1_put_14 rfl (fun H locs hP hD hS => ?_)
    exact o_retV hx hb hr hlk hK hP hD hS (by rw [← hF, FM_put, if_neg c_1]) dX1_put_15
  · skip
    refine lv_iconst (v := 0) hx hb dX1_put_9 (by decide) ?_
    refine lv_goto (tgt := 14) hx hb dX1_put_10 (by decide) ?_
    refine astX1_mrg (f := (gmrg σ)) hx hb hK hP hD hS hI dX1_put_14 rfl (fun H locs hP hD hS => ?_)
    exact o_retV hx hb hr hlk hK hP hD hS (by rw [← hF, FM_put, if_pos c_1]) dX1_put_15
