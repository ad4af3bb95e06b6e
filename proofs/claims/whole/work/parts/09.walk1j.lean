set_option maxHeartbeats 4000000 in
set_option maxRecDepth 100000 in
theorem kX1_register (l : Launch) (D : va_G) (q : Nat → Nat) (cA : Nat → ClassId) (sz : Nat) (σ : SM) (a1 : Int32) : oMet l D vwCl (wM q cA) (tM cA) (q 0) sz yX1_register wsX1_register { frames := 0, cells := 0, slots := 0, locals := 0 } σ [.int a1] (FM_register σ a1, σ) := by
  refine o_met (cc := cX1_register) (maxL := 2) (ret := some .int) (by decide) rfl (Nat.le_of_ble_eq_true rfl) ?_
  intro p e s m args below meth c A ls hx hb hr hml hts hown hlk hP hK hD hA hS hl
  have hl : lv_has ls 2 [(0, .ref (q 0)), (1, .int a1)] := hl
  have hin : ∀ w ∈ wsX10, w ∈ wsX1_register := fun w h => mc (inX1 w h)
  generalize hF : (FM_register σ a1, σ) = res
  refine lv_iload_n hx hb dX1_register_0 rfl (lv_at hl 1 rfl) ?_
  refine lv_if_lt (tgt := 19) hx hb dX1_register_1 (by decide) (fun c_1 => ?_) (fun c_1 => ?_)
  · skip
    refine lv_iload_n hx hb dX1_register_19 rfl (lv_at hl 1 rfl) ?_
    refine lv_bipush (v := 34) hx hb dX1_register_20 (by decide) ?_
    refine lv_icmp_ne (tgt := 32) hx hb dX1_register_22 (by decide) (fun c_2 => ?_) (fun c_2 => ?_)
    · skip
      refine lv_iload_n hx hb dX1_register_32 rfl (lv_at hl 1 rfl) ?_
      refine lv_bipush (v := 35) hx hb dX1_register_33 (by decide) ?_
      refine lv_icmp_ne (tgt := 45) hx hb dX1_register_35 (by decide) (fun c_3 => ?_) (fun c_3 => ?_)
      · skip
        refine lv_iconst (v := 0) hx hb dX1_register_45 (by decide) ?_
        exact o_ret hx hb hr hlk hK hP hD hS (by rw [← hF, FM_register, if_pos c_1, if_neg c_2, if_neg c_3]) dX1_register_46
      · skip
        refine lv_aload_n hx hb dX1_register_38 rfl (lv_at hl 0 rfl) ?_
        refine getX1_mus (v := (gmus σ)) hx hb hts hin hown hK hP (hts _ (mc wd_305)) dX1_register_39 rfl ?_
        refine lv_goto (tgt := 46) hx hb dX1_register_42 (by decide) ?_
        exact o_ret hx hb hr hlk hK hP hD hS (by rw [← hF, FM_register, if_pos c_1, if_neg c_2, if_pos c_3]) dX1_register_46
    · skip
      refine lv_aload_n hx hb dX1_register_25 rfl (lv_at hl 0 rfl) ?_
      refine getX1_mpc (v := (gmpc σ)) hx hb hts hin hown hK hP (hts _ (mc wd_304)) dX1_register_26 rfl ?_
      refine lv_goto (tgt := 46) hx hb dX1_register_29 (by decide) ?_
      exact o_ret hx hb hr hlk hK hP hD hS (by rw [← hF, FM_register, if_pos c_1, if_pos c_2]) dX1_register_46
  · skip
    refine lv_iload_n hx hb dX1_register_4 rfl (lv_at hl 1 rfl) ?_
    refine lv_bipush (v := 34) hx hb dX1_register_5 (by decide) ?_
    refine lv_icmp_ge (tgt := 19) hx hb dX1_register_7 (by decide) (fun c_4 => ?_) (fun c_4 => ?_)
    · skip
      refine lv_iload_n hx hb dX1_register_19 rfl (lv_at hl 1 rfl) ?_
      refine lv_bipush (v := 34) hx hb dX1_register_20 (by decide) ?_
      refine lv_icmp_ne (tgt := 32) hx hb dX1_register_22 (by decide) (fun c_5 => ?_) (fun c_5 => ?_)
      · skip
        refine lv_iload_n hx hb dX1_register_32 rfl (lv_at hl 1 rfl) ?_
        refine lv_bipush (v := 35) hx hb dX1_register_33 (by decide) ?_
        refine lv_icmp_ne (tgt := 45) hx hb dX1_register_35 (by decide) (fun c_6 => ?_) (fun c_6 => ?_)
        · skip
          refine lv_iconst (v := 0) hx hb dX1_register_45 (by decide) ?_
          exact o_ret hx hb hr hlk hK hP hD hS (by rw [← hF, FM_register, if_neg c_1, if_pos c_4, if_neg c_5, if_neg c_6]) dX1_register_46
        · skip
          refine lv_aload_n hx hb dX1_register_38 rfl (lv_at hl 0 rfl) ?_
          refine getX1_mus (v := (gmus σ)) hx hb hts hin hown hK hP (hts _ (mc wd_305)) dX1_register_39 rfl ?_
          refine lv_goto (tgt := 46) hx hb dX1_register_42 (by decide) ?_
          exact o_ret hx hb hr hlk hK hP hD hS (by rw [← hF, FM_register, if_neg c_1, if_pos c_4, if_neg c_5, if_pos c_6]) dX1_register_46
      · skip
        refine lv_aload_n hx hb dX1_register_25 rfl (lv_at hl 0 rfl) ?_
        refine getX1_mpc (v := (gmpc σ)) hx hb hts hin hown hK hP (hts _ (mc wd_304)) dX1_register_26 rfl ?_
        refine lv_goto (tgt := 46) hx hb dX1_register_29 (by decide) ?_
        exact o_ret hx hb hr hlk hK hP hD hS (by rw [← hF, FM_register, if_neg c_1, if_pos c_4, if_pos c_5]) dX1_register_46
    · skip
      refine lv_aload_n hx hb dX1_register_10 rfl (lv_at hl 0 rfl) ?_
      refine getX1_mrg hx hb hts hin hown hK hP (hts _ (mc wd_303)) dX1_register_11 ?_
      refine lv_iload_n hx hb dX1_register_14 rfl (lv_at hl 1 rfl) ?_
      refine aldX1_mrg (f := (gmrg σ)) hx hb hK hP (in_ge0lt c_1 (k2_lt c_4) (by decide)) dX1_register_15 rfl ?_
      refine lv_goto (tgt := 46) hx hb dX1_register_16 (by decide) ?_
      exact o_ret hx hb hr hlk hK hP hD hS (by rw [← hF, FM_register, if_neg c_1, if_neg c_4]) dX1_register_46
set_option maxHeartbeats 4000000 in
set_option maxRecDepth 100000 in
theorem kX1_give (l : Launch) (D : va_G) (q : Nat → Nat) (cA : Nat → ClassId) (sz : Nat) (σ : SM) (a1 : Int32) (a2 : Int32) : oMet l D vwCl (wM q cA) (tM cA) (q 0) sz yX1_give wsX1_give { frames := 0, cells := 0, slots := 0, locals := 0 } σ [.int a1, .int a2] (FM_give σ a1 a2) := by
  refine o_met (cc := cX1_give) (maxL := 3) (ret := some .int) (by decide) rfl (Nat.le_of_ble_eq_true rfl) ?_
  intro p e s m args below meth c A ls hx hb hr hml hts hown hlk hP hK hD hA hS hl
  have hl : lv_has ls 3 [(0, .ref (q 0)), (1, .int a1), (2, .int a2)] := hl
  have hin : ∀ w ∈ wsX10, w ∈ wsX1_give := fun w h => mc (inX1 w h)
  generalize hF : FM_give σ a1 a2 = res
  refine lv_iload_n hx hb dX1_give_0 rfl (lv_at hl 1 rfl) ?_
  refine lv_iconst (v := 1) hx hb dX1_give_1 (by decide) ?_
  refine lv_icmp_lt (tgt := 11) hx hb dX1_give_2 (by decide) (fun c_1 => ?_) (fun c_1 => ?_)
  · skip
    refine lv_iconst (v := -1) hx hb dX1_give_11 (by decide) ?_
    exact o_ret hx hb hr hlk hK hP hD hS (by rw [← hF, FM_give, if_pos c_1]) dX1_give_12
  · skip
    refine lv_iload_n hx hb dX1_give_5 rfl (lv_at hl 1 rfl) ?_
    refine lv_bipush (v := 33) hx hb dX1_give_6 (by decide) ?_
    refine lv_icmp_le (tgt := 13) hx hb dX1_give_8 (by decide) (fun c_2 => ?_) (fun c_2 => ?_)
    · skip
      refine lv_aload_n hx hb dX1_give_13 rfl (lv_at hl 0 rfl) ?_
      refine getX1_mrg hx hb hts hin hown hK hP (hts _ (mc wd_303)) dX1_give_14 ?_
      refine lv_iload_n hx hb dX1_give_17 rfl (lv_at hl 1 rfl) ?_
      refine lv_iload_n hx hb dX1_give_18 rfl (lv_at hl 2 rfl) ?_
      refine astX1_mrg (f := (gmrg σ)) hx hb hK hP hD hS (in_ge1le c_1 c_2 (by decide)) dX1_give_19 rfl (fun H locs hP hD hS => ?_)
      refine lv_iconst (v := 1) hx hb dX1_give_20 (by decide) ?_
      exact o_ret hx hb hr hlk hK hP hD hS (by rw [← hF, FM_give, if_neg c_1, if_pos c_2]) dX1_give_21
    · skip
      refine lv_iconst (v := -1) hx hb dX1_give_11 (by decide) ?_
      exact o_ret hx hb hr hlk hK hP hD hS (by rw [← hF, FM_give, if_neg c_1, if_neg c_2]) dX1_give_12
set_option maxHeartbeats 4000000 in
set_option maxRecDepth 100000 in
theorem kX1_byteOf (l : Launch) (D : va_G) (q : Nat → Nat) (cA : Nat → ClassId) (sz : Nat) (σ : SM) (a1 : Int32) : oMet l D vwCl (wM q cA) (tM cA) (q 0) sz yX1_byteOf wsX1_byteOf { frames := 0, cells := 0, slots := 0, locals := 0 } σ [.int a1] (FM_byteOf σ a1, σ) := by
  refine o_met (cc := cX1_byteOf) (maxL := 2) (ret := some .int) (by decide) rfl (Nat.le_of_ble_eq_true rfl) ?_
  intro p e s m args below meth c A ls hx hb hr hml hts hown hlk hP hK hD hA hS hl
  have hl : lv_has ls 2 [(0, .ref (q 0)), (1, .int a1)] := hl
  have hin : ∀ w ∈ wsX10, w ∈ wsX1_byteOf := fun w h => mc (inX1 w h)
  generalize hF : (FM_byteOf σ a1, σ) = res
  refine lv_iload_n hx hb dX1_byteOf_0 rfl (lv_at hl 1 rfl) ?_
  refine lv_if_lt (tgt := 20) hx hb dX1_byteOf_1 (by decide) (fun c_1 => ?_) (fun c_1 => ?_)
  · skip
    refine lv_iconst (v := -1) hx hb dX1_byteOf_20 (by decide) ?_
    exact o_ret hx hb hr hlk hK hP hD hS (by rw [← hF, FM_byteOf, if_pos c_1]) dX1_byteOf_21
  · skip
    refine lv_iload_n hx hb dX1_byteOf_4 rfl (lv_at hl 1 rfl) ?_
    refine lv_sipush (v := 256) hx hb dX1_byteOf_5 (by decide) ?_
    refine lv_icmp_ge (tgt := 20) hx hb dX1_byteOf_8 (by decide) (fun c_2 => ?_) (fun c_2 => ?_)
    · skip
      refine lv_iconst (v := -1) hx hb dX1_byteOf_20 (by decide) ?_
      exact o_ret hx hb hr hlk hK hP hD hS (by rw [← hF, FM_byteOf, if_neg c_1, if_pos c_2]) dX1_byteOf_21
    · skip
      refine lv_aload_n hx hb dX1_byteOf_11 rfl (lv_at hl 0 rfl) ?_
      refine getX1_mby hx hb hts hin hown hK hP (hts _ (mc wd_297)) dX1_byteOf_12 ?_
      refine lv_iload_n hx hb dX1_byteOf_15 rfl (lv_at hl 1 rfl) ?_
      refine aldX1_mby (f := (gmby σ)) hx hb hK hP (in_ge0lt c_1 (k2_lt c_2) (by decide)) dX1_byteOf_16 rfl ?_
      refine lv_goto (tgt := 21) hx hb dX1_byteOf_17 (by decide) ?_
      exact o_ret hx hb hr hlk hK hP hD hS (by rw [← hF, FM_byteOf, if_neg c_1, if_neg c_2]) dX1_byteOf_21
set_option maxHeartbeats 4000000 in
set_option maxRecDepth 100000 in
theorem kX1_output (l : Launch) (D : va_G) (q : Nat → Nat) (cA : Nat → ClassId) (sz : Nat) (σ : SM) (a1 : Int32) (hI : IM σ) : oMet l D vwCl (wM q cA) (tM cA) (q 0) sz yX1_output wsX1_output { frames := 0, cells := 0, slots := 0, locals := 0 } σ [.int a1] (FM_output σ a1, σ) := by
  refine o_met (cc := cX1_output) (maxL := 2) (ret := some .int) (by decide) rfl (Nat.le_of_ble_eq_true rfl) ?_
  intro p e s m args below meth c A ls hx hb hr hml hts hown hlk hP hK hD hA hS hl
  have hl : lv_has ls 2 [(0, .ref (q 0)), (1, .int a1)] := hl
  have hin : ∀ w ∈ wsX10, w ∈ wsX1_output := fun w h => mc (inX1 w h)
  generalize hF : (FM_output σ a1, σ) = res
  refine lv_iload_n hx hb dX1_output_0 rfl (lv_at hl 1 rfl) ?_
  refine lv_if_lt (tgt := 21) hx hb dX1_output_1 (by decide) (fun c_1 => ?_) (fun c_1 => ?_)
  · skip
    refine lv_iconst (v := -1) hx hb dX1_output_21 (by decide) ?_
    exact o_ret hx hb hr hlk hK hP hD hS (by rw [← hF, FM_output, if_pos c_1]) dX1_output_22
  · skip
    refine lv_iload_n hx hb dX1_output_4 rfl (lv_at hl 1 rfl) ?_
    refine lv_aload_n hx hb dX1_output_5 rfl (lv_at hl 0 rfl) ?_
    refine getX1_mos (v := (gmos σ)) hx hb hts hin hown hK hP (hts _ (mc wd_302)) dX1_output_6 rfl ?_
    refine lv_icmp_ge (tgt := 21) hx hb dX1_output_9 (by decide) (fun c_2 => ?_) (fun c_2 => ?_)
    · skip
      refine lv_iconst (v := -1) hx hb dX1_output_21 (by decide) ?_
      exact o_ret hx hb hr hlk hK hP hD hS (by rw [← hF, FM_output, if_neg c_1, if_pos c_2]) dX1_output_22
    · skip
      refine lv_aload_n hx hb dX1_output_12 rfl (lv_at hl 0 rfl) ?_
      refine getX1_mou hx hb hts hin hown hK hP (hts _ (mc wd_301)) dX1_output_13 ?_
      refine lv_iload_n hx hb dX1_output_16 rfl (lv_at hl 1 rfl) ?_
      refine aldX1_mou (f := (gmou σ)) hx hb hK hP (in_ge0lt c_1 (k2_lt c_2) hI.2.2.2.2.2) dX1_output_17 rfl ?_
      refine lv_goto (tgt := 22) hx hb dX1_output_18 (by decide) ?_
      exact o_ret hx hb hr hlk hK hP hD hS (by rw [← hF, FM_output, if_neg c_1, if_neg c_2]) dX1_output_22
set_option maxHeartbeats 4000000 in
set_option maxRecDepth 100000 in
theorem kX1_code (l : Launch) (D : va_G) (q : Nat → Nat) (cA : Nat → ClassId) (sz : Nat) (σ : SM) : oMet l D vwCl (wM q cA) (tM cA) (q 0) sz yX1_code wsX1_code { frames := 0, cells := 0, slots := 0, locals := 0 } σ [] (FM_code σ, σ) := by
  refine o_met (cc := cX1_code) (maxL := 1) (ret := some .int) (by decide) rfl (Nat.le_of_ble_eq_true rfl) ?_
  intro p e s m args below meth c A ls hx hb hr hml hts hown hlk hP hK hD hA hS hl
  have hl : lv_has ls 1 [(0, .ref (q 0))] := hl
  have hin : ∀ w ∈ wsX10, w ∈ wsX1_code := fun w h => mc (inX1 w h)
  generalize hF : (FM_code σ, σ) = res
  refine lv_aload_n hx hb dX1_code_0 rfl (lv_at hl 0 rfl) ?_
  refine getX1_mex (v := (gmex σ)) hx hb hts hin hown hK hP (hts _ (mc wd_308)) dX1_code_1 rfl ?_
  exact o_ret hx hb hr hlk hK hP hD hS (by rw [← hF, FM_code]) dX1_code_4
set_option maxHeartbeats 4000000 in
set_option maxRecDepth 100000 in
theorem kX1_init (l : Launch) (D : va_G) (h0 sz : Nat) : Met l yX1_init wsX1_init { frames := 1, cells := 6, slots := 738, locals := 12 } (va_Pc [.ref h0] (fun U => U.heap.size = sz ∧ va_P D vwCl [(h0, .inr (1, [.null, .int 0, .null, .int 0, .null, .null, .int 0, .int 0, .null, .int 0, .null, .int 0, .int 0, .int 0, .int 0, .int 0, .int 0, .int 0, .int 0]))] U.heap ∧ va_K D vwCl [] U ∧ va_D (fun _ => True) [(h0, .inr (1, [.null, .int 0, .null, .int 0, .null, .null, .int 0, .int 0, .null, .int 0, .null, .int 0, .int 0, .int 0, .int 0, .int 0, .int 0, .int 0, .int 0]))])) (va_Qv (fun u : (Nat → Nat) × (Nat → ClassId) => u.1 0 = h0) (fun u t => va_P D vwCl (wM u.1 u.2 ZSM) t.heap ∧ va_K D vwCl (tM u.2) t ∧ va_D (va_A [(h0, .inr (1, [.null, .int 0, .null, .int 0, .null, .null, .int 0, .int 0, .null, .int 0, .null, .int 0, .int 0, .int 0, .int 0, .int 0, .int 0, .int 0, .int 0]))] sz) (wM u.1 u.2 ZSM)) (va_A [(h0, .inr (1, [.null, .int 0, .null, .int 0, .null, .null, .int 0, .int 0, .null, .int 0, .null, .int 0, .int 0, .int 0, .int 0, .int 0, .int 0, .int 0, .int 0]))] sz)) 6 738 (va_A [(h0, .inr (1, [.null, .int 0, .null, .int 0, .null, .null, .int 0, .int 0, .null, .int 0, .null, .int 0, .int 0, .int 0, .int 0, .int 0, .int 0, .int 0, .int 0]))] sz) := by
  refine Met.ofW (cc := cX1_init) (maxL := 1) (ret := none) (by decide) rfl ?_
  intro p e s m args below meth c s₁ B hml hv
  obtain ⟨rfl, hsz, hP, hK, hD0⟩ := hv
  have hx := B.exec
  have hb := B.bytes
  have hr := B.returns
  have hts := atoms_spec (ws := wsX1_init) B.pre
  have hown : s.vm.findClass RX1 = some m.cls := findClass_of_methodNamed B.named
  have hlocks := B.notSynchronized
  have hname : meth.name = "<init>" := (name_of_methodNamed B.named B.method).1
  have hin : ∀ w ∈ wsX10, w ∈ wsX1_init := fun w h => mc (inX1 w h)
  subst hsz
  have hD := hD0.self (sz := s.heap.size)
  generalize hAe : va_A [(h0, .inr (1, [.null, .int 0, .null, .int 0, .null, .null, .int 0, .int 0, .null, .int 0, .null, .int 0, .int 0, .int 0, .int 0, .int 0, .int 0, .int 0, .int 0]))] s.heap.size = A at hD ⊢
  have hA : ∀ q : Nat, s.heap.size ≤ q → A q := fun q h => by rw [← hAe]; exact Or.inr h
  have hS : va_S A s.heap s.heap [] := va_S.rf
  have hl := lv_entry ([.ref h0]) (n := 1) (Nat.le_of_ble_eq_true rfl)
  rw [lg_entry_eq]
  generalize (lg_sl ([.ref h0]) ++ List.replicate (1 - (lg_sl ([.ref h0])).length) Slot.unset).toArray = ls at hl ⊢
  have hl : lv_has ls 1 [(0, .ref h0)] := hl
  refine lv_aload_n hx hb dX1_init_0 rfl (lv_at hl 0 rfl) ?_
  refine W.objInit hx hb hown (hts _ (mc wd_291)) (hts _ (mc wd_46)) (hts _ (mc wd_47)) rfl (by rw [hml]; exact hl.1) rfl dX1_init_1 (Nat.le_of_ble_eq_true rfl) (Nat.le_of_ble_eq_true rfl) ?_
  refine W.eq (g2 := F0 m 4 ls []) rfl ?_
  refine lv_aload_n hx hb dX1_init_4 rfl (lv_at hl 0 rfl) ?_
  refine lv_bipush (v := 64) hx hb dX1_init_5 (by decide) ?_
  refine va_newa (atype := .int) (ty := .int) (N' := 64) (a0 := (64, .inl (fun _ => 0))) hx hb (hts _ (mc wd_95)) rfl hK hP hD hS hA (fun _ => rfl) (by decide) (by decide) (by decide) (Nat.le_of_ble_eq_true rfl) (Nat.le_of_ble_eq_true rfl) dX1_init_7 (fun q1 c1 H hK hP hD hS => ?_)
  have hK : va_K D vwCl [(c1, .int)] s := hK
  have hP : va_P D vwCl [(h0, .inr (1, [.null, .int 0, .null, .int 0, .null, .null, .int 0, .int 0, .null, .int 0, .null, .int 0, .int 0, .int 0, .int 0, .int 0, .int 0, .int 0, .int 0])), (q1, .inl (c1, 64, .inl (fun _ => 0)))] H := hP
  have hD : va_D A [(h0, .inr (1, [.null, .int 0, .null, .int 0, .null, .null, .int 0, .int 0, .null, .int 0, .null, .int 0, .int 0, .int 0, .int 0, .int 0, .int 0, .int 0, .int 0])), (q1, .inl (c1, 64, .inl (fun _ => 0)))] := hD
  refine W.widen (k := 1) (n := 64) (Nat.le_of_ble_eq_true rfl) (Nat.le_of_ble_eq_true rfl) ?_
  refine va_putF (D := D) (ci := 1) (v := .ref q1) (ty := (.array .int)) (C := RX1) (T := TX1) (N := 19) hx hb hts hin tyX1 tyX1_ok nmX1 hown hK hP hD hS 0 rfl rfl 0 (by decide) (hts _ (mc wd_293)) (fun _ h9 => h9) rfl hname rfl (by decide +kernel) rfl rfl (Nat.le_of_ble_eq_true rfl) dX1_init_9 (fun H locs hP hD hS => ?_)
  have hP : va_P D vwCl [(h0, .inr (1, [.ref q1, .int 0, .null, .int 0, .null, .null, .int 0, .int 0, .null, .int 0, .null, .int 0, .int 0, .int 0, .int 0, .int 0, .int 0, .int 0, .int 0])), (q1, .inl (c1, 64, .inl (fun _ => 0)))] H := hP
  have hD : va_D A [(h0, .inr (1, [.ref q1, .int 0, .null, .int 0, .null, .null, .int 0, .int 0, .null, .int 0, .null, .int 0, .int 0, .int 0, .int 0, .int 0, .int 0, .int 0, .int 0])), (q1, .inl (c1, 64, .inl (fun _ => 0)))] := hD
  refine lv_aload_n hx hb dX1_init_12 rfl (lv_at hl 0 rfl) ?_
  refine lv_bipush (v := 64) hx hb dX1_init_13 (by decide) ?_
  refine va_newa (atype := .int) (ty := .int) (N' := 64) (a0 := (64, .inl (fun _ => 0))) hx hb (hts _ (mc wd_95)) rfl hK hP hD hS hA (fun _ => rfl) (by decide) (by decide) (by decide) (Nat.le_of_ble_eq_true rfl) (Nat.le_of_ble_eq_true rfl) dX1_init_15 (fun q2 c2 H hK hP hD hS => ?_)
  have hK : va_K D vwCl [(c1, .int), (c2, .int)] s := hK
  have hP : va_P D vwCl [(h0, .inr (1, [.ref q1, .int 0, .null, .int 0, .null, .null, .int 0, .int 0, .null, .int 0, .null, .int 0, .int 0, .int 0, .int 0, .int 0, .int 0, .int 0, .int 0])), (q1, .inl (c1, 64, .inl (fun _ => 0))), (q2, .inl (c2, 64, .inl (fun _ => 0)))] H := hP
  have hD : va_D A [(h0, .inr (1, [.ref q1, .int 0, .null, .int 0, .null, .null, .int 0, .int 0, .null, .int 0, .null, .int 0, .int 0, .int 0, .int 0, .int 0, .int 0, .int 0, .int 0])), (q1, .inl (c1, 64, .inl (fun _ => 0))), (q2, .inl (c2, 64, .inl (fun _ => 0)))] := hD
  refine W.widen (k := 2) (n := 128) (Nat.le_of_ble_eq_true rfl) (Nat.le_of_ble_eq_true rfl) ?_
  refine va_putF (D := D) (ci := 1) (v := .ref q2) (ty := (.array .int)) (C := RX1) (T := TX1) (N := 19) hx hb hts hin tyX1 tyX1_ok nmX1 hown hK hP hD hS 0 rfl rfl 2 (by decide) (hts _ (mc wd_295)) (fun _ h9 => h9) rfl hname rfl (by decide +kernel) rfl rfl (Nat.le_of_ble_eq_true rfl) dX1_init_17 (fun H locs hP hD hS => ?_)
  have hP : va_P D vwCl [(h0, .inr (1, [.ref q1, .int 0, .ref q2, .int 0, .null, .null, .int 0, .int 0, .null, .int 0, .null, .int 0, .int 0, .int 0, .int 0, .int 0, .int 0, .int 0, .int 0])), (q1, .inl (c1, 64, .inl (fun _ => 0))), (q2, .inl (c2, 64, .inl (fun _ => 0)))] H := hP
  have hD : va_D A [(h0, .inr (1, [.ref q1, .int 0, .ref q2, .int 0, .null, .null, .int 0, .int 0, .null, .int 0, .null, .int 0, .int 0, .int 0, .int 0, .int 0, .int 0, .int 0, .int 0])), (q1, .inl (c1, 64, .inl (fun _ => 0))), (q2, .inl (c2, 64, .inl (fun _ => 0)))] := hD
  refine lv_aload_n hx hb dX1_init_20 rfl (lv_at hl 0 rfl) ?_
  refine lv_sipush (v := 256) hx hb dX1_init_21 (by decide) ?_
  refine va_newa (atype := .int) (ty := .int) (N' := 256) (a0 := (256, .inl (fun _ => 0))) hx hb (hts _ (mc wd_95)) rfl hK hP hD hS hA (fun _ => rfl) (by decide) (by decide) (by decide) (Nat.le_of_ble_eq_true rfl) (Nat.le_of_ble_eq_true rfl) dX1_init_24 (fun q3 c3 H hK hP hD hS => ?_)
  have hK : va_K D vwCl [(c1, .int), (c2, .int), (c3, .int)] s := hK
  have hP : va_P D vwCl [(h0, .inr (1, [.ref q1, .int 0, .ref q2, .int 0, .null, .null, .int 0, .int 0, .null, .int 0, .null, .int 0, .int 0, .int 0, .int 0, .int 0, .int 0, .int 0, .int 0])), (q1, .inl (c1, 64, .inl (fun _ => 0))), (q2, .inl (c2, 64, .inl (fun _ => 0))), (q3, .inl (c3, 256, .inl (fun _ => 0)))] H := hP
  have hD : va_D A [(h0, .inr (1, [.ref q1, .int 0, .ref q2, .int 0, .null, .null, .int 0, .int 0, .null, .int 0, .null, .int 0, .int 0, .int 0, .int 0, .int 0, .int 0, .int 0, .int 0])), (q1, .inl (c1, 64, .inl (fun _ => 0))), (q2, .inl (c2, 64, .inl (fun _ => 0))), (q3, .inl (c3, 256, .inl (fun _ => 0)))] := hD
  refine W.widen (k := 3) (n := 384) (Nat.le_of_ble_eq_true rfl) (Nat.le_of_ble_eq_true rfl) ?_
  refine va_putF (D := D) (ci := 1) (v := .ref q3) (ty := (.array .int)) (C := RX1) (T := TX1) (N := 19) hx hb hts hin tyX1 tyX1_ok nmX1 hown hK hP hD hS 0 rfl rfl 4 (by decide) (hts _ (mc wd_297)) (fun _ h9 => h9) rfl hname rfl (by decide +kernel) rfl rfl (Nat.le_of_ble_eq_true rfl) dX1_init_26 (fun H locs hP hD hS => ?_)
  have hP : va_P D vwCl [(h0, .inr (1, [.ref q1, .int 0, .ref q2, .int 0, .ref q3, .null, .int 0, .int 0, .null, .int 0, .null, .int 0, .int 0, .int 0, .int 0, .int 0, .int 0, .int 0, .int 0])), (q1, .inl (c1, 64, .inl (fun _ => 0))), (q2, .inl (c2, 64, .inl (fun _ => 0))), (q3, .inl (c3, 256, .inl (fun _ => 0)))] H := hP
  have hD : va_D A [(h0, .inr (1, [.ref q1, .int 0, .ref q2, .int 0, .ref q3, .null, .int 0, .int 0, .null, .int 0, .null, .int 0, .int 0, .int 0, .int 0, .int 0, .int 0, .int 0, .int 0])), (q1, .inl (c1, 64, .inl (fun _ => 0))), (q2, .inl (c2, 64, .inl (fun _ => 0))), (q3, .inl (c3, 256, .inl (fun _ => 0)))] := hD
  refine lv_aload_n hx hb dX1_init_29 rfl (lv_at hl 0 rfl) ?_
  refine lv_bipush (v := 64) hx hb dX1_init_30 (by decide) ?_
  refine va_newa (atype := .int) (ty := .int) (N' := 64) (a0 := (64, .inl (fun _ => 0))) hx hb (hts _ (mc wd_95)) rfl hK hP hD hS hA (fun _ => rfl) (by decide) (by decide) (by decide) (Nat.le_of_ble_eq_true rfl) (Nat.le_of_ble_eq_true rfl) dX1_init_32 (fun q4 c4 H hK hP hD hS => ?_)
  have hK : va_K D vwCl [(c1, .int), (c2, .int), (c3, .int), (c4, .int)] s := hK
  have hP : va_P D vwCl [(h0, .inr (1, [.ref q1, .int 0, .ref q2, .int 0, .ref q3, .null, .int 0, .int 0, .null, .int 0, .null, .int 0, .int 0, .int 0, .int 0, .int 0, .int 0, .int 0, .int 0])), (q1, .inl (c1, 64, .inl (fun _ => 0))), (q2, .inl (c2, 64, .inl (fun _ => 0))), (q3, .inl (c3, 256, .inl (fun _ => 0))), (q4, .inl (c4, 64, .inl (fun _ => 0)))] H := hP
  have hD : va_D A [(h0, .inr (1, [.ref q1, .int 0, .ref q2, .int 0, .ref q3, .null, .int 0, .int 0, .null, .int 0, .null, .int 0, .int 0, .int 0, .int 0, .int 0, .int 0, .int 0, .int 0])), (q1, .inl (c1, 64, .inl (fun _ => 0))), (q2, .inl (c2, 64, .inl (fun _ => 0))), (q3, .inl (c3, 256, .inl (fun _ => 0))), (q4, .inl (c4, 64, .inl (fun _ => 0)))] := hD
  refine W.widen (k := 4) (n := 448) (Nat.le_of_ble_eq_true rfl) (Nat.le_of_ble_eq_true rfl) ?_
  refine va_putF (D := D) (ci := 1) (v := .ref q4) (ty := (.array .int)) (C := RX1) (T := TX1) (N := 19) hx hb hts hin tyX1 tyX1_ok nmX1 hown hK hP hD hS 0 rfl rfl 5 (by decide) (hts _ (mc wd_298)) (fun _ h9 => h9) rfl hname rfl (by decide +kernel) rfl rfl (Nat.le_of_ble_eq_true rfl) dX1_init_34 (fun H locs hP hD hS => ?_)
  have hP : va_P D vwCl [(h0, .inr (1, [.ref q1, .int 0, .ref q2, .int 0, .ref q3, .ref q4, .int 0, .int 0, .null, .int 0, .null, .int 0, .int 0, .int 0, .int 0, .int 0, .int 0, .int 0, .int 0])), (q1, .inl (c1, 64, .inl (fun _ => 0))), (q2, .inl (c2, 64, .inl (fun _ => 0))), (q3, .inl (c3, 256, .inl (fun _ => 0))), (q4, .inl (c4, 64, .inl (fun _ => 0)))] H := hP
  have hD : va_D A [(h0, .inr (1, [.ref q1, .int 0, .ref q2, .int 0, .ref q3, .ref q4, .int 0, .int 0, .null, .int 0, .null, .int 0, .int 0, .int 0, .int 0, .int 0, .int 0, .int 0, .int 0])), (q1, .inl (c1, 64, .inl (fun _ => 0))), (q2, .inl (c2, 64, .inl (fun _ => 0))), (q3, .inl (c3, 256, .inl (fun _ => 0))), (q4, .inl (c4, 64, .inl (fun _ => 0)))] := hD
  refine lv_aload_n hx hb dX1_init_37 rfl (lv_at hl 0 rfl) ?_
  refine lv_sipush (v := 256) hx hb dX1_init_38 (by decide) ?_
  refine va_newa (atype := .int) (ty := .int) (N' := 256) (a0 := (256, .inl (fun _ => 0))) hx hb (hts _ (mc wd_95)) rfl hK hP hD hS hA (fun _ => rfl) (by decide) (by decide) (by decide) (Nat.le_of_ble_eq_true rfl) (Nat.le_of_ble_eq_true rfl) dX1_init_41 (fun q5 c5 H hK hP hD hS => ?_)
  have hK : va_K D vwCl [(c1, .int), (c2, .int), (c3, .int), (c4, .int), (c5, .int)] s := hK
  have hP : va_P D vwCl [(h0, .inr (1, [.ref q1, .int 0, .ref q2, .int 0, .ref q3, .ref q4, .int 0, .int 0, .null, .int 0, .null, .int 0, .int 0, .int 0, .int 0, .int 0, .int 0, .int 0, .int 0])), (q1, .inl (c1, 64, .inl (fun _ => 0))), (q2, .inl (c2, 64, .inl (fun _ => 0))), (q3, .inl (c3, 256, .inl (fun _ => 0))), (q4, .inl (c4, 64, .inl (fun _ => 0))), (q5, .inl (c5, 256, .inl (fun _ => 0)))] H := hP
  have hD : va_D A [(h0, .inr (1, [.ref q1, .int 0, .ref q2, .int 0, .ref q3, .ref q4, .int 0, .int 0, .null, .int 0, .null, .int 0, .int 0, .int 0, .int 0, .int 0, .int 0, .int 0, .int 0])), (q1, .inl (c1, 64, .inl (fun _ => 0))), (q2, .inl (c2, 64, .inl (fun _ => 0))), (q3, .inl (c3, 256, .inl (fun _ => 0))), (q4, .inl (c4, 64, .inl (fun _ => 0))), (q5, .inl (c5, 256, .inl (fun _ => 0)))] := hD
  refine W.widen (k := 5) (n := 704) (Nat.le_of_ble_eq_true rfl) (Nat.le_of_ble_eq_true rfl) ?_
  refine va_putF (D := D) (ci := 1) (v := .ref q5) (ty := (.array .int)) (C := RX1) (T := TX1) (N := 19) hx hb hts hin tyX1 tyX1_ok nmX1 hown hK hP hD hS 0 rfl rfl 8 (by decide) (hts _ (mc wd_301)) (fun _ h9 => h9) rfl hname rfl (by decide +kernel) rfl rfl (Nat.le_of_ble_eq_true rfl) dX1_init_43 (fun H locs hP hD hS => ?_)
  have hP : va_P D vwCl [(h0, .inr (1, [.ref q1, .int 0, .ref q2, .int 0, .ref q3, .ref q4, .int 0, .int 0, .ref q5, .int 0, .null, .int 0, .int 0, .int 0, .int 0, .int 0, .int 0, .int 0, .int 0])), (q1, .inl (c1, 64, .inl (fun _ => 0))), (q2, .inl (c2, 64, .inl (fun _ => 0))), (q3, .inl (c3, 256, .inl (fun _ => 0))), (q4, .inl (c4, 64, .inl (fun _ => 0))), (q5, .inl (c5, 256, .inl (fun _ => 0)))] H := hP
  have hD : va_D A [(h0, .inr (1, [.ref q1, .int 0, .ref q2, .int 0, .ref q3, .ref q4, .int 0, .int 0, .ref q5, .int 0, .null, .int 0, .int 0, .int 0, .int 0, .int 0, .int 0, .int 0, .int 0])), (q1, .inl (c1, 64, .inl (fun _ => 0))), (q2, .inl (c2, 64, .inl (fun _ => 0))), (q3, .inl (c3, 256, .inl (fun _ => 0))), (q4, .inl (c4, 64, .inl (fun _ => 0))), (q5, .inl (c5, 256, .inl (fun _ => 0)))] := hD
  refine lv_aload_n hx hb dX1_init_46 rfl (lv_at hl 0 rfl) ?_
  refine lv_bipush (v := 34) hx hb dX1_init_47 (by decide) ?_
  refine va_newa (atype := .int) (ty := .int) (N' := 34) (a0 := (34, .inl (fun _ => 0))) hx hb (hts _ (mc wd_95)) rfl hK hP hD hS hA (fun _ => rfl) (by decide) (by decide) (by decide) (Nat.le_of_ble_eq_true rfl) (Nat.le_of_ble_eq_true rfl) dX1_init_49 (fun q6 c6 H hK hP hD hS => ?_)
  have hK : va_K D vwCl [(c1, .int), (c2, .int), (c3, .int), (c4, .int), (c5, .int), (c6, .int)] s := hK
  have hP : va_P D vwCl [(h0, .inr (1, [.ref q1, .int 0, .ref q2, .int 0, .ref q3, .ref q4, .int 0, .int 0, .ref q5, .int 0, .null, .int 0, .int 0, .int 0, .int 0, .int 0, .int 0, .int 0, .int 0])), (q1, .inl (c1, 64, .inl (fun _ => 0))), (q2, .inl (c2, 64, .inl (fun _ => 0))), (q3, .inl (c3, 256, .inl (fun _ => 0))), (q4, .inl (c4, 64, .inl (fun _ => 0))), (q5, .inl (c5, 256, .inl (fun _ => 0))), (q6, .inl (c6, 34, .inl (fun _ => 0)))] H := hP
  have hD : va_D A [(h0, .inr (1, [.ref q1, .int 0, .ref q2, .int 0, .ref q3, .ref q4, .int 0, .int 0, .ref q5, .int 0, .null, .int 0, .int 0, .int 0, .int 0, .int 0, .int 0, .int 0, .int 0])), (q1, .inl (c1, 64, .inl (fun _ => 0))), (q2, .inl (c2, 64, .inl (fun _ => 0))), (q3, .inl (c3, 256, .inl (fun _ => 0))), (q4, .inl (c4, 64, .inl (fun _ => 0))), (q5, .inl (c5, 256, .inl (fun _ => 0))), (q6, .inl (c6, 34, .inl (fun _ => 0)))] := hD
  refine W.widen (k := 6) (n := 738) (Nat.le_of_ble_eq_true rfl) (Nat.le_of_ble_eq_true rfl) ?_
  refine va_putF (D := D) (ci := 1) (v := .ref q6) (ty := (.array .int)) (C := RX1) (T := TX1) (N := 19) hx hb hts hin tyX1 tyX1_ok nmX1 hown hK hP hD hS 0 rfl rfl 10 (by decide) (hts _ (mc wd_303)) (fun _ h9 => h9) rfl hname rfl (by decide +kernel) rfl rfl (Nat.le_of_ble_eq_true rfl) dX1_init_51 (fun H locs hP hD hS => ?_)
  have hP : va_P D vwCl [(h0, .inr (1, [.ref q1, .int 0, .ref q2, .int 0, .ref q3, .ref q4, .int 0, .int 0, .ref q5, .int 0, .ref q6, .int 0, .int 0, .int 0, .int 0, .int 0, .int 0, .int 0, .int 0])), (q1, .inl (c1, 64, .inl (fun _ => 0))), (q2, .inl (c2, 64, .inl (fun _ => 0))), (q3, .inl (c3, 256, .inl (fun _ => 0))), (q4, .inl (c4, 64, .inl (fun _ => 0))), (q5, .inl (c5, 256, .inl (fun _ => 0))), (q6, .inl (c6, 34, .inl (fun _ => 0)))] H := hP
  have hD : va_D A [(h0, .inr (1, [.ref q1, .int 0, .ref q2, .int 0, .ref q3, .ref q4, .int 0, .int 0, .ref q5, .int 0, .ref q6, .int 0, .int 0, .int 0, .int 0, .int 0, .int 0, .int 0, .int 0])), (q1, .inl (c1, 64, .inl (fun _ => 0))), (q2, .inl (c2, 64, .inl (fun _ => 0))), (q3, .inl (c3, 256, .inl (fun _ => 0))), (q4, .inl (c4, 64, .inl (fun _ => 0))), (q5, .inl (c5, 256, .inl (fun _ => 0))), (q6, .inl (c6, 34, .inl (fun _ => 0)))] := hD
  refine lv_aload_n hx hb dX1_init_54 rfl (lv_at hl 0 rfl) ?_
  refine va_get (D := D) (ci := 1) (v := .ref q6) (C := RX1) (T := TX1) (N := 19) hx hb hts hin hown hK hP 0 rfl rfl 10 (by decide) (hts _ (mc wd_303)) (fun _ h9 => h9) rfl dX1_init_55 ?_
  refine lv_bipush (v := 29) hx hb dX1_init_58 (by decide) ?_
  refine lv_ldc (v := 268435712) hx hb hown (hts _ (mc wd_292)) dX1_init_60 ?_
  refine va_iast hx hb hK hP hD hS 6 5 rfl rfl (in_c (by decide)) dX1_init_62 (fun H locs hP hD hS => ?_)
  have hP : va_P D vwCl [(h0, .inr (1, [.ref q1, .int 0, .ref q2, .int 0, .ref q3, .ref q4, .int 0, .int 0, .ref q5, .int 0, .ref q6, .int 0, .int 0, .int 0, .int 0, .int 0, .int 0, .int 0, .int 0])), (q1, .inl (c1, 64, .inl (fun _ => 0))), (q2, .inl (c2, 64, .inl (fun _ => 0))), (q3, .inl (c3, 256, .inl (fun _ => 0))), (q4, .inl (c4, 64, .inl (fun _ => 0))), (q5, .inl (c5, 256, .inl (fun _ => 0))), (q6, .inl (c6, 34, .inl (upd (fun _ => 0) (Int32.toNatClampNeg (29 : Int32)) (268435712 : Int32))))] H := hP
  have hD : va_D A [(h0, .inr (1, [.ref q1, .int 0, .ref q2, .int 0, .ref q3, .ref q4, .int 0, .int 0, .ref q5, .int 0, .ref q6, .int 0, .int 0, .int 0, .int 0, .int 0, .int 0, .int 0, .int 0])), (q1, .inl (c1, 64, .inl (fun _ => 0))), (q2, .inl (c2, 64, .inl (fun _ => 0))), (q3, .inl (c3, 256, .inl (fun _ => 0))), (q4, .inl (c4, 64, .inl (fun _ => 0))), (q5, .inl (c5, 256, .inl (fun _ => 0))), (q6, .inl (c6, 34, .inl (upd (fun _ => 0) (Int32.toNatClampNeg (29 : Int32)) (268435712 : Int32))))] := hD
  exact W.vret hx hb hr (fun t ht hW => ⟨⟨(fun k => match k with | 0 => h0 | 1 => q1 | 2 => q2 | 3 => q3 | 4 => q4 | 5 => q5 | _ => q6, fun k => match k with | 1 => c1 | 2 => c2 | 3 => c3 | 4 => c4 | 5 => c5 | _ => c6), rfl, rfl, by rw [ht]; exact hP, va_K.moved hW.alike hK, hD⟩, hS.F ht⟩) hS.2.2 dX1_init_63
