set_option maxHeartbeats 4000000 in
set_option maxRecDepth 100000 in
theorem kX1_load (l : Launch) (D : va_G) (q : Nat → Nat) (cA : Nat → ClassId) (sz : Nat) (σ : SM) (a1 : Int32) (a2 : Int32) (a3 : Int32) (a4 : Int32) (hI : vp_in a1 34 ∧ B3 a3) : oMet l D vwCl (wM q cA) (tM cA) (q 0) sz yX1_load wsX1_load { frames := 1, cells := 0, slots := 0, locals := 22 } σ [.int a1, .int a2, .int a3, .int a4] (FM_load σ a1 a2 a3 a4) := by
  refine o_met (cc := cX1_load) (maxL := 7) (ret := some .int) (by decide) rfl (Nat.le_of_ble_eq_true rfl) ?_
  intro p e s m args below meth c A ls hx hb hr hml hts hown hlk hP hK hD hA hS hl
  have hl : lv_has ls 7 [(0, .ref (q 0)), (1, .int a1), (2, .int a2), (3, .int a3), (4, .int a4)] := hl
  have hin : ∀ w ∈ wsX10, w ∈ wsX1_load := fun w h => mc (inX1 w h)
  generalize hF : FM_load σ a1 a2 a3 a4 = res
  refine lv_iload_n hx hb dX1_load_0 rfl (lv_at hl 2 rfl) ?_
  refine lv_iload_n hx hb dX1_load_1 rfl (lv_at hl 3 rfl) ?_
  refine lv_irem hx hb dX1_load_2 (b3_ne hI.2) ?_
  refine lv_if_eq (tgt := 8) hx hb dX1_load_3 (by decide) (fun c_1 => ?_) (fun c_1 => ?_)
  · skip
    refine lv_iload_n hx hb dX1_load_8 rfl (lv_at hl 2 rfl) ?_
    refine lv_ldc (v := 268435456) hx hb hown (hts _ (mc wd_453)) dX1_load_9 ?_
    refine lv_icmp_lt (tgt := 20) hx hb dX1_load_11 (by decide) (fun c_2 => ?_) (fun c_2 => ?_)
    · skip
      refine lv_iconst (v := 3) hx hb dX1_load_20 (by decide) ?_
      exact o_ret hx hb hr hlk hK hP hD hS (by rw [← hF, FM_load, if_pos c_1, if_pos c_2]) dX1_load_21
    · skip
      refine lv_iload_n hx hb dX1_load_14 rfl (lv_at hl 2 rfl) ?_
      refine lv_ldc (v := 268435711) hx hb hown (hts _ (mc wd_454)) dX1_load_15 ?_
      refine lv_icmp_le (tgt := 22) hx hb dX1_load_17 (by decide) (fun c_3 => ?_) (fun c_3 => ?_)
      · skip
        refine lv_iconst (v := 0) hx hb dX1_load_22 (by decide) ?_
        refine lv_istore (lv' := [(5, .int (0 : Int32)), (0, .ref (q 0)), (1, .int a1), (2, .int a2), (3, .int a3), (4, .int a4)]) hx hb dX1_load_23 hl (by decide) rfl (fun ls hl => ?_)
        refine lv_iconst (v := 0) hx hb dX1_load_25 (by decide) ?_
        refine lv_istore (lv' := [(6, .int (0 : Int32)), (5, .int (0 : Int32)), (0, .ref (q 0)), (1, .int a1), (2, .int a2), (3, .int a3), (4, .int a4)]) hx hb dX1_load_26 hl (by decide) rfl (fun ls hl => ?_)
        have hloop : ∀ (n : Nat) (σ : SM) (x5 : Int32) (x6 : Int32), JLoad (a2 - (268435456 : Int32)) a3 n x5 x6 → ∀ (res : Int32 × SM), (LM_load a1 a2 a3 a4 n σ x5 x6) = res → ∀ (H : Heap) (locs : List Loc) (ls : Array Slot), va_P D vwCl (wM q cA σ) H → va_D A (wM q cA σ) → va_S A s.heap H locs → lv_has ls 7 [(5, .int x5), (6, .int x6), (0, .ref (q 0)), (1, .int a1), (2, .int a2), (3, .int a3), (4, .int a4)] → W p l e ({ frames := 1, cells := 0, slots := 0, locals := 22 } : Room) s m args below meth c H locs 0 0 (MQ below (oQ D vwCl (wM q cA) (tM cA) A res) args s 0 0 A) (F0 m 28 ls []) := by
          clear hF
          intro n
          induction n with
          | zero =>
            intro σ x5 x6 hJ
            exact absurd hJ (jload_0)
          | succ n ih =>
            intro σ x5 x6 hJ res hF H locs ls hP hD hS hl
            refine lv_iload hx hb dX1_load_28 (lv_at hl 1 rfl) ?_
            refine lv_iload_n hx hb dX1_load_30 rfl (lv_at hl 5 rfl) ?_
            refine lv_icmp_ge (tgt := 60) hx hb dX1_load_31 (by decide) (fun c_4 => ?_) (fun c_4 => ?_)
            · skip
              refine lv_bipush (v := 32) hx hb dX1_load_60 (by decide) ?_
              refine lv_bipush (v := 8) hx hb dX1_load_62 (by decide) ?_
              refine lv_iload_n hx hb dX1_load_64 rfl (lv_at hl 5 rfl) ?_
              refine lv_imul hx hb dX1_load_65 ?_
              refine lv_isub hx hb dX1_load_66 ?_
              refine lv_istore (lv' := [(6, .int ((32 : Int32) - ((8 : Int32) * a3))), (5, .int x5), (0, .ref (q 0)), (1, .int a1), (2, .int a2), (3, .int a3), (4, .int a4)]) hx hb dX1_load_67 hl (by decide) rfl (fun ls hl => ?_)
              refine lv_aload_n hx hb dX1_load_69 rfl (lv_at hl 2 rfl) ?_
              refine lv_iload_n hx hb dX1_load_70 rfl (lv_at hl 3 rfl) ?_
              refine lv_iload hx hb dX1_load_71 (lv_at hl 6 rfl) ?_
              refine lv_if_eq (tgt := 87) hx hb dX1_load_73 (by decide) (fun c_5 => ?_) (fun c_5 => ?_)
              · skip
                refine lv_iload hx hb dX1_load_87 (lv_at hl 1 rfl) ?_
                obtain ⟨r_6, hr_6⟩ : ∃ z, (FM_put σ a1 x5) = z := ⟨_, rfl⟩
                refine o_callV (As := [.int a1, .int x5]) (rest := []) (res := r_6) ⟨hx, hb, hml, hown, hts⟩ (by rw [← hr_6]; exact (kX1_put l D q cA _ σ a1 x5 hI.1)) (cwV 2 hts (gV wd_411 wd_413 wd_26 wd_39 wd_414) rfl rfl rfl (by decide +kernel) ⟨Nat.le_of_ble_eq_true rfl, Nat.le_of_ble_eq_true rfl⟩) hK hP hD hS hA (va_recv hK hP (ci := 1) (q0 := 0) rfl rfl) rfl hl.1 rfl (Nat.le_of_ble_eq_true rfl) dX1_load_89 (fun H locs hP hD hS => ?_)
                refine lv_iconst (v := 0) hx hb dX1_load_92 (by decide) ?_
                exact o_ret hx hb hr hlk hK hP hD hS (by subst hr_6; rw [← hF, LM_load, if_pos c_4, if_pos c_5]) dX1_load_93
              · skip
                refine lv_iload hx hb dX1_load_76 (lv_at hl 1 rfl) ?_
                refine lv_iload hx hb dX1_load_78 (lv_at hl 0 rfl) ?_
                refine lv_ishl hx hb dX1_load_80 ?_
                refine lv_iload hx hb dX1_load_81 (lv_at hl 0 rfl) ?_
                refine lv_ishr hx hb dX1_load_83 ?_
                refine lv_goto (tgt := 89) hx hb dX1_load_84 (by decide) ?_
                obtain ⟨r_7, hr_7⟩ : ∃ z, (FM_put σ a1 ((x5 <<< (((32 : Int32) - ((8 : Int32) * a3)) &&& 31)) >>> (((32 : Int32) - ((8 : Int32) * a3)) &&& 31))) = z := ⟨_, rfl⟩
                refine o_callV (As := [.int a1, .int ((x5 <<< (((32 : Int32) - ((8 : Int32) * a3)) &&& 31)) >>> (((32 : Int32) - ((8 : Int32) * a3)) &&& 31))]) (rest := []) (res := r_7) ⟨hx, hb, hml, hown, hts⟩ (by rw [← hr_7]; exact (kX1_put l D q cA _ σ a1 ((x5 <<< (((32 : Int32) - ((8 : Int32) * a3)) &&& 31)) >>> (((32 : Int32) - ((8 : Int32) * a3)) &&& 31)) hI.1)) (cwV 2 hts (gV wd_411 wd_413 wd_26 wd_39 wd_414) rfl rfl rfl (by decide +kernel) ⟨Nat.le_of_ble_eq_true rfl, Nat.le_of_ble_eq_true rfl⟩) hK hP hD hS hA (va_recv hK hP (ci := 1) (q0 := 0) rfl rfl) rfl hl.1 rfl (Nat.le_of_ble_eq_true rfl) dX1_load_89 (fun H locs hP hD hS => ?_)
                refine lv_iconst (v := 0) hx hb dX1_load_92 (by decide) ?_
                exact o_ret hx hb hr hlk hK hP hD hS (by subst hr_7; rw [← hF, LM_load, if_pos c_4, if_neg c_5]) dX1_load_93
            · skip
              refine lv_iload hx hb dX1_load_34 (lv_at hl 0 rfl) ?_
              refine lv_bipush (v := 8) hx hb dX1_load_36 (by decide) ?_
              refine lv_ishl hx hb dX1_load_38 ?_
              refine lv_aload_n hx hb dX1_load_39 rfl (lv_at hl 2 rfl) ?_
              refine getX1_mby hx hb hts hin hown hK hP (hts _ (mc wd_297)) dX1_load_40 ?_
              refine lv_iload_n hx hb dX1_load_43 rfl (lv_at hl 4 rfl) ?_
              refine lv_ldc (v := 268435456) hx hb hown (hts _ (mc wd_453)) dX1_load_44 ?_
              refine lv_isub hx hb dX1_load_46 ?_
              refine lv_iload hx hb dX1_load_47 (lv_at hl 1 rfl) ?_
              refine lv_iadd hx hb dX1_load_49 ?_
              refine aldX1_mby (f := (gmby σ)) hx hb hK hP (jload_in hJ c_4) dX1_load_50 rfl ?_
              refine lv_ior hx hb dX1_load_51 ?_
              refine lv_istore (lv' := [(5, .int ((x5 <<< ((8 : Int32) &&& 31)) ||| ((gmby σ) (Int32.toNatClampNeg ((a2 - (268435456 : Int32)) + x6))))), (6, .int x6), (0, .ref (q 0)), (1, .int a1), (2, .int a2), (3, .int a3), (4, .int a4)]) hx hb dX1_load_52 hl (by decide) rfl (fun ls hl => ?_)
              refine lv_iinc (v := (x6 + 1)) (lv' := [(6, .int (x6 + 1)), (5, .int ((x5 <<< ((8 : Int32) &&& 31)) ||| ((gmby σ) (Int32.toNatClampNeg ((a2 - (268435456 : Int32)) + x6))))), (0, .ref (q 0)), (1, .int a1), (2, .int a2), (3, .int a3), (4, .int a4)]) hx hb dX1_load_54 hl (k := 1) rfl rfl (by decide) rfl (fun ls hl => ?_)
              refine lv_goto (tgt := 28) hx hb dX1_load_57 (by decide) ?_
              exact ih σ ((x5 <<< ((8 : Int32) &&& 31)) ||| ((gmby σ) (Int32.toNatClampNeg ((a2 - (268435456 : Int32)) + x6)))) (x6 + 1) (jload_b hJ c_4) _ (by rw [← hF, LM_load, if_neg c_4]) _ _ _ hP hD hS (lv_sub hl [1, 0, 2, 3, 4, 5, 6] rfl)
        exact hloop (a3.toNatClampNeg + 1) σ (0 : Int32) (0 : Int32) (jload_s (ld_okM hI.2 c_1 c_2 c_3)) _ (by rw [← hF, FM_load, if_pos c_1, if_neg c_2, if_pos c_3]) _ _ _ hP hD hS (lv_sub hl [1, 0, 2, 3, 4, 5, 6] rfl)
      · skip
        refine lv_iconst (v := 3) hx hb dX1_load_20 (by decide) ?_
        exact o_ret hx hb hr hlk hK hP hD hS (by rw [← hF, FM_load, if_pos c_1, if_neg c_2, if_neg c_3]) dX1_load_21
  · skip
    refine lv_iconst (v := 2) hx hb dX1_load_6 (by decide) ?_
    exact o_ret hx hb hr hlk hK hP hD hS (by rw [← hF, FM_load, if_neg c_1]) dX1_load_7
set_option maxHeartbeats 4000000 in
set_option maxRecDepth 100000 in
theorem kX1_store (l : Launch) (D : va_G) (q : Nat → Nat) (cA : Nat → ClassId) (sz : Nat) (σ : SM) (a1 : Int32) (a2 : Int32) (a3 : Int32) (hI : B3 a3) : oMet l D vwCl (wM q cA) (tM cA) (q 0) sz yX1_store wsX1_store { frames := 1, cells := 0, slots := 0, locals := 21 } σ [.int a1, .int a2, .int a3] (FM_store σ a1 a2 a3) := by
  refine o_met (cc := cX1_store) (maxL := 5) (ret := some .int) (by decide) rfl (Nat.le_of_ble_eq_true rfl) ?_
  intro p e s m args below meth c A ls hx hb hr hml hts hown hlk hP hK hD hA hS hl
  have hl : lv_has ls 5 [(0, .ref (q 0)), (1, .int a1), (2, .int a2), (3, .int a3)] := hl
  have hin : ∀ w ∈ wsX10, w ∈ wsX1_store := fun w h => mc (inX1 w h)
  generalize hF : FM_store σ a1 a2 a3 = res
  refine lv_iload_n hx hb dX1_store_0 rfl (lv_at hl 2 rfl) ?_
  refine lv_iload_n hx hb dX1_store_1 rfl (lv_at hl 3 rfl) ?_
  refine lv_irem hx hb dX1_store_2 (b3_ne hI) ?_
  refine lv_if_eq (tgt := 8) hx hb dX1_store_3 (by decide) (fun c_1 => ?_) (fun c_1 => ?_)
  · skip
    refine lv_iload_n hx hb dX1_store_8 rfl (lv_at hl 2 rfl) ?_
    refine lv_ldc (v := 268435456) hx hb hown (hts _ (mc wd_453)) dX1_store_9 ?_
    refine lv_icmp_lt (tgt := 20) hx hb dX1_store_11 (by decide) (fun c_2 => ?_) (fun c_2 => ?_)
    · skip
      refine lv_aload_n hx hb dX1_store_20 rfl (lv_at hl 0 rfl) ?_
      refine lv_iload_n hx hb dX1_store_21 rfl (lv_at hl 2 rfl) ?_
      refine o_callR (As := [.int a2]) (rest := []) ⟨hx, hb, hml, hown, hts⟩ (kX1_isText l D q cA _ σ a2) (cwV 1 hts (gV wd_407 wd_409 wd_25 wd_39 wd_410) rfl rfl rfl (by decide +kernel) ⟨Nat.le_of_ble_eq_true rfl, Nat.le_of_ble_eq_true rfl⟩) hK hP hD hS hA (va_recv hK hP (ci := 1) (q0 := 0) rfl rfl) rfl hl.1 rfl (Nat.le_of_ble_eq_true rfl) dX1_store_22 (fun H locs hP hD hS => ?_)
      refine lv_if_eq (tgt := 33) hx hb dX1_store_25 (by decide) (fun c_3 => ?_) (fun c_3 => ?_)
      · skip
        refine lv_iconst (v := 3) hx hb dX1_store_33 (by decide) ?_
        exact o_ret hx hb hr hlk hK hP hD hS (by rw [← hF, FM_store, if_pos c_1, if_pos c_2, if_pos c_3]) dX1_store_34
      · skip
        refine lv_bipush (v := 6) hx hb dX1_store_28 (by decide) ?_
        refine lv_goto (tgt := 34) hx hb dX1_store_30 (by decide) ?_
        exact o_ret hx hb hr hlk hK hP hD hS (by rw [← hF, FM_store, if_pos c_1, if_pos c_2, if_neg c_3]) dX1_store_34
    · skip
      refine lv_iload_n hx hb dX1_store_14 rfl (lv_at hl 2 rfl) ?_
      refine lv_ldc (v := 268435711) hx hb hown (hts _ (mc wd_454)) dX1_store_15 ?_
      refine lv_icmp_le (tgt := 35) hx hb dX1_store_17 (by decide) (fun c_4 => ?_) (fun c_4 => ?_)
      · skip
        refine lv_iconst (v := 0) hx hb dX1_store_35 (by decide) ?_
        refine lv_istore (lv' := [(4, .int (0 : Int32)), (0, .ref (q 0)), (1, .int a1), (2, .int a2), (3, .int a3)]) hx hb dX1_store_36 hl (by decide) rfl (fun ls hl => ?_)
        have hloop : ∀ (n : Nat) (σ : SM) (x4 : Int32), JLoad (a2 - (268435456 : Int32)) a3 n 0 x4 → ∀ (res : Int32 × SM), (LM_store a1 a2 a3 n σ x4) = res → ∀ (H : Heap) (locs : List Loc) (ls : Array Slot), va_P D vwCl (wM q cA σ) H → va_D A (wM q cA σ) → va_S A s.heap H locs → lv_has ls 5 [(4, .int x4), (0, .ref (q 0)), (1, .int a1), (2, .int a2), (3, .int a3)] → W p l e ({ frames := 1, cells := 0, slots := 0, locals := 21 } : Room) s m args below meth c H locs 0 0 (MQ below (oQ D vwCl (wM q cA) (tM cA) A res) args s 0 0 A) (F0 m 38 ls []) := by
          clear hF
          intro n
          induction n with
          | zero =>
            intro σ x4 hJ
            exact absurd hJ (jload_0)
          | succ n ih =>
            intro σ x4 hJ res hF H locs ls hP hD hS hl
            refine lv_iload hx hb dX1_store_38 (lv_at hl 0 rfl) ?_
            refine lv_iload_n hx hb dX1_store_40 rfl (lv_at hl 4 rfl) ?_
            refine lv_icmp_ge (tgt := 77) hx hb dX1_store_41 (by decide) (fun c_5 => ?_) (fun c_5 => ?_)
            · skip
              refine lv_iconst (v := 0) hx hb dX1_store_77 (by decide) ?_
              exact o_ret hx hb hr hlk hK hP hD hS (by rw [← hF, LM_store, if_pos c_5]) dX1_store_78
            · skip
              refine lv_aload_n hx hb dX1_store_44 rfl (lv_at hl 1 rfl) ?_
              refine getX1_mby hx hb hts hin hown hK hP (hts _ (mc wd_297)) dX1_store_45 ?_
              refine lv_iload_n hx hb dX1_store_48 rfl (lv_at hl 3 rfl) ?_
              refine lv_ldc (v := 268435456) hx hb hown (hts _ (mc wd_453)) dX1_store_49 ?_
              refine lv_isub hx hb dX1_store_51 ?_
              refine lv_iload hx hb dX1_store_52 (lv_at hl 0 rfl) ?_
              refine lv_iadd hx hb dX1_store_54 ?_
              refine lv_iload_n hx hb dX1_store_55 rfl (lv_at hl 2 rfl) ?_
              refine lv_bipush (v := 8) hx hb dX1_store_56 (by decide) ?_
              refine lv_iload_n hx hb dX1_store_58 rfl (lv_at hl 4 rfl) ?_
              refine lv_iconst (v := 1) hx hb dX1_store_59 (by decide) ?_
              refine lv_isub hx hb dX1_store_60 ?_
              refine lv_iload hx hb dX1_store_61 (lv_at hl 0 rfl) ?_
              refine lv_isub hx hb dX1_store_63 ?_
              refine lv_imul hx hb dX1_store_64 ?_
              refine lv_iushr (v := (jushr a1 ((8 : Int32) * ((a3 - (1 : Int32)) - x4)))) hx hb dX1_store_65 rfl ?_
              refine lv_sipush (v := 255) hx hb dX1_store_66 (by decide) ?_
              refine lv_iand hx hb dX1_store_69 ?_
              refine astX1_mby (f := (gmby σ)) hx hb hK hP hD hS (jload_in hJ c_5) dX1_store_70 rfl (fun H locs hP hD hS => ?_)
              refine lv_iinc (v := (x4 + 1)) (lv' := [(4, .int (x4 + 1)), (0, .ref (q 0)), (1, .int a1), (2, .int a2), (3, .int a3)]) hx hb dX1_store_71 hl (k := 0) rfl rfl (by decide) rfl (fun ls hl => ?_)
              refine lv_goto (tgt := 38) hx hb dX1_store_74 (by decide) ?_
              exact ih (smby σ (upd (gmby σ) (Int32.toNatClampNeg ((a2 - (268435456 : Int32)) + x4)) ((jushr a1 ((8 : Int32) * ((a3 - (1 : Int32)) - x4))) &&& (255 : Int32)))) (x4 + 1) (jload_b hJ c_5) _ (by rw [← hF, LM_store, if_neg c_5]) _ _ _ hP hD hS (lv_sub hl [0, 1, 2, 3, 4] rfl)
        exact hloop (a3.toNatClampNeg + 1) σ (0 : Int32) (jload_s (ld_okM hI c_1 c_2 c_4)) _ (by rw [← hF, FM_store, if_pos c_1, if_neg c_2, if_pos c_4]) _ _ _ hP hD hS (lv_sub hl [0, 1, 2, 3, 4] rfl)
      · skip
        refine lv_aload_n hx hb dX1_store_20 rfl (lv_at hl 0 rfl) ?_
        refine lv_iload_n hx hb dX1_store_21 rfl (lv_at hl 2 rfl) ?_
        refine o_callR (As := [.int a2]) (rest := []) ⟨hx, hb, hml, hown, hts⟩ (kX1_isText l D q cA _ σ a2) (cwV 1 hts (gV wd_407 wd_409 wd_25 wd_39 wd_410) rfl rfl rfl (by decide +kernel) ⟨Nat.le_of_ble_eq_true rfl, Nat.le_of_ble_eq_true rfl⟩) hK hP hD hS hA (va_recv hK hP (ci := 1) (q0 := 0) rfl rfl) rfl hl.1 rfl (Nat.le_of_ble_eq_true rfl) dX1_store_22 (fun H locs hP hD hS => ?_)
        refine lv_if_eq (tgt := 33) hx hb dX1_store_25 (by decide) (fun c_5 => ?_) (fun c_5 => ?_)
        · skip
          refine lv_iconst (v := 3) hx hb dX1_store_33 (by decide) ?_
          exact o_ret hx hb hr hlk hK hP hD hS (by rw [← hF, FM_store, if_pos c_1, if_neg c_2, if_neg c_4, if_pos c_5]) dX1_store_34
        · skip
          refine lv_bipush (v := 6) hx hb dX1_store_28 (by decide) ?_
          refine lv_goto (tgt := 34) hx hb dX1_store_30 (by decide) ?_
          exact o_ret hx hb hr hlk hK hP hD hS (by rw [← hF, FM_store, if_pos c_1, if_neg c_2, if_neg c_4, if_neg c_5]) dX1_store_34
  · skip
    refine lv_iconst (v := 2) hx hb dX1_store_6 (by decide) ?_
    exact o_ret hx hb hr hlk hK hP hD hS (by rw [← hF, FM_store, if_neg c_1]) dX1_store_7
