set_option maxHeartbeats 4000000 in
set_option maxRecDepth 100000 in
theorem kX0_bytesOfAccess (l : Launch) (a1 : Int32) : sMet l yX0_bytesOfAccess wsX0_bytesOfAccess { frames := 0, cells := 0, slots := 0, locals := 0 } [.int a1] (FG_bytesOfAccess a1) := by
  refine s_met (cc := cX0_bytesOfAccess) (maxL := 1) (ret := some .int) (by decide) rfl (Nat.le_of_ble_eq_true rfl) ?_
  intro p e s m args below meth c ls hx hb hr hml hts hown hlk hS hl
  have hl : lv_has ls 1 [(0, .int a1)] := hl
  generalize hF : FG_bytesOfAccess a1 = res
  refine lv_iload_n hx hb dX0_bytesOfAccess_0 rfl (lv_at hl 0 rfl) ?_
  by_cases c_1 : a1 = (32 : Int32)
  · skip
    refine lv_tableIn (tgt := 64) hx hb dX0_bytesOfAccess_1 (by rw [c_1]; decide) (by rw [c_1]; decide) (by rw [c_1]; rfl) (by decide) ?_
    refine lv_iconst (v := 1) hx hb dX0_bytesOfAccess_64 (by decide) ?_
    exact s_ret hx hb hr hlk hS (by rw [← hF, FG_bytesOfAccess, if_pos c_1]) dX0_bytesOfAccess_65
  · skip
    by_cases c_2 : a1 = (33 : Int32)
    · skip
      refine lv_tableIn (tgt := 66) hx hb dX0_bytesOfAccess_1 (by rw [c_2]; decide) (by rw [c_2]; decide) (by rw [c_2]; rfl) (by decide) ?_
      refine lv_iconst (v := 2) hx hb dX0_bytesOfAccess_66 (by decide) ?_
      exact s_ret hx hb hr hlk hS (by rw [← hF, FG_bytesOfAccess, if_neg c_1, if_pos c_2]) dX0_bytesOfAccess_67
    · skip
      by_cases c_3 : a1 = (34 : Int32)
      · skip
        refine lv_tableIn (tgt := 70) hx hb dX0_bytesOfAccess_1 (by rw [c_3]; decide) (by rw [c_3]; decide) (by rw [c_3]; rfl) (by decide) ?_
        refine lv_iconst (v := 0) hx hb dX0_bytesOfAccess_70 (by decide) ?_
        exact s_ret hx hb hr hlk hS (by rw [← hF, FG_bytesOfAccess, if_neg c_1, if_neg c_2, if_pos c_3]) dX0_bytesOfAccess_71
      · skip
        by_cases c_4 : a1 = (35 : Int32)
        · skip
          refine lv_tableIn (tgt := 68) hx hb dX0_bytesOfAccess_1 (by rw [c_4]; decide) (by rw [c_4]; decide) (by rw [c_4]; rfl) (by decide) ?_
          refine lv_iconst (v := 4) hx hb dX0_bytesOfAccess_68 (by decide) ?_
          exact s_ret hx hb hr hlk hS (by rw [← hF, FG_bytesOfAccess, if_neg c_1, if_neg c_2, if_neg c_3, if_pos c_4]) dX0_bytesOfAccess_69
        · skip
          by_cases c_5 : a1 = (36 : Int32)
          · skip
            refine lv_tableIn (tgt := 64) hx hb dX0_bytesOfAccess_1 (by rw [c_5]; decide) (by rw [c_5]; decide) (by rw [c_5]; rfl) (by decide) ?_
            refine lv_iconst (v := 1) hx hb dX0_bytesOfAccess_64 (by decide) ?_
            exact s_ret hx hb hr hlk hS (by rw [← hF, FG_bytesOfAccess, if_neg c_1, if_neg c_2, if_neg c_3, if_neg c_4, if_pos c_5]) dX0_bytesOfAccess_65
          · skip
            by_cases c_6 : a1 = (37 : Int32)
            · skip
              refine lv_tableIn (tgt := 66) hx hb dX0_bytesOfAccess_1 (by rw [c_6]; decide) (by rw [c_6]; decide) (by rw [c_6]; rfl) (by decide) ?_
              refine lv_iconst (v := 2) hx hb dX0_bytesOfAccess_66 (by decide) ?_
              exact s_ret hx hb hr hlk hS (by rw [← hF, FG_bytesOfAccess, if_neg c_1, if_neg c_2, if_neg c_3, if_neg c_4, if_neg c_5, if_pos c_6]) dX0_bytesOfAccess_67
            · skip
              by_cases c_7 : a1 = (38 : Int32)
              · skip
                refine lv_tableIn (tgt := 70) hx hb dX0_bytesOfAccess_1 (by rw [c_7]; decide) (by rw [c_7]; decide) (by rw [c_7]; rfl) (by decide) ?_
                refine lv_iconst (v := 0) hx hb dX0_bytesOfAccess_70 (by decide) ?_
                exact s_ret hx hb hr hlk hS (by rw [← hF, FG_bytesOfAccess, if_neg c_1, if_neg c_2, if_neg c_3, if_neg c_4, if_neg c_5, if_neg c_6, if_pos c_7]) dX0_bytesOfAccess_71
              · skip
                by_cases c_8 : a1 = (39 : Int32)
                · skip
                  refine lv_tableIn (tgt := 70) hx hb dX0_bytesOfAccess_1 (by rw [c_8]; decide) (by rw [c_8]; decide) (by rw [c_8]; rfl) (by decide) ?_
                  refine lv_iconst (v := 0) hx hb dX0_bytesOfAccess_70 (by decide) ?_
                  exact s_ret hx hb hr hlk hS (by rw [← hF, FG_bytesOfAccess, if_neg c_1, if_neg c_2, if_neg c_3, if_neg c_4, if_neg c_5, if_neg c_6, if_neg c_7, if_pos c_8]) dX0_bytesOfAccess_71
                · skip
                  by_cases c_9 : a1 = (40 : Int32)
                  · skip
                    refine lv_tableIn (tgt := 64) hx hb dX0_bytesOfAccess_1 (by rw [c_9]; decide) (by rw [c_9]; decide) (by rw [c_9]; rfl) (by decide) ?_
                    refine lv_iconst (v := 1) hx hb dX0_bytesOfAccess_64 (by decide) ?_
                    exact s_ret hx hb hr hlk hS (by rw [← hF, FG_bytesOfAccess, if_neg c_1, if_neg c_2, if_neg c_3, if_neg c_4, if_neg c_5, if_neg c_6, if_neg c_7, if_neg c_8, if_pos c_9]) dX0_bytesOfAccess_65
                  · skip
                    by_cases c_10 : a1 = (41 : Int32)
                    · skip
                      refine lv_tableIn (tgt := 66) hx hb dX0_bytesOfAccess_1 (by rw [c_10]; decide) (by rw [c_10]; decide) (by rw [c_10]; rfl) (by decide) ?_
                      refine lv_iconst (v := 2) hx hb dX0_bytesOfAccess_66 (by decide) ?_
                      exact s_ret hx hb hr hlk hS (by rw [← hF, FG_bytesOfAccess, if_neg c_1, if_neg c_2, if_neg c_3, if_neg c_4, if_neg c_5, if_neg c_6, if_neg c_7, if_neg c_8, if_neg c_9, if_pos c_10]) dX0_bytesOfAccess_67
                    · skip
                      by_cases c_11 : a1 = (42 : Int32)
                      · skip
                        refine lv_tableIn (tgt := 70) hx hb dX0_bytesOfAccess_1 (by rw [c_11]; decide) (by rw [c_11]; decide) (by rw [c_11]; rfl) (by decide) ?_
                        refine lv_iconst (v := 0) hx hb dX0_bytesOfAccess_70 (by decide) ?_
                        exact s_ret hx hb hr hlk hS (by rw [← hF, FG_bytesOfAccess, if_neg c_1, if_neg c_2, if_neg c_3, if_neg c_4, if_neg c_5, if_neg c_6, if_neg c_7, if_neg c_8, if_neg c_9, if_neg c_10, if_pos c_11]) dX0_bytesOfAccess_71
                      · skip
                        by_cases c_12 : a1 = (43 : Int32)
                        · skip
                          refine lv_tableIn (tgt := 68) hx hb dX0_bytesOfAccess_1 (by rw [c_12]; decide) (by rw [c_12]; decide) (by rw [c_12]; rfl) (by decide) ?_
                          refine lv_iconst (v := 4) hx hb dX0_bytesOfAccess_68 (by decide) ?_
                          exact s_ret hx hb hr hlk hS (by rw [← hF, FG_bytesOfAccess, if_neg c_1, if_neg c_2, if_neg c_3, if_neg c_4, if_neg c_5, if_neg c_6, if_neg c_7, if_neg c_8, if_neg c_9, if_neg c_10, if_neg c_11, if_pos c_12]) dX0_bytesOfAccess_69
                        · skip
                          refine lv_tableOut (tgt := 70) hx hb dX0_bytesOfAccess_1 (by have h0 := lv_neT (a := 32) c_1 (by decide); have h1 := lv_neT (a := 33) c_2 (by decide); have h2 := lv_neT (a := 34) c_3 (by decide); have h3 := lv_neT (a := 35) c_4 (by decide); have h4 := lv_neT (a := 36) c_5 (by decide); have h5 := lv_neT (a := 37) c_6 (by decide); have h6 := lv_neT (a := 38) c_7 (by decide); have h7 := lv_neT (a := 39) c_8 (by decide); have h8 := lv_neT (a := 40) c_9 (by decide); have h9 := lv_neT (a := 41) c_10 (by decide); have h10 := lv_neT (a := 42) c_11 (by decide); have h11 := lv_neT (a := 43) c_12 (by decide); omega) (by decide) ?_
                          refine lv_iconst (v := 0) hx hb dX0_bytesOfAccess_70 (by decide) ?_
                          exact s_ret hx hb hr hlk hS (by rw [← hF, FG_bytesOfAccess, if_neg c_1, if_neg c_2, if_neg c_3, if_neg c_4, if_neg c_5, if_neg c_6, if_neg c_7, if_neg c_8, if_neg c_9, if_neg c_10, if_neg c_11, if_neg c_12]) dX0_bytesOfAccess_71
set_option maxHeartbeats 4000000 in
set_option maxRecDepth 100000 in
theorem kX0_store (l : Launch) (D : va_G) (q : Nat → Nat) (cA : Nat → ClassId) (sz : Nat) (σ : SG) (a1 : Int32) (a2 : Int32) (a3 : Int32) (hI : LD a1 a2) : oMet l D vwCl (wG q cA) (tG cA) (q 0) sz yX0_store wsX0_store { frames := 0, cells := 0, slots := 0, locals := 0 } σ [.int a1, .int a2, .int a3] (FG_store σ a1 a2 a3) := by
  refine o_met (cc := cX0_store) (maxL := 6) (ret := some .int) (by decide) rfl (Nat.le_of_ble_eq_true rfl) ?_
  intro p e s m args below meth c A ls hx hb hr hml hts hown hlk hP hK hD hA hS hl
  have hl : lv_has ls 6 [(0, .ref (q 0)), (1, .int a1), (2, .int a2), (3, .int a3)] := hl
  have hin : ∀ w ∈ wsX00, w ∈ wsX0_store := fun w h => mc (inX0 w h)
  generalize hF : FG_store σ a1 a2 a3 = res
  refine lv_iload_n hx hb dX0_store_0 rfl (lv_at hl 3 rfl) ?_
  refine lv_istore (lv' := [(4, .int a3), (0, .ref (q 0)), (1, .int a1), (2, .int a2), (3, .int a3)]) hx hb dX0_store_1 hl (by decide) rfl (fun ls hl => ?_)
  refine lv_iload_n hx hb dX0_store_3 rfl (lv_at hl 3 rfl) ?_
  refine lv_iconst (v := 1) hx hb dX0_store_4 (by decide) ?_
  refine lv_isub hx hb dX0_store_5 ?_
  refine lv_istore (lv' := [(5, .int (a2 - (1 : Int32))), (4, .int a3), (0, .ref (q 0)), (1, .int a1), (2, .int a2), (3, .int a3)]) hx hb dX0_store_6 hl (by decide) rfl (fun ls hl => ?_)
  have hloop : ∀ (n : Nat) (σ : SG) (x4 : Int32) (x5 : Int32), JStore a1 a2 n x5 → ∀ (res : Int32 × SG), (LG_store a1 a2 a3 n σ x4 x5) = res → ∀ (H : Heap) (locs : List Loc) (ls : Array Slot), va_P D vwCl (wG q cA σ) H → va_D A (wG q cA σ) → va_S A s.heap H locs → lv_has ls 6 [(4, .int x4), (5, .int x5), (0, .ref (q 0)), (1, .int a1), (2, .int a2), (3, .int a3)] → W p l e ({ frames := 0, cells := 0, slots := 0, locals := 0 } : Room) s m args below meth c H locs 0 0 (MQ below (oQ D vwCl (wG q cA) (tG cA) A res) args s 0 0 A) (F0 m 8 ls []) := by
    clear hF
    intro n
    induction n with
    | zero =>
      intro σ x4 x5 hJ
      exact absurd hJ (jstore_0)
    | succ n ih =>
      intro σ x4 x5 hJ res hF H locs ls hP hD hS hl
      refine lv_iload hx hb dX0_store_8 (lv_at hl 1 rfl) ?_
      refine lv_if_lt (tgt := 41) hx hb dX0_store_10 (by decide) (fun c_1 => ?_) (fun c_1 => ?_)
      · skip
        refine lv_iconst (v := 0) hx hb dX0_store_41 (by decide) ?_
        exact o_ret hx hb hr hlk hK hP hD hS (by rw [← hF, LG_store, if_pos c_1]) dX0_store_42
      · skip
        refine lv_aload_n hx hb dX0_store_13 rfl (lv_at hl 2 rfl) ?_
        refine getX0_mm hx hb hts hin hown hK hP (hts _ (mc wd_54)) dX0_store_14 ?_
        refine lv_iload_n hx hb dX0_store_17 rfl (lv_at hl 3 rfl) ?_
        refine lv_iload hx hb dX0_store_18 (lv_at hl 1 rfl) ?_
        refine lv_iadd hx hb dX0_store_20 ?_
        refine lv_iload hx hb dX0_store_21 (lv_at hl 0 rfl) ?_
        refine lv_sipush (v := 255) hx hb dX0_store_23 (by decide) ?_
        refine lv_iand hx hb dX0_store_26 ?_
        refine astX0_mm (f := (gmm σ)) hx hb hK hP hD hS (jstore_in hJ c_1) dX0_store_27 rfl (fun H locs hP hD hS => ?_)
        refine lv_iload hx hb dX0_store_28 (lv_at hl 0 rfl) ?_
        refine lv_bipush (v := 8) hx hb dX0_store_30 (by decide) ?_
        refine lv_iushr (v := (jushr x4 (8 : Int32))) hx hb dX0_store_32 rfl ?_
        refine lv_istore (lv' := [(4, .int (jushr x4 (8 : Int32))), (5, .int x5), (0, .ref (q 0)), (1, .int a1), (2, .int a2), (3, .int a3)]) hx hb dX0_store_33 hl (by decide) rfl (fun ls hl => ?_)
        refine lv_iinc (v := (x5 + (-1))) (lv' := [(5, .int (x5 + (-1))), (4, .int (jushr x4 (8 : Int32))), (0, .ref (q 0)), (1, .int a1), (2, .int a2), (3, .int a3)]) hx hb dX0_store_35 hl (k := 1) rfl rfl (by decide) rfl (fun ls hl => ?_)
        refine lv_goto (tgt := 8) hx hb dX0_store_38 (by decide) ?_
        exact ih (smm σ (upd (gmm σ) (Int32.toNatClampNeg (a1 + x5)) (x4 &&& (255 : Int32)))) (jushr x4 (8 : Int32)) (x5 + (-1)) (jstore_b hJ c_1) _ (by rw [← hF, LG_store, if_neg c_1]) _ _ _ hP hD hS (lv_sub hl [1, 0, 2, 3, 4, 5] rfl)
  exact hloop (a2.toNatClampNeg + 1) σ a3 (a2 - (1 : Int32)) (jstore_s hI) _ (by rw [← hF, FG_store]) _ _ _ hP hD hS (lv_sub hl [1, 0, 2, 3, 4, 5] rfl)
set_option maxHeartbeats 4000000 in
set_option maxRecDepth 100000 in
theorem kX0_load (l : Launch) (D : va_G) (q : Nat → Nat) (cA : Nat → ClassId) (sz : Nat) (σ : SG) (a1 : Int32) (a2 : Int32) (a3 : Int32) (hI : LD a1 a2) : oMet l D vwCl (wG q cA) (tG cA) (q 0) sz yX0_load wsX0_load { frames := 0, cells := 0, slots := 0, locals := 0 } σ [.int a1, .int a2, .int a3] (FG_load σ a1 a2 a3, σ) := by
  refine o_met (cc := cX0_load) (maxL := 6) (ret := some .int) (by decide) rfl (Nat.le_of_ble_eq_true rfl) ?_
  intro p e s m args below meth c A ls hx hb hr hml hts hown hlk hP hK hD hA hS hl
  have hl : lv_has ls 6 [(0, .ref (q 0)), (1, .int a1), (2, .int a2), (3, .int a3)] := hl
  have hin : ∀ w ∈ wsX00, w ∈ wsX0_load := fun w h => mc (inX0 w h)
  generalize hF : (FG_load σ a1 a2 a3, σ) = res
  refine lv_iconst (v := 0) hx hb dX0_load_0 (by decide) ?_
  refine lv_istore (lv' := [(4, .int (0 : Int32)), (0, .ref (q 0)), (1, .int a1), (2, .int a2), (3, .int a3)]) hx hb dX0_load_1 hl (by decide) rfl (fun ls hl => ?_)
  refine lv_iconst (v := 0) hx hb dX0_load_3 (by decide) ?_
  refine lv_istore (lv' := [(5, .int (0 : Int32)), (4, .int (0 : Int32)), (0, .ref (q 0)), (1, .int a1), (2, .int a2), (3, .int a3)]) hx hb dX0_load_4 hl (by decide) rfl (fun ls hl => ?_)
  have hloop : ∀ (n : Nat) (σ : SG) (x4 : Int32) (x5 : Int32), JLoad a1 a2 n x4 x5 → ∀ (res : Int32 × SG), ((LG_load σ a1 a2 a3 n x4 x5), σ) = res → ∀ (H : Heap) (locs : List Loc) (ls : Array Slot), va_P D vwCl (wG q cA σ) H → va_D A (wG q cA σ) → va_S A s.heap H locs → lv_has ls 6 [(4, .int x4), (5, .int x5), (0, .ref (q 0)), (1, .int a1), (2, .int a2), (3, .int a3)] → W p l e ({ frames := 0, cells := 0, slots := 0, locals := 0 } : Room) s m args below meth c H locs 0 0 (MQ below (oQ D vwCl (wG q cA) (tG cA) A res) args s 0 0 A) (F0 m 6 ls []) := by
    clear hF
    intro n
    induction n with
    | zero =>
      intro σ x4 x5 hJ
      exact absurd hJ (jload_0)
    | succ n ih =>
      intro σ x4 x5 hJ res hF H locs ls hP hD hS hl
      refine lv_iload hx hb dX0_load_6 (lv_at hl 1 rfl) ?_
      refine lv_iload_n hx hb dX0_load_8 rfl (lv_at hl 4 rfl) ?_
      refine lv_icmp_ge (tgt := 35) hx hb dX0_load_9 (by decide) (fun c_1 => ?_) (fun c_1 => ?_)
      · skip
        refine lv_bipush (v := 32) hx hb dX0_load_35 (by decide) ?_
        refine lv_bipush (v := 8) hx hb dX0_load_37 (by decide) ?_
        refine lv_iload_n hx hb dX0_load_39 rfl (lv_at hl 4 rfl) ?_
        refine lv_imul hx hb dX0_load_40 ?_
        refine lv_isub hx hb dX0_load_41 ?_
        refine lv_istore (lv' := [(5, .int ((32 : Int32) - ((8 : Int32) * a2))), (4, .int x4), (0, .ref (q 0)), (1, .int a1), (2, .int a2), (3, .int a3)]) hx hb dX0_load_42 hl (by decide) rfl (fun ls hl => ?_)
        refine lv_iload_n hx hb dX0_load_44 rfl (lv_at hl 5 rfl) ?_
        refine lv_if_eq (tgt := 59) hx hb dX0_load_45 (by decide) (fun c_2 => ?_) (fun c_2 => ?_)
        · skip
          refine lv_iload hx hb dX0_load_59 (lv_at hl 1 rfl) ?_
          exact o_ret hx hb hr hlk hK hP hD hS (by rw [← hF, LG_load, if_pos c_1, if_pos c_2]) dX0_load_61
        · skip
          refine lv_iload hx hb dX0_load_48 (lv_at hl 1 rfl) ?_
          refine lv_iload hx hb dX0_load_50 (lv_at hl 0 rfl) ?_
          refine lv_ishl hx hb dX0_load_52 ?_
          refine lv_iload hx hb dX0_load_53 (lv_at hl 0 rfl) ?_
          refine lv_ishr hx hb dX0_load_55 ?_
          refine lv_goto (tgt := 61) hx hb dX0_load_56 (by decide) ?_
          exact o_ret hx hb hr hlk hK hP hD hS (by rw [← hF, LG_load, if_pos c_1, if_neg c_2]) dX0_load_61
      · skip
        refine lv_iload hx hb dX0_load_12 (lv_at hl 0 rfl) ?_
        refine lv_bipush (v := 8) hx hb dX0_load_14 (by decide) ?_
        refine lv_ishl hx hb dX0_load_16 ?_
        refine lv_aload_n hx hb dX0_load_17 rfl (lv_at hl 2 rfl) ?_
        refine getX0_mm hx hb hts hin hown hK hP (hts _ (mc wd_54)) dX0_load_18 ?_
        refine lv_iload_n hx hb dX0_load_21 rfl (lv_at hl 3 rfl) ?_
        refine lv_iload hx hb dX0_load_22 (lv_at hl 1 rfl) ?_
        refine lv_iadd hx hb dX0_load_24 ?_
        refine aldX0_mm (f := (gmm σ)) hx hb hK hP (jload_in hJ c_1) dX0_load_25 rfl ?_
        refine lv_ior hx hb dX0_load_26 ?_
        refine lv_istore (lv' := [(4, .int ((x4 <<< ((8 : Int32) &&& 31)) ||| ((gmm σ) (Int32.toNatClampNeg (a1 + x5))))), (5, .int x5), (0, .ref (q 0)), (1, .int a1), (2, .int a2), (3, .int a3)]) hx hb dX0_load_27 hl (by decide) rfl (fun ls hl => ?_)
        refine lv_iinc (v := (x5 + 1)) (lv' := [(5, .int (x5 + 1)), (4, .int ((x4 <<< ((8 : Int32) &&& 31)) ||| ((gmm σ) (Int32.toNatClampNeg (a1 + x5))))), (0, .ref (q 0)), (1, .int a1), (2, .int a2), (3, .int a3)]) hx hb dX0_load_29 hl (k := 1) rfl rfl (by decide) rfl (fun ls hl => ?_)
        refine lv_goto (tgt := 6) hx hb dX0_load_32 (by decide) ?_
        exact ih σ ((x4 <<< ((8 : Int32) &&& 31)) ||| ((gmm σ) (Int32.toNatClampNeg (a1 + x5)))) (x5 + 1) (jload_b hJ c_1) _ (by rw [← hF, LG_load, if_neg c_1]) _ _ _ hP hD hS (lv_sub hl [1, 0, 2, 3, 4, 5] rfl)
  exact hloop (a2.toNatClampNeg + 1) σ (0 : Int32) (0 : Int32) (jload_s hI) _ (by rw [← hF, FG_load]) _ _ _ hP hD hS (lv_sub hl [1, 0, 2, 3, 4, 5] rfl)
