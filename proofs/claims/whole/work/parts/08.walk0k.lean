set_option maxHeartbeats 4000000 in
set_option maxRecDepth 100000 in
theorem kX0_run (l : Launch) (D : va_G) (q : Nat → Nat) (cA : Nat → ClassId) (sz : Nat) (σ : SG) (a1 : Int32) (hI : IG σ) : oMet l D vwCl (wG q cA) (tG cA) (q 0) sz yX0_run wsX0_run { frames := 6, cells := 0, slots := 0, locals := 141 } σ [.int a1] (FG_run σ a1) := by
  refine o_met (cc := cX0_run) (maxL := 7) (ret := some .int) (by decide) rfl (Nat.le_of_ble_eq_true rfl) ?_
  intro p e s m args below meth c A ls hx hb hr hml hts hown hlk hP hK hD hA hS hl
  have hl : lv_has ls 7 [(0, .ref (q 0)), (1, .int a1)] := hl
  have hin : ∀ w ∈ wsX00, w ∈ wsX0_run := fun w h => mc (inX0 w h)
  generalize hF : FG_run σ a1 = res
  refine lv_iload_n hx hb dX0_run_0 rfl (lv_at hl 1 rfl) ?_
  refine lv_iconst (v := 1) hx hb dX0_run_1 (by decide) ?_
  refine lv_icmp_lt (tgt := 12) hx hb dX0_run_2 (by decide) (fun c_1 => ?_) (fun c_1 => ?_)
  · skip
    refine lv_iconst (v := -1) hx hb dX0_run_12 (by decide) ?_
    exact o_ret hx hb hr hlk hK hP hD hS (by rw [← hF, FG_run, if_pos c_1]) dX0_run_13
  · skip
    refine lv_iload_n hx hb dX0_run_5 rfl (lv_at hl 1 rfl) ?_
    refine lv_sipush (v := 2000) hx hb dX0_run_6 (by decide) ?_
    refine lv_icmp_le (tgt := 14) hx hb dX0_run_9 (by decide) (fun c_2 => ?_) (fun c_2 => ?_)
    · skip
      refine lv_iload_n hx hb dX0_run_14 rfl (lv_at hl 1 rfl) ?_
      refine lv_istore_n (lv' := [(2, .int a1), (0, .ref (q 0)), (1, .int a1)]) hx hb dX0_run_15 rfl hl (by decide) rfl (fun ls hl => ?_)
      refine lv_iconst (v := 0) hx hb dX0_run_16 (by decide) ?_
      refine lv_istore_n (lv' := [(3, .int (0 : Int32)), (2, .int a1), (0, .ref (q 0)), (1, .int a1)]) hx hb dX0_run_17 rfl hl (by decide) rfl (fun ls hl => ?_)
      have hloop : ∀ (n : Nat) (σ : SG) (x2 : Int32) (x3 : Int32), IG σ ∧ JRun a1 n x3 → ∀ (res : Int32 × SG), (LG_run a1 n σ x2 x3) = res → ∀ (H : Heap) (locs : List Loc) (ls : Array Slot), va_P D vwCl (wG q cA σ) H → va_D A (wG q cA σ) → va_S A s.heap H locs → lv_has ls 7 [(2, .int x2), (3, .int x3), (0, .ref (q 0)), (1, .int a1)] → W p l e ({ frames := 6, cells := 0, slots := 0, locals := 141 } : Room) s m args below meth c H locs 0 0 (MQ below (oQ D vwCl (wG q cA) (tG cA) A res) args s 0 0 A) (F0 m 18 ls []) := by
        clear hF
        intro n
        induction n with
        | zero =>
          intro σ x2 x3 hJ
          exact absurd hJ (fun h => jrun_0 h.2)
        | succ n ih =>
          intro σ x2 x3 hJ res hF H locs ls hP hD hS hl
          have hI := hJ.1
          refine lv_iload_n hx hb dX0_run_18 rfl (lv_at hl 1 rfl) ?_
          refine lv_iload_n hx hb dX0_run_19 rfl (lv_at hl 3 rfl) ?_
          refine lv_icmp_gt (tgt := 150) hx hb dX0_run_20 (by decide) (fun c_3 => ?_) (fun c_3 => ?_)
          · skip
            refine lv_aload_n hx hb dX0_run_150 rfl (lv_at hl 2 rfl) ?_
            refine getX0_ou (v := (gou σ)) hx hb hts hin hown hK hP (hts _ (mc wd_62)) dX0_run_151 rfl ?_
            exact o_ret hx hb hr hlk hK hP hD hS (by rw [← hF, LG_run, if_pos c_3]) dX0_run_154
          · skip
            refine lv_aload_n hx hb dX0_run_23 rfl (lv_at hl 2 rfl) ?_
            refine getX0_ou (v := (gou σ)) hx hb hts hin hown hK hP (hts _ (mc wd_62)) dX0_run_24 rfl ?_
            refine lv_if_ne (tgt := 150) hx hb dX0_run_27 (by decide) (fun c_4 => ?_) (fun c_4 => ?_)
            · skip
              refine lv_aload_n hx hb dX0_run_150 rfl (lv_at hl 2 rfl) ?_
              refine getX0_ou (v := (gou σ)) hx hb hts hin hown hK hP (hts _ (mc wd_62)) dX0_run_151 rfl ?_
              exact o_ret hx hb hr hlk hK hP hD hS (by rw [← hF, LG_run, if_neg c_3, if_neg c_4]) dX0_run_154
            · skip
              refine lv_aload_n hx hb dX0_run_30 rfl (lv_at hl 2 rfl) ?_
              refine lv_aload_n hx hb dX0_run_31 rfl (lv_at hl 2 rfl) ?_
              refine getX0_pc (v := (gpc σ)) hx hb hts hin hown hK hP (hts _ (mc wd_60)) dX0_run_32 rfl ?_
              refine o_callR (As := [.int (gpc σ)]) (rest := []) ⟨hx, hb, hml, hown, hts⟩ (kX0_isInText l D q cA _ σ (gpc σ)) (cwV 1 hts (gV wd_126 wd_128 wd_0 wd_38 wd_129) rfl rfl rfl (by decide +kernel) ⟨Nat.le_of_ble_eq_true rfl, Nat.le_of_ble_eq_true rfl⟩) hK hP hD hS hA (va_recv hK hP (ci := 0) (q0 := 0) rfl rfl) rfl hl.1 rfl (Nat.le_of_ble_eq_true rfl) dX0_run_35 (fun H locs hP hD hS => ?_)
              refine lv_if_ne (tgt := 52) hx hb dX0_run_38 (by decide) (fun c_5 => ?_) (fun c_5 => ?_)
              · skip
                refine lv_aload_n hx hb dX0_run_52 rfl (lv_at hl 2 rfl) ?_
                refine getX0_tx hx hb hts hin hown hK hP (hts _ (mc wd_51)) dX0_run_53 ?_
                refine lv_aload_n hx hb dX0_run_56 rfl (lv_at hl 2 rfl) ?_
                refine getX0_pc (v := (gpc σ)) hx hb hts hin hown hK hP (hts _ (mc wd_60)) dX0_run_57 rfl ?_
                refine aldX0_tx (f := (gtx σ)) hx hb hK hP (in_text hI c_5) dX0_run_60 rfl ?_
                refine lv_istore (lv' := [(4, .int ((gtx σ) (Int32.toNatClampNeg (gpc σ)))), (2, .int x2), (3, .int x3), (0, .ref (q 0)), (1, .int a1)]) hx hb dX0_run_61 hl (by decide) rfl (fun ls hl => ?_)
                refine lv_iload hx hb dX0_run_63 (lv_at hl 0 rfl) ?_
                refine s_call (As := [.int ((gtx σ) (Int32.toNatClampNeg (gpc σ)))]) (rest := []) ⟨hx, hb, hml, hown, hts⟩ (kX0_isTurn l ((gtx σ) (Int32.toNatClampNeg (gpc σ)))) (cwS 1 hts (gS wd_130 wd_131 wd_38 wd_132) rfl rfl rfl (by decide +kernel) ⟨Nat.le_of_ble_eq_true rfl, Nat.le_of_ble_eq_true rfl⟩) hP hS rfl hl.1 rfl (Nat.le_of_ble_eq_true rfl) dX0_run_65 (fun H locs hP hS => ?_)
                refine lv_if_eq (tgt := 75) hx hb dX0_run_68 (by decide) (fun c_6 => ?_) (fun c_6 => ?_)
                · skip
                  refine lv_iconst (v := 1) hx hb dX0_run_75 (by decide) ?_
                  refine lv_istore (lv' := [(5, .int (1 : Int32)), (4, .int ((gtx σ) (Int32.toNatClampNeg (gpc σ)))), (2, .int x2), (3, .int x3), (0, .ref (q 0)), (1, .int a1)]) hx hb dX0_run_76 hl (by decide) rfl (fun ls hl => ?_)
                  refine lv_iload hx hb dX0_run_78 (lv_at hl 0 rfl) ?_
                  refine lv_iload_n hx hb dX0_run_80 rfl (lv_at hl 2 rfl) ?_
                  refine lv_icmp_le (tgt := 86) hx hb dX0_run_81 (by decide) (fun c_7 => ?_) (fun c_7 => ?_)
                  · skip
                    refine lv_iload hx hb dX0_run_86 (lv_at hl 0 rfl) ?_
                    refine lv_iconst (v := 2) hx hb dX0_run_88 (by decide) ?_
                    refine lv_icmp_ne (tgt := 101) hx hb dX0_run_89 (by decide) (fun _ => ?_) (fun c0 => absurd c0 (by decide))
                    refine lv_aload_n hx hb dX0_run_101 rfl (lv_at hl 4 rfl) ?_
                    refine lv_iload hx hb dX0_run_102 (lv_at hl 1 rfl) ?_
                    obtain ⟨r_8, hr_8⟩ : ∃ z, (FG_stepOfOne σ ((gtx σ) (Int32.toNatClampNeg (gpc σ)))) = z := ⟨_, rfl⟩
                    refine o_call (As := [.int ((gtx σ) (Int32.toNatClampNeg (gpc σ)))]) (rest := []) (res := r_8) ⟨hx, hb, hml, hown, hts⟩ (by rw [← hr_8]; exact (kX0_stepOfOne l D q cA _ σ ((gtx σ) (Int32.toNatClampNeg (gpc σ))) hI)) (cwV 1 hts (gV wd_262 wd_264 wd_22 wd_38 wd_265) rfl rfl rfl (by decide +kernel) ⟨Nat.le_of_ble_eq_true rfl, Nat.le_of_ble_eq_true rfl⟩) hK hP hD hS hA (va_recv hK hP (ci := 0) (q0 := 0) rfl rfl) rfl hl.1 rfl (Nat.le_of_ble_eq_true rfl) dX0_run_104 (fun H locs hP hD hS => ?_)
                    refine lv_istore (lv' := [(6, .int r_8.1), (5, .int (1 : Int32)), (4, .int ((gtx σ) (Int32.toNatClampNeg (gpc σ)))), (2, .int x2), (3, .int x3), (0, .ref (q 0)), (1, .int a1)]) hx hb dX0_run_107 hl (by decide) rfl (fun ls hl => ?_)
                    refine lv_iload hx hb dX0_run_109 (lv_at hl 0 rfl) ?_
                    refine lv_if_eq (tgt := 128) hx hb dX0_run_111 (by decide) (fun c_9 => ?_) (fun c_9 => ?_)
                    · skip
                      refine lv_iload_n hx hb dX0_run_128 rfl (lv_at hl 3 rfl) ?_
                      refine lv_iload hx hb dX0_run_129 (lv_at hl 1 rfl) ?_
                      refine lv_isub hx hb dX0_run_131 ?_
                      refine lv_istore_n (lv' := [(2, .int (x2 - (1 : Int32))), (6, .int r_8.1), (5, .int (1 : Int32)), (4, .int ((gtx σ) (Int32.toNatClampNeg (gpc σ)))), (3, .int x3), (0, .ref (q 0)), (1, .int a1)]) hx hb dX0_run_132 rfl hl (by decide) rfl (fun ls hl => ?_)
                      refine lv_aload_n hx hb dX0_run_133 rfl (lv_at hl 5 rfl) ?_
                      refine lv_dup hx hb dX0_run_134 rfl ?_
                      refine getX0_us (v := (gus r_8.2)) hx hb hts hin hown hK hP (hts _ (mc wd_61)) dX0_run_135 rfl ?_
                      refine lv_iload hx hb dX0_run_138 (lv_at hl 2 rfl) ?_
                      refine lv_iadd hx hb dX0_run_140 ?_
                      refine putX0_us hx hb hts hin hown hK hP hD hS (hts _ (mc wd_61)) dX0_run_141 (fun H locs hP hD hS => ?_)
                      refine lv_iinc (v := (x3 + 1)) (lv' := [(3, .int (x3 + 1)), (2, .int (x2 - (1 : Int32))), (6, .int r_8.1), (5, .int (1 : Int32)), (4, .int ((gtx σ) (Int32.toNatClampNeg (gpc σ)))), (0, .ref (q 0)), (1, .int a1)]) hx hb dX0_run_144 hl (k := 4) rfl rfl (by decide) rfl (fun ls hl => ?_)
                      refine lv_goto (tgt := 18) hx hb dX0_run_147 (by decide) ?_
                      exact ih (sus r_8.2 ((gus r_8.2) + (1 : Int32))) (x2 - (1 : Int32)) (x3 + 1) (by subst hr_8; exact ⟨igs_us (inv_stepOfOne hI), jrun_b hJ.2 c_3⟩) _ (by subst hr_8; rw [← hF, LG_run, if_neg c_3, if_pos c_4, if_neg c_5, if_pos c_6, if_pos c_7, if_pos c_9]) _ _ _ hP hD hS (lv_sub hl [1, 0, 5, 6] rfl)
                    · skip
                      refine lv_aload_n hx hb dX0_run_114 rfl (lv_at hl 5 rfl) ?_
                      refine lv_bipush (v := 10) hx hb dX0_run_115 (by decide) ?_
                      refine lv_iload hx hb dX0_run_117 (lv_at hl 0 rfl) ?_
                      refine lv_iadd hx hb dX0_run_119 ?_
                      refine putX0_ou hx hb hts hin hown hK hP hD hS (hts _ (mc wd_62)) dX0_run_120 (fun H locs hP hD hS => ?_)
                      refine lv_aload_n hx hb dX0_run_123 rfl (lv_at hl 5 rfl) ?_
                      refine getX0_ou (v := ((10 : Int32) + r_8.1)) hx hb hts hin hown hK hP (hts _ (mc wd_62)) dX0_run_124 rfl ?_
                      exact o_ret hx hb hr hlk hK hP hD hS (by subst hr_8; rw [← hF, LG_run, if_neg c_3, if_pos c_4, if_neg c_5, if_pos c_6, if_pos c_7, if_neg c_9]) dX0_run_127
                  · skip
                    refine lv_iconst (v := 0) hx hb dX0_run_84 (by decide) ?_
                    exact o_ret hx hb hr hlk hK hP hD hS (by rw [← hF, LG_run, if_neg c_3, if_pos c_4, if_neg c_5, if_pos c_6, if_neg c_7]) dX0_run_85
                · skip
                  refine lv_iconst (v := 2) hx hb dX0_run_71 (by decide) ?_
                  refine lv_goto (tgt := 76) hx hb dX0_run_72 (by decide) ?_
                  refine lv_istore (lv' := [(5, .int (2 : Int32)), (4, .int ((gtx σ) (Int32.toNatClampNeg (gpc σ)))), (2, .int x2), (3, .int x3), (0, .ref (q 0)), (1, .int a1)]) hx hb dX0_run_76 hl (by decide) rfl (fun ls hl => ?_)
                  refine lv_iload hx hb dX0_run_78 (lv_at hl 0 rfl) ?_
                  refine lv_iload_n hx hb dX0_run_80 rfl (lv_at hl 2 rfl) ?_
                  refine lv_icmp_le (tgt := 86) hx hb dX0_run_81 (by decide) (fun c_10 => ?_) (fun c_10 => ?_)
                  · skip
                    refine lv_iload hx hb dX0_run_86 (lv_at hl 0 rfl) ?_
                    refine lv_iconst (v := 2) hx hb dX0_run_88 (by decide) ?_
                    refine lv_icmp_ne (tgt := 101) hx hb dX0_run_89 (by decide) (fun c0 => absurd c0 (by decide)) (fun _ => ?_)
                    refine lv_aload_n hx hb dX0_run_92 rfl (lv_at hl 4 rfl) ?_
                    refine lv_iload hx hb dX0_run_93 (lv_at hl 1 rfl) ?_
                    obtain ⟨r_11, hr_11⟩ : ∃ z, (FG_stepOfTwo σ ((gtx σ) (Int32.toNatClampNeg (gpc σ)))) = z := ⟨_, rfl⟩
                    refine o_call (As := [.int ((gtx σ) (Int32.toNatClampNeg (gpc σ)))]) (rest := []) (res := r_11) ⟨hx, hb, hml, hown, hts⟩ (by rw [← hr_11]; exact (kX0_stepOfTwo l D q cA _ σ ((gtx σ) (Int32.toNatClampNeg (gpc σ))) hI)) (cwV 1 hts (gV wd_142 wd_144 wd_1 wd_38 wd_145) rfl rfl rfl (by decide +kernel) ⟨Nat.le_of_ble_eq_true rfl, Nat.le_of_ble_eq_true rfl⟩) hK hP hD hS hA (va_recv hK hP (ci := 0) (q0 := 0) rfl rfl) rfl hl.1 rfl (Nat.le_of_ble_eq_true rfl) dX0_run_95 (fun H locs hP hD hS => ?_)
                    refine lv_goto (tgt := 107) hx hb dX0_run_98 (by decide) ?_
                    refine lv_istore (lv' := [(6, .int r_11.1), (5, .int (2 : Int32)), (4, .int ((gtx σ) (Int32.toNatClampNeg (gpc σ)))), (2, .int x2), (3, .int x3), (0, .ref (q 0)), (1, .int a1)]) hx hb dX0_run_107 hl (by decide) rfl (fun ls hl => ?_)
                    refine lv_iload hx hb dX0_run_109 (lv_at hl 0 rfl) ?_
                    refine lv_if_eq (tgt := 128) hx hb dX0_run_111 (by decide) (fun c_12 => ?_) (fun c_12 => ?_)
                    · skip
                      refine lv_iload_n hx hb dX0_run_128 rfl (lv_at hl 3 rfl) ?_
                      refine lv_iload hx hb dX0_run_129 (lv_at hl 1 rfl) ?_
                      refine lv_isub hx hb dX0_run_131 ?_
                      refine lv_istore_n (lv' := [(2, .int (x2 - (2 : Int32))), (6, .int r_11.1), (5, .int (2 : Int32)), (4, .int ((gtx σ) (Int32.toNatClampNeg (gpc σ)))), (3, .int x3), (0, .ref (q 0)), (1, .int a1)]) hx hb dX0_run_132 rfl hl (by decide) rfl (fun ls hl => ?_)
                      refine lv_aload_n hx hb dX0_run_133 rfl (lv_at hl 5 rfl) ?_
                      refine lv_dup hx hb dX0_run_134 rfl ?_
                      refine getX0_us (v := (gus r_11.2)) hx hb hts hin hown hK hP (hts _ (mc wd_61)) dX0_run_135 rfl ?_
                      refine lv_iload hx hb dX0_run_138 (lv_at hl 2 rfl) ?_
                      refine lv_iadd hx hb dX0_run_140 ?_
                      refine putX0_us hx hb hts hin hown hK hP hD hS (hts _ (mc wd_61)) dX0_run_141 (fun H locs hP hD hS => ?_)
                      refine lv_iinc (v := (x3 + 1)) (lv' := [(3, .int (x3 + 1)), (2, .int (x2 - (2 : Int32))), (6, .int r_11.1), (5, .int (2 : Int32)), (4, .int ((gtx σ) (Int32.toNatClampNeg (gpc σ)))), (0, .ref (q 0)), (1, .int a1)]) hx hb dX0_run_144 hl (k := 4) rfl rfl (by decide) rfl (fun ls hl => ?_)
                      refine lv_goto (tgt := 18) hx hb dX0_run_147 (by decide) ?_
                      exact ih (sus r_11.2 ((gus r_11.2) + (2 : Int32))) (x2 - (2 : Int32)) (x3 + 1) (by subst hr_11; exact ⟨igs_us (inv_stepOfTwo hI), jrun_b hJ.2 c_3⟩) _ (by subst hr_11; rw [← hF, LG_run, if_neg c_3, if_pos c_4, if_neg c_5, if_neg c_6, if_pos c_10, if_pos c_12]) _ _ _ hP hD hS (lv_sub hl [1, 0, 5, 6] rfl)
                    · skip
                      refine lv_aload_n hx hb dX0_run_114 rfl (lv_at hl 5 rfl) ?_
                      refine lv_bipush (v := 10) hx hb dX0_run_115 (by decide) ?_
                      refine lv_iload hx hb dX0_run_117 (lv_at hl 0 rfl) ?_
                      refine lv_iadd hx hb dX0_run_119 ?_
                      refine putX0_ou hx hb hts hin hown hK hP hD hS (hts _ (mc wd_62)) dX0_run_120 (fun H locs hP hD hS => ?_)
                      refine lv_aload_n hx hb dX0_run_123 rfl (lv_at hl 5 rfl) ?_
                      refine getX0_ou (v := ((10 : Int32) + r_11.1)) hx hb hts hin hown hK hP (hts _ (mc wd_62)) dX0_run_124 rfl ?_
                      exact o_ret hx hb hr hlk hK hP hD hS (by subst hr_11; rw [← hF, LG_run, if_neg c_3, if_pos c_4, if_neg c_5, if_neg c_6, if_pos c_10, if_neg c_12]) dX0_run_127
                  · skip
                    refine lv_iconst (v := 0) hx hb dX0_run_84 (by decide) ?_
                    exact o_ret hx hb hr hlk hK hP hD hS (by rw [← hF, LG_run, if_neg c_3, if_pos c_4, if_neg c_5, if_neg c_6, if_neg c_10]) dX0_run_85
              · skip
                refine lv_aload_n hx hb dX0_run_41 rfl (lv_at hl 2 rfl) ?_
                refine lv_bipush (v := 17) hx hb dX0_run_42 (by decide) ?_
                refine putX0_ou hx hb hts hin hown hK hP hD hS (hts _ (mc wd_62)) dX0_run_44 (fun H locs hP hD hS => ?_)
                refine lv_aload_n hx hb dX0_run_47 rfl (lv_at hl 2 rfl) ?_
                refine getX0_ou (v := (17 : Int32)) hx hb hts hin hown hK hP (hts _ (mc wd_62)) dX0_run_48 rfl ?_
                exact o_ret hx hb hr hlk hK hP hD hS (by rw [← hF, LG_run, if_neg c_3, if_pos c_4, if_pos c_5]) dX0_run_51
      exact hloop (2003) σ a1 (0 : Int32) ⟨hI, jrun_s c_1 c_2⟩ _ (by rw [← hF, FG_run, if_neg c_1, if_pos c_2]) _ _ _ hP hD hS (lv_sub hl [1, 0, 2, 3] rfl)
    · skip
      refine lv_iconst (v := -1) hx hb dX0_run_12 (by decide) ?_
      exact o_ret hx hb hr hlk hK hP hD hS (by rw [← hF, FG_run, if_neg c_1, if_neg c_2]) dX0_run_13
set_option maxHeartbeats 4000000 in
set_option maxRecDepth 100000 in
theorem kX0_register (l : Launch) (D : va_G) (q : Nat → Nat) (cA : Nat → ClassId) (sz : Nat) (σ : SG) (a1 : Int32) : oMet l D vwCl (wG q cA) (tG cA) (q 0) sz yX0_register wsX0_register { frames := 0, cells := 0, slots := 0, locals := 0 } σ [.int a1] (FG_register σ a1, σ) := by
  refine o_met (cc := cX0_register) (maxL := 2) (ret := some .int) (by decide) rfl (Nat.le_of_ble_eq_true rfl) ?_
  intro p e s m args below meth c A ls hx hb hr hml hts hown hlk hP hK hD hA hS hl
  have hl : lv_has ls 2 [(0, .ref (q 0)), (1, .int a1)] := hl
  have hin : ∀ w ∈ wsX00, w ∈ wsX0_register := fun w h => mc (inX0 w h)
  generalize hF : (FG_register σ a1, σ) = res
  refine lv_iload_n hx hb dX0_register_0 rfl (lv_at hl 1 rfl) ?_
  refine lv_bipush (v := 34) hx hb dX0_register_1 (by decide) ?_
  refine lv_icmp_ne (tgt := 11) hx hb dX0_register_3 (by decide) (fun c_1 => ?_) (fun c_1 => ?_)
  · skip
    refine lv_iload_n hx hb dX0_register_11 rfl (lv_at hl 1 rfl) ?_
    refine lv_bipush (v := 35) hx hb dX0_register_12 (by decide) ?_
    refine lv_icmp_ne (tgt := 22) hx hb dX0_register_14 (by decide) (fun c_2 => ?_) (fun c_2 => ?_)
    · skip
      refine lv_iload_n hx hb dX0_register_22 rfl (lv_at hl 1 rfl) ?_
      refine lv_if_lt (tgt := 41) hx hb dX0_register_23 (by decide) (fun c_3 => ?_) (fun c_3 => ?_)
      · skip
        refine lv_iconst (v := 0) hx hb dX0_register_41 (by decide) ?_
        exact o_ret hx hb hr hlk hK hP hD hS (by rw [← hF, FG_register, if_neg c_1, if_neg c_2, if_pos c_3]) dX0_register_42
      · skip
        refine lv_iload_n hx hb dX0_register_26 rfl (lv_at hl 1 rfl) ?_
        refine lv_bipush (v := 34) hx hb dX0_register_27 (by decide) ?_
        refine lv_icmp_ge (tgt := 41) hx hb dX0_register_29 (by decide) (fun c_4 => ?_) (fun c_4 => ?_)
        · skip
          refine lv_iconst (v := 0) hx hb dX0_register_41 (by decide) ?_
          exact o_ret hx hb hr hlk hK hP hD hS (by rw [← hF, FG_register, if_neg c_1, if_neg c_2, if_neg c_3, if_pos c_4]) dX0_register_42
        · skip
          refine lv_aload_n hx hb dX0_register_32 rfl (lv_at hl 0 rfl) ?_
          refine getX0_rg hx hb hts hin hown hK hP (hts _ (mc wd_53)) dX0_register_33 ?_
          refine lv_iload_n hx hb dX0_register_36 rfl (lv_at hl 1 rfl) ?_
          refine aldX0_rg (f := (grg σ)) hx hb hK hP (in_ge0lt c_3 (k2_lt c_4) (by decide)) dX0_register_37 rfl ?_
          refine lv_goto (tgt := 42) hx hb dX0_register_38 (by decide) ?_
          exact o_ret hx hb hr hlk hK hP hD hS (by rw [← hF, FG_register, if_neg c_1, if_neg c_2, if_neg c_3, if_neg c_4]) dX0_register_42
    · skip
      refine lv_aload_n hx hb dX0_register_17 rfl (lv_at hl 0 rfl) ?_
      refine getX0_us (v := (gus σ)) hx hb hts hin hown hK hP (hts _ (mc wd_61)) dX0_register_18 rfl ?_
      exact o_ret hx hb hr hlk hK hP hD hS (by rw [← hF, FG_register, if_neg c_1, if_pos c_2]) dX0_register_21
  · skip
    refine lv_aload_n hx hb dX0_register_6 rfl (lv_at hl 0 rfl) ?_
    refine getX0_pc (v := (gpc σ)) hx hb hts hin hown hK hP (hts _ (mc wd_60)) dX0_register_7 rfl ?_
    exact o_ret hx hb hr hlk hK hP hD hS (by rw [← hF, FG_register, if_pos c_1]) dX0_register_10
set_option maxHeartbeats 4000000 in
set_option maxRecDepth 100000 in
theorem kX0_give (l : Launch) (D : va_G) (q : Nat → Nat) (cA : Nat → ClassId) (sz : Nat) (σ : SG) (a1 : Int32) (a2 : Int32) : oMet l D vwCl (wG q cA) (tG cA) (q 0) sz yX0_give wsX0_give { frames := 0, cells := 0, slots := 0, locals := 0 } σ [.int a1, .int a2] (FG_give σ a1 a2) := by
  refine o_met (cc := cX0_give) (maxL := 3) (ret := some .int) (by decide) rfl (Nat.le_of_ble_eq_true rfl) ?_
  intro p e s m args below meth c A ls hx hb hr hml hts hown hlk hP hK hD hA hS hl
  have hl : lv_has ls 3 [(0, .ref (q 0)), (1, .int a1), (2, .int a2)] := hl
  have hin : ∀ w ∈ wsX00, w ∈ wsX0_give := fun w h => mc (inX0 w h)
  generalize hF : FG_give σ a1 a2 = res
  refine lv_iload_n hx hb dX0_give_0 rfl (lv_at hl 1 rfl) ?_
  refine lv_iconst (v := 1) hx hb dX0_give_1 (by decide) ?_
  refine lv_icmp_lt (tgt := 11) hx hb dX0_give_2 (by decide) (fun c_1 => ?_) (fun c_1 => ?_)
  · skip
    refine lv_iconst (v := -1) hx hb dX0_give_11 (by decide) ?_
    exact o_ret hx hb hr hlk hK hP hD hS (by rw [← hF, FG_give, if_pos c_1]) dX0_give_12
  · skip
    refine lv_iload_n hx hb dX0_give_5 rfl (lv_at hl 1 rfl) ?_
    refine lv_bipush (v := 34) hx hb dX0_give_6 (by decide) ?_
    refine lv_icmp_lt (tgt := 13) hx hb dX0_give_8 (by decide) (fun c_2 => ?_) (fun c_2 => ?_)
    · skip
      refine lv_aload_n hx hb dX0_give_13 rfl (lv_at hl 0 rfl) ?_
      refine getX0_rg hx hb hts hin hown hK hP (hts _ (mc wd_53)) dX0_give_14 ?_
      refine lv_iload_n hx hb dX0_give_17 rfl (lv_at hl 1 rfl) ?_
      refine lv_iload_n hx hb dX0_give_18 rfl (lv_at hl 2 rfl) ?_
      refine astX0_rg (f := (grg σ)) hx hb hK hP hD hS (in_ge1lt c_1 c_2 (by decide)) dX0_give_19 rfl (fun H locs hP hD hS => ?_)
      refine lv_iconst (v := 1) hx hb dX0_give_20 (by decide) ?_
      exact o_ret hx hb hr hlk hK hP hD hS (by rw [← hF, FG_give, if_neg c_1, if_pos c_2]) dX0_give_21
    · skip
      refine lv_iconst (v := -1) hx hb dX0_give_11 (by decide) ?_
      exact o_ret hx hb hr hlk hK hP hD hS (by rw [← hF, FG_give, if_neg c_1, if_neg c_2]) dX0_give_12
set_option maxHeartbeats 4000000 in
set_option maxRecDepth 100000 in
theorem kX0_byteOf (l : Launch) (D : va_G) (q : Nat → Nat) (cA : Nat → ClassId) (sz : Nat) (σ : SG) (a1 : Int32) : oMet l D vwCl (wG q cA) (tG cA) (q 0) sz yX0_byteOf wsX0_byteOf { frames := 1, cells := 0, slots := 0, locals := 20 } σ [.int a1] (FG_byteOf σ a1, σ) := by
  refine o_met (cc := cX0_byteOf) (maxL := 2) (ret := some .int) (by decide) rfl (Nat.le_of_ble_eq_true rfl) ?_
  intro p e s m args below meth c A ls hx hb hr hml hts hown hlk hP hK hD hA hS hl
  have hl : lv_has ls 2 [(0, .ref (q 0)), (1, .int a1)] := hl
  have hin : ∀ w ∈ wsX00, w ∈ wsX0_byteOf := fun w h => mc (inX0 w h)
  generalize hF : (FG_byteOf σ a1, σ) = res
  refine lv_iload_n hx hb dX0_byteOf_0 rfl (lv_at hl 1 rfl) ?_
  refine s_call (As := [.int a1]) (rest := []) ⟨hx, hb, hml, hown, hts⟩ (kX0_isDataIndex l a1) (cwS 1 hts (gS wd_115 wd_116 wd_38 wd_117) rfl rfl rfl (by decide +kernel) ⟨Nat.le_of_ble_eq_true rfl, Nat.le_of_ble_eq_true rfl⟩) hP hS rfl hl.1 rfl (Nat.le_of_ble_eq_true rfl) dX0_byteOf_1 (fun H locs hP hS => ?_)
  refine lv_if_eq (tgt := 16) hx hb dX0_byteOf_4 (by decide) (fun c_1 => ?_) (fun c_1 => ?_)
  · skip
    refine lv_iconst (v := -1) hx hb dX0_byteOf_16 (by decide) ?_
    exact o_ret hx hb hr hlk hK hP hD hS (by rw [← hF, FG_byteOf, if_pos c_1]) dX0_byteOf_17
  · skip
    refine lv_aload_n hx hb dX0_byteOf_7 rfl (lv_at hl 0 rfl) ?_
    refine getX0_mm hx hb hts hin hown hK hP (hts _ (mc wd_54)) dX0_byteOf_8 ?_
    refine lv_iload_n hx hb dX0_byteOf_11 rfl (lv_at hl 1 rfl) ?_
    refine aldX0_mm (f := (gmm σ)) hx hb hK hP (in_data c_1) dX0_byteOf_12 rfl ?_
    refine lv_goto (tgt := 17) hx hb dX0_byteOf_13 (by decide) ?_
    exact o_ret hx hb hr hlk hK hP hD hS (by rw [← hF, FG_byteOf, if_neg c_1]) dX0_byteOf_17
set_option maxHeartbeats 4000000 in
set_option maxRecDepth 100000 in
theorem kX0_output (l : Launch) (D : va_G) (q : Nat → Nat) (cA : Nat → ClassId) (sz : Nat) (σ : SG) (a1 : Int32) (hI : IG σ) : oMet l D vwCl (wG q cA) (tG cA) (q 0) sz yX0_output wsX0_output { frames := 0, cells := 0, slots := 0, locals := 0 } σ [.int a1] (FG_output σ a1, σ) := by
  refine o_met (cc := cX0_output) (maxL := 2) (ret := some .int) (by decide) rfl (Nat.le_of_ble_eq_true rfl) ?_
  intro p e s m args below meth c A ls hx hb hr hml hts hown hlk hP hK hD hA hS hl
  have hl : lv_has ls 2 [(0, .ref (q 0)), (1, .int a1)] := hl
  have hin : ∀ w ∈ wsX00, w ∈ wsX0_output := fun w h => mc (inX0 w h)
  generalize hF : (FG_output σ a1, σ) = res
  refine lv_iload_n hx hb dX0_output_0 rfl (lv_at hl 1 rfl) ?_
  refine lv_if_lt (tgt := 21) hx hb dX0_output_1 (by decide) (fun c_1 => ?_) (fun c_1 => ?_)
  · skip
    refine lv_iconst (v := -1) hx hb dX0_output_21 (by decide) ?_
    exact o_ret hx hb hr hlk hK hP hD hS (by rw [← hF, FG_output, if_pos c_1]) dX0_output_22
  · skip
    refine lv_iload_n hx hb dX0_output_4 rfl (lv_at hl 1 rfl) ?_
    refine lv_aload_n hx hb dX0_output_5 rfl (lv_at hl 0 rfl) ?_
    refine getX0_oc (v := (goc σ)) hx hb hts hin hown hK hP (hts _ (mc wd_59)) dX0_output_6 rfl ?_
    refine lv_icmp_ge (tgt := 21) hx hb dX0_output_9 (by decide) (fun c_2 => ?_) (fun c_2 => ?_)
    · skip
      refine lv_iconst (v := -1) hx hb dX0_output_21 (by decide) ?_
      exact o_ret hx hb hr hlk hK hP hD hS (by rw [← hF, FG_output, if_neg c_1, if_pos c_2]) dX0_output_22
    · skip
      refine lv_aload_n hx hb dX0_output_12 rfl (lv_at hl 0 rfl) ?_
      refine getX0_to hx hb hts hin hown hK hP (hts _ (mc wd_58)) dX0_output_13 ?_
      refine lv_iload_n hx hb dX0_output_16 rfl (lv_at hl 1 rfl) ?_
      refine aldX0_to (f := (gto σ)) hx hb hK hP (in_ge0lt c_1 (k2_lt c_2) hI.2.2.2.2.2) dX0_output_17 rfl ?_
      refine lv_goto (tgt := 22) hx hb dX0_output_18 (by decide) ?_
      exact o_ret hx hb hr hlk hK hP hD hS (by rw [← hF, FG_output, if_neg c_1, if_neg c_2]) dX0_output_22
set_option maxHeartbeats 4000000 in
set_option maxRecDepth 100000 in
theorem kX0_code (l : Launch) (D : va_G) (q : Nat → Nat) (cA : Nat → ClassId) (sz : Nat) (σ : SG) : oMet l D vwCl (wG q cA) (tG cA) (q 0) sz yX0_code wsX0_code { frames := 0, cells := 0, slots := 0, locals := 0 } σ [] (FG_code σ, σ) := by
  refine o_met (cc := cX0_code) (maxL := 1) (ret := some .int) (by decide) rfl (Nat.le_of_ble_eq_true rfl) ?_
  intro p e s m args below meth c A ls hx hb hr hml hts hown hlk hP hK hD hA hS hl
  have hl : lv_has ls 1 [(0, .ref (q 0))] := hl
  have hin : ∀ w ∈ wsX00, w ∈ wsX0_code := fun w h => mc (inX0 w h)
  generalize hF : (FG_code σ, σ) = res
  refine lv_aload_n hx hb dX0_code_0 rfl (lv_at hl 0 rfl) ?_
  refine getX0_ec (v := (gec σ)) hx hb hts hin hown hK hP (hts _ (mc wd_63)) dX0_code_1 rfl ?_
  exact o_ret hx hb hr hlk hK hP hD hS (by rw [← hF, FG_code]) dX0_code_4
