set_option maxHeartbeats 4000000 in
set_option maxRecDepth 100000 in
theorem kX1_run (l : Launch) (D : va_G) (q : Nat → Nat) (cA : Nat → ClassId) (sz : Nat) (σ : SM) (a1 : Int32) (hI : IM σ) : oMet l D vwCl (wM q cA) (tM cA) (q 0) sz yX1_run wsX1_run { frames := 5, cells := 0, slots := 0, locals := 119 } σ [.int a1] (FM_run σ a1) := by
  refine o_met (cc := cX1_run) (maxL := 5) (ret := some .int) (by decide) rfl (Nat.le_of_ble_eq_true rfl) ?_
  intro p e s m args below meth c A ls hx hb hr hml hts hown hlk hP hK hD hA hS hl
  have hl : lv_has ls 5 [(0, .ref (q 0)), (1, .int a1)] := hl
  have hin : ∀ w ∈ wsX10, w ∈ wsX1_run := fun w h => mc (inX1 w h)
  generalize hF : FM_run σ a1 = res
  refine lv_iload_n hx hb dX1_run_0 rfl (lv_at hl 1 rfl) ?_
  refine lv_iconst (v := 1) hx hb dX1_run_1 (by decide) ?_
  refine lv_icmp_lt (tgt := 12) hx hb dX1_run_2 (by decide) (fun c_1 => ?_) (fun c_1 => ?_)
  · skip
    refine lv_iconst (v := -1) hx hb dX1_run_12 (by decide) ?_
    exact o_ret hx hb hr hlk hK hP hD hS (by rw [← hF, FM_run, if_pos c_1]) dX1_run_13
  · skip
    refine lv_iload_n hx hb dX1_run_5 rfl (lv_at hl 1 rfl) ?_
    refine lv_sipush (v := 2000) hx hb dX1_run_6 (by decide) ?_
    refine lv_icmp_le (tgt := 14) hx hb dX1_run_9 (by decide) (fun c_2 => ?_) (fun c_2 => ?_)
    · skip
      refine lv_iload_n hx hb dX1_run_14 rfl (lv_at hl 1 rfl) ?_
      refine lv_istore_n (lv' := [(2, .int a1), (0, .ref (q 0)), (1, .int a1)]) hx hb dX1_run_15 rfl hl (by decide) rfl (fun ls hl => ?_)
      have hloop : ∀ (n : Nat) (σ : SM) (x2 : Int32), JMR σ n x2 → ∀ (res : Int32 × SM), (LM_run n σ x2) = res → ∀ (H : Heap) (locs : List Loc) (ls : Array Slot), va_P D vwCl (wM q cA σ) H → va_D A (wM q cA σ) → va_S A s.heap H locs → lv_has ls 5 [(2, .int x2), (0, .ref (q 0)), (1, .int a1)] → W p l e ({ frames := 5, cells := 0, slots := 0, locals := 119 } : Room) s m args below meth c H locs 0 0 (MQ below (oQ D vwCl (wM q cA) (tM cA) A res) args s 0 0 A) (F0 m 16 ls []) := by
        clear hF
        intro n
        induction n with
        | zero =>
          intro σ x2 hJ
          exact absurd hJ (jmr_0)
        | succ n ih =>
          intro σ x2 hJ res hF H locs ls hP hD hS hl
          have hI := hJ.1
          refine lv_aload_n hx hb dX1_run_16 rfl (lv_at hl 1 rfl) ?_
          refine getX1_men (v := (gmen σ)) hx hb hts hin hown hK hP (hts _ (mc wd_306)) dX1_run_17 rfl ?_
          refine lv_if_ne (tgt := 185) hx hb dX1_run_20 (by decide) (fun c_3 => ?_) (fun c_3 => ?_)
          · skip
            refine lv_aload_n hx hb dX1_run_185 rfl (lv_at hl 1 rfl) ?_
            refine getX1_men (v := (gmen σ)) hx hb hts hin hown hK hP (hts _ (mc wd_306)) dX1_run_186 rfl ?_
            refine lv_if_eq (tgt := 196) hx hb dX1_run_189 (by decide) (fun c0 => absurd c0 c_3) (fun _ => ?_)
            refine lv_iconst (v := 1) hx hb dX1_run_192 (by decide) ?_
            refine lv_goto (tgt := 203) hx hb dX1_run_193 (by decide) ?_
            exact o_ret hx hb hr hlk hK hP hD hS (by rw [← hF, LM_run, if_neg c_3]) dX1_run_203
          · skip
            refine lv_aload_n hx hb dX1_run_23 rfl (lv_at hl 1 rfl) ?_
            refine getX1_mtr (v := (gmtr σ)) hx hb hts hin hown hK hP (hts _ (mc wd_307)) dX1_run_24 rfl ?_
            refine lv_if_ne (tgt := 185) hx hb dX1_run_27 (by decide) (fun c_4 => ?_) (fun c_4 => ?_)
            · skip
              refine lv_aload_n hx hb dX1_run_185 rfl (lv_at hl 1 rfl) ?_
              refine getX1_men (v := (gmen σ)) hx hb hts hin hown hK hP (hts _ (mc wd_306)) dX1_run_186 rfl ?_
              refine lv_if_eq (tgt := 196) hx hb dX1_run_189 (by decide) (fun _ => ?_) (fun c0 => absurd c_3 c0)
              refine lv_bipush (v := 10) hx hb dX1_run_196 (by decide) ?_
              refine lv_aload_n hx hb dX1_run_198 rfl (lv_at hl 1 rfl) ?_
              refine getX1_mtr (v := (gmtr σ)) hx hb hts hin hown hK hP (hts _ (mc wd_307)) dX1_run_199 rfl ?_
              refine lv_iadd hx hb dX1_run_202 ?_
              exact o_ret hx hb hr hlk hK hP hD hS (by rw [← hF, LM_run, if_pos c_3, if_neg c_4]) dX1_run_203
            · skip
              refine lv_aload_n hx hb dX1_run_30 rfl (lv_at hl 1 rfl) ?_
              refine getX1_mpc (v := (gmpc σ)) hx hb hts hin hown hK hP (hts _ (mc wd_304)) dX1_run_31 rfl ?_
              refine lv_if_lt (tgt := 48) hx hb dX1_run_34 (by decide) (fun c_5 => ?_) (fun c_5 => ?_)
              · skip
                refine lv_aload_n hx hb dX1_run_48 rfl (lv_at hl 1 rfl) ?_
                refine lv_bipush (v := 7) hx hb dX1_run_49 (by decide) ?_
                refine putX1_mtr hx hb hts hin hown hK hP hD hS (hts _ (mc wd_307)) dX1_run_51 (fun H locs hP hD hS => ?_)
                refine lv_goto (tgt := 185) hx hb dX1_run_54 (by decide) ?_
                refine lv_aload_n hx hb dX1_run_185 rfl (lv_at hl 1 rfl) ?_
                refine getX1_men (v := (gmen σ)) hx hb hts hin hown hK hP (hts _ (mc wd_306)) dX1_run_186 rfl ?_
                refine lv_if_eq (tgt := 196) hx hb dX1_run_189 (by decide) (fun _ => ?_) (fun c0 => absurd c_3 c0)
                refine lv_bipush (v := 10) hx hb dX1_run_196 (by decide) ?_
                refine lv_aload_n hx hb dX1_run_198 rfl (lv_at hl 1 rfl) ?_
                refine getX1_mtr (v := (7 : Int32)) hx hb hts hin hown hK hP (hts _ (mc wd_307)) dX1_run_199 rfl ?_
                refine lv_iadd hx hb dX1_run_202 ?_
                exact o_ret hx hb hr hlk hK hP hD hS (by rw [← hF, LM_run, if_pos c_3, if_pos c_4, if_pos c_5]) dX1_run_203
              · skip
                refine lv_aload_n hx hb dX1_run_37 rfl (lv_at hl 1 rfl) ?_
                refine getX1_mpc (v := (gmpc σ)) hx hb hts hin hown hK hP (hts _ (mc wd_304)) dX1_run_38 rfl ?_
                refine lv_aload_n hx hb dX1_run_41 rfl (lv_at hl 1 rfl) ?_
                refine getX1_msz (v := (gmsz σ)) hx hb hts hin hown hK hP (hts _ (mc wd_296)) dX1_run_42 rfl ?_
                refine lv_icmp_lt (tgt := 57) hx hb dX1_run_45 (by decide) (fun c_6 => ?_) (fun c_6 => ?_)
                · skip
                  refine lv_aload_n hx hb dX1_run_57 rfl (lv_at hl 1 rfl) ?_
                  refine getX1_mtx hx hb hts hin hown hK hP (hts _ (mc wd_295)) dX1_run_58 ?_
                  refine lv_aload_n hx hb dX1_run_61 rfl (lv_at hl 1 rfl) ?_
                  refine getX1_mpc (v := (gmpc σ)) hx hb hts hin hown hK hP (hts _ (mc wd_304)) dX1_run_62 rfl ?_
                  refine aldX1_mtx (f := (gmtx σ)) hx hb hK hP (in_ge0lt c_5 c_6 hI.2.1.2) dX1_run_65 rfl ?_
                  refine lv_istore_n (lv' := [(3, .int ((gmtx σ) (Int32.toNatClampNeg (gmpc σ)))), (2, .int x2), (0, .ref (q 0)), (1, .int a1)]) hx hb dX1_run_66 rfl hl (by decide) rfl (fun ls hl => ?_)
                  refine lv_iload_n hx hb dX1_run_67 rfl (lv_at hl 0 rfl) ?_
                  refine s_call (As := [.int ((gmtx σ) (Int32.toNatClampNeg (gmpc σ)))]) (rest := []) ⟨hx, hb, hml, hown, hts⟩ (kX1_leads l ((gmtx σ) (Int32.toNatClampNeg (gmpc σ)))) (cwS 1 hts (gS wd_375 wd_376 wd_39 wd_377) rfl rfl rfl (by decide +kernel) ⟨Nat.le_of_ble_eq_true rfl, Nat.le_of_ble_eq_true rfl⟩) hP hS rfl hl.1 rfl (Nat.le_of_ble_eq_true rfl) dX1_run_68 (fun H locs hP hS => ?_)
                  refine lv_if_eq (tgt := 78) hx hb dX1_run_71 (by decide) (fun c_7 => ?_) (fun c_7 => ?_)
                  · skip
                    refine lv_iconst (v := 1) hx hb dX1_run_78 (by decide) ?_
                    refine lv_istore (lv' := [(4, .int (1 : Int32)), (3, .int ((gmtx σ) (Int32.toNatClampNeg (gmpc σ)))), (2, .int x2), (0, .ref (q 0)), (1, .int a1)]) hx hb dX1_run_79 hl (by decide) rfl (fun ls hl => ?_)
                    refine lv_iload_n hx hb dX1_run_81 rfl (lv_at hl 2 rfl) ?_
                    refine lv_iload hx hb dX1_run_82 (lv_at hl 0 rfl) ?_
                    refine lv_icmp_ge (tgt := 89) hx hb dX1_run_84 (by decide) (fun c_8 => ?_) (fun c_8 => ?_)
                    · skip
                      refine lv_iload hx hb dX1_run_89 (lv_at hl 0 rfl) ?_
                      refine lv_iconst (v := 2) hx hb dX1_run_91 (by decide) ?_
                      refine lv_icmp_ne (tgt := 107) hx hb dX1_run_92 (by decide) (fun _ => ?_) (fun c0 => absurd c0 (by decide))
                      refine lv_aload_n hx hb dX1_run_107 rfl (lv_at hl 3 rfl) ?_
                      refine lv_aload_n hx hb dX1_run_108 rfl (lv_at hl 3 rfl) ?_
                      refine lv_iload_n hx hb dX1_run_109 rfl (lv_at hl 1 rfl) ?_
                      obtain ⟨r_9, hr_9⟩ : ∃ z, (FM_atOnce σ ((gmtx σ) (Int32.toNatClampNeg (gmpc σ)))) = z := ⟨_, rfl⟩
                      refine o_call (As := [.int ((gmtx σ) (Int32.toNatClampNeg (gmpc σ)))]) (rest := [.ref (q 0)]) (res := r_9) ⟨hx, hb, hml, hown, hts⟩ (by rw [← hr_9]; exact (kX1_atOnce l D q cA _ σ ((gmtx σ) (Int32.toNatClampNeg (gmpc σ))) hI)) (cwV 1 hts (gV wd_415 wd_417 wd_27 wd_39 wd_418) rfl rfl rfl (by decide +kernel) ⟨Nat.le_of_ble_eq_true rfl, Nat.le_of_ble_eq_true rfl⟩) hK hP hD hS hA (va_recv hK hP (ci := 1) (q0 := 0) rfl rfl) rfl hl.1 rfl (Nat.le_of_ble_eq_true rfl) dX1_run_110 (fun H locs hP hD hS => ?_)
                      refine putX1_mtr hx hb hts hin hown hK hP hD hS (hts _ (mc wd_307)) dX1_run_113 (fun H locs hP hD hS => ?_)
                      refine lv_aload_n hx hb dX1_run_116 rfl (lv_at hl 3 rfl) ?_
                      refine lv_dup hx hb dX1_run_117 rfl ?_
                      refine getX1_mpc (v := (gmpc r_9.2)) hx hb hts hin hown hK hP (hts _ (mc wd_304)) dX1_run_118 rfl ?_
                      refine lv_aload_n hx hb dX1_run_121 rfl (lv_at hl 3 rfl) ?_
                      refine getX1_mtr (v := r_9.1) hx hb hts hin hown hK hP (hts _ (mc wd_307)) dX1_run_122 rfl ?_
                      refine lv_if_ne (tgt := 139) hx hb dX1_run_125 (by decide) (fun c_10 => ?_) (fun c_10 => ?_)
                      · skip
                        refine lv_iconst (v := 0) hx hb dX1_run_139 (by decide) ?_
                        refine lv_iadd hx hb dX1_run_140 ?_
                        refine putX1_mpc hx hb hts hin hown hK hP hD hS (hts _ (mc wd_304)) dX1_run_141 (fun H locs hP hD hS => ?_)
                        refine lv_iload_n hx hb dX1_run_144 rfl (lv_at hl 2 rfl) ?_
                        refine lv_aload_n hx hb dX1_run_145 rfl (lv_at hl 3 rfl) ?_
                        refine getX1_mtr (v := r_9.1) hx hb hts hin hown hK hP (hts _ (mc wd_307)) dX1_run_146 rfl ?_
                        refine lv_if_ne (tgt := 157) hx hb dX1_run_149 (by decide) (fun _ => ?_) (fun c0 => absurd c0 c_10)
                        refine lv_iconst (v := 0) hx hb dX1_run_157 (by decide) ?_
                        refine lv_isub hx hb dX1_run_158 ?_
                        refine lv_istore_n (lv' := [(2, .int (x2 - (0 : Int32))), (4, .int (1 : Int32)), (3, .int ((gmtx σ) (Int32.toNatClampNeg (gmpc σ)))), (0, .ref (q 0)), (1, .int a1)]) hx hb dX1_run_159 rfl hl (by decide) rfl (fun ls hl => ?_)
                        refine lv_aload_n hx hb dX1_run_160 rfl (lv_at hl 3 rfl) ?_
                        refine lv_dup hx hb dX1_run_161 rfl ?_
                        refine getX1_mus (v := (gmus r_9.2)) hx hb hts hin hown hK hP (hts _ (mc wd_305)) dX1_run_162 rfl ?_
                        refine lv_aload_n hx hb dX1_run_165 rfl (lv_at hl 3 rfl) ?_
                        refine getX1_mtr (v := r_9.1) hx hb hts hin hown hK hP (hts _ (mc wd_307)) dX1_run_166 rfl ?_
                        refine lv_if_ne (tgt := 177) hx hb dX1_run_169 (by decide) (fun _ => ?_) (fun c0 => absurd c0 c_10)
                        refine lv_iconst (v := 0) hx hb dX1_run_177 (by decide) ?_
                        refine lv_iadd hx hb dX1_run_178 ?_
                        refine putX1_mus hx hb hts hin hown hK hP hD hS (hts _ (mc wd_305)) dX1_run_179 (fun H locs hP hD hS => ?_)
                        refine lv_goto (tgt := 16) hx hb dX1_run_182 (by decide) ?_
                        exact ih (smus (smpc (smtr r_9.2 r_9.1) ((gmpc r_9.2) + (0 : Int32))) ((gmus r_9.2) + (0 : Int32))) (x2 - (0 : Int32)) (by subst hr_9; exact (jmr_t (ims_mus (ims_mpc (ims_mtr (imv_atOnce hI)))) hJ c_3 c_4 (by rw [gs_mtr3]; exact c_10))) _ (by subst hr_9; rw [← hF, LM_run, if_pos c_3, if_pos c_4, if_neg c_5, if_pos c_6, if_pos c_7, if_pos c_8, if_neg c_10]) _ _ _ hP hD hS (lv_sub hl [0, 3, 4] rfl)
                      · skip
                        refine lv_aload_n hx hb dX1_run_128 rfl (lv_at hl 3 rfl) ?_
                        refine getX1_men (v := (gmen r_9.2)) hx hb hts hin hown hK hP (hts _ (mc wd_306)) dX1_run_129 rfl ?_
                        refine lv_if_ne (tgt := 139) hx hb dX1_run_132 (by decide) (fun c_11 => ?_) (fun c_11 => ?_)
                        · skip
                          refine lv_iconst (v := 0) hx hb dX1_run_139 (by decide) ?_
                          refine lv_iadd hx hb dX1_run_140 ?_
                          refine putX1_mpc hx hb hts hin hown hK hP hD hS (hts _ (mc wd_304)) dX1_run_141 (fun H locs hP hD hS => ?_)
                          refine lv_iload_n hx hb dX1_run_144 rfl (lv_at hl 2 rfl) ?_
                          refine lv_aload_n hx hb dX1_run_145 rfl (lv_at hl 3 rfl) ?_
                          refine getX1_mtr (v := r_9.1) hx hb hts hin hown hK hP (hts _ (mc wd_307)) dX1_run_146 rfl ?_
                          refine lv_if_ne (tgt := 157) hx hb dX1_run_149 (by decide) (fun c0 => absurd c_10 c0) (fun _ => ?_)
                          refine lv_iload hx hb dX1_run_152 (lv_at hl 0 rfl) ?_
                          refine lv_goto (tgt := 158) hx hb dX1_run_154 (by decide) ?_
                          refine lv_isub hx hb dX1_run_158 ?_
                          refine lv_istore_n (lv' := [(2, .int (x2 - (1 : Int32))), (4, .int (1 : Int32)), (3, .int ((gmtx σ) (Int32.toNatClampNeg (gmpc σ)))), (0, .ref (q 0)), (1, .int a1)]) hx hb dX1_run_159 rfl hl (by decide) rfl (fun ls hl => ?_)
                          refine lv_aload_n hx hb dX1_run_160 rfl (lv_at hl 3 rfl) ?_
                          refine lv_dup hx hb dX1_run_161 rfl ?_
                          refine getX1_mus (v := (gmus r_9.2)) hx hb hts hin hown hK hP (hts _ (mc wd_305)) dX1_run_162 rfl ?_
                          refine lv_aload_n hx hb dX1_run_165 rfl (lv_at hl 3 rfl) ?_
                          refine getX1_mtr (v := r_9.1) hx hb hts hin hown hK hP (hts _ (mc wd_307)) dX1_run_166 rfl ?_
                          refine lv_if_ne (tgt := 177) hx hb dX1_run_169 (by decide) (fun c0 => absurd c_10 c0) (fun _ => ?_)
                          refine lv_iload hx hb dX1_run_172 (lv_at hl 1 rfl) ?_
                          refine lv_goto (tgt := 178) hx hb dX1_run_174 (by decide) ?_
                          refine lv_iadd hx hb dX1_run_178 ?_
                          refine putX1_mus hx hb hts hin hown hK hP hD hS (hts _ (mc wd_305)) dX1_run_179 (fun H locs hP hD hS => ?_)
                          refine lv_goto (tgt := 16) hx hb dX1_run_182 (by decide) ?_
                          exact ih (smus (smpc (smtr r_9.2 r_9.1) ((gmpc r_9.2) + (0 : Int32))) ((gmus r_9.2) + (1 : Int32))) (x2 - (1 : Int32)) (by subst hr_9; exact (jmr_b (ims_mus (ims_mpc (ims_mtr (imv_atOnce hI)))) hJ c_8 c_3 c_4 (by decide))) _ (by subst hr_9; rw [← hF, LM_run, if_pos c_3, if_pos c_4, if_neg c_5, if_pos c_6, if_pos c_7, if_pos c_8, if_pos c_10, if_neg c_11]) _ _ _ hP hD hS (lv_sub hl [0, 3, 4] rfl)
                        · skip
                          refine lv_iconst (v := 1) hx hb dX1_run_135 (by decide) ?_
                          refine lv_goto (tgt := 140) hx hb dX1_run_136 (by decide) ?_
                          refine lv_iadd hx hb dX1_run_140 ?_
                          refine putX1_mpc hx hb hts hin hown hK hP hD hS (hts _ (mc wd_304)) dX1_run_141 (fun H locs hP hD hS => ?_)
                          refine lv_iload_n hx hb dX1_run_144 rfl (lv_at hl 2 rfl) ?_
                          refine lv_aload_n hx hb dX1_run_145 rfl (lv_at hl 3 rfl) ?_
                          refine getX1_mtr (v := r_9.1) hx hb hts hin hown hK hP (hts _ (mc wd_307)) dX1_run_146 rfl ?_
                          refine lv_if_ne (tgt := 157) hx hb dX1_run_149 (by decide) (fun c0 => absurd c_10 c0) (fun _ => ?_)
                          refine lv_iload hx hb dX1_run_152 (lv_at hl 0 rfl) ?_
                          refine lv_goto (tgt := 158) hx hb dX1_run_154 (by decide) ?_
                          refine lv_isub hx hb dX1_run_158 ?_
                          refine lv_istore_n (lv' := [(2, .int (x2 - (1 : Int32))), (4, .int (1 : Int32)), (3, .int ((gmtx σ) (Int32.toNatClampNeg (gmpc σ)))), (0, .ref (q 0)), (1, .int a1)]) hx hb dX1_run_159 rfl hl (by decide) rfl (fun ls hl => ?_)
                          refine lv_aload_n hx hb dX1_run_160 rfl (lv_at hl 3 rfl) ?_
                          refine lv_dup hx hb dX1_run_161 rfl ?_
                          refine getX1_mus (v := (gmus r_9.2)) hx hb hts hin hown hK hP (hts _ (mc wd_305)) dX1_run_162 rfl ?_
                          refine lv_aload_n hx hb dX1_run_165 rfl (lv_at hl 3 rfl) ?_
                          refine getX1_mtr (v := r_9.1) hx hb hts hin hown hK hP (hts _ (mc wd_307)) dX1_run_166 rfl ?_
                          refine lv_if_ne (tgt := 177) hx hb dX1_run_169 (by decide) (fun c0 => absurd c_10 c0) (fun _ => ?_)
                          refine lv_iload hx hb dX1_run_172 (lv_at hl 1 rfl) ?_
                          refine lv_goto (tgt := 178) hx hb dX1_run_174 (by decide) ?_
                          refine lv_iadd hx hb dX1_run_178 ?_
                          refine putX1_mus hx hb hts hin hown hK hP hD hS (hts _ (mc wd_305)) dX1_run_179 (fun H locs hP hD hS => ?_)
                          refine lv_goto (tgt := 16) hx hb dX1_run_182 (by decide) ?_
                          exact ih (smus (smpc (smtr r_9.2 r_9.1) ((gmpc r_9.2) + (1 : Int32))) ((gmus r_9.2) + (1 : Int32))) (x2 - (1 : Int32)) (by subst hr_9; exact (jmr_b (ims_mus (ims_mpc (ims_mtr (imv_atOnce hI)))) hJ c_8 c_3 c_4 (by decide))) _ (by subst hr_9; rw [← hF, LM_run, if_pos c_3, if_pos c_4, if_neg c_5, if_pos c_6, if_pos c_7, if_pos c_8, if_pos c_10, if_pos c_11]) _ _ _ hP hD hS (lv_sub hl [0, 3, 4] rfl)
                    · skip
                      refine lv_iconst (v := 0) hx hb dX1_run_87 (by decide) ?_
                      exact o_ret hx hb hr hlk hK hP hD hS (by rw [← hF, LM_run, if_pos c_3, if_pos c_4, if_neg c_5, if_pos c_6, if_pos c_7, if_neg c_8]) dX1_run_88
                  · skip
                    refine lv_iconst (v := 2) hx hb dX1_run_74 (by decide) ?_
                    refine lv_goto (tgt := 79) hx hb dX1_run_75 (by decide) ?_
                    refine lv_istore (lv' := [(4, .int (2 : Int32)), (3, .int ((gmtx σ) (Int32.toNatClampNeg (gmpc σ)))), (2, .int x2), (0, .ref (q 0)), (1, .int a1)]) hx hb dX1_run_79 hl (by decide) rfl (fun ls hl => ?_)
                    refine lv_iload_n hx hb dX1_run_81 rfl (lv_at hl 2 rfl) ?_
                    refine lv_iload hx hb dX1_run_82 (lv_at hl 0 rfl) ?_
                    refine lv_icmp_ge (tgt := 89) hx hb dX1_run_84 (by decide) (fun c_12 => ?_) (fun c_12 => ?_)
                    · skip
                      refine lv_iload hx hb dX1_run_89 (lv_at hl 0 rfl) ?_
                      refine lv_iconst (v := 2) hx hb dX1_run_91 (by decide) ?_
                      refine lv_icmp_ne (tgt := 107) hx hb dX1_run_92 (by decide) (fun c0 => absurd c0 (by decide)) (fun _ => ?_)
                      refine lv_aload_n hx hb dX1_run_95 rfl (lv_at hl 3 rfl) ?_
                      refine lv_aload_n hx hb dX1_run_96 rfl (lv_at hl 3 rfl) ?_
                      refine lv_iload_n hx hb dX1_run_97 rfl (lv_at hl 1 rfl) ?_
                      obtain ⟨r_13, hr_13⟩ : ∃ z, (FM_two σ ((gmtx σ) (Int32.toNatClampNeg (gmpc σ)))) = z := ⟨_, rfl⟩
                      refine o_call (As := [.int ((gmtx σ) (Int32.toNatClampNeg (gmpc σ)))]) (rest := [.ref (q 0)]) (res := r_13) ⟨hx, hb, hml, hown, hts⟩ (by rw [← hr_13]; exact (kX1_two l D q cA _ σ ((gmtx σ) (Int32.toNatClampNeg (gmpc σ))) ⟨hI, in_ge0lt c_5 c_6 hI.2.1.2⟩)) (cwV 1 hts (gV wd_384 wd_386 wd_23 wd_39 wd_387) rfl rfl rfl (by decide +kernel) ⟨Nat.le_of_ble_eq_true rfl, Nat.le_of_ble_eq_true rfl⟩) hK hP hD hS hA (va_recv hK hP (ci := 1) (q0 := 0) rfl rfl) rfl hl.1 rfl (Nat.le_of_ble_eq_true rfl) dX1_run_98 (fun H locs hP hD hS => ?_)
                      refine putX1_mtr hx hb hts hin hown hK hP hD hS (hts _ (mc wd_307)) dX1_run_101 (fun H locs hP hD hS => ?_)
                      refine lv_goto (tgt := 144) hx hb dX1_run_104 (by decide) ?_
                      refine lv_iload_n hx hb dX1_run_144 rfl (lv_at hl 2 rfl) ?_
                      refine lv_aload_n hx hb dX1_run_145 rfl (lv_at hl 3 rfl) ?_
                      refine getX1_mtr (v := r_13.1) hx hb hts hin hown hK hP (hts _ (mc wd_307)) dX1_run_146 rfl ?_
                      refine lv_if_ne (tgt := 157) hx hb dX1_run_149 (by decide) (fun c_14 => ?_) (fun c_14 => ?_)
                      · skip
                        refine lv_iconst (v := 0) hx hb dX1_run_157 (by decide) ?_
                        refine lv_isub hx hb dX1_run_158 ?_
                        refine lv_istore_n (lv' := [(2, .int (x2 - (0 : Int32))), (4, .int (2 : Int32)), (3, .int ((gmtx σ) (Int32.toNatClampNeg (gmpc σ)))), (0, .ref (q 0)), (1, .int a1)]) hx hb dX1_run_159 rfl hl (by decide) rfl (fun ls hl => ?_)
                        refine lv_aload_n hx hb dX1_run_160 rfl (lv_at hl 3 rfl) ?_
                        refine lv_dup hx hb dX1_run_161 rfl ?_
                        refine getX1_mus (v := (gmus r_13.2)) hx hb hts hin hown hK hP (hts _ (mc wd_305)) dX1_run_162 rfl ?_
                        refine lv_aload_n hx hb dX1_run_165 rfl (lv_at hl 3 rfl) ?_
                        refine getX1_mtr (v := r_13.1) hx hb hts hin hown hK hP (hts _ (mc wd_307)) dX1_run_166 rfl ?_
                        refine lv_if_ne (tgt := 177) hx hb dX1_run_169 (by decide) (fun _ => ?_) (fun c0 => absurd c0 c_14)
                        refine lv_iconst (v := 0) hx hb dX1_run_177 (by decide) ?_
                        refine lv_iadd hx hb dX1_run_178 ?_
                        refine putX1_mus hx hb hts hin hown hK hP hD hS (hts _ (mc wd_305)) dX1_run_179 (fun H locs hP hD hS => ?_)
                        refine lv_goto (tgt := 16) hx hb dX1_run_182 (by decide) ?_
                        exact ih (smus (smtr r_13.2 r_13.1) ((gmus r_13.2) + (0 : Int32))) (x2 - (0 : Int32)) (by subst hr_13; exact (jmr_t (ims_mus (ims_mtr (imv_two hI))) hJ c_3 c_4 (by rw [gs_mtr2]; exact c_14))) _ (by subst hr_13; rw [← hF, LM_run, if_pos c_3, if_pos c_4, if_neg c_5, if_pos c_6, if_neg c_7, if_pos c_12, if_neg c_14]) _ _ _ hP hD hS (lv_sub hl [0, 3, 4] rfl)
                      · skip
                        refine lv_iload hx hb dX1_run_152 (lv_at hl 0 rfl) ?_
                        refine lv_goto (tgt := 158) hx hb dX1_run_154 (by decide) ?_
                        refine lv_isub hx hb dX1_run_158 ?_
                        refine lv_istore_n (lv' := [(2, .int (x2 - (2 : Int32))), (4, .int (2 : Int32)), (3, .int ((gmtx σ) (Int32.toNatClampNeg (gmpc σ)))), (0, .ref (q 0)), (1, .int a1)]) hx hb dX1_run_159 rfl hl (by decide) rfl (fun ls hl => ?_)
                        refine lv_aload_n hx hb dX1_run_160 rfl (lv_at hl 3 rfl) ?_
                        refine lv_dup hx hb dX1_run_161 rfl ?_
                        refine getX1_mus (v := (gmus r_13.2)) hx hb hts hin hown hK hP (hts _ (mc wd_305)) dX1_run_162 rfl ?_
                        refine lv_aload_n hx hb dX1_run_165 rfl (lv_at hl 3 rfl) ?_
                        refine getX1_mtr (v := r_13.1) hx hb hts hin hown hK hP (hts _ (mc wd_307)) dX1_run_166 rfl ?_
                        refine lv_if_ne (tgt := 177) hx hb dX1_run_169 (by decide) (fun c0 => absurd c_14 c0) (fun _ => ?_)
                        refine lv_iload hx hb dX1_run_172 (lv_at hl 1 rfl) ?_
                        refine lv_goto (tgt := 178) hx hb dX1_run_174 (by decide) ?_
                        refine lv_iadd hx hb dX1_run_178 ?_
                        refine putX1_mus hx hb hts hin hown hK hP hD hS (hts _ (mc wd_305)) dX1_run_179 (fun H locs hP hD hS => ?_)
                        refine lv_goto (tgt := 16) hx hb dX1_run_182 (by decide) ?_
                        exact ih (smus (smtr r_13.2 r_13.1) ((gmus r_13.2) + (2 : Int32))) (x2 - (2 : Int32)) (by subst hr_13; exact (jmr_b (ims_mus (ims_mtr (imv_two hI))) hJ c_12 c_3 c_4 (by decide))) _ (by subst hr_13; rw [← hF, LM_run, if_pos c_3, if_pos c_4, if_neg c_5, if_pos c_6, if_neg c_7, if_pos c_12, if_pos c_14]) _ _ _ hP hD hS (lv_sub hl [0, 3, 4] rfl)
                    · skip
                      refine lv_iconst (v := 0) hx hb dX1_run_87 (by decide) ?_
                      exact o_ret hx hb hr hlk hK hP hD hS (by rw [← hF, LM_run, if_pos c_3, if_pos c_4, if_neg c_5, if_pos c_6, if_neg c_7, if_neg c_12]) dX1_run_88
                · skip
                  refine lv_aload_n hx hb dX1_run_48 rfl (lv_at hl 1 rfl) ?_
                  refine lv_bipush (v := 7) hx hb dX1_run_49 (by decide) ?_
                  refine putX1_mtr hx hb hts hin hown hK hP hD hS (hts _ (mc wd_307)) dX1_run_51 (fun H locs hP hD hS => ?_)
                  refine lv_goto (tgt := 185) hx hb dX1_run_54 (by decide) ?_
                  refine lv_aload_n hx hb dX1_run_185 rfl (lv_at hl 1 rfl) ?_
                  refine getX1_men (v := (gmen σ)) hx hb hts hin hown hK hP (hts _ (mc wd_306)) dX1_run_186 rfl ?_
                  refine lv_if_eq (tgt := 196) hx hb dX1_run_189 (by decide) (fun _ => ?_) (fun c0 => absurd c_3 c0)
                  refine lv_bipush (v := 10) hx hb dX1_run_196 (by decide) ?_
                  refine lv_aload_n hx hb dX1_run_198 rfl (lv_at hl 1 rfl) ?_
                  refine getX1_mtr (v := (7 : Int32)) hx hb hts hin hown hK hP (hts _ (mc wd_307)) dX1_run_199 rfl ?_
                  refine lv_iadd hx hb dX1_run_202 ?_
                  exact o_ret hx hb hr hlk hK hP hD hS (by rw [← hF, LM_run, if_pos c_3, if_pos c_4, if_neg c_5, if_neg c_6]) dX1_run_203
      exact hloop (2003) σ a1 (jmr_s hI c_1 c_2) _ (by rw [← hF, FM_run, if_neg c_1, if_pos c_2]) _ _ _ hP hD hS (lv_sub hl [0, 1, 2] rfl)
    · skip
      refine lv_iconst (v := -1) hx hb dX1_run_12 (by decide) ?_
      exact o_ret hx hb hr hlk hK hP hD hS (by rw [← hF, FM_run, if_neg c_1, if_neg c_2]) dX1_run_13
