set_option maxHeartbeats 4000000 in
set_option maxRecDepth 100000 in
theorem kX1_aim (l : Launch) (D : va_G) (q : Nat → Nat) (cA : Nat → ClassId) (sz : Nat) (σ : SM) (a1 : Int32) : oMetV l D vwCl (wM q cA) (tM cA) (q 0) sz yX1_aim wsX1_aim { frames := 1, cells := 0, slots := 0, locals := 20 } σ [.int a1] (FM_aim σ a1) := by
  refine o_metV (cc := cX1_aim) (maxL := 5) (ret := none) (by decide) rfl (Nat.le_of_ble_eq_true rfl) ?_
  intro p e s m args below meth c A ls hx hb hr hml hts hown hlk hP hK hD hA hS hl
  have hl : lv_has ls 5 [(0, .ref (q 0)), (1, .int a1)] := hl
  have hin : ∀ w ∈ wsX10, w ∈ wsX1_aim := fun w h => mc (inX1 w h)
  generalize hF : FM_aim σ a1 = res
  refine lv_iload_n hx hb dX1_aim_0 rfl (lv_at hl 1 rfl) ?_
  refine s_call (As := [.int a1]) (rest := []) ⟨hx, hb, hml, hown, hts⟩ (kX1_op l a1) (cwS 1 hts (gS wd_378 wd_379 wd_39 wd_380) rfl rfl rfl (by decide +kernel) ⟨Nat.le_of_ble_eq_true rfl, Nat.le_of_ble_eq_true rfl⟩) hP hS rfl hl.1 rfl (Nat.le_of_ble_eq_true rfl) dX1_aim_1 (fun H locs hP hS => ?_)
  refine lv_istore_n (lv' := [(2, .int (FM_op a1)), (0, .ref (q 0)), (1, .int a1)]) hx hb dX1_aim_4 rfl hl (by decide) rfl (fun ls hl => ?_)
  refine lv_aload_n hx hb dX1_aim_5 rfl (lv_at hl 1 rfl) ?_
  refine getX1_mrg hx hb hts hin hown hK hP (hts _ (mc wd_303)) dX1_aim_6 ?_
  refine lv_iload_n hx hb dX1_aim_9 rfl (lv_at hl 2 rfl) ?_
  refine s_call (As := [.int a1]) (rest := [.ref (q 6)]) ⟨hx, hb, hml, hown, hts⟩ (kX1_first l a1) (cwS 1 hts (gS wd_395 wd_396 wd_39 wd_397) rfl rfl rfl (by decide +kernel) ⟨Nat.le_of_ble_eq_true rfl, Nat.le_of_ble_eq_true rfl⟩) hP hS rfl hl.1 rfl (Nat.le_of_ble_eq_true rfl) dX1_aim_10 (fun H locs hP hS => ?_)
  refine aldX1_mrg (f := (gmrg σ)) hx hb hK hP (im_first _) dX1_aim_13 rfl ?_
  refine lv_istore_n (lv' := [(3, .int ((gmrg σ) (Int32.toNatClampNeg (FM_first a1)))), (2, .int (FM_op a1)), (0, .ref (q 0)), (1, .int a1)]) hx hb dX1_aim_14 rfl hl (by decide) rfl (fun ls hl => ?_)
  refine lv_iload_n hx hb dX1_aim_15 rfl (lv_at hl 3 rfl) ?_
  refine s_call (As := [.int a1]) (rest := []) ⟨hx, hb, hml, hown, hts⟩ (kX1_second l a1) (cwS 1 hts (gS wd_381 wd_382 wd_39 wd_383) rfl rfl rfl (by decide +kernel) ⟨Nat.le_of_ble_eq_true rfl, Nat.le_of_ble_eq_true rfl⟩) hP hS rfl hl.1 rfl (Nat.le_of_ble_eq_true rfl) dX1_aim_16 (fun H locs hP hS => ?_)
  refine lv_istore (lv' := [(4, .int (FM_second a1)), (3, .int ((gmrg σ) (Int32.toNatClampNeg (FM_first a1)))), (2, .int (FM_op a1)), (0, .ref (q 0)), (1, .int a1)]) hx hb dX1_aim_19 hl (by decide) rfl (fun ls hl => ?_)
  refine lv_aload_n hx hb dX1_aim_21 rfl (lv_at hl 3 rfl) ?_
  refine lv_iconst (v := 1) hx hb dX1_aim_22 (by decide) ?_
  refine putX1_mgo hx hb hts hin hown hK hP hD hS rfl rfl (hts _ (mc wd_309)) dX1_aim_23 (fun H locs hP hD hS => ?_)
  refine lv_aload_n hx hb dX1_aim_26 rfl (lv_at hl 3 rfl) ?_
  refine lv_iconst (v := 0) hx hb dX1_aim_27 (by decide) ?_
  refine putX1_mlk hx hb hts hin hown hK hP hD hS (hts _ (mc wd_311)) dX1_aim_28 (fun H locs hP hD hS => ?_)
  refine lv_aload_n hx hb dX1_aim_31 rfl (lv_at hl 3 rfl) ?_
  refine lv_ldc (v := 4194304) hx hb hown (hts _ (mc wd_398)) dX1_aim_32 ?_
  refine lv_iconst (v := 4) hx hb dX1_aim_34 (by decide) ?_
  refine lv_aload_n hx hb dX1_aim_35 rfl (lv_at hl 3 rfl) ?_
  refine getX1_mpc (v := (gmpc σ)) hx hb hts hin hown hK hP (hts _ (mc wd_304)) dX1_aim_36 rfl ?_
  refine lv_iconst (v := 1) hx hb dX1_aim_39 (by decide) ?_
  refine lv_iadd hx hb dX1_aim_40 ?_
  refine lv_iload_n hx hb dX1_aim_41 rfl (lv_at hl 4 rfl) ?_
  refine s_call (As := [.int a1]) (rest := [.int ((gmpc σ) + (1 : Int32)), .int (4 : Int32), .int (4194304 : Int32), .ref (q 0)]) ⟨hx, hb, hml, hown, hts⟩ (kX1_signed l a1) (cwS 1 hts (gS wd_399 wd_400 wd_39 wd_401) rfl rfl rfl (by decide +kernel) ⟨Nat.le_of_ble_eq_true rfl, Nat.le_of_ble_eq_true rfl⟩) hP hS rfl hl.1 rfl (Nat.le_of_ble_eq_true rfl) dX1_aim_42 (fun H locs hP hS => ?_)
  refine lv_iadd hx hb dX1_aim_45 ?_
  refine lv_imul hx hb dX1_aim_46 ?_
  refine lv_iadd hx hb dX1_aim_47 ?_
  refine putX1_mgl hx hb hts hin hown hK hP hD hS (hts _ (mc wd_310)) dX1_aim_48 (fun H locs hP hD hS => ?_)
  refine lv_iload_n hx hb dX1_aim_51 rfl (lv_at hl 2 rfl) ?_
  refine lv_if_ne (tgt := 84) hx hb dX1_aim_52 (by decide) (fun c_1 => ?_) (fun c_1 => ?_)
  · skip
    refine lv_iload_n hx hb dX1_aim_84 rfl (lv_at hl 2 rfl) ?_
    refine lv_iconst (v := 1) hx hb dX1_aim_85 (by decide) ?_
    refine lv_icmp_ne (tgt := 141) hx hb dX1_aim_86 (by decide) (fun c_2 => ?_) (fun c_2 => ?_)
    · skip
      refine lv_iload_n hx hb dX1_aim_141 rfl (lv_at hl 2 rfl) ?_
      refine lv_iconst (v := 4) hx hb dX1_aim_142 (by decide) ?_
      refine lv_icmp_ge (tgt := 189) hx hb dX1_aim_143 (by decide) (fun c_3 => ?_) (fun c_3 => ?_)
      · skip
        refine lv_iload_n hx hb dX1_aim_189 rfl (lv_at hl 2 rfl) ?_
        refine lv_iconst (v := 4) hx hb dX1_aim_190 (by decide) ?_
        refine lv_icmp_ne (tgt := 217) hx hb dX1_aim_191 (by decide) (fun c_4 => ?_) (fun c_4 => ?_)
        · skip
          refine lv_iload_n hx hb dX1_aim_217 rfl (lv_at hl 2 rfl) ?_
          refine lv_iconst (v := 5) hx hb dX1_aim_218 (by decide) ?_
          refine lv_icmp_ne (tgt := 245) hx hb dX1_aim_219 (by decide) (fun c_5 => ?_) (fun c_5 => ?_)
          · skip
            refine lv_aload_n hx hb dX1_aim_245 rfl (lv_at hl 3 rfl) ?_
            refine lv_iload_n hx hb dX1_aim_246 rfl (lv_at hl 2 rfl) ?_
            refine lv_bipush (v := 6) hx hb dX1_aim_247 (by decide) ?_
            refine lv_icmp_ne (tgt := 264) hx hb dX1_aim_249 (by decide) (fun c_6 => ?_) (fun c_6 => ?_)
            · skip
              refine lv_iload_n hx hb dX1_aim_264 rfl (lv_at hl 1 rfl) ?_
              refine lv_if_le (tgt := 272) hx hb dX1_aim_265 (by decide) (fun c_7 => ?_) (fun c_7 => ?_)
              · skip
                refine lv_iconst (v := 0) hx hb dX1_aim_272 (by decide) ?_
                refine putX1_mgo hx hb hts hin hown hK hP hD hS rfl rfl (hts _ (mc wd_309)) dX1_aim_273 (fun H locs hP hD hS => ?_)
                exact o_retV hx hb hr hlk hK hP hD hS (by rw [← hF, FM_aim, if_neg c_1, if_neg c_2, if_pos c_3, if_neg c_4, if_neg c_5, if_neg c_6, if_pos c_7]) dX1_aim_276
              · skip
                refine lv_iconst (v := 1) hx hb dX1_aim_268 (by decide) ?_
                refine lv_goto (tgt := 273) hx hb dX1_aim_269 (by decide) ?_
                refine putX1_mgo hx hb hts hin hown hK hP hD hS rfl rfl (hts _ (mc wd_309)) dX1_aim_273 (fun H locs hP hD hS => ?_)
                exact o_retV hx hb hr hlk hK hP hD hS (by rw [← hF, FM_aim, if_neg c_1, if_neg c_2, if_pos c_3, if_neg c_4, if_neg c_5, if_neg c_6, if_neg c_7]) dX1_aim_276
            · skip
              refine lv_iload_n hx hb dX1_aim_252 rfl (lv_at hl 1 rfl) ?_
              refine lv_if_gt (tgt := 260) hx hb dX1_aim_253 (by decide) (fun c_8 => ?_) (fun c_8 => ?_)
              · skip
                refine lv_iconst (v := 0) hx hb dX1_aim_260 (by decide) ?_
                refine lv_goto (tgt := 273) hx hb dX1_aim_261 (by decide) ?_
                refine putX1_mgo hx hb hts hin hown hK hP hD hS rfl rfl (hts _ (mc wd_309)) dX1_aim_273 (fun H locs hP hD hS => ?_)
                exact o_retV hx hb hr hlk hK hP hD hS (by rw [← hF, FM_aim, if_neg c_1, if_neg c_2, if_pos c_3, if_neg c_4, if_neg c_5, if_pos c_6, if_pos c_8]) dX1_aim_276
              · skip
                refine lv_iconst (v := 1) hx hb dX1_aim_256 (by decide) ?_
                refine lv_goto (tgt := 273) hx hb dX1_aim_257 (by decide) ?_
                refine putX1_mgo hx hb hts hin hown hK hP hD hS rfl rfl (hts _ (mc wd_309)) dX1_aim_273 (fun H locs hP hD hS => ?_)
                exact o_retV hx hb hr hlk hK hP hD hS (by rw [← hF, FM_aim, if_neg c_1, if_neg c_2, if_pos c_3, if_neg c_4, if_neg c_5, if_pos c_6, if_neg c_8]) dX1_aim_276
          · skip
            refine lv_aload_n hx hb dX1_aim_222 rfl (lv_at hl 3 rfl) ?_
            refine lv_iload_n hx hb dX1_aim_223 rfl (lv_at hl 1 rfl) ?_
            refine lv_aload_n hx hb dX1_aim_224 rfl (lv_at hl 3 rfl) ?_
            refine getX1_mrg hx hb hts hin hown hK hP (hts _ (mc wd_303)) dX1_aim_225 ?_
            refine lv_iload hx hb dX1_aim_228 (lv_at hl 0 rfl) ?_
            refine aldX1_mrg (f := (gmrg σ)) hx hb hK hP (im_second _) dX1_aim_230 rfl ?_
            refine lv_icmp_eq (tgt := 238) hx hb dX1_aim_231 (by decide) (fun c_9 => ?_) (fun c_9 => ?_)
            · skip
              refine lv_iconst (v := 0) hx hb dX1_aim_238 (by decide) ?_
              refine putX1_mgo hx hb hts hin hown hK hP hD hS rfl rfl (hts _ (mc wd_309)) dX1_aim_239 (fun H locs hP hD hS => ?_)
              refine lv_goto (tgt := 276) hx hb dX1_aim_242 (by decide) ?_
              exact o_retV hx hb hr hlk hK hP hD hS (by rw [← hF, FM_aim, if_neg c_1, if_neg c_2, if_pos c_3, if_neg c_4, if_pos c_5, if_pos c_9]) dX1_aim_276
            · skip
              refine lv_iconst (v := 1) hx hb dX1_aim_234 (by decide) ?_
              refine lv_goto (tgt := 239) hx hb dX1_aim_235 (by decide) ?_
              refine putX1_mgo hx hb hts hin hown hK hP hD hS rfl rfl (hts _ (mc wd_309)) dX1_aim_239 (fun H locs hP hD hS => ?_)
              refine lv_goto (tgt := 276) hx hb dX1_aim_242 (by decide) ?_
              exact o_retV hx hb hr hlk hK hP hD hS (by rw [← hF, FM_aim, if_neg c_1, if_neg c_2, if_pos c_3, if_neg c_4, if_pos c_5, if_neg c_9]) dX1_aim_276
        · skip
          refine lv_aload_n hx hb dX1_aim_194 rfl (lv_at hl 3 rfl) ?_
          refine lv_iload_n hx hb dX1_aim_195 rfl (lv_at hl 1 rfl) ?_
          refine lv_aload_n hx hb dX1_aim_196 rfl (lv_at hl 3 rfl) ?_
          refine getX1_mrg hx hb hts hin hown hK hP (hts _ (mc wd_303)) dX1_aim_197 ?_
          refine lv_iload hx hb dX1_aim_200 (lv_at hl 0 rfl) ?_
          refine aldX1_mrg (f := (gmrg σ)) hx hb hK hP (im_second _) dX1_aim_202 rfl ?_
          refine lv_icmp_ne (tgt := 210) hx hb dX1_aim_203 (by decide) (fun c_10 => ?_) (fun c_10 => ?_)
          · skip
            refine lv_iconst (v := 0) hx hb dX1_aim_210 (by decide) ?_
            refine putX1_mgo hx hb hts hin hown hK hP hD hS rfl rfl (hts _ (mc wd_309)) dX1_aim_211 (fun H locs hP hD hS => ?_)
            refine lv_goto (tgt := 276) hx hb dX1_aim_214 (by decide) ?_
            exact o_retV hx hb hr hlk hK hP hD hS (by rw [← hF, FM_aim, if_neg c_1, if_neg c_2, if_pos c_3, if_pos c_4, if_neg c_10]) dX1_aim_276
          · skip
            refine lv_iconst (v := 1) hx hb dX1_aim_206 (by decide) ?_
            refine lv_goto (tgt := 211) hx hb dX1_aim_207 (by decide) ?_
            refine putX1_mgo hx hb hts hin hown hK hP hD hS rfl rfl (hts _ (mc wd_309)) dX1_aim_211 (fun H locs hP hD hS => ?_)
            refine lv_goto (tgt := 276) hx hb dX1_aim_214 (by decide) ?_
            exact o_retV hx hb hr hlk hK hP hD hS (by rw [← hF, FM_aim, if_neg c_1, if_neg c_2, if_pos c_3, if_pos c_4, if_pos c_10]) dX1_aim_276
      · skip
        refine lv_aload_n hx hb dX1_aim_146 rfl (lv_at hl 3 rfl) ?_
        refine lv_ldc (v := 4194304) hx hb hown (hts _ (mc wd_398)) dX1_aim_147 ?_
        refine lv_iconst (v := 4) hx hb dX1_aim_149 (by decide) ?_
        refine lv_aload_n hx hb dX1_aim_150 rfl (lv_at hl 3 rfl) ?_
        refine getX1_mpc (v := (gmpc σ)) hx hb hts hin hown hK hP (hts _ (mc wd_304)) dX1_aim_151 rfl ?_
        refine lv_iconst (v := 1) hx hb dX1_aim_154 (by decide) ?_
        refine lv_iadd hx hb dX1_aim_155 ?_
        refine lv_imul hx hb dX1_aim_156 ?_
        refine lv_iadd hx hb dX1_aim_157 ?_
        refine lv_ldc (v := -268435456) hx hb hown (hts _ (mc wd_405)) dX1_aim_158 ?_
        refine lv_iand hx hb dX1_aim_160 ?_
        refine lv_iload_n hx hb dX1_aim_161 rfl (lv_at hl 4 rfl) ?_
        refine lv_ldc (v := 67108863) hx hb hown (hts _ (mc wd_406)) dX1_aim_162 ?_
        refine lv_iand hx hb dX1_aim_164 ?_
        refine lv_iconst (v := 2) hx hb dX1_aim_165 (by decide) ?_
        refine lv_ishl hx hb dX1_aim_166 ?_
        refine lv_ior hx hb dX1_aim_167 ?_
        refine putX1_mgl hx hb hts hin hown hK hP hD hS (hts _ (mc wd_310)) dX1_aim_168 (fun H locs hP hD hS => ?_)
        refine lv_aload_n hx hb dX1_aim_171 rfl (lv_at hl 3 rfl) ?_
        refine lv_iload_n hx hb dX1_aim_172 rfl (lv_at hl 2 rfl) ?_
        refine lv_iconst (v := 3) hx hb dX1_aim_173 (by decide) ?_
        refine lv_icmp_ne (tgt := 182) hx hb dX1_aim_174 (by decide) (fun c_11 => ?_) (fun c_11 => ?_)
        · skip
          refine lv_iconst (v := 0) hx hb dX1_aim_182 (by decide) ?_
          refine putX1_mlk hx hb hts hin hown hK hP hD hS (hts _ (mc wd_311)) dX1_aim_183 (fun H locs hP hD hS => ?_)
          refine lv_goto (tgt := 276) hx hb dX1_aim_186 (by decide) ?_
          exact o_retV hx hb hr hlk hK hP hD hS (by rw [← hF, FM_aim, if_neg c_1, if_neg c_2, if_neg c_3, if_neg c_11]) dX1_aim_276
        · skip
          refine lv_bipush (v := 31) hx hb dX1_aim_177 (by decide) ?_
          refine lv_goto (tgt := 183) hx hb dX1_aim_179 (by decide) ?_
          refine putX1_mlk hx hb hts hin hown hK hP hD hS (hts _ (mc wd_311)) dX1_aim_183 (fun H locs hP hD hS => ?_)
          refine lv_goto (tgt := 276) hx hb dX1_aim_186 (by decide) ?_
          exact o_retV hx hb hr hlk hK hP hD hS (by rw [← hF, FM_aim, if_neg c_1, if_neg c_2, if_neg c_3, if_pos c_11]) dX1_aim_276
    · skip
      refine lv_aload_n hx hb dX1_aim_89 rfl (lv_at hl 3 rfl) ?_
      refine lv_iload hx hb dX1_aim_90 (lv_at hl 0 rfl) ?_
      refine lv_iconst (v := 2) hx hb dX1_aim_92 (by decide) ?_
      refine lv_irem hx hb dX1_aim_93 (by decide) ?_
      refine lv_if_ne (tgt := 109) hx hb dX1_aim_94 (by decide) (fun c_12 => ?_) (fun c_12 => ?_)
      · skip
        refine lv_iload_n hx hb dX1_aim_109 rfl (lv_at hl 1 rfl) ?_
        refine lv_if_lt (tgt := 117) hx hb dX1_aim_110 (by decide) (fun c_13 => ?_) (fun c_13 => ?_)
        · skip
          refine lv_iconst (v := 0) hx hb dX1_aim_117 (by decide) ?_
          refine putX1_mgo hx hb hts hin hown hK hP hD hS rfl rfl (hts _ (mc wd_309)) dX1_aim_118 (fun H locs hP hD hS => ?_)
          refine lv_aload_n hx hb dX1_aim_121 rfl (lv_at hl 3 rfl) ?_
          refine lv_iload hx hb dX1_aim_122 (lv_at hl 0 rfl) ?_
          refine lv_bipush (v := 15) hx hb dX1_aim_124 (by decide) ?_
          refine lv_icmp_le (tgt := 134) hx hb dX1_aim_126 (by decide) (fun c_14 => ?_) (fun c_14 => ?_)
          · skip
            refine lv_iconst (v := 0) hx hb dX1_aim_134 (by decide) ?_
            refine putX1_mlk hx hb hts hin hown hK hP hD hS (hts _ (mc wd_311)) dX1_aim_135 (fun H locs hP hD hS => ?_)
            refine lv_goto (tgt := 276) hx hb dX1_aim_138 (by decide) ?_
            exact o_retV hx hb hr hlk hK hP hD hS (by rw [← hF, FM_aim, if_neg c_1, if_pos c_2, if_neg c_12, if_pos c_13, if_pos c_14]) dX1_aim_276
          · skip
            refine lv_bipush (v := 31) hx hb dX1_aim_129 (by decide) ?_
            refine lv_goto (tgt := 135) hx hb dX1_aim_131 (by decide) ?_
            refine putX1_mlk hx hb hts hin hown hK hP hD hS (hts _ (mc wd_311)) dX1_aim_135 (fun H locs hP hD hS => ?_)
            refine lv_goto (tgt := 276) hx hb dX1_aim_138 (by decide) ?_
            exact o_retV hx hb hr hlk hK hP hD hS (by rw [← hF, FM_aim, if_neg c_1, if_pos c_2, if_neg c_12, if_pos c_13, if_neg c_14]) dX1_aim_276
        · skip
          refine lv_iconst (v := 1) hx hb dX1_aim_113 (by decide) ?_
          refine lv_goto (tgt := 118) hx hb dX1_aim_114 (by decide) ?_
          refine putX1_mgo hx hb hts hin hown hK hP hD hS rfl rfl (hts _ (mc wd_309)) dX1_aim_118 (fun H locs hP hD hS => ?_)
          refine lv_aload_n hx hb dX1_aim_121 rfl (lv_at hl 3 rfl) ?_
          refine lv_iload hx hb dX1_aim_122 (lv_at hl 0 rfl) ?_
          refine lv_bipush (v := 15) hx hb dX1_aim_124 (by decide) ?_
          refine lv_icmp_le (tgt := 134) hx hb dX1_aim_126 (by decide) (fun c_15 => ?_) (fun c_15 => ?_)
          · skip
            refine lv_iconst (v := 0) hx hb dX1_aim_134 (by decide) ?_
            refine putX1_mlk hx hb hts hin hown hK hP hD hS (hts _ (mc wd_311)) dX1_aim_135 (fun H locs hP hD hS => ?_)
            refine lv_goto (tgt := 276) hx hb dX1_aim_138 (by decide) ?_
            exact o_retV hx hb hr hlk hK hP hD hS (by rw [← hF, FM_aim, if_neg c_1, if_pos c_2, if_neg c_12, if_neg c_13, if_pos c_15]) dX1_aim_276
          · skip
            refine lv_bipush (v := 31) hx hb dX1_aim_129 (by decide) ?_
            refine lv_goto (tgt := 135) hx hb dX1_aim_131 (by decide) ?_
            refine putX1_mlk hx hb hts hin hown hK hP hD hS (hts _ (mc wd_311)) dX1_aim_135 (fun H locs hP hD hS => ?_)
            refine lv_goto (tgt := 276) hx hb dX1_aim_138 (by decide) ?_
            exact o_retV hx hb hr hlk hK hP hD hS (by rw [← hF, FM_aim, if_neg c_1, if_pos c_2, if_neg c_12, if_neg c_13, if_neg c_15]) dX1_aim_276
      · skip
        refine lv_iload_n hx hb dX1_aim_97 rfl (lv_at hl 1 rfl) ?_
        refine lv_if_ge (tgt := 105) hx hb dX1_aim_98 (by decide) (fun c_16 => ?_) (fun c_16 => ?_)
        · skip
          refine lv_iconst (v := 0) hx hb dX1_aim_105 (by decide) ?_
          refine lv_goto (tgt := 118) hx hb dX1_aim_106 (by decide) ?_
          refine putX1_mgo hx hb hts hin hown hK hP hD hS rfl rfl (hts _ (mc wd_309)) dX1_aim_118 (fun H locs hP hD hS => ?_)
          refine lv_aload_n hx hb dX1_aim_121 rfl (lv_at hl 3 rfl) ?_
          refine lv_iload hx hb dX1_aim_122 (lv_at hl 0 rfl) ?_
          refine lv_bipush (v := 15) hx hb dX1_aim_124 (by decide) ?_
          refine lv_icmp_le (tgt := 134) hx hb dX1_aim_126 (by decide) (fun c_17 => ?_) (fun c_17 => ?_)
          · skip
            refine lv_iconst (v := 0) hx hb dX1_aim_134 (by decide) ?_
            refine putX1_mlk hx hb hts hin hown hK hP hD hS (hts _ (mc wd_311)) dX1_aim_135 (fun H locs hP hD hS => ?_)
            refine lv_goto (tgt := 276) hx hb dX1_aim_138 (by decide) ?_
            exact o_retV hx hb hr hlk hK hP hD hS (by rw [← hF, FM_aim, if_neg c_1, if_pos c_2, if_pos c_12, if_pos c_16, if_pos c_17]) dX1_aim_276
          · skip
            refine lv_bipush (v := 31) hx hb dX1_aim_129 (by decide) ?_
            refine lv_goto (tgt := 135) hx hb dX1_aim_131 (by decide) ?_
            refine putX1_mlk hx hb hts hin hown hK hP hD hS (hts _ (mc wd_311)) dX1_aim_135 (fun H locs hP hD hS => ?_)
            refine lv_goto (tgt := 276) hx hb dX1_aim_138 (by decide) ?_
            exact o_retV hx hb hr hlk hK hP hD hS (by rw [← hF, FM_aim, if_neg c_1, if_pos c_2, if_pos c_12, if_pos c_16, if_neg c_17]) dX1_aim_276
        · skip
          refine lv_iconst (v := 1) hx hb dX1_aim_101 (by decide) ?_
          refine lv_goto (tgt := 118) hx hb dX1_aim_102 (by decide) ?_
          refine putX1_mgo hx hb hts hin hown hK hP hD hS rfl rfl (hts _ (mc wd_309)) dX1_aim_118 (fun H locs hP hD hS => ?_)
          refine lv_aload_n hx hb dX1_aim_121 rfl (lv_at hl 3 rfl) ?_
          refine lv_iload hx hb dX1_aim_122 (lv_at hl 0 rfl) ?_
          refine lv_bipush (v := 15) hx hb dX1_aim_124 (by decide) ?_
          refine lv_icmp_le (tgt := 134) hx hb dX1_aim_126 (by decide) (fun c_18 => ?_) (fun c_18 => ?_)
          · skip
            refine lv_iconst (v := 0) hx hb dX1_aim_134 (by decide) ?_
            refine putX1_mlk hx hb hts hin hown hK hP hD hS (hts _ (mc wd_311)) dX1_aim_135 (fun H locs hP hD hS => ?_)
            refine lv_goto (tgt := 276) hx hb dX1_aim_138 (by decide) ?_
            exact o_retV hx hb hr hlk hK hP hD hS (by rw [← hF, FM_aim, if_neg c_1, if_pos c_2, if_pos c_12, if_neg c_16, if_pos c_18]) dX1_aim_276
          · skip
            refine lv_bipush (v := 31) hx hb dX1_aim_129 (by decide) ?_
            refine lv_goto (tgt := 135) hx hb dX1_aim_131 (by decide) ?_
            refine putX1_mlk hx hb hts hin hown hK hP hD hS (hts _ (mc wd_311)) dX1_aim_135 (fun H locs hP hD hS => ?_)
            refine lv_goto (tgt := 276) hx hb dX1_aim_138 (by decide) ?_
            exact o_retV hx hb hr hlk hK hP hD hS (by rw [← hF, FM_aim, if_neg c_1, if_pos c_2, if_pos c_12, if_neg c_16, if_neg c_18]) dX1_aim_276
  · skip
    refine lv_aload_n hx hb dX1_aim_55 rfl (lv_at hl 3 rfl) ?_
    refine lv_iload_n hx hb dX1_aim_56 rfl (lv_at hl 1 rfl) ?_
    refine putX1_mgl hx hb hts hin hown hK hP hD hS (hts _ (mc wd_310)) dX1_aim_57 (fun H locs hP hD hS => ?_)
    refine lv_aload_n hx hb dX1_aim_60 rfl (lv_at hl 3 rfl) ?_
    refine lv_iload_n hx hb dX1_aim_61 rfl (lv_at hl 4 rfl) ?_
    refine lv_bipush (v := 63) hx hb dX1_aim_62 (by decide) ?_
    refine lv_iand hx hb dX1_aim_64 ?_
    refine lv_bipush (v := 9) hx hb dX1_aim_65 (by decide) ?_
    refine lv_icmp_ne (tgt := 77) hx hb dX1_aim_67 (by decide) (fun c_19 => ?_) (fun c_19 => ?_)
    · skip
      refine lv_iconst (v := 0) hx hb dX1_aim_77 (by decide) ?_
      refine putX1_mlk hx hb hts hin hown hK hP hD hS (hts _ (mc wd_311)) dX1_aim_78 (fun H locs hP hD hS => ?_)
      refine lv_goto (tgt := 276) hx hb dX1_aim_81 (by decide) ?_
      exact o_retV hx hb hr hlk hK hP hD hS (by rw [← hF, FM_aim, if_pos c_1, if_neg c_19]) dX1_aim_276
    · skip
      refine lv_iload_n hx hb dX1_aim_70 rfl (lv_at hl 4 rfl) ?_
      refine s_call (As := [.int a1]) (rest := [.ref (q 0)]) ⟨hx, hb, hml, hown, hts⟩ (kX1_third l a1) (cwS 1 hts (gS wd_402 wd_403 wd_39 wd_404) rfl rfl rfl (by decide +kernel) ⟨Nat.le_of_ble_eq_true rfl, Nat.le_of_ble_eq_true rfl⟩) hP hS rfl hl.1 rfl (Nat.le_of_ble_eq_true rfl) dX1_aim_71 (fun H locs hP hS => ?_)
      refine lv_goto (tgt := 78) hx hb dX1_aim_74 (by decide) ?_
      refine putX1_mlk hx hb hts hin hown hK hP hD hS (hts _ (mc wd_311)) dX1_aim_78 (fun H locs hP hD hS => ?_)
      refine lv_goto (tgt := 276) hx hb dX1_aim_81 (by decide) ?_
      exact o_retV hx hb hr hlk hK hP hD hS (by rw [← hF, FM_aim, if_pos c_1, if_pos c_19]) dX1_aim_276
set_option maxHeartbeats 4000000 in
set_option maxRecDepth 100000 in
theorem kX1_isText (l : Launch) (D : va_G) (q : Nat → Nat) (cA : Nat → ClassId) (sz : Nat) (σ : SM) (a1 : Int32) : oMet l D vwCl (wM q cA) (tM cA) (q 0) sz yX1_isText wsX1_isText { frames := 0, cells := 0, slots := 0, locals := 0 } σ [.int a1] (FM_isText σ a1, σ) := by
  refine o_met (cc := cX1_isText) (maxL := 2) (ret := some .boolean) (by decide) rfl (Nat.le_of_ble_eq_true rfl) ?_
  intro p e s m args below meth c A ls hx hb hr hml hts hown hlk hP hK hD hA hS hl
  have hl : lv_has ls 2 [(0, .ref (q 0)), (1, .int a1)] := hl
  have hin : ∀ w ∈ wsX10, w ∈ wsX1_isText := fun w h => mc (inX1 w h)
  generalize hF : (FM_isText σ a1, σ) = res
  refine lv_iload_n hx hb dX1_isText_0 rfl (lv_at hl 1 rfl) ?_
  refine lv_ldc (v := 4194304) hx hb hown (hts _ (mc wd_398)) dX1_isText_1 ?_
  refine lv_icmp_lt (tgt := 23) hx hb dX1_isText_3 (by decide) (fun c_1 => ?_) (fun c_1 => ?_)
  · skip
    refine lv_iconst (v := 0) hx hb dX1_isText_23 (by decide) ?_
    exact o_retz hx hb hr hlk hK hP hD hS rfl (by rw [← hF, FM_isText, if_pos c_1]) dX1_isText_24
  · skip
    refine lv_iload_n hx hb dX1_isText_6 rfl (lv_at hl 1 rfl) ?_
    refine lv_ldc (v := 4194304) hx hb hown (hts _ (mc wd_398)) dX1_isText_7 ?_
    refine lv_iconst (v := 4) hx hb dX1_isText_9 (by decide) ?_
    refine lv_aload_n hx hb dX1_isText_10 rfl (lv_at hl 0 rfl) ?_
    refine getX1_msz (v := (gmsz σ)) hx hb hts hin hown hK hP (hts _ (mc wd_296)) dX1_isText_11 rfl ?_
    refine lv_imul hx hb dX1_isText_14 ?_
    refine lv_iadd hx hb dX1_isText_15 ?_
    refine lv_icmp_ge (tgt := 23) hx hb dX1_isText_16 (by decide) (fun c_2 => ?_) (fun c_2 => ?_)
    · skip
      refine lv_iconst (v := 0) hx hb dX1_isText_23 (by decide) ?_
      exact o_retz hx hb hr hlk hK hP hD hS rfl (by rw [← hF, FM_isText, if_neg c_1, if_pos c_2]) dX1_isText_24
    · skip
      refine lv_iconst (v := 1) hx hb dX1_isText_19 (by decide) ?_
      refine lv_goto (tgt := 24) hx hb dX1_isText_20 (by decide) ?_
      exact o_retz hx hb hr hlk hK hP hD hS rfl (by rw [← hF, FM_isText, if_neg c_1, if_neg c_2]) dX1_isText_24
set_option maxHeartbeats 4000000 in
set_option maxRecDepth 100000 in
theorem kX1_shiftOf (l : Launch) (D : va_G) (q : Nat → Nat) (cA : Nat → ClassId) (sz : Nat) (σ : SM) (a1 : Int32) (a2 : Int32) (a3 : Int32) : oMet l D vwCl (wM q cA) (tM cA) (q 0) sz yX1_shiftOf wsX1_shiftOf { frames := 0, cells := 0, slots := 0, locals := 0 } σ [.int a1, .int a2, .int a3] (FM_shiftOf σ a1 a2 a3, σ) := by
  refine o_met (cc := cX1_shiftOf) (maxL := 4) (ret := some .int) (by decide) rfl (Nat.le_of_ble_eq_true rfl) ?_
  intro p e s m args below meth c A ls hx hb hr hml hts hown hlk hP hK hD hA hS hl
  have hl : lv_has ls 4 [(0, .ref (q 0)), (1, .int a1), (2, .int a2), (3, .int a3)] := hl
  have hin : ∀ w ∈ wsX10, w ∈ wsX1_shiftOf := fun w h => mc (inX1 w h)
  generalize hF : (FM_shiftOf σ a1 a2 a3, σ) = res
  refine lv_iload_n hx hb dX1_shiftOf_0 rfl (lv_at hl 1 rfl) ?_
  refine lv_iconst (v := 4) hx hb dX1_shiftOf_1 (by decide) ?_
  refine lv_irem hx hb dX1_shiftOf_2 (by decide) ?_
  refine lv_if_ne (tgt := 12) hx hb dX1_shiftOf_3 (by decide) (fun c_1 => ?_) (fun c_1 => ?_)
  · skip
    refine lv_iload_n hx hb dX1_shiftOf_12 rfl (lv_at hl 1 rfl) ?_
    refine lv_iconst (v := 4) hx hb dX1_shiftOf_13 (by decide) ?_
    refine lv_irem hx hb dX1_shiftOf_14 (by decide) ?_
    refine lv_iconst (v := 2) hx hb dX1_shiftOf_15 (by decide) ?_
    refine lv_icmp_ne (tgt := 25) hx hb dX1_shiftOf_16 (by decide) (fun c_2 => ?_) (fun c_2 => ?_)
    · skip
      refine lv_iload_n hx hb dX1_shiftOf_25 rfl (lv_at hl 2 rfl) ?_
      refine lv_iload_n hx hb dX1_shiftOf_26 rfl (lv_at hl 3 rfl) ?_
      refine lv_ishr hx hb dX1_shiftOf_27 ?_
      exact o_ret hx hb hr hlk hK hP hD hS (by rw [← hF, FM_shiftOf, if_neg c_1, if_neg c_2]) dX1_shiftOf_28
    · skip
      refine lv_iload_n hx hb dX1_shiftOf_19 rfl (lv_at hl 2 rfl) ?_
      refine lv_iload_n hx hb dX1_shiftOf_20 rfl (lv_at hl 3 rfl) ?_
      refine lv_iushr (v := (jushr a2 a3)) hx hb dX1_shiftOf_21 rfl ?_
      refine lv_goto (tgt := 28) hx hb dX1_shiftOf_22 (by decide) ?_
      exact o_ret hx hb hr hlk hK hP hD hS (by rw [← hF, FM_shiftOf, if_neg c_1, if_pos c_2]) dX1_shiftOf_28
  · skip
    refine lv_iload_n hx hb dX1_shiftOf_6 rfl (lv_at hl 2 rfl) ?_
    refine lv_iload_n hx hb dX1_shiftOf_7 rfl (lv_at hl 3 rfl) ?_
    refine lv_ishl hx hb dX1_shiftOf_8 ?_
    refine lv_goto (tgt := 28) hx hb dX1_shiftOf_9 (by decide) ?_
    exact o_ret hx hb hr hlk hK hP hD hS (by rw [← hF, FM_shiftOf, if_pos c_1]) dX1_shiftOf_28
