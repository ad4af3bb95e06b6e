theorem gL {own C : String} {idx : Nat} {y : MethodName} {k : Cond} (h1 : Cond.methodLink own idx y ∈ lw_big) (h2 : Cond.instanceMethod y ∈ lw_big) (h3 : Cond.selects C y y ∈ lw_big) (h4 : Cond.initialized C ∈ lw_big) (h5 : k ∈ lw_big) : GoodIn lw_big (wsV own idx C y (k :: lw_big)) := gVb (fun _ h => h) h1 h2 h3 h4 h5
def JLaw (L n : Nat) (x : Int32) : Prop := 0 ≤ x.toInt ∧ x.toInt ≤ L ∧ (L : Int) + 1 ≤ x.toInt + 3 * n
theorem jl_0 {L : Nat} {x : Int32} (h : JLaw L 0 x) : False := by
  obtain ⟨h1, h2, h3⟩ := h
  omega
theorem jl_sub {L : Nat} (hL : L ≤ 1536) : (Int32.ofNat L - 3).toInt = (L : Int) - 3 := by
  have e1 : (Int32.ofNat L).toInt = (L : Int) := nI_toInt (n := L) (by omega)
  have e3 : (3 : Int32).toInt = 3 := by decide
  rw [ti_sub (by rw [e1, e3]; omega) (by rw [e1, e3]; omega), e1, e3]
theorem jl_add {L n : Nat} {x : Int32} (hL : L ≤ 1536) (h : JLaw L (n + 1) x) (k : Int32) (hk : 0 ≤ k.toInt ∧ k.toInt ≤ 3) : (x + k).toInt = x.toInt + k.toInt := by
  obtain ⟨h1, h2, h3⟩ := h
  exact ti_add (by omega) (by omega)
theorem jl_b {L n : Nat} {x : Int32} (hL : L ≤ 1536) (h : JLaw L (n + 1) x) (hc : ¬ Int32.ofNat L - 3 < x) : JLaw L n (x + 3) := by
  have e := jl_add hL h 3 (by decide)
  rw [ti_lt, jl_sub hL] at hc
  obtain ⟨h1, h2, h3⟩ := h
  rw [show (3 : Int32).toInt = 3 by decide] at e
  exact ⟨by omega, by omega, by omega⟩
theorem jl_in {L n : Nat} {x : Int32} (hL : L ≤ 1536) (h : JLaw L (n + 1) x) (hc : ¬ Int32.ofNat L - 3 < x) (k : Int32) (hk : 0 ≤ k.toInt ∧ k.toInt ≤ 2) : vp_in (x + k) L := by
  have e := jl_add hL h k ⟨hk.1, by omega⟩
  rw [ti_lt, jl_sub hL] at hc
  obtain ⟨h1, h2, h3⟩ := h
  exact vp_in_iff.mpr ⟨by omega, by omega⟩
theorem jl_in0 {L n : Nat} {x : Int32} (hL : L ≤ 1536) (h : JLaw L (n + 1) x) (hc : ¬ Int32.ofNat L - 3 < x) : vp_in x L := by
  have := jl_in hL h hc 0 (by decide)
  rwa [Int32.add_zero] at this
theorem apart_of {A : Nat → Prop} {w1 w2 : va_W} (h : va_D A (w1 ++ w2)) : apart w1 w2 := by
  intro i j p q hp hq e
  have hi : i < w1.length := (List.getElem?_eq_some_iff.mp hp).1
  have h1 : (w1 ++ w2)[i]? = some p := by rw [List.getElem?_append_left hi]; exact hp
  have h2 : (w1 ++ w2)[w1.length + j]? = some q := by rw [List.getElem?_append_right (Nat.le_add_right _ _), Nat.add_sub_cancel_left]; exact hq
  have := h.1 _ _ _ _ h1 h2 e
  omega
set_option maxHeartbeats 4000000 in
set_option maxRecDepth 100000 in
theorem law_loop {p : Program} {l : Launch} {e : Env} {s : State} {m : MethodId} {below : List Frame} {meth : Method} {c : Code} {D : va_G} {q k : Nat → Nat} {cA cB : Nat → ClassId} {b L : Nat} {xs : Nat → Int32} (hL : L ≤ 1536) (C0 : lw_At p s m meth c b L xs) (hKG : va_K D vwCl (tG cA) s) (hKM : va_K D vwCl (tM cB) s) :
    ∀ (n : Nat) (τ : SM) (x3 : Int32), RR τ → JLaw L n x3 → ∀ (H : Heap) (locs : List Loc) (ls : Array Slot), va_P D vwCl (wG q cA (ab τ)) H → va_P D vwCl (wM k cB τ) H → va_D (fun q : Nat => s.heap.size ≤ q) (wG q cA (ab τ)) → va_D (fun q : Nat => s.heap.size ≤ q) (wM k cB τ) → apart (wG q cA (ab τ)) (wM k cB τ) → va_S (fun q : Nat => s.heap.size ≤ q) s.heap H locs → lv_has ls 4 [(0, .ref b), (1, .ref (q 0)), (2, .ref (k 0)), (3, .int x3)] → W p l e room_1 s m #[Value.ref b] below meth c H locs 14 1510 (lw_Z below #[Value.ref b] s) (F0 m 18 ls []) := by
  obtain ⟨hx, hb, hr, hml, hown0, hts0, hX, hbl, hlocks, hgv⟩ := C0
  have hown : s.vm.findClass RL = some m.cls := hown0
  have hts : ∀ w ∈ lw_big, w.before #[Value.ref b] s = true := fun w h => hts0 w (List.mem_filter.mp h).1
  have hA : ∀ q : Nat, s.heap.size ≤ q → (fun q : Nat => s.heap.size ≤ q) q := fun _ h => h
  have hbA : ¬ (fun q : Nat => s.heap.size ≤ q) b := Nat.not_le.mpr hbl
  intro n
  induction n with
  | zero =>
    intro τ x3 hR hJ
    exact absurd hJ jl_0
  | succ n ih =>
    intro τ x3 hR hJ H locs ls hPG hPM hDG hDM hap hS hl
    refine lv_iload_n hx hb dL_law_18 rfl (lv_at hl 3 rfl) ?_
    refine lv_aload_n hx hb dL_law_19 rfl (lv_at hl 0 rfl) ?_
    refine va_slen hx hb hX hbl hbA hS dL_law_20 ?_
    refine lv_iconst (v := 3) hx hb dL_law_21 (by decide) ?_
    refine lv_isub hx hb dL_law_22 ?_
    refine lv_icmp_gt (tgt := 361) hx hb dL_law_23 (by decide) (fun c_1 => ?_) (fun c_1 => ?_)
    · refine lv_iconst (v := 1) hx hb dL_law_361 (by decide) ?_
      refine va_forget (fun q hq => hS.2.2 q hq) ?_
      exact lw_ret hx hb hr hlocks dL_law_362
    · skip
      refine lv_aload_n hx hb dL_law_26 rfl (lv_at hl 0 rfl) ?_
      refine lv_iload_n hx hb dL_law_27 rfl (lv_at hl 3 rfl) ?_
      refine va_sld hx hb hX hbl hbA hS (jl_in0 hL hJ c_1) dL_law_28 ?_
      refine lv_bipush (v := 15) hx hb dL_law_29 (by decide) ?_
      refine lv_iand hx hb dL_law_31 ?_
      generalize xs (Int32.toNatClampNeg x3) &&& (15 : Int32) = sw
      by_cases s_0 : sw = (0 : Int32)
      · skip
        refine lv_tableIn (tgt := 92) hx hb dL_law_32 (by rw [s_0]; decide) (by rw [s_0]; decide) (by rw [s_0]; rfl) (by decide) ?_
        refine lv_aload_n hx hb dL_law_92 rfl (lv_at hl 1 rfl) ?_
        refine lv_aload_n hx hb dL_law_93 rfl (lv_at hl 0 rfl) ?_
        refine lv_iload_n hx hb dL_law_94 rfl (lv_at hl 3 rfl) ?_
        refine lv_iconst (v := 1) hx hb dL_law_95 (by decide) ?_
        refine lv_iadd hx hb dL_law_96 ?_
        refine va_sld hx hb hX hbl hbA hS (jl_in hL hJ c_1 1 (by decide)) dL_law_97 ?_
        refine p_call (As := [.int (xs (Int32.toNatClampNeg (x3 + 1)))]) (rest := []) (res := ev (FM_word τ (xs (Int32.toNatClampNeg (x3 + 1))))) ⟨hx, hb, hml, hown, hts⟩ (by rw [← eq_word hR]; exact kX0_word l D q cA _ (ab τ) (xs (Int32.toNatClampNeg (x3 + 1))) (ig_of hR)) (cwV 1 hts (gL wd_96 wd_97 wd_98 wd_38 wd_99) rfl rfl rfl (by decide +kernel) ⟨Nat.le_of_ble_eq_true rfl, Nat.le_of_ble_eq_true rfl⟩) hKG hPG hPM hDG hap hS hA (va_recv hKG hPG (ci := 0) (q0 := 0) rfl rfl) rfl hl.1 rfl (Nat.le_of_ble_eq_true rfl) dL_law_98 ⟨Nat.le_of_ble_eq_true rfl, Nat.le_of_ble_eq_true rfl⟩ (fun H locs hPG hPM hDG hap hS => ?_)
        have hPG : va_P D vwCl (wG q cA (ab (FM_word τ (xs (Int32.toNatClampNeg (x3 + 1)))).2)) H := hPG
        have hDG : va_D (fun q : Nat => s.heap.size ≤ q) (wG q cA (ab (FM_word τ (xs (Int32.toNatClampNeg (x3 + 1)))).2)) := hDG
        have hap : apart (wG q cA (ab (FM_word τ (xs (Int32.toNatClampNeg (x3 + 1)))).2)) (wM k cB τ) := hap
        refine W.eq (g2 := F0 m 101 ls [.int (FM_word τ (xs (Int32.toNatClampNeg (x3 + 1)))).1]) rfl ?_
        refine lv_aload_n hx hb dL_law_101 rfl (lv_at hl 2 rfl) ?_
        refine lv_aload_n hx hb dL_law_102 rfl (lv_at hl 0 rfl) ?_
        refine lv_iload_n hx hb dL_law_103 rfl (lv_at hl 3 rfl) ?_
        refine lv_iconst (v := 1) hx hb dL_law_104 (by decide) ?_
        refine lv_iadd hx hb dL_law_105 ?_
        refine va_sld hx hb hX hbl hbA hS (jl_in hL hJ c_1 1 (by decide)) dL_law_106 ?_
        refine p_call (As := [.int (xs (Int32.toNatClampNeg (x3 + 1)))]) (rest := [.int (FM_word τ (xs (Int32.toNatClampNeg (x3 + 1)))).1]) (res := (FM_word τ (xs (Int32.toNatClampNeg (x3 + 1))))) ⟨hx, hb, hml, hown, hts⟩ (kX1_word l D k cB _ τ (xs (Int32.toNatClampNeg (x3 + 1))) hR.1) (cwV 1 hts (gL wd_351 wd_352 wd_353 wd_39 wd_354) rfl rfl rfl (by decide +kernel) ⟨Nat.le_of_ble_eq_true rfl, Nat.le_of_ble_eq_true rfl⟩) hKM hPM hPG hDM hap.symm hS hA (va_recv hKM hPM (ci := 1) (q0 := 0) rfl rfl) rfl hl.1 rfl (Nat.le_of_ble_eq_true rfl) dL_law_107 ⟨Nat.le_of_ble_eq_true rfl, Nat.le_of_ble_eq_true rfl⟩ (fun H locs hPM hPG hDM hap hS => ?_)
        have hap := hap.symm
        refine lv_icmp_eq (tgt := 355) hx hb dL_law_110 (by decide) (fun _ => ?_) (fun c0 => absurd rfl c0)
        refine lv_iinc (v := (x3 + 3)) (lv' := [(3, .int (x3 + 3)), (0, .ref b), (1, .ref (q 0)), (2, .ref (k 0))]) hx hb dL_law_355 hl (k := 3) rfl rfl (by decide) rfl (fun ls hl => ?_)
        refine lv_goto (tgt := 18) hx hb dL_law_358 (by decide) ?_
        exact ih (FM_word τ (xs (Int32.toNatClampNeg (x3 + 1)))).2 (x3 + 3) (rr_word hR) (jl_b hL hJ c_1) _ _ _ hPG hPM hDG hDM hap hS (lv_sub hl [1, 2, 3, 0] rfl)
      · skip
        by_cases s_1 : sw = (1 : Int32)
        · skip
          refine lv_tableIn (tgt := 115) hx hb dL_law_32 (by rw [s_1]; decide) (by rw [s_1]; decide) (by rw [s_1]; rfl) (by decide) ?_
          refine lv_aload_n hx hb dL_law_115 rfl (lv_at hl 1 rfl) ?_
          refine lv_aload_n hx hb dL_law_116 rfl (lv_at hl 0 rfl) ?_
          refine lv_iload_n hx hb dL_law_117 rfl (lv_at hl 3 rfl) ?_
          refine lv_iconst (v := 1) hx hb dL_law_118 (by decide) ?_
          refine lv_iadd hx hb dL_law_119 ?_
          refine va_sld hx hb hX hbl hbA hS (jl_in hL hJ c_1 1 (by decide)) dL_law_120 ?_
          refine lv_aload_n hx hb dL_law_121 rfl (lv_at hl 0 rfl) ?_
          refine lv_iload_n hx hb dL_law_122 rfl (lv_at hl 3 rfl) ?_
          refine lv_iconst (v := 2) hx hb dL_law_123 (by decide) ?_
          refine lv_iadd hx hb dL_law_124 ?_
          refine va_sld hx hb hX hbl hbA hS (jl_in hL hJ c_1 2 (by decide)) dL_law_125 ?_
          refine p_call (As := [.int (xs (Int32.toNatClampNeg (x3 + 1))), .int (xs (Int32.toNatClampNeg (x3 + 2)))]) (rest := []) (res := ev (FM_set τ (xs (Int32.toNatClampNeg (x3 + 1))) (xs (Int32.toNatClampNeg (x3 + 2))))) ⟨hx, hb, hml, hown, hts⟩ (by rw [← eq_set hR]; exact kX0_set l D q cA _ (ab τ) (xs (Int32.toNatClampNeg (x3 + 1))) (xs (Int32.toNatClampNeg (x3 + 2))) (ig_of hR)) (cwV 2 hts (gL wd_100 wd_101 wd_102 wd_38 wd_103) rfl rfl rfl (by decide +kernel) ⟨Nat.le_of_ble_eq_true rfl, Nat.le_of_ble_eq_true rfl⟩) hKG hPG hPM hDG hap hS hA (va_recv hKG hPG (ci := 0) (q0 := 0) rfl rfl) rfl hl.1 rfl (Nat.le_of_ble_eq_true rfl) dL_law_126 ⟨Nat.le_of_ble_eq_true rfl, Nat.le_of_ble_eq_true rfl⟩ (fun H locs hPG hPM hDG hap hS => ?_)
          have hPG : va_P D vwCl (wG q cA (ab (FM_set τ (xs (Int32.toNatClampNeg (x3 + 1))) (xs (Int32.toNatClampNeg (x3 + 2)))).2)) H := hPG
          have hDG : va_D (fun q : Nat => s.heap.size ≤ q) (wG q cA (ab (FM_set τ (xs (Int32.toNatClampNeg (x3 + 1))) (xs (Int32.toNatClampNeg (x3 + 2)))).2)) := hDG
          have hap : apart (wG q cA (ab (FM_set τ (xs (Int32.toNatClampNeg (x3 + 1))) (xs (Int32.toNatClampNeg (x3 + 2)))).2)) (wM k cB τ) := hap
          refine W.eq (g2 := F0 m 129 ls [.int (FM_set τ (xs (Int32.toNatClampNeg (x3 + 1))) (xs (Int32.toNatClampNeg (x3 + 2)))).1]) rfl ?_
          refine lv_aload_n hx hb dL_law_129 rfl (lv_at hl 2 rfl) ?_
          refine lv_aload_n hx hb dL_law_130 rfl (lv_at hl 0 rfl) ?_
          refine lv_iload_n hx hb dL_law_131 rfl (lv_at hl 3 rfl) ?_
          refine lv_iconst (v := 1) hx hb dL_law_132 (by decide) ?_
          refine lv_iadd hx hb dL_law_133 ?_
          refine va_sld hx hb hX hbl hbA hS (jl_in hL hJ c_1 1 (by decide)) dL_law_134 ?_
          refine lv_aload_n hx hb dL_law_135 rfl (lv_at hl 0 rfl) ?_
          refine lv_iload_n hx hb dL_law_136 rfl (lv_at hl 3 rfl) ?_
          refine lv_iconst (v := 2) hx hb dL_law_137 (by decide) ?_
          refine lv_iadd hx hb dL_law_138 ?_
          refine va_sld hx hb hX hbl hbA hS (jl_in hL hJ c_1 2 (by decide)) dL_law_139 ?_
          refine p_call (As := [.int (xs (Int32.toNatClampNeg (x3 + 1))), .int (xs (Int32.toNatClampNeg (x3 + 2)))]) (rest := [.int (FM_set τ (xs (Int32.toNatClampNeg (x3 + 1))) (xs (Int32.toNatClampNeg (x3 + 2)))).1]) (res := (FM_set τ (xs (Int32.toNatClampNeg (x3 + 1))) (xs (Int32.toNatClampNeg (x3 + 2))))) ⟨hx, hb, hml, hown, hts⟩ (kX1_set l D k cB _ τ (xs (Int32.toNatClampNeg (x3 + 1))) (xs (Int32.toNatClampNeg (x3 + 2))) hR.1) (cwV 2 hts (gL wd_355 wd_356 wd_357 wd_39 wd_358) rfl rfl rfl (by decide +kernel) ⟨Nat.le_of_ble_eq_true rfl, Nat.le_of_ble_eq_true rfl⟩) hKM hPM hPG hDM hap.symm hS hA (va_recv hKM hPM (ci := 1) (q0 := 0) rfl rfl) rfl hl.1 rfl (Nat.le_of_ble_eq_true rfl) dL_law_140 ⟨Nat.le_of_ble_eq_true rfl, Nat.le_of_ble_eq_true rfl⟩ (fun H locs hPM hPG hDM hap hS => ?_)
          have hap := hap.symm
          refine lv_icmp_eq (tgt := 355) hx hb dL_law_143 (by decide) (fun _ => ?_) (fun c0 => absurd rfl c0)
          refine lv_iinc (v := (x3 + 3)) (lv' := [(3, .int (x3 + 3)), (0, .ref b), (1, .ref (q 0)), (2, .ref (k 0))]) hx hb dL_law_355 hl (k := 3) rfl rfl (by decide) rfl (fun ls hl => ?_)
          refine lv_goto (tgt := 18) hx hb dL_law_358 (by decide) ?_
          exact ih (FM_set τ (xs (Int32.toNatClampNeg (x3 + 1))) (xs (Int32.toNatClampNeg (x3 + 2)))).2 (x3 + 3) (rr_set hR) (jl_b hL hJ c_1) _ _ _ hPG hPM hDG hDM hap hS (lv_sub hl [1, 2, 3, 0] rfl)
        · skip
          by_cases s_2 : sw = (2 : Int32)
          · skip
            refine lv_tableIn (tgt := 148) hx hb dL_law_32 (by rw [s_2]; decide) (by rw [s_2]; decide) (by rw [s_2]; rfl) (by decide) ?_
            refine lv_aload_n hx hb dL_law_148 rfl (lv_at hl 1 rfl) ?_
            refine lv_aload_n hx hb dL_law_149 rfl (lv_at hl 0 rfl) ?_
            refine lv_iload_n hx hb dL_law_150 rfl (lv_at hl 3 rfl) ?_
            refine lv_iconst (v := 1) hx hb dL_law_151 (by decide) ?_
            refine lv_iadd hx hb dL_law_152 ?_
            refine va_sld hx hb hX hbl hbA hS (jl_in hL hJ c_1 1 (by decide)) dL_law_153 ?_
            refine p_call (As := [.int (xs (Int32.toNatClampNeg (x3 + 1)))]) (rest := []) (res := ev (FM_input τ (xs (Int32.toNatClampNeg (x3 + 1))))) ⟨hx, hb, hml, hown, hts⟩ (by rw [← eq_input hR]; exact kX0_input l D q cA _ (ab τ) (xs (Int32.toNatClampNeg (x3 + 1))) (ig_of hR)) (cwV 1 hts (gL wd_104 wd_105 wd_106 wd_38 wd_107) rfl rfl rfl (by decide +kernel) ⟨Nat.le_of_ble_eq_true rfl, Nat.le_of_ble_eq_true rfl⟩) hKG hPG hPM hDG hap hS hA (va_recv hKG hPG (ci := 0) (q0 := 0) rfl rfl) rfl hl.1 rfl (Nat.le_of_ble_eq_true rfl) dL_law_154 ⟨Nat.le_of_ble_eq_true rfl, Nat.le_of_ble_eq_true rfl⟩ (fun H locs hPG hPM hDG hap hS => ?_)
            have hPG : va_P D vwCl (wG q cA (ab (FM_input τ (xs (Int32.toNatClampNeg (x3 + 1)))).2)) H := hPG
            have hDG : va_D (fun q : Nat => s.heap.size ≤ q) (wG q cA (ab (FM_input τ (xs (Int32.toNatClampNeg (x3 + 1)))).2)) := hDG
            have hap : apart (wG q cA (ab (FM_input τ (xs (Int32.toNatClampNeg (x3 + 1)))).2)) (wM k cB τ) := hap
            refine W.eq (g2 := F0 m 157 ls [.int (FM_input τ (xs (Int32.toNatClampNeg (x3 + 1)))).1]) rfl ?_
            refine lv_aload_n hx hb dL_law_157 rfl (lv_at hl 2 rfl) ?_
            refine lv_aload_n hx hb dL_law_158 rfl (lv_at hl 0 rfl) ?_
            refine lv_iload_n hx hb dL_law_159 rfl (lv_at hl 3 rfl) ?_
            refine lv_iconst (v := 1) hx hb dL_law_160 (by decide) ?_
            refine lv_iadd hx hb dL_law_161 ?_
            refine va_sld hx hb hX hbl hbA hS (jl_in hL hJ c_1 1 (by decide)) dL_law_162 ?_
            refine p_call (As := [.int (xs (Int32.toNatClampNeg (x3 + 1)))]) (rest := [.int (FM_input τ (xs (Int32.toNatClampNeg (x3 + 1)))).1]) (res := (FM_input τ (xs (Int32.toNatClampNeg (x3 + 1))))) ⟨hx, hb, hml, hown, hts⟩ (kX1_input l D k cB _ τ (xs (Int32.toNatClampNeg (x3 + 1))) hR.1) (cwV 1 hts (gL wd_359 wd_360 wd_361 wd_39 wd_362) rfl rfl rfl (by decide +kernel) ⟨Nat.le_of_ble_eq_true rfl, Nat.le_of_ble_eq_true rfl⟩) hKM hPM hPG hDM hap.symm hS hA (va_recv hKM hPM (ci := 1) (q0 := 0) rfl rfl) rfl hl.1 rfl (Nat.le_of_ble_eq_true rfl) dL_law_163 ⟨Nat.le_of_ble_eq_true rfl, Nat.le_of_ble_eq_true rfl⟩ (fun H locs hPM hPG hDM hap hS => ?_)
            have hap := hap.symm
            refine lv_icmp_eq (tgt := 355) hx hb dL_law_166 (by decide) (fun _ => ?_) (fun c0 => absurd rfl c0)
            refine lv_iinc (v := (x3 + 3)) (lv' := [(3, .int (x3 + 3)), (0, .ref b), (1, .ref (q 0)), (2, .ref (k 0))]) hx hb dL_law_355 hl (k := 3) rfl rfl (by decide) rfl (fun ls hl => ?_)
            refine lv_goto (tgt := 18) hx hb dL_law_358 (by decide) ?_
            exact ih (FM_input τ (xs (Int32.toNatClampNeg (x3 + 1)))).2 (x3 + 3) (rr_input hR) (jl_b hL hJ c_1) _ _ _ hPG hPM hDG hDM hap hS (lv_sub hl [1, 2, 3, 0] rfl)
          · skip
            by_cases s_3 : sw = (3 : Int32)
            · skip
              refine lv_tableIn (tgt := 171) hx hb dL_law_32 (by rw [s_3]; decide) (by rw [s_3]; decide) (by rw [s_3]; rfl) (by decide) ?_
              refine lv_aload_n hx hb dL_law_171 rfl (lv_at hl 1 rfl) ?_
              refine lv_aload_n hx hb dL_law_172 rfl (lv_at hl 0 rfl) ?_
              refine lv_iload_n hx hb dL_law_173 rfl (lv_at hl 3 rfl) ?_
              refine lv_iconst (v := 1) hx hb dL_law_174 (by decide) ?_
              refine lv_iadd hx hb dL_law_175 ?_
              refine va_sld hx hb hX hbl hbA hS (jl_in hL hJ c_1 1 (by decide)) dL_law_176 ?_
              refine lv_aload_n hx hb dL_law_177 rfl (lv_at hl 0 rfl) ?_
              refine lv_iload_n hx hb dL_law_178 rfl (lv_at hl 3 rfl) ?_
              refine lv_iconst (v := 2) hx hb dL_law_179 (by decide) ?_
              refine lv_iadd hx hb dL_law_180 ?_
              refine va_sld hx hb hX hbl hbA hS (jl_in hL hJ c_1 2 (by decide)) dL_law_181 ?_
              refine p_call (As := [.int (xs (Int32.toNatClampNeg (x3 + 1))), .int (xs (Int32.toNatClampNeg (x3 + 2)))]) (rest := []) (res := ev (FM_data τ (xs (Int32.toNatClampNeg (x3 + 1))) (xs (Int32.toNatClampNeg (x3 + 2))))) ⟨hx, hb, hml, hown, hts⟩ (by rw [← eq_data hR]; exact kX0_data l D q cA _ (ab τ) (xs (Int32.toNatClampNeg (x3 + 1))) (xs (Int32.toNatClampNeg (x3 + 2)))) (cwV 2 hts (gL wd_111 wd_112 wd_113 wd_38 wd_114) rfl rfl rfl (by decide +kernel) ⟨Nat.le_of_ble_eq_true rfl, Nat.le_of_ble_eq_true rfl⟩) hKG hPG hPM hDG hap hS hA (va_recv hKG hPG (ci := 0) (q0 := 0) rfl rfl) rfl hl.1 rfl (Nat.le_of_ble_eq_true rfl) dL_law_182 ⟨Nat.le_of_ble_eq_true rfl, Nat.le_of_ble_eq_true rfl⟩ (fun H locs hPG hPM hDG hap hS => ?_)
              have hPG : va_P D vwCl (wG q cA (ab (FM_data τ (xs (Int32.toNatClampNeg (x3 + 1))) (xs (Int32.toNatClampNeg (x3 + 2)))).2)) H := hPG
              have hDG : va_D (fun q : Nat => s.heap.size ≤ q) (wG q cA (ab (FM_data τ (xs (Int32.toNatClampNeg (x3 + 1))) (xs (Int32.toNatClampNeg (x3 + 2)))).2)) := hDG
              have hap : apart (wG q cA (ab (FM_data τ (xs (Int32.toNatClampNeg (x3 + 1))) (xs (Int32.toNatClampNeg (x3 + 2)))).2)) (wM k cB τ) := hap
              refine W.eq (g2 := F0 m 185 ls [.int (FM_data τ (xs (Int32.toNatClampNeg (x3 + 1))) (xs (Int32.toNatClampNeg (x3 + 2)))).1]) rfl ?_
              refine lv_aload_n hx hb dL_law_185 rfl (lv_at hl 2 rfl) ?_
              refine lv_aload_n hx hb dL_law_186 rfl (lv_at hl 0 rfl) ?_
              refine lv_iload_n hx hb dL_law_187 rfl (lv_at hl 3 rfl) ?_
              refine lv_iconst (v := 1) hx hb dL_law_188 (by decide) ?_
              refine lv_iadd hx hb dL_law_189 ?_
              refine va_sld hx hb hX hbl hbA hS (jl_in hL hJ c_1 1 (by decide)) dL_law_190 ?_
              refine lv_aload_n hx hb dL_law_191 rfl (lv_at hl 0 rfl) ?_
              refine lv_iload_n hx hb dL_law_192 rfl (lv_at hl 3 rfl) ?_
              refine lv_iconst (v := 2) hx hb dL_law_193 (by decide) ?_
              refine lv_iadd hx hb dL_law_194 ?_
              refine va_sld hx hb hX hbl hbA hS (jl_in hL hJ c_1 2 (by decide)) dL_law_195 ?_
              refine p_call (As := [.int (xs (Int32.toNatClampNeg (x3 + 1))), .int (xs (Int32.toNatClampNeg (x3 + 2)))]) (rest := [.int (FM_data τ (xs (Int32.toNatClampNeg (x3 + 1))) (xs (Int32.toNatClampNeg (x3 + 2)))).1]) (res := (FM_data τ (xs (Int32.toNatClampNeg (x3 + 1))) (xs (Int32.toNatClampNeg (x3 + 2))))) ⟨hx, hb, hml, hown, hts⟩ (kX1_data l D k cB _ τ (xs (Int32.toNatClampNeg (x3 + 1))) (xs (Int32.toNatClampNeg (x3 + 2)))) (cwV 2 hts (gL wd_363 wd_364 wd_365 wd_39 wd_366) rfl rfl rfl (by decide +kernel) ⟨Nat.le_of_ble_eq_true rfl, Nat.le_of_ble_eq_true rfl⟩) hKM hPM hPG hDM hap.symm hS hA (va_recv hKM hPM (ci := 1) (q0 := 0) rfl rfl) rfl hl.1 rfl (Nat.le_of_ble_eq_true rfl) dL_law_196 ⟨Nat.le_of_ble_eq_true rfl, Nat.le_of_ble_eq_true rfl⟩ (fun H locs hPM hPG hDM hap hS => ?_)
              have hap := hap.symm
              refine lv_icmp_eq (tgt := 355) hx hb dL_law_199 (by decide) (fun _ => ?_) (fun c0 => absurd rfl c0)
              refine lv_iinc (v := (x3 + 3)) (lv' := [(3, .int (x3 + 3)), (0, .ref b), (1, .ref (q 0)), (2, .ref (k 0))]) hx hb dL_law_355 hl (k := 3) rfl rfl (by decide) rfl (fun ls hl => ?_)
              refine lv_goto (tgt := 18) hx hb dL_law_358 (by decide) ?_
              exact ih (FM_data τ (xs (Int32.toNatClampNeg (x3 + 1))) (xs (Int32.toNatClampNeg (x3 + 2)))).2 (x3 + 3) (rr_data hR) (jl_b hL hJ c_1) _ _ _ hPG hPM hDG hDM hap hS (lv_sub hl [1, 2, 3, 0] rfl)
            · skip
              by_cases s_4 : sw = (4 : Int32)
              · skip
                refine lv_tableIn (tgt := 204) hx hb dL_law_32 (by rw [s_4]; decide) (by rw [s_4]; decide) (by rw [s_4]; rfl) (by decide) ?_
                refine lv_aload_n hx hb dL_law_204 rfl (lv_at hl 1 rfl) ?_
                refine p_call (As := []) (rest := []) (res := ev (FM_begin τ)) ⟨hx, hb, hml, hown, hts⟩ (by rw [← eq_begin hR]; exact kX0_begin l D q cA _ (ab τ) (ig_of hR)) (cwV 0 hts (gL wd_118 wd_119 wd_120 wd_38 wd_121) rfl rfl rfl (by decide +kernel) ⟨Nat.le_of_ble_eq_true rfl, Nat.le_of_ble_eq_true rfl⟩) hKG hPG hPM hDG hap hS hA (va_recv hKG hPG (ci := 0) (q0 := 0) rfl rfl) rfl hl.1 rfl (Nat.le_of_ble_eq_true rfl) dL_law_205 ⟨Nat.le_of_ble_eq_true rfl, Nat.le_of_ble_eq_true rfl⟩ (fun H locs hPG hPM hDG hap hS => ?_)
                have hPG : va_P D vwCl (wG q cA (ab (FM_begin τ).2)) H := hPG
                have hDG : va_D (fun q : Nat => s.heap.size ≤ q) (wG q cA (ab (FM_begin τ).2)) := hDG
                have hap : apart (wG q cA (ab (FM_begin τ).2)) (wM k cB τ) := hap
                refine W.eq (g2 := F0 m 208 ls [.int (FM_begin τ).1]) rfl ?_
                refine lv_aload_n hx hb dL_law_208 rfl (lv_at hl 2 rfl) ?_
                refine p_call (As := []) (rest := [.int (FM_begin τ).1]) (res := (FM_begin τ)) ⟨hx, hb, hml, hown, hts⟩ (kX1_begin l D k cB _ τ hR.1) (cwV 0 hts (gL wd_367 wd_368 wd_369 wd_39 wd_370) rfl rfl rfl (by decide +kernel) ⟨Nat.le_of_ble_eq_true rfl, Nat.le_of_ble_eq_true rfl⟩) hKM hPM hPG hDM hap.symm hS hA (va_recv hKM hPM (ci := 1) (q0 := 0) rfl rfl) rfl hl.1 rfl (Nat.le_of_ble_eq_true rfl) dL_law_209 ⟨Nat.le_of_ble_eq_true rfl, Nat.le_of_ble_eq_true rfl⟩ (fun H locs hPM hPG hDM hap hS => ?_)
                have hap := hap.symm
                refine lv_icmp_eq (tgt := 355) hx hb dL_law_212 (by decide) (fun _ => ?_) (fun c0 => absurd rfl c0)
                refine lv_iinc (v := (x3 + 3)) (lv' := [(3, .int (x3 + 3)), (0, .ref b), (1, .ref (q 0)), (2, .ref (k 0))]) hx hb dL_law_355 hl (k := 3) rfl rfl (by decide) rfl (fun ls hl => ?_)
                refine lv_goto (tgt := 18) hx hb dL_law_358 (by decide) ?_
                exact ih (FM_begin τ).2 (x3 + 3) (rr_begin hR) (jl_b hL hJ c_1) _ _ _ hPG hPM hDG hDM hap hS (lv_sub hl [1, 2, 3, 0] rfl)
              · skip
                by_cases s_5 : sw = (5 : Int32)
                · skip
                  refine lv_tableIn (tgt := 217) hx hb dL_law_32 (by rw [s_5]; decide) (by rw [s_5]; decide) (by rw [s_5]; rfl) (by decide) ?_
                  refine lv_aload_n hx hb dL_law_217 rfl (lv_at hl 1 rfl) ?_
                  refine lv_aload_n hx hb dL_law_218 rfl (lv_at hl 0 rfl) ?_
                  refine lv_iload_n hx hb dL_law_219 rfl (lv_at hl 3 rfl) ?_
                  refine lv_iconst (v := 1) hx hb dL_law_220 (by decide) ?_
                  refine lv_iadd hx hb dL_law_221 ?_
                  refine va_sld hx hb hX hbl hbA hS (jl_in hL hJ c_1 1 (by decide)) dL_law_222 ?_
                  refine p_call (As := [.int (xs (Int32.toNatClampNeg (x3 + 1)))]) (rest := []) (res := ev (FM_run τ (xs (Int32.toNatClampNeg (x3 + 1))))) ⟨hx, hb, hml, hown, hts⟩ (by rw [← eq_run hR]; exact kX0_run l D q cA _ (ab τ) (xs (Int32.toNatClampNeg (x3 + 1))) (ig_of hR)) (cwV 1 hts (gL wd_122 wd_123 wd_124 wd_38 wd_125) rfl rfl rfl (by decide +kernel) ⟨Nat.le_of_ble_eq_true rfl, Nat.le_of_ble_eq_true rfl⟩) hKG hPG hPM hDG hap hS hA (va_recv hKG hPG (ci := 0) (q0 := 0) rfl rfl) rfl hl.1 rfl (Nat.le_of_ble_eq_true rfl) dL_law_223 ⟨Nat.le_of_ble_eq_true rfl, Nat.le_of_ble_eq_true rfl⟩ (fun H locs hPG hPM hDG hap hS => ?_)
                  have hPG : va_P D vwCl (wG q cA (ab (FM_run τ (xs (Int32.toNatClampNeg (x3 + 1)))).2)) H := hPG
                  have hDG : va_D (fun q : Nat => s.heap.size ≤ q) (wG q cA (ab (FM_run τ (xs (Int32.toNatClampNeg (x3 + 1)))).2)) := hDG
                  have hap : apart (wG q cA (ab (FM_run τ (xs (Int32.toNatClampNeg (x3 + 1)))).2)) (wM k cB τ) := hap
                  refine W.eq (g2 := F0 m 226 ls [.int (FM_run τ (xs (Int32.toNatClampNeg (x3 + 1)))).1]) rfl ?_
                  refine lv_aload_n hx hb dL_law_226 rfl (lv_at hl 2 rfl) ?_
                  refine lv_aload_n hx hb dL_law_227 rfl (lv_at hl 0 rfl) ?_
                  refine lv_iload_n hx hb dL_law_228 rfl (lv_at hl 3 rfl) ?_
                  refine lv_iconst (v := 1) hx hb dL_law_229 (by decide) ?_
                  refine lv_iadd hx hb dL_law_230 ?_
                  refine va_sld hx hb hX hbl hbA hS (jl_in hL hJ c_1 1 (by decide)) dL_law_231 ?_
                  refine p_call (As := [.int (xs (Int32.toNatClampNeg (x3 + 1)))]) (rest := [.int (FM_run τ (xs (Int32.toNatClampNeg (x3 + 1)))).1]) (res := (FM_run τ (xs (Int32.toNatClampNeg (x3 + 1))))) ⟨hx, hb, hml, hown, hts⟩ (kX1_run l D k cB _ τ (xs (Int32.toNatClampNeg (x3 + 1))) hR.1) (cwV 1 hts (gL wd_371 wd_372 wd_373 wd_39 wd_374) rfl rfl rfl (by decide +kernel) ⟨Nat.le_of_ble_eq_true rfl, Nat.le_of_ble_eq_true rfl⟩) hKM hPM hPG hDM hap.symm hS hA (va_recv hKM hPM (ci := 1) (q0 := 0) rfl rfl) rfl hl.1 rfl (Nat.le_of_ble_eq_true rfl) dL_law_232 ⟨Nat.le_of_ble_eq_true rfl, Nat.le_of_ble_eq_true rfl⟩ (fun H locs hPM hPG hDM hap hS => ?_)
                  have hap := hap.symm
                  refine lv_icmp_eq (tgt := 355) hx hb dL_law_235 (by decide) (fun _ => ?_) (fun c0 => absurd rfl c0)
                  refine lv_iinc (v := (x3 + 3)) (lv' := [(3, .int (x3 + 3)), (0, .ref b), (1, .ref (q 0)), (2, .ref (k 0))]) hx hb dL_law_355 hl (k := 3) rfl rfl (by decide) rfl (fun ls hl => ?_)
                  refine lv_goto (tgt := 18) hx hb dL_law_358 (by decide) ?_
                  exact ih (FM_run τ (xs (Int32.toNatClampNeg (x3 + 1)))).2 (x3 + 3) (rr_run hR) (jl_b hL hJ c_1) _ _ _ hPG hPM hDG hDM hap hS (lv_sub hl [1, 2, 3, 0] rfl)
                · skip
                  by_cases s_6 : sw = (6 : Int32)
                  · skip
                    refine lv_tableIn (tgt := 240) hx hb dL_law_32 (by rw [s_6]; decide) (by rw [s_6]; decide) (by rw [s_6]; rfl) (by decide) ?_
                    refine lv_aload_n hx hb dL_law_240 rfl (lv_at hl 1 rfl) ?_
                    refine lv_aload_n hx hb dL_law_241 rfl (lv_at hl 0 rfl) ?_
                    refine lv_iload_n hx hb dL_law_242 rfl (lv_at hl 3 rfl) ?_
                    refine lv_iconst (v := 1) hx hb dL_law_243 (by decide) ?_
                    refine lv_iadd hx hb dL_law_244 ?_
                    refine va_sld hx hb hX hbl hbA hS (jl_in hL hJ c_1 1 (by decide)) dL_law_245 ?_
                    refine p_call (As := [.int (xs (Int32.toNatClampNeg (x3 + 1)))]) (rest := []) (res := ev (FM_register τ (xs (Int32.toNatClampNeg (x3 + 1))), τ)) ⟨hx, hb, hml, hown, hts⟩ (by rw [← eq_register hR]; exact kX0_register l D q cA _ (ab τ) (xs (Int32.toNatClampNeg (x3 + 1)))) (cwV 1 hts (gL wd_266 wd_267 wd_268 wd_38 wd_269) rfl rfl rfl (by decide +kernel) ⟨Nat.le_of_ble_eq_true rfl, Nat.le_of_ble_eq_true rfl⟩) hKG hPG hPM hDG hap hS hA (va_recv hKG hPG (ci := 0) (q0 := 0) rfl rfl) rfl hl.1 rfl (Nat.le_of_ble_eq_true rfl) dL_law_246 ⟨Nat.le_of_ble_eq_true rfl, Nat.le_of_ble_eq_true rfl⟩ (fun H locs hPG hPM hDG hap hS => ?_)
                    have hPG : va_P D vwCl (wG q cA (ab (FM_register τ (xs (Int32.toNatClampNeg (x3 + 1))), τ).2)) H := hPG
                    have hDG : va_D (fun q : Nat => s.heap.size ≤ q) (wG q cA (ab (FM_register τ (xs (Int32.toNatClampNeg (x3 + 1))), τ).2)) := hDG
                    have hap : apart (wG q cA (ab (FM_register τ (xs (Int32.toNatClampNeg (x3 + 1))), τ).2)) (wM k cB τ) := hap
                    refine W.eq (g2 := F0 m 249 ls [.int (FM_register τ (xs (Int32.toNatClampNeg (x3 + 1))), τ).1]) rfl ?_
                    refine lv_aload_n hx hb dL_law_249 rfl (lv_at hl 2 rfl) ?_
                    refine lv_aload_n hx hb dL_law_250 rfl (lv_at hl 0 rfl) ?_
                    refine lv_iload_n hx hb dL_law_251 rfl (lv_at hl 3 rfl) ?_
                    refine lv_iconst (v := 1) hx hb dL_law_252 (by decide) ?_
                    refine lv_iadd hx hb dL_law_253 ?_
                    refine va_sld hx hb hX hbl hbA hS (jl_in hL hJ c_1 1 (by decide)) dL_law_254 ?_
                    refine p_call (As := [.int (xs (Int32.toNatClampNeg (x3 + 1)))]) (rest := [.int (FM_register τ (xs (Int32.toNatClampNeg (x3 + 1))), τ).1]) (res := (FM_register τ (xs (Int32.toNatClampNeg (x3 + 1))), τ)) ⟨hx, hb, hml, hown, hts⟩ (kX1_register l D k cB _ τ (xs (Int32.toNatClampNeg (x3 + 1)))) (cwV 1 hts (gL wd_459 wd_460 wd_461 wd_39 wd_462) rfl rfl rfl (by decide +kernel) ⟨Nat.le_of_ble_eq_true rfl, Nat.le_of_ble_eq_true rfl⟩) hKM hPM hPG hDM hap.symm hS hA (va_recv hKM hPM (ci := 1) (q0 := 0) rfl rfl) rfl hl.1 rfl (Nat.le_of_ble_eq_true rfl) dL_law_255 ⟨Nat.le_of_ble_eq_true rfl, Nat.le_of_ble_eq_true rfl⟩ (fun H locs hPM hPG hDM hap hS => ?_)
                    have hap := hap.symm
                    refine lv_icmp_eq (tgt := 355) hx hb dL_law_258 (by decide) (fun _ => ?_) (fun c0 => absurd rfl c0)
                    refine lv_iinc (v := (x3 + 3)) (lv' := [(3, .int (x3 + 3)), (0, .ref b), (1, .ref (q 0)), (2, .ref (k 0))]) hx hb dL_law_355 hl (k := 3) rfl rfl (by decide) rfl (fun ls hl => ?_)
                    refine lv_goto (tgt := 18) hx hb dL_law_358 (by decide) ?_
                    exact ih τ (x3 + 3) hR (jl_b hL hJ c_1) _ _ _ hPG hPM hDG hDM hap hS (lv_sub hl [1, 2, 3, 0] rfl)
                  · skip
                    by_cases s_7 : sw = (7 : Int32)
                    · skip
                      refine lv_tableIn (tgt := 263) hx hb dL_law_32 (by rw [s_7]; decide) (by rw [s_7]; decide) (by rw [s_7]; rfl) (by decide) ?_
                      refine lv_aload_n hx hb dL_law_263 rfl (lv_at hl 1 rfl) ?_
                      refine lv_aload_n hx hb dL_law_264 rfl (lv_at hl 0 rfl) ?_
                      refine lv_iload_n hx hb dL_law_265 rfl (lv_at hl 3 rfl) ?_
                      refine lv_iconst (v := 1) hx hb dL_law_266 (by decide) ?_
                      refine lv_iadd hx hb dL_law_267 ?_
                      refine va_sld hx hb hX hbl hbA hS (jl_in hL hJ c_1 1 (by decide)) dL_law_268 ?_
                      refine lv_aload_n hx hb dL_law_269 rfl (lv_at hl 0 rfl) ?_
                      refine lv_iload_n hx hb dL_law_270 rfl (lv_at hl 3 rfl) ?_
                      refine lv_iconst (v := 2) hx hb dL_law_271 (by decide) ?_
                      refine lv_iadd hx hb dL_law_272 ?_
                      refine va_sld hx hb hX hbl hbA hS (jl_in hL hJ c_1 2 (by decide)) dL_law_273 ?_
                      refine p_call (As := [.int (xs (Int32.toNatClampNeg (x3 + 1))), .int (xs (Int32.toNatClampNeg (x3 + 2)))]) (rest := []) (res := ev (FM_give τ (xs (Int32.toNatClampNeg (x3 + 1))) (xs (Int32.toNatClampNeg (x3 + 2))))) ⟨hx, hb, hml, hown, hts⟩ (by rw [← eq_give hR]; exact kX0_give l D q cA _ (ab τ) (xs (Int32.toNatClampNeg (x3 + 1))) (xs (Int32.toNatClampNeg (x3 + 2)))) (cwV 2 hts (gL wd_270 wd_271 wd_272 wd_38 wd_273) rfl rfl rfl (by decide +kernel) ⟨Nat.le_of_ble_eq_true rfl, Nat.le_of_ble_eq_true rfl⟩) hKG hPG hPM hDG hap hS hA (va_recv hKG hPG (ci := 0) (q0 := 0) rfl rfl) rfl hl.1 rfl (Nat.le_of_ble_eq_true rfl) dL_law_274 ⟨Nat.le_of_ble_eq_true rfl, Nat.le_of_ble_eq_true rfl⟩ (fun H locs hPG hPM hDG hap hS => ?_)
                      have hPG : va_P D vwCl (wG q cA (ab (FM_give τ (xs (Int32.toNatClampNeg (x3 + 1))) (xs (Int32.toNatClampNeg (x3 + 2)))).2)) H := hPG
                      have hDG : va_D (fun q : Nat => s.heap.size ≤ q) (wG q cA (ab (FM_give τ (xs (Int32.toNatClampNeg (x3 + 1))) (xs (Int32.toNatClampNeg (x3 + 2)))).2)) := hDG
                      have hap : apart (wG q cA (ab (FM_give τ (xs (Int32.toNatClampNeg (x3 + 1))) (xs (Int32.toNatClampNeg (x3 + 2)))).2)) (wM k cB τ) := hap
                      refine W.eq (g2 := F0 m 277 ls [.int (FM_give τ (xs (Int32.toNatClampNeg (x3 + 1))) (xs (Int32.toNatClampNeg (x3 + 2)))).1]) rfl ?_
                      refine lv_aload_n hx hb dL_law_277 rfl (lv_at hl 2 rfl) ?_
                      refine lv_aload_n hx hb dL_law_278 rfl (lv_at hl 0 rfl) ?_
                      refine lv_iload_n hx hb dL_law_279 rfl (lv_at hl 3 rfl) ?_
                      refine lv_iconst (v := 1) hx hb dL_law_280 (by decide) ?_
                      refine lv_iadd hx hb dL_law_281 ?_
                      refine va_sld hx hb hX hbl hbA hS (jl_in hL hJ c_1 1 (by decide)) dL_law_282 ?_
                      refine lv_aload_n hx hb dL_law_283 rfl (lv_at hl 0 rfl) ?_
                      refine lv_iload_n hx hb dL_law_284 rfl (lv_at hl 3 rfl) ?_
                      refine lv_iconst (v := 2) hx hb dL_law_285 (by decide) ?_
                      refine lv_iadd hx hb dL_law_286 ?_
                      refine va_sld hx hb hX hbl hbA hS (jl_in hL hJ c_1 2 (by decide)) dL_law_287 ?_
                      refine p_call (As := [.int (xs (Int32.toNatClampNeg (x3 + 1))), .int (xs (Int32.toNatClampNeg (x3 + 2)))]) (rest := [.int (FM_give τ (xs (Int32.toNatClampNeg (x3 + 1))) (xs (Int32.toNatClampNeg (x3 + 2)))).1]) (res := (FM_give τ (xs (Int32.toNatClampNeg (x3 + 1))) (xs (Int32.toNatClampNeg (x3 + 2))))) ⟨hx, hb, hml, hown, hts⟩ (kX1_give l D k cB _ τ (xs (Int32.toNatClampNeg (x3 + 1))) (xs (Int32.toNatClampNeg (x3 + 2)))) (cwV 2 hts (gL wd_463 wd_464 wd_465 wd_39 wd_466) rfl rfl rfl (by decide +kernel) ⟨Nat.le_of_ble_eq_true rfl, Nat.le_of_ble_eq_true rfl⟩) hKM hPM hPG hDM hap.symm hS hA (va_recv hKM hPM (ci := 1) (q0 := 0) rfl rfl) rfl hl.1 rfl (Nat.le_of_ble_eq_true rfl) dL_law_288 ⟨Nat.le_of_ble_eq_true rfl, Nat.le_of_ble_eq_true rfl⟩ (fun H locs hPM hPG hDM hap hS => ?_)
                      have hap := hap.symm
                      refine lv_icmp_eq (tgt := 355) hx hb dL_law_291 (by decide) (fun _ => ?_) (fun c0 => absurd rfl c0)
                      refine lv_iinc (v := (x3 + 3)) (lv' := [(3, .int (x3 + 3)), (0, .ref b), (1, .ref (q 0)), (2, .ref (k 0))]) hx hb dL_law_355 hl (k := 3) rfl rfl (by decide) rfl (fun ls hl => ?_)
                      refine lv_goto (tgt := 18) hx hb dL_law_358 (by decide) ?_
                      exact ih (FM_give τ (xs (Int32.toNatClampNeg (x3 + 1))) (xs (Int32.toNatClampNeg (x3 + 2)))).2 (x3 + 3) (rr_give hR) (jl_b hL hJ c_1) _ _ _ hPG hPM hDG hDM hap hS (lv_sub hl [1, 2, 3, 0] rfl)
                    · skip
                      by_cases s_8 : sw = (8 : Int32)
                      · skip
                        refine lv_tableIn (tgt := 296) hx hb dL_law_32 (by rw [s_8]; decide) (by rw [s_8]; decide) (by rw [s_8]; rfl) (by decide) ?_
                        refine lv_aload_n hx hb dL_law_296 rfl (lv_at hl 1 rfl) ?_
                        refine lv_aload_n hx hb dL_law_297 rfl (lv_at hl 0 rfl) ?_
                        refine lv_iload_n hx hb dL_law_298 rfl (lv_at hl 3 rfl) ?_
                        refine lv_iconst (v := 1) hx hb dL_law_299 (by decide) ?_
                        refine lv_iadd hx hb dL_law_300 ?_
                        refine va_sld hx hb hX hbl hbA hS (jl_in hL hJ c_1 1 (by decide)) dL_law_301 ?_
                        refine p_call (As := [.int (xs (Int32.toNatClampNeg (x3 + 1)))]) (rest := []) (res := ev (FM_byteOf τ (xs (Int32.toNatClampNeg (x3 + 1))), τ)) ⟨hx, hb, hml, hown, hts⟩ (by rw [← eq_byteOf hR]; exact kX0_byteOf l D q cA _ (ab τ) (xs (Int32.toNatClampNeg (x3 + 1)))) (cwV 1 hts (gL wd_274 wd_275 wd_276 wd_38 wd_277) rfl rfl rfl (by decide +kernel) ⟨Nat.le_of_ble_eq_true rfl, Nat.le_of_ble_eq_true rfl⟩) hKG hPG hPM hDG hap hS hA (va_recv hKG hPG (ci := 0) (q0 := 0) rfl rfl) rfl hl.1 rfl (Nat.le_of_ble_eq_true rfl) dL_law_302 ⟨Nat.le_of_ble_eq_true rfl, Nat.le_of_ble_eq_true rfl⟩ (fun H locs hPG hPM hDG hap hS => ?_)
                        have hPG : va_P D vwCl (wG q cA (ab (FM_byteOf τ (xs (Int32.toNatClampNeg (x3 + 1))), τ).2)) H := hPG
                        have hDG : va_D (fun q : Nat => s.heap.size ≤ q) (wG q cA (ab (FM_byteOf τ (xs (Int32.toNatClampNeg (x3 + 1))), τ).2)) := hDG
                        have hap : apart (wG q cA (ab (FM_byteOf τ (xs (Int32.toNatClampNeg (x3 + 1))), τ).2)) (wM k cB τ) := hap
                        refine W.eq (g2 := F0 m 305 ls [.int (FM_byteOf τ (xs (Int32.toNatClampNeg (x3 + 1))), τ).1]) rfl ?_
                        refine lv_aload_n hx hb dL_law_305 rfl (lv_at hl 2 rfl) ?_
                        refine lv_aload_n hx hb dL_law_306 rfl (lv_at hl 0 rfl) ?_
                        refine lv_iload_n hx hb dL_law_307 rfl (lv_at hl 3 rfl) ?_
                        refine lv_iconst (v := 1) hx hb dL_law_308 (by decide) ?_
                        refine lv_iadd hx hb dL_law_309 ?_
                        refine va_sld hx hb hX hbl hbA hS (jl_in hL hJ c_1 1 (by decide)) dL_law_310 ?_
                        refine p_call (As := [.int (xs (Int32.toNatClampNeg (x3 + 1)))]) (rest := [.int (FM_byteOf τ (xs (Int32.toNatClampNeg (x3 + 1))), τ).1]) (res := (FM_byteOf τ (xs (Int32.toNatClampNeg (x3 + 1))), τ)) ⟨hx, hb, hml, hown, hts⟩ (kX1_byteOf l D k cB _ τ (xs (Int32.toNatClampNeg (x3 + 1)))) (cwV 1 hts (gL wd_467 wd_468 wd_469 wd_39 wd_470) rfl rfl rfl (by decide +kernel) ⟨Nat.le_of_ble_eq_true rfl, Nat.le_of_ble_eq_true rfl⟩) hKM hPM hPG hDM hap.symm hS hA (va_recv hKM hPM (ci := 1) (q0 := 0) rfl rfl) rfl hl.1 rfl (Nat.le_of_ble_eq_true rfl) dL_law_311 ⟨Nat.le_of_ble_eq_true rfl, Nat.le_of_ble_eq_true rfl⟩ (fun H locs hPM hPG hDM hap hS => ?_)
                        have hap := hap.symm
                        refine lv_icmp_eq (tgt := 355) hx hb dL_law_314 (by decide) (fun _ => ?_) (fun c0 => absurd rfl c0)
                        refine lv_iinc (v := (x3 + 3)) (lv' := [(3, .int (x3 + 3)), (0, .ref b), (1, .ref (q 0)), (2, .ref (k 0))]) hx hb dL_law_355 hl (k := 3) rfl rfl (by decide) rfl (fun ls hl => ?_)
                        refine lv_goto (tgt := 18) hx hb dL_law_358 (by decide) ?_
                        exact ih τ (x3 + 3) hR (jl_b hL hJ c_1) _ _ _ hPG hPM hDG hDM hap hS (lv_sub hl [1, 2, 3, 0] rfl)
                      · skip
                        by_cases s_9 : sw = (9 : Int32)
                        · skip
                          refine lv_tableIn (tgt := 319) hx hb dL_law_32 (by rw [s_9]; decide) (by rw [s_9]; decide) (by rw [s_9]; rfl) (by decide) ?_
                          refine lv_aload_n hx hb dL_law_319 rfl (lv_at hl 1 rfl) ?_
                          refine lv_aload_n hx hb dL_law_320 rfl (lv_at hl 0 rfl) ?_
                          refine lv_iload_n hx hb dL_law_321 rfl (lv_at hl 3 rfl) ?_
                          refine lv_iconst (v := 1) hx hb dL_law_322 (by decide) ?_
                          refine lv_iadd hx hb dL_law_323 ?_
                          refine va_sld hx hb hX hbl hbA hS (jl_in hL hJ c_1 1 (by decide)) dL_law_324 ?_
                          refine p_call (As := [.int (xs (Int32.toNatClampNeg (x3 + 1)))]) (rest := []) (res := ev (FM_output τ (xs (Int32.toNatClampNeg (x3 + 1))), τ)) ⟨hx, hb, hml, hown, hts⟩ (by rw [← eq_output hR]; exact kX0_output l D q cA _ (ab τ) (xs (Int32.toNatClampNeg (x3 + 1))) (ig_of hR)) (cwV 1 hts (gL wd_278 wd_279 wd_280 wd_38 wd_281) rfl rfl rfl (by decide +kernel) ⟨Nat.le_of_ble_eq_true rfl, Nat.le_of_ble_eq_true rfl⟩) hKG hPG hPM hDG hap hS hA (va_recv hKG hPG (ci := 0) (q0 := 0) rfl rfl) rfl hl.1 rfl (Nat.le_of_ble_eq_true rfl) dL_law_325 ⟨Nat.le_of_ble_eq_true rfl, Nat.le_of_ble_eq_true rfl⟩ (fun H locs hPG hPM hDG hap hS => ?_)
                          have hPG : va_P D vwCl (wG q cA (ab (FM_output τ (xs (Int32.toNatClampNeg (x3 + 1))), τ).2)) H := hPG
                          have hDG : va_D (fun q : Nat => s.heap.size ≤ q) (wG q cA (ab (FM_output τ (xs (Int32.toNatClampNeg (x3 + 1))), τ).2)) := hDG
                          have hap : apart (wG q cA (ab (FM_output τ (xs (Int32.toNatClampNeg (x3 + 1))), τ).2)) (wM k cB τ) := hap
                          refine W.eq (g2 := F0 m 328 ls [.int (FM_output τ (xs (Int32.toNatClampNeg (x3 + 1))), τ).1]) rfl ?_
                          refine lv_aload_n hx hb dL_law_328 rfl (lv_at hl 2 rfl) ?_
                          refine lv_aload_n hx hb dL_law_329 rfl (lv_at hl 0 rfl) ?_
                          refine lv_iload_n hx hb dL_law_330 rfl (lv_at hl 3 rfl) ?_
                          refine lv_iconst (v := 1) hx hb dL_law_331 (by decide) ?_
                          refine lv_iadd hx hb dL_law_332 ?_
                          refine va_sld hx hb hX hbl hbA hS (jl_in hL hJ c_1 1 (by decide)) dL_law_333 ?_
                          refine p_call (As := [.int (xs (Int32.toNatClampNeg (x3 + 1)))]) (rest := [.int (FM_output τ (xs (Int32.toNatClampNeg (x3 + 1))), τ).1]) (res := (FM_output τ (xs (Int32.toNatClampNeg (x3 + 1))), τ)) ⟨hx, hb, hml, hown, hts⟩ (kX1_output l D k cB _ τ (xs (Int32.toNatClampNeg (x3 + 1))) hR.1) (cwV 1 hts (gL wd_471 wd_472 wd_473 wd_39 wd_474) rfl rfl rfl (by decide +kernel) ⟨Nat.le_of_ble_eq_true rfl, Nat.le_of_ble_eq_true rfl⟩) hKM hPM hPG hDM hap.symm hS hA (va_recv hKM hPM (ci := 1) (q0 := 0) rfl rfl) rfl hl.1 rfl (Nat.le_of_ble_eq_true rfl) dL_law_334 ⟨Nat.le_of_ble_eq_true rfl, Nat.le_of_ble_eq_true rfl⟩ (fun H locs hPM hPG hDM hap hS => ?_)
                          have hap := hap.symm
                          refine lv_icmp_eq (tgt := 355) hx hb dL_law_337 (by decide) (fun _ => ?_) (fun c0 => absurd rfl c0)
                          refine lv_iinc (v := (x3 + 3)) (lv' := [(3, .int (x3 + 3)), (0, .ref b), (1, .ref (q 0)), (2, .ref (k 0))]) hx hb dL_law_355 hl (k := 3) rfl rfl (by decide) rfl (fun ls hl => ?_)
                          refine lv_goto (tgt := 18) hx hb dL_law_358 (by decide) ?_
                          exact ih τ (x3 + 3) hR (jl_b hL hJ c_1) _ _ _ hPG hPM hDG hDM hap hS (lv_sub hl [1, 2, 3, 0] rfl)
                        · skip
                          by_cases s_10 : sw = (10 : Int32)
                          · skip
                            refine lv_tableIn (tgt := 342) hx hb dL_law_32 (by rw [s_10]; decide) (by rw [s_10]; decide) (by rw [s_10]; rfl) (by decide) ?_
                            refine lv_aload_n hx hb dL_law_342 rfl (lv_at hl 1 rfl) ?_
                            refine p_call (As := []) (rest := []) (res := ev (FM_code τ, τ)) ⟨hx, hb, hml, hown, hts⟩ (by rw [← eq_code hR]; exact kX0_code l D q cA _ (ab τ)) (cwV 0 hts (gL wd_282 wd_283 wd_284 wd_38 wd_285) rfl rfl rfl (by decide +kernel) ⟨Nat.le_of_ble_eq_true rfl, Nat.le_of_ble_eq_true rfl⟩) hKG hPG hPM hDG hap hS hA (va_recv hKG hPG (ci := 0) (q0 := 0) rfl rfl) rfl hl.1 rfl (Nat.le_of_ble_eq_true rfl) dL_law_343 ⟨Nat.le_of_ble_eq_true rfl, Nat.le_of_ble_eq_true rfl⟩ (fun H locs hPG hPM hDG hap hS => ?_)
                            have hPG : va_P D vwCl (wG q cA (ab (FM_code τ, τ).2)) H := hPG
                            have hDG : va_D (fun q : Nat => s.heap.size ≤ q) (wG q cA (ab (FM_code τ, τ).2)) := hDG
                            have hap : apart (wG q cA (ab (FM_code τ, τ).2)) (wM k cB τ) := hap
                            refine W.eq (g2 := F0 m 346 ls [.int (FM_code τ, τ).1]) rfl ?_
                            refine lv_aload_n hx hb dL_law_346 rfl (lv_at hl 2 rfl) ?_
                            refine p_call (As := []) (rest := [.int (FM_code τ, τ).1]) (res := (FM_code τ, τ)) ⟨hx, hb, hml, hown, hts⟩ (kX1_code l D k cB _ τ) (cwV 0 hts (gL wd_475 wd_476 wd_477 wd_39 wd_478) rfl rfl rfl (by decide +kernel) ⟨Nat.le_of_ble_eq_true rfl, Nat.le_of_ble_eq_true rfl⟩) hKM hPM hPG hDM hap.symm hS hA (va_recv hKM hPM (ci := 1) (q0 := 0) rfl rfl) rfl hl.1 rfl (Nat.le_of_ble_eq_true rfl) dL_law_347 ⟨Nat.le_of_ble_eq_true rfl, Nat.le_of_ble_eq_true rfl⟩ (fun H locs hPM hPG hDM hap hS => ?_)
                            have hap := hap.symm
                            refine lv_icmp_eq (tgt := 355) hx hb dL_law_350 (by decide) (fun _ => ?_) (fun c0 => absurd rfl c0)
                            refine lv_iinc (v := (x3 + 3)) (lv' := [(3, .int (x3 + 3)), (0, .ref b), (1, .ref (q 0)), (2, .ref (k 0))]) hx hb dL_law_355 hl (k := 3) rfl rfl (by decide) rfl (fun ls hl => ?_)
                            refine lv_goto (tgt := 18) hx hb dL_law_358 (by decide) ?_
                            exact ih τ (x3 + 3) hR (jl_b hL hJ c_1) _ _ _ hPG hPM hDG hDM hap hS (lv_sub hl [1, 2, 3, 0] rfl)
                          · skip
                            refine lv_tableOut (tgt := 355) hx hb dL_law_32 (by have h0 := lv_neT (a := 0) s_0 (by decide); have h1 := lv_neT (a := 1) s_1 (by decide); have h2 := lv_neT (a := 2) s_2 (by decide); have h3 := lv_neT (a := 3) s_3 (by decide); have h4 := lv_neT (a := 4) s_4 (by decide); have h5 := lv_neT (a := 5) s_5 (by decide); have h6 := lv_neT (a := 6) s_6 (by decide); have h7 := lv_neT (a := 7) s_7 (by decide); have h8 := lv_neT (a := 8) s_8 (by decide); have h9 := lv_neT (a := 9) s_9 (by decide); have h10 := lv_neT (a := 10) s_10 (by decide); omega) (by decide) ?_
                            refine lv_iinc (v := (x3 + 3)) (lv' := [(3, .int (x3 + 3)), (0, .ref b), (1, .ref (q 0)), (2, .ref (k 0))]) hx hb dL_law_355 hl (k := 3) rfl rfl (by decide) rfl (fun ls hl => ?_)
                            refine lv_goto (tgt := 18) hx hb dL_law_358 (by decide) ?_
                            exact ih τ (x3 + 3) hR (jl_b hL hJ c_1) _ _ _ hPG hPM hDG hDM hap hS (lv_sub hl [1, 2, 3, 0] rfl)
