-- turns
theorem sOf_eq (w : Int32) : FG_sOf w = FM_first w := rfl
theorem tOf_eq (w : Int32) : FG_tOf w = FM_second w := rfl
theorem dOf_eq (w : Int32) : FG_dOf w = FM_third w := rfl
theorem opOf_eq (w : Int32) : FG_opOf w = FM_op w := rfl
theorem imm_eq (w : Int32) : FG_signedImmediate w = FM_signed w := rfl
theorem fOf_eq (w : Int32) : FG_fOf w = w &&& 63 := rfl
theorem eq_turn (w : Int32) : FG_isTurn w = FM_leads w := by
  unfold FG_isTurn FM_leads
  rw [opOf_eq, tOf_eq, fOf_eq]
  generalize FM_op w = o
  generalize FM_second w = t
  generalize w &&& 63 = f
  by_cases h0 : o = 0
  · subst h0
    simp +decide only [↓reduceIte]
  · by_cases h1 : o = 1
    · subst h1
      simp +decide only [↓reduceIte]
    · rw [if_neg h0, if_neg h1, if_neg h0, if_neg h1]
theorem eq_bar (w : Int32) : FG_isBarredFromSlots w = 0 ↔ (FM_leads w = 0 ∧ FM_calls w = 0) := by
  unfold FG_isBarredFromSlots FM_calls
  rw [eq_turn, opOf_eq, fOf_eq]
  generalize FM_leads w = L
  generalize FM_op w = o
  generalize w &&& 63 = f
  by_cases h0 : o = 0
  · rw [if_pos h0, if_pos h0]
    by_cases h1 : f = 12
    · rw [if_pos h1, if_pos h1]; simp
    · rw [if_neg h1, if_neg h1]
      by_cases h2 : f = 13
      · rw [if_pos h2, if_pos h2]; simp
      · rw [if_neg h2, if_neg h2]
        by_cases h3 : L = 0
        · rw [if_pos h3]; simp [h3]
        · rw [if_neg h3]; simp [h3]
  · rw [if_neg h0, if_neg h0]
    by_cases h3 : L = 0
    · rw [if_pos h3]; simp [h3]
    · rw [if_neg h3]; simp [h3]
theorem gg_go (σ : SM) (v : Int32) : gmgo (smgo σ v) = v := rfl
theorem gg_gl (σ : SM) (v : Int32) : gmgo (smgl σ v) = gmgo σ := rfl
theorem gg_lk (σ : SM) (v : Int32) : gmgo (smlk σ v) = gmgo σ := rfl
theorem gl_go (σ : SM) (v : Int32) : gmgl (smgo σ v) = gmgl σ := rfl
theorem gl_gl (σ : SM) (v : Int32) : gmgl (smgl σ v) = v := rfl
theorem gl_lk (σ : SM) (v : Int32) : gmgl (smlk σ v) = gmgl σ := rfl
def AimOk (τ : SM) (w : Int32) : Prop := gmgo (FM_aim τ w) = FG_turnGoes (ab τ) w ∧ gmlk (FM_aim τ w) = FG_linkRegisterOf w ∧ ((gmgl (FM_aim τ w) = 4194304 + 4 * (gmpc τ + 1 + FM_signed w) ∧ FG_aimOf (ab τ) w = gmpc τ + 1 + FM_signed w) ∨ FG_aimOf (ab τ) w = FG_wordAt (ab τ) (gmgl (FM_aim τ w)))
theorem aim_0 {τ : SM} {w : Int32} (e : FM_op w = 0) (h : w &&& 63 = 8 ∨ w &&& 63 = 9) : AimOk τ w := by
  unfold AimOk FM_aim FG_turnGoes FG_linkRegisterOf FG_aimOf
  rcases h with h | h
  · simp +decide only [opOf_eq, sOf_eq, tOf_eq, dOf_eq, fOf_eq, imm_eq, ab_rg, ab_pc, e, h, ↓reduceIte, gs_mlk, gk_go, gk_gl, gg_go, gg_gl, gg_lk, gl_go, gl_gl, gl_lk, true_and, or_true]
  · simp +decide only [opOf_eq, sOf_eq, tOf_eq, dOf_eq, fOf_eq, imm_eq, ab_rg, ab_pc, e, h, ↓reduceIte, gs_mlk, gk_go, gk_gl, gg_go, gg_gl, gg_lk, gl_go, gl_gl, gl_lk, true_and, or_true]
theorem aim_1 {τ : SM} {w : Int32} (e : FM_op w = 1) (h : FM_second w = 0 ∨ FM_second w = 1 ∨ FM_second w = 16 ∨ FM_second w = 17) : AimOk τ w := by
  unfold AimOk FM_aim FG_turnGoes FG_linkRegisterOf FG_aimOf
  rcases h with h | h | h | h <;> simp +decide only [opOf_eq, sOf_eq, tOf_eq, dOf_eq, fOf_eq, imm_eq, ab_rg, ab_pc, e, h, ↓reduceIte]
  · by_cases c : 0 ≤ gmrg τ (Int32.toNatClampNeg (FM_first w))
    · simp only [c, ↓reduceIte, gs_mlk, gk_go, gk_gl, gg_go, gg_gl, gg_lk, gl_go, gl_gl, gl_lk, true_and, true_or]
    · simp only [c, ↓reduceIte, gs_mlk, gk_go, gk_gl, gg_go, gg_gl, gg_lk, gl_go, gl_gl, gl_lk, true_and, true_or]
  · by_cases c : gmrg τ (Int32.toNatClampNeg (FM_first w)) < 0
    · simp only [c, ↓reduceIte, gs_mlk, gk_go, gk_gl, gg_go, gg_gl, gg_lk, gl_go, gl_gl, gl_lk, true_and, true_or]
    · simp only [c, ↓reduceIte, gs_mlk, gk_go, gk_gl, gg_go, gg_gl, gg_lk, gl_go, gl_gl, gl_lk, true_and, true_or]
  · by_cases c : 0 ≤ gmrg τ (Int32.toNatClampNeg (FM_first w))
    · simp only [c, ↓reduceIte, gs_mlk, gk_go, gk_gl, gg_go, gg_gl, gg_lk, gl_go, gl_gl, gl_lk, true_and, true_or]
    · simp only [c, ↓reduceIte, gs_mlk, gk_go, gk_gl, gg_go, gg_gl, gg_lk, gl_go, gl_gl, gl_lk, true_and, true_or]
  · by_cases c : gmrg τ (Int32.toNatClampNeg (FM_first w)) < 0
    · simp only [c, ↓reduceIte, gs_mlk, gk_go, gk_gl, gg_go, gg_gl, gg_lk, gl_go, gl_gl, gl_lk, true_and, true_or]
    · simp only [c, ↓reduceIte, gs_mlk, gk_go, gk_gl, gg_go, gg_gl, gg_lk, gl_go, gl_gl, gl_lk, true_and, true_or]
theorem aim_23 {τ : SM} {w : Int32} (e : FM_op w = 2 ∨ FM_op w = 3) : AimOk τ w := by
  unfold AimOk FM_aim FG_turnGoes FG_linkRegisterOf FG_aimOf FG_addressOf
  rcases e with e | e
  · simp +decide only [opOf_eq, sOf_eq, tOf_eq, dOf_eq, fOf_eq, imm_eq, ab_rg, ab_pc, e, ↓reduceIte, gs_mlk, gk_go, gk_gl, gg_go, gg_gl, gg_lk, gl_go, gl_gl, gl_lk, true_and, or_true]
  · simp +decide only [opOf_eq, sOf_eq, tOf_eq, dOf_eq, fOf_eq, imm_eq, ab_rg, ab_pc, e, ↓reduceIte, gs_mlk, gk_go, gk_gl, gg_go, gg_gl, gg_lk, gl_go, gl_gl, gl_lk, true_and, or_true]
theorem aim_47 {τ : SM} {w : Int32} (e : FM_op w = 4 ∨ FM_op w = 5 ∨ FM_op w = 6 ∨ FM_op w = 7) : AimOk τ w := by
  unfold AimOk FM_aim FG_turnGoes FG_linkRegisterOf FG_aimOf
  rcases e with e | e | e | e <;> simp +decide only [opOf_eq, sOf_eq, tOf_eq, dOf_eq, fOf_eq, imm_eq, ab_rg, ab_pc, e, ↓reduceIte]
  · by_cases c : gmrg τ (Int32.toNatClampNeg (FM_first w)) = gmrg τ (Int32.toNatClampNeg (FM_second w))
    · simp only [c, ↓reduceIte, gs_mlk, gk_go, gk_gl, gg_go, gg_gl, gg_lk, gl_go, gl_gl, gl_lk, true_and, true_or]
    · simp only [c, ↓reduceIte, gs_mlk, gk_go, gk_gl, gg_go, gg_gl, gg_lk, gl_go, gl_gl, gl_lk, true_and, true_or]
  · by_cases c : gmrg τ (Int32.toNatClampNeg (FM_first w)) = gmrg τ (Int32.toNatClampNeg (FM_second w))
    · simp only [c, ↓reduceIte, gs_mlk, gk_go, gk_gl, gg_go, gg_gl, gg_lk, gl_go, gl_gl, gl_lk, true_and, true_or]
    · simp only [c, ↓reduceIte, gs_mlk, gk_go, gk_gl, gg_go, gg_gl, gg_lk, gl_go, gl_gl, gl_lk, true_and, true_or]
  · by_cases c : 0 < gmrg τ (Int32.toNatClampNeg (FM_first w))
    · simp only [c, ↓reduceIte, gs_mlk, gk_go, gk_gl, gg_go, gg_gl, gg_lk, gl_go, gl_gl, gl_lk, true_and, true_or]
    · simp only [c, ↓reduceIte, gs_mlk, gk_go, gk_gl, gg_go, gg_gl, gg_lk, gl_go, gl_gl, gl_lk, true_and, true_or]
  · by_cases c : gmrg τ (Int32.toNatClampNeg (FM_first w)) ≤ 0
    · simp only [c, ↓reduceIte, gs_mlk, gk_go, gk_gl, gg_go, gg_gl, gg_lk, gl_go, gl_gl, gl_lk, true_and, true_or]
    · simp only [c, ↓reduceIte, gs_mlk, gk_go, gk_gl, gg_go, gg_gl, gg_lk, gl_go, gl_gl, gl_lk, true_and, true_or]
theorem aim_ok {τ : SM} {w : Int32} (h : ¬ FM_leads w = 0) : AimOk τ w := by
  by_cases h0 : FM_op w = 0
  · refine aim_0 h0 ?_
    rw [← eq_turn] at h
    unfold FG_isTurn at h
    rw [opOf_eq, fOf_eq, if_pos h0] at h
    by_cases h8 : w &&& 63 = 8
    · exact Or.inl h8
    · by_cases h9 : w &&& 63 = 9
      · exact Or.inr h9
      · rw [if_neg h8, if_neg h9] at h
        exact absurd rfl h
  · by_cases h1 : FM_op w = 1
    · refine aim_1 h1 ?_
      rw [← eq_turn] at h
      unfold FG_isTurn at h
      rw [opOf_eq, tOf_eq, if_neg h0, if_pos h1] at h
      by_cases a0 : FM_second w = 0
      · exact Or.inl a0
      · by_cases a1 : FM_second w = 1
        · exact Or.inr (Or.inl a1)
        · by_cases a2 : FM_second w = 16
          · exact Or.inr (Or.inr (Or.inl a2))
          · by_cases a3 : FM_second w = 17
            · exact Or.inr (Or.inr (Or.inr a3))
            · rw [if_neg a0, if_neg a1, if_neg a2, if_neg a3] at h
              exact absurd rfl h
    · rw [← eq_turn] at h
      unfold FG_isTurn at h
      rw [opOf_eq, if_neg h0, if_neg h1] at h
      by_cases l2 : FM_op w < 2
      · rw [if_pos l2] at h; exact absurd rfl h
      · rw [if_neg l2] at h
        by_cases l7 : (7 : Int32) < FM_op w
        · rw [if_pos l7] at h; exact absurd rfl h
        · rw [ti_lt, show (2 : Int32).toInt = 2 by decide] at l2
          rw [ti_lt, show (7 : Int32).toInt = 7 by decide] at l7
          have hv : FM_op w = 2 ∨ FM_op w = 3 ∨ FM_op w = 4 ∨ FM_op w = 5 ∨ FM_op w = 6 ∨ FM_op w = 7 := by
            rcases (show (FM_op w).toInt = 2 ∨ (FM_op w).toInt = 3 ∨ (FM_op w).toInt = 4 ∨ (FM_op w).toInt = 5 ∨ (FM_op w).toInt = 6 ∨ (FM_op w).toInt = 7 by omega) with a | a | a | a | a | a
            · exact Or.inl (Int32.toInt_inj.mp (by rw [a]; decide))
            · exact Or.inr (Or.inl (Int32.toInt_inj.mp (by rw [a]; decide)))
            · exact Or.inr (Or.inr (Or.inl (Int32.toInt_inj.mp (by rw [a]; decide))))
            · exact Or.inr (Or.inr (Or.inr (Or.inl (Int32.toInt_inj.mp (by rw [a]; decide)))))
            · exact Or.inr (Or.inr (Or.inr (Or.inr (Or.inl (Int32.toInt_inj.mp (by rw [a]; decide))))))
            · exact Or.inr (Or.inr (Or.inr (Or.inr (Or.inr (Int32.toInt_inj.mp (by rw [a]; decide))))))
          rcases hv with a | a | a | a | a | a
          · exact aim_23 (Or.inl a)
          · exact aim_23 (Or.inr a)
          · exact aim_47 (Or.inl a)
          · exact aim_47 (Or.inr (Or.inl a))
          · exact aim_47 (Or.inr (Or.inr (Or.inl a)))
          · exact aim_47 (Or.inr (Or.inr (Or.inr a)))
theorem imm_bd (w : Int32) : -32768 ≤ (FM_signed w).toInt ∧ (FM_signed w).toInt ≤ 32767 := by
  unfold FM_signed
  rw [pk_shr _ _ 16 (by decide), Int.shiftRight_eq_div_pow]
  have := ti_bd (w <<< ((16 : Int32) &&& 31))
  omega
/-- where a turn goes: an address of a word of the text, or none; its word -/
theorem goal_ok {τ : SM} {g n : Int32} (hI : IM τ) (hpc : vp_in (gmpc τ) 64) (w : Int32) (h : (g = 4194304 + 4 * (gmpc τ + 1 + FM_signed w) ∧ n = gmpc τ + 1 + FM_signed w) ∨ n = FG_wordAt (ab τ) g) :
    (FG_isInText (ab τ) n = 0 ∧ (¬ g - g / 4 * 4 = 0 ∨ FM_isText τ g = 0)) ∨ (¬ FG_isInText (ab τ) n = 0 ∧ g - g / 4 * 4 = 0 ∧ ¬ FM_isText τ g = 0 ∧ (g - 4194304) / 4 = n) := by
  have hs := hI.2.1
  rw [ti_lt, ti_0] at hs
  have e4 : ((4 : Int32) * gmsz τ).toInt = 4 * (gmsz τ).toInt := by
    rw [ti_mul (by rw [ti_4]; omega) (by rw [ti_4]; omega), ti_4]
  have eT : ((4194304 : Int32) + 4 * gmsz τ).toInt = 4194304 + 4 * (gmsz τ).toInt := by
    rw [ti_add (by rw [ti_T, e4]; omega) (by rw [ti_T, e4]; omega), ti_T, e4]
  have h01 : ¬ (1 : Int32) = 0 := by decide
  rcases h with ⟨hg, hn⟩ | hn
  · obtain ⟨p1, p2⟩ := vp_in_iff.mp hpc
    have hi := imm_bd w
    have ep : (gmpc τ + 1).toInt = (gmpc τ).toInt + 1 := by
      rw [ti_add (by rw [ti_1]; omega) (by rw [ti_1]; omega), ti_1]
    have en : n.toInt = (gmpc τ).toInt + 1 + (FM_signed w).toInt := by
      rw [hn, ti_add (by rw [ep]; omega) (by rw [ep]; omega), ep]
    rw [← hn] at hg
    have e4n : ((4 : Int32) * n).toInt = 4 * n.toInt := by
      rw [ti_mul (by rw [ti_4]; omega) (by rw [ti_4]; omega), ti_4]
    have eg : g.toInt = 4194304 + 4 * n.toInt := by
      rw [hg, ti_add (by rw [ti_T, e4n]; omega) (by rw [ti_T, e4n]; omega), ti_T, e4n]
    have hal : g - g / 4 * 4 = 0 := by
      apply Int32.toInt_inj.mp
      rw [rem_ti g 4 (Or.inr ti_4), ti_4, ti_0, ← Int.dvd_iff_tmod_eq_zero]
      omega
    have egT : (g - 4194304).toInt = 4 * n.toInt := by
      rw [ti_sub (by rw [ti_T]; omega) (by rw [ti_T]; omega), ti_T]
      omega
    have hq : (g - 4194304) / 4 = n := by
      apply Int32.toInt_inj.mp
      have ht : (4 * n.toInt).tdiv 4 = n.toInt := by
        rw [Int.mul_comm]
        exact Int.mul_tdiv_cancel _ (by decide)
      rw [ti_div (by rw [egT, ti_4, ht]; omega) (by rw [egT, ti_4, ht]; omega), egT, ti_4, ht]
    unfold FG_isInText FM_isText
    rw [ab_tc]
    by_cases c1 : n < 0
    · left
      rw [if_pos c1]
      rw [ti_lt, ti_0] at c1
      exact ⟨rfl, Or.inr (by rw [if_pos (by rw [ti_lt, ti_T]; omega)])⟩
    · rw [if_neg c1]
      rw [ti_lt, ti_0] at c1
      rw [if_neg (show ¬ g < 4194304 by rw [ti_lt, ti_T]; omega)]
      by_cases c2 : gmsz τ ≤ n
      · left
        rw [if_pos c2]
        rw [ti_le] at c2
        exact ⟨rfl, Or.inr (by rw [if_pos (by rw [ti_le, eT]; omega)])⟩
      · right
        rw [if_neg c2]
        rw [ti_le] at c2
        rw [if_neg (show ¬ (4194304 : Int32) + 4 * gmsz τ ≤ g by rw [ti_le, eT]; omega)]
        exact ⟨h01, hal, h01, hq⟩
  · unfold FG_wordAt at hn
    by_cases c : g - g / 4 * 4 = 0
    · rw [if_pos ((al_4 g).mpr c), eq_isText hI] at hn
      by_cases d : FM_isText τ g = 0
      · rw [if_pos d] at hn
        left
        refine ⟨?_, Or.inr d⟩
        unfold FG_isInText
        rw [hn, if_pos (by decide)]
      · rw [if_neg d] at hn
        right
        have d2 := d
        unfold FM_isText at d2
        have g1 : ¬ g < 4194304 := fun h => by rw [if_pos h] at d2; exact d2 rfl
        rw [if_neg g1] at d2
        have g2 : ¬ (4194304 : Int32) + 4 * gmsz τ ≤ g := fun h => by rw [if_pos h] at d2; exact d2 rfl
        rw [ti_lt, ti_T] at g1
        rw [ti_le, eT] at g2
        have egT : (g - 4194304).toInt = g.toInt - 4194304 := by
          rw [ti_sub (by rw [ti_T]; omega) (by rw [ti_T]; omega), ti_T]
        have en : n.toInt = (g.toInt - 4194304) / 4 := by
          rw [hn, pk_shr _ _ 2 (by decide), egT, Int.shiftRight_eq_div_pow]
          rfl
        refine ⟨?_, c, d, ?_⟩
        · unfold FG_isInText
          rw [ab_tc, if_neg (by rw [ti_lt, ti_0]; omega), if_neg (by rw [ti_le]; omega)]
          exact h01
        · apply Int32.toInt_inj.mp
          have ht : (g.toInt - 4194304).tdiv 4 = (g.toInt - 4194304) / 4 := Int.tdiv_eq_ediv_of_nonneg (by omega)
          rw [ti_div (by rw [egT, ti_4, ht]; omega) (by rw [egT, ti_4, ht]; omega), egT, ti_4, ht, en]
    · rw [if_neg (fun h => c ((al_4 g).mp h))] at hn
      left
      refine ⟨?_, Or.inl c⟩
      unfold FG_isInText
      rw [hn, if_pos (by decide)]
