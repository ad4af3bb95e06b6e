-- run
theorem tr_same {τ : SM} {v : Int32} (h : gmtr τ = v) : smtr τ v = τ := by
  subst h
  rfl
theorem pc_same (τ : SM) : smpc τ (gmpc τ) = τ := rfl
theorem us_same (τ : SM) : smus τ (gmus τ) = τ := rfl
theorem pc_tr (τ : SM) (v : Int32) : gmpc (smtr τ v) = gmpc τ := rfl
theorem us_tr (τ : SM) (v : Int32) : gmus (smtr τ v) = gmus τ := rfl
theorem us_pc (τ : SM) (v : Int32) : gmus (smpc τ v) = gmus τ := rfl
theorem out_0 {τ : SM} (h1 : gmen τ = 0) (h2 : gmtr τ = 0) : OUT τ = 0 := by
  unfold OUT
  rw [if_pos h1, if_pos h2]
theorem out_t {τ : SM} (h1 : gmen τ = 0) (h2 : ¬ gmtr τ = 0) : OUT τ = 10 + gmtr τ := by
  unfold OUT
  rw [if_pos h1, if_neg h2]
theorem out_e {τ : SM} (h1 : ¬ gmen τ = 0) : OUT τ = 1 := by
  unfold OUT
  rw [if_neg h1]
theorem t10 {r : Int32} (h : T9 r) : ¬ (10 : Int32) + r = 0 := by
  intro e
  have h1 := h.1
  have h2 := h.2
  have e10 : (10 : Int32).toInt = 10 := by decide
  have : ((10 : Int32) + r).toInt = 10 + r.toInt := by
    rw [ti_add (by rw [e10]; omega) (by rw [e10]; omega), e10]
  rw [e, ti_0] at this
  omega
theorem so_t {τ : SM} {r : Int32} (h1 : gmen τ = 0) (h2 : ¬ r = 0) : sou (ab τ) (10 + r) = ab (smtr τ r) := by
  have e : OUT (smtr τ r) = 10 + r := out_t (τ := smtr τ r) h1 h2
  show sou (ab τ) (10 + r) = (gmty τ, gmts τ, gmtx τ, gmsz τ, gmrg τ, gmby τ, gmin τ, gmis τ, gmia τ, gmou τ, gmos τ, gmpc τ, gmus τ, OUT (smtr τ r), gmex τ)
  rw [e]
  rfl
/-- the run once it has trapped -/
theorem run_t {τ : SM} {n : Nat} {x : Int32} (h1 : gmen τ = 0) (h2 : ¬ gmtr τ = 0) (hn : 1 ≤ n) : LM_run n τ x = (10 + gmtr τ, τ) := by
  obtain ⟨m, rfl⟩ : ∃ m, n = m + 1 := ⟨n - 1, by omega⟩
  rw [LM_run, if_pos h1, if_neg h2]
def JB (a x2 x3 : Int32) : Prop := 0 ≤ x2.toInt ∧ 0 ≤ x3.toInt ∧ x2.toInt + x3.toInt ≤ a.toInt ∧ a.toInt ≤ 2000
theorem jb_b {a x2 x3 k : Int32} (h : JB a x2 x3) (hc : k ≤ x2) (hk : 1 ≤ k.toInt ∧ k.toInt ≤ 2) : JB a (x2 - k) (x3 + 1) := by
  obtain ⟨h1, h2, h3, h4⟩ := h
  rw [ti_le] at hc
  have e1 : (x2 - k).toInt = x2.toInt - k.toInt := ti_sub (by omega) (by omega)
  have e2 : (x3 + 1).toInt = x3.toInt + 1 := by
    rw [ti_add (by rw [ti_1]; omega) (by rw [ti_1]; omega), ti_1]
  exact ⟨by omega, by omega, by omega, h4⟩
theorem eq_LG_run (a : Int32) : ∀ (n : Nat) (τ : SM) (x2 x3 : Int32), RR τ → JMR τ n x2 → JB a x2 x3 → LG_run a n (ab τ) x2 x3 = ev (LM_run n τ x2) ∧ RR (LM_run n τ x2).2 := by
  intro n
  induction n with
  | zero => intro τ x2 x3 _ h; exact absurd h jmr_0
  | succ n ih =>
    intro τ x2 x3 hR hJ hB
    have c0 : ¬ a < x3 := by
      obtain ⟨b1, b2, b3, b4⟩ := hB
      rw [ti_lt]
      omega
    rw [LG_run, LM_run, if_neg c0, ab_ou]
    by_cases h1 : gmen τ = 0
    · rw [if_pos h1]
      by_cases h2 : gmtr τ = 0
      · rw [if_pos h2, if_pos (out_0 h1 h2), ab_pc, ab_tx]
        have hn : 1 ≤ n := by
          have := hJ.2.2.2.2 h1 h2
          have := hJ.2.1
          omega
        have h7 : ((17 : Int32), sou (ab τ) 17) = ev (10 + 7, smtr τ 7) := by
          have := so_t (τ := τ) (r := 7) h1 (by decide)
          rw [show (10 : Int32) + 7 = 17 by decide] at this
          rw [this]
          rfl
        have r7 : RR (smtr τ 7) := ⟨ims_mtr hR.1, zs_tr hR.2.1, (by decide : 0 ≤ (7 : Int32).toInt ∧ (7 : Int32).toInt ≤ 10)⟩
        by_cases p1 : gmpc τ < 0
        · have i1 : FG_isInText (ab τ) (gmpc τ) = 0 := by
            unfold FG_isInText
            rw [if_pos p1]
          rw [if_pos i1, if_pos p1]
          exact ⟨h7, r7⟩
        · rw [if_neg p1]
          by_cases p2 : gmpc τ < gmsz τ
          · have i1 : ¬ FG_isInText (ab τ) (gmpc τ) = 0 := by
              unfold FG_isInText
              rw [ab_tc, if_neg p1, if_neg (k2_nle p2)]
              decide
            rw [if_neg i1, if_pos p2, eq_turn]
            have hpc : vp_in (gmpc τ) 64 := in_ge0lt p1 p2 hR.1.2.1.2
            generalize gmtx τ (Int32.toNatClampNeg (gmpc τ)) = w
            by_cases w1 : FM_leads w = 0
            · rw [if_pos w1, if_pos w1]
              by_cases l1 : (1 : Int32) ≤ x2
              · rw [if_pos l1, if_pos l1]
                have hP : FG_perform (ab τ) w = ev (FM_atOnce τ w) := eq_perform hR.1 hR.2.1
                have hS : FG_stepOfOne (ab τ) w = (if (FM_atOnce τ w).1 = 0 then (if gmen (FM_atOnce τ w).2 = 0 then ((FM_atOnce τ w).1, ab (smpc (FM_atOnce τ w).2 (gmpc (FM_atOnce τ w).2 + 1))) else ((FM_atOnce τ w).1, ab (FM_atOnce τ w).2)) else ((FM_atOnce τ w).1, ab (FM_atOnce τ w).2)) := by
                  unfold FG_stepOfOne
                  rw [hP]
                  have ht := (km_atOnce τ w).2.2.2.2.2.2.1
                  rw [h2] at ht
                  generalize FM_atOnce τ w = Q at ht
                  show (if Q.1 = 0 then (if OUT Q.2 = 0 then (Q.1, spc (ab Q.2) (gmpc Q.2 + 1)) else (Q.1, ab Q.2)) else (Q.1, ab Q.2)) = _
                  by_cases q1 : Q.1 = 0
                  · rw [if_pos q1, if_pos q1]
                    by_cases q2 : gmen Q.2 = 0
                    · rw [if_pos q2, if_pos (out_0 q2 ht), sb_pc]
                    · rw [if_neg q2, out_e q2, if_neg (by decide)]
                  · rw [if_neg q1, if_neg q1]
                have hk := km_atOnce τ w
                have he := (te_atOnce τ w).2
                have hI2 : IM (FM_atOnce τ w).2 := imv_atOnce hR.1
                have hz2 : Z0 (FM_atOnce τ w).2 := z_atOnce hR.2.1
                have ht9 := t_atOnce τ w
                have htr : gmtr (FM_atOnce τ w).2 = 0 := by rw [hk.2.2.2.2.2.2.1]; exact h2
                rw [hS]
                generalize FM_atOnce τ w = Q at he hI2 hz2 ht9 htr
                by_cases q1 : Q.1 = 0
                · rw [if_pos q1, if_pos q1]
                  by_cases q2 : gmen Q.2 = 0
                  · rw [if_pos q2, if_pos q2, if_pos (show (Q.1, ab (smpc Q.2 (gmpc Q.2 + 1))).1 = 0 from q1)]
                    have es : smus (smpc (smtr Q.2 Q.1) (gmpc Q.2 + 1)) (gmus Q.2 + 1) = smus (smpc Q.2 (gmpc Q.2 + 1)) (gmus Q.2 + 1) := by rw [tr_same (htr.trans q1.symm)]
                    rw [es]
                    have r2 : RR (smus (smpc Q.2 (gmpc Q.2 + 1)) (gmus Q.2 + 1)) := ⟨ims_mus (ims_mpc hI2), zs_us (zs_pc hz2), (show T9 (gmtr Q.2) by rw [htr]; exact ⟨by decide, by decide⟩)⟩
                    show LG_run a n (sus (ab (smpc Q.2 (gmpc Q.2 + 1))) (gus (ab (smpc Q.2 (gmpc Q.2 + 1))) + 1)) (x2 - 1) (x3 + 1) = _ ∧ _
                    rw [ab_us, sb_us, us_pc]
                    exact ih _ _ _ r2 (jmr_b r2.1 hJ l1 h1 h2 (by decide)) (jb_b hB l1 (by decide))
                  · rw [if_neg q2, if_neg q2, if_pos (show (Q.1, ab Q.2).1 = 0 from q1)]
                    have es : smus (smpc (smtr Q.2 Q.1) (gmpc Q.2 + 0)) (gmus Q.2 + 1) = smus Q.2 (gmus Q.2 + 1) := by rw [tr_same (htr.trans q1.symm), Int32.add_zero, pc_same]
                    rw [es]
                    have r2 : RR (smus Q.2 (gmus Q.2 + 1)) := ⟨ims_mus hI2, zs_us hz2, (show T9 (gmtr Q.2) by rw [htr]; exact ⟨by decide, by decide⟩)⟩
                    show LG_run a n (sus (ab Q.2) (gus (ab Q.2) + 1)) (x2 - 1) (x3 + 1) = _ ∧ _
                    rw [ab_us, sb_us]
                    exact ih _ _ _ r2 (jmr_b r2.1 hJ l1 h1 h2 (by decide)) (jb_b hB l1 (by decide))
                · rw [if_neg q1, if_neg q1, if_neg (show ¬ (Q.1, ab Q.2).1 = 0 from q1)]
                  have en : gmen Q.2 = 0 := (he.elim (fun h => absurd h q1) id).trans h1
                  have es : smus (smpc (smtr Q.2 Q.1) (gmpc Q.2 + 0)) (gmus Q.2 + 0) = smtr Q.2 Q.1 := by
                    rw [Int32.add_zero, Int32.add_zero]
                    rfl
                  rw [es, run_t (τ := smtr Q.2 Q.1) en q1 hn]
                  refine ⟨?_, ⟨ims_mtr hI2, zs_tr hz2, ht9⟩⟩
                  show ((10 : Int32) + Q.1, sou (ab Q.2) (10 + Q.1)) = _
                  rw [so_t en q1]
                  rfl
              · rw [if_neg l1, if_neg l1]
                exact ⟨rfl, hR⟩
            · rw [if_neg w1, if_neg w1]
              by_cases l1 : (2 : Int32) ≤ x2
              · rw [if_pos l1, if_pos l1, eq_two hR.1 hR.2.1 hpc w1]
                have he := te_two τ w
                have hI2 : IM (FM_two τ w).2 := imv_two hR.1
                have hz2 : Z0 (FM_two τ w).2 := z_two hR.2.1
                have ht9 := t_two τ w
                have htr : gmtr (FM_two τ w).2 = 0 := he.1.trans h2
                generalize FM_two τ w = Q at he hI2 hz2 ht9 htr
                by_cases q1 : Q.1 = 0
                · rw [if_pos q1, if_pos (show (ev Q).1 = 0 from q1)]
                  have es : smus (smtr Q.2 Q.1) (gmus Q.2 + 2) = smus Q.2 (gmus Q.2 + 2) := by rw [tr_same (htr.trans q1.symm)]
                  rw [es]
                  have r2 : RR (smus Q.2 (gmus Q.2 + 2)) := ⟨ims_mus hI2, zs_us hz2, (show T9 (gmtr Q.2) by rw [htr]; exact ⟨by decide, by decide⟩)⟩
                  show LG_run a n (sus (ab Q.2) (gus (ab Q.2) + 2)) (x2 - 2) (x3 + 1) = _ ∧ _
                  rw [ab_us, sb_us]
                  exact ih _ _ _ r2 (jmr_b r2.1 hJ l1 h1 h2 (by decide)) (jb_b hB l1 (by decide))
                · rw [if_neg q1, if_neg (show ¬ (ev Q).1 = 0 from q1)]
                  have en : gmen Q.2 = 0 := (he.2.elim (fun h => absurd h q1) id).trans h1
                  have es : smus (smtr Q.2 Q.1) (gmus Q.2 + 0) = smtr Q.2 Q.1 := by
                    rw [Int32.add_zero]
                    rfl
                  rw [es, run_t (τ := smtr Q.2 Q.1) en q1 hn]
                  refine ⟨?_, ⟨ims_mtr hI2, zs_tr hz2, ht9⟩⟩
                  show ((10 : Int32) + Q.1, sou (ab Q.2) (10 + Q.1)) = _
                  rw [so_t en q1]
                  rfl
              · rw [if_neg l1, if_neg l1]
                exact ⟨rfl, hR⟩
          · have i1 : FG_isInText (ab τ) (gmpc τ) = 0 := by
              unfold FG_isInText
              rw [ab_tc, if_neg p1, if_pos (k2_le p2)]
            rw [if_pos i1, if_neg p2]
            exact ⟨h7, r7⟩
      · rw [if_neg h2, out_t h1 h2, if_neg (t10 hR.2.2)]
        exact ⟨rfl, hR⟩
    · rw [if_neg h1, out_e h1, if_neg (by decide)]
      exact ⟨rfl, hR⟩
theorem jb_s {a : Int32} (h1 : ¬ a < 1) (h2 : a ≤ 2000) : JB a a 0 := by
  rw [ti_lt, ti_1] at h1
  rw [ti_le, show (2000 : Int32).toInt = 2000 by decide] at h2
  exact ⟨by omega, by decide, by rw [ti_0]; omega, h2⟩
theorem run_both {τ : SM} {a : Int32} (hR : RR τ) : FG_run (ab τ) a = ev (FM_run τ a) ∧ RR (FM_run τ a).2 := by
  unfold FG_run FM_run
  by_cases c1 : a < 1
  · rw [if_pos c1, if_pos c1]
    exact ⟨rfl, hR⟩
  · rw [if_neg c1, if_neg c1]
    by_cases c2 : a ≤ 2000
    · rw [if_pos c2, if_pos c2]
      exact eq_LG_run a _ _ _ _ hR (jmr_s hR.1 c1 c2) (jb_s c1 c2)
    · rw [if_neg c2, if_neg c2]
      exact ⟨rfl, hR⟩
theorem eq_run {τ : SM} {a : Int32} (hR : RR τ) : FG_run (ab τ) a = ev (FM_run τ a) := (run_both hR).1
theorem rr_run {τ : SM} {a : Int32} (hR : RR τ) : RR (FM_run τ a).2 := (run_both hR).2
