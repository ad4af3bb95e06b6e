-- numbers: sums and differences, and what they come to
theorem ti_bd (x : Int32) : -2147483648 ≤ x.toInt ∧ x.toInt < 2147483648 := ⟨Int32.le_toInt x, Int32.toInt_lt x⟩
theorem bm_cases (z : Int) (h : -4294967296 ≤ z ∧ z < 4294967296) : z.bmod (2 ^ 32) = z ∨ z.bmod (2 ^ 32) = z + 4294967296 ∨ z.bmod (2 ^ 32) = z - 4294967296 := by
  rw [Int.bmod_def]
  split <;> omega
theorem sub_cases (x y : Int32) : (x - y).toInt = x.toInt - y.toInt ∨ (x - y).toInt = x.toInt - y.toInt + 4294967296 ∨ (x - y).toInt = x.toInt - y.toInt - 4294967296 := by
  have h1 := ti_bd x
  have h2 := ti_bd y
  rw [Int32.toInt_sub]
  exact bm_cases _ ⟨by omega, by omega⟩
theorem ti_mul {x y : Int32} (h0 : -2147483648 ≤ x.toInt * y.toInt) (h1 : x.toInt * y.toInt < 2147483648) : (x * y).toInt = x.toInt * y.toInt := by
  rw [Int32.toInt_mul]
  exact Int.bmod_eq_of_le (by omega) (by omega)
theorem ti_div {x y : Int32} (h0 : -2147483648 ≤ x.toInt.tdiv y.toInt) (h1 : x.toInt.tdiv y.toInt < 2147483648) : (x / y).toInt = x.toInt.tdiv y.toInt := by
  rw [Int32.toInt_div]
  exact Int.bmod_eq_of_le (by omega) (by omega)
theorem ti_4 : (4 : Int32).toInt = 4 := by decide
theorem ti_T : (4194304 : Int32).toInt = 4194304 := by decide
theorem ti_D : (268435456 : Int32).toInt = 268435456 := by decide
theorem eq_isText {τ : SM} (hI : IM τ) (A : Int32) : FG_isTextAddress (ab τ) A = FM_isText τ A := by
  unfold FG_isTextAddress FM_isText
  rw [ab_tc]
  have hs := hI.2.1
  rw [ti_lt, ti_0] at hs
  have e4 : ((4 : Int32) * gmsz τ).toInt = 4 * (gmsz τ).toInt := by
    rw [ti_mul (by rw [ti_4]; omega) (by rw [ti_4]; omega), ti_4]
  have eT : ((4194304 : Int32) + 4 * gmsz τ).toInt = 4194304 + 4 * (gmsz τ).toInt := by
    rw [ti_add (by rw [ti_T, e4]; omega) (by rw [ti_T, e4]; omega), ti_T, e4]
  have hb := ti_bd A
  have hb2 := ti_bd (A - 4194304)
  have hc := sub_cases A 4194304
  rw [ti_T] at hc
  by_cases h1 : A < 4194304
  · rw [if_pos h1]
    rw [ti_lt, ti_T] at h1
    by_cases h2 : A - 4194304 < 0
    · rw [if_pos h2]
    · rw [if_neg h2]
      rw [ti_lt, ti_0] at h2
      rw [if_pos (by rw [ti_le, e4]; omega)]
  · rw [if_neg h1]
    rw [ti_lt, ti_T] at h1
    rw [if_neg (by rw [ti_lt, ti_0]; omega)]
    by_cases h2 : (4194304 : Int32) + 4 * gmsz τ ≤ A
    · rw [if_pos h2]
      rw [ti_le, eT] at h2
      rw [if_pos (by rw [ti_le, e4]; omega)]
    · rw [if_neg h2]
      rw [ti_le, eT] at h2
      rw [if_neg (by rw [ti_le, e4]; omega)]
theorem rem_ti (A k : Int32) (hk : k.toInt = 2 ∨ k.toInt = 4) : (A - A / k * k).toInt = A.toInt.tmod k.toInt := by
  have hb := ti_bd A
  have hd : A.toInt.tmod k.toInt + k.toInt * A.toInt.tdiv k.toInt = A.toInt := Int.tmod_add_mul_tdiv _ _
  have h1 : A.toInt.tmod k.toInt < k.toInt := Int.tmod_lt_of_pos _ (by omega)
  have h2 : -k.toInt < A.toInt.tmod k.toInt := Int.lt_tmod_of_pos _ (by omega)
  have h3 : 0 ≤ A.toInt → 0 ≤ A.toInt.tmod k.toInt := Int.tmod_nonneg _
  have e1 : (A / k).toInt = A.toInt.tdiv k.toInt := by
    rcases hk with e | e <;> rw [e] at hd h1 h2 <;> exact ti_div (by rw [e]; omega) (by rw [e]; omega)
  have e2 : (A / k * k).toInt = A.toInt.tdiv k.toInt * k.toInt := by
    rw [ti_mul, e1]
    · rw [e1]; rcases hk with e | e <;> rw [e] at hd h1 h2 h3 ⊢ <;> omega
    · rw [e1]; rcases hk with e | e <;> rw [e] at hd h1 h2 h3 ⊢ <;> omega
  rw [ti_sub, e2]
  · rcases hk with e | e <;> rw [e] at hd h1 h2 h3 ⊢ <;> omega
  · rw [e2]; rcases hk with e | e <;> rw [e] at hd h1 h2 h3 ⊢ <;> omega
  · rw [e2]; rcases hk with e | e <;> rw [e] at hd h1 h2 h3 ⊢ <;> omega
theorem ti_nat (A : Int32) : A.toInt = A.toBitVec.toNat ∨ A.toInt = (A.toBitVec.toNat : Int) - 4294967296 := by
  have e : A.toInt = A.toBitVec.toInt := rfl
  rw [e, BitVec.toInt_eq_toNat_cond]
  split
  · exact Or.inl rfl
  · exact Or.inr (by omega)
theorem al_4 (A : Int32) : A &&& 3 = 0 ↔ A - A / 4 * 4 = 0 := by
  rw [pk_and A (m := 3) 2 (by decide), show (0 : Int32) = nI 0 by decide, nI_eq (by omega) (by decide), ← Int32.toInt_inj (x := A - A / 4 * 4), rem_ti A 4 (Or.inr ti_4), ti_4, show (nI 0).toInt = 0 by decide, ← Int.dvd_iff_tmod_eq_zero]
  have := ti_nat A
  omega
theorem al_2 (A : Int32) : A &&& 1 = 0 ↔ A - A / 2 * 2 = 0 := by
  rw [pk_and A (m := 1) 1 (by decide), show (0 : Int32) = nI 0 by decide, nI_eq (by omega) (by decide), ← Int32.toInt_inj (x := A - A / 2 * 2), rem_ti A 2 (Or.inl (by decide)), show (2 : Int32).toInt = 2 by decide, show (nI 0).toInt = 0 by decide, ← Int.dvd_iff_tmod_eq_zero]
  have := ti_nat A
  omega
theorem al_1 (A : Int32) : A - A / 1 * 1 = 0 := by
  have : A / 1 = A := by
    apply Int32.toInt_inj.mp
    rw [ti_div] <;> rw [ti_1, Int.tdiv_one]
    · exact (ti_bd A).1
    · exact (ti_bd A).2
  rw [this, Int32.mul_one, Int32.sub_self]
theorem al_b {A b : Int32} (hb : B3 b) : A &&& (b - 1) = 0 ↔ A - A / b * b = 0 := by
  rcases hb with rfl | rfl | rfl
  · constructor
    · intro _; exact al_1 A
    · intro _
      rw [show (1 : Int32) - 1 = 0 by decide, Int32.and_zero]
  · rw [show (2 : Int32) - 1 = 1 by decide]; exact al_2 A
  · rw [show (4 : Int32) - 1 = 3 by decide]; exact al_4 A
/-- where an aligned access may go: the two ways of saying it -/
theorem rng {α : Type} {A b : Int32} (hb : B3 b) (hal : A - A / b * b = 0) (X Y : α) : (if A - 268435456 < 0 then X else if A - 268435456 ≤ 256 - b then Y else X) = (if A < 268435456 then X else if A ≤ 268435711 then Y else X) := by
  have hbi : b.toInt = 1 ∨ b.toInt = 2 ∨ b.toInt = 4 := by
    rcases hb with rfl | rfl | rfl
    · exact Or.inl (by decide)
    · exact Or.inr (Or.inl (by decide))
    · exact Or.inr (Or.inr (by decide))
  have eb : ((256 : Int32) - b).toInt = 256 - b.toInt := by
    rw [ti_sub (by rw [show (256 : Int32).toInt = 256 by decide]; omega) (by rw [show (256 : Int32).toInt = 256 by decide]; omega), show (256 : Int32).toInt = 256 by decide]
  have hA := ti_bd A
  have hA2 := ti_bd (A - 268435456)
  have hc := sub_cases A 268435456
  rw [ti_D] at hc
  have e255 : (268435711 : Int32).toInt = 268435711 := by decide
  by_cases h1 : A < 268435456
  · rw [if_pos h1]
    rw [ti_lt, ti_D] at h1
    by_cases h2 : A - 268435456 < 0
    · rw [if_pos h2]
    · rw [if_neg h2]
      rw [ti_lt, ti_0] at h2
      rw [if_neg (by rw [ti_le, eb]; omega)]
  · rw [if_neg h1]
    by_cases h3 : A ≤ 268435711
    · have hl := ld_okM hb hal h1 h3
      rw [if_pos h3, if_neg (by rw [ti_lt, ti_0]; have := hl.1; omega), if_pos (by rw [ti_le, eb]; have := hl.2.2.2; omega)]
    · rw [if_neg h3]
      rw [ti_lt, ti_D] at h1
      rw [ti_le, e255] at h3
      by_cases h2 : A - 268435456 < 0
      · rw [if_pos h2]
      · rw [if_neg h2]
        rw [ti_lt, ti_0] at h2
        rw [if_neg (by rw [ti_le, eb]; omega)]
-- loads
theorem ld_eq {τ : SM} {t A b g : Int32} (hb : LD (A - 268435456) b) : ∀ (n : Nat) (x k : Int32), JUp b n k → LM_load t A b g n τ x k = (0, FM_put τ t (LG_load (ab τ) (A - 268435456) b g n x k)) := by
  intro n
  induction n with
  | zero => intro x k h; exact absurd h jup_0
  | succ n ih =>
    intro x k h
    rw [LM_load, LG_load]
    by_cases c : b ≤ k
    · rw [if_pos c, if_pos c]
      split <;> rfl
    · rw [if_neg c, if_neg c, ab_mm]
      exact ih _ _ (jup_b h c hb.2.2.1)
theorem ld_4 (σ : SG) (a : Int32) : ∀ (n : Nat) (x k : Int32), LG_load σ a 4 1 n x k = LG_load σ a 4 0 n x k := by
  intro n
  induction n with
  | zero => intro x k; rfl
  | succ n ih =>
    intro x k
    rw [LG_load, LG_load]
    split
    · rw [if_neg (by decide), if_pos rfl, show (32 : Int32) - 8 * 4 = 0 by decide, sb_shl0, sb_shr0]
    · exact ih _ _
theorem eq_loadG {τ : SM} {t A b g : Int32} (ht : vp_in t 34) (hz : Z0 τ) (hb : LD (A - 268435456) b) : FG_put (ab τ) t (FG_load (ab τ) (A - 268435456) b g) = ev (LM_load t A b g (b.toNatClampNeg + 1) τ 0 0) := by
  rw [ld_eq hb _ _ _ (jload_s (x := 0) hb).2, eq_put ht hz]
  rfl
theorem eq_load {τ : SM} {t A b g : Int32} (ht : vp_in t 34) (hz : Z0 τ) (hb : B3 b) : (if A &&& (b - 1) = 0 then (if A - 268435456 < 0 then ((3 : Int32), ab τ) else (if A - 268435456 ≤ 256 - b then FG_put (ab τ) t (FG_load (ab τ) (A - 268435456) b g) else ((3 : Int32), ab τ))) else ((2 : Int32), ab τ)) = ev (FM_load τ t A b g) := by
  unfold FM_load
  by_cases c : A - A / b * b = 0
  · rw [if_pos ((al_b hb).mpr c), if_pos c, rng hb c]
    by_cases h1 : A < 268435456
    · rw [if_pos h1, if_pos h1]; rfl
    · rw [if_neg h1, if_neg h1]
      by_cases h2 : A ≤ 268435711
      · rw [if_pos h2, if_pos h2]
        exact eq_loadG ht hz (ld_okM hb c h1 h2)
      · rw [if_neg h2, if_neg h2]; rfl
  · rw [if_neg (fun h => c ((al_b hb).mp h)), if_neg c]; rfl
