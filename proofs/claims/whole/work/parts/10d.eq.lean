-- stores
theorem jz (v : Int32) : jushr v 0 = v := by
  apply Int32.toBitVec_inj.mp
  apply BitVec.eq_of_toNat_eq
  unfold jushr
  rw [pk_ushr v 0 0 (by decide)]
  simp
theorem jadd (v : Int32) (a b c : Int32) (i j k : Nat) (ha : ((a.toUInt32 &&& Int32.toUInt32 31).toBitVec % 32).toNat = i) (hb : ((b.toUInt32 &&& Int32.toUInt32 31).toBitVec % 32).toNat = j) (hc : ((c.toUInt32 &&& Int32.toUInt32 31).toBitVec % 32).toNat = k) (h : i + j = k) : jushr (jushr v a) b = jushr v c := by
  apply Int32.toBitVec_inj.mp
  apply BitVec.eq_of_toNat_eq
  unfold jushr
  rw [pk_ushr _ b j hb, pk_ushr v a i ha, pk_ushr v c k hc, Nat.div_div_eq_div_mul, ← Nat.pow_add, h]
theorem j88 (v : Int32) : jushr (jushr v 8) 8 = jushr v 16 := jadd v 8 8 16 8 8 16 (by decide) (by decide) (by decide) rfl
theorem j168 (v : Int32) : jushr (jushr v 16) 8 = jushr v 24 := jadd v 16 8 24 16 8 24 (by decide) (by decide) (by decide) rfl
theorem lgs {a b v : Int32} (n : Nat) {σ : SG} {x k : Int32} (h : ¬ k < 0) : LG_store a b v (n + 1) σ x k = LG_store a b v n (smm σ (upd (gmm σ) (Int32.toNatClampNeg (a + k)) (x &&& 255))) (jushr x 8) (k + (-1)) := by
  rw [LG_store, if_neg h]
theorem lgs0 {a b v : Int32} (n : Nat) {σ : SG} {x k : Int32} (h : k < 0) : LG_store a b v (n + 1) σ x k = (0, σ) := by
  rw [LG_store, if_pos h]
theorem lms {v A b : Int32} (n : Nat) {τ : SM} {k : Int32} (h : ¬ b ≤ k) : LM_store v A b (n + 1) τ k = LM_store v A b n (smby τ (upd (gmby τ) (Int32.toNatClampNeg ((A - 268435456) + k)) (jushr v (8 * ((b - 1) - k)) &&& 255))) (k + 1) := by
  rw [LM_store, if_neg h]
theorem lms0 {v A b : Int32} (n : Nat) {τ : SM} {k : Int32} (h : b ≤ k) : LM_store v A b (n + 1) τ k = (0, τ) := by
  rw [LM_store, if_pos h]
theorem ixn {a : Int32} {p i : Nat} (ha : a = nI p) (hp : p + i < 2 ^ 31) (k : Int32) (hk : k = nI i) : Int32.toNatClampNeg (a + k) = p + i := by
  rw [ha, hk, nI_add, nI_clamp hp]
theorem st_1 {τ : SM} {v A : Int32} : FG_store (ab τ) (A - 268435456) 1 v = ev (LM_store v A 1 (Int32.toNatClampNeg 1 + 1) τ 0) := by
  unfold FG_store
  rw [show Int32.toNatClampNeg 1 + 1 = 2 by decide, show (1 : Int32) - 1 = 0 by decide, lgs 1 (by decide), lgs0 0 (by decide), lms 1 (by decide), lms0 0 (by decide), show (8 : Int32) * (1 - 1 - 0) = 0 by decide, jz]
  rfl
theorem st_2 {τ : SM} {v A : Int32} (hl : LD (A - 268435456) 2) : FG_store (ab τ) (A - 268435456) 2 v = ev (LM_store v A 2 (Int32.toNatClampNeg 2 + 1) τ 0) := by
  obtain ⟨h1, -, -, h4⟩ := hl
  rw [show (2 : Int32).toInt = 2 by decide] at h4
  unfold FG_store
  rw [show Int32.toNatClampNeg 2 + 1 = 3 by decide, show (2 : Int32) - 1 = 1 by decide, lgs 2 (by decide), show (1 : Int32) + (-1) = 0 by decide, lgs 1 (by decide), lgs0 0 (by decide), lms 2 (by decide), show (0 : Int32) + 1 = 1 by decide, lms 1 (by decide), lms0 0 (by decide), show (8 : Int32) * (2 - 1 - 0) = 8 by decide, show (8 : Int32) * (2 - 1 - 1) = 0 by decide, jz]
  generalize A - 268435456 = a at h1 h4
  obtain ⟨p, hp, ha⟩ := nI_of (x := a) (by rw [ti_lt, ti_0]; omega)
  have hpi : a.toInt = p := by rw [ha]; exact nI_toInt hp
  have i0 := ixn (i := 0) ha (by omega) 0 (by decide)
  have i1 := ixn (i := 1) ha (by omega) 1 (by decide)
  have e : upd (upd (gmby τ) (Int32.toNatClampNeg (a + 1)) (v &&& 255)) (Int32.toNatClampNeg (a + 0)) (jushr v 8 &&& 255) = upd (upd (gmby τ) (Int32.toNatClampNeg (a + 0)) (jushr v 8 &&& 255)) (Int32.toNatClampNeg (a + 1)) (v &&& 255) := by
    rw [i0, i1]
    exact upd_comm _ (by omega) _ _
  exact congrArg (fun f => ((0 : Int32), ab (smby τ f))) e
theorem st_4 {τ : SM} {v A : Int32} (hl : LD (A - 268435456) 4) : FG_store (ab τ) (A - 268435456) 4 v = ev (LM_store v A 4 (Int32.toNatClampNeg 4 + 1) τ 0) := by
  obtain ⟨h1, -, -, h4⟩ := hl
  rw [show (4 : Int32).toInt = 4 by decide] at h4
  unfold FG_store
  rw [show Int32.toNatClampNeg 4 + 1 = 5 by decide, show (4 : Int32) - 1 = 3 by decide, lgs 4 (by decide), show (3 : Int32) + (-1) = 2 by decide, lgs 3 (by decide), show (2 : Int32) + (-1) = 1 by decide, lgs 2 (by decide), show (1 : Int32) + (-1) = 0 by decide, lgs 1 (by decide), lgs0 0 (by decide),
    lms 4 (by decide), show (0 : Int32) + 1 = 1 by decide, lms 3 (by decide), show (1 : Int32) + 1 = 2 by decide, lms 2 (by decide), show (2 : Int32) + 1 = 3 by decide, lms 1 (by decide), lms0 0 (by decide),
    show (8 : Int32) * (4 - 1 - 0) = 24 by decide, show (8 : Int32) * (4 - 1 - 1) = 16 by decide, show (8 : Int32) * (4 - 1 - 2) = 8 by decide, show (8 : Int32) * (4 - 1 - 3) = 0 by decide, jz, j88, j168]
  generalize A - 268435456 = a at h1 h4
  obtain ⟨p, hp, ha⟩ := nI_of (x := a) (by rw [ti_lt, ti_0]; omega)
  have hpi : a.toInt = p := by rw [ha]; exact nI_toInt hp
  have i0 := ixn (i := 0) ha (by omega) 0 (by decide)
  have i1 := ixn (i := 1) ha (by omega) 1 (by decide)
  have i2 := ixn (i := 2) ha (by omega) 2 (by decide)
  have i3 := ixn (i := 3) ha (by omega) 3 (by decide)
  have e : upd (upd (upd (upd (gmby τ) (Int32.toNatClampNeg (a + 3)) (v &&& 255)) (Int32.toNatClampNeg (a + 2)) (jushr v 8 &&& 255)) (Int32.toNatClampNeg (a + 1)) (jushr v 16 &&& 255)) (Int32.toNatClampNeg (a + 0)) (jushr v 24 &&& 255) = upd (upd (upd (upd (gmby τ) (Int32.toNatClampNeg (a + 0)) (jushr v 24 &&& 255)) (Int32.toNatClampNeg (a + 1)) (jushr v 16 &&& 255)) (Int32.toNatClampNeg (a + 2)) (jushr v 8 &&& 255)) (Int32.toNatClampNeg (a + 3)) (v &&& 255) := by
    rw [i0, i1, i2, i3]
    funext j
    unfold upd
    by_cases c0 : j = p
    · subst c0; simp
    · by_cases c1 : j = p + 1
      · subst c1; simp
      · by_cases c2 : j = p + 2
        · subst c2; simp
        · by_cases c3 : j = p + 3
          · subst c3; simp
          · simp [c0, c1, c2, c3]
  exact congrArg (fun f => ((0 : Int32), ab (smby τ f))) e
theorem st_b {τ : SM} {v A b : Int32} (hb : B3 b) (hl : LD (A - 268435456) b) : FG_store (ab τ) (A - 268435456) b v = ev (LM_store v A b (b.toNatClampNeg + 1) τ 0) := by
  rcases hb with rfl | rfl | rfl
  · exact st_1
  · exact st_2 hl
  · exact st_4 hl
theorem eq_store {τ : SM} {v A b : Int32} (hI : IM τ) (hb : B3 b) : (if A &&& (b - 1) = 0 then (if A - 268435456 < 0 then (if FG_isTextAddress (ab τ) A = 0 then ((3 : Int32), ab τ) else ((6 : Int32), ab τ)) else (if A - 268435456 ≤ 256 - b then FG_store (ab τ) (A - 268435456) b v else (if FG_isTextAddress (ab τ) A = 0 then ((3 : Int32), ab τ) else ((6 : Int32), ab τ)))) else ((2 : Int32), ab τ)) = ev (FM_store τ v A b) := by
  unfold FM_store
  by_cases c : A - A / b * b = 0
  · rw [if_pos ((al_b hb).mpr c), if_pos c, rng hb c, eq_isText hI]
    by_cases h1 : A < 268435456
    · rw [if_pos h1, if_pos h1]
      split <;> rfl
    · rw [if_neg h1, if_neg h1]
      by_cases h2 : A ≤ 268435711
      · rw [if_pos h2, if_pos h2]
        exact st_b hb (ld_okM hb c h1 h2)
      · rw [if_neg h2, if_neg h2]
        split <;> rfl
  · rw [if_neg (fun h => c ((al_b hb).mp h)), if_neg c]; rfl
