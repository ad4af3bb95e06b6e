-- what the counts of a GuestRunner keep to
def IG (σ : SG) : Prop := (¬ gdc σ < 0 ∧ (gdc σ).toInt ≤ 64) ∧ (¬ gtc σ < 0 ∧ (gtc σ).toInt ≤ 64) ∧ (¬ gic σ < 0 ∧ (gic σ).toInt ≤ 64) ∧ ¬ gir σ < 0 ∧ ¬ goc σ < 0 ∧ (goc σ).toInt ≤ 256
theorem inv_tc {σ : SG} (h : IG σ) : IG (stc σ (gdc σ)) := ⟨h.1, h.1, h.2.2⟩
theorem and31_in (x : Int32) : vp_in (x &&& 31) 34 := by
  obtain ⟨j, hj, e⟩ := pk_andE x (m := 31) 5 (by decide)
  rw [e]
  exact vp_in_nI (by omega) (by omega)
theorem in_sOf (w : Int32) : vp_in (FG_sOf w) 34 := and31_in _
theorem in_tOf (w : Int32) : vp_in (FG_tOf w) 34 := and31_in _
theorem in_dOf (w : Int32) : vp_in (FG_dOf w) 34 := and31_in _
theorem in_linkRegisterOf (w : Int32) : vp_in (FG_linkRegisterOf w) 34 := by
  unfold FG_linkRegisterOf
  repeat' split
  all_goals first | with_reducible exact in_dOf w | exact in_c (by decide)
theorem in_data {x : Int32} (h : ¬ FG_isDataIndex x = 0) : vp_in x 256 := by
  unfold FG_isDataIndex at h
  by_cases h1 : x < 0
  · rw [if_pos h1] at h; exact absurd rfl h
  · rw [if_neg h1] at h
    by_cases h2 : (256 : Int32) ≤ x
    · rw [if_pos h2] at h; exact absurd rfl h
    · exact in_ge0lt h1 (k2_lt h2) (by decide)
theorem in_text {σ : SG} {x : Int32} (hI : IG σ) (h : ¬ FG_isInText σ x = 0) : vp_in x 64 := by
  unfold FG_isInText at h
  by_cases h1 : x < 0
  · rw [if_pos h1] at h; exact absurd rfl h
  · rw [if_neg h1] at h
    by_cases h2 : gtc σ ≤ x
    · rw [if_pos h2] at h; exact absurd rfl h
    · exact in_ge0lt h1 (k2_lt h2) hI.2.1.2
def LD (a b : Int32) : Prop := 0 ≤ a.toInt ∧ 0 < b.toInt ∧ b.toInt ≤ 4 ∧ a.toInt + b.toInt ≤ 256
theorem bytes_in {op : Int32} (h : ¬ FG_bytesOfAccess op = 0) : FG_bytesOfAccess op = 1 ∨ FG_bytesOfAccess op = 2 ∨ FG_bytesOfAccess op = 4 := by
  revert h
  unfold FG_bytesOfAccess
  repeat' split
  all_goals decide
theorem ld_ok {op a : Int32} (h : ¬ FG_bytesOfAccess op = 0) (h0 : ¬ a < 0) (h1 : a ≤ 256 - FG_bytesOfAccess op) : LD a (FG_bytesOfAccess op) := by
  rw [ti_lt, ti_0] at h0
  rcases bytes_in h with e | e | e <;> rw [e] at h1 ⊢ <;> rw [ti_le] at h1
  · have e1 : ((256 : Int32) - 1).toInt = 255 := by decide
    exact ⟨by omega, by decide, by decide, by rw [show (1 : Int32).toInt = 1 by decide]; omega⟩
  · have e1 : ((256 : Int32) - 2).toInt = 254 := by decide
    exact ⟨by omega, by decide, by decide, by rw [show (2 : Int32).toInt = 2 by decide]; omega⟩
  · have e1 : ((256 : Int32) - 4).toInt = 252 := by decide
    exact ⟨by omega, by decide, by decide, by rw [show (4 : Int32).toInt = 4 by decide]; omega⟩
def JLoad (a b : Int32) (n : Nat) (_ x : Int32) : Prop := LD a b ∧ JUp b n x
theorem jload_0 {a b x y : Int32} (h : JLoad a b 0 x y) : False := jup_0 h.2
theorem jload_s {a b x : Int32} (h : LD a b) : JLoad a b (b.toNatClampNeg + 1) x 0 := by
  obtain ⟨h1, h2, h3, h4⟩ := h
  refine ⟨⟨h1, h2, h3, h4⟩, ?_, ?_, ?_⟩
  · rw [ti_0]; omega
  · rw [ti_0]; omega
  · rw [ti_0]
    have e : (b.toNatClampNeg : Int) = b.toInt := by
      rw [Int32.toNatClampNeg]; omega
    omega
theorem jload_b {a b x y z : Int32} {n : Nat} (h : JLoad a b (n + 1) x y) (hc : ¬ b ≤ y) : JLoad a b n z (y + 1) := ⟨h.1, jup_b h.2 hc h.1.2.2.1⟩
theorem jload_in {a b x y : Int32} {n : Nat} (h : JLoad a b (n + 1) x y) (hc : ¬ b ≤ y) : vp_in (a + y) 256 := by
  obtain ⟨⟨h1, h2, h3, h4⟩, h5, h6, h7⟩ := h
  rw [ti_le] at hc
  have e : (a + y).toInt = a.toInt + y.toInt := ti_add (by omega) (by omega)
  exact vp_in_iff.mpr ⟨by omega, by omega⟩
def JStore (a b : Int32) (n : Nat) (x : Int32) : Prop := LD a b ∧ -1 ≤ x.toInt ∧ x.toInt < b.toInt ∧ x.toInt + 2 ≤ n
theorem jstore_0 {a b x : Int32} (h : JStore a b 0 x) : False := by
  obtain ⟨-, h1, h2, h3⟩ := h
  omega
theorem jstore_s {a b : Int32} (h : LD a b) : JStore a b (b.toNatClampNeg + 1) (b - 1) := by
  obtain ⟨h1, h2, h3, h4⟩ := h
  have e : (b.toNatClampNeg : Int) = b.toInt := by
    rw [Int32.toNatClampNeg]; omega
  have e2 : (b - 1).toInt = b.toInt - 1 := by
    rw [ti_sub (by rw [ti_1]; omega) (by rw [ti_1]; omega), ti_1]
  exact ⟨⟨h1, h2, h3, h4⟩, by omega, by omega, by omega⟩
theorem jstore_b {a b x : Int32} {n : Nat} (h : JStore a b (n + 1) x) (hc : ¬ x < 0) : JStore a b n (x + (-1)) := by
  obtain ⟨hl, h1, h2, h3⟩ := h
  rw [ti_lt, ti_0] at hc
  have em : (-1 : Int32).toInt = -1 := by decide
  have hb := hl.2.2.1
  have e2 : (x + (-1)).toInt = x.toInt + (-1) := by
    rw [ti_add (by rw [em]; omega) (by rw [em]; omega), em]
  exact ⟨hl, by omega, by omega, by omega⟩
theorem jstore_in {a b x : Int32} {n : Nat} (h : JStore a b (n + 1) x) (hc : ¬ x < 0) : vp_in (a + x) 256 := by
  obtain ⟨⟨h1, h2, h3, h4⟩, h5, h6, h7⟩ := h
  rw [ti_lt, ti_0] at hc
  have e : (a + x).toInt = a.toInt + x.toInt := ti_add (by omega) (by omega)
  exact vp_in_iff.mpr ⟨by omega, by omega⟩
theorem jup_s {x : Int32} (h : ¬ x < 0 ∧ x.toInt ≤ 64) : JUp x 66 0 := by
  obtain ⟨h1, h2⟩ := h
  rw [ti_lt, ti_0] at h1
  exact ⟨by rw [ti_0]; omega, by rw [ti_0]; omega, by rw [ti_0]; omega⟩
theorem jup_s34 : JUp 34 36 0 := ⟨by decide, by decide, by decide⟩
def JRun (a : Int32) (n : Nat) (x : Int32) : Prop := a.toInt ≤ 2000 ∧ 0 ≤ x.toInt ∧ x.toInt ≤ a.toInt + 1 ∧ a.toInt + 2 ≤ x.toInt + n
theorem jrun_0 {a x : Int32} (h : JRun a 0 x) : False := by
  obtain ⟨-, h1, h2, h3⟩ := h
  omega
theorem jrun_s {a : Int32} (h1 : ¬ a < 1) (h2 : a ≤ 2000) : JRun a 2003 0 := by
  rw [ti_lt, ti_1] at h1
  rw [ti_le, show (2000 : Int32).toInt = 2000 by decide] at h2
  exact ⟨by omega, by rw [ti_0]; omega, by rw [ti_0]; omega, by rw [ti_0]; omega⟩
theorem jrun_b {a x : Int32} {n : Nat} (h : JRun a (n + 1) x) (hc : ¬ a < x) : JRun a n (x + 1) := by
  obtain ⟨h0, h1, h2, h3⟩ := h
  rw [ti_lt] at hc
  have e : (x + 1).toInt = x.toInt + 1 := by
    rw [ti_add (by rw [ti_1]; omega) (by rw [ti_1]; omega), ti_1]
  exact ⟨h0, by omega, by omega, by omega⟩
-- the counts are kept
theorem igs_dr {σ : SG} {v : (Nat → Int32)} (h : IG σ) : IG (sdr σ v) := h
theorem igs_tx {σ : SG} {v : (Nat → Int32)} (h : IG σ) : IG (stx σ v) := h
theorem igs_rg {σ : SG} {v : (Nat → Int32)} (h : IG σ) : IG (srg σ v) := h
theorem igs_mm {σ : SG} {v : (Nat → Int32)} (h : IG σ) : IG (smm σ v) := h
theorem igs_ti {σ : SG} {v : (Nat → Int32)} (h : IG σ) : IG (sti σ v) := h
theorem igs_to {σ : SG} {v : (Nat → Int32)} (h : IG σ) : IG (sto σ v) := h
theorem igs_pc {σ : SG} {v : Int32} (h : IG σ) : IG (spc σ v) := h
theorem igs_us {σ : SG} {v : Int32} (h : IG σ) : IG (sus σ v) := h
theorem igs_ou {σ : SG} {v : Int32} (h : IG σ) : IG (sou σ v) := h
theorem igs_ec {σ : SG} {v : Int32} (h : IG σ) : IG (sec σ v) := h
theorem igP {c : Prop} [Decidable c] {a b : Int32 × SG} (ha : IG a.2) (hb : IG b.2) : IG (if c then a else b).2 := by
  split
  · exact ha
  · exact hb
theorem inv_put {σ : SG} {k v : Int32} (h : IG σ) : IG (FG_put σ k v).2 := by
  unfold FG_put
  repeat' (with_reducible refine igP ?_ ?_)
  all_goals first | with_reducible exact h | with_reducible exact igs_rg h
theorem inc_ok {x : Int32} {k : Int} (h0 : ¬ x < 0) (h1 : x.toInt < k) (hk : k ≤ 100000) : ¬ x + 1 < 0 ∧ (x + 1).toInt ≤ k := by
  rw [ti_lt, ti_0] at h0 ⊢
  have e : (x + 1).toInt = x.toInt + 1 := by
    rw [ti_add (by rw [ti_1]; omega) (by rw [ti_1]; omega), ti_1]
  omega
theorem inv_readByte {σ : SG} (h : IG σ) : IG (FG_readByte σ).2 := by
  unfold FG_readByte
  split
  · rename_i c
    refine inv_put ⟨h.1, h.2.1, h.2.2.1, (inc_ok (k := 64) h.2.2.2.1 ?_ (by decide)).1, h.2.2.2.2⟩
    rw [ti_lt] at c
    have := h.2.2.1.2
    omega
  · exact inv_put h
theorem inv_writeByte {σ : SG} (h : IG σ) : IG (FG_writeByte σ).2 := by
  unfold FG_writeByte
  split
  · exact h
  · rename_i c
    rw [ti_le, show (256 : Int32).toInt = 256 by decide] at c
    exact ⟨h.1, h.2.1, h.2.2.1, h.2.2.2.1, inc_ok (k := 256) h.2.2.2.2.1 (by omega) (by decide)⟩
theorem inv_performSystem {σ : SG} (h : IG σ) : IG (FG_performSystem σ).2 := by
  unfold FG_performSystem
  repeat' (with_reducible refine igP ?_ ?_)
  all_goals first | with_reducible exact inv_readByte h | with_reducible exact inv_writeByte h | with_reducible exact h | with_reducible exact igs_ou (igs_ec h)
theorem inv_putUnlessOverflow {σ : SG} {k : Int32} {v : Int64} (h : IG σ) : IG (FG_putUnlessOverflow σ k v).2 := by
  unfold FG_putUnlessOverflow
  repeat' (with_reducible refine igP ?_ ?_)
  all_goals first | with_reducible exact inv_put h | with_reducible exact h
theorem inv_putProduct {σ : SG} {v : Int64} (h : IG σ) : IG (FG_putProduct σ v).2 := by
  unfold FG_putProduct
  exact inv_put (inv_put h)
theorem inv_divide {σ : SG} {v w : Int64} (h : IG σ) : IG (FG_divide σ v w).2 := by
  unfold FG_divide
  repeat' (with_reducible refine igP ?_ ?_)
  all_goals with_reducible exact inv_put (inv_put h)
theorem inv_performShift {σ : SG} {w : Int32} (h : IG σ) : IG (FG_performShift σ w).2 := by
  unfold FG_performShift
  repeat' (with_reducible refine igP ?_ ?_)
  all_goals first | with_reducible exact h | with_reducible exact inv_put h
theorem inv_performHiLo {σ : SG} {w : Int32} (h : IG σ) : IG (FG_performHiLo σ w).2 := by
  unfold FG_performHiLo
  repeat' (with_reducible refine igP ?_ ?_)
  all_goals first | with_reducible exact h | with_reducible exact inv_put h | with_reducible exact inv_putProduct h | with_reducible exact inv_divide h
theorem inv_performArithmetic {σ : SG} {w : Int32} (h : IG σ) : IG (FG_performArithmetic σ w).2 := by
  unfold FG_performArithmetic
  repeat' (with_reducible refine igP ?_ ?_)
  all_goals first | with_reducible exact h | with_reducible exact inv_put h | with_reducible exact inv_putUnlessOverflow h
theorem inv_performImmediate {σ : SG} {w : Int32} (h : IG σ) : IG (FG_performImmediate σ w).2 := by
  unfold FG_performImmediate
  repeat' (with_reducible refine igP ?_ ?_)
  all_goals first | with_reducible exact h | with_reducible exact inv_put h | with_reducible exact inv_putUnlessOverflow h
theorem inv_performFunction {σ : SG} {w : Int32} (h : IG σ) : IG (FG_performFunction σ w).2 := by
  unfold FG_performFunction
  repeat' (with_reducible refine igP ?_ ?_)
  all_goals first | with_reducible exact h | with_reducible exact inv_performSystem h | with_reducible exact inv_performShift h | with_reducible exact inv_performHiLo h | with_reducible exact inv_performArithmetic h
theorem inv_LG_store (a1 a2 a3 : Int32) : ∀ (n : Nat) (σ : SG) (x4 x5 : Int32), IG σ → IG (LG_store a1 a2 a3 n σ x4 x5).2 := by
  intro n
  induction n with
  | zero => intro σ x4 x5 h; exact h
  | succ n ih =>
    intro σ x4 x5 h
    rw [LG_store]
    split
    · exact h
    · exact ih _ _ _ (igs_mm h)
theorem inv_store {σ : SG} {a b c : Int32} (h : IG σ) : IG (FG_store σ a b c).2 := by
  unfold FG_store
  exact inv_LG_store _ _ _ _ _ _ _ h
theorem inv_performAccess {σ : SG} {w : Int32} (h : IG σ) : IG (FG_performAccess σ w).2 := by
  unfold FG_performAccess
  repeat' (with_reducible refine igP ?_ ?_)
  all_goals first | with_reducible exact h | with_reducible exact inv_put h | with_reducible exact inv_store h
theorem inv_perform {σ : SG} {w : Int32} (h : IG σ) : IG (FG_perform σ w).2 := by
  unfold FG_perform
  repeat' (with_reducible refine igP ?_ ?_)
  all_goals first | with_reducible exact inv_performFunction h | with_reducible exact inv_performAccess h | with_reducible exact inv_performImmediate h
theorem inv_stepOfOne {σ : SG} {w : Int32} (h : IG σ) : IG (FG_stepOfOne σ w).2 := by
  unfold FG_stepOfOne
  repeat' (with_reducible refine igP ?_ ?_)
  all_goals first | with_reducible exact inv_perform h | with_reducible exact igs_pc (inv_perform h)
theorem inv_stepOfTwo {σ : SG} {w : Int32} (h : IG σ) : IG (FG_stepOfTwo σ w).2 := by
  unfold FG_stepOfTwo
  repeat' (with_reducible refine igP ?_ ?_)
  all_goals first | with_reducible exact h | with_reducible exact igs_pc (inv_perform (inv_put h)) | with_reducible exact igs_rg (inv_perform (inv_put h))
