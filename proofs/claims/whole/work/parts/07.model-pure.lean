def IM (σ : SM) : Prop := (¬ gmts σ < 0 ∧ (gmts σ).toInt ≤ 64) ∧ (¬ gmsz σ < 0 ∧ (gmsz σ).toInt ≤ 64) ∧ (¬ gmis σ < 0 ∧ (gmis σ).toInt ≤ 64) ∧ ¬ gmia σ < 0 ∧ ¬ gmos σ < 0 ∧ (gmos σ).toInt ≤ 256
theorem ims_mty {σ : SM} {v : (Nat → Int32)} (h : IM σ) : IM (smty σ v) := h
theorem ims_mtx {σ : SM} {v : (Nat → Int32)} (h : IM σ) : IM (smtx σ v) := h
theorem ims_mby {σ : SM} {v : (Nat → Int32)} (h : IM σ) : IM (smby σ v) := h
theorem ims_min {σ : SM} {v : (Nat → Int32)} (h : IM σ) : IM (smin σ v) := h
theorem ims_mou {σ : SM} {v : (Nat → Int32)} (h : IM σ) : IM (smou σ v) := h
theorem ims_mrg {σ : SM} {v : (Nat → Int32)} (h : IM σ) : IM (smrg σ v) := h
theorem ims_mpc {σ : SM} {v : Int32} (h : IM σ) : IM (smpc σ v) := h
theorem ims_mus {σ : SM} {v : Int32} (h : IM σ) : IM (smus σ v) := h
theorem ims_men {σ : SM} {v : Int32} (h : IM σ) : IM (smen σ v) := h
theorem ims_mtr {σ : SM} {v : Int32} (h : IM σ) : IM (smtr σ v) := h
theorem ims_mex {σ : SM} {v : Int32} (h : IM σ) : IM (smex σ v) := h
theorem ims_mgo {σ : SM} {v : Int32} (h : IM σ) : IM (smgo σ v) := h
theorem ims_mgl {σ : SM} {v : Int32} (h : IM σ) : IM (smgl σ v) := h
theorem ims_mlk {σ : SM} {v : Int32} (h : IM σ) : IM (smlk σ v) := h
theorem gs_mlk (σ : SM) (v : Int32) : gmlk (smlk σ v) = v := rfl
theorem gk_go (σ : SM) (v : Int32) : gmlk (smgo σ v) = gmlk σ := rfl
theorem gk_gl (σ : SM) (v : Int32) : gmlk (smgl σ v) = gmlk σ := rfl
theorem gs_mtr3 (σ : SM) (v a b : Int32) : gmtr (smus (smpc (smtr σ v) a) b) = v := rfl
theorem gs_mtr2 (σ : SM) (v a : Int32) : gmtr (smus (smtr σ v) a) = v := rfl
theorem imv_sz {σ : SM} (h : IM σ) : IM (smsz σ (gmts σ)) := ⟨h.1, h.1, h.2.2⟩
theorem im_first (w : Int32) : vp_in (FM_first w) 34 := and31_in _
theorem im_second (w : Int32) : vp_in (FM_second w) 34 := and31_in _
theorem im_third (w : Int32) : vp_in (FM_third w) 34 := and31_in _
def B3 (b : Int32) : Prop := b = 1 ∨ b = 2 ∨ b = 4
theorem b3_1 : B3 1 := Or.inl rfl
theorem b3_2 : B3 2 := Or.inr (Or.inl rfl)
theorem b3_4 : B3 4 := Or.inr (Or.inr rfl)
theorem b3_ne {b : Int32} (h : B3 b) : ¬ b = 0 := by
  rcases h with e | e | e <;> rw [e] <;> decide
theorem in_ne {x y : Int32} {n : Nat} (h0 : ¬ x < 0) (h1 : x.toInt ≤ n) (h2 : ¬ x = y) (h3 : y.toInt = n) : vp_in x n := by
  rw [ti_lt, ti_0] at h0
  have : x.toInt ≠ y.toInt := fun e => h2 (Int32.toInt_inj.mp e)
  exact vp_in_iff.mpr ⟨by omega, by omega⟩
theorem in_ge0le {x y : Int32} {n : Nat} (h0 : ¬ x < 0) (h1 : ¬ y < x) (h2 : y.toInt < n) : vp_in x n := by
  rw [ti_lt, ti_0] at h0
  rw [ti_lt] at h1
  exact vp_in_iff.mpr ⟨by omega, by omega⟩
theorem in_ge1le {x y : Int32} {n : Nat} (h0 : ¬ x < 1) (h1 : x ≤ y) (h2 : y.toInt < n) : vp_in x n := by
  rw [ti_lt, ti_1] at h0
  rw [ti_le] at h1
  exact vp_in_iff.mpr ⟨by omega, by omega⟩
theorem im_slot {σ : SM} (hI : IM σ) (h : vp_in (gmpc σ) 64) (hc : gmpc σ + 1 < gmsz σ) : vp_in (gmpc σ + 1) 64 := by
  obtain ⟨h1, h2⟩ := vp_in_iff.mp h
  have e : (gmpc σ + 1).toInt = (gmpc σ).toInt + 1 := by
    rw [ti_add (by rw [ti_1]; omega) (by rw [ti_1]; omega), ti_1]
  rw [ti_lt] at hc
  have := hI.2.1.2
  exact vp_in_iff.mpr ⟨by omega, by omega⟩
theorem i64_ne {x : Int32} (h : ¬ x = 0) : ¬ Int32.toInt64 x = 0 := fun e => h (by
  have e2 := congrArg Int64.toInt e
  rw [Int32.toInt_toInt64] at e2
  exact Int32.toInt_inj.mp (by rw [e2]; decide))
theorem ld_okM {a b : Int32} (hb : B3 b) (h : a - a / b * b = 0) (h0 : ¬ a < 268435456) (h1 : a ≤ 268435711) : LD (a - 268435456) b := by
  have eD : (268435456 : Int32).toInt = 268435456 := by decide
  rw [ti_lt, eD] at h0
  rw [ti_le, show (268435711 : Int32).toInt = 268435711 by decide] at h1
  have e : (a - 268435456).toInt = a.toInt - 268435456 := by
    rw [ti_sub (by rw [eD]; omega) (by rw [eD]; omega), eD]
  obtain ⟨j, hj, ea⟩ := nI_of (x := a) (by rw [ti_lt, ti_0]; omega)
  have eja : a.toInt = j := by rw [ea]; exact nI_toInt hj
  rcases hb with rfl | rfl | rfl
  · exact ⟨by omega, by decide, by decide, by rw [show (1 : Int32).toInt = 1 by decide]; omega⟩
  · rw [ea, show (2 : Int32) = nI 2 by decide, pk_rem hj (by decide) (by decide), show (0 : Int32) = nI 0 by decide, nI_eq (by omega) (by decide)] at h
    exact ⟨by omega, by decide, by decide, by rw [show (2 : Int32).toInt = 2 by decide]; omega⟩
  · rw [ea, show (4 : Int32) = nI 4 by decide, pk_rem hj (by decide) (by decide), show (0 : Int32) = nI 0 by decide, nI_eq (by omega) (by decide)] at h
    exact ⟨by omega, by decide, by decide, by rw [show (4 : Int32).toInt = 4 by decide]; omega⟩
theorem imP {c : Prop} [Decidable c] {a b : Int32 × SM} (ha : IM a.2) (hb : IM b.2) : IM (if c then a else b).2 := by
  split
  · exact ha
  · exact hb
theorem imQ {c : Prop} [Decidable c] {a b : SM} (ha : IM a) (hb : IM b) : IM (if c then a else b) := by
  split
  · exact ha
  · exact hb
theorem imv_put {σ : SM} {k v : Int32} (h : IM σ) : IM (FM_put σ k v) := by
  unfold FM_put
  repeat' (with_reducible refine imQ ?_ ?_)
  all_goals with_reducible exact ims_mrg h
theorem imv_aim {σ : SM} {w : Int32} (h : IM σ) : IM (FM_aim σ w) := by
  unfold FM_aim
  repeat' (with_reducible refine imQ ?_ ?_)
  all_goals repeat' (first | with_reducible exact h | with_reducible refine ims_mlk ?_ | with_reducible refine ims_mgl ?_ | with_reducible refine ims_mgo ?_)
theorem im_lk1 (σ : SM) (w : Int32) : vp_in (gmlk (FM_aim σ w)) 34 := by
  unfold FM_aim
  repeat' split
  all_goals simp only [gs_mlk, gk_go, gk_gl]
  all_goals first | with_reducible exact im_third w | exact in_c (by decide)
-- what an instruction that leads nowhere keeps: where the program is, and where it was to go
def KM (σ τ : SM) : Prop := gmlk τ = gmlk σ ∧ gmgo τ = gmgo σ ∧ gmgl τ = gmgl σ ∧ gmpc τ = gmpc σ ∧ gmsz τ = gmsz σ ∧ gmtx τ = gmtx σ ∧ gmtr τ = gmtr σ ∧ gmus τ = gmus σ
theorem kmP {c : Prop} [Decidable c] {σ : SM} {a b : Int32 × SM} (ha : KM σ a.2) (hb : KM σ b.2) : KM σ (if c then a else b).2 := by
  split
  · exact ha
  · exact hb
theorem km_rf (σ : SM) : KM σ σ := ⟨rfl, rfl, rfl, rfl, rfl, rfl, rfl, rfl⟩
theorem km_rg (σ : SM) (f : Nat → Int32) : KM σ (smrg σ f) := ⟨rfl, rfl, rfl, rfl, rfl, rfl, rfl, rfl⟩
theorem km_halves (σ : SM) (v : Int64) : KM σ (FM_halves σ v) := by
  unfold FM_halves
  exact km_rg _ _
theorem km_put (σ : SM) (k v : Int32) : KM σ (FM_put σ k v) := by
  unfold FM_put
  repeat' split
  all_goals exact ⟨rfl, rfl, rfl, rfl, rfl, rfl, rfl, rfl⟩
theorem km_system (σ : SM) : KM σ (FM_system σ).2 := by
  unfold FM_system
  repeat' split
  all_goals exact ⟨rfl, rfl, rfl, rfl, rfl, rfl, rfl, rfl⟩
theorem km_sum (σ : SM) (k : Int32) (v : Int64) : KM σ (FM_sum σ k v).2 := by
  unfold FM_sum
  repeat' (with_reducible refine kmP ?_ ?_)
  all_goals first | with_reducible exact km_put _ _ _ | with_reducible exact km_rf _
theorem km_divide (σ : SM) (k v : Int32) : KM σ (FM_divide σ k v) := by
  unfold FM_divide
  repeat' split
  all_goals exact ⟨rfl, rfl, rfl, rfl, rfl, rfl, rfl, rfl⟩
theorem km_divideBare (σ : SM) (k v : Int32) : KM σ (FM_divideBare σ k v) := by
  unfold FM_divideBare
  repeat' split
  all_goals exact ⟨rfl, rfl, rfl, rfl, rfl, rfl, rfl, rfl⟩
theorem km_byFunction (σ : SM) (w : Int32) : KM σ (FM_byFunction σ w).2 := by
  unfold FM_byFunction
  repeat' (with_reducible refine kmP ?_ ?_)
  all_goals first | with_reducible exact km_rf _ | with_reducible exact km_put _ _ _ | with_reducible exact km_system _ | with_reducible exact km_sum _ _ _ | with_reducible exact km_divide _ _ _ | with_reducible exact km_divideBare _ _ _ | with_reducible exact km_halves _ _ | with_reducible exact km_rg _ _
theorem km_LM_load (a1 a2 a3 a4 : Int32) (σ : SM) : ∀ (n : Nat) (x5 x6 : Int32), KM σ (LM_load a1 a2 a3 a4 n σ x5 x6).2 := by
  intro n
  induction n with
  | zero => intro x5 x6; exact km_rf _
  | succ n ih =>
    intro x5 x6
    rw [LM_load]
    repeat' split
    all_goals first | with_reducible exact km_put _ _ _ | with_reducible exact ih _ _
theorem km_load (σ : SM) (a1 a2 a3 a4 : Int32) : KM σ (FM_load σ a1 a2 a3 a4).2 := by
  unfold FM_load
  repeat' (with_reducible refine kmP ?_ ?_)
  all_goals first | with_reducible exact km_rf _ | with_reducible exact km_LM_load _ _ _ _ _ _ _ _
theorem km_LM_store (a1 a2 a3 : Int32) (σ0 : SM) : ∀ (n : Nat) (σ : SM) (x4 : Int32), KM σ0 σ → KM σ0 (LM_store a1 a2 a3 n σ x4).2 := by
  intro n
  induction n with
  | zero => intro σ x4 h; exact h
  | succ n ih =>
    intro σ x4 h
    rw [LM_store]
    split
    · exact h
    · exact ih _ _ ⟨h.1, h.2.1, h.2.2.1, h.2.2.2.1, h.2.2.2.2.1, h.2.2.2.2.2.1, h.2.2.2.2.2.2.1, h.2.2.2.2.2.2.2⟩
theorem km_store (σ : SM) (a1 a2 a3 : Int32) : KM σ (FM_store σ a1 a2 a3).2 := by
  unfold FM_store
  repeat' (with_reducible refine kmP ?_ ?_)
  all_goals first | with_reducible exact km_rf _ | with_reducible exact km_LM_store _ _ _ _ _ _ _ (km_rf _)
theorem km_atOnce (σ : SM) (w : Int32) : KM σ (FM_atOnce σ w).2 := by
  unfold FM_atOnce
  repeat' (with_reducible refine kmP ?_ ?_)
  all_goals first | with_reducible exact km_rf _ | with_reducible exact km_put _ _ _ | with_reducible exact km_byFunction _ _ | with_reducible exact km_sum _ _ _ | with_reducible exact km_load _ _ _ _ _ | with_reducible exact km_store _ _ _ _
theorem im_lk2 (σ : SM) (w k v z : Int32) : vp_in (gmlk (FM_atOnce (FM_put (FM_aim σ w) k v) z).2) 34 := by
  rw [(km_atOnce _ _).1, (km_put _ _ _).1]
  exact im_lk1 σ w
theorem imv_system {σ : SM} (h : IM σ) : IM (FM_system σ).2 := by
  unfold FM_system
  split
  · split
    · refine ⟨h.1, h.2.1, h.2.2.1, ?_, h.2.2.2.2⟩
      show ¬ gmia σ + 0 < 0
      rw [Int32.add_zero]
      exact h.2.2.2.1
    · rename_i c
      rw [ti_le] at c
      have := h.2.2.1.2
      exact ⟨h.1, h.2.1, h.2.2.1, (inc_ok (k := 64) h.2.2.2.1 (by omega) (by decide)).1, h.2.2.2.2⟩
  · split
    · split
      · exact h
      · rename_i c
        rw [ti_le, show (256 : Int32).toInt = 256 by decide] at c
        exact ⟨h.1, h.2.1, h.2.2.1, h.2.2.2.1, inc_ok (k := 256) h.2.2.2.2.1 (by omega) (by decide)⟩
    · split
      · exact h
      · exact h
theorem imv_sum {σ : SM} {k : Int32} {v : Int64} (h : IM σ) : IM (FM_sum σ k v).2 := by
  unfold FM_sum
  repeat' (with_reducible refine imP ?_ ?_)
  all_goals first | with_reducible exact imv_put h | with_reducible exact h
theorem imv_halves {σ : SM} {v : Int64} (h : IM σ) : IM (FM_halves σ v) := by
  unfold FM_halves
  exact ims_mrg (ims_mrg h)
theorem imv_divide {σ : SM} {k v : Int32} (h : IM σ) : IM (FM_divide σ k v) := by
  unfold FM_divide
  repeat' (with_reducible refine imQ ?_ ?_)
  all_goals with_reducible exact ims_mrg (ims_mrg h)
theorem imv_divideBare {σ : SM} {k v : Int32} (h : IM σ) : IM (FM_divideBare σ k v) := by
  unfold FM_divideBare
  repeat' (with_reducible refine imQ ?_ ?_)
  all_goals with_reducible exact ims_mrg (ims_mrg h)
theorem imv_byFunction {σ : SM} {w : Int32} (h : IM σ) : IM (FM_byFunction σ w).2 := by
  unfold FM_byFunction
  repeat' (with_reducible refine imP ?_ ?_)
  all_goals first | with_reducible exact h | with_reducible exact imv_put h | with_reducible exact imv_system h | with_reducible exact imv_sum h | with_reducible exact imv_divide h | with_reducible exact imv_divideBare h | with_reducible exact ims_mrg h | with_reducible exact imv_halves h
theorem imv_LM_load (a1 a2 a3 a4 : Int32) {σ : SM} (h : IM σ) : ∀ (n : Nat) (x5 x6 : Int32), IM (LM_load a1 a2 a3 a4 n σ x5 x6).2 := by
  intro n
  induction n with
  | zero => intro x5 x6; exact h
  | succ n ih =>
    intro x5 x6
    rw [LM_load]
    repeat' split
    all_goals first | with_reducible exact imv_put h | with_reducible exact ih _ _
theorem imv_LM_store (a1 a2 a3 : Int32) : ∀ (n : Nat) (σ : SM) (x4 : Int32), IM σ → IM (LM_store a1 a2 a3 n σ x4).2 := by
  intro n
  induction n with
  | zero => intro σ x4 h; exact h
  | succ n ih =>
    intro σ x4 h
    rw [LM_store]
    split
    · exact h
    · exact ih _ _ (ims_mby h)
theorem imv_load {σ : SM} {a1 a2 a3 a4 : Int32} (h : IM σ) : IM (FM_load σ a1 a2 a3 a4).2 := by
  unfold FM_load
  repeat' (with_reducible refine imP ?_ ?_)
  all_goals first | with_reducible exact h | with_reducible exact imv_LM_load _ _ _ _ h _ _ _
theorem imv_store {σ : SM} {a1 a2 a3 : Int32} (h : IM σ) : IM (FM_store σ a1 a2 a3).2 := by
  unfold FM_store
  repeat' (with_reducible refine imP ?_ ?_)
  all_goals first | with_reducible exact h | with_reducible exact imv_LM_store _ _ _ _ _ _ h
theorem imv_atOnce {σ : SM} {w : Int32} (h : IM σ) : IM (FM_atOnce σ w).2 := by
  unfold FM_atOnce
  repeat' (with_reducible refine imP ?_ ?_)
  all_goals first | with_reducible exact h | with_reducible exact imv_put h | with_reducible exact imv_byFunction h | with_reducible exact imv_sum h | with_reducible exact imv_load h | with_reducible exact imv_store h
theorem imv_two {σ : SM} {w : Int32} (h : IM σ) : IM (FM_two σ w).2 := by
  unfold FM_two
  repeat' (with_reducible refine imP ?_ ?_)
  all_goals first | with_reducible exact h | with_reducible exact imv_aim h | with_reducible exact ims_mpc (imv_atOnce (imv_put (imv_aim h))) | with_reducible exact ims_mrg (imv_atOnce (imv_put (imv_aim h)))
def JMR (σ : SM) (n : Nat) (x : Int32) : Prop := IM σ ∧ 0 ≤ x.toInt ∧ x.toInt ≤ 2000 ∧ 1 ≤ n ∧ (gmen σ = 0 → gmtr σ = 0 → x.toInt + 2 ≤ n)
theorem jmr_0 {σ : SM} {x : Int32} (h : JMR σ 0 x) : False := by
  have := h.2.2.2.1
  omega
theorem jmr_s {σ : SM} {a : Int32} (hI : IM σ) (h1 : ¬ a < 1) (h2 : a ≤ 2000) : JMR σ 2003 a := by
  rw [ti_lt, ti_1] at h1
  rw [ti_le, show (2000 : Int32).toInt = 2000 by decide] at h2
  exact ⟨hI, by omega, by omega, by omega, fun _ _ => by omega⟩
theorem jmr_b {σ τ : SM} {n : Nat} {x k : Int32} (hI : IM τ) (hJ : JMR σ (n + 1) x) (hc : k ≤ x) (h0 : gmen σ = 0) (h1 : gmtr σ = 0) (hk : 1 ≤ k.toInt ∧ k.toInt ≤ 2) : JMR τ n (x - k) := by
  obtain ⟨-, j1, j2, j3, j4⟩ := hJ
  have j5 := j4 h0 h1
  rw [ti_le] at hc
  have e : (x - k).toInt = x.toInt - k.toInt := ti_sub (by omega) (by omega)
  exact ⟨hI, by omega, by omega, by omega, fun _ _ => by omega⟩
theorem jmr_t {σ τ : SM} {n : Nat} {x : Int32} (hI : IM τ) (hJ : JMR σ (n + 1) x) (h0 : gmen σ = 0) (h1 : gmtr σ = 0) (ht : ¬ gmtr τ = 0) : JMR τ n (x - 0) := by
  obtain ⟨-, j1, j2, j3, j4⟩ := hJ
  have j5 := j4 h0 h1
  rw [Int32.sub_zero]
  exact ⟨hI, j1, j2, by omega, fun _ h => absurd h ht⟩
