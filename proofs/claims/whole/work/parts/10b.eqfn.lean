theorem ev_ite {c : Prop} [Decidable c] (a b : Int32 × SM) : ev (if c then a else b) = if c then ev a else ev b := by
  split <;> rfl
theorem fn_0 {τ : SM} {w : Int32} (hz : Z0 τ) (e : w &&& 63 = 0) : FG_performFunction (ab τ) w = ev (FM_byFunction τ w) := by
  simp +decide only [FG_performFunction, FG_performShift, FM_byFunction, FG_fOf, FG_hOf, FM_shiftOf, e, ↓reduceIte, ab_rg]
  rw [eq_put (in_dOf w) hz]
  rfl
theorem fn_1 {τ : SM} {w : Int32} (hz : Z0 τ) (e : w &&& 63 = 1) : FG_performFunction (ab τ) w = ev (FM_byFunction τ w) := by
  simp +decide only [FG_performFunction, FG_performShift, FM_byFunction, FG_fOf, FG_hOf, FM_shiftOf, e, ↓reduceIte, ab_rg]
  rfl
theorem fn_2 {τ : SM} {w : Int32} (hz : Z0 τ) (e : w &&& 63 = 2) : FG_performFunction (ab τ) w = ev (FM_byFunction τ w) := by
  simp +decide only [FG_performFunction, FG_performShift, FM_byFunction, FG_fOf, FG_hOf, FM_shiftOf, e, ↓reduceIte, ab_rg]
  rw [eq_put (in_dOf w) hz]
  rfl
theorem fn_3 {τ : SM} {w : Int32} (hz : Z0 τ) (e : w &&& 63 = 3) : FG_performFunction (ab τ) w = ev (FM_byFunction τ w) := by
  simp +decide only [FG_performFunction, FG_performShift, FM_byFunction, FG_fOf, FG_hOf, FM_shiftOf, e, ↓reduceIte, ab_rg]
  rw [eq_put (in_dOf w) hz]
  rfl
theorem fn_4 {τ : SM} {w : Int32} (hz : Z0 τ) (e : w &&& 63 = 4) : FG_performFunction (ab τ) w = ev (FM_byFunction τ w) := by
  simp +decide only [FG_performFunction, FG_performShift, FM_byFunction, FG_fOf, FG_hOf, FM_shiftOf, e, ↓reduceIte, ab_rg]
  rw [eq_put (in_dOf w) hz]
  rfl
theorem fn_5 {τ : SM} {w : Int32} (hz : Z0 τ) (e : w &&& 63 = 5) : FG_performFunction (ab τ) w = ev (FM_byFunction τ w) := by
  simp +decide only [FG_performFunction, FG_performShift, FM_byFunction, FG_fOf, FG_hOf, FM_shiftOf, e, ↓reduceIte, ab_rg]
  rfl
theorem fn_6 {τ : SM} {w : Int32} (hz : Z0 τ) (e : w &&& 63 = 6) : FG_performFunction (ab τ) w = ev (FM_byFunction τ w) := by
  simp +decide only [FG_performFunction, FG_performShift, FM_byFunction, FG_fOf, FG_hOf, FM_shiftOf, e, ↓reduceIte, ab_rg]
  rw [eq_put (in_dOf w) hz]
  rfl
theorem fn_7 {τ : SM} {w : Int32} (hz : Z0 τ) (e : w &&& 63 = 7) : FG_performFunction (ab τ) w = ev (FM_byFunction τ w) := by
  simp +decide only [FG_performFunction, FG_performShift, FM_byFunction, FG_fOf, FG_hOf, FM_shiftOf, e, ↓reduceIte, ab_rg]
  rw [eq_put (in_dOf w) hz]
  rfl
theorem fn_8 {τ : SM} {w : Int32} (hz : Z0 τ) (e : w &&& 63 = 8) : FG_performFunction (ab τ) w = ev (FM_byFunction τ w) := by
  simp +decide only [FG_performFunction, FG_performHiLo, FM_byFunction, FG_fOf, FG_hOf, FM_shiftOf, e, ↓reduceIte, ab_rg]
  rfl
theorem fn_9 {τ : SM} {w : Int32} (hz : Z0 τ) (e : w &&& 63 = 9) : FG_performFunction (ab τ) w = ev (FM_byFunction τ w) := by
  simp +decide only [FG_performFunction, FG_performHiLo, FM_byFunction, FG_fOf, FG_hOf, FM_shiftOf, e, ↓reduceIte, ab_rg]
  rfl
theorem fn_10 {τ : SM} {w : Int32} (hz : Z0 τ) (e : w &&& 63 = 10) : FG_performFunction (ab τ) w = ev (FM_byFunction τ w) := by
  simp +decide only [FG_performFunction, FG_performHiLo, FM_byFunction, FG_fOf, FG_hOf, FM_shiftOf, e, ↓reduceIte, ab_rg]
  rfl
theorem fn_11 {τ : SM} {w : Int32} (hz : Z0 τ) (e : w &&& 63 = 11) : FG_performFunction (ab τ) w = ev (FM_byFunction τ w) := by
  simp +decide only [FG_performFunction, FG_performHiLo, FM_byFunction, FG_fOf, FG_hOf, FM_shiftOf, e, ↓reduceIte, ab_rg]
  rfl
theorem fn_12 {τ : SM} {w : Int32} (hz : Z0 τ) (e : w &&& 63 = 12) : FG_performFunction (ab τ) w = ev (FM_byFunction τ w) := by
  simp +decide only [FG_performFunction, FM_byFunction, FG_fOf, FG_hOf, FM_shiftOf, e, ↓reduceIte, ab_rg]
  exact eq_system hz
theorem fn_13 {τ : SM} {w : Int32} (hz : Z0 τ) (e : w &&& 63 = 13) : FG_performFunction (ab τ) w = ev (FM_byFunction τ w) := by
  simp +decide only [FG_performFunction, FM_byFunction, FG_fOf, FG_hOf, FM_shiftOf, e, ↓reduceIte, ab_rg]
  rfl
theorem fn_14 {τ : SM} {w : Int32} (hz : Z0 τ) (e : w &&& 63 = 14) : FG_performFunction (ab τ) w = ev (FM_byFunction τ w) := by
  simp +decide only [FG_performFunction, FG_performHiLo, FM_byFunction, FG_fOf, FG_hOf, FM_shiftOf, e, ↓reduceIte, ab_rg]
  rfl
theorem fn_15 {τ : SM} {w : Int32} (hz : Z0 τ) (e : w &&& 63 = 15) : FG_performFunction (ab τ) w = ev (FM_byFunction τ w) := by
  simp +decide only [FG_performFunction, FG_performHiLo, FM_byFunction, FG_fOf, FG_hOf, FM_shiftOf, e, ↓reduceIte, ab_rg]
  rfl
theorem fn_16 {τ : SM} {w : Int32} (hz : Z0 τ) (e : w &&& 63 = 16) : FG_performFunction (ab τ) w = ev (FM_byFunction τ w) := by
  simp +decide only [FG_performFunction, FG_performHiLo, FM_byFunction, FG_fOf, FG_hOf, FM_shiftOf, e, ↓reduceIte, ab_rg]
  rw [eq_put (in_dOf w) hz]
  rfl
theorem fn_17 {τ : SM} {w : Int32} (hz : Z0 τ) (e : w &&& 63 = 17) : FG_performFunction (ab τ) w = ev (FM_byFunction τ w) := by
  simp +decide only [FG_performFunction, FG_performHiLo, FM_byFunction, FG_fOf, FG_hOf, FM_shiftOf, e, ↓reduceIte, ab_rg]
  rw [eq_put (in_c (by decide)) hz]
  unfold FM_put
  rw [if_neg (by decide)]
  rfl
theorem fn_18 {τ : SM} {w : Int32} (hz : Z0 τ) (e : w &&& 63 = 18) : FG_performFunction (ab τ) w = ev (FM_byFunction τ w) := by
  simp +decide only [FG_performFunction, FG_performHiLo, FM_byFunction, FG_fOf, FG_hOf, FM_shiftOf, e, ↓reduceIte, ab_rg]
  rw [eq_put (in_dOf w) hz]
  rfl
theorem fn_19 {τ : SM} {w : Int32} (hz : Z0 τ) (e : w &&& 63 = 19) : FG_performFunction (ab τ) w = ev (FM_byFunction τ w) := by
  simp +decide only [FG_performFunction, FG_performHiLo, FM_byFunction, FG_fOf, FG_hOf, FM_shiftOf, e, ↓reduceIte, ab_rg]
  rw [eq_put (in_c (by decide)) hz]
  unfold FM_put
  rw [if_neg (by decide)]
  rfl
theorem fn_20 {τ : SM} {w : Int32} (hz : Z0 τ) (e : w &&& 63 = 20) : FG_performFunction (ab τ) w = ev (FM_byFunction τ w) := by
  simp +decide only [FG_performFunction, FG_performHiLo, FM_byFunction, FG_fOf, FG_hOf, FM_shiftOf, e, ↓reduceIte, ab_rg]
  rfl
theorem fn_21 {τ : SM} {w : Int32} (hz : Z0 τ) (e : w &&& 63 = 21) : FG_performFunction (ab τ) w = ev (FM_byFunction τ w) := by
  simp +decide only [FG_performFunction, FG_performHiLo, FM_byFunction, FG_fOf, FG_hOf, FM_shiftOf, e, ↓reduceIte, ab_rg]
  rfl
theorem fn_22 {τ : SM} {w : Int32} (hz : Z0 τ) (e : w &&& 63 = 22) : FG_performFunction (ab τ) w = ev (FM_byFunction τ w) := by
  simp +decide only [FG_performFunction, FG_performHiLo, FM_byFunction, FG_fOf, FG_hOf, FM_shiftOf, e, ↓reduceIte, ab_rg]
  rfl
theorem fn_23 {τ : SM} {w : Int32} (hz : Z0 τ) (e : w &&& 63 = 23) : FG_performFunction (ab τ) w = ev (FM_byFunction τ w) := by
  simp +decide only [FG_performFunction, FG_performHiLo, FM_byFunction, FG_fOf, FG_hOf, FM_shiftOf, e, ↓reduceIte, ab_rg]
  rfl
theorem fn_24 {τ : SM} {w : Int32} (hz : Z0 τ) (e : w &&& 63 = 24) : FG_performFunction (ab τ) w = ev (FM_byFunction τ w) := by
  simp +decide only [FG_performFunction, FG_performHiLo, FM_byFunction, FG_fOf, FG_hOf, FM_shiftOf, e, ↓reduceIte, ab_rg]
  rw [eq_halves]
  rfl
theorem fn_25 {τ : SM} {w : Int32} (hz : Z0 τ) (e : w &&& 63 = 25) : FG_performFunction (ab τ) w = ev (FM_byFunction τ w) := by
  simp +decide only [FG_performFunction, FG_performHiLo, FM_byFunction, FG_fOf, FG_hOf, FM_shiftOf, e, ↓reduceIte, ab_rg]
  rw [eq_halves]
  rfl
theorem fn_26 {τ : SM} {w : Int32} (hz : Z0 τ) (e : w &&& 63 = 26) : FG_performFunction (ab τ) w = ev (FM_byFunction τ w) := by
  simp +decide only [FG_performFunction, FG_performHiLo, FM_byFunction, FG_fOf, FG_hOf, FM_shiftOf, e, ↓reduceIte, ab_rg]
  rw [eq_divide]
  rfl
theorem fn_27 {τ : SM} {w : Int32} (hz : Z0 τ) (e : w &&& 63 = 27) : FG_performFunction (ab τ) w = ev (FM_byFunction τ w) := by
  simp +decide only [FG_performFunction, FG_performHiLo, FM_byFunction, FG_fOf, FG_hOf, FM_shiftOf, e, ↓reduceIte, ab_rg]
  rw [eq_divideBare]
  rfl
theorem fn_28 {τ : SM} {w : Int32} (hz : Z0 τ) (e : w &&& 63 = 28) : FG_performFunction (ab τ) w = ev (FM_byFunction τ w) := by
  simp +decide only [FG_performFunction, FG_performHiLo, FM_byFunction, FG_fOf, FG_hOf, FM_shiftOf, e, ↓reduceIte, ab_rg]
  rfl
theorem fn_29 {τ : SM} {w : Int32} (hz : Z0 τ) (e : w &&& 63 = 29) : FG_performFunction (ab τ) w = ev (FM_byFunction τ w) := by
  simp +decide only [FG_performFunction, FG_performHiLo, FM_byFunction, FG_fOf, FG_hOf, FM_shiftOf, e, ↓reduceIte, ab_rg]
  rfl
theorem fn_30 {τ : SM} {w : Int32} (hz : Z0 τ) (e : w &&& 63 = 30) : FG_performFunction (ab τ) w = ev (FM_byFunction τ w) := by
  simp +decide only [FG_performFunction, FG_performHiLo, FM_byFunction, FG_fOf, FG_hOf, FM_shiftOf, e, ↓reduceIte, ab_rg]
  rfl
theorem fn_31 {τ : SM} {w : Int32} (hz : Z0 τ) (e : w &&& 63 = 31) : FG_performFunction (ab τ) w = ev (FM_byFunction τ w) := by
  simp +decide only [FG_performFunction, FG_performHiLo, FM_byFunction, FG_fOf, FG_hOf, FM_shiftOf, e, ↓reduceIte, ab_rg]
  rfl
theorem fn_32 {τ : SM} {w : Int32} (hz : Z0 τ) (e : w &&& 63 = 32) : FG_performFunction (ab τ) w = ev (FM_byFunction τ w) := by
  simp +decide only [FG_performFunction, FG_performArithmetic, FM_byFunction, FG_fOf, FG_hOf, FM_shiftOf, e, ↓reduceIte, ab_rg]
  exact eq_sum (in_dOf w) hz
theorem fn_33 {τ : SM} {w : Int32} (hz : Z0 τ) (e : w &&& 63 = 33) : FG_performFunction (ab τ) w = ev (FM_byFunction τ w) := by
  simp +decide only [FG_performFunction, FG_performArithmetic, FM_byFunction, FG_fOf, FG_hOf, FM_shiftOf, e, ↓reduceIte, ab_rg]
  rw [eq_put (in_dOf w) hz]
  rfl
theorem fn_34 {τ : SM} {w : Int32} (hz : Z0 τ) (e : w &&& 63 = 34) : FG_performFunction (ab τ) w = ev (FM_byFunction τ w) := by
  simp +decide only [FG_performFunction, FG_performArithmetic, FM_byFunction, FG_fOf, FG_hOf, FM_shiftOf, e, ↓reduceIte, ab_rg]
  exact eq_sum (in_dOf w) hz
theorem fn_35 {τ : SM} {w : Int32} (hz : Z0 τ) (e : w &&& 63 = 35) : FG_performFunction (ab τ) w = ev (FM_byFunction τ w) := by
  simp +decide only [FG_performFunction, FG_performArithmetic, FM_byFunction, FG_fOf, FG_hOf, FM_shiftOf, e, ↓reduceIte, ab_rg]
  rw [eq_put (in_dOf w) hz]
  rfl
theorem fn_36 {τ : SM} {w : Int32} (hz : Z0 τ) (e : w &&& 63 = 36) : FG_performFunction (ab τ) w = ev (FM_byFunction τ w) := by
  simp +decide only [FG_performFunction, FG_performArithmetic, FM_byFunction, FG_fOf, FG_hOf, FM_shiftOf, e, ↓reduceIte, ab_rg]
  rw [eq_put (in_dOf w) hz]
  rfl
theorem fn_37 {τ : SM} {w : Int32} (hz : Z0 τ) (e : w &&& 63 = 37) : FG_performFunction (ab τ) w = ev (FM_byFunction τ w) := by
  simp +decide only [FG_performFunction, FG_performArithmetic, FM_byFunction, FG_fOf, FG_hOf, FM_shiftOf, e, ↓reduceIte, ab_rg]
  rw [eq_put (in_dOf w) hz]
  rfl
theorem fn_38 {τ : SM} {w : Int32} (hz : Z0 τ) (e : w &&& 63 = 38) : FG_performFunction (ab τ) w = ev (FM_byFunction τ w) := by
  simp +decide only [FG_performFunction, FG_performArithmetic, FM_byFunction, FG_fOf, FG_hOf, FM_shiftOf, e, ↓reduceIte, ab_rg]
  rw [eq_put (in_dOf w) hz]
  rfl
theorem fn_39 {τ : SM} {w : Int32} (hz : Z0 τ) (e : w &&& 63 = 39) : FG_performFunction (ab τ) w = ev (FM_byFunction τ w) := by
  simp +decide only [FG_performFunction, FG_performArithmetic, FM_byFunction, FG_fOf, FG_hOf, FM_shiftOf, e, ↓reduceIte, ab_rg]
  rw [eq_put (in_dOf w) hz]
  rfl
theorem fn_40 {τ : SM} {w : Int32} (hz : Z0 τ) (e : w &&& 63 = 40) : FG_performFunction (ab τ) w = ev (FM_byFunction τ w) := by
  simp +decide only [FG_performFunction, FG_performArithmetic, FM_byFunction, FG_fOf, FG_hOf, FM_shiftOf, e, ↓reduceIte, ab_rg]
  rfl
theorem fn_41 {τ : SM} {w : Int32} (hz : Z0 τ) (e : w &&& 63 = 41) : FG_performFunction (ab τ) w = ev (FM_byFunction τ w) := by
  simp +decide only [FG_performFunction, FG_performArithmetic, FM_byFunction, FG_fOf, FG_hOf, FM_shiftOf, e, ↓reduceIte, ab_rg]
  rfl
theorem fn_42 {τ : SM} {w : Int32} (hz : Z0 τ) (e : w &&& 63 = 42) : FG_performFunction (ab τ) w = ev (FM_byFunction τ w) := by
  simp +decide only [FG_performFunction, FG_performArithmetic, FM_byFunction, FG_fOf, FG_hOf, FM_shiftOf, e, ↓reduceIte, ab_rg]
  rw [eq_put (in_dOf w) hz, eq_put (in_dOf w) hz, ev_ite]
  rfl
theorem fn_43 {τ : SM} {w : Int32} (hz : Z0 τ) (e : w &&& 63 = 43) : FG_performFunction (ab τ) w = ev (FM_byFunction τ w) := by
  simp +decide only [FG_performFunction, FG_performArithmetic, FM_byFunction, FG_fOf, FG_hOf, FM_shiftOf, e, ↓reduceIte, ab_rg]
  rw [eq_put (in_dOf w) hz, eq_put (in_dOf w) hz, ev_ite]
  rfl
theorem fn_44 {τ : SM} {w : Int32} (hz : Z0 τ) (e : w &&& 63 = 44) : FG_performFunction (ab τ) w = ev (FM_byFunction τ w) := by
  simp +decide only [FG_performFunction, FG_performArithmetic, FM_byFunction, FG_fOf, FG_hOf, FM_shiftOf, e, ↓reduceIte, ab_rg]
  rfl
theorem fn_45 {τ : SM} {w : Int32} (hz : Z0 τ) (e : w &&& 63 = 45) : FG_performFunction (ab τ) w = ev (FM_byFunction τ w) := by
  simp +decide only [FG_performFunction, FG_performArithmetic, FM_byFunction, FG_fOf, FG_hOf, FM_shiftOf, e, ↓reduceIte, ab_rg]
  rfl
theorem fn_46 {τ : SM} {w : Int32} (hz : Z0 τ) (e : w &&& 63 = 46) : FG_performFunction (ab τ) w = ev (FM_byFunction τ w) := by
  simp +decide only [FG_performFunction, FG_performArithmetic, FM_byFunction, FG_fOf, FG_hOf, FM_shiftOf, e, ↓reduceIte, ab_rg]
  rfl
theorem fn_47 {τ : SM} {w : Int32} (hz : Z0 τ) (e : w &&& 63 = 47) : FG_performFunction (ab τ) w = ev (FM_byFunction τ w) := by
  simp +decide only [FG_performFunction, FG_performArithmetic, FM_byFunction, FG_fOf, FG_hOf, FM_shiftOf, e, ↓reduceIte, ab_rg]
  rfl
theorem fn_48 {τ : SM} {w : Int32} (hz : Z0 τ) (e : w &&& 63 = 48) : FG_performFunction (ab τ) w = ev (FM_byFunction τ w) := by
  simp +decide only [FG_performFunction, FG_performArithmetic, FM_byFunction, FG_fOf, FG_hOf, FM_shiftOf, e, ↓reduceIte, ab_rg]
  rfl
theorem fn_49 {τ : SM} {w : Int32} (hz : Z0 τ) (e : w &&& 63 = 49) : FG_performFunction (ab τ) w = ev (FM_byFunction τ w) := by
  simp +decide only [FG_performFunction, FG_performArithmetic, FM_byFunction, FG_fOf, FG_hOf, FM_shiftOf, e, ↓reduceIte, ab_rg]
  rfl
theorem fn_50 {τ : SM} {w : Int32} (hz : Z0 τ) (e : w &&& 63 = 50) : FG_performFunction (ab τ) w = ev (FM_byFunction τ w) := by
  simp +decide only [FG_performFunction, FG_performArithmetic, FM_byFunction, FG_fOf, FG_hOf, FM_shiftOf, e, ↓reduceIte, ab_rg]
  rfl
theorem fn_51 {τ : SM} {w : Int32} (hz : Z0 τ) (e : w &&& 63 = 51) : FG_performFunction (ab τ) w = ev (FM_byFunction τ w) := by
  simp +decide only [FG_performFunction, FG_performArithmetic, FM_byFunction, FG_fOf, FG_hOf, FM_shiftOf, e, ↓reduceIte, ab_rg]
  rfl
theorem fn_52 {τ : SM} {w : Int32} (hz : Z0 τ) (e : w &&& 63 = 52) : FG_performFunction (ab τ) w = ev (FM_byFunction τ w) := by
  simp +decide only [FG_performFunction, FG_performArithmetic, FM_byFunction, FG_fOf, FG_hOf, FM_shiftOf, e, ↓reduceIte, ab_rg]
  rfl
theorem fn_53 {τ : SM} {w : Int32} (hz : Z0 τ) (e : w &&& 63 = 53) : FG_performFunction (ab τ) w = ev (FM_byFunction τ w) := by
  simp +decide only [FG_performFunction, FG_performArithmetic, FM_byFunction, FG_fOf, FG_hOf, FM_shiftOf, e, ↓reduceIte, ab_rg]
  rfl
theorem fn_54 {τ : SM} {w : Int32} (hz : Z0 τ) (e : w &&& 63 = 54) : FG_performFunction (ab τ) w = ev (FM_byFunction τ w) := by
  simp +decide only [FG_performFunction, FG_performArithmetic, FM_byFunction, FG_fOf, FG_hOf, FM_shiftOf, e, ↓reduceIte, ab_rg]
  rfl
theorem fn_55 {τ : SM} {w : Int32} (hz : Z0 τ) (e : w &&& 63 = 55) : FG_performFunction (ab τ) w = ev (FM_byFunction τ w) := by
  simp +decide only [FG_performFunction, FG_performArithmetic, FM_byFunction, FG_fOf, FG_hOf, FM_shiftOf, e, ↓reduceIte, ab_rg]
  rfl
theorem fn_56 {τ : SM} {w : Int32} (hz : Z0 τ) (e : w &&& 63 = 56) : FG_performFunction (ab τ) w = ev (FM_byFunction τ w) := by
  simp +decide only [FG_performFunction, FG_performArithmetic, FM_byFunction, FG_fOf, FG_hOf, FM_shiftOf, e, ↓reduceIte, ab_rg]
  rfl
theorem fn_57 {τ : SM} {w : Int32} (hz : Z0 τ) (e : w &&& 63 = 57) : FG_performFunction (ab τ) w = ev (FM_byFunction τ w) := by
  simp +decide only [FG_performFunction, FG_performArithmetic, FM_byFunction, FG_fOf, FG_hOf, FM_shiftOf, e, ↓reduceIte, ab_rg]
  rfl
theorem fn_58 {τ : SM} {w : Int32} (hz : Z0 τ) (e : w &&& 63 = 58) : FG_performFunction (ab τ) w = ev (FM_byFunction τ w) := by
  simp +decide only [FG_performFunction, FG_performArithmetic, FM_byFunction, FG_fOf, FG_hOf, FM_shiftOf, e, ↓reduceIte, ab_rg]
  rfl
theorem fn_59 {τ : SM} {w : Int32} (hz : Z0 τ) (e : w &&& 63 = 59) : FG_performFunction (ab τ) w = ev (FM_byFunction τ w) := by
  simp +decide only [FG_performFunction, FG_performArithmetic, FM_byFunction, FG_fOf, FG_hOf, FM_shiftOf, e, ↓reduceIte, ab_rg]
  rfl
theorem fn_60 {τ : SM} {w : Int32} (hz : Z0 τ) (e : w &&& 63 = 60) : FG_performFunction (ab τ) w = ev (FM_byFunction τ w) := by
  simp +decide only [FG_performFunction, FG_performArithmetic, FM_byFunction, FG_fOf, FG_hOf, FM_shiftOf, e, ↓reduceIte, ab_rg]
  rfl
theorem fn_61 {τ : SM} {w : Int32} (hz : Z0 τ) (e : w &&& 63 = 61) : FG_performFunction (ab τ) w = ev (FM_byFunction τ w) := by
  simp +decide only [FG_performFunction, FG_performArithmetic, FM_byFunction, FG_fOf, FG_hOf, FM_shiftOf, e, ↓reduceIte, ab_rg]
  rfl
theorem fn_62 {τ : SM} {w : Int32} (hz : Z0 τ) (e : w &&& 63 = 62) : FG_performFunction (ab τ) w = ev (FM_byFunction τ w) := by
  simp +decide only [FG_performFunction, FG_performArithmetic, FM_byFunction, FG_fOf, FG_hOf, FM_shiftOf, e, ↓reduceIte, ab_rg]
  rfl
theorem fn_63 {τ : SM} {w : Int32} (hz : Z0 τ) (e : w &&& 63 = 63) : FG_performFunction (ab τ) w = ev (FM_byFunction τ w) := by
  simp +decide only [FG_performFunction, FG_performArithmetic, FM_byFunction, FG_fOf, FG_hOf, FM_shiftOf, e, ↓reduceIte, ab_rg]
  rfl
theorem eq_fn {τ : SM} {w : Int32} (hz : Z0 τ) : FG_performFunction (ab τ) w = ev (FM_byFunction τ w) := by
  obtain ⟨j, hj, e⟩ := pk_andE w (m := 63) 6 (by decide)
  match j, hj, e with
  | 0, _, e => exact fn_0 hz e
  | 1, _, e => exact fn_1 hz e
  | 2, _, e => exact fn_2 hz e
  | 3, _, e => exact fn_3 hz e
  | 4, _, e => exact fn_4 hz e
  | 5, _, e => exact fn_5 hz e
  | 6, _, e => exact fn_6 hz e
  | 7, _, e => exact fn_7 hz e
  | 8, _, e => exact fn_8 hz e
  | 9, _, e => exact fn_9 hz e
  | 10, _, e => exact fn_10 hz e
  | 11, _, e => exact fn_11 hz e
  | 12, _, e => exact fn_12 hz e
  | 13, _, e => exact fn_13 hz e
  | 14, _, e => exact fn_14 hz e
  | 15, _, e => exact fn_15 hz e
  | 16, _, e => exact fn_16 hz e
  | 17, _, e => exact fn_17 hz e
  | 18, _, e => exact fn_18 hz e
  | 19, _, e => exact fn_19 hz e
  | 20, _, e => exact fn_20 hz e
  | 21, _, e => exact fn_21 hz e
  | 22, _, e => exact fn_22 hz e
  | 23, _, e => exact fn_23 hz e
  | 24, _, e => exact fn_24 hz e
  | 25, _, e => exact fn_25 hz e
  | 26, _, e => exact fn_26 hz e
  | 27, _, e => exact fn_27 hz e
  | 28, _, e => exact fn_28 hz e
  | 29, _, e => exact fn_29 hz e
  | 30, _, e => exact fn_30 hz e
  | 31, _, e => exact fn_31 hz e
  | 32, _, e => exact fn_32 hz e
  | 33, _, e => exact fn_33 hz e
  | 34, _, e => exact fn_34 hz e
  | 35, _, e => exact fn_35 hz e
  | 36, _, e => exact fn_36 hz e
  | 37, _, e => exact fn_37 hz e
  | 38, _, e => exact fn_38 hz e
  | 39, _, e => exact fn_39 hz e
  | 40, _, e => exact fn_40 hz e
  | 41, _, e => exact fn_41 hz e
  | 42, _, e => exact fn_42 hz e
  | 43, _, e => exact fn_43 hz e
  | 44, _, e => exact fn_44 hz e
  | 45, _, e => exact fn_45 hz e
  | 46, _, e => exact fn_46 hz e
  | 47, _, e => exact fn_47 hz e
  | 48, _, e => exact fn_48 hz e
  | 49, _, e => exact fn_49 hz e
  | 50, _, e => exact fn_50 hz e
  | 51, _, e => exact fn_51 hz e
  | 52, _, e => exact fn_52 hz e
  | 53, _, e => exact fn_53 hz e
  | 54, _, e => exact fn_54 hz e
  | 55, _, e => exact fn_55 hz e
  | 56, _, e => exact fn_56 hz e
  | 57, _, e => exact fn_57 hz e
  | 58, _, e => exact fn_58 hz e
  | 59, _, e => exact fn_59 hz e
  | 60, _, e => exact fn_60 hz e
  | 61, _, e => exact fn_61 hz e
  | 62, _, e => exact fn_62 hz e
  | 63, _, e => exact fn_63 hz e
  | j + 64, hj, _ => exact absurd hj (by omega)
