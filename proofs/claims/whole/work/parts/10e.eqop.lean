theorem op_in (w : Int32) : ∃ j : Nat, j < 64 ∧ jushr w 26 = nI j := by
  have h := pk_ushr w 26 26 (by decide)
  have hlt : w.toBitVec.toNat < 2 ^ 32 := w.toBitVec.isLt
  refine ⟨w.toBitVec.toNat / 2 ^ 26, by omega, ?_⟩
  apply Int32.toBitVec_inj.mp
  apply BitVec.eq_of_toNat_eq
  rw [pk_tn (by omega)]
  exact h
theorem ld_41 (σ : SG) (a : Int32) : FG_load σ a 4 1 = FG_load σ a 4 0 := by
  unfold FG_load
  exact ld_4 σ a _ _ _
theorem op_0 {τ : SM} {w : Int32} (hI : IM τ) (hz : Z0 τ) (e : jushr w 26 = 0) : FG_perform (ab τ) w = ev (FM_atOnce τ w) := by
  simp +decide only [FG_perform, FM_atOnce, FG_opOf, FM_op, e, ↓reduceIte, ab_rg]
  exact eq_fn hz
theorem op_1 {τ : SM} {w : Int32} (hI : IM τ) (hz : Z0 τ) (e : jushr w 26 = 1) : FG_perform (ab τ) w = ev (FM_atOnce τ w) := by
  simp +decide only [FG_perform, FG_performImmediate, FM_atOnce, FG_opOf, FM_op, e, ↓reduceIte, ab_rg]
  rfl
theorem op_2 {τ : SM} {w : Int32} (hI : IM τ) (hz : Z0 τ) (e : jushr w 26 = 2) : FG_perform (ab τ) w = ev (FM_atOnce τ w) := by
  simp +decide only [FG_perform, FG_performImmediate, FM_atOnce, FG_opOf, FM_op, e, ↓reduceIte, ab_rg]
  rfl
theorem op_3 {τ : SM} {w : Int32} (hI : IM τ) (hz : Z0 τ) (e : jushr w 26 = 3) : FG_perform (ab τ) w = ev (FM_atOnce τ w) := by
  simp +decide only [FG_perform, FG_performImmediate, FM_atOnce, FG_opOf, FM_op, e, ↓reduceIte, ab_rg]
  rfl
theorem op_4 {τ : SM} {w : Int32} (hI : IM τ) (hz : Z0 τ) (e : jushr w 26 = 4) : FG_perform (ab τ) w = ev (FM_atOnce τ w) := by
  simp +decide only [FG_perform, FG_performImmediate, FM_atOnce, FG_opOf, FM_op, e, ↓reduceIte, ab_rg]
  rfl
theorem op_5 {τ : SM} {w : Int32} (hI : IM τ) (hz : Z0 τ) (e : jushr w 26 = 5) : FG_perform (ab τ) w = ev (FM_atOnce τ w) := by
  simp +decide only [FG_perform, FG_performImmediate, FM_atOnce, FG_opOf, FM_op, e, ↓reduceIte, ab_rg]
  rfl
theorem op_6 {τ : SM} {w : Int32} (hI : IM τ) (hz : Z0 τ) (e : jushr w 26 = 6) : FG_perform (ab τ) w = ev (FM_atOnce τ w) := by
  simp +decide only [FG_perform, FG_performImmediate, FM_atOnce, FG_opOf, FM_op, e, ↓reduceIte, ab_rg]
  rfl
theorem op_7 {τ : SM} {w : Int32} (hI : IM τ) (hz : Z0 τ) (e : jushr w 26 = 7) : FG_perform (ab τ) w = ev (FM_atOnce τ w) := by
  simp +decide only [FG_perform, FG_performImmediate, FM_atOnce, FG_opOf, FM_op, e, ↓reduceIte, ab_rg]
  rfl
theorem op_8 {τ : SM} {w : Int32} (hI : IM τ) (hz : Z0 τ) (e : jushr w 26 = 8) : FG_perform (ab τ) w = ev (FM_atOnce τ w) := by
  simp +decide only [FG_perform, FG_performImmediate, FM_atOnce, FG_opOf, FM_op, e, ↓reduceIte, ab_rg]
  exact eq_sum (in_tOf w) hz
theorem op_9 {τ : SM} {w : Int32} (hI : IM τ) (hz : Z0 τ) (e : jushr w 26 = 9) : FG_perform (ab τ) w = ev (FM_atOnce τ w) := by
  simp +decide only [FG_perform, FG_performImmediate, FM_atOnce, FG_opOf, FM_op, e, ↓reduceIte, ab_rg]
  rw [eq_put (in_tOf w) hz]
  rfl
theorem op_10 {τ : SM} {w : Int32} (hI : IM τ) (hz : Z0 τ) (e : jushr w 26 = 10) : FG_perform (ab τ) w = ev (FM_atOnce τ w) := by
  simp +decide only [FG_perform, FG_performImmediate, FM_atOnce, FG_opOf, FM_op, e, ↓reduceIte, ab_rg]
  rw [eq_put (in_tOf w) hz, eq_put (in_tOf w) hz, ev_ite]
  rfl
theorem op_11 {τ : SM} {w : Int32} (hI : IM τ) (hz : Z0 τ) (e : jushr w 26 = 11) : FG_perform (ab τ) w = ev (FM_atOnce τ w) := by
  simp +decide only [FG_perform, FG_performImmediate, FM_atOnce, FG_opOf, FM_op, e, ↓reduceIte, ab_rg]
  rw [eq_put (in_tOf w) hz, eq_put (in_tOf w) hz, ev_ite]
  rfl
theorem op_12 {τ : SM} {w : Int32} (hI : IM τ) (hz : Z0 τ) (e : jushr w 26 = 12) : FG_perform (ab τ) w = ev (FM_atOnce τ w) := by
  simp +decide only [FG_perform, FG_performImmediate, FM_atOnce, FG_opOf, FM_op, e, ↓reduceIte, ab_rg]
  rw [eq_put (in_tOf w) hz]
  rfl
theorem op_13 {τ : SM} {w : Int32} (hI : IM τ) (hz : Z0 τ) (e : jushr w 26 = 13) : FG_perform (ab τ) w = ev (FM_atOnce τ w) := by
  simp +decide only [FG_perform, FG_performImmediate, FM_atOnce, FG_opOf, FM_op, e, ↓reduceIte, ab_rg]
  rw [eq_put (in_tOf w) hz]
  rfl
theorem op_14 {τ : SM} {w : Int32} (hI : IM τ) (hz : Z0 τ) (e : jushr w 26 = 14) : FG_perform (ab τ) w = ev (FM_atOnce τ w) := by
  simp +decide only [FG_perform, FG_performImmediate, FM_atOnce, FG_opOf, FM_op, e, ↓reduceIte, ab_rg]
  rw [eq_put (in_tOf w) hz]
  rfl
theorem op_15 {τ : SM} {w : Int32} (hI : IM τ) (hz : Z0 τ) (e : jushr w 26 = 15) : FG_perform (ab τ) w = ev (FM_atOnce τ w) := by
  simp +decide only [FG_perform, FG_performImmediate, FM_atOnce, FG_opOf, FM_op, e, ↓reduceIte, ab_rg]
  rw [eq_put (in_tOf w) hz]
  rfl
theorem op_16 {τ : SM} {w : Int32} (hI : IM τ) (hz : Z0 τ) (e : jushr w 26 = 16) : FG_perform (ab τ) w = ev (FM_atOnce τ w) := by
  simp +decide only [FG_perform, FG_performImmediate, FM_atOnce, FG_opOf, FM_op, e, ↓reduceIte, ab_rg]
  rfl
theorem op_17 {τ : SM} {w : Int32} (hI : IM τ) (hz : Z0 τ) (e : jushr w 26 = 17) : FG_perform (ab τ) w = ev (FM_atOnce τ w) := by
  simp +decide only [FG_perform, FG_performImmediate, FM_atOnce, FG_opOf, FM_op, e, ↓reduceIte, ab_rg]
  rfl
theorem op_18 {τ : SM} {w : Int32} (hI : IM τ) (hz : Z0 τ) (e : jushr w 26 = 18) : FG_perform (ab τ) w = ev (FM_atOnce τ w) := by
  simp +decide only [FG_perform, FG_performImmediate, FM_atOnce, FG_opOf, FM_op, e, ↓reduceIte, ab_rg]
  rfl
theorem op_19 {τ : SM} {w : Int32} (hI : IM τ) (hz : Z0 τ) (e : jushr w 26 = 19) : FG_perform (ab τ) w = ev (FM_atOnce τ w) := by
  simp +decide only [FG_perform, FG_performImmediate, FM_atOnce, FG_opOf, FM_op, e, ↓reduceIte, ab_rg]
  rfl
theorem op_20 {τ : SM} {w : Int32} (hI : IM τ) (hz : Z0 τ) (e : jushr w 26 = 20) : FG_perform (ab τ) w = ev (FM_atOnce τ w) := by
  simp +decide only [FG_perform, FG_performImmediate, FM_atOnce, FG_opOf, FM_op, e, ↓reduceIte, ab_rg]
  rfl
theorem op_21 {τ : SM} {w : Int32} (hI : IM τ) (hz : Z0 τ) (e : jushr w 26 = 21) : FG_perform (ab τ) w = ev (FM_atOnce τ w) := by
  simp +decide only [FG_perform, FG_performImmediate, FM_atOnce, FG_opOf, FM_op, e, ↓reduceIte, ab_rg]
  rfl
theorem op_22 {τ : SM} {w : Int32} (hI : IM τ) (hz : Z0 τ) (e : jushr w 26 = 22) : FG_perform (ab τ) w = ev (FM_atOnce τ w) := by
  simp +decide only [FG_perform, FG_performImmediate, FM_atOnce, FG_opOf, FM_op, e, ↓reduceIte, ab_rg]
  rfl
theorem op_23 {τ : SM} {w : Int32} (hI : IM τ) (hz : Z0 τ) (e : jushr w 26 = 23) : FG_perform (ab τ) w = ev (FM_atOnce τ w) := by
  simp +decide only [FG_perform, FG_performImmediate, FM_atOnce, FG_opOf, FM_op, e, ↓reduceIte, ab_rg]
  rfl
theorem op_24 {τ : SM} {w : Int32} (hI : IM τ) (hz : Z0 τ) (e : jushr w 26 = 24) : FG_perform (ab τ) w = ev (FM_atOnce τ w) := by
  simp +decide only [FG_perform, FG_performImmediate, FM_atOnce, FG_opOf, FM_op, e, ↓reduceIte, ab_rg]
  rfl
theorem op_25 {τ : SM} {w : Int32} (hI : IM τ) (hz : Z0 τ) (e : jushr w 26 = 25) : FG_perform (ab τ) w = ev (FM_atOnce τ w) := by
  simp +decide only [FG_perform, FG_performImmediate, FM_atOnce, FG_opOf, FM_op, e, ↓reduceIte, ab_rg]
  rfl
theorem op_26 {τ : SM} {w : Int32} (hI : IM τ) (hz : Z0 τ) (e : jushr w 26 = 26) : FG_perform (ab τ) w = ev (FM_atOnce τ w) := by
  simp +decide only [FG_perform, FG_performImmediate, FM_atOnce, FG_opOf, FM_op, e, ↓reduceIte, ab_rg]
  rfl
theorem op_27 {τ : SM} {w : Int32} (hI : IM τ) (hz : Z0 τ) (e : jushr w 26 = 27) : FG_perform (ab τ) w = ev (FM_atOnce τ w) := by
  simp +decide only [FG_perform, FG_performImmediate, FM_atOnce, FG_opOf, FM_op, e, ↓reduceIte, ab_rg]
  rfl
theorem op_28 {τ : SM} {w : Int32} (hI : IM τ) (hz : Z0 τ) (e : jushr w 26 = 28) : FG_perform (ab τ) w = ev (FM_atOnce τ w) := by
  simp +decide only [FG_perform, FG_performImmediate, FM_atOnce, FG_opOf, FM_op, e, ↓reduceIte, ab_rg]
  rfl
theorem op_29 {τ : SM} {w : Int32} (hI : IM τ) (hz : Z0 τ) (e : jushr w 26 = 29) : FG_perform (ab τ) w = ev (FM_atOnce τ w) := by
  simp +decide only [FG_perform, FG_performImmediate, FM_atOnce, FG_opOf, FM_op, e, ↓reduceIte, ab_rg]
  rfl
theorem op_30 {τ : SM} {w : Int32} (hI : IM τ) (hz : Z0 τ) (e : jushr w 26 = 30) : FG_perform (ab τ) w = ev (FM_atOnce τ w) := by
  simp +decide only [FG_perform, FG_performImmediate, FM_atOnce, FG_opOf, FM_op, e, ↓reduceIte, ab_rg]
  rfl
theorem op_31 {τ : SM} {w : Int32} (hI : IM τ) (hz : Z0 τ) (e : jushr w 26 = 31) : FG_perform (ab τ) w = ev (FM_atOnce τ w) := by
  simp +decide only [FG_perform, FG_performImmediate, FM_atOnce, FG_opOf, FM_op, e, ↓reduceIte, ab_rg]
  rfl
theorem op_32 {τ : SM} {w : Int32} (hI : IM τ) (hz : Z0 τ) (e : jushr w 26 = 32) : FG_perform (ab τ) w = ev (FM_atOnce τ w) := by
  have r : FM_atOnce τ w = FM_load τ (FM_second w) (gmrg τ (Int32.toNatClampNeg (FM_first w)) + FM_signed w) 1 1 := by
    simp +decide only [FM_atOnce, FM_op, e, ↓reduceIte]
  rw [r]
  have e1 : FG_opOf w = 32 := e
  unfold FG_perform FG_performAccess
  rw [e1, show FG_bytesOfAccess 32 = 1 by decide, if_neg (show ¬ (32 : Int32) = 0 by decide), if_pos (show (32 : Int32) ≤ 32 by decide), if_neg (show ¬ (1 : Int32) = 0 by decide), if_pos (show (32 : Int32) < 40 by decide), if_neg (show ¬ (36 : Int32) ≤ 32 by decide)]
  exact eq_load (in_tOf w) hz b3_1
theorem op_33 {τ : SM} {w : Int32} (hI : IM τ) (hz : Z0 τ) (e : jushr w 26 = 33) : FG_perform (ab τ) w = ev (FM_atOnce τ w) := by
  have r : FM_atOnce τ w = FM_load τ (FM_second w) (gmrg τ (Int32.toNatClampNeg (FM_first w)) + FM_signed w) 2 1 := by
    simp +decide only [FM_atOnce, FM_op, e, ↓reduceIte]
  rw [r]
  have e1 : FG_opOf w = 33 := e
  unfold FG_perform FG_performAccess
  rw [e1, show FG_bytesOfAccess 33 = 2 by decide, if_neg (show ¬ (33 : Int32) = 0 by decide), if_pos (show (32 : Int32) ≤ 33 by decide), if_neg (show ¬ (2 : Int32) = 0 by decide), if_pos (show (33 : Int32) < 40 by decide), if_neg (show ¬ (36 : Int32) ≤ 33 by decide)]
  exact eq_load (in_tOf w) hz b3_2
theorem op_34 {τ : SM} {w : Int32} (hI : IM τ) (hz : Z0 τ) (e : jushr w 26 = 34) : FG_perform (ab τ) w = ev (FM_atOnce τ w) := by
  simp +decide only [FG_perform, FG_performAccess, FG_bytesOfAccess, FM_atOnce, FG_opOf, FM_op, e, ↓reduceIte, ab_rg]
  rfl
theorem op_35 {τ : SM} {w : Int32} (hI : IM τ) (hz : Z0 τ) (e : jushr w 26 = 35) : FG_perform (ab τ) w = ev (FM_atOnce τ w) := by
  have r : FM_atOnce τ w = FM_load τ (FM_second w) (gmrg τ (Int32.toNatClampNeg (FM_first w)) + FM_signed w) 4 0 := by
    simp +decide only [FM_atOnce, FM_op, e, ↓reduceIte]
  rw [r]
  have e1 : FG_opOf w = 35 := e
  unfold FG_perform FG_performAccess
  rw [e1, show FG_bytesOfAccess 35 = 4 by decide, if_neg (show ¬ (35 : Int32) = 0 by decide), if_pos (show (32 : Int32) ≤ 35 by decide), if_neg (show ¬ (4 : Int32) = 0 by decide), if_pos (show (35 : Int32) < 40 by decide), if_neg (show ¬ (36 : Int32) ≤ 35 by decide), ld_41]
  exact eq_load (in_tOf w) hz b3_4
theorem op_36 {τ : SM} {w : Int32} (hI : IM τ) (hz : Z0 τ) (e : jushr w 26 = 36) : FG_perform (ab τ) w = ev (FM_atOnce τ w) := by
  have r : FM_atOnce τ w = FM_load τ (FM_second w) (gmrg τ (Int32.toNatClampNeg (FM_first w)) + FM_signed w) 1 0 := by
    simp +decide only [FM_atOnce, FM_op, e, ↓reduceIte]
  rw [r]
  have e1 : FG_opOf w = 36 := e
  unfold FG_perform FG_performAccess
  rw [e1, show FG_bytesOfAccess 36 = 1 by decide, if_neg (show ¬ (36 : Int32) = 0 by decide), if_pos (show (32 : Int32) ≤ 36 by decide), if_neg (show ¬ (1 : Int32) = 0 by decide), if_pos (show (36 : Int32) < 40 by decide), if_pos (show (36 : Int32) ≤ 36 by decide)]
  exact eq_load (in_tOf w) hz b3_1
theorem op_37 {τ : SM} {w : Int32} (hI : IM τ) (hz : Z0 τ) (e : jushr w 26 = 37) : FG_perform (ab τ) w = ev (FM_atOnce τ w) := by
  have r : FM_atOnce τ w = FM_load τ (FM_second w) (gmrg τ (Int32.toNatClampNeg (FM_first w)) + FM_signed w) 2 0 := by
    simp +decide only [FM_atOnce, FM_op, e, ↓reduceIte]
  rw [r]
  have e1 : FG_opOf w = 37 := e
  unfold FG_perform FG_performAccess
  rw [e1, show FG_bytesOfAccess 37 = 2 by decide, if_neg (show ¬ (37 : Int32) = 0 by decide), if_pos (show (32 : Int32) ≤ 37 by decide), if_neg (show ¬ (2 : Int32) = 0 by decide), if_pos (show (37 : Int32) < 40 by decide), if_pos (show (36 : Int32) ≤ 37 by decide)]
  exact eq_load (in_tOf w) hz b3_2
theorem op_38 {τ : SM} {w : Int32} (hI : IM τ) (hz : Z0 τ) (e : jushr w 26 = 38) : FG_perform (ab τ) w = ev (FM_atOnce τ w) := by
  simp +decide only [FG_perform, FG_performAccess, FG_bytesOfAccess, FM_atOnce, FG_opOf, FM_op, e, ↓reduceIte, ab_rg]
  rfl
theorem op_39 {τ : SM} {w : Int32} (hI : IM τ) (hz : Z0 τ) (e : jushr w 26 = 39) : FG_perform (ab τ) w = ev (FM_atOnce τ w) := by
  simp +decide only [FG_perform, FG_performAccess, FG_bytesOfAccess, FM_atOnce, FG_opOf, FM_op, e, ↓reduceIte, ab_rg]
  rfl
theorem op_40 {τ : SM} {w : Int32} (hI : IM τ) (hz : Z0 τ) (e : jushr w 26 = 40) : FG_perform (ab τ) w = ev (FM_atOnce τ w) := by
  have r : FM_atOnce τ w = FM_store τ (gmrg τ (Int32.toNatClampNeg (FM_second w))) (gmrg τ (Int32.toNatClampNeg (FM_first w)) + FM_signed w) 1 := by
    simp +decide only [FM_atOnce, FM_op, e, ↓reduceIte]
  rw [r]
  have e1 : FG_opOf w = 40 := e
  unfold FG_perform FG_performAccess
  rw [e1, show FG_bytesOfAccess 40 = 1 by decide, if_neg (show ¬ (40 : Int32) = 0 by decide), if_pos (show (32 : Int32) ≤ 40 by decide), if_neg (show ¬ (1 : Int32) = 0 by decide), if_neg (show ¬ (40 : Int32) < 40 by decide)]
  exact eq_store hI b3_1
theorem op_41 {τ : SM} {w : Int32} (hI : IM τ) (hz : Z0 τ) (e : jushr w 26 = 41) : FG_perform (ab τ) w = ev (FM_atOnce τ w) := by
  have r : FM_atOnce τ w = FM_store τ (gmrg τ (Int32.toNatClampNeg (FM_second w))) (gmrg τ (Int32.toNatClampNeg (FM_first w)) + FM_signed w) 2 := by
    simp +decide only [FM_atOnce, FM_op, e, ↓reduceIte]
  rw [r]
  have e1 : FG_opOf w = 41 := e
  unfold FG_perform FG_performAccess
  rw [e1, show FG_bytesOfAccess 41 = 2 by decide, if_neg (show ¬ (41 : Int32) = 0 by decide), if_pos (show (32 : Int32) ≤ 41 by decide), if_neg (show ¬ (2 : Int32) = 0 by decide), if_neg (show ¬ (41 : Int32) < 40 by decide)]
  exact eq_store hI b3_2
theorem op_42 {τ : SM} {w : Int32} (hI : IM τ) (hz : Z0 τ) (e : jushr w 26 = 42) : FG_perform (ab τ) w = ev (FM_atOnce τ w) := by
  simp +decide only [FG_perform, FG_performAccess, FG_bytesOfAccess, FM_atOnce, FG_opOf, FM_op, e, ↓reduceIte, ab_rg]
  rfl
theorem op_43 {τ : SM} {w : Int32} (hI : IM τ) (hz : Z0 τ) (e : jushr w 26 = 43) : FG_perform (ab τ) w = ev (FM_atOnce τ w) := by
  have r : FM_atOnce τ w = FM_store τ (gmrg τ (Int32.toNatClampNeg (FM_second w))) (gmrg τ (Int32.toNatClampNeg (FM_first w)) + FM_signed w) 4 := by
    simp +decide only [FM_atOnce, FM_op, e, ↓reduceIte]
  rw [r]
  have e1 : FG_opOf w = 43 := e
  unfold FG_perform FG_performAccess
  rw [e1, show FG_bytesOfAccess 43 = 4 by decide, if_neg (show ¬ (43 : Int32) = 0 by decide), if_pos (show (32 : Int32) ≤ 43 by decide), if_neg (show ¬ (4 : Int32) = 0 by decide), if_neg (show ¬ (43 : Int32) < 40 by decide)]
  exact eq_store hI b3_4
theorem op_44 {τ : SM} {w : Int32} (hI : IM τ) (hz : Z0 τ) (e : jushr w 26 = 44) : FG_perform (ab τ) w = ev (FM_atOnce τ w) := by
  simp +decide only [FG_perform, FG_performAccess, FG_bytesOfAccess, FM_atOnce, FG_opOf, FM_op, e, ↓reduceIte, ab_rg]
  rfl
theorem op_45 {τ : SM} {w : Int32} (hI : IM τ) (hz : Z0 τ) (e : jushr w 26 = 45) : FG_perform (ab τ) w = ev (FM_atOnce τ w) := by
  simp +decide only [FG_perform, FG_performAccess, FG_bytesOfAccess, FM_atOnce, FG_opOf, FM_op, e, ↓reduceIte, ab_rg]
  rfl
theorem op_46 {τ : SM} {w : Int32} (hI : IM τ) (hz : Z0 τ) (e : jushr w 26 = 46) : FG_perform (ab τ) w = ev (FM_atOnce τ w) := by
  simp +decide only [FG_perform, FG_performAccess, FG_bytesOfAccess, FM_atOnce, FG_opOf, FM_op, e, ↓reduceIte, ab_rg]
  rfl
theorem op_47 {τ : SM} {w : Int32} (hI : IM τ) (hz : Z0 τ) (e : jushr w 26 = 47) : FG_perform (ab τ) w = ev (FM_atOnce τ w) := by
  simp +decide only [FG_perform, FG_performAccess, FG_bytesOfAccess, FM_atOnce, FG_opOf, FM_op, e, ↓reduceIte, ab_rg]
  rfl
theorem op_48 {τ : SM} {w : Int32} (hI : IM τ) (hz : Z0 τ) (e : jushr w 26 = 48) : FG_perform (ab τ) w = ev (FM_atOnce τ w) := by
  simp +decide only [FG_perform, FG_performAccess, FG_bytesOfAccess, FM_atOnce, FG_opOf, FM_op, e, ↓reduceIte, ab_rg]
  rfl
theorem op_49 {τ : SM} {w : Int32} (hI : IM τ) (hz : Z0 τ) (e : jushr w 26 = 49) : FG_perform (ab τ) w = ev (FM_atOnce τ w) := by
  simp +decide only [FG_perform, FG_performAccess, FG_bytesOfAccess, FM_atOnce, FG_opOf, FM_op, e, ↓reduceIte, ab_rg]
  rfl
theorem op_50 {τ : SM} {w : Int32} (hI : IM τ) (hz : Z0 τ) (e : jushr w 26 = 50) : FG_perform (ab τ) w = ev (FM_atOnce τ w) := by
  simp +decide only [FG_perform, FG_performAccess, FG_bytesOfAccess, FM_atOnce, FG_opOf, FM_op, e, ↓reduceIte, ab_rg]
  rfl
theorem op_51 {τ : SM} {w : Int32} (hI : IM τ) (hz : Z0 τ) (e : jushr w 26 = 51) : FG_perform (ab τ) w = ev (FM_atOnce τ w) := by
  simp +decide only [FG_perform, FG_performAccess, FG_bytesOfAccess, FM_atOnce, FG_opOf, FM_op, e, ↓reduceIte, ab_rg]
  rfl
theorem op_52 {τ : SM} {w : Int32} (hI : IM τ) (hz : Z0 τ) (e : jushr w 26 = 52) : FG_perform (ab τ) w = ev (FM_atOnce τ w) := by
  simp +decide only [FG_perform, FG_performAccess, FG_bytesOfAccess, FM_atOnce, FG_opOf, FM_op, e, ↓reduceIte, ab_rg]
  rfl
theorem op_53 {τ : SM} {w : Int32} (hI : IM τ) (hz : Z0 τ) (e : jushr w 26 = 53) : FG_perform (ab τ) w = ev (FM_atOnce τ w) := by
  simp +decide only [FG_perform, FG_performAccess, FG_bytesOfAccess, FM_atOnce, FG_opOf, FM_op, e, ↓reduceIte, ab_rg]
  rfl
theorem op_54 {τ : SM} {w : Int32} (hI : IM τ) (hz : Z0 τ) (e : jushr w 26 = 54) : FG_perform (ab τ) w = ev (FM_atOnce τ w) := by
  simp +decide only [FG_perform, FG_performAccess, FG_bytesOfAccess, FM_atOnce, FG_opOf, FM_op, e, ↓reduceIte, ab_rg]
  rfl
theorem op_55 {τ : SM} {w : Int32} (hI : IM τ) (hz : Z0 τ) (e : jushr w 26 = 55) : FG_perform (ab τ) w = ev (FM_atOnce τ w) := by
  simp +decide only [FG_perform, FG_performAccess, FG_bytesOfAccess, FM_atOnce, FG_opOf, FM_op, e, ↓reduceIte, ab_rg]
  rfl
theorem op_56 {τ : SM} {w : Int32} (hI : IM τ) (hz : Z0 τ) (e : jushr w 26 = 56) : FG_perform (ab τ) w = ev (FM_atOnce τ w) := by
  simp +decide only [FG_perform, FG_performAccess, FG_bytesOfAccess, FM_atOnce, FG_opOf, FM_op, e, ↓reduceIte, ab_rg]
  rfl
theorem op_57 {τ : SM} {w : Int32} (hI : IM τ) (hz : Z0 τ) (e : jushr w 26 = 57) : FG_perform (ab τ) w = ev (FM_atOnce τ w) := by
  simp +decide only [FG_perform, FG_performAccess, FG_bytesOfAccess, FM_atOnce, FG_opOf, FM_op, e, ↓reduceIte, ab_rg]
  rfl
theorem op_58 {τ : SM} {w : Int32} (hI : IM τ) (hz : Z0 τ) (e : jushr w 26 = 58) : FG_perform (ab τ) w = ev (FM_atOnce τ w) := by
  simp +decide only [FG_perform, FG_performAccess, FG_bytesOfAccess, FM_atOnce, FG_opOf, FM_op, e, ↓reduceIte, ab_rg]
  rfl
theorem op_59 {τ : SM} {w : Int32} (hI : IM τ) (hz : Z0 τ) (e : jushr w 26 = 59) : FG_perform (ab τ) w = ev (FM_atOnce τ w) := by
  simp +decide only [FG_perform, FG_performAccess, FG_bytesOfAccess, FM_atOnce, FG_opOf, FM_op, e, ↓reduceIte, ab_rg]
  rfl
theorem op_60 {τ : SM} {w : Int32} (hI : IM τ) (hz : Z0 τ) (e : jushr w 26 = 60) : FG_perform (ab τ) w = ev (FM_atOnce τ w) := by
  simp +decide only [FG_perform, FG_performAccess, FG_bytesOfAccess, FM_atOnce, FG_opOf, FM_op, e, ↓reduceIte, ab_rg]
  rfl
theorem op_61 {τ : SM} {w : Int32} (hI : IM τ) (hz : Z0 τ) (e : jushr w 26 = 61) : FG_perform (ab τ) w = ev (FM_atOnce τ w) := by
  simp +decide only [FG_perform, FG_performAccess, FG_bytesOfAccess, FM_atOnce, FG_opOf, FM_op, e, ↓reduceIte, ab_rg]
  rfl
theorem op_62 {τ : SM} {w : Int32} (hI : IM τ) (hz : Z0 τ) (e : jushr w 26 = 62) : FG_perform (ab τ) w = ev (FM_atOnce τ w) := by
  simp +decide only [FG_perform, FG_performAccess, FG_bytesOfAccess, FM_atOnce, FG_opOf, FM_op, e, ↓reduceIte, ab_rg]
  rfl
theorem op_63 {τ : SM} {w : Int32} (hI : IM τ) (hz : Z0 τ) (e : jushr w 26 = 63) : FG_perform (ab τ) w = ev (FM_atOnce τ w) := by
  simp +decide only [FG_perform, FG_performAccess, FG_bytesOfAccess, FM_atOnce, FG_opOf, FM_op, e, ↓reduceIte, ab_rg]
  rfl
theorem eq_perform {τ : SM} {w : Int32} (hI : IM τ) (hz : Z0 τ) : FG_perform (ab τ) w = ev (FM_atOnce τ w) := by
  obtain ⟨j, hj, e⟩ := op_in w
  match j, hj, e with
  | 0, _, e => exact op_0 hI hz e
  | 1, _, e => exact op_1 hI hz e
  | 2, _, e => exact op_2 hI hz e
  | 3, _, e => exact op_3 hI hz e
  | 4, _, e => exact op_4 hI hz e
  | 5, _, e => exact op_5 hI hz e
  | 6, _, e => exact op_6 hI hz e
  | 7, _, e => exact op_7 hI hz e
  | 8, _, e => exact op_8 hI hz e
  | 9, _, e => exact op_9 hI hz e
  | 10, _, e => exact op_10 hI hz e
  | 11, _, e => exact op_11 hI hz e
  | 12, _, e => exact op_12 hI hz e
  | 13, _, e => exact op_13 hI hz e
  | 14, _, e => exact op_14 hI hz e
  | 15, _, e => exact op_15 hI hz e
  | 16, _, e => exact op_16 hI hz e
  | 17, _, e => exact op_17 hI hz e
  | 18, _, e => exact op_18 hI hz e
  | 19, _, e => exact op_19 hI hz e
  | 20, _, e => exact op_20 hI hz e
  | 21, _, e => exact op_21 hI hz e
  | 22, _, e => exact op_22 hI hz e
  | 23, _, e => exact op_23 hI hz e
  | 24, _, e => exact op_24 hI hz e
  | 25, _, e => exact op_25 hI hz e
  | 26, _, e => exact op_26 hI hz e
  | 27, _, e => exact op_27 hI hz e
  | 28, _, e => exact op_28 hI hz e
  | 29, _, e => exact op_29 hI hz e
  | 30, _, e => exact op_30 hI hz e
  | 31, _, e => exact op_31 hI hz e
  | 32, _, e => exact op_32 hI hz e
  | 33, _, e => exact op_33 hI hz e
  | 34, _, e => exact op_34 hI hz e
  | 35, _, e => exact op_35 hI hz e
  | 36, _, e => exact op_36 hI hz e
  | 37, _, e => exact op_37 hI hz e
  | 38, _, e => exact op_38 hI hz e
  | 39, _, e => exact op_39 hI hz e
  | 40, _, e => exact op_40 hI hz e
  | 41, _, e => exact op_41 hI hz e
  | 42, _, e => exact op_42 hI hz e
  | 43, _, e => exact op_43 hI hz e
  | 44, _, e => exact op_44 hI hz e
  | 45, _, e => exact op_45 hI hz e
  | 46, _, e => exact op_46 hI hz e
  | 47, _, e => exact op_47 hI hz e
  | 48, _, e => exact op_48 hI hz e
  | 49, _, e => exact op_49 hI hz e
  | 50, _, e => exact op_50 hI hz e
  | 51, _, e => exact op_51 hI hz e
  | 52, _, e => exact op_52 hI hz e
  | 53, _, e => exact op_53 hI hz e
  | 54, _, e => exact op_54 hI hz e
  | 55, _, e => exact op_55 hI hz e
  | 56, _, e => exact op_56 hI hz e
  | 57, _, e => exact op_57 hI hz e
  | 58, _, e => exact op_58 hI hz e
  | 59, _, e => exact op_59 hI hz e
  | 60, _, e => exact op_60 hI hz e
  | 61, _, e => exact op_61 hI hz e
  | 62, _, e => exact op_62 hI hz e
  | 63, _, e => exact op_63 hI hz e
  | j + 64, hj, _ => exact absurd hj (by omega)
-- what an instruction leaves: register 0, a trap's number
theorem zP {c : Prop} [Decidable c] {a b : Int32 × SM} (ha : Z0 a.2) (hb : Z0 b.2) : Z0 (if c then a else b).2 := by
  split
  · exact ha
  · exact hb
theorem zQ {c : Prop} [Decidable c] {a b : SM} (ha : Z0 a) (hb : Z0 b) : Z0 (if c then a else b) := by
  split
  · exact ha
  · exact hb
theorem z_up {τ : SM} {k : Nat} {v : Int32} (hk : k ≠ 0) (hz : Z0 τ) : Z0 (smrg τ (upd (gmrg τ) k v)) := by
  show upd (gmrg τ) k v 0 = 0
  unfold upd
  rw [if_neg (fun h => hk h.symm)]
  exact hz
theorem z_up2 {τ : SM} {j k : Nat} {u v : Int32} (hj : j ≠ 0) (hk : k ≠ 0) (hz : Z0 τ) : Z0 (smrg (smrg τ (upd (gmrg τ) j u)) (upd (upd (gmrg τ) j u) k v)) := z_up hk (z_up hj hz)
theorem z_system {τ : SM} (hz : Z0 τ) : Z0 (FM_system τ).2 := by
  unfold FM_system
  split
  · split
    · exact z_up (τ := τ) (by decide) hz
    · exact z_up (τ := τ) (by decide) hz
  · split
    · split
      · exact hz
      · exact hz
    · split
      · exact hz
      · exact hz
theorem z_sum {τ : SM} {k : Int32} {v : Int64} (hk : vp_in k 34) (hz : Z0 τ) : Z0 (FM_sum τ k v).2 := by
  unfold FM_sum
  repeat' (with_reducible refine zP ?_ ?_)
  all_goals first | with_reducible exact z_put hk hz | with_reducible exact hz
theorem z_halves {τ : SM} {v : Int64} (hz : Z0 τ) : Z0 (FM_halves τ v) := by
  unfold FM_halves
  exact z_up2 (by decide) (by decide) hz
theorem z_divide {τ : SM} {a b : Int32} (hz : Z0 τ) : Z0 (FM_divide τ a b) := by
  unfold FM_divide
  repeat' (with_reducible refine zQ ?_ ?_)
  all_goals with_reducible exact z_up2 (by decide) (by decide) hz
theorem z_divideBare {τ : SM} {a b : Int32} (hz : Z0 τ) : Z0 (FM_divideBare τ a b) := by
  unfold FM_divideBare
  repeat' (with_reducible refine zQ ?_ ?_)
  all_goals with_reducible exact z_up2 (by decide) (by decide) hz
theorem z_byFunction {τ : SM} {w : Int32} (hz : Z0 τ) : Z0 (FM_byFunction τ w).2 := by
  unfold FM_byFunction
  repeat' (with_reducible refine zP ?_ ?_)
  all_goals first | with_reducible exact hz | with_reducible exact z_put (im_third w) hz | with_reducible exact z_system hz | with_reducible exact z_sum (im_third w) hz | with_reducible exact z_divide hz | with_reducible exact z_divideBare hz | with_reducible exact z_halves hz | with_reducible exact z_up (by decide) hz
theorem z_LM_load {τ : SM} {a1 a2 a3 a4 : Int32} (ht : vp_in a1 34) (hz : Z0 τ) : ∀ (n : Nat) (x5 x6 : Int32), Z0 (LM_load a1 a2 a3 a4 n τ x5 x6).2 := by
  intro n
  induction n with
  | zero => intro x5 x6; exact hz
  | succ n ih =>
    intro x5 x6
    rw [LM_load]
    repeat' split
    all_goals first | with_reducible exact z_put ht hz | with_reducible exact ih _ _
theorem z_LM_store {a1 a2 a3 : Int32} : ∀ (n : Nat) (τ : SM) (x4 : Int32), Z0 τ → Z0 (LM_store a1 a2 a3 n τ x4).2 := by
  intro n
  induction n with
  | zero => intro τ x4 hz; exact hz
  | succ n ih =>
    intro τ x4 hz
    rw [LM_store]
    split
    · exact hz
    · exact ih _ _ (show Z0 (smby τ _) from hz)
theorem z_load {τ : SM} {a1 a2 a3 a4 : Int32} (ht : vp_in a1 34) (hz : Z0 τ) : Z0 (FM_load τ a1 a2 a3 a4).2 := by
  unfold FM_load
  repeat' (with_reducible refine zP ?_ ?_)
  all_goals first | with_reducible exact hz | with_reducible exact z_LM_load ht hz _ _ _
theorem z_store {τ : SM} {a1 a2 a3 : Int32} (hz : Z0 τ) : Z0 (FM_store τ a1 a2 a3).2 := by
  unfold FM_store
  repeat' (with_reducible refine zP ?_ ?_)
  all_goals first | with_reducible exact hz | with_reducible exact z_LM_store _ _ _ hz
theorem z_atOnce {τ : SM} {w : Int32} (hz : Z0 τ) : Z0 (FM_atOnce τ w).2 := by
  unfold FM_atOnce
  repeat' (with_reducible refine zP ?_ ?_)
  all_goals first | with_reducible exact hz | with_reducible exact z_put (im_second w) hz | with_reducible exact z_byFunction hz | with_reducible exact z_sum (im_second w) hz | with_reducible exact z_load (im_second w) hz | with_reducible exact z_store hz
def T9 (r : Int32) : Prop := 0 ≤ r.toInt ∧ r.toInt ≤ 10
theorem t9 {v : Int32} {τ : SM} (h : 0 ≤ v.toInt ∧ v.toInt ≤ 10) : T9 (v, τ).1 := h
theorem tP {c : Prop} [Decidable c] {a b : Int32 × SM} (ha : T9 a.1) (hb : T9 b.1) : T9 (if c then a else b).1 := by
  split
  · exact ha
  · exact hb
theorem t_system (τ : SM) : T9 (FM_system τ).1 := by
  unfold FM_system
  repeat' (with_reducible refine tP ?_ ?_)
  all_goals exact t9 (by decide)
theorem t_sum (τ : SM) (k : Int32) (v : Int64) : T9 (FM_sum τ k v).1 := by
  unfold FM_sum
  repeat' (with_reducible refine tP ?_ ?_)
  all_goals exact t9 (by decide)
theorem t_byFunction (τ : SM) (w : Int32) : T9 (FM_byFunction τ w).1 := by
  unfold FM_byFunction
  repeat' (with_reducible refine tP ?_ ?_)
  all_goals first | with_reducible exact t_system _ | with_reducible exact t_sum _ _ _ | exact t9 (by decide)
theorem t_LM_load {τ : SM} {a1 a2 a3 a4 : Int32} : ∀ (n : Nat) (x5 x6 : Int32), T9 (LM_load a1 a2 a3 a4 n τ x5 x6).1 := by
  intro n
  induction n with
  | zero => intro x5 x6; exact t9 (v := 0) (τ := τ) (by decide)
  | succ n ih =>
    intro x5 x6
    rw [LM_load]
    repeat' split
    all_goals first | with_reducible exact ih _ _ | exact t9 (by decide)
theorem t_LM_store {a1 a2 a3 : Int32} : ∀ (n : Nat) (τ : SM) (x4 : Int32), T9 (LM_store a1 a2 a3 n τ x4).1 := by
  intro n
  induction n with
  | zero => intro τ x4; exact t9 (v := 0) (τ := τ) (by decide)
  | succ n ih =>
    intro τ x4
    rw [LM_store]
    split
    · exact t9 (by decide)
    · exact ih _ _
theorem t_load (τ : SM) (a1 a2 a3 a4 : Int32) : T9 (FM_load τ a1 a2 a3 a4).1 := by
  unfold FM_load
  repeat' (with_reducible refine tP ?_ ?_)
  all_goals first | with_reducible exact t_LM_load _ _ _ | exact t9 (by decide)
theorem t_store (τ : SM) (a1 a2 a3 : Int32) : T9 (FM_store τ a1 a2 a3).1 := by
  unfold FM_store
  repeat' (with_reducible refine tP ?_ ?_)
  all_goals first | with_reducible exact t_LM_store _ _ _ | exact t9 (by decide)
theorem t_atOnce (τ : SM) (w : Int32) : T9 (FM_atOnce τ w).1 := by
  unfold FM_atOnce
  repeat' (with_reducible refine tP ?_ ?_)
  all_goals first | with_reducible exact t_byFunction _ _ | with_reducible exact t_sum _ _ _ | with_reducible exact t_load _ _ _ _ _ | with_reducible exact t_store _ _ _ _ | exact t9 (by decide)
