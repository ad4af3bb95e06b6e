-- the calls: the same answer, the same state behind it
def RR (τ : SM) : Prop := IM τ ∧ Z0 τ ∧ T9 (gmtr τ)
theorem ig_of {τ : SM} (h : RR τ) : IG (ab τ) := h.1
theorem ab_Z : ab ZSM = ZSG := rfl
theorem rr_Z : RR ZSM := ⟨⟨⟨by decide, by decide⟩, ⟨by decide, by decide⟩, ⟨by decide, by decide⟩, by decide, by decide, by decide⟩, rfl, ⟨by decide, by decide⟩⟩
theorem lt64 {x y : Int32} (h : x.toInt ≤ y.toInt) : x < y ↔ ¬ x = y := by
  constructor
  · intro c e
    rw [ti_lt, e] at c
    omega
  · intro c
    rw [ti_lt]
    have : x.toInt ≠ y.toInt := fun e => c (Int32.toInt_inj.mp e)
    omega
theorem eq_word {τ : SM} {a : Int32} (hR : RR τ) : FG_word (ab τ) a = ev (FM_word τ a) := by
  unfold FG_word FM_word
  rw [ab_dc, ab_dr]
  have h := lt64 (x := gmts τ) (y := 64) hR.1.1.2
  by_cases c : gmts τ = 64
  · rw [if_neg (fun k => h.mp k c), if_pos c]; rfl
  · rw [if_pos (h.mpr c), if_neg c]; rfl
theorem eq_set {τ : SM} {a b : Int32} (_ : RR τ) : FG_set (ab τ) a b = ev (FM_set τ a b) := by
  unfold FG_set FM_set
  rw [ab_dc, ab_dr]
  split
  · rfl
  · split <;> rfl
theorem eq_input {τ : SM} {a : Int32} (hR : RR τ) : FG_input (ab τ) a = ev (FM_input τ a) := by
  unfold FG_input FM_input FG_isByte
  rw [ab_ic, ab_ti]
  have h := lt64 (x := gmis τ) (y := 64) hR.1.2.2.1.2
  by_cases c1 : a < 0
  · rw [if_pos c1, if_pos c1, if_pos rfl]; rfl
  · rw [if_neg c1, if_neg c1]
    by_cases c2 : a ≤ 255
    · rw [if_neg (k2_nlt c2), if_pos c2, if_neg (by decide)]
      by_cases c : gmis τ = 64
      · rw [if_neg (fun k => h.mp k c), if_pos c]; rfl
      · rw [if_pos (h.mpr c), if_neg c]; rfl
    · rw [if_pos (k2_lt c2), if_neg c2, if_pos rfl]; rfl
theorem ge256 {a : Int32} : (256 : Int32) ≤ a ↔ (255 : Int32) < a := by
  rw [ti_le, ti_lt, show (256 : Int32).toInt = 256 by decide, show (255 : Int32).toInt = 255 by decide]
  omega
theorem eq_data {τ : SM} {a b : Int32} (_ : RR τ) : FG_data (ab τ) a b = ev (FM_data τ a b) := by
  unfold FG_data FM_data FG_isDataIndex FG_isByte
  rw [ab_mm]
  by_cases c1 : a < 0
  · rw [if_pos c1, if_pos c1, if_pos rfl]; rfl
  · rw [if_neg c1, if_neg c1]
    by_cases c2 : (255 : Int32) < a
    · rw [if_pos (ge256.mpr c2), if_pos c2, if_pos rfl]; rfl
    · rw [if_neg (fun h => c2 (ge256.mp h)), if_neg c2, if_neg (by decide)]
      by_cases c3 : b < 0
      · rw [if_pos c3, if_pos c3, if_pos rfl]; rfl
      · rw [if_neg c3, if_neg c3]
        by_cases c4 : b ≤ 255
        · rw [if_neg (k2_nlt c4), if_pos c4, if_neg (by decide)]; rfl
        · rw [if_pos (k2_lt c4), if_neg c4, if_pos rfl]; rfl
theorem eq_register {τ : SM} {a : Int32} (_ : RR τ) : (FG_register (ab τ) a, ab τ) = ev (FM_register τ a, τ) := by
  have e : FG_register (ab τ) a = FM_register τ a := by
    unfold FG_register FM_register
    rw [ab_pc, ab_us, ab_rg]
    by_cases c1 : a = 34
    · rw [c1, if_pos rfl, if_neg (by decide), if_pos (by decide), if_pos rfl]
    · rw [if_neg c1, if_neg c1]
      by_cases c2 : a = 35
      · rw [c2, if_pos rfl, if_neg (by decide), if_pos (by decide), if_pos rfl]
      · rw [if_neg c2, if_neg c2]
  rw [e]
  rfl
theorem eq_give {τ : SM} {a b : Int32} (_ : RR τ) : FG_give (ab τ) a b = ev (FM_give τ a b) := by
  have h : a < 34 ↔ a ≤ 33 := by
    rw [ti_le, ti_lt, show (34 : Int32).toInt = 34 by decide, show (33 : Int32).toInt = 33 by decide]
    omega
  unfold FG_give FM_give
  rw [ab_rg]
  split
  · rfl
  · by_cases c : a ≤ 33
    · rw [if_pos (h.mpr c), if_pos c]; rfl
    · rw [if_neg (fun k => c (h.mp k)), if_neg c]; rfl
theorem eq_byteOf {τ : SM} {a : Int32} (_ : RR τ) : (FG_byteOf (ab τ) a, ab τ) = ev (FM_byteOf τ a, τ) := by
  have e : FG_byteOf (ab τ) a = FM_byteOf τ a := by
    unfold FG_byteOf FM_byteOf FG_isDataIndex
    rw [ab_mm]
    by_cases c1 : a < 0
    · rw [if_pos c1, if_pos c1, if_pos rfl]
    · rw [if_neg c1, if_neg c1]
      by_cases c2 : (256 : Int32) ≤ a
      · rw [if_pos c2, if_pos c2, if_pos rfl]
      · rw [if_neg c2, if_neg c2, if_neg (by decide)]
  rw [e]
  rfl
theorem eq_output {τ : SM} {a : Int32} (_ : RR τ) : (FG_output (ab τ) a, ab τ) = ev (FM_output τ a, τ) := rfl
theorem eq_code {τ : SM} (_ : RR τ) : (FG_code (ab τ), ab τ) = ev (FM_code τ, τ) := rfl
-- begin
theorem pc_ia (τ : SM) (a b : Int32) : smia (smpc τ b) a = smpc (smia τ a) b := rfl
theorem pc_os (τ : SM) (a b : Int32) : smos (smpc τ b) a = smpc (smos τ a) b := rfl
theorem so_0 (τ : SM) : sou (ab τ) 0 = ab (smtr (smen τ 0) 0) := rfl
theorem tc_gt (σ : SG) (v : Int32) : gtc (stc σ v) = v := rfl
theorem tc_tx (σ : SG) (v : Int32) : gtx (stc σ v) = gtx σ := rfl
theorem tc_dr (σ : SG) (v : Int32) : gdr (stc σ v) = gdr σ := rfl
theorem tx_tc (σ : SG) (f : Nat → Int32) (v : Int32) : stc (stx σ f) v = stx (stc σ v) f := rfl
theorem tx_dc (σ : SG) (f : Nat → Int32) : gdc (stx σ f) = gdc σ := rfl
theorem bg2 : ∀ (n : Nat) (τ : SM) (k : Int32), JUp 34 n k → LG_begin2 n (ab τ) k = ev (LM_begin2 n τ k) := by
  intro n
  induction n with
  | zero => intro τ k h; exact absurd h jup_0
  | succ n ih =>
    intro τ k h
    rw [LG_begin2, LM_begin2]
    by_cases c : (34 : Int32) ≤ k
    · rw [if_pos c, if_pos c, ab_tc, ab_rg, sb_rg, sb_ir, sb_oc, sb_pc, sb_us, so_0, sb_ec, pc_ia, pc_os]
      rfl
    · rw [if_neg c, if_neg c, ab_rg, sb_rg]
      exact ih _ _ (jup_b (k := 34) h c (by decide))
theorem bg1 : ∀ (n : Nat) (σ : SG) (τ : SM) (k : Int32), stc σ (gdc σ) = ab τ → (gdc σ).toInt ≤ 64 → JUp (gdc σ) n k → LG_begin1 n σ k = ev (LM_begin1 n τ k) := by
  intro n
  induction n with
  | zero => intro σ τ k _ _ h; exact absurd h jup_0
  | succ n ih =>
    intro σ τ k e hd h
    have e1 : gmsz τ = gdc σ := by rw [← ab_tc, ← e, tc_gt]
    have e2 : gmtx τ = gtx σ := by rw [← ab_tx, ← e, tc_tx]
    have e3 : gmty τ = gdr σ := by rw [← ab_dr, ← e, tc_dr]
    rw [LG_begin1, LM_begin1, e1, e2, e3]
    by_cases c : gdc σ ≤ k
    · rw [if_pos c, if_pos c, e]
      exact bg2 _ _ _ jup_s34
    · rw [if_neg c, if_neg c]
      refine ih _ _ _ ?_ hd (jup_b h c hd)
      rw [tx_dc, tx_tc, e, sb_tx]
theorem eq_begin {τ : SM} (hR : RR τ) : FG_begin (ab τ) = ev (FM_begin τ) := by
  unfold FG_begin FM_begin
  exact bg1 _ _ _ _ (by rw [ab_dc, sb_tc]) hR.1.1.2 (jup_s hR.1.1)
theorem z_up0 {τ : SM} {k : Nat} (hz : Z0 τ) : Z0 (smrg τ (upd (gmrg τ) k 0)) := by
  show upd (gmrg τ) k 0 0 = 0
  unfold upd
  split
  · rfl
  · exact hz
theorem ims_ia0 {τ : SM} (h : IM τ) : IM (smia τ 0) := ⟨h.1, h.2.1, h.2.2.1, (by decide : ¬ (0 : Int32) < 0), h.2.2.2.2⟩
theorem ims_os0 {τ : SM} (h : IM τ) : IM (smos τ 0) := ⟨h.1, h.2.1, h.2.2.1, h.2.2.2.1, (by decide : ¬ (0 : Int32) < 0), (by decide : (0 : Int32).toInt ≤ 256)⟩
theorem zs_ia {τ : SM} {v : Int32} (h : Z0 τ) : Z0 (smia τ v) := h
theorem zs_os {τ : SM} {v : Int32} (h : Z0 τ) : Z0 (smos τ v) := h
theorem zs_us {τ : SM} {v : Int32} (h : Z0 τ) : Z0 (smus τ v) := h
theorem zs_en {τ : SM} {v : Int32} (h : Z0 τ) : Z0 (smen τ v) := h
theorem zs_tr {τ : SM} {v : Int32} (h : Z0 τ) : Z0 (smtr τ v) := h
theorem zs_ex {τ : SM} {v : Int32} (h : Z0 τ) : Z0 (smex τ v) := h
theorem zs_pc {τ : SM} {v : Int32} (h : Z0 τ) : Z0 (smpc τ v) := h
theorem gt_ex (τ : SM) (u v : Int32) : gmtr (smex (smtr τ u) v) = u := rfl
theorem rr_all {τ : SM} (hI : IM τ) (hz : Z0 τ) : RR (smex (smtr (smen (smus (smos (smia (smpc τ 0) 0) 0) 0) 0) 0) 0) :=
  ⟨ims_mex (ims_mtr (ims_men (ims_mus (ims_os0 (ims_ia0 (ims_mpc hI)))))), zs_ex (zs_tr (zs_en (zs_us (zs_os (zs_ia (zs_pc hz)))))), by rw [gt_ex]; exact ⟨by decide, by decide⟩⟩
theorem rr_bg2 : ∀ (n : Nat) (τ : SM) (k : Int32), JUp 34 n k → IM τ → Z0 τ → RR (LM_begin2 n τ k).2 := by
  intro n
  induction n with
  | zero => intro τ k h; exact absurd h jup_0
  | succ n ih =>
    intro τ k h hI hz
    rw [LM_begin2]
    by_cases c : (34 : Int32) ≤ k
    · rw [if_pos c]
      have hz2 : Z0 (smrg τ (upd (gmrg τ) (Int32.toNatClampNeg 29) 268435712)) := z_up (by decide) hz
      have hI2 : IM (smrg τ (upd (gmrg τ) (Int32.toNatClampNeg 29) 268435712)) := ims_mrg hI
      exact rr_all hI2 hz2
    · rw [if_neg c]
      exact ih _ _ (jup_b (k := 34) h c (by decide)) (ims_mrg hI) (z_up0 hz)
theorem rr_bg1 : ∀ (n : Nat) (τ : SM) (k : Int32), JUp (gmsz τ) n k → IM τ → Z0 τ → RR (LM_begin1 n τ k).2 := by
  intro n
  induction n with
  | zero => intro τ k h; exact absurd h jup_0
  | succ n ih =>
    intro τ k h hI hz
    rw [LM_begin1]
    by_cases c : gmsz τ ≤ k
    · rw [if_pos c]
      exact rr_bg2 _ _ _ jup_s34 hI hz
    · rw [if_neg c]
      exact ih _ _ (jup_b h c hI.2.1.2) (ims_mtx hI) hz
theorem rr_begin {τ : SM} (hR : RR τ) : RR (FM_begin τ).2 := by
  unfold FM_begin
  exact rr_bg1 _ _ _ (jup_s hR.1.1) (imv_sz hR.1) hR.2.1
theorem rr_word {τ : SM} {a : Int32} (hR : RR τ) : RR (FM_word τ a).2 := by
  unfold FM_word
  by_cases c : gmts τ = 64
  · rw [if_pos c]; exact hR
  · rw [if_neg c]
    have h := (lt64 (x := gmts τ) (y := 64) hR.1.1.2).mpr c
    rw [ti_lt, show (64 : Int32).toInt = 64 by decide] at h
    exact ⟨⟨inc_ok (k := 64) hR.1.1.1 h (by decide), hR.1.2⟩, hR.2.1, hR.2.2⟩
theorem rr_set {τ : SM} {a b : Int32} (hR : RR τ) : RR (FM_set τ a b).2 := by
  unfold FM_set
  split
  · exact hR
  · split
    · exact hR
    · exact hR
theorem rr_input {τ : SM} {a : Int32} (hR : RR τ) : RR (FM_input τ a).2 := by
  unfold FM_input
  split
  · exact hR
  · split
    · by_cases c : gmis τ = 64
      · rw [if_pos c]; exact hR
      · rw [if_neg c]
        have h := (lt64 (x := gmis τ) (y := 64) hR.1.2.2.1.2).mpr c
        rw [ti_lt, show (64 : Int32).toInt = 64 by decide] at h
        exact ⟨⟨hR.1.1, hR.1.2.1, inc_ok (k := 64) hR.1.2.2.1.1 h (by decide), hR.1.2.2.2⟩, hR.2.1, hR.2.2⟩
    · exact hR
theorem rr_data {τ : SM} {a b : Int32} (hR : RR τ) : RR (FM_data τ a b).2 := by
  unfold FM_data
  repeat' split
  all_goals exact hR
theorem rr_give {τ : SM} {a b : Int32} (hR : RR τ) : RR (FM_give τ a b).2 := by
  unfold FM_give
  split
  · exact hR
  · rename_i c
    split
    · have hk : a.toNatClampNeg ≠ 0 := by
        rw [ti_lt, ti_1] at c
        rw [Int32.toNatClampNeg]
        omega
      exact ⟨hR.1, z_up hk hR.2.1, hR.2.2⟩
    · exact hR
