-- the reference's state, seen as the class's
def OUT (τ : SM) : Int32 := if gmen τ = 0 then (if gmtr τ = 0 then 0 else 10 + gmtr τ) else 1
def ab (τ : SM) : SG := (gmty τ, gmts τ, gmtx τ, gmsz τ, gmrg τ, gmby τ, gmin τ, gmis τ, gmia τ, gmou τ, gmos τ, gmpc τ, gmus τ, OUT τ, gmex τ)
def ev (s : Int32 × SM) : Int32 × SG := (s.1, ab s.2)
theorem ab_dr (τ : SM) : gdr (ab τ) = gmty τ := rfl
theorem ab_dc (τ : SM) : gdc (ab τ) = gmts τ := rfl
theorem ab_tx (τ : SM) : gtx (ab τ) = gmtx τ := rfl
theorem ab_tc (τ : SM) : gtc (ab τ) = gmsz τ := rfl
theorem ab_rg (τ : SM) : grg (ab τ) = gmrg τ := rfl
theorem ab_mm (τ : SM) : gmm (ab τ) = gmby τ := rfl
theorem ab_ti (τ : SM) : gti (ab τ) = gmin τ := rfl
theorem ab_ic (τ : SM) : gic (ab τ) = gmis τ := rfl
theorem ab_ir (τ : SM) : gir (ab τ) = gmia τ := rfl
theorem ab_to (τ : SM) : gto (ab τ) = gmou τ := rfl
theorem ab_oc (τ : SM) : goc (ab τ) = gmos τ := rfl
theorem ab_pc (τ : SM) : gpc (ab τ) = gmpc τ := rfl
theorem ab_us (τ : SM) : gus (ab τ) = gmus τ := rfl
theorem ab_ou (τ : SM) : gou (ab τ) = OUT τ := rfl
theorem ab_ec (τ : SM) : gec (ab τ) = gmex τ := rfl
theorem sb_dr (τ : SM) (v : Nat → Int32) : sdr (ab τ) v = ab (smty τ v) := rfl
theorem sb_dc (τ : SM) (v : Int32) : sdc (ab τ) v = ab (smts τ v) := rfl
theorem sb_tx (τ : SM) (v : Nat → Int32) : stx (ab τ) v = ab (smtx τ v) := rfl
theorem sb_tc (τ : SM) (v : Int32) : stc (ab τ) v = ab (smsz τ v) := rfl
theorem sb_rg (τ : SM) (v : Nat → Int32) : srg (ab τ) v = ab (smrg τ v) := rfl
theorem sb_mm (τ : SM) (v : Nat → Int32) : smm (ab τ) v = ab (smby τ v) := rfl
theorem sb_ti (τ : SM) (v : Nat → Int32) : sti (ab τ) v = ab (smin τ v) := rfl
theorem sb_ic (τ : SM) (v : Int32) : sic (ab τ) v = ab (smis τ v) := rfl
theorem sb_ir (τ : SM) (v : Int32) : sir (ab τ) v = ab (smia τ v) := rfl
theorem sb_to (τ : SM) (v : Nat → Int32) : sto (ab τ) v = ab (smou τ v) := rfl
theorem sb_oc (τ : SM) (v : Int32) : soc (ab τ) v = ab (smos τ v) := rfl
theorem sb_pc (τ : SM) (v : Int32) : spc (ab τ) v = ab (smpc τ v) := rfl
theorem sb_us (τ : SM) (v : Int32) : sus (ab τ) v = ab (smus τ v) := rfl
theorem sb_ec (τ : SM) (v : Int32) : sec (ab τ) v = ab (smex τ v) := rfl
-- rows
theorem upd_same {f : Nat → Int32} {k : Nat} {x : Int32} (h : f k = x) : upd f k x = f := by
  funext j
  unfold upd
  split
  · rename_i e; rw [e, h]
  · rfl
theorem upd_comm (f : Nat → Int32) {j k : Nat} (h : j ≠ k) (x y : Int32) : upd (upd f j x) k y = upd (upd f k y) j x := by
  funext i
  unfold upd
  by_cases h1 : i = k
  · subst h1
    rw [if_pos rfl, if_neg (fun e => h e.symm), if_pos rfl]
  · by_cases h2 : i = j
    · subst h2
      rw [if_neg h1, if_pos rfl, if_pos rfl]
    · rw [if_neg h1, if_neg h2, if_neg h2, if_neg h1]
theorem rg_same (τ : SM) : smrg τ (gmrg τ) = τ := rfl
theorem ia_same (τ : SM) : smia τ (gmia τ) = τ := rfl
def Z0 (τ : SM) : Prop := gmrg τ 0 = 0
theorem clamp_pos {k : Int32} (h : ¬ k ≤ 0) : k.toNatClampNeg ≠ 0 := by
  rw [ti_le, ti_0] at h
  rw [Int32.toNatClampNeg]
  omega
theorem eq_put {τ : SM} {k v : Int32} (hk : vp_in k 34) (hz : Z0 τ) : FG_put (ab τ) k v = (0, ab (FM_put τ k v)) := by
  obtain ⟨h1, h2⟩ := vp_in_iff.mp hk
  unfold FG_put FM_put
  by_cases c : k ≤ 0
  · have e : k = 0 := Int32.toInt_inj.mp (by rw [ti_le, ti_0] at c; rw [ti_0]; omega)
    rw [if_pos c, if_pos e, e, upd_same (show gmrg τ (Int32.toNatClampNeg 0) = 0 from hz)]
    rfl
  · have e : ¬ k = 0 := fun e => c (by rw [e]; decide)
    have c2 : ¬ (34 : Int32) ≤ k := by
      rw [ti_le, show (34 : Int32).toInt = 34 by decide]
      omega
    rw [if_neg c, if_neg c2, if_neg e]
    rfl
theorem z_put {τ : SM} {k v : Int32} (hk : vp_in k 34) (hz : Z0 τ) : Z0 (FM_put τ k v) := by
  obtain ⟨h1, h2⟩ := vp_in_iff.mp hk
  unfold FM_put
  split
  · rename_i e
    show upd (gmrg τ) (Int32.toNatClampNeg k) 0 0 = 0
    unfold upd
    split
    · rfl
    · exact hz
  · rename_i e
    show upd (gmrg τ) (Int32.toNatClampNeg k) v 0 = 0
    unfold upd
    have : k.toNatClampNeg ≠ 0 := clamp_pos (fun c => e (Int32.toInt_inj.mp (by rw [ti_le, ti_0] at c; rw [ti_0]; omega)))
    rw [if_neg (fun h => this h.symm)]
    exact hz
theorem eq_halves {τ : SM} {v : Int64} : FG_putProduct (ab τ) v = (0, ab (FM_halves τ v)) := by
  unfold FG_putProduct FM_halves FG_put
  rw [if_neg (by decide), if_neg (by decide), if_neg (by decide), if_neg (by decide)]
  rfl
theorem lc_0 {x : Int64} : lg_cmp x 0 = 0 ↔ x = 0 := by
  constructor
  · intro h
    by_cases e : x = 0
    · exact e
    · exact absurd (lc_ne (x := x)) (fun f => by
        unfold lg_cmp at h
        split at h
        · exact absurd h (by decide)
        · exact absurd h (by decide))
  · intro e
    rw [e]
    decide
theorem i64_0 {x : Int32} : Int32.toInt64 x = 0 ↔ x = 0 := by
  constructor
  · intro h
    by_cases e : x = 0
    · exact e
    · exact absurd h (i64_ne e)
  · intro e
    rw [e]
    decide
theorem i64_32 (x : Int32) : Int64.toInt32 (Int32.toInt64 x) = x := by
  simp
theorem uns_32 (x : Int32) : Int64.toInt32 (Int32.toInt64 x &&& 4294967295) = x := by
  apply Int32.toBitVec_inj.mp
  simp
  rw [show (4294967295#32) = BitVec.allOnes 32 by decide, BitVec.and_allOnes]
theorem eq_div2 (σ : SG) (a b : Int32) : (FG_put (FG_put σ 32 a).2 33 b) = (0, srg σ (upd (upd (grg σ) 33 b) 32 a)) := by
  unfold FG_put
  rw [if_neg (by decide), if_neg (by decide), if_neg (by decide), if_neg (by decide)]
  show ((0 : Int32), srg (srg σ (upd (grg σ) 32 a)) (upd (upd (grg σ) 32 a) 33 b)) = _
  rw [upd_comm (grg σ) (by decide) a b]
  rfl
theorem eq_divide {τ : SM} {a b : Int32} : FG_divide (ab τ) (Int32.toInt64 a) (Int32.toInt64 b) = (0, ab (FM_divide τ a b)) := by
  unfold FG_divide FM_divide
  by_cases e : b = 0
  · rw [if_pos (lc_0.mpr (i64_0.mpr e)), if_pos e, eq_div2, i64_32]
    rfl
  · rw [if_neg (fun h => e (i64_0.mp (lc_0.mp h))), if_neg e, eq_div2]
    rfl
theorem eq_divideBare {τ : SM} {a b : Int32} : FG_divide (ab τ) (FG_unsigned a) (FG_unsigned b) = (0, ab (FM_divideBare τ a b)) := by
  unfold FG_divide FM_divideBare FG_unsigned
  by_cases e : lg_cmp (Int32.toInt64 b &&& 4294967295) 0 = 0
  · rw [if_pos e, if_pos e, eq_div2, uns_32]
    rfl
  · rw [if_neg e, if_neg e, eq_div2]
    rfl
theorem eq_sum {τ : SM} {k : Int32} {v : Int64} (hk : vp_in k 34) (hz : Z0 τ) : FG_putUnlessOverflow (ab τ) k v = ev (FM_sum τ k v) := by
  unfold FG_putUnlessOverflow FM_sum
  split
  · rw [eq_put hk hz]; rfl
  · rfl
theorem eq_system {τ : SM} (hz : Z0 τ) : FG_performSystem (ab τ) = ev (FM_system τ) := by
  unfold FG_performSystem FM_system
  rw [ab_rg]
  split
  · unfold FG_readByte
    rw [ab_ir, ab_ic, ab_ti]
    by_cases c : gmia τ < gmis τ
    · rw [if_pos c, if_neg (k2_nle c), sb_ir, eq_put (τ := smia τ (gmia τ + 1)) (k := 2) (in_c (by decide)) hz]
      unfold FM_put
      rw [if_neg (by decide)]
      rfl
    · rw [if_neg c, if_pos (k2_le c), eq_put (k := 2) (in_c (by decide)) hz, Int32.add_zero]
      unfold FM_put
      rw [if_neg (by decide)]
      rfl
  · split
    · unfold FG_writeByte
      rw [ab_oc, ab_to, ab_rg]
      split
      · rfl
      · rfl
    · split
      · rfl
      · rfl
