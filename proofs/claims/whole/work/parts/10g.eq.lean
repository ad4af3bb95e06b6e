-- a step of two
theorem abP {c : Prop} [Decidable c] {a b τ : SM} (ha : ab a = ab τ) (hb : ab b = ab τ) : ab (if c then a else b) = ab τ := by
  split
  · exact ha
  · exact hb
theorem ab_go (τ : SM) (v : Int32) : ab (smgo τ v) = ab τ := rfl
theorem ab_gl (τ : SM) (v : Int32) : ab (smgl τ v) = ab τ := rfl
theorem ab_lk (τ : SM) (v : Int32) : ab (smlk τ v) = ab τ := rfl
theorem ab_aim (τ : SM) (w : Int32) : ab (FM_aim τ w) = ab τ := by
  unfold FM_aim
  repeat' (with_reducible refine abP ?_ ?_)
  all_goals simp only [ab_go, ab_gl, ab_lk]
def TN (τ a : SM) : Prop := gmtr a = gmtr τ ∧ gmen a = gmen τ
theorem tn_rf (τ : SM) : TN τ τ := ⟨rfl, rfl⟩
theorem tn_go {τ a : SM} {v : Int32} (h : TN τ a) : TN τ (smgo a v) := h
theorem tn_gl {τ a : SM} {v : Int32} (h : TN τ a) : TN τ (smgl a v) := h
theorem tn_lk {τ a : SM} {v : Int32} (h : TN τ a) : TN τ (smlk a v) := h
theorem tnP {c : Prop} [Decidable c] {a b τ : SM} (ha : TN τ a) (hb : TN τ b) : TN τ (if c then a else b) := by
  split
  · exact ha
  · exact hb
theorem pc_aim (τ : SM) (w : Int32) : gmpc (FM_aim τ w) = gmpc τ := congrArg gpc (ab_aim τ w)
theorem sz_aim (τ : SM) (w : Int32) : gmsz (FM_aim τ w) = gmsz τ := congrArg gtc (ab_aim τ w)
theorem rg_aim (τ : SM) (w : Int32) : gmrg (FM_aim τ w) = gmrg τ := congrArg grg (ab_aim τ w)
theorem z_aim {τ : SM} {w : Int32} (hz : Z0 τ) : Z0 (FM_aim τ w) := by
  unfold Z0
  rw [rg_aim]
  exact hz
theorem te_P {c : Prop} [Decidable c] {a b τ : SM} (ha : gmtr a = gmtr τ ∧ gmen a = gmen τ) (hb : gmtr b = gmtr τ ∧ gmen b = gmen τ) : gmtr (if c then a else b) = gmtr τ ∧ gmen (if c then a else b) = gmen τ := by
  split
  · exact ha
  · exact hb
theorem te_aim (τ : SM) (w : Int32) : TN τ (FM_aim τ w) := by
  unfold FM_aim
  repeat' (with_reducible refine tnP ?_ ?_)
  all_goals repeat' (first | with_reducible exact tn_rf _ | with_reducible refine tn_go ?_ | with_reducible refine tn_gl ?_ | with_reducible refine tn_lk ?_)
theorem te_put (τ : SM) (k v : Int32) : gmtr (FM_put τ k v) = gmtr τ ∧ gmen (FM_put τ k v) = gmen τ := by
  unfold FM_put
  repeat' (with_reducible refine te_P ?_ ?_)
  all_goals exact ⟨rfl, rfl⟩
theorem isText_aim (τ : SM) (w g : Int32) : FM_isText (FM_aim τ w) g = FM_isText τ g := by
  unfold FM_isText
  rw [sz_aim]
theorem put0 {τ : SM} {k u v : Int32} (h : k = 0) : FM_put τ k u = FM_put τ k v := by
  unfold FM_put
  rw [if_pos h, if_pos h]
theorem t9_0 {r : Int32} (h : T9 r) : r ≤ 0 ↔ r = 0 := by
  constructor
  · intro c
    rw [ti_le, ti_0] at c
    exact Int32.toInt_inj.mp (by rw [ti_0]; have := h.1; omega)
  · intro e
    rw [e]
    decide
theorem two_main {a : SM} {lk slot addr nx : Int32} (hI : IM a) (hz : Z0 a) (hk : vp_in lk 34) (hlk : gmlk a = lk) :
    (if (FG_perform (FG_put (ab a) lk addr).2 slot).1 = 0 then ((0 : Int32), spc (FG_perform (FG_put (ab a) lk addr).2 slot).2 nx) else ((FG_perform (FG_put (ab a) lk addr).2 slot).1, srg (FG_perform (FG_put (ab a) lk addr).2 slot).2 (upd (grg (FG_perform (FG_put (ab a) lk addr).2 slot).2) (Int32.toNatClampNeg lk) (gmrg a (Int32.toNatClampNeg lk)))))
    = ev (if (FM_atOnce (FM_put a lk addr) slot).1 ≤ 0 then ((0 : Int32), smpc (FM_atOnce (FM_put a lk addr) slot).2 nx) else ((FM_atOnce (FM_put a lk addr) slot).1, smrg (FM_atOnce (FM_put a lk addr) slot).2 (upd (gmrg (FM_atOnce (FM_put a lk addr) slot).2) (Int32.toNatClampNeg (gmlk (FM_atOnce (FM_put a lk addr) slot).2)) (gmrg a (Int32.toNatClampNeg lk))))) := by
  have e1 : (FG_put (ab a) lk addr).2 = ab (FM_put a lk addr) := by rw [eq_put hk hz]
  rw [e1, eq_perform (imv_put hI) (z_put hk hz)]
  have e2 : gmlk (FM_atOnce (FM_put a lk addr) slot).2 = lk := by
    rw [(km_atOnce _ _).1, (km_put _ _ _).1, hlk]
  have ht := t_atOnce (FM_put a lk addr) slot
  rw [e2]
  generalize FM_atOnce (FM_put a lk addr) slot = Q at ht
  by_cases c : Q.1 = 0
  · rw [if_pos ((t9_0 ht).mpr c), if_pos (show (ev Q).1 = 0 from c)]
    rfl
  · rw [if_neg (fun h => c ((t9_0 ht).mp h)), if_neg (show ¬ (ev Q).1 = 0 from c)]
    rfl
theorem y_eq {a : SM} {k slot addr nx : Int32} {Zv : Int32 × SM} (h : (gmgo a = 0 ∧ gmpc a + 2 = nx) ∨ (¬ gmgo a = 0 ∧ (gmgl a - 4194304) / 4 = nx)) :
    (if (FM_atOnce (FM_put a k addr) slot).1 ≤ 0 then (if gmgo (FM_atOnce (FM_put a k addr) slot).2 = 0 then ((0 : Int32), smpc (FM_atOnce (FM_put a k addr) slot).2 (gmpc (FM_atOnce (FM_put a k addr) slot).2 + 2)) else ((0 : Int32), smpc (FM_atOnce (FM_put a k addr) slot).2 ((gmgl (FM_atOnce (FM_put a k addr) slot).2 - 4194304) / 4))) else Zv)
    = (if (FM_atOnce (FM_put a k addr) slot).1 ≤ 0 then ((0 : Int32), smpc (FM_atOnce (FM_put a k addr) slot).2 nx) else Zv) := by
  have q := km_atOnce (FM_put a k addr) slot
  have r := km_put a k addr
  rw [q.2.1, r.2.1, q.2.2.1, r.2.2.1, q.2.2.2.1, r.2.2.2.1]
  rcases h with ⟨h1, h2⟩ | ⟨h1, h2⟩
  · rw [if_pos h1, h2]
  · rw [if_neg h1, h2]
theorem eq_two {τ : SM} {w : Int32} (hI : IM τ) (hz : Z0 τ) (hpc : vp_in (gmpc τ) 64) (hw : ¬ FM_leads w = 0) : FG_stepOfTwo (ab τ) w = ev (FM_two τ w) := by
  unfold FG_stepOfTwo FM_two FG_addressOf
  rw [ab_pc, ab_tx, ab_rg]
  obtain ⟨p1, p2⟩ := vp_in_iff.mp hpc
  have ep : (gmpc τ + 1).toInt = (gmpc τ).toInt + 1 := by
    rw [ti_add (by rw [ti_1]; omega) (by rw [ti_1]; omega), ti_1]
  by_cases c1 : gmpc τ + 1 < gmsz τ
  · rw [if_pos c1]
    have i1 : ¬ FG_isInText (ab τ) (gmpc τ + 1) = 0 := by
      unfold FG_isInText
      rw [ab_tc, if_neg (by rw [ti_lt, ti_0]; omega), if_neg (k2_nle c1)]
      decide
    rw [if_neg i1]
    generalize gmtx τ (Int32.toNatClampNeg (gmpc τ + 1)) = slot
    by_cases c2 : FM_leads slot = 0
    · rw [if_pos c2]
      by_cases c3 : FM_calls slot = 0
      · rw [if_pos c3, if_pos ((eq_bar slot).mpr ⟨c2, c3⟩)]
        obtain ⟨hgo, hlk, hgl⟩ := aim_ok (τ := τ) hw
        have hg := goal_ok hI hpc w hgl
        rw [← hgo, ← hlk, isText_aim]
        have ha := ab_aim τ w
        have hpa := pc_aim τ w
        have hra := rg_aim τ w
        have hIa : IM (FM_aim τ w) := imv_aim hI
        have hza : Z0 (FM_aim τ w) := z_aim hz
        have hka := im_lk1 τ w
        generalize FG_aimOf (ab τ) w = nx at hg ⊢
        generalize FM_aim τ w = a at ha hpa hra hIa hza hka hg ⊢
        rw [← ha, ← hra]
        have hnx : gmpc τ + 1 + 1 = gmpc a + 2 := by
          rw [hpa, Int32.add_assoc]
          rfl
        rw [hnx, ← hpa]
        by_cases g0 : gmgo a = 0
        · rw [if_pos g0, if_pos g0, two_main hIa hza hka rfl]
          by_cases l0 : gmlk a = 0
          · rw [if_pos l0, put0 (u := 0) (v := 4194304 + 4 * (gmpc a + 2)) l0, y_eq (Or.inl ⟨g0, rfl⟩)]
          · rw [if_neg l0, y_eq (Or.inl ⟨g0, rfl⟩)]
        · rw [if_neg g0, if_neg g0]
          rw [← ha] at hg
          rcases hg with ⟨t1, t2⟩ | ⟨t1, t2, t3, t4⟩
          · rw [if_pos t1]
            by_cases t5 : gmgl a - gmgl a / 4 * 4 = 0
            · have t6 : FM_isText τ (gmgl a) = 0 := t2.elim (fun h => absurd t5 h) id
              rw [if_pos t5, if_pos t6]
              rfl
            · rw [if_neg t5]
              rfl
          · rw [if_neg t1, if_pos t2, if_neg t3, two_main hIa hza hka rfl]
            by_cases l0 : gmlk a = 0
            · rw [if_pos l0, put0 (u := 0) (v := 4194304 + 4 * (gmpc a + 2)) l0, y_eq (Or.inr ⟨g0, t4⟩)]
            · rw [if_neg l0, y_eq (Or.inr ⟨g0, t4⟩)]
      · rw [if_neg c3, if_neg (fun h => c3 ((eq_bar slot).mp h).2)]
        rfl
    · rw [if_neg c2, if_neg (fun h => c2 ((eq_bar slot).mp h).1)]
      rfl
  · rw [if_neg c1]
    have i1 : FG_isInText (ab τ) (gmpc τ + 1) = 0 := by
      unfold FG_isInText
      rw [ab_tc, if_neg (by rw [ti_lt, ti_0]; omega), if_pos (k2_le c1)]
    rw [if_pos i1]
    rfl
-- what a step of two leaves
theorem z_rb {a : SM} {v slot : Int32} (hz : Z0 a) (hk : vp_in (gmlk a) 34) : Z0 (smrg (FM_atOnce (FM_put a (gmlk a) v) slot).2 (upd (gmrg (FM_atOnce (FM_put a (gmlk a) v) slot).2) (Int32.toNatClampNeg (gmlk (FM_atOnce (FM_put a (gmlk a) v) slot).2)) (gmrg a (Int32.toNatClampNeg (gmlk a))))) := by
  have e2 : gmlk (FM_atOnce (FM_put a (gmlk a) v) slot).2 = gmlk a := by
    rw [(km_atOnce _ _).1, (km_put _ _ _).1]
  have hq : Z0 (FM_atOnce (FM_put a (gmlk a) v) slot).2 := z_atOnce (z_put hk hz)
  rw [e2]
  generalize (FM_atOnce (FM_put a (gmlk a) v) slot).2 = Q at hq
  show upd (gmrg Q) (Int32.toNatClampNeg (gmlk a)) (gmrg a (Int32.toNatClampNeg (gmlk a))) 0 = 0
  unfold upd
  split
  · rename_i e
    rw [← e]
    exact hz
  · exact hq
theorem z_pc {τ : SM} {v : Int32} (h : Z0 τ) : Z0 (smpc τ v) := h
theorem z_two {τ : SM} {w : Int32} (hz : Z0 τ) : Z0 (FM_two τ w).2 := by
  unfold FM_two
  repeat' (with_reducible refine zP ?_ ?_)
  all_goals first | with_reducible exact hz | with_reducible exact z_aim hz | with_reducible exact z_rb (z_aim hz) (im_lk1 τ w) | with_reducible exact z_pc (z_atOnce (z_put (im_lk1 τ w) (z_aim hz)))
theorem t_two (τ : SM) (w : Int32) : T9 (FM_two τ w).1 := by
  unfold FM_two
  repeat' (with_reducible refine tP ?_ ?_)
  all_goals first | with_reducible exact t_atOnce _ _ | exact t9 (by decide)
def TE (τ : SM) (r : Int32 × SM) : Prop := gmtr r.2 = gmtr τ ∧ (r.1 = 0 ∨ gmen r.2 = gmen τ)
theorem teP {c : Prop} [Decidable c] {τ : SM} {a b : Int32 × SM} (ha : TE τ a) (hb : TE τ b) : TE τ (if c then a else b) := by
  split
  · exact ha
  · exact hb
theorem te_rf (τ : SM) (v : Int32) : TE τ (v, τ) := ⟨rfl, Or.inr rfl⟩
theorem te_p (τ : SM) (u k v : Int32) : TE τ (u, FM_put τ k v) := ⟨(te_put τ k v).1, Or.inr (te_put τ k v).2⟩
theorem te_system (τ : SM) : TE τ (FM_system τ) := by
  unfold FM_system
  repeat' (with_reducible refine teP ?_ ?_)
  all_goals first | with_reducible exact te_rf _ _ | exact ⟨rfl, Or.inl rfl⟩
theorem te_sum (τ : SM) (k : Int32) (v : Int64) : TE τ (FM_sum τ k v) := by
  unfold FM_sum
  repeat' (with_reducible refine teP ?_ ?_)
  all_goals first | with_reducible exact te_rf _ _ | with_reducible exact te_p _ _ _ _
theorem te_halves (τ : SM) (v : Int64) : gmtr (FM_halves τ v) = gmtr τ := rfl
theorem trQ {c : Prop} [Decidable c] {τ a b : SM} (ha : gmtr a = gmtr τ) (hb : gmtr b = gmtr τ) : gmtr (if c then a else b) = gmtr τ := by
  split
  · exact ha
  · exact hb
theorem te_divide (τ : SM) (a b : Int32) : gmtr (FM_divide τ a b) = gmtr τ := by
  unfold FM_divide
  repeat' (with_reducible refine trQ ?_ ?_)
  all_goals rfl
theorem te_divideBare (τ : SM) (a b : Int32) : gmtr (FM_divideBare τ a b) = gmtr τ := by
  unfold FM_divideBare
  repeat' (with_reducible refine trQ ?_ ?_)
  all_goals rfl
theorem te_0 {τ a : SM} (h : gmtr a = gmtr τ) : TE τ (0, a) := ⟨h, Or.inl rfl⟩
theorem te_rg (τ : SM) (f : Nat → Int32) : TE τ (0, smrg τ f) := ⟨rfl, Or.inl rfl⟩
theorem te_byFunction (τ : SM) (w : Int32) : TE τ (FM_byFunction τ w) := by
  unfold FM_byFunction
  repeat' (with_reducible refine teP ?_ ?_)
  all_goals first | with_reducible exact te_rf _ _ | with_reducible exact te_p _ _ _ _ | with_reducible exact te_system _ | with_reducible exact te_sum _ _ _ | with_reducible exact te_0 (te_halves _ _) | with_reducible exact te_0 (te_divide _ _ _) | with_reducible exact te_0 (te_divideBare _ _ _) | with_reducible exact te_rg _ _
theorem te_LM_load (τ : SM) (a1 a2 a3 a4 : Int32) : ∀ (n : Nat) (x5 x6 : Int32), TE τ (LM_load a1 a2 a3 a4 n τ x5 x6) := by
  intro n
  induction n with
  | zero => intro x5 x6; exact te_rf _ _
  | succ n ih =>
    intro x5 x6
    rw [LM_load]
    repeat' (with_reducible refine teP ?_ ?_)
    all_goals first | with_reducible exact te_p _ _ _ _ | with_reducible exact ih _ _
theorem te_LM_store (τ0 : SM) (a1 a2 a3 : Int32) : ∀ (n : Nat) (τ : SM) (x4 : Int32), gmtr τ = gmtr τ0 → gmen τ = gmen τ0 → TE τ0 (LM_store a1 a2 a3 n τ x4) := by
  intro n
  induction n with
  | zero => intro τ x4 h1 h2; exact ⟨h1, Or.inr h2⟩
  | succ n ih =>
    intro τ x4 h1 h2
    rw [LM_store]
    split
    · exact ⟨h1, Or.inr h2⟩
    · exact ih _ _ h1 h2
theorem te_load (τ : SM) (a1 a2 a3 a4 : Int32) : TE τ (FM_load τ a1 a2 a3 a4) := by
  unfold FM_load
  repeat' (with_reducible refine teP ?_ ?_)
  all_goals first | with_reducible exact te_rf _ _ | with_reducible exact te_LM_load _ _ _ _ _ _ _ _
theorem te_store (τ : SM) (a1 a2 a3 : Int32) : TE τ (FM_store τ a1 a2 a3) := by
  unfold FM_store
  repeat' (with_reducible refine teP ?_ ?_)
  all_goals first | with_reducible exact te_rf _ _ | with_reducible exact te_LM_store _ _ _ _ _ _ _ rfl rfl
theorem te_atOnce (τ : SM) (w : Int32) : TE τ (FM_atOnce τ w) := by
  unfold FM_atOnce
  repeat' (with_reducible refine teP ?_ ?_)
  all_goals first | with_reducible exact te_rf _ _ | with_reducible exact te_p _ _ _ _ | with_reducible exact te_byFunction _ _ | with_reducible exact te_sum _ _ _ | with_reducible exact te_load _ _ _ _ _ | with_reducible exact te_store _ _ _ _
theorem te_slot {τ : SM} {w k v slot : Int32} : gmtr (FM_atOnce (FM_put (FM_aim τ w) k v) slot).2 = gmtr τ ∧ ((FM_atOnce (FM_put (FM_aim τ w) k v) slot).1 = 0 ∨ gmen (FM_atOnce (FM_put (FM_aim τ w) k v) slot).2 = gmen τ) := by
  have h := te_atOnce (FM_put (FM_aim τ w) k v) slot
  have h2 := te_put (FM_aim τ w) k v
  have h3 := te_aim τ w
  refine ⟨h.1.trans (h2.1.trans h3.1), ?_⟩
  rcases h.2 with e | e
  · exact Or.inl e
  · exact Or.inr (e.trans (h2.2.trans h3.2))
theorem te_a (τ : SM) (v w : Int32) : TE τ (v, FM_aim τ w) := ⟨(te_aim τ w).1, Or.inr (te_aim τ w).2⟩
theorem te_s1 {τ : SM} {r : Int32 × SM} {v : Int32} (h : gmtr r.2 = gmtr τ ∧ (r.1 = 0 ∨ gmen r.2 = gmen τ)) : TE τ (0, smpc r.2 v) := ⟨h.1, Or.inl rfl⟩
theorem te_s2 {τ : SM} {r : Int32 × SM} {f : Nat → Int32} (h : gmtr r.2 = gmtr τ ∧ (r.1 = 0 ∨ gmen r.2 = gmen τ)) : TE τ (r.1, smrg r.2 f) := h
theorem te_two (τ : SM) (w : Int32) : TE τ (FM_two τ w) := by
  unfold FM_two
  repeat' (with_reducible refine teP ?_ ?_)
  all_goals first | with_reducible exact te_rf _ _ | with_reducible exact te_a _ _ _ | with_reducible exact te_s1 te_slot | with_reducible exact te_s2 te_slot
