set_option maxHeartbeats 4000000 in
set_option maxRecDepth 100000 in
theorem kX0_init (l : Launch) (D : va_G) (h0 sz : Nat) : Met l yX0_init wsX0_init { frames := 1, cells := 6, slots := 738, locals := 12 } (va_Pc [.ref h0] (fun U => U.heap.size = sz ∧ va_P D vwCl [(h0, .inr (0, [.null, .int 0, .null, .int 0, .null, .null, .null, .int 0, .int 0, .null, .int 0, .int 0, .int 0, .int 0, .int 0]))] U.heap ∧ va_K D vwCl [] U ∧ va_D (fun _ => True) [(h0, .inr (0, [.null, .int 0, .null, .int 0, .null, .null, .null, .int 0, .int 0, .null, .int 0, .int 0, .int 0, .int 0, .int 0]))])) (va_Qv (fun u : (Nat → Nat) × (Nat → ClassId) => u.1 0 = h0) (fun u t => va_P D vwCl (wG u.1 u.2 ZSG) t.heap ∧ va_K D vwCl (tG u.2) t ∧ va_D (va_A [(h0, .inr (0, [.null, .int 0, .null, .int 0, .null, .null, .null, .int 0, .int 0, .null, .int 0, .int 0, .int 0, .int 0, .int 0]))] sz) (wG u.1 u.2 ZSG)) (va_A [(h0, .inr (0, [.null, .int 0, .null, .int 0, .null, .null, .null, .int 0, .int 0, .null, .int 0, .int 0, .int 0, .int 0, .int 0]))] sz)) 6 738 (va_A [(h0, .inr (0, [.null, .int 0, .null, .int 0, .null, .null, .null, .int 0, .int 0, .null, .int 0, .int 0, .int 0, .int 0, .int 0]))] sz) := by
  refine Met.ofW (cc := cX0_init) (maxL := 1) (ret := none) (by decide) rfl ?_
  intro p e s m args below meth c s₁ B hml hv
  obtain ⟨rfl, hsz, hP, hK, hD0⟩ := hv
  have hx := B.exec
  have hb := B.bytes
  have hr := B.returns
  have hts := atoms_spec (ws := wsX0_init) B.pre
  have hown : s.vm.findClass RX0 = some m.cls := findClass_of_methodNamed B.named
  have hlocks := B.notSynchronized
  have hname : meth.name = "<init>" := (name_of_methodNamed B.named B.method).1
  have hin : ∀ w ∈ wsX00, w ∈ wsX0_init := fun w h => mc (inX0 w h)
  subst hsz
  have hD := hD0.self (sz := s.heap.size)
  generalize hAe : va_A [(h0, .inr (0, [.null, .int 0, .null, .int 0, .null, .null, .null, .int 0, .int 0, .null, .int 0, .int 0, .int 0, .int 0, .int 0]))] s.heap.size = A at hD ⊢
  have hA : ∀ q : Nat, s.heap.size ≤ q → A q := fun q h => by rw [← hAe]; exact Or.inr h
  have hS : va_S A s.heap s.heap [] := va_S.rf
  have hl := lv_entry ([.ref h0]) (n := 1) (Nat.le_of_ble_eq_true rfl)
  rw [lg_entry_eq]
  generalize (lg_sl ([.ref h0]) ++ List.replicate (1 - (lg_sl ([.ref h0])).length) Slot.unset).toArray = ls at hl ⊢
  have hl : lv_has ls 1 [(0, .ref h0)] := hl
  refine lv_aload_n hx hb dX0_init_0 rfl (lv_at hl 0 rfl) ?_
  refine W.objInit hx hb hown (hts _ (mc wd_45)) (hts _ (mc wd_46)) (hts _ (mc wd_47)) rfl (by rw [hml]; exact hl.1) rfl dX0_init_1 (Nat.le_of_ble_eq_true rfl) (Nat.le_of_ble_eq_true rfl) ?_
  refine W.eq (g2 := F0 m 4 ls []) rfl ?_
  refine lv_aload_n hx hb dX0_init_4 rfl (lv_at hl 0 rfl) ?_
  refine lv_bipush (v := 64) hx hb dX0_init_5 (by decide) ?_
  refine va_newa (atype := .int) (ty := .int) (N' := 64) (a0 := (64, .inl (fun _ => 0))) hx hb (hts _ (mc wd_95)) rfl hK hP hD hS hA (fun _ => rfl) (by decide) (by decide) (by decide) (Nat.le_of_ble_eq_true rfl) (Nat.le_of_ble_eq_true rfl) dX0_init_7 (fun q1 c1 H hK hP hD hS => ?_)
  have hK : va_K D vwCl [(c1, .int)] s := hK
  have hP : va_P D vwCl [(h0, .inr (0, [.null, .int 0, .null, .int 0, .null, .null, .null, .int 0, .int 0, .null, .int 0, .int 0, .int 0, .int 0, .int 0])), (q1, .inl (c1, 64, .inl (fun _ => 0)))] H := hP
  have hD : va_D A [(h0, .inr (0, [.null, .int 0, .null, .int 0, .null, .null, .null, .int 0, .int 0, .null, .int 0, .int 0, .int 0, .int 0, .int 0])), (q1, .inl (c1, 64, .inl (fun _ => 0)))] := hD
  refine W.widen (k := 1) (n := 64) (Nat.le_of_ble_eq_true rfl) (Nat.le_of_ble_eq_true rfl) ?_
  refine va_putF (D := D) (ci := 0) (v := .ref q1) (ty := (.array .int)) (C := RX0) (T := TX0) (N := 15) hx hb hts hin tyX0 tyX0_ok nmX0 hown hK hP hD hS 0 rfl rfl 0 (by decide) (hts _ (mc wd_49)) (fun _ h9 => h9) rfl hname rfl (by decide +kernel) rfl rfl (Nat.le_of_ble_eq_true rfl) dX0_init_9 (fun H locs hP hD hS => ?_)
  have hP : va_P D vwCl [(h0, .inr (0, [.ref q1, .int 0, .null, .int 0, .null, .null, .null, .int 0, .int 0, .null, .int 0, .int 0, .int 0, .int 0, .int 0])), (q1, .inl (c1, 64, .inl (fun _ => 0)))] H := hP
  have hD : va_D A [(h0, .inr (0, [.ref q1, .int 0, .null, .int 0, .null, .null, .null, .int 0, .int 0, .null, .int 0, .int 0, .int 0, .int 0, .int 0])), (q1, .inl (c1, 64, .inl (fun _ => 0)))] := hD
  refine lv_aload_n hx hb dX0_init_12 rfl (lv_at hl 0 rfl) ?_
  refine lv_bipush (v := 64) hx hb dX0_init_13 (by decide) ?_
  refine va_newa (atype := .int) (ty := .int) (N' := 64) (a0 := (64, .inl (fun _ => 0))) hx hb (hts _ (mc wd_95)) rfl hK hP hD hS hA (fun _ => rfl) (by decide) (by decide) (by decide) (Nat.le_of_ble_eq_true rfl) (Nat.le_of_ble_eq_true rfl) dX0_init_15 (fun q2 c2 H hK hP hD hS => ?_)
  have hK : va_K D vwCl [(c1, .int), (c2, .int)] s := hK
  have hP : va_P D vwCl [(h0, .inr (0, [.ref q1, .int 0, .null, .int 0, .null, .null, .null, .int 0, .int 0, .null, .int 0, .int 0, .int 0, .int 0, .int 0])), (q1, .inl (c1, 64, .inl (fun _ => 0))), (q2, .inl (c2, 64, .inl (fun _ => 0)))] H := hP
  have hD : va_D A [(h0, .inr (0, [.ref q1, .int 0, .null, .int 0, .null, .null, .null, .int 0, .int 0, .null, .int 0, .int 0, .int 0, .int 0, .int 0])), (q1, .inl (c1, 64, .inl (fun _ => 0))), (q2, .inl (c2, 64, .inl (fun _ => 0)))] := hD
  refine W.widen (k := 2) (n := 128) (Nat.le_of_ble_eq_true rfl) (Nat.le_of_ble_eq_true rfl) ?_
  refine va_putF (D := D) (ci := 0) (v := .ref q2) (ty := (.array .int)) (C := RX0) (T := TX0) (N := 15) hx hb hts hin tyX0 tyX0_ok nmX0 hown hK hP hD hS 0 rfl rfl 2 (by decide) (hts _ (mc wd_51)) (fun _ h9 => h9) rfl hname rfl (by decide +kernel) rfl rfl (Nat.le_of_ble_eq_true rfl) dX0_init_17 (fun H locs hP hD hS => ?_)
  have hP : va_P D vwCl [(h0, .inr (0, [.ref q1, .int 0, .ref q2, .int 0, .null, .null, .null, .int 0, .int 0, .null, .int 0, .int 0, .int 0, .int 0, .int 0])), (q1, .inl (c1, 64, .inl (fun _ => 0))), (q2, .inl (c2, 64, .inl (fun _ => 0)))] H := hP
  have hD : va_D A [(h0, .inr (0, [.ref q1, .int 0, .ref q2, .int 0, .null, .null, .null, .int 0, .int 0, .null, .int 0, .int 0, .int 0, .int 0, .int 0])), (q1, .inl (c1, 64, .inl (fun _ => 0))), (q2, .inl (c2, 64, .inl (fun _ => 0)))] := hD
  refine lv_aload_n hx hb dX0_init_20 rfl (lv_at hl 0 rfl) ?_
  refine lv_bipush (v := 34) hx hb dX0_init_21 (by decide) ?_
  refine va_newa (atype := .int) (ty := .int) (N' := 34) (a0 := (34, .inl (fun _ => 0))) hx hb (hts _ (mc wd_95)) rfl hK hP hD hS hA (fun _ => rfl) (by decide) (by decide) (by decide) (Nat.le_of_ble_eq_true rfl) (Nat.le_of_ble_eq_true rfl) dX0_init_23 (fun q3 c3 H hK hP hD hS => ?_)
  have hK : va_K D vwCl [(c1, .int), (c2, .int), (c3, .int)] s := hK
  have hP : va_P D vwCl [(h0, .inr (0, [.ref q1, .int 0, .ref q2, .int 0, .null, .null, .null, .int 0, .int 0, .null, .int 0, .int 0, .int 0, .int 0, .int 0])), (q1, .inl (c1, 64, .inl (fun _ => 0))), (q2, .inl (c2, 64, .inl (fun _ => 0))), (q3, .inl (c3, 34, .inl (fun _ => 0)))] H := hP
  have hD : va_D A [(h0, .inr (0, [.ref q1, .int 0, .ref q2, .int 0, .null, .null, .null, .int 0, .int 0, .null, .int 0, .int 0, .int 0, .int 0, .int 0])), (q1, .inl (c1, 64, .inl (fun _ => 0))), (q2, .inl (c2, 64, .inl (fun _ => 0))), (q3, .inl (c3, 34, .inl (fun _ => 0)))] := hD
  refine W.widen (k := 3) (n := 162) (Nat.le_of_ble_eq_true rfl) (Nat.le_of_ble_eq_true rfl) ?_
  refine va_putF (D := D) (ci := 0) (v := .ref q3) (ty := (.array .int)) (C := RX0) (T := TX0) (N := 15) hx hb hts hin tyX0 tyX0_ok nmX0 hown hK hP hD hS 0 rfl rfl 4 (by decide) (hts _ (mc wd_53)) (fun _ h9 => h9) rfl hname rfl (by decide +kernel) rfl rfl (Nat.le_of_ble_eq_true rfl) dX0_init_25 (fun H locs hP hD hS => ?_)
  have hP : va_P D vwCl [(h0, .inr (0, [.ref q1, .int 0, .ref q2, .int 0, .ref q3, .null, .null, .int 0, .int 0, .null, .int 0, .int 0, .int 0, .int 0, .int 0])), (q1, .inl (c1, 64, .inl (fun _ => 0))), (q2, .inl (c2, 64, .inl (fun _ => 0))), (q3, .inl (c3, 34, .inl (fun _ => 0)))] H := hP
  have hD : va_D A [(h0, .inr (0, [.ref q1, .int 0, .ref q2, .int 0, .ref q3, .null, .null, .int 0, .int 0, .null, .int 0, .int 0, .int 0, .int 0, .int 0])), (q1, .inl (c1, 64, .inl (fun _ => 0))), (q2, .inl (c2, 64, .inl (fun _ => 0))), (q3, .inl (c3, 34, .inl (fun _ => 0)))] := hD
  refine lv_aload_n hx hb dX0_init_28 rfl (lv_at hl 0 rfl) ?_
  refine lv_sipush (v := 256) hx hb dX0_init_29 (by decide) ?_
  refine va_newa (atype := .int) (ty := .int) (N' := 256) (a0 := (256, .inl (fun _ => 0))) hx hb (hts _ (mc wd_95)) rfl hK hP hD hS hA (fun _ => rfl) (by decide) (by decide) (by decide) (Nat.le_of_ble_eq_true rfl) (Nat.le_of_ble_eq_true rfl) dX0_init_32 (fun q4 c4 H hK hP hD hS => ?_)
  have hK : va_K D vwCl [(c1, .int), (c2, .int), (c3, .int), (c4, .int)] s := hK
  have hP : va_P D vwCl [(h0, .inr (0, [.ref q1, .int 0, .ref q2, .int 0, .ref q3, .null, .null, .int 0, .int 0, .null, .int 0, .int 0, .int 0, .int 0, .int 0])), (q1, .inl (c1, 64, .inl (fun _ => 0))), (q2, .inl (c2, 64, .inl (fun _ => 0))), (q3, .inl (c3, 34, .inl (fun _ => 0))), (q4, .inl (c4, 256, .inl (fun _ => 0)))] H := hP
  have hD : va_D A [(h0, .inr (0, [.ref q1, .int 0, .ref q2, .int 0, .ref q3, .null, .null, .int 0, .int 0, .null, .int 0, .int 0, .int 0, .int 0, .int 0])), (q1, .inl (c1, 64, .inl (fun _ => 0))), (q2, .inl (c2, 64, .inl (fun _ => 0))), (q3, .inl (c3, 34, .inl (fun _ => 0))), (q4, .inl (c4, 256, .inl (fun _ => 0)))] := hD
  refine W.widen (k := 4) (n := 418) (Nat.le_of_ble_eq_true rfl) (Nat.le_of_ble_eq_true rfl) ?_
  refine va_putF (D := D) (ci := 0) (v := .ref q4) (ty := (.array .int)) (C := RX0) (T := TX0) (N := 15) hx hb hts hin tyX0 tyX0_ok nmX0 hown hK hP hD hS 0 rfl rfl 5 (by decide) (hts _ (mc wd_54)) (fun _ h9 => h9) rfl hname rfl (by decide +kernel) rfl rfl (Nat.le_of_ble_eq_true rfl) dX0_init_34 (fun H locs hP hD hS => ?_)
  have hP : va_P D vwCl [(h0, .inr (0, [.ref q1, .int 0, .ref q2, .int 0, .ref q3, .ref q4, .null, .int 0, .int 0, .null, .int 0, .int 0, .int 0, .int 0, .int 0])), (q1, .inl (c1, 64, .inl (fun _ => 0))), (q2, .inl (c2, 64, .inl (fun _ => 0))), (q3, .inl (c3, 34, .inl (fun _ => 0))), (q4, .inl (c4, 256, .inl (fun _ => 0)))] H := hP
  have hD : va_D A [(h0, .inr (0, [.ref q1, .int 0, .ref q2, .int 0, .ref q3, .ref q4, .null, .int 0, .int 0, .null, .int 0, .int 0, .int 0, .int 0, .int 0])), (q1, .inl (c1, 64, .inl (fun _ => 0))), (q2, .inl (c2, 64, .inl (fun _ => 0))), (q3, .inl (c3, 34, .inl (fun _ => 0))), (q4, .inl (c4, 256, .inl (fun _ => 0)))] := hD
  refine lv_aload_n hx hb dX0_init_37 rfl (lv_at hl 0 rfl) ?_
  refine lv_bipush (v := 64) hx hb dX0_init_38 (by decide) ?_
  refine va_newa (atype := .int) (ty := .int) (N' := 64) (a0 := (64, .inl (fun _ => 0))) hx hb (hts _ (mc wd_95)) rfl hK hP hD hS hA (fun _ => rfl) (by decide) (by decide) (by decide) (Nat.le_of_ble_eq_true rfl) (Nat.le_of_ble_eq_true rfl) dX0_init_40 (fun q5 c5 H hK hP hD hS => ?_)
  have hK : va_K D vwCl [(c1, .int), (c2, .int), (c3, .int), (c4, .int), (c5, .int)] s := hK
  have hP : va_P D vwCl [(h0, .inr (0, [.ref q1, .int 0, .ref q2, .int 0, .ref q3, .ref q4, .null, .int 0, .int 0, .null, .int 0, .int 0, .int 0, .int 0, .int 0])), (q1, .inl (c1, 64, .inl (fun _ => 0))), (q2, .inl (c2, 64, .inl (fun _ => 0))), (q3, .inl (c3, 34, .inl (fun _ => 0))), (q4, .inl (c4, 256, .inl (fun _ => 0))), (q5, .inl (c5, 64, .inl (fun _ => 0)))] H := hP
  have hD : va_D A [(h0, .inr (0, [.ref q1, .int 0, .ref q2, .int 0, .ref q3, .ref q4, .null, .int 0, .int 0, .null, .int 0, .int 0, .int 0, .int 0, .int 0])), (q1, .inl (c1, 64, .inl (fun _ => 0))), (q2, .inl (c2, 64, .inl (fun _ => 0))), (q3, .inl (c3, 34, .inl (fun _ => 0))), (q4, .inl (c4, 256, .inl (fun _ => 0))), (q5, .inl (c5, 64, .inl (fun _ => 0)))] := hD
  refine W.widen (k := 5) (n := 482) (Nat.le_of_ble_eq_true rfl) (Nat.le_of_ble_eq_true rfl) ?_
  refine va_putF (D := D) (ci := 0) (v := .ref q5) (ty := (.array .int)) (C := RX0) (T := TX0) (N := 15) hx hb hts hin tyX0 tyX0_ok nmX0 hown hK hP hD hS 0 rfl rfl 6 (by decide) (hts _ (mc wd_55)) (fun _ h9 => h9) rfl hname rfl (by decide +kernel) rfl rfl (Nat.le_of_ble_eq_true rfl) dX0_init_42 (fun H locs hP hD hS => ?_)
  have hP : va_P D vwCl [(h0, .inr (0, [.ref q1, .int 0, .ref q2, .int 0, .ref q3, .ref q4, .ref q5, .int 0, .int 0, .null, .int 0, .int 0, .int 0, .int 0, .int 0])), (q1, .inl (c1, 64, .inl (fun _ => 0))), (q2, .inl (c2, 64, .inl (fun _ => 0))), (q3, .inl (c3, 34, .inl (fun _ => 0))), (q4, .inl (c4, 256, .inl (fun _ => 0))), (q5, .inl (c5, 64, .inl (fun _ => 0)))] H := hP
  have hD : va_D A [(h0, .inr (0, [.ref q1, .int 0, .ref q2, .int 0, .ref q3, .ref q4, .ref q5, .int 0, .int 0, .null, .int 0, .int 0, .int 0, .int 0, .int 0])), (q1, .inl (c1, 64, .inl (fun _ => 0))), (q2, .inl (c2, 64, .inl (fun _ => 0))), (q3, .inl (c3, 34, .inl (fun _ => 0))), (q4, .inl (c4, 256, .inl (fun _ => 0))), (q5, .inl (c5, 64, .inl (fun _ => 0)))] := hD
  refine lv_aload_n hx hb dX0_init_45 rfl (lv_at hl 0 rfl) ?_
  refine lv_sipush (v := 256) hx hb dX0_init_46 (by decide) ?_
  refine va_newa (atype := .int) (ty := .int) (N' := 256) (a0 := (256, .inl (fun _ => 0))) hx hb (hts _ (mc wd_95)) rfl hK hP hD hS hA (fun _ => rfl) (by decide) (by decide) (by decide) (Nat.le_of_ble_eq_true rfl) (Nat.le_of_ble_eq_true rfl) dX0_init_49 (fun q6 c6 H hK hP hD hS => ?_)
  have hK : va_K D vwCl [(c1, .int), (c2, .int), (c3, .int), (c4, .int), (c5, .int), (c6, .int)] s := hK
  have hP : va_P D vwCl [(h0, .inr (0, [.ref q1, .int 0, .ref q2, .int 0, .ref q3, .ref q4, .ref q5, .int 0, .int 0, .null, .int 0, .int 0, .int 0, .int 0, .int 0])), (q1, .inl (c1, 64, .inl (fun _ => 0))), (q2, .inl (c2, 64, .inl (fun _ => 0))), (q3, .inl (c3, 34, .inl (fun _ => 0))), (q4, .inl (c4, 256, .inl (fun _ => 0))), (q5, .inl (c5, 64, .inl (fun _ => 0))), (q6, .inl (c6, 256, .inl (fun _ => 0)))] H := hP
  have hD : va_D A [(h0, .inr (0, [.ref q1, .int 0, .ref q2, .int 0, .ref q3, .ref q4, .ref q5, .int 0, .int 0, .null, .int 0, .int 0, .int 0, .int 0, .int 0])), (q1, .inl (c1, 64, .inl (fun _ => 0))), (q2, .inl (c2, 64, .inl (fun _ => 0))), (q3, .inl (c3, 34, .inl (fun _ => 0))), (q4, .inl (c4, 256, .inl (fun _ => 0))), (q5, .inl (c5, 64, .inl (fun _ => 0))), (q6, .inl (c6, 256, .inl (fun _ => 0)))] := hD
  refine W.widen (k := 6) (n := 738) (Nat.le_of_ble_eq_true rfl) (Nat.le_of_ble_eq_true rfl) ?_
  refine va_putF (D := D) (ci := 0) (v := .ref q6) (ty := (.array .int)) (C := RX0) (T := TX0) (N := 15) hx hb hts hin tyX0 tyX0_ok nmX0 hown hK hP hD hS 0 rfl rfl 9 (by decide) (hts _ (mc wd_58)) (fun _ h9 => h9) rfl hname rfl (by decide +kernel) rfl rfl (Nat.le_of_ble_eq_true rfl) dX0_init_51 (fun H locs hP hD hS => ?_)
  have hP : va_P D vwCl [(h0, .inr (0, [.ref q1, .int 0, .ref q2, .int 0, .ref q3, .ref q4, .ref q5, .int 0, .int 0, .ref q6, .int 0, .int 0, .int 0, .int 0, .int 0])), (q1, .inl (c1, 64, .inl (fun _ => 0))), (q2, .inl (c2, 64, .inl (fun _ => 0))), (q3, .inl (c3, 34, .inl (fun _ => 0))), (q4, .inl (c4, 256, .inl (fun _ => 0))), (q5, .inl (c5, 64, .inl (fun _ => 0))), (q6, .inl (c6, 256, .inl (fun _ => 0)))] H := hP
  have hD : va_D A [(h0, .inr (0, [.ref q1, .int 0, .ref q2, .int 0, .ref q3, .ref q4, .ref q5, .int 0, .int 0, .ref q6, .int 0, .int 0, .int 0, .int 0, .int 0])), (q1, .inl (c1, 64, .inl (fun _ => 0))), (q2, .inl (c2, 64, .inl (fun _ => 0))), (q3, .inl (c3, 34, .inl (fun _ => 0))), (q4, .inl (c4, 256, .inl (fun _ => 0))), (q5, .inl (c5, 64, .inl (fun _ => 0))), (q6, .inl (c6, 256, .inl (fun _ => 0)))] := hD
  refine lv_aload_n hx hb dX0_init_54 rfl (lv_at hl 0 rfl) ?_
  refine va_get (D := D) (ci := 0) (v := .ref q3) (C := RX0) (T := TX0) (N := 15) hx hb hts hin hown hK hP 0 rfl rfl 4 (by decide) (hts _ (mc wd_53)) (fun _ h9 => h9) rfl dX0_init_55 ?_
  refine lv_bipush (v := 29) hx hb dX0_init_58 (by decide) ?_
  refine lv_ldc (v := 268435712) hx hb hown (hts _ (mc wd_48)) dX0_init_60 ?_
  refine va_iast hx hb hK hP hD hS 3 2 rfl rfl (in_c (by decide)) dX0_init_62 (fun H locs hP hD hS => ?_)
  have hP : va_P D vwCl [(h0, .inr (0, [.ref q1, .int 0, .ref q2, .int 0, .ref q3, .ref q4, .ref q5, .int 0, .int 0, .ref q6, .int 0, .int 0, .int 0, .int 0, .int 0])), (q1, .inl (c1, 64, .inl (fun _ => 0))), (q2, .inl (c2, 64, .inl (fun _ => 0))), (q3, .inl (c3, 34, .inl (upd (fun _ => 0) (Int32.toNatClampNeg (29 : Int32)) (268435712 : Int32)))), (q4, .inl (c4, 256, .inl (fun _ => 0))), (q5, .inl (c5, 64, .inl (fun _ => 0))), (q6, .inl (c6, 256, .inl (fun _ => 0)))] H := hP
  have hD : va_D A [(h0, .inr (0, [.ref q1, .int 0, .ref q2, .int 0, .ref q3, .ref q4, .ref q5, .int 0, .int 0, .ref q6, .int 0, .int 0, .int 0, .int 0, .int 0])), (q1, .inl (c1, 64, .inl (fun _ => 0))), (q2, .inl (c2, 64, .inl (fun _ => 0))), (q3, .inl (c3, 34, .inl (upd (fun _ => 0) (Int32.toNatClampNeg (29 : Int32)) (268435712 : Int32)))), (q4, .inl (c4, 256, .inl (fun _ => 0))), (q5, .inl (c5, 64, .inl (fun _ => 0))), (q6, .inl (c6, 256, .inl (fun _ => 0)))] := hD
  exact W.vret hx hb hr (fun t ht hW => ⟨⟨(fun k => match k with | 0 => h0 | 1 => q1 | 2 => q2 | 3 => q3 | 4 => q4 | 5 => q5 | _ => q6, fun k => match k with | 1 => c1 | 2 => c2 | 3 => c3 | 4 => c4 | 5 => c5 | _ => c6), rfl, rfl, by rw [ht]; exact hP, va_K.moved hW.alike hK, hD⟩, hS.F ht⟩) hS.2.2 dX0_init_63
