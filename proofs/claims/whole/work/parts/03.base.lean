-- contracts of methods over one object's state (any type S, cells w), and of static methods: heads, ends, calls
def jushr (x y : Int32) : Int32 := (x.toUInt32 >>> (y.toUInt32 &&& Int32.toUInt32 31)).toInt32
def jlushr (x : Int64) (y : Int32) : Int64 := (x.toUInt64 >>> (y.toInt64.toUInt64 &&& Int64.toUInt64 63)).toInt64
abbrev oQ {S : Type} (D : va_G) (cl : List vw_C) (w : S → va_W) (tys : List (ClassId × FieldType)) (A : Nat → Prop) (res : Int32 × S) : Array Value → State → Outcome → State → Prop :=
  va_Qi (fun (r : Int32) (u : S) => (r, u) = res) (fun u t => va_P D cl (w u) t.heap ∧ va_K D cl tys t ∧ va_D A (w u)) A
abbrev oPc {S : Type} (D : va_G) (cl : List vw_C) (w : S → va_W) (tys : List (ClassId × FieldType)) (b sz : Nat) (σ : S) (As : List Value) : Array Value → State → Prop :=
  va_Pc (.ref b :: As) (fun U => U.heap.size = sz ∧ va_P D cl (w σ) U.heap ∧ va_K D cl tys U ∧ va_D (fun _ => True) (w σ))
abbrev oMet {S : Type} (l : Launch) (D : va_G) (cl : List vw_C) (w : S → va_W) (tys : List (ClassId × FieldType)) (b sz : Nat) (y : MethodName) (ws : List Cond) (rm : Room) (σ : S) (As : List Value) (res : Int32 × S) : Prop :=
  Met l y ws rm (oPc D cl w tys b sz σ As) (oQ D cl w tys (va_A (w σ) sz) res) 0 0 (va_A (w σ) sz)
abbrev sQ (v : Int32) : Array Value → State → Outcome → State → Prop := va_Qi (fun (r : Int32) (_ : Unit) => r = v) (fun _ _ => True) (fun _ => False)
abbrev sQL (v : Int64) : Array Value → State → Outcome → State → Prop := va_Ql (fun (r : Int64) (_ : Unit) => r = v) (fun _ _ => True) (fun _ => False)
abbrev sMet (l : Launch) (y : MethodName) (ws : List Cond) (rm : Room) (As : List Value) (v : Int32) : Prop := Met l y ws rm (va_Pc As (fun _ => True)) (sQ v) 0 0 (fun _ => False)
abbrev sMetL (l : Launch) (y : MethodName) (ws : List Cond) (rm : Room) (As : List Value) (v : Int64) : Prop := Met l y ws rm (va_Pc As (fun _ => True)) (sQL v) 0 0 (fun _ => False)
theorem o_met {l : Launch} {S : Type} {D : va_G} {cl : List vw_C} {w : S → va_W} {tys : List (ClassId × FieldType)} {b sz : Nat} {y : MethodName} {ws ws' : List Cond} {rm : Room} {cc : ByteArray} {maxL : Nat} {ret : Option FieldType} {σ : S} {As : List Value} {res : Int32 × S}
    (hy : plainName y.cls = true) (hw : ws = Cond.code y cc maxL ret :: ws') (hn : (lg_sl (.ref b :: As)).length ≤ maxL)
    (body : ∀ (p : Program) (e : Env) (s : State) (m : MethodId) (args : Array Value) (below : List Frame) (meth : Method) (c : Code) (A : Nat → Prop) (ls : Array Slot), p.tables.exec = Jvm.exec → c.code = cc → meth.sig.returnType = ret → c.maxLocals = maxL → (∀ w ∈ ws, w.before args s = true) → s.vm.findClass y.cls = some m.cls → meth.locks = false → va_P D cl (w σ) s.heap → va_K D cl tys s → va_D A (w σ) → (∀ q : Nat, s.heap.size ≤ q → A q) → va_S A s.heap s.heap [] → lv_has ls maxL (lv_args 0 (.ref b :: As)) →
      W p l e rm s m args below meth c s.heap [] 0 0 (MQ below (oQ D cl w tys A res) args s 0 0 A) (F0 m 0 ls [])) : oMet l D cl w tys b sz y ws rm σ As res := by
  refine Met.ofW (cc := cc) (maxL := maxL) (ret := ret) hy hw ?_
  intro p e s m args below meth c s₁ B hml hv
  obtain ⟨rfl, hsz, hP, hK, hD0⟩ := hv
  subst hsz
  have hD := hD0.self (sz := s.heap.size)
  rw [lg_entry_eq]
  exact body p e s m _ below meth c _ _ B.exec B.bytes B.returns hml (atoms_spec (ws := ws) B.pre) (findClass_of_methodNamed B.named) B.notSynchronized hP hK hD (fun q h => Or.inr h) va_S.rf (lv_entry _ hn)
theorem s_met {l : Launch} {y : MethodName} {ws ws' : List Cond} {rm : Room} {cc : ByteArray} {maxL : Nat} {ret : Option FieldType} {As : List Value} {v : Int32}
    (hy : plainName y.cls = true) (hw : ws = Cond.code y cc maxL ret :: ws') (hn : (lg_sl As).length ≤ maxL)
    (body : ∀ (p : Program) (e : Env) (s : State) (m : MethodId) (args : Array Value) (below : List Frame) (meth : Method) (c : Code) (ls : Array Slot), p.tables.exec = Jvm.exec → c.code = cc → meth.sig.returnType = ret → c.maxLocals = maxL → (∀ w ∈ ws, w.before args s = true) → s.vm.findClass y.cls = some m.cls → meth.locks = false → va_S (fun _ => False) s.heap s.heap [] → lv_has ls maxL (lv_args 0 As) →
      W p l e rm s m args below meth c s.heap [] 0 0 (MQ below (sQ v) args s 0 0 (fun _ => False)) (F0 m 0 ls [])) : sMet l y ws rm As v := by
  refine Met.ofW (cc := cc) (maxL := maxL) (ret := ret) hy hw ?_
  intro p e s m args below meth c s₁ B hml hv
  obtain ⟨rfl, -⟩ := hv
  rw [lg_entry_eq]
  exact body p e s m _ below meth c _ B.exec B.bytes B.returns hml (atoms_spec (ws := ws) B.pre) (findClass_of_methodNamed B.named) B.notSynchronized va_S.rf (lv_entry _ hn)
theorem s_metL {l : Launch} {y : MethodName} {ws ws' : List Cond} {rm : Room} {cc : ByteArray} {maxL : Nat} {ret : Option FieldType} {As : List Value} {v : Int64}
    (hy : plainName y.cls = true) (hw : ws = Cond.code y cc maxL ret :: ws') (hn : (lg_sl As).length ≤ maxL)
    (body : ∀ (p : Program) (e : Env) (s : State) (m : MethodId) (args : Array Value) (below : List Frame) (meth : Method) (c : Code) (ls : Array Slot), p.tables.exec = Jvm.exec → c.code = cc → meth.sig.returnType = ret → c.maxLocals = maxL → (∀ w ∈ ws, w.before args s = true) → s.vm.findClass y.cls = some m.cls → meth.locks = false → va_S (fun _ => False) s.heap s.heap [] → lv_has ls maxL (lv_args 0 As) →
      W p l e rm s m args below meth c s.heap [] 0 0 (MQ below (sQL v) args s 0 0 (fun _ => False)) (F0 m 0 ls [])) : sMetL l y ws rm As v := by
  refine Met.ofW (cc := cc) (maxL := maxL) (ret := ret) hy hw ?_
  intro p e s m args below meth c s₁ B hml hv
  obtain ⟨rfl, -⟩ := hv
  rw [lg_entry_eq]
  exact body p e s m _ below meth c _ B.exec B.bytes B.returns hml (atoms_spec (ws := ws) B.pre) (findClass_of_methodNamed B.named) B.notSynchronized va_S.rf (lv_entry _ hn)
section OB
variable {p : Program} {l : Launch} {e : Env} {R : Room} {s : State} {m : MethodId} {args : Array Value} {below : List Frame} {meth : Method} {c : Code} {H : Heap} {locs : List Loc} {cells slots : Nat} {Q : State → Prop}
variable {cc : ByteArray} {pc : Nat} {ls : Array Slot} {rest As st0 : List Value} {S : Type} {D : va_G} {cl : List vw_C} {w : S → va_W} {tys : List (ClassId × FieldType)} {A : Nat → Prop} {σ : S} {res : Int32 × S}
variable {nL n index maxL b : Nat} {y : MethodName} {bytes : ByteArray} {ret : Option FieldType} {ws Ts : List Cond} {rm : Room} {own C : String}
theorem o_ret (hx : p.tables.exec = Jvm.exec) (hb : c.code = cc) (hr : meth.sig.returnType = some .int) (hlk : meth.locks = false) {v : Int32} (hK : va_K D cl tys s) (hP : va_P D cl (w σ) H) (hD : va_D A (w σ)) (hS : va_S A s.heap H locs) (hv : (v, σ) = res) (hdg : decode cc pc = .ok (.ireturn, 1)) :
    W p l e R s m args below meth c H locs 0 0 (MQ below (oQ D cl w tys A res) args s 0 0 A) (F0 m pc ls [.int v]) :=
  W.iret hx hb hr (fun t ht hW => ⟨⟨v, σ, rfl, hv, by rw [ht]; exact hP, va_K.moved hW.alike hK, hD⟩, hS.F ht⟩) hS.2.2 hdg hlk
theorem o_retz (hx : p.tables.exec = Jvm.exec) (hb : c.code = cc) (hr : meth.sig.returnType = some .boolean) (hlk : meth.locks = false) {v : Int32} (hK : va_K D cl tys s) (hP : va_P D cl (w σ) H) (hD : va_D A (w σ)) (hS : va_S A s.heap H locs) (hz : narrow .boolean (.int v) = .int v) (hv : (v, σ) = res) (hdg : decode cc pc = .ok (.ireturn, 1)) :
    W p l e R s m args below meth c H locs 0 0 (MQ below (oQ D cl w tys A res) args s 0 0 A) (F0 m pc ls [.int v]) :=
  W.zret hx hb hr hz (fun t ht hW => ⟨⟨v, σ, rfl, hv, by rw [ht]; exact hP, va_K.moved hW.alike hK, hD⟩, hS.F ht⟩) hS.2.2 hdg hlk
theorem s_ret (hx : p.tables.exec = Jvm.exec) (hb : c.code = cc) (hr : meth.sig.returnType = some .int) (hlk : meth.locks = false) {v z : Int32} (hS : va_S (fun _ => False) s.heap H locs) (hv : v = z) (hdg : decode cc pc = .ok (.ireturn, 1)) :
    W p l e R s m args below meth c H locs 0 0 (MQ below (sQ z) args s 0 0 (fun _ => False)) (F0 m pc ls [.int v]) :=
  W.iret hx hb hr (fun t ht hW => ⟨⟨v, (), rfl, hv, trivial⟩, hS.F ht⟩) hS.2.2 hdg hlk
theorem s_retz (hx : p.tables.exec = Jvm.exec) (hb : c.code = cc) (hr : meth.sig.returnType = some .boolean) (hlk : meth.locks = false) {v z : Int32} (hS : va_S (fun _ => False) s.heap H locs) (hz : narrow .boolean (.int v) = .int v) (hv : v = z) (hdg : decode cc pc = .ok (.ireturn, 1)) :
    W p l e R s m args below meth c H locs 0 0 (MQ below (sQ z) args s 0 0 (fun _ => False)) (F0 m pc ls [.int v]) :=
  W.zret hx hb hr hz (fun t ht hW => ⟨⟨v, (), rfl, hv, trivial⟩, hS.F ht⟩) hS.2.2 hdg hlk
theorem s_retL (hx : p.tables.exec = Jvm.exec) (hb : c.code = cc) (hr : meth.sig.returnType = some .long) (hlk : meth.locks = false) {v z : Int64} (hS : va_S (fun _ => False) s.heap H locs) (hv : v = z) (hdg : decode cc pc = .ok (.lreturn, 1)) :
    W p l e R s m args below meth c H locs 0 0 (MQ below (sQL z) args s 0 0 (fun _ => False)) (F0 m pc ls [.long v]) :=
  W.lret hx hb hr (fun t ht hW => ⟨⟨v, (), rfl, hv, trivial⟩, hS.F ht⟩) hS.2.2 hdg hlk
theorem o_call (Sx : CallFix p m c cc nL s args Ts own) (hM : oMet l D cl w tys b H.size y ws rm σ As res) (cw : CallW R s args own C index y bytes maxL ret ws rm 0 0 n)
    (hK : va_K D cl tys s) (hP : va_P D cl (w σ) H) (hD : va_D A (w σ)) (hS : va_S A s.heap H locs) (hA : ∀ q : Nat, s.heap.size ≤ q → A q)
    (hrc : ∃ cell : Cell, H[b]? = some cell ∧ cell.vm.isStatics = false ∧ s.vm.findClass C = some cell.cls)
    (hn : As.length = n) (hsz : ls.size = nL) (hst : st0 = As.reverse ++ .ref b :: rest) (hrm : (rest.map fun v => v.category).sum ≤ 8) (hdg : decode cc pc = .ok (.invokevirtual index, 3))
    (kk : ∀ (H1 : Heap) (locs1 : List Loc), va_P D cl (w res.2) H1 → va_D A (w res.2) → va_S A s.heap H1 locs1 → W p l e R s m args below meth c H1 locs1 0 0 Q (F0 m (pc + 3) ls (.int res.1 :: rest))) :
    W p l e R s m args below meth c H locs 0 0 Q (F0 m pc ls st0) := by
  subst hst
  have hFc : ∀ q, va_A (w σ) H.size q → A q := fun q h => by
    rcases h with ⟨k, e, h⟩ | h
    · exact hD.2 k _ h
    · exact hA q (Nat.le_trans hS.1 h)
  refine va_calli (va_runV (As := As) (rest := rest) Sx hM cw ⟨fun a U g mk q => by obtain ⟨q0, q1, qP, qK, qD⟩ := q; exact ⟨q0, q1, qP, va_K.moved (u := U) (U := U.calling g mk a) (Vm.Alike.refl U.vm) qK, qD⟩, hrc, fun U hU hW => ⟨rfl, by rw [hU], by rw [hU]; exact hP, va_K.moved hW.alike hK, hD.weaken (fun _ _ _ _ => trivial)⟩⟩ rfl hn hsz rfl (lv_room hrm) hdg ⟨Nat.zero_le _, Nat.zero_le _⟩) hS (fun q _ h => hFc q h) hFc (fun r u t H1 locs1 ht hvm hw hB hz1 hk1 hS1 => ?_)
  obtain ⟨hP1, hK1, hD1⟩ := hB
  rw [ht] at hP1
  subst hw
  exact kk H1 locs1 hP1 (hD1.weaken (fun _ _ _ h => hFc _ h)) hS1
theorem o_callR (Sx : CallFix p m c cc nL s args Ts own) {v : Int32} (hM : oMet l D cl w tys b H.size y ws rm σ As (v, σ)) (cw : CallW R s args own C index y bytes maxL ret ws rm 0 0 n)
    (hK : va_K D cl tys s) (hP : va_P D cl (w σ) H) (hD : va_D A (w σ)) (hS : va_S A s.heap H locs) (hA : ∀ q : Nat, s.heap.size ≤ q → A q)
    (hrc : ∃ cell : Cell, H[b]? = some cell ∧ cell.vm.isStatics = false ∧ s.vm.findClass C = some cell.cls)
    (hn : As.length = n) (hsz : ls.size = nL) (hst : st0 = As.reverse ++ .ref b :: rest) (hrm : (rest.map fun v => v.category).sum ≤ 8) (hdg : decode cc pc = .ok (.invokevirtual index, 3))
    (kk : ∀ (H1 : Heap) (locs1 : List Loc), va_P D cl (w σ) H1 → va_D A (w σ) → va_S A s.heap H1 locs1 → W p l e R s m args below meth c H1 locs1 0 0 Q (F0 m (pc + 3) ls (.int v :: rest))) :
    W p l e R s m args below meth c H locs 0 0 Q (F0 m pc ls st0) :=
  o_call Sx hM cw hK hP hD hS hA hrc hn hsz hst hrm hdg kk
theorem s_call {v : Int32} {ws0 : va_W} (Sx : CallFix p m c cc nL s args Ts own) (hM : sMet l y ws rm As v) (cw : CallB R s args own index y bytes maxL ret ws rm 0 0 n ∧ (Cond.static y).before args s = true)
    (hP : va_P D cl ws0 H) (hS : va_S A s.heap H locs) (hn : As.length = n) (hsz : ls.size = nL) (hst : st0 = As.reverse ++ rest) (hrm : (rest.map fun v => v.category).sum ≤ 8) (hdg : decode cc pc = .ok (.invokestatic index, 3))
    (kk : ∀ (H1 : Heap) (locs1 : List Loc), va_P D cl ws0 H1 → va_S A s.heap H1 locs1 → W p l e R s m args below meth c H1 locs1 0 0 Q (F0 m (pc + 3) ls (.int v :: rest))) :
    W p l e R s m args below meth c H locs 0 0 Q (F0 m pc ls st0) := by
  subst hst
  refine va_calli (va_runS (As := As) (rest := rest) Sx hM cw ⟨fun a U g mk q => q, fun U hU hW => ⟨rfl, trivial⟩⟩ rfl hn hsz rfl (lv_room hrm) hdg ⟨Nat.zero_le _, Nat.zero_le _⟩) hS (fun q _ h => h.elim) (fun q h => h.elim) (fun r u t H1 locs1 ht hvm hw hB hz1 hk1 hS1 => ?_)
  subst hw
  exact kk H1 locs1 (hP.kept (fun k q hk => hk1 q.1 (hP k q hk).lt (fun h => h))) hS1
theorem s_callL {v : Int64} {ws0 : va_W} (Sx : CallFix p m c cc nL s args Ts own) (hM : sMetL l y ws rm As v) (cw : CallB R s args own index y bytes maxL ret ws rm 0 0 n ∧ (Cond.static y).before args s = true)
    (hP : va_P D cl ws0 H) (hS : va_S A s.heap H locs) (hn : As.length = n) (hsz : ls.size = nL) (hst : st0 = As.reverse ++ rest) (hrm : (rest.map fun v => v.category).sum ≤ 8) (hdg : decode cc pc = .ok (.invokestatic index, 3))
    (kk : ∀ (H1 : Heap) (locs1 : List Loc), va_P D cl ws0 H1 → va_S A s.heap H1 locs1 → W p l e R s m args below meth c H1 locs1 0 0 Q (F0 m (pc + 3) ls (.long v :: rest))) :
    W p l e R s m args below meth c H locs 0 0 Q (F0 m pc ls st0) := by
  subst hst
  refine va_calll (va_runS (As := As) (rest := rest) Sx hM cw ⟨fun a U g mk q => q, fun U hU hW => ⟨rfl, trivial⟩⟩ rfl hn hsz rfl (lv_room hrm) hdg ⟨Nat.zero_le _, Nat.zero_le _⟩) hS (fun q _ h => h.elim) (fun q h => h.elim) (fun r u t H1 locs1 ht hvm hw hB hz1 hk1 hS1 => ?_)
  subst hw
  exact kk H1 locs1 (hP.kept (fun k q hk => hk1 q.1 (hP k q hk).lt (fun h => h))) hS1
theorem s_call0 {v : Int32} (Sx : CallFix p m c cc nL s args Ts own) (hM : sMet l y ws rm As v) (cw : CallB R s args own index y bytes maxL ret ws rm 0 0 n ∧ (Cond.static y).before args s = true)
    (hS : va_S A s.heap H locs) (hn : As.length = n) (hsz : ls.size = nL) (hst : st0 = As.reverse ++ rest) (hrm : (rest.map fun v => v.category).sum ≤ 8) (hdg : decode cc pc = .ok (.invokestatic index, 3))
    (kk : ∀ (H1 : Heap) (locs1 : List Loc), va_S A s.heap H1 locs1 → W p l e R s m args below meth c H1 locs1 0 0 Q (F0 m (pc + 3) ls (.int v :: rest))) :
    W p l e R s m args below meth c H locs 0 0 Q (F0 m pc ls st0) := by
  subst hst
  refine va_calli (va_runS (As := As) (rest := rest) Sx hM cw ⟨fun a U g mk q => q, fun U hU hW => ⟨rfl, trivial⟩⟩ rfl hn hsz rfl (lv_room hrm) hdg ⟨Nat.zero_le _, Nat.zero_le _⟩) hS (fun q _ h => h.elim) (fun q h => h.elim) (fun r u t H1 locs1 ht hvm hw hB hz1 hk1 hS1 => ?_)
  subst hw
  exact kk H1 locs1 hS1
theorem s_callL0 {v : Int64} (Sx : CallFix p m c cc nL s args Ts own) (hM : sMetL l y ws rm As v) (cw : CallB R s args own index y bytes maxL ret ws rm 0 0 n ∧ (Cond.static y).before args s = true)
    (hS : va_S A s.heap H locs) (hn : As.length = n) (hsz : ls.size = nL) (hst : st0 = As.reverse ++ rest) (hrm : (rest.map fun v => v.category).sum ≤ 8) (hdg : decode cc pc = .ok (.invokestatic index, 3))
    (kk : ∀ (H1 : Heap) (locs1 : List Loc), va_S A s.heap H1 locs1 → W p l e R s m args below meth c H1 locs1 0 0 Q (F0 m (pc + 3) ls (.long v :: rest))) :
    W p l e R s m args below meth c H locs 0 0 Q (F0 m pc ls st0) := by
  subst hst
  refine va_calll (va_runS (As := As) (rest := rest) Sx hM cw ⟨fun a U g mk q => q, fun U hU hW => ⟨rfl, trivial⟩⟩ rfl hn hsz rfl (lv_room hrm) hdg ⟨Nat.zero_le _, Nat.zero_le _⟩) hS (fun q _ h => h.elim) (fun q h => h.elim) (fun r u t H1 locs1 ht hvm hw hB hz1 hk1 hS1 => ?_)
  subst hw
  exact kk H1 locs1 hS1
end OB
-- numbers: places in arrays
theorem ti_lt {x y : Int32} : x < y ↔ x.toInt < y.toInt := Int32.lt_iff_toInt_lt
theorem ti_le {x y : Int32} : x ≤ y ↔ x.toInt ≤ y.toInt := Int32.le_iff_toInt_le
theorem ti_0 : (0 : Int32).toInt = 0 := by decide
theorem ti_1 : (1 : Int32).toInt = 1 := by decide
theorem in_c {x : Int32} {n : Nat} (h : 0 ≤ x.toInt ∧ x.toInt < (n : Int)) : vp_in x n := vp_in_iff.mpr h
theorem in_ge0lt {x y : Int32} {n : Nat} (h0 : ¬ x < 0) (h1 : x < y) (h2 : y.toInt ≤ n) : vp_in x n := by
  rw [ti_lt, ti_0] at h0
  rw [ti_lt] at h1
  exact vp_in_iff.mpr ⟨by omega, by omega⟩
theorem in_ge1lt {x y : Int32} {n : Nat} (h0 : ¬ x < 1) (h1 : x < y) (h2 : y.toInt ≤ n) : vp_in x n := by
  rw [ti_lt, ti_1] at h0
  rw [ti_lt] at h1
  exact vp_in_iff.mpr ⟨by omega, by omega⟩
theorem in_gt0lt {x y : Int32} {n : Nat} (h0 : ¬ x ≤ 0) (h1 : x < y) (h2 : y.toInt ≤ n) : vp_in x n := by
  rw [ti_le, ti_0] at h0
  rw [ti_lt] at h1
  exact vp_in_iff.mpr ⟨by omega, by omega⟩
theorem ti_add {x y : Int32} (h0 : -2147483648 ≤ x.toInt + y.toInt) (h1 : x.toInt + y.toInt < 2147483648) : (x + y).toInt = x.toInt + y.toInt := by
  rw [Int32.toInt_add]
  exact Int.bmod_eq_of_le (by omega) (by omega)
theorem ti_sub {x y : Int32} (h0 : -2147483648 ≤ x.toInt - y.toInt) (h1 : x.toInt - y.toInt < 2147483648) : (x - y).toInt = x.toInt - y.toInt := by
  rw [Int32.toInt_sub]
  exact Int.bmod_eq_of_le (by omega) (by omega)
-- loops: counting up to a limit
def JUp (lim : Int32) (n : Nat) (x : Int32) : Prop := 0 ≤ x.toInt ∧ x.toInt ≤ lim.toInt ∧ lim.toInt + 1 ≤ x.toInt + n
theorem jup_0 {lim x : Int32} (h : JUp lim 0 x) : False := by
  obtain ⟨h1, h2, h3⟩ := h
  omega
theorem jup_b {lim x : Int32} {n : Nat} {k : Int} (h : JUp lim (n + 1) x) (hc : ¬ lim ≤ x) (hk : lim.toInt ≤ k) (hk2 : k ≤ 100000 := by decide) : JUp lim n (x + 1) := by
  obtain ⟨h1, h2, h3⟩ := h
  rw [ti_le] at hc
  have e : (x + 1).toInt = x.toInt + 1 := by
    rw [ti_add (by rw [ti_1]; omega) (by rw [ti_1]; omega), ti_1]
  exact ⟨by omega, by omega, by omega⟩
theorem jup_in {lim x : Int32} {n k : Nat} (h : JUp lim (n + 1) x) (hc : ¬ lim ≤ x) (hk : lim.toInt ≤ k) : vp_in x k := by
  obtain ⟨h1, h2, h3⟩ := h
  rw [ti_le] at hc
  exact vp_in_iff.mpr ⟨by omega, by omega⟩
theorem lc_ne {x : Int64} (h : ¬ lg_cmp x 0 = 0) : ¬ x = 0 := fun e => h (by rw [e]; decide)
abbrev oQV {S : Type} (D : va_G) (cl : List vw_C) (w : S → va_W) (tys : List (ClassId × FieldType)) (A : Nat → Prop) (res : S) : Array Value → State → Outcome → State → Prop :=
  va_Qv (fun (u : S) => u = res) (fun u t => va_P D cl (w u) t.heap ∧ va_K D cl tys t ∧ va_D A (w u)) A
abbrev oMetV {S : Type} (l : Launch) (D : va_G) (cl : List vw_C) (w : S → va_W) (tys : List (ClassId × FieldType)) (b sz : Nat) (y : MethodName) (ws : List Cond) (rm : Room) (σ : S) (As : List Value) (res : S) : Prop :=
  Met l y ws rm (oPc D cl w tys b sz σ As) (oQV D cl w tys (va_A (w σ) sz) res) 0 0 (va_A (w σ) sz)
theorem o_metV {l : Launch} {S : Type} {D : va_G} {cl : List vw_C} {w : S → va_W} {tys : List (ClassId × FieldType)} {b sz : Nat} {y : MethodName} {ws ws' : List Cond} {rm : Room} {cc : ByteArray} {maxL : Nat} {ret : Option FieldType} {σ : S} {As : List Value} {res : S}
    (hy : plainName y.cls = true) (hw : ws = Cond.code y cc maxL ret :: ws') (hn : (lg_sl (.ref b :: As)).length ≤ maxL)
    (body : ∀ (p : Program) (e : Env) (s : State) (m : MethodId) (args : Array Value) (below : List Frame) (meth : Method) (c : Code) (A : Nat → Prop) (ls : Array Slot), p.tables.exec = Jvm.exec → c.code = cc → meth.sig.returnType = ret → c.maxLocals = maxL → (∀ w ∈ ws, w.before args s = true) → s.vm.findClass y.cls = some m.cls → meth.locks = false → va_P D cl (w σ) s.heap → va_K D cl tys s → va_D A (w σ) → (∀ q : Nat, s.heap.size ≤ q → A q) → va_S A s.heap s.heap [] → lv_has ls maxL (lv_args 0 (.ref b :: As)) →
      W p l e rm s m args below meth c s.heap [] 0 0 (MQ below (oQV D cl w tys A res) args s 0 0 A) (F0 m 0 ls [])) : oMetV l D cl w tys b sz y ws rm σ As res := by
  refine Met.ofW (cc := cc) (maxL := maxL) (ret := ret) hy hw ?_
  intro p e s m args below meth c s₁ B hml hv
  obtain ⟨rfl, hsz, hP, hK, hD0⟩ := hv
  subst hsz
  have hD := hD0.self (sz := s.heap.size)
  rw [lg_entry_eq]
  exact body p e s m _ below meth c _ _ B.exec B.bytes B.returns hml (atoms_spec (ws := ws) B.pre) (findClass_of_methodNamed B.named) B.notSynchronized hP hK hD (fun q h => Or.inr h) va_S.rf (lv_entry _ hn)
section OV
variable {p : Program} {l : Launch} {e : Env} {R : Room} {s : State} {m : MethodId} {args : Array Value} {below : List Frame} {meth : Method} {c : Code} {H : Heap} {locs : List Loc} {Q : State → Prop}
variable {cc : ByteArray} {pc : Nat} {ls : Array Slot} {rest As st0 : List Value} {S : Type} {D : va_G} {cl : List vw_C} {w : S → va_W} {tys : List (ClassId × FieldType)} {A : Nat → Prop} {σ : S} {res : S}
variable {nL n index maxL b : Nat} {y : MethodName} {bytes : ByteArray} {ret : Option FieldType} {ws Ts : List Cond} {rm : Room} {own C : String}
theorem o_retV (hx : p.tables.exec = Jvm.exec) (hb : c.code = cc) (hr : meth.sig.returnType = none) (hlk : meth.locks = false) (hK : va_K D cl tys s) (hP : va_P D cl (w σ) H) (hD : va_D A (w σ)) (hS : va_S A s.heap H locs) (hv : σ = res) (hdg : decode cc pc = .ok (.return_, 1)) :
    W p l e R s m args below meth c H locs 0 0 (MQ below (oQV D cl w tys A res) args s 0 0 A) (F0 m pc ls []) :=
  W.vret hx hb hr (fun t ht hW => ⟨⟨σ, rfl, hv, by rw [ht]; exact hP, va_K.moved hW.alike hK, hD⟩, hS.F ht⟩) hS.2.2 hdg hlk
theorem o_callV (Sx : CallFix p m c cc nL s args Ts own) (hM : oMetV l D cl w tys b H.size y ws rm σ As res) (cw : CallW R s args own C index y bytes maxL ret ws rm 0 0 n)
    (hK : va_K D cl tys s) (hP : va_P D cl (w σ) H) (hD : va_D A (w σ)) (hS : va_S A s.heap H locs) (hA : ∀ q : Nat, s.heap.size ≤ q → A q)
    (hrc : ∃ cell : Cell, H[b]? = some cell ∧ cell.vm.isStatics = false ∧ s.vm.findClass C = some cell.cls)
    (hn : As.length = n) (hsz : ls.size = nL) (hst : st0 = As.reverse ++ .ref b :: rest) (hrm : (rest.map fun v => v.category).sum ≤ 8) (hdg : decode cc pc = .ok (.invokevirtual index, 3))
    (kk : ∀ (H1 : Heap) (locs1 : List Loc), va_P D cl (w res) H1 → va_D A (w res) → va_S A s.heap H1 locs1 → W p l e R s m args below meth c H1 locs1 0 0 Q (F0 m (pc + 3) ls rest)) :
    W p l e R s m args below meth c H locs 0 0 Q (F0 m pc ls st0) := by
  subst hst
  have hFc : ∀ q, va_A (w σ) H.size q → A q := fun q h => by
    rcases h with ⟨k, e, h⟩ | h
    · exact hD.2 k _ h
    · exact hA q (Nat.le_trans hS.1 h)
  refine va_callv (va_runV (As := As) (rest := rest) Sx hM cw ⟨fun a U g mk q => by obtain ⟨q0, q1, qP, qK, qD⟩ := q; exact ⟨q0, q1, qP, va_K.moved (u := U) (U := U.calling g mk a) (Vm.Alike.refl U.vm) qK, qD⟩, hrc, fun U hU hW => ⟨rfl, by rw [hU], by rw [hU]; exact hP, va_K.moved hW.alike hK, hD.weaken (fun _ _ _ _ => trivial)⟩⟩ rfl hn hsz rfl (lv_room hrm) hdg ⟨Nat.zero_le _, Nat.zero_le _⟩) hS (fun q _ h => hFc q h) hFc (fun u t H1 locs1 ht hvm hw hB hz1 hk1 hS1 => ?_)
  obtain ⟨hP1, hK1, hD1⟩ := hB
  rw [ht] at hP1
  subst hw
  exact kk H1 locs1 hP1 (hD1.weaken (fun _ _ _ h => hFc _ h)) hS1
end OV
-- a call on one object, beside another that stays
def apart (w1 w2 : va_W) : Prop := ∀ (i j : Nat) (p q : Nat × va_E), w1[i]? = some p → w2[j]? = some q → p.1 ≠ q.1
theorem apart.symm {w1 w2 : va_W} (h : apart w1 w2) : apart w2 w1 := fun i j p q hp hq e => h j i q p hq hp e.symm
section PB
variable {p : Program} {l : Launch} {e : Env} {R : Room} {s : State} {m : MethodId} {args : Array Value} {below : List Frame} {meth : Method} {c : Code} {H : Heap} {locs : List Loc} {cells slots : Nat} {Q : State → Prop}
variable {cc : ByteArray} {pc : Nat} {ls : Array Slot} {rest As st0 : List Value} {S : Type} {D : va_G} {cl : List vw_C} {w : S → va_W} {wt : va_W} {tys : List (ClassId × FieldType)} {A : Nat → Prop} {σ : S} {res : Int32 × S}
variable {nL n index maxL b : Nat} {y : MethodName} {bytes : ByteArray} {ret : Option FieldType} {ws Ts : List Cond} {rm : Room} {own C : String}
theorem p_call (Sx : CallFix p m c cc nL s args Ts own) (hM : oMet l D cl w tys b H.size y ws rm σ As res) (cw : CallW R s args own C index y bytes maxL ret ws rm 0 0 n)
    (hK : va_K D cl tys s) (hP : va_P D cl (w σ) H) (hP2 : va_P D cl wt H) (hD : va_D A (w σ)) (hap : apart (w σ) wt) (hS : va_S A s.heap H locs) (hA : ∀ q : Nat, s.heap.size ≤ q → A q)
    (hrc : ∃ cell : Cell, H[b]? = some cell ∧ cell.vm.isStatics = false ∧ s.vm.findClass C = some cell.cls)
    (hn : As.length = n) (hsz : ls.size = nL) (hst : st0 = As.reverse ++ .ref b :: rest) (hrm : (rest.map fun v => v.category).sum ≤ 8) (hdg : decode cc pc = .ok (.invokevirtual index, 3)) (hc : cells ≤ R.cells ∧ slots ≤ R.slots)
    (kk : ∀ (H1 : Heap) (locs1 : List Loc), va_P D cl (w res.2) H1 → va_P D cl wt H1 → va_D A (w res.2) → apart (w res.2) wt → va_S A s.heap H1 locs1 → W p l e R s m args below meth c H1 locs1 cells slots Q (F0 m (pc + 3) ls (.int res.1 :: rest))) :
    W p l e R s m args below meth c H locs cells slots Q (F0 m pc ls st0) := by
  subst hst
  have hFc : ∀ q, va_A (w σ) H.size q → A q := fun q h => by
    rcases h with ⟨k, e, h⟩ | h
    · exact hD.2 k _ h
    · exact hA q (Nat.le_trans hS.1 h)
  refine va_calli (va_runV (As := As) (rest := rest) Sx hM cw ⟨fun a U g mk q => by obtain ⟨q0, q1, qP, qK, qD⟩ := q; exact ⟨q0, q1, qP, va_K.moved (u := U) (U := U.calling g mk a) (Vm.Alike.refl U.vm) qK, qD⟩, hrc, fun U hU hW => ⟨rfl, by rw [hU], by rw [hU]; exact hP, va_K.moved hW.alike hK, hD.weaken (fun _ _ _ _ => trivial)⟩⟩ rfl hn hsz rfl (lv_room hrm) hdg hc) hS (fun q _ h => hFc q h) hFc (fun r u t H1 locs1 ht hvm hw hB hz1 hk1 hS1 => ?_)
  obtain ⟨hP1, hK1, hD1⟩ := hB
  rw [ht] at hP1
  subst hw
  refine kk H1 locs1 hP1 (hP2.kept (fun k q hk => hk1 q.1 (hP2 k q hk).lt (fun h => ?_))) (hD1.weaken (fun _ _ _ h => hFc _ h)) (fun i j x z hx hz exz => ?_) hS1
  · rcases h with ⟨k2, e2, h⟩ | h
    · exact hap k2 k _ q h hk rfl
    · exact absurd (hP2 k q hk).lt (by omega)
  · rcases hD1.2 i x hx with ⟨k2, e2, h⟩ | h
    · exact hap k2 j _ z h hz exz
    · have := (hP2 j z hz).lt
      omega
end PB
