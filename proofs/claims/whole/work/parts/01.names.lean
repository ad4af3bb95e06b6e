-- ===== PART A: goes FIRST, ahead of the names: the tables' words, and 'selects' of the private methods out of them =====
/-- a private method of a class that the tables say can be made, by its rows of tables_1 -/
def lw_okq (q : MethodName × Nat) : Prop := (q.1.cls ≠ "java/lang/invoke/MethodHandle" ∧ q.1.cls ≠ "java/lang/invoke/VarHandle") ∧ Cond.instantiable q.1.cls q.2 ∈ tables_1 ∧ Cond.privateMethod q.1 ∈ tables_1 ∧ Cond.instanceMethod q.1 ∈ tables_1
theorem lw_p0 : lw_okq (⟨"GuestRunner", "isInText", "(I)Z"⟩, 15) := ⟨⟨by decide +kernel, by decide +kernel⟩, List.mem_of_getElem? (i := 4) (by decide +kernel), List.mem_of_getElem? (i := 90) (by decide +kernel), List.mem_of_getElem? (i := 91) (by decide +kernel)⟩
theorem lw_p1 : lw_okq (⟨"GuestRunner", "stepOfTwo", "(I)I"⟩, 15) := ⟨⟨by decide +kernel, by decide +kernel⟩, List.mem_of_getElem? (i := 4) (by decide +kernel), List.mem_of_getElem? (i := 106) (by decide +kernel), List.mem_of_getElem? (i := 107) (by decide +kernel)⟩
theorem lw_p2 : lw_okq (⟨"GuestRunner", "turnGoes", "(I)Z"⟩, 15) := ⟨⟨by decide +kernel, by decide +kernel⟩, List.mem_of_getElem? (i := 4) (by decide +kernel), List.mem_of_getElem? (i := 113) (by decide +kernel), List.mem_of_getElem? (i := 114) (by decide +kernel)⟩
theorem lw_p3 : lw_okq (⟨"GuestRunner", "aimOf", "(I)I"⟩, 15) := ⟨⟨by decide +kernel, by decide +kernel⟩, List.mem_of_getElem? (i := 4) (by decide +kernel), List.mem_of_getElem? (i := 120) (by decide +kernel), List.mem_of_getElem? (i := 121) (by decide +kernel)⟩
theorem lw_p4 : lw_okq (⟨"GuestRunner", "wordAt", "(I)I"⟩, 15) := ⟨⟨by decide +kernel, by decide +kernel⟩, List.mem_of_getElem? (i := 4) (by decide +kernel), List.mem_of_getElem? (i := 124) (by decide +kernel), List.mem_of_getElem? (i := 125) (by decide +kernel)⟩
theorem lw_p5 : lw_okq (⟨"GuestRunner", "isTextAddress", "(I)Z"⟩, 15) := ⟨⟨by decide +kernel, by decide +kernel⟩, List.mem_of_getElem? (i := 4) (by decide +kernel), List.mem_of_getElem? (i := 128) (by decide +kernel), List.mem_of_getElem? (i := 129) (by decide +kernel)⟩
theorem lw_p6 : lw_okq (⟨"GuestRunner", "put", "(II)I"⟩, 15) := ⟨⟨by decide +kernel, by decide +kernel⟩, List.mem_of_getElem? (i := 4) (by decide +kernel), List.mem_of_getElem? (i := 147) (by decide +kernel), List.mem_of_getElem? (i := 148) (by decide +kernel)⟩
theorem lw_p7 : lw_okq (⟨"GuestRunner", "perform", "(I)I"⟩, 15) := ⟨⟨by decide +kernel, by decide +kernel⟩, List.mem_of_getElem? (i := 4) (by decide +kernel), List.mem_of_getElem? (i := 151) (by decide +kernel), List.mem_of_getElem? (i := 152) (by decide +kernel)⟩
theorem lw_p8 : lw_okq (⟨"GuestRunner", "performFunction", "(I)I"⟩, 15) := ⟨⟨by decide +kernel, by decide +kernel⟩, List.mem_of_getElem? (i := 4) (by decide +kernel), List.mem_of_getElem? (i := 155) (by decide +kernel), List.mem_of_getElem? (i := 156) (by decide +kernel)⟩
theorem lw_p9 : lw_okq (⟨"GuestRunner", "performShift", "(I)I"⟩, 15) := ⟨⟨by decide +kernel, by decide +kernel⟩, List.mem_of_getElem? (i := 4) (by decide +kernel), List.mem_of_getElem? (i := 159) (by decide +kernel), List.mem_of_getElem? (i := 160) (by decide +kernel)⟩
theorem lw_p10 : lw_okq (⟨"GuestRunner", "performSystem", "()I"⟩, 15) := ⟨⟨by decide +kernel, by decide +kernel⟩, List.mem_of_getElem? (i := 4) (by decide +kernel), List.mem_of_getElem? (i := 166) (by decide +kernel), List.mem_of_getElem? (i := 167) (by decide +kernel)⟩
theorem lw_p11 : lw_okq (⟨"GuestRunner", "readByte", "()I"⟩, 15) := ⟨⟨by decide +kernel, by decide +kernel⟩, List.mem_of_getElem? (i := 4) (by decide +kernel), List.mem_of_getElem? (i := 170) (by decide +kernel), List.mem_of_getElem? (i := 171) (by decide +kernel)⟩
theorem lw_p12 : lw_okq (⟨"GuestRunner", "writeByte", "()I"⟩, 15) := ⟨⟨by decide +kernel, by decide +kernel⟩, List.mem_of_getElem? (i := 4) (by decide +kernel), List.mem_of_getElem? (i := 174) (by decide +kernel), List.mem_of_getElem? (i := 175) (by decide +kernel)⟩
theorem lw_p13 : lw_okq (⟨"GuestRunner", "performHiLo", "(I)I"⟩, 15) := ⟨⟨by decide +kernel, by decide +kernel⟩, List.mem_of_getElem? (i := 4) (by decide +kernel), List.mem_of_getElem? (i := 178) (by decide +kernel), List.mem_of_getElem? (i := 179) (by decide +kernel)⟩
theorem lw_p14 : lw_okq (⟨"GuestRunner", "putProduct", "(J)I"⟩, 15) := ⟨⟨by decide +kernel, by decide +kernel⟩, List.mem_of_getElem? (i := 4) (by decide +kernel), List.mem_of_getElem? (i := 182) (by decide +kernel), List.mem_of_getElem? (i := 183) (by decide +kernel)⟩
theorem lw_p15 : lw_okq (⟨"GuestRunner", "divide", "(JJ)I"⟩, 15) := ⟨⟨by decide +kernel, by decide +kernel⟩, List.mem_of_getElem? (i := 4) (by decide +kernel), List.mem_of_getElem? (i := 190) (by decide +kernel), List.mem_of_getElem? (i := 191) (by decide +kernel)⟩
def lw_privs_1 : List (MethodName × Nat) := [(⟨"GuestRunner", "isInText", "(I)Z"⟩, 15), (⟨"GuestRunner", "stepOfTwo", "(I)I"⟩, 15), (⟨"GuestRunner", "turnGoes", "(I)Z"⟩, 15), (⟨"GuestRunner", "aimOf", "(I)I"⟩, 15), (⟨"GuestRunner", "wordAt", "(I)I"⟩, 15), (⟨"GuestRunner", "isTextAddress", "(I)Z"⟩, 15), (⟨"GuestRunner", "put", "(II)I"⟩, 15), (⟨"GuestRunner", "perform", "(I)I"⟩, 15), (⟨"GuestRunner", "performFunction", "(I)I"⟩, 15), (⟨"GuestRunner", "performShift", "(I)I"⟩, 15), (⟨"GuestRunner", "performSystem", "()I"⟩, 15), (⟨"GuestRunner", "readByte", "()I"⟩, 15), (⟨"GuestRunner", "writeByte", "()I"⟩, 15), (⟨"GuestRunner", "performHiLo", "(I)I"⟩, 15), (⟨"GuestRunner", "putProduct", "(J)I"⟩, 15), (⟨"GuestRunner", "divide", "(JJ)I"⟩, 15)]
theorem lw_r1 : ∀ q ∈ lw_privs_1, lw_okq q := List.forall_mem_cons.mpr ⟨lw_p0, List.forall_mem_cons.mpr ⟨lw_p1, List.forall_mem_cons.mpr ⟨lw_p2, List.forall_mem_cons.mpr ⟨lw_p3, List.forall_mem_cons.mpr ⟨lw_p4, List.forall_mem_cons.mpr ⟨lw_p5, List.forall_mem_cons.mpr ⟨lw_p6, List.forall_mem_cons.mpr ⟨lw_p7, List.forall_mem_cons.mpr ⟨lw_p8, List.forall_mem_cons.mpr ⟨lw_p9, List.forall_mem_cons.mpr ⟨lw_p10, List.forall_mem_cons.mpr ⟨lw_p11, List.forall_mem_cons.mpr ⟨lw_p12, List.forall_mem_cons.mpr ⟨lw_p13, List.forall_mem_cons.mpr ⟨lw_p14, List.forall_mem_cons.mpr ⟨lw_p15, fun _ h => absurd h List.not_mem_nil⟩⟩⟩⟩⟩⟩⟩⟩⟩⟩⟩⟩⟩⟩⟩⟩
theorem lw_p16 : lw_okq (⟨"GuestRunner", "performArithmetic", "(I)I"⟩, 15) := ⟨⟨by decide +kernel, by decide +kernel⟩, List.mem_of_getElem? (i := 4) (by decide +kernel), List.mem_of_getElem? (i := 194) (by decide +kernel), List.mem_of_getElem? (i := 195) (by decide +kernel)⟩
theorem lw_p17 : lw_okq (⟨"GuestRunner", "putUnlessOverflow", "(IJ)I"⟩, 15) := ⟨⟨by decide +kernel, by decide +kernel⟩, List.mem_of_getElem? (i := 4) (by decide +kernel), List.mem_of_getElem? (i := 198) (by decide +kernel), List.mem_of_getElem? (i := 199) (by decide +kernel)⟩
theorem lw_p18 : lw_okq (⟨"GuestRunner", "performImmediate", "(I)I"⟩, 15) := ⟨⟨by decide +kernel, by decide +kernel⟩, List.mem_of_getElem? (i := 4) (by decide +kernel), List.mem_of_getElem? (i := 202) (by decide +kernel), List.mem_of_getElem? (i := 203) (by decide +kernel)⟩
theorem lw_p19 : lw_okq (⟨"GuestRunner", "performAccess", "(I)I"⟩, 15) := ⟨⟨by decide +kernel, by decide +kernel⟩, List.mem_of_getElem? (i := 4) (by decide +kernel), List.mem_of_getElem? (i := 210) (by decide +kernel), List.mem_of_getElem? (i := 211) (by decide +kernel)⟩
theorem lw_p20 : lw_okq (⟨"GuestRunner", "store", "(III)I"⟩, 15) := ⟨⟨by decide +kernel, by decide +kernel⟩, List.mem_of_getElem? (i := 4) (by decide +kernel), List.mem_of_getElem? (i := 218) (by decide +kernel), List.mem_of_getElem? (i := 219) (by decide +kernel)⟩
theorem lw_p21 : lw_okq (⟨"GuestRunner", "load", "(IIZ)I"⟩, 15) := ⟨⟨by decide +kernel, by decide +kernel⟩, List.mem_of_getElem? (i := 4) (by decide +kernel), List.mem_of_getElem? (i := 222) (by decide +kernel), List.mem_of_getElem? (i := 223) (by decide +kernel)⟩
theorem lw_p22 : lw_okq (⟨"GuestRunner", "stepOfOne", "(I)I"⟩, 15) := ⟨⟨by decide +kernel, by decide +kernel⟩, List.mem_of_getElem? (i := 4) (by decide +kernel), List.mem_of_getElem? (i := 226) (by decide +kernel), List.mem_of_getElem? (i := 227) (by decide +kernel)⟩
theorem lw_p23 : lw_okq (⟨"GuestRunnerModel", "two", "(I)I"⟩, 19) := ⟨⟨by decide +kernel, by decide +kernel⟩, List.mem_of_getElem? (i := 250) (by decide +kernel), List.mem_of_getElem? (i := 348) (by decide +kernel), List.mem_of_getElem? (i := 349) (by decide +kernel)⟩
theorem lw_p24 : lw_okq (⟨"GuestRunnerModel", "aim", "(I)V"⟩, 19) := ⟨⟨by decide +kernel, by decide +kernel⟩, List.mem_of_getElem? (i := 250) (by decide +kernel), List.mem_of_getElem? (i := 355) (by decide +kernel), List.mem_of_getElem? (i := 356) (by decide +kernel)⟩
theorem lw_p25 : lw_okq (⟨"GuestRunnerModel", "isText", "(I)Z"⟩, 19) := ⟨⟨by decide +kernel, by decide +kernel⟩, List.mem_of_getElem? (i := 250) (by decide +kernel), List.mem_of_getElem? (i := 371) (by decide +kernel), List.mem_of_getElem? (i := 372) (by decide +kernel)⟩
theorem lw_p26 : lw_okq (⟨"GuestRunnerModel", "put", "(II)V"⟩, 19) := ⟨⟨by decide +kernel, by decide +kernel⟩, List.mem_of_getElem? (i := 250) (by decide +kernel), List.mem_of_getElem? (i := 375) (by decide +kernel), List.mem_of_getElem? (i := 376) (by decide +kernel)⟩
theorem lw_p27 : lw_okq (⟨"GuestRunnerModel", "atOnce", "(I)I"⟩, 19) := ⟨⟨by decide +kernel, by decide +kernel⟩, List.mem_of_getElem? (i := 250) (by decide +kernel), List.mem_of_getElem? (i := 379) (by decide +kernel), List.mem_of_getElem? (i := 380) (by decide +kernel)⟩
theorem lw_p28 : lw_okq (⟨"GuestRunnerModel", "byFunction", "(I)I"⟩, 19) := ⟨⟨by decide +kernel, by decide +kernel⟩, List.mem_of_getElem? (i := 250) (by decide +kernel), List.mem_of_getElem? (i := 384) (by decide +kernel), List.mem_of_getElem? (i := 385) (by decide +kernel)⟩
theorem lw_p29 : lw_okq (⟨"GuestRunnerModel", "shiftOf", "(III)I"⟩, 19) := ⟨⟨by decide +kernel, by decide +kernel⟩, List.mem_of_getElem? (i := 250) (by decide +kernel), List.mem_of_getElem? (i := 388) (by decide +kernel), List.mem_of_getElem? (i := 389) (by decide +kernel)⟩
theorem lw_p30 : lw_okq (⟨"GuestRunnerModel", "system", "()I"⟩, 19) := ⟨⟨by decide +kernel, by decide +kernel⟩, List.mem_of_getElem? (i := 250) (by decide +kernel), List.mem_of_getElem? (i := 392) (by decide +kernel), List.mem_of_getElem? (i := 393) (by decide +kernel)⟩
theorem lw_p31 : lw_okq (⟨"GuestRunnerModel", "halves", "(J)V"⟩, 19) := ⟨⟨by decide +kernel, by decide +kernel⟩, List.mem_of_getElem? (i := 250) (by decide +kernel), List.mem_of_getElem? (i := 396) (by decide +kernel), List.mem_of_getElem? (i := 397) (by decide +kernel)⟩
def lw_privs_2 : List (MethodName × Nat) := [(⟨"GuestRunner", "performArithmetic", "(I)I"⟩, 15), (⟨"GuestRunner", "putUnlessOverflow", "(IJ)I"⟩, 15), (⟨"GuestRunner", "performImmediate", "(I)I"⟩, 15), (⟨"GuestRunner", "performAccess", "(I)I"⟩, 15), (⟨"GuestRunner", "store", "(III)I"⟩, 15), (⟨"GuestRunner", "load", "(IIZ)I"⟩, 15), (⟨"GuestRunner", "stepOfOne", "(I)I"⟩, 15), (⟨"GuestRunnerModel", "two", "(I)I"⟩, 19), (⟨"GuestRunnerModel", "aim", "(I)V"⟩, 19), (⟨"GuestRunnerModel", "isText", "(I)Z"⟩, 19), (⟨"GuestRunnerModel", "put", "(II)V"⟩, 19), (⟨"GuestRunnerModel", "atOnce", "(I)I"⟩, 19), (⟨"GuestRunnerModel", "byFunction", "(I)I"⟩, 19), (⟨"GuestRunnerModel", "shiftOf", "(III)I"⟩, 19), (⟨"GuestRunnerModel", "system", "()I"⟩, 19), (⟨"GuestRunnerModel", "halves", "(J)V"⟩, 19)]
theorem lw_r2 : ∀ q ∈ lw_privs_2, lw_okq q := List.forall_mem_cons.mpr ⟨lw_p16, List.forall_mem_cons.mpr ⟨lw_p17, List.forall_mem_cons.mpr ⟨lw_p18, List.forall_mem_cons.mpr ⟨lw_p19, List.forall_mem_cons.mpr ⟨lw_p20, List.forall_mem_cons.mpr ⟨lw_p21, List.forall_mem_cons.mpr ⟨lw_p22, List.forall_mem_cons.mpr ⟨lw_p23, List.forall_mem_cons.mpr ⟨lw_p24, List.forall_mem_cons.mpr ⟨lw_p25, List.forall_mem_cons.mpr ⟨lw_p26, List.forall_mem_cons.mpr ⟨lw_p27, List.forall_mem_cons.mpr ⟨lw_p28, List.forall_mem_cons.mpr ⟨lw_p29, List.forall_mem_cons.mpr ⟨lw_p30, List.forall_mem_cons.mpr ⟨lw_p31, fun _ h => absurd h List.not_mem_nil⟩⟩⟩⟩⟩⟩⟩⟩⟩⟩⟩⟩⟩⟩⟩⟩
theorem lw_p32 : lw_okq (⟨"GuestRunnerModel", "divide", "(II)V"⟩, 19) := ⟨⟨by decide +kernel, by decide +kernel⟩, List.mem_of_getElem? (i := 250) (by decide +kernel), List.mem_of_getElem? (i := 401) (by decide +kernel), List.mem_of_getElem? (i := 402) (by decide +kernel)⟩
theorem lw_p33 : lw_okq (⟨"GuestRunnerModel", "divideBare", "(II)V"⟩, 19) := ⟨⟨by decide +kernel, by decide +kernel⟩, List.mem_of_getElem? (i := 250) (by decide +kernel), List.mem_of_getElem? (i := 405) (by decide +kernel), List.mem_of_getElem? (i := 406) (by decide +kernel)⟩
theorem lw_p34 : lw_okq (⟨"GuestRunnerModel", "sum", "(IJ)I"⟩, 19) := ⟨⟨by decide +kernel, by decide +kernel⟩, List.mem_of_getElem? (i := 250) (by decide +kernel), List.mem_of_getElem? (i := 409) (by decide +kernel), List.mem_of_getElem? (i := 410) (by decide +kernel)⟩
theorem lw_p35 : lw_okq (⟨"GuestRunnerModel", "load", "(IIIZ)I"⟩, 19) := ⟨⟨by decide +kernel, by decide +kernel⟩, List.mem_of_getElem? (i := 250) (by decide +kernel), List.mem_of_getElem? (i := 413) (by decide +kernel), List.mem_of_getElem? (i := 414) (by decide +kernel)⟩
theorem lw_p36 : lw_okq (⟨"GuestRunnerModel", "store", "(III)I"⟩, 19) := ⟨⟨by decide +kernel, by decide +kernel⟩, List.mem_of_getElem? (i := 250) (by decide +kernel), List.mem_of_getElem? (i := 419) (by decide +kernel), List.mem_of_getElem? (i := 420) (by decide +kernel)⟩
def lw_privs_3 : List (MethodName × Nat) := [(⟨"GuestRunnerModel", "divide", "(II)V"⟩, 19), (⟨"GuestRunnerModel", "divideBare", "(II)V"⟩, 19), (⟨"GuestRunnerModel", "sum", "(IJ)I"⟩, 19), (⟨"GuestRunnerModel", "load", "(IIIZ)I"⟩, 19), (⟨"GuestRunnerModel", "store", "(III)I"⟩, 19)]
theorem lw_r3 : ∀ q ∈ lw_privs_3, lw_okq q := List.forall_mem_cons.mpr ⟨lw_p32, List.forall_mem_cons.mpr ⟨lw_p33, List.forall_mem_cons.mpr ⟨lw_p34, List.forall_mem_cons.mpr ⟨lw_p35, List.forall_mem_cons.mpr ⟨lw_p36, fun _ h => absurd h List.not_mem_nil⟩⟩⟩⟩⟩
def lw_privs : List (MethodName × Nat) := lw_privs_1 ++ (lw_privs_2 ++ (lw_privs_3))
def lw_tbl : List Cond := k2_sels lw_privs ++ tables_1
theorem lw_privs_ok : ∀ q ∈ lw_privs, lw_okq q := by
  show ∀ q ∈ lw_privs_1 ++ (lw_privs_2 ++ (lw_privs_3)), lw_okq q
  exact List.forall_mem_append.mpr ⟨lw_r1, List.forall_mem_append.mpr ⟨lw_r2, lw_r3⟩⟩

-- the words: all good ones of the tables
def lw_big : List Cond := lw_tbl.filter goodWord
theorem in_big {w : Cond} {i : Nat} (h : lw_tbl[i]? = some w) (g : goodWord w = true) : w ∈ lw_big := List.mem_filter.mpr ⟨List.mem_of_getElem? h, g⟩
theorem mc {w x : Cond} (h : w ∈ lw_big) : w ∈ x :: lw_big := List.mem_cons_of_mem _ h
theorem good_big {x : Cond} : GoodIn (x :: lw_big) lw_big := fun w h => ⟨List.mem_cons_of_mem _ h, good_of_word (List.mem_filter.mp h).2⟩
theorem gW {big : List Cond} (hb : ∀ w ∈ lw_big, w ∈ big) {w : Cond} (h : w ∈ lw_big) : w ∈ big ∧ ((w.onTables && w.keeps) = true ∨ ∃ ty, w = .arrayClass ty) := ⟨hb w h, good_of_word (List.mem_filter.mp h).2⟩
theorem gB {big : List Cond} (hb : ∀ w ∈ lw_big, w ∈ big) {k : Cond} (hk : k ∈ lw_big) : GoodIn big (k :: lw_big) := fun w h => by
  rcases List.mem_cons.mp h with rfl | h
  · exact gW hb hk
  · exact gW hb h
theorem gVb {big : List Cond} (hb : ∀ w ∈ lw_big, w ∈ big) {own C : String} {idx : Nat} {y : MethodName} {k : Cond} (h1 : Cond.methodLink own idx y ∈ lw_big) (h2 : Cond.instanceMethod y ∈ lw_big) (h3 : Cond.selects C y y ∈ lw_big) (h4 : Cond.initialized C ∈ lw_big) (h5 : k ∈ lw_big) : GoodIn big (wsV own idx C y (k :: lw_big)) := fun w h => by
  unfold wsV at h
  rcases List.mem_append.mp h with h | h
  · simp only [List.mem_cons, List.not_mem_nil, or_false] at h
    rcases h with rfl | rfl | rfl | rfl
    · exact gW hb h1
    · exact gW hb h2
    · exact gW hb h3
    · exact gW hb h4
  · exact gB hb h5 w h
theorem gV {x : Cond} {own C : String} {idx : Nat} {y : MethodName} {k : Cond} (h1 : Cond.methodLink own idx y ∈ lw_big) (h2 : Cond.instanceMethod y ∈ lw_big) (h3 : Cond.selects C y y ∈ lw_big) (h4 : Cond.initialized C ∈ lw_big) (h5 : k ∈ lw_big) : GoodIn (x :: lw_big) (wsV own idx C y (k :: lw_big)) := gVb (fun _ h => mc h) h1 h2 h3 h4 h5
theorem gS {x : Cond} {own : String} {idx : Nat} {y : MethodName} {k : Cond} (h1 : Cond.methodLink own idx y ∈ lw_big) (h2 : Cond.static y ∈ lw_big) (h4 : Cond.initialized own ∈ lw_big) (h5 : k ∈ lw_big) : GoodIn (x :: lw_big) (wsS own idx y (k :: lw_big)) := fun w h => by
  unfold wsS at h
  rcases List.mem_append.mp h with h | h
  · simp only [List.mem_cons, List.not_mem_nil, or_false] at h
    rcases h with rfl | rfl | rfl
    · exact gW (fun _ h => mc h) h1
    · exact gW (fun _ h => mc h) h2
    · exact gW (fun _ h => mc h) h4
  · exact gB (fun _ h => mc h) h5 w h
def RX0 : String := "GuestRunner"
def TX0 : u_T := fun k => match k with
  | 0 => ("GuestRunner", "draft", "[I", true)
  | 1 => ("GuestRunner", "draftCount", "I", false)
  | 2 => ("GuestRunner", "text", "[I", true)
  | 3 => ("GuestRunner", "textCount", "I", false)
  | 4 => ("GuestRunner", "registers", "[I", true)
  | 5 => ("GuestRunner", "memory", "[I", true)
  | 6 => ("GuestRunner", "tapeIn", "[I", true)
  | 7 => ("GuestRunner", "inCount", "I", false)
  | 8 => ("GuestRunner", "inRead", "I", false)
  | 9 => ("GuestRunner", "tapeOut", "[I", true)
  | 10 => ("GuestRunner", "outCount", "I", false)
  | 11 => ("GuestRunner", "pc", "I", false)
  | 12 => ("GuestRunner", "used", "I", false)
  | 13 => ("GuestRunner", "outcome", "I", false)
  | _ => ("GuestRunner", "endCode", "I", false)
def tyX0 : Nat → FieldType := fun k => match k with
  | 0 => .array .int
  | 1 => .int
  | 2 => .array .int
  | 3 => .int
  | 4 => .array .int
  | 5 => .array .int
  | 6 => .array .int
  | 7 => .int
  | 8 => .int
  | 9 => .array .int
  | 10 => .int
  | 11 => .int
  | 12 => .int
  | 13 => .int
  | _ => .int
abbrev wsX00 : List Cond := u_ws RX0 TX0 15
theorem nmX0 : ∀ a, a < 15 → ∀ b, b < 15 → a ≠ b → (TX0 a).2.1 ≠ (TX0 b).2.1 := by decide +kernel
theorem tyX0_ok : ∀ k, k < 15 → parseFieldDescriptor (TX0 k).2.2.1 = some (tyX0 k) := by decide +kernel
abbrev cX0_init : ByteArray := prog_1_method_1_code
def yX0_init : MethodName := ⟨RX0, "<init>", "()V"⟩
abbrev wsX0_init : List Cond := .code yX0_init cX0_init 1 (none) :: lw_big
abbrev cX0_word : ByteArray := prog_1_method_2_code
def yX0_word : MethodName := ⟨RX0, "word", "(I)I"⟩
abbrev wsX0_word : List Cond := .code yX0_word cX0_word 2 (some .int) :: lw_big
abbrev cX0_set : ByteArray := prog_1_method_3_code
def yX0_set : MethodName := ⟨RX0, "set", "(II)I"⟩
abbrev wsX0_set : List Cond := .code yX0_set cX0_set 3 (some .int) :: lw_big
abbrev cX0_input : ByteArray := prog_1_method_4_code
def yX0_input : MethodName := ⟨RX0, "input", "(I)I"⟩
abbrev wsX0_input : List Cond := .code yX0_input cX0_input 2 (some .int) :: lw_big
abbrev cX0_data : ByteArray := prog_1_method_5_code
def yX0_data : MethodName := ⟨RX0, "data", "(II)I"⟩
abbrev wsX0_data : List Cond := .code yX0_data cX0_data 3 (some .int) :: lw_big
abbrev cX0_begin : ByteArray := prog_1_method_6_code
def yX0_begin : MethodName := ⟨RX0, "begin", "()I"⟩
abbrev wsX0_begin : List Cond := .code yX0_begin cX0_begin 2 (some .int) :: lw_big
abbrev cX0_run : ByteArray := prog_1_method_7_code
def yX0_run : MethodName := ⟨RX0, "run", "(I)I"⟩
abbrev wsX0_run : List Cond := .code yX0_run cX0_run 7 (some .int) :: lw_big
abbrev cX0_register : ByteArray := prog_1_method_8_code
def yX0_register : MethodName := ⟨RX0, "register", "(I)I"⟩
abbrev wsX0_register : List Cond := .code yX0_register cX0_register 2 (some .int) :: lw_big
abbrev cX0_give : ByteArray := prog_1_method_9_code
def yX0_give : MethodName := ⟨RX0, "give", "(II)I"⟩
abbrev wsX0_give : List Cond := .code yX0_give cX0_give 3 (some .int) :: lw_big
abbrev cX0_byteOf : ByteArray := prog_1_method_10_code
def yX0_byteOf : MethodName := ⟨RX0, "byteOf", "(I)I"⟩
abbrev wsX0_byteOf : List Cond := .code yX0_byteOf cX0_byteOf 2 (some .int) :: lw_big
abbrev cX0_output : ByteArray := prog_1_method_11_code
def yX0_output : MethodName := ⟨RX0, "output", "(I)I"⟩
abbrev wsX0_output : List Cond := .code yX0_output cX0_output 2 (some .int) :: lw_big
abbrev cX0_code : ByteArray := prog_1_method_12_code
def yX0_code : MethodName := ⟨RX0, "code", "()I"⟩
abbrev wsX0_code : List Cond := .code yX0_code cX0_code 1 (some .int) :: lw_big
abbrev cX0_opOf : ByteArray := prog_1_method_13_code
def yX0_opOf : MethodName := ⟨RX0, "opOf", "(I)I"⟩
abbrev wsX0_opOf : List Cond := .code yX0_opOf cX0_opOf 1 (some .int) :: lw_big
abbrev cX0_sOf : ByteArray := prog_1_method_14_code
def yX0_sOf : MethodName := ⟨RX0, "sOf", "(I)I"⟩
abbrev wsX0_sOf : List Cond := .code yX0_sOf cX0_sOf 1 (some .int) :: lw_big
abbrev cX0_tOf : ByteArray := prog_1_method_15_code
def yX0_tOf : MethodName := ⟨RX0, "tOf", "(I)I"⟩
abbrev wsX0_tOf : List Cond := .code yX0_tOf cX0_tOf 1 (some .int) :: lw_big
abbrev cX0_dOf : ByteArray := prog_1_method_16_code
def yX0_dOf : MethodName := ⟨RX0, "dOf", "(I)I"⟩
abbrev wsX0_dOf : List Cond := .code yX0_dOf cX0_dOf 1 (some .int) :: lw_big
abbrev cX0_hOf : ByteArray := prog_1_method_17_code
def yX0_hOf : MethodName := ⟨RX0, "hOf", "(I)I"⟩
abbrev wsX0_hOf : List Cond := .code yX0_hOf cX0_hOf 1 (some .int) :: lw_big
abbrev cX0_fOf : ByteArray := prog_1_method_18_code
def yX0_fOf : MethodName := ⟨RX0, "fOf", "(I)I"⟩
abbrev wsX0_fOf : List Cond := .code yX0_fOf cX0_fOf 1 (some .int) :: lw_big
abbrev cX0_signedImmediate : ByteArray := prog_1_method_19_code
def yX0_signedImmediate : MethodName := ⟨RX0, "signedImmediate", "(I)I"⟩
abbrev wsX0_signedImmediate : List Cond := .code yX0_signedImmediate cX0_signedImmediate 1 (some .int) :: lw_big
abbrev cX0_plainImmediate : ByteArray := prog_1_method_20_code
def yX0_plainImmediate : MethodName := ⟨RX0, "plainImmediate", "(I)I"⟩
abbrev wsX0_plainImmediate : List Cond := .code yX0_plainImmediate cX0_plainImmediate 1 (some .int) :: lw_big
abbrev cX0_isTurn : ByteArray := prog_1_method_21_code
def yX0_isTurn : MethodName := ⟨RX0, "isTurn", "(I)Z"⟩
abbrev wsX0_isTurn : List Cond := .code yX0_isTurn cX0_isTurn 3 (some .boolean) :: lw_big
abbrev cX0_isBarredFromSlots : ByteArray := prog_1_method_22_code
def yX0_isBarredFromSlots : MethodName := ⟨RX0, "isBarredFromSlots", "(I)Z"⟩
abbrev wsX0_isBarredFromSlots : List Cond := .code yX0_isBarredFromSlots cX0_isBarredFromSlots 2 (some .boolean) :: lw_big
abbrev cX0_stepOfOne : ByteArray := prog_1_method_23_code
def yX0_stepOfOne : MethodName := ⟨RX0, "stepOfOne", "(I)I"⟩
abbrev wsX0_stepOfOne : List Cond := .code yX0_stepOfOne cX0_stepOfOne 3 (some .int) :: lw_big
abbrev cX0_stepOfTwo : ByteArray := prog_1_method_24_code
def yX0_stepOfTwo : MethodName := ⟨RX0, "stepOfTwo", "(I)I"⟩
abbrev wsX0_stepOfTwo : List Cond := .code yX0_stepOfTwo cX0_stepOfTwo 9 (some .int) :: lw_big
abbrev cX0_turnGoes : ByteArray := prog_1_method_25_code
def yX0_turnGoes : MethodName := ⟨RX0, "turnGoes", "(I)Z"⟩
abbrev wsX0_turnGoes : List Cond := .code yX0_turnGoes cX0_turnGoes 4 (some .boolean) :: lw_big
abbrev cX0_aimOf : ByteArray := prog_1_method_26_code
def yX0_aimOf : MethodName := ⟨RX0, "aimOf", "(I)I"⟩
abbrev wsX0_aimOf : List Cond := .code yX0_aimOf cX0_aimOf 3 (some .int) :: lw_big
abbrev cX0_linkRegisterOf : ByteArray := prog_1_method_27_code
def yX0_linkRegisterOf : MethodName := ⟨RX0, "linkRegisterOf", "(I)I"⟩
abbrev wsX0_linkRegisterOf : List Cond := .code yX0_linkRegisterOf cX0_linkRegisterOf 1 (some .int) :: lw_big
abbrev cX0_perform : ByteArray := prog_1_method_28_code
def yX0_perform : MethodName := ⟨RX0, "perform", "(I)I"⟩
abbrev wsX0_perform : List Cond := .code yX0_perform cX0_perform 3 (some .int) :: lw_big
abbrev cX0_performFunction : ByteArray := prog_1_method_29_code
def yX0_performFunction : MethodName := ⟨RX0, "performFunction", "(I)I"⟩
abbrev wsX0_performFunction : List Cond := .code yX0_performFunction cX0_performFunction 3 (some .int) :: lw_big
abbrev cX0_performShift : ByteArray := prog_1_method_30_code
def yX0_performShift : MethodName := ⟨RX0, "performShift", "(I)I"⟩
abbrev wsX0_performShift : List Cond := .code yX0_performShift cX0_performShift 6 (some .int) :: lw_big
abbrev cX0_performHiLo : ByteArray := prog_1_method_31_code
def yX0_performHiLo : MethodName := ⟨RX0, "performHiLo", "(I)I"⟩
abbrev wsX0_performHiLo : List Cond := .code yX0_performHiLo cX0_performHiLo 4 (some .int) :: lw_big
abbrev cX0_putProduct : ByteArray := prog_1_method_32_code
def yX0_putProduct : MethodName := ⟨RX0, "putProduct", "(J)I"⟩
abbrev wsX0_putProduct : List Cond := .code yX0_putProduct cX0_putProduct 3 (some .int) :: lw_big
abbrev cX0_divide : ByteArray := prog_1_method_33_code
def yX0_divide : MethodName := ⟨RX0, "divide", "(JJ)I"⟩
abbrev wsX0_divide : List Cond := .code yX0_divide cX0_divide 5 (some .int) :: lw_big
abbrev cX0_performArithmetic : ByteArray := prog_1_method_34_code
def yX0_performArithmetic : MethodName := ⟨RX0, "performArithmetic", "(I)I"⟩
abbrev wsX0_performArithmetic : List Cond := .code yX0_performArithmetic cX0_performArithmetic 5 (some .int) :: lw_big
abbrev cX0_performImmediate : ByteArray := prog_1_method_35_code
def yX0_performImmediate : MethodName := ⟨RX0, "performImmediate", "(I)I"⟩
abbrev wsX0_performImmediate : List Cond := .code yX0_performImmediate cX0_performImmediate 6 (some .int) :: lw_big
abbrev cX0_performSystem : ByteArray := prog_1_method_36_code
def yX0_performSystem : MethodName := ⟨RX0, "performSystem", "()I"⟩
abbrev wsX0_performSystem : List Cond := .code yX0_performSystem cX0_performSystem 1 (some .int) :: lw_big
abbrev cX0_readByte : ByteArray := prog_1_method_37_code
def yX0_readByte : MethodName := ⟨RX0, "readByte", "()I"⟩
abbrev wsX0_readByte : List Cond := .code yX0_readByte cX0_readByte 2 (some .int) :: lw_big
abbrev cX0_writeByte : ByteArray := prog_1_method_38_code
def yX0_writeByte : MethodName := ⟨RX0, "writeByte", "()I"⟩
abbrev wsX0_writeByte : List Cond := .code yX0_writeByte cX0_writeByte 1 (some .int) :: lw_big
abbrev cX0_performAccess : ByteArray := prog_1_method_39_code
def yX0_performAccess : MethodName := ⟨RX0, "performAccess", "(I)I"⟩
abbrev wsX0_performAccess : List Cond := .code yX0_performAccess cX0_performAccess 8 (some .int) :: lw_big
abbrev cX0_bytesOfAccess : ByteArray := prog_1_method_40_code
def yX0_bytesOfAccess : MethodName := ⟨RX0, "bytesOfAccess", "(I)I"⟩
abbrev wsX0_bytesOfAccess : List Cond := .code yX0_bytesOfAccess cX0_bytesOfAccess 1 (some .int) :: lw_big
abbrev cX0_load : ByteArray := prog_1_method_41_code
def yX0_load : MethodName := ⟨RX0, "load", "(IIZ)I"⟩
abbrev wsX0_load : List Cond := .code yX0_load cX0_load 6 (some .int) :: lw_big
abbrev cX0_store : ByteArray := prog_1_method_42_code
def yX0_store : MethodName := ⟨RX0, "store", "(III)I"⟩
abbrev wsX0_store : List Cond := .code yX0_store cX0_store 6 (some .int) :: lw_big
abbrev cX0_put : ByteArray := prog_1_method_43_code
def yX0_put : MethodName := ⟨RX0, "put", "(II)I"⟩
abbrev wsX0_put : List Cond := .code yX0_put cX0_put 3 (some .int) :: lw_big
abbrev cX0_putUnlessOverflow : ByteArray := prog_1_method_44_code
def yX0_putUnlessOverflow : MethodName := ⟨RX0, "putUnlessOverflow", "(IJ)I"⟩
abbrev wsX0_putUnlessOverflow : List Cond := .code yX0_putUnlessOverflow cX0_putUnlessOverflow 4 (some .int) :: lw_big
abbrev cX0_unsigned : ByteArray := prog_1_method_45_code
def yX0_unsigned : MethodName := ⟨RX0, "unsigned", "(I)J"⟩
abbrev wsX0_unsigned : List Cond := .code yX0_unsigned cX0_unsigned 1 (some .long) :: lw_big
abbrev cX0_isByte : ByteArray := prog_1_method_46_code
def yX0_isByte : MethodName := ⟨RX0, "isByte", "(I)Z"⟩
abbrev wsX0_isByte : List Cond := .code yX0_isByte cX0_isByte 1 (some .boolean) :: lw_big
abbrev cX0_isDataIndex : ByteArray := prog_1_method_47_code
def yX0_isDataIndex : MethodName := ⟨RX0, "isDataIndex", "(I)Z"⟩
abbrev wsX0_isDataIndex : List Cond := .code yX0_isDataIndex cX0_isDataIndex 1 (some .boolean) :: lw_big
abbrev cX0_isInText : ByteArray := prog_1_method_48_code
def yX0_isInText : MethodName := ⟨RX0, "isInText", "(I)Z"⟩
abbrev wsX0_isInText : List Cond := .code yX0_isInText cX0_isInText 2 (some .boolean) :: lw_big
abbrev cX0_addressOf : ByteArray := prog_1_method_49_code
def yX0_addressOf : MethodName := ⟨RX0, "addressOf", "(I)I"⟩
abbrev wsX0_addressOf : List Cond := .code yX0_addressOf cX0_addressOf 1 (some .int) :: lw_big
abbrev cX0_isTextAddress : ByteArray := prog_1_method_50_code
def yX0_isTextAddress : MethodName := ⟨RX0, "isTextAddress", "(I)Z"⟩
abbrev wsX0_isTextAddress : List Cond := .code yX0_isTextAddress cX0_isTextAddress 3 (some .boolean) :: lw_big
abbrev cX0_wordAt : ByteArray := prog_1_method_51_code
def yX0_wordAt : MethodName := ⟨RX0, "wordAt", "(I)I"⟩
abbrev wsX0_wordAt : List Cond := .code yX0_wordAt cX0_wordAt 2 (some .int) :: lw_big
theorem inX0t : ∀ w ∈ wsX00, w ∈ lw_tbl := by decide +kernel
theorem inX0g : ∀ w ∈ wsX00, goodWord w = true := by decide +kernel
theorem inX0 : ∀ w ∈ wsX00, w ∈ lw_big := fun w h => List.mem_filter.mpr ⟨inX0t w h, inX0g w h⟩
def RX1 : String := "GuestRunnerModel"
def TX1 : u_T := fun k => match k with
  | 0 => ("GuestRunnerModel", "typed", "[I", true)
  | 1 => ("GuestRunnerModel", "typedSize", "I", false)
  | 2 => ("GuestRunnerModel", "text", "[I", true)
  | 3 => ("GuestRunnerModel", "size", "I", false)
  | 4 => ("GuestRunnerModel", "byteAt", "[I", true)
  | 5 => ("GuestRunnerModel", "in", "[I", true)
  | 6 => ("GuestRunnerModel", "inSize", "I", false)
  | 7 => ("GuestRunnerModel", "inAt", "I", false)
  | 8 => ("GuestRunnerModel", "out", "[I", true)
  | 9 => ("GuestRunnerModel", "outSize", "I", false)
  | 10 => ("GuestRunnerModel", "reg", "[I", true)
  | 11 => ("GuestRunnerModel", "pc", "I", false)
  | 12 => ("GuestRunnerModel", "used", "I", false)
  | 13 => ("GuestRunnerModel", "ended", "Z", false)
  | 14 => ("GuestRunnerModel", "trap", "I", false)
  | 15 => ("GuestRunnerModel", "exit", "I", false)
  | 16 => ("GuestRunnerModel", "goes", "Z", false)
  | 17 => ("GuestRunnerModel", "goal", "I", false)
  | _ => ("GuestRunnerModel", "link", "I", false)
def tyX1 : Nat → FieldType := fun k => match k with
  | 0 => .array .int
  | 1 => .int
  | 2 => .array .int
  | 3 => .int
  | 4 => .array .int
  | 5 => .array .int
  | 6 => .int
  | 7 => .int
  | 8 => .array .int
  | 9 => .int
  | 10 => .array .int
  | 11 => .int
  | 12 => .int
  | 13 => .boolean
  | 14 => .int
  | 15 => .int
  | 16 => .boolean
  | 17 => .int
  | _ => .int
abbrev wsX10 : List Cond := u_ws RX1 TX1 19
theorem nmX1 : ∀ a, a < 19 → ∀ b, b < 19 → a ≠ b → (TX1 a).2.1 ≠ (TX1 b).2.1 := by decide +kernel
theorem tyX1_ok : ∀ k, k < 19 → parseFieldDescriptor (TX1 k).2.2.1 = some (tyX1 k) := by decide +kernel
abbrev cX1_init : ByteArray := prog_3_method_1_code
def yX1_init : MethodName := ⟨RX1, "<init>", "()V"⟩
abbrev wsX1_init : List Cond := .code yX1_init cX1_init 1 (none) :: lw_big
abbrev cX1_word : ByteArray := prog_3_method_3_code
def yX1_word : MethodName := ⟨RX1, "word", "(I)I"⟩
abbrev wsX1_word : List Cond := .code yX1_word cX1_word 2 (some .int) :: lw_big
abbrev cX1_set : ByteArray := prog_3_method_4_code
def yX1_set : MethodName := ⟨RX1, "set", "(II)I"⟩
abbrev wsX1_set : List Cond := .code yX1_set cX1_set 3 (some .int) :: lw_big
abbrev cX1_input : ByteArray := prog_3_method_5_code
def yX1_input : MethodName := ⟨RX1, "input", "(I)I"⟩
abbrev wsX1_input : List Cond := .code yX1_input cX1_input 2 (some .int) :: lw_big
abbrev cX1_data : ByteArray := prog_3_method_6_code
def yX1_data : MethodName := ⟨RX1, "data", "(II)I"⟩
abbrev wsX1_data : List Cond := .code yX1_data cX1_data 3 (some .int) :: lw_big
abbrev cX1_begin : ByteArray := prog_3_method_7_code
def yX1_begin : MethodName := ⟨RX1, "begin", "()I"⟩
abbrev wsX1_begin : List Cond := .code yX1_begin cX1_begin 2 (some .int) :: lw_big
abbrev cX1_op : ByteArray := prog_3_method_8_code
def yX1_op : MethodName := ⟨RX1, "op", "(I)I"⟩
abbrev wsX1_op : List Cond := .code yX1_op cX1_op 1 (some .int) :: lw_big
abbrev cX1_first : ByteArray := prog_3_method_9_code
def yX1_first : MethodName := ⟨RX1, "first", "(I)I"⟩
abbrev wsX1_first : List Cond := .code yX1_first cX1_first 1 (some .int) :: lw_big
abbrev cX1_second : ByteArray := prog_3_method_10_code
def yX1_second : MethodName := ⟨RX1, "second", "(I)I"⟩
abbrev wsX1_second : List Cond := .code yX1_second cX1_second 1 (some .int) :: lw_big
abbrev cX1_third : ByteArray := prog_3_method_11_code
def yX1_third : MethodName := ⟨RX1, "third", "(I)I"⟩
abbrev wsX1_third : List Cond := .code yX1_third cX1_third 1 (some .int) :: lw_big
abbrev cX1_signed : ByteArray := prog_3_method_12_code
def yX1_signed : MethodName := ⟨RX1, "signed", "(I)I"⟩
abbrev wsX1_signed : List Cond := .code yX1_signed cX1_signed 1 (some .int) :: lw_big
abbrev cX1_put : ByteArray := prog_3_method_13_code
def yX1_put : MethodName := ⟨RX1, "put", "(II)V"⟩
abbrev wsX1_put : List Cond := .code yX1_put cX1_put 3 (none) :: lw_big
abbrev cX1_leads : ByteArray := prog_3_method_14_code
def yX1_leads : MethodName := ⟨RX1, "leads", "(I)Z"⟩
abbrev wsX1_leads : List Cond := .code yX1_leads cX1_leads 4 (some .boolean) :: lw_big
abbrev cX1_calls : ByteArray := prog_3_method_15_code
def yX1_calls : MethodName := ⟨RX1, "calls", "(I)Z"⟩
abbrev wsX1_calls : List Cond := .code yX1_calls cX1_calls 1 (some .boolean) :: lw_big
abbrev cX1_aim : ByteArray := prog_3_method_16_code
def yX1_aim : MethodName := ⟨RX1, "aim", "(I)V"⟩
abbrev wsX1_aim : List Cond := .code yX1_aim cX1_aim 5 (none) :: lw_big
abbrev cX1_isText : ByteArray := prog_3_method_17_code
def yX1_isText : MethodName := ⟨RX1, "isText", "(I)Z"⟩
abbrev wsX1_isText : List Cond := .code yX1_isText cX1_isText 2 (some .boolean) :: lw_big
abbrev cX1_shiftOf : ByteArray := prog_3_method_18_code
def yX1_shiftOf : MethodName := ⟨RX1, "shiftOf", "(III)I"⟩
abbrev wsX1_shiftOf : List Cond := .code yX1_shiftOf cX1_shiftOf 4 (some .int) :: lw_big
abbrev cX1_byFunction : ByteArray := prog_3_method_19_code
def yX1_byFunction : MethodName := ⟨RX1, "byFunction", "(I)I"⟩
abbrev wsX1_byFunction : List Cond := .code yX1_byFunction cX1_byFunction 6 (some .int) :: lw_big
abbrev cX1_sum : ByteArray := prog_3_method_20_code
def yX1_sum : MethodName := ⟨RX1, "sum", "(IJ)I"⟩
abbrev wsX1_sum : List Cond := .code yX1_sum cX1_sum 4 (some .int) :: lw_big
abbrev cX1_halves : ByteArray := prog_3_method_21_code
def yX1_halves : MethodName := ⟨RX1, "halves", "(J)V"⟩
abbrev wsX1_halves : List Cond := .code yX1_halves cX1_halves 3 (none) :: lw_big
abbrev cX1_divide : ByteArray := prog_3_method_22_code
def yX1_divide : MethodName := ⟨RX1, "divide", "(II)V"⟩
abbrev wsX1_divide : List Cond := .code yX1_divide cX1_divide 5 (none) :: lw_big
abbrev cX1_divideBare : ByteArray := prog_3_method_23_code
def yX1_divideBare : MethodName := ⟨RX1, "divideBare", "(II)V"⟩
abbrev wsX1_divideBare : List Cond := .code yX1_divideBare cX1_divideBare 7 (none) :: lw_big
abbrev cX1_system : ByteArray := prog_3_method_24_code
def yX1_system : MethodName := ⟨RX1, "system", "()I"⟩
abbrev wsX1_system : List Cond := .code yX1_system cX1_system 1 (some .int) :: lw_big
abbrev cX1_atOnce : ByteArray := prog_3_method_25_code
def yX1_atOnce : MethodName := ⟨RX1, "atOnce", "(I)I"⟩
abbrev wsX1_atOnce : List Cond := .code yX1_atOnce cX1_atOnce 6 (some .int) :: lw_big
abbrev cX1_load : ByteArray := prog_3_method_26_code
def yX1_load : MethodName := ⟨RX1, "load", "(IIIZ)I"⟩
abbrev wsX1_load : List Cond := .code yX1_load cX1_load 7 (some .int) :: lw_big
abbrev cX1_store : ByteArray := prog_3_method_27_code
def yX1_store : MethodName := ⟨RX1, "store", "(III)I"⟩
abbrev wsX1_store : List Cond := .code yX1_store cX1_store 5 (some .int) :: lw_big
abbrev cX1_two : ByteArray := prog_3_method_28_code
def yX1_two : MethodName := ⟨RX1, "two", "(I)I"⟩
abbrev wsX1_two : List Cond := .code yX1_two cX1_two 5 (some .int) :: lw_big
abbrev cX1_run : ByteArray := prog_3_method_29_code
def yX1_run : MethodName := ⟨RX1, "run", "(I)I"⟩
abbrev wsX1_run : List Cond := .code yX1_run cX1_run 5 (some .int) :: lw_big
abbrev cX1_register : ByteArray := prog_3_method_30_code
def yX1_register : MethodName := ⟨RX1, "register", "(I)I"⟩
abbrev wsX1_register : List Cond := .code yX1_register cX1_register 2 (some .int) :: lw_big
abbrev cX1_give : ByteArray := prog_3_method_31_code
def yX1_give : MethodName := ⟨RX1, "give", "(II)I"⟩
abbrev wsX1_give : List Cond := .code yX1_give cX1_give 3 (some .int) :: lw_big
abbrev cX1_byteOf : ByteArray := prog_3_method_32_code
def yX1_byteOf : MethodName := ⟨RX1, "byteOf", "(I)I"⟩
abbrev wsX1_byteOf : List Cond := .code yX1_byteOf cX1_byteOf 2 (some .int) :: lw_big
abbrev cX1_output : ByteArray := prog_3_method_33_code
def yX1_output : MethodName := ⟨RX1, "output", "(I)I"⟩
abbrev wsX1_output : List Cond := .code yX1_output cX1_output 2 (some .int) :: lw_big
abbrev cX1_code : ByteArray := prog_3_method_34_code
def yX1_code : MethodName := ⟨RX1, "code", "()I"⟩
abbrev wsX1_code : List Cond := .code yX1_code cX1_code 1 (some .int) :: lw_big
theorem inX1t : ∀ w ∈ wsX10, w ∈ lw_tbl := by decide +kernel
theorem inX1g : ∀ w ∈ wsX10, goodWord w = true := by decide +kernel
theorem inX1 : ∀ w ∈ wsX10, w ∈ lw_big := fun w h => List.mem_filter.mpr ⟨inX1t w h, inX1g w h⟩
def RL : String := "GuestRunnerLaw"
abbrev vwCl : List vw_C := [(RX0, TX0, 15), (RX1, TX1, 19)]
