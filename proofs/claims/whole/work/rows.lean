section
-- ===== PART A: goes FIRST, ahead of the names: the tables' words, and 'selects' of the private methods out of them =====
/-- a private method of a class that the tables say can be made, by its rows of tables_1 -/
def lw_okq (q : MethodName × Nat) : Prop := (q.1.cls ≠ "java/lang/invoke/MethodHandle" ∧ q.1.cls ≠ "java/lang/invoke/VarHandle") ∧ Cond.instantiable q.1.cls q.2 ∈ tables_1 ∧ Cond.privateMethod q.1 ∈ tables_1 ∧ Cond.instanceMethod q.1 ∈ tables_1
theorem lw_p0 : lw_okq (⟨"GuestRunner", "isInText", "(I)Z"⟩, 15) := ⟨⟨by decide +kernel, by decide +kernel⟩, List.mem_of_getElem? (i := 4) (by decide +kernel), List.mem_of_getElem? (i := 90) (by decide +kernel), List.mem_of_getElem? (i := 91) (by decide +kernel)⟩
theorem lw_p1 : lw_okq (⟨"GuestRunner", "stepOfTwo", "(I)I"⟩, 15) := ⟨⟨by decide +kernel, by decide +kernel⟩, List.mem_of_getElem? (i := 4) (by decide +kernel), List.mem_of_getElem? (i := 106) (by decide +kernel), List.mem_of_getElem? (i := 107) (by decide +kernel)⟩
theorem lw_p2 : lw_okq (⟨"GuestRunner", "turnGoes", "(I)Z"⟩, 15) := ⟨⟨by decide +kernel, by decide +kernel⟩, List.mem_of_getElem? (i := 4) (by decide +kernel), List.mem_of_getElem? (i := 113) (by decide +kernel), List.mem_of_getElem? (i := 114) (by decide +kernel)⟩
theorem lw_p3 : lw_okq (⟨"GuestRunner", "aimOf", "(I)I"⟩, 15) := ⟨⟨by decide +kernel, by decide +kernel⟩, List.mem_of_getElem? (i := 4) (by decide +kernel), List.mem_of_getElem? (i := 120) (by decide +kernel), List.mem_of_getElem? (i := 121) (by decide +kernel)⟩
theorem lw_p4 : lw_okq (⟨"GuestRunner", "wordAt", "(I)I"⟩, 15) := ⟨⟨by decide +kernel, by decide +kernel⟩, List.mem_of_getElem? (i := 4) (by decide +kernel), List.mem_of_getElem? (i := 124) (by decide +kernel), List.mem_of_getElem? (i := 125) (by decide +kernel)⟩
theorem lw_p5 : lw_okq (⟨"GuestRunner", "isTextAddress", "(I)Z"⟩, 15) := ⟨⟨by decide +kernel, by decide +kernel⟩, List.mem_of_getElem? (i := 4) (by decide +kernel), List.mem_of_getElem? (i := 128) (by decide +kernel), List.mem_of_getElem? (i := 129) (by decide +kernel)⟩
theorem lw_p6 : lw_okq (⟨"GuestRunner", "put", "(II)I"⟩, 15) := ⟨⟨by decide +kernel, by decide +kernel⟩, List.mem_of_getElem? (i := 4) (by decide +kernel), List.mem_of_getElem? (i := 147) (by decide +kernel), List.mem_of_getElem? (i := 148) (by decide +kernel)⟩
theorem lw_p7 : lw_okq (⟨"GuestRunner", "perform", "(I)I"⟩, 15) := ⟨⟨by decide +kernel, by decide +kernel⟩, List.mem_of_getElem? (i := 4) (by decide +kernel), List.mem_of_getElem? (i := 151) (by decide +kernel), List.mem_of_getElem? (i := 152) (by decide +kernel)⟩
theorem lw_p8 : lw_okq (⟨"GuestRunner", "performFunction", "(I)I"⟩, 15) := ⟨⟨by decide +kernel, by decide +kernel⟩, List.mem_of_getElem? (i := 4) (by decide +kernel), List.mem_of_getElem? (i := 155) (by decide +kernel), List.mem_of_getElem? (i := 156) (by decide +kernel)⟩
theorem lw_p9 : lw_okq (⟨"GuestRunner", "performShift", "(I)I"⟩, 15) := ⟨⟨by decide +kernel, by decide +kernel⟩, List.mem_of_getElem? (i := 4) (by decide +kernel), List.mem_of_getElem? (i := 159) (by decide +kernel), List.mem_of_getElem? (i := 160) (by decide +kernel)⟩
theorem lw_p10 : lw_okq (⟨"GuestRunner", "performSystem", "()I"⟩, 15) := ⟨⟨by decide +kernel, by decide +kernel⟩, List.mem_of_getElem? (i := 4) (by decide +kernel), List.mem_of_getElem? (i := 166) (by decide +kernel), List.mem_of_getElem? (i := 167) (by decide +kernel)⟩
theorem lw_p11 : lw_okq (⟨"GuestRunner", "readByte", "()I"⟩, 15) := ⟨⟨by decide +kernel, by decide +kernel⟩, List.mem_of_getElem? (i := 4) (by decide +kernel), List.mem_of_getElem? (i := 170) (by decide +kernel), List.mem_of_getElem? (i := 171) (by decide +kernel)⟩
theorem lw_p12 : lw_okq (⟨"GuestRunner", "writeByte", "()I"⟩, 15) := ⟨⟨by decide +kernel, by decide +kernel⟩, List.mem_of_getElem? (i := 4) (by decide +kernel), List.mem_of_getElem? (i := 174) (by decide +kernel), List.mem_of_getElem? (i := 175) (by decide +kernel)⟩
theorem lw_p13 : lw_okq (⟨"GuestRunner", "performHiLo", "(I)I"⟩, 15) := ⟨⟨by decide +kernel, by decide +kernel⟩, List.mem_of_getElem? (i := 4) (by decide +kernel), List.mem_of_getElem? (i := 178) (by decide +kernel), List.mem_of_getElem? (i := 179) (by decide +kernel)⟩
theorem lw_p14 : lw_okq (⟨"GuestRunner", "putProduct", "(J)I"⟩, 15) := ⟨⟨by decide +kernel, by decide +kernel⟩, List.mem_of_getElem? (i := 4) (by decide +kernel), List.mem_of_getElem? (i := 182) (by decide +kernel), List.mem_of_getElem? (i := 183) (by decide +kernel)⟩
theorem lw_p15 : lw_okq (⟨"GuestRunner", "divide", "(JJ)I"⟩, 15) := ⟨⟨by decide +kernel, by decide +kernel⟩, List.mem_of_getElem? (i := 4) (by decide +kernel), List.mem_of_getElem? (i := 190) (by decide +kernel), List.mem_of_getElem? (i := 191) (by decide +kernel)⟩
def lw_privs_1 : List (MethodName × Nat) := [(⟨"GuestRunner", "isInText", "(I)Z"⟩, 15), (⟨"GuestRunner", "stepOfTwo", "(I)I"⟩, 15), (⟨"GuestRunner", "turnGoes", "(I)Z"⟩, 15), (⟨"GuestRunner", "aimOf", "(I)I"⟩, 15), (⟨"GuestRunner", "wordAt", "(I)I"⟩, 15), (⟨"GuestRunner", "isTextAddress", "(I)Z"⟩, 15), (⟨"GuestRunner", "put", "(II)I"⟩, 15), (⟨"GuestRunner", "perform", "(I)I"⟩, 15), (⟨"GuestRunner", "performFunction", "(I)I"⟩, 15), (⟨"GuestRunner", "performShift", "(I)I"⟩, 15), (⟨"GuestRunner", "performSystem", "()I"⟩, 15), (⟨"GuestRunner", "readByte", "()I"⟩, 15), (⟨"GuestRunner", "writeByte", "()I"⟩, 15), (⟨"GuestRunner", "performHiLo", "(I)I"⟩, 15), (⟨"GuestRunner", "putProduct", "(J)I"⟩, 15), (⟨"GuestRunner", "divide", "(JJ)I"⟩, 15)]
theorem lw_r1 : ∀ q ∈ lw_privs_1, lw_okq q := List.forall_mem_cons.mpr ⟨lw_p0, List.forall_mem_cons.mpr ⟨lw_p1, List.forall_mem_cons.mpr ⟨lw_p2, List.forall_mem_cons.mpr ⟨lw_p3, List.forall_mem_cons.mpr ⟨lw_p4, List.forall_mem_cons.mpr ⟨lw_p5, List.forall_mem_cons.mpr ⟨lw_p6, List.forall_mem_cons.mpr ⟨lw_p7, List.forall_mem_cons.mpr ⟨lw_p8, List.forall_mem_cons.mpr ⟨lw_p9, List.forall_mem_cons.mpr ⟨lw_p10, List.forall_mem_cons.mpr ⟨lw_p11, List.forall_mem_cons.mpr ⟨lw_p12, List.forall_mem_cons.mpr ⟨lw_p13, List.forall_mem_cons.mpr ⟨lw_p14, List.forall_mem_cons.mpr ⟨lw_p15, fun _ h => absurd h List.not_mem_nil⟩⟩⟩⟩⟩⟩⟩⟩⟩⟩⟩⟩⟩⟩⟩⟩
theorem lw_p16 : lw_okq (⟨"GuestRunner", "performArithmetic", "(I)I"⟩, 15) := ⟨⟨by decide +kernel, by decide +kernel⟩, List.mem_of_getElem? (i := 4) (by decide +kernel), List.mem_of_getElem? (i := 194) (by decide +kernel), List.mem_of_getElem? (i := 195) (by decide +kernel)⟩
theorem lw_p17 : lw_okq (⟨"GuestRunner", "putUnlessOverflow", "(IJ)I"⟩, 15) := ⟨⟨by decide +kernel, by decide +kernel⟩, List.mem_of_getElem? (i := 4) (by decide +kernel), List.mem_of_getElem? (i := 198) (by decide +kernel), List.mem_of_getElem? (i := 199) (by decide +kernel)⟩
theorem lw_p18 : lw_okq (⟨"GuestRunner", "performImmediate", "(I)I"⟩, 15) := ⟨⟨by decide +kernel, by decide +kernel⟩, List.mem_of_getElem? (i := 4) (by decide +kernel), List.mem_of_getElem? (i := 202) (by decide +kernel), List.mem_of_getElem? (i := 203) (by decide +kernel)⟩
theorem lw_p19 : lw_okq (⟨"GuestRunner", "performAccess", "(I)I"⟩, 15) := ⟨⟨by decide +kernel, by decide +kernel⟩, List.mem_of_getElem? (i := 4) (by decide +kernel), List.mem_of_getElem? (i := 210) (by decide +kernel), List.mem_of_getElem? (i := 211) (by decide +kernel)⟩
theorem lw_p20 : lw_okq (⟨"GuestRunner", "store", "(III)I"⟩, 15) := ⟨⟨by decide +kernel, by decide +kernel⟩, List.mem_of_getElem? (i := 4) (by decide +kernel), List.mem_of_getElem? (i := 218) (by decide +kernel), List.mem_of_getElem? (i := 219) (by decide +kernel)⟩
theorem lw_p21 : lw_okq (⟨"GuestRunner", "load", "(IIZ)I"⟩, 15) := ⟨⟨by decide +kernel, by decide +kernel⟩, List.mem_of_getElem? (i := 4) (by decide +kernel), List.mem_of_getElem? (i := 222) (by decide +kernel), List.mem_of_getElem? (i := 223) (by decide +kernel)⟩
theorem lw_p22 : lw_okq (⟨"GuestRunner", "stepOfOne", "(I)I"⟩, 15) := ⟨⟨by decide +kernel, by decide +kernel⟩, List.mem_of_getElem? (i := 4) (by decide +kernel), List.mem_of_getElem? (i := 226) (by decide +kernel), List.mem_of_getElem? (i := 227) (by decide +kernel)⟩
theorem lw_p23 : lw_okq (⟨"GuestRunnerModel", "two", "(I)I"⟩, 19) := ⟨⟨by decide +kernel, by decide +kernel⟩, List.mem_of_getElem? (i := 250) (by decide +kernel), List.mem_of_getElem? (i := 348) (by decide +kernel), List.mem_of_getElem? (i := 349) (by decide +kernel)⟩
theorem lw_p24 : lw_okq (⟨"GuestRunnerModel", "aim", "(I)V"⟩, 19) := ⟨⟨by decide +kernel, by decide +kernel⟩, List.mem_of_getElem? (i := 250) (by decide +kernel), List.mem_of_getElem? (i := 355) (by decide +kernel), List.mem_of_getElem? (i := 356) (by decide +kernel)⟩
theorem lw_p25 : lw_okq (⟨"GuestRunnerModel", "isText", "(I)Z"⟩, 19) := ⟨⟨by decide +kernel, by decide +kernel⟩, List.mem_of_getElem? (i := 250) (by decide +kernel), List.mem_of_getElem? (i := 371) (by decide +kernel), List.mem_of_getElem? (i := 372) (by decide +kernel)⟩
theorem lw_p26 : lw_okq (⟨"GuestRunnerModel", "put", "(II)V"⟩, 19) := ⟨⟨by decide +kernel, by decide +kernel⟩, List.mem_of_getElem? (i := 250) (by decide +kernel), List.mem_of_getElem? (i := 375) (by decide +kernel), List.mem_of_getElem? (i := 376) (by decide +kernel)⟩
theorem lw_p27 : lw_okq (⟨"GuestRunnerModel", "atOnce", "(I)I"⟩, 19) := ⟨⟨by decide +kernel, by decide +kernel⟩, List.mem_of_getElem? (i := 250) (by decide +kernel), List.mem_of_getElem? (i := 379) (by decide +kernel), List.mem_of_getElem? (i := 380) (by decide +kernel)⟩
theorem lw_p28 : lw_okq (⟨"GuestRunnerModel", "byFunction", "(I)I"⟩, 19) := ⟨⟨by decide +kernel, by decide +kernel⟩, List.mem_of_getElem? (i := 250) (by decide +kernel), List.mem_of_getElem? (i := 384) (by decide +kernel), List.mem_of_getElem? (i := 385) (by decide +kernel)⟩
theorem lw_p29 : lw_okq (⟨"GuestRunnerModel", "shiftOf", "(III)I"⟩, 19) := ⟨⟨by decide +kernel, by decide +kernel⟩, List.mem_of_getElem? (i := 250) (by decide +kernel), List.mem_of_getElem? (i := 388) (by decide +kernel), List.mem_of_getElem? (i := 389) (by decide +kernel)⟩
theorem lw_p30 : lw_okq (⟨"GuestRunnerModel", "system", "()I"⟩, 19) := ⟨⟨by decide +kernel, by decide +kernel⟩, List.mem_of_getElem? (i := 250) (by decide +kernel), List.mem_of_getElem? (i := 392) (by decide +kernel), List.mem_of_getElem? (i := 393) (by decide +kernel)⟩
theorem lw_p31 : lw_okq (⟨"GuestRunnerModel", "halves", "(J)V"⟩, 19) := ⟨⟨by decide +kernel, by decide +kernel⟩, List.mem_of_getElem? (i := 250) (by decide +kernel), List.mem_of_getElem? (i := 396) (by decide +kernel), List.mem_of_getElem? (i := 397) (by decide +kernel)⟩
def lw_privs_2 : List (MethodName × Nat) := [(⟨"GuestRunner", "performArithmetic", "(I)I"⟩, 15), (⟨"GuestRunner", "putUnlessOverflow", "(IJ)I"⟩, 15), (⟨"GuestRunner", "performImmediate", "(I)I"⟩, 15), (⟨"GuestRunner", "performAccess", "(I)I"⟩, 15), (⟨"GuestRunner", "store", "(III)I"⟩, 15), (⟨"GuestRunner", "load", "(IIZ)I"⟩, 15), (⟨"GuestRunner", "stepOfOne", "(I)I"⟩, 15), (⟨"GuestRunnerModel", "two", "(I)I"⟩, 19), (⟨"GuestRunnerModel", "aim", "(I)V"⟩, 19), (⟨"GuestRunnerModel", "isText", "(I)Z"⟩, 19), (⟨"GuestRunnerModel", "put", "(II)V"⟩, 19), (⟨"GuestRunnerModel", "atOnce", "(I)I"⟩, 19), (⟨"GuestRunnerModel", "byFunction", "(I)I"⟩, 19), (⟨"GuestRunnerModel", "shiftOf", "(III)I"⟩, 19), (⟨"GuestRunnerModel", "system", "()I"⟩, 19), (⟨"GuestRunnerModel", "halves", "(J)V"⟩, 19)]
theorem lw_r2 : ∀ q ∈ lw_privs_2, lw_okq q := List.forall_mem_cons.mpr ⟨lw_p16, List.forall_mem_cons.mpr ⟨lw_p17, List.forall_mem_cons.mpr ⟨lw_p18, List.forall_mem_cons.mpr ⟨lw_p19, List.forall_mem_cons.mpr ⟨lw_p20, List.forall_mem_cons.mpr ⟨lw_p21, List.forall_mem_cons.mpr ⟨lw_p22, List.forall_mem_cons.mpr ⟨lw_p23, List.forall_mem_cons.mpr ⟨lw_p24, List.forall_mem_cons.mpr ⟨lw_p25, List.forall_mem_cons.mpr ⟨lw_p26, List.forall_mem_cons.mpr ⟨lw_p27, List.forall_mem_cons.mpr ⟨lw_p28, List.forall_mem_cons.mpr ⟨lw_p29, List.forall_mem_cons.mpr ⟨lw_p30, List.forall_mem_cons.mpr ⟨lw_p31, fun _ h => absurd h List.not_mem_nil⟩⟩⟩⟩⟩⟩⟩⟩⟩⟩⟩⟩⟩⟩⟩⟩
theorem lw_p32 : lw_okq (⟨"GuestRunnerModel", "divide", "(II)V"⟩, 19) := ⟨⟨by decide +kernel, by decide +kernel⟩, List.mem_of_getElem? (i := 250) (by decide +kernel), List.mem_of_getElem? (i := 401) (by decide +kernel), List.mem_of_getElem? (i := 402) (by decide +kernel)⟩
theorem lw_p33 : lw_okq (⟨"GuestRunnerModel", "divideBare", "(II)V"⟩, 19) := ⟨⟨by decide +kernel, by decide +kernel⟩, List.mem_of_getElem? (i := 250) (by decide +kernel), List.mem_of_getElem? (i := 405) (by decide +kernel), List.mem_of_getElem? (i := 406) (by decide +kernel)⟩
theorem lw_p34 : lw_okq (⟨"GuestRunnerModel", "sum", "(IJ)I"⟩, 19) := ⟨⟨by decide +kernel, by decide +kernel⟩, List.mem_of_getElem? (i := 250) (by decide +kernel), List.mem_of_getElem? (i := 409) (by decide +kernel), List.mem_of_getElem? (i := 410) (by decide +kernel)⟩
theorem lw_p35 : lw_okq (⟨"GuestRunnerModel", "load", "(IIIZ)I"⟩, 19) := ⟨⟨by decide +kernel, by decide +kernel⟩, List.mem_of_getElem? (i := 250) (by decide +kernel), List.mem_of_getElem? (i := 413) (by decide +kernel), List.mem_of_getElem? (i := 414) (by decide +kernel)⟩
theorem lw_p36 : lw_okq (⟨"GuestRunnerModel", "store", "(III)I"⟩, 19) := ⟨⟨by decide +kernel, by decide +kernel⟩, List.mem_of_getElem? (i := 250) (by decide +kernel), List.mem_of_getElem? (i := 419) (by decide +kernel), List.mem_of_getElem? (i := 420) (by decide +kernel)⟩
def lw_privs_3 : List (MethodName × Nat) := [(⟨"GuestRunnerModel", "divide", "(II)V"⟩, 19), (⟨"GuestRunnerModel", "divideBare", "(II)V"⟩, 19), (⟨"GuestRunnerModel", "sum", "(IJ)I"⟩, 19), (⟨"GuestRunnerModel", "load", "(IIIZ)I"⟩, 19), (⟨"GuestRunnerModel", "store", "(III)I"⟩, 19)]
theorem lw_r3 : ∀ q ∈ lw_privs_3, lw_okq q := List.forall_mem_cons.mpr ⟨lw_p32, List.forall_mem_cons.mpr ⟨lw_p33, List.forall_mem_cons.mpr ⟨lw_p34, List.forall_mem_cons.mpr ⟨lw_p35, List.forall_mem_cons.mpr ⟨lw_p36, fun _ h => absurd h List.not_mem_nil⟩⟩⟩⟩⟩
def lw_privs : List (MethodName × Nat) := lw_privs_1 ++ (lw_privs_2 ++ (lw_privs_3))
def lw_tbl : List Cond := k2_sels lw_privs ++ tables_1
theorem lw_privs_ok : ∀ q ∈ lw_privs, lw_okq q := by
  show ∀ q ∈ lw_privs_1 ++ (lw_privs_2 ++ (lw_privs_3)), lw_okq q
  exact List.forall_mem_append.mpr ⟨lw_r1, List.forall_mem_append.mpr ⟨lw_r2, lw_r3⟩⟩

-- the words: all good ones of the tables
def lw_big : List Cond := lw_tbl.filter goodWord
theorem in_big {w : Cond} {i : Nat} (h : lw_tbl[i]? = some w) (g : goodWord w = true) : w ∈ lw_big := List.mem_filter.mpr ⟨List.mem_of_getElem? h, g⟩
theorem mc {w x : Cond} (h : w ∈ lw_big) : w ∈ x :: lw_big := List.mem_cons_of_mem _ h
theorem good_big {x : Cond} : GoodIn (x :: lw_big) lw_big := fun w h => ⟨List.mem_cons_of_mem _ h, good_of_word (List.mem_filter.mp h).2⟩
theorem gW {big : List Cond} (hb : ∀ w ∈ lw_big, w ∈ big) {w : Cond} (h : w ∈ lw_big) : w ∈ big ∧ ((w.onTables && w.keeps) = true ∨ ∃ ty, w = .arrayClass ty) := ⟨hb w h, good_of_word (List.mem_filter.mp h).2⟩
theorem gB {big : List Cond} (hb : ∀ w ∈ lw_big, w ∈ big) {k : Cond} (hk : k ∈ lw_big) : GoodIn big (k :: lw_big) := fun w h => by
  rcases List.mem_cons.mp h with rfl | h
  · exact gW hb hk
  · exact gW hb h
theorem gVb {big : List Cond} (hb : ∀ w ∈ lw_big, w ∈ big) {own C : String} {idx : Nat} {y : MethodName} {k : Cond} (h1 : Cond.methodLink own idx y ∈ lw_big) (h2 : Cond.instanceMethod y ∈ lw_big) (h3 : Cond.selects C y y ∈ lw_big) (h4 : Cond.initialized C ∈ lw_big) (h5 : k ∈ lw_big) : GoodIn big (wsV own idx C y (k :: lw_big)) := fun w h => by
  unfold wsV at h
  rcases List.mem_append.mp h with h | h
  · simp only [List.mem_cons, List.not_mem_nil, or_false] at h
    rcases h with rfl | rfl | rfl | rfl
    · exact gW hb h1
    · exact gW hb h2
    · exact gW hb h3
    · exact gW hb h4
  · exact gB hb h5 w h
theorem gV {x : Cond} {own C : String} {idx : Nat} {y : MethodName} {k : Cond} (h1 : Cond.methodLink own idx y ∈ lw_big) (h2 : Cond.instanceMethod y ∈ lw_big) (h3 : Cond.selects C y y ∈ lw_big) (h4 : Cond.initialized C ∈ lw_big) (h5 : k ∈ lw_big) : GoodIn (x :: lw_big) (wsV own idx C y (k :: lw_big)) := gVb (fun _ h => mc h) h1 h2 h3 h4 h5
theorem gS {x : Cond} {own : String} {idx : Nat} {y : MethodName} {k : Cond} (h1 : Cond.methodLink own idx y ∈ lw_big) (h2 : Cond.static y ∈ lw_big) (h4 : Cond.initialized own ∈ lw_big) (h5 : k ∈ lw_big) : GoodIn (x :: lw_big) (wsS own idx y (k :: lw_big)) := fun w h => by
  unfold wsS at h
  rcases List.mem_append.mp h with h | h
  · simp only [List.mem_cons, List.not_mem_nil, or_false] at h
    rcases h with rfl | rfl | rfl
    · exact gW (fun _ h => mc h) h1
    · exact gW (fun _ h => mc h) h2
    · exact gW (fun _ h => mc h) h4
  · exact gB (fun _ h => mc h) h5 w h
def RX0 : String := "GuestRunner"
def TX0 : u_T := fun k => match k with
  | 0 => ("GuestRunner", "draft", "[I", true)
  | 1 => ("GuestRunner", "draftCount", "I", false)
  | 2 => ("GuestRunner", "text", "[I", true)
  | 3 => ("GuestRunner", "textCount", "I", false)
  | 4 => ("GuestRunner", "registers", "[I", true)
  | 5 => ("GuestRunner", "memory", "[I", true)
  | 6 => ("GuestRunner", "tapeIn", "[I", true)
  | 7 => ("GuestRunner", "inCount", "I", false)
  | 8 => ("GuestRunner", "inRead", "I", false)
  | 9 => ("GuestRunner", "tapeOut", "[I", true)
  | 10 => ("GuestRunner", "outCount", "I", false)
  | 11 => ("GuestRunner", "pc", "I", false)
  | 12 => ("GuestRunner", "used", "I", false)
  | 13 => ("GuestRunner", "outcome", "I", false)
  | _ => ("GuestRunner", "endCode", "I", false)
def tyX0 : Nat → FieldType := fun k => match k with
  | 0 => .array .int
  | 1 => .int
  | 2 => .array .int
  | 3 => .int
  | 4 => .array .int
  | 5 => .array .int
  | 6 => .array .int
  | 7 => .int
  | 8 => .int
  | 9 => .array .int
  | 10 => .int
  | 11 => .int
  | 12 => .int
  | 13 => .int
  | _ => .int
abbrev wsX00 : List Cond := u_ws RX0 TX0 15
theorem nmX0 : ∀ a, a < 15 → ∀ b, b < 15 → a ≠ b → (TX0 a).2.1 ≠ (TX0 b).2.1 := by decide +kernel
theorem tyX0_ok : ∀ k, k < 15 → parseFieldDescriptor (TX0 k).2.2.1 = some (tyX0 k) := by decide +kernel
abbrev cX0_init : ByteArray := prog_1_method_1_code
def yX0_init : MethodName := ⟨RX0, "<init>", "()V"⟩
abbrev wsX0_init : List Cond := .code yX0_init cX0_init 1 (none) :: lw_big
abbrev cX0_word : ByteArray := prog_1_method_2_code
def yX0_word : MethodName := ⟨RX0, "word", "(I)I"⟩
abbrev wsX0_word : List Cond := .code yX0_word cX0_word 2 (some .int) :: lw_big
abbrev cX0_set : ByteArray := prog_1_method_3_code
def yX0_set : MethodName := ⟨RX0, "set", "(II)I"⟩
abbrev wsX0_set : List Cond := .code yX0_set cX0_set 3 (some .int) :: lw_big
abbrev cX0_input : ByteArray := prog_1_method_4_code
def yX0_input : MethodName := ⟨RX0, "input", "(I)I"⟩
abbrev wsX0_input : List Cond := .code yX0_input cX0_input 2 (some .int) :: lw_big
abbrev cX0_data : ByteArray := prog_1_method_5_code
def yX0_data : MethodName := ⟨RX0, "data", "(II)I"⟩
abbrev wsX0_data : List Cond := .code yX0_data cX0_data 3 (some .int) :: lw_big
abbrev cX0_begin : ByteArray := prog_1_method_6_code
def yX0_begin : MethodName := ⟨RX0, "begin", "()I"⟩
abbrev wsX0_begin : List Cond := .code yX0_begin cX0_begin 2 (some .int) :: lw_big
abbrev cX0_run : ByteArray := prog_1_method_7_code
def yX0_run : MethodName := ⟨RX0, "run", "(I)I"⟩
abbrev wsX0_run : List Cond := .code yX0_run cX0_run 7 (some .int) :: lw_big
abbrev cX0_register : ByteArray := prog_1_method_8_code
def yX0_register : MethodName := ⟨RX0, "register", "(I)I"⟩
abbrev wsX0_register : List Cond := .code yX0_register cX0_register 2 (some .int) :: lw_big
abbrev cX0_give : ByteArray := prog_1_method_9_code
def yX0_give : MethodName := ⟨RX0, "give", "(II)I"⟩
abbrev wsX0_give : List Cond := .code yX0_give cX0_give 3 (some .int) :: lw_big
abbrev cX0_byteOf : ByteArray := prog_1_method_10_code
def yX0_byteOf : MethodName := ⟨RX0, "byteOf", "(I)I"⟩
abbrev wsX0_byteOf : List Cond := .code yX0_byteOf cX0_byteOf 2 (some .int) :: lw_big
abbrev cX0_output : ByteArray := prog_1_method_11_code
def yX0_output : MethodName := ⟨RX0, "output", "(I)I"⟩
abbrev wsX0_output : List Cond := .code yX0_output cX0_output 2 (some .int) :: lw_big
abbrev cX0_code : ByteArray := prog_1_method_12_code
def yX0_code : MethodName := ⟨RX0, "code", "()I"⟩
abbrev wsX0_code : List Cond := .code yX0_code cX0_code 1 (some .int) :: lw_big
abbrev cX0_opOf : ByteArray := prog_1_method_13_code
def yX0_opOf : MethodName := ⟨RX0, "opOf", "(I)I"⟩
abbrev wsX0_opOf : List Cond := .code yX0_opOf cX0_opOf 1 (some .int) :: lw_big
abbrev cX0_sOf : ByteArray := prog_1_method_14_code
def yX0_sOf : MethodName := ⟨RX0, "sOf", "(I)I"⟩
abbrev wsX0_sOf : List Cond := .code yX0_sOf cX0_sOf 1 (some .int) :: lw_big
abbrev cX0_tOf : ByteArray := prog_1_method_15_code
def yX0_tOf : MethodName := ⟨RX0, "tOf", "(I)I"⟩
abbrev wsX0_tOf : List Cond := .code yX0_tOf cX0_tOf 1 (some .int) :: lw_big
abbrev cX0_dOf : ByteArray := prog_1_method_16_code
def yX0_dOf : MethodName := ⟨RX0, "dOf", "(I)I"⟩
abbrev wsX0_dOf : List Cond := .code yX0_dOf cX0_dOf 1 (some .int) :: lw_big
abbrev cX0_hOf : ByteArray := prog_1_method_17_code
def yX0_hOf : MethodName := ⟨RX0, "hOf", "(I)I"⟩
abbrev wsX0_hOf : List Cond := .code yX0_hOf cX0_hOf 1 (some .int) :: lw_big
abbrev cX0_fOf : ByteArray := prog_1_method_18_code
def yX0_fOf : MethodName := ⟨RX0, "fOf", "(I)I"⟩
abbrev wsX0_fOf : List Cond := .code yX0_fOf cX0_fOf 1 (some .int) :: lw_big
abbrev cX0_signedImmediate : ByteArray := prog_1_method_19_code
def yX0_signedImmediate : MethodName := ⟨RX0, "signedImmediate", "(I)I"⟩
abbrev wsX0_signedImmediate : List Cond := .code yX0_signedImmediate cX0_signedImmediate 1 (some .int) :: lw_big
abbrev cX0_plainImmediate : ByteArray := prog_1_method_20_code
def yX0_plainImmediate : MethodName := ⟨RX0, "plainImmediate", "(I)I"⟩
abbrev wsX0_plainImmediate : List Cond := .code yX0_plainImmediate cX0_plainImmediate 1 (some .int) :: lw_big
abbrev cX0_isTurn : ByteArray := prog_1_method_21_code
def yX0_isTurn : MethodName := ⟨RX0, "isTurn", "(I)Z"⟩
abbrev wsX0_isTurn : List Cond := .code yX0_isTurn cX0_isTurn 3 (some .boolean) :: lw_big
abbrev cX0_isBarredFromSlots : ByteArray := prog_1_method_22_code
def yX0_isBarredFromSlots : MethodName := ⟨RX0, "isBarredFromSlots", "(I)Z"⟩
abbrev wsX0_isBarredFromSlots : List Cond := .code yX0_isBarredFromSlots cX0_isBarredFromSlots 2 (some .boolean) :: lw_big
abbrev cX0_stepOfOne : ByteArray := prog_1_method_23_code
def yX0_stepOfOne : MethodName := ⟨RX0, "stepOfOne", "(I)I"⟩
abbrev wsX0_stepOfOne : List Cond := .code yX0_stepOfOne cX0_stepOfOne 3 (some .int) :: lw_big
abbrev cX0_stepOfTwo : ByteArray := prog_1_method_24_code
def yX0_stepOfTwo : MethodName := ⟨RX0, "stepOfTwo", "(I)I"⟩
abbrev wsX0_stepOfTwo : List Cond := .code yX0_stepOfTwo cX0_stepOfTwo 9 (some .int) :: lw_big
abbrev cX0_turnGoes : ByteArray := prog_1_method_25_code
def yX0_turnGoes : MethodName := ⟨RX0, "turnGoes", "(I)Z"⟩
abbrev wsX0_turnGoes : List Cond := .code yX0_turnGoes cX0_turnGoes 4 (some .boolean) :: lw_big
abbrev cX0_aimOf : ByteArray := prog_1_method_26_code
def yX0_aimOf : MethodName := ⟨RX0, "aimOf", "(I)I"⟩
abbrev wsX0_aimOf : List Cond := .code yX0_aimOf cX0_aimOf 3 (some .int) :: lw_big
abbrev cX0_linkRegisterOf : ByteArray := prog_1_method_27_code
def yX0_linkRegisterOf : MethodName := ⟨RX0, "linkRegisterOf", "(I)I"⟩
abbrev wsX0_linkRegisterOf : List Cond := .code yX0_linkRegisterOf cX0_linkRegisterOf 1 (some .int) :: lw_big
abbrev cX0_perform : ByteArray := prog_1_method_28_code
def yX0_perform : MethodName := ⟨RX0, "perform", "(I)I"⟩
abbrev wsX0_perform : List Cond := .code yX0_perform cX0_perform 3 (some .int) :: lw_big
abbrev cX0_performFunction : ByteArray := prog_1_method_29_code
def yX0_performFunction : MethodName := ⟨RX0, "performFunction", "(I)I"⟩
abbrev wsX0_performFunction : List Cond := .code yX0_performFunction cX0_performFunction 3 (some .int) :: lw_big
abbrev cX0_performShift : ByteArray := prog_1_method_30_code
def yX0_performShift : MethodName := ⟨RX0, "performShift", "(I)I"⟩
abbrev wsX0_performShift : List Cond := .code yX0_performShift cX0_performShift 6 (some .int) :: lw_big
abbrev cX0_performHiLo : ByteArray := prog_1_method_31_code
def yX0_performHiLo : MethodName := ⟨RX0, "performHiLo", "(I)I"⟩
abbrev wsX0_performHiLo : List Cond := .code yX0_performHiLo cX0_performHiLo 4 (some .int) :: lw_big
abbrev cX0_putProduct : ByteArray := prog_1_method_32_code
def yX0_putProduct : MethodName := ⟨RX0, "putProduct", "(J)I"⟩
abbrev wsX0_putProduct : List Cond := .code yX0_putProduct cX0_putProduct 3 (some .int) :: lw_big
abbrev cX0_divide : ByteArray := prog_1_method_33_code
def yX0_divide : MethodName := ⟨RX0, "divide", "(JJ)I"⟩
abbrev wsX0_divide : List Cond := .code yX0_divide cX0_divide 5 (some .int) :: lw_big
abbrev cX0_performArithmetic : ByteArray := prog_1_method_34_code
def yX0_performArithmetic : MethodName := ⟨RX0, "performArithmetic", "(I)I"⟩
abbrev wsX0_performArithmetic : List Cond := .code yX0_performArithmetic cX0_performArithmetic 5 (some .int) :: lw_big
abbrev cX0_performImmediate : ByteArray := prog_1_method_35_code
def yX0_performImmediate : MethodName := ⟨RX0, "performImmediate", "(I)I"⟩
abbrev wsX0_performImmediate : List Cond := .code yX0_performImmediate cX0_performImmediate 6 (some .int) :: lw_big
abbrev cX0_performSystem : ByteArray := prog_1_method_36_code
def yX0_performSystem : MethodName := ⟨RX0, "performSystem", "()I"⟩
abbrev wsX0_performSystem : List Cond := .code yX0_performSystem cX0_performSystem 1 (some .int) :: lw_big
abbrev cX0_readByte : ByteArray := prog_1_method_37_code
def yX0_readByte : MethodName := ⟨RX0, "readByte", "()I"⟩
abbrev wsX0_readByte : List Cond := .code yX0_readByte cX0_readByte 2 (some .int) :: lw_big
abbrev cX0_writeByte : ByteArray := prog_1_method_38_code
def yX0_writeByte : MethodName := ⟨RX0, "writeByte", "()I"⟩
abbrev wsX0_writeByte : List Cond := .code yX0_writeByte cX0_writeByte 1 (some .int) :: lw_big
abbrev cX0_performAccess : ByteArray := prog_1_method_39_code
def yX0_performAccess : MethodName := ⟨RX0, "performAccess", "(I)I"⟩
abbrev wsX0_performAccess : List Cond := .code yX0_performAccess cX0_performAccess 8 (some .int) :: lw_big
abbrev cX0_bytesOfAccess : ByteArray := prog_1_method_40_code
def yX0_bytesOfAccess : MethodName := ⟨RX0, "bytesOfAccess", "(I)I"⟩
abbrev wsX0_bytesOfAccess : List Cond := .code yX0_bytesOfAccess cX0_bytesOfAccess 1 (some .int) :: lw_big
abbrev cX0_load : ByteArray := prog_1_method_41_code
def yX0_load : MethodName := ⟨RX0, "load", "(IIZ)I"⟩
abbrev wsX0_load : List Cond := .code yX0_load cX0_load 6 (some .int) :: lw_big
abbrev cX0_store : ByteArray := prog_1_method_42_code
def yX0_store : MethodName := ⟨RX0, "store", "(III)I"⟩
abbrev wsX0_store : List Cond := .code yX0_store cX0_store 6 (some .int) :: lw_big
abbrev cX0_put : ByteArray := prog_1_method_43_code
def yX0_put : MethodName := ⟨RX0, "put", "(II)I"⟩
abbrev wsX0_put : List Cond := .code yX0_put cX0_put 3 (some .int) :: lw_big
abbrev cX0_putUnlessOverflow : ByteArray := prog_1_method_44_code
def yX0_putUnlessOverflow : MethodName := ⟨RX0, "putUnlessOverflow", "(IJ)I"⟩
abbrev wsX0_putUnlessOverflow : List Cond := .code yX0_putUnlessOverflow cX0_putUnlessOverflow 4 (some .int) :: lw_big
abbrev cX0_unsigned : ByteArray := prog_1_method_45_code
def yX0_unsigned : MethodName := ⟨RX0, "unsigned", "(I)J"⟩
abbrev wsX0_unsigned : List Cond := .code yX0_unsigned cX0_unsigned 1 (some .long) :: lw_big
abbrev cX0_isByte : ByteArray := prog_1_method_46_code
def yX0_isByte : MethodName := ⟨RX0, "isByte", "(I)Z"⟩
abbrev wsX0_isByte : List Cond := .code yX0_isByte cX0_isByte 1 (some .boolean) :: lw_big
abbrev cX0_isDataIndex : ByteArray := prog_1_method_47_code
def yX0_isDataIndex : MethodName := ⟨RX0, "isDataIndex", "(I)Z"⟩
abbrev wsX0_isDataIndex : List Cond := .code yX0_isDataIndex cX0_isDataIndex 1 (some .boolean) :: lw_big
abbrev cX0_isInText : ByteArray := prog_1_method_48_code
def yX0_isInText : MethodName := ⟨RX0, "isInText", "(I)Z"⟩
abbrev wsX0_isInText : List Cond := .code yX0_isInText cX0_isInText 2 (some .boolean) :: lw_big
abbrev cX0_addressOf : ByteArray := prog_1_method_49_code
def yX0_addressOf : MethodName := ⟨RX0, "addressOf", "(I)I"⟩
abbrev wsX0_addressOf : List Cond := .code yX0_addressOf cX0_addressOf 1 (some .int) :: lw_big
abbrev cX0_isTextAddress : ByteArray := prog_1_method_50_code
def yX0_isTextAddress : MethodName := ⟨RX0, "isTextAddress", "(I)Z"⟩
abbrev wsX0_isTextAddress : List Cond := .code yX0_isTextAddress cX0_isTextAddress 3 (some .boolean) :: lw_big
abbrev cX0_wordAt : ByteArray := prog_1_method_51_code
def yX0_wordAt : MethodName := ⟨RX0, "wordAt", "(I)I"⟩
abbrev wsX0_wordAt : List Cond := .code yX0_wordAt cX0_wordAt 2 (some .int) :: lw_big
theorem inX0t : ∀ w ∈ wsX00, w ∈ lw_tbl := by decide +kernel
theorem inX0g : ∀ w ∈ wsX00, goodWord w = true := by decide +kernel
theorem inX0 : ∀ w ∈ wsX00, w ∈ lw_big := fun w h => List.mem_filter.mpr ⟨inX0t w h, inX0g w h⟩
def RX1 : String := "GuestRunnerModel"
def TX1 : u_T := fun k => match k with
  | 0 => ("GuestRunnerModel", "typed", "[I", true)
  | 1 => ("GuestRunnerModel", "typedSize", "I", false)
  | 2 => ("GuestRunnerModel", "text", "[I", true)
  | 3 => ("GuestRunnerModel", "size", "I", false)
  | 4 => ("GuestRunnerModel", "byteAt", "[I", true)
  | 5 => ("GuestRunnerModel", "in", "[I", true)
  | 6 => ("GuestRunnerModel", "inSize", "I", false)
  | 7 => ("GuestRunnerModel", "inAt", "I", false)
  | 8 => ("GuestRunnerModel", "out", "[I", true)
  | 9 => ("GuestRunnerModel", "outSize", "I", false)
  | 10 => ("GuestRunnerModel", "reg", "[I", true)
  | 11 => ("GuestRunnerModel", "pc", "I", false)
  | 12 => ("GuestRunnerModel", "used", "I", false)
  | 13 => ("GuestRunnerModel", "ended", "Z", false)
  | 14 => ("GuestRunnerModel", "trap", "I", false)
  | 15 => ("GuestRunnerModel", "exit", "I", false)
  | 16 => ("GuestRunnerModel", "goes", "Z", false)
  | 17 => ("GuestRunnerModel", "goal", "I", false)
  | _ => ("GuestRunnerModel", "link", "I", false)
def tyX1 : Nat → FieldType := fun k => match k with
  | 0 => .array .int
  | 1 => .int
  | 2 => .array .int
  | 3 => .int
  | 4 => .array .int
  | 5 => .array .int
  | 6 => .int
  | 7 => .int
  | 8 => .array .int
  | 9 => .int
  | 10 => .array .int
  | 11 => .int
  | 12 => .int
  | 13 => .boolean
  | 14 => .int
  | 15 => .int
  | 16 => .boolean
  | 17 => .int
  | _ => .int
abbrev wsX10 : List Cond := u_ws RX1 TX1 19
theorem nmX1 : ∀ a, a < 19 → ∀ b, b < 19 → a ≠ b → (TX1 a).2.1 ≠ (TX1 b).2.1 := by decide +kernel
theorem tyX1_ok : ∀ k, k < 19 → parseFieldDescriptor (TX1 k).2.2.1 = some (tyX1 k) := by decide +kernel
abbrev cX1_init : ByteArray := prog_3_method_1_code
def yX1_init : MethodName := ⟨RX1, "<init>", "()V"⟩
abbrev wsX1_init : List Cond := .code yX1_init cX1_init 1 (none) :: lw_big
abbrev cX1_word : ByteArray := prog_3_method_3_code
def yX1_word : MethodName := ⟨RX1, "word", "(I)I"⟩
abbrev wsX1_word : List Cond := .code yX1_word cX1_word 2 (some .int) :: lw_big
abbrev cX1_set : ByteArray := prog_3_method_4_code
def yX1_set : MethodName := ⟨RX1, "set", "(II)I"⟩
abbrev wsX1_set : List Cond := .code yX1_set cX1_set 3 (some .int) :: lw_big
abbrev cX1_input : ByteArray := prog_3_method_5_code
def yX1_input : MethodName := ⟨RX1, "input", "(I)I"⟩
abbrev wsX1_input : List Cond := .code yX1_input cX1_input 2 (some .int) :: lw_big
abbrev cX1_data : ByteArray := prog_3_method_6_code
def yX1_data : MethodName := ⟨RX1, "data", "(II)I"⟩
abbrev wsX1_data : List Cond := .code yX1_data cX1_data 3 (some .int) :: lw_big
abbrev cX1_begin : ByteArray := prog_3_method_7_code
def yX1_begin : MethodName := ⟨RX1, "begin", "()I"⟩
abbrev wsX1_begin : List Cond := .code yX1_begin cX1_begin 2 (some .int) :: lw_big
abbrev cX1_op : ByteArray := prog_3_method_8_code
def yX1_op : MethodName := ⟨RX1, "op", "(I)I"⟩
abbrev wsX1_op : List Cond := .code yX1_op cX1_op 1 (some .int) :: lw_big
abbrev cX1_first : ByteArray := prog_3_method_9_code
def yX1_first : MethodName := ⟨RX1, "first", "(I)I"⟩
abbrev wsX1_first : List Cond := .code yX1_first cX1_first 1 (some .int) :: lw_big
abbrev cX1_second : ByteArray := prog_3_method_10_code
def yX1_second : MethodName := ⟨RX1, "second", "(I)I"⟩
abbrev wsX1_second : List Cond := .code yX1_second cX1_second 1 (some .int) :: lw_big
abbrev cX1_third : ByteArray := prog_3_method_11_code
def yX1_third : MethodName := ⟨RX1, "third", "(I)I"⟩
abbrev wsX1_third : List Cond := .code yX1_third cX1_third 1 (some .int) :: lw_big
abbrev cX1_signed : ByteArray := prog_3_method_12_code
def yX1_signed : MethodName := ⟨RX1, "signed", "(I)I"⟩
abbrev wsX1_signed : List Cond := .code yX1_signed cX1_signed 1 (some .int) :: lw_big
abbrev cX1_put : ByteArray := prog_3_method_13_code
def yX1_put : MethodName := ⟨RX1, "put", "(II)V"⟩
abbrev wsX1_put : List Cond := .code yX1_put cX1_put 3 (none) :: lw_big
abbrev cX1_leads : ByteArray := prog_3_method_14_code
def yX1_leads : MethodName := ⟨RX1, "leads", "(I)Z"⟩
abbrev wsX1_leads : List Cond := .code yX1_leads cX1_leads 4 (some .boolean) :: lw_big
abbrev cX1_calls : ByteArray := prog_3_method_15_code
def yX1_calls : MethodName := ⟨RX1, "calls", "(I)Z"⟩
abbrev wsX1_calls : List Cond := .code yX1_calls cX1_calls 1 (some .boolean) :: lw_big
abbrev cX1_aim : ByteArray := prog_3_method_16_code
def yX1_aim : MethodName := ⟨RX1, "aim", "(I)V"⟩
abbrev wsX1_aim : List Cond := .code yX1_aim cX1_aim 5 (none) :: lw_big
abbrev cX1_isText : ByteArray := prog_3_method_17_code
def yX1_isText : MethodName := ⟨RX1, "isText", "(I)Z"⟩
abbrev wsX1_isText : List Cond := .code yX1_isText cX1_isText 2 (some .boolean) :: lw_big
abbrev cX1_shiftOf : ByteArray := prog_3_method_18_code
def yX1_shiftOf : MethodName := ⟨RX1, "shiftOf", "(III)I"⟩
abbrev wsX1_shiftOf : List Cond := .code yX1_shiftOf cX1_shiftOf 4 (some .int) :: lw_big
abbrev cX1_byFunction : ByteArray := prog_3_method_19_code
def yX1_byFunction : MethodName := ⟨RX1, "byFunction", "(I)I"⟩
abbrev wsX1_byFunction : List Cond := .code yX1_byFunction cX1_byFunction 6 (some .int) :: lw_big
abbrev cX1_sum : ByteArray := prog_3_method_20_code
def yX1_sum : MethodName := ⟨RX1, "sum", "(IJ)I"⟩
abbrev wsX1_sum : List Cond := .code yX1_sum cX1_sum 4 (some .int) :: lw_big
abbrev cX1_halves : ByteArray := prog_3_method_21_code
def yX1_halves : MethodName := ⟨RX1, "halves", "(J)V"⟩
abbrev wsX1_halves : List Cond := .code yX1_halves cX1_halves 3 (none) :: lw_big
abbrev cX1_divide : ByteArray := prog_3_method_22_code
def yX1_divide : MethodName := ⟨RX1, "divide", "(II)V"⟩
abbrev wsX1_divide : List Cond := .code yX1_divide cX1_divide 5 (none) :: lw_big
abbrev cX1_divideBare : ByteArray := prog_3_method_23_code
def yX1_divideBare : MethodName := ⟨RX1, "divideBare", "(II)V"⟩
abbrev wsX1_divideBare : List Cond := .code yX1_divideBare cX1_divideBare 7 (none) :: lw_big
abbrev cX1_system : ByteArray := prog_3_method_24_code
def yX1_system : MethodName := ⟨RX1, "system", "()I"⟩
abbrev wsX1_system : List Cond := .code yX1_system cX1_system 1 (some .int) :: lw_big
abbrev cX1_atOnce : ByteArray := prog_3_method_25_code
def yX1_atOnce : MethodName := ⟨RX1, "atOnce", "(I)I"⟩
abbrev wsX1_atOnce : List Cond := .code yX1_atOnce cX1_atOnce 6 (some .int) :: lw_big
abbrev cX1_load : ByteArray := prog_3_method_26_code
def yX1_load : MethodName := ⟨RX1, "load", "(IIIZ)I"⟩
abbrev wsX1_load : List Cond := .code yX1_load cX1_load 7 (some .int) :: lw_big
abbrev cX1_store : ByteArray := prog_3_method_27_code
def yX1_store : MethodName := ⟨RX1, "store", "(III)I"⟩
abbrev wsX1_store : List Cond := .code yX1_store cX1_store 5 (some .int) :: lw_big
abbrev cX1_two : ByteArray := prog_3_method_28_code
def yX1_two : MethodName := ⟨RX1, "two", "(I)I"⟩
abbrev wsX1_two : List Cond := .code yX1_two cX1_two 5 (some .int) :: lw_big
abbrev cX1_run : ByteArray := prog_3_method_29_code
def yX1_run : MethodName := ⟨RX1, "run", "(I)I"⟩
abbrev wsX1_run : List Cond := .code yX1_run cX1_run 5 (some .int) :: lw_big
abbrev cX1_register : ByteArray := prog_3_method_30_code
def yX1_register : MethodName := ⟨RX1, "register", "(I)I"⟩
abbrev wsX1_register : List Cond := .code yX1_register cX1_register 2 (some .int) :: lw_big
abbrev cX1_give : ByteArray := prog_3_method_31_code
def yX1_give : MethodName := ⟨RX1, "give", "(II)I"⟩
abbrev wsX1_give : List Cond := .code yX1_give cX1_give 3 (some .int) :: lw_big
abbrev cX1_byteOf : ByteArray := prog_3_method_32_code
def yX1_byteOf : MethodName := ⟨RX1, "byteOf", "(I)I"⟩
abbrev wsX1_byteOf : List Cond := .code yX1_byteOf cX1_byteOf 2 (some .int) :: lw_big
abbrev cX1_output : ByteArray := prog_3_method_33_code
def yX1_output : MethodName := ⟨RX1, "output", "(I)I"⟩
abbrev wsX1_output : List Cond := .code yX1_output cX1_output 2 (some .int) :: lw_big
abbrev cX1_code : ByteArray := prog_3_method_34_code
def yX1_code : MethodName := ⟨RX1, "code", "()I"⟩
abbrev wsX1_code : List Cond := .code yX1_code cX1_code 1 (some .int) :: lw_big
theorem inX1t : ∀ w ∈ wsX10, w ∈ lw_tbl := by decide +kernel
theorem inX1g : ∀ w ∈ wsX10, goodWord w = true := by decide +kernel
theorem inX1 : ∀ w ∈ wsX10, w ∈ lw_big := fun w h => List.mem_filter.mpr ⟨inX1t w h, inX1g w h⟩
def RL : String := "GuestRunnerLaw"
abbrev vwCl : List vw_C := [(RX0, TX0, 15), (RX1, TX1, 19)]
theorem wd_0 : (.selects RX0 yX0_isInText yX0_isInText : Cond) ∈ lw_big := in_big (i := 0) (by decide +kernel) rfl
theorem wd_1 : (.selects RX0 yX0_stepOfTwo yX0_stepOfTwo : Cond) ∈ lw_big := in_big (i := 1) (by decide +kernel) rfl
theorem wd_2 : (.selects RX0 yX0_turnGoes yX0_turnGoes : Cond) ∈ lw_big := in_big (i := 2) (by decide +kernel) rfl
theorem wd_3 : (.selects RX0 yX0_aimOf yX0_aimOf : Cond) ∈ lw_big := in_big (i := 3) (by decide +kernel) rfl
theorem wd_4 : (.selects RX0 yX0_wordAt yX0_wordAt : Cond) ∈ lw_big := in_big (i := 4) (by decide +kernel) rfl
theorem wd_5 : (.selects RX0 yX0_isTextAddress yX0_isTextAddress : Cond) ∈ lw_big := in_big (i := 5) (by decide +kernel) rfl
theorem wd_6 : (.selects RX0 yX0_put yX0_put : Cond) ∈ lw_big := in_big (i := 6) (by decide +kernel) rfl
theorem wd_7 : (.selects RX0 yX0_perform yX0_perform : Cond) ∈ lw_big := in_big (i := 7) (by decide +kernel) rfl
theorem wd_8 : (.selects RX0 yX0_performFunction yX0_performFunction : Cond) ∈ lw_big := in_big (i := 8) (by decide +kernel) rfl
theorem wd_9 : (.selects RX0 yX0_performShift yX0_performShift : Cond) ∈ lw_big := in_big (i := 9) (by decide +kernel) rfl
theorem wd_10 : (.selects RX0 yX0_performSystem yX0_performSystem : Cond) ∈ lw_big := in_big (i := 10) (by decide +kernel) rfl
theorem wd_11 : (.selects RX0 yX0_readByte yX0_readByte : Cond) ∈ lw_big := in_big (i := 11) (by decide +kernel) rfl
theorem wd_12 : (.selects RX0 yX0_writeByte yX0_writeByte : Cond) ∈ lw_big := in_big (i := 12) (by decide +kernel) rfl
theorem wd_13 : (.selects RX0 yX0_performHiLo yX0_performHiLo : Cond) ∈ lw_big := in_big (i := 13) (by decide +kernel) rfl
theorem wd_14 : (.selects RX0 yX0_putProduct yX0_putProduct : Cond) ∈ lw_big := in_big (i := 14) (by decide +kernel) rfl
theorem wd_15 : (.selects RX0 yX0_divide yX0_divide : Cond) ∈ lw_big := in_big (i := 15) (by decide +kernel) rfl
theorem wd_16 : (.selects RX0 yX0_performArithmetic yX0_performArithmetic : Cond) ∈ lw_big := in_big (i := 16) (by decide +kernel) rfl
theorem wd_17 : (.selects RX0 yX0_putUnlessOverflow yX0_putUnlessOverflow : Cond) ∈ lw_big := in_big (i := 17) (by decide +kernel) rfl
theorem wd_18 : (.selects RX0 yX0_performImmediate yX0_performImmediate : Cond) ∈ lw_big := in_big (i := 18) (by decide +kernel) rfl
theorem wd_19 : (.selects RX0 yX0_performAccess yX0_performAccess : Cond) ∈ lw_big := in_big (i := 19) (by decide +kernel) rfl
theorem wd_20 : (.selects RX0 yX0_store yX0_store : Cond) ∈ lw_big := in_big (i := 20) (by decide +kernel) rfl
theorem wd_21 : (.selects RX0 yX0_load yX0_load : Cond) ∈ lw_big := in_big (i := 21) (by decide +kernel) rfl
theorem wd_22 : (.selects RX0 yX0_stepOfOne yX0_stepOfOne : Cond) ∈ lw_big := in_big (i := 22) (by decide +kernel) rfl
theorem wd_23 : (.selects RX1 yX1_two yX1_two : Cond) ∈ lw_big := in_big (i := 23) (by decide +kernel) rfl
theorem wd_24 : (.selects RX1 yX1_aim yX1_aim : Cond) ∈ lw_big := in_big (i := 24) (by decide +kernel) rfl
theorem wd_25 : (.selects RX1 yX1_isText yX1_isText : Cond) ∈ lw_big := in_big (i := 25) (by decide +kernel) rfl
theorem wd_26 : (.selects RX1 yX1_put yX1_put : Cond) ∈ lw_big := in_big (i := 26) (by decide +kernel) rfl
theorem wd_27 : (.selects RX1 yX1_atOnce yX1_atOnce : Cond) ∈ lw_big := in_big (i := 27) (by decide +kernel) rfl
theorem wd_28 : (.selects RX1 yX1_byFunction yX1_byFunction : Cond) ∈ lw_big := in_big (i := 28) (by decide +kernel) rfl
theorem wd_29 : (.selects RX1 yX1_shiftOf yX1_shiftOf : Cond) ∈ lw_big := in_big (i := 29) (by decide +kernel) rfl
theorem wd_30 : (.selects RX1 yX1_system yX1_system : Cond) ∈ lw_big := in_big (i := 30) (by decide +kernel) rfl
theorem wd_31 : (.selects RX1 yX1_halves yX1_halves : Cond) ∈ lw_big := in_big (i := 31) (by decide +kernel) rfl
theorem wd_32 : (.selects RX1 yX1_divide yX1_divide : Cond) ∈ lw_big := in_big (i := 32) (by decide +kernel) rfl
theorem wd_33 : (.selects RX1 yX1_divideBare yX1_divideBare : Cond) ∈ lw_big := in_big (i := 33) (by decide +kernel) rfl
theorem wd_34 : (.selects RX1 yX1_sum yX1_sum : Cond) ∈ lw_big := in_big (i := 34) (by decide +kernel) rfl
theorem wd_35 : (.selects RX1 yX1_load yX1_load : Cond) ∈ lw_big := in_big (i := 35) (by decide +kernel) rfl
theorem wd_36 : (.selects RX1 yX1_store yX1_store : Cond) ∈ lw_big := in_big (i := 36) (by decide +kernel) rfl
theorem wd_38 : (.initialized RX0 : Cond) ∈ lw_big := in_big (i := 38) (by decide +kernel) rfl
theorem wd_39 : (.initialized RX1 : Cond) ∈ lw_big := in_big (i := 39) (by decide +kernel) rfl
theorem wd_45 : (.methodLink RX0 1 objectInit : Cond) ∈ lw_big := in_big (i := 45) (by decide +kernel) rfl
theorem wd_46 : (.instanceMethod objectInit : Cond) ∈ lw_big := in_big (i := 46) (by decide +kernel) rfl
theorem wd_47 : (.code objectInit ⟨#[0xb1]⟩ 1 none : Cond) ∈ lw_big := in_big (i := 47) (rfl) rfl
theorem wd_48 : (.constant RX0 28 268435712 : Cond) ∈ lw_big := in_big (i := 48) (by decide +kernel) rfl
theorem wd_49 : (.fieldLink RX0 9 "GuestRunner" "draft" "[I" : Cond) ∈ lw_big := in_big (i := 49) (by decide +kernel) rfl
theorem wd_50 : (.fieldLink RX0 29 "GuestRunner" "draftCount" "I" : Cond) ∈ lw_big := in_big (i := 50) (by decide +kernel) rfl
theorem wd_51 : (.fieldLink RX0 13 "GuestRunner" "text" "[I" : Cond) ∈ lw_big := in_big (i := 51) (by decide +kernel) rfl
theorem wd_52 : (.fieldLink RX0 43 "GuestRunner" "textCount" "I" : Cond) ∈ lw_big := in_big (i := 52) (by decide +kernel) rfl
theorem wd_53 : (.fieldLink RX0 16 "GuestRunner" "registers" "[I" : Cond) ∈ lw_big := in_big (i := 53) (by decide +kernel) rfl
theorem wd_54 : (.fieldLink RX0 19 "GuestRunner" "memory" "[I" : Cond) ∈ lw_big := in_big (i := 54) (by decide +kernel) rfl
theorem wd_55 : (.fieldLink RX0 22 "GuestRunner" "tapeIn" "[I" : Cond) ∈ lw_big := in_big (i := 55) (by decide +kernel) rfl
theorem wd_56 : (.fieldLink RX0 37 "GuestRunner" "inCount" "I" : Cond) ∈ lw_big := in_big (i := 56) (by decide +kernel) rfl
theorem wd_57 : (.fieldLink RX0 46 "GuestRunner" "inRead" "I" : Cond) ∈ lw_big := in_big (i := 57) (by decide +kernel) rfl
theorem wd_58 : (.fieldLink RX0 25 "GuestRunner" "tapeOut" "[I" : Cond) ∈ lw_big := in_big (i := 58) (by decide +kernel) rfl
theorem wd_59 : (.fieldLink RX0 49 "GuestRunner" "outCount" "I" : Cond) ∈ lw_big := in_big (i := 59) (by decide +kernel) rfl
theorem wd_60 : (.fieldLink RX0 52 "GuestRunner" "pc" "I" : Cond) ∈ lw_big := in_big (i := 60) (by decide +kernel) rfl
theorem wd_61 : (.fieldLink RX0 55 "GuestRunner" "used" "I" : Cond) ∈ lw_big := in_big (i := 61) (by decide +kernel) rfl
theorem wd_62 : (.fieldLink RX0 58 "GuestRunner" "outcome" "I" : Cond) ∈ lw_big := in_big (i := 62) (by decide +kernel) rfl
theorem wd_63 : (.fieldLink RX0 61 "GuestRunner" "endCode" "I" : Cond) ∈ lw_big := in_big (i := 63) (by decide +kernel) rfl
theorem wd_95 : (.arrayClass .int : Cond) ∈ lw_big := in_big (i := 95) (by decide +kernel) rfl
theorem wd_108 : (.methodLink RX0 33 yX0_isByte : Cond) ∈ lw_big := in_big (i := 108) (by decide +kernel) rfl
theorem wd_109 : (.static yX0_isByte : Cond) ∈ lw_big := in_big (i := 109) (by decide +kernel) rfl
theorem wd_110 : (.code yX0_isByte cX0_isByte 1 (some .boolean) : Cond) ∈ lw_big := in_big (i := 110) (rfl) rfl
theorem wd_115 : (.methodLink RX0 40 yX0_isDataIndex : Cond) ∈ lw_big := in_big (i := 115) (by decide +kernel) rfl
theorem wd_116 : (.static yX0_isDataIndex : Cond) ∈ lw_big := in_big (i := 116) (by decide +kernel) rfl
theorem wd_117 : (.code yX0_isDataIndex cX0_isDataIndex 1 (some .boolean) : Cond) ∈ lw_big := in_big (i := 117) (rfl) rfl
theorem wd_126 : (.methodLink RX0 64 yX0_isInText : Cond) ∈ lw_big := in_big (i := 126) (by decide +kernel) rfl
theorem wd_128 : (.instanceMethod yX0_isInText : Cond) ∈ lw_big := in_big (i := 128) (by decide +kernel) rfl
theorem wd_129 : (.code yX0_isInText cX0_isInText 2 (some .boolean) : Cond) ∈ lw_big := in_big (i := 129) (rfl) rfl
theorem wd_130 : (.methodLink RX0 67 yX0_isTurn : Cond) ∈ lw_big := in_big (i := 130) (by decide +kernel) rfl
theorem wd_131 : (.static yX0_isTurn : Cond) ∈ lw_big := in_big (i := 131) (by decide +kernel) rfl
theorem wd_132 : (.code yX0_isTurn cX0_isTurn 3 (some .boolean) : Cond) ∈ lw_big := in_big (i := 132) (rfl) rfl
theorem wd_133 : (.methodLink RX0 78 yX0_opOf : Cond) ∈ lw_big := in_big (i := 133) (by decide +kernel) rfl
theorem wd_134 : (.static yX0_opOf : Cond) ∈ lw_big := in_big (i := 134) (by decide +kernel) rfl
theorem wd_135 : (.code yX0_opOf cX0_opOf 1 (some .int) : Cond) ∈ lw_big := in_big (i := 135) (rfl) rfl
theorem wd_136 : (.methodLink RX0 81 yX0_fOf : Cond) ∈ lw_big := in_big (i := 136) (by decide +kernel) rfl
theorem wd_137 : (.static yX0_fOf : Cond) ∈ lw_big := in_big (i := 137) (by decide +kernel) rfl
theorem wd_138 : (.code yX0_fOf cX0_fOf 1 (some .int) : Cond) ∈ lw_big := in_big (i := 138) (rfl) rfl
theorem wd_139 : (.methodLink RX0 84 yX0_tOf : Cond) ∈ lw_big := in_big (i := 139) (by decide +kernel) rfl
theorem wd_140 : (.static yX0_tOf : Cond) ∈ lw_big := in_big (i := 140) (by decide +kernel) rfl
theorem wd_141 : (.code yX0_tOf cX0_tOf 1 (some .int) : Cond) ∈ lw_big := in_big (i := 141) (rfl) rfl
theorem wd_142 : (.methodLink RX0 70 yX0_stepOfTwo : Cond) ∈ lw_big := in_big (i := 142) (by decide +kernel) rfl
theorem wd_144 : (.instanceMethod yX0_stepOfTwo : Cond) ∈ lw_big := in_big (i := 144) (by decide +kernel) rfl
theorem wd_145 : (.code yX0_stepOfTwo cX0_stepOfTwo 9 (some .int) : Cond) ∈ lw_big := in_big (i := 145) (rfl) rfl
theorem wd_146 : (.methodLink RX0 90 yX0_isBarredFromSlots : Cond) ∈ lw_big := in_big (i := 146) (by decide +kernel) rfl
theorem wd_147 : (.static yX0_isBarredFromSlots : Cond) ∈ lw_big := in_big (i := 147) (by decide +kernel) rfl
theorem wd_148 : (.code yX0_isBarredFromSlots cX0_isBarredFromSlots 2 (some .boolean) : Cond) ∈ lw_big := in_big (i := 148) (rfl) rfl
theorem wd_149 : (.methodLink RX0 93 yX0_turnGoes : Cond) ∈ lw_big := in_big (i := 149) (by decide +kernel) rfl
theorem wd_151 : (.instanceMethod yX0_turnGoes : Cond) ∈ lw_big := in_big (i := 151) (by decide +kernel) rfl
theorem wd_152 : (.code yX0_turnGoes cX0_turnGoes 4 (some .boolean) : Cond) ∈ lw_big := in_big (i := 152) (rfl) rfl
theorem wd_153 : (.methodLink RX0 109 yX0_sOf : Cond) ∈ lw_big := in_big (i := 153) (by decide +kernel) rfl
theorem wd_154 : (.static yX0_sOf : Cond) ∈ lw_big := in_big (i := 154) (by decide +kernel) rfl
theorem wd_155 : (.code yX0_sOf cX0_sOf 1 (some .int) : Cond) ∈ lw_big := in_big (i := 155) (rfl) rfl
theorem wd_156 : (.methodLink RX0 96 yX0_aimOf : Cond) ∈ lw_big := in_big (i := 156) (by decide +kernel) rfl
theorem wd_158 : (.instanceMethod yX0_aimOf : Cond) ∈ lw_big := in_big (i := 158) (by decide +kernel) rfl
theorem wd_159 : (.code yX0_aimOf cX0_aimOf 3 (some .int) : Cond) ∈ lw_big := in_big (i := 159) (rfl) rfl
theorem wd_160 : (.methodLink RX0 112 yX0_wordAt : Cond) ∈ lw_big := in_big (i := 160) (by decide +kernel) rfl
theorem wd_162 : (.instanceMethod yX0_wordAt : Cond) ∈ lw_big := in_big (i := 162) (by decide +kernel) rfl
theorem wd_163 : (.code yX0_wordAt cX0_wordAt 2 (some .int) : Cond) ∈ lw_big := in_big (i := 163) (rfl) rfl
theorem wd_164 : (.methodLink RX0 177 yX0_isTextAddress : Cond) ∈ lw_big := in_big (i := 164) (by decide +kernel) rfl
theorem wd_166 : (.instanceMethod yX0_isTextAddress : Cond) ∈ lw_big := in_big (i := 166) (by decide +kernel) rfl
theorem wd_167 : (.code yX0_isTextAddress cX0_isTextAddress 3 (some .boolean) : Cond) ∈ lw_big := in_big (i := 167) (rfl) rfl
theorem wd_168 : (.constant RX0 190 4194304 : Cond) ∈ lw_big := in_big (i := 168) (by decide +kernel) rfl
theorem wd_169 : (.methodLink RX0 102 yX0_addressOf : Cond) ∈ lw_big := in_big (i := 169) (by decide +kernel) rfl
theorem wd_170 : (.static yX0_addressOf : Cond) ∈ lw_big := in_big (i := 170) (by decide +kernel) rfl
theorem wd_171 : (.code yX0_addressOf cX0_addressOf 1 (some .int) : Cond) ∈ lw_big := in_big (i := 171) (rfl) rfl
theorem wd_172 : (.constant RX0 115 (-268435456) : Cond) ∈ lw_big := in_big (i := 172) (by decide +kernel) rfl
theorem wd_173 : (.constant RX0 116 67108863 : Cond) ∈ lw_big := in_big (i := 173) (by decide +kernel) rfl
theorem wd_174 : (.methodLink RX0 117 yX0_signedImmediate : Cond) ∈ lw_big := in_big (i := 174) (by decide +kernel) rfl
theorem wd_175 : (.static yX0_signedImmediate : Cond) ∈ lw_big := in_big (i := 175) (by decide +kernel) rfl
theorem wd_176 : (.code yX0_signedImmediate cX0_signedImmediate 1 (some .int) : Cond) ∈ lw_big := in_big (i := 176) (rfl) rfl
theorem wd_177 : (.methodLink RX0 99 yX0_linkRegisterOf : Cond) ∈ lw_big := in_big (i := 177) (by decide +kernel) rfl
theorem wd_178 : (.static yX0_linkRegisterOf : Cond) ∈ lw_big := in_big (i := 178) (by decide +kernel) rfl
theorem wd_179 : (.code yX0_linkRegisterOf cX0_linkRegisterOf 1 (some .int) : Cond) ∈ lw_big := in_big (i := 179) (rfl) rfl
theorem wd_180 : (.methodLink RX0 120 yX0_dOf : Cond) ∈ lw_big := in_big (i := 180) (by decide +kernel) rfl
theorem wd_181 : (.static yX0_dOf : Cond) ∈ lw_big := in_big (i := 181) (by decide +kernel) rfl
theorem wd_182 : (.code yX0_dOf cX0_dOf 1 (some .int) : Cond) ∈ lw_big := in_big (i := 182) (rfl) rfl
theorem wd_183 : (.methodLink RX0 105 yX0_put : Cond) ∈ lw_big := in_big (i := 183) (by decide +kernel) rfl
theorem wd_185 : (.instanceMethod yX0_put : Cond) ∈ lw_big := in_big (i := 185) (by decide +kernel) rfl
theorem wd_186 : (.code yX0_put cX0_put 3 (some .int) : Cond) ∈ lw_big := in_big (i := 186) (rfl) rfl
theorem wd_187 : (.methodLink RX0 87 yX0_perform : Cond) ∈ lw_big := in_big (i := 187) (by decide +kernel) rfl
theorem wd_189 : (.instanceMethod yX0_perform : Cond) ∈ lw_big := in_big (i := 189) (by decide +kernel) rfl
theorem wd_190 : (.code yX0_perform cX0_perform 3 (some .int) : Cond) ∈ lw_big := in_big (i := 190) (rfl) rfl
theorem wd_191 : (.methodLink RX0 123 yX0_performFunction : Cond) ∈ lw_big := in_big (i := 191) (by decide +kernel) rfl
theorem wd_193 : (.instanceMethod yX0_performFunction : Cond) ∈ lw_big := in_big (i := 193) (by decide +kernel) rfl
theorem wd_194 : (.code yX0_performFunction cX0_performFunction 3 (some .int) : Cond) ∈ lw_big := in_big (i := 194) (rfl) rfl
theorem wd_195 : (.methodLink RX0 132 yX0_performShift : Cond) ∈ lw_big := in_big (i := 195) (by decide +kernel) rfl
theorem wd_197 : (.instanceMethod yX0_performShift : Cond) ∈ lw_big := in_big (i := 197) (by decide +kernel) rfl
theorem wd_198 : (.code yX0_performShift cX0_performShift 6 (some .int) : Cond) ∈ lw_big := in_big (i := 198) (rfl) rfl
theorem wd_199 : (.methodLink RX0 145 yX0_hOf : Cond) ∈ lw_big := in_big (i := 199) (by decide +kernel) rfl
theorem wd_200 : (.static yX0_hOf : Cond) ∈ lw_big := in_big (i := 200) (by decide +kernel) rfl
theorem wd_201 : (.code yX0_hOf cX0_hOf 1 (some .int) : Cond) ∈ lw_big := in_big (i := 201) (rfl) rfl
theorem wd_202 : (.methodLink RX0 135 yX0_performSystem : Cond) ∈ lw_big := in_big (i := 202) (by decide +kernel) rfl
theorem wd_204 : (.instanceMethod yX0_performSystem : Cond) ∈ lw_big := in_big (i := 204) (by decide +kernel) rfl
theorem wd_205 : (.code yX0_performSystem cX0_performSystem 1 (some .int) : Cond) ∈ lw_big := in_big (i := 205) (rfl) rfl
theorem wd_206 : (.methodLink RX0 167 yX0_readByte : Cond) ∈ lw_big := in_big (i := 206) (by decide +kernel) rfl
theorem wd_208 : (.instanceMethod yX0_readByte : Cond) ∈ lw_big := in_big (i := 208) (by decide +kernel) rfl
theorem wd_209 : (.code yX0_readByte cX0_readByte 2 (some .int) : Cond) ∈ lw_big := in_big (i := 209) (rfl) rfl
theorem wd_210 : (.methodLink RX0 170 yX0_writeByte : Cond) ∈ lw_big := in_big (i := 210) (by decide +kernel) rfl
theorem wd_212 : (.instanceMethod yX0_writeByte : Cond) ∈ lw_big := in_big (i := 212) (by decide +kernel) rfl
theorem wd_213 : (.code yX0_writeByte cX0_writeByte 1 (some .int) : Cond) ∈ lw_big := in_big (i := 213) (rfl) rfl
theorem wd_214 : (.methodLink RX0 139 yX0_performHiLo : Cond) ∈ lw_big := in_big (i := 214) (by decide +kernel) rfl
theorem wd_216 : (.instanceMethod yX0_performHiLo : Cond) ∈ lw_big := in_big (i := 216) (by decide +kernel) rfl
theorem wd_217 : (.code yX0_performHiLo cX0_performHiLo 4 (some .int) : Cond) ∈ lw_big := in_big (i := 217) (rfl) rfl
theorem wd_218 : (.methodLink RX0 148 yX0_putProduct : Cond) ∈ lw_big := in_big (i := 218) (by decide +kernel) rfl
theorem wd_220 : (.instanceMethod yX0_putProduct : Cond) ∈ lw_big := in_big (i := 220) (by decide +kernel) rfl
theorem wd_221 : (.code yX0_putProduct cX0_putProduct 3 (some .int) : Cond) ∈ lw_big := in_big (i := 221) (rfl) rfl
theorem wd_222 : (.methodLink RX0 152 yX0_unsigned : Cond) ∈ lw_big := in_big (i := 222) (by decide +kernel) rfl
theorem wd_223 : (.static yX0_unsigned : Cond) ∈ lw_big := in_big (i := 223) (by decide +kernel) rfl
theorem wd_224 : (.code yX0_unsigned cX0_unsigned 1 (some .long) : Cond) ∈ lw_big := in_big (i := 224) (rfl) rfl
theorem wd_225 : (.constantLong RX0 188 4294967295 : Cond) ∈ lw_big := in_big (i := 225) (by decide +kernel) rfl
theorem wd_226 : (.methodLink RX0 156 yX0_divide : Cond) ∈ lw_big := in_big (i := 226) (by decide +kernel) rfl
theorem wd_228 : (.instanceMethod yX0_divide : Cond) ∈ lw_big := in_big (i := 228) (by decide +kernel) rfl
theorem wd_229 : (.code yX0_divide cX0_divide 5 (some .int) : Cond) ∈ lw_big := in_big (i := 229) (rfl) rfl
theorem wd_230 : (.methodLink RX0 142 yX0_performArithmetic : Cond) ∈ lw_big := in_big (i := 230) (by decide +kernel) rfl
theorem wd_232 : (.instanceMethod yX0_performArithmetic : Cond) ∈ lw_big := in_big (i := 232) (by decide +kernel) rfl
theorem wd_233 : (.code yX0_performArithmetic cX0_performArithmetic 5 (some .int) : Cond) ∈ lw_big := in_big (i := 233) (rfl) rfl
theorem wd_234 : (.methodLink RX0 160 yX0_putUnlessOverflow : Cond) ∈ lw_big := in_big (i := 234) (by decide +kernel) rfl
theorem wd_236 : (.instanceMethod yX0_putUnlessOverflow : Cond) ∈ lw_big := in_big (i := 236) (by decide +kernel) rfl
theorem wd_237 : (.code yX0_putUnlessOverflow cX0_putUnlessOverflow 4 (some .int) : Cond) ∈ lw_big := in_big (i := 237) (rfl) rfl
theorem wd_238 : (.methodLink RX0 126 yX0_performImmediate : Cond) ∈ lw_big := in_big (i := 238) (by decide +kernel) rfl
theorem wd_240 : (.instanceMethod yX0_performImmediate : Cond) ∈ lw_big := in_big (i := 240) (by decide +kernel) rfl
theorem wd_241 : (.code yX0_performImmediate cX0_performImmediate 6 (some .int) : Cond) ∈ lw_big := in_big (i := 241) (rfl) rfl
theorem wd_242 : (.methodLink RX0 164 yX0_plainImmediate : Cond) ∈ lw_big := in_big (i := 242) (by decide +kernel) rfl
theorem wd_243 : (.static yX0_plainImmediate : Cond) ∈ lw_big := in_big (i := 243) (by decide +kernel) rfl
theorem wd_244 : (.code yX0_plainImmediate cX0_plainImmediate 1 (some .int) : Cond) ∈ lw_big := in_big (i := 244) (rfl) rfl
theorem wd_245 : (.constant RX0 77 65535 : Cond) ∈ lw_big := in_big (i := 245) (by decide +kernel) rfl
theorem wd_246 : (.methodLink RX0 129 yX0_performAccess : Cond) ∈ lw_big := in_big (i := 246) (by decide +kernel) rfl
theorem wd_248 : (.instanceMethod yX0_performAccess : Cond) ∈ lw_big := in_big (i := 248) (by decide +kernel) rfl
theorem wd_249 : (.code yX0_performAccess cX0_performAccess 8 (some .int) : Cond) ∈ lw_big := in_big (i := 249) (rfl) rfl
theorem wd_250 : (.methodLink RX0 173 yX0_bytesOfAccess : Cond) ∈ lw_big := in_big (i := 250) (by decide +kernel) rfl
theorem wd_251 : (.static yX0_bytesOfAccess : Cond) ∈ lw_big := in_big (i := 251) (by decide +kernel) rfl
theorem wd_252 : (.code yX0_bytesOfAccess cX0_bytesOfAccess 1 (some .int) : Cond) ∈ lw_big := in_big (i := 252) (rfl) rfl
theorem wd_253 : (.constant RX0 176 268435456 : Cond) ∈ lw_big := in_big (i := 253) (by decide +kernel) rfl
theorem wd_254 : (.methodLink RX0 180 yX0_store : Cond) ∈ lw_big := in_big (i := 254) (by decide +kernel) rfl
theorem wd_256 : (.instanceMethod yX0_store : Cond) ∈ lw_big := in_big (i := 256) (by decide +kernel) rfl
theorem wd_257 : (.code yX0_store cX0_store 6 (some .int) : Cond) ∈ lw_big := in_big (i := 257) (rfl) rfl
theorem wd_258 : (.methodLink RX0 184 yX0_load : Cond) ∈ lw_big := in_big (i := 258) (by decide +kernel) rfl
theorem wd_260 : (.instanceMethod yX0_load : Cond) ∈ lw_big := in_big (i := 260) (by decide +kernel) rfl
theorem wd_261 : (.code yX0_load cX0_load 6 (some .int) : Cond) ∈ lw_big := in_big (i := 261) (rfl) rfl
theorem wd_262 : (.methodLink RX0 74 yX0_stepOfOne : Cond) ∈ lw_big := in_big (i := 262) (by decide +kernel) rfl
theorem wd_264 : (.instanceMethod yX0_stepOfOne : Cond) ∈ lw_big := in_big (i := 264) (by decide +kernel) rfl
theorem wd_265 : (.code yX0_stepOfOne cX0_stepOfOne 3 (some .int) : Cond) ∈ lw_big := in_big (i := 265) (rfl) rfl
theorem wd_291 : (.methodLink RX1 1 objectInit : Cond) ∈ lw_big := in_big (i := 291) (by decide +kernel) rfl
theorem wd_292 : (.constant RX1 28 268435712 : Cond) ∈ lw_big := in_big (i := 292) (by decide +kernel) rfl
theorem wd_293 : (.fieldLink RX1 7 "GuestRunnerModel" "typed" "[I" : Cond) ∈ lw_big := in_big (i := 293) (by decide +kernel) rfl
theorem wd_294 : (.fieldLink RX1 29 "GuestRunnerModel" "typedSize" "I" : Cond) ∈ lw_big := in_big (i := 294) (by decide +kernel) rfl
theorem wd_295 : (.fieldLink RX1 13 "GuestRunnerModel" "text" "[I" : Cond) ∈ lw_big := in_big (i := 295) (by decide +kernel) rfl
theorem wd_296 : (.fieldLink RX1 36 "GuestRunnerModel" "size" "I" : Cond) ∈ lw_big := in_big (i := 296) (by decide +kernel) rfl
theorem wd_297 : (.fieldLink RX1 16 "GuestRunnerModel" "byteAt" "[I" : Cond) ∈ lw_big := in_big (i := 297) (by decide +kernel) rfl
theorem wd_298 : (.fieldLink RX1 19 "GuestRunnerModel" "in" "[I" : Cond) ∈ lw_big := in_big (i := 298) (by decide +kernel) rfl
theorem wd_299 : (.fieldLink RX1 33 "GuestRunnerModel" "inSize" "I" : Cond) ∈ lw_big := in_big (i := 299) (by decide +kernel) rfl
theorem wd_300 : (.fieldLink RX1 42 "GuestRunnerModel" "inAt" "I" : Cond) ∈ lw_big := in_big (i := 300) (by decide +kernel) rfl
theorem wd_301 : (.fieldLink RX1 22 "GuestRunnerModel" "out" "[I" : Cond) ∈ lw_big := in_big (i := 301) (by decide +kernel) rfl
theorem wd_302 : (.fieldLink RX1 45 "GuestRunnerModel" "outSize" "I" : Cond) ∈ lw_big := in_big (i := 302) (by decide +kernel) rfl
theorem wd_303 : (.fieldLink RX1 25 "GuestRunnerModel" "reg" "[I" : Cond) ∈ lw_big := in_big (i := 303) (by decide +kernel) rfl
theorem wd_304 : (.fieldLink RX1 39 "GuestRunnerModel" "pc" "I" : Cond) ∈ lw_big := in_big (i := 304) (by decide +kernel) rfl
theorem wd_305 : (.fieldLink RX1 48 "GuestRunnerModel" "used" "I" : Cond) ∈ lw_big := in_big (i := 305) (by decide +kernel) rfl
theorem wd_306 : (.fieldLink RX1 51 "GuestRunnerModel" "ended" "Z" : Cond) ∈ lw_big := in_big (i := 306) (by decide +kernel) rfl
theorem wd_307 : (.fieldLink RX1 55 "GuestRunnerModel" "trap" "I" : Cond) ∈ lw_big := in_big (i := 307) (by decide +kernel) rfl
theorem wd_308 : (.fieldLink RX1 58 "GuestRunnerModel" "exit" "I" : Cond) ∈ lw_big := in_big (i := 308) (by decide +kernel) rfl
theorem wd_309 : (.fieldLink RX1 71 "GuestRunnerModel" "goes" "Z" : Cond) ∈ lw_big := in_big (i := 309) (by decide +kernel) rfl
theorem wd_310 : (.fieldLink RX1 81 "GuestRunnerModel" "goal" "I" : Cond) ∈ lw_big := in_big (i := 310) (by decide +kernel) rfl
theorem wd_311 : (.fieldLink RX1 74 "GuestRunnerModel" "link" "I" : Cond) ∈ lw_big := in_big (i := 311) (by decide +kernel) rfl
theorem wd_375 : (.methodLink RX1 134 yX1_leads : Cond) ∈ lw_big := in_big (i := 375) (by decide +kernel) rfl
theorem wd_376 : (.static yX1_leads : Cond) ∈ lw_big := in_big (i := 376) (by decide +kernel) rfl
theorem wd_377 : (.code yX1_leads cX1_leads 4 (some .boolean) : Cond) ∈ lw_big := in_big (i := 377) (rfl) rfl
theorem wd_378 : (.methodLink RX1 61 yX1_op : Cond) ∈ lw_big := in_big (i := 378) (by decide +kernel) rfl
theorem wd_379 : (.static yX1_op : Cond) ∈ lw_big := in_big (i := 379) (by decide +kernel) rfl
theorem wd_380 : (.code yX1_op cX1_op 1 (some .int) : Cond) ∈ lw_big := in_big (i := 380) (rfl) rfl
theorem wd_381 : (.methodLink RX1 65 yX1_second : Cond) ∈ lw_big := in_big (i := 381) (by decide +kernel) rfl
theorem wd_382 : (.static yX1_second : Cond) ∈ lw_big := in_big (i := 382) (by decide +kernel) rfl
theorem wd_383 : (.code yX1_second cX1_second 1 (some .int) : Cond) ∈ lw_big := in_big (i := 383) (rfl) rfl
theorem wd_384 : (.methodLink RX1 147 yX1_two : Cond) ∈ lw_big := in_big (i := 384) (by decide +kernel) rfl
theorem wd_386 : (.instanceMethod yX1_two : Cond) ∈ lw_big := in_big (i := 386) (by decide +kernel) rfl
theorem wd_387 : (.code yX1_two cX1_two 5 (some .int) : Cond) ∈ lw_big := in_big (i := 387) (rfl) rfl
theorem wd_388 : (.methodLink RX1 137 yX1_calls : Cond) ∈ lw_big := in_big (i := 388) (by decide +kernel) rfl
theorem wd_389 : (.static yX1_calls : Cond) ∈ lw_big := in_big (i := 389) (by decide +kernel) rfl
theorem wd_390 : (.code yX1_calls cX1_calls 1 (some .boolean) : Cond) ∈ lw_big := in_big (i := 390) (rfl) rfl
theorem wd_391 : (.methodLink RX1 140 yX1_aim : Cond) ∈ lw_big := in_big (i := 391) (by decide +kernel) rfl
theorem wd_393 : (.instanceMethod yX1_aim : Cond) ∈ lw_big := in_big (i := 393) (by decide +kernel) rfl
theorem wd_394 : (.code yX1_aim cX1_aim 5 (none) : Cond) ∈ lw_big := in_big (i := 394) (rfl) rfl
theorem wd_395 : (.methodLink RX1 68 yX1_first : Cond) ∈ lw_big := in_big (i := 395) (by decide +kernel) rfl
theorem wd_396 : (.static yX1_first : Cond) ∈ lw_big := in_big (i := 396) (by decide +kernel) rfl
theorem wd_397 : (.code yX1_first cX1_first 1 (some .int) : Cond) ∈ lw_big := in_big (i := 397) (rfl) rfl
theorem wd_398 : (.constant RX1 77 4194304 : Cond) ∈ lw_big := in_big (i := 398) (by decide +kernel) rfl
theorem wd_399 : (.methodLink RX1 78 yX1_signed : Cond) ∈ lw_big := in_big (i := 399) (by decide +kernel) rfl
theorem wd_400 : (.static yX1_signed : Cond) ∈ lw_big := in_big (i := 400) (by decide +kernel) rfl
theorem wd_401 : (.code yX1_signed cX1_signed 1 (some .int) : Cond) ∈ lw_big := in_big (i := 401) (rfl) rfl
theorem wd_402 : (.methodLink RX1 84 yX1_third : Cond) ∈ lw_big := in_big (i := 402) (by decide +kernel) rfl
theorem wd_403 : (.static yX1_third : Cond) ∈ lw_big := in_big (i := 403) (by decide +kernel) rfl
theorem wd_404 : (.code yX1_third cX1_third 1 (some .int) : Cond) ∈ lw_big := in_big (i := 404) (rfl) rfl
theorem wd_405 : (.constant RX1 87 (-268435456) : Cond) ∈ lw_big := in_big (i := 405) (by decide +kernel) rfl
theorem wd_406 : (.constant RX1 88 67108863 : Cond) ∈ lw_big := in_big (i := 406) (by decide +kernel) rfl
theorem wd_407 : (.methodLink RX1 130 yX1_isText : Cond) ∈ lw_big := in_big (i := 407) (by decide +kernel) rfl
theorem wd_409 : (.instanceMethod yX1_isText : Cond) ∈ lw_big := in_big (i := 409) (by decide +kernel) rfl
theorem wd_410 : (.code yX1_isText cX1_isText 2 (some .boolean) : Cond) ∈ lw_big := in_big (i := 410) (rfl) rfl
theorem wd_411 : (.methodLink RX1 93 yX1_put : Cond) ∈ lw_big := in_big (i := 411) (by decide +kernel) rfl
theorem wd_413 : (.instanceMethod yX1_put : Cond) ∈ lw_big := in_big (i := 413) (by decide +kernel) rfl
theorem wd_414 : (.code yX1_put cX1_put 3 (none) : Cond) ∈ lw_big := in_big (i := 414) (rfl) rfl
theorem wd_415 : (.methodLink RX1 144 yX1_atOnce : Cond) ∈ lw_big := in_big (i := 415) (by decide +kernel) rfl
theorem wd_417 : (.instanceMethod yX1_atOnce : Cond) ∈ lw_big := in_big (i := 417) (by decide +kernel) rfl
theorem wd_418 : (.code yX1_atOnce cX1_atOnce 6 (some .int) : Cond) ∈ lw_big := in_big (i := 418) (rfl) rfl
theorem wd_419 : (.constant RX1 117 65535 : Cond) ∈ lw_big := in_big (i := 419) (by decide +kernel) rfl
theorem wd_420 : (.methodLink RX1 118 yX1_byFunction : Cond) ∈ lw_big := in_big (i := 420) (by decide +kernel) rfl
theorem wd_422 : (.instanceMethod yX1_byFunction : Cond) ∈ lw_big := in_big (i := 422) (by decide +kernel) rfl
theorem wd_423 : (.code yX1_byFunction cX1_byFunction 6 (some .int) : Cond) ∈ lw_big := in_big (i := 423) (rfl) rfl
theorem wd_424 : (.methodLink RX1 89 yX1_shiftOf : Cond) ∈ lw_big := in_big (i := 424) (by decide +kernel) rfl
theorem wd_426 : (.instanceMethod yX1_shiftOf : Cond) ∈ lw_big := in_big (i := 426) (by decide +kernel) rfl
theorem wd_427 : (.code yX1_shiftOf cX1_shiftOf 4 (some .int) : Cond) ∈ lw_big := in_big (i := 427) (rfl) rfl
theorem wd_428 : (.methodLink RX1 97 yX1_system : Cond) ∈ lw_big := in_big (i := 428) (by decide +kernel) rfl
theorem wd_430 : (.instanceMethod yX1_system : Cond) ∈ lw_big := in_big (i := 430) (by decide +kernel) rfl
theorem wd_431 : (.code yX1_system cX1_system 1 (some .int) : Cond) ∈ lw_big := in_big (i := 431) (rfl) rfl
theorem wd_432 : (.methodLink RX1 101 yX1_halves : Cond) ∈ lw_big := in_big (i := 432) (by decide +kernel) rfl
theorem wd_434 : (.instanceMethod yX1_halves : Cond) ∈ lw_big := in_big (i := 434) (by decide +kernel) rfl
theorem wd_435 : (.code yX1_halves cX1_halves 3 (none) : Cond) ∈ lw_big := in_big (i := 435) (rfl) rfl
theorem wd_436 : (.constantLong RX1 105 4294967295 : Cond) ∈ lw_big := in_big (i := 436) (by decide +kernel) rfl
theorem wd_437 : (.methodLink RX1 107 yX1_divide : Cond) ∈ lw_big := in_big (i := 437) (by decide +kernel) rfl
theorem wd_439 : (.instanceMethod yX1_divide : Cond) ∈ lw_big := in_big (i := 439) (by decide +kernel) rfl
theorem wd_440 : (.code yX1_divide cX1_divide 5 (none) : Cond) ∈ lw_big := in_big (i := 440) (rfl) rfl
theorem wd_441 : (.methodLink RX1 110 yX1_divideBare : Cond) ∈ lw_big := in_big (i := 441) (by decide +kernel) rfl
theorem wd_443 : (.instanceMethod yX1_divideBare : Cond) ∈ lw_big := in_big (i := 443) (by decide +kernel) rfl
theorem wd_444 : (.code yX1_divideBare cX1_divideBare 7 (none) : Cond) ∈ lw_big := in_big (i := 444) (rfl) rfl
theorem wd_445 : (.methodLink RX1 113 yX1_sum : Cond) ∈ lw_big := in_big (i := 445) (by decide +kernel) rfl
theorem wd_447 : (.instanceMethod yX1_sum : Cond) ∈ lw_big := in_big (i := 447) (by decide +kernel) rfl
theorem wd_448 : (.code yX1_sum cX1_sum 4 (some .int) : Cond) ∈ lw_big := in_big (i := 448) (rfl) rfl
theorem wd_449 : (.methodLink RX1 121 yX1_load : Cond) ∈ lw_big := in_big (i := 449) (by decide +kernel) rfl
theorem wd_451 : (.instanceMethod yX1_load : Cond) ∈ lw_big := in_big (i := 451) (by decide +kernel) rfl
theorem wd_452 : (.code yX1_load cX1_load 7 (some .int) : Cond) ∈ lw_big := in_big (i := 452) (rfl) rfl
theorem wd_453 : (.constant RX1 128 268435456 : Cond) ∈ lw_big := in_big (i := 453) (by decide +kernel) rfl
theorem wd_454 : (.constant RX1 129 268435711 : Cond) ∈ lw_big := in_big (i := 454) (by decide +kernel) rfl
theorem wd_455 : (.methodLink RX1 125 yX1_store : Cond) ∈ lw_big := in_big (i := 455) (by decide +kernel) rfl
theorem wd_457 : (.instanceMethod yX1_store : Cond) ∈ lw_big := in_big (i := 457) (by decide +kernel) rfl
theorem wd_458 : (.code yX1_store cX1_store 5 (some .int) : Cond) ∈ lw_big := in_big (i := 458) (rfl) rfl
end
section
-- contracts of methods over one object's state (any type S, cells w), and of static methods: heads, ends, calls
def jushr (x y : Int32) : Int32 := (x.toUInt32 >>> (y.toUInt32 &&& Int32.toUInt32 31)).toInt32
def jlushr (x : Int64) (y : Int32) : Int64 := (x.toUInt64 >>> (y.toInt64.toUInt64 &&& Int64.toUInt64 63)).toInt64
abbrev oQ {S : Type} (D : va_G) (cl : List vw_C) (w : S → va_W) (tys : List (ClassId × FieldType)) (A : Nat → Prop) (res : Int32 × S) : Array Value → State → Outcome → State → Prop :=
  va_Qi (fun (r : Int32) (u : S) => (r, u) = res) (fun u t => va_P D cl (w u) t.heap ∧ va_K D cl tys t ∧ va_D A (w u)) A
abbrev oPc {S : Type} (D : va_G) (cl : List vw_C) (w : S → va_W) (tys : List (ClassId × FieldType)) (b sz : Nat) (σ : S) (As : List Value) : Array Value → State → Prop :=
  va_Pc (.ref b :: As) (fun U => U.heap.size = sz ∧ va_P D cl (w σ) U.heap ∧ va_K D cl tys U ∧ va_D (fun _ => True) (w σ))
abbrev oMet {S : Type} (l : Launch) (D : va_G) (cl : List vw_C) (w : S → va_W) (tys : List (ClassId × FieldType)) (b sz : Nat) (y : MethodName) (ws : List Cond) (rm : Room) (σ : S) (As : List Value) (res : Int32 × S) : Prop :=
  Met l y ws rm (oPc D cl w tys b sz σ As) (oQ D cl w tys (va_A (w σ) sz) res) 0 0 (va_A (w σ) sz)
abbrev sQ (v : Int32) : Array Value → State → Outcome → State → Prop := va_Qi (fun (r : Int32) (_ : Unit) => r = v) (fun _ _ => True) (fun _ => False)
abbrev sQL (v : Int64) : Array Value → State → Outcome → State → Prop := va_Ql (fun (r : Int64) (_ : Unit) => r = v) (fun _ _ => True) (fun _ => False)
abbrev sMet (l : Launch) (y : MethodName) (ws : List Cond) (rm : Room) (As : List Value) (v : Int32) : Prop := Met l y ws rm (va_Pc As (fun _ => True)) (sQ v) 0 0 (fun _ => False)
abbrev sMetL (l : Launch) (y : MethodName) (ws : List Cond) (rm : Room) (As : List Value) (v : Int64) : Prop := Met l y ws rm (va_Pc As (fun _ => True)) (sQL v) 0 0 (fun _ => False)
theorem o_met {l : Launch} {S : Type} {D : va_G} {cl : List vw_C} {w : S → va_W} {tys : List (ClassId × FieldType)} {b sz : Nat} {y : MethodName} {ws ws' : List Cond} {rm : Room} {cc : ByteArray} {maxL : Nat} {ret : Option FieldType} {σ : S} {As : List Value} {res : Int32 × S}
    (hy : plainName y.cls = true) (hw : ws = Cond.code y cc maxL ret :: ws') (hn : (lg_sl (.ref b :: As)).length ≤ maxL)
    (body : ∀ (p : Program) (e : Env) (s : State) (m : MethodId) (args : Array Value) (below : List Frame) (meth : Method) (c : Code) (A : Nat → Prop) (ls : Array Slot), p.tables.exec = Jvm.exec → c.code = cc → meth.sig.returnType = ret → c.maxLocals = maxL → (∀ w ∈ ws, w.before args s = true) → s.vm.findClass y.cls = some m.cls → meth.locks = false → va_P D cl (w σ) s.heap → va_K D cl tys s → va_D A (w σ) → (∀ q : Nat, s.heap.size ≤ q → A q) → va_S A s.heap s.heap [] → lv_has ls maxL (lv_args 0 (.ref b :: As)) →
      W p l e rm s m args below meth c s.heap [] 0 0 (MQ below (oQ D cl w tys A res) args s 0 0 A) (F0 m 0 ls [])) : oMet l D cl w tys b sz y ws rm σ As res := by
  refine Met.ofW (cc := cc) (maxL := maxL) (ret := ret) hy hw ?_
  intro p e s m args below meth c s₁ B hml hv
  obtain ⟨rfl, hsz, hP, hK, hD0⟩ := hv
  subst hsz
  have hD := hD0.self (sz := s.heap.size)
  rw [lg_entry_eq]
  exact body p e s m _ below meth c _ _ B.exec B.bytes B.returns hml (atoms_spec (ws := ws) B.pre) (findClass_of_methodNamed B.named) B.notSynchronized hP hK hD (fun q h => Or.inr h) va_S.rf (lv_entry _ hn)
theorem s_met {l : Launch} {y : MethodName} {ws ws' : List Cond} {rm : Room} {cc : ByteArray} {maxL : Nat} {ret : Option FieldType} {As : List Value} {v : Int32}
    (hy : plainName y.cls = true) (hw : ws = Cond.code y cc maxL ret :: ws') (hn : (lg_sl As).length ≤ maxL)
    (body : ∀ (p : Program) (e : Env) (s : State) (m : MethodId) (args : Array Value) (below : List Frame) (meth : Method) (c : Code) (ls : Array Slot), p.tables.exec = Jvm.exec → c.code = cc → meth.sig.returnType = ret → c.maxLocals = maxL → (∀ w ∈ ws, w.before args s = true) → s.vm.findClass y.cls = some m.cls → meth.locks = false → va_S (fun _ => False) s.heap s.heap [] → lv_has ls maxL (lv_args 0 As) →
      W p l e rm s m args below meth c s.heap [] 0 0 (MQ below (sQ v) args s 0 0 (fun _ => False)) (F0 m 0 ls [])) : sMet l y ws rm As v := by
  refine Met.ofW (cc := cc) (maxL := maxL) (ret := ret) hy hw ?_
  intro p e s m args below meth c s₁ B hml hv
  obtain ⟨rfl, -⟩ := hv
  rw [lg_entry_eq]
  exact body p e s m _ below meth c _ B.exec B.bytes B.returns hml (atoms_spec (ws := ws) B.pre) (findClass_of_methodNamed B.named) B.notSynchronized va_S.rf (lv_entry _ hn)
theorem s_metL {l : Launch} {y : MethodName} {ws ws' : List Cond} {rm : Room} {cc : ByteArray} {maxL : Nat} {ret : Option FieldType} {As : List Value} {v : Int64}
    (hy : plainName y.cls = true) (hw : ws = Cond.code y cc maxL ret :: ws') (hn : (lg_sl As).length ≤ maxL)
    (body : ∀ (p : Program) (e : Env) (s : State) (m : MethodId) (args : Array Value) (below : List Frame) (meth : Method) (c : Code) (ls : Array Slot), p.tables.exec = Jvm.exec → c.code = cc → meth.sig.returnType = ret → c.maxLocals = maxL → (∀ w ∈ ws, w.before args s = true) → s.vm.findClass y.cls = some m.cls → meth.locks = false → va_S (fun _ => False) s.heap s.heap [] → lv_has ls maxL (lv_args 0 As) →
      W p l e rm s m args below meth c s.heap [] 0 0 (MQ below (sQL v) args s 0 0 (fun _ => False)) (F0 m 0 ls [])) : sMetL l y ws rm As v := by
  refine Met.ofW (cc := cc) (maxL := maxL) (ret := ret) hy hw ?_
  intro p e s m args below meth c s₁ B hml hv
  obtain ⟨rfl, -⟩ := hv
  rw [lg_entry_eq]
  exact body p e s m _ below meth c _ B.exec B.bytes B.returns hml (atoms_spec (ws := ws) B.pre) (findClass_of_methodNamed B.named) B.notSynchronized va_S.rf (lv_entry _ hn)
section OB
variable {p : Program} {l : Launch} {e : Env} {R : Room} {s : State} {m : MethodId} {args : Array Value} {below : List Frame} {meth : Method} {c : Code} {H : Heap} {locs : List Loc} {cells slots : Nat} {Q : State → Prop}
variable {cc : ByteArray} {pc : Nat} {ls : Array Slot} {rest As st0 : List Value} {S : Type} {D : va_G} {cl : List vw_C} {w : S → va_W} {tys : List (ClassId × FieldType)} {A : Nat → Prop} {σ : S} {res : Int32 × S}
variable {nL n index maxL b : Nat} {y : MethodName} {bytes : ByteArray} {ret : Option FieldType} {ws Ts : List Cond} {rm : Room} {own C : String}
theorem o_ret (hx : p.tables.exec = Jvm.exec) (hb : c.code = cc) (hr : meth.sig.returnType = some .int) (hlk : meth.locks = false) {v : Int32} (hK : va_K D cl tys s) (hP : va_P D cl (w σ) H) (hD : va_D A (w σ)) (hS : va_S A s.heap H locs) (hv : (v, σ) = res) (hdg : decode cc pc = .ok (.ireturn, 1)) :
    W p l e R s m args below meth c H locs 0 0 (MQ below (oQ D cl w tys A res) args s 0 0 A) (F0 m pc ls [.int v]) :=
  W.iret hx hb hr (fun t ht hW => ⟨⟨v, σ, rfl, hv, by rw [ht]; exact hP, va_K.moved hW.alike hK, hD⟩, hS.F ht⟩) hS.2.2 hdg hlk
theorem o_retz (hx : p.tables.exec = Jvm.exec) (hb : c.code = cc) (hr : meth.sig.returnType = some .boolean) (hlk : meth.locks = false) {v : Int32} (hK : va_K D cl tys s) (hP : va_P D cl (w σ) H) (hD : va_D A (w σ)) (hS : va_S A s.heap H locs) (hz : narrow .boolean (.int v) = .int v) (hv : (v, σ) = res) (hdg : decode cc pc = .ok (.ireturn, 1)) :
    W p l e R s m args below meth c H locs 0 0 (MQ below (oQ D cl w tys A res) args s 0 0 A) (F0 m pc ls [.int v]) :=
  W.zret hx hb hr hz (fun t ht hW => ⟨⟨v, σ, rfl, hv, by rw [ht]; exact hP, va_K.moved hW.alike hK, hD⟩, hS.F ht⟩) hS.2.2 hdg hlk
theorem s_ret (hx : p.tables.exec = Jvm.exec) (hb : c.code = cc) (hr : meth.sig.returnType = some .int) (hlk : meth.locks = false) {v z : Int32} (hS : va_S (fun _ => False) s.heap H locs) (hv : v = z) (hdg : decode cc pc = .ok (.ireturn, 1)) :
    W p l e R s m args below meth c H locs 0 0 (MQ below (sQ z) args s 0 0 (fun _ => False)) (F0 m pc ls [.int v]) :=
  W.iret hx hb hr (fun t ht hW => ⟨⟨v, (), rfl, hv, trivial⟩, hS.F ht⟩) hS.2.2 hdg hlk
theorem s_retz (hx : p.tables.exec = Jvm.exec) (hb : c.code = cc) (hr : meth.sig.returnType = some .boolean) (hlk : meth.locks = false) {v z : Int32} (hS : va_S (fun _ => False) s.heap H locs) (hz : narrow .boolean (.int v) = .int v) (hv : v = z) (hdg : decode cc pc = .ok (.ireturn, 1)) :
    W p l e R s m args below meth c H locs 0 0 (MQ below (sQ z) args s 0 0 (fun _ => False)) (F0 m pc ls [.int v]) :=
  W.zret hx hb hr hz (fun t ht hW => ⟨⟨v, (), rfl, hv, trivial⟩, hS.F ht⟩) hS.2.2 hdg hlk
theorem s_retL (hx : p.tables.exec = Jvm.exec) (hb : c.code = cc) (hr : meth.sig.returnType = some .long) (hlk : meth.locks = false) {v z : Int64} (hS : va_S (fun _ => False) s.heap H locs) (hv : v = z) (hdg : decode cc pc = .ok (.lreturn, 1)) :
    W p l e R s m args below meth c H locs 0 0 (MQ below (sQL z) args s 0 0 (fun _ => False)) (F0 m pc ls [.long v]) :=
  W.lret hx hb hr (fun t ht hW => ⟨⟨v, (), rfl, hv, trivial⟩, hS.F ht⟩) hS.2.2 hdg hlk
theorem o_call (Sx : CallFix p m c cc nL s args Ts own) (hM : oMet l D cl w tys b H.size y ws rm σ As res) (cw : CallW R s args own C index y bytes maxL ret ws rm 0 0 n)
    (hK : va_K D cl tys s) (hP : va_P D cl (w σ) H) (hD : va_D A (w σ)) (hS : va_S A s.heap H locs) (hA : ∀ q : Nat, s.heap.size ≤ q → A q)
    (hrc : ∃ cell : Cell, H[b]? = some cell ∧ cell.vm.isStatics = false ∧ s.vm.findClass C = some cell.cls)
    (hn : As.length = n) (hsz : ls.size = nL) (hst : st0 = As.reverse ++ .ref b :: rest) (hrm : (rest.map fun v => v.category).sum ≤ 8) (hdg : decode cc pc = .ok (.invokevirtual index, 3))
    (kk : ∀ (H1 : Heap) (locs1 : List Loc), va_P D cl (w res.2) H1 → va_D A (w res.2) → va_S A s.heap H1 locs1 → W p l e R s m args below meth c H1 locs1 0 0 Q (F0 m (pc + 3) ls (.int res.1 :: rest))) :
    W p l e R s m args below meth c H locs 0 0 Q (F0 m pc ls st0) := by
  subst hst
  have hFc : ∀ q, va_A (w σ) H.size q → A q := fun q h => by
    rcases h with ⟨k, e, h⟩ | h
    · exact hD.2 k _ h
    · exact hA q (Nat.le_trans hS.1 h)
  refine va_calli (va_runV (As := As) (rest := rest) Sx hM cw ⟨fun a U g mk q => by obtain ⟨q0, q1, qP, qK, qD⟩ := q; exact ⟨q0, q1, qP, va_K.moved (u := U) (U := U.calling g mk a) (Vm.Alike.refl U.vm) qK, qD⟩, hrc, fun U hU hW => ⟨rfl, by rw [hU], by rw [hU]; exact hP, va_K.moved hW.alike hK, hD.weaken (fun _ _ _ _ => trivial)⟩⟩ rfl hn hsz rfl (lv_room hrm) hdg ⟨Nat.zero_le _, Nat.zero_le _⟩) hS (fun q _ h => hFc q h) hFc (fun r u t H1 locs1 ht hvm hw hB hz1 hk1 hS1 => ?_)
  obtain ⟨hP1, hK1, hD1⟩ := hB
  rw [ht] at hP1
  subst hw
  exact kk H1 locs1 hP1 (hD1.weaken (fun _ _ _ h => hFc _ h)) hS1
theorem o_callR (Sx : CallFix p m c cc nL s args Ts own) {v : Int32} (hM : oMet l D cl w tys b H.size y ws rm σ As (v, σ)) (cw : CallW R s args own C index y bytes maxL ret ws rm 0 0 n)
    (hK : va_K D cl tys s) (hP : va_P D cl (w σ) H) (hD : va_D A (w σ)) (hS : va_S A s.heap H locs) (hA : ∀ q : Nat, s.heap.size ≤ q → A q)
    (hrc : ∃ cell : Cell, H[b]? = some cell ∧ cell.vm.isStatics = false ∧ s.vm.findClass C = some cell.cls)
    (hn : As.length = n) (hsz : ls.size = nL) (hst : st0 = As.reverse ++ .ref b :: rest) (hrm : (rest.map fun v => v.category).sum ≤ 8) (hdg : decode cc pc = .ok (.invokevirtual index, 3))
    (kk : ∀ (H1 : Heap) (locs1 : List Loc), va_P D cl (w σ) H1 → va_D A (w σ) → va_S A s.heap H1 locs1 → W p l e R s m args below meth c H1 locs1 0 0 Q (F0 m (pc + 3) ls (.int v :: rest))) :
    W p l e R s m args below meth c H locs 0 0 Q (F0 m pc ls st0) :=
  o_call Sx hM cw hK hP hD hS hA hrc hn hsz hst hrm hdg kk
theorem s_call {v : Int32} {ws0 : va_W} (Sx : CallFix p m c cc nL s args Ts own) (hM : sMet l y ws rm As v) (cw : CallB R s args own index y bytes maxL ret ws rm 0 0 n ∧ (Cond.static y).before args s = true)
    (hP : va_P D cl ws0 H) (hS : va_S A s.heap H locs) (hn : As.length = n) (hsz : ls.size = nL) (hst : st0 = As.reverse ++ rest) (hrm : (rest.map fun v => v.category).sum ≤ 8) (hdg : decode cc pc = .ok (.invokestatic index, 3))
    (kk : ∀ (H1 : Heap) (locs1 : List Loc), va_P D cl ws0 H1 → va_S A s.heap H1 locs1 → W p l e R s m args below meth c H1 locs1 0 0 Q (F0 m (pc + 3) ls (.int v :: rest))) :
    W p l e R s m args below meth c H locs 0 0 Q (F0 m pc ls st0) := by
  subst hst
  refine va_calli (va_runS (As := As) (rest := rest) Sx hM cw ⟨fun a U g mk q => q, fun U hU hW => ⟨rfl, trivial⟩⟩ rfl hn hsz rfl (lv_room hrm) hdg ⟨Nat.zero_le _, Nat.zero_le _⟩) hS (fun q _ h => h.elim) (fun q h => h.elim) (fun r u t H1 locs1 ht hvm hw hB hz1 hk1 hS1 => ?_)
  subst hw
  exact kk H1 locs1 (hP.kept (fun k q hk => hk1 q.1 (hP k q hk).lt (fun h => h))) hS1
theorem s_callL {v : Int64} {ws0 : va_W} (Sx : CallFix p m c cc nL s args Ts own) (hM : sMetL l y ws rm As v) (cw : CallB R s args own index y bytes maxL ret ws rm 0 0 n ∧ (Cond.static y).before args s = true)
    (hP : va_P D cl ws0 H) (hS : va_S A s.heap H locs) (hn : As.length = n) (hsz : ls.size = nL) (hst : st0 = As.reverse ++ rest) (hrm : (rest.map fun v => v.category).sum ≤ 8) (hdg : decode cc pc = .ok (.invokestatic index, 3))
    (kk : ∀ (H1 : Heap) (locs1 : List Loc), va_P D cl ws0 H1 → va_S A s.heap H1 locs1 → W p l e R s m args below meth c H1 locs1 0 0 Q (F0 m (pc + 3) ls (.long v :: rest))) :
    W p l e R s m args below meth c H locs 0 0 Q (F0 m pc ls st0) := by
  subst hst
  refine va_calll (va_runS (As := As) (rest := rest) Sx hM cw ⟨fun a U g mk q => q, fun U hU hW => ⟨rfl, trivial⟩⟩ rfl hn hsz rfl (lv_room hrm) hdg ⟨Nat.zero_le _, Nat.zero_le _⟩) hS (fun q _ h => h.elim) (fun q h => h.elim) (fun r u t H1 locs1 ht hvm hw hB hz1 hk1 hS1 => ?_)
  subst hw
  exact kk H1 locs1 (hP.kept (fun k q hk => hk1 q.1 (hP k q hk).lt (fun h => h))) hS1
theorem s_call0 {v : Int32} (Sx : CallFix p m c cc nL s args Ts own) (hM : sMet l y ws rm As v) (cw : CallB R s args own index y bytes maxL ret ws rm 0 0 n ∧ (Cond.static y).before args s = true)
    (hS : va_S A s.heap H locs) (hn : As.length = n) (hsz : ls.size = nL) (hst : st0 = As.reverse ++ rest) (hrm : (rest.map fun v => v.category).sum ≤ 8) (hdg : decode cc pc = .ok (.invokestatic index, 3))
    (kk : ∀ (H1 : Heap) (locs1 : List Loc), va_S A s.heap H1 locs1 → W p l e R s m args below meth c H1 locs1 0 0 Q (F0 m (pc + 3) ls (.int v :: rest))) :
    W p l e R s m args below meth c H locs 0 0 Q (F0 m pc ls st0) := by
  subst hst
  refine va_calli (va_runS (As := As) (rest := rest) Sx hM cw ⟨fun a U g mk q => q, fun U hU hW => ⟨rfl, trivial⟩⟩ rfl hn hsz rfl (lv_room hrm) hdg ⟨Nat.zero_le _, Nat.zero_le _⟩) hS (fun q _ h => h.elim) (fun q h => h.elim) (fun r u t H1 locs1 ht hvm hw hB hz1 hk1 hS1 => ?_)
  subst hw
  exact kk H1 locs1 hS1
theorem s_callL0 {v : Int64} (Sx : CallFix p m c cc nL s args Ts own) (hM : sMetL l y ws rm As v) (cw : CallB R s args own index y bytes maxL ret ws rm 0 0 n ∧ (Cond.static y).before args s = true)
    (hS : va_S A s.heap H locs) (hn : As.length = n) (hsz : ls.size = nL) (hst : st0 = As.reverse ++ rest) (hrm : (rest.map fun v => v.category).sum ≤ 8) (hdg : decode cc pc = .ok (.invokestatic index, 3))
    (kk : ∀ (H1 : Heap) (locs1 : List Loc), va_S A s.heap H1 locs1 → W p l e R s m args below meth c H1 locs1 0 0 Q (F0 m (pc + 3) ls (.long v :: rest))) :
    W p l e R s m args below meth c H locs 0 0 Q (F0 m pc ls st0) := by
  subst hst
  refine va_calll (va_runS (As := As) (rest := rest) Sx hM cw ⟨fun a U g mk q => q, fun U hU hW => ⟨rfl, trivial⟩⟩ rfl hn hsz rfl (lv_room hrm) hdg ⟨Nat.zero_le _, Nat.zero_le _⟩) hS (fun q _ h => h.elim) (fun q h => h.elim) (fun r u t H1 locs1 ht hvm hw hB hz1 hk1 hS1 => ?_)
  subst hw
  exact kk H1 locs1 hS1
end OB
-- numbers: places in arrays
theorem ti_lt {x y : Int32} : x < y ↔ x.toInt < y.toInt := Int32.lt_iff_toInt_lt
theorem ti_le {x y : Int32} : x ≤ y ↔ x.toInt ≤ y.toInt := Int32.le_iff_toInt_le
theorem ti_0 : (0 : Int32).toInt = 0 := by decide
theorem ti_1 : (1 : Int32).toInt = 1 := by decide
theorem in_c {x : Int32} {n : Nat} (h : 0 ≤ x.toInt ∧ x.toInt < (n : Int)) : vp_in x n := vp_in_iff.mpr h
theorem in_ge0lt {x y : Int32} {n : Nat} (h0 : ¬ x < 0) (h1 : x < y) (h2 : y.toInt ≤ n) : vp_in x n := by
  rw [ti_lt, ti_0] at h0
  rw [ti_lt] at h1
  exact vp_in_iff.mpr ⟨by omega, by omega⟩
theorem in_ge1lt {x y : Int32} {n : Nat} (h0 : ¬ x < 1) (h1 : x < y) (h2 : y.toInt ≤ n) : vp_in x n := by
  rw [ti_lt, ti_1] at h0
  rw [ti_lt] at h1
  exact vp_in_iff.mpr ⟨by omega, by omega⟩
theorem in_gt0lt {x y : Int32} {n : Nat} (h0 : ¬ x ≤ 0) (h1 : x < y) (h2 : y.toInt ≤ n) : vp_in x n := by
  rw [ti_le, ti_0] at h0
  rw [ti_lt] at h1
  exact vp_in_iff.mpr ⟨by omega, by omega⟩
theorem ti_add {x y : Int32} (h0 : -2147483648 ≤ x.toInt + y.toInt) (h1 : x.toInt + y.toInt < 2147483648) : (x + y).toInt = x.toInt + y.toInt := by
  rw [Int32.toInt_add]
  exact Int.bmod_eq_of_le (by omega) (by omega)
theorem ti_sub {x y : Int32} (h0 : -2147483648 ≤ x.toInt - y.toInt) (h1 : x.toInt - y.toInt < 2147483648) : (x - y).toInt = x.toInt - y.toInt := by
  rw [Int32.toInt_sub]
  exact Int.bmod_eq_of_le (by omega) (by omega)
-- loops: counting up to a limit
def JUp (lim : Int32) (n : Nat) (x : Int32) : Prop := 0 ≤ x.toInt ∧ x.toInt ≤ lim.toInt ∧ lim.toInt + 1 ≤ x.toInt + n
theorem jup_0 {lim x : Int32} (h : JUp lim 0 x) : False := by
  obtain ⟨h1, h2, h3⟩ := h
  omega
theorem jup_b {lim x : Int32} {n : Nat} {k : Int} (h : JUp lim (n + 1) x) (hc : ¬ lim ≤ x) (hk : lim.toInt ≤ k) (hk2 : k ≤ 100000 := by decide) : JUp lim n (x + 1) := by
  obtain ⟨h1, h2, h3⟩ := h
  rw [ti_le] at hc
  have e : (x + 1).toInt = x.toInt + 1 := by
    rw [ti_add (by rw [ti_1]; omega) (by rw [ti_1]; omega), ti_1]
  exact ⟨by omega, by omega, by omega⟩
theorem jup_in {lim x : Int32} {n k : Nat} (h : JUp lim (n + 1) x) (hc : ¬ lim ≤ x) (hk : lim.toInt ≤ k) : vp_in x k := by
  obtain ⟨h1, h2, h3⟩ := h
  rw [ti_le] at hc
  exact vp_in_iff.mpr ⟨by omega, by omega⟩
theorem lc_ne {x : Int64} (h : ¬ lg_cmp x 0 = 0) : ¬ x = 0 := fun e => h (by rw [e]; decide)
abbrev oQV {S : Type} (D : va_G) (cl : List vw_C) (w : S → va_W) (tys : List (ClassId × FieldType)) (A : Nat → Prop) (res : S) : Array Value → State → Outcome → State → Prop :=
  va_Qv (fun (u : S) => u = res) (fun u t => va_P D cl (w u) t.heap ∧ va_K D cl tys t ∧ va_D A (w u)) A
abbrev oMetV {S : Type} (l : Launch) (D : va_G) (cl : List vw_C) (w : S → va_W) (tys : List (ClassId × FieldType)) (b sz : Nat) (y : MethodName) (ws : List Cond) (rm : Room) (σ : S) (As : List Value) (res : S) : Prop :=
  Met l y ws rm (oPc D cl w tys b sz σ As) (oQV D cl w tys (va_A (w σ) sz) res) 0 0 (va_A (w σ) sz)
theorem o_metV {l : Launch} {S : Type} {D : va_G} {cl : List vw_C} {w : S → va_W} {tys : List (ClassId × FieldType)} {b sz : Nat} {y : MethodName} {ws ws' : List Cond} {rm : Room} {cc : ByteArray} {maxL : Nat} {ret : Option FieldType} {σ : S} {As : List Value} {res : S}
    (hy : plainName y.cls = true) (hw : ws = Cond.code y cc maxL ret :: ws') (hn : (lg_sl (.ref b :: As)).length ≤ maxL)
    (body : ∀ (p : Program) (e : Env) (s : State) (m : MethodId) (args : Array Value) (below : List Frame) (meth : Method) (c : Code) (A : Nat → Prop) (ls : Array Slot), p.tables.exec = Jvm.exec → c.code = cc → meth.sig.returnType = ret → c.maxLocals = maxL → (∀ w ∈ ws, w.before args s = true) → s.vm.findClass y.cls = some m.cls → meth.locks = false → va_P D cl (w σ) s.heap → va_K D cl tys s → va_D A (w σ) → (∀ q : Nat, s.heap.size ≤ q → A q) → va_S A s.heap s.heap [] → lv_has ls maxL (lv_args 0 (.ref b :: As)) →
      W p l e rm s m args below meth c s.heap [] 0 0 (MQ below (oQV D cl w tys A res) args s 0 0 A) (F0 m 0 ls [])) : oMetV l D cl w tys b sz y ws rm σ As res := by
  refine Met.ofW (cc := cc) (maxL := maxL) (ret := ret) hy hw ?_
  intro p e s m args below meth c s₁ B hml hv
  obtain ⟨rfl, hsz, hP, hK, hD0⟩ := hv
  subst hsz
  have hD := hD0.self (sz := s.heap.size)
  rw [lg_entry_eq]
  exact body p e s m _ below meth c _ _ B.exec B.bytes B.returns hml (atoms_spec (ws := ws) B.pre) (findClass_of_methodNamed B.named) B.notSynchronized hP hK hD (fun q h => Or.inr h) va_S.rf (lv_entry _ hn)
section OV
variable {p : Program} {l : Launch} {e : Env} {R : Room} {s : State} {m : MethodId} {args : Array Value} {below : List Frame} {meth : Method} {c : Code} {H : Heap} {locs : List Loc} {Q : State → Prop}
variable {cc : ByteArray} {pc : Nat} {ls : Array Slot} {rest As st0 : List Value} {S : Type} {D : va_G} {cl : List vw_C} {w : S → va_W} {tys : List (ClassId × FieldType)} {A : Nat → Prop} {σ : S} {res : S}
variable {nL n index maxL b : Nat} {y : MethodName} {bytes : ByteArray} {ret : Option FieldType} {ws Ts : List Cond} {rm : Room} {own C : String}
theorem o_retV (hx : p.tables.exec = Jvm.exec) (hb : c.code = cc) (hr : meth.sig.returnType = none) (hlk : meth.locks = false) (hK : va_K D cl tys s) (hP : va_P D cl (w σ) H) (hD : va_D A (w σ)) (hS : va_S A s.heap H locs) (hv : σ = res) (hdg : decode cc pc = .ok (.return_, 1)) :
    W p l e R s m args below meth c H locs 0 0 (MQ below (oQV D cl w tys A res) args s 0 0 A) (F0 m pc ls []) :=
  W.vret hx hb hr (fun t ht hW => ⟨⟨σ, rfl, hv, by rw [ht]; exact hP, va_K.moved hW.alike hK, hD⟩, hS.F ht⟩) hS.2.2 hdg hlk
theorem o_callV (Sx : CallFix p m c cc nL s args Ts own) (hM : oMetV l D cl w tys b H.size y ws rm σ As res) (cw : CallW R s args own C index y bytes maxL ret ws rm 0 0 n)
    (hK : va_K D cl tys s) (hP : va_P D cl (w σ) H) (hD : va_D A (w σ)) (hS : va_S A s.heap H locs) (hA : ∀ q : Nat, s.heap.size ≤ q → A q)
    (hrc : ∃ cell : Cell, H[b]? = some cell ∧ cell.vm.isStatics = false ∧ s.vm.findClass C = some cell.cls)
    (hn : As.length = n) (hsz : ls.size = nL) (hst : st0 = As.reverse ++ .ref b :: rest) (hrm : (rest.map fun v => v.category).sum ≤ 8) (hdg : decode cc pc = .ok (.invokevirtual index, 3))
    (kk : ∀ (H1 : Heap) (locs1 : List Loc), va_P D cl (w res) H1 → va_D A (w res) → va_S A s.heap H1 locs1 → W p l e R s m args below meth c H1 locs1 0 0 Q (F0 m (pc + 3) ls rest)) :
    W p l e R s m args below meth c H locs 0 0 Q (F0 m pc ls st0) := by
  subst hst
  have hFc : ∀ q, va_A (w σ) H.size q → A q := fun q h => by
    rcases h with ⟨k, e, h⟩ | h
    · exact hD.2 k _ h
    · exact hA q (Nat.le_trans hS.1 h)
  refine va_callv (va_runV (As := As) (rest := rest) Sx hM cw ⟨fun a U g mk q => by obtain ⟨q0, q1, qP, qK, qD⟩ := q; exact ⟨q0, q1, qP, va_K.moved (u := U) (U := U.calling g mk a) (Vm.Alike.refl U.vm) qK, qD⟩, hrc, fun U hU hW => ⟨rfl, by rw [hU], by rw [hU]; exact hP, va_K.moved hW.alike hK, hD.weaken (fun _ _ _ _ => trivial)⟩⟩ rfl hn hsz rfl (lv_room hrm) hdg ⟨Nat.zero_le _, Nat.zero_le _⟩) hS (fun q _ h => hFc q h) hFc (fun u t H1 locs1 ht hvm hw hB hz1 hk1 hS1 => ?_)
  obtain ⟨hP1, hK1, hD1⟩ := hB
  rw [ht] at hP1
  subst hw
  exact kk H1 locs1 hP1 (hD1.weaken (fun _ _ _ h => hFc _ h)) hS1
end OV
-- a call on one object, beside another that stays
def apart (w1 w2 : va_W) : Prop := ∀ (i j : Nat) (p q : Nat × va_E), w1[i]? = some p → w2[j]? = some q → p.1 ≠ q.1
theorem apart.symm {w1 w2 : va_W} (h : apart w1 w2) : apart w2 w1 := fun i j p q hp hq e => h j i q p hq hp e.symm
section PB
variable {p : Program} {l : Launch} {e : Env} {R : Room} {s : State} {m : MethodId} {args : Array Value} {below : List Frame} {meth : Method} {c : Code} {H : Heap} {locs : List Loc} {cells slots : Nat} {Q : State → Prop}
variable {cc : ByteArray} {pc : Nat} {ls : Array Slot} {rest As st0 : List Value} {S : Type} {D : va_G} {cl : List vw_C} {w : S → va_W} {wt : va_W} {tys : List (ClassId × FieldType)} {A : Nat → Prop} {σ : S} {res : Int32 × S}
variable {nL n index maxL b : Nat} {y : MethodName} {bytes : ByteArray} {ret : Option FieldType} {ws Ts : List Cond} {rm : Room} {own C : String}
theorem p_call (Sx : CallFix p m c cc nL s args Ts own) (hM : oMet l D cl w tys b H.size y ws rm σ As res) (cw : CallW R s args own C index y bytes maxL ret ws rm 0 0 n)
    (hK : va_K D cl tys s) (hP : va_P D cl (w σ) H) (hP2 : va_P D cl wt H) (hD : va_D A (w σ)) (hap : apart (w σ) wt) (hS : va_S A s.heap H locs) (hA : ∀ q : Nat, s.heap.size ≤ q → A q)
    (hrc : ∃ cell : Cell, H[b]? = some cell ∧ cell.vm.isStatics = false ∧ s.vm.findClass C = some cell.cls)
    (hn : As.length = n) (hsz : ls.size = nL) (hst : st0 = As.reverse ++ .ref b :: rest) (hrm : (rest.map fun v => v.category).sum ≤ 8) (hdg : decode cc pc = .ok (.invokevirtual index, 3)) (hc : cells ≤ R.cells ∧ slots ≤ R.slots)
    (kk : ∀ (H1 : Heap) (locs1 : List Loc), va_P D cl (w res.2) H1 → va_P D cl wt H1 → va_D A (w res.2) → apart (w res.2) wt → va_S A s.heap H1 locs1 → W p l e R s m args below meth c H1 locs1 cells slots Q (F0 m (pc + 3) ls (.int res.1 :: rest))) :
    W p l e R s m args below meth c H locs cells slots Q (F0 m pc ls st0) := by
  subst hst
  have hFc : ∀ q, va_A (w σ) H.size q → A q := fun q h => by
    rcases h with ⟨k, e, h⟩ | h
    · exact hD.2 k _ h
    · exact hA q (Nat.le_trans hS.1 h)
  refine va_calli (va_runV (As := As) (rest := rest) Sx hM cw ⟨fun a U g mk q => by obtain ⟨q0, q1, qP, qK, qD⟩ := q; exact ⟨q0, q1, qP, va_K.moved (u := U) (U := U.calling g mk a) (Vm.Alike.refl U.vm) qK, qD⟩, hrc, fun U hU hW => ⟨rfl, by rw [hU], by rw [hU]; exact hP, va_K.moved hW.alike hK, hD.weaken (fun _ _ _ _ => trivial)⟩⟩ rfl hn hsz rfl (lv_room hrm) hdg hc) hS (fun q _ h => hFc q h) hFc (fun r u t H1 locs1 ht hvm hw hB hz1 hk1 hS1 => ?_)
  obtain ⟨hP1, hK1, hD1⟩ := hB
  rw [ht] at hP1
  subst hw
  refine kk H1 locs1 hP1 (hP2.kept (fun k q hk => hk1 q.1 (hP2 k q hk).lt (fun h => ?_))) (hD1.weaken (fun _ _ _ h => hFc _ h)) (fun i j x z hx hz exz => ?_) hS1
  · rcases h with ⟨k2, e2, h⟩ | h
    · exact hap k2 k _ q h hk rfl
    · exact absurd (hP2 k q hk).lt (by omega)
  · rcases hD1.2 i x hx with ⟨k2, e2, h⟩ | h
    · exact hap k2 j _ z h hz exz
    · have := (hP2 j z hz).lt
      omega
end PB
end
section
abbrev SG : Type := (Nat → Int32) × Int32 × (Nat → Int32) × Int32 × (Nat → Int32) × (Nat → Int32) × (Nat → Int32) × Int32 × Int32 × (Nat → Int32) × Int32 × Int32 × Int32 × Int32 × Int32
def gdr (σ : SG) : (Nat → Int32) := σ.1
def sdr (σ : SG) (v : (Nat → Int32)) : SG := (v, σ.2)
def gdc (σ : SG) : Int32 := σ.2.1
def sdc (σ : SG) (v : Int32) : SG := (σ.1, v, σ.2.2)
def gtx (σ : SG) : (Nat → Int32) := σ.2.2.1
def stx (σ : SG) (v : (Nat → Int32)) : SG := (σ.1, σ.2.1, v, σ.2.2.2)
def gtc (σ : SG) : Int32 := σ.2.2.2.1
def stc (σ : SG) (v : Int32) : SG := (σ.1, σ.2.1, σ.2.2.1, v, σ.2.2.2.2)
def grg (σ : SG) : (Nat → Int32) := σ.2.2.2.2.1
def srg (σ : SG) (v : (Nat → Int32)) : SG := (σ.1, σ.2.1, σ.2.2.1, σ.2.2.2.1, v, σ.2.2.2.2.2)
def gmm (σ : SG) : (Nat → Int32) := σ.2.2.2.2.2.1
def smm (σ : SG) (v : (Nat → Int32)) : SG := (σ.1, σ.2.1, σ.2.2.1, σ.2.2.2.1, σ.2.2.2.2.1, v, σ.2.2.2.2.2.2)
def gti (σ : SG) : (Nat → Int32) := σ.2.2.2.2.2.2.1
def sti (σ : SG) (v : (Nat → Int32)) : SG := (σ.1, σ.2.1, σ.2.2.1, σ.2.2.2.1, σ.2.2.2.2.1, σ.2.2.2.2.2.1, v, σ.2.2.2.2.2.2.2)
def gic (σ : SG) : Int32 := σ.2.2.2.2.2.2.2.1
def sic (σ : SG) (v : Int32) : SG := (σ.1, σ.2.1, σ.2.2.1, σ.2.2.2.1, σ.2.2.2.2.1, σ.2.2.2.2.2.1, σ.2.2.2.2.2.2.1, v, σ.2.2.2.2.2.2.2.2)
def gir (σ : SG) : Int32 := σ.2.2.2.2.2.2.2.2.1
def sir (σ : SG) (v : Int32) : SG := (σ.1, σ.2.1, σ.2.2.1, σ.2.2.2.1, σ.2.2.2.2.1, σ.2.2.2.2.2.1, σ.2.2.2.2.2.2.1, σ.2.2.2.2.2.2.2.1, v, σ.2.2.2.2.2.2.2.2.2)
def gto (σ : SG) : (Nat → Int32) := σ.2.2.2.2.2.2.2.2.2.1
def sto (σ : SG) (v : (Nat → Int32)) : SG := (σ.1, σ.2.1, σ.2.2.1, σ.2.2.2.1, σ.2.2.2.2.1, σ.2.2.2.2.2.1, σ.2.2.2.2.2.2.1, σ.2.2.2.2.2.2.2.1, σ.2.2.2.2.2.2.2.2.1, v, σ.2.2.2.2.2.2.2.2.2.2)
def goc (σ : SG) : Int32 := σ.2.2.2.2.2.2.2.2.2.2.1
def soc (σ : SG) (v : Int32) : SG := (σ.1, σ.2.1, σ.2.2.1, σ.2.2.2.1, σ.2.2.2.2.1, σ.2.2.2.2.2.1, σ.2.2.2.2.2.2.1, σ.2.2.2.2.2.2.2.1, σ.2.2.2.2.2.2.2.2.1, σ.2.2.2.2.2.2.2.2.2.1, v, σ.2.2.2.2.2.2.2.2.2.2.2)
def gpc (σ : SG) : Int32 := σ.2.2.2.2.2.2.2.2.2.2.2.1
def spc (σ : SG) (v : Int32) : SG := (σ.1, σ.2.1, σ.2.2.1, σ.2.2.2.1, σ.2.2.2.2.1, σ.2.2.2.2.2.1, σ.2.2.2.2.2.2.1, σ.2.2.2.2.2.2.2.1, σ.2.2.2.2.2.2.2.2.1, σ.2.2.2.2.2.2.2.2.2.1, σ.2.2.2.2.2.2.2.2.2.2.1, v, σ.2.2.2.2.2.2.2.2.2.2.2.2)
def gus (σ : SG) : Int32 := σ.2.2.2.2.2.2.2.2.2.2.2.2.1
def sus (σ : SG) (v : Int32) : SG := (σ.1, σ.2.1, σ.2.2.1, σ.2.2.2.1, σ.2.2.2.2.1, σ.2.2.2.2.2.1, σ.2.2.2.2.2.2.1, σ.2.2.2.2.2.2.2.1, σ.2.2.2.2.2.2.2.2.1, σ.2.2.2.2.2.2.2.2.2.1, σ.2.2.2.2.2.2.2.2.2.2.1, σ.2.2.2.2.2.2.2.2.2.2.2.1, v, σ.2.2.2.2.2.2.2.2.2.2.2.2.2)
def gou (σ : SG) : Int32 := σ.2.2.2.2.2.2.2.2.2.2.2.2.2.1
def sou (σ : SG) (v : Int32) : SG := (σ.1, σ.2.1, σ.2.2.1, σ.2.2.2.1, σ.2.2.2.2.1, σ.2.2.2.2.2.1, σ.2.2.2.2.2.2.1, σ.2.2.2.2.2.2.2.1, σ.2.2.2.2.2.2.2.2.1, σ.2.2.2.2.2.2.2.2.2.1, σ.2.2.2.2.2.2.2.2.2.2.1, σ.2.2.2.2.2.2.2.2.2.2.2.1, σ.2.2.2.2.2.2.2.2.2.2.2.2.1, v, σ.2.2.2.2.2.2.2.2.2.2.2.2.2.2)
def gec (σ : SG) : Int32 := σ.2.2.2.2.2.2.2.2.2.2.2.2.2.2
def sec (σ : SG) (v : Int32) : SG := (σ.1, σ.2.1, σ.2.2.1, σ.2.2.2.1, σ.2.2.2.2.1, σ.2.2.2.2.2.1, σ.2.2.2.2.2.2.1, σ.2.2.2.2.2.2.2.1, σ.2.2.2.2.2.2.2.2.1, σ.2.2.2.2.2.2.2.2.2.1, σ.2.2.2.2.2.2.2.2.2.2.1, σ.2.2.2.2.2.2.2.2.2.2.2.1, σ.2.2.2.2.2.2.2.2.2.2.2.2.1, σ.2.2.2.2.2.2.2.2.2.2.2.2.2.1, v)
abbrev wG (q : Nat → Nat) (cA : Nat → ClassId) (σ : SG) : va_W := [(q 0, .inr (0, [.ref (q 1), .int (gdc σ), .ref (q 2), .int (gtc σ), .ref (q 3), .ref (q 4), .ref (q 5), .int (gic σ), .int (gir σ), .ref (q 6), .int (goc σ), .int (gpc σ), .int (gus σ), .int (gou σ), .int (gec σ)])), (q 1, .inl (cA 1, 64, .inl (gdr σ))), (q 2, .inl (cA 2, 64, .inl (gtx σ))), (q 3, .inl (cA 3, 34, .inl (grg σ))), (q 4, .inl (cA 4, 256, .inl (gmm σ))), (q 5, .inl (cA 5, 64, .inl (gti σ))), (q 6, .inl (cA 6, 256, .inl (gto σ)))]
abbrev tG (cA : Nat → ClassId) : List (ClassId × FieldType) := [(cA 1, .int), (cA 2, .int), (cA 3, .int), (cA 4, .int), (cA 5, .int), (cA 6, .int)]
def FG_word (σ : SG) (a1 : Int32) : Int32 × SG :=
  (if (gdc σ) < (64 : Int32) then (((gdc σ) + (1 : Int32)), (sdc (sdr σ (upd (gdr σ) (Int32.toNatClampNeg (gdc σ)) a1)) ((gdc σ) + (1 : Int32)))) else ((-2 : Int32), σ))
def FG_set (σ : SG) (a1 : Int32) (a2 : Int32) : Int32 × SG :=
  (if a1 < (0 : Int32) then ((-1 : Int32), σ) else (if a1 < (gdc σ) then ((1 : Int32), (sdr σ (upd (gdr σ) (Int32.toNatClampNeg a1) a2))) else ((-1 : Int32), σ)))
def FG_isByte (a1 : Int32) : Int32 :=
  (if a1 < (0 : Int32) then (0 : Int32) else (if (255 : Int32) < a1 then (0 : Int32) else (1 : Int32)))
def FG_input (σ : SG) (a1 : Int32) : Int32 × SG :=
  (if (FG_isByte a1) = (0 : Int32) then ((-1 : Int32), σ) else (if (gic σ) < (64 : Int32) then (((gic σ) + (1 : Int32)), (sic (sti σ (upd (gti σ) (Int32.toNatClampNeg (gic σ)) a1)) ((gic σ) + (1 : Int32)))) else ((-2 : Int32), σ)))
def FG_isDataIndex (a1 : Int32) : Int32 :=
  (if a1 < (0 : Int32) then (0 : Int32) else (if (256 : Int32) ≤ a1 then (0 : Int32) else (1 : Int32)))
def FG_data (σ : SG) (a1 : Int32) (a2 : Int32) : Int32 × SG :=
  (if (FG_isDataIndex a1) = (0 : Int32) then ((-1 : Int32), σ) else (if (FG_isByte a2) = (0 : Int32) then ((-1 : Int32), σ) else ((1 : Int32), (smm σ (upd (gmm σ) (Int32.toNatClampNeg a1) a2)))))
def LG_begin2 : Nat → SG → Int32 → Int32 × SG
  | 0, σ, _ => (0, σ)
  | n + 1, σ, x1 =>
    (if (34 : Int32) ≤ x1 then ((gtc σ), (sec (sou (sus (spc (soc (sir (srg σ (upd (grg σ) (Int32.toNatClampNeg (29 : Int32)) (268435712 : Int32))) (0 : Int32)) (0 : Int32)) (0 : Int32)) (0 : Int32)) (0 : Int32)) (0 : Int32))) else (LG_begin2 n (srg σ (upd (grg σ) (Int32.toNatClampNeg x1) (0 : Int32))) (x1 + 1)))
def LG_begin1 : Nat → SG → Int32 → Int32 × SG
  | 0, σ, _ => (0, σ)
  | n + 1, σ, x1 =>
    (if (gdc σ) ≤ x1 then (LG_begin2 36 (stc σ (gdc σ)) (0 : Int32)) else (LG_begin1 n (stx σ (upd (gtx σ) (Int32.toNatClampNeg x1) ((gdr σ) (Int32.toNatClampNeg x1)))) (x1 + 1)))
def FG_begin (σ : SG) : Int32 × SG :=
  (LG_begin1 66 σ (0 : Int32))
def FG_isInText (σ : SG) (a1 : Int32) : Int32 :=
  (if a1 < (0 : Int32) then (0 : Int32) else (if (gtc σ) ≤ a1 then (0 : Int32) else (1 : Int32)))
def FG_opOf (a1 : Int32) : Int32 :=
  (jushr a1 (26 : Int32))
def FG_fOf (a1 : Int32) : Int32 :=
  (a1 &&& (63 : Int32))
def FG_tOf (a1 : Int32) : Int32 :=
  ((jushr a1 (16 : Int32)) &&& (31 : Int32))
def FG_isTurn (a1 : Int32) : Int32 :=
  (if (FG_opOf a1) = (0 : Int32) then (if (FG_fOf a1) = (8 : Int32) then (1 : Int32) else (if (FG_fOf a1) = (9 : Int32) then (1 : Int32) else (0 : Int32))) else (if (FG_opOf a1) = (1 : Int32) then (if (FG_tOf a1) = (0 : Int32) then (1 : Int32) else (if (FG_tOf a1) = (1 : Int32) then (1 : Int32) else (if (FG_tOf a1) = (16 : Int32) then (1 : Int32) else (if (FG_tOf a1) = (17 : Int32) then (1 : Int32) else (0 : Int32))))) else (if (FG_opOf a1) < (2 : Int32) then (0 : Int32) else (if (7 : Int32) < (FG_opOf a1) then (0 : Int32) else (1 : Int32)))))
def FG_isBarredFromSlots (a1 : Int32) : Int32 :=
  (if (FG_opOf a1) = (0 : Int32) then (if (FG_fOf a1) = (12 : Int32) then (1 : Int32) else (if (FG_fOf a1) = (13 : Int32) then (1 : Int32) else (if (FG_isTurn a1) = (0 : Int32) then (0 : Int32) else (1 : Int32)))) else (if (FG_isTurn a1) = (0 : Int32) then (0 : Int32) else (1 : Int32)))
def FG_sOf (a1 : Int32) : Int32 :=
  ((jushr a1 (21 : Int32)) &&& (31 : Int32))
def FG_turnGoes (σ : SG) (a1 : Int32) : Int32 :=
  (if (FG_opOf a1) = (1 : Int32) then (if ((FG_tOf a1) &&& (1 : Int32)) = (0 : Int32) then (if (0 : Int32) ≤ ((grg σ) (Int32.toNatClampNeg (FG_sOf a1))) then (0 : Int32) else (1 : Int32)) else (if ((grg σ) (Int32.toNatClampNeg (FG_sOf a1))) < (0 : Int32) then (0 : Int32) else (1 : Int32))) else (if (FG_opOf a1) = (2 : Int32) then (1 : Int32) else (if (FG_opOf a1) = (3 : Int32) then (1 : Int32) else (if (FG_opOf a1) = (4 : Int32) then (if ((grg σ) (Int32.toNatClampNeg (FG_sOf a1))) = ((grg σ) (Int32.toNatClampNeg (FG_tOf a1))) then (1 : Int32) else (0 : Int32)) else (if (FG_opOf a1) = (5 : Int32) then (if ((grg σ) (Int32.toNatClampNeg (FG_sOf a1))) = ((grg σ) (Int32.toNatClampNeg (FG_tOf a1))) then (0 : Int32) else (1 : Int32)) else (if (FG_opOf a1) = (6 : Int32) then (if (0 : Int32) < ((grg σ) (Int32.toNatClampNeg (FG_sOf a1))) then (0 : Int32) else (1 : Int32)) else (if (FG_opOf a1) = (7 : Int32) then (if ((grg σ) (Int32.toNatClampNeg (FG_sOf a1))) ≤ (0 : Int32) then (0 : Int32) else (1 : Int32)) else (1 : Int32))))))))
def FG_isTextAddress (σ : SG) (a1 : Int32) : Int32 :=
  (if (a1 - (4194304 : Int32)) < (0 : Int32) then (0 : Int32) else (if ((4 : Int32) * (gtc σ)) ≤ (a1 - (4194304 : Int32)) then (0 : Int32) else (1 : Int32)))
def FG_wordAt (σ : SG) (a1 : Int32) : Int32 :=
  (if (a1 &&& (3 : Int32)) = (0 : Int32) then (if (FG_isTextAddress σ a1) = (0 : Int32) then (-1 : Int32) else ((a1 - (4194304 : Int32)) >>> ((2 : Int32) &&& 31))) else (-1 : Int32))
def FG_addressOf (a1 : Int32) : Int32 :=
  ((4194304 : Int32) + ((4 : Int32) * a1))
def FG_signedImmediate (a1 : Int32) : Int32 :=
  ((a1 <<< ((16 : Int32) &&& 31)) >>> ((16 : Int32) &&& 31))
def FG_aimOf (σ : SG) (a1 : Int32) : Int32 :=
  (if (FG_opOf a1) = (0 : Int32) then (FG_wordAt σ ((grg σ) (Int32.toNatClampNeg (FG_sOf a1)))) else (if (FG_opOf a1) = (1 : Int32) then (((gpc σ) + (1 : Int32)) + (FG_signedImmediate a1)) else (if (FG_opOf a1) = (2 : Int32) then (FG_wordAt σ (((FG_addressOf ((gpc σ) + (1 : Int32))) &&& (-268435456 : Int32)) ||| ((a1 &&& (67108863 : Int32)) <<< ((2 : Int32) &&& 31)))) else (if (FG_opOf a1) = (3 : Int32) then (FG_wordAt σ (((FG_addressOf ((gpc σ) + (1 : Int32))) &&& (-268435456 : Int32)) ||| ((a1 &&& (67108863 : Int32)) <<< ((2 : Int32) &&& 31)))) else (((gpc σ) + (1 : Int32)) + (FG_signedImmediate a1))))))
def FG_dOf (a1 : Int32) : Int32 :=
  ((jushr a1 (11 : Int32)) &&& (31 : Int32))
def FG_linkRegisterOf (a1 : Int32) : Int32 :=
  (if (FG_opOf a1) = (0 : Int32) then (if (FG_fOf a1) = (9 : Int32) then (FG_dOf a1) else (0 : Int32)) else (if (FG_opOf a1) = (1 : Int32) then (if (FG_tOf a1) < (16 : Int32) then (0 : Int32) else (31 : Int32)) else (if (FG_opOf a1) = (2 : Int32) then (0 : Int32) else (if (FG_opOf a1) = (3 : Int32) then (31 : Int32) else (0 : Int32)))))
def FG_put (σ : SG) (a1 : Int32) (a2 : Int32) : Int32 × SG :=
  (if a1 ≤ (0 : Int32) then ((0 : Int32), σ) else (if (34 : Int32) ≤ a1 then ((0 : Int32), σ) else ((0 : Int32), (srg σ (upd (grg σ) (Int32.toNatClampNeg a1) a2)))))
def FG_hOf (a1 : Int32) : Int32 :=
  ((jushr a1 (6 : Int32)) &&& (31 : Int32))
def FG_performShift (σ : SG) (a1 : Int32) : Int32 × SG :=
  (if (FG_fOf a1) = (0 : Int32) then (FG_put σ (FG_dOf a1) (((grg σ) (Int32.toNatClampNeg (FG_tOf a1))) <<< ((FG_hOf a1) &&& 31))) else (if (FG_fOf a1) = (1 : Int32) then ((1 : Int32), σ) else (if (FG_fOf a1) = (2 : Int32) then (FG_put σ (FG_dOf a1) (jushr ((grg σ) (Int32.toNatClampNeg (FG_tOf a1))) (FG_hOf a1))) else (if (FG_fOf a1) = (3 : Int32) then (FG_put σ (FG_dOf a1) (((grg σ) (Int32.toNatClampNeg (FG_tOf a1))) >>> ((FG_hOf a1) &&& 31))) else (if (FG_fOf a1) = (4 : Int32) then (FG_put σ (FG_dOf a1) (((grg σ) (Int32.toNatClampNeg (FG_tOf a1))) <<< ((((grg σ) (Int32.toNatClampNeg (FG_sOf a1))) &&& (31 : Int32)) &&& 31))) else (if (FG_fOf a1) = (5 : Int32) then ((1 : Int32), σ) else (if (FG_fOf a1) = (6 : Int32) then (FG_put σ (FG_dOf a1) (jushr ((grg σ) (Int32.toNatClampNeg (FG_tOf a1))) (((grg σ) (Int32.toNatClampNeg (FG_sOf a1))) &&& (31 : Int32)))) else (if (FG_fOf a1) = (7 : Int32) then (FG_put σ (FG_dOf a1) (((grg σ) (Int32.toNatClampNeg (FG_tOf a1))) >>> ((((grg σ) (Int32.toNatClampNeg (FG_sOf a1))) &&& (31 : Int32)) &&& 31))) else ((1 : Int32), σ)))))))))
def FG_readByte (σ : SG) : Int32 × SG :=
  (if (gir σ) < (gic σ) then (FG_put (sir σ ((gir σ) + (1 : Int32))) (2 : Int32) ((gti σ) (Int32.toNatClampNeg (gir σ)))) else (FG_put σ (2 : Int32) (-1 : Int32)))
def FG_writeByte (σ : SG) : Int32 × SG :=
  (if (256 : Int32) ≤ (goc σ) then ((0 : Int32), σ) else ((0 : Int32), (soc (sto σ (upd (gto σ) (Int32.toNatClampNeg (goc σ)) (((grg σ) (Int32.toNatClampNeg (4 : Int32))) &&& (255 : Int32)))) ((goc σ) + (1 : Int32)))))
def FG_performSystem (σ : SG) : Int32 × SG :=
  (if ((grg σ) (Int32.toNatClampNeg (2 : Int32))) = (1 : Int32) then (FG_readByte σ) else (if ((grg σ) (Int32.toNatClampNeg (2 : Int32))) = (2 : Int32) then (FG_writeByte σ) else (if ((grg σ) (Int32.toNatClampNeg (2 : Int32))) = (3 : Int32) then ((0 : Int32), (sec (sou σ (1 : Int32)) ((grg σ) (Int32.toNatClampNeg (4 : Int32))))) else ((10 : Int32), σ))))
def FG_putProduct (σ : SG) (a1 : Int64) : Int32 × SG :=
  (FG_put (FG_put σ (32 : Int32) (Int64.toInt32 (jlushr a1 (32 : Int32)))).2 (33 : Int32) (Int64.toInt32 a1))
def FG_unsigned (a1 : Int32) : Int64 :=
  ((Int32.toInt64 a1) &&& (4294967295 : Int64))
def FG_divide (σ : SG) (a1 : Int64) (a2 : Int64) : Int32 × SG :=
  (if (lg_cmp a2 (0 : Int64)) = (0 : Int32) then (FG_put (FG_put σ (32 : Int32) (Int64.toInt32 a1)).2 (33 : Int32) (-1 : Int32)) else (FG_put (FG_put σ (32 : Int32) (Int64.toInt32 (a1 - a1 / a2 * a2))).2 (33 : Int32) (Int64.toInt32 (a1 / a2))))
def FG_performHiLo (σ : SG) (a1 : Int32) : Int32 × SG :=
  (if (FG_fOf a1) = (16 : Int32) then (FG_put σ (FG_dOf a1) ((grg σ) (Int32.toNatClampNeg (32 : Int32)))) else (if (FG_fOf a1) = (17 : Int32) then (FG_put σ (32 : Int32) ((grg σ) (Int32.toNatClampNeg (FG_sOf a1)))) else (if (FG_fOf a1) = (18 : Int32) then (FG_put σ (FG_dOf a1) ((grg σ) (Int32.toNatClampNeg (33 : Int32)))) else (if (FG_fOf a1) = (19 : Int32) then (FG_put σ (33 : Int32) ((grg σ) (Int32.toNatClampNeg (FG_sOf a1)))) else (if (FG_fOf a1) = (20 : Int32) then ((1 : Int32), σ) else (if (FG_fOf a1) = (21 : Int32) then ((1 : Int32), σ) else (if (FG_fOf a1) = (22 : Int32) then ((1 : Int32), σ) else (if (FG_fOf a1) = (23 : Int32) then ((1 : Int32), σ) else (if (FG_fOf a1) = (24 : Int32) then (FG_putProduct σ ((Int32.toInt64 ((grg σ) (Int32.toNatClampNeg (FG_sOf a1)))) * (Int32.toInt64 ((grg σ) (Int32.toNatClampNeg (FG_tOf a1)))))) else (if (FG_fOf a1) = (25 : Int32) then (FG_putProduct σ ((FG_unsigned ((grg σ) (Int32.toNatClampNeg (FG_sOf a1)))) * (FG_unsigned ((grg σ) (Int32.toNatClampNeg (FG_tOf a1)))))) else (if (FG_fOf a1) = (26 : Int32) then (FG_divide σ (Int32.toInt64 ((grg σ) (Int32.toNatClampNeg (FG_sOf a1)))) (Int32.toInt64 ((grg σ) (Int32.toNatClampNeg (FG_tOf a1))))) else (if (FG_fOf a1) = (27 : Int32) then (FG_divide σ (FG_unsigned ((grg σ) (Int32.toNatClampNeg (FG_sOf a1)))) (FG_unsigned ((grg σ) (Int32.toNatClampNeg (FG_tOf a1))))) else ((1 : Int32), σ)))))))))))))
def FG_putUnlessOverflow (σ : SG) (a1 : Int32) (a2 : Int64) : Int32 × SG :=
  (if (lg_cmp a2 (Int32.toInt64 (Int64.toInt32 a2))) = (0 : Int32) then (FG_put σ a1 (Int64.toInt32 a2)) else ((4 : Int32), σ))
def FG_performArithmetic (σ : SG) (a1 : Int32) : Int32 × SG :=
  (if (FG_fOf a1) = (32 : Int32) then (FG_putUnlessOverflow σ (FG_dOf a1) ((Int32.toInt64 ((grg σ) (Int32.toNatClampNeg (FG_sOf a1)))) + (Int32.toInt64 ((grg σ) (Int32.toNatClampNeg (FG_tOf a1)))))) else (if (FG_fOf a1) = (33 : Int32) then (FG_put σ (FG_dOf a1) (((grg σ) (Int32.toNatClampNeg (FG_sOf a1))) + ((grg σ) (Int32.toNatClampNeg (FG_tOf a1))))) else (if (FG_fOf a1) = (34 : Int32) then (FG_putUnlessOverflow σ (FG_dOf a1) ((Int32.toInt64 ((grg σ) (Int32.toNatClampNeg (FG_sOf a1)))) - (Int32.toInt64 ((grg σ) (Int32.toNatClampNeg (FG_tOf a1)))))) else (if (FG_fOf a1) = (35 : Int32) then (FG_put σ (FG_dOf a1) (((grg σ) (Int32.toNatClampNeg (FG_sOf a1))) - ((grg σ) (Int32.toNatClampNeg (FG_tOf a1))))) else (if (FG_fOf a1) = (36 : Int32) then (FG_put σ (FG_dOf a1) (((grg σ) (Int32.toNatClampNeg (FG_sOf a1))) &&& ((grg σ) (Int32.toNatClampNeg (FG_tOf a1))))) else (if (FG_fOf a1) = (37 : Int32) then (FG_put σ (FG_dOf a1) (((grg σ) (Int32.toNatClampNeg (FG_sOf a1))) ||| ((grg σ) (Int32.toNatClampNeg (FG_tOf a1))))) else (if (FG_fOf a1) = (38 : Int32) then (FG_put σ (FG_dOf a1) (((grg σ) (Int32.toNatClampNeg (FG_sOf a1))) ^^^ ((grg σ) (Int32.toNatClampNeg (FG_tOf a1))))) else (if (FG_fOf a1) = (39 : Int32) then (FG_put σ (FG_dOf a1) ((((grg σ) (Int32.toNatClampNeg (FG_sOf a1))) ||| ((grg σ) (Int32.toNatClampNeg (FG_tOf a1)))) ^^^ (-1 : Int32))) else (if (FG_fOf a1) = (40 : Int32) then ((1 : Int32), σ) else (if (FG_fOf a1) = (41 : Int32) then ((1 : Int32), σ) else (if (FG_fOf a1) = (42 : Int32) then (if ((grg σ) (Int32.toNatClampNeg (FG_tOf a1))) ≤ ((grg σ) (Int32.toNatClampNeg (FG_sOf a1))) then (FG_put σ (FG_dOf a1) (0 : Int32)) else (FG_put σ (FG_dOf a1) (1 : Int32))) else (if (FG_fOf a1) = (43 : Int32) then (if (0 : Int32) ≤ (lg_cmp (FG_unsigned ((grg σ) (Int32.toNatClampNeg (FG_sOf a1)))) (FG_unsigned ((grg σ) (Int32.toNatClampNeg (FG_tOf a1))))) then (FG_put σ (FG_dOf a1) (0 : Int32)) else (FG_put σ (FG_dOf a1) (1 : Int32))) else ((1 : Int32), σ)))))))))))))
def FG_performFunction (σ : SG) (a1 : Int32) : Int32 × SG :=
  (if (8 : Int32) ≤ (FG_fOf a1) then (if (FG_fOf a1) = (12 : Int32) then (FG_performSystem σ) else (if (FG_fOf a1) = (13 : Int32) then ((5 : Int32), σ) else (if (32 : Int32) ≤ (FG_fOf a1) then (FG_performArithmetic σ a1) else (FG_performHiLo σ a1)))) else (FG_performShift σ a1))
def FG_plainImmediate (a1 : Int32) : Int32 :=
  (a1 &&& (65535 : Int32))
def FG_performImmediate (σ : SG) (a1 : Int32) : Int32 × SG :=
  (if (FG_opOf a1) = (8 : Int32) then (FG_putUnlessOverflow σ (FG_tOf a1) ((Int32.toInt64 ((grg σ) (Int32.toNatClampNeg (FG_sOf a1)))) + (Int32.toInt64 (FG_signedImmediate a1)))) else (if (FG_opOf a1) = (9 : Int32) then (FG_put σ (FG_tOf a1) (((grg σ) (Int32.toNatClampNeg (FG_sOf a1))) + (FG_signedImmediate a1))) else (if (FG_opOf a1) = (10 : Int32) then (if (FG_signedImmediate a1) ≤ ((grg σ) (Int32.toNatClampNeg (FG_sOf a1))) then (FG_put σ (FG_tOf a1) (0 : Int32)) else (FG_put σ (FG_tOf a1) (1 : Int32))) else (if (FG_opOf a1) = (11 : Int32) then (if (0 : Int32) ≤ (lg_cmp (FG_unsigned ((grg σ) (Int32.toNatClampNeg (FG_sOf a1)))) (FG_unsigned (FG_signedImmediate a1))) then (FG_put σ (FG_tOf a1) (0 : Int32)) else (FG_put σ (FG_tOf a1) (1 : Int32))) else (if (FG_opOf a1) = (12 : Int32) then (FG_put σ (FG_tOf a1) (((grg σ) (Int32.toNatClampNeg (FG_sOf a1))) &&& (FG_plainImmediate a1))) else (if (FG_opOf a1) = (13 : Int32) then (FG_put σ (FG_tOf a1) (((grg σ) (Int32.toNatClampNeg (FG_sOf a1))) ||| (FG_plainImmediate a1))) else (if (FG_opOf a1) = (14 : Int32) then (FG_put σ (FG_tOf a1) (((grg σ) (Int32.toNatClampNeg (FG_sOf a1))) ^^^ (FG_plainImmediate a1))) else (if (FG_opOf a1) = (15 : Int32) then (FG_put σ (FG_tOf a1) ((FG_plainImmediate a1) <<< ((16 : Int32) &&& 31))) else ((1 : Int32), σ)))))))))
def FG_bytesOfAccess (a1 : Int32) : Int32 :=
  (if a1 = (32 : Int32) then (1 : Int32) else (if a1 = (33 : Int32) then (2 : Int32) else (if a1 = (34 : Int32) then (0 : Int32) else (if a1 = (35 : Int32) then (4 : Int32) else (if a1 = (36 : Int32) then (1 : Int32) else (if a1 = (37 : Int32) then (2 : Int32) else (if a1 = (38 : Int32) then (0 : Int32) else (if a1 = (39 : Int32) then (0 : Int32) else (if a1 = (40 : Int32) then (1 : Int32) else (if a1 = (41 : Int32) then (2 : Int32) else (if a1 = (42 : Int32) then (0 : Int32) else (if a1 = (43 : Int32) then (4 : Int32) else (0 : Int32)))))))))))))
def LG_store (a1 a2 a3 : Int32) : Nat → SG → Int32 → Int32 → Int32 × SG
  | 0, σ, _, _ => (0, σ)
  | n + 1, σ, x4, x5 =>
    (if x5 < (0 : Int32) then ((0 : Int32), σ) else (LG_store a1 a2 a3 n (smm σ (upd (gmm σ) (Int32.toNatClampNeg (a1 + x5)) (x4 &&& (255 : Int32)))) (jushr x4 (8 : Int32)) (x5 + (-1))))
def FG_store (σ : SG) (a1 : Int32) (a2 : Int32) (a3 : Int32) : Int32 × SG :=
  (LG_store a1 a2 a3 (a2.toNatClampNeg + 1) σ a3 (a2 - (1 : Int32)))
def LG_load (σ : SG) (a1 a2 a3 : Int32) : Nat → Int32 → Int32 → Int32
  | 0, _, _ => 0
  | n + 1, x4, x5 =>
    (if a2 ≤ x5 then (if a3 = (0 : Int32) then x4 else ((x4 <<< (((32 : Int32) - ((8 : Int32) * a2)) &&& 31)) >>> (((32 : Int32) - ((8 : Int32) * a2)) &&& 31))) else (LG_load σ a1 a2 a3 n ((x4 <<< ((8 : Int32) &&& 31)) ||| ((gmm σ) (Int32.toNatClampNeg (a1 + x5)))) (x5 + 1)))
def FG_load (σ : SG) (a1 : Int32) (a2 : Int32) (a3 : Int32) : Int32 :=
  (LG_load σ a1 a2 a3 (a2.toNatClampNeg + 1) (0 : Int32) (0 : Int32))
def FG_performAccess (σ : SG) (a1 : Int32) : Int32 × SG :=
  (if (FG_bytesOfAccess (FG_opOf a1)) = (0 : Int32) then ((1 : Int32), σ) else (if (FG_opOf a1) < (40 : Int32) then (if ((((grg σ) (Int32.toNatClampNeg (FG_sOf a1))) + (FG_signedImmediate a1)) &&& ((FG_bytesOfAccess (FG_opOf a1)) - (1 : Int32))) = (0 : Int32) then (if ((((grg σ) (Int32.toNatClampNeg (FG_sOf a1))) + (FG_signedImmediate a1)) - (268435456 : Int32)) < (0 : Int32) then ((3 : Int32), σ) else (if ((((grg σ) (Int32.toNatClampNeg (FG_sOf a1))) + (FG_signedImmediate a1)) - (268435456 : Int32)) ≤ ((256 : Int32) - (FG_bytesOfAccess (FG_opOf a1))) then (if (36 : Int32) ≤ (FG_opOf a1) then (FG_put σ (FG_tOf a1) (FG_load σ ((((grg σ) (Int32.toNatClampNeg (FG_sOf a1))) + (FG_signedImmediate a1)) - (268435456 : Int32)) (FG_bytesOfAccess (FG_opOf a1)) (0 : Int32))) else (FG_put σ (FG_tOf a1) (FG_load σ ((((grg σ) (Int32.toNatClampNeg (FG_sOf a1))) + (FG_signedImmediate a1)) - (268435456 : Int32)) (FG_bytesOfAccess (FG_opOf a1)) (1 : Int32)))) else ((3 : Int32), σ))) else ((2 : Int32), σ)) else (if ((((grg σ) (Int32.toNatClampNeg (FG_sOf a1))) + (FG_signedImmediate a1)) &&& ((FG_bytesOfAccess (FG_opOf a1)) - (1 : Int32))) = (0 : Int32) then (if ((((grg σ) (Int32.toNatClampNeg (FG_sOf a1))) + (FG_signedImmediate a1)) - (268435456 : Int32)) < (0 : Int32) then (if (FG_isTextAddress σ (((grg σ) (Int32.toNatClampNeg (FG_sOf a1))) + (FG_signedImmediate a1))) = (0 : Int32) then ((3 : Int32), σ) else ((6 : Int32), σ)) else (if ((((grg σ) (Int32.toNatClampNeg (FG_sOf a1))) + (FG_signedImmediate a1)) - (268435456 : Int32)) ≤ ((256 : Int32) - (FG_bytesOfAccess (FG_opOf a1))) then (FG_store σ ((((grg σ) (Int32.toNatClampNeg (FG_sOf a1))) + (FG_signedImmediate a1)) - (268435456 : Int32)) (FG_bytesOfAccess (FG_opOf a1)) ((grg σ) (Int32.toNatClampNeg (FG_tOf a1)))) else (if (FG_isTextAddress σ (((grg σ) (Int32.toNatClampNeg (FG_sOf a1))) + (FG_signedImmediate a1))) = (0 : Int32) then ((3 : Int32), σ) else ((6 : Int32), σ)))) else ((2 : Int32), σ))))
def FG_perform (σ : SG) (a1 : Int32) : Int32 × SG :=
  (if (FG_opOf a1) = (0 : Int32) then (FG_performFunction σ a1) else (if (32 : Int32) ≤ (FG_opOf a1) then (FG_performAccess σ a1) else (FG_performImmediate σ a1)))
def FG_stepOfTwo (σ : SG) (a1 : Int32) : Int32 × SG :=
  (if (FG_isInText σ ((gpc σ) + (1 : Int32))) = (0 : Int32) then ((7 : Int32), σ) else (if (FG_isBarredFromSlots ((gtx σ) (Int32.toNatClampNeg ((gpc σ) + (1 : Int32))))) = (0 : Int32) then (if (FG_turnGoes σ a1) = (0 : Int32) then (if (FG_perform (FG_put σ (FG_linkRegisterOf a1) (FG_addressOf ((gpc σ) + (2 : Int32)))).2 ((gtx σ) (Int32.toNatClampNeg ((gpc σ) + (1 : Int32))))).1 = (0 : Int32) then ((0 : Int32), (spc (FG_perform (FG_put σ (FG_linkRegisterOf a1) (FG_addressOf ((gpc σ) + (2 : Int32)))).2 ((gtx σ) (Int32.toNatClampNeg ((gpc σ) + (1 : Int32))))).2 (((gpc σ) + (1 : Int32)) + (1 : Int32)))) else ((FG_perform (FG_put σ (FG_linkRegisterOf a1) (FG_addressOf ((gpc σ) + (2 : Int32)))).2 ((gtx σ) (Int32.toNatClampNeg ((gpc σ) + (1 : Int32))))).1, (srg (FG_perform (FG_put σ (FG_linkRegisterOf a1) (FG_addressOf ((gpc σ) + (2 : Int32)))).2 ((gtx σ) (Int32.toNatClampNeg ((gpc σ) + (1 : Int32))))).2 (upd (grg (FG_perform (FG_put σ (FG_linkRegisterOf a1) (FG_addressOf ((gpc σ) + (2 : Int32)))).2 ((gtx σ) (Int32.toNatClampNeg ((gpc σ) + (1 : Int32))))).2) (Int32.toNatClampNeg (FG_linkRegisterOf a1)) ((grg σ) (Int32.toNatClampNeg (FG_linkRegisterOf a1))))))) else (if (FG_isInText σ (FG_aimOf σ a1)) = (0 : Int32) then ((7 : Int32), σ) else (if (FG_perform (FG_put σ (FG_linkRegisterOf a1) (FG_addressOf ((gpc σ) + (2 : Int32)))).2 ((gtx σ) (Int32.toNatClampNeg ((gpc σ) + (1 : Int32))))).1 = (0 : Int32) then ((0 : Int32), (spc (FG_perform (FG_put σ (FG_linkRegisterOf a1) (FG_addressOf ((gpc σ) + (2 : Int32)))).2 ((gtx σ) (Int32.toNatClampNeg ((gpc σ) + (1 : Int32))))).2 (FG_aimOf σ a1))) else ((FG_perform (FG_put σ (FG_linkRegisterOf a1) (FG_addressOf ((gpc σ) + (2 : Int32)))).2 ((gtx σ) (Int32.toNatClampNeg ((gpc σ) + (1 : Int32))))).1, (srg (FG_perform (FG_put σ (FG_linkRegisterOf a1) (FG_addressOf ((gpc σ) + (2 : Int32)))).2 ((gtx σ) (Int32.toNatClampNeg ((gpc σ) + (1 : Int32))))).2 (upd (grg (FG_perform (FG_put σ (FG_linkRegisterOf a1) (FG_addressOf ((gpc σ) + (2 : Int32)))).2 ((gtx σ) (Int32.toNatClampNeg ((gpc σ) + (1 : Int32))))).2) (Int32.toNatClampNeg (FG_linkRegisterOf a1)) ((grg σ) (Int32.toNatClampNeg (FG_linkRegisterOf a1))))))))) else ((8 : Int32), σ)))
def FG_stepOfOne (σ : SG) (a1 : Int32) : Int32 × SG :=
  (if (FG_perform σ a1).1 = (0 : Int32) then (if (gou (FG_perform σ a1).2) = (0 : Int32) then ((FG_perform σ a1).1, (spc (FG_perform σ a1).2 ((gpc (FG_perform σ a1).2) + (1 : Int32)))) else (FG_perform σ a1)) else (FG_perform σ a1))
def LG_run (a1 : Int32) : Nat → SG → Int32 → Int32 → Int32 × SG
  | 0, σ, _, _ => (0, σ)
  | n + 1, σ, x2, x3 =>
    (if a1 < x3 then ((gou σ), σ) else (if (gou σ) = (0 : Int32) then (if (FG_isInText σ (gpc σ)) = (0 : Int32) then ((17 : Int32), (sou σ (17 : Int32))) else (if (FG_isTurn ((gtx σ) (Int32.toNatClampNeg (gpc σ)))) = (0 : Int32) then (if (1 : Int32) ≤ x2 then (if (FG_stepOfOne σ ((gtx σ) (Int32.toNatClampNeg (gpc σ)))).1 = (0 : Int32) then (LG_run a1 n (sus (FG_stepOfOne σ ((gtx σ) (Int32.toNatClampNeg (gpc σ)))).2 ((gus (FG_stepOfOne σ ((gtx σ) (Int32.toNatClampNeg (gpc σ)))).2) + (1 : Int32))) (x2 - (1 : Int32)) (x3 + 1)) else (((10 : Int32) + (FG_stepOfOne σ ((gtx σ) (Int32.toNatClampNeg (gpc σ)))).1), (sou (FG_stepOfOne σ ((gtx σ) (Int32.toNatClampNeg (gpc σ)))).2 ((10 : Int32) + (FG_stepOfOne σ ((gtx σ) (Int32.toNatClampNeg (gpc σ)))).1)))) else ((0 : Int32), σ)) else (if (2 : Int32) ≤ x2 then (if (FG_stepOfTwo σ ((gtx σ) (Int32.toNatClampNeg (gpc σ)))).1 = (0 : Int32) then (LG_run a1 n (sus (FG_stepOfTwo σ ((gtx σ) (Int32.toNatClampNeg (gpc σ)))).2 ((gus (FG_stepOfTwo σ ((gtx σ) (Int32.toNatClampNeg (gpc σ)))).2) + (2 : Int32))) (x2 - (2 : Int32)) (x3 + 1)) else (((10 : Int32) + (FG_stepOfTwo σ ((gtx σ) (Int32.toNatClampNeg (gpc σ)))).1), (sou (FG_stepOfTwo σ ((gtx σ) (Int32.toNatClampNeg (gpc σ)))).2 ((10 : Int32) + (FG_stepOfTwo σ ((gtx σ) (Int32.toNatClampNeg (gpc σ)))).1)))) else ((0 : Int32), σ)))) else ((gou σ), σ)))
def FG_run (σ : SG) (a1 : Int32) : Int32 × SG :=
  (if a1 < (1 : Int32) then ((-1 : Int32), σ) else (if a1 ≤ (2000 : Int32) then (LG_run a1 2003 σ a1 (0 : Int32)) else ((-1 : Int32), σ)))
def FG_register (σ : SG) (a1 : Int32) : Int32 :=
  (if a1 = (34 : Int32) then (gpc σ) else (if a1 = (35 : Int32) then (gus σ) else (if a1 < (0 : Int32) then (0 : Int32) else (if (34 : Int32) ≤ a1 then (0 : Int32) else ((grg σ) (Int32.toNatClampNeg a1))))))
def FG_give (σ : SG) (a1 : Int32) (a2 : Int32) : Int32 × SG :=
  (if a1 < (1 : Int32) then ((-1 : Int32), σ) else (if a1 < (34 : Int32) then ((1 : Int32), (srg σ (upd (grg σ) (Int32.toNatClampNeg a1) a2))) else ((-1 : Int32), σ)))
def FG_byteOf (σ : SG) (a1 : Int32) : Int32 :=
  (if (FG_isDataIndex a1) = (0 : Int32) then (-1 : Int32) else ((gmm σ) (Int32.toNatClampNeg a1)))
def FG_output (σ : SG) (a1 : Int32) : Int32 :=
  (if a1 < (0 : Int32) then (-1 : Int32) else (if (goc σ) ≤ a1 then (-1 : Int32) else ((gto σ) (Int32.toNatClampNeg a1))))
def FG_code (σ : SG) : Int32 :=
  (gec σ)
def ZSG : SG := ((fun _ => 0), 0, (fun _ => 0), 0, (upd (fun _ => 0) (Int32.toNatClampNeg (29 : Int32)) (268435712 : Int32)), (fun _ => 0), (fun _ => 0), 0, 0, (fun _ => 0), 0, 0, 0, 0, 0)
end
section
-- what the counts of a GuestRunner keep to
def IG (σ : SG) : Prop := (¬ gdc σ < 0 ∧ (gdc σ).toInt ≤ 64) ∧ (¬ gtc σ < 0 ∧ (gtc σ).toInt ≤ 64) ∧ (¬ gic σ < 0 ∧ (gic σ).toInt ≤ 64) ∧ ¬ gir σ < 0 ∧ ¬ goc σ < 0 ∧ (goc σ).toInt ≤ 256
theorem inv_tc {σ : SG} (h : IG σ) : IG (stc σ (gdc σ)) := ⟨h.1, h.1, h.2.2⟩
theorem and31_in (x : Int32) : vp_in (x &&& 31) 34 := by
  obtain ⟨j, hj, e⟩ := pk_andE x (m := 31) 5 (by decide)
  rw [e]
  exact vp_in_nI (by omega) (by omega)
theorem in_sOf (w : Int32) : vp_in (FG_sOf w) 34 := and31_in _
theorem in_tOf (w : Int32) : vp_in (FG_tOf w) 34 := and31_in _
theorem in_dOf (w : Int32) : vp_in (FG_dOf w) 34 := and31_in _
theorem in_linkRegisterOf (w : Int32) : vp_in (FG_linkRegisterOf w) 34 := by
  unfold FG_linkRegisterOf
  repeat' split
  all_goals first | with_reducible exact in_dOf w | exact in_c (by decide)
theorem in_data {x : Int32} (h : ¬ FG_isDataIndex x = 0) : vp_in x 256 := by
  unfold FG_isDataIndex at h
  by_cases h1 : x < 0
  · rw [if_pos h1] at h; exact absurd rfl h
  · rw [if_neg h1] at h
    by_cases h2 : (256 : Int32) ≤ x
    · rw [if_pos h2] at h; exact absurd rfl h
    · exact in_ge0lt h1 (k2_lt h2) (by decide)
theorem in_text {σ : SG} {x : Int32} (hI : IG σ) (h : ¬ FG_isInText σ x = 0) : vp_in x 64 := by
  unfold FG_isInText at h
  by_cases h1 : x < 0
  · rw [if_pos h1] at h; exact absurd rfl h
  · rw [if_neg h1] at h
    by_cases h2 : gtc σ ≤ x
    · rw [if_pos h2] at h; exact absurd rfl h
    · exact in_ge0lt h1 (k2_lt h2) hI.2.1.2
def LD (a b : Int32) : Prop := 0 ≤ a.toInt ∧ 0 < b.toInt ∧ b.toInt ≤ 4 ∧ a.toInt + b.toInt ≤ 256
theorem bytes_in {op : Int32} (h : ¬ FG_bytesOfAccess op = 0) : FG_bytesOfAccess op = 1 ∨ FG_bytesOfAccess op = 2 ∨ FG_bytesOfAccess op = 4 := by
  revert h
  unfold FG_bytesOfAccess
  repeat' split
  all_goals decide
theorem ld_ok {op a : Int32} (h : ¬ FG_bytesOfAccess op = 0) (h0 : ¬ a < 0) (h1 : a ≤ 256 - FG_bytesOfAccess op) : LD a (FG_bytesOfAccess op) := by
  rw [ti_lt, ti_0] at h0
  rcases bytes_in h with e | e | e <;> rw [e] at h1 ⊢ <;> rw [ti_le] at h1
  · have e1 : ((256 : Int32) - 1).toInt = 255 := by decide
    exact ⟨by omega, by decide, by decide, by rw [show (1 : Int32).toInt = 1 by decide]; omega⟩
  · have e1 : ((256 : Int32) - 2).toInt = 254 := by decide
    exact ⟨by omega, by decide, by decide, by rw [show (2 : Int32).toInt = 2 by decide]; omega⟩
  · have e1 : ((256 : Int32) - 4).toInt = 252 := by decide
    exact ⟨by omega, by decide, by decide, by rw [show (4 : Int32).toInt = 4 by decide]; omega⟩
def JLoad (a b : Int32) (n : Nat) (_ x : Int32) : Prop := LD a b ∧ JUp b n x
theorem jload_0 {a b x y : Int32} (h : JLoad a b 0 x y) : False := jup_0 h.2
theorem jload_s {a b x : Int32} (h : LD a b) : JLoad a b (b.toNatClampNeg + 1) x 0 := by
  obtain ⟨h1, h2, h3, h4⟩ := h
  refine ⟨⟨h1, h2, h3, h4⟩, ?_, ?_, ?_⟩
  · rw [ti_0]; omega
  · rw [ti_0]; omega
  · rw [ti_0]
    have e : (b.toNatClampNeg : Int) = b.toInt := by
      rw [Int32.toNatClampNeg]; omega
    omega
theorem jload_b {a b x y z : Int32} {n : Nat} (h : JLoad a b (n + 1) x y) (hc : ¬ b ≤ y) : JLoad a b n z (y + 1) := ⟨h.1, jup_b h.2 hc h.1.2.2.1⟩
theorem jload_in {a b x y : Int32} {n : Nat} (h : JLoad a b (n + 1) x y) (hc : ¬ b ≤ y) : vp_in (a + y) 256 := by
  obtain ⟨⟨h1, h2, h3, h4⟩, h5, h6, h7⟩ := h
  rw [ti_le] at hc
  have e : (a + y).toInt = a.toInt + y.toInt := ti_add (by omega) (by omega)
  exact vp_in_iff.mpr ⟨by omega, by omega⟩
def JStore (a b : Int32) (n : Nat) (x : Int32) : Prop := LD a b ∧ -1 ≤ x.toInt ∧ x.toInt < b.toInt ∧ x.toInt + 2 ≤ n
theorem jstore_0 {a b x : Int32} (h : JStore a b 0 x) : False := by
  obtain ⟨-, h1, h2, h3⟩ := h
  omega
theorem jstore_s {a b : Int32} (h : LD a b) : JStore a b (b.toNatClampNeg + 1) (b - 1) := by
  obtain ⟨h1, h2, h3, h4⟩ := h
  have e : (b.toNatClampNeg : Int) = b.toInt := by
    rw [Int32.toNatClampNeg]; omega
  have e2 : (b - 1).toInt = b.toInt - 1 := by
    rw [ti_sub (by rw [ti_1]; omega) (by rw [ti_1]; omega), ti_1]
  exact ⟨⟨h1, h2, h3, h4⟩, by omega, by omega, by omega⟩
theorem jstore_b {a b x : Int32} {n : Nat} (h : JStore a b (n + 1) x) (hc : ¬ x < 0) : JStore a b n (x + (-1)) := by
  obtain ⟨hl, h1, h2, h3⟩ := h
  rw [ti_lt, ti_0] at hc
  have em : (-1 : Int32).toInt = -1 := by decide
  have hb := hl.2.2.1
  have e2 : (x + (-1)).toInt = x.toInt + (-1) := by
    rw [ti_add (by rw [em]; omega) (by rw [em]; omega), em]
  exact ⟨hl, by omega, by omega, by omega⟩
theorem jstore_in {a b x : Int32} {n : Nat} (h : JStore a b (n + 1) x) (hc : ¬ x < 0) : vp_in (a + x) 256 := by
  obtain ⟨⟨h1, h2, h3, h4⟩, h5, h6, h7⟩ := h
  rw [ti_lt, ti_0] at hc
  have e : (a + x).toInt = a.toInt + x.toInt := ti_add (by omega) (by omega)
  exact vp_in_iff.mpr ⟨by omega, by omega⟩
theorem jup_s {x : Int32} (h : ¬ x < 0 ∧ x.toInt ≤ 64) : JUp x 66 0 := by
  obtain ⟨h1, h2⟩ := h
  rw [ti_lt, ti_0] at h1
  exact ⟨by rw [ti_0]; omega, by rw [ti_0]; omega, by rw [ti_0]; omega⟩
theorem jup_s34 : JUp 34 36 0 := ⟨by decide, by decide, by decide⟩
def JRun (a : Int32) (n : Nat) (x : Int32) : Prop := a.toInt ≤ 2000 ∧ 0 ≤ x.toInt ∧ x.toInt ≤ a.toInt + 1 ∧ a.toInt + 2 ≤ x.toInt + n
theorem jrun_0 {a x : Int32} (h : JRun a 0 x) : False := by
  obtain ⟨-, h1, h2, h3⟩ := h
  omega
theorem jrun_s {a : Int32} (h1 : ¬ a < 1) (h2 : a ≤ 2000) : JRun a 2003 0 := by
  rw [ti_lt, ti_1] at h1
  rw [ti_le, show (2000 : Int32).toInt = 2000 by decide] at h2
  exact ⟨by omega, by rw [ti_0]; omega, by rw [ti_0]; omega, by rw [ti_0]; omega⟩
theorem jrun_b {a x : Int32} {n : Nat} (h : JRun a (n + 1) x) (hc : ¬ a < x) : JRun a n (x + 1) := by
  obtain ⟨h0, h1, h2, h3⟩ := h
  rw [ti_lt] at hc
  have e : (x + 1).toInt = x.toInt + 1 := by
    rw [ti_add (by rw [ti_1]; omega) (by rw [ti_1]; omega), ti_1]
  exact ⟨h0, by omega, by omega, by omega⟩
-- the counts are kept
theorem igs_dr {σ : SG} {v : (Nat → Int32)} (h : IG σ) : IG (sdr σ v) := h
theorem igs_tx {σ : SG} {v : (Nat → Int32)} (h : IG σ) : IG (stx σ v) := h
theorem igs_rg {σ : SG} {v : (Nat → Int32)} (h : IG σ) : IG (srg σ v) := h
theorem igs_mm {σ : SG} {v : (Nat → Int32)} (h : IG σ) : IG (smm σ v) := h
theorem igs_ti {σ : SG} {v : (Nat → Int32)} (h : IG σ) : IG (sti σ v) := h
theorem igs_to {σ : SG} {v : (Nat → Int32)} (h : IG σ) : IG (sto σ v) := h
theorem igs_pc {σ : SG} {v : Int32} (h : IG σ) : IG (spc σ v) := h
theorem igs_us {σ : SG} {v : Int32} (h : IG σ) : IG (sus σ v) := h
theorem igs_ou {σ : SG} {v : Int32} (h : IG σ) : IG (sou σ v) := h
theorem igs_ec {σ : SG} {v : Int32} (h : IG σ) : IG (sec σ v) := h
theorem igP {c : Prop} [Decidable c] {a b : Int32 × SG} (ha : IG a.2) (hb : IG b.2) : IG (if c then a else b).2 := by
  split
  · exact ha
  · exact hb
theorem inv_put {σ : SG} {k v : Int32} (h : IG σ) : IG (FG_put σ k v).2 := by
  unfold FG_put
  repeat' (with_reducible refine igP ?_ ?_)
  all_goals first | with_reducible exact h | with_reducible exact igs_rg h
theorem inc_ok {x : Int32} {k : Int} (h0 : ¬ x < 0) (h1 : x.toInt < k) (hk : k ≤ 100000) : ¬ x + 1 < 0 ∧ (x + 1).toInt ≤ k := by
  rw [ti_lt, ti_0] at h0 ⊢
  have e : (x + 1).toInt = x.toInt + 1 := by
    rw [ti_add (by rw [ti_1]; omega) (by rw [ti_1]; omega), ti_1]
  omega
theorem inv_readByte {σ : SG} (h : IG σ) : IG (FG_readByte σ).2 := by
  unfold FG_readByte
  split
  · rename_i c
    refine inv_put ⟨h.1, h.2.1, h.2.2.1, (inc_ok (k := 64) h.2.2.2.1 ?_ (by decide)).1, h.2.2.2.2⟩
    rw [ti_lt] at c
    have := h.2.2.1.2
    omega
  · exact inv_put h
theorem inv_writeByte {σ : SG} (h : IG σ) : IG (FG_writeByte σ).2 := by
  unfold FG_writeByte
  split
  · exact h
  · rename_i c
    rw [ti_le, show (256 : Int32).toInt = 256 by decide] at c
    exact ⟨h.1, h.2.1, h.2.2.1, h.2.2.2.1, inc_ok (k := 256) h.2.2.2.2.1 (by omega) (by decide)⟩
theorem inv_performSystem {σ : SG} (h : IG σ) : IG (FG_performSystem σ).2 := by
  unfold FG_performSystem
  repeat' (with_reducible refine igP ?_ ?_)
  all_goals first | with_reducible exact inv_readByte h | with_reducible exact inv_writeByte h | with_reducible exact h | with_reducible exact igs_ec (igs_ou h)
theorem inv_putUnlessOverflow {σ : SG} {k : Int32} {v : Int64} (h : IG σ) : IG (FG_putUnlessOverflow σ k v).2 := by
  unfold FG_putUnlessOverflow
  repeat' (with_reducible refine igP ?_ ?_)
  all_goals first | with_reducible exact inv_put h | with_reducible exact h
theorem inv_putProduct {σ : SG} {v : Int64} (h : IG σ) : IG (FG_putProduct σ v).2 := by
  unfold FG_putProduct
  exact inv_put (inv_put h)
theorem inv_divide {σ : SG} {v w : Int64} (h : IG σ) : IG (FG_divide σ v w).2 := by
  unfold FG_divide
  repeat' (with_reducible refine igP ?_ ?_)
  all_goals with_reducible exact inv_put (inv_put h)
theorem inv_performShift {σ : SG} {w : Int32} (h : IG σ) : IG (FG_performShift σ w).2 := by
  unfold FG_performShift
  repeat' (with_reducible refine igP ?_ ?_)
  all_goals first | with_reducible exact h | with_reducible exact inv_put h
theorem inv_performHiLo {σ : SG} {w : Int32} (h : IG σ) : IG (FG_performHiLo σ w).2 := by
  unfold FG_performHiLo
  repeat' (with_reducible refine igP ?_ ?_)
  all_goals first | with_reducible exact h | with_reducible exact inv_put h | with_reducible exact inv_putProduct h | with_reducible exact inv_divide h
theorem inv_performArithmetic {σ : SG} {w : Int32} (h : IG σ) : IG (FG_performArithmetic σ w).2 := by
  unfold FG_performArithmetic
  repeat' (with_reducible refine igP ?_ ?_)
  all_goals first | with_reducible exact h | with_reducible exact inv_put h | with_reducible exact inv_putUnlessOverflow h
theorem inv_performImmediate {σ : SG} {w : Int32} (h : IG σ) : IG (FG_performImmediate σ w).2 := by
  unfold FG_performImmediate
  repeat' (with_reducible refine igP ?_ ?_)
  all_goals first | with_reducible exact h | with_reducible exact inv_put h | with_reducible exact inv_putUnlessOverflow h
theorem inv_performFunction {σ : SG} {w : Int32} (h : IG σ) : IG (FG_performFunction σ w).2 := by
  unfold FG_performFunction
  repeat' (with_reducible refine igP ?_ ?_)
  all_goals first | with_reducible exact h | with_reducible exact inv_performSystem h | with_reducible exact inv_performShift h | with_reducible exact inv_performHiLo h | with_reducible exact inv_performArithmetic h
theorem inv_LG_store (a1 a2 a3 : Int32) : ∀ (n : Nat) (σ : SG) (x4 x5 : Int32), IG σ → IG (LG_store a1 a2 a3 n σ x4 x5).2 := by
  intro n
  induction n with
  | zero => intro σ x4 x5 h; exact h
  | succ n ih =>
    intro σ x4 x5 h
    rw [LG_store]
    split
    · exact h
    · exact ih _ _ _ (igs_mm h)
theorem inv_store {σ : SG} {a b c : Int32} (h : IG σ) : IG (FG_store σ a b c).2 := by
  unfold FG_store
  exact inv_LG_store _ _ _ _ _ _ _ h
theorem inv_performAccess {σ : SG} {w : Int32} (h : IG σ) : IG (FG_performAccess σ w).2 := by
  unfold FG_performAccess
  repeat' (with_reducible refine igP ?_ ?_)
  all_goals first | with_reducible exact h | with_reducible exact inv_put h | with_reducible exact inv_store h
theorem inv_perform {σ : SG} {w : Int32} (h : IG σ) : IG (FG_perform σ w).2 := by
  unfold FG_perform
  repeat' (with_reducible refine igP ?_ ?_)
  all_goals first | with_reducible exact inv_performFunction h | with_reducible exact inv_performAccess h | with_reducible exact inv_performImmediate h
theorem inv_stepOfOne {σ : SG} {w : Int32} (h : IG σ) : IG (FG_stepOfOne σ w).2 := by
  unfold FG_stepOfOne
  repeat' (with_reducible refine igP ?_ ?_)
  all_goals first | with_reducible exact inv_perform h | with_reducible exact igs_pc (inv_perform h)
theorem inv_stepOfTwo {σ : SG} {w : Int32} (h : IG σ) : IG (FG_stepOfTwo σ w).2 := by
  unfold FG_stepOfTwo
  repeat' (with_reducible refine igP ?_ ?_)
  all_goals first | with_reducible exact h | with_reducible exact igs_pc (inv_perform (inv_put h)) | with_reducible exact igs_rg (inv_perform (inv_put h))
end
section
abbrev SM : Type := (Nat → Int32) × Int32 × (Nat → Int32) × Int32 × (Nat → Int32) × (Nat → Int32) × Int32 × Int32 × (Nat → Int32) × Int32 × (Nat → Int32) × Int32 × Int32 × Int32 × Int32 × Int32 × Int32 × Int32 × Int32
def gmty (σ : SM) : (Nat → Int32) := σ.1
def smty (σ : SM) (v : (Nat → Int32)) : SM := (v, σ.2)
def gmts (σ : SM) : Int32 := σ.2.1
def smts (σ : SM) (v : Int32) : SM := (σ.1, v, σ.2.2)
def gmtx (σ : SM) : (Nat → Int32) := σ.2.2.1
def smtx (σ : SM) (v : (Nat → Int32)) : SM := (σ.1, σ.2.1, v, σ.2.2.2)
def gmsz (σ : SM) : Int32 := σ.2.2.2.1
def smsz (σ : SM) (v : Int32) : SM := (σ.1, σ.2.1, σ.2.2.1, v, σ.2.2.2.2)
def gmby (σ : SM) : (Nat → Int32) := σ.2.2.2.2.1
def smby (σ : SM) (v : (Nat → Int32)) : SM := (σ.1, σ.2.1, σ.2.2.1, σ.2.2.2.1, v, σ.2.2.2.2.2)
def gmin (σ : SM) : (Nat → Int32) := σ.2.2.2.2.2.1
def smin (σ : SM) (v : (Nat → Int32)) : SM := (σ.1, σ.2.1, σ.2.2.1, σ.2.2.2.1, σ.2.2.2.2.1, v, σ.2.2.2.2.2.2)
def gmis (σ : SM) : Int32 := σ.2.2.2.2.2.2.1
def smis (σ : SM) (v : Int32) : SM := (σ.1, σ.2.1, σ.2.2.1, σ.2.2.2.1, σ.2.2.2.2.1, σ.2.2.2.2.2.1, v, σ.2.2.2.2.2.2.2)
def gmia (σ : SM) : Int32 := σ.2.2.2.2.2.2.2.1
def smia (σ : SM) (v : Int32) : SM := (σ.1, σ.2.1, σ.2.2.1, σ.2.2.2.1, σ.2.2.2.2.1, σ.2.2.2.2.2.1, σ.2.2.2.2.2.2.1, v, σ.2.2.2.2.2.2.2.2)
def gmou (σ : SM) : (Nat → Int32) := σ.2.2.2.2.2.2.2.2.1
def smou (σ : SM) (v : (Nat → Int32)) : SM := (σ.1, σ.2.1, σ.2.2.1, σ.2.2.2.1, σ.2.2.2.2.1, σ.2.2.2.2.2.1, σ.2.2.2.2.2.2.1, σ.2.2.2.2.2.2.2.1, v, σ.2.2.2.2.2.2.2.2.2)
def gmos (σ : SM) : Int32 := σ.2.2.2.2.2.2.2.2.2.1
def smos (σ : SM) (v : Int32) : SM := (σ.1, σ.2.1, σ.2.2.1, σ.2.2.2.1, σ.2.2.2.2.1, σ.2.2.2.2.2.1, σ.2.2.2.2.2.2.1, σ.2.2.2.2.2.2.2.1, σ.2.2.2.2.2.2.2.2.1, v, σ.2.2.2.2.2.2.2.2.2.2)
def gmrg (σ : SM) : (Nat → Int32) := σ.2.2.2.2.2.2.2.2.2.2.1
def smrg (σ : SM) (v : (Nat → Int32)) : SM := (σ.1, σ.2.1, σ.2.2.1, σ.2.2.2.1, σ.2.2.2.2.1, σ.2.2.2.2.2.1, σ.2.2.2.2.2.2.1, σ.2.2.2.2.2.2.2.1, σ.2.2.2.2.2.2.2.2.1, σ.2.2.2.2.2.2.2.2.2.1, v, σ.2.2.2.2.2.2.2.2.2.2.2)
def gmpc (σ : SM) : Int32 := σ.2.2.2.2.2.2.2.2.2.2.2.1
def smpc (σ : SM) (v : Int32) : SM := (σ.1, σ.2.1, σ.2.2.1, σ.2.2.2.1, σ.2.2.2.2.1, σ.2.2.2.2.2.1, σ.2.2.2.2.2.2.1, σ.2.2.2.2.2.2.2.1, σ.2.2.2.2.2.2.2.2.1, σ.2.2.2.2.2.2.2.2.2.1, σ.2.2.2.2.2.2.2.2.2.2.1, v, σ.2.2.2.2.2.2.2.2.2.2.2.2)
def gmus (σ : SM) : Int32 := σ.2.2.2.2.2.2.2.2.2.2.2.2.1
def smus (σ : SM) (v : Int32) : SM := (σ.1, σ.2.1, σ.2.2.1, σ.2.2.2.1, σ.2.2.2.2.1, σ.2.2.2.2.2.1, σ.2.2.2.2.2.2.1, σ.2.2.2.2.2.2.2.1, σ.2.2.2.2.2.2.2.2.1, σ.2.2.2.2.2.2.2.2.2.1, σ.2.2.2.2.2.2.2.2.2.2.1, σ.2.2.2.2.2.2.2.2.2.2.2.1, v, σ.2.2.2.2.2.2.2.2.2.2.2.2.2)
def gmen (σ : SM) : Int32 := σ.2.2.2.2.2.2.2.2.2.2.2.2.2.1
def smen (σ : SM) (v : Int32) : SM := (σ.1, σ.2.1, σ.2.2.1, σ.2.2.2.1, σ.2.2.2.2.1, σ.2.2.2.2.2.1, σ.2.2.2.2.2.2.1, σ.2.2.2.2.2.2.2.1, σ.2.2.2.2.2.2.2.2.1, σ.2.2.2.2.2.2.2.2.2.1, σ.2.2.2.2.2.2.2.2.2.2.1, σ.2.2.2.2.2.2.2.2.2.2.2.1, σ.2.2.2.2.2.2.2.2.2.2.2.2.1, v, σ.2.2.2.2.2.2.2.2.2.2.2.2.2.2)
def gmtr (σ : SM) : Int32 := σ.2.2.2.2.2.2.2.2.2.2.2.2.2.2.1
def smtr (σ : SM) (v : Int32) : SM := (σ.1, σ.2.1, σ.2.2.1, σ.2.2.2.1, σ.2.2.2.2.1, σ.2.2.2.2.2.1, σ.2.2.2.2.2.2.1, σ.2.2.2.2.2.2.2.1, σ.2.2.2.2.2.2.2.2.1, σ.2.2.2.2.2.2.2.2.2.1, σ.2.2.2.2.2.2.2.2.2.2.1, σ.2.2.2.2.2.2.2.2.2.2.2.1, σ.2.2.2.2.2.2.2.2.2.2.2.2.1, σ.2.2.2.2.2.2.2.2.2.2.2.2.2.1, v, σ.2.2.2.2.2.2.2.2.2.2.2.2.2.2.2)
def gmex (σ : SM) : Int32 := σ.2.2.2.2.2.2.2.2.2.2.2.2.2.2.2.1
def smex (σ : SM) (v : Int32) : SM := (σ.1, σ.2.1, σ.2.2.1, σ.2.2.2.1, σ.2.2.2.2.1, σ.2.2.2.2.2.1, σ.2.2.2.2.2.2.1, σ.2.2.2.2.2.2.2.1, σ.2.2.2.2.2.2.2.2.1, σ.2.2.2.2.2.2.2.2.2.1, σ.2.2.2.2.2.2.2.2.2.2.1, σ.2.2.2.2.2.2.2.2.2.2.2.1, σ.2.2.2.2.2.2.2.2.2.2.2.2.1, σ.2.2.2.2.2.2.2.2.2.2.2.2.2.1, σ.2.2.2.2.2.2.2.2.2.2.2.2.2.2.1, v, σ.2.2.2.2.2.2.2.2.2.2.2.2.2.2.2.2)
def gmgo (σ : SM) : Int32 := σ.2.2.2.2.2.2.2.2.2.2.2.2.2.2.2.2.1
def smgo (σ : SM) (v : Int32) : SM := (σ.1, σ.2.1, σ.2.2.1, σ.2.2.2.1, σ.2.2.2.2.1, σ.2.2.2.2.2.1, σ.2.2.2.2.2.2.1, σ.2.2.2.2.2.2.2.1, σ.2.2.2.2.2.2.2.2.1, σ.2.2.2.2.2.2.2.2.2.1, σ.2.2.2.2.2.2.2.2.2.2.1, σ.2.2.2.2.2.2.2.2.2.2.2.1, σ.2.2.2.2.2.2.2.2.2.2.2.2.1, σ.2.2.2.2.2.2.2.2.2.2.2.2.2.1, σ.2.2.2.2.2.2.2.2.2.2.2.2.2.2.1, σ.2.2.2.2.2.2.2.2.2.2.2.2.2.2.2.1, v, σ.2.2.2.2.2.2.2.2.2.2.2.2.2.2.2.2.2)
def gmgl (σ : SM) : Int32 := σ.2.2.2.2.2.2.2.2.2.2.2.2.2.2.2.2.2.1
def smgl (σ : SM) (v : Int32) : SM := (σ.1, σ.2.1, σ.2.2.1, σ.2.2.2.1, σ.2.2.2.2.1, σ.2.2.2.2.2.1, σ.2.2.2.2.2.2.1, σ.2.2.2.2.2.2.2.1, σ.2.2.2.2.2.2.2.2.1, σ.2.2.2.2.2.2.2.2.2.1, σ.2.2.2.2.2.2.2.2.2.2.1, σ.2.2.2.2.2.2.2.2.2.2.2.1, σ.2.2.2.2.2.2.2.2.2.2.2.2.1, σ.2.2.2.2.2.2.2.2.2.2.2.2.2.1, σ.2.2.2.2.2.2.2.2.2.2.2.2.2.2.1, σ.2.2.2.2.2.2.2.2.2.2.2.2.2.2.2.1, σ.2.2.2.2.2.2.2.2.2.2.2.2.2.2.2.2.1, v, σ.2.2.2.2.2.2.2.2.2.2.2.2.2.2.2.2.2.2)
def gmlk (σ : SM) : Int32 := σ.2.2.2.2.2.2.2.2.2.2.2.2.2.2.2.2.2.2
def smlk (σ : SM) (v : Int32) : SM := (σ.1, σ.2.1, σ.2.2.1, σ.2.2.2.1, σ.2.2.2.2.1, σ.2.2.2.2.2.1, σ.2.2.2.2.2.2.1, σ.2.2.2.2.2.2.2.1, σ.2.2.2.2.2.2.2.2.1, σ.2.2.2.2.2.2.2.2.2.1, σ.2.2.2.2.2.2.2.2.2.2.1, σ.2.2.2.2.2.2.2.2.2.2.2.1, σ.2.2.2.2.2.2.2.2.2.2.2.2.1, σ.2.2.2.2.2.2.2.2.2.2.2.2.2.1, σ.2.2.2.2.2.2.2.2.2.2.2.2.2.2.1, σ.2.2.2.2.2.2.2.2.2.2.2.2.2.2.2.1, σ.2.2.2.2.2.2.2.2.2.2.2.2.2.2.2.2.1, σ.2.2.2.2.2.2.2.2.2.2.2.2.2.2.2.2.2.1, v)
abbrev wM (q : Nat → Nat) (cA : Nat → ClassId) (σ : SM) : va_W := [(q 0, .inr (1, [.ref (q 1), .int (gmts σ), .ref (q 2), .int (gmsz σ), .ref (q 3), .ref (q 4), .int (gmis σ), .int (gmia σ), .ref (q 5), .int (gmos σ), .ref (q 6), .int (gmpc σ), .int (gmus σ), .int (gmen σ), .int (gmtr σ), .int (gmex σ), .int (gmgo σ), .int (gmgl σ), .int (gmlk σ)])), (q 1, .inl (cA 1, 64, .inl (gmty σ))), (q 2, .inl (cA 2, 64, .inl (gmtx σ))), (q 3, .inl (cA 3, 256, .inl (gmby σ))), (q 4, .inl (cA 4, 64, .inl (gmin σ))), (q 5, .inl (cA 5, 256, .inl (gmou σ))), (q 6, .inl (cA 6, 34, .inl (gmrg σ)))]
abbrev tM (cA : Nat → ClassId) : List (ClassId × FieldType) := [(cA 1, .int), (cA 2, .int), (cA 3, .int), (cA 4, .int), (cA 5, .int), (cA 6, .int)]
def FM_word (σ : SM) (a1 : Int32) : Int32 × SM :=
  (if (gmts σ) = (64 : Int32) then ((-2 : Int32), σ) else (((gmts σ) + (1 : Int32)), (smts (smty σ (upd (gmty σ) (Int32.toNatClampNeg (gmts σ)) a1)) ((gmts σ) + (1 : Int32)))))
def FM_set (σ : SM) (a1 : Int32) (a2 : Int32) : Int32 × SM :=
  (if a1 < (0 : Int32) then ((-1 : Int32), σ) else (if a1 < (gmts σ) then ((1 : Int32), (smty σ (upd (gmty σ) (Int32.toNatClampNeg a1) a2))) else ((-1 : Int32), σ)))
def FM_input (σ : SM) (a1 : Int32) : Int32 × SM :=
  (if a1 < (0 : Int32) then ((-1 : Int32), σ) else (if a1 ≤ (255 : Int32) then (if (gmis σ) = (64 : Int32) then ((-2 : Int32), σ) else (((gmis σ) + (1 : Int32)), (smis (smin σ (upd (gmin σ) (Int32.toNatClampNeg (gmis σ)) a1)) ((gmis σ) + (1 : Int32))))) else ((-1 : Int32), σ)))
def FM_data (σ : SM) (a1 : Int32) (a2 : Int32) : Int32 × SM :=
  (if a1 < (0 : Int32) then ((-1 : Int32), σ) else (if (255 : Int32) < a1 then ((-1 : Int32), σ) else (if a2 < (0 : Int32) then ((-1 : Int32), σ) else (if a2 ≤ (255 : Int32) then ((1 : Int32), (smby σ (upd (gmby σ) (Int32.toNatClampNeg a1) a2))) else ((-1 : Int32), σ)))))
def LM_begin2 : Nat → SM → Int32 → Int32 × SM
  | 0, σ, _ => (0, σ)
  | n + 1, σ, x1 =>
    (if (34 : Int32) ≤ x1 then ((gmsz σ), (smex (smtr (smen (smus (smpc (smrg (smos (smia σ (0 : Int32)) (0 : Int32)) (upd (gmrg σ) (Int32.toNatClampNeg (29 : Int32)) (268435712 : Int32))) (0 : Int32)) (0 : Int32)) (0 : Int32)) (0 : Int32)) (0 : Int32))) else (LM_begin2 n (smrg σ (upd (gmrg σ) (Int32.toNatClampNeg x1) (0 : Int32))) (x1 + 1)))
def LM_begin1 : Nat → SM → Int32 → Int32 × SM
  | 0, σ, _ => (0, σ)
  | n + 1, σ, x1 =>
    (if (gmsz σ) ≤ x1 then (LM_begin2 36 σ (0 : Int32)) else (LM_begin1 n (smtx σ (upd (gmtx σ) (Int32.toNatClampNeg x1) ((gmty σ) (Int32.toNatClampNeg x1)))) (x1 + 1)))
def FM_begin (σ : SM) : Int32 × SM :=
  (LM_begin1 66 (smsz σ (gmts σ)) (0 : Int32))
def FM_op (a1 : Int32) : Int32 :=
  (jushr a1 (26 : Int32))
def FM_first (a1 : Int32) : Int32 :=
  ((jushr a1 (21 : Int32)) &&& (31 : Int32))
def FM_second (a1 : Int32) : Int32 :=
  ((jushr a1 (16 : Int32)) &&& (31 : Int32))
def FM_third (a1 : Int32) : Int32 :=
  ((jushr a1 (11 : Int32)) &&& (31 : Int32))
def FM_signed (a1 : Int32) : Int32 :=
  ((a1 <<< ((16 : Int32) &&& 31)) >>> ((16 : Int32) &&& 31))
def FM_put (σ : SM) (a1 : Int32) (a2 : Int32) : SM :=
  (if a1 = (0 : Int32) then (smrg σ (upd (gmrg σ) (Int32.toNatClampNeg a1) (0 : Int32))) else (smrg σ (upd (gmrg σ) (Int32.toNatClampNeg a1) a2)))
def FM_leads (a1 : Int32) : Int32 :=
  (if (FM_op a1) = (0 : Int32) then (if (a1 &&& (63 : Int32)) = (8 : Int32) then (1 : Int32) else (if (a1 &&& (63 : Int32)) = (9 : Int32) then (1 : Int32) else (if (FM_op a1) = (1 : Int32) then (if (FM_second a1) = (0 : Int32) then (1 : Int32) else (if (FM_second a1) = (1 : Int32) then (1 : Int32) else (if (FM_second a1) = (16 : Int32) then (1 : Int32) else (if (FM_second a1) = (17 : Int32) then (1 : Int32) else (if (FM_op a1) < (2 : Int32) then (0 : Int32) else (if (7 : Int32) < (FM_op a1) then (0 : Int32) else (1 : Int32))))))) else (if (FM_op a1) < (2 : Int32) then (0 : Int32) else (if (7 : Int32) < (FM_op a1) then (0 : Int32) else (1 : Int32)))))) else (if (FM_op a1) = (1 : Int32) then (if (FM_second a1) = (0 : Int32) then (1 : Int32) else (if (FM_second a1) = (1 : Int32) then (1 : Int32) else (if (FM_second a1) = (16 : Int32) then (1 : Int32) else (if (FM_second a1) = (17 : Int32) then (1 : Int32) else (if (FM_op a1) < (2 : Int32) then (0 : Int32) else (if (7 : Int32) < (FM_op a1) then (0 : Int32) else (1 : Int32))))))) else (if (FM_op a1) < (2 : Int32) then (0 : Int32) else (if (7 : Int32) < (FM_op a1) then (0 : Int32) else (1 : Int32)))))
def FM_calls (a1 : Int32) : Int32 :=
  (if (FM_op a1) = (0 : Int32) then (if (a1 &&& (63 : Int32)) = (12 : Int32) then (1 : Int32) else (if (a1 &&& (63 : Int32)) = (13 : Int32) then (1 : Int32) else (0 : Int32))) else (0 : Int32))
def FM_aim (σ : SM) (a1 : Int32) : SM :=
  (if (FM_op a1) = (0 : Int32) then (if (a1 &&& (63 : Int32)) = (9 : Int32) then (smlk (smgl (smgo σ (1 : Int32)) ((gmrg σ) (Int32.toNatClampNeg (FM_first a1)))) (FM_third a1)) else (smlk (smgl (smgo σ (1 : Int32)) ((gmrg σ) (Int32.toNatClampNeg (FM_first a1)))) (0 : Int32))) else (if (FM_op a1) = (1 : Int32) then (if ((FM_second a1) - (FM_second a1) / (2 : Int32) * (2 : Int32)) = (0 : Int32) then (if (0 : Int32) ≤ ((gmrg σ) (Int32.toNatClampNeg (FM_first a1))) then (if (FM_second a1) ≤ (15 : Int32) then (smlk (smgl (smgo σ (0 : Int32)) ((4194304 : Int32) + ((4 : Int32) * (((gmpc σ) + (1 : Int32)) + (FM_signed a1))))) (0 : Int32)) else (smlk (smgl (smgo σ (0 : Int32)) ((4194304 : Int32) + ((4 : Int32) * (((gmpc σ) + (1 : Int32)) + (FM_signed a1))))) (31 : Int32))) else (if (FM_second a1) ≤ (15 : Int32) then (smlk (smgl (smgo σ (1 : Int32)) ((4194304 : Int32) + ((4 : Int32) * (((gmpc σ) + (1 : Int32)) + (FM_signed a1))))) (0 : Int32)) else (smlk (smgl (smgo σ (1 : Int32)) ((4194304 : Int32) + ((4 : Int32) * (((gmpc σ) + (1 : Int32)) + (FM_signed a1))))) (31 : Int32)))) else (if ((gmrg σ) (Int32.toNatClampNeg (FM_first a1))) < (0 : Int32) then (if (FM_second a1) ≤ (15 : Int32) then (smlk (smgl (smgo σ (0 : Int32)) ((4194304 : Int32) + ((4 : Int32) * (((gmpc σ) + (1 : Int32)) + (FM_signed a1))))) (0 : Int32)) else (smlk (smgl (smgo σ (0 : Int32)) ((4194304 : Int32) + ((4 : Int32) * (((gmpc σ) + (1 : Int32)) + (FM_signed a1))))) (31 : Int32))) else (if (FM_second a1) ≤ (15 : Int32) then (smlk (smgl (smgo σ (1 : Int32)) ((4194304 : Int32) + ((4 : Int32) * (((gmpc σ) + (1 : Int32)) + (FM_signed a1))))) (0 : Int32)) else (smlk (smgl (smgo σ (1 : Int32)) ((4194304 : Int32) + ((4 : Int32) * (((gmpc σ) + (1 : Int32)) + (FM_signed a1))))) (31 : Int32))))) else (if (4 : Int32) ≤ (FM_op a1) then (if (FM_op a1) = (4 : Int32) then (if ((gmrg σ) (Int32.toNatClampNeg (FM_first a1))) = ((gmrg σ) (Int32.toNatClampNeg (FM_second a1))) then (smlk (smgl (smgo σ (1 : Int32)) ((4194304 : Int32) + ((4 : Int32) * (((gmpc σ) + (1 : Int32)) + (FM_signed a1))))) (0 : Int32)) else (smlk (smgl (smgo σ (0 : Int32)) ((4194304 : Int32) + ((4 : Int32) * (((gmpc σ) + (1 : Int32)) + (FM_signed a1))))) (0 : Int32))) else (if (FM_op a1) = (5 : Int32) then (if ((gmrg σ) (Int32.toNatClampNeg (FM_first a1))) = ((gmrg σ) (Int32.toNatClampNeg (FM_second a1))) then (smlk (smgl (smgo σ (0 : Int32)) ((4194304 : Int32) + ((4 : Int32) * (((gmpc σ) + (1 : Int32)) + (FM_signed a1))))) (0 : Int32)) else (smlk (smgl (smgo σ (1 : Int32)) ((4194304 : Int32) + ((4 : Int32) * (((gmpc σ) + (1 : Int32)) + (FM_signed a1))))) (0 : Int32))) else (if (FM_op a1) = (6 : Int32) then (if (0 : Int32) < ((gmrg σ) (Int32.toNatClampNeg (FM_first a1))) then (smlk (smgl (smgo σ (0 : Int32)) ((4194304 : Int32) + ((4 : Int32) * (((gmpc σ) + (1 : Int32)) + (FM_signed a1))))) (0 : Int32)) else (smlk (smgl (smgo σ (1 : Int32)) ((4194304 : Int32) + ((4 : Int32) * (((gmpc σ) + (1 : Int32)) + (FM_signed a1))))) (0 : Int32))) else (if ((gmrg σ) (Int32.toNatClampNeg (FM_first a1))) ≤ (0 : Int32) then (smlk (smgl (smgo σ (0 : Int32)) ((4194304 : Int32) + ((4 : Int32) * (((gmpc σ) + (1 : Int32)) + (FM_signed a1))))) (0 : Int32)) else (smlk (smgl (smgo σ (1 : Int32)) ((4194304 : Int32) + ((4 : Int32) * (((gmpc σ) + (1 : Int32)) + (FM_signed a1))))) (0 : Int32)))))) else (if (FM_op a1) = (3 : Int32) then (smlk (smgl (smgo σ (1 : Int32)) ((((4194304 : Int32) + ((4 : Int32) * ((gmpc σ) + (1 : Int32)))) &&& (-268435456 : Int32)) ||| ((a1 &&& (67108863 : Int32)) <<< ((2 : Int32) &&& 31)))) (31 : Int32)) else (smlk (smgl (smgo σ (1 : Int32)) ((((4194304 : Int32) + ((4 : Int32) * ((gmpc σ) + (1 : Int32)))) &&& (-268435456 : Int32)) ||| ((a1 &&& (67108863 : Int32)) <<< ((2 : Int32) &&& 31)))) (0 : Int32))))))
def FM_isText (σ : SM) (a1 : Int32) : Int32 :=
  (if a1 < (4194304 : Int32) then (0 : Int32) else (if ((4194304 : Int32) + ((4 : Int32) * (gmsz σ))) ≤ a1 then (0 : Int32) else (1 : Int32)))
def FM_shiftOf (σ : SM) (a1 : Int32) (a2 : Int32) (a3 : Int32) : Int32 :=
  (if (a1 - a1 / (4 : Int32) * (4 : Int32)) = (0 : Int32) then (a2 <<< (a3 &&& 31)) else (if (a1 - a1 / (4 : Int32) * (4 : Int32)) = (2 : Int32) then (jushr a2 a3) else (a2 >>> (a3 &&& 31))))
def FM_system (σ : SM) : Int32 × SM :=
  (if ((gmrg σ) (Int32.toNatClampNeg (2 : Int32))) = (1 : Int32) then (if (gmis σ) ≤ (gmia σ) then ((0 : Int32), (smrg (smia σ ((gmia σ) + (0 : Int32))) (upd (gmrg σ) (Int32.toNatClampNeg (2 : Int32)) (-1 : Int32)))) else ((0 : Int32), (smrg (smia σ ((gmia σ) + (1 : Int32))) (upd (gmrg σ) (Int32.toNatClampNeg (2 : Int32)) ((gmin σ) (Int32.toNatClampNeg (gmia σ))))))) else (if ((gmrg σ) (Int32.toNatClampNeg (2 : Int32))) = (2 : Int32) then (if (256 : Int32) ≤ (gmos σ) then ((0 : Int32), σ) else ((0 : Int32), (smos (smou σ (upd (gmou σ) (Int32.toNatClampNeg (gmos σ)) (((gmrg σ) (Int32.toNatClampNeg (4 : Int32))) &&& (255 : Int32)))) ((gmos σ) + (1 : Int32))))) else (if ((gmrg σ) (Int32.toNatClampNeg (2 : Int32))) = (3 : Int32) then ((0 : Int32), (smex (smen σ (1 : Int32)) ((gmrg σ) (Int32.toNatClampNeg (4 : Int32))))) else ((10 : Int32), σ))))
def FM_halves (σ : SM) (a1 : Int64) : SM :=
  (smrg σ (upd (upd (gmrg σ) (Int32.toNatClampNeg (32 : Int32)) (Int64.toInt32 (jlushr a1 (32 : Int32)))) (Int32.toNatClampNeg (33 : Int32)) (Int64.toInt32 a1)))
def FM_divide (σ : SM) (a1 : Int32) (a2 : Int32) : SM :=
  (if a2 = (0 : Int32) then (smrg σ (upd (upd (gmrg σ) (Int32.toNatClampNeg (33 : Int32)) (-1 : Int32)) (Int32.toNatClampNeg (32 : Int32)) a1)) else (smrg σ (upd (upd (gmrg σ) (Int32.toNatClampNeg (33 : Int32)) (Int64.toInt32 ((Int32.toInt64 a1) / (Int32.toInt64 a2)))) (Int32.toNatClampNeg (32 : Int32)) (Int64.toInt32 ((Int32.toInt64 a1) - (Int32.toInt64 a1) / (Int32.toInt64 a2) * (Int32.toInt64 a2))))))
def FM_divideBare (σ : SM) (a1 : Int32) (a2 : Int32) : SM :=
  (if (lg_cmp ((Int32.toInt64 a2) &&& (4294967295 : Int64)) (0 : Int64)) = (0 : Int32) then (smrg σ (upd (upd (gmrg σ) (Int32.toNatClampNeg (33 : Int32)) (-1 : Int32)) (Int32.toNatClampNeg (32 : Int32)) a1)) else (smrg σ (upd (upd (gmrg σ) (Int32.toNatClampNeg (33 : Int32)) (Int64.toInt32 (((Int32.toInt64 a1) &&& (4294967295 : Int64)) / ((Int32.toInt64 a2) &&& (4294967295 : Int64))))) (Int32.toNatClampNeg (32 : Int32)) (Int64.toInt32 (((Int32.toInt64 a1) &&& (4294967295 : Int64)) - ((Int32.toInt64 a1) &&& (4294967295 : Int64)) / ((Int32.toInt64 a2) &&& (4294967295 : Int64)) * ((Int32.toInt64 a2) &&& (4294967295 : Int64)))))))
def FM_sum (σ : SM) (a1 : Int32) (a2 : Int64) : Int32 × SM :=
  (if (lg_cmp a2 (Int32.toInt64 (Int64.toInt32 a2))) = (0 : Int32) then ((0 : Int32), (FM_put σ a1 (Int64.toInt32 a2))) else ((4 : Int32), σ))
def FM_byFunction (σ : SM) (a1 : Int32) : Int32 × SM :=
  (if (a1 &&& (63 : Int32)) = (0 : Int32) then ((0 : Int32), (FM_put σ (FM_third a1) (FM_shiftOf σ (a1 &&& (63 : Int32)) ((gmrg σ) (Int32.toNatClampNeg (FM_second a1))) ((jushr a1 (6 : Int32)) &&& (31 : Int32))))) else (if (a1 &&& (63 : Int32)) = (1 : Int32) then ((1 : Int32), σ) else (if (a1 &&& (63 : Int32)) = (2 : Int32) then ((0 : Int32), (FM_put σ (FM_third a1) (FM_shiftOf σ (a1 &&& (63 : Int32)) ((gmrg σ) (Int32.toNatClampNeg (FM_second a1))) ((jushr a1 (6 : Int32)) &&& (31 : Int32))))) else (if (a1 &&& (63 : Int32)) = (3 : Int32) then ((0 : Int32), (FM_put σ (FM_third a1) (FM_shiftOf σ (a1 &&& (63 : Int32)) ((gmrg σ) (Int32.toNatClampNeg (FM_second a1))) ((jushr a1 (6 : Int32)) &&& (31 : Int32))))) else (if (a1 &&& (63 : Int32)) = (4 : Int32) then ((0 : Int32), (FM_put σ (FM_third a1) (FM_shiftOf σ (a1 &&& (63 : Int32)) ((gmrg σ) (Int32.toNatClampNeg (FM_second a1))) (((gmrg σ) (Int32.toNatClampNeg (FM_first a1))) &&& (31 : Int32))))) else (if (a1 &&& (63 : Int32)) = (5 : Int32) then ((1 : Int32), σ) else (if (a1 &&& (63 : Int32)) = (6 : Int32) then ((0 : Int32), (FM_put σ (FM_third a1) (FM_shiftOf σ (a1 &&& (63 : Int32)) ((gmrg σ) (Int32.toNatClampNeg (FM_second a1))) (((gmrg σ) (Int32.toNatClampNeg (FM_first a1))) &&& (31 : Int32))))) else (if (a1 &&& (63 : Int32)) = (7 : Int32) then ((0 : Int32), (FM_put σ (FM_third a1) (FM_shiftOf σ (a1 &&& (63 : Int32)) ((gmrg σ) (Int32.toNatClampNeg (FM_second a1))) (((gmrg σ) (Int32.toNatClampNeg (FM_first a1))) &&& (31 : Int32))))) else (if (a1 &&& (63 : Int32)) = (8 : Int32) then ((1 : Int32), σ) else (if (a1 &&& (63 : Int32)) = (9 : Int32) then ((1 : Int32), σ) else (if (a1 &&& (63 : Int32)) = (10 : Int32) then ((1 : Int32), σ) else (if (a1 &&& (63 : Int32)) = (11 : Int32) then ((1 : Int32), σ) else (if (a1 &&& (63 : Int32)) = (12 : Int32) then (FM_system σ) else (if (a1 &&& (63 : Int32)) = (13 : Int32) then ((5 : Int32), σ) else (if (a1 &&& (63 : Int32)) = (14 : Int32) then ((1 : Int32), σ) else (if (a1 &&& (63 : Int32)) = (15 : Int32) then ((1 : Int32), σ) else (if (a1 &&& (63 : Int32)) = (16 : Int32) then ((0 : Int32), (FM_put σ (FM_third a1) ((gmrg σ) (Int32.toNatClampNeg (32 : Int32))))) else (if (a1 &&& (63 : Int32)) = (17 : Int32) then ((0 : Int32), (smrg σ (upd (gmrg σ) (Int32.toNatClampNeg (32 : Int32)) ((gmrg σ) (Int32.toNatClampNeg (FM_first a1)))))) else (if (a1 &&& (63 : Int32)) = (18 : Int32) then ((0 : Int32), (FM_put σ (FM_third a1) ((gmrg σ) (Int32.toNatClampNeg (33 : Int32))))) else (if (a1 &&& (63 : Int32)) = (19 : Int32) then ((0 : Int32), (smrg σ (upd (gmrg σ) (Int32.toNatClampNeg (33 : Int32)) ((gmrg σ) (Int32.toNatClampNeg (FM_first a1)))))) else (if (a1 &&& (63 : Int32)) = (20 : Int32) then ((1 : Int32), σ) else (if (a1 &&& (63 : Int32)) = (21 : Int32) then ((1 : Int32), σ) else (if (a1 &&& (63 : Int32)) = (22 : Int32) then ((1 : Int32), σ) else (if (a1 &&& (63 : Int32)) = (23 : Int32) then ((1 : Int32), σ) else (if (a1 &&& (63 : Int32)) = (24 : Int32) then ((0 : Int32), (FM_halves σ ((Int32.toInt64 ((gmrg σ) (Int32.toNatClampNeg (FM_first a1)))) * (Int32.toInt64 ((gmrg σ) (Int32.toNatClampNeg (FM_second a1))))))) else (if (a1 &&& (63 : Int32)) = (25 : Int32) then ((0 : Int32), (FM_halves σ (((Int32.toInt64 ((gmrg σ) (Int32.toNatClampNeg (FM_first a1)))) &&& (4294967295 : Int64)) * ((Int32.toInt64 ((gmrg σ) (Int32.toNatClampNeg (FM_second a1)))) &&& (4294967295 : Int64))))) else (if (a1 &&& (63 : Int32)) = (26 : Int32) then ((0 : Int32), (FM_divide σ ((gmrg σ) (Int32.toNatClampNeg (FM_first a1))) ((gmrg σ) (Int32.toNatClampNeg (FM_second a1))))) else (if (a1 &&& (63 : Int32)) = (27 : Int32) then ((0 : Int32), (FM_divideBare σ ((gmrg σ) (Int32.toNatClampNeg (FM_first a1))) ((gmrg σ) (Int32.toNatClampNeg (FM_second a1))))) else (if (a1 &&& (63 : Int32)) = (28 : Int32) then ((1 : Int32), σ) else (if (a1 &&& (63 : Int32)) = (29 : Int32) then ((1 : Int32), σ) else (if (a1 &&& (63 : Int32)) = (30 : Int32) then ((1 : Int32), σ) else (if (a1 &&& (63 : Int32)) = (31 : Int32) then ((1 : Int32), σ) else (if (a1 &&& (63 : Int32)) = (32 : Int32) then (FM_sum σ (FM_third a1) ((Int32.toInt64 ((gmrg σ) (Int32.toNatClampNeg (FM_first a1)))) + (Int32.toInt64 ((gmrg σ) (Int32.toNatClampNeg (FM_second a1)))))) else (if (a1 &&& (63 : Int32)) = (33 : Int32) then ((0 : Int32), (FM_put σ (FM_third a1) (((gmrg σ) (Int32.toNatClampNeg (FM_first a1))) + ((gmrg σ) (Int32.toNatClampNeg (FM_second a1)))))) else (if (a1 &&& (63 : Int32)) = (34 : Int32) then (FM_sum σ (FM_third a1) ((Int32.toInt64 ((gmrg σ) (Int32.toNatClampNeg (FM_first a1)))) - (Int32.toInt64 ((gmrg σ) (Int32.toNatClampNeg (FM_second a1)))))) else (if (a1 &&& (63 : Int32)) = (35 : Int32) then ((0 : Int32), (FM_put σ (FM_third a1) (((gmrg σ) (Int32.toNatClampNeg (FM_first a1))) - ((gmrg σ) (Int32.toNatClampNeg (FM_second a1)))))) else (if (a1 &&& (63 : Int32)) = (36 : Int32) then ((0 : Int32), (FM_put σ (FM_third a1) (((gmrg σ) (Int32.toNatClampNeg (FM_first a1))) &&& ((gmrg σ) (Int32.toNatClampNeg (FM_second a1)))))) else (if (a1 &&& (63 : Int32)) = (37 : Int32) then ((0 : Int32), (FM_put σ (FM_third a1) (((gmrg σ) (Int32.toNatClampNeg (FM_first a1))) ||| ((gmrg σ) (Int32.toNatClampNeg (FM_second a1)))))) else (if (a1 &&& (63 : Int32)) = (38 : Int32) then ((0 : Int32), (FM_put σ (FM_third a1) (((gmrg σ) (Int32.toNatClampNeg (FM_first a1))) ^^^ ((gmrg σ) (Int32.toNatClampNeg (FM_second a1)))))) else (if (a1 &&& (63 : Int32)) = (39 : Int32) then ((0 : Int32), (FM_put σ (FM_third a1) ((((gmrg σ) (Int32.toNatClampNeg (FM_first a1))) ||| ((gmrg σ) (Int32.toNatClampNeg (FM_second a1)))) ^^^ (-1 : Int32)))) else (if (a1 &&& (63 : Int32)) = (40 : Int32) then ((1 : Int32), σ) else (if (a1 &&& (63 : Int32)) = (41 : Int32) then ((1 : Int32), σ) else (if (a1 &&& (63 : Int32)) = (42 : Int32) then (if ((gmrg σ) (Int32.toNatClampNeg (FM_second a1))) ≤ ((gmrg σ) (Int32.toNatClampNeg (FM_first a1))) then ((0 : Int32), (FM_put σ (FM_third a1) (0 : Int32))) else ((0 : Int32), (FM_put σ (FM_third a1) (1 : Int32)))) else (if (a1 &&& (63 : Int32)) = (43 : Int32) then (if (0 : Int32) ≤ (lg_cmp ((Int32.toInt64 ((gmrg σ) (Int32.toNatClampNeg (FM_first a1)))) &&& (4294967295 : Int64)) ((Int32.toInt64 ((gmrg σ) (Int32.toNatClampNeg (FM_second a1)))) &&& (4294967295 : Int64))) then ((0 : Int32), (FM_put σ (FM_third a1) (0 : Int32))) else ((0 : Int32), (FM_put σ (FM_third a1) (1 : Int32)))) else ((1 : Int32), σ)))))))))))))))))))))))))))))))))))))))))))))
def LM_load (a1 a2 a3 a4 : Int32) : Nat → SM → Int32 → Int32 → Int32 × SM
  | 0, σ, _, _ => (0, σ)
  | n + 1, σ, x5, x6 =>
    (if a3 ≤ x6 then (if a4 = (0 : Int32) then ((0 : Int32), (FM_put σ a1 x5)) else ((0 : Int32), (FM_put σ a1 ((x5 <<< (((32 : Int32) - ((8 : Int32) * a3)) &&& 31)) >>> (((32 : Int32) - ((8 : Int32) * a3)) &&& 31))))) else (LM_load a1 a2 a3 a4 n σ ((x5 <<< ((8 : Int32) &&& 31)) ||| ((gmby σ) (Int32.toNatClampNeg ((a2 - (268435456 : Int32)) + x6)))) (x6 + 1)))
def FM_load (σ : SM) (a1 : Int32) (a2 : Int32) (a3 : Int32) (a4 : Int32) : Int32 × SM :=
  (if (a2 - a2 / a3 * a3) = (0 : Int32) then (if a2 < (268435456 : Int32) then ((3 : Int32), σ) else (if a2 ≤ (268435711 : Int32) then (LM_load a1 a2 a3 a4 (a3.toNatClampNeg + 1) σ (0 : Int32) (0 : Int32)) else ((3 : Int32), σ))) else ((2 : Int32), σ))
def LM_store (a1 a2 a3 : Int32) : Nat → SM → Int32 → Int32 × SM
  | 0, σ, _ => (0, σ)
  | n + 1, σ, x4 =>
    (if a3 ≤ x4 then ((0 : Int32), σ) else (LM_store a1 a2 a3 n (smby σ (upd (gmby σ) (Int32.toNatClampNeg ((a2 - (268435456 : Int32)) + x4)) ((jushr a1 ((8 : Int32) * ((a3 - (1 : Int32)) - x4))) &&& (255 : Int32)))) (x4 + 1)))
def FM_store (σ : SM) (a1 : Int32) (a2 : Int32) (a3 : Int32) : Int32 × SM :=
  (if (a2 - a2 / a3 * a3) = (0 : Int32) then (if a2 < (268435456 : Int32) then (if (FM_isText σ a2) = (0 : Int32) then ((3 : Int32), σ) else ((6 : Int32), σ)) else (if a2 ≤ (268435711 : Int32) then (LM_store a1 a2 a3 (a3.toNatClampNeg + 1) σ (0 : Int32)) else (if (FM_isText σ a2) = (0 : Int32) then ((3 : Int32), σ) else ((6 : Int32), σ)))) else ((2 : Int32), σ))
def FM_atOnce (σ : SM) (a1 : Int32) : Int32 × SM :=
  (if (FM_op a1) = (0 : Int32) then (FM_byFunction σ a1) else (if (FM_op a1) = (1 : Int32) then ((1 : Int32), σ) else (if (FM_op a1) = (2 : Int32) then ((1 : Int32), σ) else (if (FM_op a1) = (3 : Int32) then ((1 : Int32), σ) else (if (FM_op a1) = (4 : Int32) then ((1 : Int32), σ) else (if (FM_op a1) = (5 : Int32) then ((1 : Int32), σ) else (if (FM_op a1) = (6 : Int32) then ((1 : Int32), σ) else (if (FM_op a1) = (7 : Int32) then ((1 : Int32), σ) else (if (FM_op a1) = (8 : Int32) then (FM_sum σ (FM_second a1) ((Int32.toInt64 ((gmrg σ) (Int32.toNatClampNeg (FM_first a1)))) + (Int32.toInt64 (FM_signed a1)))) else (if (FM_op a1) = (9 : Int32) then ((0 : Int32), (FM_put σ (FM_second a1) (((gmrg σ) (Int32.toNatClampNeg (FM_first a1))) + (FM_signed a1)))) else (if (FM_op a1) = (10 : Int32) then (if (FM_signed a1) ≤ ((gmrg σ) (Int32.toNatClampNeg (FM_first a1))) then ((0 : Int32), (FM_put σ (FM_second a1) (0 : Int32))) else ((0 : Int32), (FM_put σ (FM_second a1) (1 : Int32)))) else (if (FM_op a1) = (11 : Int32) then (if (0 : Int32) ≤ (lg_cmp ((Int32.toInt64 ((gmrg σ) (Int32.toNatClampNeg (FM_first a1)))) &&& (4294967295 : Int64)) ((Int32.toInt64 (FM_signed a1)) &&& (4294967295 : Int64))) then ((0 : Int32), (FM_put σ (FM_second a1) (0 : Int32))) else ((0 : Int32), (FM_put σ (FM_second a1) (1 : Int32)))) else (if (FM_op a1) = (12 : Int32) then ((0 : Int32), (FM_put σ (FM_second a1) (((gmrg σ) (Int32.toNatClampNeg (FM_first a1))) &&& (a1 &&& (65535 : Int32))))) else (if (FM_op a1) = (13 : Int32) then ((0 : Int32), (FM_put σ (FM_second a1) (((gmrg σ) (Int32.toNatClampNeg (FM_first a1))) ||| (a1 &&& (65535 : Int32))))) else (if (FM_op a1) = (14 : Int32) then ((0 : Int32), (FM_put σ (FM_second a1) (((gmrg σ) (Int32.toNatClampNeg (FM_first a1))) ^^^ (a1 &&& (65535 : Int32))))) else (if (FM_op a1) = (15 : Int32) then ((0 : Int32), (FM_put σ (FM_second a1) ((a1 &&& (65535 : Int32)) <<< ((16 : Int32) &&& 31)))) else (if (FM_op a1) = (16 : Int32) then ((1 : Int32), σ) else (if (FM_op a1) = (17 : Int32) then ((1 : Int32), σ) else (if (FM_op a1) = (18 : Int32) then ((1 : Int32), σ) else (if (FM_op a1) = (19 : Int32) then ((1 : Int32), σ) else (if (FM_op a1) = (20 : Int32) then ((1 : Int32), σ) else (if (FM_op a1) = (21 : Int32) then ((1 : Int32), σ) else (if (FM_op a1) = (22 : Int32) then ((1 : Int32), σ) else (if (FM_op a1) = (23 : Int32) then ((1 : Int32), σ) else (if (FM_op a1) = (24 : Int32) then ((1 : Int32), σ) else (if (FM_op a1) = (25 : Int32) then ((1 : Int32), σ) else (if (FM_op a1) = (26 : Int32) then ((1 : Int32), σ) else (if (FM_op a1) = (27 : Int32) then ((1 : Int32), σ) else (if (FM_op a1) = (28 : Int32) then ((1 : Int32), σ) else (if (FM_op a1) = (29 : Int32) then ((1 : Int32), σ) else (if (FM_op a1) = (30 : Int32) then ((1 : Int32), σ) else (if (FM_op a1) = (31 : Int32) then ((1 : Int32), σ) else (if (FM_op a1) = (32 : Int32) then (FM_load σ (FM_second a1) (((gmrg σ) (Int32.toNatClampNeg (FM_first a1))) + (FM_signed a1)) (1 : Int32) (1 : Int32)) else (if (FM_op a1) = (33 : Int32) then (FM_load σ (FM_second a1) (((gmrg σ) (Int32.toNatClampNeg (FM_first a1))) + (FM_signed a1)) (2 : Int32) (1 : Int32)) else (if (FM_op a1) = (34 : Int32) then ((1 : Int32), σ) else (if (FM_op a1) = (35 : Int32) then (FM_load σ (FM_second a1) (((gmrg σ) (Int32.toNatClampNeg (FM_first a1))) + (FM_signed a1)) (4 : Int32) (0 : Int32)) else (if (FM_op a1) = (36 : Int32) then (FM_load σ (FM_second a1) (((gmrg σ) (Int32.toNatClampNeg (FM_first a1))) + (FM_signed a1)) (1 : Int32) (0 : Int32)) else (if (FM_op a1) = (37 : Int32) then (FM_load σ (FM_second a1) (((gmrg σ) (Int32.toNatClampNeg (FM_first a1))) + (FM_signed a1)) (2 : Int32) (0 : Int32)) else (if (FM_op a1) = (38 : Int32) then ((1 : Int32), σ) else (if (FM_op a1) = (39 : Int32) then ((1 : Int32), σ) else (if (FM_op a1) = (40 : Int32) then (FM_store σ ((gmrg σ) (Int32.toNatClampNeg (FM_second a1))) (((gmrg σ) (Int32.toNatClampNeg (FM_first a1))) + (FM_signed a1)) (1 : Int32)) else (if (FM_op a1) = (41 : Int32) then (FM_store σ ((gmrg σ) (Int32.toNatClampNeg (FM_second a1))) (((gmrg σ) (Int32.toNatClampNeg (FM_first a1))) + (FM_signed a1)) (2 : Int32)) else (if (FM_op a1) = (42 : Int32) then ((1 : Int32), σ) else (if (FM_op a1) = (43 : Int32) then (FM_store σ ((gmrg σ) (Int32.toNatClampNeg (FM_second a1))) (((gmrg σ) (Int32.toNatClampNeg (FM_first a1))) + (FM_signed a1)) (4 : Int32)) else ((1 : Int32), σ)))))))))))))))))))))))))))))))))))))))))))))
def FM_two (σ : SM) (a1 : Int32) : Int32 × SM :=
  (if ((gmpc σ) + (1 : Int32)) < (gmsz σ) then (if (FM_leads ((gmtx σ) (Int32.toNatClampNeg ((gmpc σ) + (1 : Int32))))) = (0 : Int32) then (if (FM_calls ((gmtx σ) (Int32.toNatClampNeg ((gmpc σ) + (1 : Int32))))) = (0 : Int32) then (if (gmgo (FM_aim σ a1)) = (0 : Int32) then (if (gmlk (FM_aim σ a1)) = (0 : Int32) then (if (FM_atOnce (FM_put (FM_aim σ a1) (gmlk (FM_aim σ a1)) (0 : Int32)) ((gmtx σ) (Int32.toNatClampNeg ((gmpc σ) + (1 : Int32))))).1 ≤ (0 : Int32) then (if (gmgo (FM_atOnce (FM_put (FM_aim σ a1) (gmlk (FM_aim σ a1)) (0 : Int32)) ((gmtx σ) (Int32.toNatClampNeg ((gmpc σ) + (1 : Int32))))).2) = (0 : Int32) then ((0 : Int32), (smpc (FM_atOnce (FM_put (FM_aim σ a1) (gmlk (FM_aim σ a1)) (0 : Int32)) ((gmtx σ) (Int32.toNatClampNeg ((gmpc σ) + (1 : Int32))))).2 ((gmpc (FM_atOnce (FM_put (FM_aim σ a1) (gmlk (FM_aim σ a1)) (0 : Int32)) ((gmtx σ) (Int32.toNatClampNeg ((gmpc σ) + (1 : Int32))))).2) + (2 : Int32)))) else ((0 : Int32), (smpc (FM_atOnce (FM_put (FM_aim σ a1) (gmlk (FM_aim σ a1)) (0 : Int32)) ((gmtx σ) (Int32.toNatClampNeg ((gmpc σ) + (1 : Int32))))).2 (((gmgl (FM_atOnce (FM_put (FM_aim σ a1) (gmlk (FM_aim σ a1)) (0 : Int32)) ((gmtx σ) (Int32.toNatClampNeg ((gmpc σ) + (1 : Int32))))).2) - (4194304 : Int32)) / (4 : Int32))))) else ((FM_atOnce (FM_put (FM_aim σ a1) (gmlk (FM_aim σ a1)) (0 : Int32)) ((gmtx σ) (Int32.toNatClampNeg ((gmpc σ) + (1 : Int32))))).1, (smrg (FM_atOnce (FM_put (FM_aim σ a1) (gmlk (FM_aim σ a1)) (0 : Int32)) ((gmtx σ) (Int32.toNatClampNeg ((gmpc σ) + (1 : Int32))))).2 (upd (gmrg (FM_atOnce (FM_put (FM_aim σ a1) (gmlk (FM_aim σ a1)) (0 : Int32)) ((gmtx σ) (Int32.toNatClampNeg ((gmpc σ) + (1 : Int32))))).2) (Int32.toNatClampNeg (gmlk (FM_atOnce (FM_put (FM_aim σ a1) (gmlk (FM_aim σ a1)) (0 : Int32)) ((gmtx σ) (Int32.toNatClampNeg ((gmpc σ) + (1 : Int32))))).2)) ((gmrg (FM_aim σ a1)) (Int32.toNatClampNeg (gmlk (FM_aim σ a1)))))))) else (if (FM_atOnce (FM_put (FM_aim σ a1) (gmlk (FM_aim σ a1)) ((4194304 : Int32) + ((4 : Int32) * ((gmpc (FM_aim σ a1)) + (2 : Int32))))) ((gmtx σ) (Int32.toNatClampNeg ((gmpc σ) + (1 : Int32))))).1 ≤ (0 : Int32) then (if (gmgo (FM_atOnce (FM_put (FM_aim σ a1) (gmlk (FM_aim σ a1)) ((4194304 : Int32) + ((4 : Int32) * ((gmpc (FM_aim σ a1)) + (2 : Int32))))) ((gmtx σ) (Int32.toNatClampNeg ((gmpc σ) + (1 : Int32))))).2) = (0 : Int32) then ((0 : Int32), (smpc (FM_atOnce (FM_put (FM_aim σ a1) (gmlk (FM_aim σ a1)) ((4194304 : Int32) + ((4 : Int32) * ((gmpc (FM_aim σ a1)) + (2 : Int32))))) ((gmtx σ) (Int32.toNatClampNeg ((gmpc σ) + (1 : Int32))))).2 ((gmpc (FM_atOnce (FM_put (FM_aim σ a1) (gmlk (FM_aim σ a1)) ((4194304 : Int32) + ((4 : Int32) * ((gmpc (FM_aim σ a1)) + (2 : Int32))))) ((gmtx σ) (Int32.toNatClampNeg ((gmpc σ) + (1 : Int32))))).2) + (2 : Int32)))) else ((0 : Int32), (smpc (FM_atOnce (FM_put (FM_aim σ a1) (gmlk (FM_aim σ a1)) ((4194304 : Int32) + ((4 : Int32) * ((gmpc (FM_aim σ a1)) + (2 : Int32))))) ((gmtx σ) (Int32.toNatClampNeg ((gmpc σ) + (1 : Int32))))).2 (((gmgl (FM_atOnce (FM_put (FM_aim σ a1) (gmlk (FM_aim σ a1)) ((4194304 : Int32) + ((4 : Int32) * ((gmpc (FM_aim σ a1)) + (2 : Int32))))) ((gmtx σ) (Int32.toNatClampNeg ((gmpc σ) + (1 : Int32))))).2) - (4194304 : Int32)) / (4 : Int32))))) else ((FM_atOnce (FM_put (FM_aim σ a1) (gmlk (FM_aim σ a1)) ((4194304 : Int32) + ((4 : Int32) * ((gmpc (FM_aim σ a1)) + (2 : Int32))))) ((gmtx σ) (Int32.toNatClampNeg ((gmpc σ) + (1 : Int32))))).1, (smrg (FM_atOnce (FM_put (FM_aim σ a1) (gmlk (FM_aim σ a1)) ((4194304 : Int32) + ((4 : Int32) * ((gmpc (FM_aim σ a1)) + (2 : Int32))))) ((gmtx σ) (Int32.toNatClampNeg ((gmpc σ) + (1 : Int32))))).2 (upd (gmrg (FM_atOnce (FM_put (FM_aim σ a1) (gmlk (FM_aim σ a1)) ((4194304 : Int32) + ((4 : Int32) * ((gmpc (FM_aim σ a1)) + (2 : Int32))))) ((gmtx σ) (Int32.toNatClampNeg ((gmpc σ) + (1 : Int32))))).2) (Int32.toNatClampNeg (gmlk (FM_atOnce (FM_put (FM_aim σ a1) (gmlk (FM_aim σ a1)) ((4194304 : Int32) + ((4 : Int32) * ((gmpc (FM_aim σ a1)) + (2 : Int32))))) ((gmtx σ) (Int32.toNatClampNeg ((gmpc σ) + (1 : Int32))))).2)) ((gmrg (FM_aim σ a1)) (Int32.toNatClampNeg (gmlk (FM_aim σ a1))))))))) else (if ((gmgl (FM_aim σ a1)) - (gmgl (FM_aim σ a1)) / (4 : Int32) * (4 : Int32)) = (0 : Int32) then (if (FM_isText (FM_aim σ a1) (gmgl (FM_aim σ a1))) = (0 : Int32) then ((7 : Int32), (FM_aim σ a1)) else (if (gmlk (FM_aim σ a1)) = (0 : Int32) then (if (FM_atOnce (FM_put (FM_aim σ a1) (gmlk (FM_aim σ a1)) (0 : Int32)) ((gmtx σ) (Int32.toNatClampNeg ((gmpc σ) + (1 : Int32))))).1 ≤ (0 : Int32) then (if (gmgo (FM_atOnce (FM_put (FM_aim σ a1) (gmlk (FM_aim σ a1)) (0 : Int32)) ((gmtx σ) (Int32.toNatClampNeg ((gmpc σ) + (1 : Int32))))).2) = (0 : Int32) then ((0 : Int32), (smpc (FM_atOnce (FM_put (FM_aim σ a1) (gmlk (FM_aim σ a1)) (0 : Int32)) ((gmtx σ) (Int32.toNatClampNeg ((gmpc σ) + (1 : Int32))))).2 ((gmpc (FM_atOnce (FM_put (FM_aim σ a1) (gmlk (FM_aim σ a1)) (0 : Int32)) ((gmtx σ) (Int32.toNatClampNeg ((gmpc σ) + (1 : Int32))))).2) + (2 : Int32)))) else ((0 : Int32), (smpc (FM_atOnce (FM_put (FM_aim σ a1) (gmlk (FM_aim σ a1)) (0 : Int32)) ((gmtx σ) (Int32.toNatClampNeg ((gmpc σ) + (1 : Int32))))).2 (((gmgl (FM_atOnce (FM_put (FM_aim σ a1) (gmlk (FM_aim σ a1)) (0 : Int32)) ((gmtx σ) (Int32.toNatClampNeg ((gmpc σ) + (1 : Int32))))).2) - (4194304 : Int32)) / (4 : Int32))))) else ((FM_atOnce (FM_put (FM_aim σ a1) (gmlk (FM_aim σ a1)) (0 : Int32)) ((gmtx σ) (Int32.toNatClampNeg ((gmpc σ) + (1 : Int32))))).1, (smrg (FM_atOnce (FM_put (FM_aim σ a1) (gmlk (FM_aim σ a1)) (0 : Int32)) ((gmtx σ) (Int32.toNatClampNeg ((gmpc σ) + (1 : Int32))))).2 (upd (gmrg (FM_atOnce (FM_put (FM_aim σ a1) (gmlk (FM_aim σ a1)) (0 : Int32)) ((gmtx σ) (Int32.toNatClampNeg ((gmpc σ) + (1 : Int32))))).2) (Int32.toNatClampNeg (gmlk (FM_atOnce (FM_put (FM_aim σ a1) (gmlk (FM_aim σ a1)) (0 : Int32)) ((gmtx σ) (Int32.toNatClampNeg ((gmpc σ) + (1 : Int32))))).2)) ((gmrg (FM_aim σ a1)) (Int32.toNatClampNeg (gmlk (FM_aim σ a1)))))))) else (if (FM_atOnce (FM_put (FM_aim σ a1) (gmlk (FM_aim σ a1)) ((4194304 : Int32) + ((4 : Int32) * ((gmpc (FM_aim σ a1)) + (2 : Int32))))) ((gmtx σ) (Int32.toNatClampNeg ((gmpc σ) + (1 : Int32))))).1 ≤ (0 : Int32) then (if (gmgo (FM_atOnce (FM_put (FM_aim σ a1) (gmlk (FM_aim σ a1)) ((4194304 : Int32) + ((4 : Int32) * ((gmpc (FM_aim σ a1)) + (2 : Int32))))) ((gmtx σ) (Int32.toNatClampNeg ((gmpc σ) + (1 : Int32))))).2) = (0 : Int32) then ((0 : Int32), (smpc (FM_atOnce (FM_put (FM_aim σ a1) (gmlk (FM_aim σ a1)) ((4194304 : Int32) + ((4 : Int32) * ((gmpc (FM_aim σ a1)) + (2 : Int32))))) ((gmtx σ) (Int32.toNatClampNeg ((gmpc σ) + (1 : Int32))))).2 ((gmpc (FM_atOnce (FM_put (FM_aim σ a1) (gmlk (FM_aim σ a1)) ((4194304 : Int32) + ((4 : Int32) * ((gmpc (FM_aim σ a1)) + (2 : Int32))))) ((gmtx σ) (Int32.toNatClampNeg ((gmpc σ) + (1 : Int32))))).2) + (2 : Int32)))) else ((0 : Int32), (smpc (FM_atOnce (FM_put (FM_aim σ a1) (gmlk (FM_aim σ a1)) ((4194304 : Int32) + ((4 : Int32) * ((gmpc (FM_aim σ a1)) + (2 : Int32))))) ((gmtx σ) (Int32.toNatClampNeg ((gmpc σ) + (1 : Int32))))).2 (((gmgl (FM_atOnce (FM_put (FM_aim σ a1) (gmlk (FM_aim σ a1)) ((4194304 : Int32) + ((4 : Int32) * ((gmpc (FM_aim σ a1)) + (2 : Int32))))) ((gmtx σ) (Int32.toNatClampNeg ((gmpc σ) + (1 : Int32))))).2) - (4194304 : Int32)) / (4 : Int32))))) else ((FM_atOnce (FM_put (FM_aim σ a1) (gmlk (FM_aim σ a1)) ((4194304 : Int32) + ((4 : Int32) * ((gmpc (FM_aim σ a1)) + (2 : Int32))))) ((gmtx σ) (Int32.toNatClampNeg ((gmpc σ) + (1 : Int32))))).1, (smrg (FM_atOnce (FM_put (FM_aim σ a1) (gmlk (FM_aim σ a1)) ((4194304 : Int32) + ((4 : Int32) * ((gmpc (FM_aim σ a1)) + (2 : Int32))))) ((gmtx σ) (Int32.toNatClampNeg ((gmpc σ) + (1 : Int32))))).2 (upd (gmrg (FM_atOnce (FM_put (FM_aim σ a1) (gmlk (FM_aim σ a1)) ((4194304 : Int32) + ((4 : Int32) * ((gmpc (FM_aim σ a1)) + (2 : Int32))))) ((gmtx σ) (Int32.toNatClampNeg ((gmpc σ) + (1 : Int32))))).2) (Int32.toNatClampNeg (gmlk (FM_atOnce (FM_put (FM_aim σ a1) (gmlk (FM_aim σ a1)) ((4194304 : Int32) + ((4 : Int32) * ((gmpc (FM_aim σ a1)) + (2 : Int32))))) ((gmtx σ) (Int32.toNatClampNeg ((gmpc σ) + (1 : Int32))))).2)) ((gmrg (FM_aim σ a1)) (Int32.toNatClampNeg (gmlk (FM_aim σ a1)))))))))) else ((7 : Int32), (FM_aim σ a1)))) else ((8 : Int32), σ)) else ((8 : Int32), σ)) else ((7 : Int32), σ))
def LM_run : Nat → SM → Int32 → Int32 × SM
  | 0, σ, _ => (0, σ)
  | n + 1, σ, x2 =>
    (if (gmen σ) = (0 : Int32) then (if (gmtr σ) = (0 : Int32) then (if (gmpc σ) < (0 : Int32) then (((10 : Int32) + (7 : Int32)), (smtr σ (7 : Int32))) else (if (gmpc σ) < (gmsz σ) then (if (FM_leads ((gmtx σ) (Int32.toNatClampNeg (gmpc σ)))) = (0 : Int32) then (if (1 : Int32) ≤ x2 then (if (FM_atOnce σ ((gmtx σ) (Int32.toNatClampNeg (gmpc σ)))).1 = (0 : Int32) then (if (gmen (FM_atOnce σ ((gmtx σ) (Int32.toNatClampNeg (gmpc σ)))).2) = (0 : Int32) then (LM_run n (smtr (smus (smpc (FM_atOnce σ ((gmtx σ) (Int32.toNatClampNeg (gmpc σ)))).2 ((gmpc (FM_atOnce σ ((gmtx σ) (Int32.toNatClampNeg (gmpc σ)))).2) + (1 : Int32))) ((gmus (FM_atOnce σ ((gmtx σ) (Int32.toNatClampNeg (gmpc σ)))).2) + (1 : Int32))) (FM_atOnce σ ((gmtx σ) (Int32.toNatClampNeg (gmpc σ)))).1) (x2 - (1 : Int32))) else (LM_run n (smtr (smus (smpc (FM_atOnce σ ((gmtx σ) (Int32.toNatClampNeg (gmpc σ)))).2 ((gmpc (FM_atOnce σ ((gmtx σ) (Int32.toNatClampNeg (gmpc σ)))).2) + (0 : Int32))) ((gmus (FM_atOnce σ ((gmtx σ) (Int32.toNatClampNeg (gmpc σ)))).2) + (1 : Int32))) (FM_atOnce σ ((gmtx σ) (Int32.toNatClampNeg (gmpc σ)))).1) (x2 - (1 : Int32)))) else (LM_run n (smtr (smus (smpc (FM_atOnce σ ((gmtx σ) (Int32.toNatClampNeg (gmpc σ)))).2 ((gmpc (FM_atOnce σ ((gmtx σ) (Int32.toNatClampNeg (gmpc σ)))).2) + (0 : Int32))) ((gmus (FM_atOnce σ ((gmtx σ) (Int32.toNatClampNeg (gmpc σ)))).2) + (0 : Int32))) (FM_atOnce σ ((gmtx σ) (Int32.toNatClampNeg (gmpc σ)))).1) (x2 - (0 : Int32)))) else ((0 : Int32), σ)) else (if (2 : Int32) ≤ x2 then (if (FM_two σ ((gmtx σ) (Int32.toNatClampNeg (gmpc σ)))).1 = (0 : Int32) then (LM_run n (smtr (smus (FM_two σ ((gmtx σ) (Int32.toNatClampNeg (gmpc σ)))).2 ((gmus (FM_two σ ((gmtx σ) (Int32.toNatClampNeg (gmpc σ)))).2) + (2 : Int32))) (FM_two σ ((gmtx σ) (Int32.toNatClampNeg (gmpc σ)))).1) (x2 - (2 : Int32))) else (LM_run n (smtr (smus (FM_two σ ((gmtx σ) (Int32.toNatClampNeg (gmpc σ)))).2 ((gmus (FM_two σ ((gmtx σ) (Int32.toNatClampNeg (gmpc σ)))).2) + (0 : Int32))) (FM_two σ ((gmtx σ) (Int32.toNatClampNeg (gmpc σ)))).1) (x2 - (0 : Int32)))) else ((0 : Int32), σ))) else (((10 : Int32) + (7 : Int32)), (smtr σ (7 : Int32))))) else (((10 : Int32) + (gmtr σ)), σ)) else ((1 : Int32), σ))
def FM_run (σ : SM) (a1 : Int32) : Int32 × SM :=
  (if a1 < (1 : Int32) then ((-1 : Int32), σ) else (if a1 ≤ (2000 : Int32) then (LM_run 2003 σ a1) else ((-1 : Int32), σ)))
def FM_register (σ : SM) (a1 : Int32) : Int32 :=
  (if a1 < (0 : Int32) then (if a1 = (34 : Int32) then (gmpc σ) else (if a1 = (35 : Int32) then (gmus σ) else (0 : Int32))) else (if (34 : Int32) ≤ a1 then (if a1 = (34 : Int32) then (gmpc σ) else (if a1 = (35 : Int32) then (gmus σ) else (0 : Int32))) else ((gmrg σ) (Int32.toNatClampNeg a1))))
def FM_give (σ : SM) (a1 : Int32) (a2 : Int32) : Int32 × SM :=
  (if a1 < (1 : Int32) then ((-1 : Int32), σ) else (if a1 ≤ (33 : Int32) then ((1 : Int32), (smrg σ (upd (gmrg σ) (Int32.toNatClampNeg a1) a2))) else ((-1 : Int32), σ)))
def FM_byteOf (σ : SM) (a1 : Int32) : Int32 :=
  (if a1 < (0 : Int32) then (-1 : Int32) else (if (256 : Int32) ≤ a1 then (-1 : Int32) else ((gmby σ) (Int32.toNatClampNeg a1))))
def FM_output (σ : SM) (a1 : Int32) : Int32 :=
  (if a1 < (0 : Int32) then (-1 : Int32) else (if (gmos σ) ≤ a1 then (-1 : Int32) else ((gmou σ) (Int32.toNatClampNeg a1))))
def FM_code (σ : SM) : Int32 :=
  (gmex σ)
def ZSM : SM := ((fun _ => 0), 0, (fun _ => 0), 0, (fun _ => 0), (fun _ => 0), 0, 0, (fun _ => 0), 0, (upd (fun _ => 0) (Int32.toNatClampNeg (29 : Int32)) (268435712 : Int32)), 0, 0, 0, 0, 0, 0, 0, 0)
end
section
def IM (σ : SM) : Prop := (¬ gmts σ < 0 ∧ (gmts σ).toInt ≤ 64) ∧ (¬ gmsz σ < 0 ∧ (gmsz σ).toInt ≤ 64) ∧ (¬ gmis σ < 0 ∧ (gmis σ).toInt ≤ 64) ∧ ¬ gmia σ < 0 ∧ ¬ gmos σ < 0 ∧ (gmos σ).toInt ≤ 256
theorem ims_mty {σ : SM} {v : (Nat → Int32)} (h : IM σ) : IM (smty σ v) := h
theorem ims_mtx {σ : SM} {v : (Nat → Int32)} (h : IM σ) : IM (smtx σ v) := h
theorem ims_mby {σ : SM} {v : (Nat → Int32)} (h : IM σ) : IM (smby σ v) := h
theorem ims_min {σ : SM} {v : (Nat → Int32)} (h : IM σ) : IM (smin σ v) := h
theorem ims_mou {σ : SM} {v : (Nat → Int32)} (h : IM σ) : IM (smou σ v) := h
theorem ims_mrg {σ : SM} {v : (Nat → Int32)} (h : IM σ) : IM (smrg σ v) := h
theorem ims_mpc {σ : SM} {v : Int32} (h : IM σ) : IM (smpc σ v) := h
theorem ims_mus {σ : SM} {v : Int32} (h : IM σ) : IM (smus σ v) := h
theorem ims_men {σ : SM} {v : Int32} (h : IM σ) : IM (smen σ v) := h
theorem ims_mtr {σ : SM} {v : Int32} (h : IM σ) : IM (smtr σ v) := h
theorem ims_mex {σ : SM} {v : Int32} (h : IM σ) : IM (smex σ v) := h
theorem ims_mgo {σ : SM} {v : Int32} (h : IM σ) : IM (smgo σ v) := h
theorem ims_mgl {σ : SM} {v : Int32} (h : IM σ) : IM (smgl σ v) := h
theorem ims_mlk {σ : SM} {v : Int32} (h : IM σ) : IM (smlk σ v) := h
theorem gs_mlk (σ : SM) (v : Int32) : gmlk (smlk σ v) = v := rfl
theorem gs_mtr (σ : SM) (v : Int32) : gmtr (smtr σ v) = v := rfl
theorem imv_sz {σ : SM} (h : IM σ) : IM (smsz σ (gmts σ)) := ⟨h.1, h.1, h.2.2⟩
theorem im_first (w : Int32) : vp_in (FM_first w) 34 := and31_in _
theorem im_second (w : Int32) : vp_in (FM_second w) 34 := and31_in _
theorem im_third (w : Int32) : vp_in (FM_third w) 34 := and31_in _
def B3 (b : Int32) : Prop := b = 1 ∨ b = 2 ∨ b = 4
theorem b3_1 : B3 1 := Or.inl rfl
theorem b3_2 : B3 2 := Or.inr (Or.inl rfl)
theorem b3_4 : B3 4 := Or.inr (Or.inr rfl)
theorem b3_ne {b : Int32} (h : B3 b) : ¬ b = 0 := by
  rcases h with e | e | e <;> rw [e] <;> decide
theorem in_ne {x y : Int32} {n : Nat} (h0 : ¬ x < 0) (h1 : x.toInt ≤ n) (h2 : ¬ x = y) (h3 : y.toInt = n) : vp_in x n := by
  rw [ti_lt, ti_0] at h0
  have : x.toInt ≠ y.toInt := fun e => h2 (Int32.toInt_inj.mp e)
  exact vp_in_iff.mpr ⟨by omega, by omega⟩
theorem in_ge0le {x y : Int32} {n : Nat} (h0 : ¬ x < 0) (h1 : ¬ y < x) (h2 : y.toInt < n) : vp_in x n := by
  rw [ti_lt, ti_0] at h0
  rw [ti_lt] at h1
  exact vp_in_iff.mpr ⟨by omega, by omega⟩
theorem in_ge1le {x y : Int32} {n : Nat} (h0 : ¬ x < 1) (h1 : x ≤ y) (h2 : y.toInt < n) : vp_in x n := by
  rw [ti_lt, ti_1] at h0
  rw [ti_le] at h1
  exact vp_in_iff.mpr ⟨by omega, by omega⟩
theorem im_slot {σ : SM} (hI : IM σ) (h : vp_in (gmpc σ) 64) (hc : gmpc σ + 1 < gmsz σ) : vp_in (gmpc σ + 1) 64 := by
  obtain ⟨h1, h2⟩ := vp_in_iff.mp h
  have e : (gmpc σ + 1).toInt = (gmpc σ).toInt + 1 := by
    rw [ti_add (by rw [ti_1]; omega) (by rw [ti_1]; omega), ti_1]
  rw [ti_lt] at hc
  have := hI.2.1.2
  exact vp_in_iff.mpr ⟨by omega, by omega⟩
theorem i64_ne {x : Int32} (h : ¬ x = 0) : ¬ Int32.toInt64 x = 0 := fun e => h (by
  have e2 := congrArg Int64.toInt e
  rw [Int32.toInt_toInt64] at e2
  exact Int32.toInt_inj.mp (by rw [e2]; decide))
theorem ld_okM {a b : Int32} (hb : B3 b) (h : a - a / b * b = 0) (h0 : ¬ a < 268435456) (h1 : a ≤ 268435711) : LD (a - 268435456) b := by
  have eD : (268435456 : Int32).toInt = 268435456 := by decide
  rw [ti_lt, eD] at h0
  rw [ti_le, show (268435711 : Int32).toInt = 268435711 by decide] at h1
  have e : (a - 268435456).toInt = a.toInt - 268435456 := by
    rw [ti_sub (by rw [eD]; omega) (by rw [eD]; omega), eD]
  obtain ⟨j, hj, ea⟩ := nI_of (x := a) (by rw [ti_lt, ti_0]; omega)
  have eja : a.toInt = j := by rw [ea]; exact nI_toInt hj
  rcases hb with rfl | rfl | rfl
  · exact ⟨by omega, by decide, by decide, by rw [show (1 : Int32).toInt = 1 by decide]; omega⟩
  · rw [ea, show (2 : Int32) = nI 2 by decide, pk_rem hj (by decide) (by decide), show (0 : Int32) = nI 0 by decide, nI_eq (by omega) (by decide)] at h
    exact ⟨by omega, by decide, by decide, by rw [show (2 : Int32).toInt = 2 by decide]; omega⟩
  · rw [ea, show (4 : Int32) = nI 4 by decide, pk_rem hj (by decide) (by decide), show (0 : Int32) = nI 0 by decide, nI_eq (by omega) (by decide)] at h
    exact ⟨by omega, by decide, by decide, by rw [show (4 : Int32).toInt = 4 by decide]; omega⟩
theorem imP {c : Prop} [Decidable c] {a b : Int32 × SM} (ha : IM a.2) (hb : IM b.2) : IM (if c then a else b).2 := by
  split
  · exact ha
  · exact hb
theorem imQ {c : Prop} [Decidable c] {a b : SM} (ha : IM a) (hb : IM b) : IM (if c then a else b) := by
  split
  · exact ha
  · exact hb
theorem imv_put {σ : SM} {k v : Int32} (h : IM σ) : IM (FM_put σ k v) := by
  unfold FM_put
  repeat' (with_reducible refine imQ ?_ ?_)
  all_goals with_reducible exact ims_mrg h
theorem imv_aim {σ : SM} {w : Int32} (h : IM σ) : IM (FM_aim σ w) := by
  unfold FM_aim
  repeat' (with_reducible refine imQ ?_ ?_)
  all_goals with_reducible exact ims_mlk (ims_mgl (ims_mgo h))
theorem im_lk1 (σ : SM) (w : Int32) : vp_in (gmlk (FM_aim σ w)) 34 := by
  unfold FM_aim
  repeat' split
  all_goals rw [gs_mlk]
  all_goals first | with_reducible exact im_third w | exact in_c (by decide)
-- what an instruction that leads nowhere keeps: where the program is, and where it was to go
def KM (σ τ : SM) : Prop := gmlk τ = gmlk σ ∧ gmgo τ = gmgo σ ∧ gmgl τ = gmgl σ ∧ gmpc τ = gmpc σ ∧ gmsz τ = gmsz σ ∧ gmtx τ = gmtx σ ∧ gmtr τ = gmtr σ ∧ gmus τ = gmus σ
theorem kmP {c : Prop} [Decidable c] {σ : SM} {a b : Int32 × SM} (ha : KM σ a.2) (hb : KM σ b.2) : KM σ (if c then a else b).2 := by
  split
  · exact ha
  · exact hb
theorem km_rf (σ : SM) : KM σ σ := ⟨rfl, rfl, rfl, rfl, rfl, rfl, rfl, rfl⟩
theorem km_rg (σ : SM) (f : Nat → Int32) : KM σ (smrg σ f) := ⟨rfl, rfl, rfl, rfl, rfl, rfl, rfl, rfl⟩
theorem km_halves (σ : SM) (v : Int64) : KM σ (FM_halves σ v) := by
  unfold FM_halves
  exact km_rg _ _
theorem km_put (σ : SM) (k v : Int32) : KM σ (FM_put σ k v) := by
  unfold FM_put
  repeat' split
  all_goals exact ⟨rfl, rfl, rfl, rfl, rfl, rfl, rfl, rfl⟩
theorem km_system (σ : SM) : KM σ (FM_system σ).2 := by
  unfold FM_system
  repeat' split
  all_goals exact ⟨rfl, rfl, rfl, rfl, rfl, rfl, rfl, rfl⟩
theorem km_sum (σ : SM) (k : Int32) (v : Int64) : KM σ (FM_sum σ k v).2 := by
  unfold FM_sum
  repeat' (with_reducible refine kmP ?_ ?_)
  all_goals first | with_reducible exact km_put _ _ _ | with_reducible exact km_rf _
theorem km_divide (σ : SM) (k v : Int32) : KM σ (FM_divide σ k v) := by
  unfold FM_divide
  repeat' split
  all_goals exact ⟨rfl, rfl, rfl, rfl, rfl, rfl, rfl, rfl⟩
theorem km_divideBare (σ : SM) (k v : Int32) : KM σ (FM_divideBare σ k v) := by
  unfold FM_divideBare
  repeat' split
  all_goals exact ⟨rfl, rfl, rfl, rfl, rfl, rfl, rfl, rfl⟩
theorem km_byFunction (σ : SM) (w : Int32) : KM σ (FM_byFunction σ w).2 := by
  unfold FM_byFunction
  repeat' (with_reducible refine kmP ?_ ?_)
  all_goals first | with_reducible exact km_rf _ | with_reducible exact km_put _ _ _ | with_reducible exact km_system _ | with_reducible exact km_sum _ _ _ | with_reducible exact km_divide _ _ _ | with_reducible exact km_divideBare _ _ _ | with_reducible exact km_halves _ _ | with_reducible exact km_rg _ _
theorem km_LM_load (a1 a2 a3 a4 : Int32) (σ : SM) : ∀ (n : Nat) (x5 x6 : Int32), KM σ (LM_load a1 a2 a3 a4 n σ x5 x6).2 := by
  intro n
  induction n with
  | zero => intro x5 x6; exact km_rf _
  | succ n ih =>
    intro x5 x6
    rw [LM_load]
    repeat' split
    all_goals first | with_reducible exact km_put _ _ _ | with_reducible exact ih _ _
theorem km_load (σ : SM) (a1 a2 a3 a4 : Int32) : KM σ (FM_load σ a1 a2 a3 a4).2 := by
  unfold FM_load
  repeat' (with_reducible refine kmP ?_ ?_)
  all_goals first | with_reducible exact km_rf _ | with_reducible exact km_LM_load _ _ _ _ _ _ _ _
theorem km_LM_store (a1 a2 a3 : Int32) (σ0 : SM) : ∀ (n : Nat) (σ : SM) (x4 : Int32), KM σ0 σ → KM σ0 (LM_store a1 a2 a3 n σ x4).2 := by
  intro n
  induction n with
  | zero => intro σ x4 h; exact h
  | succ n ih =>
    intro σ x4 h
    rw [LM_store]
    split
    · exact h
    · exact ih _ _ ⟨h.1, h.2.1, h.2.2.1, h.2.2.2.1, h.2.2.2.2.1, h.2.2.2.2.2.1, h.2.2.2.2.2.2.1, h.2.2.2.2.2.2.2⟩
theorem km_store (σ : SM) (a1 a2 a3 : Int32) : KM σ (FM_store σ a1 a2 a3).2 := by
  unfold FM_store
  repeat' (with_reducible refine kmP ?_ ?_)
  all_goals first | with_reducible exact km_rf _ | with_reducible exact km_LM_store _ _ _ _ _ _ _ (km_rf _)
theorem km_atOnce (σ : SM) (w : Int32) : KM σ (FM_atOnce σ w).2 := by
  unfold FM_atOnce
  repeat' (with_reducible refine kmP ?_ ?_)
  all_goals first | with_reducible exact km_rf _ | with_reducible exact km_put _ _ _ | with_reducible exact km_byFunction _ _ | with_reducible exact km_sum _ _ _ | with_reducible exact km_load _ _ _ _ _ | with_reducible exact km_store _ _ _ _
theorem im_lk2 (σ : SM) (w k v z : Int32) : vp_in (gmlk (FM_atOnce (FM_put (FM_aim σ w) k v) z).2) 34 := by
  rw [(km_atOnce _ _).1, (km_put _ _ _).1]
  exact im_lk1 σ w
theorem imv_system {σ : SM} (h : IM σ) : IM (FM_system σ).2 := by
  unfold FM_system
  split
  · split
    · refine ⟨h.1, h.2.1, h.2.2.1, ?_, h.2.2.2.2⟩
      show ¬ gmia σ + 0 < 0
      rw [Int32.add_zero]
      exact h.2.2.2.1
    · rename_i c
      rw [ti_le] at c
      have := h.2.2.1.2
      exact ⟨h.1, h.2.1, h.2.2.1, (inc_ok (k := 64) h.2.2.2.1 (by omega) (by decide)).1, h.2.2.2.2⟩
  · split
    · split
      · exact h
      · rename_i c
        rw [ti_le, show (256 : Int32).toInt = 256 by decide] at c
        exact ⟨h.1, h.2.1, h.2.2.1, h.2.2.2.1, inc_ok (k := 256) h.2.2.2.2.1 (by omega) (by decide)⟩
    · split
      · exact h
      · exact h
theorem imv_sum {σ : SM} {k : Int32} {v : Int64} (h : IM σ) : IM (FM_sum σ k v).2 := by
  unfold FM_sum
  repeat' (with_reducible refine imP ?_ ?_)
  all_goals first | with_reducible exact imv_put h | with_reducible exact h
theorem imv_halves {σ : SM} {v : Int64} (h : IM σ) : IM (FM_halves σ v) := by
  unfold FM_halves
  exact ims_mrg h
theorem imv_divide {σ : SM} {k v : Int32} (h : IM σ) : IM (FM_divide σ k v) := by
  unfold FM_divide
  repeat' (with_reducible refine imQ ?_ ?_)
  all_goals with_reducible exact ims_mrg h
theorem imv_divideBare {σ : SM} {k v : Int32} (h : IM σ) : IM (FM_divideBare σ k v) := by
  unfold FM_divideBare
  repeat' (with_reducible refine imQ ?_ ?_)
  all_goals with_reducible exact ims_mrg h
theorem imv_byFunction {σ : SM} {w : Int32} (h : IM σ) : IM (FM_byFunction σ w).2 := by
  unfold FM_byFunction
  repeat' (with_reducible refine imP ?_ ?_)
  all_goals first | with_reducible exact h | with_reducible exact imv_put h | with_reducible exact imv_system h | with_reducible exact imv_sum h | with_reducible exact imv_divide h | with_reducible exact imv_divideBare h | with_reducible exact ims_mrg h | with_reducible exact imv_halves h
theorem imv_LM_load (a1 a2 a3 a4 : Int32) {σ : SM} (h : IM σ) : ∀ (n : Nat) (x5 x6 : Int32), IM (LM_load a1 a2 a3 a4 n σ x5 x6).2 := by
  intro n
  induction n with
  | zero => intro x5 x6; exact h
  | succ n ih =>
    intro x5 x6
    rw [LM_load]
    repeat' split
    all_goals first | with_reducible exact imv_put h | with_reducible exact ih _ _
theorem imv_LM_store (a1 a2 a3 : Int32) : ∀ (n : Nat) (σ : SM) (x4 : Int32), IM σ → IM (LM_store a1 a2 a3 n σ x4).2 := by
  intro n
  induction n with
  | zero => intro σ x4 h; exact h
  | succ n ih =>
    intro σ x4 h
    rw [LM_store]
    split
    · exact h
    · exact ih _ _ (ims_mby h)
theorem imv_load {σ : SM} {a1 a2 a3 a4 : Int32} (h : IM σ) : IM (FM_load σ a1 a2 a3 a4).2 := by
  unfold FM_load
  repeat' (with_reducible refine imP ?_ ?_)
  all_goals first | with_reducible exact h | with_reducible exact imv_LM_load _ _ _ _ h _ _ _
theorem imv_store {σ : SM} {a1 a2 a3 : Int32} (h : IM σ) : IM (FM_store σ a1 a2 a3).2 := by
  unfold FM_store
  repeat' (with_reducible refine imP ?_ ?_)
  all_goals first | with_reducible exact h | with_reducible exact imv_LM_store _ _ _ _ _ _ h
theorem imv_atOnce {σ : SM} {w : Int32} (h : IM σ) : IM (FM_atOnce σ w).2 := by
  unfold FM_atOnce
  repeat' (with_reducible refine imP ?_ ?_)
  all_goals first | with_reducible exact h | with_reducible exact imv_put h | with_reducible exact imv_byFunction h | with_reducible exact imv_sum h | with_reducible exact imv_load h | with_reducible exact imv_store h
theorem imv_two {σ : SM} {w : Int32} (h : IM σ) : IM (FM_two σ w).2 := by
  unfold FM_two
  repeat' (with_reducible refine imP ?_ ?_)
  all_goals first | with_reducible exact h | with_reducible exact imv_aim h | with_reducible exact ims_mpc (imv_atOnce (imv_put (imv_aim h))) | with_reducible exact ims_mrg (imv_atOnce (imv_put (imv_aim h)))
def JMR (σ : SM) (n : Nat) (x : Int32) : Prop := IM σ ∧ 0 ≤ x.toInt ∧ x.toInt ≤ 2000 ∧ 1 ≤ n ∧ (gmen σ = 0 → gmtr σ = 0 → x.toInt + 2 ≤ n)
theorem jmr_0 {σ : SM} {x : Int32} (h : JMR σ 0 x) : False := by
  have := h.2.2.2.1
  omega
theorem jmr_s {σ : SM} {a : Int32} (hI : IM σ) (h1 : ¬ a < 1) (h2 : a ≤ 2000) : JMR σ 2003 a := by
  rw [ti_lt, ti_1] at h1
  rw [ti_le, show (2000 : Int32).toInt = 2000 by decide] at h2
  exact ⟨hI, by omega, by omega, by omega, fun _ _ => by omega⟩
theorem jmr_b {σ τ : SM} {n : Nat} {x k : Int32} (hI : IM τ) (hJ : JMR σ (n + 1) x) (hc : k ≤ x) (h0 : gmen σ = 0) (h1 : gmtr σ = 0) (hk : 1 ≤ k.toInt ∧ k.toInt ≤ 2) : JMR τ n (x - k) := by
  obtain ⟨-, j1, j2, j3, j4⟩ := hJ
  have j5 := j4 h0 h1
  rw [ti_le] at hc
  have e : (x - k).toInt = x.toInt - k.toInt := ti_sub (by omega) (by omega)
  exact ⟨hI, by omega, by omega, by omega, fun _ _ => by omega⟩
theorem jmr_t {σ τ : SM} {n : Nat} {x : Int32} (hI : IM τ) (hJ : JMR σ (n + 1) x) (h0 : gmen σ = 0) (h1 : gmtr σ = 0) (ht : ¬ gmtr τ = 0) : JMR τ n (x - 0) := by
  obtain ⟨-, j1, j2, j3, j4⟩ := hJ
  have j5 := j4 h0 h1
  rw [Int32.sub_zero]
  exact ⟨hI, j1, j2, by omega, fun _ h => absurd h ht⟩
end
