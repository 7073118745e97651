section
-- ===== PART A: goes FIRST, ahead of the names: the tables' words, and 'selects' of the private methods out of them =====
/-- a private method of a class that the tables say can be made, by its rows of tables_1 -/
def lw_okq (q : MethodName × Nat) : Prop := (q.1.cls ≠ "java/lang/invoke/MethodHandle" ∧ q.1.cls ≠ "java/lang/invoke/VarHandle") ∧ Cond.instantiable q.1.cls q.2 ∈ tables_1 ∧ Cond.privateMethod q.1 ∈ tables_1 ∧ Cond.instanceMethod q.1 ∈ tables_1
theorem lw_p0 : lw_okq (⟨"HalfFaces", "change", "(II)I"⟩, 7) := ⟨⟨by decide +kernel, by decide +kernel⟩, List.mem_of_getElem? (i := 15) (by decide +kernel), List.mem_of_getElem? (i := 122) (by decide +kernel), List.mem_of_getElem? (i := 123) (by decide +kernel)⟩
theorem lw_p1 : lw_okq (⟨"HalfFaces$State", "number", "(I)I"⟩, 1) := ⟨⟨by decide +kernel, by decide +kernel⟩, List.mem_of_getElem? (i := 23) (by decide +kernel), List.mem_of_getElem? (i := 126) (by decide +kernel), List.mem_of_getElem? (i := 127) (by decide +kernel)⟩
theorem lw_p2 : lw_okq (⟨"HalfFaces$History", "remember", "(LHalfFaces$State;)V"⟩, 2) := ⟨⟨by decide +kernel, by decide +kernel⟩, List.mem_of_getElem? (i := 35) (by decide +kernel), List.mem_of_getElem? (i := 131) (by decide +kernel), List.mem_of_getElem? (i := 132) (by decide +kernel)⟩
theorem lw_p3 : lw_okq (⟨"HalfFaces$History", "dropOldest", "()V"⟩, 2) := ⟨⟨by decide +kernel, by decide +kernel⟩, List.mem_of_getElem? (i := 35) (by decide +kernel), List.mem_of_getElem? (i := 135) (by decide +kernel), List.mem_of_getElem? (i := 136) (by decide +kernel)⟩
theorem lw_p4 : lw_okq (⟨"HalfFaces$State", "setNumber", "(II)V"⟩, 1) := ⟨⟨by decide +kernel, by decide +kernel⟩, List.mem_of_getElem? (i := 23) (by decide +kernel), List.mem_of_getElem? (i := 142) (by decide +kernel), List.mem_of_getElem? (i := 143) (by decide +kernel)⟩
theorem lw_p5 : lw_okq (⟨"HalfFaces$State", "halfTone", "(II)I"⟩, 1) := ⟨⟨by decide +kernel, by decide +kernel⟩, List.mem_of_getElem? (i := 23) (by decide +kernel), List.mem_of_getElem? (i := 163) (by decide +kernel), List.mem_of_getElem? (i := 164) (by decide +kernel)⟩
theorem lw_p6 : lw_okq (⟨"HalfFaces$State", "minutesOf", "(I)I"⟩, 1) := ⟨⟨by decide +kernel, by decide +kernel⟩, List.mem_of_getElem? (i := 23) (by decide +kernel), List.mem_of_getElem? (i := 170) (by decide +kernel), List.mem_of_getElem? (i := 171) (by decide +kernel)⟩
theorem lw_p7 : lw_okq (⟨"HalfFaces$State", "setHalfTone", "(III)V"⟩, 1) := ⟨⟨by decide +kernel, by decide +kernel⟩, List.mem_of_getElem? (i := 23) (by decide +kernel), List.mem_of_getElem? (i := 175) (by decide +kernel), List.mem_of_getElem? (i := 176) (by decide +kernel)⟩
theorem lw_p8 : lw_okq (⟨"HalfFaces$State", "useMinutes", "(II)V"⟩, 1) := ⟨⟨by decide +kernel, by decide +kernel⟩, List.mem_of_getElem? (i := 23) (by decide +kernel), List.mem_of_getElem? (i := 179) (by decide +kernel), List.mem_of_getElem? (i := 180) (by decide +kernel)⟩
theorem lw_p9 : lw_okq (⟨"HalfFaces$State", "halfError", "(I)I"⟩, 1) := ⟨⟨by decide +kernel, by decide +kernel⟩, List.mem_of_getElem? (i := 23) (by decide +kernel), List.mem_of_getElem? (i := 190) (by decide +kernel), List.mem_of_getElem? (i := 191) (by decide +kernel)⟩
theorem lw_p10 : lw_okq (⟨"HalfFaces$State", "cellError", "(II)I"⟩, 1) := ⟨⟨by decide +kernel, by decide +kernel⟩, List.mem_of_getElem? (i := 23) (by decide +kernel), List.mem_of_getElem? (i := 194) (by decide +kernel), List.mem_of_getElem? (i := 195) (by decide +kernel)⟩
theorem lw_p11 : lw_okq (⟨"HalfFaces$State", "dueTone", "(II)I"⟩, 1) := ⟨⟨by decide +kernel, by decide +kernel⟩, List.mem_of_getElem? (i := 23) (by decide +kernel), List.mem_of_getElem? (i := 199) (by decide +kernel), List.mem_of_getElem? (i := 200) (by decide +kernel)⟩
theorem lw_p12 : lw_okq (⟨"HalfFaces$State", "sitterTone", "(II)I"⟩, 1) := ⟨⟨by decide +kernel, by decide +kernel⟩, List.mem_of_getElem? (i := 23) (by decide +kernel), List.mem_of_getElem? (i := 203) (by decide +kernel), List.mem_of_getElem? (i := 204) (by decide +kernel)⟩
theorem lw_p13 : lw_okq (⟨"HalfFaces$State", "improveWorstCell", "(I)V"⟩, 1) := ⟨⟨by decide +kernel, by decide +kernel⟩, List.mem_of_getElem? (i := 23) (by decide +kernel), List.mem_of_getElem? (i := 208) (by decide +kernel), List.mem_of_getElem? (i := 209) (by decide +kernel)⟩
theorem lw_p14 : lw_okq (⟨"HalfFaces$State", "worstCell", "(I)I"⟩, 1) := ⟨⟨by decide +kernel, by decide +kernel⟩, List.mem_of_getElem? (i := 23) (by decide +kernel), List.mem_of_getElem? (i := 212) (by decide +kernel), List.mem_of_getElem? (i := 213) (by decide +kernel)⟩
theorem lw_p15 : lw_okq (⟨"HalfFaces$State", "distance", "(II)I"⟩, 1) := ⟨⟨by decide +kernel, by decide +kernel⟩, List.mem_of_getElem? (i := 23) (by decide +kernel), List.mem_of_getElem? (i := 221) (by decide +kernel), List.mem_of_getElem? (i := 222) (by decide +kernel)⟩
def lw_privs_1 : List (MethodName × Nat) := [(⟨"HalfFaces", "change", "(II)I"⟩, 7), (⟨"HalfFaces$State", "number", "(I)I"⟩, 1), (⟨"HalfFaces$History", "remember", "(LHalfFaces$State;)V"⟩, 2), (⟨"HalfFaces$History", "dropOldest", "()V"⟩, 2), (⟨"HalfFaces$State", "setNumber", "(II)V"⟩, 1), (⟨"HalfFaces$State", "halfTone", "(II)I"⟩, 1), (⟨"HalfFaces$State", "minutesOf", "(I)I"⟩, 1), (⟨"HalfFaces$State", "setHalfTone", "(III)V"⟩, 1), (⟨"HalfFaces$State", "useMinutes", "(II)V"⟩, 1), (⟨"HalfFaces$State", "halfError", "(I)I"⟩, 1), (⟨"HalfFaces$State", "cellError", "(II)I"⟩, 1), (⟨"HalfFaces$State", "dueTone", "(II)I"⟩, 1), (⟨"HalfFaces$State", "sitterTone", "(II)I"⟩, 1), (⟨"HalfFaces$State", "improveWorstCell", "(I)V"⟩, 1), (⟨"HalfFaces$State", "worstCell", "(I)I"⟩, 1), (⟨"HalfFaces$State", "distance", "(II)I"⟩, 1)]
theorem lw_r1 : ∀ q ∈ lw_privs_1, lw_okq q := List.forall_mem_cons.mpr ⟨lw_p0, List.forall_mem_cons.mpr ⟨lw_p1, List.forall_mem_cons.mpr ⟨lw_p2, List.forall_mem_cons.mpr ⟨lw_p3, List.forall_mem_cons.mpr ⟨lw_p4, List.forall_mem_cons.mpr ⟨lw_p5, List.forall_mem_cons.mpr ⟨lw_p6, List.forall_mem_cons.mpr ⟨lw_p7, List.forall_mem_cons.mpr ⟨lw_p8, List.forall_mem_cons.mpr ⟨lw_p9, List.forall_mem_cons.mpr ⟨lw_p10, List.forall_mem_cons.mpr ⟨lw_p11, List.forall_mem_cons.mpr ⟨lw_p12, List.forall_mem_cons.mpr ⟨lw_p13, List.forall_mem_cons.mpr ⟨lw_p14, List.forall_mem_cons.mpr ⟨lw_p15, fun _ h => absurd h List.not_mem_nil⟩⟩⟩⟩⟩⟩⟩⟩⟩⟩⟩⟩⟩⟩⟩⟩
theorem lw_p16 : lw_okq (⟨"HalfFaces$State", "takeHalfOver", "(II)I"⟩, 1) := ⟨⟨by decide +kernel, by decide +kernel⟩, List.mem_of_getElem? (i := 23) (by decide +kernel), List.mem_of_getElem? (i := 225) (by decide +kernel), List.mem_of_getElem? (i := 226) (by decide +kernel)⟩
theorem lw_p17 : lw_okq (⟨"HalfFaces$State", "passHour", "()I"⟩, 1) := ⟨⟨by decide +kernel, by decide +kernel⟩, List.mem_of_getElem? (i := 23) (by decide +kernel), List.mem_of_getElem? (i := 233) (by decide +kernel), List.mem_of_getElem? (i := 234) (by decide +kernel)⟩
theorem lw_p18 : lw_okq (⟨"HalfFaces$Text", "fault", "()I"⟩, 2) := ⟨⟨by decide +kernel, by decide +kernel⟩, List.mem_of_getElem? (i := 48) (by decide +kernel), List.mem_of_getElem? (i := 241) (by decide +kernel), List.mem_of_getElem? (i := 242) (by decide +kernel)⟩
theorem lw_p19 : lw_okq (⟨"HalfFaces$Text", "formAt", "(I)Ljava/lang/String;"⟩, 2) := ⟨⟨by decide +kernel, by decide +kernel⟩, List.mem_of_getElem? (i := 48) (by decide +kernel), List.mem_of_getElem? (i := 245) (by decide +kernel), List.mem_of_getElem? (i := 246) (by decide +kernel)⟩
theorem lw_p20 : lw_okq (⟨"HalfFaces$Text", "isHalfAt", "(I)Z"⟩, 2) := ⟨⟨by decide +kernel, by decide +kernel⟩, List.mem_of_getElem? (i := 48) (by decide +kernel), List.mem_of_getElem? (i := 249) (by decide +kernel), List.mem_of_getElem? (i := 250) (by decide +kernel)⟩
theorem lw_p21 : lw_okq (⟨"HalfFaces$Text", "characterAt", "(I)C"⟩, 2) := ⟨⟨by decide +kernel, by decide +kernel⟩, List.mem_of_getElem? (i := 48) (by decide +kernel), List.mem_of_getElem? (i := 253) (by decide +kernel), List.mem_of_getElem? (i := 254) (by decide +kernel)⟩
theorem lw_p22 : lw_okq (⟨"HalfFaces$Text", "entryFault", "(I)I"⟩, 2) := ⟨⟨by decide +kernel, by decide +kernel⟩, List.mem_of_getElem? (i := 48) (by decide +kernel), List.mem_of_getElem? (i := 269) (by decide +kernel), List.mem_of_getElem? (i := 270) (by decide +kernel)⟩
theorem lw_p23 : lw_okq (⟨"HalfFaces$Text", "writeRows", "(LHalfFaces$State;)I"⟩, 2) := ⟨⟨by decide +kernel, by decide +kernel⟩, List.mem_of_getElem? (i := 48) (by decide +kernel), List.mem_of_getElem? (i := 315) (by decide +kernel), List.mem_of_getElem? (i := 316) (by decide +kernel)⟩
theorem lw_p24 : lw_okq (⟨"HalfFaces$Text", "writeHalfRow", "(LHalfFaces$State;I)V"⟩, 2) := ⟨⟨by decide +kernel, by decide +kernel⟩, List.mem_of_getElem? (i := 48) (by decide +kernel), List.mem_of_getElem? (i := 319) (by decide +kernel), List.mem_of_getElem? (i := 320) (by decide +kernel)⟩
theorem lw_p25 : lw_okq (⟨"HalfFaces$Text", "digitAt", "(I)I"⟩, 2) := ⟨⟨by decide +kernel, by decide +kernel⟩, List.mem_of_getElem? (i := 48) (by decide +kernel), List.mem_of_getElem? (i := 323) (by decide +kernel), List.mem_of_getElem? (i := 324) (by decide +kernel)⟩
theorem lw_p26 : lw_okq (⟨"HalfFaces$Text", "writeSitterRow", "(LHalfFaces$State;I)V"⟩, 2) := ⟨⟨by decide +kernel, by decide +kernel⟩, List.mem_of_getElem? (i := 48) (by decide +kernel), List.mem_of_getElem? (i := 329) (by decide +kernel), List.mem_of_getElem? (i := 330) (by decide +kernel)⟩
theorem lw_p27 : lw_okq (⟨"HalfFaces$State", "setSitterTone", "(III)V"⟩, 1) := ⟨⟨by decide +kernel, by decide +kernel⟩, List.mem_of_getElem? (i := 23) (by decide +kernel), List.mem_of_getElem? (i := 333) (by decide +kernel), List.mem_of_getElem? (i := 334) (by decide +kernel)⟩
theorem lw_p28 : lw_okq (⟨"HalfFaces$State", "rightOf", "(I)I"⟩, 1) := ⟨⟨by decide +kernel, by decide +kernel⟩, List.mem_of_getElem? (i := 23) (by decide +kernel), List.mem_of_getElem? (i := 342) (by decide +kernel), List.mem_of_getElem? (i := 343) (by decide +kernel)⟩
theorem lw_p29 : lw_okq (⟨"HalfFaces$State", "leftOf", "(I)I"⟩, 1) := ⟨⟨by decide +kernel, by decide +kernel⟩, List.mem_of_getElem? (i := 23) (by decide +kernel), List.mem_of_getElem? (i := 346) (by decide +kernel), List.mem_of_getElem? (i := 347) (by decide +kernel)⟩
theorem lw_p30 : lw_okq (⟨"HalfFaces$State", "setRightOf", "(II)V"⟩, 1) := ⟨⟨by decide +kernel, by decide +kernel⟩, List.mem_of_getElem? (i := 23) (by decide +kernel), List.mem_of_getElem? (i := 351) (by decide +kernel), List.mem_of_getElem? (i := 352) (by decide +kernel)⟩
theorem lw_p31 : lw_okq (⟨"HalfFaces$State", "likeness", "(II)I"⟩, 1) := ⟨⟨by decide +kernel, by decide +kernel⟩, List.mem_of_getElem? (i := 23) (by decide +kernel), List.mem_of_getElem? (i := 355) (by decide +kernel), List.mem_of_getElem? (i := 356) (by decide +kernel)⟩
def lw_privs_2 : List (MethodName × Nat) := [(⟨"HalfFaces$State", "takeHalfOver", "(II)I"⟩, 1), (⟨"HalfFaces$State", "passHour", "()I"⟩, 1), (⟨"HalfFaces$Text", "fault", "()I"⟩, 2), (⟨"HalfFaces$Text", "formAt", "(I)Ljava/lang/String;"⟩, 2), (⟨"HalfFaces$Text", "isHalfAt", "(I)Z"⟩, 2), (⟨"HalfFaces$Text", "characterAt", "(I)C"⟩, 2), (⟨"HalfFaces$Text", "entryFault", "(I)I"⟩, 2), (⟨"HalfFaces$Text", "writeRows", "(LHalfFaces$State;)I"⟩, 2), (⟨"HalfFaces$Text", "writeHalfRow", "(LHalfFaces$State;I)V"⟩, 2), (⟨"HalfFaces$Text", "digitAt", "(I)I"⟩, 2), (⟨"HalfFaces$Text", "writeSitterRow", "(LHalfFaces$State;I)V"⟩, 2), (⟨"HalfFaces$State", "setSitterTone", "(III)V"⟩, 1), (⟨"HalfFaces$State", "rightOf", "(I)I"⟩, 1), (⟨"HalfFaces$State", "leftOf", "(I)I"⟩, 1), (⟨"HalfFaces$State", "setRightOf", "(II)V"⟩, 1), (⟨"HalfFaces$State", "likeness", "(II)I"⟩, 1)]
theorem lw_r2 : ∀ q ∈ lw_privs_2, lw_okq q := List.forall_mem_cons.mpr ⟨lw_p16, List.forall_mem_cons.mpr ⟨lw_p17, List.forall_mem_cons.mpr ⟨lw_p18, List.forall_mem_cons.mpr ⟨lw_p19, List.forall_mem_cons.mpr ⟨lw_p20, List.forall_mem_cons.mpr ⟨lw_p21, List.forall_mem_cons.mpr ⟨lw_p22, List.forall_mem_cons.mpr ⟨lw_p23, List.forall_mem_cons.mpr ⟨lw_p24, List.forall_mem_cons.mpr ⟨lw_p25, List.forall_mem_cons.mpr ⟨lw_p26, List.forall_mem_cons.mpr ⟨lw_p27, List.forall_mem_cons.mpr ⟨lw_p28, List.forall_mem_cons.mpr ⟨lw_p29, List.forall_mem_cons.mpr ⟨lw_p30, List.forall_mem_cons.mpr ⟨lw_p31, fun _ h => absurd h List.not_mem_nil⟩⟩⟩⟩⟩⟩⟩⟩⟩⟩⟩⟩⟩⟩⟩⟩
theorem lw_p32 : lw_okq (⟨"HalfFaces$State", "breaks", "(II)I"⟩, 1) := ⟨⟨by decide +kernel, by decide +kernel⟩, List.mem_of_getElem? (i := 23) (by decide +kernel), List.mem_of_getElem? (i := 360) (by decide +kernel), List.mem_of_getElem? (i := 361) (by decide +kernel)⟩
theorem lw_p33 : lw_okq (⟨"HalfFaces$State", "isBreak", "(III)Z"⟩, 1) := ⟨⟨by decide +kernel, by decide +kernel⟩, List.mem_of_getElem? (i := 23) (by decide +kernel), List.mem_of_getElem? (i := 364) (by decide +kernel), List.mem_of_getElem? (i := 365) (by decide +kernel)⟩
theorem lw_p34 : lw_okq (⟨"HalfFaces$State", "stepAtLine", "(III)I"⟩, 1) := ⟨⟨by decide +kernel, by decide +kernel⟩, List.mem_of_getElem? (i := 23) (by decide +kernel), List.mem_of_getElem? (i := 368) (by decide +kernel), List.mem_of_getElem? (i := 369) (by decide +kernel)⟩
theorem lw_p35 : lw_okq (⟨"HalfFaces$State", "sitterStepAtLine", "(I)I"⟩, 1) := ⟨⟨by decide +kernel, by decide +kernel⟩, List.mem_of_getElem? (i := 23) (by decide +kernel), List.mem_of_getElem? (i := 372) (by decide +kernel), List.mem_of_getElem? (i := 373) (by decide +kernel)⟩
theorem lw_p36 : lw_okq (⟨"HalfFaces$BestPairs", "find", "(LHalfFaces$State;)V"⟩, 3) := ⟨⟨by decide +kernel, by decide +kernel⟩, List.mem_of_getElem? (i := 62) (by decide +kernel), List.mem_of_getElem? (i := 380) (by decide +kernel), List.mem_of_getElem? (i := 381) (by decide +kernel)⟩
theorem lw_p37 : lw_okq (⟨"HalfFaces$BestPairs", "tryWith", "(II)V"⟩, 3) := ⟨⟨by decide +kernel, by decide +kernel⟩, List.mem_of_getElem? (i := 62) (by decide +kernel), List.mem_of_getElem? (i := 386) (by decide +kernel), List.mem_of_getElem? (i := 387) (by decide +kernel)⟩
theorem lw_p38 : lw_okq (⟨"HalfFaces$BestPairs", "rightOf", "(I)I"⟩, 3) := ⟨⟨by decide +kernel, by decide +kernel⟩, List.mem_of_getElem? (i := 62) (by decide +kernel), List.mem_of_getElem? (i := 390) (by decide +kernel), List.mem_of_getElem? (i := 391) (by decide +kernel)⟩
theorem lw_p39 : lw_okq (⟨"HalfFaces$Ranking", "rank", "(LHalfFaces$State;)V"⟩, 2) := ⟨⟨by decide +kernel, by decide +kernel⟩, List.mem_of_getElem? (i := 78) (by decide +kernel), List.mem_of_getElem? (i := 398) (by decide +kernel), List.mem_of_getElem? (i := 399) (by decide +kernel)⟩
theorem lw_p40 : lw_okq (⟨"HalfFaces$Ranking", "insert", "(II)V"⟩, 2) := ⟨⟨by decide +kernel, by decide +kernel⟩, List.mem_of_getElem? (i := 78) (by decide +kernel), List.mem_of_getElem? (i := 404) (by decide +kernel), List.mem_of_getElem? (i := 405) (by decide +kernel)⟩
theorem lw_p41 : lw_okq (⟨"HalfFaces$Ranking", "prizeAt", "(I)I"⟩, 2) := ⟨⟨by decide +kernel, by decide +kernel⟩, List.mem_of_getElem? (i := 78) (by decide +kernel), List.mem_of_getElem? (i := 408) (by decide +kernel), List.mem_of_getElem? (i := 409) (by decide +kernel)⟩
theorem lw_p42 : lw_okq (⟨"HalfFaces$Ranking", "leftAt", "(I)I"⟩, 2) := ⟨⟨by decide +kernel, by decide +kernel⟩, List.mem_of_getElem? (i := 78) (by decide +kernel), List.mem_of_getElem? (i := 414) (by decide +kernel), List.mem_of_getElem? (i := 415) (by decide +kernel)⟩
theorem lw_p43 : lw_okq (⟨"HalfFaces$State", "givePrize", "(II)V"⟩, 1) := ⟨⟨by decide +kernel, by decide +kernel⟩, List.mem_of_getElem? (i := 23) (by decide +kernel), List.mem_of_getElem? (i := 418) (by decide +kernel), List.mem_of_getElem? (i := 419) (by decide +kernel)⟩
theorem lw_p44 : lw_okq (⟨"HalfFaces$State", "countShow", "()V"⟩, 1) := ⟨⟨by decide +kernel, by decide +kernel⟩, List.mem_of_getElem? (i := 23) (by decide +kernel), List.mem_of_getElem? (i := 422) (by decide +kernel), List.mem_of_getElem? (i := 423) (by decide +kernel)⟩
theorem lw_p45 : lw_okq (⟨"HalfFaces$Text", "append", "(C)Z"⟩, 2) := ⟨⟨by decide +kernel, by decide +kernel⟩, List.mem_of_getElem? (i := 48) (by decide +kernel), List.mem_of_getElem? (i := 430) (by decide +kernel), List.mem_of_getElem? (i := 431) (by decide +kernel)⟩
theorem lw_p46 : lw_okq (⟨"HalfFaces$Text", "length", "()I"⟩, 2) := ⟨⟨by decide +kernel, by decide +kernel⟩, List.mem_of_getElem? (i := 48) (by decide +kernel), List.mem_of_getElem? (i := 434) (by decide +kernel), List.mem_of_getElem? (i := 435) (by decide +kernel)⟩
theorem lw_p47 : lw_okq (⟨"HalfFaces$Text", "empty", "()V"⟩, 2) := ⟨⟨by decide +kernel, by decide +kernel⟩, List.mem_of_getElem? (i := 48) (by decide +kernel), List.mem_of_getElem? (i := 443) (by decide +kernel), List.mem_of_getElem? (i := 444) (by decide +kernel)⟩
def lw_privs_3 : List (MethodName × Nat) := [(⟨"HalfFaces$State", "breaks", "(II)I"⟩, 1), (⟨"HalfFaces$State", "isBreak", "(III)Z"⟩, 1), (⟨"HalfFaces$State", "stepAtLine", "(III)I"⟩, 1), (⟨"HalfFaces$State", "sitterStepAtLine", "(I)I"⟩, 1), (⟨"HalfFaces$BestPairs", "find", "(LHalfFaces$State;)V"⟩, 3), (⟨"HalfFaces$BestPairs", "tryWith", "(II)V"⟩, 3), (⟨"HalfFaces$BestPairs", "rightOf", "(I)I"⟩, 3), (⟨"HalfFaces$Ranking", "rank", "(LHalfFaces$State;)V"⟩, 2), (⟨"HalfFaces$Ranking", "insert", "(II)V"⟩, 2), (⟨"HalfFaces$Ranking", "prizeAt", "(I)I"⟩, 2), (⟨"HalfFaces$Ranking", "leftAt", "(I)I"⟩, 2), (⟨"HalfFaces$State", "givePrize", "(II)V"⟩, 1), (⟨"HalfFaces$State", "countShow", "()V"⟩, 1), (⟨"HalfFaces$Text", "append", "(C)Z"⟩, 2), (⟨"HalfFaces$Text", "length", "()I"⟩, 2), (⟨"HalfFaces$Text", "empty", "()V"⟩, 2)]
theorem lw_r3 : ∀ q ∈ lw_privs_3, lw_okq q := List.forall_mem_cons.mpr ⟨lw_p32, List.forall_mem_cons.mpr ⟨lw_p33, List.forall_mem_cons.mpr ⟨lw_p34, List.forall_mem_cons.mpr ⟨lw_p35, List.forall_mem_cons.mpr ⟨lw_p36, List.forall_mem_cons.mpr ⟨lw_p37, List.forall_mem_cons.mpr ⟨lw_p38, List.forall_mem_cons.mpr ⟨lw_p39, List.forall_mem_cons.mpr ⟨lw_p40, List.forall_mem_cons.mpr ⟨lw_p41, List.forall_mem_cons.mpr ⟨lw_p42, List.forall_mem_cons.mpr ⟨lw_p43, List.forall_mem_cons.mpr ⟨lw_p44, List.forall_mem_cons.mpr ⟨lw_p45, List.forall_mem_cons.mpr ⟨lw_p46, List.forall_mem_cons.mpr ⟨lw_p47, fun _ h => absurd h List.not_mem_nil⟩⟩⟩⟩⟩⟩⟩⟩⟩⟩⟩⟩⟩⟩⟩⟩
theorem lw_p48 : lw_okq (⟨"HalfFaces$History", "recall", "(LHalfFaces$State;)Z"⟩, 2) := ⟨⟨by decide +kernel, by decide +kernel⟩, List.mem_of_getElem? (i := 35) (by decide +kernel), List.mem_of_getElem? (i := 451) (by decide +kernel), List.mem_of_getElem? (i := 452) (by decide +kernel)⟩
theorem lw_p49 : lw_okq (⟨"HalfFaces$History", "size", "()I"⟩, 2) := ⟨⟨by decide +kernel, by decide +kernel⟩, List.mem_of_getElem? (i := 35) (by decide +kernel), List.mem_of_getElem? (i := 455) (by decide +kernel), List.mem_of_getElem? (i := 456) (by decide +kernel)⟩
theorem lw_p50 : lw_okq (⟨"HalfFaces$State", "become", "(LHalfFaces$State;)V"⟩, 1) := ⟨⟨by decide +kernel, by decide +kernel⟩, List.mem_of_getElem? (i := 23) (by decide +kernel), List.mem_of_getElem? (i := 463) (by decide +kernel), List.mem_of_getElem? (i := 464) (by decide +kernel)⟩
theorem lw_p51 : lw_okq (⟨"HalfFaces$State", "coinsOf", "(I)I"⟩, 1) := ⟨⟨by decide +kernel, by decide +kernel⟩, List.mem_of_getElem? (i := 23) (by decide +kernel), List.mem_of_getElem? (i := 485) (by decide +kernel), List.mem_of_getElem? (i := 486) (by decide +kernel)⟩
theorem lw_p52 : lw_okq (⟨"HalfFaces$State", "cellsWithoutError", "(I)I"⟩, 1) := ⟨⟨by decide +kernel, by decide +kernel⟩, List.mem_of_getElem? (i := 23) (by decide +kernel), List.mem_of_getElem? (i := 491) (by decide +kernel), List.mem_of_getElem? (i := 492) (by decide +kernel)⟩
theorem lw_p53 : lw_okq (⟨"HalfFaces$State", "firstBreak", "(II)I"⟩, 1) := ⟨⟨by decide +kernel, by decide +kernel⟩, List.mem_of_getElem? (i := 23) (by decide +kernel), List.mem_of_getElem? (i := 500) (by decide +kernel), List.mem_of_getElem? (i := 501) (by decide +kernel)⟩
theorem lw_p54 : lw_okq (⟨"HalfFaces$State", "distanceAtLine", "(II)I"⟩, 1) := ⟨⟨by decide +kernel, by decide +kernel⟩, List.mem_of_getElem? (i := 23) (by decide +kernel), List.mem_of_getElem? (i := 505) (by decide +kernel), List.mem_of_getElem? (i := 506) (by decide +kernel)⟩
theorem lw_p55 : lw_okq (⟨"HalfFaces$Ranking", "likenessAt", "(I)I"⟩, 2) := ⟨⟨by decide +kernel, by decide +kernel⟩, List.mem_of_getElem? (i := 78) (by decide +kernel), List.mem_of_getElem? (i := 517) (by decide +kernel), List.mem_of_getElem? (i := 518) (by decide +kernel)⟩
theorem lw_p56 : lw_okq (⟨"HalfFaces$State", "allCoins", "()I"⟩, 1) := ⟨⟨by decide +kernel, by decide +kernel⟩, List.mem_of_getElem? (i := 23) (by decide +kernel), List.mem_of_getElem? (i := 525) (by decide +kernel), List.mem_of_getElem? (i := 526) (by decide +kernel)⟩
theorem lw_p57 : lw_okq (⟨"HalfFaces$State", "allBreaks", "()I"⟩, 1) := ⟨⟨by decide +kernel, by decide +kernel⟩, List.mem_of_getElem? (i := 23) (by decide +kernel), List.mem_of_getElem? (i := 530) (by decide +kernel), List.mem_of_getElem? (i := 531) (by decide +kernel)⟩
theorem lw_p58 : lw_okq (⟨"HalfFaces$State", "allLikeness", "()I"⟩, 1) := ⟨⟨by decide +kernel, by decide +kernel⟩, List.mem_of_getElem? (i := 23) (by decide +kernel), List.mem_of_getElem? (i := 534) (by decide +kernel), List.mem_of_getElem? (i := 535) (by decide +kernel)⟩
theorem lw_p59 : lw_okq (⟨"HalfFaces$BestPairs", "sum", "()I"⟩, 3) := ⟨⟨by decide +kernel, by decide +kernel⟩, List.mem_of_getElem? (i := 62) (by decide +kernel), List.mem_of_getElem? (i := 539) (by decide +kernel), List.mem_of_getElem? (i := 540) (by decide +kernel)⟩
theorem lw_p60 : lw_okq (⟨"HalfFaces$State", "allErrors", "()I"⟩, 1) := ⟨⟨by decide +kernel, by decide +kernel⟩, List.mem_of_getElem? (i := 23) (by decide +kernel), List.mem_of_getElem? (i := 543) (by decide +kernel), List.mem_of_getElem? (i := 544) (by decide +kernel)⟩
theorem lw_p61 : lw_okq (⟨"HalfFacesModel", "records", "()V"⟩, 15) := ⟨⟨by decide +kernel, by decide +kernel⟩, List.mem_of_getElem? (i := 547) (by decide +kernel), List.mem_of_getElem? (i := 609) (by decide +kernel), List.mem_of_getElem? (i := 610) (by decide +kernel)⟩
theorem lw_p62 : lw_okq (⟨"HalfFacesModel", "copies", "(II)V"⟩, 15) := ⟨⟨by decide +kernel, by decide +kernel⟩, List.mem_of_getElem? (i := 547) (by decide +kernel), List.mem_of_getElem? (i := 613) (by decide +kernel), List.mem_of_getElem? (i := 614) (by decide +kernel)⟩
theorem lw_p63 : lw_okq (⟨"HalfFacesModel", "error", "(I)I"⟩, 15) := ⟨⟨by decide +kernel, by decide +kernel⟩, List.mem_of_getElem? (i := 547) (by decide +kernel), List.mem_of_getElem? (i := 639) (by decide +kernel), List.mem_of_getElem? (i := 640) (by decide +kernel)⟩
def lw_privs_4 : List (MethodName × Nat) := [(⟨"HalfFaces$History", "recall", "(LHalfFaces$State;)Z"⟩, 2), (⟨"HalfFaces$History", "size", "()I"⟩, 2), (⟨"HalfFaces$State", "become", "(LHalfFaces$State;)V"⟩, 1), (⟨"HalfFaces$State", "coinsOf", "(I)I"⟩, 1), (⟨"HalfFaces$State", "cellsWithoutError", "(I)I"⟩, 1), (⟨"HalfFaces$State", "firstBreak", "(II)I"⟩, 1), (⟨"HalfFaces$State", "distanceAtLine", "(II)I"⟩, 1), (⟨"HalfFaces$Ranking", "likenessAt", "(I)I"⟩, 2), (⟨"HalfFaces$State", "allCoins", "()I"⟩, 1), (⟨"HalfFaces$State", "allBreaks", "()I"⟩, 1), (⟨"HalfFaces$State", "allLikeness", "()I"⟩, 1), (⟨"HalfFaces$BestPairs", "sum", "()I"⟩, 3), (⟨"HalfFaces$State", "allErrors", "()I"⟩, 1), (⟨"HalfFacesModel", "records", "()V"⟩, 15), (⟨"HalfFacesModel", "copies", "(II)V"⟩, 15), (⟨"HalfFacesModel", "error", "(I)I"⟩, 15)]
theorem lw_r4 : ∀ q ∈ lw_privs_4, lw_okq q := List.forall_mem_cons.mpr ⟨lw_p48, List.forall_mem_cons.mpr ⟨lw_p49, List.forall_mem_cons.mpr ⟨lw_p50, List.forall_mem_cons.mpr ⟨lw_p51, List.forall_mem_cons.mpr ⟨lw_p52, List.forall_mem_cons.mpr ⟨lw_p53, List.forall_mem_cons.mpr ⟨lw_p54, List.forall_mem_cons.mpr ⟨lw_p55, List.forall_mem_cons.mpr ⟨lw_p56, List.forall_mem_cons.mpr ⟨lw_p57, List.forall_mem_cons.mpr ⟨lw_p58, List.forall_mem_cons.mpr ⟨lw_p59, List.forall_mem_cons.mpr ⟨lw_p60, List.forall_mem_cons.mpr ⟨lw_p61, List.forall_mem_cons.mpr ⟨lw_p62, List.forall_mem_cons.mpr ⟨lw_p63, fun _ h => absurd h List.not_mem_nil⟩⟩⟩⟩⟩⟩⟩⟩⟩⟩⟩⟩⟩⟩⟩⟩
theorem lw_p64 : lw_okq (⟨"HalfFacesModel", "wrong", "(II)I"⟩, 15) := ⟨⟨by decide +kernel, by decide +kernel⟩, List.mem_of_getElem? (i := 547) (by decide +kernel), List.mem_of_getElem? (i := 643) (by decide +kernel), List.mem_of_getElem? (i := 644) (by decide +kernel)⟩
theorem lw_p65 : lw_okq (⟨"HalfFacesModel", "wanted", "(II)I"⟩, 15) := ⟨⟨by decide +kernel, by decide +kernel⟩, List.mem_of_getElem? (i := 547) (by decide +kernel), List.mem_of_getElem? (i := 647) (by decide +kernel), List.mem_of_getElem? (i := 648) (by decide +kernel)⟩
theorem lw_p66 : lw_okq (⟨"HalfFacesModel", "greatest", "(I)I"⟩, 15) := ⟨⟨by decide +kernel, by decide +kernel⟩, List.mem_of_getElem? (i := 547) (by decide +kernel), List.mem_of_getElem? (i := 651) (by decide +kernel), List.mem_of_getElem? (i := 652) (by decide +kernel)⟩
theorem lw_p67 : lw_okq (⟨"HalfFacesModel", "fault", "()I"⟩, 15) := ⟨⟨by decide +kernel, by decide +kernel⟩, List.mem_of_getElem? (i := 547) (by decide +kernel), List.mem_of_getElem? (i := 667) (by decide +kernel), List.mem_of_getElem? (i := 668) (by decide +kernel)⟩
theorem lw_p68 : lw_okq (⟨"HalfFacesModel", "entry", "()V"⟩, 15) := ⟨⟨by decide +kernel, by decide +kernel⟩, List.mem_of_getElem? (i := 547) (by decide +kernel), List.mem_of_getElem? (i := 671) (by decide +kernel), List.mem_of_getElem? (i := 672) (by decide +kernel)⟩
theorem lw_p69 : lw_okq (⟨"HalfFacesModel", "digit", "(I)I"⟩, 15) := ⟨⟨by decide +kernel, by decide +kernel⟩, List.mem_of_getElem? (i := 547) (by decide +kernel), List.mem_of_getElem? (i := 675) (by decide +kernel), List.mem_of_getElem? (i := 676) (by decide +kernel)⟩
theorem lw_p70 : lw_okq (⟨"HalfFacesModel", "takes", "(I)V"⟩, 15) := ⟨⟨by decide +kernel, by decide +kernel⟩, List.mem_of_getElem? (i := 547) (by decide +kernel), List.mem_of_getElem? (i := 679) (by decide +kernel), List.mem_of_getElem? (i := 680) (by decide +kernel)⟩
theorem lw_p71 : lw_okq (⟨"HalfFacesModel", "leftOf", "(I)I"⟩, 15) := ⟨⟨by decide +kernel, by decide +kernel⟩, List.mem_of_getElem? (i := 547) (by decide +kernel), List.mem_of_getElem? (i := 697) (by decide +kernel), List.mem_of_getElem? (i := 698) (by decide +kernel)⟩
theorem lw_p72 : lw_okq (⟨"HalfFacesModel", "likeness", "(II)I"⟩, 15) := ⟨⟨by decide +kernel, by decide +kernel⟩, List.mem_of_getElem? (i := 547) (by decide +kernel), List.mem_of_getElem? (i := 701) (by decide +kernel), List.mem_of_getElem? (i := 702) (by decide +kernel)⟩
theorem lw_p73 : lw_okq (⟨"HalfFacesModel", "breaks", "(II)I"⟩, 15) := ⟨⟨by decide +kernel, by decide +kernel⟩, List.mem_of_getElem? (i := 547) (by decide +kernel), List.mem_of_getElem? (i := 705) (by decide +kernel), List.mem_of_getElem? (i := 706) (by decide +kernel)⟩
theorem lw_p74 : lw_okq (⟨"HalfFacesModel", "isBreak", "(III)Z"⟩, 15) := ⟨⟨by decide +kernel, by decide +kernel⟩, List.mem_of_getElem? (i := 547) (by decide +kernel), List.mem_of_getElem? (i := 709) (by decide +kernel), List.mem_of_getElem? (i := 710) (by decide +kernel)⟩
theorem lw_p75 : lw_okq (⟨"HalfFacesModel", "across", "(III)I"⟩, 15) := ⟨⟨by decide +kernel, by decide +kernel⟩, List.mem_of_getElem? (i := 547) (by decide +kernel), List.mem_of_getElem? (i := 713) (by decide +kernel), List.mem_of_getElem? (i := 714) (by decide +kernel)⟩
theorem lw_p76 : lw_okq (⟨"HalfFacesModel", "finds", "()V"⟩, 15) := ⟨⟨by decide +kernel, by decide +kernel⟩, List.mem_of_getElem? (i := 547) (by decide +kernel), List.mem_of_getElem? (i := 721) (by decide +kernel), List.mem_of_getElem? (i := 722) (by decide +kernel)⟩
theorem lw_p77 : lw_okq (⟨"HalfFacesModel", "prize", "(I)I"⟩, 15) := ⟨⟨by decide +kernel, by decide +kernel⟩, List.mem_of_getElem? (i := 547) (by decide +kernel), List.mem_of_getElem? (i := 730) (by decide +kernel), List.mem_of_getElem? (i := 731) (by decide +kernel)⟩
theorem lw_p78 : lw_okq (⟨"HalfFacesModel", "leftAt", "(I)I"⟩, 15) := ⟨⟨by decide +kernel, by decide +kernel⟩, List.mem_of_getElem? (i := 547) (by decide +kernel), List.mem_of_getElem? (i := 734) (by decide +kernel), List.mem_of_getElem? (i := 735) (by decide +kernel)⟩
theorem lw_p79 : lw_okq (⟨"HalfFacesModel", "own", "(I)I"⟩, 15) := ⟨⟨by decide +kernel, by decide +kernel⟩, List.mem_of_getElem? (i := 547) (by decide +kernel), List.mem_of_getElem? (i := 738) (by decide +kernel), List.mem_of_getElem? (i := 739) (by decide +kernel)⟩
def lw_privs_5 : List (MethodName × Nat) := [(⟨"HalfFacesModel", "wrong", "(II)I"⟩, 15), (⟨"HalfFacesModel", "wanted", "(II)I"⟩, 15), (⟨"HalfFacesModel", "greatest", "(I)I"⟩, 15), (⟨"HalfFacesModel", "fault", "()I"⟩, 15), (⟨"HalfFacesModel", "entry", "()V"⟩, 15), (⟨"HalfFacesModel", "digit", "(I)I"⟩, 15), (⟨"HalfFacesModel", "takes", "(I)V"⟩, 15), (⟨"HalfFacesModel", "leftOf", "(I)I"⟩, 15), (⟨"HalfFacesModel", "likeness", "(II)I"⟩, 15), (⟨"HalfFacesModel", "breaks", "(II)I"⟩, 15), (⟨"HalfFacesModel", "isBreak", "(III)Z"⟩, 15), (⟨"HalfFacesModel", "across", "(III)I"⟩, 15), (⟨"HalfFacesModel", "finds", "()V"⟩, 15), (⟨"HalfFacesModel", "prize", "(I)I"⟩, 15), (⟨"HalfFacesModel", "leftAt", "(I)I"⟩, 15), (⟨"HalfFacesModel", "own", "(I)I"⟩, 15)]
theorem lw_r5 : ∀ q ∈ lw_privs_5, lw_okq q := List.forall_mem_cons.mpr ⟨lw_p64, List.forall_mem_cons.mpr ⟨lw_p65, List.forall_mem_cons.mpr ⟨lw_p66, List.forall_mem_cons.mpr ⟨lw_p67, List.forall_mem_cons.mpr ⟨lw_p68, List.forall_mem_cons.mpr ⟨lw_p69, List.forall_mem_cons.mpr ⟨lw_p70, List.forall_mem_cons.mpr ⟨lw_p71, List.forall_mem_cons.mpr ⟨lw_p72, List.forall_mem_cons.mpr ⟨lw_p73, List.forall_mem_cons.mpr ⟨lw_p74, List.forall_mem_cons.mpr ⟨lw_p75, List.forall_mem_cons.mpr ⟨lw_p76, List.forall_mem_cons.mpr ⟨lw_p77, List.forall_mem_cons.mpr ⟨lw_p78, List.forall_mem_cons.mpr ⟨lw_p79, fun _ h => absurd h List.not_mem_nil⟩⟩⟩⟩⟩⟩⟩⟩⟩⟩⟩⟩⟩⟩⟩⟩
theorem lw_p80 : lw_okq (⟨"HalfFacesModel", "right", "(I)I"⟩, 15) := ⟨⟨by decide +kernel, by decide +kernel⟩, List.mem_of_getElem? (i := 547) (by decide +kernel), List.mem_of_getElem? (i := 766) (by decide +kernel), List.mem_of_getElem? (i := 767) (by decide +kernel)⟩
theorem lw_p81 : lw_okq (⟨"HalfFacesModel", "ofAll", "(I)I"⟩, 15) := ⟨⟨by decide +kernel, by decide +kernel⟩, List.mem_of_getElem? (i := 547) (by decide +kernel), List.mem_of_getElem? (i := 786) (by decide +kernel), List.mem_of_getElem? (i := 787) (by decide +kernel)⟩
def lw_privs_6 : List (MethodName × Nat) := [(⟨"HalfFacesModel", "right", "(I)I"⟩, 15), (⟨"HalfFacesModel", "ofAll", "(I)I"⟩, 15)]
theorem lw_r6 : ∀ q ∈ lw_privs_6, lw_okq q := List.forall_mem_cons.mpr ⟨lw_p80, List.forall_mem_cons.mpr ⟨lw_p81, fun _ h => absurd h List.not_mem_nil⟩⟩
def lw_privs : List (MethodName × Nat) := lw_privs_1 ++ (lw_privs_2 ++ (lw_privs_3 ++ (lw_privs_4 ++ (lw_privs_5 ++ (lw_privs_6)))))
def lw_tbl : List Cond := k2_sels lw_privs ++ tables_1
theorem lw_privs_ok : ∀ q ∈ lw_privs, lw_okq q := by
  show ∀ q ∈ lw_privs_1 ++ (lw_privs_2 ++ (lw_privs_3 ++ (lw_privs_4 ++ (lw_privs_5 ++ (lw_privs_6))))), lw_okq q
  exact List.forall_mem_append.mpr ⟨lw_r1, List.forall_mem_append.mpr ⟨lw_r2, List.forall_mem_append.mpr ⟨lw_r3, List.forall_mem_append.mpr ⟨lw_r4, List.forall_mem_append.mpr ⟨lw_r5, lw_r6⟩⟩⟩⟩⟩
end
section
/-! THE WALKING ROWS: a judgement J over a side S (its world's shape as a function of a memory) in which heaps, written places and slots are hidden; all ints are zI of an Int. -/
def lw_all : List Cond := lw_tbl.filter goodWord
theorem goodAll : GoodIn lw_all lw_all := fun w hw => ⟨hw, good_of_word (List.mem_filter.mp hw).2⟩
theorem aw {w : Cond} (h1 : w ∈ lw_tbl) (h2 : goodWord w = true) : w ∈ lw_all := List.mem_filter.mpr ⟨h1, h2⟩
def wU (y : MethodName) (cc : ByteArray) (maxL : Nat) (ret : Option FieldType) : List Cond := Cond.code y cc maxL ret :: lw_all
theorem goodU {y : MethodName} {cc : ByteArray} {maxL : Nat} {ret : Option FieldType} (h : Cond.code y cc maxL ret ∈ lw_all) : GoodIn lw_all (wU y cc maxL ret) := fun w hw => by
  rcases List.mem_cons.mp hw with rfl | hw
  · exact goodAll _ h
  · exact goodAll _ hw
/-- the nest mates' words: they hold on, but by rows of their own -/
def isNest : Cond → Bool
  | .methodLinkNest _ _ _ _ => true
  | .fieldLinkNest _ _ _ _ _ _ => true
  | _ => false
def lw_nest : List Cond := lw_tbl.filter isNest
theorem an {w : Cond} (h1 : w ∈ lw_tbl) (h2 : isNest w = true) : w ∈ lw_nest := List.mem_filter.mpr ⟨h1, h2⟩
def NW (U : State) : Prop := ∀ w ∈ lw_nest, va_Nw w U
theorem isNest_on {w : Cond} (h : isNest w = true) : w.onTables = true := by
  cases w <;> first | rfl | simp [isNest] at h
theorem NW.same {u U : State} (h : u.vm = U.vm) (hN : NW u) : NW U := fun w hw => (hN w hw).same (isNest_on (List.mem_filter.mp hw).2) h
theorem NW.warm {s U : State} (hW : s.WarmedH U.vm) (hN : NW s) : NW U := fun w hw => by
  have h := (List.mem_filter.mp hw).2
  have h2 := hN w hw
  cases w <;> first | exact va_Nw.warmM hW h2 | exact va_Nw.warmF hW h2 | simp [isNest] at h
theorem NW.of {U : State} {A : Array Value} (h : ∀ w ∈ lw_tbl, w.before A U = true) : NW U := fun w hw => va_Nw.of (isNest_on (List.mem_filter.mp hw).2) (h w (List.mem_filter.mp hw).1)
-- numbers
def zI (z : Int) : Int32 := Int32.ofInt z
def zR (z : Int) : Prop := -2147483648 ≤ z ∧ z < 2147483648
theorem zI_toInt {z : Int} (h : zR z) : (zI z).toInt = z := Int32.toInt_ofInt_of_le (by have := h.1; omega) (by have := h.2; omega)
theorem zI_of (x : Int32) : zI x.toInt = x := Int32.ofInt_toInt x
theorem zR_of (x : Int32) : zR x.toInt := ⟨by have := Int32.le_toInt x; omega, by have := Int32.toInt_lt x; omega⟩
theorem zI_add (a b : Int) : zI a + zI b = zI (a + b) := (Int32.ofInt_add a b).symm
theorem zI_sub (a b : Int) : zI a - zI b = zI (a - b) := (Int32.ofInt_sub a b).symm
theorem zI_mul (a b : Int) : zI a * zI b = zI (a * b) := (Int32.ofInt_mul a b).symm
theorem zI_neg (a : Int) : -zI a = zI (-a) := (Int32.ofInt_neg a).symm
theorem zI_inj {a b : Int} (ha : zR a) (hb : zR b) : zI a = zI b ↔ a = b := by
  rw [← Int32.toInt_inj, zI_toInt ha, zI_toInt hb]
theorem zI_lt {a b : Int} (ha : zR a) (hb : zR b) : zI a < zI b ↔ a < b := by
  rw [Int32.lt_iff_toInt_lt, zI_toInt ha, zI_toInt hb]
theorem zI_le {a b : Int} (ha : zR a) (hb : zR b) : zI a ≤ zI b ↔ a ≤ b := by
  rw [Int32.le_iff_toInt_le, zI_toInt ha, zI_toInt hb]
theorem zI_clamp {z : Int} (h : zR z) : (zI z).toNatClampNeg = z.toNat := by
  show (zI z).toInt.toNat = z.toNat
  rw [zI_toInt h]
theorem zI_in {z : Int} {n : Nat} (h0 : 0 ≤ z) (h1 : z < n) (hn : n < 2147483648) : vp_in (zI z) n := by
  rw [vp_in_iff, zI_toInt ⟨by omega, by omega⟩]
  exact ⟨h0, h1⟩
theorem zI_at {z : Int} {n : Nat} (h0 : 0 ≤ z) (h1 : z < n) (hn : n < 2147483648) : (((zI z).toNatClampNeg : Nat) : Int) = z := by
  rw [zI_clamp ⟨by omega, by omega⟩]
  omega
theorem zI_nat (n : Nat) : zI (n : Int) = nI n := Int32.ofInt_eq_ofNat
theorem zI_div {a d : Int} (h0 : 0 ≤ a) (h1 : a < 2147483648) (hd : 0 < d) (hd2 : d < 2147483648) : zI a / zI d = zI (a / d) := by
  obtain ⟨n, rfl⟩ := Int.eq_ofNat_of_zero_le h0
  obtain ⟨k, rfl⟩ := Int.eq_ofNat_of_zero_le (Int.le_of_lt hd)
  have e : ((n : Int) / (k : Int)) = ((n / k : Nat) : Int) := rfl
  rw [e, zI_nat, zI_nat, zI_nat, pk_div (by omega) (by omega) (by omega)]
theorem zI_rem {a d : Int} (h0 : 0 ≤ a) (h1 : a < 2147483648) (hd : 0 < d) (hd2 : d < 2147483648) : zI a - zI a / zI d * zI d = zI (a % d) := by
  obtain ⟨n, rfl⟩ := Int.eq_ofNat_of_zero_le h0
  obtain ⟨k, rfl⟩ := Int.eq_ofNat_of_zero_le (Int.le_of_lt hd)
  have e : ((n : Int) % (k : Int)) = ((n % k : Nat) : Int) := rfl
  rw [e, zI_nat, zI_nat, zI_nat, pk_rem (by omega) (by omega) (by omega)]
theorem zI_ne0 {d : Int} (hd : 0 < d) (hd2 : d < 2147483648) : ¬ zI d = 0 := by
  have e : (0 : Int32) = zI 0 := rfl
  rw [e, zI_inj ⟨by omega, by omega⟩ ⟨by omega, by omega⟩]
  omega
theorem zI_0 : (0 : Int32) = zI 0 := rfl
-- memories
abbrev Mem : Type := Nat → Int → Int
def setM (M : Mem) (k : Nat) (z v : Int) : Mem := fun a => if a = k then (fun b => if b = z then v else M k b) else M a
def setF (f : Int → Int) (z v : Int) : Int → Int := fun b => if b = z then v else f b
theorem setM_at (M : Mem) (k : Nat) (z v : Int) : setM M k z v k = setF (M k) z v := by
  simp only [setM, if_pos]
  rfl
theorem setM_ne {M : Mem} {k a : Nat} {z v : Int} (h : a ≠ k) : setM M k z v a = M a := by simp [setM, h]
-- a side: tables' classes, class list, array classes, its cells' addresses, its cells, its surroundings
abbrev Sd (σ : Type) : Type := va_G × List vw_C × List (ClassId × FieldType) × (Nat → Prop) × (σ → va_W) × (State → Heap → Prop)
section SIDE
variable {σ : Type}
def s_D (S : Sd σ) : va_G := S.1
def s_cl (S : Sd σ) : List vw_C := S.2.1
def s_tys (S : Sd σ) : List (ClassId × FieldType) := S.2.2.1
def s_A (S : Sd σ) : Nat → Prop := S.2.2.2.1
def s_W (S : Sd σ) : σ → va_W := S.2.2.2.2.1
def s_E (S : Sd σ) : State → Heap → Prop := S.2.2.2.2.2
def EvOK (A : Nat → Prop) (Ev : State → Heap → Prop) : Prop :=
  (∀ (u U : State) (H : Heap), U.vm = u.vm → Ev u H → Ev U H) ∧ (∀ (s U : State) (H : Heap), s.WarmedH U.vm → Ev s H → Ev U H) ∧ (∀ (U : State) (H H1 : Heap), Ev U H → (∀ a : Nat, a < H.size → ¬ A a → H1[a]? = H[a]?) → Ev U H1)
def SdOK (S : Sd σ) : Prop := (∀ M : σ, va_D (s_A S) (s_W S M)) ∧ EvOK (s_A S) (s_E S)
-- the method's own things
abbrev Xb : Type := Program × Launch × Env × Room × State × MethodId × Array Value × List Frame × Method × Code × Nat × Nat × Nat × (State → Prop)
def x_p (X : Xb) : Program := X.1
def x_l (X : Xb) : Launch := X.2.1
def x_e (X : Xb) : Env := X.2.2.1
def x_R (X : Xb) : Room := X.2.2.2.1
def x_s (X : Xb) : State := X.2.2.2.2.1
def x_m (X : Xb) : MethodId := X.2.2.2.2.2.1
def x_args (X : Xb) : Array Value := X.2.2.2.2.2.2.1
def x_below (X : Xb) : List Frame := X.2.2.2.2.2.2.2.1
def x_meth (X : Xb) : Method := X.2.2.2.2.2.2.2.2.1
def x_c (X : Xb) : Code := X.2.2.2.2.2.2.2.2.2.1
def x_nL (X : Xb) : Nat := X.2.2.2.2.2.2.2.2.2.2.1
def x_cells (X : Xb) : Nat := X.2.2.2.2.2.2.2.2.2.2.2.1
def x_slots (X : Xb) : Nat := X.2.2.2.2.2.2.2.2.2.2.2.2.1
def x_Q (X : Xb) : State → Prop := X.2.2.2.2.2.2.2.2.2.2.2.2.2
abbrev Lc : Type := List (Nat × Value)
def J (S : Sd σ) (X : Xb) (M : σ) (pc : Nat) (L : Lc) (st : List Value) : Prop :=
  ∀ (H : Heap) (locs : List Loc) (ls : Array Slot), va_P (s_D S) (s_cl S) (s_W S M) H → va_S (s_A S) (x_s X).heap H locs → lv_has ls (x_nL X) L → W (x_p X) (x_l X) (x_e X) (x_R X) (x_s X) (x_m X) (x_args X) (x_below X) (x_meth X) (x_c X) H locs (x_cells X) (x_slots X) (x_Q X) (F0 (x_m X) pc ls st)
def CX (S : Sd σ) (X : Xb) (cc : ByteArray) (own : String) (rm : Room) : Prop :=
  (x_p X).tables.exec = Jvm.exec ∧ (x_c X).code = cc ∧ (x_c X).maxLocals = x_nL X ∧ (x_s X).vm.findClass own = some (x_m X).cls ∧ (∀ w ∈ lw_all, w.before (x_args X) (x_s X) = true) ∧ va_K (s_D S) (s_cl S) (s_tys S) (x_s X) ∧ SdOK S ∧ s_E S (x_s X) (x_s X).heap ∧ NW (x_s X) ∧ x_R X = rm ∧ x_cells X ≤ rm.cells ∧ x_slots X ≤ rm.slots
variable {S : Sd σ} {X : Xb} {M : σ} {cc : ByteArray} {own : String} {rm : Room} {pc : Nat} {L : Lc} {st : List Value}
theorem CX.ex (h : CX S X cc own rm) : (x_p X).tables.exec = Jvm.exec := h.1
theorem CX.cd (h : CX S X cc own rm) : (x_c X).code = cc := h.2.1
theorem CX.ml (h : CX S X cc own rm) : (x_c X).maxLocals = x_nL X := h.2.2.1
theorem CX.ow (h : CX S X cc own rm) : (x_s X).vm.findClass own = some (x_m X).cls := h.2.2.2.1
theorem CX.ts (h : CX S X cc own rm) : ∀ w ∈ lw_all, w.before (x_args X) (x_s X) = true := h.2.2.2.2.1
theorem CX.K (h : CX S X cc own rm) : va_K (s_D S) (s_cl S) (s_tys S) (x_s X) := h.2.2.2.2.2.1
theorem CX.D (h : CX S X cc own rm) (M : σ) : va_D (s_A S) (s_W S M) := h.2.2.2.2.2.2.1.1 M
theorem CX.ok (h : CX S X cc own rm) : SdOK S := h.2.2.2.2.2.2.1
theorem CX.E (h : CX S X cc own rm) : s_E S (x_s X) (x_s X).heap := h.2.2.2.2.2.2.2.1
theorem CX.N (h : CX S X cc own rm) : NW (x_s X) := h.2.2.2.2.2.2.2.2.1
theorem CX.R (h : CX S X cc own rm) : x_R X = rm := h.2.2.2.2.2.2.2.2.2.1
theorem CX.Rc (h : CX S X cc own rm) : x_cells X ≤ (x_R X).cells := by rw [h.R]; exact h.2.2.2.2.2.2.2.2.2.2.1
theorem CX.Rs (h : CX S X cc own rm) : x_slots X ≤ (x_R X).slots := by rw [h.R]; exact h.2.2.2.2.2.2.2.2.2.2.2
-- constants
theorem j_iconst (hX : CX S X cc own rm) {n : Int} (hdg : decode cc pc = .ok (.iconst n, 1)) (k : J S X M (pc + 1) L (.int (zI n) :: st)) : J S X M pc L st :=
  fun H locs ls hP hS hl => lv_iconst hX.ex hX.cd hdg rfl (k H locs ls hP hS hl)
theorem j_bipush (hX : CX S X cc own rm) {n : Int} (hdg : decode cc pc = .ok (.bipush n, 2)) (hv : (Int8.ofInt n).toInt32 = zI n) (k : J S X M (pc + 2) L (.int (zI n) :: st)) : J S X M pc L st :=
  fun H locs ls hP hS hl => lv_bipush hX.ex hX.cd hdg hv (k H locs ls hP hS hl)
theorem j_sipush (hX : CX S X cc own rm) {n : Int} (hdg : decode cc pc = .ok (.sipush n, 3)) (hv : (Int16.ofInt n).toInt32 = zI n) (k : J S X M (pc + 3) L (.int (zI n) :: st)) : J S X M pc L st :=
  fun H locs ls hP hS hl => lv_sipush hX.ex hX.cd hdg hv (k H locs ls hP hS hl)
theorem j_ldc (hX : CX S X cc own rm) {i : Nat} {z : Int} {x : Int32} (hc : Cond.constant own i x ∈ lw_all) (hz : x = zI z) (hdg : decode cc pc = .ok (.ldc i, 2)) (k : J S X M (pc + 2) L (.int (zI z) :: st)) : J S X M pc L st := by
  subst hz
  exact fun H locs ls hP hS hl => lv_ldc hX.ex hX.cd hX.ow (hX.ts _ hc) hdg (k H locs ls hP hS hl)
-- locals
theorem j_iload_n (hX : CX S X cc own rm) {k : Fin 4} {i : Nat} {x : Int32} (j : Nat) (hdg : decode cc pc = .ok (.iload_n k, 1)) (hi : (k : Nat) = i) (hL : L[j]? = some (i, .int x)) (kk : J S X M (pc + 1) L (.int x :: st)) : J S X M pc L st :=
  fun H locs ls hP hS hl => lv_iload_n hX.ex hX.cd hdg hi (lv_at hl j hL) (kk H locs ls hP hS hl)
theorem j_iload (hX : CX S X cc own rm) {i : Nat} {x : Int32} (j : Nat) (hdg : decode cc pc = .ok (.iload i, 2)) (hL : L[j]? = some (i, .int x)) (kk : J S X M (pc + 2) L (.int x :: st)) : J S X M pc L st :=
  fun H locs ls hP hS hl => lv_iload hX.ex hX.cd hdg (lv_at hl j hL) (kk H locs ls hP hS hl)
theorem j_aload_n (hX : CX S X cc own rm) {k : Fin 4} {i : Nat} {x : Nat} (j : Nat) (hdg : decode cc pc = .ok (.aload_n k, 1)) (hi : (k : Nat) = i) (hL : L[j]? = some (i, .ref x)) (kk : J S X M (pc + 1) L (.ref x :: st)) : J S X M pc L st :=
  fun H locs ls hP hS hl => lv_aload_n hX.ex hX.cd hdg hi (lv_at hl j hL) (kk H locs ls hP hS hl)
theorem j_istore_n (hX : CX S X cc own rm) {k : Fin 4} {i : Nat} {x : Int32} {L' : Lc} (hdg : decode cc pc = .ok (.istore_n k, 1)) (hi : (k : Nat) = i) {nL : Nat} (hN : x_nL X = nL) (hn : i < nL) (hL : (i, Value.int x) :: L.filter (fun q => !(q.1 == i) && !(q.1 + 1 == i && q.2.category == 2)) = L') (kk : J S X M (pc + 1) L' st) : J S X M pc L (.int x :: st) :=
  fun H locs ls hP hS hl => lv_istore_n hX.ex hX.cd hdg hi hl (by rw [hN]; exact hn) hL (fun ls' hl' => kk H locs ls' hP hS hl')
theorem j_istore (hX : CX S X cc own rm) {i : Nat} {x : Int32} {L' : Lc} (hdg : decode cc pc = .ok (.istore i, 2)) {nL : Nat} (hN : x_nL X = nL) (hn : i < nL) (hL : (i, Value.int x) :: L.filter (fun q => !(q.1 == i) && !(q.1 + 1 == i && q.2.category == 2)) = L') (kk : J S X M (pc + 2) L' st) : J S X M pc L (.int x :: st) :=
  fun H locs ls hP hS hl => lv_istore hX.ex hX.cd hdg hl (by rw [hN]; exact hn) hL (fun ls' hl' => kk H locs ls' hP hS hl')
theorem j_astore_n (hX : CX S X cc own rm) {k : Fin 4} {i : Nat} {x : Nat} {L' : Lc} (hdg : decode cc pc = .ok (.astore_n k, 1)) (hi : (k : Nat) = i) {nL : Nat} (hN : x_nL X = nL) (hn : i < nL) (hL : (i, Value.ref x) :: L.filter (fun q => !(q.1 == i) && !(q.1 + 1 == i && q.2.category == 2)) = L') (kk : J S X M (pc + 1) L' st) : J S X M pc L (.ref x :: st) :=
  fun H locs ls hP hS hl => lv_astore_n hX.ex hX.cd hdg hi hl (by rw [hN]; exact hn) hL (fun ls' hl' => kk H locs ls' hP hS hl')
theorem j_iinc (hX : CX S X cc own rm) {i : Nat} {n z : Int} {L' : Lc} (j : Nat) (hdg : decode cc pc = .ok (.iinc i n, 3)) (hk : L[j]? = some (i, .int (zI z))) {nL : Nat} (hN : x_nL X = nL) (hn : i < nL) (hL : (i, Value.int (zI (z + n))) :: L.filter (fun q => !(q.1 == i) && !(q.1 + 1 == i && q.2.category == 2)) = L') (kk : J S X M (pc + 3) L' st) : J S X M pc L st :=
  fun H locs ls hP hS hl => lv_iinc hX.ex hX.cd hdg hl hk (zI_add z n) (by rw [hN]; exact hn) hL (fun ls' hl' => kk H locs ls' hP hS hl')
theorem j_sub (ks : List Nat) {L' : Lc} (hL : lv_pick L ks = L') (kk : J S X M pc L' st) : J S X M pc L st :=
  fun H locs ls hP hS hl => kk H locs ls hP hS (lv_sub hl ks hL)
-- stack
theorem j_dup (hX : CX S X cc own rm) {v : Value} (hdg : decode cc pc = .ok (.dup, 1)) (hv : v.category = 1) (kk : J S X M (pc + 1) L (v :: v :: st)) : J S X M pc L (v :: st) :=
  fun H locs ls hP hS hl => lv_dup hX.ex hX.cd hdg hv (kk H locs ls hP hS hl)
theorem j_dup2 (hX : CX S X cc own rm) {v w : Value} (hdg : decode cc pc = .ok (.dup2, 1)) (hv : v.category = 1) (hw : w.category = 1) (kk : J S X M (pc + 1) L (v :: w :: v :: w :: st)) : J S X M pc L (v :: w :: st) :=
  fun H locs ls hP hS hl => lv_dup2_11 hX.ex hX.cd hdg hv hw (kk H locs ls hP hS hl)
theorem j_pop (hX : CX S X cc own rm) {v : Value} (hdg : decode cc pc = .ok (.pop, 1)) (hv : v.category = 1) (kk : J S X M (pc + 1) L st) : J S X M pc L (v :: st) :=
  fun H locs ls hP hS hl => lv_pop hX.ex hX.cd hdg hv (kk H locs ls hP hS hl)
-- arithmetic
theorem j_iadd (hX : CX S X cc own rm) {a b : Int} (hdg : decode cc pc = .ok (.iadd, 1)) (kk : J S X M (pc + 1) L (.int (zI (a + b)) :: st)) : J S X M pc L (.int (zI b) :: .int (zI a) :: st) :=
  fun H locs ls hP hS hl => lv_iadd hX.ex hX.cd hdg (by rw [zI_add]; exact kk H locs ls hP hS hl)
theorem j_isub (hX : CX S X cc own rm) {a b : Int} (hdg : decode cc pc = .ok (.isub, 1)) (kk : J S X M (pc + 1) L (.int (zI (a - b)) :: st)) : J S X M pc L (.int (zI b) :: .int (zI a) :: st) :=
  fun H locs ls hP hS hl => lv_isub hX.ex hX.cd hdg (by rw [zI_sub]; exact kk H locs ls hP hS hl)
theorem j_imul (hX : CX S X cc own rm) {a b : Int} (hdg : decode cc pc = .ok (.imul, 1)) (kk : J S X M (pc + 1) L (.int (zI (a * b)) :: st)) : J S X M pc L (.int (zI b) :: .int (zI a) :: st) :=
  fun H locs ls hP hS hl => lv_imul hX.ex hX.cd hdg (by rw [zI_mul]; exact kk H locs ls hP hS hl)
theorem j_idiv (hX : CX S X cc own rm) {a d : Int} (hdg : decode cc pc = .ok (.idiv, 1)) (h : 0 ≤ a ∧ a < 2147483648 ∧ 0 < d ∧ d < 2147483648) (kk : J S X M (pc + 1) L (.int (zI (a / d)) :: st)) : J S X M pc L (.int (zI d) :: .int (zI a) :: st) :=
  fun H locs ls hP hS hl => lv_idiv hX.ex hX.cd hdg (zI_ne0 h.2.2.1 h.2.2.2) (by rw [zI_div h.1 h.2.1 h.2.2.1 h.2.2.2]; exact kk H locs ls hP hS hl)
theorem j_irem (hX : CX S X cc own rm) {a d : Int} (hdg : decode cc pc = .ok (.irem, 1)) (h : 0 ≤ a ∧ a < 2147483648 ∧ 0 < d ∧ d < 2147483648) (kk : J S X M (pc + 1) L (.int (zI (a % d)) :: st)) : J S X M pc L (.int (zI d) :: .int (zI a) :: st) :=
  fun H locs ls hP hS hl => lv_irem hX.ex hX.cd hdg (zI_ne0 h.2.2.1 h.2.2.2) (by rw [zI_rem h.1 h.2.1 h.2.2.1 h.2.2.2]; exact kk H locs ls hP hS hl)
theorem j_ishl (hX : CX S X cc own rm) {a b c : Int} (hdg : decode cc pc = .ok (.ishl, 1)) (h : zI a <<< (zI b &&& 31) = zI c) (kk : J S X M (pc + 1) L (.int (zI c) :: st)) : J S X M pc L (.int (zI b) :: .int (zI a) :: st) :=
  fun H locs ls hP hS hl => lv_ishl hX.ex hX.cd hdg (by rw [h]; exact kk H locs ls hP hS hl)
theorem j_ishr (hX : CX S X cc own rm) {a b c : Int} (hdg : decode cc pc = .ok (.ishr, 1)) (h : zI a >>> (zI b &&& 31) = zI c) (kk : J S X M (pc + 1) L (.int (zI c) :: st)) : J S X M pc L (.int (zI b) :: .int (zI a) :: st) :=
  fun H locs ls hP hS hl => lv_ishr hX.ex hX.cd hdg (by rw [h]; exact kk H locs ls hP hS hl)
theorem j_iand (hX : CX S X cc own rm) {a b c : Int} (hdg : decode cc pc = .ok (.iand, 1)) (h : zI a &&& zI b = zI c) (kk : J S X M (pc + 1) L (.int (zI c) :: st)) : J S X M pc L (.int (zI b) :: .int (zI a) :: st) :=
  fun H locs ls hP hS hl => lv_iand hX.ex hX.cd hdg (by rw [h]; exact kk H locs ls hP hS hl)
theorem j_ior (hX : CX S X cc own rm) {a b c : Int} (hdg : decode cc pc = .ok (.ior, 1)) (h : zI a ||| zI b = zI c) (kk : J S X M (pc + 1) L (.int (zI c) :: st)) : J S X M pc L (.int (zI b) :: .int (zI a) :: st) :=
  fun H locs ls hP hS hl => lv_ior hX.ex hX.cd hdg (by rw [h]; exact kk H locs ls hP hS hl)
theorem j_i2c (hX : CX S X cc own rm) {a c : Int} (hdg : decode cc pc = .ok (.i2c, 1)) (h : ((zI a).toUInt32 % 65536).toInt32 = zI c) (kk : J S X M (pc + 1) L (.int (zI c) :: st)) : J S X M pc L (.int (zI a) :: st) :=
  fun H locs ls hP hS hl => lv_i2c hX.ex hX.cd hdg h (kk H locs ls hP hS hl)
theorem j_goto (hX : CX S X cc own rm) {off : Int} {tgt : Nat} (hdg : decode cc pc = .ok (.goto off, 3)) (ht : (pc : Int) + off = (tgt : Int)) (kk : J S X M tgt L st) : J S X M pc L st :=
  fun H locs ls hP hS hl => lv_goto hX.ex hX.cd hdg ht (kk H locs ls hP hS hl)
theorem j_if_eq (hX : CX S X cc own rm) {a : Int} {off : Int} {tgt : Nat} (ha : zR a) (hdg : decode cc pc = .ok (.ifCond .eq off, 3)) (ht : (pc : Int) + off = (tgt : Int)) (kt : a = 0 → J S X M tgt L st) (kf : ¬ a = 0 → J S X M (pc + 3) L st) : J S X M pc L (.int (zI a) :: st) :=
  fun H locs ls hP hS hl => lv_if_eq hX.ex hX.cd hdg ht (fun h => kt (by rw [zI_0] at h; first | exact (zI_inj ha ⟨by omega, by omega⟩).mp h | exact fun z => h ((zI_inj ha ⟨by omega, by omega⟩).mpr z) | omega) H locs ls hP hS hl) (fun h => kf (by rw [zI_0] at h; first | exact (zI_inj ha ⟨by omega, by omega⟩).mp h | exact fun z => h ((zI_inj ha ⟨by omega, by omega⟩).mpr z) | omega) H locs ls hP hS hl)
theorem j_if_ne (hX : CX S X cc own rm) {a : Int} {off : Int} {tgt : Nat} (ha : zR a) (hdg : decode cc pc = .ok (.ifCond .ne off, 3)) (ht : (pc : Int) + off = (tgt : Int)) (kt : ¬ a = 0 → J S X M tgt L st) (kf : a = 0 → J S X M (pc + 3) L st) : J S X M pc L (.int (zI a) :: st) :=
  fun H locs ls hP hS hl => lv_if_ne hX.ex hX.cd hdg ht (fun h => kt (by rw [zI_0] at h; first | exact (zI_inj ha ⟨by omega, by omega⟩).mp h | exact fun z => h ((zI_inj ha ⟨by omega, by omega⟩).mpr z) | omega) H locs ls hP hS hl) (fun h => kf (by rw [zI_0] at h; first | exact (zI_inj ha ⟨by omega, by omega⟩).mp h | exact fun z => h ((zI_inj ha ⟨by omega, by omega⟩).mpr z) | omega) H locs ls hP hS hl)
theorem j_if_lt (hX : CX S X cc own rm) {a : Int} {off : Int} {tgt : Nat} (ha : zR a) (hdg : decode cc pc = .ok (.ifCond .lt off, 3)) (ht : (pc : Int) + off = (tgt : Int)) (kt : a < 0 → J S X M tgt L st) (kf : ¬ a < 0 → J S X M (pc + 3) L st) : J S X M pc L (.int (zI a) :: st) :=
  fun H locs ls hP hS hl => lv_if_lt hX.ex hX.cd hdg ht (fun h => kt (by rw [zI_0] at h; first | exact (zI_lt ha ⟨by omega, by omega⟩).mp h | exact fun z => h ((zI_lt ha ⟨by omega, by omega⟩).mpr z) | omega) H locs ls hP hS hl) (fun h => kf (by rw [zI_0] at h; first | exact (zI_lt ha ⟨by omega, by omega⟩).mp h | exact fun z => h ((zI_lt ha ⟨by omega, by omega⟩).mpr z) | omega) H locs ls hP hS hl)
theorem j_if_ge (hX : CX S X cc own rm) {a : Int} {off : Int} {tgt : Nat} (ha : zR a) (hdg : decode cc pc = .ok (.ifCond .ge off, 3)) (ht : (pc : Int) + off = (tgt : Int)) (kt : 0 ≤ a → J S X M tgt L st) (kf : ¬ 0 ≤ a → J S X M (pc + 3) L st) : J S X M pc L (.int (zI a) :: st) :=
  fun H locs ls hP hS hl => lv_if_ge hX.ex hX.cd hdg ht (fun h => kt (by rw [zI_0] at h; first | exact (zI_le ⟨by omega, by omega⟩ ha).mp h | exact fun z => h ((zI_le ⟨by omega, by omega⟩ ha).mpr z) | omega) H locs ls hP hS hl) (fun h => kf (by rw [zI_0] at h; first | exact (zI_le ⟨by omega, by omega⟩ ha).mp h | exact fun z => h ((zI_le ⟨by omega, by omega⟩ ha).mpr z) | omega) H locs ls hP hS hl)
theorem j_if_gt (hX : CX S X cc own rm) {a : Int} {off : Int} {tgt : Nat} (ha : zR a) (hdg : decode cc pc = .ok (.ifCond .gt off, 3)) (ht : (pc : Int) + off = (tgt : Int)) (kt : 0 < a → J S X M tgt L st) (kf : ¬ 0 < a → J S X M (pc + 3) L st) : J S X M pc L (.int (zI a) :: st) :=
  fun H locs ls hP hS hl => lv_if_gt hX.ex hX.cd hdg ht (fun h => kt (by rw [zI_0] at h; first | exact (zI_lt ⟨by omega, by omega⟩ ha).mp h | exact fun z => h ((zI_lt ⟨by omega, by omega⟩ ha).mpr z) | omega) H locs ls hP hS hl) (fun h => kf (by rw [zI_0] at h; first | exact (zI_lt ⟨by omega, by omega⟩ ha).mp h | exact fun z => h ((zI_lt ⟨by omega, by omega⟩ ha).mpr z) | omega) H locs ls hP hS hl)
theorem j_if_le (hX : CX S X cc own rm) {a : Int} {off : Int} {tgt : Nat} (ha : zR a) (hdg : decode cc pc = .ok (.ifCond .le off, 3)) (ht : (pc : Int) + off = (tgt : Int)) (kt : a ≤ 0 → J S X M tgt L st) (kf : ¬ a ≤ 0 → J S X M (pc + 3) L st) : J S X M pc L (.int (zI a) :: st) :=
  fun H locs ls hP hS hl => lv_if_le hX.ex hX.cd hdg ht (fun h => kt (by rw [zI_0] at h; first | exact (zI_le ha ⟨by omega, by omega⟩).mp h | exact fun z => h ((zI_le ha ⟨by omega, by omega⟩).mpr z) | omega) H locs ls hP hS hl) (fun h => kf (by rw [zI_0] at h; first | exact (zI_le ha ⟨by omega, by omega⟩).mp h | exact fun z => h ((zI_le ha ⟨by omega, by omega⟩).mpr z) | omega) H locs ls hP hS hl)
theorem j_icmp_eq (hX : CX S X cc own rm) {a b : Int} {off : Int} {tgt : Nat} (ha : zR a) (hb : zR b) (hdg : decode cc pc = .ok (.if_icmp .eq off, 3)) (ht : (pc : Int) + off = (tgt : Int)) (kt : a = b → J S X M tgt L st) (kf : ¬ a = b → J S X M (pc + 3) L st) : J S X M pc L (.int (zI b) :: .int (zI a) :: st) :=
  fun H locs ls hP hS hl => lv_icmp_eq hX.ex hX.cd hdg ht (fun h => kt (by first | exact (zI_inj ha hb).mp h | exact fun z => h ((zI_inj ha hb).mpr z)) H locs ls hP hS hl) (fun h => kf (by first | exact (zI_inj ha hb).mp h | exact fun z => h ((zI_inj ha hb).mpr z)) H locs ls hP hS hl)
theorem j_icmp_ne (hX : CX S X cc own rm) {a b : Int} {off : Int} {tgt : Nat} (ha : zR a) (hb : zR b) (hdg : decode cc pc = .ok (.if_icmp .ne off, 3)) (ht : (pc : Int) + off = (tgt : Int)) (kt : ¬ a = b → J S X M tgt L st) (kf : a = b → J S X M (pc + 3) L st) : J S X M pc L (.int (zI b) :: .int (zI a) :: st) :=
  fun H locs ls hP hS hl => lv_icmp_ne hX.ex hX.cd hdg ht (fun h => kt (by first | exact (zI_inj ha hb).mp h | exact fun z => h ((zI_inj ha hb).mpr z)) H locs ls hP hS hl) (fun h => kf (by first | exact (zI_inj ha hb).mp h | exact fun z => h ((zI_inj ha hb).mpr z)) H locs ls hP hS hl)
theorem j_icmp_lt (hX : CX S X cc own rm) {a b : Int} {off : Int} {tgt : Nat} (ha : zR a) (hb : zR b) (hdg : decode cc pc = .ok (.if_icmp .lt off, 3)) (ht : (pc : Int) + off = (tgt : Int)) (kt : a < b → J S X M tgt L st) (kf : ¬ a < b → J S X M (pc + 3) L st) : J S X M pc L (.int (zI b) :: .int (zI a) :: st) :=
  fun H locs ls hP hS hl => lv_icmp_lt hX.ex hX.cd hdg ht (fun h => kt (by first | exact (zI_lt ha hb).mp h | exact fun z => h ((zI_lt ha hb).mpr z)) H locs ls hP hS hl) (fun h => kf (by first | exact (zI_lt ha hb).mp h | exact fun z => h ((zI_lt ha hb).mpr z)) H locs ls hP hS hl)
theorem j_icmp_ge (hX : CX S X cc own rm) {a b : Int} {off : Int} {tgt : Nat} (ha : zR a) (hb : zR b) (hdg : decode cc pc = .ok (.if_icmp .ge off, 3)) (ht : (pc : Int) + off = (tgt : Int)) (kt : b ≤ a → J S X M tgt L st) (kf : ¬ b ≤ a → J S X M (pc + 3) L st) : J S X M pc L (.int (zI b) :: .int (zI a) :: st) :=
  fun H locs ls hP hS hl => lv_icmp_ge hX.ex hX.cd hdg ht (fun h => kt (by first | exact (zI_le hb ha).mp h | exact fun z => h ((zI_le hb ha).mpr z)) H locs ls hP hS hl) (fun h => kf (by first | exact (zI_le hb ha).mp h | exact fun z => h ((zI_le hb ha).mpr z)) H locs ls hP hS hl)
theorem j_icmp_gt (hX : CX S X cc own rm) {a b : Int} {off : Int} {tgt : Nat} (ha : zR a) (hb : zR b) (hdg : decode cc pc = .ok (.if_icmp .gt off, 3)) (ht : (pc : Int) + off = (tgt : Int)) (kt : b < a → J S X M tgt L st) (kf : ¬ b < a → J S X M (pc + 3) L st) : J S X M pc L (.int (zI b) :: .int (zI a) :: st) :=
  fun H locs ls hP hS hl => lv_icmp_gt hX.ex hX.cd hdg ht (fun h => kt (by first | exact (zI_lt hb ha).mp h | exact fun z => h ((zI_lt hb ha).mpr z)) H locs ls hP hS hl) (fun h => kf (by first | exact (zI_lt hb ha).mp h | exact fun z => h ((zI_lt hb ha).mpr z)) H locs ls hP hS hl)
theorem j_icmp_le (hX : CX S X cc own rm) {a b : Int} {off : Int} {tgt : Nat} (ha : zR a) (hb : zR b) (hdg : decode cc pc = .ok (.if_icmp .le off, 3)) (ht : (pc : Int) + off = (tgt : Int)) (kt : a ≤ b → J S X M tgt L st) (kf : ¬ a ≤ b → J S X M (pc + 3) L st) : J S X M pc L (.int (zI b) :: .int (zI a) :: st) :=
  fun H locs ls hP hS hl => lv_icmp_le hX.ex hX.cd hdg ht (fun h => kt (by first | exact (zI_le ha hb).mp h | exact fun z => h ((zI_le ha hb).mpr z)) H locs ls hP hS hl) (fun h => kf (by first | exact (zI_le ha hb).mp h | exact fun z => h ((zI_le ha hb).mpr z)) H locs ls hP hS hl)
/-- two answers that are one: the law's comparison -/
theorem j_icmp_same (hX : CX S X cc own rm) {x : Int32} {off : Int} {tgt : Nat} (hdg : decode cc pc = .ok (.if_icmp .eq off, 3)) (ht : (pc : Int) + off = (tgt : Int)) (kt : J S X M tgt L st) : J S X M pc L (.int x :: .int x :: st) :=
  fun H locs ls hP hS hl => lv_icmp_eq hX.ex hX.cd hdg ht (fun _ => kt H locs ls hP hS hl) (fun h => absurd rfl h)
theorem j_tableIn (hX : CX S X cc own rm) {dflt lo hi : Int} {offs : Array Int} {len : Nat} {a off : Int} {tgt : Nat} (ha : zR a) (hdg : decode cc pc = .ok (.tableswitch dflt lo hi offs, len)) (h1 : lo ≤ a) (h2 : a ≤ hi) (ho : offs[(a - lo).toNat]? = some off) (ht : (pc : Int) + off = (tgt : Int)) (kk : J S X M tgt L st) : J S X M pc L (.int (zI a) :: st) :=
  fun H locs ls hP hS hl => lv_tableIn hX.ex hX.cd hdg (by rw [zI_toInt ha]; omega) (by rw [zI_toInt ha]; omega) (by rw [zI_toInt ha]; exact ho) ht (kk H locs ls hP hS hl)
theorem j_tableOut (hX : CX S X cc own rm) {dflt lo hi : Int} {offs : Array Int} {len : Nat} {a : Int} {tgt : Nat} (ha : zR a) (hdg : decode cc pc = .ok (.tableswitch dflt lo hi offs, len)) (h1 : a < lo ∨ hi < a) (ht : (pc : Int) + dflt = (tgt : Int)) (kk : J S X M tgt L st) : J S X M pc L (.int (zI a) :: st) :=
  fun H locs ls hP hS hl => lv_tableOut hX.ex hX.cd hdg (by rw [zI_toInt ha]; exact h1) ht (kk H locs ls hP hS hl)
-- cells
theorem j_get (hX : CX S X cc own rm) {C : String} {T : u_T} {N ci index a : Nat} (hin : ∀ w ∈ u_ws C T N, w ∈ lw_all) (q0 k : Nat) {fs : List Value} {v : Value} (he : (s_W S M)[q0]? = some (a, .inr (ci, fs))) (hc : (s_cl S)[ci]? = some (C, T, N)) (hk : k < N) (hlink : Cond.fieldLink own index (T k).1 (T k).2.1 (T k).2.2.1 ∈ lw_all) (hv : fs[k]? = some v) (hdg : decode cc pc = .ok (.getfield index, 3)) (kk : J S X M (pc + 3) L (v :: st)) : J S X M pc L (.ref a :: st) :=
  fun H locs ls hP hS hl => va_get hX.ex hX.cd hX.ts hin hX.ow hX.K hP q0 he hc k hk (hX.ts _ hlink) (fun _ h => h) hv hdg (kk H locs ls hP hS hl)
theorem j_getN (hX : CX S X cc own rm) {C host : String} {T : u_T} {N ci index a : Nat} (hin : ∀ w ∈ u_ws C T N, w ∈ lw_all) (q0 k : Nat) {fs : List Value} {v : Value} (he : (s_W S M)[q0]? = some (a, .inr (ci, fs))) (hc : (s_cl S)[ci]? = some (C, T, N)) (hk : k < N) (hlink : Cond.fieldLinkNest own index (T k).1 (T k).2.1 (T k).2.2.1 host ∈ lw_nest) (hv : fs[k]? = some v) (hdg : decode cc pc = .ok (.getfield index, 3)) (kk : J S X M (pc + 3) L (v :: st)) : J S X M pc L (.ref a :: st) :=
  fun H locs ls hP hS hl => va_getN hX.ex hX.cd hX.ts hin hX.ow hX.K hP q0 he hc k hk (va_Nw.use rfl (hX.N _ hlink)) (fun _ h => h) hv hdg (kk H locs ls hP hS hl)
theorem j_put (hX : CX S X cc own rm) {C : String} {T : u_T} {N ci index a : Nat} (hin : ∀ w ∈ u_ws C T N, w ∈ lw_all) (ty0 : Nat → FieldType) (hty : ∀ k, k < N → parseFieldDescriptor (T k).2.2.1 = some (ty0 k)) (hnm : ∀ a, a < N → ∀ b, b < N → a ≠ b → (T a).2.1 ≠ (T b).2.1) (q0 k : Nat) {fs : List Value} {v : Value} {M' : σ} (he : (s_W S M)[q0]? = some (a, .inr (ci, fs))) (hc : (s_cl S)[ci]? = some (C, T, N)) (hk : k < N) (hlink : Cond.fieldLink own index (T k).1 (T k).2.1 (T k).2.2.1 ∈ lw_all) (hfin : (T k).2.2.2 = false) (hn : narrow (ty0 k) v = v) (hfit : fits (ty0 k) v = true) (hl0 : k < fs.length) (hM : (s_W S M).set q0 (a, .inr (ci, fs.set k v)) = s_W S M') (hdg : decode cc pc = .ok (.putfield index, 3)) (kk : J S X M' (pc + 3) L st) : J S X M pc L (v :: .ref a :: st) :=
  fun H locs ls hP hS hl => va_put hX.ex hX.cd hX.ts hin ty0 hty hnm hX.ow hX.K hP (hX.D M) hS q0 he hc k hk (hX.ts _ hlink) (fun _ h => h) hfin (hty k hk) hn hfit hl0 hdg (fun H1 locs1 hP1 _ hS1 => kk H1 locs1 ls (by rw [← hM]; exact hP1) hS1 hl)
theorem j_iald (hX : CX S X cc own rm) (q0 t0 : Nat) {a n : Nat} {cA : ClassId} {f : Int → Int} {z : Int} (ha : (s_W S M)[q0]? = some (a, .inl (cA, n, .inl (fun j : Nat => zI (f (j : Int)))))) (ht : (s_tys S)[t0]? = some (cA, .int)) (hn : n < 2147483648) (hz : 0 ≤ z ∧ z < n) (hdg : decode cc pc = .ok (.iaload, 1)) (kk : J S X M (pc + 1) L (.int (zI (f z)) :: st)) : J S X M pc L (.int (zI z) :: .ref a :: st) :=
  fun H locs ls hP hS hl => va_iald hX.ex hX.cd hX.K hP q0 t0 ha ht (zI_in hz.1 hz.2 hn) hdg (by rw [zI_at hz.1 hz.2 hn]; exact kk H locs ls hP hS hl)
theorem j_cald (hX : CX S X cc own rm) (q0 t0 : Nat) {a n : Nat} {cA : ClassId} {f : Int → Int} {z : Int} (ha : (s_W S M)[q0]? = some (a, .inl (cA, n, .inl (fun j : Nat => zI (f (j : Int)))))) (ht : (s_tys S)[t0]? = some (cA, .char)) (hn : n < 2147483648) (hz : 0 ≤ z ∧ z < n) (hdg : decode cc pc = .ok (.caload, 1)) (kk : J S X M (pc + 1) L (.int (zI (f z)) :: st)) : J S X M pc L (.int (zI z) :: .ref a :: st) :=
  fun H locs ls hP hS hl => va_cald hX.ex hX.cd hX.K hP q0 t0 ha ht (zI_in hz.1 hz.2 hn) hdg (by rw [zI_at hz.1 hz.2 hn]; exact kk H locs ls hP hS hl)
theorem upd_zI {f : Int → Int} {z v : Int} {n : Nat} (hz : 0 ≤ z ∧ z < n) (hn : n < 2147483648) : upd (fun j : Nat => zI (f (j : Int))) (zI z).toNatClampNeg (zI v) = fun j : Nat => zI (setF f z v (j : Int)) := by
  funext j
  have h := zI_at hz.1 hz.2 hn
  by_cases hj : j = (zI z).toNatClampNeg
  · subst hj
    simp [upd, setF, h]
  · have hj2 : ¬ (j : Int) = z := fun e => hj (by omega)
    simp [upd, setF, hj, hj2]
theorem j_iast (hX : CX S X cc own rm) (q0 t0 : Nat) {a n : Nat} {cA : ClassId} {f : Int → Int} {z v : Int} {M' : σ} (ha : (s_W S M)[q0]? = some (a, .inl (cA, n, .inl (fun j : Nat => zI (f (j : Int)))))) (ht : (s_tys S)[t0]? = some (cA, .int)) (hn : n < 2147483648) (hz : 0 ≤ z ∧ z < n) (hM : (s_W S M).set q0 (a, .inl (cA, n, .inl (fun j : Nat => zI (setF f z v (j : Int))))) = s_W S M') (hdg : decode cc pc = .ok (.iastore, 1)) (kk : J S X M' (pc + 1) L st) : J S X M pc L (.int (zI v) :: .int (zI z) :: .ref a :: st) :=
  fun H locs ls hP hS hl => va_iast hX.ex hX.cd hX.K hP (hX.D M) hS q0 t0 ha ht (zI_in hz.1 hz.2 hn) hdg (fun H1 locs1 hP1 _ hS1 => kk H1 locs1 ls (by rw [← hM, ← upd_zI hz hn]; exact hP1) hS1 hl)
theorem zI_char {v : Int} (hv : 0 ≤ v ∧ v < 65536) : vp_nar .char (zI v) = zI v ∧ narrow .char (.int (zI v)) = .int (zI v) ∧ fits .char (.int (zI v)) = true := by
  obtain ⟨n, rfl⟩ := Int.eq_ofNat_of_zero_le hv.1
  rw [zI_nat]
  have h := pk_charN (q := n) (by omega)
  refine ⟨?_, h.1, h.2⟩
  unfold vp_nar
  rw [h.1]
theorem j_cast (hX : CX S X cc own rm) (q0 t0 : Nat) {a n : Nat} {cA : ClassId} {f : Int → Int} {z v : Int} {M' : σ} (ha : (s_W S M)[q0]? = some (a, .inl (cA, n, .inl (fun j : Nat => zI (f (j : Int)))))) (ht : (s_tys S)[t0]? = some (cA, .char)) (hn : n < 2147483648) (hz : 0 ≤ z ∧ z < n) (hv : 0 ≤ v ∧ v < 65536) (hM : (s_W S M).set q0 (a, .inl (cA, n, .inl (fun j : Nat => zI (setF f z v (j : Int))))) = s_W S M') (hdg : decode cc pc = .ok (.castore, 1)) (kk : J S X M' (pc + 1) L st) : J S X M pc L (.int (zI v) :: .int (zI z) :: .ref a :: st) :=
  fun H locs ls hP hS hl => va_cast hX.ex hX.cd hX.K hP (hX.D M) hS q0 t0 ha ht (zI_in hz.1 hz.2 hn) hdg (fun H1 locs1 hP1 _ hS1 => kk H1 locs1 ls (by rw [← hM, ← upd_zI hz hn, ← (zI_char hv).1]; rw [(zI_char hv).1] at hP1 ⊢; exact hP1) hS1 hl)
end SIDE
end
section
/-! CONTRACTS over a side: a method that makes nothing; answers an int (MI), nothing (MV), a reference (MR) -/
section MCON
variable {σ : Type}
def preS (S : Sd σ) (As : List Value) (M : σ) : Array Value → State → Prop := va_Pc As (fun U => va_P (s_D S) (s_cl S) (s_W S M) U.heap ∧ va_K (s_D S) (s_cl S) (s_tys S) U ∧ s_E S U U.heap ∧ NW U)
def MI (l : Launch) (y : MethodName) (cc : ByteArray) (maxL : Nat) (ret : FieldType) (rm : Room) (S : Sd σ) (As : List Value) (M : σ) (post : Int → σ → Prop) : Prop :=
  Met l y (wU y cc maxL (some ret)) rm (preS S As M) (va_Qi (fun r u => ∃ z : Int, r = zI z ∧ post z u) (fun u t => va_P (s_D S) (s_cl S) (s_W S u) t.heap) (s_A S)) 0 0 (s_A S)
def MV (l : Launch) (y : MethodName) (cc : ByteArray) (maxL : Nat) (rm : Room) (S : Sd σ) (As : List Value) (M : σ) (post : σ → Prop) : Prop :=
  Met l y (wU y cc maxL none) rm (preS S As M) (va_Qv (fun u => post u) (fun u t => va_P (s_D S) (s_cl S) (s_W S u) t.heap) (s_A S)) 0 0 (s_A S)
def MR (l : Launch) (y : MethodName) (cc : ByteArray) (maxL : Nat) (ret : FieldType) (rm : Room) (S : Sd σ) (As : List Value) (M : σ) (post : Nat → σ → Prop) : Prop :=
  Met l y (wU y cc maxL (some ret)) rm (preS S As M) (va_Qr (fun _ => True) (fun u a t => post a u ∧ va_P (s_D S) (s_cl S) (s_W S u) t.heap) (s_A S)) 0 0 (s_A S)
theorem blindS (S : Sd σ) (hS : SdOK S) (As : List Value) (M : σ) : FrameBlind (preS S As M) := fun a U g mk q =>
  ⟨q.1, q.2.1, va_K.moved (u := U) (U := U.calling g mk a) (Vm.Alike.refl U.vm) q.2.2.1, hS.2.1 U (U.calling g mk a) _ rfl q.2.2.2.1, NW.same (u := U) (U := U.calling g mk a) rfl q.2.2.2.2⟩
section BODY
variable {S : Sd σ} {y : MethodName} {cc : ByteArray} {own : String} {maxL : Nat} {ret : FieldType} {rm : Room} {As : List Value} {M : σ}
theorem mcx {p : Program} {l : Launch} {e : Env} {s : State} {m : MethodId} {below : List Frame} {meth : Method} {c : Code} {s₁ : State} {ro : Option FieldType} {Q : State → Prop} (hS : SdOK S) (hown : y.cls = own)
    (B : BodyLoose p l y (headSpec (wU y cc maxL ro) rm) cc maxL ro e s m As.toArray below meth c s₁) (hml : c.maxLocals = maxL) (hK : va_K (s_D S) (s_cl S) (s_tys S) s) (hE : s_E S s s.heap) (hN : NW s) :
    CX S (p, l, e, rm, s, m, As.toArray, below, meth, c, maxL, 0, 0, Q) cc own rm :=
  ⟨B.exec, B.bytes, hml, by rw [← hown]; exact findClass_of_methodNamed B.named, fun w hw => atoms_spec (ws := wU y cc maxL ro) B.pre w (List.mem_cons_of_mem _ hw), hK, hS, hE, hN, rfl, Nat.zero_le _, Nat.zero_le _⟩
theorem met_I {post : Int → σ → Prop} (l : Launch) (hS : SdOK S) (hy : plainName y.cls = true) (hown : y.cls = own) (hAs : (lg_sl As).length ≤ maxL) (hnar : ∀ z M', post z M' → narrow ret (.int (zI z)) = .int (zI z))
    (body : ∀ X : Xb, x_l X = l → x_nL X = maxL → CX S X cc own rm → (∀ (z : Int) (M' : σ) (pc : Nat) (L : Lc), decode cc pc = .ok (.ireturn, 1) → post z M' → J S X M' pc L [.int (zI z)]) → J S X M 0 (lv_args 0 As) []) : MI l y cc maxL ret rm S As M post := by
  refine Met.ofW (cc := cc) (maxL := maxL) (ret := some ret) hy rfl ?_
  intro p e s m args below meth c s₁ B hml hv
  obtain ⟨rfl, hP, hK, hE, hN⟩ := hv
  have hX : CX S (p, l, e, rm, s, m, As.toArray, below, meth, c, maxL, 0, 0, MQ below (va_Qi (fun r u => ∃ z : Int, r = zI z ∧ post z u) (fun u t => va_P (s_D S) (s_cl S) (s_W S u) t.heap) (s_A S)) As.toArray s 0 0 (s_A S)) cc own rm := mcx hS hown B hml hK hE hN
  have hlocks := B.notSynchronized
  have key := body _ rfl rfl hX (fun z M' pc L hdg hp H locs ls hP hS hl => by
    exact W.zret hX.ex hX.cd B.returns (hnar z M' hp) (fun t ht hW => ⟨⟨zI z, M', rfl, ⟨z, rfl, hp⟩, by show va_P _ _ _ t.heap; rw [ht]; exact hP⟩, hS.F ht⟩) hS.2.2 hdg)
  rw [lg_entry_eq]
  exact key s.heap [] _ hP va_S.rf (lv_entry As hAs)
theorem met_V {post : σ → Prop} (l : Launch) (hS : SdOK S) (hy : plainName y.cls = true) (hown : y.cls = own) (hAs : (lg_sl As).length ≤ maxL)
    (body : ∀ X : Xb, x_l X = l → x_nL X = maxL → CX S X cc own rm → (∀ (M' : σ) (pc : Nat) (L : Lc), decode cc pc = .ok (.return_, 1) → post M' → J S X M' pc L []) → J S X M 0 (lv_args 0 As) []) : MV l y cc maxL rm S As M post := by
  refine Met.ofW (cc := cc) (maxL := maxL) (ret := none) hy rfl ?_
  intro p e s m args below meth c s₁ B hml hv
  obtain ⟨rfl, hP, hK, hE, hN⟩ := hv
  have hX : CX S (p, l, e, rm, s, m, As.toArray, below, meth, c, maxL, 0, 0, MQ below (va_Qv (fun u => post u) (fun u t => va_P (s_D S) (s_cl S) (s_W S u) t.heap) (s_A S)) As.toArray s 0 0 (s_A S)) cc own rm := mcx hS hown B hml hK hE hN
  have hlocks := B.notSynchronized
  have key := body _ rfl rfl hX (fun M' pc L hdg hp H locs ls hP hS hl => by
    exact W.vret hX.ex hX.cd B.returns (fun t ht hW => ⟨⟨M', rfl, hp, by show va_P _ _ _ t.heap; rw [ht]; exact hP⟩, hS.F ht⟩) hS.2.2 hdg)
  rw [lg_entry_eq]
  exact key s.heap [] _ hP va_S.rf (lv_entry As hAs)
theorem met_R {post : Nat → σ → Prop} (l : Launch) (hS : SdOK S) (hy : plainName y.cls = true) (hown : y.cls = own) (hAs : (lg_sl As).length ≤ maxL) (hrt : (∃ n, ret = .object n) ∨ ∃ t, ret = .array t)
    (body : ∀ X : Xb, x_l X = l → x_nL X = maxL → CX S X cc own rm → (∀ (a : Nat) (M' : σ) (pc : Nat) (L : Lc), decode cc pc = .ok (.areturn, 1) → post a M' → J S X M' pc L [.ref a]) → J S X M 0 (lv_args 0 As) []) : MR l y cc maxL ret rm S As M post := by
  refine Met.ofW (cc := cc) (maxL := maxL) (ret := some ret) hy rfl ?_
  intro p e s m args below meth c s₁ B hml hv
  obtain ⟨rfl, hP, hK, hE, hN⟩ := hv
  have hX : CX S (p, l, e, rm, s, m, As.toArray, below, meth, c, maxL, 0, 0, MQ below (va_Qr (fun _ => True) (fun u a t => post a u ∧ va_P (s_D S) (s_cl S) (s_W S u) t.heap) (s_A S)) As.toArray s 0 0 (s_A S)) cc own rm := mcx hS hown B hml hK hE hN
  have hlocks := B.notSynchronized
  have key := body _ rfl rfl hX (fun a M' pc L hdg hp H locs ls hP hS hl => by
    exact W.aret hX.ex hX.cd B.returns hrt (Or.inr ⟨a, rfl⟩) (fun t ht hW => ⟨⟨M', a, rfl, trivial, hp, by rw [ht]; exact hP⟩, hS.F ht⟩) hS.2.2 hdg)
  rw [lg_entry_eq]
  exact key s.heap [] _ hP va_S.rf (lv_entry As hAs)
end BODY
/-- what the tables say of a method that is called: its code, its class, that it is an instance's (and selected) or static; n arguments -/
def CFI (y : MethodName) (cy : ByteArray) (maxL : Nat) (ro : Option FieldType) (n : Nat) : Prop := Cond.code y cy maxL ro ∈ lw_all ∧ Cond.initialized y.cls ∈ lw_all ∧ Cond.instanceMethod y ∈ lw_all ∧ Cond.selects y.cls y y ∈ lw_all ∧ (y.cls ≠ "java/lang/invoke/MethodHandle" ∧ y.cls ≠ "java/lang/invoke/VarHandle" ∧ (parseMethodDescriptor y.desc).map (fun d => d.parameters.length) = some n)
def CFS (y : MethodName) (cy : ByteArray) (maxL : Nat) (ro : Option FieldType) (n : Nat) : Prop := Cond.code y cy maxL ro ∈ lw_all ∧ Cond.initialized y.cls ∈ lw_all ∧ Cond.static y ∈ lw_all ∧ (y.cls ≠ "java/lang/invoke/MethodHandle" ∧ y.cls ≠ "java/lang/invoke/VarHandle" ∧ (parseMethodDescriptor y.desc).map (fun d => d.parameters.length) = some n)
/-- the callee's room within the caller's -/
def RmOK (rm rmc : Room) (maxL : Nat) : Prop := rmc.cells = 0 ∧ rmc.slots = 0 ∧ rmc.frames + 1 ≤ rm.frames ∧ 8 + (maxL + 11) + rmc.locals ≤ rm.locals
section CALLS
variable {S : Sd σ} {X : Xb} {M : σ} {cc : ByteArray} {own : String} {rm : Room} {pc : Nat} {L : Lc} {st st0 : List Value}
variable {y : MethodName} {cy : ByteArray} {maxL n index : Nat} {ret : FieldType} {ro : Option FieldType} {rmc : Room} {As : List Value}
theorem cS_pre (hX : CX S X cc own rm) {H : Heap} {locs : List Loc} {As : List Value} (hP : va_P (s_D S) (s_cl S) (s_W S M) H) (hS : va_S (s_A S) (x_s X).heap H locs) (U : State) (hU : U.heap = H) (hW : (x_s X).WarmedH U.vm) : preS S As M As.toArray U :=
  ⟨rfl, by rw [hU]; exact hP, va_K.moved hW.alike hX.K, by rw [hU]; exact hX.ok.2.2.1 _ _ _ hW (hX.ok.2.2.2 _ _ _ hX.E hS.2.1), hX.N.warm hW⟩
theorem cS_V (hX : CX S X cc own rm) (hF : CFI y cy maxL ro n) (hlink : Cond.methodLink own index y ∈ lw_all) (hR : RmOK rm rmc maxL) : CallW (x_R X) (x_s X) (x_args X) own y.cls index y cy maxL ro (wU y cy maxL ro) rmc 0 0 n :=
  ⟨callB_of n hX.ts (goodU hF.1) rfl hR.1 hR.2.1 (hX.ts _ hF.2.1) (hX.ts _ hlink) hF.2.2.2.2 (by rw [hX.R]; exact hR.2.2), hX.ts _ hF.2.2.1, hX.ts _ hF.2.2.2.1⟩
theorem cS_S (hX : CX S X cc own rm) (hF : CFS y cy maxL ro n) (hlink : Cond.methodLink own index y ∈ lw_all) (hR : RmOK rm rmc maxL) : CallB (x_R X) (x_s X) (x_args X) own index y cy maxL ro (wU y cy maxL ro) rmc 0 0 n ∧ (Cond.static y).before (x_args X) (x_s X) = true :=
  ⟨callB_of n hX.ts (goodU hF.1) rfl hR.1 hR.2.1 (hX.ts _ hF.2.1) (hX.ts _ hlink) hF.2.2.2 (by rw [hX.R]; exact hR.2.2), hX.ts _ hF.2.2.1⟩
theorem cS_VN (hX : CX S X cc own rm) {host : String} (hF : CFI y cy maxL ro n) (hlink : Cond.methodLinkNest own index y host ∈ lw_nest) (hR : RmOK rm rmc maxL) : va_CN (x_R X) (x_s X) (x_args X) own index y host cy maxL ro (wU y cy maxL ro) rmc 0 0 n ∧ (Cond.instanceMethod y).before (x_args X) (x_s X) = true ∧ (Cond.selects y.cls y y).before (x_args X) (x_s X) = true :=
  ⟨va_cnB n hX.ts (goodU hF.1) rfl hR.1 hR.2.1 (hX.N _ hlink) (hX.ts _ hF.2.1) hF.2.2.2.2 (by rw [hX.R]; exact hR.2.2), hX.ts _ hF.2.2.1, hX.ts _ hF.2.2.2.1⟩
theorem cS_SN (hX : CX S X cc own rm) {host : String} (hF : CFS y cy maxL ro n) (hlink : Cond.methodLinkNest own index y host ∈ lw_nest) (hR : RmOK rm rmc maxL) : va_CN (x_R X) (x_s X) (x_args X) own index y host cy maxL ro (wU y cy maxL ro) rmc 0 0 n ∧ (Cond.static y).before (x_args X) (x_s X) = true ∧ True :=
  ⟨va_cnB n hX.ts (goodU hF.1) rfl hR.1 hR.2.1 (hX.N _ hlink) (hX.ts _ hF.2.1) hF.2.2.2 (by rw [hX.R]; exact hR.2.2), hX.ts _ hF.2.2.1, trivial⟩
theorem j_callVI (hX : CX S X cc own rm) {b ci N : Nat} {C : String} {T : u_T} {fs : List Value} {post : Int → σ → Prop} (hM : MI (x_l X) y cy maxL ret rmc S (Value.ref b :: As) M post) (hF : CFI y cy maxL (some ret) n) (hlink : Cond.methodLink own index y ∈ lw_all) (hR : RmOK rm rmc maxL) (hn : As.length = n) (hcat : (st.map fun v => v.category).sum ≤ 8) (q0 : Nat) (he : (s_W S M)[q0]? = some (b, .inr (ci, fs))) (hc : (s_cl S)[ci]? = some (C, T, N)) (hC : C = y.cls) (hdg : decode cc pc = .ok (.invokevirtual index, 3)) (hst : st0 = As.reverse ++ .ref b :: st) (kk : ∀ (z : Int) (M' : σ), post z M' → J S X M' (pc + 3) L (.int (zI z) :: st)) : J S X M pc L st0 := by
  subst hst
  subst hC
  intro H locs ls hP hS hl
  refine va_calli (va_runV (As := As) (rest := st) ⟨hX.ex, hX.cd, hX.ml, hX.ow, hX.ts⟩ hM (cS_V hX hF hlink hR) ⟨blindS S hX.ok _ M, va_recv hX.K hP hc he, fun U hU hW => cS_pre hX hP hS U hU hW⟩ rfl hn hl.1 rfl (lv_room hcat) hdg ⟨hX.Rc, hX.Rs⟩) hS (fun q _ h => h) (fun q h => h) (fun r u t H1 locs1 ht hvm hw hB hz1 hk1 hS1 => ?_)
  obtain ⟨z, rfl, hz⟩ := hw
  exact kk z u hz H1 locs1 ls (by rw [ht] at hB; exact hB) hS1 hl
theorem j_callVV (hX : CX S X cc own rm) {b ci N : Nat} {C : String} {T : u_T} {fs : List Value} {post : σ → Prop} (hM : MV (x_l X) y cy maxL rmc S (Value.ref b :: As) M post) (hF : CFI y cy maxL none n) (hlink : Cond.methodLink own index y ∈ lw_all) (hR : RmOK rm rmc maxL) (hn : As.length = n) (hcat : (st.map fun v => v.category).sum ≤ 8) (q0 : Nat) (he : (s_W S M)[q0]? = some (b, .inr (ci, fs))) (hc : (s_cl S)[ci]? = some (C, T, N)) (hC : C = y.cls) (hdg : decode cc pc = .ok (.invokevirtual index, 3)) (hst : st0 = As.reverse ++ .ref b :: st) (kk : ∀ M' : σ, post M' → J S X M' (pc + 3) L st) : J S X M pc L st0 := by
  subst hst
  subst hC
  intro H locs ls hP hS hl
  refine va_callv (va_runV (As := As) (rest := st) ⟨hX.ex, hX.cd, hX.ml, hX.ow, hX.ts⟩ hM (cS_V hX hF hlink hR) ⟨blindS S hX.ok _ M, va_recv hX.K hP hc he, fun U hU hW => cS_pre hX hP hS U hU hW⟩ rfl hn hl.1 rfl (lv_room hcat) hdg ⟨hX.Rc, hX.Rs⟩) hS (fun q _ h => h) (fun q h => h) (fun u t H1 locs1 ht hvm hw hB hz1 hk1 hS1 => ?_)
  exact kk u hw H1 locs1 ls (by rw [ht] at hB; exact hB) hS1 hl
theorem j_callVR (hX : CX S X cc own rm) {b ci N : Nat} {C : String} {T : u_T} {fs : List Value} {post : Nat → σ → Prop} (hM : MR (x_l X) y cy maxL ret rmc S (Value.ref b :: As) M post) (hF : CFI y cy maxL (some ret) n) (hlink : Cond.methodLink own index y ∈ lw_all) (hR : RmOK rm rmc maxL) (hn : As.length = n) (hcat : (st.map fun v => v.category).sum ≤ 8) (q0 : Nat) (he : (s_W S M)[q0]? = some (b, .inr (ci, fs))) (hc : (s_cl S)[ci]? = some (C, T, N)) (hC : C = y.cls) (hdg : decode cc pc = .ok (.invokevirtual index, 3)) (hst : st0 = As.reverse ++ .ref b :: st) (kk : ∀ (a : Nat) (M' : σ), post a M' → J S X M' (pc + 3) L (.ref a :: st)) : J S X M pc L st0 := by
  subst hst
  subst hC
  intro H locs ls hP hS hl
  refine va_callr (va_runV (As := As) (rest := st) ⟨hX.ex, hX.cd, hX.ml, hX.ow, hX.ts⟩ hM (cS_V hX hF hlink hR) ⟨blindS S hX.ok _ M, va_recv hX.K hP hc he, fun U hU hW => cS_pre hX hP hS U hU hW⟩ rfl hn hl.1 rfl (lv_room hcat) hdg ⟨hX.Rc, hX.Rs⟩) hS (fun q _ h => h) (fun q h => h) (fun u ra t H1 locs1 ht hvm hw hB hz1 hk1 hS1 => ?_)
  exact kk ra u hB.1 H1 locs1 ls (by rw [ht] at hB; exact hB.2) hS1 hl
theorem j_callSI (hX : CX S X cc own rm) {post : Int → σ → Prop} (hM : MI (x_l X) y cy maxL ret rmc S As M post) (hF : CFS y cy maxL (some ret) n) (hlink : Cond.methodLink own index y ∈ lw_all) (hR : RmOK rm rmc maxL) (hn : As.length = n) (hcat : (st.map fun v => v.category).sum ≤ 8) (hdg : decode cc pc = .ok (.invokestatic index, 3)) (hst : st0 = As.reverse ++ st) (kk : ∀ (z : Int) (M' : σ), post z M' → J S X M' (pc + 3) L (.int (zI z) :: st)) : J S X M pc L st0 := by
  subst hst
  intro H locs ls hP hS hl
  refine va_calli (va_runS (As := As) (rest := st) ⟨hX.ex, hX.cd, hX.ml, hX.ow, hX.ts⟩ hM (cS_S hX hF hlink hR) ⟨blindS S hX.ok _ M, fun U hU hW => cS_pre hX hP hS U hU hW⟩ rfl hn hl.1 rfl (lv_room hcat) hdg ⟨hX.Rc, hX.Rs⟩) hS (fun q _ h => h) (fun q h => h) (fun r u t H1 locs1 ht hvm hw hB hz1 hk1 hS1 => ?_)
  obtain ⟨z, rfl, hz⟩ := hw
  exact kk z u hz H1 locs1 ls (by rw [ht] at hB; exact hB) hS1 hl
theorem j_callSV (hX : CX S X cc own rm) {post : σ → Prop} (hM : MV (x_l X) y cy maxL rmc S As M post) (hF : CFS y cy maxL none n) (hlink : Cond.methodLink own index y ∈ lw_all) (hR : RmOK rm rmc maxL) (hn : As.length = n) (hcat : (st.map fun v => v.category).sum ≤ 8) (hdg : decode cc pc = .ok (.invokestatic index, 3)) (hst : st0 = As.reverse ++ st) (kk : ∀ M' : σ, post M' → J S X M' (pc + 3) L st) : J S X M pc L st0 := by
  subst hst
  intro H locs ls hP hS hl
  refine va_callv (va_runS (As := As) (rest := st) ⟨hX.ex, hX.cd, hX.ml, hX.ow, hX.ts⟩ hM (cS_S hX hF hlink hR) ⟨blindS S hX.ok _ M, fun U hU hW => cS_pre hX hP hS U hU hW⟩ rfl hn hl.1 rfl (lv_room hcat) hdg ⟨hX.Rc, hX.Rs⟩) hS (fun q _ h => h) (fun q h => h) (fun u t H1 locs1 ht hvm hw hB hz1 hk1 hS1 => ?_)
  exact kk u hw H1 locs1 ls (by rw [ht] at hB; exact hB) hS1 hl
theorem j_callVNI (hX : CX S X cc own rm) {host : String} {b ci N : Nat} {C : String} {T : u_T} {fs : List Value} {post : Int → σ → Prop} (hM : MI (x_l X) y cy maxL ret rmc S (Value.ref b :: As) M post) (hF : CFI y cy maxL (some ret) n) (hlink : Cond.methodLinkNest own index y host ∈ lw_nest) (hR : RmOK rm rmc maxL) (hn : As.length = n) (hcat : (st.map fun v => v.category).sum ≤ 8) (q0 : Nat) (he : (s_W S M)[q0]? = some (b, .inr (ci, fs))) (hc : (s_cl S)[ci]? = some (C, T, N)) (hC : C = y.cls) (hdg : decode cc pc = .ok (.invokevirtual index, 3)) (hst : st0 = As.reverse ++ .ref b :: st) (kk : ∀ (z : Int) (M' : σ), post z M' → J S X M' (pc + 3) L (.int (zI z) :: st)) : J S X M pc L st0 := by
  subst hst
  subst hC
  intro H locs ls hP hS hl
  refine va_calli (va_runVN (As := As) (rest := st) ⟨hX.ex, hX.cd, hX.ml, hX.ow, hX.ts⟩ hM (cS_VN hX hF hlink hR) ⟨blindS S hX.ok _ M, va_recv hX.K hP hc he, fun U hU hW => cS_pre hX hP hS U hU hW⟩ rfl hn hl.1 rfl (lv_room hcat) hdg ⟨hX.Rc, hX.Rs⟩) hS (fun q _ h => h) (fun q h => h) (fun r u t H1 locs1 ht hvm hw hB hz1 hk1 hS1 => ?_)
  obtain ⟨z, rfl, hz⟩ := hw
  exact kk z u hz H1 locs1 ls (by rw [ht] at hB; exact hB) hS1 hl
theorem j_callVNV (hX : CX S X cc own rm) {host : String} {b ci N : Nat} {C : String} {T : u_T} {fs : List Value} {post : σ → Prop} (hM : MV (x_l X) y cy maxL rmc S (Value.ref b :: As) M post) (hF : CFI y cy maxL none n) (hlink : Cond.methodLinkNest own index y host ∈ lw_nest) (hR : RmOK rm rmc maxL) (hn : As.length = n) (hcat : (st.map fun v => v.category).sum ≤ 8) (q0 : Nat) (he : (s_W S M)[q0]? = some (b, .inr (ci, fs))) (hc : (s_cl S)[ci]? = some (C, T, N)) (hC : C = y.cls) (hdg : decode cc pc = .ok (.invokevirtual index, 3)) (hst : st0 = As.reverse ++ .ref b :: st) (kk : ∀ M' : σ, post M' → J S X M' (pc + 3) L st) : J S X M pc L st0 := by
  subst hst
  subst hC
  intro H locs ls hP hS hl
  refine va_callv (va_runVN (As := As) (rest := st) ⟨hX.ex, hX.cd, hX.ml, hX.ow, hX.ts⟩ hM (cS_VN hX hF hlink hR) ⟨blindS S hX.ok _ M, va_recv hX.K hP hc he, fun U hU hW => cS_pre hX hP hS U hU hW⟩ rfl hn hl.1 rfl (lv_room hcat) hdg ⟨hX.Rc, hX.Rs⟩) hS (fun q _ h => h) (fun q h => h) (fun u t H1 locs1 ht hvm hw hB hz1 hk1 hS1 => ?_)
  exact kk u hw H1 locs1 ls (by rw [ht] at hB; exact hB) hS1 hl
theorem j_callVNR (hX : CX S X cc own rm) {host : String} {b ci N : Nat} {C : String} {T : u_T} {fs : List Value} {post : Nat → σ → Prop} (hM : MR (x_l X) y cy maxL ret rmc S (Value.ref b :: As) M post) (hF : CFI y cy maxL (some ret) n) (hlink : Cond.methodLinkNest own index y host ∈ lw_nest) (hR : RmOK rm rmc maxL) (hn : As.length = n) (hcat : (st.map fun v => v.category).sum ≤ 8) (q0 : Nat) (he : (s_W S M)[q0]? = some (b, .inr (ci, fs))) (hc : (s_cl S)[ci]? = some (C, T, N)) (hC : C = y.cls) (hdg : decode cc pc = .ok (.invokevirtual index, 3)) (hst : st0 = As.reverse ++ .ref b :: st) (kk : ∀ (a : Nat) (M' : σ), post a M' → J S X M' (pc + 3) L (.ref a :: st)) : J S X M pc L st0 := by
  subst hst
  subst hC
  intro H locs ls hP hS hl
  refine va_callr (va_runVN (As := As) (rest := st) ⟨hX.ex, hX.cd, hX.ml, hX.ow, hX.ts⟩ hM (cS_VN hX hF hlink hR) ⟨blindS S hX.ok _ M, va_recv hX.K hP hc he, fun U hU hW => cS_pre hX hP hS U hU hW⟩ rfl hn hl.1 rfl (lv_room hcat) hdg ⟨hX.Rc, hX.Rs⟩) hS (fun q _ h => h) (fun q h => h) (fun u ra t H1 locs1 ht hvm hw hB hz1 hk1 hS1 => ?_)
  exact kk ra u hB.1 H1 locs1 ls (by rw [ht] at hB; exact hB.2) hS1 hl
theorem j_callSNI (hX : CX S X cc own rm) {host : String} {post : Int → σ → Prop} (hM : MI (x_l X) y cy maxL ret rmc S As M post) (hF : CFS y cy maxL (some ret) n) (hlink : Cond.methodLinkNest own index y host ∈ lw_nest) (hR : RmOK rm rmc maxL) (hn : As.length = n) (hcat : (st.map fun v => v.category).sum ≤ 8) (hdg : decode cc pc = .ok (.invokestatic index, 3)) (hst : st0 = As.reverse ++ st) (kk : ∀ (z : Int) (M' : σ), post z M' → J S X M' (pc + 3) L (.int (zI z) :: st)) : J S X M pc L st0 := by
  subst hst
  intro H locs ls hP hS hl
  refine va_calli (va_runSN (As := As) (rest := st) ⟨hX.ex, hX.cd, hX.ml, hX.ow, hX.ts⟩ hM (cS_SN hX hF hlink hR) ⟨blindS S hX.ok _ M, fun U hU hW => cS_pre hX hP hS U hU hW⟩ rfl hn hl.1 rfl (lv_room hcat) hdg ⟨hX.Rc, hX.Rs⟩) hS (fun q _ h => h) (fun q h => h) (fun r u t H1 locs1 ht hvm hw hB hz1 hk1 hS1 => ?_)
  obtain ⟨z, rfl, hz⟩ := hw
  exact kk z u hz H1 locs1 ls (by rw [ht] at hB; exact hB) hS1 hl
theorem j_callSNV (hX : CX S X cc own rm) {host : String} {post : σ → Prop} (hM : MV (x_l X) y cy maxL rmc S As M post) (hF : CFS y cy maxL none n) (hlink : Cond.methodLinkNest own index y host ∈ lw_nest) (hR : RmOK rm rmc maxL) (hn : As.length = n) (hcat : (st.map fun v => v.category).sum ≤ 8) (hdg : decode cc pc = .ok (.invokestatic index, 3)) (hst : st0 = As.reverse ++ st) (kk : ∀ M' : σ, post M' → J S X M' (pc + 3) L st) : J S X M pc L st0 := by
  subst hst
  intro H locs ls hP hS hl
  refine va_callv (va_runSN (As := As) (rest := st) ⟨hX.ex, hX.cd, hX.ml, hX.ow, hX.ts⟩ hM (cS_SN hX hF hlink hR) ⟨blindS S hX.ok _ M, fun U hU hW => cS_pre hX hP hS U hU hW⟩ rfl hn hl.1 rfl (lv_room hcat) hdg ⟨hX.Rc, hX.Rs⟩) hS (fun q _ h => h) (fun q h => h) (fun u t H1 locs1 ht hvm hw hB hz1 hk1 hS1 => ?_)
  exact kk u hw H1 locs1 ls (by rw [ht] at hB; exact hB) hS1 hl
-- Math
theorem j_abs (hX : CX S X cc own rm) (hlink : Cond.methodLink own index Lib.Math.abs.name ∈ lw_all) (hs : Cond.static Lib.Math.abs.name ∈ lw_all) (hi : Cond.initialized "java/lang/Math" ∈ lw_all) (hcd : Cond.code Lib.Math.abs.name Lib.Math.abs.code 1 (some .int) ∈ lw_all) (hfr : 1 ≤ rm.frames) (hlo : (st.map fun v => v.category).sum + 13 ≤ rm.locals) {a : Int} (ha : zR a) (hdg : decode cc pc = .ok (.invokestatic index, 3)) (kk : J S X M (pc + 3) L (.int (zI (if 0 ≤ a then a else 0 - a)) :: st)) : J S X M pc L (.int (zI a) :: st) := by
  intro H locs ls hP hS hl
  refine va_mabs hX.ex hX.cd (by rw [hX.ml, hl.1]) hX.ow (hX.ts _ hlink) (hX.ts _ hs) (hX.ts _ hi) (hX.ts _ hcd) (by rw [hX.R]; exact hfr) (by rw [hX.R]; exact hlo) hX.Rc hX.Rs hdg ?_
  have e : (if 0 ≤ zI a then zI a else 0 - zI a) = zI (if 0 ≤ a then a else 0 - a) := by
    rw [zI_0, zI_sub]
    by_cases h : 0 ≤ a
    · rw [if_pos h, if_pos ((zI_le ⟨by omega, by omega⟩ ha).mpr h)]
    · rw [if_neg h, if_neg (fun z => h ((zI_le ⟨by omega, by omega⟩ ha).mp z))]
  rw [e]
  exact kk H locs ls hP hS hl
theorem j_min (hX : CX S X cc own rm) (hlink : Cond.methodLink own index Lib.Math.min.name ∈ lw_all) (hs : Cond.static Lib.Math.min.name ∈ lw_all) (hi : Cond.initialized "java/lang/Math" ∈ lw_all) (hcd : Cond.code Lib.Math.min.name Lib.Math.min.code 2 (some .int) ∈ lw_all) (hfr : 1 ≤ rm.frames) (hlo : (st.map fun v => v.category).sum + 13 ≤ rm.locals) {a b : Int} (ha : zR a) (hb : zR b) (hdg : decode cc pc = .ok (.invokestatic index, 3)) (kk : J S X M (pc + 3) L (.int (zI (if b < a then b else a)) :: st)) : J S X M pc L (.int (zI b) :: .int (zI a) :: st) := by
  intro H locs ls hP hS hl
  refine va_mmin hX.ex hX.cd (by rw [hX.ml, hl.1]) hX.ow (hX.ts _ hlink) (hX.ts _ hs) (hX.ts _ hi) (hX.ts _ hcd) (by rw [hX.R]; exact hfr) (by rw [hX.R]; exact hlo) hX.Rc hX.Rs hdg ?_
  have e : (if zI b < zI a then zI b else zI a) = zI (if b < a then b else a) := by
    by_cases h : b < a
    · rw [if_pos h, if_pos ((zI_lt hb ha).mpr h)]
    · rw [if_neg h, if_neg (fun z => h ((zI_lt hb ha).mp z))]
  rw [e]
  exact kk H locs ls hP hS hl
/-- System.arraycopy of ints between two arrays of the world (or within one) -/
def cpyF (f g : Int → Int) (sp dp n : Int) : Int → Int := fun b => if dp ≤ b ∧ b < dp + n then f (sp + (b - dp)) else g b
theorem cpy_zI {f g : Int → Int} {sp dp n : Int} (h1 : 0 ≤ sp) (h2 : 0 ≤ dp) (h3 : 0 ≤ n) : va_cpy (fun j : Nat => zI (f (j : Int))) (fun j : Nat => zI (g (j : Int))) sp.toNat dp.toNat n.toNat = fun j : Nat => zI (cpyF f g sp dp n (j : Int)) := by
  funext j
  unfold va_cpy cpyF
  by_cases h : dp.toNat ≤ j ∧ j < dp.toNat + n.toNat
  · have h' : dp ≤ (j : Int) ∧ (j : Int) < dp + n := by omega
    rw [if_pos h, if_pos h']
    show zI (f ((sp.toNat + (j - dp.toNat) : Nat) : Int)) = _
    have e : ((sp.toNat + (j - dp.toNat) : Nat) : Int) = sp + ((j : Int) - dp) := by omega
    rw [e]
  · have h' : ¬ (dp ≤ (j : Int) ∧ (j : Int) < dp + n) := by omega
    rw [if_neg h, if_neg h']
theorem j_copyi (hX : CX S X cc own rm) (hlink : Cond.methodLink own index arraycopyName ∈ lw_all) (hnat : Cond.native arraycopyName ∈ lw_all) (hs : Cond.static arraycopyName ∈ lw_all) (hi : Cond.initialized "java/lang/System" ∈ lw_all) (hfr : 1 ≤ rm.frames) (hlo : (st.map fun v => v.category).sum + (nativeFrameWords "java/lang/System" "arraycopy" 5 + 11) ≤ rm.locals) (q0 q1 t0 t1 : Nat) {a0 a1 n0 n1 : Nat} {c0 c1 : ClassId} {f g : Int → Int} {sp dp n : Int} {M' : σ}
    (ha0 : (s_W S M)[q0]? = some (a0, .inl (c0, n0, .inl (fun j : Nat => zI (f (j : Int)))))) (ha1 : (s_W S M)[q1]? = some (a1, .inl (c1, n1, .inl (fun j : Nat => zI (g (j : Int)))))) (ht0 : (s_tys S)[t0]? = some (c0, .int)) (ht1 : (s_tys S)[t1]? = some (c1, .int)) (hn0 : n0 < 2147483648) (hn1 : n1 < 2147483648) (hsp : 0 ≤ sp) (hdp : 0 ≤ dp) (hn : 0 ≤ n) (h4 : sp + n ≤ n0) (h5 : dp + n ≤ n1)
    (hM : (s_W S M).set q1 (a1, .inl (c1, n1, .inl (fun j : Nat => zI (cpyF f g sp dp n (j : Int))))) = s_W S M') (hdg : decode cc pc = .ok (.invokestatic index, 3)) (kk : J S X M' (pc + 3) L st) : J S X M pc L (.int (zI n) :: .int (zI dp) :: .ref a1 :: .int (zI sp) :: .ref a0 :: st) := by
  intro H locs ls hP hS hl
  have e1 : (zI sp).toNatClampNeg = sp.toNat := zI_clamp ⟨by omega, by omega⟩
  have e2 : (zI dp).toNatClampNeg = dp.toNat := zI_clamp ⟨by omega, by omega⟩
  have e3 : (zI n).toNatClampNeg = n.toNat := zI_clamp ⟨by omega, by omega⟩
  have ng : ∀ z : Int, 0 ≤ z → z < 2147483648 → ¬ zI z < 0 := fun z h0 h1 => by
    rw [zI_0, zI_lt ⟨by omega, by omega⟩ ⟨by omega, by omega⟩]
    omega
  refine va_copyi hX.ex hX.cd (by rw [hX.ml, hl.1]) hX.ow (hX.ts _ hlink) (hX.ts _ hnat) (hX.ts _ hs) (hX.ts _ hi) hX.K hP (hX.D M) hS q0 q1 t0 t1 ha0 ha1 ht0 ht1 rfl (ng sp hsp (by omega)) (ng dp hdp (by omega)) (ng n hn (by omega)) (by rw [e1, e3]; omega) (by rw [e2, e3]; omega) (fun _ _ => rfl) (by rw [hX.R]; exact hfr) (by rw [hX.R]; exact hlo) hdg (fun H1 locs1 hP1 _ hS1 => ?_)
  rw [e1, e2, e3, cpy_zI hsp hdp hn, hM] at hP1
  exact kk H1 locs1 ls hP1 hS1 hl
end CALLS
end MCON
end
section
theorem zz_end : True := trivial
end
