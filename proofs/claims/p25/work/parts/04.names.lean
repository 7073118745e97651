/-! NAMES: classes, fields, methods (as the claim's printed list has them) -/
def RX0 : String := "HalfFaces$BestPairs"
def TX0 : u_T := fun k => match k with
  | 0 => ("HalfFaces$BestPairs", "likenesses", "[I", true)
  | 1 => ("HalfFaces$BestPairs", "rights", "[I", true)
  | _ => ("HalfFaces$BestPairs", "sum", "I", false)
def tyX0 : Nat → FieldType := fun k => match k with
  | 0 => .array .int
  | 1 => .array .int
  | _ => .int
theorem nmX0 : ∀ a, a < 3 → ∀ b, b < 3 → a ≠ b → (TX0 a).2.1 ≠ (TX0 b).2.1 := by decide +kernel
theorem tyX0_ok : ∀ k, k < 3 → parseFieldDescriptor (TX0 k).2.2.1 = some (tyX0 k) := by decide +kernel
abbrev cX0_init : ByteArray := prog_2_method_1_code
def yX0_init : MethodName := ⟨RX0, "<init>", "()V"⟩
abbrev cX0_sum : ByteArray := prog_2_method_2_code
def yX0_sum : MethodName := ⟨RX0, "sum", "()I"⟩
abbrev cX0_rightOf : ByteArray := prog_2_method_3_code
def yX0_rightOf : MethodName := ⟨RX0, "rightOf", "(I)I"⟩
abbrev cX0_find : ByteArray := prog_2_method_4_code
def yX0_find : MethodName := ⟨RX0, "find", "(LHalfFaces$State;)V"⟩
abbrev cX0_tryWith : ByteArray := prog_2_method_5_code
def yX0_tryWith : MethodName := ⟨RX0, "tryWith", "(II)V"⟩
def RX1 : String := "HalfFaces$History"
def TX1 : u_T := fun k => match k with
  | 0 => ("HalfFaces$History", "numbers", "[I", true)
  | _ => ("HalfFaces$History", "size", "I", false)
def tyX1 : Nat → FieldType := fun k => match k with
  | 0 => .array .int
  | _ => .int
theorem nmX1 : ∀ a, a < 2 → ∀ b, b < 2 → a ≠ b → (TX1 a).2.1 ≠ (TX1 b).2.1 := by decide +kernel
theorem tyX1_ok : ∀ k, k < 2 → parseFieldDescriptor (TX1 k).2.2.1 = some (tyX1 k) := by decide +kernel
abbrev cX1_init : ByteArray := prog_3_method_1_code
def yX1_init : MethodName := ⟨RX1, "<init>", "()V"⟩
abbrev cX1_size : ByteArray := prog_3_method_2_code
def yX1_size : MethodName := ⟨RX1, "size", "()I"⟩
abbrev cX1_remember : ByteArray := prog_3_method_3_code
def yX1_remember : MethodName := ⟨RX1, "remember", "(LHalfFaces$State;)V"⟩
abbrev cX1_dropOldest : ByteArray := prog_3_method_4_code
def yX1_dropOldest : MethodName := ⟨RX1, "dropOldest", "()V"⟩
abbrev cX1_recall : ByteArray := prog_3_method_5_code
def yX1_recall : MethodName := ⟨RX1, "recall", "(LHalfFaces$State;)Z"⟩
def RX2 : String := "HalfFaces$Ranking"
def TX2 : u_T := fun k => match k with
  | 0 => ("HalfFaces$Ranking", "lefts", "[I", true)
  | _ => ("HalfFaces$Ranking", "likenesses", "[I", true)
def tyX2 : Nat → FieldType := fun k => match k with
  | 0 => .array .int
  | _ => .array .int
theorem nmX2 : ∀ a, a < 2 → ∀ b, b < 2 → a ≠ b → (TX2 a).2.1 ≠ (TX2 b).2.1 := by decide +kernel
theorem tyX2_ok : ∀ k, k < 2 → parseFieldDescriptor (TX2 k).2.2.1 = some (tyX2 k) := by decide +kernel
abbrev cX2_init : ByteArray := prog_4_method_1_code
def yX2_init : MethodName := ⟨RX2, "<init>", "()V"⟩
abbrev cX2_leftAt : ByteArray := prog_4_method_2_code
def yX2_leftAt : MethodName := ⟨RX2, "leftAt", "(I)I"⟩
abbrev cX2_likenessAt : ByteArray := prog_4_method_3_code
def yX2_likenessAt : MethodName := ⟨RX2, "likenessAt", "(I)I"⟩
abbrev cX2_prizeAt : ByteArray := prog_4_method_4_code
def yX2_prizeAt : MethodName := ⟨RX2, "prizeAt", "(I)I"⟩
abbrev cX2_rank : ByteArray := prog_4_method_5_code
def yX2_rank : MethodName := ⟨RX2, "rank", "(LHalfFaces$State;)V"⟩
abbrev cX2_insert : ByteArray := prog_4_method_6_code
def yX2_insert : MethodName := ⟨RX2, "insert", "(II)V"⟩
def RX3 : String := "HalfFaces$State"
def TX3 : u_T := fun k => match k with
  | _ => ("HalfFaces$State", "numbers", "[I", true)
def tyX3 : Nat → FieldType := fun k => match k with
  | _ => .array .int
theorem nmX3 : ∀ a, a < 1 → ∀ b, b < 1 → a ≠ b → (TX3 a).2.1 ≠ (TX3 b).2.1 := by decide +kernel
theorem tyX3_ok : ∀ k, k < 1 → parseFieldDescriptor (TX3 k).2.2.1 = some (tyX3 k) := by decide +kernel
abbrev cX3_init : ByteArray := prog_5_method_1_code
def yX3_init : MethodName := ⟨RX3, "<init>", "()V"⟩
abbrev cX3_become : ByteArray := prog_5_method_2_code
def yX3_become : MethodName := ⟨RX3, "become", "(LHalfFaces$State;)V"⟩
abbrev cX3_number : ByteArray := prog_5_method_3_code
def yX3_number : MethodName := ⟨RX3, "number", "(I)I"⟩
abbrev cX3_setNumber : ByteArray := prog_5_method_4_code
def yX3_setNumber : MethodName := ⟨RX3, "setNumber", "(II)V"⟩
abbrev cX3_sitterTone : ByteArray := prog_5_method_5_code
def yX3_sitterTone : MethodName := ⟨RX3, "sitterTone", "(II)I"⟩
abbrev cX3_setSitterTone : ByteArray := prog_5_method_6_code
def yX3_setSitterTone : MethodName := ⟨RX3, "setSitterTone", "(III)V"⟩
abbrev cX3_halfTone : ByteArray := prog_5_method_7_code
def yX3_halfTone : MethodName := ⟨RX3, "halfTone", "(II)I"⟩
abbrev cX3_setHalfTone : ByteArray := prog_5_method_8_code
def yX3_setHalfTone : MethodName := ⟨RX3, "setHalfTone", "(III)V"⟩
abbrev cX3_dueTone : ByteArray := prog_5_method_9_code
def yX3_dueTone : MethodName := ⟨RX3, "dueTone", "(II)I"⟩
abbrev cX3_cellError : ByteArray := prog_5_method_10_code
def yX3_cellError : MethodName := ⟨RX3, "cellError", "(II)I"⟩
abbrev cX3_halfError : ByteArray := prog_5_method_11_code
def yX3_halfError : MethodName := ⟨RX3, "halfError", "(I)I"⟩
abbrev cX3_worstCell : ByteArray := prog_5_method_12_code
def yX3_worstCell : MethodName := ⟨RX3, "worstCell", "(I)I"⟩
abbrev cX3_cellsWithoutError : ByteArray := prog_5_method_13_code
def yX3_cellsWithoutError : MethodName := ⟨RX3, "cellsWithoutError", "(I)I"⟩
abbrev cX3_improveWorstCell : ByteArray := prog_5_method_14_code
def yX3_improveWorstCell : MethodName := ⟨RX3, "improveWorstCell", "(I)V"⟩
abbrev cX3_distance : ByteArray := prog_5_method_15_code
def yX3_distance : MethodName := ⟨RX3, "distance", "(II)I"⟩
abbrev cX3_takeHalfOver : ByteArray := prog_5_method_16_code
def yX3_takeHalfOver : MethodName := ⟨RX3, "takeHalfOver", "(II)I"⟩
abbrev cX3_minutesOf : ByteArray := prog_5_method_17_code
def yX3_minutesOf : MethodName := ⟨RX3, "minutesOf", "(I)I"⟩
abbrev cX3_useMinutes : ByteArray := prog_5_method_18_code
def yX3_useMinutes : MethodName := ⟨RX3, "useMinutes", "(II)V"⟩
abbrev cX3_passHour : ByteArray := prog_5_method_19_code
def yX3_passHour : MethodName := ⟨RX3, "passHour", "()I"⟩
abbrev cX3_rightOf : ByteArray := prog_5_method_20_code
def yX3_rightOf : MethodName := ⟨RX3, "rightOf", "(I)I"⟩
abbrev cX3_setRightOf : ByteArray := prog_5_method_21_code
def yX3_setRightOf : MethodName := ⟨RX3, "setRightOf", "(II)V"⟩
abbrev cX3_leftOf : ByteArray := prog_5_method_22_code
def yX3_leftOf : MethodName := ⟨RX3, "leftOf", "(I)I"⟩
abbrev cX3_stepAtLine : ByteArray := prog_5_method_23_code
def yX3_stepAtLine : MethodName := ⟨RX3, "stepAtLine", "(III)I"⟩
abbrev cX3_sitterStepAtLine : ByteArray := prog_5_method_24_code
def yX3_sitterStepAtLine : MethodName := ⟨RX3, "sitterStepAtLine", "(I)I"⟩
abbrev cX3_isBreak : ByteArray := prog_5_method_25_code
def yX3_isBreak : MethodName := ⟨RX3, "isBreak", "(III)Z"⟩
abbrev cX3_breaks : ByteArray := prog_5_method_26_code
def yX3_breaks : MethodName := ⟨RX3, "breaks", "(II)I"⟩
abbrev cX3_firstBreak : ByteArray := prog_5_method_27_code
def yX3_firstBreak : MethodName := ⟨RX3, "firstBreak", "(II)I"⟩
abbrev cX3_distanceAtLine : ByteArray := prog_5_method_28_code
def yX3_distanceAtLine : MethodName := ⟨RX3, "distanceAtLine", "(II)I"⟩
abbrev cX3_likeness : ByteArray := prog_5_method_29_code
def yX3_likeness : MethodName := ⟨RX3, "likeness", "(II)I"⟩
abbrev cX3_coinsOf : ByteArray := prog_5_method_30_code
def yX3_coinsOf : MethodName := ⟨RX3, "coinsOf", "(I)I"⟩
abbrev cX3_givePrize : ByteArray := prog_5_method_31_code
def yX3_givePrize : MethodName := ⟨RX3, "givePrize", "(II)V"⟩
abbrev cX3_countShow : ByteArray := prog_5_method_32_code
def yX3_countShow : MethodName := ⟨RX3, "countShow", "()V"⟩
abbrev cX3_allCoins : ByteArray := prog_5_method_33_code
def yX3_allCoins : MethodName := ⟨RX3, "allCoins", "()I"⟩
abbrev cX3_allBreaks : ByteArray := prog_5_method_34_code
def yX3_allBreaks : MethodName := ⟨RX3, "allBreaks", "()I"⟩
abbrev cX3_allLikeness : ByteArray := prog_5_method_35_code
def yX3_allLikeness : MethodName := ⟨RX3, "allLikeness", "()I"⟩
abbrev cX3_allErrors : ByteArray := prog_5_method_36_code
def yX3_allErrors : MethodName := ⟨RX3, "allErrors", "()I"⟩
def RX4 : String := "HalfFaces$Text"
def TX4 : u_T := fun k => match k with
  | 0 => ("HalfFaces$Text", "characters", "[C", true)
  | _ => ("HalfFaces$Text", "length", "I", false)
def tyX4 : Nat → FieldType := fun k => match k with
  | 0 => .array .char
  | _ => .int
theorem nmX4 : ∀ a, a < 2 → ∀ b, b < 2 → a ≠ b → (TX4 a).2.1 ≠ (TX4 b).2.1 := by decide +kernel
theorem tyX4_ok : ∀ k, k < 2 → parseFieldDescriptor (TX4 k).2.2.1 = some (tyX4 k) := by decide +kernel
abbrev cX4_init : ByteArray := prog_6_method_1_code
def yX4_init : MethodName := ⟨RX4, "<init>", "()V"⟩
abbrev cX4_length : ByteArray := prog_6_method_2_code
def yX4_length : MethodName := ⟨RX4, "length", "()I"⟩
abbrev cX4_characterAt : ByteArray := prog_6_method_5_code
def yX4_characterAt : MethodName := ⟨RX4, "characterAt", "(I)C"⟩
abbrev cX4_isHalfAt : ByteArray := prog_6_method_6_code
def yX4_isHalfAt : MethodName := ⟨RX4, "isHalfAt", "(I)Z"⟩
abbrev cX4_formAt : ByteArray := prog_6_method_7_code
def yX4_formAt : MethodName := ⟨RX4, "formAt", "(I)Ljava/lang/String;"⟩
abbrev cX4_isAllowed : ByteArray := prog_6_method_8_code
def yX4_isAllowed : MethodName := ⟨RX4, "isAllowed", "(CC)Z"⟩
abbrev cX4_fault : ByteArray := prog_6_method_9_code
def yX4_fault : MethodName := ⟨RX4, "fault", "()I"⟩
abbrev cX4_entryFault : ByteArray := prog_6_method_10_code
def yX4_entryFault : MethodName := ⟨RX4, "entryFault", "(I)I"⟩
abbrev cX4_writeRows : ByteArray := prog_6_method_11_code
def yX4_writeRows : MethodName := ⟨RX4, "writeRows", "(LHalfFaces$State;)I"⟩
abbrev cX4_writeSitterRow : ByteArray := prog_6_method_12_code
def yX4_writeSitterRow : MethodName := ⟨RX4, "writeSitterRow", "(LHalfFaces$State;I)V"⟩
abbrev cX4_writeHalfRow : ByteArray := prog_6_method_13_code
def yX4_writeHalfRow : MethodName := ⟨RX4, "writeHalfRow", "(LHalfFaces$State;I)V"⟩
abbrev cX4_digitAt : ByteArray := prog_6_method_14_code
def yX4_digitAt : MethodName := ⟨RX4, "digitAt", "(I)I"⟩
def RX5 : String := "HalfFaces"
def TX5 : u_T := fun k => match k with
  | 0 => ("HalfFaces", "state", "LHalfFaces$State;", true)
  | 1 => ("HalfFaces", "history", "LHalfFaces$History;", true)
  | 2 => ("HalfFaces", "snapshot", "LHalfFaces$State;", true)
  | 3 => ("HalfFaces", "hasSnapshot", "Z", false)
  | 4 => ("HalfFaces", "text", "LHalfFaces$Text;", true)
  | 5 => ("HalfFaces", "best", "LHalfFaces$BestPairs;", true)
  | _ => ("HalfFaces", "ranking", "LHalfFaces$Ranking;", true)
def tyX5 : Nat → FieldType := fun k => match k with
  | 0 => .object "HalfFaces$State"
  | 1 => .object "HalfFaces$History"
  | 2 => .object "HalfFaces$State"
  | 3 => .boolean
  | 4 => .object "HalfFaces$Text"
  | 5 => .object "HalfFaces$BestPairs"
  | _ => .object "HalfFaces$Ranking"
theorem nmX5 : ∀ a, a < 7 → ∀ b, b < 7 → a ≠ b → (TX5 a).2.1 ≠ (TX5 b).2.1 := by decide +kernel
theorem tyX5_ok : ∀ k, k < 7 → parseFieldDescriptor (TX5 k).2.2.1 = some (tyX5 k) := by decide +kernel
abbrev cX5_init : ByteArray := prog_1_method_1_code
def yX5_init : MethodName := ⟨RX5, "<init>", "()V"⟩
abbrev cX5_sit : ByteArray := prog_1_method_2_code
def yX5_sit : MethodName := ⟨RX5, "sit", "(III)I"⟩
abbrev cX5_set : ByteArray := prog_1_method_3_code
def yX5_set : MethodName := ⟨RX5, "set", "(II)I"⟩
abbrev cX5_paint : ByteArray := prog_1_method_4_code
def yX5_paint : MethodName := ⟨RX5, "paint", "(ZIIII)I"⟩
abbrev cX5_correct : ByteArray := prog_1_method_5_code
def yX5_correct : MethodName := ⟨RX5, "correct", "(ZII)I"⟩
abbrev cX5_copy : ByteArray := prog_1_method_6_code
def yX5_copy : MethodName := ⟨RX5, "copy", "(ZII)I"⟩
abbrev cX5_hour : ByteArray := prog_1_method_7_code
def yX5_hour : MethodName := ⟨RX5, "hour", "()I"⟩
abbrev cX5_readRows : ByteArray := prog_1_method_8_code
def yX5_readRows : MethodName := ⟨RX5, "readRows", "()I"⟩
abbrev cX5_pair : ByteArray := prog_1_method_9_code
def yX5_pair : MethodName := ⟨RX5, "pair", "(II)I"⟩
abbrev cX5_pairBest : ByteArray := prog_1_method_10_code
def yX5_pairBest : MethodName := ⟨RX5, "pairBest", "()I"⟩
abbrev cX5_show : ByteArray := prog_1_method_11_code
def yX5_show : MethodName := ⟨RX5, "show", "()I"⟩
abbrev cX5_undo : ByteArray := prog_1_method_14_code
def yX5_undo : MethodName := ⟨RX5, "undo", "()I"⟩
abbrev cX5_restore : ByteArray := prog_1_method_16_code
def yX5_restore : MethodName := ⟨RX5, "restore", "()I"⟩
abbrev cX5_sitter : ByteArray := prog_1_method_17_code
def yX5_sitter : MethodName := ⟨RX5, "sitter", "(II)I"⟩
abbrev cX5_tone : ByteArray := prog_1_method_18_code
def yX5_tone : MethodName := ⟨RX5, "tone", "(ZIII)I"⟩
abbrev cX5_painter : ByteArray := prog_1_method_19_code
def yX5_painter : MethodName := ⟨RX5, "painter", "(ZII)I"⟩
abbrev cX5_face : ByteArray := prog_1_method_20_code
def yX5_face : MethodName := ⟨RX5, "face", "(III)I"⟩
abbrev cX5_bestFor : ByteArray := prog_1_method_21_code
def yX5_bestFor : MethodName := ⟨RX5, "bestFor", "(I)I"⟩
abbrev cX5_ranked : ByteArray := prog_1_method_22_code
def yX5_ranked : MethodName := ⟨RX5, "ranked", "(II)I"⟩
abbrev cX5_count : ByteArray := prog_1_method_23_code
def yX5_count : MethodName := ⟨RX5, "count", "(I)I"⟩
abbrev cX5_isBelow : ByteArray := prog_1_method_24_code
def yX5_isBelow : MethodName := ⟨RX5, "isBelow", "(II)Z"⟩
abbrev cX5_areMinutes : ByteArray := prog_1_method_25_code
def yX5_areMinutes : MethodName := ⟨RX5, "areMinutes", "(I)Z"⟩
abbrev cX5_isCell : ByteArray := prog_1_method_26_code
def yX5_isCell : MethodName := ⟨RX5, "isCell", "(III)Z"⟩
abbrev cX5_halfOf : ByteArray := prog_1_method_27_code
def yX5_halfOf : MethodName := ⟨RX5, "halfOf", "(ZI)I"⟩
abbrev cX5_change : ByteArray := prog_1_method_28_code
def yX5_change : MethodName := ⟨RX5, "change", "(II)I"⟩
def RX6 : String := "HalfFacesModel"
def TX6 : u_T := fun k => match k with
  | _ => ("", "", "", false)
def tyX6 : Nat → FieldType := fun k => match k with
  | _ => .int
theorem nmX6 : ∀ a, a < 0 → ∀ b, b < 0 → a ≠ b → (TX6 a).2.1 ≠ (TX6 b).2.1 := by decide +kernel
theorem tyX6_ok : ∀ k, k < 0 → parseFieldDescriptor (TX6 k).2.2.1 = some (tyX6 k) := by decide +kernel
def RJ9 : String := "java/lang/Math"
def TJ9 : u_T := fun k => match k with
  | _ => ("", "", "", false)
def tyJ9 : Nat → FieldType := fun k => match k with
  | _ => .int
theorem nmJ9 : ∀ a, a < 0 → ∀ b, b < 0 → a ≠ b → (TJ9 a).2.1 ≠ (TJ9 b).2.1 := by decide +kernel
theorem tyJ9_ok : ∀ k, k < 0 → parseFieldDescriptor (TJ9 k).2.2.1 = some (tyJ9 k) := by decide +kernel
abbrev cJ9_abs_0f7a4 : ByteArray := prog_9_method_59_code
def yJ9_abs_0f7a4 : MethodName := ⟨RJ9, "abs", "(I)I"⟩
abbrev cJ9_min_7cf53 : ByteArray := prog_9_method_69_code
def yJ9_min_7cf53 : MethodName := ⟨RJ9, "min", "(II)I"⟩
def RJ0 : String := "java/lang/String"
def TJ0 : u_T := fun k => match k with
  | _ => ("", "", "", false)
def tyJ0 : Nat → FieldType := fun k => match k with
  | _ => .int
theorem nmJ0 : ∀ a, a < 0 → ∀ b, b < 0 → a ≠ b → (TJ0 a).2.1 ≠ (TJ0 b).2.1 := by decide +kernel
theorem tyJ0_ok : ∀ k, k < 0 → parseFieldDescriptor (TJ0 k).2.2.1 = some (tyJ0 k) := by decide +kernel
abbrev cJ0_length_8abf5 : ByteArray := prog_10_method_54_code
def yJ0_length_8abf5 : MethodName := ⟨RJ0, "length", "()I"⟩
abbrev cJ0_charAt_5068e : ByteArray := prog_10_method_56_code
def yJ0_charAt_5068e : MethodName := ⟨RJ0, "charAt", "(I)C"⟩
abbrev cJ0_coder_7d493 : ByteArray := prog_10_method_152_code
def yJ0_coder_7d493 : MethodName := ⟨RJ0, "coder", "()B"⟩
abbrev cJ0_isLatin1_aae02 : ByteArray := prog_10_method_154_code
def yJ0_isLatin1_aae02 : MethodName := ⟨RJ0, "isLatin1", "()Z"⟩
abbrev cJ0_checkIndex_df160 : ByteArray := prog_10_method_155_code
def yJ0_checkIndex_df160 : MethodName := ⟨RJ0, "checkIndex", "(II)V"⟩
def RJ1 : String := "java/lang/StringLatin1"
def TJ1 : u_T := fun k => match k with
  | _ => ("", "", "", false)
def tyJ1 : Nat → FieldType := fun k => match k with
  | _ => .int
theorem nmJ1 : ∀ a, a < 0 → ∀ b, b < 0 → a ≠ b → (TJ1 a).2.1 ≠ (TJ1 b).2.1 := by decide +kernel
theorem tyJ1_ok : ∀ k, k < 0 → parseFieldDescriptor (TJ1 k).2.2.1 = some (tyJ1 k) := by decide +kernel
abbrev cJ1_charAt_3b067 : ByteArray := prog_11_method_2_code
def yJ1_charAt_3b067 : MethodName := ⟨RJ1, "charAt", "([BI)C"⟩
def RJ2 : String := "java/lang/StringUTF16"
def TJ2 : u_T := fun k => match k with
  | _ => ("", "", "", false)
def tyJ2 : Nat → FieldType := fun k => match k with
  | _ => .int
theorem nmJ2 : ∀ a, a < 0 → ∀ b, b < 0 → a ≠ b → (TJ2 a).2.1 ≠ (TJ2 b).2.1 := by decide +kernel
theorem tyJ2_ok : ∀ k, k < 0 → parseFieldDescriptor (TJ2 k).2.2.1 = some (tyJ2 k) := by decide +kernel
abbrev cJ2_getChar_3b067 : ByteArray := prog_12_method_5_code
def yJ2_getChar_3b067 : MethodName := ⟨RJ2, "getChar", "([BI)C"⟩
abbrev cJ2_length_9d52b : ByteArray := prog_12_method_6_code
def yJ2_length_9d52b : MethodName := ⟨RJ2, "length", "([B)I"⟩
abbrev cJ2_charAt_3b067 : ByteArray := prog_12_method_83_code
def yJ2_charAt_3b067 : MethodName := ⟨RJ2, "charAt", "([BI)C"⟩
abbrev cJ2_checkIndex_2214a : ByteArray := prog_12_method_91_code
def yJ2_checkIndex_2214a : MethodName := ⟨RJ2, "checkIndex", "(I[B)V"⟩
def RJ10 : String := "java/lang/System"
def TJ10 : u_T := fun k => match k with
  | _ => ("", "", "", false)
def tyJ10 : Nat → FieldType := fun k => match k with
  | _ => .int
theorem nmJ10 : ∀ a, a < 0 → ∀ b, b < 0 → a ≠ b → (TJ10 a).2.1 ≠ (TJ10 b).2.1 := by decide +kernel
theorem tyJ10_ok : ∀ k, k < 0 → parseFieldDescriptor (TJ10 k).2.2.1 = some (tyJ10 k) := by decide +kernel
def RJ3 : String := "jdk/internal/util/Preconditions"
def TJ3 : u_T := fun k => match k with
  | _ => ("", "", "", false)
def tyJ3 : Nat → FieldType := fun k => match k with
  | _ => .int
theorem nmJ3 : ∀ a, a < 0 → ∀ b, b < 0 → a ≠ b → (TJ3 a).2.1 ≠ (TJ3 b).2.1 := by decide +kernel
theorem tyJ3_ok : ∀ k, k < 0 → parseFieldDescriptor (TJ3 k).2.2.1 = some (tyJ3 k) := by decide +kernel
abbrev cJ3_checkIndex_8e157 : ByteArray := prog_14_method_11_code
def yJ3_checkIndex_8e157 : MethodName := ⟨RJ3, "checkIndex", "(IILjava/util/function/BiFunction;)I"⟩
def RL : String := "HalfFacesLaw"
abbrev cL_cell : ByteArray := method_2_code
def yL_cell : MethodName := ⟨RL, "cell", "([II)I"⟩
abbrev cL_acts : ByteArray := method_3_code
def yL_acts : MethodName := ⟨RL, "acts", "(LHalfFaces;I)I"⟩
abbrev cL_far : ByteArray := method_4_code
def yL_far : MethodName := ⟨RL, "far", "(II)I"⟩
abbrev cL_hangs : ByteArray := method_5_code
def yL_hangs : MethodName := ⟨RL, "hangs", "(LHalfFaces;)Z"⟩
abbrev cL_law : ByteArray := code
def yL_law : MethodName := ⟨RL, "law", "([I)Z"⟩
def vCl : List vw_C := [(RX0, TX0, 3), (RX1, TX1, 2), (RX2, TX2, 2), (RX3, TX3, 1), (RX4, TX4, 2), (RX5, TX5, 7)]
