/-! WORDS: hangs -/
set_option maxRecDepth 100000 in
theorem cw_L_hangs : Cond.code yL_hangs cL_hangs 16 (some .boolean) ∈ lw_tbl :=
  List.mem_append_right _ (List.mem_append_right _ (List.mem_append_right _ (List.mem_of_getElem? (l := tables_1_3) (i := 54) rfl)))
theorem cf_L_hangs : CFS yL_hangs cL_hangs 16 (some .boolean) 1 := ⟨aw cw_L_hangs rfl, iz_L, aw (List.mem_of_getElem? (i := 592) (by decide +kernel)) (by decide +kernel), ⟨by decide +kernel, by decide +kernel, by decide +kernel⟩⟩
