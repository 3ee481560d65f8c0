theorem ii_String : Cond.initialized "java/lang/String" ∈ ALLg := (al_in (tb1 (List.mem_of_getElem? (i := 15) (by rfl))) (by decide +kernel))
theorem ls_CS : Cond.laysStatic "java/lang/String" "COMPACT_STRINGS" "Z" ∈ lw_tbl := tb2 (List.mem_of_getElem? (i := 193) (by rfl))
