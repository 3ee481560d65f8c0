theorem ii_String : Cond.initialized "java/lang/String" ∈ ALLg := (al_in (tb1 (List.mem_of_getElem? (i := 15) (by rfl))) (by decide +kernel))
theorem ls_CS : Cond.laysStatic "java/lang/String" "COMPACT_STRINGS" "Z" ∈ lw_tbl := tb2 (List.mem_of_getElem? (i := 193) (by rfl))
theorem ls_SF : Cond.laysStatic "jdk/internal/util/Preconditions" "SIOOBE_FORMATTER" "Ljava/util/function/BiFunction;" ∈ lw_tbl := tb2 (List.mem_of_getElem? (i := 209) (by rfl))
theorem ii_Pre : Cond.initialized "jdk/internal/util/Preconditions" ∈ ALLg := (al_in (tb1 (List.mem_of_getElem? (i := 17) (by rfl))) (by decide +kernel))
