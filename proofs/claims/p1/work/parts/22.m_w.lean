theorem cs_38 : Cond.fieldLink RJ0 38 "java/lang/String" "COMPACT_STRINGS" "Z" ∈ ALLg := (al_in (tb2 (List.mem_of_getElem? (i := 192) (by rfl))) (by decide +kernel))
theorem sf_15 : Cond.fieldLink RJ0 15 "java/lang/String" "coder" "B" ∈ ALLg := (al_in (tb8 (List.mem_of_getElem? (i := 162) (by rfl))) (by decide +kernel))
theorem sf_9 : Cond.fieldLink RJ0 9 "java/lang/String" "value" "[B" ∈ ALLg := (al_in (tb8 (List.mem_of_getElem? (i := 161) (by rfl))) (by decide +kernel))
theorem ml_J0_335 : Cond.methodLink RJ0 335 yJ0_coder_7d493 ∈ ALLg := (al_in (tb2 (List.mem_of_getElem? (i := 188) (by rfl))) (by decide +kernel))
theorem mx_J0_coder_7d493 : Mx yJ0_coder_7d493 cJ0_coder_7d493 1 (some .byte) 0 := ⟨(al_in (tb2 (List.mem_of_getElem? (i := 191) (by rfl))) (by decide +kernel)), (al_in (tb1 (List.mem_of_getElem? (i := 15) (by rfl))) (by decide +kernel)), ⟨by decide +kernel, by decide +kernel, by decide +kernel⟩, by decide⟩
theorem mi_J0_coder_7d493 : Cond.instanceMethod yJ0_coder_7d493 ∈ ALLg := (al_in (tb2 (List.mem_of_getElem? (i := 189) (by rfl))) (by decide +kernel))
theorem ms_J0_coder_7d493 : Cond.selects (yJ0_coder_7d493).cls yJ0_coder_7d493 yJ0_coder_7d493 ∈ ALLg := (al_in (tb2 (List.mem_of_getElem? (i := 190) (by rfl))) (by decide +kernel))
theorem kl_X12_90 : Cond.constantLong RX12 90 3 ∈ ALLg := (al_in (tb7 (List.mem_of_getElem? (i := 151) (by rfl))) (by decide +kernel))
theorem ml_X12_79 : Cond.methodLink RX12 79 yX12_in ∈ ALLg := (al_in (tb6 (List.mem_of_getElem? (i := 178) (by rfl))) (by decide +kernel))
theorem mx_X12_in : Mx yX12_in cX12_in 6 (some .boolean) 3 := ⟨(al_in (tb6 (List.mem_of_getElem? (i := 180) (by rfl))) (by decide +kernel)), (al_in (tb1 (List.mem_of_getElem? (i := 13) (by rfl))) (by decide +kernel)), ⟨by decide +kernel, by decide +kernel, by decide +kernel⟩, by decide⟩
theorem mt_X12_in : Cond.static yX12_in ∈ ALLg := (al_in (tb6 (List.mem_of_getElem? (i := 179) (by rfl))) (by decide +kernel))
theorem kl_X12_92 : Cond.constantLong RX12 92 5 ∈ ALLg := (al_in (tb7 (List.mem_of_getElem? (i := 73) (by rfl))) (by decide +kernel))
theorem kl_X12_317 : Cond.constantLong RX12 317 2000000000 ∈ ALLg := (al_in (tb7 (List.mem_of_getElem? (i := 155) (by rfl))) (by decide +kernel))
theorem fl_X12_13 : Fl RX12 13 12 1 true (.array .int) := ⟨RX12, TX12, 29, tyX12, ⟨rfl, by decide, inX12, tyX12_ok, nmX12, rfl, by decide +kernel⟩, rfl, (al_in (tb6 (List.mem_of_getElem? (i := 85) (by rfl))) (by decide +kernel))⟩
theorem ml_X12_94 : Cond.methodLink RX12 94 yX12_ofWay ∈ ALLg := (al_in (tb7 (List.mem_of_getElem? (i := 93) (by rfl))) (by decide +kernel))
theorem mx_X12_ofWay : Mx yX12_ofWay cX12_ofWay 3 (some .int) 2 := ⟨(al_in (tb7 (List.mem_of_getElem? (i := 96) (by rfl))) (by decide +kernel)), (al_in (tb1 (List.mem_of_getElem? (i := 13) (by rfl))) (by decide +kernel)), ⟨by decide +kernel, by decide +kernel, by decide +kernel⟩, by decide⟩
theorem mi_X12_ofWay : Cond.instanceMethod yX12_ofWay ∈ ALLg := (al_in (tb7 (List.mem_of_getElem? (i := 95) (by rfl))) (by decide +kernel))
theorem ms_X12_ofWay : Cond.selects (yX12_ofWay).cls yX12_ofWay yX12_ofWay ∈ ALLg := (al_in (tb0 (List.mem_of_getElem? (i := 63) (by rfl))) (by decide +kernel))
theorem ml_X12_319 : Cond.methodLink RX12 319 yX12_isCloth ∈ ALLg := (al_in (tb7 (List.mem_of_getElem? (i := 148) (by rfl))) (by decide +kernel))
theorem mx_X12_isCloth : Mx yX12_isCloth cX12_isCloth 1 (some .boolean) 1 := ⟨(al_in (tb7 (List.mem_of_getElem? (i := 150) (by rfl))) (by decide +kernel)), (al_in (tb1 (List.mem_of_getElem? (i := 13) (by rfl))) (by decide +kernel)), ⟨by decide +kernel, by decide +kernel, by decide +kernel⟩, by decide⟩
theorem mt_X12_isCloth : Cond.static yX12_isCloth ∈ ALLg := (al_in (tb7 (List.mem_of_getElem? (i := 149) (by rfl))) (by decide +kernel))
theorem ml_X12_221 : Cond.methodLink RX12 221 yX12_isWay ∈ ALLg := (al_in (tb7 (List.mem_of_getElem? (i := 70) (by rfl))) (by decide +kernel))
theorem mx_X12_isWay : Mx yX12_isWay cX12_isWay 1 (some .boolean) 1 := ⟨(al_in (tb7 (List.mem_of_getElem? (i := 72) (by rfl))) (by decide +kernel)), (al_in (tb1 (List.mem_of_getElem? (i := 13) (by rfl))) (by decide +kernel)), ⟨by decide +kernel, by decide +kernel, by decide +kernel⟩, by decide⟩
theorem mt_X12_isWay : Cond.static yX12_isWay ∈ ALLg := (al_in (tb7 (List.mem_of_getElem? (i := 71) (by rfl))) (by decide +kernel))
theorem ml_X12_351 : Cond.methodLink RX12 351 yX12_isThere ∈ ALLg := (al_in (tb7 (List.mem_of_getElem? (i := 185) (by rfl))) (by decide +kernel))
theorem mx_X12_isThere : Mx yX12_isThere cX12_isThere 2 (some .boolean) 1 := ⟨(al_in (tb7 (List.mem_of_getElem? (i := 188) (by rfl))) (by decide +kernel)), (al_in (tb1 (List.mem_of_getElem? (i := 13) (by rfl))) (by decide +kernel)), ⟨by decide +kernel, by decide +kernel, by decide +kernel⟩, by decide⟩
theorem mi_X12_isThere : Cond.instanceMethod yX12_isThere ∈ ALLg := (al_in (tb7 (List.mem_of_getElem? (i := 187) (by rfl))) (by decide +kernel))
theorem ms_X12_isThere : Cond.selects (yX12_isThere).cls yX12_isThere yX12_isThere ∈ ALLg := (al_in (tb0 (List.mem_of_getElem? (i := 73) (by rfl))) (by decide +kernel))
theorem ml_X12_354 : Cond.methodLink RX12 354 yX12_isTold ∈ ALLg := (al_in (tb7 (List.mem_of_getElem? (i := 189) (by rfl))) (by decide +kernel))
theorem mx_X12_isTold : Mx yX12_isTold cX12_isTold 2 (some .boolean) 1 := ⟨(al_in (tb7 (List.mem_of_getElem? (i := 192) (by rfl))) (by decide +kernel)), (al_in (tb1 (List.mem_of_getElem? (i := 13) (by rfl))) (by decide +kernel)), ⟨by decide +kernel, by decide +kernel, by decide +kernel⟩, by decide⟩
theorem mi_X12_isTold : Cond.instanceMethod yX12_isTold ∈ ALLg := (al_in (tb7 (List.mem_of_getElem? (i := 191) (by rfl))) (by decide +kernel))
theorem ms_X12_isTold : Cond.selects (yX12_isTold).cls yX12_isTold yX12_isTold ∈ ALLg := (al_in (tb0 (List.mem_of_getElem? (i := 74) (by rfl))) (by decide +kernel))
theorem ml_X12_376 : Cond.methodLink RX12 376 yX12_asksCloth ∈ ALLg := (al_in (tb8 (List.mem_of_getElem? (i := 9) (by rfl))) (by decide +kernel))
theorem mx_X12_asksCloth : Mx yX12_asksCloth cX12_asksCloth 2 (some .int) 1 := ⟨(al_in (tb8 (List.mem_of_getElem? (i := 12) (by rfl))) (by decide +kernel)), (al_in (tb1 (List.mem_of_getElem? (i := 13) (by rfl))) (by decide +kernel)), ⟨by decide +kernel, by decide +kernel, by decide +kernel⟩, by decide⟩
theorem mi_X12_asksCloth : Cond.instanceMethod yX12_asksCloth ∈ ALLg := (al_in (tb8 (List.mem_of_getElem? (i := 11) (by rfl))) (by decide +kernel))
theorem ms_X12_asksCloth : Cond.selects (yX12_asksCloth).cls yX12_asksCloth yX12_asksCloth ∈ ALLg := (al_in (tb0 (List.mem_of_getElem? (i := 84) (by rfl))) (by decide +kernel))
theorem ml_X12_419 : Cond.methodLink RX12 419 yX12_asksTwo ∈ ALLg := (al_in (tb8 (List.mem_of_getElem? (i := 102) (by rfl))) (by decide +kernel))
theorem mx_X12_asksTwo : Mx yX12_asksTwo cX12_asksTwo 3 (some .int) 2 := ⟨(al_in (tb8 (List.mem_of_getElem? (i := 105) (by rfl))) (by decide +kernel)), (al_in (tb1 (List.mem_of_getElem? (i := 13) (by rfl))) (by decide +kernel)), ⟨by decide +kernel, by decide +kernel, by decide +kernel⟩, by decide⟩
theorem mi_X12_asksTwo : Cond.instanceMethod yX12_asksTwo ∈ ALLg := (al_in (tb8 (List.mem_of_getElem? (i := 104) (by rfl))) (by decide +kernel))
theorem ms_X12_asksTwo : Cond.selects (yX12_asksTwo).cls yX12_asksTwo yX12_asksTwo ∈ ALLg := (al_in (tb0 (List.mem_of_getElem? (i := 94) (by rfl))) (by decide +kernel))
theorem ml_X12_357 : Cond.methodLink RX12 357 yX12_asks ∈ ALLg := (al_in (tb7 (List.mem_of_getElem? (i := 181) (by rfl))) (by decide +kernel))
theorem mx_X12_asks : Mx yX12_asks cX12_asks 3 (some .int) 2 := ⟨(al_in (tb7 (List.mem_of_getElem? (i := 184) (by rfl))) (by decide +kernel)), (al_in (tb1 (List.mem_of_getElem? (i := 13) (by rfl))) (by decide +kernel)), ⟨by decide +kernel, by decide +kernel, by decide +kernel⟩, by decide⟩
theorem mi_X12_asks : Cond.instanceMethod yX12_asks ∈ ALLg := (al_in (tb7 (List.mem_of_getElem? (i := 183) (by rfl))) (by decide +kernel))
theorem ms_X12_asks : Cond.selects (yX12_asks).cls yX12_asks yX12_asks ∈ ALLg := (al_in (tb0 (List.mem_of_getElem? (i := 72) (by rfl))) (by decide +kernel))
theorem ml_X12_383 : Cond.methodLink RX12 383 yX12_asksWay ∈ ALLg := (al_in (tb8 (List.mem_of_getElem? (i := 29) (by rfl))) (by decide +kernel))
theorem mx_X12_asksWay : Mx yX12_asksWay cX12_asksWay 2 (some .int) 1 := ⟨(al_in (tb8 (List.mem_of_getElem? (i := 32) (by rfl))) (by decide +kernel)), (al_in (tb1 (List.mem_of_getElem? (i := 13) (by rfl))) (by decide +kernel)), ⟨by decide +kernel, by decide +kernel, by decide +kernel⟩, by decide⟩
theorem mi_X12_asksWay : Cond.instanceMethod yX12_asksWay ∈ ALLg := (al_in (tb8 (List.mem_of_getElem? (i := 31) (by rfl))) (by decide +kernel))
theorem ms_X12_asksWay : Cond.selects (yX12_asksWay).cls yX12_asksWay yX12_asksWay ∈ ALLg := (al_in (tb0 (List.mem_of_getElem? (i := 86) (by rfl))) (by decide +kernel))
theorem ml_X12_322 : Cond.methodLink RX12 322 yX12_isSeed ∈ ALLg := (al_in (tb7 (List.mem_of_getElem? (i := 152) (by rfl))) (by decide +kernel))
theorem mx_X12_isSeed : Mx yX12_isSeed cX12_isSeed 1 (some .boolean) 1 := ⟨(al_in (tb7 (List.mem_of_getElem? (i := 154) (by rfl))) (by decide +kernel)), (al_in (tb1 (List.mem_of_getElem? (i := 13) (by rfl))) (by decide +kernel)), ⟨by decide +kernel, by decide +kernel, by decide +kernel⟩, by decide⟩
theorem mt_X12_isSeed : Cond.static yX12_isSeed ∈ ALLg := (al_in (tb7 (List.mem_of_getElem? (i := 153) (by rfl))) (by decide +kernel))
theorem ml_X12_325 : Cond.methodLink RX12 325 yX12_hasPattern ∈ ALLg := (al_in (tb7 (List.mem_of_getElem? (i := 156) (by rfl))) (by decide +kernel))
theorem ml_X12_83 : Cond.methodLink RX12 83 yX12_rows ∈ ALLg := (al_in (tb7 (List.mem_of_getElem? (i := 38) (by rfl))) (by decide +kernel))
theorem mx_X12_rows : Mx yX12_rows cX12_rows 1 (some .int) 0 := ⟨(al_in (tb7 (List.mem_of_getElem? (i := 41) (by rfl))) (by decide +kernel)), (al_in (tb1 (List.mem_of_getElem? (i := 13) (by rfl))) (by decide +kernel)), ⟨by decide +kernel, by decide +kernel, by decide +kernel⟩, by decide⟩
theorem mi_X12_rows : Cond.instanceMethod yX12_rows ∈ ALLg := (al_in (tb7 (List.mem_of_getElem? (i := 40) (by rfl))) (by decide +kernel))
theorem ms_X12_rows : Cond.selects (yX12_rows).cls yX12_rows yX12_rows ∈ ALLg := (al_in (tb0 (List.mem_of_getElem? (i := 55) (by rfl))) (by decide +kernel))
theorem mx_X12_hasPattern : Mx yX12_hasPattern cX12_hasPattern 1 (some .boolean) 0 := ⟨(al_in (tb7 (List.mem_of_getElem? (i := 159) (by rfl))) (by decide +kernel)), (al_in (tb1 (List.mem_of_getElem? (i := 13) (by rfl))) (by decide +kernel)), ⟨by decide +kernel, by decide +kernel, by decide +kernel⟩, by decide⟩
theorem mi_X12_hasPattern : Cond.instanceMethod yX12_hasPattern ∈ ALLg := (al_in (tb7 (List.mem_of_getElem? (i := 158) (by rfl))) (by decide +kernel))
theorem ms_X12_hasPattern : Cond.selects (yX12_hasPattern).cls yX12_hasPattern yX12_hasPattern ∈ ALLg := (al_in (tb0 (List.mem_of_getElem? (i := 68) (by rfl))) (by decide +kernel))
theorem kl_X12_389 : Cond.constantLong RX12 389 7 ∈ ALLg := (al_in (tb8 (List.mem_of_getElem? (i := 46) (by rfl))) (by decide +kernel))
theorem kl_X12_408 : Cond.constantLong RX12 408 50 ∈ ALLg := (al_in (tb8 (List.mem_of_getElem? (i := 73) (by rfl))) (by decide +kernel))
theorem fl_X12_49 : Fl RX12 49 12 20 false .int := ⟨RX12, TX12, 29, tyX12, ⟨rfl, by decide, inX12, tyX12_ok, nmX12, rfl, by decide +kernel⟩, rfl, (al_in (tb6 (List.mem_of_getElem? (i := 104) (by rfl))) (by decide +kernel))⟩
theorem ml_X12_379 : Cond.methodLink RX12 379 yX12_isPlace ∈ ALLg := (al_in (tb8 (List.mem_of_getElem? (i := 17) (by rfl))) (by decide +kernel))
theorem mx_X12_isPlace : Mx yX12_isPlace cX12_isPlace 3 (some .boolean) 2 := ⟨(al_in (tb8 (List.mem_of_getElem? (i := 20) (by rfl))) (by decide +kernel)), (al_in (tb1 (List.mem_of_getElem? (i := 13) (by rfl))) (by decide +kernel)), ⟨by decide +kernel, by decide +kernel, by decide +kernel⟩, by decide⟩
theorem mi_X12_isPlace : Cond.instanceMethod yX12_isPlace ∈ ALLg := (al_in (tb8 (List.mem_of_getElem? (i := 19) (by rfl))) (by decide +kernel))
theorem ms_X12_isPlace : Cond.selects (yX12_isPlace).cls yX12_isPlace yX12_isPlace ∈ ALLg := (al_in (tb0 (List.mem_of_getElem? (i := 85) (by rfl))) (by decide +kernel))
