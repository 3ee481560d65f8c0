theorem kc_X11_385 : Cond.constant RX11 385 2000000000 ∈ ALLg := (al_in (tb4 (List.mem_of_getElem? (i := 106) (by rfl))) (by decide +kernel))
theorem ml_X11_181 : Cond.methodLink RX11 181 yX11_isCloth ∈ ALLg := (al_in (tb4 (List.mem_of_getElem? (i := 100) (by rfl))) (by decide +kernel))
theorem mx_X11_isCloth : Mx yX11_isCloth cX11_isCloth 1 (some .boolean) 1 := ⟨(al_in (tb4 (List.mem_of_getElem? (i := 102) (by rfl))) (by decide +kernel)), (al_in (tb1 (List.mem_of_getElem? (i := 1) (by rfl))) (by decide +kernel)), ⟨by decide +kernel, by decide +kernel, by decide +kernel⟩, by decide⟩
theorem mt_X11_isCloth : Cond.static yX11_isCloth ∈ ALLg := (al_in (tb4 (List.mem_of_getElem? (i := 101) (by rfl))) (by decide +kernel))
theorem fl_X11_19 : Fl RX11 19 11 1 true (.object "StitchSays$Basket") := ⟨RX11, TX11, 14, tyX11, ⟨rfl, by decide, inX11, tyX11_ok, nmX11, rfl, by decide +kernel⟩, rfl, (al_in (tb2 (List.mem_of_getElem? (i := 84) (by rfl))) (by decide +kernel))⟩
theorem fn_X11_190 : Fn RX11 190 0 5 true (.array (.object "StitchSays$Cloth")) := ⟨RX0, TX0, 6, tyX0, ⟨rfl, by decide, inX0, tyX0_ok, nmX0, rfl, by decide +kernel⟩, "StitchSays", List.mem_of_getElem? (i := 34) (by rfl)⟩
theorem fn_X11_386 : Fn RX11 386 1 1 false .boolean := ⟨RX1, TX1, 2, tyX1, ⟨rfl, by decide, inX1, tyX1_ok, nmX1, rfl, by decide +kernel⟩, "StitchSays", List.mem_of_getElem? (i := 28) (by rfl)⟩
theorem ml_X11_239 : Cond.methodLink RX11 239 yX11_hasCloth ∈ ALLg := (al_in (tb4 (List.mem_of_getElem? (i := 138) (by rfl))) (by decide +kernel))
theorem mx_X11_hasCloth : Mx yX11_hasCloth cX11_hasCloth 2 (some .boolean) 1 := ⟨(al_in (tb4 (List.mem_of_getElem? (i := 141) (by rfl))) (by decide +kernel)), (al_in (tb1 (List.mem_of_getElem? (i := 1) (by rfl))) (by decide +kernel)), ⟨by decide +kernel, by decide +kernel, by decide +kernel⟩, by decide⟩
theorem mi_X11_hasCloth : Cond.instanceMethod yX11_hasCloth ∈ ALLg := (al_in (tb4 (List.mem_of_getElem? (i := 140) (by rfl))) (by decide +kernel))
theorem ms_X11_hasCloth : Cond.selects (yX11_hasCloth).cls yX11_hasCloth yX11_hasCloth ∈ ALLg := (al_in (tb0 (List.mem_of_getElem? (i := 16) (by rfl))) (by decide +kernel))
theorem ml_X11_142 : Cond.methodLink RX11 142 yX11_isWay ∈ ALLg := (al_in (tb3 (List.mem_of_getElem? (i := 169) (by rfl))) (by decide +kernel))
theorem mx_X11_isWay : Mx yX11_isWay cX11_isWay 1 (some .boolean) 1 := ⟨(al_in (tb3 (List.mem_of_getElem? (i := 171) (by rfl))) (by decide +kernel)), (al_in (tb1 (List.mem_of_getElem? (i := 1) (by rfl))) (by decide +kernel)), ⟨by decide +kernel, by decide +kernel, by decide +kernel⟩, by decide⟩
theorem mt_X11_isWay : Cond.static yX11_isWay ∈ ALLg := (al_in (tb3 (List.mem_of_getElem? (i := 170) (by rfl))) (by decide +kernel))
theorem fn_X11_146 : Fn RX11 146 0 2 true (.array (.object "StitchSays$Way")) := ⟨RX0, TX0, 6, tyX0, ⟨rfl, by decide, inX0, tyX0_ok, nmX0, rfl, by decide +kernel⟩, "StitchSays", List.mem_of_getElem? (i := 31) (by rfl)⟩
theorem fn_X11_232 : Fn RX11 232 10 0 false .boolean := ⟨RX10, TX10, 7, tyX10, ⟨rfl, by decide, inX10, tyX10_ok, nmX10, rfl, by decide +kernel⟩, "StitchSays", List.mem_of_getElem? (i := 20) (by rfl)⟩
theorem ml_X11_229 : Cond.methodLink RX11 229 yX11_refusalOfCloth ∈ ALLg := (al_in (tb5 (List.mem_of_getElem? (i := 3) (by rfl))) (by decide +kernel))
theorem mx_X11_refusalOfCloth : Mx yX11_refusalOfCloth cX11_refusalOfCloth 2 (some .int) 1 := ⟨(al_in (tb5 (List.mem_of_getElem? (i := 6) (by rfl))) (by decide +kernel)), (al_in (tb1 (List.mem_of_getElem? (i := 1) (by rfl))) (by decide +kernel)), ⟨by decide +kernel, by decide +kernel, by decide +kernel⟩, by decide⟩
theorem mi_X11_refusalOfCloth : Cond.instanceMethod yX11_refusalOfCloth ∈ ALLg := (al_in (tb5 (List.mem_of_getElem? (i := 5) (by rfl))) (by decide +kernel))
theorem ms_X11_refusalOfCloth : Cond.selects (yX11_refusalOfCloth).cls yX11_refusalOfCloth yX11_refusalOfCloth ∈ ALLg := (al_in (tb0 (List.mem_of_getElem? (i := 21) (by rfl))) (by decide +kernel))
theorem ml_X11_298 : Cond.methodLink RX11 298 yX11_refusalOfCloths ∈ ALLg := (al_in (tb5 (List.mem_of_getElem? (i := 177) (by rfl))) (by decide +kernel))
theorem mx_X11_refusalOfCloths : Mx yX11_refusalOfCloths cX11_refusalOfCloths 3 (some .int) 2 := ⟨(al_in (tb5 (List.mem_of_getElem? (i := 180) (by rfl))) (by decide +kernel)), (al_in (tb1 (List.mem_of_getElem? (i := 1) (by rfl))) (by decide +kernel)), ⟨by decide +kernel, by decide +kernel, by decide +kernel⟩, by decide⟩
theorem mi_X11_refusalOfCloths : Cond.instanceMethod yX11_refusalOfCloths ∈ ALLg := (al_in (tb5 (List.mem_of_getElem? (i := 179) (by rfl))) (by decide +kernel))
theorem ms_X11_refusalOfCloths : Cond.selects (yX11_refusalOfCloths).cls yX11_refusalOfCloths yX11_refusalOfCloths ∈ ALLg := (al_in (tb0 (List.mem_of_getElem? (i := 34) (by rfl))) (by decide +kernel))
theorem ml_X11_198 : Cond.methodLink RX11 198 yX11_refusalOfReading ∈ ALLg := (al_in (tb4 (List.mem_of_getElem? (i := 134) (by rfl))) (by decide +kernel))
theorem mx_X11_refusalOfReading : Mx yX11_refusalOfReading cX11_refusalOfReading 3 (some .int) 2 := ⟨(al_in (tb4 (List.mem_of_getElem? (i := 137) (by rfl))) (by decide +kernel)), (al_in (tb1 (List.mem_of_getElem? (i := 1) (by rfl))) (by decide +kernel)), ⟨by decide +kernel, by decide +kernel, by decide +kernel⟩, by decide⟩
theorem mi_X11_refusalOfReading : Cond.instanceMethod yX11_refusalOfReading ∈ ALLg := (al_in (tb4 (List.mem_of_getElem? (i := 136) (by rfl))) (by decide +kernel))
theorem ms_X11_refusalOfReading : Cond.selects (yX11_refusalOfReading).cls yX11_refusalOfReading yX11_refusalOfReading ∈ ALLg := (al_in (tb0 (List.mem_of_getElem? (i := 15) (by rfl))) (by decide +kernel))
theorem ml_X11_248 : Cond.methodLink RX11 248 yX11_refusalOfWay ∈ ALLg := (al_in (tb5 (List.mem_of_getElem? (i := 22) (by rfl))) (by decide +kernel))
theorem mx_X11_refusalOfWay : Mx yX11_refusalOfWay cX11_refusalOfWay 2 (some .int) 1 := ⟨(al_in (tb5 (List.mem_of_getElem? (i := 25) (by rfl))) (by decide +kernel)), (al_in (tb1 (List.mem_of_getElem? (i := 1) (by rfl))) (by decide +kernel)), ⟨by decide +kernel, by decide +kernel, by decide +kernel⟩, by decide⟩
theorem mi_X11_refusalOfWay : Cond.instanceMethod yX11_refusalOfWay ∈ ALLg := (al_in (tb5 (List.mem_of_getElem? (i := 24) (by rfl))) (by decide +kernel))
theorem ms_X11_refusalOfWay : Cond.selects (yX11_refusalOfWay).cls yX11_refusalOfWay yX11_refusalOfWay ∈ ALLg := (al_in (tb0 (List.mem_of_getElem? (i := 22) (by rfl))) (by decide +kernel))
theorem ml_X11_184 : Cond.methodLink RX11 184 yX11_isSeed ∈ ALLg := (al_in (tb4 (List.mem_of_getElem? (i := 103) (by rfl))) (by decide +kernel))
theorem mx_X11_isSeed : Mx yX11_isSeed cX11_isSeed 1 (some .boolean) 1 := ⟨(al_in (tb4 (List.mem_of_getElem? (i := 105) (by rfl))) (by decide +kernel)), (al_in (tb1 (List.mem_of_getElem? (i := 1) (by rfl))) (by decide +kernel)), ⟨by decide +kernel, by decide +kernel, by decide +kernel⟩, by decide⟩
theorem mt_X11_isSeed : Cond.static yX11_isSeed ∈ ALLg := (al_in (tb4 (List.mem_of_getElem? (i := 104) (by rfl))) (by decide +kernel))
theorem fn_X11_116 : Fn RX11 116 0 0 true (.object "StitchSays$Pattern") := ⟨RX0, TX0, 6, tyX0, ⟨rfl, by decide, inX0, tyX0_ok, nmX0, rfl, by decide +kernel⟩, "StitchSays", List.mem_of_getElem? (i := 29) (by rfl)⟩
theorem ml_X11_187 : Cond.methodLink RX11 187 yX4_isThere ∈ ALLg := (al_in (tb4 (List.mem_of_getElem? (i := 107) (by rfl))) (by decide +kernel))
theorem fl_X4_18 : Fl RX4 18 4 3 false .int := ⟨RX4, TX4, 5, tyX4, ⟨rfl, by decide, inX4, tyX4_ok, nmX4, rfl, by decide +kernel⟩, rfl, (al_in (tb1 (List.mem_of_getElem? (i := 81) (by rfl))) (by decide +kernel))⟩
theorem mx_X4_isThere : Mx yX4_isThere cX4_isThere 1 (some .boolean) 0 := ⟨(al_in (tb4 (List.mem_of_getElem? (i := 110) (by rfl))) (by decide +kernel)), (al_in (tb1 (List.mem_of_getElem? (i := 4) (by rfl))) (by decide +kernel)), ⟨by decide +kernel, by decide +kernel, by decide +kernel⟩, by decide⟩
theorem mi_X4_isThere : Cond.instanceMethod yX4_isThere ∈ ALLg := (al_in (tb4 (List.mem_of_getElem? (i := 108) (by rfl))) (by decide +kernel))
theorem ms_X4_isThere : Cond.selects (yX4_isThere).cls yX4_isThere yX4_isThere ∈ ALLg := (al_in (tb4 (List.mem_of_getElem? (i := 109) (by rfl))) (by decide +kernel))
theorem ml_X11_276 : Cond.methodLink RX11 276 yX11_isManyKnitted ∈ ALLg := (al_in (tb5 (List.mem_of_getElem? (i := 131) (by rfl))) (by decide +kernel))
theorem mx_X11_isManyKnitted : Mx yX11_isManyKnitted cX11_isManyKnitted 1 (some .boolean) 1 := ⟨(al_in (tb5 (List.mem_of_getElem? (i := 133) (by rfl))) (by decide +kernel)), (al_in (tb1 (List.mem_of_getElem? (i := 1) (by rfl))) (by decide +kernel)), ⟨by decide +kernel, by decide +kernel, by decide +kernel⟩, by decide⟩
theorem mt_X11_isManyKnitted : Cond.static yX11_isManyKnitted ∈ ALLg := (al_in (tb5 (List.mem_of_getElem? (i := 132) (by rfl))) (by decide +kernel))
theorem fl_X11_23 : Fl RX11 23 11 2 true (.array (.object "StitchSays$Basket")) := ⟨RX11, TX11, 14, tyX11, ⟨rfl, by decide, inX11, tyX11_ok, nmX11, rfl, by decide +kernel⟩, rfl, (al_in (tb2 (List.mem_of_getElem? (i := 85) (by rfl))) (by decide +kernel))⟩
theorem ml_X11_353 : Cond.methodLink RX11 353 yX11_isSlot ∈ ALLg := (al_in (tb6 (List.mem_of_getElem? (i := 39) (by rfl))) (by decide +kernel))
theorem mx_X11_isSlot : Mx yX11_isSlot cX11_isSlot 1 (some .boolean) 1 := ⟨(al_in (tb6 (List.mem_of_getElem? (i := 41) (by rfl))) (by decide +kernel)), (al_in (tb1 (List.mem_of_getElem? (i := 1) (by rfl))) (by decide +kernel)), ⟨by decide +kernel, by decide +kernel, by decide +kernel⟩, by decide⟩
theorem mt_X11_isSlot : Cond.static yX11_isSlot ∈ ALLg := (al_in (tb6 (List.mem_of_getElem? (i := 40) (by rfl))) (by decide +kernel))
theorem fl_X11_36 : Fl RX11 36 11 4 true (.array (.object "StitchSays$Slot")) := ⟨RX11, TX11, 14, tyX11, ⟨rfl, by decide, inX11, tyX11_ok, nmX11, rfl, by decide +kernel⟩, rfl, (al_in (tb2 (List.mem_of_getElem? (i := 87) (by rfl))) (by decide +kernel))⟩
theorem ml_X11_359 : Cond.methodLink RX11 359 yX5_isThere ∈ ALLg := (al_in (tb6 (List.mem_of_getElem? (i := 13) (by rfl))) (by decide +kernel))
theorem fl_X5_15 : Fl RX5 15 5 1 false .int := ⟨RX5, TX5, 3, tyX5, ⟨rfl, by decide, inX5, tyX5_ok, nmX5, rfl, by decide +kernel⟩, rfl, (al_in (tb2 (List.mem_of_getElem? (i := 71) (by rfl))) (by decide +kernel))⟩
theorem mx_X5_isThere : Mx yX5_isThere cX5_isThere 1 (some .boolean) 0 := ⟨(al_in (tb6 (List.mem_of_getElem? (i := 16) (by rfl))) (by decide +kernel)), (al_in (tb1 (List.mem_of_getElem? (i := 12) (by rfl))) (by decide +kernel)), ⟨by decide +kernel, by decide +kernel, by decide +kernel⟩, by decide⟩
theorem mi_X5_isThere : Cond.instanceMethod yX5_isThere ∈ ALLg := (al_in (tb6 (List.mem_of_getElem? (i := 14) (by rfl))) (by decide +kernel))
theorem ms_X5_isThere : Cond.selects (yX5_isThere).cls yX5_isThere yX5_isThere ∈ ALLg := (al_in (tb6 (List.mem_of_getElem? (i := 15) (by rfl))) (by decide +kernel))
theorem fl_X11_30 : Fl RX11 30 11 3 true (.object "StitchSays$Letters") := ⟨RX11, TX11, 14, tyX11, ⟨rfl, by decide, inX11, tyX11_ok, nmX11, rfl, by decide +kernel⟩, rfl, (al_in (tb2 (List.mem_of_getElem? (i := 86) (by rfl))) (by decide +kernel))⟩
theorem ml_X11_214 : Cond.methodLink RX11 214 yX2_byteOf ∈ ALLg := (al_in (tb4 (List.mem_of_getElem? (i := 226) (by rfl))) (by decide +kernel))
theorem ml_X2_36 : Cond.methodLink RX2 36 yX2_fiveAt ∈ ALLg := (al_in (tb4 (List.mem_of_getElem? (i := 167) (by rfl))) (by decide +kernel))
theorem fl_X2_21 : Fl RX2 21 2 1 false .int := ⟨RX2, TX2, 2, tyX2, ⟨rfl, by decide, inX2, tyX2_ok, nmX2, rfl, by decide +kernel⟩, rfl, (al_in (tb1 (List.mem_of_getElem? (i := 222) (by rfl))) (by decide +kernel))⟩
theorem mx_X2_fiveAt : Mx yX2_fiveAt cX2_fiveAt 2 (some .int) 1 := ⟨(al_in (tb4 (List.mem_of_getElem? (i := 170) (by rfl))) (by decide +kernel)), (al_in (tb1 (List.mem_of_getElem? (i := 9) (by rfl))) (by decide +kernel)), ⟨by decide +kernel, by decide +kernel, by decide +kernel⟩, by decide⟩
theorem mi_X2_fiveAt : Cond.instanceMethod yX2_fiveAt ∈ ALLg := (al_in (tb4 (List.mem_of_getElem? (i := 168) (by rfl))) (by decide +kernel))
theorem ms_X2_fiveAt : Cond.selects (yX2_fiveAt).cls yX2_fiveAt yX2_fiveAt ∈ ALLg := (al_in (tb4 (List.mem_of_getElem? (i := 169) (by rfl))) (by decide +kernel))
theorem mx_X2_byteOf : Mx yX2_byteOf cX2_byteOf 3 (some .int) 1 := ⟨(al_in (tb4 (List.mem_of_getElem? (i := 229) (by rfl))) (by decide +kernel)), (al_in (tb1 (List.mem_of_getElem? (i := 9) (by rfl))) (by decide +kernel)), ⟨by decide +kernel, by decide +kernel, by decide +kernel⟩, by decide⟩
theorem mi_X2_byteOf : Cond.instanceMethod yX2_byteOf ∈ ALLg := (al_in (tb4 (List.mem_of_getElem? (i := 227) (by rfl))) (by decide +kernel))
theorem ms_X2_byteOf : Cond.selects (yX2_byteOf).cls yX2_byteOf yX2_byteOf ∈ ALLg := (al_in (tb4 (List.mem_of_getElem? (i := 228) (by rfl))) (by decide +kernel))
theorem ml_X11_236 : Cond.methodLink RX11 236 yX4_placeOf ∈ ALLg := (al_in (tb5 (List.mem_of_getElem? (i := 11) (by rfl))) (by decide +kernel))
theorem mx_X4_placeOf : Mx yX4_placeOf cX4_placeOf 3 (some .int) 2 := ⟨(al_in (tb3 (List.mem_of_getElem? (i := 97) (by rfl))) (by decide +kernel)), (al_in (tb1 (List.mem_of_getElem? (i := 4) (by rfl))) (by decide +kernel)), ⟨by decide +kernel, by decide +kernel, by decide +kernel⟩, by decide⟩
theorem mi_X4_placeOf : Cond.instanceMethod yX4_placeOf ∈ ALLg := (al_in (tb3 (List.mem_of_getElem? (i := 95) (by rfl))) (by decide +kernel))
theorem ms_X4_placeOf : Cond.selects (yX4_placeOf).cls yX4_placeOf yX4_placeOf ∈ ALLg := (al_in (tb3 (List.mem_of_getElem? (i := 96) (by rfl))) (by decide +kernel))
theorem ml_X11_245 : Cond.methodLink RX11 245 yX4_sortAt ∈ ALLg := (al_in (tb5 (List.mem_of_getElem? (i := 17) (by rfl))) (by decide +kernel))
theorem mx_X4_sortAt : Mx yX4_sortAt cX4_sortAt 2 (some .int) 1 := ⟨(al_in (tb3 (List.mem_of_getElem? (i := 119) (by rfl))) (by decide +kernel)), (al_in (tb1 (List.mem_of_getElem? (i := 4) (by rfl))) (by decide +kernel)), ⟨by decide +kernel, by decide +kernel, by decide +kernel⟩, by decide⟩
theorem mi_X4_sortAt : Cond.instanceMethod yX4_sortAt ∈ ALLg := (al_in (tb3 (List.mem_of_getElem? (i := 117) (by rfl))) (by decide +kernel))
theorem ms_X4_sortAt : Cond.selects (yX4_sortAt).cls yX4_sortAt yX4_sortAt ∈ ALLg := (al_in (tb3 (List.mem_of_getElem? (i := 118) (by rfl))) (by decide +kernel))
theorem fl_X11_12 : Fl RX11 12 11 0 true (.object "StitchSays$Tape") := ⟨RX11, TX11, 14, tyX11, ⟨rfl, by decide, inX11, tyX11_ok, nmX11, rfl, by decide +kernel⟩, rfl, (al_in (tb2 (List.mem_of_getElem? (i := 83) (by rfl))) (by decide +kernel))⟩
theorem fn_X11_175 : Fn RX11 175 7 5 false .int := ⟨RX7, TX7, 7, tyX7, ⟨rfl, by decide, inX7, tyX7_ok, nmX7, rfl, by decide +kernel⟩, "StitchSays", List.mem_of_getElem? (i := 3) (by rfl)⟩
theorem fn_X11_178 : Fn RX11 178 7 6 false .int := ⟨RX7, TX7, 7, tyX7, ⟨rfl, by decide, inX7, tyX7_ok, nmX7, rfl, by decide +kernel⟩, "StitchSays", List.mem_of_getElem? (i := 4) (by rfl)⟩
theorem fn_X11_105 : Fn RX11 105 7 1 false .int := ⟨RX7, TX7, 7, tyX7, ⟨rfl, by decide, inX7, tyX7_ok, nmX7, rfl, by decide +kernel⟩, "StitchSays", List.mem_of_getElem? (i := 1) (by rfl)⟩
theorem ml_X11_97 : Cond.methodLink RX11 97 yX7_hasRoomFor ∈ ALLg := (al_in (tb2 (List.mem_of_getElem? (i := 130) (by rfl))) (by decide +kernel))
theorem fl_X7_19 : Fl RX7 19 7 1 false .int := ⟨RX7, TX7, 7, tyX7, ⟨rfl, by decide, inX7, tyX7_ok, nmX7, rfl, by decide +kernel⟩, rfl, (al_in (tb1 (List.mem_of_getElem? (i := 37) (by rfl))) (by decide +kernel))⟩
theorem mx_X7_hasRoomFor : Mx yX7_hasRoomFor cX7_hasRoomFor 2 (some .boolean) 1 := ⟨(al_in (tb2 (List.mem_of_getElem? (i := 133) (by rfl))) (by decide +kernel)), (al_in (tb1 (List.mem_of_getElem? (i := 2) (by rfl))) (by decide +kernel)), ⟨by decide +kernel, by decide +kernel, by decide +kernel⟩, by decide⟩
theorem mi_X7_hasRoomFor : Cond.instanceMethod yX7_hasRoomFor ∈ ALLg := (al_in (tb2 (List.mem_of_getElem? (i := 131) (by rfl))) (by decide +kernel))
theorem ms_X7_hasRoomFor : Cond.selects (yX7_hasRoomFor).cls yX7_hasRoomFor yX7_hasRoomFor ∈ ALLg := (al_in (tb2 (List.mem_of_getElem? (i := 132) (by rfl))) (by decide +kernel))
theorem ml_X11_101 : Cond.methodLink RX11 101 yX7_addBytesOf ∈ ALLg := (al_in (tb2 (List.mem_of_getElem? (i := 134) (by rfl))) (by decide +kernel))
theorem fl_X7_9 : Fl RX7 9 7 0 true (.array .int) := ⟨RX7, TX7, 7, tyX7, ⟨rfl, by decide, inX7, tyX7_ok, nmX7, rfl, by decide +kernel⟩, rfl, (al_in (tb1 (List.mem_of_getElem? (i := 36) (by rfl))) (by decide +kernel))⟩
theorem mx_X7_addBytesOf : Mx yX7_addBytesOf cX7_addBytesOf 3 none 1 := ⟨(al_in (tb2 (List.mem_of_getElem? (i := 137) (by rfl))) (by decide +kernel)), (al_in (tb1 (List.mem_of_getElem? (i := 2) (by rfl))) (by decide +kernel)), ⟨by decide +kernel, by decide +kernel, by decide +kernel⟩, by decide⟩
theorem mi_X7_addBytesOf : Cond.instanceMethod yX7_addBytesOf ∈ ALLg := (al_in (tb2 (List.mem_of_getElem? (i := 135) (by rfl))) (by decide +kernel))
theorem ms_X7_addBytesOf : Cond.selects (yX7_addBytesOf).cls yX7_addBytesOf yX7_addBytesOf ∈ ALLg := (al_in (tb2 (List.mem_of_getElem? (i := 136) (by rfl))) (by decide +kernel))
theorem fl_X11_43 : Fl RX11 43 11 5 true (.object "StitchSays$Pattern") := ⟨RX11, TX11, 14, tyX11, ⟨rfl, by decide, inX11, tyX11_ok, nmX11, rfl, by decide +kernel⟩, rfl, (al_in (tb2 (List.mem_of_getElem? (i := 88) (by rfl))) (by decide +kernel))⟩
theorem ml_X11_109 : Cond.methodLink RX11 109 yX4_tell ∈ ALLg := (al_in (tb2 (List.mem_of_getElem? (i := 146) (by rfl))) (by decide +kernel))
theorem ml_X4_51 : Cond.methodLink RX4 51 yX7_start ∈ ALLg := (al_in (tb2 (List.mem_of_getElem? (i := 150) (by rfl))) (by decide +kernel))
theorem fl_X7_22 : Fl RX7 22 7 5 false .int := ⟨RX7, TX7, 7, tyX7, ⟨rfl, by decide, inX7, tyX7_ok, nmX7, rfl, by decide +kernel⟩, rfl, (al_in (tb1 (List.mem_of_getElem? (i := 43) (by rfl))) (by decide +kernel))⟩
theorem fl_X7_15 : Fl RX7 15 7 6 false .int := ⟨RX7, TX7, 7, tyX7, ⟨rfl, by decide, inX7, tyX7_ok, nmX7, rfl, by decide +kernel⟩, rfl, (al_in (tb1 (List.mem_of_getElem? (i := 45) (by rfl))) (by decide +kernel))⟩
theorem fl_X7_25 : Fl RX7 25 7 4 false .int := ⟨RX7, TX7, 7, tyX7, ⟨rfl, by decide, inX7, tyX7_ok, nmX7, rfl, by decide +kernel⟩, rfl, (al_in (tb1 (List.mem_of_getElem? (i := 42) (by rfl))) (by decide +kernel))⟩
theorem ml_X7_28 : Cond.methodLink RX7 28 yX7_advance ∈ ALLg := (al_in (tb2 (List.mem_of_getElem? (i := 154) (by rfl))) (by decide +kernel))
theorem ml_X7_31 : Cond.methodLink RX7 31 yX7_isFine ∈ ALLg := (al_in (tb2 (List.mem_of_getElem? (i := 158) (by rfl))) (by decide +kernel))
theorem mx_X7_isFine : Mx yX7_isFine cX7_isFine 1 (some .boolean) 0 := ⟨(al_in (tb2 (List.mem_of_getElem? (i := 161) (by rfl))) (by decide +kernel)), (al_in (tb1 (List.mem_of_getElem? (i := 2) (by rfl))) (by decide +kernel)), ⟨by decide +kernel, by decide +kernel, by decide +kernel⟩, by decide⟩
theorem mi_X7_isFine : Cond.instanceMethod yX7_isFine ∈ ALLg := (al_in (tb2 (List.mem_of_getElem? (i := 159) (by rfl))) (by decide +kernel))
theorem ms_X7_isFine : Cond.selects (yX7_isFine).cls yX7_isFine yX7_isFine ∈ ALLg := (al_in (tb2 (List.mem_of_getElem? (i := 160) (by rfl))) (by decide +kernel))
theorem fl_X7_38 : Fl RX7 38 7 3 false .int := ⟨RX7, TX7, 7, tyX7, ⟨rfl, by decide, inX7, tyX7_ok, nmX7, rfl, by decide +kernel⟩, rfl, (al_in (tb1 (List.mem_of_getElem? (i := 41) (by rfl))) (by decide +kernel))⟩
theorem ml_X7_41 : Cond.methodLink RX7 41 yX7_byteAt ∈ ALLg := (al_in (tb2 (List.mem_of_getElem? (i := 162) (by rfl))) (by decide +kernel))
theorem mx_X7_byteAt : Mx yX7_byteAt cX7_byteAt 2 (some .int) 1 := ⟨(al_in (tb2 (List.mem_of_getElem? (i := 165) (by rfl))) (by decide +kernel)), (al_in (tb1 (List.mem_of_getElem? (i := 2) (by rfl))) (by decide +kernel)), ⟨by decide +kernel, by decide +kernel, by decide +kernel⟩, by decide⟩
theorem mi_X7_byteAt : Cond.instanceMethod yX7_byteAt ∈ ALLg := (al_in (tb2 (List.mem_of_getElem? (i := 163) (by rfl))) (by decide +kernel))
theorem ms_X7_byteAt : Cond.selects (yX7_byteAt).cls yX7_byteAt yX7_byteAt ∈ ALLg := (al_in (tb2 (List.mem_of_getElem? (i := 164) (by rfl))) (by decide +kernel))
theorem ml_X7_49 : Cond.methodLink RX7 49 yX7_kindOf ∈ ALLg := (al_in (tb2 (List.mem_of_getElem? (i := 169) (by rfl))) (by decide +kernel))
theorem mx_X7_kindOf : Mx yX7_kindOf cX7_kindOf 1 (some .int) 1 := ⟨(al_in (tb2 (List.mem_of_getElem? (i := 171) (by rfl))) (by decide +kernel)), (al_in (tb1 (List.mem_of_getElem? (i := 2) (by rfl))) (by decide +kernel)), ⟨by decide +kernel, by decide +kernel, by decide +kernel⟩, by decide⟩
theorem mt_X7_kindOf : Cond.static yX7_kindOf ∈ ALLg := (al_in (tb2 (List.mem_of_getElem? (i := 170) (by rfl))) (by decide +kernel))
theorem fl_X7_35 : Fl RX7 35 7 2 false .int := ⟨RX7, TX7, 7, tyX7, ⟨rfl, by decide, inX7, tyX7_ok, nmX7, rfl, by decide +kernel⟩, rfl, (al_in (tb1 (List.mem_of_getElem? (i := 40) (by rfl))) (by decide +kernel))⟩
theorem ml_X7_52 : Cond.methodLink RX7 52 yJ9_min_7cf53 ∈ ALLg := (al_in (tb2 (List.mem_of_getElem? (i := 172) (by rfl))) (by decide +kernel))
theorem mm_X7_52 : Cond.methodLink RX7 52 Lib.Math.min.name ∈ ALLg := (al_in (tb2 (List.mem_of_getElem? (i := 172) (by rfl))) (by decide +kernel))
theorem mm_smin : Cond.static Lib.Math.min.name ∈ ALLg := (al_in (tb2 (List.mem_of_getElem? (i := 173) (by rfl))) (by decide +kernel))
theorem mm_i : Cond.initialized "java/lang/Math" ∈ ALLg := (al_in (tb1 (List.mem_of_getElem? (i := 14) (by rfl))) (by decide +kernel))
theorem mm_cmin : Cond.code Lib.Math.min.name Lib.Math.min.code 2 (some .int) ∈ ALLg := (al_in (tb2 (List.mem_of_getElem? (i := 174) (by rfl))) (by decide +kernel))
theorem mx_X7_advance : Mx yX7_advance cX7_advance 2 none 0 := ⟨(al_in (tb2 (List.mem_of_getElem? (i := 157) (by rfl))) (by decide +kernel)), (al_in (tb1 (List.mem_of_getElem? (i := 2) (by rfl))) (by decide +kernel)), ⟨by decide +kernel, by decide +kernel, by decide +kernel⟩, by decide⟩
theorem mi_X7_advance : Cond.instanceMethod yX7_advance ∈ ALLg := (al_in (tb2 (List.mem_of_getElem? (i := 155) (by rfl))) (by decide +kernel))
theorem ms_X7_advance : Cond.selects (yX7_advance).cls yX7_advance yX7_advance ∈ ALLg := (al_in (tb2 (List.mem_of_getElem? (i := 156) (by rfl))) (by decide +kernel))
theorem mx_X7_start : Mx yX7_start cX7_start 1 none 0 := ⟨(al_in (tb2 (List.mem_of_getElem? (i := 153) (by rfl))) (by decide +kernel)), (al_in (tb1 (List.mem_of_getElem? (i := 2) (by rfl))) (by decide +kernel)), ⟨by decide +kernel, by decide +kernel, by decide +kernel⟩, by decide⟩
theorem mi_X7_start : Cond.instanceMethod yX7_start ∈ ALLg := (al_in (tb2 (List.mem_of_getElem? (i := 151) (by rfl))) (by decide +kernel))
theorem ms_X7_start : Cond.selects (yX7_start).cls yX7_start yX7_start ∈ ALLg := (al_in (tb2 (List.mem_of_getElem? (i := 152) (by rfl))) (by decide +kernel))
theorem sr_X4_56 : (RX4, 56, "wide", 0) ∈ strW := List.mem_of_getElem? (i := 0) (by rfl)
theorem ml_X4_57 : Cond.methodLink RX4 57 yX7_takeWord ∈ ALLg := (al_in (tb2 (List.mem_of_getElem? (i := 176) (by rfl))) (by decide +kernel))
theorem ml_X7_77 : Cond.methodLink RX7 77 yX7_isWord ∈ ALLg := (al_in (tb2 (List.mem_of_getElem? (i := 180) (by rfl))) (by decide +kernel))
theorem mx_X7_isWord : Mx yX7_isWord cX7_isWord 3 (some .boolean) 1 := ⟨(al_in (tb2 (List.mem_of_getElem? (i := 183) (by rfl))) (by decide +kernel)), (al_in (tb1 (List.mem_of_getElem? (i := 2) (by rfl))) (by decide +kernel)), ⟨by decide +kernel, by decide +kernel, by decide +kernel⟩, by decide⟩
theorem mi_X7_isWord : Cond.instanceMethod yX7_isWord ∈ ALLg := (al_in (tb2 (List.mem_of_getElem? (i := 181) (by rfl))) (by decide +kernel))
theorem ms_X7_isWord : Cond.selects (yX7_isWord).cls yX7_isWord yX7_isWord ∈ ALLg := (al_in (tb2 (List.mem_of_getElem? (i := 182) (by rfl))) (by decide +kernel))
theorem ml_X7_81 : Cond.methodLink RX7 81 yX7_complain ∈ ALLg := (al_in (tb2 (List.mem_of_getElem? (i := 232) (by rfl))) (by decide +kernel))
theorem mx_X7_complain : Mx yX7_complain cX7_complain 2 none 1 := ⟨(al_in (tb2 (List.mem_of_getElem? (i := 235) (by rfl))) (by decide +kernel)), (al_in (tb1 (List.mem_of_getElem? (i := 2) (by rfl))) (by decide +kernel)), ⟨by decide +kernel, by decide +kernel, by decide +kernel⟩, by decide⟩
theorem mi_X7_complain : Cond.instanceMethod yX7_complain ∈ ALLg := (al_in (tb2 (List.mem_of_getElem? (i := 233) (by rfl))) (by decide +kernel))
theorem ms_X7_complain : Cond.selects (yX7_complain).cls yX7_complain yX7_complain ∈ ALLg := (al_in (tb2 (List.mem_of_getElem? (i := 234) (by rfl))) (by decide +kernel))
theorem mx_X7_takeWord : Mx yX7_takeWord cX7_takeWord 2 none 1 := ⟨(al_in (tb2 (List.mem_of_getElem? (i := 179) (by rfl))) (by decide +kernel)), (al_in (tb1 (List.mem_of_getElem? (i := 2) (by rfl))) (by decide +kernel)), ⟨by decide +kernel, by decide +kernel, by decide +kernel⟩, by decide⟩
theorem mi_X7_takeWord : Cond.instanceMethod yX7_takeWord ∈ ALLg := (al_in (tb2 (List.mem_of_getElem? (i := 177) (by rfl))) (by decide +kernel))
theorem ms_X7_takeWord : Cond.selects (yX7_takeWord).cls yX7_takeWord yX7_takeWord ∈ ALLg := (al_in (tb2 (List.mem_of_getElem? (i := 178) (by rfl))) (by decide +kernel))
theorem ml_X4_61 : Cond.methodLink RX4 61 yX7_takeNumber ∈ ALLg := (al_in (tb2 (List.mem_of_getElem? (i := 236) (by rfl))) (by decide +kernel))
theorem ml_X7_58 : Cond.methodLink RX7 58 yX7_isNumber ∈ ALLg := (al_in (tb3 (List.mem_of_getElem? (i := 0) (by rfl))) (by decide +kernel))
theorem mx_X7_isNumber : Mx yX7_isNumber cX7_isNumber 1 (some .boolean) 0 := ⟨(al_in (tb3 (List.mem_of_getElem? (i := 3) (by rfl))) (by decide +kernel)), (al_in (tb1 (List.mem_of_getElem? (i := 2) (by rfl))) (by decide +kernel)), ⟨by decide +kernel, by decide +kernel, by decide +kernel⟩, by decide⟩
theorem mi_X7_isNumber : Cond.instanceMethod yX7_isNumber ∈ ALLg := (al_in (tb3 (List.mem_of_getElem? (i := 1) (by rfl))) (by decide +kernel))
theorem ms_X7_isNumber : Cond.selects (yX7_isNumber).cls yX7_isNumber yX7_isNumber ∈ ALLg := (al_in (tb3 (List.mem_of_getElem? (i := 2) (by rfl))) (by decide +kernel))
theorem mx_X7_takeNumber : Mx yX7_takeNumber cX7_takeNumber 4 (some .int) 2 := ⟨(al_in (tb2 (List.mem_of_getElem? (i := 239) (by rfl))) (by decide +kernel)), (al_in (tb1 (List.mem_of_getElem? (i := 2) (by rfl))) (by decide +kernel)), ⟨by decide +kernel, by decide +kernel, by decide +kernel⟩, by decide⟩
theorem mi_X7_takeNumber : Cond.instanceMethod yX7_takeNumber ∈ ALLg := (al_in (tb2 (List.mem_of_getElem? (i := 237) (by rfl))) (by decide +kernel))
theorem ms_X7_takeNumber : Cond.selects (yX7_takeNumber).cls yX7_takeNumber yX7_takeNumber ∈ ALLg := (al_in (tb2 (List.mem_of_getElem? (i := 238) (by rfl))) (by decide +kernel))
theorem fl_X4_22 : Fl RX4 22 4 2 false .int := ⟨RX4, TX4, 5, tyX4, ⟨rfl, by decide, inX4, tyX4_ok, nmX4, rfl, by decide +kernel⟩, rfl, (al_in (tb1 (List.mem_of_getElem? (i := 79) (by rfl))) (by decide +kernel))⟩
theorem sr_X4_64 : (RX4, 64, "rows", 1) ∈ strW := List.mem_of_getElem? (i := 1) (by rfl)
theorem ml_X4_66 : Cond.methodLink RX4 66 yX7_takeSemicolon ∈ ALLg := (al_in (tb3 (List.mem_of_getElem? (i := 9) (by rfl))) (by decide +kernel))
theorem ml_X7_85 : Cond.methodLink RX7 85 yX7_isSemicolon ∈ ALLg := (al_in (tb3 (List.mem_of_getElem? (i := 13) (by rfl))) (by decide +kernel))
theorem mx_X7_isSemicolon : Mx yX7_isSemicolon cX7_isSemicolon 1 (some .boolean) 0 := ⟨(al_in (tb3 (List.mem_of_getElem? (i := 16) (by rfl))) (by decide +kernel)), (al_in (tb1 (List.mem_of_getElem? (i := 2) (by rfl))) (by decide +kernel)), ⟨by decide +kernel, by decide +kernel, by decide +kernel⟩, by decide⟩
theorem mi_X7_isSemicolon : Cond.instanceMethod yX7_isSemicolon ∈ ALLg := (al_in (tb3 (List.mem_of_getElem? (i := 14) (by rfl))) (by decide +kernel))
theorem ms_X7_isSemicolon : Cond.selects (yX7_isSemicolon).cls yX7_isSemicolon yX7_isSemicolon ∈ ALLg := (al_in (tb3 (List.mem_of_getElem? (i := 15) (by rfl))) (by decide +kernel))
theorem mx_X7_takeSemicolon : Mx yX7_takeSemicolon cX7_takeSemicolon 1 none 0 := ⟨(al_in (tb3 (List.mem_of_getElem? (i := 12) (by rfl))) (by decide +kernel)), (al_in (tb1 (List.mem_of_getElem? (i := 2) (by rfl))) (by decide +kernel)), ⟨by decide +kernel, by decide +kernel, by decide +kernel⟩, by decide⟩
theorem mi_X7_takeSemicolon : Cond.instanceMethod yX7_takeSemicolon ∈ ALLg := (al_in (tb3 (List.mem_of_getElem? (i := 10) (by rfl))) (by decide +kernel))
theorem ms_X7_takeSemicolon : Cond.selects (yX7_takeSemicolon).cls yX7_takeSemicolon yX7_takeSemicolon ∈ ALLg := (al_in (tb3 (List.mem_of_getElem? (i := 11) (by rfl))) (by decide +kernel))
theorem ml_X4_69 : Cond.methodLink RX4 69 yX4_tellRow ∈ ALLg := (al_in (tb3 (List.mem_of_getElem? (i := 17) (by rfl))) (by decide +kernel))
theorem sr_X4_87 : (RX4, 87, "row", 2) ∈ strW := List.mem_of_getElem? (i := 2) (by rfl)
theorem sr_X4_96 : (RX4, 96, "kpfhm", 3) ∈ strW := List.mem_of_getElem? (i := 3) (by rfl)
theorem ml_X4_98 : Cond.methodLink RX4 98 yX7_isWordOf ∈ ALLg := (al_in (tb3 (List.mem_of_getElem? (i := 25) (by rfl))) (by decide +kernel))
theorem mx_X7_isWordOf : Mx yX7_isWordOf cX7_isWordOf 3 (some .boolean) 1 := ⟨(al_in (tb3 (List.mem_of_getElem? (i := 28) (by rfl))) (by decide +kernel)), (al_in (tb1 (List.mem_of_getElem? (i := 2) (by rfl))) (by decide +kernel)), ⟨by decide +kernel, by decide +kernel, by decide +kernel⟩, by decide⟩
theorem mi_X7_isWordOf : Cond.instanceMethod yX7_isWordOf ∈ ALLg := (al_in (tb3 (List.mem_of_getElem? (i := 26) (by rfl))) (by decide +kernel))
theorem ms_X7_isWordOf : Cond.selects (yX7_isWordOf).cls yX7_isWordOf yX7_isWordOf ∈ ALLg := (al_in (tb3 (List.mem_of_getElem? (i := 27) (by rfl))) (by decide +kernel))
theorem ml_X4_93 : Cond.methodLink RX4 93 yX7_complain ∈ ALLg := (al_in (tb3 (List.mem_of_getElem? (i := 23) (by rfl))) (by decide +kernel))
theorem mx_X4_tellRow : Mx yX4_tellRow cX4_tellRow 3 none 2 := ⟨(al_in (tb3 (List.mem_of_getElem? (i := 20) (by rfl))) (by decide +kernel)), (al_in (tb1 (List.mem_of_getElem? (i := 4) (by rfl))) (by decide +kernel)), ⟨by decide +kernel, by decide +kernel, by decide +kernel⟩, by decide⟩
theorem mi_X4_tellRow : Cond.instanceMethod yX4_tellRow ∈ ALLg := (al_in (tb3 (List.mem_of_getElem? (i := 19) (by rfl))) (by decide +kernel))
theorem ms_X4_tellRow : Cond.selects (yX4_tellRow).cls yX4_tellRow yX4_tellRow ∈ ALLg := (al_in (tb0 (List.mem_of_getElem? (i := 1) (by rfl))) (by decide +kernel))
theorem ml_X4_73 : Cond.methodLink RX4 73 yX7_goesOn ∈ ALLg := (al_in (tb3 (List.mem_of_getElem? (i := 107) (by rfl))) (by decide +kernel))
theorem mx_X7_goesOn : Mx yX7_goesOn cX7_goesOn 1 (some .boolean) 0 := ⟨(al_in (tb3 (List.mem_of_getElem? (i := 110) (by rfl))) (by decide +kernel)), (al_in (tb1 (List.mem_of_getElem? (i := 2) (by rfl))) (by decide +kernel)), ⟨by decide +kernel, by decide +kernel, by decide +kernel⟩, by decide⟩
theorem mi_X7_goesOn : Cond.instanceMethod yX7_goesOn ∈ ALLg := (al_in (tb3 (List.mem_of_getElem? (i := 108) (by rfl))) (by decide +kernel))
theorem ms_X7_goesOn : Cond.selects (yX7_goesOn).cls yX7_goesOn yX7_goesOn ∈ ALLg := (al_in (tb3 (List.mem_of_getElem? (i := 109) (by rfl))) (by decide +kernel))
theorem ml_X4_77 : Cond.methodLink RX4 77 yX7_isFine ∈ ALLg := (al_in (tb3 (List.mem_of_getElem? (i := 111) (by rfl))) (by decide +kernel))
theorem mx_X4_tell : Mx yX4_tell cX4_tell 3 (some .boolean) 1 := ⟨(al_in (tb2 (List.mem_of_getElem? (i := 149) (by rfl))) (by decide +kernel)), (al_in (tb1 (List.mem_of_getElem? (i := 4) (by rfl))) (by decide +kernel)), ⟨by decide +kernel, by decide +kernel, by decide +kernel⟩, by decide⟩
theorem mi_X4_tell : Cond.instanceMethod yX4_tell ∈ ALLg := (al_in (tb2 (List.mem_of_getElem? (i := 147) (by rfl))) (by decide +kernel))
theorem ms_X4_tell : Cond.selects (yX4_tell).cls yX4_tell yX4_tell ∈ ALLg := (al_in (tb2 (List.mem_of_getElem? (i := 148) (by rfl))) (by decide +kernel))
theorem ml_X11_113 : Cond.methodLink RX11 113 yX7_empty ∈ ALLg := (al_in (tb3 (List.mem_of_getElem? (i := 128) (by rfl))) (by decide +kernel))
theorem mx_X7_empty : Mx yX7_empty cX7_empty 1 none 0 := ⟨(al_in (tb3 (List.mem_of_getElem? (i := 131) (by rfl))) (by decide +kernel)), (al_in (tb1 (List.mem_of_getElem? (i := 2) (by rfl))) (by decide +kernel)), ⟨by decide +kernel, by decide +kernel, by decide +kernel⟩, by decide⟩
theorem mi_X7_empty : Cond.instanceMethod yX7_empty ∈ ALLg := (al_in (tb3 (List.mem_of_getElem? (i := 129) (by rfl))) (by decide +kernel))
theorem ms_X7_empty : Cond.selects (yX7_empty).cls yX7_empty yX7_empty ∈ ALLg := (al_in (tb3 (List.mem_of_getElem? (i := 130) (by rfl))) (by decide +kernel))
theorem ml_X11_129 : Cond.methodLink RX11 129 yX11_tellHand ∈ ALLg := (al_in (tb3 (List.mem_of_getElem? (i := 147) (by rfl))) (by decide +kernel))
theorem ml_X11_387 : Cond.methodLink RX11 387 yX7_start ∈ ALLg := (al_in (tb3 (List.mem_of_getElem? (i := 151) (by rfl))) (by decide +kernel))
theorem sr_X11_390 : (RX11, 390, "hand", 4) ∈ strW := List.mem_of_getElem? (i := 4) (by rfl)
theorem ml_X11_392 : Cond.methodLink RX11 392 yX7_takeWord ∈ ALLg := (al_in (tb3 (List.mem_of_getElem? (i := 153) (by rfl))) (by decide +kernel))
theorem sr_X11_396 : (RX11, 396, "f", 5) ∈ strW := List.mem_of_getElem? (i := 5) (by rfl)
theorem fl_X11_47 : Fl RX11 47 11 6 true (.array .int) := ⟨RX11, TX11, 14, tyX11, ⟨rfl, by decide, inX11, tyX11_ok, nmX11, rfl, by decide +kernel⟩, rfl, (al_in (tb2 (List.mem_of_getElem? (i := 89) (by rfl))) (by decide +kernel))⟩
theorem ml_X11_402 : Cond.methodLink RX11 402 yX7_takeNumber ∈ ALLg := (al_in (tb3 (List.mem_of_getElem? (i := 157) (by rfl))) (by decide +kernel))
theorem sr_X11_398 : (RX11, 398, "h", 6) ∈ strW := List.mem_of_getElem? (i := 6) (by rfl)
theorem sr_X11_400 : (RX11, 400, "m", 7) ∈ strW := List.mem_of_getElem? (i := 7) (by rfl)
theorem ml_X11_405 : Cond.methodLink RX11 405 yX7_takeSemicolon ∈ ALLg := (al_in (tb3 (List.mem_of_getElem? (i := 158) (by rfl))) (by decide +kernel))
theorem ml_X11_408 : Cond.methodLink RX11 408 yX7_takeEnd ∈ ALLg := (al_in (tb3 (List.mem_of_getElem? (i := 159) (by rfl))) (by decide +kernel))
theorem mx_X7_takeEnd : Mx yX7_takeEnd cX7_takeEnd 1 none 0 := ⟨(al_in (tb3 (List.mem_of_getElem? (i := 162) (by rfl))) (by decide +kernel)), (al_in (tb1 (List.mem_of_getElem? (i := 2) (by rfl))) (by decide +kernel)), ⟨by decide +kernel, by decide +kernel, by decide +kernel⟩, by decide⟩
theorem mi_X7_takeEnd : Cond.instanceMethod yX7_takeEnd ∈ ALLg := (al_in (tb3 (List.mem_of_getElem? (i := 160) (by rfl))) (by decide +kernel))
theorem ms_X7_takeEnd : Cond.selects (yX7_takeEnd).cls yX7_takeEnd yX7_takeEnd ∈ ALLg := (al_in (tb3 (List.mem_of_getElem? (i := 161) (by rfl))) (by decide +kernel))
theorem ml_X11_411 : Cond.methodLink RX11 411 yX7_isFine ∈ ALLg := (al_in (tb3 (List.mem_of_getElem? (i := 163) (by rfl))) (by decide +kernel))
theorem mx_X11_tellHand : Mx yX11_tellHand cX11_tellHand 2 (some .boolean) 0 := ⟨(al_in (tb3 (List.mem_of_getElem? (i := 150) (by rfl))) (by decide +kernel)), (al_in (tb1 (List.mem_of_getElem? (i := 1) (by rfl))) (by decide +kernel)), ⟨by decide +kernel, by decide +kernel, by decide +kernel⟩, by decide⟩
theorem mi_X11_tellHand : Cond.instanceMethod yX11_tellHand ∈ ALLg := (al_in (tb3 (List.mem_of_getElem? (i := 149) (by rfl))) (by decide +kernel))
theorem ms_X11_tellHand : Cond.selects (yX11_tellHand).cls yX11_tellHand yX11_tellHand ∈ ALLg := (al_in (tb0 (List.mem_of_getElem? (i := 6) (by rfl))) (by decide +kernel))
theorem fl_X11_54 : Fl RX11 54 11 7 true (.object "StitchSays$Way") := ⟨RX11, TX11, 14, tyX11, ⟨rfl, by decide, inX11, tyX11_ok, nmX11, rfl, by decide +kernel⟩, rfl, (al_in (tb2 (List.mem_of_getElem? (i := 90) (by rfl))) (by decide +kernel))⟩
theorem ml_X11_145 : Cond.methodLink RX11 145 yX10_tell ∈ ALLg := (al_in (tb3 (List.mem_of_getElem? (i := 172) (by rfl))) (by decide +kernel))
theorem fl_X10_21 : Fl RX10 21 10 0 false .boolean := ⟨RX10, TX10, 7, tyX10, ⟨rfl, by decide, inX10, tyX10_ok, nmX10, rfl, by decide +kernel⟩, rfl, (al_in (tb1 (List.mem_of_getElem? (i := 145) (by rfl))) (by decide +kernel))⟩
theorem ml_X10_34 : Cond.methodLink RX10 34 yX7_start ∈ ALLg := (al_in (tb3 (List.mem_of_getElem? (i := 176) (by rfl))) (by decide +kernel))
theorem sr_X10_39 : (RX10, 39, "way", 8) ∈ strW := List.mem_of_getElem? (i := 8) (by rfl)
theorem ml_X10_41 : Cond.methodLink RX10 41 yX7_takeWord ∈ ALLg := (al_in (tb3 (List.mem_of_getElem? (i := 178) (by rfl))) (by decide +kernel))
theorem sr_X10_45 : (RX10, 45, "over", 9) ∈ strW := List.mem_of_getElem? (i := 9) (by rfl)
theorem ml_X10_47 : Cond.methodLink RX10 47 yX10_tellSorts ∈ ALLg := (al_in (tb3 (List.mem_of_getElem? (i := 180) (by rfl))) (by decide +kernel))
theorem fl_X10_25 : Fl RX10 25 10 1 false .int := ⟨RX10, TX10, 7, tyX10, ⟨rfl, by decide, inX10, tyX10_ok, nmX10, rfl, by decide +kernel⟩, rfl, (al_in (tb1 (List.mem_of_getElem? (i := 148) (by rfl))) (by decide +kernel))⟩
theorem sr_X10_80 : (RX10, 80, "fhm", 10) ∈ strW := List.mem_of_getElem? (i := 10) (by rfl)
theorem ml_X10_82 : Cond.methodLink RX10 82 yX7_isWordOf ∈ ALLg := (al_in (tb3 (List.mem_of_getElem? (i := 185) (by rfl))) (by decide +kernel))
theorem ml_X10_85 : Cond.methodLink RX10 85 yX7_wordLength ∈ ALLg := (al_in (tb3 (List.mem_of_getElem? (i := 186) (by rfl))) (by decide +kernel))
theorem mx_X7_wordLength : Mx yX7_wordLength cX7_wordLength 1 (some .int) 0 := ⟨(al_in (tb3 (List.mem_of_getElem? (i := 89) (by rfl))) (by decide +kernel)), (al_in (tb1 (List.mem_of_getElem? (i := 2) (by rfl))) (by decide +kernel)), ⟨by decide +kernel, by decide +kernel, by decide +kernel⟩, by decide⟩
theorem mi_X7_wordLength : Cond.instanceMethod yX7_wordLength ∈ ALLg := (al_in (tb3 (List.mem_of_getElem? (i := 87) (by rfl))) (by decide +kernel))
theorem ms_X7_wordLength : Cond.selects (yX7_wordLength).cls yX7_wordLength yX7_wordLength ∈ ALLg := (al_in (tb3 (List.mem_of_getElem? (i := 88) (by rfl))) (by decide +kernel))
theorem ml_X10_96 : Cond.methodLink RX10 96 yX7_complain ∈ ALLg := (al_in (tb3 (List.mem_of_getElem? (i := 189) (by rfl))) (by decide +kernel))
theorem mx_X10_tellSorts : Mx yX10_tellSorts cX10_tellSorts 5 none 1 := ⟨(al_in (tb3 (List.mem_of_getElem? (i := 183) (by rfl))) (by decide +kernel)), (al_in (tb1 (List.mem_of_getElem? (i := 7) (by rfl))) (by decide +kernel)), ⟨by decide +kernel, by decide +kernel, by decide +kernel⟩, by decide⟩
theorem mi_X10_tellSorts : Cond.instanceMethod yX10_tellSorts ∈ ALLg := (al_in (tb3 (List.mem_of_getElem? (i := 182) (by rfl))) (by decide +kernel))
theorem ms_X10_tellSorts : Cond.selects (yX10_tellSorts).cls yX10_tellSorts yX10_tellSorts ∈ ALLg := (al_in (tb0 (List.mem_of_getElem? (i := 7) (by rfl))) (by decide +kernel))
theorem sr_X10_51 : (RX10, 51, "step", 11) ∈ strW := List.mem_of_getElem? (i := 11) (by rfl)
theorem ml_X10_52 : Cond.methodLink RX10 52 yX7_mayTakeWord ∈ ALLg := (al_in (tb3 (List.mem_of_getElem? (i := 191) (by rfl))) (by decide +kernel))
theorem mx_X7_mayTakeWord : Mx yX7_mayTakeWord cX7_mayTakeWord 2 (some .boolean) 1 := ⟨(al_in (tb3 (List.mem_of_getElem? (i := 194) (by rfl))) (by decide +kernel)), (al_in (tb1 (List.mem_of_getElem? (i := 2) (by rfl))) (by decide +kernel)), ⟨by decide +kernel, by decide +kernel, by decide +kernel⟩, by decide⟩
theorem mi_X7_mayTakeWord : Cond.instanceMethod yX7_mayTakeWord ∈ ALLg := (al_in (tb3 (List.mem_of_getElem? (i := 192) (by rfl))) (by decide +kernel))
theorem ms_X7_mayTakeWord : Cond.selects (yX7_mayTakeWord).cls yX7_mayTakeWord yX7_mayTakeWord ∈ ALLg := (al_in (tb3 (List.mem_of_getElem? (i := 193) (by rfl))) (by decide +kernel))
theorem fl_X10_9 : Fl RX10 9 10 2 false .int := ⟨RX10, TX10, 7, tyX10, ⟨rfl, by decide, inX10, tyX10_ok, nmX10, rfl, by decide +kernel⟩, rfl, (al_in (tb1 (List.mem_of_getElem? (i := 149) (by rfl))) (by decide +kernel))⟩
theorem sr_X10_60 : (RX10, 60, "group", 12) ∈ strW := List.mem_of_getElem? (i := 12) (by rfl)
theorem fl_X10_15 : Fl RX10 15 10 3 false .int := ⟨RX10, TX10, 7, tyX10, ⟨rfl, by decide, inX10, tyX10_ok, nmX10, rfl, by decide +kernel⟩, rfl, (al_in (tb1 (List.mem_of_getElem? (i := 151) (by rfl))) (by decide +kernel))⟩
theorem sr_X10_61 : (RX10, 61, "guard", 13) ∈ strW := List.mem_of_getElem? (i := 13) (by rfl)
theorem fl_X10_18 : Fl RX10 18 10 4 false .int := ⟨RX10, TX10, 7, tyX10, ⟨rfl, by decide, inX10, tyX10_ok, nmX10, rfl, by decide +kernel⟩, rfl, (al_in (tb1 (List.mem_of_getElem? (i := 153) (by rfl))) (by decide +kernel))⟩
theorem sr_X10_66 : (RX10, 66, "turn", 14) ∈ strW := List.mem_of_getElem? (i := 14) (by rfl)
theorem fl_X10_28 : Fl RX10 28 10 5 false .boolean := ⟨RX10, TX10, 7, tyX10, ⟨rfl, by decide, inX10, tyX10_ok, nmX10, rfl, by decide +kernel⟩, rfl, (al_in (tb1 (List.mem_of_getElem? (i := 155) (by rfl))) (by decide +kernel))⟩
theorem sr_X10_68 : (RX10, 68, "top", 15) ∈ strW := List.mem_of_getElem? (i := 15) (by rfl)
theorem fl_X10_31 : Fl RX10 31 10 6 false .boolean := ⟨RX10, TX10, 7, tyX10, ⟨rfl, by decide, inX10, tyX10_ok, nmX10, rfl, by decide +kernel⟩, rfl, (al_in (tb1 (List.mem_of_getElem? (i := 158) (by rfl))) (by decide +kernel))⟩
theorem ml_X10_70 : Cond.methodLink RX10 70 yX7_takeSemicolon ∈ ALLg := (al_in (tb3 (List.mem_of_getElem? (i := 207) (by rfl))) (by decide +kernel))
theorem ml_X10_73 : Cond.methodLink RX10 73 yX7_takeEnd ∈ ALLg := (al_in (tb3 (List.mem_of_getElem? (i := 208) (by rfl))) (by decide +kernel))
theorem ml_X10_76 : Cond.methodLink RX10 76 yX7_isFine ∈ ALLg := (al_in (tb3 (List.mem_of_getElem? (i := 209) (by rfl))) (by decide +kernel))
theorem mx_X10_tell : Mx yX10_tell cX10_tell 2 (some .boolean) 1 := ⟨(al_in (tb3 (List.mem_of_getElem? (i := 175) (by rfl))) (by decide +kernel)), (al_in (tb1 (List.mem_of_getElem? (i := 7) (by rfl))) (by decide +kernel)), ⟨by decide +kernel, by decide +kernel, by decide +kernel⟩, by decide⟩
theorem mi_X10_tell : Cond.instanceMethod yX10_tell ∈ ALLg := (al_in (tb3 (List.mem_of_getElem? (i := 173) (by rfl))) (by decide +kernel))
theorem ms_X10_tell : Cond.selects (yX10_tell).cls yX10_tell yX10_tell ∈ ALLg := (al_in (tb3 (List.mem_of_getElem? (i := 174) (by rfl))) (by decide +kernel))
theorem fl_X0_24 : Fl RX0 24 0 2 true (.array (.object "StitchSays$Way")) := ⟨RX0, TX0, 6, tyX0, ⟨rfl, by decide, inX0, tyX0_ok, nmX0, rfl, by decide +kernel⟩, rfl, (al_in (tb1 (List.mem_of_getElem? (i := 193) (by rfl))) (by decide +kernel))⟩
theorem fn_X0_76 : Fn RX0 76 10 0 false .boolean := ⟨RX10, TX10, 7, tyX10, ⟨rfl, by decide, inX10, tyX10_ok, nmX10, rfl, by decide +kernel⟩, "StitchSays", List.mem_of_getElem? (i := 19) (by rfl)⟩
theorem fl_X0_44 : Fl RX0 44 0 5 true (.array (.object "StitchSays$Cloth")) := ⟨RX0, TX0, 6, tyX0, ⟨rfl, by decide, inX0, tyX0_ok, nmX0, rfl, by decide +kernel⟩, rfl, (al_in (tb1 (List.mem_of_getElem? (i := 199) (by rfl))) (by decide +kernel))⟩
theorem fn_X0_72 : Fn RX0 72 1 1 false .boolean := ⟨RX1, TX1, 2, tyX1, ⟨rfl, by decide, inX1, tyX1_ok, nmX1, rfl, by decide +kernel⟩, "StitchSays", List.mem_of_getElem? (i := 27) (by rfl)⟩
theorem fn_X11_335 : Fn RX11 335 4 3 false .int := ⟨RX4, TX4, 5, tyX4, ⟨rfl, by decide, inX4, tyX4_ok, nmX4, rfl, by decide +kernel⟩, "StitchSays", List.mem_of_getElem? (i := 11) (by rfl)⟩
theorem fn_X11_338 : Fn RX11 338 4 2 false .int := ⟨RX4, TX4, 5, tyX4, ⟨rfl, by decide, inX4, tyX4_ok, nmX4, rfl, by decide +kernel⟩, "StitchSays", List.mem_of_getElem? (i := 8) (by rfl)⟩
theorem fn_X11_126 : Fn RX11 126 4 4 false .int := ⟨RX4, TX4, 5, tyX4, ⟨rfl, by decide, inX4, tyX4_ok, nmX4, rfl, by decide +kernel⟩, "StitchSays", List.mem_of_getElem? (i := 13) (by rfl)⟩
theorem ml_X11_341 : Cond.methodLink RX11 341 yX0_waysThere ∈ ALLg := (al_in (tb6 (List.mem_of_getElem? (i := 1) (by rfl))) (by decide +kernel))
theorem mx_X0_waysThere : Mx yX0_waysThere cX0_waysThere 3 (some .int) 0 := ⟨(al_in (tb6 (List.mem_of_getElem? (i := 4) (by rfl))) (by decide +kernel)), (al_in (tb1 (List.mem_of_getElem? (i := 3) (by rfl))) (by decide +kernel)), ⟨by decide +kernel, by decide +kernel, by decide +kernel⟩, by decide⟩
theorem mi_X0_waysThere : Cond.instanceMethod yX0_waysThere ∈ ALLg := (al_in (tb6 (List.mem_of_getElem? (i := 2) (by rfl))) (by decide +kernel))
theorem ms_X0_waysThere : Cond.selects (yX0_waysThere).cls yX0_waysThere yX0_waysThere ∈ ALLg := (al_in (tb6 (List.mem_of_getElem? (i := 3) (by rfl))) (by decide +kernel))
theorem fn_X11_158 : Fn RX11 158 0 3 true (.object "StitchSays$Watcher") := ⟨RX0, TX0, 6, tyX0, ⟨rfl, by decide, inX0, tyX0_ok, nmX0, rfl, by decide +kernel⟩, "StitchSays", List.mem_of_getElem? (i := 32) (by rfl)⟩
theorem fn_X11_164 : Fn RX11 164 9 2 false .int := ⟨RX9, TX9, 3, tyX9, ⟨rfl, by decide, inX9, tyX9_ok, nmX9, rfl, by decide +kernel⟩, "StitchSays", List.mem_of_getElem? (i := 15) (by rfl)⟩
theorem fn_X11_168 : Fn RX11 168 0 4 true (.object "StitchSays$Losses") := ⟨RX0, TX0, 6, tyX0, ⟨rfl, by decide, inX0, tyX0_ok, nmX0, rfl, by decide +kernel⟩, "StitchSays", List.mem_of_getElem? (i := 33) (by rfl)⟩
theorem fn_X11_174 : Fn RX11 174 3 3 false .int := ⟨RX3, TX3, 4, tyX3, ⟨rfl, by decide, inX3, tyX3_ok, nmX3, rfl, by decide +kernel⟩, "StitchSays", List.mem_of_getElem? (i := 17) (by rfl)⟩
theorem ml_X11_344 : Cond.methodLink RX11 344 yX0_clothsThere ∈ ALLg := (al_in (tb6 (List.mem_of_getElem? (i := 5) (by rfl))) (by decide +kernel))
theorem mx_X0_clothsThere : Mx yX0_clothsThere cX0_clothsThere 3 (some .int) 0 := ⟨(al_in (tb6 (List.mem_of_getElem? (i := 8) (by rfl))) (by decide +kernel)), (al_in (tb1 (List.mem_of_getElem? (i := 3) (by rfl))) (by decide +kernel)), ⟨by decide +kernel, by decide +kernel, by decide +kernel⟩, by decide⟩
theorem mi_X0_clothsThere : Cond.instanceMethod yX0_clothsThere ∈ ALLg := (al_in (tb6 (List.mem_of_getElem? (i := 6) (by rfl))) (by decide +kernel))
theorem ms_X0_clothsThere : Cond.selects (yX0_clothsThere).cls yX0_clothsThere yX0_clothsThere ∈ ALLg := (al_in (tb6 (List.mem_of_getElem? (i := 7) (by rfl))) (by decide +kernel))
theorem fn_X11_213 : Fn RX11 213 2 1 false .int := ⟨RX2, TX2, 2, tyX2, ⟨rfl, by decide, inX2, tyX2_ok, nmX2, rfl, by decide +kernel⟩, "StitchSays", List.mem_of_getElem? (i := 36) (by rfl)⟩
theorem ml_X11_347 : Cond.methodLink RX11 347 yX11_slotsThere ∈ ALLg := (al_in (tb6 (List.mem_of_getElem? (i := 9) (by rfl))) (by decide +kernel))
theorem mx_X11_slotsThere : Mx yX11_slotsThere cX11_slotsThere 3 (some .int) 0 := ⟨(al_in (tb6 (List.mem_of_getElem? (i := 12) (by rfl))) (by decide +kernel)), (al_in (tb1 (List.mem_of_getElem? (i := 1) (by rfl))) (by decide +kernel)), ⟨by decide +kernel, by decide +kernel, by decide +kernel⟩, by decide⟩
theorem mi_X11_slotsThere : Cond.instanceMethod yX11_slotsThere ∈ ALLg := (al_in (tb6 (List.mem_of_getElem? (i := 11) (by rfl))) (by decide +kernel))
theorem ms_X11_slotsThere : Cond.selects (yX11_slotsThere).cls yX11_slotsThere yX11_slotsThere ∈ ALLg := (al_in (tb0 (List.mem_of_getElem? (i := 37) (by rfl))) (by decide +kernel))
theorem mo_X10_3 : Cond.methodLink RX10 3 Lib.objectInit ∈ ALLg := (al_in (tb1 (List.mem_of_getElem? (i := 144) (by rfl))) (by decide +kernel))
theorem mo_i : Cond.instanceMethod Lib.objectInit ∈ ALLg := (al_in (tb1 (List.mem_of_getElem? (i := 28) (by rfl))) (by decide +kernel))
theorem mo_c : Cond.code Lib.objectInit ⟨#[0xb1]⟩ 1 none ∈ ALLg := (al_in (tb1 (List.mem_of_getElem? (i := 29) (by rfl))) (by decide +kernel))
theorem mo_X1_3 : Cond.methodLink RX1 3 Lib.objectInit ∈ ALLg := (al_in (tb1 (List.mem_of_getElem? (i := 178) (by rfl))) (by decide +kernel))
theorem ac_byte : Cond.arrayClass .byte ∈ ALLg := (al_in (tb1 (List.mem_of_getElem? (i := 188) (by rfl))) (by decide +kernel))
theorem fl_X1_9 : Fl RX1 9 1 0 true (.array .byte) := ⟨RX1, TX1, 2, tyX1, ⟨rfl, by decide, inX1, tyX1_ok, nmX1, rfl, by decide +kernel⟩, rfl, (al_in (tb1 (List.mem_of_getElem? (i := 179) (by rfl))) (by decide +kernel))⟩
theorem mo_X2_3 : Cond.methodLink RX2 3 Lib.objectInit ∈ ALLg := (al_in (tb1 (List.mem_of_getElem? (i := 220) (by rfl))) (by decide +kernel))
theorem ac_int : Cond.arrayClass .int ∈ ALLg := (al_in (tb1 (List.mem_of_getElem? (i := 62) (by rfl))) (by decide +kernel))
theorem fl_X2_9 : Fl RX2 9 2 0 true (.array .int) := ⟨RX2, TX2, 2, tyX2, ⟨rfl, by decide, inX2, tyX2_ok, nmX2, rfl, by decide +kernel⟩, rfl, (al_in (tb1 (List.mem_of_getElem? (i := 221) (by rfl))) (by decide +kernel))⟩
theorem mo_X3_3 : Cond.methodLink RX3 3 Lib.objectInit ∈ ALLg := (al_in (tb1 (List.mem_of_getElem? (i := 123) (by rfl))) (by decide +kernel))
theorem fl_X3_9 : Fl RX3 9 3 0 true (.array .int) := ⟨RX3, TX3, 4, tyX3, ⟨rfl, by decide, inX3, tyX3_ok, nmX3, rfl, by decide +kernel⟩, rfl, (al_in (tb1 (List.mem_of_getElem? (i := 124) (by rfl))) (by decide +kernel))⟩
theorem fl_X3_15 : Fl RX3 15 3 1 true (.array .int) := ⟨RX3, TX3, 4, tyX3, ⟨rfl, by decide, inX3, tyX3_ok, nmX3, rfl, by decide +kernel⟩, rfl, (al_in (tb1 (List.mem_of_getElem? (i := 125) (by rfl))) (by decide +kernel))⟩
theorem fl_X3_18 : Fl RX3 18 3 2 true (.array .int) := ⟨RX3, TX3, 4, tyX3, ⟨rfl, by decide, inX3, tyX3_ok, nmX3, rfl, by decide +kernel⟩, rfl, (al_in (tb1 (List.mem_of_getElem? (i := 126) (by rfl))) (by decide +kernel))⟩
theorem mo_X4_3 : Cond.methodLink RX4 3 Lib.objectInit ∈ ALLg := (al_in (tb1 (List.mem_of_getElem? (i := 74) (by rfl))) (by decide +kernel))
theorem fl_X4_9 : Fl RX4 9 4 0 true (.array .int) := ⟨RX4, TX4, 5, tyX4, ⟨rfl, by decide, inX4, tyX4_ok, nmX4, rfl, by decide +kernel⟩, rfl, (al_in (tb1 (List.mem_of_getElem? (i := 75) (by rfl))) (by decide +kernel))⟩
theorem fl_X4_15 : Fl RX4 15 4 1 true (.array .int) := ⟨RX4, TX4, 5, tyX4, ⟨rfl, by decide, inX4, tyX4_ok, nmX4, rfl, by decide +kernel⟩, rfl, (al_in (tb1 (List.mem_of_getElem? (i := 76) (by rfl))) (by decide +kernel))⟩
theorem mo_X5_3 : Cond.methodLink RX5 3 Lib.objectInit ∈ ALLg := (al_in (tb2 (List.mem_of_getElem? (i := 68) (by rfl))) (by decide +kernel))
theorem ac_long : Cond.arrayClass .long ∈ ALLg := (al_in (tb2 (List.mem_of_getElem? (i := 82) (by rfl))) (by decide +kernel))
theorem fl_X5_9 : Fl RX5 9 5 0 true (.array .long) := ⟨RX5, TX5, 3, tyX5, ⟨rfl, by decide, inX5, tyX5_ok, nmX5, rfl, by decide +kernel⟩, rfl, (al_in (tb2 (List.mem_of_getElem? (i := 69) (by rfl))) (by decide +kernel))⟩
theorem mo_X7_3 : Cond.methodLink RX7 3 Lib.objectInit ∈ ALLg := (al_in (tb1 (List.mem_of_getElem? (i := 35) (by rfl))) (by decide +kernel))
theorem mo_X9_5 : Cond.methodLink RX9 5 Lib.objectInit ∈ ALLg := (al_in (tb1 (List.mem_of_getElem? (i := 106) (by rfl))) (by decide +kernel))
theorem fl_X9_13 : Fl RX9 13 9 0 true (.array .int) := ⟨RX9, TX9, 3, tyX9, ⟨rfl, by decide, inX9, tyX9_ok, nmX9, rfl, by decide +kernel⟩, rfl, (al_in (tb1 (List.mem_of_getElem? (i := 107) (by rfl))) (by decide +kernel))⟩
theorem mo_X8_3 : Cond.methodLink RX8 3 Lib.objectInit ∈ ALLg := (al_in (tb2 (List.mem_of_getElem? (i := 4) (by rfl))) (by decide +kernel))
theorem fl_X8_9 : Fl RX8 9 8 0 true (.array .int) := ⟨RX8, TX8, 5, tyX8, ⟨rfl, by decide, inX8, tyX8_ok, nmX8, rfl, by decide +kernel⟩, rfl, (al_in (tb2 (List.mem_of_getElem? (i := 5) (by rfl))) (by decide +kernel))⟩
theorem fl_X8_15 : Fl RX8 15 8 2 false .int := ⟨RX8, TX8, 5, tyX8, ⟨rfl, by decide, inX8, tyX8_ok, nmX8, rfl, by decide +kernel⟩, rfl, (al_in (tb2 (List.mem_of_getElem? (i := 7) (by rfl))) (by decide +kernel))⟩
theorem fl_X8_19 : Fl RX8 19 8 3 false .int := ⟨RX8, TX8, 5, tyX8, ⟨rfl, by decide, inX8, tyX8_ok, nmX8, rfl, by decide +kernel⟩, rfl, (al_in (tb2 (List.mem_of_getElem? (i := 8) (by rfl))) (by decide +kernel))⟩
theorem mo_X6_3 : Cond.methodLink RX6 3 Lib.objectInit ∈ ALLg := (al_in (tb2 (List.mem_of_getElem? (i := 30) (by rfl))) (by decide +kernel))
theorem kl_X6_9 : Cond.classLink RX6 9 RX1 ∈ ALLg := (al_in (tb2 (List.mem_of_getElem? (i := 31) (by rfl))) (by decide +kernel))
theorem in_X1 : Cond.instantiable RX1 2 ∈ ALLg := (al_in (tb1 (List.mem_of_getElem? (i := 174) (by rfl))) (by decide +kernel))
theorem ii_X1 : Cond.initialized RX1 ∈ ALLg := (al_in (tb1 (List.mem_of_getElem? (i := 8) (by rfl))) (by decide +kernel))
theorem mn_X6_11 : Cond.methodLinkNest RX6 11 yX1_init "StitchSays" ∈ nestW := List.mem_of_getElem? (i := 46) (by rfl)
theorem mx_X1_init : Mx yX1_init cX1_init 1 none 0 := ⟨(al_in (tb1 (List.mem_of_getElem? (i := 177) (by rfl))) (by decide +kernel)), (al_in (tb1 (List.mem_of_getElem? (i := 8) (by rfl))) (by decide +kernel)), ⟨by decide +kernel, by decide +kernel, by decide +kernel⟩, by decide⟩
theorem mi_X1_init : Cond.instanceMethod yX1_init ∈ ALLg := (al_in (tb1 (List.mem_of_getElem? (i := 176) (by rfl))) (by decide +kernel))
theorem fl_X6_12 : Fl RX6 12 6 0 true (.object "StitchSays$Cloth") := ⟨RX6, TX6, 10, tyX6, ⟨rfl, by decide, inX6, tyX6_ok, nmX6, rfl, by decide +kernel⟩, rfl, (al_in (tb2 (List.mem_of_getElem? (i := 33) (by rfl))) (by decide +kernel))⟩
theorem fl_X6_18 : Fl RX6 18 6 1 true (.array .int) := ⟨RX6, TX6, 10, tyX6, ⟨rfl, by decide, inX6, tyX6_ok, nmX6, rfl, by decide +kernel⟩, rfl, (al_in (tb2 (List.mem_of_getElem? (i := 34) (by rfl))) (by decide +kernel))⟩
theorem fl_X6_22 : Fl RX6 22 6 2 true (.array .int) := ⟨RX6, TX6, 10, tyX6, ⟨rfl, by decide, inX6, tyX6_ok, nmX6, rfl, by decide +kernel⟩, rfl, (al_in (tb2 (List.mem_of_getElem? (i := 35) (by rfl))) (by decide +kernel))⟩
theorem fl_X6_25 : Fl RX6 25 6 3 true (.array .int) := ⟨RX6, TX6, 10, tyX6, ⟨rfl, by decide, inX6, tyX6_ok, nmX6, rfl, by decide +kernel⟩, rfl, (al_in (tb2 (List.mem_of_getElem? (i := 36) (by rfl))) (by decide +kernel))⟩
theorem fl_X6_28 : Fl RX6 28 6 4 true (.array .int) := ⟨RX6, TX6, 10, tyX6, ⟨rfl, by decide, inX6, tyX6_ok, nmX6, rfl, by decide +kernel⟩, rfl, (al_in (tb2 (List.mem_of_getElem? (i := 37) (by rfl))) (by decide +kernel))⟩
theorem fl_X11_61 : Fl RX11 61 11 8 true (.object "StitchSays$Watcher") := ⟨RX11, TX11, 14, tyX11, ⟨rfl, by decide, inX11, tyX11_ok, nmX11, rfl, by decide +kernel⟩, rfl, (al_in (tb2 (List.mem_of_getElem? (i := 91) (by rfl))) (by decide +kernel))⟩
theorem ml_X11_157 : Cond.methodLink RX11 157 yX9_tell ∈ ALLg := (al_in (tb3 (List.mem_of_getElem? (i := 237) (by rfl))) (by decide +kernel))
theorem ml_X9_30 : Cond.methodLink RX9 30 yX7_start ∈ ALLg := (al_in (tb4 (List.mem_of_getElem? (i := 1) (by rfl))) (by decide +kernel))
theorem fl_X9_23 : Fl RX9 23 9 1 false .int := ⟨RX9, TX9, 3, tyX9, ⟨rfl, by decide, inX9, tyX9_ok, nmX9, rfl, by decide +kernel⟩, rfl, (al_in (tb1 (List.mem_of_getElem? (i := 108) (by rfl))) (by decide +kernel))⟩
theorem fl_X9_27 : Fl RX9 27 9 2 false .int := ⟨RX9, TX9, 3, tyX9, ⟨rfl, by decide, inX9, tyX9_ok, nmX9, rfl, by decide +kernel⟩, rfl, (al_in (tb1 (List.mem_of_getElem? (i := 109) (by rfl))) (by decide +kernel))⟩
theorem ml_X9_35 : Cond.methodLink RX9 35 yX7_goesOn ∈ ALLg := (al_in (tb4 (List.mem_of_getElem? (i := 2) (by rfl))) (by decide +kernel))
theorem ml_X9_53 : Cond.methodLink RX9 53 yX7_isFine ∈ ALLg := (al_in (tb4 (List.mem_of_getElem? (i := 12) (by rfl))) (by decide +kernel))
theorem mx_X9_tell : Mx yX9_tell cX9_tell 3 (some .boolean) 1 := ⟨(al_in (tb4 (List.mem_of_getElem? (i := 0) (by rfl))) (by decide +kernel)), (al_in (tb1 (List.mem_of_getElem? (i := 5) (by rfl))) (by decide +kernel)), ⟨by decide +kernel, by decide +kernel, by decide +kernel⟩, by decide⟩
theorem mi_X9_tell : Cond.instanceMethod yX9_tell ∈ ALLg := (al_in (tb3 (List.mem_of_getElem? (i := 238) (by rfl))) (by decide +kernel))
theorem ms_X9_tell : Cond.selects (yX9_tell).cls yX9_tell yX9_tell ∈ ALLg := (al_in (tb3 (List.mem_of_getElem? (i := 239) (by rfl))) (by decide +kernel))
theorem ml_X11_161 : Cond.methodLink RX11 161 yX9_takeFrom ∈ ALLg := (al_in (tb4 (List.mem_of_getElem? (i := 50) (by rfl))) (by decide +kernel))
theorem mo_X9_17 : Cond.methodLink RX9 17 arraycopyName ∈ ALLg := (al_in (tb4 (List.mem_of_getElem? (i := 54) (by rfl))) (by decide +kernel))
theorem cp_n : Cond.native arraycopyName ∈ ALLg := (al_in (tb3 (List.mem_of_getElem? (i := 138) (by rfl))) (by decide +kernel))
theorem cp_s : Cond.static arraycopyName ∈ ALLg := (al_in (tb3 (List.mem_of_getElem? (i := 137) (by rfl))) (by decide +kernel))
theorem cp_i : Cond.initialized "java/lang/System" ∈ ALLg := (al_in (tb1 (List.mem_of_getElem? (i := 20) (by rfl))) (by decide +kernel))
theorem mx_X9_takeFrom : Mx yX9_takeFrom cX9_takeFrom 2 none 1 := ⟨(al_in (tb4 (List.mem_of_getElem? (i := 53) (by rfl))) (by decide +kernel)), (al_in (tb1 (List.mem_of_getElem? (i := 5) (by rfl))) (by decide +kernel)), ⟨by decide +kernel, by decide +kernel, by decide +kernel⟩, by decide⟩
theorem mi_X9_takeFrom : Cond.instanceMethod yX9_takeFrom ∈ ALLg := (al_in (tb4 (List.mem_of_getElem? (i := 51) (by rfl))) (by decide +kernel))
theorem ms_X9_takeFrom : Cond.selects (yX9_takeFrom).cls yX9_takeFrom yX9_takeFrom ∈ ALLg := (al_in (tb4 (List.mem_of_getElem? (i := 52) (by rfl))) (by decide +kernel))
theorem fl_X11_68 : Fl RX11 68 11 9 true (.object "StitchSays$Losses") := ⟨RX11, TX11, 14, tyX11, ⟨rfl, by decide, inX11, tyX11_ok, nmX11, rfl, by decide +kernel⟩, rfl, (al_in (tb2 (List.mem_of_getElem? (i := 92) (by rfl))) (by decide +kernel))⟩
theorem ml_X11_167 : Cond.methodLink RX11 167 yX3_tell ∈ ALLg := (al_in (tb4 (List.mem_of_getElem? (i := 59) (by rfl))) (by decide +kernel))
theorem ml_X3_31 : Cond.methodLink RX3 31 yX7_start ∈ ALLg := (al_in (tb4 (List.mem_of_getElem? (i := 63) (by rfl))) (by decide +kernel))
theorem fl_X3_27 : Fl RX3 27 3 3 false .int := ⟨RX3, TX3, 4, tyX3, ⟨rfl, by decide, inX3, tyX3_ok, nmX3, rfl, by decide +kernel⟩, rfl, (al_in (tb1 (List.mem_of_getElem? (i := 127) (by rfl))) (by decide +kernel))⟩
theorem ml_X3_36 : Cond.methodLink RX3 36 yX7_goesOn ∈ ALLg := (al_in (tb4 (List.mem_of_getElem? (i := 64) (by rfl))) (by decide +kernel))
theorem ml_X3_44 : Cond.methodLink RX3 44 yX7_isFine ∈ ALLg := (al_in (tb4 (List.mem_of_getElem? (i := 86) (by rfl))) (by decide +kernel))
theorem mx_X3_tell : Mx yX3_tell cX3_tell 3 (some .boolean) 1 := ⟨(al_in (tb4 (List.mem_of_getElem? (i := 62) (by rfl))) (by decide +kernel)), (al_in (tb1 (List.mem_of_getElem? (i := 6) (by rfl))) (by decide +kernel)), ⟨by decide +kernel, by decide +kernel, by decide +kernel⟩, by decide⟩
theorem mi_X3_tell : Cond.instanceMethod yX3_tell ∈ ALLg := (al_in (tb4 (List.mem_of_getElem? (i := 60) (by rfl))) (by decide +kernel))
theorem ms_X3_tell : Cond.selects (yX3_tell).cls yX3_tell yX3_tell ∈ ALLg := (al_in (tb4 (List.mem_of_getElem? (i := 61) (by rfl))) (by decide +kernel))
theorem ml_X11_171 : Cond.methodLink RX11 171 yX3_takeFrom ∈ ALLg := (al_in (tb4 (List.mem_of_getElem? (i := 87) (by rfl))) (by decide +kernel))
theorem mo_X3_21 : Cond.methodLink RX3 21 arraycopyName ∈ ALLg := (al_in (tb4 (List.mem_of_getElem? (i := 91) (by rfl))) (by decide +kernel))
theorem mx_X3_takeFrom : Mx yX3_takeFrom cX3_takeFrom 2 none 1 := ⟨(al_in (tb4 (List.mem_of_getElem? (i := 90) (by rfl))) (by decide +kernel)), (al_in (tb1 (List.mem_of_getElem? (i := 6) (by rfl))) (by decide +kernel)), ⟨by decide +kernel, by decide +kernel, by decide +kernel⟩, by decide⟩
theorem mi_X3_takeFrom : Cond.instanceMethod yX3_takeFrom ∈ ALLg := (al_in (tb4 (List.mem_of_getElem? (i := 88) (by rfl))) (by decide +kernel))
theorem ms_X3_takeFrom : Cond.selects (yX3_takeFrom).cls yX3_takeFrom yX3_takeFrom ∈ ALLg := (al_in (tb4 (List.mem_of_getElem? (i := 89) (by rfl))) (by decide +kernel))
