theorem sr_X12_224 : (RX12, 224, "way", 47) ∈ strW := List.mem_of_getElem? (i := 47) (by rfl)
theorem sr_X12_226 : (RX12, 226, "over", 48) ∈ strW := List.mem_of_getElem? (i := 48) (by rfl)
theorem ml_X12_228 : Cond.methodLink RX12 228 yX12_sortsHere ∈ ALLg := (al_in (tb7 (List.mem_of_getElem? (i := 76) (by rfl))) (by decide +kernel))
theorem mx_X12_sortsHere : Mx yX12_sortsHere cX12_sortsHere 4 (some .int) 0 := ⟨(al_in (tb7 (List.mem_of_getElem? (i := 79) (by rfl))) (by decide +kernel)), (al_in (tb1 (List.mem_of_getElem? (i := 13) (by rfl))) (by decide +kernel)), ⟨by decide +kernel, by decide +kernel, by decide +kernel⟩, by decide⟩
theorem mi_X12_sortsHere : Cond.instanceMethod yX12_sortsHere ∈ ALLg := (al_in (tb7 (List.mem_of_getElem? (i := 78) (by rfl))) (by decide +kernel))
theorem ms_X12_sortsHere : Cond.selects (yX12_sortsHere).cls yX12_sortsHere yX12_sortsHere ∈ ALLg := (al_in (tb0 (List.mem_of_getElem? (i := 60) (by rfl))) (by decide +kernel))
theorem sr_X12_231 : (RX12, 231, "step", 49) ∈ strW := List.mem_of_getElem? (i := 49) (by rfl)
theorem sr_X12_233 : (RX12, 233, "group", 50) ∈ strW := List.mem_of_getElem? (i := 50) (by rfl)
theorem sr_X12_235 : (RX12, 235, "guard", 51) ∈ strW := List.mem_of_getElem? (i := 51) (by rfl)
theorem sr_X12_237 : (RX12, 237, "turn", 52) ∈ strW := List.mem_of_getElem? (i := 52) (by rfl)
theorem sr_X12_239 : (RX12, 239, "top", 53) ∈ strW := List.mem_of_getElem? (i := 53) (by rfl)
theorem ml_X12_87 : Cond.methodLink RX12 87 yX12_wide ∈ ALLg := (al_in (tb7 (List.mem_of_getElem? (i := 42) (by rfl))) (by decide +kernel))
theorem mx_X12_wide : Mx yX12_wide cX12_wide 1 (some .int) 0 := ⟨(al_in (tb7 (List.mem_of_getElem? (i := 45) (by rfl))) (by decide +kernel)), (al_in (tb1 (List.mem_of_getElem? (i := 13) (by rfl))) (by decide +kernel)), ⟨by decide +kernel, by decide +kernel, by decide +kernel⟩, by decide⟩
theorem mi_X12_wide : Cond.instanceMethod yX12_wide ∈ ALLg := (al_in (tb7 (List.mem_of_getElem? (i := 44) (by rfl))) (by decide +kernel))
theorem ms_X12_wide : Cond.selects (yX12_wide).cls yX12_wide yX12_wide ∈ ALLg := (al_in (tb0 (List.mem_of_getElem? (i := 56) (by rfl))) (by decide +kernel))
theorem ml_X12_200 : Cond.methodLink RX12 200 yX12_frees ∈ ALLg := (al_in (tb7 (List.mem_of_getElem? (i := 30) (by rfl))) (by decide +kernel))
theorem ml_X12_203 : Cond.methodLink RX12 203 yX12_area ∈ ALLg := (al_in (tb7 (List.mem_of_getElem? (i := 34) (by rfl))) (by decide +kernel))
theorem mx_X12_area : Mx yX12_area cX12_area 1 (some .int) 0 := ⟨(al_in (tb7 (List.mem_of_getElem? (i := 37) (by rfl))) (by decide +kernel)), (al_in (tb1 (List.mem_of_getElem? (i := 13) (by rfl))) (by decide +kernel)), ⟨by decide +kernel, by decide +kernel, by decide +kernel⟩, by decide⟩
theorem mi_X12_area : Cond.instanceMethod yX12_area ∈ ALLg := (al_in (tb7 (List.mem_of_getElem? (i := 36) (by rfl))) (by decide +kernel))
theorem ms_X12_area : Cond.selects (yX12_area).cls yX12_area yX12_area ∈ ALLg := (al_in (tb0 (List.mem_of_getElem? (i := 54) (by rfl))) (by decide +kernel))
theorem mx_X12_frees : Mx yX12_frees cX12_frees 3 (some .int) 0 := ⟨(al_in (tb7 (List.mem_of_getElem? (i := 33) (by rfl))) (by decide +kernel)), (al_in (tb1 (List.mem_of_getElem? (i := 13) (by rfl))) (by decide +kernel)), ⟨by decide +kernel, by decide +kernel, by decide +kernel⟩, by decide⟩
theorem mi_X12_frees : Cond.instanceMethod yX12_frees ∈ ALLg := (al_in (tb7 (List.mem_of_getElem? (i := 32) (by rfl))) (by decide +kernel))
theorem ms_X12_frees : Cond.selects (yX12_frees).cls yX12_frees yX12_frees ∈ ALLg := (al_in (tb0 (List.mem_of_getElem? (i := 53) (by rfl))) (by decide +kernel))
theorem ml_X12_386 : Cond.methodLink RX12 386 yJ9_max_7cf53 ∈ ALLg := (al_in (tb8 (List.mem_of_getElem? (i := 41) (by rfl))) (by decide +kernel))
theorem mm_X12_386 : Cond.methodLink RX12 386 Lib.Math.max.name ∈ ALLg := (al_in (tb8 (List.mem_of_getElem? (i := 41) (by rfl))) (by decide +kernel))
theorem mm_smax : Cond.static Lib.Math.max.name ∈ ALLg := (al_in (tb3 (List.mem_of_getElem? (i := 45) (by rfl))) (by decide +kernel))
theorem mm_cmax : Cond.code Lib.Math.max.name Lib.Math.max.code 2 (some .int) ∈ ALLg := (al_in (tb3 (List.mem_of_getElem? (i := 46) (by rfl))) (by decide +kernel))
theorem fl_X12_64 : Fl RX12 64 12 25 true (.array .int) := ⟨RX12, TX12, 29, tyX12, ⟨rfl, by decide, inX12, tyX12_ok, nmX12, rfl, by decide +kernel⟩, rfl, (al_in (tb6 (List.mem_of_getElem? (i := 109) (by rfl))) (by decide +kernel))⟩
theorem kl_X12_77 : Cond.constantLong RX12 77 2 ∈ ALLg := (al_in (tb6 (List.mem_of_getElem? (i := 177) (by rfl))) (by decide +kernel))
theorem fl_X12_20 : Fl RX12 20 12 3 true (.array .boolean) := ⟨RX12, TX12, 29, tyX12, ⟨rfl, by decide, inX12, tyX12_ok, nmX12, rfl, by decide +kernel⟩, rfl, (al_in (tb6 (List.mem_of_getElem? (i := 87) (by rfl))) (by decide +kernel))⟩
theorem ml_X12_425 : Cond.methodLink RX12 425 yX12_isSlot ∈ ALLg := (al_in (tb8 (List.mem_of_getElem? (i := 142) (by rfl))) (by decide +kernel))
theorem mx_X12_isSlot : Mx yX12_isSlot cX12_isSlot 1 (some .boolean) 1 := ⟨(al_in (tb8 (List.mem_of_getElem? (i := 144) (by rfl))) (by decide +kernel)), (al_in (tb1 (List.mem_of_getElem? (i := 13) (by rfl))) (by decide +kernel)), ⟨by decide +kernel, by decide +kernel, by decide +kernel⟩, by decide⟩
theorem mt_X12_isSlot : Cond.static yX12_isSlot ∈ ALLg := (al_in (tb8 (List.mem_of_getElem? (i := 143) (by rfl))) (by decide +kernel))
theorem fl_X12_17 : Fl RX12 17 12 2 true (.array .int) := ⟨RX12, TX12, 29, tyX12, ⟨rfl, by decide, inX12, tyX12_ok, nmX12, rfl, by decide +kernel⟩, rfl, (al_in (tb6 (List.mem_of_getElem? (i := 86) (by rfl))) (by decide +kernel))⟩
theorem fl_X12_67 : Fl RX12 67 12 26 true (.array .int) := ⟨RX12, TX12, 29, tyX12, ⟨rfl, by decide, inX12, tyX12_ok, nmX12, rfl, by decide +kernel⟩, rfl, (al_in (tb6 (List.mem_of_getElem? (i := 110) (by rfl))) (by decide +kernel))⟩
theorem fl_X12_70 : Fl RX12 70 12 27 true (.array .long) := ⟨RX12, TX12, 29, tyX12, ⟨rfl, by decide, inX12, tyX12_ok, nmX12, rfl, by decide +kernel⟩, rfl, (al_in (tb6 (List.mem_of_getElem? (i := 111) (by rfl))) (by decide +kernel))⟩
theorem mo_X12_7 : Cond.methodLink RX12 7 Lib.objectInit ∈ ALLg := (al_in (tb6 (List.mem_of_getElem? (i := 84) (by rfl))) (by decide +kernel))
theorem ac_boolean : Cond.arrayClass .boolean ∈ ALLg := (al_in (tb6 (List.mem_of_getElem? (i := 172) (by rfl))) (by decide +kernel))
theorem fl_X12_37 : Fl RX12 37 12 15 true (.array .int) := ⟨RX12, TX12, 29, tyX12, ⟨rfl, by decide, inX12, tyX12_ok, nmX12, rfl, by decide +kernel⟩, rfl, (al_in (tb6 (List.mem_of_getElem? (i := 99) (by rfl))) (by decide +kernel))⟩
theorem fl_X12_40 : Fl RX12 40 12 16 true (.array .int) := ⟨RX12, TX12, 29, tyX12, ⟨rfl, by decide, inX12, tyX12_ok, nmX12, rfl, by decide +kernel⟩, rfl, (al_in (tb6 (List.mem_of_getElem? (i := 100) (by rfl))) (by decide +kernel))⟩
theorem fl_X12_43 : Fl RX12 43 12 18 true (.array .int) := ⟨RX12, TX12, 29, tyX12, ⟨rfl, by decide, inX12, tyX12_ok, nmX12, rfl, by decide +kernel⟩, rfl, (al_in (tb6 (List.mem_of_getElem? (i := 102) (by rfl))) (by decide +kernel))⟩
theorem fl_X12_46 : Fl RX12 46 12 19 true (.array .int) := ⟨RX12, TX12, 29, tyX12, ⟨rfl, by decide, inX12, tyX12_ok, nmX12, rfl, by decide +kernel⟩, rfl, (al_in (tb6 (List.mem_of_getElem? (i := 103) (by rfl))) (by decide +kernel))⟩
theorem fl_X12_52 : Fl RX12 52 12 21 true (.array .int) := ⟨RX12, TX12, 29, tyX12, ⟨rfl, by decide, inX12, tyX12_ok, nmX12, rfl, by decide +kernel⟩, rfl, (al_in (tb6 (List.mem_of_getElem? (i := 105) (by rfl))) (by decide +kernel))⟩
theorem fl_X12_55 : Fl RX12 55 12 22 true (.array .int) := ⟨RX12, TX12, 29, tyX12, ⟨rfl, by decide, inX12, tyX12_ok, nmX12, rfl, by decide +kernel⟩, rfl, (al_in (tb6 (List.mem_of_getElem? (i := 106) (by rfl))) (by decide +kernel))⟩
theorem fl_X12_58 : Fl RX12 58 12 23 true (.array .int) := ⟨RX12, TX12, 29, tyX12, ⟨rfl, by decide, inX12, tyX12_ok, nmX12, rfl, by decide +kernel⟩, rfl, (al_in (tb6 (List.mem_of_getElem? (i := 107) (by rfl))) (by decide +kernel))⟩
theorem fl_X12_61 : Fl RX12 61 12 24 true (.array .int) := ⟨RX12, TX12, 29, tyX12, ⟨rfl, by decide, inX12, tyX12_ok, nmX12, rfl, by decide +kernel⟩, rfl, (al_in (tb6 (List.mem_of_getElem? (i := 108) (by rfl))) (by decide +kernel))⟩
theorem fl_X12_74 : Fl RX12 74 12 28 true (.array .long) := ⟨RX12, TX12, 29, tyX12, ⟨rfl, by decide, inX12, tyX12_ok, nmX12, rfl, by decide +kernel⟩, rfl, (al_in (tb6 (List.mem_of_getElem? (i := 112) (by rfl))) (by decide +kernel))⟩
