theorem mo_X0_3 : Cond.methodLink RX0 3 Lib.objectInit ∈ ALLg := (al_in (tb1 (List.mem_of_getElem? (i := 68) (by rfl))) (by decide +kernel))
theorem kl_X0_9 : Cond.classLink RX0 9 RX4 ∈ ALLg := (al_in (tb1 (List.mem_of_getElem? (i := 69) (by rfl))) (by decide +kernel))
theorem in_X4 : Cond.instantiable RX4 5 ∈ ALLg := (al_in (tb1 (List.mem_of_getElem? (i := 70) (by rfl))) (by decide +kernel))
theorem ii_X4 : Cond.initialized RX4 ∈ ALLg := (al_in (tb1 (List.mem_of_getElem? (i := 4) (by rfl))) (by decide +kernel))
theorem mn_X0_11 : Cond.methodLinkNest RX0 11 yX4_init "StitchSays" ∈ nestW := List.mem_of_getElem? (i := 5) (by rfl)
theorem mx_X4_init : Mx yX4_init cX4_init 1 none 0 := ⟨(al_in (tb1 (List.mem_of_getElem? (i := 73) (by rfl))) (by decide +kernel)), (al_in (tb1 (List.mem_of_getElem? (i := 4) (by rfl))) (by decide +kernel)), ⟨by decide +kernel, by decide +kernel, by decide +kernel⟩, by decide⟩
theorem mi_X4_init : Cond.instanceMethod yX4_init ∈ ALLg := (al_in (tb1 (List.mem_of_getElem? (i := 72) (by rfl))) (by decide +kernel))
theorem fl_X0_12 : Fl RX0 12 0 0 true (.object "StitchSays$Pattern") := ⟨RX0, TX0, 6, tyX0, ⟨rfl, by decide, inX0, tyX0_ok, nmX0, rfl, by decide +kernel⟩, rfl, (al_in (tb1 (List.mem_of_getElem? (i := 189) (by rfl))) (by decide +kernel))⟩
theorem fl_X0_18 : Fl RX0 18 0 1 true (.array .int) := ⟨RX0, TX0, 6, tyX0, ⟨rfl, by decide, inX0, tyX0_ok, nmX0, rfl, by decide +kernel⟩, rfl, (al_in (tb1 (List.mem_of_getElem? (i := 191) (by rfl))) (by decide +kernel))⟩
theorem kl_X0_22 : Cond.classLink RX0 22 RX10 ∈ ALLg := (al_in (tb1 (List.mem_of_getElem? (i := 99) (by rfl))) (by decide +kernel))
theorem ao_X10 : RX10 ∈ aoW := List.mem_of_getElem? (i := 3) rfl
theorem kl_X0_28 : Cond.classLink RX0 28 RX9 ∈ ALLg := (al_in (tb1 (List.mem_of_getElem? (i := 101) (by rfl))) (by decide +kernel))
theorem in_X9 : Cond.instantiable RX9 3 ∈ ALLg := (al_in (tb1 (List.mem_of_getElem? (i := 102) (by rfl))) (by decide +kernel))
theorem ii_X9 : Cond.initialized RX9 ∈ ALLg := (al_in (tb1 (List.mem_of_getElem? (i := 5) (by rfl))) (by decide +kernel))
theorem mn_X0_30 : Cond.methodLinkNest RX0 30 yX9_init "StitchSays" ∈ nestW := List.mem_of_getElem? (i := 14) (by rfl)
theorem mx_X9_init : Mx yX9_init cX9_init 1 none 0 := ⟨(al_in (tb1 (List.mem_of_getElem? (i := 105) (by rfl))) (by decide +kernel)), (al_in (tb1 (List.mem_of_getElem? (i := 5) (by rfl))) (by decide +kernel)), ⟨by decide +kernel, by decide +kernel, by decide +kernel⟩, by decide⟩
theorem mi_X9_init : Cond.instanceMethod yX9_init ∈ ALLg := (al_in (tb1 (List.mem_of_getElem? (i := 104) (by rfl))) (by decide +kernel))
theorem fl_X0_31 : Fl RX0 31 0 3 true (.object "StitchSays$Watcher") := ⟨RX0, TX0, 6, tyX0, ⟨rfl, by decide, inX0, tyX0_ok, nmX0, rfl, by decide +kernel⟩, rfl, (al_in (tb1 (List.mem_of_getElem? (i := 195) (by rfl))) (by decide +kernel))⟩
theorem kl_X0_35 : Cond.classLink RX0 35 RX3 ∈ ALLg := (al_in (tb1 (List.mem_of_getElem? (i := 118) (by rfl))) (by decide +kernel))
theorem in_X3 : Cond.instantiable RX3 4 ∈ ALLg := (al_in (tb1 (List.mem_of_getElem? (i := 119) (by rfl))) (by decide +kernel))
theorem ii_X3 : Cond.initialized RX3 ∈ ALLg := (al_in (tb1 (List.mem_of_getElem? (i := 6) (by rfl))) (by decide +kernel))
theorem mn_X0_37 : Cond.methodLinkNest RX0 37 yX3_init "StitchSays" ∈ nestW := List.mem_of_getElem? (i := 16) (by rfl)
theorem mx_X3_init : Mx yX3_init cX3_init 1 none 0 := ⟨(al_in (tb1 (List.mem_of_getElem? (i := 122) (by rfl))) (by decide +kernel)), (al_in (tb1 (List.mem_of_getElem? (i := 6) (by rfl))) (by decide +kernel)), ⟨by decide +kernel, by decide +kernel, by decide +kernel⟩, by decide⟩
theorem mi_X3_init : Cond.instanceMethod yX3_init ∈ ALLg := (al_in (tb1 (List.mem_of_getElem? (i := 121) (by rfl))) (by decide +kernel))
theorem fl_X0_38 : Fl RX0 38 0 4 true (.object "StitchSays$Losses") := ⟨RX0, TX0, 6, tyX0, ⟨rfl, by decide, inX0, tyX0_ok, nmX0, rfl, by decide +kernel⟩, rfl, (al_in (tb1 (List.mem_of_getElem? (i := 197) (by rfl))) (by decide +kernel))⟩
theorem kl_X0_42 : Cond.classLink RX0 42 RX1 ∈ ALLg := (al_in (tb1 (List.mem_of_getElem? (i := 138) (by rfl))) (by decide +kernel))
theorem ao_X1 : RX1 ∈ aoW := List.mem_of_getElem? (i := 1) rfl
theorem in_X10 : Cond.instantiable RX10 7 ∈ ALLg := (al_in (tb1 (List.mem_of_getElem? (i := 140) (by rfl))) (by decide +kernel))
theorem ii_X10 : Cond.initialized RX10 ∈ ALLg := (al_in (tb1 (List.mem_of_getElem? (i := 7) (by rfl))) (by decide +kernel))
theorem mn_X0_48 : Cond.methodLinkNest RX0 48 yX10_init "StitchSays" ∈ nestW := List.mem_of_getElem? (i := 18) (by rfl)
theorem mx_X10_init : Mx yX10_init cX10_init 1 none 0 := ⟨(al_in (tb1 (List.mem_of_getElem? (i := 143) (by rfl))) (by decide +kernel)), (al_in (tb1 (List.mem_of_getElem? (i := 7) (by rfl))) (by decide +kernel)), ⟨by decide +kernel, by decide +kernel, by decide +kernel⟩, by decide⟩
theorem mi_X10_init : Cond.instanceMethod yX10_init ∈ ALLg := (al_in (tb1 (List.mem_of_getElem? (i := 142) (by rfl))) (by decide +kernel))
theorem mn_X0_49 : Cond.methodLinkNest RX0 49 yX1_init "StitchSays" ∈ nestW := List.mem_of_getElem? (i := 26) (by rfl)
theorem mo_X11_3 : Cond.methodLink RX11 3 Lib.objectInit ∈ ALLg := (al_in (tb1 (List.mem_of_getElem? (i := 27) (by rfl))) (by decide +kernel))
theorem kl_X11_9 : Cond.classLink RX11 9 RX7 ∈ ALLg := (al_in (tb1 (List.mem_of_getElem? (i := 30) (by rfl))) (by decide +kernel))
theorem in_X7 : Cond.instantiable RX7 7 ∈ ALLg := (al_in (tb1 (List.mem_of_getElem? (i := 31) (by rfl))) (by decide +kernel))
theorem ii_X7 : Cond.initialized RX7 ∈ ALLg := (al_in (tb1 (List.mem_of_getElem? (i := 2) (by rfl))) (by decide +kernel))
theorem mn_X11_11 : Cond.methodLinkNest RX11 11 yX7_init "StitchSays" ∈ nestW := List.mem_of_getElem? (i := 0) (by rfl)
theorem mx_X7_init : Mx yX7_init cX7_init 1 none 0 := ⟨(al_in (tb1 (List.mem_of_getElem? (i := 34) (by rfl))) (by decide +kernel)), (al_in (tb1 (List.mem_of_getElem? (i := 2) (by rfl))) (by decide +kernel)), ⟨by decide +kernel, by decide +kernel, by decide +kernel⟩, by decide⟩
theorem mi_X7_init : Cond.instanceMethod yX7_init ∈ ALLg := (al_in (tb1 (List.mem_of_getElem? (i := 33) (by rfl))) (by decide +kernel))
theorem kl_X11_16 : Cond.classLink RX11 16 RX0 ∈ ALLg := (al_in (tb1 (List.mem_of_getElem? (i := 63) (by rfl))) (by decide +kernel))
theorem in_X0 : Cond.instantiable RX0 6 ∈ ALLg := (al_in (tb1 (List.mem_of_getElem? (i := 64) (by rfl))) (by decide +kernel))
theorem ii_X0 : Cond.initialized RX0 ∈ ALLg := (al_in (tb1 (List.mem_of_getElem? (i := 3) (by rfl))) (by decide +kernel))
theorem ml_X11_18 : Cond.methodLink RX11 18 yX0_init ∈ ALLg := (al_in (tb1 (List.mem_of_getElem? (i := 65) (by rfl))) (by decide +kernel))
theorem mx_X0_init : Mx yX0_init cX0_init 2 none 0 := ⟨(al_in (tb1 (List.mem_of_getElem? (i := 67) (by rfl))) (by decide +kernel)), (al_in (tb1 (List.mem_of_getElem? (i := 3) (by rfl))) (by decide +kernel)), ⟨by decide +kernel, by decide +kernel, by decide +kernel⟩, by decide⟩
theorem mi_X0_init : Cond.instanceMethod yX0_init ∈ ALLg := (al_in (tb1 (List.mem_of_getElem? (i := 66) (by rfl))) (by decide +kernel))
theorem ao_X0 : RX0 ∈ aoW := List.mem_of_getElem? (i := 0) rfl
theorem kl_X11_27 : Cond.classLink RX11 27 RX2 ∈ ALLg := (al_in (tb1 (List.mem_of_getElem? (i := 215) (by rfl))) (by decide +kernel))
theorem in_X2 : Cond.instantiable RX2 2 ∈ ALLg := (al_in (tb1 (List.mem_of_getElem? (i := 216) (by rfl))) (by decide +kernel))
theorem ii_X2 : Cond.initialized RX2 ∈ ALLg := (al_in (tb1 (List.mem_of_getElem? (i := 9) (by rfl))) (by decide +kernel))
theorem mn_X11_29 : Cond.methodLinkNest RX11 29 yX2_init "StitchSays" ∈ nestW := List.mem_of_getElem? (i := 35) (by rfl)
theorem mx_X2_init : Mx yX2_init cX2_init 1 none 0 := ⟨(al_in (tb1 (List.mem_of_getElem? (i := 219) (by rfl))) (by decide +kernel)), (al_in (tb1 (List.mem_of_getElem? (i := 9) (by rfl))) (by decide +kernel)), ⟨by decide +kernel, by decide +kernel, by decide +kernel⟩, by decide⟩
theorem mi_X2_init : Cond.instanceMethod yX2_init ∈ ALLg := (al_in (tb1 (List.mem_of_getElem? (i := 218) (by rfl))) (by decide +kernel))
theorem kl_X11_34 : Cond.classLink RX11 34 RX5 ∈ ALLg := (al_in (tb1 (List.mem_of_getElem? (i := 229) (by rfl))) (by decide +kernel))
theorem ao_X5 : RX5 ∈ aoW := List.mem_of_getElem? (i := 2) rfl
theorem kl_X11_40 : Cond.classLink RX11 40 RX4 ∈ ALLg := (al_in (tb1 (List.mem_of_getElem? (i := 231) (by rfl))) (by decide +kernel))
theorem mn_X11_42 : Cond.methodLinkNest RX11 42 yX4_init "StitchSays" ∈ nestW := List.mem_of_getElem? (i := 37) (by rfl)
theorem kl_X11_51 : Cond.classLink RX11 51 RX10 ∈ ALLg := (al_in (tb1 (List.mem_of_getElem? (i := 233) (by rfl))) (by decide +kernel))
theorem mn_X11_53 : Cond.methodLinkNest RX11 53 yX10_init "StitchSays" ∈ nestW := List.mem_of_getElem? (i := 38) (by rfl)
theorem kl_X11_58 : Cond.classLink RX11 58 RX9 ∈ ALLg := (al_in (tb1 (List.mem_of_getElem? (i := 235) (by rfl))) (by decide +kernel))
theorem mn_X11_60 : Cond.methodLinkNest RX11 60 yX9_init "StitchSays" ∈ nestW := List.mem_of_getElem? (i := 39) (by rfl)
theorem kl_X11_65 : Cond.classLink RX11 65 RX3 ∈ ALLg := (al_in (tb1 (List.mem_of_getElem? (i := 237) (by rfl))) (by decide +kernel))
theorem mn_X11_67 : Cond.methodLinkNest RX11 67 yX3_init "StitchSays" ∈ nestW := List.mem_of_getElem? (i := 40) (by rfl)
theorem fl_X11_72 : Fl RX11 72 11 10 true (.object "StitchSays$Letters") := ⟨RX11, TX11, 14, tyX11, ⟨rfl, by decide, inX11, tyX11_ok, nmX11, rfl, by decide +kernel⟩, rfl, (al_in (tb2 (List.mem_of_getElem? (i := 93) (by rfl))) (by decide +kernel))⟩
theorem kl_X11_75 : Cond.classLink RX11 75 RX8 ∈ ALLg := (al_in (tb1 (List.mem_of_getElem? (i := 239) (by rfl))) (by decide +kernel))
theorem in_X8 : Cond.instantiable RX8 5 ∈ ALLg := (al_in (tb2 (List.mem_of_getElem? (i := 0) (by rfl))) (by decide +kernel))
theorem ii_X8 : Cond.initialized RX8 ∈ ALLg := (al_in (tb1 (List.mem_of_getElem? (i := 10) (by rfl))) (by decide +kernel))
theorem mn_X11_77 : Cond.methodLinkNest RX11 77 yX8_init "StitchSays" ∈ nestW := List.mem_of_getElem? (i := 41) (by rfl)
theorem mx_X8_init : Mx yX8_init cX8_init 1 none 0 := ⟨(al_in (tb2 (List.mem_of_getElem? (i := 3) (by rfl))) (by decide +kernel)), (al_in (tb1 (List.mem_of_getElem? (i := 10) (by rfl))) (by decide +kernel)), ⟨by decide +kernel, by decide +kernel, by decide +kernel⟩, by decide⟩
theorem mi_X8_init : Cond.instanceMethod yX8_init ∈ ALLg := (al_in (tb2 (List.mem_of_getElem? (i := 2) (by rfl))) (by decide +kernel))
theorem fl_X11_78 : Fl RX11 78 11 11 true (.object "StitchSays$Walk") := ⟨RX11, TX11, 14, tyX11, ⟨rfl, by decide, inX11, tyX11_ok, nmX11, rfl, by decide +kernel⟩, rfl, (al_in (tb2 (List.mem_of_getElem? (i := 94) (by rfl))) (by decide +kernel))⟩
theorem kl_X11_82 : Cond.classLink RX11 82 RX1 ∈ ALLg := (al_in (tb2 (List.mem_of_getElem? (i := 23) (by rfl))) (by decide +kernel))
theorem mn_X11_84 : Cond.methodLinkNest RX11 84 yX1_init "StitchSays" ∈ nestW := List.mem_of_getElem? (i := 44) (by rfl)
theorem fl_X11_85 : Fl RX11 85 11 12 true (.object "StitchSays$Cloth") := ⟨RX11, TX11, 14, tyX11, ⟨rfl, by decide, inX11, tyX11_ok, nmX11, rfl, by decide +kernel⟩, rfl, (al_in (tb2 (List.mem_of_getElem? (i := 95) (by rfl))) (by decide +kernel))⟩
theorem kl_X11_89 : Cond.classLink RX11 89 RX6 ∈ ALLg := (al_in (tb2 (List.mem_of_getElem? (i := 25) (by rfl))) (by decide +kernel))
theorem in_X6 : Cond.instantiable RX6 10 ∈ ALLg := (al_in (tb2 (List.mem_of_getElem? (i := 26) (by rfl))) (by decide +kernel))
theorem ii_X6 : Cond.initialized RX6 ∈ ALLg := (al_in (tb1 (List.mem_of_getElem? (i := 11) (by rfl))) (by decide +kernel))
theorem mn_X11_91 : Cond.methodLinkNest RX11 91 yX6_init "StitchSays" ∈ nestW := List.mem_of_getElem? (i := 45) (by rfl)
theorem mx_X6_init : Mx yX6_init cX6_init 1 none 0 := ⟨(al_in (tb2 (List.mem_of_getElem? (i := 29) (by rfl))) (by decide +kernel)), (al_in (tb1 (List.mem_of_getElem? (i := 11) (by rfl))) (by decide +kernel)), ⟨by decide +kernel, by decide +kernel, by decide +kernel⟩, by decide⟩
theorem mi_X6_init : Cond.instanceMethod yX6_init ∈ ALLg := (al_in (tb2 (List.mem_of_getElem? (i := 28) (by rfl))) (by decide +kernel))
theorem fl_X11_92 : Fl RX11 92 11 13 true (.object "StitchSays$Tally") := ⟨RX11, TX11, 14, tyX11, ⟨rfl, by decide, inX11, tyX11_ok, nmX11, rfl, by decide +kernel⟩, rfl, (al_in (tb2 (List.mem_of_getElem? (i := 96) (by rfl))) (by decide +kernel))⟩
theorem in_X5 : Cond.instantiable RX5 3 ∈ ALLg := (al_in (tb2 (List.mem_of_getElem? (i := 64) (by rfl))) (by decide +kernel))
theorem ii_X5 : Cond.initialized RX5 ∈ ALLg := (al_in (tb1 (List.mem_of_getElem? (i := 12) (by rfl))) (by decide +kernel))
theorem mn_X11_96 : Cond.methodLinkNest RX11 96 yX5_init "StitchSays" ∈ nestW := List.mem_of_getElem? (i := 47) (by rfl)
theorem mx_X5_init : Mx yX5_init cX5_init 1 none 0 := ⟨(al_in (tb2 (List.mem_of_getElem? (i := 67) (by rfl))) (by decide +kernel)), (al_in (tb1 (List.mem_of_getElem? (i := 12) (by rfl))) (by decide +kernel)), ⟨by decide +kernel, by decide +kernel, by decide +kernel⟩, by decide⟩
theorem mi_X5_init : Cond.instanceMethod yX5_init ∈ ALLg := (al_in (tb2 (List.mem_of_getElem? (i := 66) (by rfl))) (by decide +kernel))
