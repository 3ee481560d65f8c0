theorem fl_X12_34 : Fl RX12 34 12 14 true (.array .int) := ⟨RX12, TX12, 29, tyX12, ⟨rfl, by decide, inX12, tyX12_ok, nmX12, rfl, by decide +kernel⟩, rfl, (al_in (tb6 (List.mem_of_getElem? (i := 98) (by rfl))) (by decide +kernel))⟩
theorem fl_X12_31 : Fl RX12 31 12 13 false .int := ⟨RX12, TX12, 29, tyX12, ⟨rfl, by decide, inX12, tyX12_ok, nmX12, rfl, by decide +kernel⟩, rfl, (al_in (tb6 (List.mem_of_getElem? (i := 97) (by rfl))) (by decide +kernel))⟩
theorem fl_X12_111 : Fl RX12 111 12 12 false .int := ⟨RX12, TX12, 29, tyX12, ⟨rfl, by decide, inX12, tyX12_ok, nmX12, rfl, by decide +kernel⟩, rfl, (al_in (tb6 (List.mem_of_getElem? (i := 96) (by rfl))) (by decide +kernel))⟩
theorem fl_X12_102 : Fl RX12 102 12 5 false .int := ⟨RX12, TX12, 29, tyX12, ⟨rfl, by decide, inX12, tyX12_ok, nmX12, rfl, by decide +kernel⟩, rfl, (al_in (tb6 (List.mem_of_getElem? (i := 89) (by rfl))) (by decide +kernel))⟩
theorem fl_X12_28 : Fl RX12 28 12 6 true (.array .int) := ⟨RX12, TX12, 29, tyX12, ⟨rfl, by decide, inX12, tyX12_ok, nmX12, rfl, by decide +kernel⟩, rfl, (al_in (tb6 (List.mem_of_getElem? (i := 90) (by rfl))) (by decide +kernel))⟩
theorem fl_X12_24 : Fl RX12 24 12 4 true (.array .byte) := ⟨RX12, TX12, 29, tyX12, ⟨rfl, by decide, inX12, tyX12_ok, nmX12, rfl, by decide +kernel⟩, rfl, (al_in (tb6 (List.mem_of_getElem? (i := 88) (by rfl))) (by decide +kernel))⟩
theorem ml_X12_181 : Cond.methodLink RX12 181 yX12_begin ∈ ALLg := (al_in (tb6 (List.mem_of_getElem? (i := 201) (by rfl))) (by decide +kernel))
theorem fl_X12_105 : Fl RX12 105 12 7 false .int := ⟨RX12, TX12, 29, tyX12, ⟨rfl, by decide, inX12, tyX12_ok, nmX12, rfl, by decide +kernel⟩, rfl, (al_in (tb6 (List.mem_of_getElem? (i := 91) (by rfl))) (by decide +kernel))⟩
theorem fl_X12_108 : Fl RX12 108 12 8 false .int := ⟨RX12, TX12, 29, tyX12, ⟨rfl, by decide, inX12, tyX12_ok, nmX12, rfl, by decide +kernel⟩, rfl, (al_in (tb6 (List.mem_of_getElem? (i := 92) (by rfl))) (by decide +kernel))⟩
theorem mx_X12_begin : Mx yX12_begin cX12_begin 1 none 0 := ⟨(al_in (tb6 (List.mem_of_getElem? (i := 204) (by rfl))) (by decide +kernel)), (al_in (tb1 (List.mem_of_getElem? (i := 13) (by rfl))) (by decide +kernel)), ⟨by decide +kernel, by decide +kernel, by decide +kernel⟩, by decide⟩
theorem mi_X12_begin : Cond.instanceMethod yX12_begin ∈ ALLg := (al_in (tb6 (List.mem_of_getElem? (i := 203) (by rfl))) (by decide +kernel))
theorem ms_X12_begin : Cond.selects (yX12_begin).cls yX12_begin yX12_begin ∈ ALLg := (al_in (tb0 (List.mem_of_getElem? (i := 39) (by rfl))) (by decide +kernel))
theorem ml_X12_156 : Cond.methodLink RX12 156 yX12_advance ∈ ALLg := (al_in (tb6 (List.mem_of_getElem? (i := 209) (by rfl))) (by decide +kernel))
theorem ml_X12_114 : Cond.methodLink RX12 114 yX12_see ∈ ALLg := (al_in (tb6 (List.mem_of_getElem? (i := 213) (by rfl))) (by decide +kernel))
theorem mx_X12_see : Mx yX12_see cX12_see 2 (some .int) 1 := ⟨(al_in (tb6 (List.mem_of_getElem? (i := 216) (by rfl))) (by decide +kernel)), (al_in (tb1 (List.mem_of_getElem? (i := 13) (by rfl))) (by decide +kernel)), ⟨by decide +kernel, by decide +kernel, by decide +kernel⟩, by decide⟩
theorem mi_X12_see : Cond.instanceMethod yX12_see ∈ ALLg := (al_in (tb6 (List.mem_of_getElem? (i := 215) (by rfl))) (by decide +kernel))
theorem ms_X12_see : Cond.selects (yX12_see).cls yX12_see yX12_see ∈ ALLg := (al_in (tb0 (List.mem_of_getElem? (i := 42) (by rfl))) (by decide +kernel))
theorem fl_X12_117 : Fl RX12 117 12 9 false .int := ⟨RX12, TX12, 29, tyX12, ⟨rfl, by decide, inX12, tyX12_ok, nmX12, rfl, by decide +kernel⟩, rfl, (al_in (tb6 (List.mem_of_getElem? (i := 93) (by rfl))) (by decide +kernel))⟩
theorem fl_X12_120 : Fl RX12 120 12 10 false .int := ⟨RX12, TX12, 29, tyX12, ⟨rfl, by decide, inX12, tyX12_ok, nmX12, rfl, by decide +kernel⟩, rfl, (al_in (tb6 (List.mem_of_getElem? (i := 94) (by rfl))) (by decide +kernel))⟩
theorem mx_X12_advance : Mx yX12_advance cX12_advance 2 none 0 := ⟨(al_in (tb6 (List.mem_of_getElem? (i := 212) (by rfl))) (by decide +kernel)), (al_in (tb1 (List.mem_of_getElem? (i := 13) (by rfl))) (by decide +kernel)), ⟨by decide +kernel, by decide +kernel, by decide +kernel⟩, by decide⟩
theorem mi_X12_advance : Cond.instanceMethod yX12_advance ∈ ALLg := (al_in (tb6 (List.mem_of_getElem? (i := 211) (by rfl))) (by decide +kernel))
theorem ms_X12_advance : Cond.selects (yX12_advance).cls yX12_advance yX12_advance ∈ ALLg := (al_in (tb0 (List.mem_of_getElem? (i := 41) (by rfl))) (by decide +kernel))
theorem ml_X12_139 : Cond.methodLink RX12 139 yX12_good ∈ ALLg := (al_in (tb6 (List.mem_of_getElem? (i := 239) (by rfl))) (by decide +kernel))
theorem mx_X12_good : Mx yX12_good cX12_good 1 (some .boolean) 0 := ⟨(al_in (tb7 (List.mem_of_getElem? (i := 2) (by rfl))) (by decide +kernel)), (al_in (tb1 (List.mem_of_getElem? (i := 13) (by rfl))) (by decide +kernel)), ⟨by decide +kernel, by decide +kernel, by decide +kernel⟩, by decide⟩
theorem mi_X12_good : Cond.instanceMethod yX12_good ∈ ALLg := (al_in (tb7 (List.mem_of_getElem? (i := 1) (by rfl))) (by decide +kernel))
theorem ms_X12_good : Cond.selects (yX12_good).cls yX12_good yX12_good ∈ ALLg := (al_in (tb0 (List.mem_of_getElem? (i := 47) (by rfl))) (by decide +kernel))
theorem ml_X12_197 : Cond.methodLink RX12 197 yX12_keeps ∈ ALLg := (al_in (tb7 (List.mem_of_getElem? (i := 26) (by rfl))) (by decide +kernel))
theorem mx_X12_keeps : Mx yX12_keeps cX12_keeps 4 none 2 := ⟨(al_in (tb7 (List.mem_of_getElem? (i := 29) (by rfl))) (by decide +kernel)), (al_in (tb1 (List.mem_of_getElem? (i := 13) (by rfl))) (by decide +kernel)), ⟨by decide +kernel, by decide +kernel, by decide +kernel⟩, by decide⟩
theorem mi_X12_keeps : Cond.instanceMethod yX12_keeps ∈ ALLg := (al_in (tb7 (List.mem_of_getElem? (i := 28) (by rfl))) (by decide +kernel))
theorem ms_X12_keeps : Cond.selects (yX12_keeps).cls yX12_keeps yX12_keeps ∈ ALLg := (al_in (tb0 (List.mem_of_getElem? (i := 52) (by rfl))) (by decide +kernel))
theorem ml_X12_184 : Cond.methodLink RX12 184 yX12_clears ∈ ALLg := (al_in (tb6 (List.mem_of_getElem? (i := 205) (by rfl))) (by decide +kernel))
theorem mx_X12_clears : Mx yX12_clears cX12_clears 4 none 2 := ⟨(al_in (tb6 (List.mem_of_getElem? (i := 208) (by rfl))) (by decide +kernel)), (al_in (tb1 (List.mem_of_getElem? (i := 13) (by rfl))) (by decide +kernel)), ⟨by decide +kernel, by decide +kernel, by decide +kernel⟩, by decide⟩
theorem mi_X12_clears : Cond.instanceMethod yX12_clears ∈ ALLg := (al_in (tb6 (List.mem_of_getElem? (i := 207) (by rfl))) (by decide +kernel))
theorem ms_X12_clears : Cond.selects (yX12_clears).cls yX12_clears yX12_clears ∈ ALLg := (al_in (tb0 (List.mem_of_getElem? (i := 40) (by rfl))) (by decide +kernel))
theorem sr_X12_188 : (RX12, 188, "wide", 40) ∈ strW := List.mem_of_getElem? (i := 40) (by rfl)
theorem ml_X12_189 : Cond.methodLink RX12 189 yX12_told ∈ ALLg := (al_in (tb6 (List.mem_of_getElem? (i := 223) (by rfl))) (by decide +kernel))
theorem ml_X12_166 : Cond.methodLink RX12 166 yX12_needs ∈ ALLg := (al_in (tb6 (List.mem_of_getElem? (i := 227) (by rfl))) (by decide +kernel))
theorem ml_X12_159 : Cond.methodLink RX12 159 yX12_takes ∈ ALLg := (al_in (tb6 (List.mem_of_getElem? (i := 231) (by rfl))) (by decide +kernel))
theorem ml_X12_152 : Cond.methodLink RX12 152 yX12_is ∈ ALLg := (al_in (tb6 (List.mem_of_getElem? (i := 235) (by rfl))) (by decide +kernel))
theorem ml_X12_143 : Cond.methodLink RX12 143 yJ0_length_8abf5 ∈ ALLg := (al_in (tb7 (List.mem_of_getElem? (i := 3) (by rfl))) (by decide +kernel))
theorem mx_J0_length_8abf5 : Mx yJ0_length_8abf5 cJ0_length_8abf5 1 (some .int) 0 := ⟨(al_in (tb2 (List.mem_of_getElem? (i := 187) (by rfl))) (by decide +kernel)), (al_in (tb1 (List.mem_of_getElem? (i := 15) (by rfl))) (by decide +kernel)), ⟨by decide +kernel, by decide +kernel, by decide +kernel⟩, by decide⟩
theorem mi_J0_length_8abf5 : Cond.instanceMethod yJ0_length_8abf5 ∈ ALLg := (al_in (tb2 (List.mem_of_getElem? (i := 185) (by rfl))) (by decide +kernel))
theorem ms_J0_length_8abf5 : Cond.selects (yJ0_length_8abf5).cls yJ0_length_8abf5 yJ0_length_8abf5 ∈ ALLg := (al_in (tb2 (List.mem_of_getElem? (i := 186) (by rfl))) (by decide +kernel))
theorem mx_X12_is : Mx yX12_is cX12_is 4 (some .boolean) 1 := ⟨(al_in (tb6 (List.mem_of_getElem? (i := 238) (by rfl))) (by decide +kernel)), (al_in (tb1 (List.mem_of_getElem? (i := 13) (by rfl))) (by decide +kernel)), ⟨by decide +kernel, by decide +kernel, by decide +kernel⟩, by decide⟩
theorem mi_X12_is : Cond.instanceMethod yX12_is ∈ ALLg := (al_in (tb6 (List.mem_of_getElem? (i := 237) (by rfl))) (by decide +kernel))
theorem ms_X12_is : Cond.selects (yX12_is).cls yX12_is yX12_is ∈ ALLg := (al_in (tb0 (List.mem_of_getElem? (i := 46) (by rfl))) (by decide +kernel))
theorem mx_X12_takes : Mx yX12_takes cX12_takes 3 (some .boolean) 1 := ⟨(al_in (tb6 (List.mem_of_getElem? (i := 234) (by rfl))) (by decide +kernel)), (al_in (tb1 (List.mem_of_getElem? (i := 13) (by rfl))) (by decide +kernel)), ⟨by decide +kernel, by decide +kernel, by decide +kernel⟩, by decide⟩
theorem mi_X12_takes : Cond.instanceMethod yX12_takes ∈ ALLg := (al_in (tb6 (List.mem_of_getElem? (i := 233) (by rfl))) (by decide +kernel))
theorem ms_X12_takes : Cond.selects (yX12_takes).cls yX12_takes yX12_takes ∈ ALLg := (al_in (tb0 (List.mem_of_getElem? (i := 45) (by rfl))) (by decide +kernel))
theorem ml_X12_162 : Cond.methodLink RX12 162 yX12_errs ∈ ALLg := (al_in (tb7 (List.mem_of_getElem? (i := 5) (by rfl))) (by decide +kernel))
theorem mx_X12_errs : Mx yX12_errs cX12_errs 2 none 1 := ⟨(al_in (tb7 (List.mem_of_getElem? (i := 8) (by rfl))) (by decide +kernel)), (al_in (tb1 (List.mem_of_getElem? (i := 13) (by rfl))) (by decide +kernel)), ⟨by decide +kernel, by decide +kernel, by decide +kernel⟩, by decide⟩
theorem mi_X12_errs : Cond.instanceMethod yX12_errs ∈ ALLg := (al_in (tb7 (List.mem_of_getElem? (i := 7) (by rfl))) (by decide +kernel))
theorem ms_X12_errs : Cond.selects (yX12_errs).cls yX12_errs yX12_errs ∈ ALLg := (al_in (tb0 (List.mem_of_getElem? (i := 48) (by rfl))) (by decide +kernel))
theorem mx_X12_needs : Mx yX12_needs cX12_needs 2 none 1 := ⟨(al_in (tb6 (List.mem_of_getElem? (i := 230) (by rfl))) (by decide +kernel)), (al_in (tb1 (List.mem_of_getElem? (i := 13) (by rfl))) (by decide +kernel)), ⟨by decide +kernel, by decide +kernel, by decide +kernel⟩, by decide⟩
theorem mi_X12_needs : Cond.instanceMethod yX12_needs ∈ ALLg := (al_in (tb6 (List.mem_of_getElem? (i := 229) (by rfl))) (by decide +kernel))
theorem ms_X12_needs : Cond.selects (yX12_needs).cls yX12_needs yX12_needs ∈ ALLg := (al_in (tb0 (List.mem_of_getElem? (i := 44) (by rfl))) (by decide +kernel))
theorem ml_X12_170 : Cond.methodLink RX12 170 yX12_number ∈ ALLg := (al_in (tb7 (List.mem_of_getElem? (i := 9) (by rfl))) (by decide +kernel))
theorem mx_X12_number : Mx yX12_number cX12_number 4 (some .int) 2 := ⟨(al_in (tb7 (List.mem_of_getElem? (i := 12) (by rfl))) (by decide +kernel)), (al_in (tb1 (List.mem_of_getElem? (i := 13) (by rfl))) (by decide +kernel)), ⟨by decide +kernel, by decide +kernel, by decide +kernel⟩, by decide⟩
theorem mi_X12_number : Cond.instanceMethod yX12_number ∈ ALLg := (al_in (tb7 (List.mem_of_getElem? (i := 11) (by rfl))) (by decide +kernel))
theorem ms_X12_number : Cond.selects (yX12_number).cls yX12_number yX12_number ∈ ALLg := (al_in (tb0 (List.mem_of_getElem? (i := 49) (by rfl))) (by decide +kernel))
theorem mx_X12_told : Mx yX12_told cX12_told 4 (some .int) 3 := ⟨(al_in (tb6 (List.mem_of_getElem? (i := 226) (by rfl))) (by decide +kernel)), (al_in (tb1 (List.mem_of_getElem? (i := 13) (by rfl))) (by decide +kernel)), ⟨by decide +kernel, by decide +kernel, by decide +kernel⟩, by decide⟩
theorem mi_X12_told : Cond.instanceMethod yX12_told ∈ ALLg := (al_in (tb6 (List.mem_of_getElem? (i := 225) (by rfl))) (by decide +kernel))
theorem ms_X12_told : Cond.selects (yX12_told).cls yX12_told yX12_told ∈ ALLg := (al_in (tb0 (List.mem_of_getElem? (i := 43) (by rfl))) (by decide +kernel))
theorem sr_X12_193 : (RX12, 193, "rows", 41) ∈ strW := List.mem_of_getElem? (i := 41) (by rfl)
theorem ml_X12_178 : Cond.methodLink RX12 178 yX12_ends ∈ ALLg := (al_in (tb7 (List.mem_of_getElem? (i := 14) (by rfl))) (by decide +kernel))
theorem mx_X12_ends : Mx yX12_ends cX12_ends 1 none 0 := ⟨(al_in (tb7 (List.mem_of_getElem? (i := 17) (by rfl))) (by decide +kernel)), (al_in (tb1 (List.mem_of_getElem? (i := 13) (by rfl))) (by decide +kernel)), ⟨by decide +kernel, by decide +kernel, by decide +kernel⟩, by decide⟩
theorem mi_X12_ends : Cond.instanceMethod yX12_ends ∈ ALLg := (al_in (tb7 (List.mem_of_getElem? (i := 16) (by rfl))) (by decide +kernel))
theorem ms_X12_ends : Cond.selects (yX12_ends).cls yX12_ends yX12_ends ∈ ALLg := (al_in (tb0 (List.mem_of_getElem? (i := 50) (by rfl))) (by decide +kernel))
theorem ml_X12_194 : Cond.methodLink RX12 194 yX12_readRow ∈ ALLg := (al_in (tb7 (List.mem_of_getElem? (i := 18) (by rfl))) (by decide +kernel))
theorem sr_X12_173 : (RX12, 173, "row", 42) ∈ strW := List.mem_of_getElem? (i := 42) (by rfl)
theorem mx_X12_readRow : Mx yX12_readRow cX12_readRow 5 none 0 := ⟨(al_in (tb7 (List.mem_of_getElem? (i := 21) (by rfl))) (by decide +kernel)), (al_in (tb1 (List.mem_of_getElem? (i := 13) (by rfl))) (by decide +kernel)), ⟨by decide +kernel, by decide +kernel, by decide +kernel⟩, by decide⟩
theorem mi_X12_readRow : Cond.instanceMethod yX12_readRow ∈ ALLg := (al_in (tb7 (List.mem_of_getElem? (i := 20) (by rfl))) (by decide +kernel))
theorem ms_X12_readRow : Cond.selects (yX12_readRow).cls yX12_readRow yX12_readRow ∈ ALLg := (al_in (tb0 (List.mem_of_getElem? (i := 51) (by rfl))) (by decide +kernel))
theorem sr_X12_210 : (RX12, 210, "hand", 43) ∈ strW := List.mem_of_getElem? (i := 43) (by rfl)
theorem sr_X12_212 : (RX12, 212, "f", 44) ∈ strW := List.mem_of_getElem? (i := 44) (by rfl)
theorem sr_X12_214 : (RX12, 214, "h", 45) ∈ strW := List.mem_of_getElem? (i := 45) (by rfl)
theorem sr_X12_216 : (RX12, 216, "m", 46) ∈ strW := List.mem_of_getElem? (i := 46) (by rfl)
theorem ml_X12_218 : Cond.methodLink RX12 218 yX12_endsAll ∈ ALLg := (al_in (tb7 (List.mem_of_getElem? (i := 62) (by rfl))) (by decide +kernel))
theorem mx_X12_endsAll : Mx yX12_endsAll cX12_endsAll 1 none 0 := ⟨(al_in (tb7 (List.mem_of_getElem? (i := 65) (by rfl))) (by decide +kernel)), (al_in (tb1 (List.mem_of_getElem? (i := 13) (by rfl))) (by decide +kernel)), ⟨by decide +kernel, by decide +kernel, by decide +kernel⟩, by decide⟩
theorem mi_X12_endsAll : Cond.instanceMethod yX12_endsAll ∈ ALLg := (al_in (tb7 (List.mem_of_getElem? (i := 64) (by rfl))) (by decide +kernel))
theorem ms_X12_endsAll : Cond.selects (yX12_endsAll).cls yX12_endsAll yX12_endsAll ∈ ALLg := (al_in (tb0 (List.mem_of_getElem? (i := 59) (by rfl))) (by decide +kernel))
