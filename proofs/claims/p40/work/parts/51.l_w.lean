theorem ml_L_13 : Cond.methodLink RL 13 yX11_feed ∈ ALLg := (al_in (tb2 (List.mem_of_getElem? (i := 126) (by rfl))) (by decide +kernel))
theorem mx_X11_feed : Mx yX11_feed cX11_feed 6 (some .int) 5 := ⟨(al_in (tb2 (List.mem_of_getElem? (i := 129) (by rfl))) (by decide +kernel)), (al_in (tb1 (List.mem_of_getElem? (i := 1) (by rfl))) (by decide +kernel)), ⟨by decide +kernel, by decide +kernel, by decide +kernel⟩, by decide⟩
theorem mi_X11_feed : Cond.instanceMethod yX11_feed ∈ ALLg := (al_in (tb2 (List.mem_of_getElem? (i := 127) (by rfl))) (by decide +kernel))
theorem ms_X11_feed : Cond.selects (yX11_feed).cls yX11_feed yX11_feed ∈ ALLg := (al_in (tb2 (List.mem_of_getElem? (i := 128) (by rfl))) (by decide +kernel))
theorem ml_L_17 : Cond.methodLink RL 17 yX12_feed ∈ ALLg := (al_in (tb6 (List.mem_of_getElem? (i := 185) (by rfl))) (by decide +kernel))
theorem mx_X12_feed : Mx yX12_feed cX12_feed 7 (some .int) 5 := ⟨(al_in (tb6 (List.mem_of_getElem? (i := 188) (by rfl))) (by decide +kernel)), (al_in (tb1 (List.mem_of_getElem? (i := 13) (by rfl))) (by decide +kernel)), ⟨by decide +kernel, by decide +kernel, by decide +kernel⟩, by decide⟩
theorem mi_X12_feed : Cond.instanceMethod yX12_feed ∈ ALLg := (al_in (tb6 (List.mem_of_getElem? (i := 186) (by rfl))) (by decide +kernel))
theorem ms_X12_feed : Cond.selects (yX12_feed).cls yX12_feed yX12_feed ∈ ALLg := (al_in (tb6 (List.mem_of_getElem? (i := 187) (by rfl))) (by decide +kernel))
theorem ml_L_18 : Cond.methodLink RL 18 yX11_end ∈ ALLg := (al_in (tb2 (List.mem_of_getElem? (i := 138) (by rfl))) (by decide +kernel))
theorem mx_X11_end : Mx yX11_end cX11_end 2 (some .int) 1 := ⟨(al_in (tb2 (List.mem_of_getElem? (i := 141) (by rfl))) (by decide +kernel)), (al_in (tb1 (List.mem_of_getElem? (i := 1) (by rfl))) (by decide +kernel)), ⟨by decide +kernel, by decide +kernel, by decide +kernel⟩, by decide⟩
theorem mi_X11_end : Cond.instanceMethod yX11_end ∈ ALLg := (al_in (tb2 (List.mem_of_getElem? (i := 139) (by rfl))) (by decide +kernel))
theorem ms_X11_end : Cond.selects (yX11_end).cls yX11_end yX11_end ∈ ALLg := (al_in (tb2 (List.mem_of_getElem? (i := 140) (by rfl))) (by decide +kernel))
theorem ml_L_22 : Cond.methodLink RL 22 yX12_end ∈ ALLg := (al_in (tb6 (List.mem_of_getElem? (i := 189) (by rfl))) (by decide +kernel))
theorem mx_X12_end : Mx yX12_end cX12_end 2 (some .int) 1 := ⟨(al_in (tb6 (List.mem_of_getElem? (i := 192) (by rfl))) (by decide +kernel)), (al_in (tb1 (List.mem_of_getElem? (i := 13) (by rfl))) (by decide +kernel)), ⟨by decide +kernel, by decide +kernel, by decide +kernel⟩, by decide⟩
theorem mi_X12_end : Cond.instanceMethod yX12_end ∈ ALLg := (al_in (tb6 (List.mem_of_getElem? (i := 190) (by rfl))) (by decide +kernel))
theorem ms_X12_end : Cond.selects (yX12_end).cls yX12_end yX12_end ∈ ALLg := (al_in (tb6 (List.mem_of_getElem? (i := 191) (by rfl))) (by decide +kernel))
theorem ml_L_23 : Cond.methodLink RL 23 yX11_pattern ∈ ALLg := (al_in (tb2 (List.mem_of_getElem? (i := 142) (by rfl))) (by decide +kernel))
theorem mx_X11_pattern : Mx yX11_pattern cX11_pattern 2 (some .int) 0 := ⟨(al_in (tb2 (List.mem_of_getElem? (i := 145) (by rfl))) (by decide +kernel)), (al_in (tb1 (List.mem_of_getElem? (i := 1) (by rfl))) (by decide +kernel)), ⟨by decide +kernel, by decide +kernel, by decide +kernel⟩, by decide⟩
theorem mi_X11_pattern : Cond.instanceMethod yX11_pattern ∈ ALLg := (al_in (tb2 (List.mem_of_getElem? (i := 143) (by rfl))) (by decide +kernel))
theorem ms_X11_pattern : Cond.selects (yX11_pattern).cls yX11_pattern yX11_pattern ∈ ALLg := (al_in (tb2 (List.mem_of_getElem? (i := 144) (by rfl))) (by decide +kernel))
theorem ml_L_27 : Cond.methodLink RL 27 yX12_pattern ∈ ALLg := (al_in (tb6 (List.mem_of_getElem? (i := 197) (by rfl))) (by decide +kernel))
theorem mx_X12_pattern : Mx yX12_pattern cX12_pattern 2 (some .int) 0 := ⟨(al_in (tb6 (List.mem_of_getElem? (i := 200) (by rfl))) (by decide +kernel)), (al_in (tb1 (List.mem_of_getElem? (i := 13) (by rfl))) (by decide +kernel)), ⟨by decide +kernel, by decide +kernel, by decide +kernel⟩, by decide⟩
theorem mi_X12_pattern : Cond.instanceMethod yX12_pattern ∈ ALLg := (al_in (tb6 (List.mem_of_getElem? (i := 198) (by rfl))) (by decide +kernel))
theorem ms_X12_pattern : Cond.selects (yX12_pattern).cls yX12_pattern yX12_pattern ∈ ALLg := (al_in (tb6 (List.mem_of_getElem? (i := 199) (by rfl))) (by decide +kernel))
theorem ml_L_28 : Cond.methodLink RL 28 yX11_hand ∈ ALLg := (al_in (tb3 (List.mem_of_getElem? (i := 143) (by rfl))) (by decide +kernel))
theorem mx_X11_hand : Mx yX11_hand cX11_hand 2 (some .int) 0 := ⟨(al_in (tb3 (List.mem_of_getElem? (i := 146) (by rfl))) (by decide +kernel)), (al_in (tb1 (List.mem_of_getElem? (i := 1) (by rfl))) (by decide +kernel)), ⟨by decide +kernel, by decide +kernel, by decide +kernel⟩, by decide⟩
theorem mi_X11_hand : Cond.instanceMethod yX11_hand ∈ ALLg := (al_in (tb3 (List.mem_of_getElem? (i := 144) (by rfl))) (by decide +kernel))
theorem ms_X11_hand : Cond.selects (yX11_hand).cls yX11_hand yX11_hand ∈ ALLg := (al_in (tb3 (List.mem_of_getElem? (i := 145) (by rfl))) (by decide +kernel))
theorem ml_L_31 : Cond.methodLink RL 31 yX12_hand ∈ ALLg := (al_in (tb7 (List.mem_of_getElem? (i := 54) (by rfl))) (by decide +kernel))
theorem mx_X12_hand : Mx yX12_hand cX12_hand 1 (some .int) 0 := ⟨(al_in (tb7 (List.mem_of_getElem? (i := 57) (by rfl))) (by decide +kernel)), (al_in (tb1 (List.mem_of_getElem? (i := 13) (by rfl))) (by decide +kernel)), ⟨by decide +kernel, by decide +kernel, by decide +kernel⟩, by decide⟩
theorem mi_X12_hand : Cond.instanceMethod yX12_hand ∈ ALLg := (al_in (tb7 (List.mem_of_getElem? (i := 55) (by rfl))) (by decide +kernel))
theorem ms_X12_hand : Cond.selects (yX12_hand).cls yX12_hand yX12_hand ∈ ALLg := (al_in (tb7 (List.mem_of_getElem? (i := 56) (by rfl))) (by decide +kernel))
theorem ml_L_32 : Cond.methodLink RL 32 yX11_way ∈ ALLg := (al_in (tb3 (List.mem_of_getElem? (i := 165) (by rfl))) (by decide +kernel))
theorem mx_X11_way : Mx yX11_way cX11_way 3 (some .int) 1 := ⟨(al_in (tb3 (List.mem_of_getElem? (i := 168) (by rfl))) (by decide +kernel)), (al_in (tb1 (List.mem_of_getElem? (i := 1) (by rfl))) (by decide +kernel)), ⟨by decide +kernel, by decide +kernel, by decide +kernel⟩, by decide⟩
theorem mi_X11_way : Cond.instanceMethod yX11_way ∈ ALLg := (al_in (tb3 (List.mem_of_getElem? (i := 166) (by rfl))) (by decide +kernel))
theorem ms_X11_way : Cond.selects (yX11_way).cls yX11_way yX11_way ∈ ALLg := (al_in (tb3 (List.mem_of_getElem? (i := 167) (by rfl))) (by decide +kernel))
theorem ml_L_35 : Cond.methodLink RL 35 yX12_way ∈ ALLg := (al_in (tb7 (List.mem_of_getElem? (i := 66) (by rfl))) (by decide +kernel))
theorem mx_X12_way : Mx yX12_way cX12_way 4 (some .int) 1 := ⟨(al_in (tb7 (List.mem_of_getElem? (i := 69) (by rfl))) (by decide +kernel)), (al_in (tb1 (List.mem_of_getElem? (i := 13) (by rfl))) (by decide +kernel)), ⟨by decide +kernel, by decide +kernel, by decide +kernel⟩, by decide⟩
theorem mi_X12_way : Cond.instanceMethod yX12_way ∈ ALLg := (al_in (tb7 (List.mem_of_getElem? (i := 67) (by rfl))) (by decide +kernel))
theorem ms_X12_way : Cond.selects (yX12_way).cls yX12_way yX12_way ∈ ALLg := (al_in (tb7 (List.mem_of_getElem? (i := 68) (by rfl))) (by decide +kernel))
theorem ml_L_36 : Cond.methodLink RL 36 yX11_watcher ∈ ALLg := (al_in (tb3 (List.mem_of_getElem? (i := 233) (by rfl))) (by decide +kernel))
theorem mx_X11_watcher : Mx yX11_watcher cX11_watcher 2 (some .int) 0 := ⟨(al_in (tb3 (List.mem_of_getElem? (i := 236) (by rfl))) (by decide +kernel)), (al_in (tb1 (List.mem_of_getElem? (i := 1) (by rfl))) (by decide +kernel)), ⟨by decide +kernel, by decide +kernel, by decide +kernel⟩, by decide⟩
theorem mi_X11_watcher : Cond.instanceMethod yX11_watcher ∈ ALLg := (al_in (tb3 (List.mem_of_getElem? (i := 234) (by rfl))) (by decide +kernel))
theorem ms_X11_watcher : Cond.selects (yX11_watcher).cls yX11_watcher yX11_watcher ∈ ALLg := (al_in (tb3 (List.mem_of_getElem? (i := 235) (by rfl))) (by decide +kernel))
theorem ml_L_39 : Cond.methodLink RL 39 yX12_watcher ∈ ALLg := (al_in (tb7 (List.mem_of_getElem? (i := 97) (by rfl))) (by decide +kernel))
theorem mx_X12_watcher : Mx yX12_watcher cX12_watcher 1 (some .int) 0 := ⟨(al_in (tb7 (List.mem_of_getElem? (i := 100) (by rfl))) (by decide +kernel)), (al_in (tb1 (List.mem_of_getElem? (i := 13) (by rfl))) (by decide +kernel)), ⟨by decide +kernel, by decide +kernel, by decide +kernel⟩, by decide⟩
theorem mi_X12_watcher : Cond.instanceMethod yX12_watcher ∈ ALLg := (al_in (tb7 (List.mem_of_getElem? (i := 98) (by rfl))) (by decide +kernel))
theorem ms_X12_watcher : Cond.selects (yX12_watcher).cls yX12_watcher yX12_watcher ∈ ALLg := (al_in (tb7 (List.mem_of_getElem? (i := 99) (by rfl))) (by decide +kernel))
theorem ml_L_40 : Cond.methodLink RL 40 yX11_losses ∈ ALLg := (al_in (tb4 (List.mem_of_getElem? (i := 55) (by rfl))) (by decide +kernel))
theorem mx_X11_losses : Mx yX11_losses cX11_losses 2 (some .int) 0 := ⟨(al_in (tb4 (List.mem_of_getElem? (i := 58) (by rfl))) (by decide +kernel)), (al_in (tb1 (List.mem_of_getElem? (i := 1) (by rfl))) (by decide +kernel)), ⟨by decide +kernel, by decide +kernel, by decide +kernel⟩, by decide⟩
theorem mi_X11_losses : Cond.instanceMethod yX11_losses ∈ ALLg := (al_in (tb4 (List.mem_of_getElem? (i := 56) (by rfl))) (by decide +kernel))
theorem ms_X11_losses : Cond.selects (yX11_losses).cls yX11_losses yX11_losses ∈ ALLg := (al_in (tb4 (List.mem_of_getElem? (i := 57) (by rfl))) (by decide +kernel))
theorem ml_L_43 : Cond.methodLink RL 43 yX12_losses ∈ ALLg := (al_in (tb7 (List.mem_of_getElem? (i := 130) (by rfl))) (by decide +kernel))
theorem mx_X12_losses : Mx yX12_losses cX12_losses 1 (some .int) 0 := ⟨(al_in (tb7 (List.mem_of_getElem? (i := 133) (by rfl))) (by decide +kernel)), (al_in (tb1 (List.mem_of_getElem? (i := 13) (by rfl))) (by decide +kernel)), ⟨by decide +kernel, by decide +kernel, by decide +kernel⟩, by decide⟩
theorem mi_X12_losses : Cond.instanceMethod yX12_losses ∈ ALLg := (al_in (tb7 (List.mem_of_getElem? (i := 131) (by rfl))) (by decide +kernel))
theorem ms_X12_losses : Cond.selects (yX12_losses).cls yX12_losses yX12_losses ∈ ALLg := (al_in (tb7 (List.mem_of_getElem? (i := 132) (by rfl))) (by decide +kernel))
theorem ml_L_44 : Cond.methodLink RL 44 yX11_fault ∈ ALLg := (al_in (tb4 (List.mem_of_getElem? (i := 92) (by rfl))) (by decide +kernel))
theorem mx_X11_fault : Mx yX11_fault cX11_fault 2 (some .int) 1 := ⟨(al_in (tb4 (List.mem_of_getElem? (i := 95) (by rfl))) (by decide +kernel)), (al_in (tb1 (List.mem_of_getElem? (i := 1) (by rfl))) (by decide +kernel)), ⟨by decide +kernel, by decide +kernel, by decide +kernel⟩, by decide⟩
theorem mi_X11_fault : Cond.instanceMethod yX11_fault ∈ ALLg := (al_in (tb4 (List.mem_of_getElem? (i := 93) (by rfl))) (by decide +kernel))
theorem ms_X11_fault : Cond.selects (yX11_fault).cls yX11_fault yX11_fault ∈ ALLg := (al_in (tb4 (List.mem_of_getElem? (i := 94) (by rfl))) (by decide +kernel))
theorem ml_L_47 : Cond.methodLink RL 47 yX12_fault ∈ ALLg := (al_in (tb6 (List.mem_of_getElem? (i := 193) (by rfl))) (by decide +kernel))
theorem mx_X12_fault : Mx yX12_fault cX12_fault 2 (some .int) 1 := ⟨(al_in (tb6 (List.mem_of_getElem? (i := 196) (by rfl))) (by decide +kernel)), (al_in (tb1 (List.mem_of_getElem? (i := 13) (by rfl))) (by decide +kernel)), ⟨by decide +kernel, by decide +kernel, by decide +kernel⟩, by decide⟩
theorem mi_X12_fault : Cond.instanceMethod yX12_fault ∈ ALLg := (al_in (tb6 (List.mem_of_getElem? (i := 194) (by rfl))) (by decide +kernel))
theorem ms_X12_fault : Cond.selects (yX12_fault).cls yX12_fault yX12_fault ∈ ALLg := (al_in (tb6 (List.mem_of_getElem? (i := 195) (by rfl))) (by decide +kernel))
theorem ml_L_48 : Cond.methodLink RL 48 yX11_knit ∈ ALLg := (al_in (tb4 (List.mem_of_getElem? (i := 96) (by rfl))) (by decide +kernel))
theorem mx_X11_knit : Mx yX11_knit cX11_knit 3 (some .int) 2 := ⟨(al_in (tb4 (List.mem_of_getElem? (i := 99) (by rfl))) (by decide +kernel)), (al_in (tb1 (List.mem_of_getElem? (i := 1) (by rfl))) (by decide +kernel)), ⟨by decide +kernel, by decide +kernel, by decide +kernel⟩, by decide⟩
theorem mi_X11_knit : Cond.instanceMethod yX11_knit ∈ ALLg := (al_in (tb4 (List.mem_of_getElem? (i := 97) (by rfl))) (by decide +kernel))
theorem ms_X11_knit : Cond.selects (yX11_knit).cls yX11_knit yX11_knit ∈ ALLg := (al_in (tb4 (List.mem_of_getElem? (i := 98) (by rfl))) (by decide +kernel))
theorem ml_L_52 : Cond.methodLink RL 52 yX12_knit ∈ ALLg := (al_in (tb7 (List.mem_of_getElem? (i := 144) (by rfl))) (by decide +kernel))
theorem mx_X12_knit : Mx yX12_knit cX12_knit 4 (some .int) 2 := ⟨(al_in (tb7 (List.mem_of_getElem? (i := 147) (by rfl))) (by decide +kernel)), (al_in (tb1 (List.mem_of_getElem? (i := 13) (by rfl))) (by decide +kernel)), ⟨by decide +kernel, by decide +kernel, by decide +kernel⟩, by decide⟩
theorem mi_X12_knit : Cond.instanceMethod yX12_knit ∈ ALLg := (al_in (tb7 (List.mem_of_getElem? (i := 145) (by rfl))) (by decide +kernel))
theorem ms_X12_knit : Cond.selects (yX12_knit).cls yX12_knit yX12_knit ∈ ALLg := (al_in (tb7 (List.mem_of_getElem? (i := 146) (by rfl))) (by decide +kernel))
theorem ml_L_53 : Cond.methodLink RL 53 yX11_put ∈ ALLg := (al_in (tb4 (List.mem_of_getElem? (i := 130) (by rfl))) (by decide +kernel))
theorem mx_X11_put : Mx yX11_put cX11_put 5 (some .int) 2 := ⟨(al_in (tb4 (List.mem_of_getElem? (i := 133) (by rfl))) (by decide +kernel)), (al_in (tb1 (List.mem_of_getElem? (i := 1) (by rfl))) (by decide +kernel)), ⟨by decide +kernel, by decide +kernel, by decide +kernel⟩, by decide⟩
theorem mi_X11_put : Cond.instanceMethod yX11_put ∈ ALLg := (al_in (tb4 (List.mem_of_getElem? (i := 131) (by rfl))) (by decide +kernel))
theorem ms_X11_put : Cond.selects (yX11_put).cls yX11_put yX11_put ∈ ALLg := (al_in (tb4 (List.mem_of_getElem? (i := 132) (by rfl))) (by decide +kernel))
theorem ml_L_56 : Cond.methodLink RL 56 yX12_put ∈ ALLg := (al_in (tb7 (List.mem_of_getElem? (i := 177) (by rfl))) (by decide +kernel))
theorem mx_X12_put : Mx yX12_put cX12_put 6 (some .int) 2 := ⟨(al_in (tb7 (List.mem_of_getElem? (i := 180) (by rfl))) (by decide +kernel)), (al_in (tb1 (List.mem_of_getElem? (i := 13) (by rfl))) (by decide +kernel)), ⟨by decide +kernel, by decide +kernel, by decide +kernel⟩, by decide⟩
theorem mi_X12_put : Cond.instanceMethod yX12_put ∈ ALLg := (al_in (tb7 (List.mem_of_getElem? (i := 178) (by rfl))) (by decide +kernel))
theorem ms_X12_put : Cond.selects (yX12_put).cls yX12_put yX12_put ∈ ALLg := (al_in (tb7 (List.mem_of_getElem? (i := 179) (by rfl))) (by decide +kernel))
theorem ml_L_57 : Cond.methodLink RL 57 yX11_read ∈ ALLg := (al_in (tb4 (List.mem_of_getElem? (i := 197) (by rfl))) (by decide +kernel))
theorem mx_X11_read : Mx yX11_read cX11_read 4 (some .int) 2 := ⟨(al_in (tb4 (List.mem_of_getElem? (i := 200) (by rfl))) (by decide +kernel)), (al_in (tb1 (List.mem_of_getElem? (i := 1) (by rfl))) (by decide +kernel)), ⟨by decide +kernel, by decide +kernel, by decide +kernel⟩, by decide⟩
theorem mi_X11_read : Cond.instanceMethod yX11_read ∈ ALLg := (al_in (tb4 (List.mem_of_getElem? (i := 198) (by rfl))) (by decide +kernel))
theorem ms_X11_read : Cond.selects (yX11_read).cls yX11_read yX11_read ∈ ALLg := (al_in (tb4 (List.mem_of_getElem? (i := 199) (by rfl))) (by decide +kernel))
theorem ml_L_60 : Cond.methodLink RL 60 yX12_read ∈ ALLg := (al_in (tb7 (List.mem_of_getElem? (i := 221) (by rfl))) (by decide +kernel))
theorem mx_X12_read : Mx yX12_read cX12_read 6 (some .int) 2 := ⟨(al_in (tb7 (List.mem_of_getElem? (i := 224) (by rfl))) (by decide +kernel)), (al_in (tb1 (List.mem_of_getElem? (i := 13) (by rfl))) (by decide +kernel)), ⟨by decide +kernel, by decide +kernel, by decide +kernel⟩, by decide⟩
theorem mi_X12_read : Cond.instanceMethod yX12_read ∈ ALLg := (al_in (tb7 (List.mem_of_getElem? (i := 222) (by rfl))) (by decide +kernel))
theorem ms_X12_read : Cond.selects (yX12_read).cls yX12_read yX12_read ∈ ALLg := (al_in (tb7 (List.mem_of_getElem? (i := 223) (by rfl))) (by decide +kernel))
theorem ml_L_61 : Cond.methodLink RL 61 yX11_letter ∈ ALLg := (al_in (tb4 (List.mem_of_getElem? (i := 222) (by rfl))) (by decide +kernel))
theorem mx_X11_letter : Mx yX11_letter cX11_letter 2 (some .int) 1 := ⟨(al_in (tb4 (List.mem_of_getElem? (i := 225) (by rfl))) (by decide +kernel)), (al_in (tb1 (List.mem_of_getElem? (i := 1) (by rfl))) (by decide +kernel)), ⟨by decide +kernel, by decide +kernel, by decide +kernel⟩, by decide⟩
theorem mi_X11_letter : Cond.instanceMethod yX11_letter ∈ ALLg := (al_in (tb4 (List.mem_of_getElem? (i := 223) (by rfl))) (by decide +kernel))
theorem ms_X11_letter : Cond.selects (yX11_letter).cls yX11_letter yX11_letter ∈ ALLg := (al_in (tb4 (List.mem_of_getElem? (i := 224) (by rfl))) (by decide +kernel))
theorem ml_L_64 : Cond.methodLink RL 64 yX12_letter ∈ ALLg := (al_in (tb7 (List.mem_of_getElem? (i := 233) (by rfl))) (by decide +kernel))
theorem mx_X12_letter : Mx yX12_letter cX12_letter 2 (some .int) 1 := ⟨(al_in (tb7 (List.mem_of_getElem? (i := 236) (by rfl))) (by decide +kernel)), (al_in (tb1 (List.mem_of_getElem? (i := 13) (by rfl))) (by decide +kernel)), ⟨by decide +kernel, by decide +kernel, by decide +kernel⟩, by decide⟩
theorem mi_X12_letter : Cond.instanceMethod yX12_letter ∈ ALLg := (al_in (tb7 (List.mem_of_getElem? (i := 234) (by rfl))) (by decide +kernel))
theorem ms_X12_letter : Cond.selects (yX12_letter).cls yX12_letter yX12_letter ∈ ALLg := (al_in (tb7 (List.mem_of_getElem? (i := 235) (by rfl))) (by decide +kernel))
theorem ml_L_65 : Cond.methodLink RL 65 yX11_bit ∈ ALLg := (al_in (tb4 (List.mem_of_getElem? (i := 230) (by rfl))) (by decide +kernel))
theorem mx_X11_bit : Mx yX11_bit cX11_bit 5 (some .int) 3 := ⟨(al_in (tb4 (List.mem_of_getElem? (i := 233) (by rfl))) (by decide +kernel)), (al_in (tb1 (List.mem_of_getElem? (i := 1) (by rfl))) (by decide +kernel)), ⟨by decide +kernel, by decide +kernel, by decide +kernel⟩, by decide⟩
theorem mi_X11_bit : Cond.instanceMethod yX11_bit ∈ ALLg := (al_in (tb4 (List.mem_of_getElem? (i := 231) (by rfl))) (by decide +kernel))
theorem ms_X11_bit : Cond.selects (yX11_bit).cls yX11_bit yX11_bit ∈ ALLg := (al_in (tb4 (List.mem_of_getElem? (i := 232) (by rfl))) (by decide +kernel))
theorem ml_L_69 : Cond.methodLink RL 69 yX12_bit ∈ ALLg := (al_in (tb7 (List.mem_of_getElem? (i := 237) (by rfl))) (by decide +kernel))
theorem mx_X12_bit : Mx yX12_bit cX12_bit 5 (some .int) 3 := ⟨(al_in (tb8 (List.mem_of_getElem? (i := 0) (by rfl))) (by decide +kernel)), (al_in (tb1 (List.mem_of_getElem? (i := 13) (by rfl))) (by decide +kernel)), ⟨by decide +kernel, by decide +kernel, by decide +kernel⟩, by decide⟩
theorem mi_X12_bit : Cond.instanceMethod yX12_bit ∈ ALLg := (al_in (tb7 (List.mem_of_getElem? (i := 238) (by rfl))) (by decide +kernel))
theorem ms_X12_bit : Cond.selects (yX12_bit).cls yX12_bit yX12_bit ∈ ALLg := (al_in (tb7 (List.mem_of_getElem? (i := 239) (by rfl))) (by decide +kernel))
theorem ml_L_70 : Cond.methodLink RL 70 yX11_dim ∈ ALLg := (al_in (tb4 (List.mem_of_getElem? (i := 235) (by rfl))) (by decide +kernel))
theorem mx_X11_dim : Mx yX11_dim cX11_dim 6 (some .int) 2 := ⟨(al_in (tb4 (List.mem_of_getElem? (i := 238) (by rfl))) (by decide +kernel)), (al_in (tb1 (List.mem_of_getElem? (i := 1) (by rfl))) (by decide +kernel)), ⟨by decide +kernel, by decide +kernel, by decide +kernel⟩, by decide⟩
theorem mi_X11_dim : Cond.instanceMethod yX11_dim ∈ ALLg := (al_in (tb4 (List.mem_of_getElem? (i := 236) (by rfl))) (by decide +kernel))
theorem ms_X11_dim : Cond.selects (yX11_dim).cls yX11_dim yX11_dim ∈ ALLg := (al_in (tb4 (List.mem_of_getElem? (i := 237) (by rfl))) (by decide +kernel))
theorem ml_L_73 : Cond.methodLink RL 73 yX12_dim ∈ ALLg := (al_in (tb8 (List.mem_of_getElem? (i := 1) (by rfl))) (by decide +kernel))
theorem mx_X12_dim : Mx yX12_dim cX12_dim 7 (some .int) 2 := ⟨(al_in (tb8 (List.mem_of_getElem? (i := 4) (by rfl))) (by decide +kernel)), (al_in (tb1 (List.mem_of_getElem? (i := 13) (by rfl))) (by decide +kernel)), ⟨by decide +kernel, by decide +kernel, by decide +kernel⟩, by decide⟩
theorem mi_X12_dim : Cond.instanceMethod yX12_dim ∈ ALLg := (al_in (tb8 (List.mem_of_getElem? (i := 2) (by rfl))) (by decide +kernel))
theorem ms_X12_dim : Cond.selects (yX12_dim).cls yX12_dim yX12_dim ∈ ALLg := (al_in (tb8 (List.mem_of_getElem? (i := 3) (by rfl))) (by decide +kernel))
theorem ml_L_74 : Cond.methodLink RL 74 yX11_says ∈ ALLg := (al_in (tb4 (List.mem_of_getElem? (i := 239) (by rfl))) (by decide +kernel))
theorem mx_X11_says : Mx yX11_says cX11_says 5 (some .int) 1 := ⟨(al_in (tb5 (List.mem_of_getElem? (i := 2) (by rfl))) (by decide +kernel)), (al_in (tb1 (List.mem_of_getElem? (i := 1) (by rfl))) (by decide +kernel)), ⟨by decide +kernel, by decide +kernel, by decide +kernel⟩, by decide⟩
theorem mi_X11_says : Cond.instanceMethod yX11_says ∈ ALLg := (al_in (tb5 (List.mem_of_getElem? (i := 0) (by rfl))) (by decide +kernel))
theorem ms_X11_says : Cond.selects (yX11_says).cls yX11_says yX11_says ∈ ALLg := (al_in (tb5 (List.mem_of_getElem? (i := 1) (by rfl))) (by decide +kernel))
theorem ml_L_77 : Cond.methodLink RL 77 yX12_says ∈ ALLg := (al_in (tb8 (List.mem_of_getElem? (i := 5) (by rfl))) (by decide +kernel))
theorem mx_X12_says : Mx yX12_says cX12_says 5 (some .int) 1 := ⟨(al_in (tb8 (List.mem_of_getElem? (i := 8) (by rfl))) (by decide +kernel)), (al_in (tb1 (List.mem_of_getElem? (i := 13) (by rfl))) (by decide +kernel)), ⟨by decide +kernel, by decide +kernel, by decide +kernel⟩, by decide⟩
theorem mi_X12_says : Cond.instanceMethod yX12_says ∈ ALLg := (al_in (tb8 (List.mem_of_getElem? (i := 6) (by rfl))) (by decide +kernel))
theorem ms_X12_says : Cond.selects (yX12_says).cls yX12_says yX12_says ∈ ALLg := (al_in (tb8 (List.mem_of_getElem? (i := 7) (by rfl))) (by decide +kernel))
theorem ml_L_78 : Cond.methodLink RL 78 yX11_at ∈ ALLg := (al_in (tb5 (List.mem_of_getElem? (i := 7) (by rfl))) (by decide +kernel))
theorem mx_X11_at : Mx yX11_at cX11_at 5 (some .int) 3 := ⟨(al_in (tb5 (List.mem_of_getElem? (i := 10) (by rfl))) (by decide +kernel)), (al_in (tb1 (List.mem_of_getElem? (i := 1) (by rfl))) (by decide +kernel)), ⟨by decide +kernel, by decide +kernel, by decide +kernel⟩, by decide⟩
theorem mi_X11_at : Cond.instanceMethod yX11_at ∈ ALLg := (al_in (tb5 (List.mem_of_getElem? (i := 8) (by rfl))) (by decide +kernel))
theorem ms_X11_at : Cond.selects (yX11_at).cls yX11_at yX11_at ∈ ALLg := (al_in (tb5 (List.mem_of_getElem? (i := 9) (by rfl))) (by decide +kernel))
theorem ml_L_81 : Cond.methodLink RL 81 yX12_at ∈ ALLg := (al_in (tb8 (List.mem_of_getElem? (i := 13) (by rfl))) (by decide +kernel))
theorem mx_X12_at : Mx yX12_at cX12_at 4 (some .int) 3 := ⟨(al_in (tb8 (List.mem_of_getElem? (i := 16) (by rfl))) (by decide +kernel)), (al_in (tb1 (List.mem_of_getElem? (i := 13) (by rfl))) (by decide +kernel)), ⟨by decide +kernel, by decide +kernel, by decide +kernel⟩, by decide⟩
theorem mi_X12_at : Cond.instanceMethod yX12_at ∈ ALLg := (al_in (tb8 (List.mem_of_getElem? (i := 14) (by rfl))) (by decide +kernel))
theorem ms_X12_at : Cond.selects (yX12_at).cls yX12_at yX12_at ∈ ALLg := (al_in (tb8 (List.mem_of_getElem? (i := 15) (by rfl))) (by decide +kernel))
theorem ml_L_82 : Cond.methodLink RL 82 yX11_sort ∈ ALLg := (al_in (tb5 (List.mem_of_getElem? (i := 13) (by rfl))) (by decide +kernel))
theorem mx_X11_sort : Mx yX11_sort cX11_sort 3 (some .int) 2 := ⟨(al_in (tb5 (List.mem_of_getElem? (i := 16) (by rfl))) (by decide +kernel)), (al_in (tb1 (List.mem_of_getElem? (i := 1) (by rfl))) (by decide +kernel)), ⟨by decide +kernel, by decide +kernel, by decide +kernel⟩, by decide⟩
theorem mi_X11_sort : Cond.instanceMethod yX11_sort ∈ ALLg := (al_in (tb5 (List.mem_of_getElem? (i := 14) (by rfl))) (by decide +kernel))
theorem ms_X11_sort : Cond.selects (yX11_sort).cls yX11_sort yX11_sort ∈ ALLg := (al_in (tb5 (List.mem_of_getElem? (i := 15) (by rfl))) (by decide +kernel))
theorem ml_L_85 : Cond.methodLink RL 85 yX12_sort ∈ ALLg := (al_in (tb8 (List.mem_of_getElem? (i := 21) (by rfl))) (by decide +kernel))
theorem mx_X12_sort : Mx yX12_sort cX12_sort 3 (some .int) 2 := ⟨(al_in (tb8 (List.mem_of_getElem? (i := 24) (by rfl))) (by decide +kernel)), (al_in (tb1 (List.mem_of_getElem? (i := 13) (by rfl))) (by decide +kernel)), ⟨by decide +kernel, by decide +kernel, by decide +kernel⟩, by decide⟩
theorem mi_X12_sort : Cond.instanceMethod yX12_sort ∈ ALLg := (al_in (tb8 (List.mem_of_getElem? (i := 22) (by rfl))) (by decide +kernel))
theorem ms_X12_sort : Cond.selects (yX12_sort).cls yX12_sort yX12_sort ∈ ALLg := (al_in (tb8 (List.mem_of_getElem? (i := 23) (by rfl))) (by decide +kernel))
theorem ml_L_86 : Cond.methodLink RL 86 yX11_place ∈ ALLg := (al_in (tb5 (List.mem_of_getElem? (i := 18) (by rfl))) (by decide +kernel))
theorem mx_X11_place : Mx yX11_place cX11_place 5 (some .int) 2 := ⟨(al_in (tb5 (List.mem_of_getElem? (i := 21) (by rfl))) (by decide +kernel)), (al_in (tb1 (List.mem_of_getElem? (i := 1) (by rfl))) (by decide +kernel)), ⟨by decide +kernel, by decide +kernel, by decide +kernel⟩, by decide⟩
theorem mi_X11_place : Cond.instanceMethod yX11_place ∈ ALLg := (al_in (tb5 (List.mem_of_getElem? (i := 19) (by rfl))) (by decide +kernel))
theorem ms_X11_place : Cond.selects (yX11_place).cls yX11_place yX11_place ∈ ALLg := (al_in (tb5 (List.mem_of_getElem? (i := 20) (by rfl))) (by decide +kernel))
theorem ml_L_89 : Cond.methodLink RL 89 yX12_place ∈ ALLg := (al_in (tb8 (List.mem_of_getElem? (i := 25) (by rfl))) (by decide +kernel))
theorem mx_X12_place : Mx yX12_place cX12_place 4 (some .int) 2 := ⟨(al_in (tb8 (List.mem_of_getElem? (i := 28) (by rfl))) (by decide +kernel)), (al_in (tb1 (List.mem_of_getElem? (i := 13) (by rfl))) (by decide +kernel)), ⟨by decide +kernel, by decide +kernel, by decide +kernel⟩, by decide⟩
theorem mi_X12_place : Cond.instanceMethod yX12_place ∈ ALLg := (al_in (tb8 (List.mem_of_getElem? (i := 26) (by rfl))) (by decide +kernel))
theorem ms_X12_place : Cond.selects (yX12_place).cls yX12_place yX12_place ∈ ALLg := (al_in (tb8 (List.mem_of_getElem? (i := 27) (by rfl))) (by decide +kernel))
theorem ml_L_90 : Cond.methodLink RL 90 yX11_room ∈ ALLg := (al_in (tb5 (List.mem_of_getElem? (i := 35) (by rfl))) (by decide +kernel))
theorem mx_X11_room : Mx yX11_room cX11_room 3 (some .int) 1 := ⟨(al_in (tb5 (List.mem_of_getElem? (i := 38) (by rfl))) (by decide +kernel)), (al_in (tb1 (List.mem_of_getElem? (i := 1) (by rfl))) (by decide +kernel)), ⟨by decide +kernel, by decide +kernel, by decide +kernel⟩, by decide⟩
theorem mi_X11_room : Cond.instanceMethod yX11_room ∈ ALLg := (al_in (tb5 (List.mem_of_getElem? (i := 36) (by rfl))) (by decide +kernel))
theorem ms_X11_room : Cond.selects (yX11_room).cls yX11_room yX11_room ∈ ALLg := (al_in (tb5 (List.mem_of_getElem? (i := 37) (by rfl))) (by decide +kernel))
theorem ml_L_93 : Cond.methodLink RL 93 yX12_room ∈ ALLg := (al_in (tb8 (List.mem_of_getElem? (i := 33) (by rfl))) (by decide +kernel))
theorem mx_X12_room : Mx yX12_room cX12_room 3 (some .int) 1 := ⟨(al_in (tb8 (List.mem_of_getElem? (i := 36) (by rfl))) (by decide +kernel)), (al_in (tb1 (List.mem_of_getElem? (i := 13) (by rfl))) (by decide +kernel)), ⟨by decide +kernel, by decide +kernel, by decide +kernel⟩, by decide⟩
theorem mi_X12_room : Cond.instanceMethod yX12_room ∈ ALLg := (al_in (tb8 (List.mem_of_getElem? (i := 34) (by rfl))) (by decide +kernel))
theorem ms_X12_room : Cond.selects (yX12_room).cls yX12_room yX12_room ∈ ALLg := (al_in (tb8 (List.mem_of_getElem? (i := 35) (by rfl))) (by decide +kernel))
theorem ml_L_94 : Cond.methodLink RL 94 yX11_most ∈ ALLg := (al_in (tb5 (List.mem_of_getElem? (i := 39) (by rfl))) (by decide +kernel))
theorem mx_X11_most : Mx yX11_most cX11_most 3 (some .int) 1 := ⟨(al_in (tb5 (List.mem_of_getElem? (i := 42) (by rfl))) (by decide +kernel)), (al_in (tb1 (List.mem_of_getElem? (i := 1) (by rfl))) (by decide +kernel)), ⟨by decide +kernel, by decide +kernel, by decide +kernel⟩, by decide⟩
theorem mi_X11_most : Cond.instanceMethod yX11_most ∈ ALLg := (al_in (tb5 (List.mem_of_getElem? (i := 40) (by rfl))) (by decide +kernel))
theorem ms_X11_most : Cond.selects (yX11_most).cls yX11_most yX11_most ∈ ALLg := (al_in (tb5 (List.mem_of_getElem? (i := 41) (by rfl))) (by decide +kernel))
theorem ml_L_97 : Cond.methodLink RL 97 yX12_most ∈ ALLg := (al_in (tb8 (List.mem_of_getElem? (i := 37) (by rfl))) (by decide +kernel))
theorem mx_X12_most : Mx yX12_most cX12_most 3 (some .int) 1 := ⟨(al_in (tb8 (List.mem_of_getElem? (i := 40) (by rfl))) (by decide +kernel)), (al_in (tb1 (List.mem_of_getElem? (i := 13) (by rfl))) (by decide +kernel)), ⟨by decide +kernel, by decide +kernel, by decide +kernel⟩, by decide⟩
theorem mi_X12_most : Cond.instanceMethod yX12_most ∈ ALLg := (al_in (tb8 (List.mem_of_getElem? (i := 38) (by rfl))) (by decide +kernel))
theorem ms_X12_most : Cond.selects (yX12_most).cls yX12_most yX12_most ∈ ALLg := (al_in (tb8 (List.mem_of_getElem? (i := 39) (by rfl))) (by decide +kernel))
theorem ml_L_98 : Cond.methodLink RL 98 yX11_counts ∈ ALLg := (al_in (tb5 (List.mem_of_getElem? (i := 44) (by rfl))) (by decide +kernel))
theorem mx_X11_counts : Mx yX11_counts cX11_counts 3 (some .int) 2 := ⟨(al_in (tb5 (List.mem_of_getElem? (i := 47) (by rfl))) (by decide +kernel)), (al_in (tb1 (List.mem_of_getElem? (i := 1) (by rfl))) (by decide +kernel)), ⟨by decide +kernel, by decide +kernel, by decide +kernel⟩, by decide⟩
theorem mi_X11_counts : Cond.instanceMethod yX11_counts ∈ ALLg := (al_in (tb5 (List.mem_of_getElem? (i := 45) (by rfl))) (by decide +kernel))
theorem ms_X11_counts : Cond.selects (yX11_counts).cls yX11_counts yX11_counts ∈ ALLg := (al_in (tb5 (List.mem_of_getElem? (i := 46) (by rfl))) (by decide +kernel))
theorem ml_L_101 : Cond.methodLink RL 101 yX12_counts ∈ ALLg := (al_in (tb8 (List.mem_of_getElem? (i := 42) (by rfl))) (by decide +kernel))
theorem mx_X12_counts : Mx yX12_counts cX12_counts 3 (some .int) 2 := ⟨(al_in (tb8 (List.mem_of_getElem? (i := 45) (by rfl))) (by decide +kernel)), (al_in (tb1 (List.mem_of_getElem? (i := 13) (by rfl))) (by decide +kernel)), ⟨by decide +kernel, by decide +kernel, by decide +kernel⟩, by decide⟩
theorem mi_X12_counts : Cond.instanceMethod yX12_counts ∈ ALLg := (al_in (tb8 (List.mem_of_getElem? (i := 43) (by rfl))) (by decide +kernel))
theorem ms_X12_counts : Cond.selects (yX12_counts).cls yX12_counts yX12_counts ∈ ALLg := (al_in (tb8 (List.mem_of_getElem? (i := 44) (by rfl))) (by decide +kernel))
theorem ml_L_102 : Cond.methodLink RL 102 yX11_stops ∈ ALLg := (al_in (tb5 (List.mem_of_getElem? (i := 96) (by rfl))) (by decide +kernel))
theorem mx_X11_stops : Mx yX11_stops cX11_stops 3 (some .int) 1 := ⟨(al_in (tb5 (List.mem_of_getElem? (i := 99) (by rfl))) (by decide +kernel)), (al_in (tb1 (List.mem_of_getElem? (i := 1) (by rfl))) (by decide +kernel)), ⟨by decide +kernel, by decide +kernel, by decide +kernel⟩, by decide⟩
theorem mi_X11_stops : Cond.instanceMethod yX11_stops ∈ ALLg := (al_in (tb5 (List.mem_of_getElem? (i := 97) (by rfl))) (by decide +kernel))
theorem ms_X11_stops : Cond.selects (yX11_stops).cls yX11_stops yX11_stops ∈ ALLg := (al_in (tb5 (List.mem_of_getElem? (i := 98) (by rfl))) (by decide +kernel))
theorem ml_L_105 : Cond.methodLink RL 105 yX12_stops ∈ ALLg := (al_in (tb8 (List.mem_of_getElem? (i := 51) (by rfl))) (by decide +kernel))
theorem mx_X12_stops : Mx yX12_stops cX12_stops 3 (some .int) 1 := ⟨(al_in (tb8 (List.mem_of_getElem? (i := 54) (by rfl))) (by decide +kernel)), (al_in (tb1 (List.mem_of_getElem? (i := 13) (by rfl))) (by decide +kernel)), ⟨by decide +kernel, by decide +kernel, by decide +kernel⟩, by decide⟩
theorem mi_X12_stops : Cond.instanceMethod yX12_stops ∈ ALLg := (al_in (tb8 (List.mem_of_getElem? (i := 52) (by rfl))) (by decide +kernel))
theorem ms_X12_stops : Cond.selects (yX12_stops).cls yX12_stops yX12_stops ∈ ALLg := (al_in (tb8 (List.mem_of_getElem? (i := 53) (by rfl))) (by decide +kernel))
theorem ml_L_106 : Cond.methodLink RL 106 yX11_odds ∈ ALLg := (al_in (tb5 (List.mem_of_getElem? (i := 127) (by rfl))) (by decide +kernel))
theorem mx_X11_odds : Mx yX11_odds cX11_odds 5 (some .int) 2 := ⟨(al_in (tb5 (List.mem_of_getElem? (i := 130) (by rfl))) (by decide +kernel)), (al_in (tb1 (List.mem_of_getElem? (i := 1) (by rfl))) (by decide +kernel)), ⟨by decide +kernel, by decide +kernel, by decide +kernel⟩, by decide⟩
theorem mi_X11_odds : Cond.instanceMethod yX11_odds ∈ ALLg := (al_in (tb5 (List.mem_of_getElem? (i := 128) (by rfl))) (by decide +kernel))
theorem ms_X11_odds : Cond.selects (yX11_odds).cls yX11_odds yX11_odds ∈ ALLg := (al_in (tb5 (List.mem_of_getElem? (i := 129) (by rfl))) (by decide +kernel))
theorem ml_L_109 : Cond.methodLink RL 109 yX12_odds ∈ ALLg := (al_in (tb8 (List.mem_of_getElem? (i := 69) (by rfl))) (by decide +kernel))
theorem mx_X12_odds : Mx yX12_odds cX12_odds 6 (some .int) 2 := ⟨(al_in (tb8 (List.mem_of_getElem? (i := 72) (by rfl))) (by decide +kernel)), (al_in (tb1 (List.mem_of_getElem? (i := 13) (by rfl))) (by decide +kernel)), ⟨by decide +kernel, by decide +kernel, by decide +kernel⟩, by decide⟩
theorem mi_X12_odds : Cond.instanceMethod yX12_odds ∈ ALLg := (al_in (tb8 (List.mem_of_getElem? (i := 70) (by rfl))) (by decide +kernel))
theorem ms_X12_odds : Cond.selects (yX12_odds).cls yX12_odds yX12_odds ∈ ALLg := (al_in (tb8 (List.mem_of_getElem? (i := 71) (by rfl))) (by decide +kernel))
theorem ml_L_110 : Cond.methodLink RL 110 yX11_carries ∈ ALLg := (al_in (tb5 (List.mem_of_getElem? (i := 134) (by rfl))) (by decide +kernel))
theorem mx_X11_carries : Mx yX11_carries cX11_carries 6 (some .int) 3 := ⟨(al_in (tb5 (List.mem_of_getElem? (i := 137) (by rfl))) (by decide +kernel)), (al_in (tb1 (List.mem_of_getElem? (i := 1) (by rfl))) (by decide +kernel)), ⟨by decide +kernel, by decide +kernel, by decide +kernel⟩, by decide⟩
theorem mi_X11_carries : Cond.instanceMethod yX11_carries ∈ ALLg := (al_in (tb5 (List.mem_of_getElem? (i := 135) (by rfl))) (by decide +kernel))
theorem ms_X11_carries : Cond.selects (yX11_carries).cls yX11_carries yX11_carries ∈ ALLg := (al_in (tb5 (List.mem_of_getElem? (i := 136) (by rfl))) (by decide +kernel))
theorem ml_L_113 : Cond.methodLink RL 113 yX12_carries ∈ ALLg := (al_in (tb8 (List.mem_of_getElem? (i := 74) (by rfl))) (by decide +kernel))
theorem mx_X12_carries : Mx yX12_carries cX12_carries 7 (some .int) 3 := ⟨(al_in (tb8 (List.mem_of_getElem? (i := 77) (by rfl))) (by decide +kernel)), (al_in (tb1 (List.mem_of_getElem? (i := 13) (by rfl))) (by decide +kernel)), ⟨by decide +kernel, by decide +kernel, by decide +kernel⟩, by decide⟩
theorem mi_X12_carries : Cond.instanceMethod yX12_carries ∈ ALLg := (al_in (tb8 (List.mem_of_getElem? (i := 75) (by rfl))) (by decide +kernel))
theorem ms_X12_carries : Cond.selects (yX12_carries).cls yX12_carries yX12_carries ∈ ALLg := (al_in (tb8 (List.mem_of_getElem? (i := 76) (by rfl))) (by decide +kernel))
theorem ml_L_114 : Cond.methodLink RL 114 yX11_best ∈ ALLg := (al_in (tb5 (List.mem_of_getElem? (i := 142) (by rfl))) (by decide +kernel))
theorem mx_X11_best : Mx yX11_best cX11_best 7 (some .int) 1 := ⟨(al_in (tb5 (List.mem_of_getElem? (i := 145) (by rfl))) (by decide +kernel)), (al_in (tb1 (List.mem_of_getElem? (i := 1) (by rfl))) (by decide +kernel)), ⟨by decide +kernel, by decide +kernel, by decide +kernel⟩, by decide⟩
theorem mi_X11_best : Cond.instanceMethod yX11_best ∈ ALLg := (al_in (tb5 (List.mem_of_getElem? (i := 143) (by rfl))) (by decide +kernel))
theorem ms_X11_best : Cond.selects (yX11_best).cls yX11_best yX11_best ∈ ALLg := (al_in (tb5 (List.mem_of_getElem? (i := 144) (by rfl))) (by decide +kernel))
theorem ml_L_117 : Cond.methodLink RL 117 yX12_best ∈ ALLg := (al_in (tb8 (List.mem_of_getElem? (i := 82) (by rfl))) (by decide +kernel))
theorem mx_X12_best : Mx yX12_best cX12_best 7 (some .int) 1 := ⟨(al_in (tb8 (List.mem_of_getElem? (i := 85) (by rfl))) (by decide +kernel)), (al_in (tb1 (List.mem_of_getElem? (i := 13) (by rfl))) (by decide +kernel)), ⟨by decide +kernel, by decide +kernel, by decide +kernel⟩, by decide⟩
theorem mi_X12_best : Cond.instanceMethod yX12_best ∈ ALLg := (al_in (tb8 (List.mem_of_getElem? (i := 83) (by rfl))) (by decide +kernel))
theorem ms_X12_best : Cond.selects (yX12_best).cls yX12_best yX12_best ∈ ALLg := (al_in (tb8 (List.mem_of_getElem? (i := 84) (by rfl))) (by decide +kernel))
theorem ml_L_118 : Cond.methodLink RL 118 yX11_lose ∈ ALLg := (al_in (tb5 (List.mem_of_getElem? (i := 168) (by rfl))) (by decide +kernel))
theorem mx_X11_lose : Mx yX11_lose cX11_lose 3 (some .int) 1 := ⟨(al_in (tb5 (List.mem_of_getElem? (i := 171) (by rfl))) (by decide +kernel)), (al_in (tb1 (List.mem_of_getElem? (i := 1) (by rfl))) (by decide +kernel)), ⟨by decide +kernel, by decide +kernel, by decide +kernel⟩, by decide⟩
theorem mi_X11_lose : Cond.instanceMethod yX11_lose ∈ ALLg := (al_in (tb5 (List.mem_of_getElem? (i := 169) (by rfl))) (by decide +kernel))
theorem ms_X11_lose : Cond.selects (yX11_lose).cls yX11_lose yX11_lose ∈ ALLg := (al_in (tb5 (List.mem_of_getElem? (i := 170) (by rfl))) (by decide +kernel))
theorem ml_L_121 : Cond.methodLink RL 121 yX12_lose ∈ ALLg := (al_in (tb8 (List.mem_of_getElem? (i := 94) (by rfl))) (by decide +kernel))
theorem mx_X12_lose : Mx yX12_lose cX12_lose 5 (some .int) 1 := ⟨(al_in (tb8 (List.mem_of_getElem? (i := 97) (by rfl))) (by decide +kernel)), (al_in (tb1 (List.mem_of_getElem? (i := 13) (by rfl))) (by decide +kernel)), ⟨by decide +kernel, by decide +kernel, by decide +kernel⟩, by decide⟩
theorem mi_X12_lose : Cond.instanceMethod yX12_lose ∈ ALLg := (al_in (tb8 (List.mem_of_getElem? (i := 95) (by rfl))) (by decide +kernel))
theorem ms_X12_lose : Cond.selects (yX12_lose).cls yX12_lose yX12_lose ∈ ALLg := (al_in (tb8 (List.mem_of_getElem? (i := 96) (by rfl))) (by decide +kernel))
theorem ml_L_122 : Cond.methodLink RL 122 yX11_alike ∈ ALLg := (al_in (tb5 (List.mem_of_getElem? (i := 173) (by rfl))) (by decide +kernel))
theorem mx_X11_alike : Mx yX11_alike cX11_alike 8 (some .int) 2 := ⟨(al_in (tb5 (List.mem_of_getElem? (i := 176) (by rfl))) (by decide +kernel)), (al_in (tb1 (List.mem_of_getElem? (i := 1) (by rfl))) (by decide +kernel)), ⟨by decide +kernel, by decide +kernel, by decide +kernel⟩, by decide⟩
theorem mi_X11_alike : Cond.instanceMethod yX11_alike ∈ ALLg := (al_in (tb5 (List.mem_of_getElem? (i := 174) (by rfl))) (by decide +kernel))
theorem ms_X11_alike : Cond.selects (yX11_alike).cls yX11_alike yX11_alike ∈ ALLg := (al_in (tb5 (List.mem_of_getElem? (i := 175) (by rfl))) (by decide +kernel))
theorem ml_L_125 : Cond.methodLink RL 125 yX12_alike ∈ ALLg := (al_in (tb8 (List.mem_of_getElem? (i := 98) (by rfl))) (by decide +kernel))
theorem mx_X12_alike : Mx yX12_alike cX12_alike 6 (some .int) 2 := ⟨(al_in (tb8 (List.mem_of_getElem? (i := 101) (by rfl))) (by decide +kernel)), (al_in (tb1 (List.mem_of_getElem? (i := 13) (by rfl))) (by decide +kernel)), ⟨by decide +kernel, by decide +kernel, by decide +kernel⟩, by decide⟩
theorem mi_X12_alike : Cond.instanceMethod yX12_alike ∈ ALLg := (al_in (tb8 (List.mem_of_getElem? (i := 99) (by rfl))) (by decide +kernel))
theorem ms_X12_alike : Cond.selects (yX12_alike).cls yX12_alike yX12_alike ∈ ALLg := (al_in (tb8 (List.mem_of_getElem? (i := 100) (by rfl))) (by decide +kernel))
theorem ml_L_126 : Cond.methodLink RL 126 yX11_same ∈ ALLg := (al_in (tb5 (List.mem_of_getElem? (i := 182) (by rfl))) (by decide +kernel))
theorem mx_X11_same : Mx yX11_same cX11_same 7 (some .int) 3 := ⟨(al_in (tb5 (List.mem_of_getElem? (i := 185) (by rfl))) (by decide +kernel)), (al_in (tb1 (List.mem_of_getElem? (i := 1) (by rfl))) (by decide +kernel)), ⟨by decide +kernel, by decide +kernel, by decide +kernel⟩, by decide⟩
theorem mi_X11_same : Cond.instanceMethod yX11_same ∈ ALLg := (al_in (tb5 (List.mem_of_getElem? (i := 183) (by rfl))) (by decide +kernel))
theorem ms_X11_same : Cond.selects (yX11_same).cls yX11_same yX11_same ∈ ALLg := (al_in (tb5 (List.mem_of_getElem? (i := 184) (by rfl))) (by decide +kernel))
theorem ml_L_129 : Cond.methodLink RL 129 yX12_same ∈ ALLg := (al_in (tb8 (List.mem_of_getElem? (i := 106) (by rfl))) (by decide +kernel))
theorem mx_X12_same : Mx yX12_same cX12_same 8 (some .int) 3 := ⟨(al_in (tb8 (List.mem_of_getElem? (i := 109) (by rfl))) (by decide +kernel)), (al_in (tb1 (List.mem_of_getElem? (i := 13) (by rfl))) (by decide +kernel)), ⟨by decide +kernel, by decide +kernel, by decide +kernel⟩, by decide⟩
theorem mi_X12_same : Cond.instanceMethod yX12_same ∈ ALLg := (al_in (tb8 (List.mem_of_getElem? (i := 107) (by rfl))) (by decide +kernel))
theorem ms_X12_same : Cond.selects (yX12_same).cls yX12_same yX12_same ∈ ALLg := (al_in (tb8 (List.mem_of_getElem? (i := 108) (by rfl))) (by decide +kernel))
theorem ml_L_130 : Cond.methodLink RL 130 yX11_ball ∈ ALLg := (al_in (tb5 (List.mem_of_getElem? (i := 186) (by rfl))) (by decide +kernel))
theorem mx_X11_ball : Mx yX11_ball cX11_ball 7 (some .int) 2 := ⟨(al_in (tb5 (List.mem_of_getElem? (i := 189) (by rfl))) (by decide +kernel)), (al_in (tb1 (List.mem_of_getElem? (i := 1) (by rfl))) (by decide +kernel)), ⟨by decide +kernel, by decide +kernel, by decide +kernel⟩, by decide⟩
theorem mi_X11_ball : Cond.instanceMethod yX11_ball ∈ ALLg := (al_in (tb5 (List.mem_of_getElem? (i := 187) (by rfl))) (by decide +kernel))
theorem ms_X11_ball : Cond.selects (yX11_ball).cls yX11_ball yX11_ball ∈ ALLg := (al_in (tb5 (List.mem_of_getElem? (i := 188) (by rfl))) (by decide +kernel))
theorem ml_L_133 : Cond.methodLink RL 133 yX12_ball ∈ ALLg := (al_in (tb8 (List.mem_of_getElem? (i := 110) (by rfl))) (by decide +kernel))
theorem mx_X12_ball : Mx yX12_ball cX12_ball 4 (some .int) 2 := ⟨(al_in (tb8 (List.mem_of_getElem? (i := 113) (by rfl))) (by decide +kernel)), (al_in (tb1 (List.mem_of_getElem? (i := 13) (by rfl))) (by decide +kernel)), ⟨by decide +kernel, by decide +kernel, by decide +kernel⟩, by decide⟩
theorem mi_X12_ball : Cond.instanceMethod yX12_ball ∈ ALLg := (al_in (tb8 (List.mem_of_getElem? (i := 111) (by rfl))) (by decide +kernel))
theorem ms_X12_ball : Cond.selects (yX12_ball).cls yX12_ball yX12_ball ∈ ALLg := (al_in (tb8 (List.mem_of_getElem? (i := 112) (by rfl))) (by decide +kernel))
theorem ml_L_134 : Cond.methodLink RL 134 yX11_rewind ∈ ALLg := (al_in (tb5 (List.mem_of_getElem? (i := 197) (by rfl))) (by decide +kernel))
theorem mx_X11_rewind : Mx yX11_rewind cX11_rewind 5 (some .int) 2 := ⟨(al_in (tb5 (List.mem_of_getElem? (i := 200) (by rfl))) (by decide +kernel)), (al_in (tb1 (List.mem_of_getElem? (i := 1) (by rfl))) (by decide +kernel)), ⟨by decide +kernel, by decide +kernel, by decide +kernel⟩, by decide⟩
theorem mi_X11_rewind : Cond.instanceMethod yX11_rewind ∈ ALLg := (al_in (tb5 (List.mem_of_getElem? (i := 198) (by rfl))) (by decide +kernel))
theorem ms_X11_rewind : Cond.selects (yX11_rewind).cls yX11_rewind yX11_rewind ∈ ALLg := (al_in (tb5 (List.mem_of_getElem? (i := 199) (by rfl))) (by decide +kernel))
theorem ml_L_137 : Cond.methodLink RL 137 yX12_rewind ∈ ALLg := (al_in (tb8 (List.mem_of_getElem? (i := 118) (by rfl))) (by decide +kernel))
theorem mx_X12_rewind : Mx yX12_rewind cX12_rewind 9 (some .int) 2 := ⟨(al_in (tb8 (List.mem_of_getElem? (i := 121) (by rfl))) (by decide +kernel)), (al_in (tb1 (List.mem_of_getElem? (i := 13) (by rfl))) (by decide +kernel)), ⟨by decide +kernel, by decide +kernel, by decide +kernel⟩, by decide⟩
theorem mi_X12_rewind : Cond.instanceMethod yX12_rewind ∈ ALLg := (al_in (tb8 (List.mem_of_getElem? (i := 119) (by rfl))) (by decide +kernel))
theorem ms_X12_rewind : Cond.selects (yX12_rewind).cls yX12_rewind yX12_rewind ∈ ALLg := (al_in (tb8 (List.mem_of_getElem? (i := 120) (by rfl))) (by decide +kernel))
theorem ml_L_138 : Cond.methodLink RL 138 yX11_copy ∈ ALLg := (al_in (tb5 (List.mem_of_getElem? (i := 210) (by rfl))) (by decide +kernel))
theorem mx_X11_copy : Mx yX11_copy cX11_copy 3 (some .int) 2 := ⟨(al_in (tb5 (List.mem_of_getElem? (i := 213) (by rfl))) (by decide +kernel)), (al_in (tb1 (List.mem_of_getElem? (i := 1) (by rfl))) (by decide +kernel)), ⟨by decide +kernel, by decide +kernel, by decide +kernel⟩, by decide⟩
theorem mi_X11_copy : Cond.instanceMethod yX11_copy ∈ ALLg := (al_in (tb5 (List.mem_of_getElem? (i := 211) (by rfl))) (by decide +kernel))
theorem ms_X11_copy : Cond.selects (yX11_copy).cls yX11_copy yX11_copy ∈ ALLg := (al_in (tb5 (List.mem_of_getElem? (i := 212) (by rfl))) (by decide +kernel))
theorem ml_L_141 : Cond.methodLink RL 141 yX12_copy ∈ ALLg := (al_in (tb8 (List.mem_of_getElem? (i := 122) (by rfl))) (by decide +kernel))
theorem mx_X12_copy : Mx yX12_copy cX12_copy 3 (some .int) 2 := ⟨(al_in (tb8 (List.mem_of_getElem? (i := 125) (by rfl))) (by decide +kernel)), (al_in (tb1 (List.mem_of_getElem? (i := 13) (by rfl))) (by decide +kernel)), ⟨by decide +kernel, by decide +kernel, by decide +kernel⟩, by decide⟩
theorem mi_X12_copy : Cond.instanceMethod yX12_copy ∈ ALLg := (al_in (tb8 (List.mem_of_getElem? (i := 123) (by rfl))) (by decide +kernel))
theorem ms_X12_copy : Cond.selects (yX12_copy).cls yX12_copy yX12_copy ∈ ALLg := (al_in (tb8 (List.mem_of_getElem? (i := 124) (by rfl))) (by decide +kernel))
theorem ml_L_142 : Cond.methodLink RL 142 yX11_turn ∈ ALLg := (al_in (tb5 (List.mem_of_getElem? (i := 214) (by rfl))) (by decide +kernel))
theorem mx_X11_turn : Mx yX11_turn cX11_turn 6 (some .int) 3 := ⟨(al_in (tb5 (List.mem_of_getElem? (i := 217) (by rfl))) (by decide +kernel)), (al_in (tb1 (List.mem_of_getElem? (i := 1) (by rfl))) (by decide +kernel)), ⟨by decide +kernel, by decide +kernel, by decide +kernel⟩, by decide⟩
theorem mi_X11_turn : Cond.instanceMethod yX11_turn ∈ ALLg := (al_in (tb5 (List.mem_of_getElem? (i := 215) (by rfl))) (by decide +kernel))
theorem ms_X11_turn : Cond.selects (yX11_turn).cls yX11_turn yX11_turn ∈ ALLg := (al_in (tb5 (List.mem_of_getElem? (i := 216) (by rfl))) (by decide +kernel))
theorem ml_L_145 : Cond.methodLink RL 145 yX12_turn ∈ ALLg := (al_in (tb8 (List.mem_of_getElem? (i := 126) (by rfl))) (by decide +kernel))
theorem mx_X12_turn : Mx yX12_turn cX12_turn 5 (some .int) 3 := ⟨(al_in (tb8 (List.mem_of_getElem? (i := 129) (by rfl))) (by decide +kernel)), (al_in (tb1 (List.mem_of_getElem? (i := 13) (by rfl))) (by decide +kernel)), ⟨by decide +kernel, by decide +kernel, by decide +kernel⟩, by decide⟩
theorem mi_X12_turn : Cond.instanceMethod yX12_turn ∈ ALLg := (al_in (tb8 (List.mem_of_getElem? (i := 127) (by rfl))) (by decide +kernel))
theorem ms_X12_turn : Cond.selects (yX12_turn).cls yX12_turn yX12_turn ∈ ALLg := (al_in (tb8 (List.mem_of_getElem? (i := 128) (by rfl))) (by decide +kernel))
theorem ml_L_146 : Cond.methodLink RL 146 yX11_mend ∈ ALLg := (al_in (tb5 (List.mem_of_getElem? (i := 220) (by rfl))) (by decide +kernel))
theorem mx_X11_mend : Mx yX11_mend cX11_mend 7 (some .int) 1 := ⟨(al_in (tb5 (List.mem_of_getElem? (i := 223) (by rfl))) (by decide +kernel)), (al_in (tb1 (List.mem_of_getElem? (i := 1) (by rfl))) (by decide +kernel)), ⟨by decide +kernel, by decide +kernel, by decide +kernel⟩, by decide⟩
theorem mi_X11_mend : Cond.instanceMethod yX11_mend ∈ ALLg := (al_in (tb5 (List.mem_of_getElem? (i := 221) (by rfl))) (by decide +kernel))
theorem ms_X11_mend : Cond.selects (yX11_mend).cls yX11_mend yX11_mend ∈ ALLg := (al_in (tb5 (List.mem_of_getElem? (i := 222) (by rfl))) (by decide +kernel))
theorem ml_L_149 : Cond.methodLink RL 149 yX12_mend ∈ ALLg := (al_in (tb8 (List.mem_of_getElem? (i := 130) (by rfl))) (by decide +kernel))
theorem mx_X12_mend : Mx yX12_mend cX12_mend 8 (some .int) 1 := ⟨(al_in (tb8 (List.mem_of_getElem? (i := 133) (by rfl))) (by decide +kernel)), (al_in (tb1 (List.mem_of_getElem? (i := 13) (by rfl))) (by decide +kernel)), ⟨by decide +kernel, by decide +kernel, by decide +kernel⟩, by decide⟩
theorem mi_X12_mend : Cond.instanceMethod yX12_mend ∈ ALLg := (al_in (tb8 (List.mem_of_getElem? (i := 131) (by rfl))) (by decide +kernel))
theorem ms_X12_mend : Cond.selects (yX12_mend).cls yX12_mend yX12_mend ∈ ALLg := (al_in (tb8 (List.mem_of_getElem? (i := 132) (by rfl))) (by decide +kernel))
theorem ml_L_150 : Cond.methodLink RL 150 yX11_count ∈ ALLg := (al_in (tb5 (List.mem_of_getElem? (i := 237) (by rfl))) (by decide +kernel))
theorem mx_X11_count : Mx yX11_count cX11_count 2 (some .int) 1 := ⟨(al_in (tb6 (List.mem_of_getElem? (i := 0) (by rfl))) (by decide +kernel)), (al_in (tb1 (List.mem_of_getElem? (i := 1) (by rfl))) (by decide +kernel)), ⟨by decide +kernel, by decide +kernel, by decide +kernel⟩, by decide⟩
theorem mi_X11_count : Cond.instanceMethod yX11_count ∈ ALLg := (al_in (tb5 (List.mem_of_getElem? (i := 238) (by rfl))) (by decide +kernel))
theorem ms_X11_count : Cond.selects (yX11_count).cls yX11_count yX11_count ∈ ALLg := (al_in (tb5 (List.mem_of_getElem? (i := 239) (by rfl))) (by decide +kernel))
theorem ml_L_153 : Cond.methodLink RL 153 yX12_count ∈ ALLg := (al_in (tb8 (List.mem_of_getElem? (i := 134) (by rfl))) (by decide +kernel))
theorem mx_X12_count : Mx yX12_count cX12_count 4 (some .int) 1 := ⟨(al_in (tb8 (List.mem_of_getElem? (i := 137) (by rfl))) (by decide +kernel)), (al_in (tb1 (List.mem_of_getElem? (i := 13) (by rfl))) (by decide +kernel)), ⟨by decide +kernel, by decide +kernel, by decide +kernel⟩, by decide⟩
theorem mi_X12_count : Cond.instanceMethod yX12_count ∈ ALLg := (al_in (tb8 (List.mem_of_getElem? (i := 135) (by rfl))) (by decide +kernel))
theorem ms_X12_count : Cond.selects (yX12_count).cls yX12_count yX12_count ∈ ALLg := (al_in (tb8 (List.mem_of_getElem? (i := 136) (by rfl))) (by decide +kernel))
theorem ml_L_154 : Cond.methodLink RL 154 yX11_keep ∈ ALLg := (al_in (tb6 (List.mem_of_getElem? (i := 17) (by rfl))) (by decide +kernel))
theorem mx_X11_keep : Mx yX11_keep cX11_keep 2 (some .int) 1 := ⟨(al_in (tb6 (List.mem_of_getElem? (i := 20) (by rfl))) (by decide +kernel)), (al_in (tb1 (List.mem_of_getElem? (i := 1) (by rfl))) (by decide +kernel)), ⟨by decide +kernel, by decide +kernel, by decide +kernel⟩, by decide⟩
theorem mi_X11_keep : Cond.instanceMethod yX11_keep ∈ ALLg := (al_in (tb6 (List.mem_of_getElem? (i := 18) (by rfl))) (by decide +kernel))
theorem ms_X11_keep : Cond.selects (yX11_keep).cls yX11_keep yX11_keep ∈ ALLg := (al_in (tb6 (List.mem_of_getElem? (i := 19) (by rfl))) (by decide +kernel))
theorem ml_L_157 : Cond.methodLink RL 157 yX12_keep ∈ ALLg := (al_in (tb6 (List.mem_of_getElem? (i := 173) (by rfl))) (by decide +kernel))
theorem mx_X12_keep : Mx yX12_keep cX12_keep 3 (some .int) 1 := ⟨(al_in (tb6 (List.mem_of_getElem? (i := 176) (by rfl))) (by decide +kernel)), (al_in (tb1 (List.mem_of_getElem? (i := 13) (by rfl))) (by decide +kernel)), ⟨by decide +kernel, by decide +kernel, by decide +kernel⟩, by decide⟩
theorem mi_X12_keep : Cond.instanceMethod yX12_keep ∈ ALLg := (al_in (tb6 (List.mem_of_getElem? (i := 174) (by rfl))) (by decide +kernel))
theorem ms_X12_keep : Cond.selects (yX12_keep).cls yX12_keep yX12_keep ∈ ALLg := (al_in (tb6 (List.mem_of_getElem? (i := 175) (by rfl))) (by decide +kernel))
theorem ml_L_158 : Cond.methodLink RL 158 yX11_back ∈ ALLg := (al_in (tb6 (List.mem_of_getElem? (i := 31) (by rfl))) (by decide +kernel))
theorem mx_X11_back : Mx yX11_back cX11_back 2 (some .int) 1 := ⟨(al_in (tb6 (List.mem_of_getElem? (i := 34) (by rfl))) (by decide +kernel)), (al_in (tb1 (List.mem_of_getElem? (i := 1) (by rfl))) (by decide +kernel)), ⟨by decide +kernel, by decide +kernel, by decide +kernel⟩, by decide⟩
theorem mi_X11_back : Cond.instanceMethod yX11_back ∈ ALLg := (al_in (tb6 (List.mem_of_getElem? (i := 32) (by rfl))) (by decide +kernel))
theorem ms_X11_back : Cond.selects (yX11_back).cls yX11_back yX11_back ∈ ALLg := (al_in (tb6 (List.mem_of_getElem? (i := 33) (by rfl))) (by decide +kernel))
theorem ml_L_161 : Cond.methodLink RL 161 yX12_back ∈ ALLg := (al_in (tb6 (List.mem_of_getElem? (i := 181) (by rfl))) (by decide +kernel))
theorem mx_X12_back : Mx yX12_back cX12_back 3 (some .int) 1 := ⟨(al_in (tb6 (List.mem_of_getElem? (i := 184) (by rfl))) (by decide +kernel)), (al_in (tb1 (List.mem_of_getElem? (i := 13) (by rfl))) (by decide +kernel)), ⟨by decide +kernel, by decide +kernel, by decide +kernel⟩, by decide⟩
theorem mi_X12_back : Cond.instanceMethod yX12_back ∈ ALLg := (al_in (tb6 (List.mem_of_getElem? (i := 182) (by rfl))) (by decide +kernel))
theorem ms_X12_back : Cond.selects (yX12_back).cls yX12_back yX12_back ∈ ALLg := (al_in (tb6 (List.mem_of_getElem? (i := 183) (by rfl))) (by decide +kernel))
theorem ml_L_162 : Cond.methodLink RL 162 yX11_row ∈ ALLg := (al_in (tb6 (List.mem_of_getElem? (i := 35) (by rfl))) (by decide +kernel))
theorem mx_X11_row : Mx yX11_row cX11_row 4 (some .int) 3 := ⟨(al_in (tb6 (List.mem_of_getElem? (i := 38) (by rfl))) (by decide +kernel)), (al_in (tb1 (List.mem_of_getElem? (i := 1) (by rfl))) (by decide +kernel)), ⟨by decide +kernel, by decide +kernel, by decide +kernel⟩, by decide⟩
theorem mi_X11_row : Cond.instanceMethod yX11_row ∈ ALLg := (al_in (tb6 (List.mem_of_getElem? (i := 36) (by rfl))) (by decide +kernel))
theorem ms_X11_row : Cond.selects (yX11_row).cls yX11_row yX11_row ∈ ALLg := (al_in (tb6 (List.mem_of_getElem? (i := 37) (by rfl))) (by decide +kernel))
theorem ml_L_165 : Cond.methodLink RL 165 yX12_row ∈ ALLg := (al_in (tb8 (List.mem_of_getElem? (i := 138) (by rfl))) (by decide +kernel))
theorem mx_X12_row : Mx yX12_row cX12_row 5 (some .int) 3 := ⟨(al_in (tb8 (List.mem_of_getElem? (i := 141) (by rfl))) (by decide +kernel)), (al_in (tb1 (List.mem_of_getElem? (i := 13) (by rfl))) (by decide +kernel)), ⟨by decide +kernel, by decide +kernel, by decide +kernel⟩, by decide⟩
theorem mi_X12_row : Cond.instanceMethod yX12_row ∈ ALLg := (al_in (tb8 (List.mem_of_getElem? (i := 139) (by rfl))) (by decide +kernel))
theorem ms_X12_row : Cond.selects (yX12_row).cls yX12_row yX12_row ∈ ALLg := (al_in (tb8 (List.mem_of_getElem? (i := 140) (by rfl))) (by decide +kernel))
theorem kl_L_166 : Cond.constantLong RL 166 4294967295 ∈ ALLg := (al_in (tb8 (List.mem_of_getElem? (i := 160) (by rfl))) (by decide +kernel))
theorem ml_L_168 : Cond.methodLink RL 168 yX11_write ∈ ALLg := (al_in (tb6 (List.mem_of_getElem? (i := 49) (by rfl))) (by decide +kernel))
theorem mx_X11_write : Mx yX11_write cX11_write 5 (some .int) 3 := ⟨(al_in (tb6 (List.mem_of_getElem? (i := 52) (by rfl))) (by decide +kernel)), (al_in (tb1 (List.mem_of_getElem? (i := 1) (by rfl))) (by decide +kernel)), ⟨by decide +kernel, by decide +kernel, by decide +kernel⟩, by decide⟩
theorem mi_X11_write : Cond.instanceMethod yX11_write ∈ ALLg := (al_in (tb6 (List.mem_of_getElem? (i := 50) (by rfl))) (by decide +kernel))
theorem ms_X11_write : Cond.selects (yX11_write).cls yX11_write yX11_write ∈ ALLg := (al_in (tb6 (List.mem_of_getElem? (i := 51) (by rfl))) (by decide +kernel))
theorem ml_L_172 : Cond.methodLink RL 172 yX12_write ∈ ALLg := (al_in (tb8 (List.mem_of_getElem? (i := 145) (by rfl))) (by decide +kernel))
theorem mx_X12_write : Mx yX12_write cX12_write 5 (some .int) 3 := ⟨(al_in (tb8 (List.mem_of_getElem? (i := 148) (by rfl))) (by decide +kernel)), (al_in (tb1 (List.mem_of_getElem? (i := 13) (by rfl))) (by decide +kernel)), ⟨by decide +kernel, by decide +kernel, by decide +kernel⟩, by decide⟩
theorem mi_X12_write : Cond.instanceMethod yX12_write ∈ ALLg := (al_in (tb8 (List.mem_of_getElem? (i := 146) (by rfl))) (by decide +kernel))
theorem ms_X12_write : Cond.selects (yX12_write).cls yX12_write yX12_write ∈ ALLg := (al_in (tb8 (List.mem_of_getElem? (i := 147) (by rfl))) (by decide +kernel))
theorem ml_L_173 : Cond.methodLink RL 173 yX11_paste ∈ ALLg := (al_in (tb6 (List.mem_of_getElem? (i := 65) (by rfl))) (by decide +kernel))
theorem mx_X11_paste : Mx yX11_paste cX11_paste 6 (some .int) 5 := ⟨(al_in (tb6 (List.mem_of_getElem? (i := 68) (by rfl))) (by decide +kernel)), (al_in (tb1 (List.mem_of_getElem? (i := 1) (by rfl))) (by decide +kernel)), ⟨by decide +kernel, by decide +kernel, by decide +kernel⟩, by decide⟩
theorem mi_X11_paste : Cond.instanceMethod yX11_paste ∈ ALLg := (al_in (tb6 (List.mem_of_getElem? (i := 66) (by rfl))) (by decide +kernel))
theorem ms_X11_paste : Cond.selects (yX11_paste).cls yX11_paste yX11_paste ∈ ALLg := (al_in (tb6 (List.mem_of_getElem? (i := 67) (by rfl))) (by decide +kernel))
theorem ml_L_176 : Cond.methodLink RL 176 yX12_paste ∈ ALLg := (al_in (tb8 (List.mem_of_getElem? (i := 152) (by rfl))) (by decide +kernel))
theorem mx_X12_paste : Mx yX12_paste cX12_paste 7 (some .int) 5 := ⟨(al_in (tb8 (List.mem_of_getElem? (i := 155) (by rfl))) (by decide +kernel)), (al_in (tb1 (List.mem_of_getElem? (i := 13) (by rfl))) (by decide +kernel)), ⟨by decide +kernel, by decide +kernel, by decide +kernel⟩, by decide⟩
theorem mi_X12_paste : Cond.instanceMethod yX12_paste ∈ ALLg := (al_in (tb8 (List.mem_of_getElem? (i := 153) (by rfl))) (by decide +kernel))
theorem ms_X12_paste : Cond.selects (yX12_paste).cls yX12_paste yX12_paste ∈ ALLg := (al_in (tb8 (List.mem_of_getElem? (i := 154) (by rfl))) (by decide +kernel))
theorem ml_L_177 : Cond.methodLink RL 177 yX11_lay ∈ ALLg := (al_in (tb6 (List.mem_of_getElem? (i := 69) (by rfl))) (by decide +kernel))
theorem mx_X11_lay : Mx yX11_lay cX11_lay 8 (some .int) 2 := ⟨(al_in (tb6 (List.mem_of_getElem? (i := 72) (by rfl))) (by decide +kernel)), (al_in (tb1 (List.mem_of_getElem? (i := 1) (by rfl))) (by decide +kernel)), ⟨by decide +kernel, by decide +kernel, by decide +kernel⟩, by decide⟩
theorem mi_X11_lay : Cond.instanceMethod yX11_lay ∈ ALLg := (al_in (tb6 (List.mem_of_getElem? (i := 70) (by rfl))) (by decide +kernel))
theorem ms_X11_lay : Cond.selects (yX11_lay).cls yX11_lay yX11_lay ∈ ALLg := (al_in (tb6 (List.mem_of_getElem? (i := 71) (by rfl))) (by decide +kernel))
theorem ml_L_180 : Cond.methodLink RL 180 yX12_lay ∈ ALLg := (al_in (tb8 (List.mem_of_getElem? (i := 156) (by rfl))) (by decide +kernel))
theorem mx_X12_lay : Mx yX12_lay cX12_lay 7 (some .int) 2 := ⟨(al_in (tb8 (List.mem_of_getElem? (i := 159) (by rfl))) (by decide +kernel)), (al_in (tb1 (List.mem_of_getElem? (i := 13) (by rfl))) (by decide +kernel)), ⟨by decide +kernel, by decide +kernel, by decide +kernel⟩, by decide⟩
theorem mi_X12_lay : Cond.instanceMethod yX12_lay ∈ ALLg := (al_in (tb8 (List.mem_of_getElem? (i := 157) (by rfl))) (by decide +kernel))
theorem ms_X12_lay : Cond.selects (yX12_lay).cls yX12_lay yX12_lay ∈ ALLg := (al_in (tb8 (List.mem_of_getElem? (i := 158) (by rfl))) (by decide +kernel))
