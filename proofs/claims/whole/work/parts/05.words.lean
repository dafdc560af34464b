set_option maxRecDepth 100000 in
theorem flX0_9 : Cond.fieldLink RX0 9 "CallKeepers$Call" "pieces" "I" ∈ wsL_law := List.mem_of_getElem? (i := 130) rfl
set_option maxRecDepth 100000 in
theorem flX0_15 : Cond.fieldLink RX0 15 "CallKeepers$Call" "length" "I" ∈ wsL_law := List.mem_of_getElem? (i := 145) rfl
set_option maxRecDepth 100000 in
theorem flX0_18 : Cond.fieldLink RX0 18 "CallKeepers$Call" "last" "I" ∈ wsL_law := List.mem_of_getElem? (i := 135) rfl
set_option maxRecDepth 100000 in
theorem flX0_21 : Cond.fieldLink RX0 21 "CallKeepers$Call" "decidedAt" "I" ∈ wsL_law := List.mem_of_getElem? (i := 199) rfl
set_option maxRecDepth 100000 in
theorem flX0_24 : Cond.fieldLink RX0 24 "CallKeepers$Call" "weight" "I" ∈ wsL_law := List.mem_of_getElem? (i := 200) rfl
set_option maxRecDepth 100000 in
theorem flX0_27 : Cond.fieldLink RX0 27 "CallKeepers$Call" "isTorn" "Z" ∈ wsL_law := List.mem_of_getElem? (i := 201) rfl
set_option maxRecDepth 100000 in
theorem flX0_31 : Cond.fieldLink RX0 31 "CallKeepers$Call" "isKept" "Z" ∈ wsL_law := List.mem_of_getElem? (i := 202) rfl
set_option maxRecDepth 100000 in
theorem flX0_34 : Cond.fieldLink RX0 34 "CallKeepers$Call" "isTaken" "Z" ∈ wsL_law := List.mem_of_getElem? (i := 203) rfl
set_option maxRecDepth 100000 in
theorem flX0_37 : Cond.fieldLink RX0 37 "CallKeepers$Call" "number" "I" ∈ wsL_law := List.mem_of_getElem? (i := 204) rfl
set_option maxRecDepth 100000 in
theorem flX0_40 : Cond.fieldLink RX0 40 "CallKeepers$Call" "shape" "I" ∈ wsL_law := List.mem_of_getElem? (i := 205) rfl
set_option maxRecDepth 100000 in
theorem flX0_43 : Cond.fieldLink RX0 43 "CallKeepers$Call" "keeper" "I" ∈ wsL_law := List.mem_of_getElem? (i := 206) rfl
set_option maxRecDepth 100000 in
theorem flX0_46 : Cond.fieldLink RX0 46 "CallKeepers$Call" "since" "I" ∈ wsL_law := List.mem_of_getElem? (i := 207) rfl
set_option maxRecDepth 100000 in
theorem flX1_9 : Cond.fieldLink RX1 9 "CallKeepers" "isUp" "[Z" ∈ wsL_law := List.mem_of_getElem? (i := 13) rfl
set_option maxRecDepth 100000 in
theorem flX1_13 : Cond.fieldLink RX1 13 "CallKeepers" "FIRST_SETTINGS" "[I" ∈ wsL_law := List.mem_of_getElem? (i := 14) rfl
set_option maxRecDepth 100000 in
theorem flX1_22 : Cond.fieldLink RX1 22 "CallKeepers" "settings" "[I" ∈ wsL_law := List.mem_of_getElem? (i := 21) rfl
set_option maxRecDepth 100000 in
theorem flX1_25 : Cond.fieldLink RX1 25 "CallKeepers" "counts" "[I" ∈ wsL_law := List.mem_of_getElem? (i := 23) rfl
set_option maxRecDepth 100000 in
theorem flX1_30 : Cond.fieldLink RX1 30 "CallKeepers" "tallies" "[[I" ∈ wsL_law := List.mem_of_getElem? (i := 25) rfl
set_option maxRecDepth 100000 in
theorem flX1_33 : Cond.fieldLink RX1 33 "CallKeepers" "steps" "[I" ∈ wsL_law := List.mem_of_getElem? (i := 26) rfl
set_option maxRecDepth 100000 in
theorem flX1_38 : Cond.fieldLink RX1 38 "CallKeepers" "waiting" "[LCallKeepers$Call;" ∈ wsL_law := List.mem_of_getElem? (i := 28) rfl
set_option maxRecDepth 100000 in
theorem flX1_42 : Cond.fieldLink RX1 42 "CallKeepers" "decided" "[LCallKeepers$Call;" ∈ wsL_law := List.mem_of_getElem? (i := 29) rfl
set_option maxRecDepth 100000 in
theorem flX1_45 : Cond.fieldLink RX1 45 "CallKeepers" "row" "[LCallKeepers$Call;" ∈ wsL_law := List.mem_of_getElem? (i := 30) rfl
set_option maxRecDepth 100000 in
theorem flX1_48 : Cond.fieldLink RX1 48 "CallKeepers" "marks" "J" ∈ wsL_law := List.mem_of_getElem? (i := 31) rfl
set_option maxRecDepth 100000 in
theorem flX1_67 : Cond.fieldLink RX1 67 "CallKeepers" "LEAST_SETTINGS" "[I" ∈ wsL_law := List.mem_of_getElem? (i := 99) rfl
set_option maxRecDepth 100000 in
theorem flX1_70 : Cond.fieldLink RX1 70 "CallKeepers" "GREATEST_SETTINGS" "[I" ∈ wsL_law := List.mem_of_getElem? (i := 100) rfl
set_option maxRecDepth 100000 in
theorem flX1_105 : Cond.fieldLink RX1 105 "CallKeepers$Call" "keeper" "I" ∈ wsL_law := List.mem_of_getElem? (i := 61) rfl
set_option maxRecDepth 100000 in
theorem flX1_109 : Cond.fieldLink RX1 109 "CallKeepers$Call" "pieces" "I" ∈ wsL_law := List.mem_of_getElem? (i := 263) rfl
set_option maxRecDepth 100000 in
theorem flX1_112 : Cond.fieldLink RX1 112 "CallKeepers$Call" "shape" "I" ∈ wsL_law := List.mem_of_getElem? (i := 157) rfl
set_option maxRecDepth 100000 in
theorem flX1_115 : Cond.fieldLink RX1 115 "CallKeepers$Call" "length" "I" ∈ wsL_law := List.mem_of_getElem? (i := 158) rfl
set_option maxRecDepth 100000 in
theorem flX1_118 : Cond.fieldLink RX1 118 "CallKeepers$Call" "last" "I" ∈ wsL_law := List.mem_of_getElem? (i := 140) rfl
set_option maxRecDepth 100000 in
theorem flX1_121 : Cond.fieldLink RX1 121 "CallKeepers$Call" "since" "I" ∈ wsL_law := List.mem_of_getElem? (i := 254) rfl
set_option maxRecDepth 100000 in
theorem flX1_124 : Cond.fieldLink RX1 124 "CallKeepers$Call" "isKept" "Z" ∈ wsL_law := List.mem_of_getElem? (i := 185) rfl
set_option maxRecDepth 100000 in
theorem flX1_131 : Cond.fieldLink RX1 131 "CallKeepers$Call" "number" "I" ∈ wsL_law := List.mem_of_getElem? (i := 66) rfl
set_option maxRecDepth 100000 in
theorem flX1_134 : Cond.fieldLink RX1 134 "CallKeepers$Call" "weight" "I" ∈ wsL_law := List.mem_of_getElem? (i := 156) rfl
set_option maxRecDepth 100000 in
theorem flX1_137 : Cond.fieldLink RX1 137 "CallKeepers$Call" "isTorn" "Z" ∈ wsL_law := List.mem_of_getElem? (i := 154) rfl
set_option maxRecDepth 100000 in
theorem flX1_140 : Cond.fieldLink RX1 140 "CallKeepers$Call" "decidedAt" "I" ∈ wsL_law := List.mem_of_getElem? (i := 155) rfl
set_option maxRecDepth 100000 in
theorem flX1_146 : Cond.fieldLink RX1 146 "CallKeepers$Call" "isTaken" "Z" ∈ wsL_law := List.mem_of_getElem? (i := 190) rfl
set_option maxRecDepth 100000 in
theorem flX2_7 : Cond.fieldLink RX2 7 "CallKeepersModel" "isDown" "[Z" ∈ wsL_law := List.mem_of_getElem? (i := 36) rfl
set_option maxRecDepth 100000 in
theorem flX2_13 : Cond.fieldLink RX2 13 "CallKeepersModel" "rules" "[I" ∈ wsL_law := List.mem_of_getElem? (i := 37) rfl
set_option maxRecDepth 100000 in
theorem flX2_17 : Cond.fieldLink RX2 17 "CallKeepersModel" "keeperOf" "[I" ∈ wsL_law := List.mem_of_getElem? (i := 38) rfl
set_option maxRecDepth 100000 in
theorem flX2_20 : Cond.fieldLink RX2 20 "CallKeepersModel" "pieces" "[I" ∈ wsL_law := List.mem_of_getElem? (i := 39) rfl
set_option maxRecDepth 100000 in
theorem flX2_23 : Cond.fieldLink RX2 23 "CallKeepersModel" "shapeOf" "[I" ∈ wsL_law := List.mem_of_getElem? (i := 40) rfl
set_option maxRecDepth 100000 in
theorem flX2_26 : Cond.fieldLink RX2 26 "CallKeepersModel" "length" "[I" ∈ wsL_law := List.mem_of_getElem? (i := 41) rfl
set_option maxRecDepth 100000 in
theorem flX2_29 : Cond.fieldLink RX2 29 "CallKeepersModel" "last" "[I" ∈ wsL_law := List.mem_of_getElem? (i := 42) rfl
set_option maxRecDepth 100000 in
theorem flX2_32 : Cond.fieldLink RX2 32 "CallKeepersModel" "came" "[I" ∈ wsL_law := List.mem_of_getElem? (i := 43) rfl
set_option maxRecDepth 100000 in
theorem flX2_35 : Cond.fieldLink RX2 35 "CallKeepersModel" "decision" "[I" ∈ wsL_law := List.mem_of_getElem? (i := 44) rfl
set_option maxRecDepth 100000 in
theorem flX2_38 : Cond.fieldLink RX2 38 "CallKeepersModel" "decidedAt" "[I" ∈ wsL_law := List.mem_of_getElem? (i := 45) rfl
set_option maxRecDepth 100000 in
theorem flX2_41 : Cond.fieldLink RX2 41 "CallKeepersModel" "kept" "[I" ∈ wsL_law := List.mem_of_getElem? (i := 46) rfl
set_option maxRecDepth 100000 in
theorem flX2_44 : Cond.fieldLink RX2 44 "CallKeepersModel" "sums" "[I" ∈ wsL_law := List.mem_of_getElem? (i := 47) rfl
set_option maxRecDepth 100000 in
theorem flX2_47 : Cond.fieldLink RX2 47 "CallKeepersModel" "steps" "[I" ∈ wsL_law := List.mem_of_getElem? (i := 48) rfl
set_option maxRecDepth 100000 in
theorem flX2_50 : Cond.fieldLink RX2 50 "CallKeepersModel" "counts" "[I" ∈ wsL_law := List.mem_of_getElem? (i := 49) rfl
set_option maxRecDepth 100000 in
theorem flX2_53 : Cond.fieldLink RX2 53 "CallKeepersModel" "thrown" "I" ∈ wsL_law := List.mem_of_getElem? (i := 79) rfl
set_option maxRecDepth 100000 in
theorem flX2_65 : Cond.fieldLink RX2 65 "CallKeepersModel" "trace" "J" ∈ wsL_law := List.mem_of_getElem? (i := 230) rfl
set_option maxRecDepth 100000 in
theorem flX2_79 : Cond.fieldLink RX2 79 "CallKeepersModel" "now" "I" ∈ wsL_law := List.mem_of_getElem? (i := 216) rfl
set_option maxRecDepth 100000 in
theorem flX2_82 : Cond.fieldLink RX2 82 "CallKeepersModel" "keptMany" "I" ∈ wsL_law := List.mem_of_getElem? (i := 225) rfl
set_option maxRecDepth 100000 in
theorem clX1_189 : Cond.constantLong RX1 189 (1000) ∈ wsL_law := List.mem_of_getElem? (i := 163) rfl
set_option maxRecDepth 100000 in
theorem clX1_191 : Cond.constantLong RX1 191 (100) ∈ wsL_law := List.mem_of_getElem? (i := 168) rfl
set_option maxRecDepth 100000 in
theorem clX1_196 : Cond.constantLong RX1 196 (10) ∈ wsL_law := List.mem_of_getElem? (i := 173) rfl
set_option maxRecDepth 100000 in
theorem clX2_69 : Cond.constantLong RX2 69 (1000) ∈ wsL_law := List.mem_of_getElem? (i := 231) rfl
set_option maxRecDepth 100000 in
theorem clX2_71 : Cond.constantLong RX2 71 (100) ∈ wsL_law := List.mem_of_getElem? (i := 232) rfl
set_option maxRecDepth 100000 in
theorem clX2_73 : Cond.constantLong RX2 73 (10) ∈ wsL_law := List.mem_of_getElem? (i := 233) rfl
set_option maxRecDepth 100000 in
theorem kgL_9 : kGI RL 9 yX1_init cX1_init 2 0 := ⟨List.mem_of_getElem? (i := 6) rfl, List.mem_of_getElem? (i := 7) rfl, List.mem_of_getElem? (i := 2) rfl, List.mem_of_getElem? (i := 8) rfl, rfl, by decide +kernel⟩
set_option maxRecDepth 100000 in
theorem kgL_12 : kGI RL 12 yX2_init cX2_init 2 0 := ⟨List.mem_of_getElem? (i := 32) rfl, List.mem_of_getElem? (i := 33) rfl, List.mem_of_getElem? (i := 5) rfl, List.mem_of_getElem? (i := 34) rfl, rfl, by decide +kernel⟩
set_option maxRecDepth 100000 in
theorem kgL_13 : kG RL 13 RX1 yX1_keeper cX1_keeper 3 (some .int) 2 := ⟨List.mem_of_getElem? (i := 50) rfl, List.mem_of_getElem? (i := 51) rfl, List.mem_of_getElem? (i := 52) rfl, List.mem_of_getElem? (i := 2) rfl, List.mem_of_getElem? (i := 53) rfl, by decide +kernel⟩
set_option maxRecDepth 100000 in
theorem kgL_17 : kG RL 17 RX2 yX2_keeper cX2_keeper 4 (some .int) 2 := ⟨List.mem_of_getElem? (i := 75) rfl, List.mem_of_getElem? (i := 76) rfl, List.mem_of_getElem? (i := 77) rfl, List.mem_of_getElem? (i := 5) rfl, List.mem_of_getElem? (i := 78) rfl, by decide +kernel⟩
set_option maxRecDepth 100000 in
theorem kgL_18 : kG RL 18 RX1 yX1_home cX1_home 2 (some .int) 1 := ⟨List.mem_of_getElem? (i := 87) rfl, List.mem_of_getElem? (i := 88) rfl, List.mem_of_getElem? (i := 89) rfl, List.mem_of_getElem? (i := 2) rfl, List.mem_of_getElem? (i := 90) rfl, by decide +kernel⟩
set_option maxRecDepth 100000 in
theorem kgL_22 : kG RL 22 RX2 yX2_home cX2_home 2 (some .int) 1 := ⟨List.mem_of_getElem? (i := 91) rfl, List.mem_of_getElem? (i := 92) rfl, List.mem_of_getElem? (i := 93) rfl, List.mem_of_getElem? (i := 5) rfl, List.mem_of_getElem? (i := 94) rfl, by decide +kernel⟩
set_option maxRecDepth 100000 in
theorem kgL_23 : kG RL 23 RX1 yX1_set cX1_set 4 (some .int) 2 := ⟨List.mem_of_getElem? (i := 95) rfl, List.mem_of_getElem? (i := 96) rfl, List.mem_of_getElem? (i := 97) rfl, List.mem_of_getElem? (i := 2) rfl, List.mem_of_getElem? (i := 98) rfl, by decide +kernel⟩
set_option maxRecDepth 100000 in
theorem kgL_27 : kG RL 27 RX2 yX2_set cX2_set 6 (some .int) 2 := ⟨List.mem_of_getElem? (i := 108) rfl, List.mem_of_getElem? (i := 109) rfl, List.mem_of_getElem? (i := 110) rfl, List.mem_of_getElem? (i := 5) rfl, List.mem_of_getElem? (i := 111) rfl, by decide +kernel⟩
set_option maxRecDepth 100000 in
theorem kgL_28 : kG RL 28 RX1 yX1_piece cX1_piece 10 (some .int) 5 := ⟨List.mem_of_getElem? (i := 112) rfl, List.mem_of_getElem? (i := 113) rfl, List.mem_of_getElem? (i := 114) rfl, List.mem_of_getElem? (i := 2) rfl, List.mem_of_getElem? (i := 115) rfl, by decide +kernel⟩
set_option maxRecDepth 100000 in
theorem kgL_32 : kG RL 32 RX2 yX2_piece cX2_piece 7 (some .int) 5 := ⟨List.mem_of_getElem? (i := 208) rfl, List.mem_of_getElem? (i := 209) rfl, List.mem_of_getElem? (i := 210) rfl, List.mem_of_getElem? (i := 5) rfl, List.mem_of_getElem? (i := 211) rfl, by decide +kernel⟩
set_option maxRecDepth 100000 in
theorem kgL_33 : kG RL 33 RX1 yX1_tick cX1_tick 4 (some .int) 1 := ⟨List.mem_of_getElem? (i := 246) rfl, List.mem_of_getElem? (i := 247) rfl, List.mem_of_getElem? (i := 248) rfl, List.mem_of_getElem? (i := 2) rfl, List.mem_of_getElem? (i := 249) rfl, by decide +kernel⟩
set_option maxRecDepth 100000 in
theorem kgL_36 : kG RL 36 RX2 yX2_tick cX2_tick 5 (some .int) 1 := ⟨List.mem_of_getElem? (i := 255) rfl, List.mem_of_getElem? (i := 256) rfl, List.mem_of_getElem? (i := 257) rfl, List.mem_of_getElem? (i := 5) rfl, List.mem_of_getElem? (i := 258) rfl, by decide +kernel⟩
set_option maxRecDepth 100000 in
theorem kgL_37 : kG RL 37 RX1 yX1_waits cX1_waits 4 (some .int) 2 := ⟨List.mem_of_getElem? (i := 259) rfl, List.mem_of_getElem? (i := 260) rfl, List.mem_of_getElem? (i := 261) rfl, List.mem_of_getElem? (i := 2) rfl, List.mem_of_getElem? (i := 262) rfl, by decide +kernel⟩
set_option maxRecDepth 100000 in
theorem kgL_40 : kG RL 40 RX2 yX2_waits cX2_waits 3 (some .int) 2 := ⟨List.mem_of_getElem? (i := 264) rfl, List.mem_of_getElem? (i := 265) rfl, List.mem_of_getElem? (i := 266) rfl, List.mem_of_getElem? (i := 5) rfl, List.mem_of_getElem? (i := 267) rfl, by decide +kernel⟩
set_option maxRecDepth 100000 in
theorem kgL_41 : kG RL 41 RX1 yX1_remembered cX1_remembered 3 (some .int) 1 := ⟨List.mem_of_getElem? (i := 268) rfl, List.mem_of_getElem? (i := 269) rfl, List.mem_of_getElem? (i := 270) rfl, List.mem_of_getElem? (i := 2) rfl, List.mem_of_getElem? (i := 271) rfl, by decide +kernel⟩
set_option maxRecDepth 100000 in
theorem kgL_44 : kG RL 44 RX2 yX2_remembered cX2_remembered 2 (some .int) 1 := ⟨List.mem_of_getElem? (i := 272) rfl, List.mem_of_getElem? (i := 273) rfl, List.mem_of_getElem? (i := 274) rfl, List.mem_of_getElem? (i := 5) rfl, List.mem_of_getElem? (i := 275) rfl, by decide +kernel⟩
set_option maxRecDepth 100000 in
theorem kgL_45 : kG RL 45 RX1 yX1_kept cX1_kept 4 (some .int) 2 := ⟨List.mem_of_getElem? (i := 276) rfl, List.mem_of_getElem? (i := 277) rfl, List.mem_of_getElem? (i := 278) rfl, List.mem_of_getElem? (i := 2) rfl, List.mem_of_getElem? (i := 279) rfl, by decide +kernel⟩
set_option maxRecDepth 100000 in
theorem kgL_48 : kG RL 48 RX2 yX2_kept cX2_kept 3 (some .int) 2 := ⟨List.mem_of_getElem? (i := 284) rfl, List.mem_of_getElem? (i := 285) rfl, List.mem_of_getElem? (i := 286) rfl, List.mem_of_getElem? (i := 5) rfl, List.mem_of_getElem? (i := 287) rfl, by decide +kernel⟩
set_option maxRecDepth 100000 in
theorem kgL_49 : kG RL 49 RX1 yX1_take cX1_take 3 (some .int) 1 := ⟨List.mem_of_getElem? (i := 288) rfl, List.mem_of_getElem? (i := 289) rfl, List.mem_of_getElem? (i := 290) rfl, List.mem_of_getElem? (i := 2) rfl, List.mem_of_getElem? (i := 291) rfl, by decide +kernel⟩
set_option maxRecDepth 100000 in
theorem kgL_52 : kG RL 52 RX2 yX2_take cX2_take 6 (some .int) 1 := ⟨List.mem_of_getElem? (i := 296) rfl, List.mem_of_getElem? (i := 297) rfl, List.mem_of_getElem? (i := 298) rfl, List.mem_of_getElem? (i := 5) rfl, List.mem_of_getElem? (i := 299) rfl, by decide +kernel⟩
set_option maxRecDepth 100000 in
theorem kgL_53 : kG RL 53 RX1 yX1_shape cX1_shape 3 (some .int) 2 := ⟨List.mem_of_getElem? (i := 300) rfl, List.mem_of_getElem? (i := 301) rfl, List.mem_of_getElem? (i := 302) rfl, List.mem_of_getElem? (i := 2) rfl, List.mem_of_getElem? (i := 303) rfl, by decide +kernel⟩
set_option maxRecDepth 100000 in
theorem kgL_56 : kG RL 56 RX2 yX2_shape cX2_shape 3 (some .int) 2 := ⟨List.mem_of_getElem? (i := 304) rfl, List.mem_of_getElem? (i := 305) rfl, List.mem_of_getElem? (i := 306) rfl, List.mem_of_getElem? (i := 5) rfl, List.mem_of_getElem? (i := 307) rfl, by decide +kernel⟩
set_option maxRecDepth 100000 in
theorem kgL_57 : kG RL 57 RX1 yX1_step cX1_step 2 (some .int) 1 := ⟨List.mem_of_getElem? (i := 308) rfl, List.mem_of_getElem? (i := 309) rfl, List.mem_of_getElem? (i := 310) rfl, List.mem_of_getElem? (i := 2) rfl, List.mem_of_getElem? (i := 311) rfl, by decide +kernel⟩
set_option maxRecDepth 100000 in
theorem kgL_60 : kG RL 60 RX2 yX2_step cX2_step 2 (some .int) 1 := ⟨List.mem_of_getElem? (i := 312) rfl, List.mem_of_getElem? (i := 313) rfl, List.mem_of_getElem? (i := 314) rfl, List.mem_of_getElem? (i := 5) rfl, List.mem_of_getElem? (i := 315) rfl, by decide +kernel⟩
set_option maxRecDepth 100000 in
theorem kgL_61 : kG RL 61 RX1 yX1_bound cX1_bound 5 (some .int) 3 := ⟨List.mem_of_getElem? (i := 316) rfl, List.mem_of_getElem? (i := 317) rfl, List.mem_of_getElem? (i := 318) rfl, List.mem_of_getElem? (i := 2) rfl, List.mem_of_getElem? (i := 319) rfl, by decide +kernel⟩
set_option maxRecDepth 100000 in
theorem kgL_65 : kG RL 65 RX2 yX2_bound cX2_bound 7 (some .int) 3 := ⟨List.mem_of_getElem? (i := 324) rfl, List.mem_of_getElem? (i := 325) rfl, List.mem_of_getElem? (i := 326) rfl, List.mem_of_getElem? (i := 5) rfl, List.mem_of_getElem? (i := 327) rfl, by decide +kernel⟩
set_option maxRecDepth 100000 in
theorem kgL_66 : kG RL 66 RX1 yX1_count cX1_count 2 (some .int) 1 := ⟨List.mem_of_getElem? (i := 328) rfl, List.mem_of_getElem? (i := 329) rfl, List.mem_of_getElem? (i := 330) rfl, List.mem_of_getElem? (i := 2) rfl, List.mem_of_getElem? (i := 331) rfl, by decide +kernel⟩
set_option maxRecDepth 100000 in
theorem kgL_69 : kG RL 69 RX2 yX2_count cX2_count 4 (some .int) 1 := ⟨List.mem_of_getElem? (i := 332) rfl, List.mem_of_getElem? (i := 333) rfl, List.mem_of_getElem? (i := 334) rfl, List.mem_of_getElem? (i := 5) rfl, List.mem_of_getElem? (i := 335) rfl, by decide +kernel⟩
set_option maxRecDepth 100000 in
theorem kgL_70 : kG RL 70 RX1 yX1_trace cX1_trace 1 (some .long) 0 := ⟨List.mem_of_getElem? (i := 336) rfl, List.mem_of_getElem? (i := 337) rfl, List.mem_of_getElem? (i := 338) rfl, List.mem_of_getElem? (i := 2) rfl, List.mem_of_getElem? (i := 339) rfl, by decide +kernel⟩
set_option maxRecDepth 100000 in
theorem kgL_74 : kG RL 74 RX2 yX2_trace cX2_trace 1 (some .long) 0 := ⟨List.mem_of_getElem? (i := 340) rfl, List.mem_of_getElem? (i := 341) rfl, List.mem_of_getElem? (i := 342) rfl, List.mem_of_getElem? (i := 5) rfl, List.mem_of_getElem? (i := 343) rfl, by decide +kernel⟩
set_option maxRecDepth 100000 in
theorem kgX1_52 : kGS RX1 52 yX1_isBelow cX1_isBelow 2 (some .boolean) 2 := ⟨List.mem_of_getElem? (i := 54) rfl, List.mem_of_getElem? (i := 55) rfl, List.mem_of_getElem? (i := 2) rfl, List.mem_of_getElem? (i := 56) rfl, by decide +kernel⟩
set_option maxRecDepth 100000 in
theorem kgX1_56 : kG RX1 56 RX1 yX1_loseCallsAt cX1_loseCallsAt 4 none 1 := ⟨List.mem_of_getElem? (i := 57) rfl, List.mem_of_getElem? (i := 58) rfl, List.mem_of_getElem? (i := 59) rfl, List.mem_of_getElem? (i := 2) rfl, List.mem_of_getElem? (i := 60) rfl, by decide +kernel⟩
set_option maxRecDepth 100000 in
theorem kgX1_60 : kG RX1 60 RX1 yX1_moveCallsHome cX1_moveCallsHome 4 none 0 := ⟨List.mem_of_getElem? (i := 67) rfl, List.mem_of_getElem? (i := 68) rfl, List.mem_of_getElem? (i := 69) rfl, List.mem_of_getElem? (i := 2) rfl, List.mem_of_getElem? (i := 70) rfl, by decide +kernel⟩
set_option maxRecDepth 100000 in
theorem kgX1_63 : kG RX1 63 RX1 yX1_homeOf cX1_homeOf 6 (some .int) 1 := ⟨List.mem_of_getElem? (i := 71) rfl, List.mem_of_getElem? (i := 72) rfl, List.mem_of_getElem? (i := 73) rfl, List.mem_of_getElem? (i := 2) rfl, List.mem_of_getElem? (i := 74) rfl, by decide +kernel⟩
set_option maxRecDepth 100000 in
theorem kgX1_73 : kGS RX1 73 yX1_isWithin cX1_isWithin 3 (some .boolean) 3 := ⟨List.mem_of_getElem? (i := 101) rfl, List.mem_of_getElem? (i := 102) rfl, List.mem_of_getElem? (i := 2) rfl, List.mem_of_getElem? (i := 103) rfl, by decide +kernel⟩
set_option maxRecDepth 100000 in
theorem kgX1_77 : kG RX1 77 RX1 yX1_leaveFair cX1_leaveFair 2 none 0 := ⟨List.mem_of_getElem? (i := 104) rfl, List.mem_of_getElem? (i := 105) rfl, List.mem_of_getElem? (i := 106) rfl, List.mem_of_getElem? (i := 2) rfl, List.mem_of_getElem? (i := 107) rfl, by decide +kernel⟩
set_option maxRecDepth 100000 in
theorem kgX1_80 : kG RX1 80 RX1 yX1_counted cX1_counted 3 (some .int) 2 := ⟨List.mem_of_getElem? (i := 118) rfl, List.mem_of_getElem? (i := 119) rfl, List.mem_of_getElem? (i := 120) rfl, List.mem_of_getElem? (i := 2) rfl, List.mem_of_getElem? (i := 121) rfl, by decide +kernel⟩
set_option maxRecDepth 100000 in
theorem kgX1_84 : kG RX1 84 RX1 yX1_hearWaiting cX1_hearWaiting 5 (some .int) 4 := ⟨List.mem_of_getElem? (i := 122) rfl, List.mem_of_getElem? (i := 123) rfl, List.mem_of_getElem? (i := 124) rfl, List.mem_of_getElem? (i := 2) rfl, List.mem_of_getElem? (i := 125) rfl, by decide +kernel⟩
set_option maxRecDepth 100000 in
theorem kgX1_88 : kG RX1 88 RX1 yX1_recall cX1_recall 3 (some (.object "CallKeepers$Call")) 1 := ⟨List.mem_of_getElem? (i := 186) rfl, List.mem_of_getElem? (i := 187) rfl, List.mem_of_getElem? (i := 188) rfl, List.mem_of_getElem? (i := 2) rfl, List.mem_of_getElem? (i := 189) rfl, by decide +kernel⟩
set_option maxRecDepth 100000 in
theorem kgX1_92 : kG RX1 92 RX1 yX1_hearDecided cX1_hearDecided 5 (some .int) 3 := ⟨List.mem_of_getElem? (i := 191) rfl, List.mem_of_getElem? (i := 192) rfl, List.mem_of_getElem? (i := 193) rfl, List.mem_of_getElem? (i := 2) rfl, List.mem_of_getElem? (i := 194) rfl, by decide +kernel⟩
set_option maxRecDepth 100000 in
theorem kgX1_96 : kGI RX1 96 yX0_init cX0_init 5 4 := ⟨List.mem_of_getElem? (i := 195) rfl, List.mem_of_getElem? (i := 196) rfl, List.mem_of_getElem? (i := 117) rfl, List.mem_of_getElem? (i := 197) rfl, rfl, by decide +kernel⟩
set_option maxRecDepth 100000 in
theorem kgX1_99 : kG RX1 99 RX1 yX1_takeIn cX1_takeIn 5 (some .int) 4 := ⟨List.mem_of_getElem? (i := 136) rfl, List.mem_of_getElem? (i := 137) rfl, List.mem_of_getElem? (i := 138) rfl, List.mem_of_getElem? (i := 2) rfl, List.mem_of_getElem? (i := 139) rfl, by decide +kernel⟩
set_option maxRecDepth 100000 in
theorem kgX1_102 : kG RX1 102 RX1 yX1_passOneTick cX1_passOneTick 3 none 0 := ⟨List.mem_of_getElem? (i := 250) rfl, List.mem_of_getElem? (i := 251) rfl, List.mem_of_getElem? (i := 252) rfl, List.mem_of_getElem? (i := 2) rfl, List.mem_of_getElem? (i := 253) rfl, by decide +kernel⟩
set_option maxRecDepth 100000 in
theorem kgX1_128 : kG RX1 128 RX1 yX1_keptAt cX1_keptAt 2 (some (.object "CallKeepers$Call")) 1 := ⟨List.mem_of_getElem? (i := 280) rfl, List.mem_of_getElem? (i := 281) rfl, List.mem_of_getElem? (i := 282) rfl, List.mem_of_getElem? (i := 2) rfl, List.mem_of_getElem? (i := 283) rfl, by decide +kernel⟩
set_option maxRecDepth 100000 in
theorem kgX1_143 : kG RX1 143 RX1 yX1_closeRowAt cX1_closeRowAt 3 none 1 := ⟨List.mem_of_getElem? (i := 292) rfl, List.mem_of_getElem? (i := 293) rfl, List.mem_of_getElem? (i := 294) rfl, List.mem_of_getElem? (i := 2) rfl, List.mem_of_getElem? (i := 295) rfl, by decide +kernel⟩
set_option maxRecDepth 100000 in
theorem kgX1_149 : kG RX1 149 RX1 yX1_stepOfShare cX1_stepOfShare 8 (some .int) 2 := ⟨List.mem_of_getElem? (i := 320) rfl, List.mem_of_getElem? (i := 321) rfl, List.mem_of_getElem? (i := 322) rfl, List.mem_of_getElem? (i := 2) rfl, List.mem_of_getElem? (i := 323) rfl, by decide +kernel⟩
set_option maxRecDepth 100000 in
theorem kgX1_152 : kG RX1 152 RX1 yX1_stopWaiting cX1_stopWaiting 2 none 1 := ⟨List.mem_of_getElem? (i := 62) rfl, List.mem_of_getElem? (i := 63) rfl, List.mem_of_getElem? (i := 64) rfl, List.mem_of_getElem? (i := 2) rfl, List.mem_of_getElem? (i := 65) rfl, by decide +kernel⟩
set_option maxRecDepth 100000 in
theorem kgX1_156 : kG RX1 156 RX0 yX0_has cX0_has 2 (some .boolean) 1 := ⟨List.mem_of_getElem? (i := 126) rfl, List.mem_of_getElem? (i := 127) rfl, List.mem_of_getElem? (i := 128) rfl, List.mem_of_getElem? (i := 117) rfl, List.mem_of_getElem? (i := 129) rfl, by decide +kernel⟩
set_option maxRecDepth 100000 in
theorem kgX1_160 : kG RX1 160 RX0 yX0_contradicts cX0_contradicts 6 (some .boolean) 2 := ⟨List.mem_of_getElem? (i := 131) rfl, List.mem_of_getElem? (i := 132) rfl, List.mem_of_getElem? (i := 133) rfl, List.mem_of_getElem? (i := 117) rfl, List.mem_of_getElem? (i := 134) rfl, by decide +kernel⟩
set_option maxRecDepth 100000 in
theorem kgX1_164 : kG RX1 164 RX0 yX0_add cX0_add 3 none 2 := ⟨List.mem_of_getElem? (i := 141) rfl, List.mem_of_getElem? (i := 142) rfl, List.mem_of_getElem? (i := 143) rfl, List.mem_of_getElem? (i := 117) rfl, List.mem_of_getElem? (i := 144) rfl, by decide +kernel⟩
set_option maxRecDepth 100000 in
theorem kgX1_168 : kG RX1 168 RX0 yX0_isWhole cX0_isWhole 2 (some .boolean) 0 := ⟨List.mem_of_getElem? (i := 146) rfl, List.mem_of_getElem? (i := 147) rfl, List.mem_of_getElem? (i := 148) rfl, List.mem_of_getElem? (i := 117) rfl, List.mem_of_getElem? (i := 149) rfl, by decide +kernel⟩
set_option maxRecDepth 100000 in
theorem kgX1_172 : kG RX1 172 RX1 yX1_decide cX1_decide 3 none 2 := ⟨List.mem_of_getElem? (i := 150) rfl, List.mem_of_getElem? (i := 151) rfl, List.mem_of_getElem? (i := 152) rfl, List.mem_of_getElem? (i := 2) rfl, List.mem_of_getElem? (i := 153) rfl, by decide +kernel⟩
set_option maxRecDepth 100000 in
theorem kgX1_176 : kG RX1 176 RX1 yX1_weighTorn cX1_weighTorn 2 (some .int) 1 := ⟨List.mem_of_getElem? (i := 159) rfl, List.mem_of_getElem? (i := 160) rfl, List.mem_of_getElem? (i := 161) rfl, List.mem_of_getElem? (i := 2) rfl, List.mem_of_getElem? (i := 162) rfl, by decide +kernel⟩
set_option maxRecDepth 100000 in
theorem kgX1_180 : kG RX1 180 RX1 yX1_weighRare cX1_weighRare 2 (some .int) 1 := ⟨List.mem_of_getElem? (i := 164) rfl, List.mem_of_getElem? (i := 165) rfl, List.mem_of_getElem? (i := 166) rfl, List.mem_of_getElem? (i := 2) rfl, List.mem_of_getElem? (i := 167) rfl, by decide +kernel⟩
set_option maxRecDepth 100000 in
theorem kgX1_183 : kGS RX1 183 yX1_stepOf cX1_stepOf 2 (some .int) 1 := ⟨List.mem_of_getElem? (i := 178) rfl, List.mem_of_getElem? (i := 179) rfl, List.mem_of_getElem? (i := 2) rfl, List.mem_of_getElem? (i := 180) rfl, by decide +kernel⟩
set_option maxRecDepth 100000 in
theorem kgX1_186 : kG RX1 186 RX1 yX1_keepOrLetFall cX1_keepOrLetFall 3 none 1 := ⟨List.mem_of_getElem? (i := 181) rfl, List.mem_of_getElem? (i := 182) rfl, List.mem_of_getElem? (i := 183) rfl, List.mem_of_getElem? (i := 2) rfl, List.mem_of_getElem? (i := 184) rfl, by decide +kernel⟩
set_option maxRecDepth 100000 in
theorem kgX1_193 : kG RX1 193 RX1 yX1_weighLong cX1_weighLong 2 (some .int) 1 := ⟨List.mem_of_getElem? (i := 169) rfl, List.mem_of_getElem? (i := 170) rfl, List.mem_of_getElem? (i := 171) rfl, List.mem_of_getElem? (i := 2) rfl, List.mem_of_getElem? (i := 172) rfl, by decide +kernel⟩
set_option maxRecDepth 100000 in
theorem kgX1_198 : kG RX1 198 RX1 yX1_weighFair cX1_weighFair 3 (some .int) 1 := ⟨List.mem_of_getElem? (i := 174) rfl, List.mem_of_getElem? (i := 175) rfl, List.mem_of_getElem? (i := 176) rfl, List.mem_of_getElem? (i := 2) rfl, List.mem_of_getElem? (i := 177) rfl, by decide +kernel⟩
set_option maxRecDepth 100000 in
theorem kgX2_57 : kGS RX2 57 yX2_in cX2_in 3 (some .boolean) 3 := ⟨List.mem_of_getElem? (i := 80) rfl, List.mem_of_getElem? (i := 81) rfl, List.mem_of_getElem? (i := 5) rfl, List.mem_of_getElem? (i := 82) rfl, by decide +kernel⟩
set_option maxRecDepth 100000 in
theorem kgX2_61 : kG RX2 61 RX2 yX2_homeOf cX2_homeOf 6 (some .int) 1 := ⟨List.mem_of_getElem? (i := 83) rfl, List.mem_of_getElem? (i := 84) rfl, List.mem_of_getElem? (i := 85) rfl, List.mem_of_getElem? (i := 5) rfl, List.mem_of_getElem? (i := 86) rfl, by decide +kernel⟩
set_option maxRecDepth 100000 in
theorem kgX2_75 : kG RX2 75 RX2 yX2_weightOf cX2_weightOf 4 (some .int) 3 := ⟨List.mem_of_getElem? (i := 226) rfl, List.mem_of_getElem? (i := 227) rfl, List.mem_of_getElem? (i := 228) rfl, List.mem_of_getElem? (i := 5) rfl, List.mem_of_getElem? (i := 229) rfl, by decide +kernel⟩
set_option maxRecDepth 100000 in
theorem kgX2_85 : kG RX2 85 RX2 yX2_decides cX2_decides 8 none 2 := ⟨List.mem_of_getElem? (i := 221) rfl, List.mem_of_getElem? (i := 222) rfl, List.mem_of_getElem? (i := 223) rfl, List.mem_of_getElem? (i := 5) rfl, List.mem_of_getElem? (i := 224) rfl, by decide +kernel⟩
set_option maxRecDepth 100000 in
theorem kgX2_89 : kG RX2 89 RX2 yX2_joins cX2_joins 5 (some .int) 4 := ⟨List.mem_of_getElem? (i := 217) rfl, List.mem_of_getElem? (i := 218) rfl, List.mem_of_getElem? (i := 219) rfl, List.mem_of_getElem? (i := 5) rfl, List.mem_of_getElem? (i := 220) rfl, by decide +kernel⟩
set_option maxRecDepth 100000 in
theorem kgX2_93 : kG RX2 93 RX2 yX2_isKnown cX2_isKnown 2 (some .boolean) 1 := ⟨List.mem_of_getElem? (i := 234) rfl, List.mem_of_getElem? (i := 235) rfl, List.mem_of_getElem? (i := 236) rfl, List.mem_of_getElem? (i := 5) rfl, List.mem_of_getElem? (i := 237) rfl, by decide +kernel⟩
set_option maxRecDepth 100000 in
theorem kgX2_97 : kG RX2 97 RX2 yX2_keptAt cX2_keptAt 3 (some .int) 1 := ⟨List.mem_of_getElem? (i := 238) rfl, List.mem_of_getElem? (i := 239) rfl, List.mem_of_getElem? (i := 240) rfl, List.mem_of_getElem? (i := 5) rfl, List.mem_of_getElem? (i := 241) rfl, by decide +kernel⟩
set_option maxRecDepth 100000 in
theorem kgX2_100 : kG RX2 100 RX2 yX2_waitingMany cX2_waitingMany 3 (some .int) 0 := ⟨List.mem_of_getElem? (i := 242) rfl, List.mem_of_getElem? (i := 243) rfl, List.mem_of_getElem? (i := 244) rfl, List.mem_of_getElem? (i := 5) rfl, List.mem_of_getElem? (i := 245) rfl, by decide +kernel⟩
set_option maxRecDepth 100000 in
theorem kgX2_104 : kG RX2 104 RX2 yX2_comes cX2_comes 7 (some .int) 5 := ⟨List.mem_of_getElem? (i := 212) rfl, List.mem_of_getElem? (i := 213) rfl, List.mem_of_getElem? (i := 214) rfl, List.mem_of_getElem? (i := 5) rfl, List.mem_of_getElem? (i := 215) rfl, by decide +kernel⟩
