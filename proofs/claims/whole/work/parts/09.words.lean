theorem tbk {w : Cond} (h : w ∈ tables_1) (g : goodWord w = true) : w ∈ TB := inTB (List.mem_append_right _ h) g
theorem tb1 {w : Cond} (h : w ∈ tables_1_1) (g : goodWord w = true) : w ∈ TB := tbk (List.mem_append_left _ h) g
theorem tb2 {w : Cond} (h : w ∈ tables_1_2) (g : goodWord w = true) : w ∈ TB := tbk (List.mem_append_right _ (List.mem_append_left _ h)) g
theorem tb3 {w : Cond} (h : w ∈ tables_1_3) (g : goodWord w = true) : w ∈ TB := tbk (List.mem_append_right _ (List.mem_append_right _ (List.mem_append_left _ h))) g
theorem tb4 {w : Cond} (h : w ∈ tables_1_4) (g : goodWord w = true) : w ∈ TB := tbk (List.mem_append_right _ (List.mem_append_right _ (List.mem_append_right _ (List.mem_append_left _ h)))) g
theorem tb5 {w : Cond} (h : w ∈ tables_1_5) (g : goodWord w = true) : w ∈ TB := tbk (List.mem_append_right _ (List.mem_append_right _ (List.mem_append_right _ (List.mem_append_right _ (List.mem_append_left _ h))))) g
theorem tb6 {w : Cond} (h : w ∈ tables_1_6) (g : goodWord w = true) : w ∈ TB := tbk (List.mem_append_right _ (List.mem_append_right _ (List.mem_append_right _ (List.mem_append_right _ (List.mem_append_right _ (List.mem_append_left _ h)))))) g
theorem tb7 {w : Cond} (h : w ∈ tables_1_7) (g : goodWord w = true) : w ∈ TB := tbk (List.mem_append_right _ (List.mem_append_right _ (List.mem_append_right _ (List.mem_append_right _ (List.mem_append_right _ (List.mem_append_right _ (h))))))) g
theorem wi_L : Cond.initialized RL ∈ TB := tb1 (List.mem_of_getElem? (i := 0) rfl) rfl
theorem wi_X11 : Cond.initialized RX11 ∈ TB := tb1 (List.mem_of_getElem? (i := 1) rfl) rfl
theorem wi_X9 : Cond.initialized RX9 ∈ TB := tb1 (List.mem_of_getElem? (i := 2) rfl) rfl
theorem wi_J7 : Cond.initialized RJ7 ∈ TB := tb1 (List.mem_of_getElem? (i := 3) rfl) rfl
theorem wi_X2 : Cond.initialized RX2 ∈ TB := tb1 (List.mem_of_getElem? (i := 4) rfl) rfl
theorem wi_X8 : Cond.initialized RX8 ∈ TB := tb1 (List.mem_of_getElem? (i := 5) rfl) rfl
theorem wi_X3 : Cond.initialized RX3 ∈ TB := tb1 (List.mem_of_getElem? (i := 6) rfl) rfl
theorem wi_X4 : Cond.initialized RX4 ∈ TB := tb1 (List.mem_of_getElem? (i := 7) rfl) rfl
theorem wi_X10 : Cond.initialized RX10 ∈ TB := tb1 (List.mem_of_getElem? (i := 8) rfl) rfl
theorem wi_X5 : Cond.initialized RX5 ∈ TB := tb1 (List.mem_of_getElem? (i := 9) rfl) rfl
theorem wi_X6 : Cond.initialized RX6 ∈ TB := tb1 (List.mem_of_getElem? (i := 10) rfl) rfl
theorem wi_X1 : Cond.initialized RX1 ∈ TB := tb1 (List.mem_of_getElem? (i := 11) rfl) rfl
theorem wi_X0 : Cond.initialized RX0 ∈ TB := tb1 (List.mem_of_getElem? (i := 12) rfl) rfl
theorem wi_X7 : Cond.initialized RX7 ∈ TB := tb1 (List.mem_of_getElem? (i := 13) rfl) rfl
theorem wi_X12 : Cond.initialized RX12 ∈ TB := tb1 (List.mem_of_getElem? (i := 14) rfl) rfl
theorem wi_J10 : Cond.initialized RJ10 ∈ TB := tb1 (List.mem_of_getElem? (i := 15) rfl) rfl
theorem wi_J9 : Cond.initialized RJ9 ∈ TB := tb1 (List.mem_of_getElem? (i := 16) rfl) rfl
theorem wi_J0 : Cond.initialized RJ0 ∈ TB := tb1 (List.mem_of_getElem? (i := 17) rfl) rfl
theorem wi_J1 : Cond.initialized RJ1 ∈ TB := tb1 (List.mem_of_getElem? (i := 18) rfl) rfl
theorem wi_J2 : Cond.initialized RJ2 ∈ TB := tb1 (List.mem_of_getElem? (i := 19) rfl) rfl
theorem wi_J3 : Cond.initialized RJ3 ∈ TB := tb1 (List.mem_of_getElem? (i := 20) rfl) rfl
theorem wi_J11 : Cond.initialized RJ11 ∈ TB := tb1 (List.mem_of_getElem? (i := 21) rfl) rfl
theorem wq_L_7 : Cond.classLink RL 7 RX11 ∈ TB := tb1 (List.mem_of_getElem? (i := 22) rfl) rfl
theorem wt_X11 : Cond.instantiable RX11 15 ∈ TB := tb1 (List.mem_of_getElem? (i := 23) rfl) rfl
theorem wl_L_9 : Cond.methodLink RL 9 yX11_init ∈ TB := tb1 (List.mem_of_getElem? (i := 24) rfl) rfl
theorem wm_X11_init : Cond.instanceMethod yX11_init ∈ TB := tb1 (List.mem_of_getElem? (i := 25) rfl) rfl
theorem wc_X11_init : Cond.code yX11_init cX11_init 1 none ∈ TB := tb1 (List.mem_of_getElem? (i := 26) rfl) rfl
theorem wl_X11_1 : Cond.methodLink RX11 1 objectInit ∈ TB := tb1 (List.mem_of_getElem? (i := 27) rfl) rfl
theorem wm_obj : Cond.instanceMethod objectInit ∈ TB := tb1 (List.mem_of_getElem? (i := 28) rfl) rfl
theorem wc_obj : Cond.code objectInit ⟨#[0xb1]⟩ 1 none ∈ TB := tb1 (List.mem_of_getElem? (i := 29) rfl) rfl
theorem wq_X11_7 : Cond.classLink RX11 7 RX9 ∈ TB := tb1 (List.mem_of_getElem? (i := 30) rfl) rfl
theorem wt_X9 : Cond.instantiable RX9 8 ∈ TB := tb1 (List.mem_of_getElem? (i := 31) rfl) rfl
theorem wl_X11_9 : Cond.methodLink RX11 9 yX9_init ∈ TB := tb1 (List.mem_of_getElem? (i := 32) rfl) rfl
theorem wm_X9_init : Cond.instanceMethod yX9_init ∈ TB := tb1 (List.mem_of_getElem? (i := 33) rfl) rfl
theorem wc_X9_init : Cond.code yX9_init cX9_init 1 none ∈ TB := tb1 (List.mem_of_getElem? (i := 34) rfl) rfl
theorem wl_X9_3 : Cond.methodLink RX9 3 objectInit ∈ TB := tb1 (List.mem_of_getElem? (i := 35) rfl) rfl
theorem wl_X9_27 : Cond.methodLink RX9 27 yJ7_fill_53178 ∈ TB := tb1 (List.mem_of_getElem? (i := 36) rfl) rfl
theorem ws_J7_fill_53178 : Cond.static yJ7_fill_53178 ∈ TB := tb1 (List.mem_of_getElem? (i := 37) rfl) rfl
theorem wc_J7_fill_53178 : Cond.code yJ7_fill_53178 cJ7_fill_53178 4 none ∈ TB := tb1 (List.mem_of_getElem? (i := 38) rfl) rfl
theorem wf_X9_33 : Cond.fieldLink RX9 33 "HatRank$Town" "people" "I" ∈ TB := tb1 (List.mem_of_getElem? (i := 39) rfl) rfl
theorem wf_X5_88 : Cond.fieldLink RX5 88 "HatRank$Town" "people" "I" ∈ TB := tb1 (List.mem_of_getElem? (i := 40) rfl) rfl
theorem wf_X10_48 : Cond.fieldLink RX10 48 "HatRank$Town" "people" "I" ∈ TB := tb1 (List.mem_of_getElem? (i := 41) rfl) rfl
theorem wf_X4_82 : Cond.fieldLink RX4 82 "HatRank$Town" "people" "I" ∈ TB := tb1 (List.mem_of_getElem? (i := 42) rfl) rfl
theorem wf_X11_178 : Cond.fieldLink RX11 178 "HatRank$Town" "people" "I" ∈ TB := tb1 (List.mem_of_getElem? (i := 43) rfl) rfl
theorem wf_X6_29 : Cond.fieldLink RX6 29 "HatRank$Town" "places" "I" ∈ TB := tb1 (List.mem_of_getElem? (i := 44) rfl) rfl
theorem wf_X9_37 : Cond.fieldLink RX9 37 "HatRank$Town" "places" "I" ∈ TB := tb1 (List.mem_of_getElem? (i := 45) rfl) rfl
theorem wf_X11_226 : Cond.fieldLink RX11 226 "HatRank$Town" "places" "I" ∈ TB := tb1 (List.mem_of_getElem? (i := 46) rfl) rfl
theorem wf_X9_44 : Cond.fieldLink RX9 44 "HatRank$Town" "ways" "I" ∈ TB := tb1 (List.mem_of_getElem? (i := 47) rfl) rfl
theorem wf_X11_316 : Cond.fieldLink RX11 316 "HatRank$Town" "ways" "I" ∈ TB := tb1 (List.mem_of_getElem? (i := 48) rfl) rfl
theorem wf_X9_9 : Cond.fieldLink RX9 9 "HatRank$Town" "brim" "[I" ∈ TB := tb1 (List.mem_of_getElem? (i := 49) rfl) rfl
theorem wf_X6_42 : Cond.fieldLink RX6 42 "HatRank$Town" "brim" "[I" ∈ TB := tb1 (List.mem_of_getElem? (i := 50) rfl) rfl
theorem wf_X4_41 : Cond.fieldLink RX4 41 "HatRank$Town" "brim" "[I" ∈ TB := tb1 (List.mem_of_getElem? (i := 51) rfl) rfl
theorem wf_X11_336 : Cond.fieldLink RX11 336 "HatRank$Town" "brim" "[I" ∈ TB := tb1 (List.mem_of_getElem? (i := 52) rfl) rfl
theorem wf_X9_15 : Cond.fieldLink RX9 15 "HatRank$Town" "lee" "[I" ∈ TB := tb1 (List.mem_of_getElem? (i := 53) rfl) rfl
theorem wf_X11_343 : Cond.fieldLink RX11 343 "HatRank$Town" "lee" "[I" ∈ TB := tb1 (List.mem_of_getElem? (i := 54) rfl) rfl
theorem wf_X9_18 : Cond.fieldLink RX9 18 "HatRank$Town" "down" "[I" ∈ TB := tb1 (List.mem_of_getElem? (i := 55) rfl) rfl
theorem wf_X10_89 : Cond.fieldLink RX10 89 "HatRank$Town" "down" "[I" ∈ TB := tb1 (List.mem_of_getElem? (i := 56) rfl) rfl
theorem wf_X11_346 : Cond.fieldLink RX11 346 "HatRank$Town" "down" "[I" ∈ TB := tb1 (List.mem_of_getElem? (i := 57) rfl) rfl
theorem wf_X9_21 : Cond.fieldLink RX9 21 "HatRank$Town" "blow" "[I" ∈ TB := tb1 (List.mem_of_getElem? (i := 58) rfl) rfl
theorem wf_X11_141 : Cond.fieldLink RX11 141 "HatRank$Town" "blow" "[I" ∈ TB := tb1 (List.mem_of_getElem? (i := 59) rfl) rfl
theorem wf_X9_24 : Cond.fieldLink RX9 24 "HatRank$Town" "near" "[I" ∈ TB := tb1 (List.mem_of_getElem? (i := 60) rfl) rfl
theorem wa_int : Cond.arrayClass .int ∈ TB := tb1 (List.mem_of_getElem? (i := 78) rfl) rfl
theorem wq_X11_16 : Cond.classLink RX11 16 RX2 ∈ TB := tb1 (List.mem_of_getElem? (i := 79) rfl) rfl
theorem wt_X2 : Cond.instantiable RX2 4 ∈ TB := tb1 (List.mem_of_getElem? (i := 80) rfl) rfl
theorem wl_X11_18 : Cond.methodLink RX11 18 yX2_init ∈ TB := tb1 (List.mem_of_getElem? (i := 81) rfl) rfl
theorem wm_X2_init : Cond.instanceMethod yX2_init ∈ TB := tb1 (List.mem_of_getElem? (i := 82) rfl) rfl
theorem wc_X2_init : Cond.code yX2_init cX2_init 1 none ∈ TB := tb1 (List.mem_of_getElem? (i := 83) rfl) rfl
theorem wl_X2_3 : Cond.methodLink RX2 3 objectInit ∈ TB := tb1 (List.mem_of_getElem? (i := 84) rfl) rfl
theorem wf_X2_9 : Cond.fieldLink RX2 9 "HatRank$Day" "hats" "[I" ∈ TB := tb1 (List.mem_of_getElem? (i := 85) rfl) rfl
theorem wf_X4_33 : Cond.fieldLink RX4 33 "HatRank$Day" "hats" "[I" ∈ TB := tb1 (List.mem_of_getElem? (i := 86) rfl) rfl
theorem wf_X10_61 : Cond.fieldLink RX10 61 "HatRank$Day" "hats" "[I" ∈ TB := tb1 (List.mem_of_getElem? (i := 87) rfl) rfl
theorem wf_X5_105 : Cond.fieldLink RX5 105 "HatRank$Day" "hats" "[I" ∈ TB := tb1 (List.mem_of_getElem? (i := 88) rfl) rfl
theorem wf_X9_57 : Cond.fieldLink RX9 57 "HatRank$Day" "hats" "[I" ∈ TB := tb1 (List.mem_of_getElem? (i := 89) rfl) rfl
theorem wf_X11_237 : Cond.fieldLink RX11 237 "HatRank$Day" "hats" "[I" ∈ TB := tb1 (List.mem_of_getElem? (i := 90) rfl) rfl
theorem wf_X2_15 : Cond.fieldLink RX2 15 "HatRank$Day" "at" "[I" ∈ TB := tb1 (List.mem_of_getElem? (i := 91) rfl) rfl
theorem wf_X5_38 : Cond.fieldLink RX5 38 "HatRank$Day" "at" "[I" ∈ TB := tb1 (List.mem_of_getElem? (i := 92) rfl) rfl
theorem wf_X6_56 : Cond.fieldLink RX6 56 "HatRank$Day" "at" "[I" ∈ TB := tb1 (List.mem_of_getElem? (i := 93) rfl) rfl
theorem wf_X4_38 : Cond.fieldLink RX4 38 "HatRank$Day" "at" "[I" ∈ TB := tb1 (List.mem_of_getElem? (i := 94) rfl) rfl
theorem wf_X10_72 : Cond.fieldLink RX10 72 "HatRank$Day" "at" "[I" ∈ TB := tb1 (List.mem_of_getElem? (i := 95) rfl) rfl
theorem wf_X11_172 : Cond.fieldLink RX11 172 "HatRank$Day" "at" "[I" ∈ TB := tb1 (List.mem_of_getElem? (i := 96) rfl) rfl
theorem wf_X2_18 : Cond.fieldLink RX2 18 "HatRank$Day" "lying" "[I" ∈ TB := tb1 (List.mem_of_getElem? (i := 97) rfl) rfl
theorem wf_X10_75 : Cond.fieldLink RX10 75 "HatRank$Day" "lying" "[I" ∈ TB := tb1 (List.mem_of_getElem? (i := 98) rfl) rfl
theorem wf_X11_175 : Cond.fieldLink RX11 175 "HatRank$Day" "lying" "[I" ∈ TB := tb1 (List.mem_of_getElem? (i := 99) rfl) rfl
theorem wf_X6_23 : Cond.fieldLink RX6 23 "HatRank$Day" "now" "I" ∈ TB := tb1 (List.mem_of_getElem? (i := 100) rfl) rfl
theorem wf_X5_46 : Cond.fieldLink RX5 46 "HatRank$Day" "now" "I" ∈ TB := tb1 (List.mem_of_getElem? (i := 101) rfl) rfl
theorem wf_X2_27 : Cond.fieldLink RX2 27 "HatRank$Day" "now" "I" ∈ TB := tb1 (List.mem_of_getElem? (i := 102) rfl) rfl
theorem wf_X10_42 : Cond.fieldLink RX10 42 "HatRank$Day" "now" "I" ∈ TB := tb1 (List.mem_of_getElem? (i := 103) rfl) rfl
theorem wf_X11_194 : Cond.fieldLink RX11 194 "HatRank$Day" "now" "I" ∈ TB := tb1 (List.mem_of_getElem? (i := 104) rfl) rfl
theorem wq_X11_23 : Cond.classLink RX11 23 RX8 ∈ TB := tb1 (List.mem_of_getElem? (i := 114) rfl) rfl
theorem wt_X8 : Cond.instantiable RX8 5 ∈ TB := tb1 (List.mem_of_getElem? (i := 115) rfl) rfl
theorem wl_X11_25 : Cond.methodLink RX11 25 yX8_init ∈ TB := tb1 (List.mem_of_getElem? (i := 116) rfl) rfl
theorem wm_X8_init : Cond.instanceMethod yX8_init ∈ TB := tb1 (List.mem_of_getElem? (i := 117) rfl) rfl
theorem wc_X8_init : Cond.code yX8_init cX8_init 1 none ∈ TB := tb1 (List.mem_of_getElem? (i := 118) rfl) rfl
theorem wl_X8_3 : Cond.methodLink RX8 3 objectInit ∈ TB := tb1 (List.mem_of_getElem? (i := 119) rfl) rfl
theorem wq_X8_15 : Cond.classLink RX8 15 RX3 ∈ TB := tb1 (List.mem_of_getElem? (i := 120) rfl) rfl
theorem wt_X3 : Cond.instantiable RX3 8 ∈ TB := tb1 (List.mem_of_getElem? (i := 121) rfl) rfl
theorem wl_X8_17 : Cond.methodLink RX8 17 yX3_init ∈ TB := tb1 (List.mem_of_getElem? (i := 122) rfl) rfl
theorem wm_X3_init : Cond.instanceMethod yX3_init ∈ TB := tb1 (List.mem_of_getElem? (i := 123) rfl) rfl
theorem wc_X3_init : Cond.code yX3_init cX3_init 1 none ∈ TB := tb1 (List.mem_of_getElem? (i := 124) rfl) rfl
theorem wl_X3_5 : Cond.methodLink RX3 5 objectInit ∈ TB := tb1 (List.mem_of_getElem? (i := 125) rfl) rfl
theorem wf_X3_11 : Cond.fieldLink RX3 11 "HatRank$Formula" "sign" "[I" ∈ TB := tb1 (List.mem_of_getElem? (i := 126) rfl) rfl
theorem wf_X3_15 : Cond.fieldLink RX3 15 "HatRank$Formula" "left" "[I" ∈ TB := tb1 (List.mem_of_getElem? (i := 127) rfl) rfl
theorem wf_X3_18 : Cond.fieldLink RX3 18 "HatRank$Formula" "right" "[I" ∈ TB := tb1 (List.mem_of_getElem? (i := 128) rfl) rfl
theorem wf_X3_21 : Cond.fieldLink RX3 21 "HatRank$Formula" "value" "[I" ∈ TB := tb1 (List.mem_of_getElem? (i := 129) rfl) rfl
theorem wf_X3_24 : Cond.fieldLink RX3 24 "HatRank$Formula" "condition" "[I" ∈ TB := tb1 (List.mem_of_getElem? (i := 130) rfl) rfl
theorem wf_X3_27 : Cond.fieldLink RX3 27 "HatRank$Formula" "result" "[I" ∈ TB := tb1 (List.mem_of_getElem? (i := 131) rfl) rfl
theorem wf_X3_30 : Cond.fieldLink RX3 30 "HatRank$Formula" "nodes" "I" ∈ TB := tb1 (List.mem_of_getElem? (i := 132) rfl) rfl
theorem wf_X3_34 : Cond.fieldLink RX3 34 "HatRank$Formula" "lines" "I" ∈ TB := tb1 (List.mem_of_getElem? (i := 133) rfl) rfl
theorem wf_X8_25 : Cond.fieldLink RX8 25 "HatRank$Tape" "length" "I" ∈ TB := tb1 (List.mem_of_getElem? (i := 151) rfl) rfl
theorem wf_X11_319 : Cond.fieldLink RX11 319 "HatRank$Tape" "length" "I" ∈ TB := tb1 (List.mem_of_getElem? (i := 152) rfl) rfl
theorem wf_X8_9 : Cond.fieldLink RX8 9 "HatRank$Tape" "letters" "[I" ∈ TB := tb1 (List.mem_of_getElem? (i := 153) rfl) rfl
theorem wf_X8_29 : Cond.fieldLink RX8 29 "HatRank$Tape" "at" "I" ∈ TB := tb1 (List.mem_of_getElem? (i := 154) rfl) rfl
theorem wf_X8_18 : Cond.fieldLink RX8 18 "HatRank$Tape" "read" "LHatRank$Formula;" ∈ TB := tb1 (List.mem_of_getElem? (i := 155) rfl) rfl
theorem wf_X8_22 : Cond.fieldLink RX8 22 "HatRank$Tape" "draft" "LHatRank$Formula;" ∈ TB := tb1 (List.mem_of_getElem? (i := 156) rfl) rfl
theorem wq_X11_30 : Cond.classLink RX11 30 RX4 ∈ TB := tb1 (List.mem_of_getElem? (i := 168) rfl) rfl
theorem wt_X4 : Cond.instantiable RX4 4 ∈ TB := tb1 (List.mem_of_getElem? (i := 169) rfl) rfl
theorem wl_X11_32 : Cond.methodLink RX11 32 yX4_init ∈ TB := tb1 (List.mem_of_getElem? (i := 170) rfl) rfl
theorem wm_X4_init : Cond.instanceMethod yX4_init ∈ TB := tb1 (List.mem_of_getElem? (i := 171) rfl) rfl
theorem wc_X4_init : Cond.code yX4_init cX4_init 3 none ∈ TB := tb1 (List.mem_of_getElem? (i := 172) rfl) rfl
theorem wl_X4_3 : Cond.methodLink RX4 3 objectInit ∈ TB := tb1 (List.mem_of_getElem? (i := 173) rfl) rfl
theorem wf_X4_15 : Cond.fieldLink RX4 15 "HatRank$Gauge" "town" "LHatRank$Town;" ∈ TB := tb1 (List.mem_of_getElem? (i := 174) rfl) rfl
theorem wf_X4_19 : Cond.fieldLink RX4 19 "HatRank$Gauge" "tape" "LHatRank$Tape;" ∈ TB := tb1 (List.mem_of_getElem? (i := 175) rfl) rfl
theorem wf_X4_9 : Cond.fieldLink RX4 9 "HatRank$Gauge" "known" "[I" ∈ TB := tb1 (List.mem_of_getElem? (i := 176) rfl) rfl
theorem wf_X4_23 : Cond.fieldLink RX4 23 "HatRank$Gauge" "more" "I" ∈ TB := tb1 (List.mem_of_getElem? (i := 177) rfl) rfl
theorem wq_X11_39 : Cond.classLink RX11 39 RX10 ∈ TB := tb1 (List.mem_of_getElem? (i := 187) rfl) rfl
theorem wt_X10 : Cond.instantiable RX10 4 ∈ TB := tb1 (List.mem_of_getElem? (i := 188) rfl) rfl
theorem wl_X11_41 : Cond.methodLink RX11 41 yX10_init ∈ TB := tb1 (List.mem_of_getElem? (i := 189) rfl) rfl
theorem wm_X10_init : Cond.instanceMethod yX10_init ∈ TB := tb1 (List.mem_of_getElem? (i := 190) rfl) rfl
theorem wc_X10_init : Cond.code yX10_init cX10_init 3 none ∈ TB := tb1 (List.mem_of_getElem? (i := 191) rfl) rfl
theorem wl_X10_3 : Cond.methodLink RX10 3 objectInit ∈ TB := tb1 (List.mem_of_getElem? (i := 192) rfl) rfl
theorem wq_X10_9 : Cond.classLink RX10 9 RX2 ∈ TB := tb1 (List.mem_of_getElem? (i := 193) rfl) rfl
theorem wl_X10_11 : Cond.methodLink RX10 11 yX2_init ∈ TB := tb1 (List.mem_of_getElem? (i := 194) rfl) rfl
theorem wf_X10_18 : Cond.fieldLink RX10 18 "HatRank$Wind" "town" "LHatRank$Town;" ∈ TB := tb1 (List.mem_of_getElem? (i := 195) rfl) rfl
theorem wf_X10_22 : Cond.fieldLink RX10 22 "HatRank$Wind" "gauge" "LHatRank$Gauge;" ∈ TB := tb1 (List.mem_of_getElem? (i := 196) rfl) rfl
theorem wf_X10_12 : Cond.fieldLink RX10 12 "HatRank$Wind" "thought" "LHatRank$Day;" ∈ TB := tb1 (List.mem_of_getElem? (i := 197) rfl) rfl
theorem wf_X10_26 : Cond.fieldLink RX10 26 "HatRank$Wind" "z" "I" ∈ TB := tb1 (List.mem_of_getElem? (i := 198) rfl) rfl
theorem wq_X11_48 : Cond.classLink RX11 48 RX5 ∈ TB := tb1 (List.mem_of_getElem? (i := 208) rfl) rfl
theorem wt_X5 : Cond.instantiable RX5 11 ∈ TB := tb1 (List.mem_of_getElem? (i := 209) rfl) rfl
theorem wl_X11_50 : Cond.methodLink RX11 50 yX5_init ∈ TB := tb1 (List.mem_of_getElem? (i := 210) rfl) rfl
theorem wm_X5_init : Cond.instanceMethod yX5_init ∈ TB := tb1 (List.mem_of_getElem? (i := 211) rfl) rfl
theorem wc_X5_init : Cond.code yX5_init cX5_init 4 none ∈ TB := tb1 (List.mem_of_getElem? (i := 212) rfl) rfl
theorem wl_X5_3 : Cond.methodLink RX5 3 objectInit ∈ TB := tb1 (List.mem_of_getElem? (i := 213) rfl) rfl
theorem wq_X5_9 : Cond.classLink RX5 9 RX2 ∈ TB := tb1 (List.mem_of_getElem? (i := 214) rfl) rfl
theorem wl_X5_11 : Cond.methodLink RX5 11 yX2_init ∈ TB := tb1 (List.mem_of_getElem? (i := 215) rfl) rfl
theorem wf_X5_22 : Cond.fieldLink RX5 22 "HatRank$Odds" "town" "LHatRank$Town;" ∈ TB := tb1 (List.mem_of_getElem? (i := 217) rfl) rfl
theorem wf_X5_26 : Cond.fieldLink RX5 26 "HatRank$Odds" "gauge" "LHatRank$Gauge;" ∈ TB := tb1 (List.mem_of_getElem? (i := 218) rfl) rfl
theorem wf_X5_30 : Cond.fieldLink RX5 30 "HatRank$Odds" "wind" "LHatRank$Wind;" ∈ TB := tb1 (List.mem_of_getElem? (i := 219) rfl) rfl
theorem wf_X5_12 : Cond.fieldLink RX5 12 "HatRank$Odds" "day" "LHatRank$Day;" ∈ TB := tb1 (List.mem_of_getElem? (i := 220) rfl) rfl
theorem wf_X5_18 : Cond.fieldLink RX5 18 "HatRank$Odds" "before" "[LHatRank$Day;" ∈ TB := tb1 (List.mem_of_getElem? (i := 221) rfl) rfl
theorem wf_X5_42 : Cond.fieldLink RX5 42 "HatRank$Odds" "one" "I" ∈ TB := tb1 (List.mem_of_getElem? (i := 222) rfl) rfl
theorem wf_X5_49 : Cond.fieldLink RX5 49 "HatRank$Odds" "start" "I" ∈ TB := tb1 (List.mem_of_getElem? (i := 223) rfl) rfl
theorem wf_X5_52 : Cond.fieldLink RX5 52 "HatRank$Odds" "end" "I" ∈ TB := tb1 (List.mem_of_getElem? (i := 224) rfl) rfl
theorem wf_X5_55 : Cond.fieldLink RX5 55 "HatRank$Odds" "commanding" "J" ∈ TB := tb1 (List.mem_of_getElem? (i := 225) rfl) rfl
theorem wf_X11_209 : Cond.fieldLink RX11 209 "HatRank$Odds" "commanding" "J" ∈ TB := tb1 (List.mem_of_getElem? (i := 226) rfl) rfl
theorem wf_X5_59 : Cond.fieldLink RX5 59 "HatRank$Odds" "hats" "J" ∈ TB := tb1 (List.mem_of_getElem? (i := 227) rfl) rfl
theorem wf_X11_220 : Cond.fieldLink RX11 220 "HatRank$Odds" "hats" "J" ∈ TB := tb1 (List.mem_of_getElem? (i := 228) rfl) rfl
theorem wf_X5_62 : Cond.fieldLink RX5 62 "HatRank$Odds" "all" "J" ∈ TB := tb1 (List.mem_of_getElem? (i := 229) rfl) rfl
theorem wf_X11_213 : Cond.fieldLink RX11 213 "HatRank$Odds" "all" "J" ∈ TB := tb1 (List.mem_of_getElem? (i := 230) rfl) rfl
theorem wq_X11_57 : Cond.classLink RX11 57 RX6 ∈ TB := tb2 (List.mem_of_getElem? (i := 14) rfl) rfl
theorem wt_X6 : Cond.instantiable RX6 3 ∈ TB := tb2 (List.mem_of_getElem? (i := 15) rfl) rfl
theorem wl_X11_59 : Cond.methodLink RX11 59 yX6_init ∈ TB := tb2 (List.mem_of_getElem? (i := 16) rfl) rfl
theorem wm_X6_init : Cond.instanceMethod yX6_init ∈ TB := tb2 (List.mem_of_getElem? (i := 17) rfl) rfl
theorem wc_X6_init : Cond.code yX6_init cX6_init 3 none ∈ TB := tb2 (List.mem_of_getElem? (i := 18) rfl) rfl
theorem wl_X6_3 : Cond.methodLink RX6 3 objectInit ∈ TB := tb2 (List.mem_of_getElem? (i := 19) rfl) rfl
theorem wf_X6_15 : Cond.fieldLink RX6 15 "HatRank$Routes" "town" "LHatRank$Town;" ∈ TB := tb2 (List.mem_of_getElem? (i := 20) rfl) rfl
theorem wf_X6_19 : Cond.fieldLink RX6 19 "HatRank$Routes" "gauge" "LHatRank$Gauge;" ∈ TB := tb2 (List.mem_of_getElem? (i := 21) rfl) rfl
theorem wf_X6_9 : Cond.fieldLink RX6 9 "HatRank$Routes" "least" "[I" ∈ TB := tb2 (List.mem_of_getElem? (i := 22) rfl) rfl
theorem wq_X11_64 : Cond.classLink RX11 64 RX1 ∈ TB := tb2 (List.mem_of_getElem? (i := 30) rfl) rfl
theorem wt_X1 : Cond.instantiable RX1 6 ∈ TB := tb2 (List.mem_of_getElem? (i := 31) rfl) rfl
theorem wl_X11_66 : Cond.methodLink RX11 66 yX1_init ∈ TB := tb2 (List.mem_of_getElem? (i := 32) rfl) rfl
theorem wm_X1_init : Cond.instanceMethod yX1_init ∈ TB := tb2 (List.mem_of_getElem? (i := 33) rfl) rfl
theorem wc_X1_init : Cond.code yX1_init cX1_init 1 none ∈ TB := tb2 (List.mem_of_getElem? (i := 34) rfl) rfl
theorem wl_X1_3 : Cond.methodLink RX1 3 objectInit ∈ TB := tb2 (List.mem_of_getElem? (i := 35) rfl) rfl
theorem wf_X1_24 : Cond.fieldLink RX1 24 "HatRank$Changes" "done" "I" ∈ TB := tb2 (List.mem_of_getElem? (i := 36) rfl) rfl
theorem wf_X11_322 : Cond.fieldLink RX11 322 "HatRank$Changes" "done" "I" ∈ TB := tb2 (List.mem_of_getElem? (i := 37) rfl) rfl
theorem wf_X1_31 : Cond.fieldLink RX1 31 "HatRank$Changes" "size" "I" ∈ TB := tb2 (List.mem_of_getElem? (i := 38) rfl) rfl
theorem wf_X1_11 : Cond.fieldLink RX1 11 "HatRank$Changes" "what" "[I" ∈ TB := tb2 (List.mem_of_getElem? (i := 39) rfl) rfl
theorem wf_X1_15 : Cond.fieldLink RX1 15 "HatRank$Changes" "number" "[I" ∈ TB := tb2 (List.mem_of_getElem? (i := 40) rfl) rfl
theorem wf_X1_18 : Cond.fieldLink RX1 18 "HatRank$Changes" "before" "[I" ∈ TB := tb2 (List.mem_of_getElem? (i := 41) rfl) rfl
theorem wf_X1_21 : Cond.fieldLink RX1 21 "HatRank$Changes" "after" "[I" ∈ TB := tb2 (List.mem_of_getElem? (i := 42) rfl) rfl
theorem wq_X11_71 : Cond.classLink RX11 71 RX0 ∈ TB := tb2 (List.mem_of_getElem? (i := 56) rfl) rfl
theorem wt_X0 : Cond.instantiable RX0 5 ∈ TB := tb2 (List.mem_of_getElem? (i := 57) rfl) rfl
theorem wl_X11_73 : Cond.methodLink RX11 73 yX0_init ∈ TB := tb2 (List.mem_of_getElem? (i := 58) rfl) rfl
theorem wm_X0_init : Cond.instanceMethod yX0_init ∈ TB := tb2 (List.mem_of_getElem? (i := 59) rfl) rfl
theorem wc_X0_init : Cond.code yX0_init cX0_init 1 none ∈ TB := tb2 (List.mem_of_getElem? (i := 60) rfl) rfl
theorem wl_X0_3 : Cond.methodLink RX0 3 objectInit ∈ TB := tb2 (List.mem_of_getElem? (i := 61) rfl) rfl
theorem wf_X0_18 : Cond.fieldLink RX0 18 "HatRank$Bodies" "size" "I" ∈ TB := tb2 (List.mem_of_getElem? (i := 62) rfl) rfl
theorem wf_X11_325 : Cond.fieldLink RX11 325 "HatRank$Bodies" "size" "I" ∈ TB := tb2 (List.mem_of_getElem? (i := 63) rfl) rfl
theorem wf_X0_30 : Cond.fieldLink RX0 30 "HatRank$Bodies" "runs" "I" ∈ TB := tb2 (List.mem_of_getElem? (i := 64) rfl) rfl
theorem wf_X11_328 : Cond.fieldLink RX11 328 "HatRank$Bodies" "runs" "I" ∈ TB := tb2 (List.mem_of_getElem? (i := 65) rfl) rfl
theorem wf_X0_11 : Cond.fieldLink RX0 11 "HatRank$Bodies" "kinds" "[I" ∈ TB := tb2 (List.mem_of_getElem? (i := 66) rfl) rfl
theorem wf_X0_15 : Cond.fieldLink RX0 15 "HatRank$Bodies" "trail" "[I" ∈ TB := tb2 (List.mem_of_getElem? (i := 67) rfl) rfl
theorem wf_X0_33 : Cond.fieldLink RX0 33 "HatRank$Bodies" "self" "I" ∈ TB := tb2 (List.mem_of_getElem? (i := 68) rfl) rfl
theorem wq_X11_78 : Cond.classLink RX11 78 RX7 ∈ TB := tb2 (List.mem_of_getElem? (i := 80) rfl) rfl
theorem wt_X7 : Cond.instantiable RX7 4 ∈ TB := tb2 (List.mem_of_getElem? (i := 81) rfl) rfl
theorem wl_X11_80 : Cond.methodLink RX11 80 yX7_init ∈ TB := tb2 (List.mem_of_getElem? (i := 82) rfl) rfl
theorem wm_X7_init : Cond.instanceMethod yX7_init ∈ TB := tb2 (List.mem_of_getElem? (i := 83) rfl) rfl
theorem wc_X7_init : Cond.code yX7_init cX7_init 1 none ∈ TB := tb2 (List.mem_of_getElem? (i := 84) rfl) rfl
theorem wl_X7_3 : Cond.methodLink RX7 3 objectInit ∈ TB := tb2 (List.mem_of_getElem? (i := 85) rfl) rfl
theorem wq_X7_21 : Cond.classLink RX7 21 "[[J" ∈ TB := tb2 (List.mem_of_getElem? (i := 86) rfl) rfl
theorem wl_X7_26 : Cond.methodLink RX7 26 yJ7_fill_53178 ∈ TB := tb2 (List.mem_of_getElem? (i := 88) rfl) rfl
theorem wf_X7_11 : Cond.fieldLink RX7 11 "HatRank$Shelves" "holds" "[I" ∈ TB := tb2 (List.mem_of_getElem? (i := 89) rfl) rfl
theorem wf_X7_15 : Cond.fieldLink RX7 15 "HatRank$Shelves" "bodies" "[I" ∈ TB := tb2 (List.mem_of_getElem? (i := 90) rfl) rfl
theorem wf_X7_18 : Cond.fieldLink RX7 18 "HatRank$Shelves" "lengths" "[I" ∈ TB := tb2 (List.mem_of_getElem? (i := 91) rfl) rfl
theorem wf_X7_23 : Cond.fieldLink RX7 23 "HatRank$Shelves" "elements" "[[J" ∈ TB := tb2 (List.mem_of_getElem? (i := 92) rfl) rfl
theorem wa_long : Cond.arrayClass .long ∈ TB := tb2 (List.mem_of_getElem? (i := 102) rfl) rfl
theorem wf_X11_10 : Cond.fieldLink RX11 10 "HatRank" "town" "LHatRank$Town;" ∈ TB := tb2 (List.mem_of_getElem? (i := 103) rfl) rfl
theorem wf_X11_19 : Cond.fieldLink RX11 19 "HatRank" "day" "LHatRank$Day;" ∈ TB := tb2 (List.mem_of_getElem? (i := 104) rfl) rfl
theorem wf_X11_26 : Cond.fieldLink RX11 26 "HatRank" "tape" "LHatRank$Tape;" ∈ TB := tb2 (List.mem_of_getElem? (i := 105) rfl) rfl
theorem wf_X11_35 : Cond.fieldLink RX11 35 "HatRank" "gauge" "LHatRank$Gauge;" ∈ TB := tb2 (List.mem_of_getElem? (i := 106) rfl) rfl
theorem wf_X11_44 : Cond.fieldLink RX11 44 "HatRank" "wind" "LHatRank$Wind;" ∈ TB := tb2 (List.mem_of_getElem? (i := 107) rfl) rfl
theorem wf_X11_53 : Cond.fieldLink RX11 53 "HatRank" "odds" "LHatRank$Odds;" ∈ TB := tb2 (List.mem_of_getElem? (i := 108) rfl) rfl
theorem wf_X11_60 : Cond.fieldLink RX11 60 "HatRank" "routes" "LHatRank$Routes;" ∈ TB := tb2 (List.mem_of_getElem? (i := 109) rfl) rfl
theorem wf_X11_67 : Cond.fieldLink RX11 67 "HatRank" "changes" "LHatRank$Changes;" ∈ TB := tb2 (List.mem_of_getElem? (i := 110) rfl) rfl
theorem wf_X11_74 : Cond.fieldLink RX11 74 "HatRank" "bodies" "LHatRank$Bodies;" ∈ TB := tb2 (List.mem_of_getElem? (i := 111) rfl) rfl
theorem wf_X11_81 : Cond.fieldLink RX11 81 "HatRank" "shelves" "LHatRank$Shelves;" ∈ TB := tb2 (List.mem_of_getElem? (i := 112) rfl) rfl
theorem wf_X11_85 : Cond.fieldLink RX11 85 "HatRank" "landed" "[I" ∈ TB := tb2 (List.mem_of_getElem? (i := 113) rfl) rfl
theorem wf_X11_89 : Cond.fieldLink RX11 89 "HatRank" "imageDay" "LHatRank$Day;" ∈ TB := tb2 (List.mem_of_getElem? (i := 114) rfl) rfl
theorem wf_X11_256 : Cond.fieldLink RX11 256 "HatRank" "imageKept" "Z" ∈ TB := tb2 (List.mem_of_getElem? (i := 115) rfl) rfl
theorem wf_X11_250 : Cond.fieldLink RX11 250 "HatRank" "imagePeople" "I" ∈ TB := tb2 (List.mem_of_getElem? (i := 116) rfl) rfl
theorem wf_X11_253 : Cond.fieldLink RX11 253 "HatRank" "imagePlaces" "I" ∈ TB := tb2 (List.mem_of_getElem? (i := 117) rfl) rfl
theorem wl_L_13 : Cond.methodLink RL 13 yX11_place ∈ TB := tb2 (List.mem_of_getElem? (i := 149) rfl) rfl
theorem wm_X11_place : Cond.instanceMethod yX11_place ∈ TB := tb2 (List.mem_of_getElem? (i := 150) rfl) rfl
theorem wv_X11_place : Cond.selects RX11 yX11_place yX11_place ∈ TB := tb2 (List.mem_of_getElem? (i := 151) rfl) rfl
theorem wc_X11_place : Cond.code yX11_place cX11_place 2 (some .int) ∈ TB := tb2 (List.mem_of_getElem? (i := 152) rfl) rfl
theorem wl_X11_92 : Cond.methodLink RX11 92 yX11_within ∈ TB := tb2 (List.mem_of_getElem? (i := 153) rfl) rfl
theorem ws_X11_within : Cond.static yX11_within ∈ TB := tb2 (List.mem_of_getElem? (i := 154) rfl) rfl
theorem wc_X11_within : Cond.code yX11_within cX11_within 3 (some .boolean) ∈ TB := tb2 (List.mem_of_getElem? (i := 155) rfl) rfl
theorem wl_X11_96 : Cond.methodLink RX11 96 yX9_addPlace ∈ TB := tb2 (List.mem_of_getElem? (i := 156) rfl) rfl
theorem wm_X9_addPlace : Cond.instanceMethod yX9_addPlace ∈ TB := tb2 (List.mem_of_getElem? (i := 157) rfl) rfl
theorem wv_X9_addPlace : Cond.selects RX9 yX9_addPlace yX9_addPlace ∈ TB := tb2 (List.mem_of_getElem? (i := 158) rfl) rfl
theorem wc_X9_addPlace : Cond.code yX9_addPlace cX9_addPlace 2 (some .int) ∈ TB := tb2 (List.mem_of_getElem? (i := 159) rfl) rfl
theorem wl_L_18 : Cond.methodLink RL 18 yX11_way ∈ TB := tb2 (List.mem_of_getElem? (i := 160) rfl) rfl
theorem wm_X11_way : Cond.instanceMethod yX11_way ∈ TB := tb2 (List.mem_of_getElem? (i := 161) rfl) rfl
theorem wv_X11_way : Cond.selects RX11 yX11_way yX11_way ∈ TB := tb2 (List.mem_of_getElem? (i := 162) rfl) rfl
theorem wc_X11_way : Cond.code yX11_way cX11_way 4 (some .int) ∈ TB := tb2 (List.mem_of_getElem? (i := 163) rfl) rfl
theorem wl_X11_100 : Cond.methodLink RX11 100 yX9_hasPlace ∈ TB := tb2 (List.mem_of_getElem? (i := 164) rfl) rfl
theorem wm_X9_hasPlace : Cond.instanceMethod yX9_hasPlace ∈ TB := tb2 (List.mem_of_getElem? (i := 165) rfl) rfl
theorem wv_X9_hasPlace : Cond.selects RX9 yX9_hasPlace yX9_hasPlace ∈ TB := tb2 (List.mem_of_getElem? (i := 166) rfl) rfl
theorem wc_X9_hasPlace : Cond.code yX9_hasPlace cX9_hasPlace 2 (some .boolean) ∈ TB := tb2 (List.mem_of_getElem? (i := 167) rfl) rfl
theorem wl_X11_104 : Cond.methodLink RX11 104 yX9_joined ∈ TB := tb2 (List.mem_of_getElem? (i := 168) rfl) rfl
theorem wm_X9_joined : Cond.instanceMethod yX9_joined ∈ TB := tb2 (List.mem_of_getElem? (i := 169) rfl) rfl
theorem wv_X9_joined : Cond.selects RX9 yX9_joined yX9_joined ∈ TB := tb2 (List.mem_of_getElem? (i := 170) rfl) rfl
theorem wc_X9_joined : Cond.code yX9_joined cX9_joined 3 (some .boolean) ∈ TB := tb2 (List.mem_of_getElem? (i := 171) rfl) rfl
theorem wl_X9_40 : Cond.methodLink RX9 40 yX9_hasPlace ∈ TB := tb2 (List.mem_of_getElem? (i := 172) rfl) rfl
theorem wl_X11_108 : Cond.methodLink RX11 108 yX9_addWay ∈ TB := tb2 (List.mem_of_getElem? (i := 173) rfl) rfl
theorem wm_X9_addWay : Cond.instanceMethod yX9_addWay ∈ TB := tb2 (List.mem_of_getElem? (i := 174) rfl) rfl
theorem wv_X9_addWay : Cond.selects RX9 yX9_addWay yX9_addWay ∈ TB := tb2 (List.mem_of_getElem? (i := 175) rfl) rfl
theorem wc_X9_addWay : Cond.code yX9_addWay cX9_addWay 3 (some .int) ∈ TB := tb2 (List.mem_of_getElem? (i := 176) rfl) rfl
theorem wl_L_22 : Cond.methodLink RL 22 yX11_person ∈ TB := tb2 (List.mem_of_getElem? (i := 177) rfl) rfl
theorem wm_X11_person : Cond.instanceMethod yX11_person ∈ TB := tb2 (List.mem_of_getElem? (i := 178) rfl) rfl
theorem wv_X11_person : Cond.selects RX11 yX11_person yX11_person ∈ TB := tb2 (List.mem_of_getElem? (i := 179) rfl) rfl
theorem wc_X11_person : Cond.code yX11_person cX11_person 3 (some .int) ∈ TB := tb2 (List.mem_of_getElem? (i := 180) rfl) rfl
theorem wl_X11_112 : Cond.methodLink RX11 112 yX11_newPerson ∈ TB := tb2 (List.mem_of_getElem? (i := 181) rfl) rfl
theorem wm_X11_newPerson : Cond.instanceMethod yX11_newPerson ∈ TB := tb2 (List.mem_of_getElem? (i := 183) rfl) rfl
theorem wc_X11_newPerson : Cond.code yX11_newPerson cX11_newPerson 5 (some .int) ∈ TB := tb2 (List.mem_of_getElem? (i := 184) rfl) rfl
theorem wl_X11_333 : Cond.methodLink RX11 333 yX9_addPerson ∈ TB := tb2 (List.mem_of_getElem? (i := 185) rfl) rfl
theorem wm_X9_addPerson : Cond.instanceMethod yX9_addPerson ∈ TB := tb2 (List.mem_of_getElem? (i := 186) rfl) rfl
theorem wv_X9_addPerson : Cond.selects RX9 yX9_addPerson yX9_addPerson ∈ TB := tb2 (List.mem_of_getElem? (i := 187) rfl) rfl
theorem wc_X9_addPerson : Cond.code yX9_addPerson cX9_addPerson 2 (some .int) ∈ TB := tb2 (List.mem_of_getElem? (i := 188) rfl) rfl
theorem wl_L_27 : Cond.methodLink RL 27 yX11_people ∈ TB := tb2 (List.mem_of_getElem? (i := 189) rfl) rfl
theorem wm_X11_people : Cond.instanceMethod yX11_people ∈ TB := tb2 (List.mem_of_getElem? (i := 190) rfl) rfl
theorem wv_X11_people : Cond.selects RX11 yX11_people yX11_people ∈ TB := tb2 (List.mem_of_getElem? (i := 191) rfl) rfl
theorem wc_X11_people : Cond.code yX11_people cX11_people 5 (some .int) ∈ TB := tb2 (List.mem_of_getElem? (i := 192) rfl) rfl
theorem wl_X11_116 : Cond.methodLink RX11 116 yX7_has ∈ TB := tb2 (List.mem_of_getElem? (i := 193) rfl) rfl
theorem wm_X7_has : Cond.instanceMethod yX7_has ∈ TB := tb2 (List.mem_of_getElem? (i := 194) rfl) rfl
theorem wv_X7_has : Cond.selects RX7 yX7_has yX7_has ∈ TB := tb2 (List.mem_of_getElem? (i := 195) rfl) rfl
theorem wc_X7_has : Cond.code yX7_has cX7_has 2 (some .boolean) ∈ TB := tb2 (List.mem_of_getElem? (i := 196) rfl) rfl
theorem wl_X11_119 : Cond.methodLink RX11 119 yX7_holdsNothing ∈ TB := tb2 (List.mem_of_getElem? (i := 197) rfl) rfl
theorem wm_X7_holdsNothing : Cond.instanceMethod yX7_holdsNothing ∈ TB := tb2 (List.mem_of_getElem? (i := 198) rfl) rfl
theorem wv_X7_holdsNothing : Cond.selects RX7 yX7_holdsNothing yX7_holdsNothing ∈ TB := tb2 (List.mem_of_getElem? (i := 199) rfl) rfl
theorem wc_X7_holdsNothing : Cond.code yX7_holdsNothing cX7_holdsNothing 2 (some .boolean) ∈ TB := tb2 (List.mem_of_getElem? (i := 200) rfl) rfl
theorem wl_X7_32 : Cond.methodLink RX7 32 yX7_has ∈ TB := tb2 (List.mem_of_getElem? (i := 201) rfl) rfl
theorem wl_X11_122 : Cond.methodLink RX11 122 yX7_holdsBytes ∈ TB := tb2 (List.mem_of_getElem? (i := 202) rfl) rfl
theorem wm_X7_holdsBytes : Cond.instanceMethod yX7_holdsBytes ∈ TB := tb2 (List.mem_of_getElem? (i := 203) rfl) rfl
theorem wv_X7_holdsBytes : Cond.selects RX7 yX7_holdsBytes yX7_holdsBytes ∈ TB := tb2 (List.mem_of_getElem? (i := 204) rfl) rfl
theorem wc_X7_holdsBytes : Cond.code yX7_holdsBytes cX7_holdsBytes 2 (some .boolean) ∈ TB := tb2 (List.mem_of_getElem? (i := 205) rfl) rfl
theorem wl_X11_125 : Cond.methodLink RX11 125 yX7_hasSpan ∈ TB := tb2 (List.mem_of_getElem? (i := 206) rfl) rfl
theorem wm_X7_hasSpan : Cond.instanceMethod yX7_hasSpan ∈ TB := tb2 (List.mem_of_getElem? (i := 207) rfl) rfl
theorem wv_X7_hasSpan : Cond.selects RX7 yX7_hasSpan yX7_hasSpan ∈ TB := tb2 (List.mem_of_getElem? (i := 208) rfl) rfl
theorem wc_X7_hasSpan : Cond.code yX7_hasSpan cX7_hasSpan 4 (some .boolean) ∈ TB := tb2 (List.mem_of_getElem? (i := 209) rfl) rfl
theorem wl_X7_53 : Cond.methodLink RX7 53 yX7_lengthOf ∈ TB := tb2 (List.mem_of_getElem? (i := 210) rfl) rfl
theorem wm_X7_lengthOf : Cond.instanceMethod yX7_lengthOf ∈ TB := tb2 (List.mem_of_getElem? (i := 211) rfl) rfl
theorem wv_X7_lengthOf : Cond.selects RX7 yX7_lengthOf yX7_lengthOf ∈ TB := tb2 (List.mem_of_getElem? (i := 212) rfl) rfl
theorem wc_X7_lengthOf : Cond.code yX7_lengthOf cX7_lengthOf 2 (some .int) ∈ TB := tb2 (List.mem_of_getElem? (i := 213) rfl) rfl
theorem wl_X7_36 : Cond.methodLink RX7 36 yX7_holdsRow ∈ TB := tb2 (List.mem_of_getElem? (i := 214) rfl) rfl
theorem wm_X7_holdsRow : Cond.instanceMethod yX7_holdsRow ∈ TB := tb2 (List.mem_of_getElem? (i := 216) rfl) rfl
theorem wc_X7_holdsRow : Cond.code yX7_holdsRow cX7_holdsRow 2 (some .boolean) ∈ TB := tb2 (List.mem_of_getElem? (i := 217) rfl) rfl
theorem wl_X11_128 : Cond.methodLink RX11 128 yX11_newPersonFrom ∈ TB := tb2 (List.mem_of_getElem? (i := 218) rfl) rfl
theorem wm_X11_newPersonFrom : Cond.instanceMethod yX11_newPersonFrom ∈ TB := tb2 (List.mem_of_getElem? (i := 220) rfl) rfl
theorem wc_X11_newPersonFrom : Cond.code yX11_newPersonFrom cX11_newPersonFrom 6 (some .int) ∈ TB := tb2 (List.mem_of_getElem? (i := 221) rfl) rfl
theorem wl_X11_296 : Cond.methodLink RX11 296 yX7_get ∈ TB := tb2 (List.mem_of_getElem? (i := 222) rfl) rfl
theorem wm_X7_get : Cond.instanceMethod yX7_get ∈ TB := tb2 (List.mem_of_getElem? (i := 223) rfl) rfl
theorem wv_X7_get : Cond.selects RX7 yX7_get yX7_get ∈ TB := tb2 (List.mem_of_getElem? (i := 224) rfl) rfl
theorem wc_X7_get : Cond.code yX7_get cX7_get 3 (some .long) ∈ TB := tb2 (List.mem_of_getElem? (i := 225) rfl) rfl
theorem wl_X7_45 : Cond.methodLink RX7 45 yX7_refusal ∈ TB := tb2 (List.mem_of_getElem? (i := 226) rfl) rfl
theorem wm_X7_refusal : Cond.instanceMethod yX7_refusal ∈ TB := tb2 (List.mem_of_getElem? (i := 227) rfl) rfl
theorem wv_X7_refusal : Cond.selects RX7 yX7_refusal yX7_refusal ∈ TB := tb2 (List.mem_of_getElem? (i := 228) rfl) rfl
theorem wc_X7_refusal : Cond.code yX7_refusal cX7_refusal 3 (some .int) ∈ TB := tb2 (List.mem_of_getElem? (i := 229) rfl) rfl
theorem wl_X7_42 : Cond.methodLink RX7 42 yX7_holdsNothing ∈ TB := tb2 (List.mem_of_getElem? (i := 230) rfl) rfl
theorem wl_L_32 : Cond.methodLink RL 32 yX11_mend ∈ TB := tb2 (List.mem_of_getElem? (i := 231) rfl) rfl
theorem wm_X11_mend : Cond.instanceMethod yX11_mend ∈ TB := tb2 (List.mem_of_getElem? (i := 232) rfl) rfl
theorem wv_X11_mend : Cond.selects RX11 yX11_mend yX11_mend ∈ TB := tb2 (List.mem_of_getElem? (i := 233) rfl) rfl
theorem wc_X11_mend : Cond.code yX11_mend cX11_mend 6 (some .int) ∈ TB := tb2 (List.mem_of_getElem? (i := 234) rfl) rfl
theorem wl_X11_131 : Cond.methodLink RX11 131 yX9_hasSetting ∈ TB := tb2 (List.mem_of_getElem? (i := 235) rfl) rfl
theorem wm_X9_hasSetting : Cond.instanceMethod yX9_hasSetting ∈ TB := tb2 (List.mem_of_getElem? (i := 236) rfl) rfl
theorem wv_X9_hasSetting : Cond.selects RX9 yX9_hasSetting yX9_hasSetting ∈ TB := tb2 (List.mem_of_getElem? (i := 237) rfl) rfl
theorem wc_X9_hasSetting : Cond.code yX9_hasSetting cX9_hasSetting 4 (some .boolean) ∈ TB := tb2 (List.mem_of_getElem? (i := 238) rfl) rfl
theorem wl_X11_134 : Cond.methodLink RX11 134 yX9_exchange ∈ TB := tb2 (List.mem_of_getElem? (i := 239) rfl) rfl
theorem wm_X9_exchange : Cond.instanceMethod yX9_exchange ∈ TB := tb3 (List.mem_of_getElem? (i := 0) rfl) rfl
theorem wv_X9_exchange : Cond.selects RX9 yX9_exchange yX9_exchange ∈ TB := tb3 (List.mem_of_getElem? (i := 1) rfl) rfl
theorem wc_X9_exchange : Cond.code yX9_exchange cX9_exchange 6 (some .int) ∈ TB := tb3 (List.mem_of_getElem? (i := 2) rfl) rfl
theorem wl_X9_53 : Cond.methodLink RX9 53 yX9_hasSetting ∈ TB := tb3 (List.mem_of_getElem? (i := 3) rfl) rfl
theorem wl_X11_137 : Cond.methodLink RX11 137 yX1_note ∈ TB := tb3 (List.mem_of_getElem? (i := 4) rfl) rfl
theorem wm_X1_note : Cond.instanceMethod yX1_note ∈ TB := tb3 (List.mem_of_getElem? (i := 5) rfl) rfl
theorem wv_X1_note : Cond.selects RX1 yX1_note yX1_note ∈ TB := tb3 (List.mem_of_getElem? (i := 6) rfl) rfl
theorem wc_X1_note : Cond.code yX1_note cX1_note 5 none ∈ TB := tb3 (List.mem_of_getElem? (i := 7) rfl) rfl
theorem wl_X1_28 : Cond.methodLink RX1 28 yX1_dropOldest ∈ TB := tb3 (List.mem_of_getElem? (i := 8) rfl) rfl
theorem wm_X1_dropOldest : Cond.instanceMethod yX1_dropOldest ∈ TB := tb3 (List.mem_of_getElem? (i := 10) rfl) rfl
theorem wc_X1_dropOldest : Cond.code yX1_dropOldest cX1_dropOldest 1 none ∈ TB := tb3 (List.mem_of_getElem? (i := 11) rfl) rfl
theorem wl_X1_40 : Cond.methodLink RX1 40 arraycopyName ∈ TB := tb3 (List.mem_of_getElem? (i := 12) rfl) rfl
theorem ws_arraycopy : Cond.static arraycopyName ∈ TB := tb3 (List.mem_of_getElem? (i := 13) rfl) rfl
theorem wn_arraycopy : Cond.native arraycopyName ∈ TB := tb3 (List.mem_of_getElem? (i := 14) rfl) rfl
theorem wl_L_36 : Cond.methodLink RL 36 yX11_of ∈ TB := tb3 (List.mem_of_getElem? (i := 15) rfl) rfl
theorem wm_X11_of : Cond.instanceMethod yX11_of ∈ TB := tb3 (List.mem_of_getElem? (i := 16) rfl) rfl
theorem wv_X11_of : Cond.selects RX11 yX11_of yX11_of ∈ TB := tb3 (List.mem_of_getElem? (i := 17) rfl) rfl
theorem wc_X11_of : Cond.code yX11_of cX11_of 3 (some .int) ∈ TB := tb3 (List.mem_of_getElem? (i := 18) rfl) rfl
theorem wl_X11_144 : Cond.methodLink RX11 144 yX11_ofPlace ∈ TB := tb3 (List.mem_of_getElem? (i := 19) rfl) rfl
theorem wm_X11_ofPlace : Cond.instanceMethod yX11_ofPlace ∈ TB := tb3 (List.mem_of_getElem? (i := 21) rfl) rfl
theorem wc_X11_ofPlace : Cond.code yX11_ofPlace cX11_ofPlace 3 (some .int) ∈ TB := tb3 (List.mem_of_getElem? (i := 22) rfl) rfl
theorem wl_X11_349 : Cond.methodLink RX11 349 yX9_gust ∈ TB := tb3 (List.mem_of_getElem? (i := 23) rfl) rfl
theorem wm_X9_gust : Cond.instanceMethod yX9_gust ∈ TB := tb3 (List.mem_of_getElem? (i := 24) rfl) rfl
theorem wv_X9_gust : Cond.selects RX9 yX9_gust yX9_gust ∈ TB := tb3 (List.mem_of_getElem? (i := 25) rfl) rfl
theorem wc_X9_gust : Cond.code yX9_gust cX9_gust 4 (some .int) ∈ TB := tb3 (List.mem_of_getElem? (i := 26) rfl) rfl
theorem wl_X9_47 : Cond.methodLink RX9 47 yJ9_max_7cf53 ∈ TB := tb3 (List.mem_of_getElem? (i := 27) rfl) rfl
theorem ws_J9_max_7cf53 : Cond.static yJ9_max_7cf53 ∈ TB := tb3 (List.mem_of_getElem? (i := 28) rfl) rfl
theorem wc_J9_max_7cf53 : Cond.code yJ9_max_7cf53 cJ9_max_7cf53 2 (some .int) ∈ TB := tb3 (List.mem_of_getElem? (i := 29) rfl) rfl
theorem wl_X11_147 : Cond.methodLink RX11 147 yX11_ofPerson ∈ TB := tb3 (List.mem_of_getElem? (i := 30) rfl) rfl
theorem wm_X11_ofPerson : Cond.instanceMethod yX11_ofPerson ∈ TB := tb3 (List.mem_of_getElem? (i := 32) rfl) rfl
theorem wc_X11_ofPerson : Cond.code yX11_ofPerson cX11_ofPerson 3 (some .int) ∈ TB := tb3 (List.mem_of_getElem? (i := 33) rfl) rfl
theorem wl_X11_169 : Cond.methodLink RX11 169 yX9_hasPerson ∈ TB := tb3 (List.mem_of_getElem? (i := 34) rfl) rfl
theorem wm_X9_hasPerson : Cond.instanceMethod yX9_hasPerson ∈ TB := tb3 (List.mem_of_getElem? (i := 35) rfl) rfl
theorem wv_X9_hasPerson : Cond.selects RX9 yX9_hasPerson yX9_hasPerson ∈ TB := tb3 (List.mem_of_getElem? (i := 36) rfl) rfl
theorem wc_X9_hasPerson : Cond.code yX9_hasPerson cX9_hasPerson 2 (some .boolean) ∈ TB := tb3 (List.mem_of_getElem? (i := 37) rfl) rfl
theorem wl_X11_339 : Cond.methodLink RX11 339 yX9_rank ∈ TB := tb3 (List.mem_of_getElem? (i := 38) rfl) rfl
theorem wm_X9_rank : Cond.instanceMethod yX9_rank ∈ TB := tb3 (List.mem_of_getElem? (i := 39) rfl) rfl
theorem wv_X9_rank : Cond.selects RX9 yX9_rank yX9_rank ∈ TB := tb3 (List.mem_of_getElem? (i := 40) rfl) rfl
theorem wc_X9_rank : Cond.code yX9_rank cX9_rank 5 (some .int) ∈ TB := tb3 (List.mem_of_getElem? (i := 41) rfl) rfl
theorem wl_X11_229 : Cond.methodLink RX11 229 yX4_number ∈ TB := tb3 (List.mem_of_getElem? (i := 42) rfl) rfl
theorem wm_X4_number : Cond.instanceMethod yX4_number ∈ TB := tb3 (List.mem_of_getElem? (i := 43) rfl) rfl
theorem wv_X4_number : Cond.selects RX4 yX4_number yX4_number ∈ TB := tb3 (List.mem_of_getElem? (i := 44) rfl) rfl
theorem wc_X4_number : Cond.code yX4_number cX4_number 9 (some .int) ∈ TB := tb3 (List.mem_of_getElem? (i := 45) rfl) rfl
theorem wl_X4_50 : Cond.methodLink RX4 50 yX9_gust ∈ TB := tb3 (List.mem_of_getElem? (i := 46) rfl) rfl
theorem wl_X4_54 : Cond.methodLink RX4 54 yX8_formula ∈ TB := tb3 (List.mem_of_getElem? (i := 47) rfl) rfl
theorem wm_X8_formula : Cond.instanceMethod yX8_formula ∈ TB := tb3 (List.mem_of_getElem? (i := 48) rfl) rfl
theorem wv_X8_formula : Cond.selects RX8 yX8_formula yX8_formula ∈ TB := tb3 (List.mem_of_getElem? (i := 49) rfl) rfl
theorem wc_X8_formula : Cond.code yX8_formula cX8_formula 1 (some (.object "HatRank$Formula")) ∈ TB := tb3 (List.mem_of_getElem? (i := 50) rfl) rfl
theorem wl_X4_60 : Cond.methodLink RX4 60 yX3_isEmpty ∈ TB := tb3 (List.mem_of_getElem? (i := 51) rfl) rfl
theorem wm_X3_isEmpty : Cond.instanceMethod yX3_isEmpty ∈ TB := tb3 (List.mem_of_getElem? (i := 52) rfl) rfl
theorem wv_X3_isEmpty : Cond.selects RX3 yX3_isEmpty yX3_isEmpty ∈ TB := tb3 (List.mem_of_getElem? (i := 53) rfl) rfl
theorem wc_X3_isEmpty : Cond.code yX3_isEmpty cX3_isEmpty 1 (some .boolean) ∈ TB := tb3 (List.mem_of_getElem? (i := 54) rfl) rfl
theorem wl_X4_66 : Cond.methodLink RX4 66 yX4_held ∈ TB := tb3 (List.mem_of_getElem? (i := 55) rfl) rfl
theorem ws_X4_held : Cond.static yX4_held ∈ TB := tb3 (List.mem_of_getElem? (i := 56) rfl) rfl
theorem wc_X4_held : Cond.code yX4_held cX4_held 1 (some .int) ∈ TB := tb3 (List.mem_of_getElem? (i := 57) rfl) rfl
theorem wl_X4_85 : Cond.methodLink RX4 85 yJ9_min_7cf53 ∈ TB := tb3 (List.mem_of_getElem? (i := 58) rfl) rfl
theorem ws_J9_min_7cf53 : Cond.static yJ9_min_7cf53 ∈ TB := tb3 (List.mem_of_getElem? (i := 59) rfl) rfl
theorem wc_J9_min_7cf53 : Cond.code yJ9_min_7cf53 cJ9_min_7cf53 2 (some .int) ∈ TB := tb3 (List.mem_of_getElem? (i := 60) rfl) rfl
theorem wl_X4_91 : Cond.methodLink RX4 91 yJ9_max_7cf53 ∈ TB := tb3 (List.mem_of_getElem? (i := 61) rfl) rfl
theorem wl_X4_70 : Cond.methodLink RX4 70 yX3_name ∈ TB := tb3 (List.mem_of_getElem? (i := 62) rfl) rfl
theorem wm_X3_name : Cond.instanceMethod yX3_name ∈ TB := tb3 (List.mem_of_getElem? (i := 63) rfl) rfl
theorem wv_X3_name : Cond.selects RX3 yX3_name yX3_name ∈ TB := tb3 (List.mem_of_getElem? (i := 64) rfl) rfl
theorem wc_X3_name : Cond.code yX3_name cX3_name 3 none ∈ TB := tb3 (List.mem_of_getElem? (i := 65) rfl) rfl
theorem wl_X4_74 : Cond.methodLink RX4 74 yX4_others ∈ TB := tb3 (List.mem_of_getElem? (i := 66) rfl) rfl
theorem wm_X4_others : Cond.instanceMethod yX4_others ∈ TB := tb3 (List.mem_of_getElem? (i := 68) rfl) rfl
theorem wc_X4_others : Cond.code yX4_others cX4_others 6 (some .int) ∈ TB := tb3 (List.mem_of_getElem? (i := 69) rfl) rfl
theorem wl_X4_78 : Cond.methodLink RX4 78 yX3_work ∈ TB := tb3 (List.mem_of_getElem? (i := 70) rfl) rfl
theorem wm_X3_work : Cond.instanceMethod yX3_work ∈ TB := tb3 (List.mem_of_getElem? (i := 71) rfl) rfl
theorem wv_X3_work : Cond.selects RX3 yX3_work yX3_work ∈ TB := tb3 (List.mem_of_getElem? (i := 72) rfl) rfl
theorem wc_X3_work : Cond.code yX3_work cX3_work 3 (some .int) ∈ TB := tb3 (List.mem_of_getElem? (i := 73) rfl) rfl
theorem wl_X3_37 : Cond.methodLink RX3 37 yX3_has ∈ TB := tb3 (List.mem_of_getElem? (i := 74) rfl) rfl
theorem wm_X3_has : Cond.instanceMethod yX3_has ∈ TB := tb3 (List.mem_of_getElem? (i := 76) rfl) rfl
theorem wc_X3_has : Cond.code yX3_has cX3_has 2 (some .boolean) ∈ TB := tb3 (List.mem_of_getElem? (i := 77) rfl) rfl
theorem wl_X3_41 : Cond.methodLink RX3 41 yX3_join ∈ TB := tb3 (List.mem_of_getElem? (i := 78) rfl) rfl
theorem ws_X3_join : Cond.static yX3_join ∈ TB := tb3 (List.mem_of_getElem? (i := 79) rfl) rfl
theorem wc_X3_join : Cond.code yX3_join cX3_join 3 (some .int) ∈ TB := tb3 (List.mem_of_getElem? (i := 80) rfl) rfl
theorem wl_L_40 : Cond.methodLink RL 40 yX11_feed ∈ TB := tb3 (List.mem_of_getElem? (i := 81) rfl) rfl
theorem wm_X11_feed : Cond.instanceMethod yX11_feed ∈ TB := tb3 (List.mem_of_getElem? (i := 82) rfl) rfl
theorem wv_X11_feed : Cond.selects RX11 yX11_feed yX11_feed ∈ TB := tb3 (List.mem_of_getElem? (i := 83) rfl) rfl
theorem wc_X11_feed : Cond.code yX11_feed cX11_feed 2 (some .int) ∈ TB := tb3 (List.mem_of_getElem? (i := 84) rfl) rfl
theorem wl_X11_150 : Cond.methodLink RX11 150 yX8_take ∈ TB := tb3 (List.mem_of_getElem? (i := 85) rfl) rfl
theorem wm_X8_take : Cond.instanceMethod yX8_take ∈ TB := tb3 (List.mem_of_getElem? (i := 86) rfl) rfl
theorem wv_X8_take : Cond.selects RX8 yX8_take yX8_take ∈ TB := tb3 (List.mem_of_getElem? (i := 87) rfl) rfl
theorem wc_X8_take : Cond.code yX8_take cX8_take 2 (some .int) ∈ TB := tb3 (List.mem_of_getElem? (i := 88) rfl) rfl
theorem wl_L_44 : Cond.methodLink RL 44 yX11_law ∈ TB := tb3 (List.mem_of_getElem? (i := 89) rfl) rfl
theorem wm_X11_law : Cond.instanceMethod yX11_law ∈ TB := tb3 (List.mem_of_getElem? (i := 90) rfl) rfl
theorem wv_X11_law : Cond.selects RX11 yX11_law yX11_law ∈ TB := tb3 (List.mem_of_getElem? (i := 91) rfl) rfl
theorem wc_X11_law : Cond.code yX11_law cX11_law 2 (some .int) ∈ TB := tb3 (List.mem_of_getElem? (i := 92) rfl) rfl
theorem wl_X11_153 : Cond.methodLink RX11 153 yX8_becomeLaw ∈ TB := tb3 (List.mem_of_getElem? (i := 93) rfl) rfl
theorem wm_X8_becomeLaw : Cond.instanceMethod yX8_becomeLaw ∈ TB := tb3 (List.mem_of_getElem? (i := 94) rfl) rfl
theorem wv_X8_becomeLaw : Cond.selects RX8 yX8_becomeLaw yX8_becomeLaw ∈ TB := tb3 (List.mem_of_getElem? (i := 95) rfl) rfl
theorem wc_X8_becomeLaw : Cond.code yX8_becomeLaw cX8_becomeLaw 3 (some .int) ∈ TB := tb3 (List.mem_of_getElem? (i := 96) rfl) rfl
theorem wl_X8_32 : Cond.methodLink RX8 32 yX3_clear ∈ TB := tb3 (List.mem_of_getElem? (i := 97) rfl) rfl
theorem wm_X3_clear : Cond.instanceMethod yX3_clear ∈ TB := tb3 (List.mem_of_getElem? (i := 98) rfl) rfl
theorem wv_X3_clear : Cond.selects RX3 yX3_clear yX3_clear ∈ TB := tb3 (List.mem_of_getElem? (i := 99) rfl) rfl
theorem wc_X3_clear : Cond.code yX3_clear cX3_clear 1 none ∈ TB := tb3 (List.mem_of_getElem? (i := 100) rfl) rfl
theorem wl_X8_35 : Cond.methodLink RX8 35 yX8_readLines ∈ TB := tb3 (List.mem_of_getElem? (i := 101) rfl) rfl
theorem wm_X8_readLines : Cond.instanceMethod yX8_readLines ∈ TB := tb3 (List.mem_of_getElem? (i := 103) rfl) rfl
theorem wc_X8_readLines : Cond.code yX8_readLines cX8_readLines 2 (some .boolean) ∈ TB := tb3 (List.mem_of_getElem? (i := 104) rfl) rfl
theorem wl_X8_39 : Cond.methodLink RX8 39 yX8_readLine ∈ TB := tb3 (List.mem_of_getElem? (i := 105) rfl) rfl
theorem wm_X8_readLine : Cond.instanceMethod yX8_readLine ∈ TB := tb3 (List.mem_of_getElem? (i := 107) rfl) rfl
theorem wc_X8_readLine : Cond.code yX8_readLine cX8_readLine 3 (some .boolean) ∈ TB := tb3 (List.mem_of_getElem? (i := 108) rfl) rfl
theorem wl_X8_46 : Cond.methodLink RX8 46 yX8_readJoined ∈ TB := tb3 (List.mem_of_getElem? (i := 109) rfl) rfl
theorem wm_X8_readJoined : Cond.instanceMethod yX8_readJoined ∈ TB := tb3 (List.mem_of_getElem? (i := 111) rfl) rfl
theorem wc_X8_readJoined : Cond.code yX8_readJoined cX8_readJoined 8 (some .int) ∈ TB := tb3 (List.mem_of_getElem? (i := 112) rfl) rfl
theorem wl_X8_54 : Cond.methodLink RX8 54 yX8_readOperand ∈ TB := tb3 (List.mem_of_getElem? (i := 113) rfl) rfl
theorem wm_X8_readOperand : Cond.instanceMethod yX8_readOperand ∈ TB := tb3 (List.mem_of_getElem? (i := 115) rfl) rfl
theorem wc_X8_readOperand : Cond.code yX8_readOperand cX8_readOperand 4 (some .int) ∈ TB := tb3 (List.mem_of_getElem? (i := 116) rfl) rfl
theorem wl_X8_42 : Cond.methodLink RX8 42 yX8_here ∈ TB := tb3 (List.mem_of_getElem? (i := 117) rfl) rfl
theorem wm_X8_here : Cond.instanceMethod yX8_here ∈ TB := tb3 (List.mem_of_getElem? (i := 119) rfl) rfl
theorem wc_X8_here : Cond.code yX8_here cX8_here 1 (some .int) ∈ TB := tb3 (List.mem_of_getElem? (i := 120) rfl) rfl
theorem wl_X8_66 : Cond.methodLink RX8 66 yX8_isDigit ∈ TB := tb3 (List.mem_of_getElem? (i := 121) rfl) rfl
theorem ws_X8_isDigit : Cond.static yX8_isDigit ∈ TB := tb3 (List.mem_of_getElem? (i := 122) rfl) rfl
theorem wc_X8_isDigit : Cond.code yX8_isDigit cX8_isDigit 1 (some .boolean) ∈ TB := tb3 (List.mem_of_getElem? (i := 123) rfl) rfl
theorem wl_X8_70 : Cond.methodLink RX8 70 yX8_readNumber ∈ TB := tb3 (List.mem_of_getElem? (i := 124) rfl) rfl
theorem wm_X8_readNumber : Cond.instanceMethod yX8_readNumber ∈ TB := tb3 (List.mem_of_getElem? (i := 126) rfl) rfl
theorem wc_X8_readNumber : Cond.code yX8_readNumber cX8_readNumber 3 (some .int) ∈ TB := tb3 (List.mem_of_getElem? (i := 127) rfl) rfl
theorem wl_X8_62 : Cond.methodLink RX8 62 yX3_add ∈ TB := tb3 (List.mem_of_getElem? (i := 128) rfl) rfl
theorem wm_X3_add : Cond.instanceMethod yX3_add ∈ TB := tb3 (List.mem_of_getElem? (i := 129) rfl) rfl
theorem wv_X3_add : Cond.selects RX3 yX3_add yX3_add ∈ TB := tb3 (List.mem_of_getElem? (i := 130) rfl) rfl
theorem wc_X3_add : Cond.code yX3_add cX3_add 4 (some .int) ∈ TB := tb3 (List.mem_of_getElem? (i := 131) rfl) rfl
theorem wl_X8_73 : Cond.methodLink RX8 73 yX8_readOpened ∈ TB := tb3 (List.mem_of_getElem? (i := 132) rfl) rfl
theorem wm_X8_readOpened : Cond.instanceMethod yX8_readOpened ∈ TB := tb3 (List.mem_of_getElem? (i := 134) rfl) rfl
theorem wc_X8_readOpened : Cond.code yX8_readOpened cX8_readOpened 4 (some .int) ∈ TB := tb3 (List.mem_of_getElem? (i := 135) rfl) rfl
theorem wl_X8_78 : Cond.methodLink RX8 78 yJ0_indexOf_0f7a4 ∈ TB := tb3 (List.mem_of_getElem? (i := 137) rfl) rfl
theorem wm_J0_indexOf_0f7a4 : Cond.instanceMethod yJ0_indexOf_0f7a4 ∈ TB := tb3 (List.mem_of_getElem? (i := 138) rfl) rfl
theorem wv_J0_indexOf_0f7a4 : Cond.selects RJ0 yJ0_indexOf_0f7a4 yJ0_indexOf_0f7a4 ∈ TB := tb3 (List.mem_of_getElem? (i := 139) rfl) rfl
theorem wc_J0_indexOf_0f7a4 : Cond.code yJ0_indexOf_0f7a4 cJ0_indexOf_0f7a4 2 (some .int) ∈ TB := tb3 (List.mem_of_getElem? (i := 140) rfl) rfl
theorem wl_J0_633 : Cond.methodLink RJ0 633 yJ0_indexOf_7cf53 ∈ TB := tb3 (List.mem_of_getElem? (i := 141) rfl) rfl
theorem wm_J0_indexOf_7cf53 : Cond.instanceMethod yJ0_indexOf_7cf53 ∈ TB := tb3 (List.mem_of_getElem? (i := 142) rfl) rfl
theorem wv_J0_indexOf_7cf53 : Cond.selects RJ0 yJ0_indexOf_7cf53 yJ0_indexOf_7cf53 ∈ TB := tb3 (List.mem_of_getElem? (i := 143) rfl) rfl
theorem wc_J0_indexOf_7cf53 : Cond.code yJ0_indexOf_7cf53 cJ0_indexOf_7cf53 3 (some .int) ∈ TB := tb3 (List.mem_of_getElem? (i := 144) rfl) rfl
theorem wl_J0_492 : Cond.methodLink RJ0 492 yJ0_isLatin1_aae02 ∈ TB := tb3 (List.mem_of_getElem? (i := 145) rfl) rfl
theorem wm_J0_isLatin1_aae02 : Cond.instanceMethod yJ0_isLatin1_aae02 ∈ TB := tb3 (List.mem_of_getElem? (i := 146) rfl) rfl
theorem wv_J0_isLatin1_aae02 : Cond.selects RJ0 yJ0_isLatin1_aae02 yJ0_isLatin1_aae02 ∈ TB := tb3 (List.mem_of_getElem? (i := 147) rfl) rfl
theorem wc_J0_isLatin1_aae02 : Cond.code yJ0_isLatin1_aae02 cJ0_isLatin1_aae02 1 (some .boolean) ∈ TB := tb3 (List.mem_of_getElem? (i := 148) rfl) rfl
theorem wf_J0_38 : Cond.fieldLink RJ0 38 "java/lang/String" "COMPACT_STRINGS" "Z" ∈ TB := tb3 (List.mem_of_getElem? (i := 149) rfl) rfl
theorem wl_J0_505 : Cond.methodLink RJ0 505 yJ0_length_8abf5 ∈ TB := tb3 (List.mem_of_getElem? (i := 151) rfl) rfl
theorem wm_J0_length_8abf5 : Cond.instanceMethod yJ0_length_8abf5 ∈ TB := tb3 (List.mem_of_getElem? (i := 152) rfl) rfl
theorem wv_J0_length_8abf5 : Cond.selects RJ0 yJ0_length_8abf5 yJ0_length_8abf5 ∈ TB := tb3 (List.mem_of_getElem? (i := 153) rfl) rfl
theorem wc_J0_length_8abf5 : Cond.code yJ0_length_8abf5 cJ0_length_8abf5 1 (some .int) ∈ TB := tb3 (List.mem_of_getElem? (i := 154) rfl) rfl
theorem wl_J0_335 : Cond.methodLink RJ0 335 yJ0_coder_7d493 ∈ TB := tb3 (List.mem_of_getElem? (i := 155) rfl) rfl
theorem wm_J0_coder_7d493 : Cond.instanceMethod yJ0_coder_7d493 ∈ TB := tb3 (List.mem_of_getElem? (i := 156) rfl) rfl
theorem wv_J0_coder_7d493 : Cond.selects RJ0 yJ0_coder_7d493 yJ0_coder_7d493 ∈ TB := tb3 (List.mem_of_getElem? (i := 157) rfl) rfl
theorem wc_J0_coder_7d493 : Cond.code yJ0_coder_7d493 cJ0_coder_7d493 1 (some .byte) ∈ TB := tb3 (List.mem_of_getElem? (i := 158) rfl) rfl
theorem wl_J0_637 : Cond.methodLink RJ0 637 yJ1_indexOf_4cfef ∈ TB := tb3 (List.mem_of_getElem? (i := 159) rfl) rfl
theorem ws_J1_indexOf_4cfef : Cond.static yJ1_indexOf_4cfef ∈ TB := tb3 (List.mem_of_getElem? (i := 160) rfl) rfl
theorem wc_J1_indexOf_4cfef : Cond.code yJ1_indexOf_4cfef cJ1_indexOf_4cfef 4 (some .int) ∈ TB := tb3 (List.mem_of_getElem? (i := 161) rfl) rfl
theorem wl_J1_88 : Cond.methodLink RJ1 88 yJ1_canEncode_9a6ad ∈ TB := tb3 (List.mem_of_getElem? (i := 162) rfl) rfl
theorem ws_J1_canEncode_9a6ad : Cond.static yJ1_canEncode_9a6ad ∈ TB := tb3 (List.mem_of_getElem? (i := 163) rfl) rfl
theorem wc_J1_canEncode_9a6ad : Cond.code yJ1_canEncode_9a6ad cJ1_canEncode_9a6ad 1 (some .boolean) ∈ TB := tb3 (List.mem_of_getElem? (i := 164) rfl) rfl
theorem wl_J1_92 : Cond.methodLink RJ1 92 yJ9_max_7cf53 ∈ TB := tb3 (List.mem_of_getElem? (i := 165) rfl) rfl
theorem wl_J1_38 : Cond.methodLink RJ1 38 yJ9_min_7cf53 ∈ TB := tb3 (List.mem_of_getElem? (i := 166) rfl) rfl
theorem wl_J1_95 : Cond.methodLink RJ1 95 yJ1_indexOfChar_4cfef ∈ TB := tb3 (List.mem_of_getElem? (i := 167) rfl) rfl
theorem ws_J1_indexOfChar_4cfef : Cond.static yJ1_indexOfChar_4cfef ∈ TB := tb3 (List.mem_of_getElem? (i := 168) rfl) rfl
theorem wc_J1_indexOfChar_4cfef : Cond.code yJ1_indexOfChar_4cfef cJ1_indexOfChar_4cfef 6 (some .int) ∈ TB := tb3 (List.mem_of_getElem? (i := 169) rfl) rfl
theorem wl_J0_640 : Cond.methodLink RJ0 640 yJ2_indexOf_4cfef ∈ TB := tb3 (List.mem_of_getElem? (i := 170) rfl) rfl
theorem ws_J2_indexOf_4cfef : Cond.static yJ2_indexOf_4cfef ∈ TB := tb3 (List.mem_of_getElem? (i := 171) rfl) rfl
theorem wc_J2_indexOf_4cfef : Cond.code yJ2_indexOf_4cfef cJ2_indexOf_4cfef 4 (some .int) ∈ TB := tb3 (List.mem_of_getElem? (i := 172) rfl) rfl
theorem wl_J2_224 : Cond.methodLink RJ2 224 yJ9_max_7cf53 ∈ TB := tb3 (List.mem_of_getElem? (i := 173) rfl) rfl
theorem wl_J2_183 : Cond.methodLink RJ2 183 yJ9_min_7cf53 ∈ TB := tb3 (List.mem_of_getElem? (i := 174) rfl) rfl
theorem wk_J2_227 : Cond.constant RJ2 227 (65536) ∈ TB := tb3 (List.mem_of_getElem? (i := 175) rfl) rfl
theorem wl_J2_228 : Cond.methodLink RJ2 228 yJ2_indexOfChar_4cfef ∈ TB := tb3 (List.mem_of_getElem? (i := 176) rfl) rfl
theorem ws_J2_indexOfChar_4cfef : Cond.static yJ2_indexOfChar_4cfef ∈ TB := tb3 (List.mem_of_getElem? (i := 177) rfl) rfl
theorem wc_J2_indexOfChar_4cfef : Cond.code yJ2_indexOfChar_4cfef cJ2_indexOfChar_4cfef 4 (some .int) ∈ TB := tb3 (List.mem_of_getElem? (i := 178) rfl) rfl
theorem wl_J2_96 : Cond.methodLink RJ2 96 yJ2_checkBoundsBeginEnd_d044e ∈ TB := tb3 (List.mem_of_getElem? (i := 179) rfl) rfl
theorem ws_J2_checkBoundsBeginEnd_d044e : Cond.static yJ2_checkBoundsBeginEnd_d044e ∈ TB := tb3 (List.mem_of_getElem? (i := 180) rfl) rfl
theorem wc_J2_checkBoundsBeginEnd_d044e : Cond.code yJ2_checkBoundsBeginEnd_d044e cJ2_checkBoundsBeginEnd_d044e 3 none ∈ TB := tb3 (List.mem_of_getElem? (i := 181) rfl) rfl
theorem wl_J2_48 : Cond.methodLink RJ2 48 yJ2_length_9d52b ∈ TB := tb3 (List.mem_of_getElem? (i := 182) rfl) rfl
theorem ws_J2_length_9d52b : Cond.static yJ2_length_9d52b ∈ TB := tb3 (List.mem_of_getElem? (i := 183) rfl) rfl
theorem wc_J2_length_9d52b : Cond.code yJ2_length_9d52b cJ2_length_9d52b 1 (some .int) ∈ TB := tb3 (List.mem_of_getElem? (i := 184) rfl) rfl
theorem wl_J2_241 : Cond.methodLink RJ2 241 yJ0_checkBoundsBeginEnd_23922 ∈ TB := tb3 (List.mem_of_getElem? (i := 185) rfl) rfl
theorem ws_J0_checkBoundsBeginEnd_23922 : Cond.static yJ0_checkBoundsBeginEnd_23922 ∈ TB := tb3 (List.mem_of_getElem? (i := 186) rfl) rfl
theorem wc_J0_checkBoundsBeginEnd_23922 : Cond.code yJ0_checkBoundsBeginEnd_23922 cJ0_checkBoundsBeginEnd_23922 3 none ∈ TB := tb3 (List.mem_of_getElem? (i := 187) rfl) rfl
theorem wf_J0_1053 : Cond.fieldLink RJ0 1053 "jdk/internal/util/Preconditions" "SIOOBE_FORMATTER" "Ljava/util/function/BiFunction;" ∈ TB := tb3 (List.mem_of_getElem? (i := 188) rfl) rfl
theorem wl_J0_1062 : Cond.methodLink RJ0 1062 yJ3_checkFromToIndex_8c36e ∈ TB := tb3 (List.mem_of_getElem? (i := 190) rfl) rfl
theorem ws_J3_checkFromToIndex_8c36e : Cond.static yJ3_checkFromToIndex_8c36e ∈ TB := tb3 (List.mem_of_getElem? (i := 191) rfl) rfl
theorem wc_J3_checkFromToIndex_8c36e : Cond.code yJ3_checkFromToIndex_8c36e cJ3_checkFromToIndex_8c36e 4 (some .int) ∈ TB := tb3 (List.mem_of_getElem? (i := 192) rfl) rfl
theorem wl_J2_244 : Cond.methodLink RJ2 244 yJ2_indexOfCharUnsafe_4cfef ∈ TB := tb3 (List.mem_of_getElem? (i := 193) rfl) rfl
theorem ws_J2_indexOfCharUnsafe_4cfef : Cond.static yJ2_indexOfCharUnsafe_4cfef ∈ TB := tb3 (List.mem_of_getElem? (i := 194) rfl) rfl
theorem wc_J2_indexOfCharUnsafe_4cfef : Cond.code yJ2_indexOfCharUnsafe_4cfef cJ2_indexOfCharUnsafe_4cfef 5 (some .int) ∈ TB := tb3 (List.mem_of_getElem? (i := 195) rfl) rfl
theorem wl_J2_71 : Cond.methodLink RJ2 71 yJ2_getChar_3b067 ∈ TB := tb3 (List.mem_of_getElem? (i := 196) rfl) rfl
theorem ws_J2_getChar_3b067 : Cond.static yJ2_getChar_3b067 ∈ TB := tb3 (List.mem_of_getElem? (i := 197) rfl) rfl
theorem wc_J2_getChar_3b067 : Cond.code yJ2_getChar_3b067 cJ2_getChar_3b067 2 (some .char) ∈ TB := tb3 (List.mem_of_getElem? (i := 198) rfl) rfl
theorem wf_J2_44 : Cond.fieldLink RJ2 44 "java/lang/StringUTF16" "$assertionsDisabled" "Z" ∈ TB := tb3 (List.mem_of_getElem? (i := 199) rfl) rfl
theorem wf_J2_59 : Cond.fieldLink RJ2 59 "java/lang/StringUTF16" "HI_BYTE_SHIFT" "I" ∈ TB := tb3 (List.mem_of_getElem? (i := 201) rfl) rfl
theorem wf_J2_63 : Cond.fieldLink RJ2 63 "java/lang/StringUTF16" "LO_BYTE_SHIFT" "I" ∈ TB := tb3 (List.mem_of_getElem? (i := 203) rfl) rfl
theorem wl_J2_232 : Cond.methodLink RJ2 232 yJ2_indexOfSupplementary_4cfef ∈ TB := tb3 (List.mem_of_getElem? (i := 205) rfl) rfl
theorem ws_J2_indexOfSupplementary_4cfef : Cond.static yJ2_indexOfSupplementary_4cfef ∈ TB := tb3 (List.mem_of_getElem? (i := 206) rfl) rfl
theorem wc_J2_indexOfSupplementary_4cfef : Cond.code yJ2_indexOfSupplementary_4cfef cJ2_indexOfSupplementary_4cfef 7 (some .int) ∈ TB := tb3 (List.mem_of_getElem? (i := 207) rfl) rfl
theorem wl_J2_164 : Cond.methodLink RJ2 164 yJ11_isValidCodePoint_9a6ad ∈ TB := tb3 (List.mem_of_getElem? (i := 208) rfl) rfl
theorem ws_J11_isValidCodePoint_9a6ad : Cond.static yJ11_isValidCodePoint_9a6ad ∈ TB := tb3 (List.mem_of_getElem? (i := 209) rfl) rfl
theorem wc_J11_isValidCodePoint_9a6ad : Cond.code yJ11_isValidCodePoint_9a6ad cJ11_isValidCodePoint_9a6ad 2 (some .boolean) ∈ TB := tb3 (List.mem_of_getElem? (i := 210) rfl) rfl
theorem wl_J2_157 : Cond.methodLink RJ2 157 yJ11_highSurrogate_5068e ∈ TB := tb3 (List.mem_of_getElem? (i := 211) rfl) rfl
theorem ws_J11_highSurrogate_5068e : Cond.static yJ11_highSurrogate_5068e ∈ TB := tb3 (List.mem_of_getElem? (i := 212) rfl) rfl
theorem wc_J11_highSurrogate_5068e : Cond.code yJ11_highSurrogate_5068e cJ11_highSurrogate_5068e 1 (some .char) ∈ TB := tb3 (List.mem_of_getElem? (i := 213) rfl) rfl
theorem wk_J11_110 : Cond.constant RJ11 110 (55232) ∈ TB := tb3 (List.mem_of_getElem? (i := 214) rfl) rfl
theorem wl_J2_161 : Cond.methodLink RJ2 161 yJ11_lowSurrogate_5068e ∈ TB := tb3 (List.mem_of_getElem? (i := 215) rfl) rfl
theorem ws_J11_lowSurrogate_5068e : Cond.static yJ11_lowSurrogate_5068e ∈ TB := tb3 (List.mem_of_getElem? (i := 216) rfl) rfl
theorem wc_J11_lowSurrogate_5068e : Cond.code yJ11_lowSurrogate_5068e cJ11_lowSurrogate_5068e 1 (some .char) ∈ TB := tb3 (List.mem_of_getElem? (i := 217) rfl) rfl
theorem wk_J11_76 : Cond.constant RJ11 76 (56320) ∈ TB := tb3 (List.mem_of_getElem? (i := 218) rfl) rfl
theorem wl_X8_58 : Cond.methodLink RX8 58 yX8_joins ∈ TB := tb3 (List.mem_of_getElem? (i := 219) rfl) rfl
theorem ws_X8_joins : Cond.static yX8_joins ∈ TB := tb3 (List.mem_of_getElem? (i := 220) rfl) rfl
theorem wc_X8_joins : Cond.code yX8_joins cX8_joins 2 (some .boolean) ∈ TB := tb3 (List.mem_of_getElem? (i := 221) rfl) rfl
theorem wl_X8_50 : Cond.methodLink RX8 50 yX3_addLine ∈ TB := tb3 (List.mem_of_getElem? (i := 222) rfl) rfl
theorem wm_X3_addLine : Cond.instanceMethod yX3_addLine ∈ TB := tb3 (List.mem_of_getElem? (i := 223) rfl) rfl
theorem wv_X3_addLine : Cond.selects RX3 yX3_addLine yX3_addLine ∈ TB := tb3 (List.mem_of_getElem? (i := 224) rfl) rfl
theorem wc_X3_addLine : Cond.code yX3_addLine cX3_addLine 3 none ∈ TB := tb3 (List.mem_of_getElem? (i := 225) rfl) rfl
theorem wa_byte : Cond.arrayClass .byte ∈ TB := tb3 (List.mem_of_getElem? (i := 226) rfl) rfl
theorem wl_L_49 : Cond.methodLink RL 49 yX11_go ∈ TB := tb3 (List.mem_of_getElem? (i := 227) rfl) rfl
theorem wm_X11_go : Cond.instanceMethod yX11_go ∈ TB := tb3 (List.mem_of_getElem? (i := 228) rfl) rfl
theorem wv_X11_go : Cond.selects RX11 yX11_go yX11_go ∈ TB := tb3 (List.mem_of_getElem? (i := 229) rfl) rfl
theorem wc_X11_go : Cond.code yX11_go cX11_go 3 (some .int) ∈ TB := tb3 (List.mem_of_getElem? (i := 230) rfl) rfl
theorem wl_X11_157 : Cond.methodLink RX11 157 yX11_hoursLeft ∈ TB := tb3 (List.mem_of_getElem? (i := 231) rfl) rfl
theorem wm_X11_hoursLeft : Cond.instanceMethod yX11_hoursLeft ∈ TB := tb3 (List.mem_of_getElem? (i := 233) rfl) rfl
theorem wc_X11_hoursLeft : Cond.code yX11_hoursLeft cX11_hoursLeft 1 (some .int) ∈ TB := tb3 (List.mem_of_getElem? (i := 234) rfl) rfl
theorem wl_X11_160 : Cond.methodLink RX11 160 yX4_begin ∈ TB := tb3 (List.mem_of_getElem? (i := 235) rfl) rfl
theorem wm_X4_begin : Cond.instanceMethod yX4_begin ∈ TB := tb3 (List.mem_of_getElem? (i := 236) rfl) rfl
theorem wv_X4_begin : Cond.selects RX4 yX4_begin yX4_begin ∈ TB := tb3 (List.mem_of_getElem? (i := 237) rfl) rfl
theorem wc_X4_begin : Cond.code yX4_begin cX4_begin 2 none ∈ TB := tb3 (List.mem_of_getElem? (i := 238) rfl) rfl
theorem wl_X4_27 : Cond.methodLink RX4 27 yJ7_fill_53178 ∈ TB := tb3 (List.mem_of_getElem? (i := 239) rfl) rfl
theorem wl_X11_164 : Cond.methodLink RX11 164 yX10_begin ∈ TB := tb4 (List.mem_of_getElem? (i := 0) rfl) rfl
theorem wm_X10_begin : Cond.instanceMethod yX10_begin ∈ TB := tb4 (List.mem_of_getElem? (i := 1) rfl) rfl
theorem wv_X10_begin : Cond.selects RX10 yX10_begin yX10_begin ∈ TB := tb4 (List.mem_of_getElem? (i := 2) rfl) rfl
theorem wc_X10_begin : Cond.code yX10_begin cX10_begin 2 none ∈ TB := tb4 (List.mem_of_getElem? (i := 3) rfl) rfl
theorem wl_X11_165 : Cond.methodLink RX11 165 yX10_blowHours ∈ TB := tb4 (List.mem_of_getElem? (i := 4) rfl) rfl
theorem wm_X10_blowHours : Cond.instanceMethod yX10_blowHours ∈ TB := tb4 (List.mem_of_getElem? (i := 5) rfl) rfl
theorem wv_X10_blowHours : Cond.selects RX10 yX10_blowHours yX10_blowHours ∈ TB := tb4 (List.mem_of_getElem? (i := 6) rfl) rfl
theorem wc_X10_blowHours : Cond.code yX10_blowHours cX10_blowHours 8 (some .int) ∈ TB := tb4 (List.mem_of_getElem? (i := 7) rfl) rfl
theorem wl_X10_45 : Cond.methodLink RX10 45 yX10_takeUp ∈ TB := tb4 (List.mem_of_getElem? (i := 8) rfl) rfl
theorem wm_X10_takeUp : Cond.instanceMethod yX10_takeUp ∈ TB := tb4 (List.mem_of_getElem? (i := 9) rfl) rfl
theorem wv_X10_takeUp : Cond.selects RX10 yX10_takeUp yX10_takeUp ∈ TB := tb4 (List.mem_of_getElem? (i := 10) rfl) rfl
theorem wc_X10_takeUp : Cond.code yX10_takeUp cX10_takeUp 4 none ∈ TB := tb4 (List.mem_of_getElem? (i := 11) rfl) rfl
theorem wl_X10_53 : Cond.methodLink RX10 53 yX10_draws ∈ TB := tb4 (List.mem_of_getElem? (i := 12) rfl) rfl
theorem wm_X10_draws : Cond.instanceMethod yX10_draws ∈ TB := tb4 (List.mem_of_getElem? (i := 14) rfl) rfl
theorem wc_X10_draws : Cond.code yX10_draws cX10_draws 3 (some .boolean) ∈ TB := tb4 (List.mem_of_getElem? (i := 15) rfl) rfl
theorem wk_X10_65 : Cond.constant RX10 65 (1103515245) ∈ TB := tb4 (List.mem_of_getElem? (i := 16) rfl) rfl
theorem wl_X10_66 : Cond.methodLink RX10 66 yX4_knownNumber ∈ TB := tb4 (List.mem_of_getElem? (i := 17) rfl) rfl
theorem wm_X4_knownNumber : Cond.instanceMethod yX4_knownNumber ∈ TB := tb4 (List.mem_of_getElem? (i := 18) rfl) rfl
theorem wv_X4_knownNumber : Cond.selects RX4 yX4_knownNumber yX4_knownNumber ∈ TB := tb4 (List.mem_of_getElem? (i := 19) rfl) rfl
theorem wc_X4_knownNumber : Cond.code yX4_knownNumber cX4_knownNumber 5 (some .int) ∈ TB := tb4 (List.mem_of_getElem? (i := 20) rfl) rfl
theorem wl_X4_46 : Cond.methodLink RX4 46 yX4_number ∈ TB := tb4 (List.mem_of_getElem? (i := 21) rfl) rfl
theorem wl_X10_57 : Cond.methodLink RX10 57 yX10_fall ∈ TB := tb4 (List.mem_of_getElem? (i := 22) rfl) rfl
theorem wm_X10_fall : Cond.instanceMethod yX10_fall ∈ TB := tb4 (List.mem_of_getElem? (i := 23) rfl) rfl
theorem wv_X10_fall : Cond.selects RX10 yX10_fall yX10_fall ∈ TB := tb4 (List.mem_of_getElem? (i := 24) rfl) rfl
theorem wc_X10_fall : Cond.code yX10_fall cX10_fall 4 (some .int) ∈ TB := tb4 (List.mem_of_getElem? (i := 25) rfl) rfl
theorem wl_X10_78 : Cond.methodLink RX10 78 yX10_landing ∈ TB := tb4 (List.mem_of_getElem? (i := 26) rfl) rfl
theorem wm_X10_landing : Cond.instanceMethod yX10_landing ∈ TB := tb4 (List.mem_of_getElem? (i := 28) rfl) rfl
theorem wc_X10_landing : Cond.code yX10_landing cX10_landing 6 (some .int) ∈ TB := tb4 (List.mem_of_getElem? (i := 29) rfl) rfl
theorem wl_X10_85 : Cond.methodLink RX10 85 yX10_catches ∈ TB := tb4 (List.mem_of_getElem? (i := 30) rfl) rfl
theorem ws_X10_catches : Cond.static yX10_catches ∈ TB := tb4 (List.mem_of_getElem? (i := 31) rfl) rfl
theorem wc_X10_catches : Cond.code yX10_catches cX10_catches 3 (some .boolean) ∈ TB := tb4 (List.mem_of_getElem? (i := 32) rfl) rfl
theorem wl_X10_92 : Cond.methodLink RX10 92 yX9_hasPlace ∈ TB := tb4 (List.mem_of_getElem? (i := 33) rfl) rfl
theorem wl_X10_81 : Cond.methodLink RX10 81 yX10_shiftHat ∈ TB := tb4 (List.mem_of_getElem? (i := 34) rfl) rfl
theorem wm_X10_shiftHat : Cond.instanceMethod yX10_shiftHat ∈ TB := tb4 (List.mem_of_getElem? (i := 36) rfl) rfl
theorem wc_X10_shiftHat : Cond.code yX10_shiftHat cX10_shiftHat 5 none ∈ TB := tb4 (List.mem_of_getElem? (i := 37) rfl) rfl
theorem wl_L_53 : Cond.methodLink RL 53 yX11_move ∈ TB := tb4 (List.mem_of_getElem? (i := 38) rfl) rfl
theorem wm_X11_move : Cond.instanceMethod yX11_move ∈ TB := tb4 (List.mem_of_getElem? (i := 39) rfl) rfl
theorem wv_X11_move : Cond.selects RX11 yX11_move yX11_move ∈ TB := tb4 (List.mem_of_getElem? (i := 40) rfl) rfl
theorem wc_X11_move : Cond.code yX11_move cX11_move 3 (some .int) ∈ TB := tb4 (List.mem_of_getElem? (i := 41) rfl) rfl
theorem wl_L_57 : Cond.methodLink RL 57 yX11_lay ∈ TB := tb4 (List.mem_of_getElem? (i := 42) rfl) rfl
theorem wm_X11_lay : Cond.instanceMethod yX11_lay ∈ TB := tb4 (List.mem_of_getElem? (i := 43) rfl) rfl
theorem wv_X11_lay : Cond.selects RX11 yX11_lay yX11_lay ∈ TB := tb4 (List.mem_of_getElem? (i := 44) rfl) rfl
theorem wc_X11_lay : Cond.code yX11_lay cX11_lay 2 (some .int) ∈ TB := tb4 (List.mem_of_getElem? (i := 45) rfl) rfl
theorem wl_L_61 : Cond.methodLink RL 61 yX11_commands ∈ TB := tb4 (List.mem_of_getElem? (i := 46) rfl) rfl
theorem wm_X11_commands : Cond.instanceMethod yX11_commands ∈ TB := tb4 (List.mem_of_getElem? (i := 47) rfl) rfl
theorem wv_X11_commands : Cond.selects RX11 yX11_commands yX11_commands ∈ TB := tb4 (List.mem_of_getElem? (i := 48) rfl) rfl
theorem wc_X11_commands : Cond.code yX11_commands cX11_commands 1 (some .int) ∈ TB := tb4 (List.mem_of_getElem? (i := 49) rfl) rfl
theorem wl_X11_182 : Cond.methodLink RX11 182 yX9_commander ∈ TB := tb4 (List.mem_of_getElem? (i := 50) rfl) rfl
theorem wm_X9_commander : Cond.instanceMethod yX9_commander ∈ TB := tb4 (List.mem_of_getElem? (i := 51) rfl) rfl
theorem wv_X9_commander : Cond.selects RX9 yX9_commander yX9_commander ∈ TB := tb4 (List.mem_of_getElem? (i := 52) rfl) rfl
theorem wc_X9_commander : Cond.code yX9_commander cX9_commander 4 (some .int) ∈ TB := tb4 (List.mem_of_getElem? (i := 53) rfl) rfl
theorem wl_L_65 : Cond.methodLink RL 65 yX11_led ∈ TB := tb4 (List.mem_of_getElem? (i := 54) rfl) rfl
theorem wm_X11_led : Cond.instanceMethod yX11_led ∈ TB := tb4 (List.mem_of_getElem? (i := 55) rfl) rfl
theorem wv_X11_led : Cond.selects RX11 yX11_led yX11_led ∈ TB := tb4 (List.mem_of_getElem? (i := 56) rfl) rfl
theorem wc_X11_led : Cond.code yX11_led cX11_led 2 (some .int) ∈ TB := tb4 (List.mem_of_getElem? (i := 57) rfl) rfl
theorem wl_L_69 : Cond.methodLink RL 69 yX11_risk ∈ TB := tb4 (List.mem_of_getElem? (i := 58) rfl) rfl
theorem wm_X11_risk : Cond.instanceMethod yX11_risk ∈ TB := tb4 (List.mem_of_getElem? (i := 59) rfl) rfl
theorem wv_X11_risk : Cond.selects RX11 yX11_risk yX11_risk ∈ TB := tb4 (List.mem_of_getElem? (i := 60) rfl) rfl
theorem wc_X11_risk : Cond.code yX11_risk cX11_risk 4 (some .int) ∈ TB := tb4 (List.mem_of_getElem? (i := 61) rfl) rfl
theorem wl_X11_186 : Cond.methodLink RX11 186 yX11_mayEnd ∈ TB := tb4 (List.mem_of_getElem? (i := 62) rfl) rfl
theorem wm_X11_mayEnd : Cond.instanceMethod yX11_mayEnd ∈ TB := tb4 (List.mem_of_getElem? (i := 64) rfl) rfl
theorem wc_X11_mayEnd : Cond.code yX11_mayEnd cX11_mayEnd 2 (some .boolean) ∈ TB := tb4 (List.mem_of_getElem? (i := 65) rfl) rfl
theorem wl_X11_189 : Cond.methodLink RX11 189 yX6_measure ∈ TB := tb4 (List.mem_of_getElem? (i := 66) rfl) rfl
theorem wm_X6_measure : Cond.instanceMethod yX6_measure ∈ TB := tb4 (List.mem_of_getElem? (i := 67) rfl) rfl
theorem wv_X6_measure : Cond.selects RX6 yX6_measure yX6_measure ∈ TB := tb4 (List.mem_of_getElem? (i := 68) rfl) rfl
theorem wc_X6_measure : Cond.code yX6_measure cX6_measure 9 (some .int) ∈ TB := tb4 (List.mem_of_getElem? (i := 69) rfl) rfl
theorem wl_X6_34 : Cond.methodLink RX6 34 yX6_bestStep ∈ TB := tb4 (List.mem_of_getElem? (i := 70) rfl) rfl
theorem wm_X6_bestStep : Cond.instanceMethod yX6_bestStep ∈ TB := tb4 (List.mem_of_getElem? (i := 72) rfl) rfl
theorem wc_X6_bestStep : Cond.code yX6_bestStep cX6_bestStep 7 (some .int) ∈ TB := tb4 (List.mem_of_getElem? (i := 73) rfl) rfl
theorem wk_X6_41 : Cond.constant RX6 41 (1000000) ∈ TB := tb4 (List.mem_of_getElem? (i := 74) rfl) rfl
theorem wl_X6_59 : Cond.methodLink RX6 59 yX9_joined ∈ TB := tb4 (List.mem_of_getElem? (i := 75) rfl) rfl
theorem wl_X6_38 : Cond.methodLink RX6 38 yX6_leastAt ∈ TB := tb4 (List.mem_of_getElem? (i := 76) rfl) rfl
theorem wm_X6_leastAt : Cond.instanceMethod yX6_leastAt ∈ TB := tb4 (List.mem_of_getElem? (i := 78) rfl) rfl
theorem wc_X6_leastAt : Cond.code yX6_leastAt cX6_leastAt 4 (some .int) ∈ TB := tb4 (List.mem_of_getElem? (i := 79) rfl) rfl
theorem wl_X6_45 : Cond.methodLink RX6 45 yX4_number ∈ TB := tb4 (List.mem_of_getElem? (i := 80) rfl) rfl
theorem wl_X6_51 : Cond.methodLink RX6 51 yJ9_min_7cf53 ∈ TB := tb4 (List.mem_of_getElem? (i := 81) rfl) rfl
theorem wk_X11_193 : Cond.constant RX11 193 (1000000) ∈ TB := tb4 (List.mem_of_getElem? (i := 82) rfl) rfl
theorem wl_L_73 : Cond.methodLink RL 73 yX11_walk ∈ TB := tb4 (List.mem_of_getElem? (i := 83) rfl) rfl
theorem wm_X11_walk : Cond.instanceMethod yX11_walk ∈ TB := tb4 (List.mem_of_getElem? (i := 84) rfl) rfl
theorem wv_X11_walk : Cond.selects RX11 yX11_walk yX11_walk ∈ TB := tb4 (List.mem_of_getElem? (i := 85) rfl) rfl
theorem wc_X11_walk : Cond.code yX11_walk cX11_walk 5 (some .int) ∈ TB := tb4 (List.mem_of_getElem? (i := 86) rfl) rfl
theorem wl_X11_197 : Cond.methodLink RX11 197 yX6_follow ∈ TB := tb4 (List.mem_of_getElem? (i := 87) rfl) rfl
theorem wm_X6_follow : Cond.instanceMethod yX6_follow ∈ TB := tb4 (List.mem_of_getElem? (i := 88) rfl) rfl
theorem wv_X6_follow : Cond.selects RX6 yX6_follow yX6_follow ∈ TB := tb4 (List.mem_of_getElem? (i := 89) rfl) rfl
theorem wc_X6_follow : Cond.code yX6_follow cX6_follow 6 (some .int) ∈ TB := tb4 (List.mem_of_getElem? (i := 90) rfl) rfl
theorem wl_L_77 : Cond.methodLink RL 77 yX11_chance ∈ TB := tb4 (List.mem_of_getElem? (i := 91) rfl) rfl
theorem wm_X11_chance : Cond.instanceMethod yX11_chance ∈ TB := tb4 (List.mem_of_getElem? (i := 92) rfl) rfl
theorem wv_X11_chance : Cond.selects RX11 yX11_chance yX11_chance ∈ TB := tb4 (List.mem_of_getElem? (i := 93) rfl) rfl
theorem wc_X11_chance : Cond.code yX11_chance cX11_chance 6 (some .long) ∈ TB := tb4 (List.mem_of_getElem? (i := 94) rfl) rfl
theorem wl_X11_201 : Cond.methodLink RX11 201 yX11_fractionRefusal ∈ TB := tb4 (List.mem_of_getElem? (i := 95) rfl) rfl
theorem wm_X11_fractionRefusal : Cond.instanceMethod yX11_fractionRefusal ∈ TB := tb4 (List.mem_of_getElem? (i := 97) rfl) rfl
theorem wc_X11_fractionRefusal : Cond.code yX11_fractionRefusal cX11_fractionRefusal 4 (some .long) ∈ TB := tb4 (List.mem_of_getElem? (i := 98) rfl) rfl
theorem wl_X11_223 : Cond.methodLink RX11 223 yX11_mayThink ∈ TB := tb4 (List.mem_of_getElem? (i := 99) rfl) rfl
theorem wm_X11_mayThink : Cond.instanceMethod yX11_mayThink ∈ TB := tb4 (List.mem_of_getElem? (i := 101) rfl) rfl
theorem wc_X11_mayThink : Cond.code yX11_mayThink cX11_mayThink 3 (some .boolean) ∈ TB := tb4 (List.mem_of_getElem? (i := 102) rfl) rfl
theorem wk_X11_294 : Cond.constantLong RX11 294 (-9223372036854775808) ∈ TB := tb4 (List.mem_of_getElem? (i := 103) rfl) rfl
theorem wk_X11_331 : Cond.constantLong RX11 331 (-5) ∈ TB := tb4 (List.mem_of_getElem? (i := 104) rfl) rfl
theorem wl_X11_205 : Cond.methodLink RX11 205 yX5_spread ∈ TB := tb4 (List.mem_of_getElem? (i := 105) rfl) rfl
theorem wm_X5_spread : Cond.instanceMethod yX5_spread ∈ TB := tb4 (List.mem_of_getElem? (i := 106) rfl) rfl
theorem wv_X5_spread : Cond.selects RX5 yX5_spread yX5_spread ∈ TB := tb4 (List.mem_of_getElem? (i := 107) rfl) rfl
theorem wc_X5_spread : Cond.code yX5_spread cX5_spread 5 none ∈ TB := tb4 (List.mem_of_getElem? (i := 108) rfl) rfl
theorem wl_X5_34 : Cond.methodLink RX5 34 yX2_become ∈ TB := tb4 (List.mem_of_getElem? (i := 109) rfl) rfl
theorem wm_X2_become : Cond.instanceMethod yX2_become ∈ TB := tb4 (List.mem_of_getElem? (i := 110) rfl) rfl
theorem wv_X2_become : Cond.selects RX2 yX2_become yX2_become ∈ TB := tb4 (List.mem_of_getElem? (i := 111) rfl) rfl
theorem wc_X2_become : Cond.code yX2_become cX2_become 2 none ∈ TB := tb4 (List.mem_of_getElem? (i := 112) rfl) rfl
theorem wl_X2_21 : Cond.methodLink RX2 21 arraycopyName ∈ TB := tb4 (List.mem_of_getElem? (i := 113) rfl) rfl
theorem wl_X5_65 : Cond.methodLink RX5 65 yX4_begin ∈ TB := tb4 (List.mem_of_getElem? (i := 114) rfl) rfl
theorem wl_X5_71 : Cond.methodLink RX5 71 yX5_spreadHour ∈ TB := tb4 (List.mem_of_getElem? (i := 115) rfl) rfl
theorem wm_X5_spreadHour : Cond.instanceMethod yX5_spreadHour ∈ TB := tb4 (List.mem_of_getElem? (i := 117) rfl) rfl
theorem wc_X5_spreadHour : Cond.code yX5_spreadHour cX5_spreadHour 5 none ∈ TB := tb4 (List.mem_of_getElem? (i := 118) rfl) rfl
theorem wl_X5_75 : Cond.methodLink RX5 75 yX5_weigh ∈ TB := tb4 (List.mem_of_getElem? (i := 119) rfl) rfl
theorem wm_X5_weigh : Cond.instanceMethod yX5_weigh ∈ TB := tb4 (List.mem_of_getElem? (i := 121) rfl) rfl
theorem wc_X5_weigh : Cond.code yX5_weigh cX5_weigh 3 none ∈ TB := tb4 (List.mem_of_getElem? (i := 122) rfl) rfl
theorem wl_X5_107 : Cond.methodLink RX5 107 yX9_commander ∈ TB := tb4 (List.mem_of_getElem? (i := 123) rfl) rfl
theorem wl_X5_79 : Cond.methodLink RX5 79 yX10_takeUp ∈ TB := tb4 (List.mem_of_getElem? (i := 124) rfl) rfl
theorem wl_X5_84 : Cond.methodLink RX5 84 yX5_spreadPerson ∈ TB := tb4 (List.mem_of_getElem? (i := 125) rfl) rfl
theorem wm_X5_spreadPerson : Cond.instanceMethod yX5_spreadPerson ∈ TB := tb4 (List.mem_of_getElem? (i := 127) rfl) rfl
theorem wc_X5_spreadPerson : Cond.code yX5_spreadPerson cX5_spreadPerson 7 none ∈ TB := tb4 (List.mem_of_getElem? (i := 128) rfl) rfl
theorem wl_X5_93 : Cond.methodLink RX5 93 yX4_knownNumber ∈ TB := tb4 (List.mem_of_getElem? (i := 129) rfl) rfl
theorem wl_X5_97 : Cond.methodLink RX5 97 yX10_fall ∈ TB := tb4 (List.mem_of_getElem? (i := 130) rfl) rfl
theorem wl_X5_101 : Cond.methodLink RX5 101 yX10_unfall ∈ TB := tb4 (List.mem_of_getElem? (i := 131) rfl) rfl
theorem wm_X10_unfall : Cond.instanceMethod yX10_unfall ∈ TB := tb4 (List.mem_of_getElem? (i := 132) rfl) rfl
theorem wv_X10_unfall : Cond.selects RX10 yX10_unfall yX10_unfall ∈ TB := tb4 (List.mem_of_getElem? (i := 133) rfl) rfl
theorem wc_X10_unfall : Cond.code yX10_unfall cX10_unfall 4 none ∈ TB := tb4 (List.mem_of_getElem? (i := 134) rfl) rfl
theorem wl_X11_216 : Cond.methodLink RX11 216 yX11_partOf ∈ TB := tb4 (List.mem_of_getElem? (i := 135) rfl) rfl
theorem ws_X11_partOf : Cond.static yX11_partOf ∈ TB := tb4 (List.mem_of_getElem? (i := 136) rfl) rfl
theorem wc_X11_partOf : Cond.code yX11_partOf cX11_partOf 7 (some .long) ∈ TB := tb4 (List.mem_of_getElem? (i := 137) rfl) rfl
theorem wl_X11_360 : Cond.methodLink RX11 360 yX11_commonDivisor ∈ TB := tb4 (List.mem_of_getElem? (i := 138) rfl) rfl
theorem ws_X11_commonDivisor : Cond.static yX11_commonDivisor ∈ TB := tb4 (List.mem_of_getElem? (i := 139) rfl) rfl
theorem wc_X11_commonDivisor : Cond.code yX11_commonDivisor cX11_commonDivisor 11 (some .long) ∈ TB := tb4 (List.mem_of_getElem? (i := 140) rfl) rfl
theorem wl_L_82 : Cond.methodLink RL 82 yX11_mean ∈ TB := tb4 (List.mem_of_getElem? (i := 141) rfl) rfl
theorem wm_X11_mean : Cond.instanceMethod yX11_mean ∈ TB := tb4 (List.mem_of_getElem? (i := 142) rfl) rfl
theorem wv_X11_mean : Cond.selects RX11 yX11_mean yX11_mean ∈ TB := tb4 (List.mem_of_getElem? (i := 143) rfl) rfl
theorem wc_X11_mean : Cond.code yX11_mean cX11_mean 6 (some .long) ∈ TB := tb4 (List.mem_of_getElem? (i := 144) rfl) rfl
theorem wl_L_86 : Cond.methodLink RL 86 yX11_stand ∈ TB := tb4 (List.mem_of_getElem? (i := 145) rfl) rfl
theorem wm_X11_stand : Cond.instanceMethod yX11_stand ∈ TB := tb4 (List.mem_of_getElem? (i := 146) rfl) rfl
theorem wv_X11_stand : Cond.selects RX11 yX11_stand yX11_stand ∈ TB := tb4 (List.mem_of_getElem? (i := 147) rfl) rfl
theorem wc_X11_stand : Cond.code yX11_stand cX11_stand 8 (some .int) ∈ TB := tb4 (List.mem_of_getElem? (i := 148) rfl) rfl
theorem wl_L_90 : Cond.methodLink RL 90 yX11_heavy ∈ TB := tb4 (List.mem_of_getElem? (i := 149) rfl) rfl
theorem wm_X11_heavy : Cond.instanceMethod yX11_heavy ∈ TB := tb4 (List.mem_of_getElem? (i := 150) rfl) rfl
theorem wv_X11_heavy : Cond.selects RX11 yX11_heavy yX11_heavy ∈ TB := tb4 (List.mem_of_getElem? (i := 151) rfl) rfl
theorem wc_X11_heavy : Cond.code yX11_heavy cX11_heavy 4 (some .int) ∈ TB := tb4 (List.mem_of_getElem? (i := 152) rfl) rfl
theorem wl_L_94 : Cond.methodLink RL 94 yX11_ahead ∈ TB := tb4 (List.mem_of_getElem? (i := 153) rfl) rfl
theorem wm_X11_ahead : Cond.instanceMethod yX11_ahead ∈ TB := tb4 (List.mem_of_getElem? (i := 154) rfl) rfl
theorem wv_X11_ahead : Cond.selects RX11 yX11_ahead yX11_ahead ∈ TB := tb4 (List.mem_of_getElem? (i := 155) rfl) rfl
theorem wc_X11_ahead : Cond.code yX11_ahead cX11_ahead 7 (some .int) ∈ TB := tb4 (List.mem_of_getElem? (i := 156) rfl) rfl
theorem wl_X11_233 : Cond.methodLink RX11 233 yX10_think ∈ TB := tb4 (List.mem_of_getElem? (i := 157) rfl) rfl
theorem wm_X10_think : Cond.instanceMethod yX10_think ∈ TB := tb4 (List.mem_of_getElem? (i := 158) rfl) rfl
theorem wv_X10_think : Cond.selects RX10 yX10_think yX10_think ∈ TB := tb4 (List.mem_of_getElem? (i := 159) rfl) rfl
theorem wc_X10_think : Cond.code yX10_think cX10_think 4 (some (.object "HatRank$Day")) ∈ TB := tb4 (List.mem_of_getElem? (i := 160) rfl) rfl
theorem wl_X10_30 : Cond.methodLink RX10 30 yX2_become ∈ TB := tb4 (List.mem_of_getElem? (i := 161) rfl) rfl
theorem wl_X10_34 : Cond.methodLink RX10 34 yX10_begin ∈ TB := tb4 (List.mem_of_getElem? (i := 162) rfl) rfl
theorem wl_X10_38 : Cond.methodLink RX10 38 yX10_blowHours ∈ TB := tb4 (List.mem_of_getElem? (i := 163) rfl) rfl
theorem wl_X11_239 : Cond.methodLink RX11 239 yX2_allLying ∈ TB := tb4 (List.mem_of_getElem? (i := 164) rfl) rfl
theorem wm_X2_allLying : Cond.instanceMethod yX2_allLying ∈ TB := tb4 (List.mem_of_getElem? (i := 165) rfl) rfl
theorem wv_X2_allLying : Cond.selects RX2 yX2_allLying yX2_allLying ∈ TB := tb4 (List.mem_of_getElem? (i := 166) rfl) rfl
theorem wc_X2_allLying : Cond.code yX2_allLying cX2_allLying 3 (some .int) ∈ TB := tb4 (List.mem_of_getElem? (i := 167) rfl) rfl
theorem wl_L_99 : Cond.methodLink RL 99 yX11_storm ∈ TB := tb4 (List.mem_of_getElem? (i := 168) rfl) rfl
theorem wm_X11_storm : Cond.instanceMethod yX11_storm ∈ TB := tb4 (List.mem_of_getElem? (i := 169) rfl) rfl
theorem wv_X11_storm : Cond.selects RX11 yX11_storm yX11_storm ∈ TB := tb4 (List.mem_of_getElem? (i := 170) rfl) rfl
theorem wc_X11_storm : Cond.code yX11_storm cX11_storm 5 (some .int) ∈ TB := tb4 (List.mem_of_getElem? (i := 171) rfl) rfl
theorem wl_L_103 : Cond.methodLink RL 103 yX11_seeded ∈ TB := tb4 (List.mem_of_getElem? (i := 172) rfl) rfl
theorem wm_X11_seeded : Cond.instanceMethod yX11_seeded ∈ TB := tb4 (List.mem_of_getElem? (i := 173) rfl) rfl
theorem wv_X11_seeded : Cond.selects RX11 yX11_seeded yX11_seeded ∈ TB := tb4 (List.mem_of_getElem? (i := 174) rfl) rfl
theorem wc_X11_seeded : Cond.code yX11_seeded cX11_seeded 4 (some .int) ∈ TB := tb4 (List.mem_of_getElem? (i := 175) rfl) rfl
theorem wl_X11_242 : Cond.methodLink RX11 242 yX11_hatsAreAsTold ∈ TB := tb4 (List.mem_of_getElem? (i := 176) rfl) rfl
theorem wm_X11_hatsAreAsTold : Cond.instanceMethod yX11_hatsAreAsTold ∈ TB := tb4 (List.mem_of_getElem? (i := 178) rfl) rfl
theorem wc_X11_hatsAreAsTold : Cond.code yX11_hatsAreAsTold cX11_hatsAreAsTold 5 (some .boolean) ∈ TB := tb4 (List.mem_of_getElem? (i := 179) rfl) rfl
theorem wl_X11_352 : Cond.methodLink RX11 352 yX7_lengthOf ∈ TB := tb4 (List.mem_of_getElem? (i := 180) rfl) rfl
theorem wl_X11_355 : Cond.methodLink RX11 355 yJ9_min_7cf53 ∈ TB := tb4 (List.mem_of_getElem? (i := 181) rfl) rfl
theorem wl_L_107 : Cond.methodLink RL 107 yX11_image ∈ TB := tb4 (List.mem_of_getElem? (i := 182) rfl) rfl
theorem wm_X11_image : Cond.instanceMethod yX11_image ∈ TB := tb4 (List.mem_of_getElem? (i := 183) rfl) rfl
theorem wv_X11_image : Cond.selects RX11 yX11_image yX11_image ∈ TB := tb4 (List.mem_of_getElem? (i := 184) rfl) rfl
theorem wc_X11_image : Cond.code yX11_image cX11_image 1 (some .int) ∈ TB := tb4 (List.mem_of_getElem? (i := 185) rfl) rfl
theorem wl_X11_246 : Cond.methodLink RX11 246 yX2_become ∈ TB := tb4 (List.mem_of_getElem? (i := 186) rfl) rfl
theorem wl_L_111 : Cond.methodLink RL 111 yX11_back ∈ TB := tb4 (List.mem_of_getElem? (i := 187) rfl) rfl
theorem wm_X11_back : Cond.instanceMethod yX11_back ∈ TB := tb4 (List.mem_of_getElem? (i := 188) rfl) rfl
theorem wv_X11_back : Cond.selects RX11 yX11_back yX11_back ∈ TB := tb4 (List.mem_of_getElem? (i := 189) rfl) rfl
theorem wc_X11_back : Cond.code yX11_back cX11_back 2 (some .int) ∈ TB := tb4 (List.mem_of_getElem? (i := 190) rfl) rfl
theorem wl_L_115 : Cond.methodLink RL 115 yX11_undo ∈ TB := tb4 (List.mem_of_getElem? (i := 191) rfl) rfl
theorem wm_X11_undo : Cond.instanceMethod yX11_undo ∈ TB := tb4 (List.mem_of_getElem? (i := 192) rfl) rfl
theorem wv_X11_undo : Cond.selects RX11 yX11_undo yX11_undo ∈ TB := tb4 (List.mem_of_getElem? (i := 193) rfl) rfl
theorem wc_X11_undo : Cond.code yX11_undo cX11_undo 1 (some .int) ∈ TB := tb4 (List.mem_of_getElem? (i := 194) rfl) rfl
theorem wl_X11_260 : Cond.methodLink RX11 260 yX1_takeBack ∈ TB := tb4 (List.mem_of_getElem? (i := 195) rfl) rfl
theorem wm_X1_takeBack : Cond.instanceMethod yX1_takeBack ∈ TB := tb4 (List.mem_of_getElem? (i := 196) rfl) rfl
theorem wv_X1_takeBack : Cond.selects RX1 yX1_takeBack yX1_takeBack ∈ TB := tb4 (List.mem_of_getElem? (i := 197) rfl) rfl
theorem wc_X1_takeBack : Cond.code yX1_takeBack cX1_takeBack 2 (some .int) ∈ TB := tb4 (List.mem_of_getElem? (i := 198) rfl) rfl
theorem wl_X1_34 : Cond.methodLink RX1 34 yX9_exchange ∈ TB := tb4 (List.mem_of_getElem? (i := 199) rfl) rfl
theorem wl_L_119 : Cond.methodLink RL 119 yX11_redo ∈ TB := tb4 (List.mem_of_getElem? (i := 200) rfl) rfl
theorem wm_X11_redo : Cond.instanceMethod yX11_redo ∈ TB := tb4 (List.mem_of_getElem? (i := 201) rfl) rfl
theorem wv_X11_redo : Cond.selects RX11 yX11_redo yX11_redo ∈ TB := tb4 (List.mem_of_getElem? (i := 202) rfl) rfl
theorem wc_X11_redo : Cond.code yX11_redo cX11_redo 1 (some .int) ∈ TB := tb4 (List.mem_of_getElem? (i := 203) rfl) rfl
theorem wl_X11_264 : Cond.methodLink RX11 264 yX1_makeAgain ∈ TB := tb4 (List.mem_of_getElem? (i := 204) rfl) rfl
theorem wm_X1_makeAgain : Cond.instanceMethod yX1_makeAgain ∈ TB := tb4 (List.mem_of_getElem? (i := 205) rfl) rfl
theorem wv_X1_makeAgain : Cond.selects RX1 yX1_makeAgain yX1_makeAgain ∈ TB := tb4 (List.mem_of_getElem? (i := 206) rfl) rfl
theorem wc_X1_makeAgain : Cond.code yX1_makeAgain cX1_makeAgain 2 (some .int) ∈ TB := tb4 (List.mem_of_getElem? (i := 207) rfl) rfl
theorem wl_L_123 : Cond.methodLink RL 123 yX11_body ∈ TB := tb4 (List.mem_of_getElem? (i := 208) rfl) rfl
theorem wm_X11_body : Cond.instanceMethod yX11_body ∈ TB := tb4 (List.mem_of_getElem? (i := 209) rfl) rfl
theorem wv_X11_body : Cond.selects RX11 yX11_body yX11_body ∈ TB := tb4 (List.mem_of_getElem? (i := 210) rfl) rfl
theorem wc_X11_body : Cond.code yX11_body cX11_body 2 (some .int) ∈ TB := tb4 (List.mem_of_getElem? (i := 211) rfl) rfl
theorem wl_X11_267 : Cond.methodLink RX11 267 yX0_add ∈ TB := tb4 (List.mem_of_getElem? (i := 212) rfl) rfl
theorem wm_X0_add : Cond.instanceMethod yX0_add ∈ TB := tb4 (List.mem_of_getElem? (i := 213) rfl) rfl
theorem wv_X0_add : Cond.selects RX0 yX0_add yX0_add ∈ TB := tb4 (List.mem_of_getElem? (i := 214) rfl) rfl
theorem wc_X0_add : Cond.code yX0_add cX0_add 2 (some .int) ∈ TB := tb4 (List.mem_of_getElem? (i := 215) rfl) rfl
theorem wl_L_127 : Cond.methodLink RL 127 yX11_act ∈ TB := tb4 (List.mem_of_getElem? (i := 216) rfl) rfl
theorem wm_X11_act : Cond.instanceMethod yX11_act ∈ TB := tb4 (List.mem_of_getElem? (i := 217) rfl) rfl
theorem wv_X11_act : Cond.selects RX11 yX11_act yX11_act ∈ TB := tb4 (List.mem_of_getElem? (i := 218) rfl) rfl
theorem wc_X11_act : Cond.code yX11_act cX11_act 4 (some .int) ∈ TB := tb4 (List.mem_of_getElem? (i := 219) rfl) rfl
theorem wl_X11_270 : Cond.methodLink RX11 270 yX0_begin ∈ TB := tb4 (List.mem_of_getElem? (i := 220) rfl) rfl
theorem wm_X0_begin : Cond.instanceMethod yX0_begin ∈ TB := tb4 (List.mem_of_getElem? (i := 221) rfl) rfl
theorem wv_X0_begin : Cond.selects RX0 yX0_begin yX0_begin ∈ TB := tb4 (List.mem_of_getElem? (i := 222) rfl) rfl
theorem wc_X0_begin : Cond.code yX0_begin cX0_begin 4 (some .int) ∈ TB := tb4 (List.mem_of_getElem? (i := 223) rfl) rfl
theorem wl_X0_22 : Cond.methodLink RX0 22 yX0_has ∈ TB := tb4 (List.mem_of_getElem? (i := 224) rfl) rfl
theorem wm_X0_has : Cond.instanceMethod yX0_has ∈ TB := tb4 (List.mem_of_getElem? (i := 225) rfl) rfl
theorem wv_X0_has : Cond.selects RX0 yX0_has yX0_has ∈ TB := tb4 (List.mem_of_getElem? (i := 226) rfl) rfl
theorem wc_X0_has : Cond.code yX0_has cX0_has 2 (some .boolean) ∈ TB := tb4 (List.mem_of_getElem? (i := 227) rfl) rfl
theorem wl_X0_36 : Cond.methodLink RX0 36 yX0_perform ∈ TB := tb4 (List.mem_of_getElem? (i := 228) rfl) rfl
theorem wm_X0_perform : Cond.instanceMethod yX0_perform ∈ TB := tb4 (List.mem_of_getElem? (i := 230) rfl) rfl
theorem wc_X0_perform : Cond.code yX0_perform cX0_perform 7 (some .int) ∈ TB := tb4 (List.mem_of_getElem? (i := 231) rfl) rfl
theorem wl_X0_46 : Cond.methodLink RX0 46 yX0_ownBody ∈ TB := tb4 (List.mem_of_getElem? (i := 232) rfl) rfl
theorem ws_X0_ownBody : Cond.static yX0_ownBody ∈ TB := tb4 (List.mem_of_getElem? (i := 233) rfl) rfl
theorem wc_X0_ownBody : Cond.code yX0_ownBody cX0_ownBody 2 (some .int) ∈ TB := tb4 (List.mem_of_getElem? (i := 234) rfl) rfl
theorem wf_X0_43 : Cond.fieldLink RX0 43 "HatRank$Bodies" "OWN" "[I" ∈ TB := tb4 (List.mem_of_getElem? (i := 235) rfl) rfl
theorem wl_X0_26 : Cond.methodLink RX0 26 yX0_above ∈ TB := tb4 (List.mem_of_getElem? (i := 237) rfl) rfl
theorem ws_X0_above : Cond.static yX0_above ∈ TB := tb4 (List.mem_of_getElem? (i := 238) rfl) rfl
theorem wc_X0_above : Cond.code yX0_above cX0_above 1 (some .int) ∈ TB := tb4 (List.mem_of_getElem? (i := 239) rfl) rfl
theorem wf_X0_40 : Cond.fieldLink RX0 40 "HatRank$Bodies" "ABOVE" "[I" ∈ TB := tb5 (List.mem_of_getElem? (i := 0) rfl) rfl
theorem wl_X0_50 : Cond.methodLink RX0 50 yX0_run ∈ TB := tb5 (List.mem_of_getElem? (i := 2) rfl) rfl
theorem wm_X0_run : Cond.instanceMethod yX0_run ∈ TB := tb5 (List.mem_of_getElem? (i := 4) rfl) rfl
theorem wc_X0_run : Cond.code yX0_run cX0_run 5 (some .int) ∈ TB := tb5 (List.mem_of_getElem? (i := 5) rfl) rfl
theorem wl_X0_56 : Cond.methodLink RX0 56 yX0_performOwn ∈ TB := tb5 (List.mem_of_getElem? (i := 6) rfl) rfl
theorem wm_X0_performOwn : Cond.instanceMethod yX0_performOwn ∈ TB := tb5 (List.mem_of_getElem? (i := 8) rfl) rfl
theorem wc_X0_performOwn : Cond.code yX0_performOwn cX0_performOwn 4 (some .int) ∈ TB := tb5 (List.mem_of_getElem? (i := 9) rfl) rfl
theorem wl_X0_53 : Cond.methodLink RX0 53 yX0_kindOf ∈ TB := tb5 (List.mem_of_getElem? (i := 10) rfl) rfl
theorem wm_X0_kindOf : Cond.instanceMethod yX0_kindOf ∈ TB := tb5 (List.mem_of_getElem? (i := 11) rfl) rfl
theorem wv_X0_kindOf : Cond.selects RX0 yX0_kindOf yX0_kindOf ∈ TB := tb5 (List.mem_of_getElem? (i := 12) rfl) rfl
theorem wc_X0_kindOf : Cond.code yX0_kindOf cX0_kindOf 2 (some .int) ∈ TB := tb5 (List.mem_of_getElem? (i := 13) rfl) rfl
theorem wl_L_131 : Cond.methodLink RL 131 yX11_trace ∈ TB := tb5 (List.mem_of_getElem? (i := 14) rfl) rfl
theorem wm_X11_trace : Cond.instanceMethod yX11_trace ∈ TB := tb5 (List.mem_of_getElem? (i := 15) rfl) rfl
theorem wv_X11_trace : Cond.selects RX11 yX11_trace yX11_trace ∈ TB := tb5 (List.mem_of_getElem? (i := 16) rfl) rfl
theorem wc_X11_trace : Cond.code yX11_trace cX11_trace 2 (some .int) ∈ TB := tb5 (List.mem_of_getElem? (i := 17) rfl) rfl
theorem wl_X11_272 : Cond.methodLink RX11 272 yX0_ran ∈ TB := tb5 (List.mem_of_getElem? (i := 18) rfl) rfl
theorem wm_X0_ran : Cond.instanceMethod yX0_ran ∈ TB := tb5 (List.mem_of_getElem? (i := 19) rfl) rfl
theorem wv_X0_ran : Cond.selects RX0 yX0_ran yX0_ran ∈ TB := tb5 (List.mem_of_getElem? (i := 20) rfl) rfl
theorem wc_X0_ran : Cond.code yX0_ran cX0_ran 2 (some .int) ∈ TB := tb5 (List.mem_of_getElem? (i := 21) rfl) rfl
theorem wl_L_135 : Cond.methodLink RL 135 yX11_keep ∈ TB := tb5 (List.mem_of_getElem? (i := 22) rfl) rfl
theorem wm_X11_keep : Cond.instanceMethod yX11_keep ∈ TB := tb5 (List.mem_of_getElem? (i := 23) rfl) rfl
theorem wv_X11_keep : Cond.selects RX11 yX11_keep yX11_keep ∈ TB := tb5 (List.mem_of_getElem? (i := 24) rfl) rfl
theorem wc_X11_keep : Cond.code yX11_keep cX11_keep 3 (some .int) ∈ TB := tb5 (List.mem_of_getElem? (i := 25) rfl) rfl
theorem wl_X11_275 : Cond.methodLink RX11 275 yX0_has ∈ TB := tb5 (List.mem_of_getElem? (i := 26) rfl) rfl
theorem wl_X11_276 : Cond.methodLink RX11 276 yX7_clear ∈ TB := tb5 (List.mem_of_getElem? (i := 27) rfl) rfl
theorem wm_X7_clear : Cond.instanceMethod yX7_clear ∈ TB := tb5 (List.mem_of_getElem? (i := 28) rfl) rfl
theorem wv_X7_clear : Cond.selects RX7 yX7_clear yX7_clear ∈ TB := tb5 (List.mem_of_getElem? (i := 29) rfl) rfl
theorem wc_X7_clear : Cond.code yX7_clear cX7_clear 2 none ∈ TB := tb5 (List.mem_of_getElem? (i := 30) rfl) rfl
theorem wl_X11_279 : Cond.methodLink RX11 279 yX7_holdBody ∈ TB := tb5 (List.mem_of_getElem? (i := 31) rfl) rfl
theorem wm_X7_holdBody : Cond.instanceMethod yX7_holdBody ∈ TB := tb5 (List.mem_of_getElem? (i := 32) rfl) rfl
theorem wv_X7_holdBody : Cond.selects RX7 yX7_holdBody yX7_holdBody ∈ TB := tb5 (List.mem_of_getElem? (i := 33) rfl) rfl
theorem wc_X7_holdBody : Cond.code yX7_holdBody cX7_holdBody 3 none ∈ TB := tb5 (List.mem_of_getElem? (i := 34) rfl) rfl
theorem wl_L_139 : Cond.methodLink RL 139 yX11_row ∈ TB := tb5 (List.mem_of_getElem? (i := 35) rfl) rfl
theorem wm_X11_row : Cond.instanceMethod yX11_row ∈ TB := tb5 (List.mem_of_getElem? (i := 36) rfl) rfl
theorem wv_X11_row : Cond.selects RX11 yX11_row yX11_row ∈ TB := tb5 (List.mem_of_getElem? (i := 37) rfl) rfl
theorem wc_X11_row : Cond.code yX11_row cX11_row 4 (some .int) ∈ TB := tb5 (List.mem_of_getElem? (i := 38) rfl) rfl
theorem wl_X11_283 : Cond.methodLink RX11 283 yX7_holdRow ∈ TB := tb5 (List.mem_of_getElem? (i := 39) rfl) rfl
theorem wm_X7_holdRow : Cond.instanceMethod yX7_holdRow ∈ TB := tb5 (List.mem_of_getElem? (i := 40) rfl) rfl
theorem wv_X7_holdRow : Cond.selects RX7 yX7_holdRow yX7_holdRow ∈ TB := tb5 (List.mem_of_getElem? (i := 41) rfl) rfl
theorem wc_X7_holdRow : Cond.code yX7_holdRow cX7_holdRow 4 none ∈ TB := tb5 (List.mem_of_getElem? (i := 42) rfl) rfl
theorem wl_X7_39 : Cond.methodLink RX7 39 yJ7_fill_d0a16 ∈ TB := tb5 (List.mem_of_getElem? (i := 43) rfl) rfl
theorem ws_J7_fill_d0a16 : Cond.static yJ7_fill_d0a16 ∈ TB := tb5 (List.mem_of_getElem? (i := 44) rfl) rfl
theorem wc_J7_fill_d0a16 : Cond.code yJ7_fill_d0a16 cJ7_fill_d0a16 5 none ∈ TB := tb5 (List.mem_of_getElem? (i := 45) rfl) rfl
theorem wl_L_145 : Cond.methodLink RL 145 yX11_put ∈ TB := tb5 (List.mem_of_getElem? (i := 46) rfl) rfl
theorem wm_X11_put : Cond.instanceMethod yX11_put ∈ TB := tb5 (List.mem_of_getElem? (i := 47) rfl) rfl
theorem wv_X11_put : Cond.selects RX11 yX11_put yX11_put ∈ TB := tb5 (List.mem_of_getElem? (i := 48) rfl) rfl
theorem wc_X11_put : Cond.code yX11_put cX11_put 6 (some .int) ∈ TB := tb5 (List.mem_of_getElem? (i := 49) rfl) rfl
theorem wl_X11_287 : Cond.methodLink RX11 287 yX7_refusal ∈ TB := tb5 (List.mem_of_getElem? (i := 50) rfl) rfl
theorem wl_X11_290 : Cond.methodLink RX11 290 yX7_set ∈ TB := tb5 (List.mem_of_getElem? (i := 51) rfl) rfl
theorem wm_X7_set : Cond.instanceMethod yX7_set ∈ TB := tb5 (List.mem_of_getElem? (i := 52) rfl) rfl
theorem wv_X7_set : Cond.selects RX7 yX7_set yX7_set ∈ TB := tb5 (List.mem_of_getElem? (i := 53) rfl) rfl
theorem wc_X7_set : Cond.code yX7_set cX7_set 5 none ∈ TB := tb5 (List.mem_of_getElem? (i := 54) rfl) rfl
theorem wl_X7_49 : Cond.methodLink RX7 49 yX7_cut ∈ TB := tb5 (List.mem_of_getElem? (i := 55) rfl) rfl
theorem ws_X7_cut : Cond.static yX7_cut ∈ TB := tb5 (List.mem_of_getElem? (i := 56) rfl) rfl
theorem wc_X7_cut : Cond.code yX7_cut cX7_cut 3 (some .long) ∈ TB := tb5 (List.mem_of_getElem? (i := 57) rfl) rfl
theorem wl_L_150 : Cond.methodLink RL 150 yX11_element ∈ TB := tb5 (List.mem_of_getElem? (i := 58) rfl) rfl
theorem wm_X11_element : Cond.instanceMethod yX11_element ∈ TB := tb5 (List.mem_of_getElem? (i := 59) rfl) rfl
theorem wv_X11_element : Cond.selects RX11 yX11_element yX11_element ∈ TB := tb5 (List.mem_of_getElem? (i := 60) rfl) rfl
theorem wc_X11_element : Cond.code yX11_element cX11_element 3 (some .long) ∈ TB := tb5 (List.mem_of_getElem? (i := 61) rfl) rfl
theorem wl_L_155 : Cond.methodLink RL 155 yX11_shift ∈ TB := tb5 (List.mem_of_getElem? (i := 62) rfl) rfl
theorem wm_X11_shift : Cond.instanceMethod yX11_shift ∈ TB := tb5 (List.mem_of_getElem? (i := 63) rfl) rfl
theorem wv_X11_shift : Cond.selects RX11 yX11_shift yX11_shift ∈ TB := tb5 (List.mem_of_getElem? (i := 64) rfl) rfl
theorem wc_X11_shift : Cond.code yX11_shift cX11_shift 6 (some .int) ∈ TB := tb5 (List.mem_of_getElem? (i := 65) rfl) rfl
theorem wl_X11_300 : Cond.methodLink RX11 300 yX7_holdAlike ∈ TB := tb5 (List.mem_of_getElem? (i := 66) rfl) rfl
theorem wm_X7_holdAlike : Cond.instanceMethod yX7_holdAlike ∈ TB := tb5 (List.mem_of_getElem? (i := 67) rfl) rfl
theorem wv_X7_holdAlike : Cond.selects RX7 yX7_holdAlike yX7_holdAlike ∈ TB := tb5 (List.mem_of_getElem? (i := 68) rfl) rfl
theorem wc_X7_holdAlike : Cond.code yX7_holdAlike cX7_holdAlike 3 (some .boolean) ∈ TB := tb5 (List.mem_of_getElem? (i := 69) rfl) rfl
theorem wl_X11_303 : Cond.methodLink RX11 303 yX7_carry ∈ TB := tb5 (List.mem_of_getElem? (i := 70) rfl) rfl
theorem wm_X7_carry : Cond.instanceMethod yX7_carry ∈ TB := tb5 (List.mem_of_getElem? (i := 71) rfl) rfl
theorem wv_X7_carry : Cond.selects RX7 yX7_carry yX7_carry ∈ TB := tb5 (List.mem_of_getElem? (i := 72) rfl) rfl
theorem wc_X7_carry : Cond.code yX7_carry cX7_carry 6 none ∈ TB := tb5 (List.mem_of_getElem? (i := 73) rfl) rfl
theorem wl_X7_57 : Cond.methodLink RX7 57 yX7_holdAlike ∈ TB := tb5 (List.mem_of_getElem? (i := 74) rfl) rfl
theorem wl_X7_61 : Cond.methodLink RX7 61 yX7_hasSpan ∈ TB := tb5 (List.mem_of_getElem? (i := 75) rfl) rfl
theorem wl_X7_65 : Cond.methodLink RX7 65 arraycopyName ∈ TB := tb5 (List.mem_of_getElem? (i := 76) rfl) rfl
theorem wl_L_160 : Cond.methodLink RL 160 yX11_taken ∈ TB := tb5 (List.mem_of_getElem? (i := 77) rfl) rfl
theorem wm_X11_taken : Cond.instanceMethod yX11_taken ∈ TB := tb5 (List.mem_of_getElem? (i := 78) rfl) rfl
theorem wv_X11_taken : Cond.selects RX11 yX11_taken yX11_taken ∈ TB := tb5 (List.mem_of_getElem? (i := 79) rfl) rfl
theorem wc_X11_taken : Cond.code yX11_taken cX11_taken 4 (some .int) ∈ TB := tb5 (List.mem_of_getElem? (i := 80) rfl) rfl
theorem wl_X11_307 : Cond.methodLink RX11 307 yX7_bodyOn ∈ TB := tb5 (List.mem_of_getElem? (i := 81) rfl) rfl
theorem wm_X7_bodyOn : Cond.instanceMethod yX7_bodyOn ∈ TB := tb5 (List.mem_of_getElem? (i := 82) rfl) rfl
theorem wv_X7_bodyOn : Cond.selects RX7 yX7_bodyOn yX7_bodyOn ∈ TB := tb5 (List.mem_of_getElem? (i := 83) rfl) rfl
theorem wc_X7_bodyOn : Cond.code yX7_bodyOn cX7_bodyOn 2 (some .int) ∈ TB := tb5 (List.mem_of_getElem? (i := 84) rfl) rfl
theorem wl_X11_310 : Cond.methodLink RX11 310 yX0_kindOf ∈ TB := tb5 (List.mem_of_getElem? (i := 85) rfl) rfl
theorem wl_X11_313 : Cond.methodLink RX11 313 yX0_isUnder ∈ TB := tb5 (List.mem_of_getElem? (i := 86) rfl) rfl
theorem ws_X0_isUnder : Cond.static yX0_isUnder ∈ TB := tb5 (List.mem_of_getElem? (i := 87) rfl) rfl
theorem wc_X0_isUnder : Cond.code yX0_isUnder cX0_isUnder 4 (some .boolean) ∈ TB := tb5 (List.mem_of_getElem? (i := 88) rfl) rfl
theorem wl_L_164 : Cond.methodLink RL 164 yX11_count ∈ TB := tb5 (List.mem_of_getElem? (i := 89) rfl) rfl
theorem wm_X11_count : Cond.instanceMethod yX11_count ∈ TB := tb5 (List.mem_of_getElem? (i := 90) rfl) rfl
theorem wv_X11_count : Cond.selects RX11 yX11_count yX11_count ∈ TB := tb5 (List.mem_of_getElem? (i := 91) rfl) rfl
theorem wc_X11_count : Cond.code yX11_count cX11_count 2 (some .int) ∈ TB := tb5 (List.mem_of_getElem? (i := 92) rfl) rfl
theorem wq_L_10 : Cond.classLink RL 10 RX12 ∈ TB := tb5 (List.mem_of_getElem? (i := 93) rfl) rfl
theorem wt_X12 : Cond.instantiable RX12 63 ∈ TB := tb5 (List.mem_of_getElem? (i := 94) rfl) rfl
theorem wl_L_12 : Cond.methodLink RL 12 yX12_init ∈ TB := tb5 (List.mem_of_getElem? (i := 95) rfl) rfl
theorem wm_X12_init : Cond.instanceMethod yX12_init ∈ TB := tb5 (List.mem_of_getElem? (i := 96) rfl) rfl
theorem wc_X12_init : Cond.code yX12_init cX12_init 1 none ∈ TB := tb5 (List.mem_of_getElem? (i := 97) rfl) rfl
theorem wl_X12_1 : Cond.methodLink RX12 1 objectInit ∈ TB := tb5 (List.mem_of_getElem? (i := 98) rfl) rfl
theorem wf_X12_272 : Cond.fieldLink RX12 272 "HatRankModel" "now" "I" ∈ TB := tb5 (List.mem_of_getElem? (i := 99) rfl) rfl
theorem wf_X12_7 : Cond.fieldLink RX12 7 "HatRankModel" "blow" "[I" ∈ TB := tb5 (List.mem_of_getElem? (i := 100) rfl) rfl
theorem wf_X12_255 : Cond.fieldLink RX12 255 "HatRankModel" "more" "I" ∈ TB := tb5 (List.mem_of_getElem? (i := 101) rfl) rfl
theorem wf_X12_131 : Cond.fieldLink RX12 131 "HatRankModel" "places" "I" ∈ TB := tb5 (List.mem_of_getElem? (i := 102) rfl) rfl
theorem wf_X12_13 : Cond.fieldLink RX12 13 "HatRankModel" "lee" "[I" ∈ TB := tb5 (List.mem_of_getElem? (i := 103) rfl) rfl
theorem wf_X12_16 : Cond.fieldLink RX12 16 "HatRankModel" "down" "[I" ∈ TB := tb5 (List.mem_of_getElem? (i := 104) rfl) rfl
theorem wf_X12_19 : Cond.fieldLink RX12 19 "HatRankModel" "lying" "[I" ∈ TB := tb5 (List.mem_of_getElem? (i := 105) rfl) rfl
theorem wf_X12_141 : Cond.fieldLink RX12 141 "HatRankModel" "ways" "I" ∈ TB := tb5 (List.mem_of_getElem? (i := 106) rfl) rfl
theorem wf_X12_22 : Cond.fieldLink RX12 22 "HatRankModel" "wayOne" "[I" ∈ TB := tb5 (List.mem_of_getElem? (i := 107) rfl) rfl
theorem wf_X12_25 : Cond.fieldLink RX12 25 "HatRankModel" "wayOther" "[I" ∈ TB := tb5 (List.mem_of_getElem? (i := 108) rfl) rfl
theorem wf_X12_138 : Cond.fieldLink RX12 138 "HatRankModel" "people" "I" ∈ TB := tb5 (List.mem_of_getElem? (i := 109) rfl) rfl
theorem wf_X12_28 : Cond.fieldLink RX12 28 "HatRankModel" "hats" "[I" ∈ TB := tb5 (List.mem_of_getElem? (i := 110) rfl) rfl
theorem wf_X12_31 : Cond.fieldLink RX12 31 "HatRankModel" "brim" "[I" ∈ TB := tb5 (List.mem_of_getElem? (i := 111) rfl) rfl
theorem wf_X12_34 : Cond.fieldLink RX12 34 "HatRankModel" "at" "[I" ∈ TB := tb5 (List.mem_of_getElem? (i := 112) rfl) rfl
theorem wf_X12_37 : Cond.fieldLink RX12 37 "HatRankModel" "landed" "[I" ∈ TB := tb5 (List.mem_of_getElem? (i := 113) rfl) rfl
theorem wf_X12_168 : Cond.fieldLink RX12 168 "HatRankModel" "doneMany" "I" ∈ TB := tb5 (List.mem_of_getElem? (i := 114) rfl) rfl
theorem wf_X12_165 : Cond.fieldLink RX12 165 "HatRankModel" "undoneMany" "I" ∈ TB := tb5 (List.mem_of_getElem? (i := 115) rfl) rfl
theorem wf_X12_40 : Cond.fieldLink RX12 40 "HatRankModel" "changeOf" "[I" ∈ TB := tb5 (List.mem_of_getElem? (i := 116) rfl) rfl
theorem wf_X12_43 : Cond.fieldLink RX12 43 "HatRankModel" "changeAt" "[I" ∈ TB := tb5 (List.mem_of_getElem? (i := 117) rfl) rfl
theorem wf_X12_46 : Cond.fieldLink RX12 46 "HatRankModel" "before" "[I" ∈ TB := tb5 (List.mem_of_getElem? (i := 118) rfl) rfl
theorem wf_X12_49 : Cond.fieldLink RX12 49 "HatRankModel" "behind" "[I" ∈ TB := tb5 (List.mem_of_getElem? (i := 119) rfl) rfl
theorem wf_X12_52 : Cond.fieldLink RX12 52 "HatRankModel" "tape" "[B" ∈ TB := tb5 (List.mem_of_getElem? (i := 120) rfl) rfl
theorem wf_X12_184 : Cond.fieldLink RX12 184 "HatRankModel" "taped" "I" ∈ TB := tb5 (List.mem_of_getElem? (i := 121) rfl) rfl
theorem wf_X12_187 : Cond.fieldLink RX12 187 "HatRankModel" "here" "I" ∈ TB := tb5 (List.mem_of_getElem? (i := 122) rfl) rfl
theorem wf_X12_190 : Cond.fieldLink RX12 190 "HatRankModel" "fault" "I" ∈ TB := tb5 (List.mem_of_getElem? (i := 123) rfl) rfl
theorem wf_X12_196 : Cond.fieldLink RX12 196 "HatRankModel" "open" "I" ∈ TB := tb5 (List.mem_of_getElem? (i := 124) rfl) rfl
theorem wf_X12_193 : Cond.fieldLink RX12 193 "HatRankModel" "laid" "I" ∈ TB := tb5 (List.mem_of_getElem? (i := 125) rfl) rfl
theorem wf_X12_56 : Cond.fieldLink RX12 56 "HatRankModel" "act" "[B" ∈ TB := tb5 (List.mem_of_getElem? (i := 126) rfl) rfl
theorem wf_X12_59 : Cond.fieldLink RX12 59 "HatRankModel" "with" "[I" ∈ TB := tb5 (List.mem_of_getElem? (i := 127) rfl) rfl
theorem wf_X12_62 : Cond.fieldLink RX12 62 "HatRankModel" "lineMany" "[I" ∈ TB := tb5 (List.mem_of_getElem? (i := 128) rfl) rfl
theorem wf_X12_65 : Cond.fieldLink RX12 65 "HatRankModel" "testEnd" "[S" ∈ TB := tb5 (List.mem_of_getElem? (i := 129) rfl) rfl
theorem wf_X12_69 : Cond.fieldLink RX12 69 "HatRankModel" "lineEnd" "[S" ∈ TB := tb5 (List.mem_of_getElem? (i := 130) rfl) rfl
theorem wf_X12_72 : Cond.fieldLink RX12 72 "HatRankModel" "facts" "[I" ∈ TB := tb5 (List.mem_of_getElem? (i := 131) rfl) rfl
theorem wf_X12_75 : Cond.fieldLink RX12 75 "HatRankModel" "pile" "[I" ∈ TB := tb5 (List.mem_of_getElem? (i := 132) rfl) rfl
theorem wf_X12_251 : Cond.fieldLink RX12 251 "HatRankModel" "hasLaw" "Z" ∈ TB := tb5 (List.mem_of_getElem? (i := 133) rfl) rfl
theorem wf_X12_78 : Cond.fieldLink RX12 78 "HatRankModel" "hatsThen" "[I" ∈ TB := tb5 (List.mem_of_getElem? (i := 134) rfl) rfl
theorem wf_X12_81 : Cond.fieldLink RX12 81 "HatRankModel" "atThen" "[I" ∈ TB := tb5 (List.mem_of_getElem? (i := 135) rfl) rfl
theorem wf_X12_84 : Cond.fieldLink RX12 84 "HatRankModel" "lyingThen" "[I" ∈ TB := tb5 (List.mem_of_getElem? (i := 136) rfl) rfl
theorem wf_X12_87 : Cond.fieldLink RX12 87 "HatRankModel" "landedThen" "[I" ∈ TB := tb5 (List.mem_of_getElem? (i := 137) rfl) rfl
theorem wf_X12_287 : Cond.fieldLink RX12 287 "HatRankModel" "drawn" "I" ∈ TB := tb5 (List.mem_of_getElem? (i := 138) rfl) rfl
theorem wf_X12_90 : Cond.fieldLink RX12 90 "HatRankModel" "least" "[I" ∈ TB := tb5 (List.mem_of_getElem? (i := 139) rfl) rfl
theorem wf_X12_93 : Cond.fieldLink RX12 93 "HatRankModel" "keptHats" "[I" ∈ TB := tb5 (List.mem_of_getElem? (i := 140) rfl) rfl
theorem wf_X12_96 : Cond.fieldLink RX12 96 "HatRankModel" "keptLying" "[I" ∈ TB := tb5 (List.mem_of_getElem? (i := 141) rfl) rfl
theorem wf_X12_312 : Cond.fieldLink RX12 312 "HatRankModel" "untilHour" "I" ∈ TB := tb5 (List.mem_of_getElem? (i := 142) rfl) rfl
theorem wf_X12_315 : Cond.fieldLink RX12 315 "HatRankModel" "asked" "I" ∈ TB := tb5 (List.mem_of_getElem? (i := 143) rfl) rfl
theorem wf_X12_318 : Cond.fieldLink RX12 318 "HatRankModel" "commandsThen" "J" ∈ TB := tb5 (List.mem_of_getElem? (i := 144) rfl) rfl
theorem wf_X12_322 : Cond.fieldLink RX12 322 "HatRankModel" "hatsSum" "J" ∈ TB := tb5 (List.mem_of_getElem? (i := 145) rfl) rfl
theorem wf_X12_361 : Cond.fieldLink RX12 361 "HatRankModel" "hasImage" "Z" ∈ TB := tb5 (List.mem_of_getElem? (i := 146) rfl) rfl
theorem wf_X12_364 : Cond.fieldLink RX12 364 "HatRankModel" "imageNow" "I" ∈ TB := tb5 (List.mem_of_getElem? (i := 147) rfl) rfl
theorem wf_X12_367 : Cond.fieldLink RX12 367 "HatRankModel" "imagePeople" "I" ∈ TB := tb5 (List.mem_of_getElem? (i := 148) rfl) rfl
theorem wf_X12_370 : Cond.fieldLink RX12 370 "HatRankModel" "imagePlaces" "I" ∈ TB := tb5 (List.mem_of_getElem? (i := 149) rfl) rfl
theorem wf_X12_99 : Cond.fieldLink RX12 99 "HatRankModel" "imageHats" "[I" ∈ TB := tb5 (List.mem_of_getElem? (i := 150) rfl) rfl
theorem wf_X12_102 : Cond.fieldLink RX12 102 "HatRankModel" "imageAt" "[I" ∈ TB := tb5 (List.mem_of_getElem? (i := 151) rfl) rfl
theorem wf_X12_105 : Cond.fieldLink RX12 105 "HatRankModel" "imageLying" "[I" ∈ TB := tb5 (List.mem_of_getElem? (i := 152) rfl) rfl
theorem wf_X12_373 : Cond.fieldLink RX12 373 "HatRankModel" "bodies" "I" ∈ TB := tb5 (List.mem_of_getElem? (i := 153) rfl) rfl
theorem wf_X12_108 : Cond.fieldLink RX12 108 "HatRankModel" "kind" "[I" ∈ TB := tb5 (List.mem_of_getElem? (i := 154) rfl) rfl
theorem wf_X12_376 : Cond.fieldLink RX12 376 "HatRankModel" "traces" "I" ∈ TB := tb5 (List.mem_of_getElem? (i := 155) rfl) rfl
theorem wf_X12_111 : Cond.fieldLink RX12 111 "HatRankModel" "traced" "[I" ∈ TB := tb5 (List.mem_of_getElem? (i := 156) rfl) rfl
theorem wf_X12_114 : Cond.fieldLink RX12 114 "HatRankModel" "holds" "[I" ∈ TB := tb5 (List.mem_of_getElem? (i := 157) rfl) rfl
theorem wf_X12_117 : Cond.fieldLink RX12 117 "HatRankModel" "size" "[I" ∈ TB := tb5 (List.mem_of_getElem? (i := 158) rfl) rfl
theorem wf_X12_120 : Cond.fieldLink RX12 120 "HatRankModel" "elements" "[J" ∈ TB := tb5 (List.mem_of_getElem? (i := 159) rfl) rfl
theorem wf_X12_124 : Cond.fieldLink RX12 124 "HatRankModel" "shifted" "[J" ∈ TB := tb5 (List.mem_of_getElem? (i := 160) rfl) rfl
theorem wa_short : Cond.arrayClass .short ∈ TB := tb6 (List.mem_of_getElem? (i := 48) rfl) rfl
theorem wl_L_17 : Cond.methodLink RL 17 yX12_place ∈ TB := tb6 (List.mem_of_getElem? (i := 49) rfl) rfl
theorem wm_X12_place : Cond.instanceMethod yX12_place ∈ TB := tb6 (List.mem_of_getElem? (i := 50) rfl) rfl
theorem wv_X12_place : Cond.selects RX12 yX12_place yX12_place ∈ TB := tb6 (List.mem_of_getElem? (i := 51) rfl) rfl
theorem wc_X12_place : Cond.code yX12_place cX12_place 2 (some .int) ∈ TB := tb6 (List.mem_of_getElem? (i := 52) rfl) rfl
theorem wl_X12_134 : Cond.methodLink RX12 134 yX12_in ∈ TB := tb6 (List.mem_of_getElem? (i := 53) rfl) rfl
theorem ws_X12_in : Cond.static yX12_in ∈ TB := tb6 (List.mem_of_getElem? (i := 54) rfl) rfl
theorem wc_X12_in : Cond.code yX12_in cX12_in 3 (some .boolean) ∈ TB := tb6 (List.mem_of_getElem? (i := 55) rfl) rfl
theorem wl_L_21 : Cond.methodLink RL 21 yX12_way ∈ TB := tb6 (List.mem_of_getElem? (i := 56) rfl) rfl
theorem wm_X12_way : Cond.instanceMethod yX12_way ∈ TB := tb6 (List.mem_of_getElem? (i := 57) rfl) rfl
theorem wv_X12_way : Cond.selects RX12 yX12_way yX12_way ∈ TB := tb6 (List.mem_of_getElem? (i := 58) rfl) rfl
theorem wc_X12_way : Cond.code yX12_way cX12_way 2 (some .int) ∈ TB := tb6 (List.mem_of_getElem? (i := 59) rfl) rfl
theorem wl_X12_144 : Cond.methodLink RX12 144 yX12_isPlace ∈ TB := tb6 (List.mem_of_getElem? (i := 60) rfl) rfl
theorem wm_X12_isPlace : Cond.instanceMethod yX12_isPlace ∈ TB := tb6 (List.mem_of_getElem? (i := 62) rfl) rfl
theorem wc_X12_isPlace : Cond.code yX12_isPlace cX12_isPlace 2 (some .boolean) ∈ TB := tb6 (List.mem_of_getElem? (i := 63) rfl) rfl
theorem wl_X12_148 : Cond.methodLink RX12 148 yX12_isWay ∈ TB := tb6 (List.mem_of_getElem? (i := 64) rfl) rfl
theorem wm_X12_isWay : Cond.instanceMethod yX12_isWay ∈ TB := tb6 (List.mem_of_getElem? (i := 66) rfl) rfl
theorem wc_X12_isWay : Cond.code yX12_isWay cX12_isWay 4 (some .boolean) ∈ TB := tb6 (List.mem_of_getElem? (i := 67) rfl) rfl
theorem wl_L_26 : Cond.methodLink RL 26 yX12_person ∈ TB := tb6 (List.mem_of_getElem? (i := 68) rfl) rfl
theorem wm_X12_person : Cond.instanceMethod yX12_person ∈ TB := tb6 (List.mem_of_getElem? (i := 69) rfl) rfl
theorem wv_X12_person : Cond.selects RX12 yX12_person yX12_person ∈ TB := tb6 (List.mem_of_getElem? (i := 70) rfl) rfl
theorem wc_X12_person : Cond.code yX12_person cX12_person 3 (some .int) ∈ TB := tb6 (List.mem_of_getElem? (i := 71) rfl) rfl
theorem wl_X12_152 : Cond.methodLink RX12 152 yX12_addPerson ∈ TB := tb6 (List.mem_of_getElem? (i := 72) rfl) rfl
theorem wm_X12_addPerson : Cond.instanceMethod yX12_addPerson ∈ TB := tb6 (List.mem_of_getElem? (i := 74) rfl) rfl
theorem wc_X12_addPerson : Cond.code yX12_addPerson cX12_addPerson 4 (some .int) ∈ TB := tb6 (List.mem_of_getElem? (i := 75) rfl) rfl
theorem wl_L_31 : Cond.methodLink RL 31 yX12_people ∈ TB := tb6 (List.mem_of_getElem? (i := 76) rfl) rfl
theorem wm_X12_people : Cond.instanceMethod yX12_people ∈ TB := tb6 (List.mem_of_getElem? (i := 77) rfl) rfl
theorem wv_X12_people : Cond.selects RX12 yX12_people yX12_people ∈ TB := tb6 (List.mem_of_getElem? (i := 78) rfl) rfl
theorem wc_X12_people : Cond.code yX12_people cX12_people 8 (some .int) ∈ TB := tb6 (List.mem_of_getElem? (i := 79) rfl) rfl
theorem wl_X12_156 : Cond.methodLink RX12 156 yX12_isShelf ∈ TB := tb6 (List.mem_of_getElem? (i := 80) rfl) rfl
theorem ws_X12_isShelf : Cond.static yX12_isShelf ∈ TB := tb6 (List.mem_of_getElem? (i := 81) rfl) rfl
theorem wc_X12_isShelf : Cond.code yX12_isShelf cX12_isShelf 1 (some .boolean) ∈ TB := tb6 (List.mem_of_getElem? (i := 82) rfl) rfl
theorem wk_X12_159 : Cond.constantLong RX12 159 (2) ∈ TB := tb6 (List.mem_of_getElem? (i := 83) rfl) rfl
theorem wl_L_118 : Cond.methodLink RL 118 yX12_undo ∈ TB := tb6 (List.mem_of_getElem? (i := 84) rfl) rfl
theorem wm_X12_undo : Cond.instanceMethod yX12_undo ∈ TB := tb6 (List.mem_of_getElem? (i := 85) rfl) rfl
theorem wv_X12_undo : Cond.selects RX12 yX12_undo yX12_undo ∈ TB := tb6 (List.mem_of_getElem? (i := 86) rfl) rfl
theorem wc_X12_undo : Cond.code yX12_undo cX12_undo 1 (some .int) ∈ TB := tb6 (List.mem_of_getElem? (i := 87) rfl) rfl
theorem wl_X12_171 : Cond.methodLink RX12 171 yX12_lays ∈ TB := tb6 (List.mem_of_getElem? (i := 88) rfl) rfl
theorem wm_X12_lays : Cond.instanceMethod yX12_lays ∈ TB := tb6 (List.mem_of_getElem? (i := 90) rfl) rfl
theorem wc_X12_lays : Cond.code yX12_lays cX12_lays 4 none ∈ TB := tb6 (List.mem_of_getElem? (i := 91) rfl) rfl
theorem wl_L_122 : Cond.methodLink RL 122 yX12_redo ∈ TB := tb6 (List.mem_of_getElem? (i := 92) rfl) rfl
theorem wm_X12_redo : Cond.instanceMethod yX12_redo ∈ TB := tb6 (List.mem_of_getElem? (i := 93) rfl) rfl
theorem wv_X12_redo : Cond.selects RX12 yX12_redo yX12_redo ∈ TB := tb6 (List.mem_of_getElem? (i := 94) rfl) rfl
theorem wc_X12_redo : Cond.code yX12_redo cX12_redo 1 (some .int) ∈ TB := tb6 (List.mem_of_getElem? (i := 95) rfl) rfl
theorem wl_L_35 : Cond.methodLink RL 35 yX12_mend ∈ TB := tb6 (List.mem_of_getElem? (i := 96) rfl) rfl
theorem wm_X12_mend : Cond.instanceMethod yX12_mend ∈ TB := tb6 (List.mem_of_getElem? (i := 97) rfl) rfl
theorem wv_X12_mend : Cond.selects RX12 yX12_mend yX12_mend ∈ TB := tb6 (List.mem_of_getElem? (i := 98) rfl) rfl
theorem wc_X12_mend : Cond.code yX12_mend cX12_mend 4 (some .int) ∈ TB := tb6 (List.mem_of_getElem? (i := 99) rfl) rfl
theorem wl_X12_175 : Cond.methodLink RX12 175 yX12_isPerson ∈ TB := tb6 (List.mem_of_getElem? (i := 100) rfl) rfl
theorem wm_X12_isPerson : Cond.instanceMethod yX12_isPerson ∈ TB := tb6 (List.mem_of_getElem? (i := 102) rfl) rfl
theorem wc_X12_isPerson : Cond.code yX12_isPerson cX12_isPerson 2 (some .boolean) ∈ TB := tb6 (List.mem_of_getElem? (i := 103) rfl) rfl
theorem wl_X12_178 : Cond.methodLink RX12 178 yX12_changes ∈ TB := tb6 (List.mem_of_getElem? (i := 104) rfl) rfl
theorem wm_X12_changes : Cond.instanceMethod yX12_changes ∈ TB := tb6 (List.mem_of_getElem? (i := 106) rfl) rfl
theorem wc_X12_changes : Cond.code yX12_changes cX12_changes 6 (some .int) ∈ TB := tb6 (List.mem_of_getElem? (i := 107) rfl) rfl
theorem wl_X12_161 : Cond.methodLink RX12 161 yX12_valueAt ∈ TB := tb6 (List.mem_of_getElem? (i := 108) rfl) rfl
theorem wm_X12_valueAt : Cond.instanceMethod yX12_valueAt ∈ TB := tb6 (List.mem_of_getElem? (i := 110) rfl) rfl
theorem wc_X12_valueAt : Cond.code yX12_valueAt cX12_valueAt 3 (some .int) ∈ TB := tb6 (List.mem_of_getElem? (i := 111) rfl) rfl
theorem wl_X12_181 : Cond.methodLink RX12 181 yX12_isHour ∈ TB := tb6 (List.mem_of_getElem? (i := 112) rfl) rfl
theorem ws_X12_isHour : Cond.static yX12_isHour ∈ TB := tb6 (List.mem_of_getElem? (i := 113) rfl) rfl
theorem wc_X12_isHour : Cond.code yX12_isHour cX12_isHour 1 (some .boolean) ∈ TB := tb6 (List.mem_of_getElem? (i := 114) rfl) rfl
theorem wl_L_43 : Cond.methodLink RL 43 yX12_feed ∈ TB := tb6 (List.mem_of_getElem? (i := 115) rfl) rfl
theorem wm_X12_feed : Cond.instanceMethod yX12_feed ∈ TB := tb6 (List.mem_of_getElem? (i := 116) rfl) rfl
theorem wv_X12_feed : Cond.selects RX12 yX12_feed yX12_feed ∈ TB := tb6 (List.mem_of_getElem? (i := 117) rfl) rfl
theorem wc_X12_feed : Cond.code yX12_feed cX12_feed 2 (some .int) ∈ TB := tb6 (List.mem_of_getElem? (i := 118) rfl) rfl
theorem wl_L_48 : Cond.methodLink RL 48 yX12_law ∈ TB := tb6 (List.mem_of_getElem? (i := 119) rfl) rfl
theorem wm_X12_law : Cond.instanceMethod yX12_law ∈ TB := tb6 (List.mem_of_getElem? (i := 120) rfl) rfl
theorem wv_X12_law : Cond.selects RX12 yX12_law yX12_law ∈ TB := tb6 (List.mem_of_getElem? (i := 121) rfl) rfl
theorem wc_X12_law : Cond.code yX12_law cX12_law 2 (some .int) ∈ TB := tb6 (List.mem_of_getElem? (i := 122) rfl) rfl
theorem wl_X12_248 : Cond.methodLink RX12 248 yX12_readText ∈ TB := tb6 (List.mem_of_getElem? (i := 123) rfl) rfl
theorem wm_X12_readText : Cond.instanceMethod yX12_readText ∈ TB := tb6 (List.mem_of_getElem? (i := 125) rfl) rfl
theorem wc_X12_readText : Cond.code yX12_readText cX12_readText 3 (some .int) ∈ TB := tb6 (List.mem_of_getElem? (i := 126) rfl) rfl
theorem wl_X12_239 : Cond.methodLink RX12 239 yX12_line ∈ TB := tb6 (List.mem_of_getElem? (i := 127) rfl) rfl
theorem wm_X12_line : Cond.instanceMethod yX12_line ∈ TB := tb6 (List.mem_of_getElem? (i := 129) rfl) rfl
theorem wc_X12_line : Cond.code yX12_line cX12_line 2 none ∈ TB := tb6 (List.mem_of_getElem? (i := 130) rfl) rfl
theorem wl_X12_221 : Cond.methodLink RX12 221 yX12_either ∈ TB := tb6 (List.mem_of_getElem? (i := 131) rfl) rfl
theorem wm_X12_either : Cond.instanceMethod yX12_either ∈ TB := tb6 (List.mem_of_getElem? (i := 133) rfl) rfl
theorem wc_X12_either : Cond.code yX12_either cX12_either 1 none ∈ TB := tb6 (List.mem_of_getElem? (i := 134) rfl) rfl
theorem wl_X12_236 : Cond.methodLink RX12 236 yX12_both ∈ TB := tb6 (List.mem_of_getElem? (i := 135) rfl) rfl
theorem wm_X12_both : Cond.instanceMethod yX12_both ∈ TB := tb6 (List.mem_of_getElem? (i := 137) rfl) rfl
theorem wc_X12_both : Cond.code yX12_both cX12_both 1 none ∈ TB := tb6 (List.mem_of_getElem? (i := 138) rfl) rfl
theorem wl_X12_233 : Cond.methodLink RX12 233 yX12_compared ∈ TB := tb6 (List.mem_of_getElem? (i := 139) rfl) rfl
theorem wm_X12_compared : Cond.instanceMethod yX12_compared ∈ TB := tb6 (List.mem_of_getElem? (i := 141) rfl) rfl
theorem wc_X12_compared : Cond.code yX12_compared cX12_compared 2 none ∈ TB := tb6 (List.mem_of_getElem? (i := 142) rfl) rfl
theorem wl_X12_230 : Cond.methodLink RX12 230 yX12_sum ∈ TB := tb6 (List.mem_of_getElem? (i := 143) rfl) rfl
theorem wm_X12_sum : Cond.instanceMethod yX12_sum ∈ TB := tb6 (List.mem_of_getElem? (i := 145) rfl) rfl
theorem wc_X12_sum : Cond.code yX12_sum cX12_sum 2 none ∈ TB := tb6 (List.mem_of_getElem? (i := 146) rfl) rfl
theorem wl_X12_227 : Cond.methodLink RX12 227 yX12_product ∈ TB := tb6 (List.mem_of_getElem? (i := 147) rfl) rfl
theorem wm_X12_product : Cond.instanceMethod yX12_product ∈ TB := tb6 (List.mem_of_getElem? (i := 149) rfl) rfl
theorem wc_X12_product : Cond.code yX12_product cX12_product 2 none ∈ TB := tb6 (List.mem_of_getElem? (i := 150) rfl) rfl
theorem wl_X12_218 : Cond.methodLink RX12 218 yX12_operand ∈ TB := tb6 (List.mem_of_getElem? (i := 151) rfl) rfl
theorem wm_X12_operand : Cond.instanceMethod yX12_operand ∈ TB := tb6 (List.mem_of_getElem? (i := 153) rfl) rfl
theorem wc_X12_operand : Cond.code yX12_operand cX12_operand 2 none ∈ TB := tb6 (List.mem_of_getElem? (i := 154) rfl) rfl
theorem wl_X12_202 : Cond.methodLink RX12 202 yX12_look ∈ TB := tb6 (List.mem_of_getElem? (i := 155) rfl) rfl
theorem wm_X12_look : Cond.instanceMethod yX12_look ∈ TB := tb6 (List.mem_of_getElem? (i := 157) rfl) rfl
theorem wc_X12_look : Cond.code yX12_look cX12_look 1 (some .int) ∈ TB := tb6 (List.mem_of_getElem? (i := 158) rfl) rfl
theorem wl_X12_210 : Cond.methodLink RX12 210 yX12_nameOf ∈ TB := tb6 (List.mem_of_getElem? (i := 159) rfl) rfl
theorem ws_X12_nameOf : Cond.static yX12_nameOf ∈ TB := tb6 (List.mem_of_getElem? (i := 160) rfl) rfl
theorem wc_X12_nameOf : Cond.code yX12_nameOf cX12_nameOf 1 (some .int) ∈ TB := tb6 (List.mem_of_getElem? (i := 161) rfl) rfl
theorem wl_X12_206 : Cond.methodLink RX12 206 yX12_addStep ∈ TB := tb6 (List.mem_of_getElem? (i := 162) rfl) rfl
theorem wm_X12_addStep : Cond.instanceMethod yX12_addStep ∈ TB := tb6 (List.mem_of_getElem? (i := 164) rfl) rfl
theorem wc_X12_addStep : Cond.code yX12_addStep cX12_addStep 3 none ∈ TB := tb6 (List.mem_of_getElem? (i := 165) rfl) rfl
theorem wl_X12_214 : Cond.methodLink RX12 214 yX12_opens ∈ TB := tb6 (List.mem_of_getElem? (i := 166) rfl) rfl
theorem wm_X12_opens : Cond.instanceMethod yX12_opens ∈ TB := tb6 (List.mem_of_getElem? (i := 168) rfl) rfl
theorem wc_X12_opens : Cond.code yX12_opens cX12_opens 1 (some .boolean) ∈ TB := tb6 (List.mem_of_getElem? (i := 169) rfl) rfl
theorem wl_X12_199 : Cond.methodLink RX12 199 yX12_faulty ∈ TB := tb6 (List.mem_of_getElem? (i := 170) rfl) rfl
theorem wm_X12_faulty : Cond.instanceMethod yX12_faulty ∈ TB := tb6 (List.mem_of_getElem? (i := 172) rfl) rfl
theorem wc_X12_faulty : Cond.code yX12_faulty cX12_faulty 1 none ∈ TB := tb6 (List.mem_of_getElem? (i := 173) rfl) rfl
theorem wl_X12_224 : Cond.methodLink RX12 224 yX12_figure ∈ TB := tb6 (List.mem_of_getElem? (i := 174) rfl) rfl
theorem wm_X12_figure : Cond.instanceMethod yX12_figure ∈ TB := tb6 (List.mem_of_getElem? (i := 176) rfl) rfl
theorem wc_X12_figure : Cond.code yX12_figure cX12_figure 3 none ∈ TB := tb6 (List.mem_of_getElem? (i := 177) rfl) rfl
theorem wl_L_39 : Cond.methodLink RL 39 yX12_of ∈ TB := tb6 (List.mem_of_getElem? (i := 178) rfl) rfl
theorem wm_X12_of : Cond.instanceMethod yX12_of ∈ TB := tb6 (List.mem_of_getElem? (i := 179) rfl) rfl
theorem wv_X12_of : Cond.selects RX12 yX12_of yX12_of ∈ TB := tb6 (List.mem_of_getElem? (i := 180) rfl) rfl
theorem wc_X12_of : Cond.code yX12_of cX12_of 3 (some .int) ∈ TB := tb6 (List.mem_of_getElem? (i := 181) rfl) rfl
theorem wl_X12_268 : Cond.methodLink RX12 268 yX12_rankOf ∈ TB := tb6 (List.mem_of_getElem? (i := 182) rfl) rfl
theorem wm_X12_rankOf : Cond.instanceMethod yX12_rankOf ∈ TB := tb6 (List.mem_of_getElem? (i := 184) rfl) rfl
theorem wc_X12_rankOf : Cond.code yX12_rankOf cX12_rankOf 5 (some .int) ∈ TB := tb6 (List.mem_of_getElem? (i := 185) rfl) rfl
theorem wl_X12_275 : Cond.methodLink RX12 275 yX12_think ∈ TB := tb6 (List.mem_of_getElem? (i := 186) rfl) rfl
theorem wm_X12_think : Cond.instanceMethod yX12_think ∈ TB := tb6 (List.mem_of_getElem? (i := 188) rfl) rfl
theorem wc_X12_think : Cond.code yX12_think cX12_think 2 none ∈ TB := tb6 (List.mem_of_getElem? (i := 189) rfl) rfl
theorem wl_X12_278 : Cond.methodLink RX12 278 yX12_falls ∈ TB := tb6 (List.mem_of_getElem? (i := 190) rfl) rfl
theorem wm_X12_falls : Cond.instanceMethod yX12_falls ∈ TB := tb6 (List.mem_of_getElem? (i := 192) rfl) rfl
theorem wc_X12_falls : Cond.code yX12_falls cX12_falls 3 (some .int) ∈ TB := tb6 (List.mem_of_getElem? (i := 193) rfl) rfl
theorem wl_X12_258 : Cond.methodLink RX12 258 yX12_fallsBy ∈ TB := tb6 (List.mem_of_getElem? (i := 194) rfl) rfl
theorem wm_X12_fallsBy : Cond.instanceMethod yX12_fallsBy ∈ TB := tb6 (List.mem_of_getElem? (i := 196) rfl) rfl
theorem wc_X12_fallsBy : Cond.code yX12_fallsBy cX12_fallsBy 9 (some .int) ∈ TB := tb6 (List.mem_of_getElem? (i := 197) rfl) rfl
theorem wl_X12_262 : Cond.methodLink RX12 262 yX12_gustAt ∈ TB := tb6 (List.mem_of_getElem? (i := 198) rfl) rfl
theorem wm_X12_gustAt : Cond.instanceMethod yX12_gustAt ∈ TB := tb6 (List.mem_of_getElem? (i := 200) rfl) rfl
theorem wc_X12_gustAt : Cond.code yX12_gustAt cX12_gustAt 4 (some .int) ∈ TB := tb6 (List.mem_of_getElem? (i := 201) rfl) rfl
theorem wl_X12_265 : Cond.methodLink RX12 265 yX12_gives ∈ TB := tb6 (List.mem_of_getElem? (i := 202) rfl) rfl
theorem wm_X12_gives : Cond.instanceMethod yX12_gives ∈ TB := tb6 (List.mem_of_getElem? (i := 204) rfl) rfl
theorem wc_X12_gives : Cond.code yX12_gives cX12_gives 4 (some .int) ∈ TB := tb6 (List.mem_of_getElem? (i := 205) rfl) rfl
theorem wl_X12_245 : Cond.methodLink RX12 245 yX12_worked ∈ TB := tb6 (List.mem_of_getElem? (i := 206) rfl) rfl
theorem wm_X12_worked : Cond.instanceMethod yX12_worked ∈ TB := tb6 (List.mem_of_getElem? (i := 208) rfl) rfl
theorem wc_X12_worked : Cond.code yX12_worked cX12_worked 7 (some .int) ∈ TB := tb6 (List.mem_of_getElem? (i := 209) rfl) rfl
theorem wl_X12_242 : Cond.methodLink RX12 242 yX12_twoOf ∈ TB := tb6 (List.mem_of_getElem? (i := 210) rfl) rfl
theorem ws_X12_twoOf : Cond.static yX12_twoOf ∈ TB := tb6 (List.mem_of_getElem? (i := 211) rfl) rfl
theorem wc_X12_twoOf : Cond.code yX12_twoOf cX12_twoOf 3 (some .int) ∈ TB := tb6 (List.mem_of_getElem? (i := 212) rfl) rfl
theorem wl_L_52 : Cond.methodLink RL 52 yX12_go ∈ TB := tb6 (List.mem_of_getElem? (i := 213) rfl) rfl
theorem wm_X12_go : Cond.instanceMethod yX12_go ∈ TB := tb6 (List.mem_of_getElem? (i := 214) rfl) rfl
theorem wv_X12_go : Cond.selects RX12 yX12_go yX12_go ∈ TB := tb6 (List.mem_of_getElem? (i := 215) rfl) rfl
theorem wc_X12_go : Cond.code yX12_go cX12_go 5 (some .int) ∈ TB := tb6 (List.mem_of_getElem? (i := 216) rfl) rfl
theorem wl_X12_295 : Cond.methodLink RX12 295 yX12_goHour ∈ TB := tb6 (List.mem_of_getElem? (i := 217) rfl) rfl
theorem wm_X12_goHour : Cond.instanceMethod yX12_goHour ∈ TB := tb6 (List.mem_of_getElem? (i := 219) rfl) rfl
theorem wc_X12_goHour : Cond.code yX12_goHour cX12_goHour 4 (some .int) ∈ TB := tb6 (List.mem_of_getElem? (i := 220) rfl) rfl
theorem wl_X12_284 : Cond.methodLink RX12 284 yX12_takeUp ∈ TB := tb6 (List.mem_of_getElem? (i := 221) rfl) rfl
theorem wm_X12_takeUp : Cond.instanceMethod yX12_takeUp ∈ TB := tb6 (List.mem_of_getElem? (i := 223) rfl) rfl
theorem wc_X12_takeUp : Cond.code yX12_takeUp cX12_takeUp 2 none ∈ TB := tb6 (List.mem_of_getElem? (i := 224) rfl) rfl
theorem wk_X12_290 : Cond.constant RX12 290 (1103515245) ∈ TB := tb6 (List.mem_of_getElem? (i := 225) rfl) rfl
theorem wl_X12_291 : Cond.methodLink RX12 291 yX12_fall ∈ TB := tb6 (List.mem_of_getElem? (i := 226) rfl) rfl
theorem wm_X12_fall : Cond.instanceMethod yX12_fall ∈ TB := tb6 (List.mem_of_getElem? (i := 228) rfl) rfl
theorem wc_X12_fall : Cond.code yX12_fall cX12_fall 4 none ∈ TB := tb6 (List.mem_of_getElem? (i := 229) rfl) rfl
theorem wl_X12_281 : Cond.methodLink RX12 281 yX12_catcher ∈ TB := tb6 (List.mem_of_getElem? (i := 230) rfl) rfl
theorem wm_X12_catcher : Cond.instanceMethod yX12_catcher ∈ TB := tb6 (List.mem_of_getElem? (i := 232) rfl) rfl
theorem wc_X12_catcher : Cond.code yX12_catcher cX12_catcher 4 (some .int) ∈ TB := tb6 (List.mem_of_getElem? (i := 233) rfl) rfl
theorem wl_L_56 : Cond.methodLink RL 56 yX12_move ∈ TB := tb6 (List.mem_of_getElem? (i := 234) rfl) rfl
theorem wm_X12_move : Cond.instanceMethod yX12_move ∈ TB := tb6 (List.mem_of_getElem? (i := 235) rfl) rfl
theorem wv_X12_move : Cond.selects RX12 yX12_move yX12_move ∈ TB := tb6 (List.mem_of_getElem? (i := 236) rfl) rfl
theorem wc_X12_move : Cond.code yX12_move cX12_move 3 (some .int) ∈ TB := tb6 (List.mem_of_getElem? (i := 237) rfl) rfl
theorem wl_L_60 : Cond.methodLink RL 60 yX12_lay ∈ TB := tb6 (List.mem_of_getElem? (i := 238) rfl) rfl
theorem wm_X12_lay : Cond.instanceMethod yX12_lay ∈ TB := tb6 (List.mem_of_getElem? (i := 239) rfl) rfl
theorem wv_X12_lay : Cond.selects RX12 yX12_lay yX12_lay ∈ TB := tb7 (List.mem_of_getElem? (i := 0) rfl) rfl
theorem wc_X12_lay : Cond.code yX12_lay cX12_lay 2 (some .int) ∈ TB := tb7 (List.mem_of_getElem? (i := 1) rfl) rfl
theorem wl_L_64 : Cond.methodLink RL 64 yX12_commands ∈ TB := tb7 (List.mem_of_getElem? (i := 2) rfl) rfl
theorem wm_X12_commands : Cond.instanceMethod yX12_commands ∈ TB := tb7 (List.mem_of_getElem? (i := 3) rfl) rfl
theorem wv_X12_commands : Cond.selects RX12 yX12_commands yX12_commands ∈ TB := tb7 (List.mem_of_getElem? (i := 4) rfl) rfl
theorem wc_X12_commands : Cond.code yX12_commands cX12_commands 1 (some .int) ∈ TB := tb7 (List.mem_of_getElem? (i := 5) rfl) rfl
theorem wl_X12_298 : Cond.methodLink RX12 298 yX12_firstOf ∈ TB := tb7 (List.mem_of_getElem? (i := 6) rfl) rfl
theorem wm_X12_firstOf : Cond.instanceMethod yX12_firstOf ∈ TB := tb7 (List.mem_of_getElem? (i := 8) rfl) rfl
theorem wc_X12_firstOf : Cond.code yX12_firstOf cX12_firstOf 3 (some .int) ∈ TB := tb7 (List.mem_of_getElem? (i := 9) rfl) rfl
theorem wl_L_68 : Cond.methodLink RL 68 yX12_led ∈ TB := tb7 (List.mem_of_getElem? (i := 10) rfl) rfl
theorem wm_X12_led : Cond.instanceMethod yX12_led ∈ TB := tb7 (List.mem_of_getElem? (i := 11) rfl) rfl
theorem wv_X12_led : Cond.selects RX12 yX12_led yX12_led ∈ TB := tb7 (List.mem_of_getElem? (i := 12) rfl) rfl
theorem wc_X12_led : Cond.code yX12_led cX12_led 2 (some .int) ∈ TB := tb7 (List.mem_of_getElem? (i := 13) rfl) rfl
theorem wl_L_72 : Cond.methodLink RL 72 yX12_risk ∈ TB := tb7 (List.mem_of_getElem? (i := 14) rfl) rfl
theorem wm_X12_risk : Cond.instanceMethod yX12_risk ∈ TB := tb7 (List.mem_of_getElem? (i := 15) rfl) rfl
theorem wv_X12_risk : Cond.selects RX12 yX12_risk yX12_risk ∈ TB := tb7 (List.mem_of_getElem? (i := 16) rfl) rfl
theorem wc_X12_risk : Cond.code yX12_risk cX12_risk 4 (some .int) ∈ TB := tb7 (List.mem_of_getElem? (i := 17) rfl) rfl
theorem wl_X12_306 : Cond.methodLink RX12 306 yX12_isWalk ∈ TB := tb7 (List.mem_of_getElem? (i := 18) rfl) rfl
theorem wm_X12_isWalk : Cond.instanceMethod yX12_isWalk ∈ TB := tb7 (List.mem_of_getElem? (i := 20) rfl) rfl
theorem wc_X12_isWalk : Cond.code yX12_isWalk cX12_isWalk 3 (some .boolean) ∈ TB := tb7 (List.mem_of_getElem? (i := 21) rfl) rfl
theorem wl_X12_309 : Cond.methodLink RX12 309 yX12_findRisk ∈ TB := tb7 (List.mem_of_getElem? (i := 22) rfl) rfl
theorem wm_X12_findRisk : Cond.instanceMethod yX12_findRisk ∈ TB := tb7 (List.mem_of_getElem? (i := 24) rfl) rfl
theorem wc_X12_findRisk : Cond.code yX12_findRisk cX12_findRisk 8 none ∈ TB := tb7 (List.mem_of_getElem? (i := 25) rfl) rfl
theorem wk_X12_302 : Cond.constant RX12 302 (1000000) ∈ TB := tb7 (List.mem_of_getElem? (i := 26) rfl) rfl
theorem wl_X12_303 : Cond.methodLink RX12 303 yX12_mayGo ∈ TB := tb7 (List.mem_of_getElem? (i := 27) rfl) rfl
theorem wm_X12_mayGo : Cond.instanceMethod yX12_mayGo ∈ TB := tb7 (List.mem_of_getElem? (i := 29) rfl) rfl
theorem wc_X12_mayGo : Cond.code yX12_mayGo cX12_mayGo 3 (some .boolean) ∈ TB := tb7 (List.mem_of_getElem? (i := 30) rfl) rfl
theorem wl_L_76 : Cond.methodLink RL 76 yX12_walk ∈ TB := tb7 (List.mem_of_getElem? (i := 31) rfl) rfl
theorem wm_X12_walk : Cond.instanceMethod yX12_walk ∈ TB := tb7 (List.mem_of_getElem? (i := 32) rfl) rfl
theorem wv_X12_walk : Cond.selects RX12 yX12_walk yX12_walk ∈ TB := tb7 (List.mem_of_getElem? (i := 33) rfl) rfl
theorem wc_X12_walk : Cond.code yX12_walk cX12_walk 8 (some .int) ∈ TB := tb7 (List.mem_of_getElem? (i := 34) rfl) rfl
theorem wl_L_81 : Cond.methodLink RL 81 yX12_chance ∈ TB := tb7 (List.mem_of_getElem? (i := 35) rfl) rfl
theorem wm_X12_chance : Cond.instanceMethod yX12_chance ∈ TB := tb7 (List.mem_of_getElem? (i := 36) rfl) rfl
theorem wv_X12_chance : Cond.selects RX12 yX12_chance yX12_chance ∈ TB := tb7 (List.mem_of_getElem? (i := 37) rfl) rfl
theorem wc_X12_chance : Cond.code yX12_chance cX12_chance 4 (some .long) ∈ TB := tb7 (List.mem_of_getElem? (i := 38) rfl) rfl
theorem wk_X12_347 : Cond.constantLong RX12 347 (-9223372036854775808) ∈ TB := tb7 (List.mem_of_getElem? (i := 39) rfl) rfl
theorem wk_X12_349 : Cond.constantLong RX12 349 (-5) ∈ TB := tb7 (List.mem_of_getElem? (i := 40) rfl) rfl
theorem wl_X12_351 : Cond.methodLink RX12 351 yX12_findChance ∈ TB := tb7 (List.mem_of_getElem? (i := 41) rfl) rfl
theorem wm_X12_findChance : Cond.instanceMethod yX12_findChance ∈ TB := tb7 (List.mem_of_getElem? (i := 43) rfl) rfl
theorem wc_X12_findChance : Cond.code yX12_findChance cX12_findChance 4 none ∈ TB := tb7 (List.mem_of_getElem? (i := 44) rfl) rfl
theorem wl_X12_325 : Cond.methodLink RX12 325 yX12_goThrough ∈ TB := tb7 (List.mem_of_getElem? (i := 45) rfl) rfl
theorem wm_X12_goThrough : Cond.instanceMethod yX12_goThrough ∈ TB := tb7 (List.mem_of_getElem? (i := 47) rfl) rfl
theorem wc_X12_goThrough : Cond.code yX12_goThrough cX12_goThrough 7 none ∈ TB := tb7 (List.mem_of_getElem? (i := 48) rfl) rfl
theorem wk_X12_329 : Cond.constantLong RX12 329 (12) ∈ TB := tb7 (List.mem_of_getElem? (i := 49) rfl) rfl
theorem wl_X12_331 : Cond.methodLink RX12 331 yX12_keepThen ∈ TB := tb7 (List.mem_of_getElem? (i := 50) rfl) rfl
theorem wm_X12_keepThen : Cond.instanceMethod yX12_keepThen ∈ TB := tb7 (List.mem_of_getElem? (i := 52) rfl) rfl
theorem wc_X12_keepThen : Cond.code yX12_keepThen cX12_keepThen 3 none ∈ TB := tb7 (List.mem_of_getElem? (i := 53) rfl) rfl
theorem wl_X12_334 : Cond.methodLink RX12 334 yX12_layBack ∈ TB := tb7 (List.mem_of_getElem? (i := 54) rfl) rfl
theorem wm_X12_layBack : Cond.instanceMethod yX12_layBack ∈ TB := tb7 (List.mem_of_getElem? (i := 56) rfl) rfl
theorem wc_X12_layBack : Cond.code yX12_layBack cX12_layBack 3 none ∈ TB := tb7 (List.mem_of_getElem? (i := 57) rfl) rfl
theorem wl_X12_354 : Cond.methodLink RX12 354 yX12_asPart ∈ TB := tb7 (List.mem_of_getElem? (i := 58) rfl) rfl
theorem wm_X12_asPart : Cond.instanceMethod yX12_asPart ∈ TB := tb7 (List.mem_of_getElem? (i := 60) rfl) rfl
theorem wc_X12_asPart : Cond.code yX12_asPart cX12_asPart 7 (some .long) ∈ TB := tb7 (List.mem_of_getElem? (i := 61) rfl) rfl
theorem wl_X12_337 : Cond.methodLink RX12 337 yX12_below ∈ TB := tb7 (List.mem_of_getElem? (i := 62) rfl) rfl
theorem wm_X12_below : Cond.instanceMethod yX12_below ∈ TB := tb7 (List.mem_of_getElem? (i := 64) rfl) rfl
theorem wc_X12_below : Cond.code yX12_below cX12_below 5 (some .long) ∈ TB := tb7 (List.mem_of_getElem? (i := 65) rfl) rfl
theorem wl_X12_341 : Cond.methodLink RX12 341 yX12_common ∈ TB := tb7 (List.mem_of_getElem? (i := 66) rfl) rfl
theorem ws_X12_common : Cond.static yX12_common ∈ TB := tb7 (List.mem_of_getElem? (i := 67) rfl) rfl
theorem wc_X12_common : Cond.code yX12_common cX12_common 10 (some .long) ∈ TB := tb7 (List.mem_of_getElem? (i := 68) rfl) rfl
theorem wl_L_85 : Cond.methodLink RL 85 yX12_mean ∈ TB := tb7 (List.mem_of_getElem? (i := 69) rfl) rfl
theorem wm_X12_mean : Cond.instanceMethod yX12_mean ∈ TB := tb7 (List.mem_of_getElem? (i := 70) rfl) rfl
theorem wv_X12_mean : Cond.selects RX12 yX12_mean yX12_mean ∈ TB := tb7 (List.mem_of_getElem? (i := 71) rfl) rfl
theorem wc_X12_mean : Cond.code yX12_mean cX12_mean 4 (some .long) ∈ TB := tb7 (List.mem_of_getElem? (i := 72) rfl) rfl
theorem wl_L_89 : Cond.methodLink RL 89 yX12_stand ∈ TB := tb7 (List.mem_of_getElem? (i := 73) rfl) rfl
theorem wm_X12_stand : Cond.instanceMethod yX12_stand ∈ TB := tb7 (List.mem_of_getElem? (i := 74) rfl) rfl
theorem wv_X12_stand : Cond.selects RX12 yX12_stand yX12_stand ∈ TB := tb7 (List.mem_of_getElem? (i := 75) rfl) rfl
theorem wc_X12_stand : Cond.code yX12_stand cX12_stand 7 (some .int) ∈ TB := tb7 (List.mem_of_getElem? (i := 76) rfl) rfl
theorem wl_L_93 : Cond.methodLink RL 93 yX12_heavy ∈ TB := tb7 (List.mem_of_getElem? (i := 77) rfl) rfl
theorem wm_X12_heavy : Cond.instanceMethod yX12_heavy ∈ TB := tb7 (List.mem_of_getElem? (i := 78) rfl) rfl
theorem wv_X12_heavy : Cond.selects RX12 yX12_heavy yX12_heavy ∈ TB := tb7 (List.mem_of_getElem? (i := 79) rfl) rfl
theorem wc_X12_heavy : Cond.code yX12_heavy cX12_heavy 4 (some .int) ∈ TB := tb7 (List.mem_of_getElem? (i := 80) rfl) rfl
theorem wl_L_98 : Cond.methodLink RL 98 yX12_ahead ∈ TB := tb7 (List.mem_of_getElem? (i := 81) rfl) rfl
theorem wm_X12_ahead : Cond.instanceMethod yX12_ahead ∈ TB := tb7 (List.mem_of_getElem? (i := 82) rfl) rfl
theorem wv_X12_ahead : Cond.selects RX12 yX12_ahead yX12_ahead ∈ TB := tb7 (List.mem_of_getElem? (i := 83) rfl) rfl
theorem wc_X12_ahead : Cond.code yX12_ahead cX12_ahead 7 (some .int) ∈ TB := tb7 (List.mem_of_getElem? (i := 84) rfl) rfl
theorem wl_X12_358 : Cond.methodLink RX12 358 yX12_thinkOn ∈ TB := tb7 (List.mem_of_getElem? (i := 85) rfl) rfl
theorem wm_X12_thinkOn : Cond.instanceMethod yX12_thinkOn ∈ TB := tb7 (List.mem_of_getElem? (i := 87) rfl) rfl
theorem wc_X12_thinkOn : Cond.code yX12_thinkOn cX12_thinkOn 4 none ∈ TB := tb7 (List.mem_of_getElem? (i := 88) rfl) rfl
theorem wl_L_102 : Cond.methodLink RL 102 yX12_storm ∈ TB := tb7 (List.mem_of_getElem? (i := 89) rfl) rfl
theorem wm_X12_storm : Cond.instanceMethod yX12_storm ∈ TB := tb7 (List.mem_of_getElem? (i := 90) rfl) rfl
theorem wv_X12_storm : Cond.selects RX12 yX12_storm yX12_storm ∈ TB := tb7 (List.mem_of_getElem? (i := 91) rfl) rfl
theorem wc_X12_storm : Cond.code yX12_storm cX12_storm 4 (some .int) ∈ TB := tb7 (List.mem_of_getElem? (i := 92) rfl) rfl
theorem wl_L_106 : Cond.methodLink RL 106 yX12_seeded ∈ TB := tb7 (List.mem_of_getElem? (i := 93) rfl) rfl
theorem wm_X12_seeded : Cond.instanceMethod yX12_seeded ∈ TB := tb7 (List.mem_of_getElem? (i := 94) rfl) rfl
theorem wv_X12_seeded : Cond.selects RX12 yX12_seeded yX12_seeded ∈ TB := tb7 (List.mem_of_getElem? (i := 95) rfl) rfl
theorem wc_X12_seeded : Cond.code yX12_seeded cX12_seeded 6 (some .int) ∈ TB := tb7 (List.mem_of_getElem? (i := 96) rfl) rfl
theorem wl_L_110 : Cond.methodLink RL 110 yX12_image ∈ TB := tb7 (List.mem_of_getElem? (i := 97) rfl) rfl
theorem wm_X12_image : Cond.instanceMethod yX12_image ∈ TB := tb7 (List.mem_of_getElem? (i := 98) rfl) rfl
theorem wv_X12_image : Cond.selects RX12 yX12_image yX12_image ∈ TB := tb7 (List.mem_of_getElem? (i := 99) rfl) rfl
theorem wc_X12_image : Cond.code yX12_image cX12_image 2 (some .int) ∈ TB := tb7 (List.mem_of_getElem? (i := 100) rfl) rfl
theorem wl_L_114 : Cond.methodLink RL 114 yX12_back ∈ TB := tb7 (List.mem_of_getElem? (i := 101) rfl) rfl
theorem wm_X12_back : Cond.instanceMethod yX12_back ∈ TB := tb7 (List.mem_of_getElem? (i := 102) rfl) rfl
theorem wv_X12_back : Cond.selects RX12 yX12_back yX12_back ∈ TB := tb7 (List.mem_of_getElem? (i := 103) rfl) rfl
theorem wc_X12_back : Cond.code yX12_back cX12_back 2 (some .int) ∈ TB := tb7 (List.mem_of_getElem? (i := 104) rfl) rfl
theorem wl_L_134 : Cond.methodLink RL 134 yX12_trace ∈ TB := tb7 (List.mem_of_getElem? (i := 105) rfl) rfl
theorem wm_X12_trace : Cond.instanceMethod yX12_trace ∈ TB := tb7 (List.mem_of_getElem? (i := 106) rfl) rfl
theorem wv_X12_trace : Cond.selects RX12 yX12_trace yX12_trace ∈ TB := tb7 (List.mem_of_getElem? (i := 107) rfl) rfl
theorem wc_X12_trace : Cond.code yX12_trace cX12_trace 2 (some .int) ∈ TB := tb7 (List.mem_of_getElem? (i := 108) rfl) rfl
theorem wl_L_126 : Cond.methodLink RL 126 yX12_body ∈ TB := tb7 (List.mem_of_getElem? (i := 109) rfl) rfl
theorem wm_X12_body : Cond.instanceMethod yX12_body ∈ TB := tb7 (List.mem_of_getElem? (i := 110) rfl) rfl
theorem wv_X12_body : Cond.selects RX12 yX12_body yX12_body ∈ TB := tb7 (List.mem_of_getElem? (i := 111) rfl) rfl
theorem wc_X12_body : Cond.code yX12_body cX12_body 2 (some .int) ∈ TB := tb7 (List.mem_of_getElem? (i := 112) rfl) rfl
theorem wl_L_130 : Cond.methodLink RL 130 yX12_act ∈ TB := tb7 (List.mem_of_getElem? (i := 113) rfl) rfl
theorem wm_X12_act : Cond.instanceMethod yX12_act ∈ TB := tb7 (List.mem_of_getElem? (i := 114) rfl) rfl
theorem wv_X12_act : Cond.selects RX12 yX12_act yX12_act ∈ TB := tb7 (List.mem_of_getElem? (i := 115) rfl) rfl
theorem wc_X12_act : Cond.code yX12_act cX12_act 4 (some .int) ∈ TB := tb7 (List.mem_of_getElem? (i := 116) rfl) rfl
theorem wl_X12_415 : Cond.methodLink RX12 415 yX12_isBody ∈ TB := tb7 (List.mem_of_getElem? (i := 117) rfl) rfl
theorem wm_X12_isBody : Cond.instanceMethod yX12_isBody ∈ TB := tb7 (List.mem_of_getElem? (i := 119) rfl) rfl
theorem wc_X12_isBody : Cond.code yX12_isBody cX12_isBody 2 (some .boolean) ∈ TB := tb7 (List.mem_of_getElem? (i := 120) rfl) rfl
theorem wl_X12_391 : Cond.methodLink RX12 391 yX12_sitting ∈ TB := tb7 (List.mem_of_getElem? (i := 121) rfl) rfl
theorem wm_X12_sitting : Cond.instanceMethod yX12_sitting ∈ TB := tb7 (List.mem_of_getElem? (i := 123) rfl) rfl
theorem wc_X12_sitting : Cond.code yX12_sitting cX12_sitting 3 (some .int) ∈ TB := tb7 (List.mem_of_getElem? (i := 124) rfl) rfl
theorem wl_X12_385 : Cond.methodLink RX12 385 yX12_isUnder ∈ TB := tb7 (List.mem_of_getElem? (i := 125) rfl) rfl
theorem ws_X12_isUnder : Cond.static yX12_isUnder ∈ TB := tb7 (List.mem_of_getElem? (i := 126) rfl) rfl
theorem wc_X12_isUnder : Cond.code yX12_isUnder cX12_isUnder 2 (some .boolean) ∈ TB := tb7 (List.mem_of_getElem? (i := 127) rfl) rfl
theorem wl_X12_379 : Cond.methodLink RX12 379 yX12_ran ∈ TB := tb7 (List.mem_of_getElem? (i := 128) rfl) rfl
theorem wm_X12_ran : Cond.instanceMethod yX12_ran ∈ TB := tb7 (List.mem_of_getElem? (i := 130) rfl) rfl
theorem wc_X12_ran : Cond.code yX12_ran cX12_ran 2 none ∈ TB := tb7 (List.mem_of_getElem? (i := 131) rfl) rfl
theorem wl_X12_382 : Cond.methodLink RX12 382 yX12_plainSits ∈ TB := tb7 (List.mem_of_getElem? (i := 132) rfl) rfl
theorem wm_X12_plainSits : Cond.instanceMethod yX12_plainSits ∈ TB := tb7 (List.mem_of_getElem? (i := 134) rfl) rfl
theorem wc_X12_plainSits : Cond.code yX12_plainSits cX12_plainSits 3 (some .int) ∈ TB := tb7 (List.mem_of_getElem? (i := 135) rfl) rfl
theorem wl_X12_388 : Cond.methodLink RX12 388 yX12_newSits ∈ TB := tb7 (List.mem_of_getElem? (i := 136) rfl) rfl
theorem wm_X12_newSits : Cond.instanceMethod yX12_newSits ∈ TB := tb7 (List.mem_of_getElem? (i := 138) rfl) rfl
theorem wc_X12_newSits : Cond.code yX12_newSits cX12_newSits 3 (some .int) ∈ TB := tb7 (List.mem_of_getElem? (i := 139) rfl) rfl
theorem wl_X12_409 : Cond.methodLink RX12 409 yX12_falling ∈ TB := tb7 (List.mem_of_getElem? (i := 140) rfl) rfl
theorem wm_X12_falling : Cond.instanceMethod yX12_falling ∈ TB := tb7 (List.mem_of_getElem? (i := 142) rfl) rfl
theorem wc_X12_falling : Cond.code yX12_falling cX12_falling 4 (some .int) ∈ TB := tb7 (List.mem_of_getElem? (i := 143) rfl) rfl
theorem wl_X12_397 : Cond.methodLink RX12 397 yX12_blownFalls ∈ TB := tb7 (List.mem_of_getElem? (i := 144) rfl) rfl
theorem wm_X12_blownFalls : Cond.instanceMethod yX12_blownFalls ∈ TB := tb7 (List.mem_of_getElem? (i := 146) rfl) rfl
theorem wc_X12_blownFalls : Cond.code yX12_blownFalls cX12_blownFalls 3 (some .int) ∈ TB := tb7 (List.mem_of_getElem? (i := 147) rfl) rfl
theorem wl_X12_394 : Cond.methodLink RX12 394 yX12_plainFalls ∈ TB := tb7 (List.mem_of_getElem? (i := 148) rfl) rfl
theorem wm_X12_plainFalls : Cond.instanceMethod yX12_plainFalls ∈ TB := tb7 (List.mem_of_getElem? (i := 150) rfl) rfl
theorem wc_X12_plainFalls : Cond.code yX12_plainFalls cX12_plainFalls 3 (some .int) ∈ TB := tb7 (List.mem_of_getElem? (i := 151) rfl) rfl
theorem wl_X12_400 : Cond.methodLink RX12 400 yX12_landing ∈ TB := tb7 (List.mem_of_getElem? (i := 152) rfl) rfl
theorem wm_X12_landing : Cond.instanceMethod yX12_landing ∈ TB := tb7 (List.mem_of_getElem? (i := 154) rfl) rfl
theorem wc_X12_landing : Cond.code yX12_landing cX12_landing 4 (some .int) ∈ TB := tb7 (List.mem_of_getElem? (i := 155) rfl) rfl
theorem wl_X12_406 : Cond.methodLink RX12 406 yX12_caughtLands ∈ TB := tb7 (List.mem_of_getElem? (i := 156) rfl) rfl
theorem wm_X12_caughtLands : Cond.instanceMethod yX12_caughtLands ∈ TB := tb7 (List.mem_of_getElem? (i := 158) rfl) rfl
theorem wc_X12_caughtLands : Cond.code yX12_caughtLands cX12_caughtLands 3 (some .int) ∈ TB := tb7 (List.mem_of_getElem? (i := 159) rfl) rfl
theorem wl_X12_403 : Cond.methodLink RX12 403 yX12_plainLands ∈ TB := tb7 (List.mem_of_getElem? (i := 160) rfl) rfl
theorem wm_X12_plainLands : Cond.instanceMethod yX12_plainLands ∈ TB := tb7 (List.mem_of_getElem? (i := 162) rfl) rfl
theorem wc_X12_plainLands : Cond.code yX12_plainLands cX12_plainLands 3 (some .int) ∈ TB := tb7 (List.mem_of_getElem? (i := 163) rfl) rfl
theorem wl_X12_418 : Cond.methodLink RX12 418 yX12_ranking ∈ TB := tb7 (List.mem_of_getElem? (i := 164) rfl) rfl
theorem wm_X12_ranking : Cond.instanceMethod yX12_ranking ∈ TB := tb7 (List.mem_of_getElem? (i := 166) rfl) rfl
theorem wc_X12_ranking : Cond.code yX12_ranking cX12_ranking 3 (some .int) ∈ TB := tb7 (List.mem_of_getElem? (i := 167) rfl) rfl
theorem wl_X12_412 : Cond.methodLink RX12 412 yX12_plainRanks ∈ TB := tb7 (List.mem_of_getElem? (i := 168) rfl) rfl
theorem wm_X12_plainRanks : Cond.instanceMethod yX12_plainRanks ∈ TB := tb7 (List.mem_of_getElem? (i := 170) rfl) rfl
theorem wc_X12_plainRanks : Cond.code yX12_plainRanks cX12_plainRanks 4 (some .int) ∈ TB := tb7 (List.mem_of_getElem? (i := 171) rfl) rfl
theorem wl_L_167 : Cond.methodLink RL 167 yX12_count ∈ TB := tb7 (List.mem_of_getElem? (i := 172) rfl) rfl
theorem wm_X12_count : Cond.instanceMethod yX12_count ∈ TB := tb7 (List.mem_of_getElem? (i := 173) rfl) rfl
theorem wv_X12_count : Cond.selects RX12 yX12_count yX12_count ∈ TB := tb7 (List.mem_of_getElem? (i := 174) rfl) rfl
theorem wc_X12_count : Cond.code yX12_count cX12_count 2 (some .int) ∈ TB := tb7 (List.mem_of_getElem? (i := 175) rfl) rfl
theorem wl_L_138 : Cond.methodLink RL 138 yX12_keep ∈ TB := tb7 (List.mem_of_getElem? (i := 176) rfl) rfl
theorem wm_X12_keep : Cond.instanceMethod yX12_keep ∈ TB := tb7 (List.mem_of_getElem? (i := 177) rfl) rfl
theorem wv_X12_keep : Cond.selects RX12 yX12_keep yX12_keep ∈ TB := tb7 (List.mem_of_getElem? (i := 178) rfl) rfl
theorem wc_X12_keep : Cond.code yX12_keep cX12_keep 3 (some .int) ∈ TB := tb7 (List.mem_of_getElem? (i := 179) rfl) rfl
theorem wl_L_142 : Cond.methodLink RL 142 yX12_row ∈ TB := tb7 (List.mem_of_getElem? (i := 180) rfl) rfl
theorem wm_X12_row : Cond.instanceMethod yX12_row ∈ TB := tb7 (List.mem_of_getElem? (i := 181) rfl) rfl
theorem wv_X12_row : Cond.selects RX12 yX12_row yX12_row ∈ TB := tb7 (List.mem_of_getElem? (i := 182) rfl) rfl
theorem wc_X12_row : Cond.code yX12_row cX12_row 5 (some .int) ∈ TB := tb7 (List.mem_of_getElem? (i := 183) rfl) rfl
theorem wl_L_149 : Cond.methodLink RL 149 yX12_put ∈ TB := tb7 (List.mem_of_getElem? (i := 184) rfl) rfl
theorem wm_X12_put : Cond.instanceMethod yX12_put ∈ TB := tb7 (List.mem_of_getElem? (i := 185) rfl) rfl
theorem wv_X12_put : Cond.selects RX12 yX12_put yX12_put ∈ TB := tb7 (List.mem_of_getElem? (i := 186) rfl) rfl
theorem wc_X12_put : Cond.code yX12_put cX12_put 7 (some .int) ∈ TB := tb7 (List.mem_of_getElem? (i := 187) rfl) rfl
theorem wl_X12_421 : Cond.methodLink RX12 421 yX12_whyNoPlace ∈ TB := tb7 (List.mem_of_getElem? (i := 188) rfl) rfl
theorem wm_X12_whyNoPlace : Cond.instanceMethod yX12_whyNoPlace ∈ TB := tb7 (List.mem_of_getElem? (i := 190) rfl) rfl
theorem wc_X12_whyNoPlace : Cond.code yX12_whyNoPlace cX12_whyNoPlace 3 (some .int) ∈ TB := tb7 (List.mem_of_getElem? (i := 191) rfl) rfl
theorem wl_L_154 : Cond.methodLink RL 154 yX12_element ∈ TB := tb7 (List.mem_of_getElem? (i := 192) rfl) rfl
theorem wm_X12_element : Cond.instanceMethod yX12_element ∈ TB := tb7 (List.mem_of_getElem? (i := 193) rfl) rfl
theorem wv_X12_element : Cond.selects RX12 yX12_element yX12_element ∈ TB := tb7 (List.mem_of_getElem? (i := 194) rfl) rfl
theorem wc_X12_element : Cond.code yX12_element cX12_element 3 (some .long) ∈ TB := tb7 (List.mem_of_getElem? (i := 195) rfl) rfl
theorem wl_L_159 : Cond.methodLink RL 159 yX12_shift ∈ TB := tb7 (List.mem_of_getElem? (i := 196) rfl) rfl
theorem wm_X12_shift : Cond.instanceMethod yX12_shift ∈ TB := tb7 (List.mem_of_getElem? (i := 197) rfl) rfl
theorem wv_X12_shift : Cond.selects RX12 yX12_shift yX12_shift ∈ TB := tb7 (List.mem_of_getElem? (i := 198) rfl) rfl
theorem wc_X12_shift : Cond.code yX12_shift cX12_shift 7 (some .int) ∈ TB := tb7 (List.mem_of_getElem? (i := 199) rfl) rfl
theorem wl_L_163 : Cond.methodLink RL 163 yX12_taken ∈ TB := tb7 (List.mem_of_getElem? (i := 200) rfl) rfl
theorem wm_X12_taken : Cond.instanceMethod yX12_taken ∈ TB := tb7 (List.mem_of_getElem? (i := 201) rfl) rfl
theorem wv_X12_taken : Cond.selects RX12 yX12_taken yX12_taken ∈ TB := tb7 (List.mem_of_getElem? (i := 202) rfl) rfl
theorem wc_X12_taken : Cond.code yX12_taken cX12_taken 3 (some .int) ∈ TB := tb7 (List.mem_of_getElem? (i := 203) rfl) rfl
theorem wk_L_143 : Cond.constantLong RL 143 (4294967295) ∈ TB := tb7 (List.mem_of_getElem? (i := 204) rfl) rfl
theorem wf_J0_15 : Cond.fieldLink RJ0 15 "java/lang/String" "coder" "B" ∈ TB := tb7 (List.mem_of_getElem? (i := 205) rfl) rfl
theorem wf_J0_9 : Cond.fieldLink RJ0 9 "java/lang/String" "value" "[B" ∈ TB := tb7 (List.mem_of_getElem? (i := 206) rfl) rfl
theorem wv_X11_newPerson : Cond.selects RX11 yX11_newPerson yX11_newPerson ∈ TB := inTB (List.mem_append_left _ (List.mem_of_getElem? (i := 0) rfl)) rfl
theorem wv_X7_holdsRow : Cond.selects RX7 yX7_holdsRow yX7_holdsRow ∈ TB := inTB (List.mem_append_left _ (List.mem_of_getElem? (i := 1) rfl)) rfl
theorem wv_X11_newPersonFrom : Cond.selects RX11 yX11_newPersonFrom yX11_newPersonFrom ∈ TB := inTB (List.mem_append_left _ (List.mem_of_getElem? (i := 2) rfl)) rfl
theorem wv_X1_dropOldest : Cond.selects RX1 yX1_dropOldest yX1_dropOldest ∈ TB := inTB (List.mem_append_left _ (List.mem_of_getElem? (i := 3) rfl)) rfl
theorem wv_X11_ofPlace : Cond.selects RX11 yX11_ofPlace yX11_ofPlace ∈ TB := inTB (List.mem_append_left _ (List.mem_of_getElem? (i := 4) rfl)) rfl
theorem wv_X11_ofPerson : Cond.selects RX11 yX11_ofPerson yX11_ofPerson ∈ TB := inTB (List.mem_append_left _ (List.mem_of_getElem? (i := 5) rfl)) rfl
theorem wv_X4_others : Cond.selects RX4 yX4_others yX4_others ∈ TB := inTB (List.mem_append_left _ (List.mem_of_getElem? (i := 6) rfl)) rfl
theorem wv_X3_has : Cond.selects RX3 yX3_has yX3_has ∈ TB := inTB (List.mem_append_left _ (List.mem_of_getElem? (i := 7) rfl)) rfl
theorem wv_X8_readLines : Cond.selects RX8 yX8_readLines yX8_readLines ∈ TB := inTB (List.mem_append_left _ (List.mem_of_getElem? (i := 8) rfl)) rfl
theorem wv_X8_readLine : Cond.selects RX8 yX8_readLine yX8_readLine ∈ TB := inTB (List.mem_append_left _ (List.mem_of_getElem? (i := 9) rfl)) rfl
theorem wv_X8_readJoined : Cond.selects RX8 yX8_readJoined yX8_readJoined ∈ TB := inTB (List.mem_append_left _ (List.mem_of_getElem? (i := 10) rfl)) rfl
theorem wv_X8_readOperand : Cond.selects RX8 yX8_readOperand yX8_readOperand ∈ TB := inTB (List.mem_append_left _ (List.mem_of_getElem? (i := 11) rfl)) rfl
theorem wv_X8_here : Cond.selects RX8 yX8_here yX8_here ∈ TB := inTB (List.mem_append_left _ (List.mem_of_getElem? (i := 12) rfl)) rfl
theorem wv_X8_readNumber : Cond.selects RX8 yX8_readNumber yX8_readNumber ∈ TB := inTB (List.mem_append_left _ (List.mem_of_getElem? (i := 13) rfl)) rfl
theorem wv_X8_readOpened : Cond.selects RX8 yX8_readOpened yX8_readOpened ∈ TB := inTB (List.mem_append_left _ (List.mem_of_getElem? (i := 14) rfl)) rfl
theorem wv_X11_hoursLeft : Cond.selects RX11 yX11_hoursLeft yX11_hoursLeft ∈ TB := inTB (List.mem_append_left _ (List.mem_of_getElem? (i := 15) rfl)) rfl
theorem wv_X10_draws : Cond.selects RX10 yX10_draws yX10_draws ∈ TB := inTB (List.mem_append_left _ (List.mem_of_getElem? (i := 16) rfl)) rfl
theorem wv_X10_landing : Cond.selects RX10 yX10_landing yX10_landing ∈ TB := inTB (List.mem_append_left _ (List.mem_of_getElem? (i := 17) rfl)) rfl
theorem wv_X10_shiftHat : Cond.selects RX10 yX10_shiftHat yX10_shiftHat ∈ TB := inTB (List.mem_append_left _ (List.mem_of_getElem? (i := 18) rfl)) rfl
theorem wv_X11_mayEnd : Cond.selects RX11 yX11_mayEnd yX11_mayEnd ∈ TB := inTB (List.mem_append_left _ (List.mem_of_getElem? (i := 19) rfl)) rfl
theorem wv_X6_bestStep : Cond.selects RX6 yX6_bestStep yX6_bestStep ∈ TB := inTB (List.mem_append_left _ (List.mem_of_getElem? (i := 20) rfl)) rfl
theorem wv_X6_leastAt : Cond.selects RX6 yX6_leastAt yX6_leastAt ∈ TB := inTB (List.mem_append_left _ (List.mem_of_getElem? (i := 21) rfl)) rfl
theorem wv_X11_fractionRefusal : Cond.selects RX11 yX11_fractionRefusal yX11_fractionRefusal ∈ TB := inTB (List.mem_append_left _ (List.mem_of_getElem? (i := 22) rfl)) rfl
theorem wv_X11_mayThink : Cond.selects RX11 yX11_mayThink yX11_mayThink ∈ TB := inTB (List.mem_append_left _ (List.mem_of_getElem? (i := 23) rfl)) rfl
theorem wv_X5_spreadHour : Cond.selects RX5 yX5_spreadHour yX5_spreadHour ∈ TB := inTB (List.mem_append_left _ (List.mem_of_getElem? (i := 24) rfl)) rfl
theorem wv_X5_weigh : Cond.selects RX5 yX5_weigh yX5_weigh ∈ TB := inTB (List.mem_append_left _ (List.mem_of_getElem? (i := 25) rfl)) rfl
theorem wv_X5_spreadPerson : Cond.selects RX5 yX5_spreadPerson yX5_spreadPerson ∈ TB := inTB (List.mem_append_left _ (List.mem_of_getElem? (i := 26) rfl)) rfl
theorem wv_X11_hatsAreAsTold : Cond.selects RX11 yX11_hatsAreAsTold yX11_hatsAreAsTold ∈ TB := inTB (List.mem_append_left _ (List.mem_of_getElem? (i := 27) rfl)) rfl
theorem wv_X0_perform : Cond.selects RX0 yX0_perform yX0_perform ∈ TB := inTB (List.mem_append_left _ (List.mem_of_getElem? (i := 28) rfl)) rfl
theorem wv_X0_run : Cond.selects RX0 yX0_run yX0_run ∈ TB := inTB (List.mem_append_left _ (List.mem_of_getElem? (i := 29) rfl)) rfl
theorem wv_X0_performOwn : Cond.selects RX0 yX0_performOwn yX0_performOwn ∈ TB := inTB (List.mem_append_left _ (List.mem_of_getElem? (i := 30) rfl)) rfl
theorem wv_X12_isPlace : Cond.selects RX12 yX12_isPlace yX12_isPlace ∈ TB := inTB (List.mem_append_left _ (List.mem_of_getElem? (i := 31) rfl)) rfl
theorem wv_X12_isWay : Cond.selects RX12 yX12_isWay yX12_isWay ∈ TB := inTB (List.mem_append_left _ (List.mem_of_getElem? (i := 32) rfl)) rfl
theorem wv_X12_addPerson : Cond.selects RX12 yX12_addPerson yX12_addPerson ∈ TB := inTB (List.mem_append_left _ (List.mem_of_getElem? (i := 33) rfl)) rfl
theorem wv_X12_lays : Cond.selects RX12 yX12_lays yX12_lays ∈ TB := inTB (List.mem_append_left _ (List.mem_of_getElem? (i := 34) rfl)) rfl
theorem wv_X12_isPerson : Cond.selects RX12 yX12_isPerson yX12_isPerson ∈ TB := inTB (List.mem_append_left _ (List.mem_of_getElem? (i := 35) rfl)) rfl
theorem wv_X12_changes : Cond.selects RX12 yX12_changes yX12_changes ∈ TB := inTB (List.mem_append_left _ (List.mem_of_getElem? (i := 36) rfl)) rfl
theorem wv_X12_valueAt : Cond.selects RX12 yX12_valueAt yX12_valueAt ∈ TB := inTB (List.mem_append_left _ (List.mem_of_getElem? (i := 37) rfl)) rfl
theorem wv_X12_readText : Cond.selects RX12 yX12_readText yX12_readText ∈ TB := inTB (List.mem_append_left _ (List.mem_of_getElem? (i := 38) rfl)) rfl
theorem wv_X12_line : Cond.selects RX12 yX12_line yX12_line ∈ TB := inTB (List.mem_append_left _ (List.mem_of_getElem? (i := 39) rfl)) rfl
theorem wv_X12_either : Cond.selects RX12 yX12_either yX12_either ∈ TB := inTB (List.mem_append_left _ (List.mem_of_getElem? (i := 40) rfl)) rfl
theorem wv_X12_both : Cond.selects RX12 yX12_both yX12_both ∈ TB := inTB (List.mem_append_left _ (List.mem_of_getElem? (i := 41) rfl)) rfl
theorem wv_X12_compared : Cond.selects RX12 yX12_compared yX12_compared ∈ TB := inTB (List.mem_append_left _ (List.mem_of_getElem? (i := 42) rfl)) rfl
theorem wv_X12_sum : Cond.selects RX12 yX12_sum yX12_sum ∈ TB := inTB (List.mem_append_left _ (List.mem_of_getElem? (i := 43) rfl)) rfl
theorem wv_X12_product : Cond.selects RX12 yX12_product yX12_product ∈ TB := inTB (List.mem_append_left _ (List.mem_of_getElem? (i := 44) rfl)) rfl
theorem wv_X12_operand : Cond.selects RX12 yX12_operand yX12_operand ∈ TB := inTB (List.mem_append_left _ (List.mem_of_getElem? (i := 45) rfl)) rfl
theorem wv_X12_look : Cond.selects RX12 yX12_look yX12_look ∈ TB := inTB (List.mem_append_left _ (List.mem_of_getElem? (i := 46) rfl)) rfl
theorem wv_X12_addStep : Cond.selects RX12 yX12_addStep yX12_addStep ∈ TB := inTB (List.mem_append_left _ (List.mem_of_getElem? (i := 47) rfl)) rfl
theorem wv_X12_opens : Cond.selects RX12 yX12_opens yX12_opens ∈ TB := inTB (List.mem_append_left _ (List.mem_of_getElem? (i := 48) rfl)) rfl
theorem wv_X12_faulty : Cond.selects RX12 yX12_faulty yX12_faulty ∈ TB := inTB (List.mem_append_left _ (List.mem_of_getElem? (i := 49) rfl)) rfl
theorem wv_X12_figure : Cond.selects RX12 yX12_figure yX12_figure ∈ TB := inTB (List.mem_append_left _ (List.mem_of_getElem? (i := 50) rfl)) rfl
theorem wv_X12_rankOf : Cond.selects RX12 yX12_rankOf yX12_rankOf ∈ TB := inTB (List.mem_append_left _ (List.mem_of_getElem? (i := 51) rfl)) rfl
theorem wv_X12_think : Cond.selects RX12 yX12_think yX12_think ∈ TB := inTB (List.mem_append_left _ (List.mem_of_getElem? (i := 52) rfl)) rfl
theorem wv_X12_falls : Cond.selects RX12 yX12_falls yX12_falls ∈ TB := inTB (List.mem_append_left _ (List.mem_of_getElem? (i := 53) rfl)) rfl
theorem wv_X12_fallsBy : Cond.selects RX12 yX12_fallsBy yX12_fallsBy ∈ TB := inTB (List.mem_append_left _ (List.mem_of_getElem? (i := 54) rfl)) rfl
theorem wv_X12_gustAt : Cond.selects RX12 yX12_gustAt yX12_gustAt ∈ TB := inTB (List.mem_append_left _ (List.mem_of_getElem? (i := 55) rfl)) rfl
theorem wv_X12_gives : Cond.selects RX12 yX12_gives yX12_gives ∈ TB := inTB (List.mem_append_left _ (List.mem_of_getElem? (i := 56) rfl)) rfl
theorem wv_X12_worked : Cond.selects RX12 yX12_worked yX12_worked ∈ TB := inTB (List.mem_append_left _ (List.mem_of_getElem? (i := 57) rfl)) rfl
theorem wv_X12_goHour : Cond.selects RX12 yX12_goHour yX12_goHour ∈ TB := inTB (List.mem_append_left _ (List.mem_of_getElem? (i := 58) rfl)) rfl
theorem wv_X12_takeUp : Cond.selects RX12 yX12_takeUp yX12_takeUp ∈ TB := inTB (List.mem_append_left _ (List.mem_of_getElem? (i := 59) rfl)) rfl
theorem wv_X12_fall : Cond.selects RX12 yX12_fall yX12_fall ∈ TB := inTB (List.mem_append_left _ (List.mem_of_getElem? (i := 60) rfl)) rfl
theorem wv_X12_catcher : Cond.selects RX12 yX12_catcher yX12_catcher ∈ TB := inTB (List.mem_append_left _ (List.mem_of_getElem? (i := 61) rfl)) rfl
theorem wv_X12_firstOf : Cond.selects RX12 yX12_firstOf yX12_firstOf ∈ TB := inTB (List.mem_append_left _ (List.mem_of_getElem? (i := 62) rfl)) rfl
theorem wv_X12_isWalk : Cond.selects RX12 yX12_isWalk yX12_isWalk ∈ TB := inTB (List.mem_append_left _ (List.mem_of_getElem? (i := 63) rfl)) rfl
theorem wv_X12_findRisk : Cond.selects RX12 yX12_findRisk yX12_findRisk ∈ TB := inTB (List.mem_append_left _ (List.mem_of_getElem? (i := 64) rfl)) rfl
theorem wv_X12_mayGo : Cond.selects RX12 yX12_mayGo yX12_mayGo ∈ TB := inTB (List.mem_append_left _ (List.mem_of_getElem? (i := 65) rfl)) rfl
theorem wv_X12_findChance : Cond.selects RX12 yX12_findChance yX12_findChance ∈ TB := inTB (List.mem_append_left _ (List.mem_of_getElem? (i := 66) rfl)) rfl
theorem wv_X12_goThrough : Cond.selects RX12 yX12_goThrough yX12_goThrough ∈ TB := inTB (List.mem_append_left _ (List.mem_of_getElem? (i := 67) rfl)) rfl
theorem wv_X12_keepThen : Cond.selects RX12 yX12_keepThen yX12_keepThen ∈ TB := inTB (List.mem_append_left _ (List.mem_of_getElem? (i := 68) rfl)) rfl
theorem wv_X12_layBack : Cond.selects RX12 yX12_layBack yX12_layBack ∈ TB := inTB (List.mem_append_left _ (List.mem_of_getElem? (i := 69) rfl)) rfl
theorem wv_X12_asPart : Cond.selects RX12 yX12_asPart yX12_asPart ∈ TB := inTB (List.mem_append_left _ (List.mem_of_getElem? (i := 70) rfl)) rfl
theorem wv_X12_below : Cond.selects RX12 yX12_below yX12_below ∈ TB := inTB (List.mem_append_left _ (List.mem_of_getElem? (i := 71) rfl)) rfl
theorem wv_X12_thinkOn : Cond.selects RX12 yX12_thinkOn yX12_thinkOn ∈ TB := inTB (List.mem_append_left _ (List.mem_of_getElem? (i := 72) rfl)) rfl
theorem wv_X12_isBody : Cond.selects RX12 yX12_isBody yX12_isBody ∈ TB := inTB (List.mem_append_left _ (List.mem_of_getElem? (i := 73) rfl)) rfl
theorem wv_X12_sitting : Cond.selects RX12 yX12_sitting yX12_sitting ∈ TB := inTB (List.mem_append_left _ (List.mem_of_getElem? (i := 74) rfl)) rfl
theorem wv_X12_ran : Cond.selects RX12 yX12_ran yX12_ran ∈ TB := inTB (List.mem_append_left _ (List.mem_of_getElem? (i := 75) rfl)) rfl
theorem wv_X12_plainSits : Cond.selects RX12 yX12_plainSits yX12_plainSits ∈ TB := inTB (List.mem_append_left _ (List.mem_of_getElem? (i := 76) rfl)) rfl
theorem wv_X12_newSits : Cond.selects RX12 yX12_newSits yX12_newSits ∈ TB := inTB (List.mem_append_left _ (List.mem_of_getElem? (i := 77) rfl)) rfl
theorem wv_X12_falling : Cond.selects RX12 yX12_falling yX12_falling ∈ TB := inTB (List.mem_append_left _ (List.mem_of_getElem? (i := 78) rfl)) rfl
theorem wv_X12_blownFalls : Cond.selects RX12 yX12_blownFalls yX12_blownFalls ∈ TB := inTB (List.mem_append_left _ (List.mem_of_getElem? (i := 79) rfl)) rfl
theorem wv_X12_plainFalls : Cond.selects RX12 yX12_plainFalls yX12_plainFalls ∈ TB := inTB (List.mem_append_left _ (List.mem_of_getElem? (i := 80) rfl)) rfl
theorem wv_X12_landing : Cond.selects RX12 yX12_landing yX12_landing ∈ TB := inTB (List.mem_append_left _ (List.mem_of_getElem? (i := 81) rfl)) rfl
theorem wv_X12_caughtLands : Cond.selects RX12 yX12_caughtLands yX12_caughtLands ∈ TB := inTB (List.mem_append_left _ (List.mem_of_getElem? (i := 82) rfl)) rfl
theorem wv_X12_plainLands : Cond.selects RX12 yX12_plainLands yX12_plainLands ∈ TB := inTB (List.mem_append_left _ (List.mem_of_getElem? (i := 83) rfl)) rfl
theorem wv_X12_ranking : Cond.selects RX12 yX12_ranking yX12_ranking ∈ TB := inTB (List.mem_append_left _ (List.mem_of_getElem? (i := 84) rfl)) rfl
theorem wv_X12_plainRanks : Cond.selects RX12 yX12_plainRanks yX12_plainRanks ∈ TB := inTB (List.mem_append_left _ (List.mem_of_getElem? (i := 85) rfl)) rfl
theorem wv_X12_whyNoPlace : Cond.selects RX12 yX12_whyNoPlace yX12_whyNoPlace ∈ TB := inTB (List.mem_append_left _ (List.mem_of_getElem? (i := 86) rfl)) rfl
theorem inX0 : ∀ w ∈ u_ws RX0 TX0 5, w ∈ TB := List.forall_mem_cons.mpr ⟨tb2 (List.mem_of_getElem? (i := 69) rfl) rfl, List.forall_mem_cons.mpr ⟨tb2 (List.mem_of_getElem? (i := 71) rfl) rfl, List.forall_mem_cons.mpr ⟨tb2 (List.mem_of_getElem? (i := 73) rfl) rfl, List.forall_mem_cons.mpr ⟨tb2 (List.mem_of_getElem? (i := 75) rfl) rfl, List.forall_mem_cons.mpr ⟨tb2 (List.mem_of_getElem? (i := 77) rfl) rfl, fun _ h => absurd h List.not_mem_nil⟩⟩⟩⟩⟩
theorem inX1 : ∀ w ∈ u_ws RX1 TX1 6, w ∈ TB := List.forall_mem_cons.mpr ⟨tb2 (List.mem_of_getElem? (i := 43) rfl) rfl, List.forall_mem_cons.mpr ⟨tb2 (List.mem_of_getElem? (i := 45) rfl) rfl, List.forall_mem_cons.mpr ⟨tb2 (List.mem_of_getElem? (i := 47) rfl) rfl, List.forall_mem_cons.mpr ⟨tb2 (List.mem_of_getElem? (i := 49) rfl) rfl, List.forall_mem_cons.mpr ⟨tb2 (List.mem_of_getElem? (i := 51) rfl) rfl, List.forall_mem_cons.mpr ⟨tb2 (List.mem_of_getElem? (i := 53) rfl) rfl, fun _ h => absurd h List.not_mem_nil⟩⟩⟩⟩⟩⟩
theorem inX2 : ∀ w ∈ u_ws RX2 TX2 4, w ∈ TB := List.forall_mem_cons.mpr ⟨tb1 (List.mem_of_getElem? (i := 105) rfl) rfl, List.forall_mem_cons.mpr ⟨tb1 (List.mem_of_getElem? (i := 107) rfl) rfl, List.forall_mem_cons.mpr ⟨tb1 (List.mem_of_getElem? (i := 109) rfl) rfl, List.forall_mem_cons.mpr ⟨tb1 (List.mem_of_getElem? (i := 111) rfl) rfl, fun _ h => absurd h List.not_mem_nil⟩⟩⟩⟩
theorem inX3 : ∀ w ∈ u_ws RX3 TX3 8, w ∈ TB := List.forall_mem_cons.mpr ⟨tb1 (List.mem_of_getElem? (i := 134) rfl) rfl, List.forall_mem_cons.mpr ⟨tb1 (List.mem_of_getElem? (i := 136) rfl) rfl, List.forall_mem_cons.mpr ⟨tb1 (List.mem_of_getElem? (i := 138) rfl) rfl, List.forall_mem_cons.mpr ⟨tb1 (List.mem_of_getElem? (i := 140) rfl) rfl, List.forall_mem_cons.mpr ⟨tb1 (List.mem_of_getElem? (i := 142) rfl) rfl, List.forall_mem_cons.mpr ⟨tb1 (List.mem_of_getElem? (i := 144) rfl) rfl, List.forall_mem_cons.mpr ⟨tb1 (List.mem_of_getElem? (i := 146) rfl) rfl, List.forall_mem_cons.mpr ⟨tb1 (List.mem_of_getElem? (i := 148) rfl) rfl, fun _ h => absurd h List.not_mem_nil⟩⟩⟩⟩⟩⟩⟩⟩
theorem inX4 : ∀ w ∈ u_ws RX4 TX4 4, w ∈ TB := List.forall_mem_cons.mpr ⟨tb1 (List.mem_of_getElem? (i := 178) rfl) rfl, List.forall_mem_cons.mpr ⟨tb1 (List.mem_of_getElem? (i := 180) rfl) rfl, List.forall_mem_cons.mpr ⟨tb1 (List.mem_of_getElem? (i := 182) rfl) rfl, List.forall_mem_cons.mpr ⟨tb1 (List.mem_of_getElem? (i := 184) rfl) rfl, fun _ h => absurd h List.not_mem_nil⟩⟩⟩⟩
theorem inX5 : ∀ w ∈ u_ws RX5 TX5 11, w ∈ TB := List.forall_mem_cons.mpr ⟨tb1 (List.mem_of_getElem? (i := 231) rfl) rfl, List.forall_mem_cons.mpr ⟨tb1 (List.mem_of_getElem? (i := 233) rfl) rfl, List.forall_mem_cons.mpr ⟨tb1 (List.mem_of_getElem? (i := 235) rfl) rfl, List.forall_mem_cons.mpr ⟨tb1 (List.mem_of_getElem? (i := 237) rfl) rfl, List.forall_mem_cons.mpr ⟨tb1 (List.mem_of_getElem? (i := 239) rfl) rfl, List.forall_mem_cons.mpr ⟨tb2 (List.mem_of_getElem? (i := 1) rfl) rfl, List.forall_mem_cons.mpr ⟨tb2 (List.mem_of_getElem? (i := 3) rfl) rfl, List.forall_mem_cons.mpr ⟨tb2 (List.mem_of_getElem? (i := 5) rfl) rfl, List.forall_mem_cons.mpr ⟨tb2 (List.mem_of_getElem? (i := 7) rfl) rfl, List.forall_mem_cons.mpr ⟨tb2 (List.mem_of_getElem? (i := 9) rfl) rfl, List.forall_mem_cons.mpr ⟨tb2 (List.mem_of_getElem? (i := 11) rfl) rfl, fun _ h => absurd h List.not_mem_nil⟩⟩⟩⟩⟩⟩⟩⟩⟩⟩⟩
theorem inX6 : ∀ w ∈ u_ws RX6 TX6 3, w ∈ TB := List.forall_mem_cons.mpr ⟨tb2 (List.mem_of_getElem? (i := 23) rfl) rfl, List.forall_mem_cons.mpr ⟨tb2 (List.mem_of_getElem? (i := 25) rfl) rfl, List.forall_mem_cons.mpr ⟨tb2 (List.mem_of_getElem? (i := 27) rfl) rfl, fun _ h => absurd h List.not_mem_nil⟩⟩⟩
theorem inX7 : ∀ w ∈ u_ws RX7 TX7 4, w ∈ TB := List.forall_mem_cons.mpr ⟨tb2 (List.mem_of_getElem? (i := 93) rfl) rfl, List.forall_mem_cons.mpr ⟨tb2 (List.mem_of_getElem? (i := 95) rfl) rfl, List.forall_mem_cons.mpr ⟨tb2 (List.mem_of_getElem? (i := 97) rfl) rfl, List.forall_mem_cons.mpr ⟨tb2 (List.mem_of_getElem? (i := 99) rfl) rfl, fun _ h => absurd h List.not_mem_nil⟩⟩⟩⟩
theorem inX8 : ∀ w ∈ u_ws RX8 TX8 5, w ∈ TB := List.forall_mem_cons.mpr ⟨tb1 (List.mem_of_getElem? (i := 157) rfl) rfl, List.forall_mem_cons.mpr ⟨tb1 (List.mem_of_getElem? (i := 159) rfl) rfl, List.forall_mem_cons.mpr ⟨tb1 (List.mem_of_getElem? (i := 161) rfl) rfl, List.forall_mem_cons.mpr ⟨tb1 (List.mem_of_getElem? (i := 163) rfl) rfl, List.forall_mem_cons.mpr ⟨tb1 (List.mem_of_getElem? (i := 165) rfl) rfl, fun _ h => absurd h List.not_mem_nil⟩⟩⟩⟩⟩
theorem inX9 : ∀ w ∈ u_ws RX9 TX9 8, w ∈ TB := List.forall_mem_cons.mpr ⟨tb1 (List.mem_of_getElem? (i := 61) rfl) rfl, List.forall_mem_cons.mpr ⟨tb1 (List.mem_of_getElem? (i := 63) rfl) rfl, List.forall_mem_cons.mpr ⟨tb1 (List.mem_of_getElem? (i := 65) rfl) rfl, List.forall_mem_cons.mpr ⟨tb1 (List.mem_of_getElem? (i := 67) rfl) rfl, List.forall_mem_cons.mpr ⟨tb1 (List.mem_of_getElem? (i := 69) rfl) rfl, List.forall_mem_cons.mpr ⟨tb1 (List.mem_of_getElem? (i := 71) rfl) rfl, List.forall_mem_cons.mpr ⟨tb1 (List.mem_of_getElem? (i := 73) rfl) rfl, List.forall_mem_cons.mpr ⟨tb1 (List.mem_of_getElem? (i := 75) rfl) rfl, fun _ h => absurd h List.not_mem_nil⟩⟩⟩⟩⟩⟩⟩⟩
theorem inX10 : ∀ w ∈ u_ws RX10 TX10 4, w ∈ TB := List.forall_mem_cons.mpr ⟨tb1 (List.mem_of_getElem? (i := 199) rfl) rfl, List.forall_mem_cons.mpr ⟨tb1 (List.mem_of_getElem? (i := 201) rfl) rfl, List.forall_mem_cons.mpr ⟨tb1 (List.mem_of_getElem? (i := 203) rfl) rfl, List.forall_mem_cons.mpr ⟨tb1 (List.mem_of_getElem? (i := 205) rfl) rfl, fun _ h => absurd h List.not_mem_nil⟩⟩⟩⟩
theorem inX11 : ∀ w ∈ u_ws RX11 TX11 15, w ∈ TB := List.forall_mem_cons.mpr ⟨tb2 (List.mem_of_getElem? (i := 118) rfl) rfl, List.forall_mem_cons.mpr ⟨tb2 (List.mem_of_getElem? (i := 120) rfl) rfl, List.forall_mem_cons.mpr ⟨tb2 (List.mem_of_getElem? (i := 122) rfl) rfl, List.forall_mem_cons.mpr ⟨tb2 (List.mem_of_getElem? (i := 124) rfl) rfl, List.forall_mem_cons.mpr ⟨tb2 (List.mem_of_getElem? (i := 126) rfl) rfl, List.forall_mem_cons.mpr ⟨tb2 (List.mem_of_getElem? (i := 128) rfl) rfl, List.forall_mem_cons.mpr ⟨tb2 (List.mem_of_getElem? (i := 130) rfl) rfl, List.forall_mem_cons.mpr ⟨tb2 (List.mem_of_getElem? (i := 132) rfl) rfl, List.forall_mem_cons.mpr ⟨tb2 (List.mem_of_getElem? (i := 134) rfl) rfl, List.forall_mem_cons.mpr ⟨tb2 (List.mem_of_getElem? (i := 136) rfl) rfl, List.forall_mem_cons.mpr ⟨tb2 (List.mem_of_getElem? (i := 138) rfl) rfl, List.forall_mem_cons.mpr ⟨tb2 (List.mem_of_getElem? (i := 140) rfl) rfl, List.forall_mem_cons.mpr ⟨tb2 (List.mem_of_getElem? (i := 142) rfl) rfl, List.forall_mem_cons.mpr ⟨tb2 (List.mem_of_getElem? (i := 144) rfl) rfl, List.forall_mem_cons.mpr ⟨tb2 (List.mem_of_getElem? (i := 146) rfl) rfl, fun _ h => absurd h List.not_mem_nil⟩⟩⟩⟩⟩⟩⟩⟩⟩⟩⟩⟩⟩⟩⟩
theorem inX12 : ∀ w ∈ u_ws RX12 TX12 63, w ∈ TB := List.forall_mem_cons.mpr ⟨tb5 (List.mem_of_getElem? (i := 161) rfl) rfl, List.forall_mem_cons.mpr ⟨tb5 (List.mem_of_getElem? (i := 163) rfl) rfl, List.forall_mem_cons.mpr ⟨tb5 (List.mem_of_getElem? (i := 165) rfl) rfl, List.forall_mem_cons.mpr ⟨tb5 (List.mem_of_getElem? (i := 167) rfl) rfl, List.forall_mem_cons.mpr ⟨tb5 (List.mem_of_getElem? (i := 169) rfl) rfl, List.forall_mem_cons.mpr ⟨tb5 (List.mem_of_getElem? (i := 171) rfl) rfl, List.forall_mem_cons.mpr ⟨tb5 (List.mem_of_getElem? (i := 173) rfl) rfl, List.forall_mem_cons.mpr ⟨tb5 (List.mem_of_getElem? (i := 175) rfl) rfl, List.forall_mem_cons.mpr ⟨tb5 (List.mem_of_getElem? (i := 177) rfl) rfl, List.forall_mem_cons.mpr ⟨tb5 (List.mem_of_getElem? (i := 179) rfl) rfl, List.forall_mem_cons.mpr ⟨tb5 (List.mem_of_getElem? (i := 181) rfl) rfl, List.forall_mem_cons.mpr ⟨tb5 (List.mem_of_getElem? (i := 183) rfl) rfl, List.forall_mem_cons.mpr ⟨tb5 (List.mem_of_getElem? (i := 185) rfl) rfl, List.forall_mem_cons.mpr ⟨tb5 (List.mem_of_getElem? (i := 187) rfl) rfl, List.forall_mem_cons.mpr ⟨tb5 (List.mem_of_getElem? (i := 189) rfl) rfl, List.forall_mem_cons.mpr ⟨tb5 (List.mem_of_getElem? (i := 191) rfl) rfl, List.forall_mem_cons.mpr ⟨tb5 (List.mem_of_getElem? (i := 193) rfl) rfl, List.forall_mem_cons.mpr ⟨tb5 (List.mem_of_getElem? (i := 195) rfl) rfl, List.forall_mem_cons.mpr ⟨tb5 (List.mem_of_getElem? (i := 197) rfl) rfl, List.forall_mem_cons.mpr ⟨tb5 (List.mem_of_getElem? (i := 199) rfl) rfl, List.forall_mem_cons.mpr ⟨tb5 (List.mem_of_getElem? (i := 201) rfl) rfl, List.forall_mem_cons.mpr ⟨tb5 (List.mem_of_getElem? (i := 203) rfl) rfl, List.forall_mem_cons.mpr ⟨tb5 (List.mem_of_getElem? (i := 205) rfl) rfl, List.forall_mem_cons.mpr ⟨tb5 (List.mem_of_getElem? (i := 207) rfl) rfl, List.forall_mem_cons.mpr ⟨tb5 (List.mem_of_getElem? (i := 209) rfl) rfl, List.forall_mem_cons.mpr ⟨tb5 (List.mem_of_getElem? (i := 211) rfl) rfl, List.forall_mem_cons.mpr ⟨tb5 (List.mem_of_getElem? (i := 213) rfl) rfl, List.forall_mem_cons.mpr ⟨tb5 (List.mem_of_getElem? (i := 215) rfl) rfl, List.forall_mem_cons.mpr ⟨tb5 (List.mem_of_getElem? (i := 217) rfl) rfl, List.forall_mem_cons.mpr ⟨tb5 (List.mem_of_getElem? (i := 219) rfl) rfl, List.forall_mem_cons.mpr ⟨tb5 (List.mem_of_getElem? (i := 221) rfl) rfl, List.forall_mem_cons.mpr ⟨tb5 (List.mem_of_getElem? (i := 223) rfl) rfl, List.forall_mem_cons.mpr ⟨tb5 (List.mem_of_getElem? (i := 225) rfl) rfl, List.forall_mem_cons.mpr ⟨tb5 (List.mem_of_getElem? (i := 227) rfl) rfl, List.forall_mem_cons.mpr ⟨tb5 (List.mem_of_getElem? (i := 229) rfl) rfl, List.forall_mem_cons.mpr ⟨tb5 (List.mem_of_getElem? (i := 231) rfl) rfl, List.forall_mem_cons.mpr ⟨tb5 (List.mem_of_getElem? (i := 233) rfl) rfl, List.forall_mem_cons.mpr ⟨tb5 (List.mem_of_getElem? (i := 235) rfl) rfl, List.forall_mem_cons.mpr ⟨tb5 (List.mem_of_getElem? (i := 237) rfl) rfl, List.forall_mem_cons.mpr ⟨tb5 (List.mem_of_getElem? (i := 239) rfl) rfl, List.forall_mem_cons.mpr ⟨tb6 (List.mem_of_getElem? (i := 1) rfl) rfl, List.forall_mem_cons.mpr ⟨tb6 (List.mem_of_getElem? (i := 3) rfl) rfl, List.forall_mem_cons.mpr ⟨tb6 (List.mem_of_getElem? (i := 5) rfl) rfl, List.forall_mem_cons.mpr ⟨tb6 (List.mem_of_getElem? (i := 7) rfl) rfl, List.forall_mem_cons.mpr ⟨tb6 (List.mem_of_getElem? (i := 9) rfl) rfl, List.forall_mem_cons.mpr ⟨tb6 (List.mem_of_getElem? (i := 11) rfl) rfl, List.forall_mem_cons.mpr ⟨tb6 (List.mem_of_getElem? (i := 13) rfl) rfl, List.forall_mem_cons.mpr ⟨tb6 (List.mem_of_getElem? (i := 15) rfl) rfl, List.forall_mem_cons.mpr ⟨tb6 (List.mem_of_getElem? (i := 17) rfl) rfl, List.forall_mem_cons.mpr ⟨tb6 (List.mem_of_getElem? (i := 19) rfl) rfl, List.forall_mem_cons.mpr ⟨tb6 (List.mem_of_getElem? (i := 21) rfl) rfl, List.forall_mem_cons.mpr ⟨tb6 (List.mem_of_getElem? (i := 23) rfl) rfl, List.forall_mem_cons.mpr ⟨tb6 (List.mem_of_getElem? (i := 25) rfl) rfl, List.forall_mem_cons.mpr ⟨tb6 (List.mem_of_getElem? (i := 27) rfl) rfl, List.forall_mem_cons.mpr ⟨tb6 (List.mem_of_getElem? (i := 29) rfl) rfl, List.forall_mem_cons.mpr ⟨tb6 (List.mem_of_getElem? (i := 31) rfl) rfl, List.forall_mem_cons.mpr ⟨tb6 (List.mem_of_getElem? (i := 33) rfl) rfl, List.forall_mem_cons.mpr ⟨tb6 (List.mem_of_getElem? (i := 35) rfl) rfl, List.forall_mem_cons.mpr ⟨tb6 (List.mem_of_getElem? (i := 37) rfl) rfl, List.forall_mem_cons.mpr ⟨tb6 (List.mem_of_getElem? (i := 39) rfl) rfl, List.forall_mem_cons.mpr ⟨tb6 (List.mem_of_getElem? (i := 41) rfl) rfl, List.forall_mem_cons.mpr ⟨tb6 (List.mem_of_getElem? (i := 43) rfl) rfl, List.forall_mem_cons.mpr ⟨tb6 (List.mem_of_getElem? (i := 45) rfl) rfl, fun _ h => absurd h List.not_mem_nil⟩⟩⟩⟩⟩⟩⟩⟩⟩⟩⟩⟩⟩⟩⟩⟩⟩⟩⟩⟩⟩⟩⟩⟩⟩⟩⟩⟩⟩⟩⟩⟩⟩⟩⟩⟩⟩⟩⟩⟩⟩⟩⟩⟩⟩⟩⟩⟩⟩⟩⟩⟩⟩⟩⟩⟩⟩⟩⟩⟩⟩⟩⟩
