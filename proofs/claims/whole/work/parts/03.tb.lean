/-- the tables' words that stay: every method's words are these, behind its own code -/
def TB : List Cond := lw_tbl.filter goodWord
theorem TB_of {w : Cond} (h : w ∈ lw_tbl) (hg : goodWord w = true) : w ∈ TB := List.mem_filter.mpr ⟨h, hg⟩
theorem TB_good {w : Cond} (h : w ∈ TB) : (w.onTables && w.keeps) = true ∨ ∃ ty, w = .arrayClass ty := good_of_word (List.mem_filter.mp h).2
theorem tb_1 {w : Cond} (h : w ∈ tables_1_1) : w ∈ lw_tbl := List.mem_append_right _ (List.mem_append_left _ h)
theorem tb_2 {w : Cond} (h : w ∈ tables_1_2) : w ∈ lw_tbl := List.mem_append_right _ (List.mem_append_right _ (List.mem_append_left _ h))
theorem tb_3 {w : Cond} (h : w ∈ tables_1_3) : w ∈ lw_tbl := List.mem_append_right _ (List.mem_append_right _ (List.mem_append_right _ (List.mem_append_left _ h)))
theorem tb_4 {w : Cond} (h : w ∈ tables_1_4) : w ∈ lw_tbl := List.mem_append_right _ (List.mem_append_right _ (List.mem_append_right _ (List.mem_append_right _ (List.mem_append_left _ h))))
theorem tb_5 {w : Cond} (h : w ∈ tables_1_5) : w ∈ lw_tbl := List.mem_append_right _ (List.mem_append_right _ (List.mem_append_right _ (List.mem_append_right _ (List.mem_append_right _ (h)))))
theorem tb_0 {w : Cond} (h : w ∈ k2_sels lw_privs) : w ∈ lw_tbl := List.mem_append_left _ h
theorem win_RL : Cond.initialized RL ∈ TB := TB_of (tb_1 (List.mem_of_getElem? (i := 0) rfl)) rfl
theorem win_RX6 : Cond.initialized RX6 ∈ TB := TB_of (tb_1 (List.mem_of_getElem? (i := 1) rfl)) rfl
theorem win_RX0 : Cond.initialized RX0 ∈ TB := TB_of (tb_1 (List.mem_of_getElem? (i := 2) rfl)) rfl
theorem win_RX4 : Cond.initialized RX4 ∈ TB := TB_of (tb_1 (List.mem_of_getElem? (i := 3) rfl)) rfl
theorem win_RJ7 : Cond.initialized RJ7 ∈ TB := TB_of (tb_1 (List.mem_of_getElem? (i := 4) rfl)) rfl
theorem win_RX1 : Cond.initialized RX1 ∈ TB := TB_of (tb_1 (List.mem_of_getElem? (i := 5) rfl)) rfl
theorem win_RX5 : Cond.initialized RX5 ∈ TB := TB_of (tb_1 (List.mem_of_getElem? (i := 6) rfl)) rfl
theorem win_RX3 : Cond.initialized RX3 ∈ TB := TB_of (tb_1 (List.mem_of_getElem? (i := 7) rfl)) rfl
theorem win_RX2 : Cond.initialized RX2 ∈ TB := TB_of (tb_1 (List.mem_of_getElem? (i := 8) rfl)) rfl
theorem win_RX7 : Cond.initialized RX7 ∈ TB := TB_of (tb_1 (List.mem_of_getElem? (i := 9) rfl)) rfl
theorem win_RJ10 : Cond.initialized RJ10 ∈ TB := TB_of (tb_1 (List.mem_of_getElem? (i := 10) rfl)) rfl
theorem win_RJ9 : Cond.initialized RJ9 ∈ TB := TB_of (tb_1 (List.mem_of_getElem? (i := 11) rfl)) rfl
theorem win_RJ6 : Cond.initialized RJ6 ∈ TB := TB_of (tb_1 (List.mem_of_getElem? (i := 12) rfl)) rfl
theorem wcl_RL_7 : Cond.classLink RL 7 RX6 ∈ TB := TB_of (tb_1 (List.mem_of_getElem? (i := 13) rfl)) rfl
theorem wis_RX6 : Cond.instantiable RX6 12 ∈ TB := TB_of (tb_1 (List.mem_of_getElem? (i := 14) rfl)) rfl
theorem wml_RL_9 : Cond.methodLink RL 9 yX6_init ∈ TB := TB_of (tb_1 (List.mem_of_getElem? (i := 15) rfl)) rfl
theorem wim_X6_init : Cond.instanceMethod yX6_init ∈ TB := TB_of (tb_1 (List.mem_of_getElem? (i := 16) rfl)) rfl
theorem wcd_X6_init : Cond.code yX6_init cX6_init 1 none ∈ TB := TB_of (tb_1 (List.mem_of_getElem? (i := 17) rfl)) rfl
theorem wml_RX6_1 : Cond.methodLink RX6 1 objectInit ∈ TB := TB_of (tb_1 (List.mem_of_getElem? (i := 18) rfl)) rfl
theorem wim_obj : Cond.instanceMethod objectInit ∈ TB := TB_of (tb_1 (List.mem_of_getElem? (i := 19) rfl)) rfl
theorem wcd_obj : Cond.code objectInit ⟨#[0xb1]⟩ 1 none ∈ TB := TB_of (tb_1 (List.mem_of_getElem? (i := 20) rfl)) rfl
theorem wcl_RX6_7 : Cond.classLink RX6 7 RX0 ∈ TB := TB_of (tb_1 (List.mem_of_getElem? (i := 21) rfl)) rfl
theorem wis_RX0 : Cond.instantiable RX0 19 ∈ TB := TB_of (tb_1 (List.mem_of_getElem? (i := 22) rfl)) rfl
theorem wml_RX6_9 : Cond.methodLink RX6 9 yX0_init ∈ TB := TB_of (tb_1 (List.mem_of_getElem? (i := 23) rfl)) rfl
theorem wim_X0_init : Cond.instanceMethod yX0_init ∈ TB := TB_of (tb_1 (List.mem_of_getElem? (i := 24) rfl)) rfl
theorem wcd_X0_init : Cond.code yX0_init cX0_init 2 none ∈ TB := TB_of (tb_1 (List.mem_of_getElem? (i := 25) rfl)) rfl
theorem wml_RX0_3 : Cond.methodLink RX0 3 objectInit ∈ TB := TB_of (tb_1 (List.mem_of_getElem? (i := 26) rfl)) rfl
theorem wml_RX0_46 : Cond.methodLink RX0 46 yX4_isGangway ∈ TB := TB_of (tb_1 (List.mem_of_getElem? (i := 27) rfl)) rfl
theorem wst_X4_isGangway : Cond.static yX4_isGangway ∈ TB := TB_of (tb_1 (List.mem_of_getElem? (i := 28) rfl)) rfl
theorem wcd_X4_isGangway : Cond.code yX4_isGangway cX4_isGangway 1 (some .boolean) ∈ TB := TB_of (tb_1 (List.mem_of_getElem? (i := 29) rfl)) rfl
theorem wst_X6_isWithin : Cond.static yX6_isWithin ∈ TB := TB_of (tb_1 (List.mem_of_getElem? (i := 31) rfl)) rfl
theorem wcd_X6_isWithin : Cond.code yX6_isWithin cX6_isWithin 3 (some .boolean) ∈ TB := TB_of (tb_1 (List.mem_of_getElem? (i := 32) rfl)) rfl
theorem wml_RX0_52 : Cond.methodLink RX0 52 yJ7_fill_53178 ∈ TB := TB_of (tb_1 (List.mem_of_getElem? (i := 33) rfl)) rfl
theorem wst_J7_fill_53178 : Cond.static yJ7_fill_53178 ∈ TB := TB_of (tb_1 (List.mem_of_getElem? (i := 34) rfl)) rfl
theorem wcd_J7_fill_53178 : Cond.code yJ7_fill_53178 cJ7_fill_53178 4 none ∈ TB := TB_of (tb_1 (List.mem_of_getElem? (i := 35) rfl)) rfl
theorem wco_RX0_58 : Cond.constant RX0 58 65535 ∈ TB := TB_of (tb_1 (List.mem_of_getElem? (i := 36) rfl)) rfl
theorem wfl_RX0_9 : Cond.fieldLink RX0 9 "RoofOrdinances$City" "borne" "[I" ∈ TB := TB_of (tb_1 (List.mem_of_getElem? (i := 37) rfl)) rfl
theorem wfl_RX6_66 : Cond.fieldLink RX6 66 "RoofOrdinances$City" "borne" "[I" ∈ TB := TB_of (tb_1 (List.mem_of_getElem? (i := 38) rfl)) rfl
theorem wfl_RX5_28 : Cond.fieldLink RX5 28 "RoofOrdinances$City" "borne" "[I" ∈ TB := TB_of (tb_1 (List.mem_of_getElem? (i := 39) rfl)) rfl
theorem wfl_RX0_15 : Cond.fieldLink RX0 15 "RoofOrdinances$City" "hangers" "[I" ∈ TB := TB_of (tb_1 (List.mem_of_getElem? (i := 40) rfl)) rfl
theorem wfl_RX6_205 : Cond.fieldLink RX6 205 "RoofOrdinances$City" "hangers" "[I" ∈ TB := TB_of (tb_1 (List.mem_of_getElem? (i := 41) rfl)) rfl
theorem wfl_RX0_18 : Cond.fieldLink RX0 18 "RoofOrdinances$City" "soot" "[I" ∈ TB := TB_of (tb_1 (List.mem_of_getElem? (i := 42) rfl)) rfl
theorem wfl_RX6_208 : Cond.fieldLink RX6 208 "RoofOrdinances$City" "soot" "[I" ∈ TB := TB_of (tb_1 (List.mem_of_getElem? (i := 43) rfl)) rfl
theorem wfl_RX0_21 : Cond.fieldLink RX0 21 "RoofOrdinances$City" "spots" "[I" ∈ TB := TB_of (tb_1 (List.mem_of_getElem? (i := 44) rfl)) rfl
theorem wfl_RX6_211 : Cond.fieldLink RX6 211 "RoofOrdinances$City" "spots" "[I" ∈ TB := TB_of (tb_1 (List.mem_of_getElem? (i := 45) rfl)) rfl
theorem wfl_RX0_24 : Cond.fieldLink RX0 24 "RoofOrdinances$City" "weights" "[I" ∈ TB := TB_of (tb_1 (List.mem_of_getElem? (i := 46) rfl)) rfl
theorem wfl_RX6_101 : Cond.fieldLink RX6 101 "RoofOrdinances$City" "weights" "[I" ∈ TB := TB_of (tb_1 (List.mem_of_getElem? (i := 47) rfl)) rfl
theorem wfl_RX0_27 : Cond.fieldLink RX0 27 "RoofOrdinances$City" "keys" "[I" ∈ TB := TB_of (tb_1 (List.mem_of_getElem? (i := 48) rfl)) rfl
theorem wfl_RX6_104 : Cond.fieldLink RX6 104 "RoofOrdinances$City" "keys" "[I" ∈ TB := TB_of (tb_1 (List.mem_of_getElem? (i := 49) rfl)) rfl
theorem wfl_RX0_30 : Cond.fieldLink RX0 30 "RoofOrdinances$City" "places" "[I" ∈ TB := TB_of (tb_1 (List.mem_of_getElem? (i := 50) rfl)) rfl
theorem wfl_RX5_70 : Cond.fieldLink RX5 70 "RoofOrdinances$City" "places" "[I" ∈ TB := TB_of (tb_1 (List.mem_of_getElem? (i := 51) rfl)) rfl
theorem wfl_RX6_220 : Cond.fieldLink RX6 220 "RoofOrdinances$City" "places" "[I" ∈ TB := TB_of (tb_1 (List.mem_of_getElem? (i := 52) rfl)) rfl
theorem wfl_RX0_33 : Cond.fieldLink RX0 33 "RoofOrdinances$City" "walks" "[I" ∈ TB := TB_of (tb_1 (List.mem_of_getElem? (i := 53) rfl)) rfl
theorem wfl_RX6_229 : Cond.fieldLink RX6 229 "RoofOrdinances$City" "walks" "[I" ∈ TB := TB_of (tb_1 (List.mem_of_getElem? (i := 54) rfl)) rfl
theorem wfl_RX0_65 : Cond.fieldLink RX0 65 "RoofOrdinances$City" "truces" "I" ∈ TB := TB_of (tb_1 (List.mem_of_getElem? (i := 55) rfl)) rfl
theorem wfl_RX6_217 : Cond.fieldLink RX6 217 "RoofOrdinances$City" "truces" "I" ∈ TB := TB_of (tb_1 (List.mem_of_getElem? (i := 56) rfl)) rfl
theorem wfl_RX0_68 : Cond.fieldLink RX0 68 "RoofOrdinances$City" "chimneys" "I" ∈ TB := TB_of (tb_1 (List.mem_of_getElem? (i := 57) rfl)) rfl
theorem wfl_RX6_171 : Cond.fieldLink RX6 171 "RoofOrdinances$City" "chimneys" "I" ∈ TB := TB_of (tb_1 (List.mem_of_getElem? (i := 58) rfl)) rfl
theorem wfl_RX0_71 : Cond.fieldLink RX0 71 "RoofOrdinances$City" "coops" "I" ∈ TB := TB_of (tb_1 (List.mem_of_getElem? (i := 59) rfl)) rfl
theorem wfl_RX6_94 : Cond.fieldLink RX6 94 "RoofOrdinances$City" "coops" "I" ∈ TB := TB_of (tb_1 (List.mem_of_getElem? (i := 60) rfl)) rfl
theorem wfl_RX0_36 : Cond.fieldLink RX0 36 "RoofOrdinances$City" "windTo" "I" ∈ TB := TB_of (tb_1 (List.mem_of_getElem? (i := 61) rfl)) rfl
theorem wfl_RX6_74 : Cond.fieldLink RX6 74 "RoofOrdinances$City" "windTo" "I" ∈ TB := TB_of (tb_1 (List.mem_of_getElem? (i := 62) rfl)) rfl
theorem wfl_RX0_40 : Cond.fieldLink RX0 40 "RoofOrdinances$City" "smokeReach" "I" ∈ TB := TB_of (tb_1 (List.mem_of_getElem? (i := 63) rfl)) rfl
theorem wfl_RX6_111 : Cond.fieldLink RX6 111 "RoofOrdinances$City" "smokeReach" "I" ∈ TB := TB_of (tb_1 (List.mem_of_getElem? (i := 64) rfl)) rfl
theorem wfl_RX0_74 : Cond.fieldLink RX0 74 "RoofOrdinances$City" "dayNumber" "I" ∈ TB := TB_of (tb_1 (List.mem_of_getElem? (i := 65) rfl)) rfl
theorem wfl_RX0_43 : Cond.fieldLink RX0 43 "RoofOrdinances$City" "lot" "I" ∈ TB := TB_of (tb_1 (List.mem_of_getElem? (i := 66) rfl)) rfl
theorem wfl_RX0_77 : Cond.fieldLink RX0 77 "RoofOrdinances$City" "hung" "I" ∈ TB := TB_of (tb_1 (List.mem_of_getElem? (i := 67) rfl)) rfl
theorem wfl_RX0_80 : Cond.fieldLink RX0 80 "RoofOrdinances$City" "taken" "I" ∈ TB := TB_of (tb_1 (List.mem_of_getElem? (i := 68) rfl)) rfl
theorem wfl_RX0_83 : Cond.fieldLink RX0 83 "RoofOrdinances$City" "fallen" "I" ∈ TB := TB_of (tb_1 (List.mem_of_getElem? (i := 69) rfl)) rfl
theorem wfl_RX0_86 : Cond.fieldLink RX0 86 "RoofOrdinances$City" "refused" "I" ∈ TB := TB_of (tb_1 (List.mem_of_getElem? (i := 70) rfl)) rfl
theorem wla_RX0_borne : Cond.laysFinal RX0 "RoofOrdinances$City" "borne" "[I" ∈ TB := TB_of (tb_1 (List.mem_of_getElem? (i := 71) rfl)) rfl
theorem wla_RX0_hangers : Cond.laysFinal RX0 "RoofOrdinances$City" "hangers" "[I" ∈ TB := TB_of (tb_1 (List.mem_of_getElem? (i := 73) rfl)) rfl
theorem wla_RX0_soot : Cond.laysFinal RX0 "RoofOrdinances$City" "soot" "[I" ∈ TB := TB_of (tb_1 (List.mem_of_getElem? (i := 75) rfl)) rfl
theorem wla_RX0_spots : Cond.laysFinal RX0 "RoofOrdinances$City" "spots" "[I" ∈ TB := TB_of (tb_1 (List.mem_of_getElem? (i := 77) rfl)) rfl
theorem wla_RX0_weights : Cond.laysFinal RX0 "RoofOrdinances$City" "weights" "[I" ∈ TB := TB_of (tb_1 (List.mem_of_getElem? (i := 79) rfl)) rfl
theorem wla_RX0_keys : Cond.laysFinal RX0 "RoofOrdinances$City" "keys" "[I" ∈ TB := TB_of (tb_1 (List.mem_of_getElem? (i := 81) rfl)) rfl
theorem wla_RX0_places : Cond.laysFinal RX0 "RoofOrdinances$City" "places" "[I" ∈ TB := TB_of (tb_1 (List.mem_of_getElem? (i := 83) rfl)) rfl
theorem wla_RX0_walks : Cond.laysFinal RX0 "RoofOrdinances$City" "walks" "[I" ∈ TB := TB_of (tb_1 (List.mem_of_getElem? (i := 85) rfl)) rfl
theorem wla_RX0_truces : Cond.lays RX0 "RoofOrdinances$City" "truces" "I" ∈ TB := TB_of (tb_1 (List.mem_of_getElem? (i := 87) rfl)) rfl
theorem wla_RX0_chimneys : Cond.lays RX0 "RoofOrdinances$City" "chimneys" "I" ∈ TB := TB_of (tb_1 (List.mem_of_getElem? (i := 89) rfl)) rfl
theorem wla_RX0_coops : Cond.lays RX0 "RoofOrdinances$City" "coops" "I" ∈ TB := TB_of (tb_1 (List.mem_of_getElem? (i := 91) rfl)) rfl
theorem wla_RX0_windTo : Cond.lays RX0 "RoofOrdinances$City" "windTo" "I" ∈ TB := TB_of (tb_1 (List.mem_of_getElem? (i := 93) rfl)) rfl
theorem wla_RX0_smokeReach : Cond.lays RX0 "RoofOrdinances$City" "smokeReach" "I" ∈ TB := TB_of (tb_1 (List.mem_of_getElem? (i := 95) rfl)) rfl
theorem wla_RX0_dayNumber : Cond.lays RX0 "RoofOrdinances$City" "dayNumber" "I" ∈ TB := TB_of (tb_1 (List.mem_of_getElem? (i := 97) rfl)) rfl
theorem wla_RX0_lot : Cond.lays RX0 "RoofOrdinances$City" "lot" "I" ∈ TB := TB_of (tb_1 (List.mem_of_getElem? (i := 99) rfl)) rfl
theorem wla_RX0_hung : Cond.lays RX0 "RoofOrdinances$City" "hung" "I" ∈ TB := TB_of (tb_1 (List.mem_of_getElem? (i := 101) rfl)) rfl
theorem wla_RX0_taken : Cond.lays RX0 "RoofOrdinances$City" "taken" "I" ∈ TB := TB_of (tb_1 (List.mem_of_getElem? (i := 103) rfl)) rfl
theorem wla_RX0_fallen : Cond.lays RX0 "RoofOrdinances$City" "fallen" "I" ∈ TB := TB_of (tb_1 (List.mem_of_getElem? (i := 105) rfl)) rfl
theorem wla_RX0_refused : Cond.lays RX0 "RoofOrdinances$City" "refused" "I" ∈ TB := TB_of (tb_1 (List.mem_of_getElem? (i := 107) rfl)) rfl
theorem wac_int : Cond.arrayClass .int ∈ TB := TB_of (tb_1 (List.mem_of_getElem? (i := 110) rfl)) rfl
theorem wcl_RX6_22 : Cond.classLink RX6 22 RX1 ∈ TB := TB_of (tb_1 (List.mem_of_getElem? (i := 111) rfl)) rfl
theorem wis_RX1 : Cond.instantiable RX1 2 ∈ TB := TB_of (tb_1 (List.mem_of_getElem? (i := 112) rfl)) rfl
theorem wml_RX6_24 : Cond.methodLink RX6 24 yX1_init ∈ TB := TB_of (tb_1 (List.mem_of_getElem? (i := 113) rfl)) rfl
theorem wim_X1_init : Cond.instanceMethod yX1_init ∈ TB := TB_of (tb_1 (List.mem_of_getElem? (i := 114) rfl)) rfl
theorem wcd_X1_init : Cond.code yX1_init cX1_init 2 none ∈ TB := TB_of (tb_1 (List.mem_of_getElem? (i := 115) rfl)) rfl
theorem wml_RX1_3 : Cond.methodLink RX1 3 objectInit ∈ TB := TB_of (tb_1 (List.mem_of_getElem? (i := 116) rfl)) rfl
theorem wcl_RX1_9 : Cond.classLink RX1 9 RX0 ∈ TB := TB_of (tb_1 (List.mem_of_getElem? (i := 117) rfl)) rfl
theorem wml_RX1_17 : Cond.methodLink RX1 17 yX0_init ∈ TB := TB_of (tb_1 (List.mem_of_getElem? (i := 119) rfl)) rfl
theorem wfl_RX1_11 : Cond.fieldLink RX1 11 "RoofOrdinances$History" "states" "[LRoofOrdinances$City;" ∈ TB := TB_of (tb_1 (List.mem_of_getElem? (i := 120) rfl)) rfl
theorem wfl_RX1_22 : Cond.fieldLink RX1 22 "RoofOrdinances$History" "size" "I" ∈ TB := TB_of (tb_1 (List.mem_of_getElem? (i := 121) rfl)) rfl
theorem wfl_RX6_248 : Cond.fieldLink RX6 248 "RoofOrdinances$History" "size" "I" ∈ TB := TB_of (tb_1 (List.mem_of_getElem? (i := 122) rfl)) rfl
theorem wla_RX1_states : Cond.laysFinal RX1 "RoofOrdinances$History" "states" "[LRoofOrdinances$City;" ∈ TB := TB_of (tb_1 (List.mem_of_getElem? (i := 123) rfl)) rfl
theorem wla_RX1_size : Cond.lays RX1 "RoofOrdinances$History" "size" "I" ∈ TB := TB_of (tb_1 (List.mem_of_getElem? (i := 125) rfl)) rfl
theorem wcl_RX6_29 : Cond.classLink RX6 29 RX5 ∈ TB := TB_of (tb_1 (List.mem_of_getElem? (i := 128) rfl)) rfl
theorem wis_RX5 : Cond.instantiable RX5 2 ∈ TB := TB_of (tb_1 (List.mem_of_getElem? (i := 129) rfl)) rfl
theorem wim_X5_init : Cond.instanceMethod yX5_init ∈ TB := TB_of (tb_1 (List.mem_of_getElem? (i := 131) rfl)) rfl
theorem wcd_X5_init : Cond.code yX5_init cX5_init 1 none ∈ TB := TB_of (tb_1 (List.mem_of_getElem? (i := 132) rfl)) rfl
theorem wml_RX5_3 : Cond.methodLink RX5 3 objectInit ∈ TB := TB_of (tb_1 (List.mem_of_getElem? (i := 133) rfl)) rfl
theorem wfl_RX5_9 : Cond.fieldLink RX5 9 "RoofOrdinances$Ways" "groups" "[I" ∈ TB := TB_of (tb_1 (List.mem_of_getElem? (i := 134) rfl)) rfl
theorem wfl_RX5_15 : Cond.fieldLink RX5 15 "RoofOrdinances$Ways" "strengths" "[I" ∈ TB := TB_of (tb_1 (List.mem_of_getElem? (i := 135) rfl)) rfl
theorem wla_RX5_groups : Cond.laysFinal RX5 "RoofOrdinances$Ways" "groups" "[I" ∈ TB := TB_of (tb_1 (List.mem_of_getElem? (i := 136) rfl)) rfl
theorem wla_RX5_strengths : Cond.laysFinal RX5 "RoofOrdinances$Ways" "strengths" "[I" ∈ TB := TB_of (tb_1 (List.mem_of_getElem? (i := 138) rfl)) rfl
theorem wcl_RX6_36 : Cond.classLink RX6 36 RX3 ∈ TB := TB_of (tb_1 (List.mem_of_getElem? (i := 141) rfl)) rfl
theorem wis_RX3 : Cond.instantiable RX3 2 ∈ TB := TB_of (tb_1 (List.mem_of_getElem? (i := 142) rfl)) rfl
theorem wim_X3_init : Cond.instanceMethod yX3_init ∈ TB := TB_of (tb_1 (List.mem_of_getElem? (i := 144) rfl)) rfl
theorem wcd_X3_init : Cond.code yX3_init cX3_init 1 none ∈ TB := TB_of (tb_1 (List.mem_of_getElem? (i := 145) rfl)) rfl
theorem wml_RX3_3 : Cond.methodLink RX3 3 objectInit ∈ TB := TB_of (tb_1 (List.mem_of_getElem? (i := 146) rfl)) rfl
theorem wfl_RX3_9 : Cond.fieldLink RX3 9 "RoofOrdinances$Pad" "signs" "[C" ∈ TB := TB_of (tb_1 (List.mem_of_getElem? (i := 147) rfl)) rfl
theorem wfl_RX3_15 : Cond.fieldLink RX3 15 "RoofOrdinances$Pad" "length" "I" ∈ TB := TB_of (tb_1 (List.mem_of_getElem? (i := 148) rfl)) rfl
theorem wfl_RX2_26 : Cond.fieldLink RX2 26 "RoofOrdinances$Pad" "length" "I" ∈ TB := TB_of (tb_1 (List.mem_of_getElem? (i := 149) rfl)) rfl
theorem wfl_RX6_135 : Cond.fieldLink RX6 135 "RoofOrdinances$Pad" "length" "I" ∈ TB := TB_of (tb_1 (List.mem_of_getElem? (i := 150) rfl)) rfl
theorem wla_RX3_signs : Cond.laysFinal RX3 "RoofOrdinances$Pad" "signs" "[C" ∈ TB := TB_of (tb_1 (List.mem_of_getElem? (i := 151) rfl)) rfl
theorem wla_RX3_length : Cond.lays RX3 "RoofOrdinances$Pad" "length" "I" ∈ TB := TB_of (tb_1 (List.mem_of_getElem? (i := 153) rfl)) rfl
theorem wac_char : Cond.arrayClass .char ∈ TB := TB_of (tb_1 (List.mem_of_getElem? (i := 156) rfl)) rfl
theorem wcl_RX6_43 : Cond.classLink RX6 43 RX2 ∈ TB := TB_of (tb_1 (List.mem_of_getElem? (i := 157) rfl)) rfl
theorem wis_RX2 : Cond.instantiable RX2 6 ∈ TB := TB_of (tb_1 (List.mem_of_getElem? (i := 158) rfl)) rfl
theorem wml_RX6_45 : Cond.methodLink RX6 45 yX2_init ∈ TB := TB_of (tb_1 (List.mem_of_getElem? (i := 159) rfl)) rfl
theorem wim_X2_init : Cond.instanceMethod yX2_init ∈ TB := TB_of (tb_1 (List.mem_of_getElem? (i := 160) rfl)) rfl
theorem wcd_X2_init : Cond.code yX2_init cX2_init 2 none ∈ TB := TB_of (tb_1 (List.mem_of_getElem? (i := 161) rfl)) rfl
theorem wml_RX2_3 : Cond.methodLink RX2 3 objectInit ∈ TB := TB_of (tb_1 (List.mem_of_getElem? (i := 162) rfl)) rfl
theorem wfl_RX2_9 : Cond.fieldLink RX2 9 "RoofOrdinances$OrderReader" "text" "LRoofOrdinances$Pad;" ∈ TB := TB_of (tb_1 (List.mem_of_getElem? (i := 163) rfl)) rfl
theorem wfl_RX2_15 : Cond.fieldLink RX2 15 "RoofOrdinances$OrderReader" "position" "I" ∈ TB := TB_of (tb_1 (List.mem_of_getElem? (i := 164) rfl)) rfl
theorem wfl_RX2_35 : Cond.fieldLink RX2 35 "RoofOrdinances$OrderReader" "start" "I" ∈ TB := TB_of (tb_1 (List.mem_of_getElem? (i := 165) rfl)) rfl
theorem wfl_RX6_276 : Cond.fieldLink RX6 276 "RoofOrdinances$OrderReader" "start" "I" ∈ TB := TB_of (tb_1 (List.mem_of_getElem? (i := 166) rfl)) rfl
theorem wfl_RX2_42 : Cond.fieldLink RX2 42 "RoofOrdinances$OrderReader" "letter" "C" ∈ TB := TB_of (tb_1 (List.mem_of_getElem? (i := 167) rfl)) rfl
theorem wfl_RX6_279 : Cond.fieldLink RX6 279 "RoofOrdinances$OrderReader" "letter" "C" ∈ TB := TB_of (tb_1 (List.mem_of_getElem? (i := 168) rfl)) rfl
theorem wfl_RX2_57 : Cond.fieldLink RX2 57 "RoofOrdinances$OrderReader" "orderOwner" "I" ∈ TB := TB_of (tb_1 (List.mem_of_getElem? (i := 169) rfl)) rfl
theorem wfl_RX6_283 : Cond.fieldLink RX6 283 "RoofOrdinances$OrderReader" "orderOwner" "I" ∈ TB := TB_of (tb_1 (List.mem_of_getElem? (i := 170) rfl)) rfl
theorem wfl_RX2_68 : Cond.fieldLink RX2 68 "RoofOrdinances$OrderReader" "orderNumber" "I" ∈ TB := TB_of (tb_1 (List.mem_of_getElem? (i := 171) rfl)) rfl
theorem wfl_RX6_286 : Cond.fieldLink RX6 286 "RoofOrdinances$OrderReader" "orderNumber" "I" ∈ TB := TB_of (tb_1 (List.mem_of_getElem? (i := 172) rfl)) rfl
theorem wla_RX2_text : Cond.laysFinal RX2 "RoofOrdinances$OrderReader" "text" "LRoofOrdinances$Pad;" ∈ TB := TB_of (tb_1 (List.mem_of_getElem? (i := 173) rfl)) rfl
theorem wla_RX2_position : Cond.lays RX2 "RoofOrdinances$OrderReader" "position" "I" ∈ TB := TB_of (tb_1 (List.mem_of_getElem? (i := 175) rfl)) rfl
theorem wla_RX2_start : Cond.lays RX2 "RoofOrdinances$OrderReader" "start" "I" ∈ TB := TB_of (tb_1 (List.mem_of_getElem? (i := 177) rfl)) rfl
theorem wla_RX2_letter : Cond.lays RX2 "RoofOrdinances$OrderReader" "letter" "C" ∈ TB := TB_of (tb_1 (List.mem_of_getElem? (i := 179) rfl)) rfl
theorem wla_RX2_orderOwner : Cond.lays RX2 "RoofOrdinances$OrderReader" "orderOwner" "I" ∈ TB := TB_of (tb_1 (List.mem_of_getElem? (i := 181) rfl)) rfl
theorem wla_RX2_orderNumber : Cond.lays RX2 "RoofOrdinances$OrderReader" "orderNumber" "I" ∈ TB := TB_of (tb_1 (List.mem_of_getElem? (i := 183) rfl)) rfl
theorem wfl_RX6_10 : Cond.fieldLink RX6 10 "RoofOrdinances" "city" "LRoofOrdinances$City;" ∈ TB := TB_of (tb_1 (List.mem_of_getElem? (i := 186) rfl)) rfl
theorem wfl_RX6_16 : Cond.fieldLink RX6 16 "RoofOrdinances" "trial" "LRoofOrdinances$City;" ∈ TB := TB_of (tb_1 (List.mem_of_getElem? (i := 187) rfl)) rfl
theorem wfl_RX6_19 : Cond.fieldLink RX6 19 "RoofOrdinances" "snapshot" "LRoofOrdinances$City;" ∈ TB := TB_of (tb_1 (List.mem_of_getElem? (i := 188) rfl)) rfl
theorem wfl_RX6_273 : Cond.fieldLink RX6 273 "RoofOrdinances" "snapshotTaken" "Z" ∈ TB := TB_of (tb_1 (List.mem_of_getElem? (i := 189) rfl)) rfl
theorem wfl_RX6_25 : Cond.fieldLink RX6 25 "RoofOrdinances" "history" "LRoofOrdinances$History;" ∈ TB := TB_of (tb_1 (List.mem_of_getElem? (i := 190) rfl)) rfl
theorem wfl_RX6_32 : Cond.fieldLink RX6 32 "RoofOrdinances" "ways" "LRoofOrdinances$Ways;" ∈ TB := TB_of (tb_1 (List.mem_of_getElem? (i := 191) rfl)) rfl
theorem wfl_RX6_39 : Cond.fieldLink RX6 39 "RoofOrdinances" "pad" "LRoofOrdinances$Pad;" ∈ TB := TB_of (tb_1 (List.mem_of_getElem? (i := 192) rfl)) rfl
theorem wfl_RX6_48 : Cond.fieldLink RX6 48 "RoofOrdinances" "reader" "LRoofOrdinances$OrderReader;" ∈ TB := TB_of (tb_1 (List.mem_of_getElem? (i := 193) rfl)) rfl
theorem wfl_RX6_145 : Cond.fieldLink RX6 145 "RoofOrdinances" "stopped" "Z" ∈ TB := TB_of (tb_1 (List.mem_of_getElem? (i := 194) rfl)) rfl
theorem wfl_RX6_162 : Cond.fieldLink RX6 162 "RoofOrdinances" "stopCause" "I" ∈ TB := TB_of (tb_1 (List.mem_of_getElem? (i := 195) rfl)) rfl
theorem wfl_RX6_165 : Cond.fieldLink RX6 165 "RoofOrdinances" "stopNumber" "I" ∈ TB := TB_of (tb_1 (List.mem_of_getElem? (i := 196) rfl)) rfl
theorem wfl_RX6_168 : Cond.fieldLink RX6 168 "RoofOrdinances" "stopPosition" "I" ∈ TB := TB_of (tb_1 (List.mem_of_getElem? (i := 197) rfl)) rfl
theorem wla_RX6_city : Cond.laysFinal RX6 "RoofOrdinances" "city" "LRoofOrdinances$City;" ∈ TB := TB_of (tb_1 (List.mem_of_getElem? (i := 198) rfl)) rfl
theorem wla_RX6_trial : Cond.laysFinal RX6 "RoofOrdinances" "trial" "LRoofOrdinances$City;" ∈ TB := TB_of (tb_1 (List.mem_of_getElem? (i := 200) rfl)) rfl
theorem wla_RX6_snapshot : Cond.laysFinal RX6 "RoofOrdinances" "snapshot" "LRoofOrdinances$City;" ∈ TB := TB_of (tb_1 (List.mem_of_getElem? (i := 202) rfl)) rfl
theorem wla_RX6_snapshotTaken : Cond.lays RX6 "RoofOrdinances" "snapshotTaken" "Z" ∈ TB := TB_of (tb_1 (List.mem_of_getElem? (i := 204) rfl)) rfl
theorem wla_RX6_history : Cond.laysFinal RX6 "RoofOrdinances" "history" "LRoofOrdinances$History;" ∈ TB := TB_of (tb_1 (List.mem_of_getElem? (i := 206) rfl)) rfl
theorem wla_RX6_ways : Cond.laysFinal RX6 "RoofOrdinances" "ways" "LRoofOrdinances$Ways;" ∈ TB := TB_of (tb_1 (List.mem_of_getElem? (i := 208) rfl)) rfl
theorem wla_RX6_pad : Cond.laysFinal RX6 "RoofOrdinances" "pad" "LRoofOrdinances$Pad;" ∈ TB := TB_of (tb_1 (List.mem_of_getElem? (i := 210) rfl)) rfl
theorem wla_RX6_reader : Cond.laysFinal RX6 "RoofOrdinances" "reader" "LRoofOrdinances$OrderReader;" ∈ TB := TB_of (tb_1 (List.mem_of_getElem? (i := 212) rfl)) rfl
theorem wla_RX6_stopped : Cond.lays RX6 "RoofOrdinances" "stopped" "Z" ∈ TB := TB_of (tb_1 (List.mem_of_getElem? (i := 214) rfl)) rfl
theorem wla_RX6_stopCause : Cond.lays RX6 "RoofOrdinances" "stopCause" "I" ∈ TB := TB_of (tb_1 (List.mem_of_getElem? (i := 216) rfl)) rfl
theorem wla_RX6_stopNumber : Cond.lays RX6 "RoofOrdinances" "stopNumber" "I" ∈ TB := TB_of (tb_1 (List.mem_of_getElem? (i := 218) rfl)) rfl
theorem wla_RX6_stopPosition : Cond.lays RX6 "RoofOrdinances" "stopPosition" "I" ∈ TB := TB_of (tb_1 (List.mem_of_getElem? (i := 220) rfl)) rfl
theorem wml_RL_13 : Cond.methodLink RL 13 yX6_bears ∈ TB := TB_of (tb_1 (List.mem_of_getElem? (i := 223) rfl)) rfl
theorem wim_X6_bears : Cond.instanceMethod yX6_bears ∈ TB := TB_of (tb_1 (List.mem_of_getElem? (i := 224) rfl)) rfl
theorem wse_X6_bears : Cond.selects RX6 yX6_bears yX6_bears ∈ TB := TB_of (tb_1 (List.mem_of_getElem? (i := 225) rfl)) rfl
theorem wcd_X6_bears : Cond.code yX6_bears cX6_bears 4 (some .int) ∈ TB := TB_of (tb_1 (List.mem_of_getElem? (i := 226) rfl)) rfl
theorem wml_RX6_52 : Cond.methodLink RX6 52 yX4_isGangway ∈ TB := TB_of (tb_1 (List.mem_of_getElem? (i := 227) rfl)) rfl
theorem wml_RX6_58 : Cond.methodLink RX6 58 yX6_isWithin ∈ TB := TB_of (tb_1 (List.mem_of_getElem? (i := 228) rfl)) rfl
theorem wml_RX6_62 : Cond.methodLink RX6 62 yX1_push ∈ TB := TB_of (tb_1 (List.mem_of_getElem? (i := 229) rfl)) rfl
theorem wim_X1_push : Cond.instanceMethod yX1_push ∈ TB := TB_of (tb_1 (List.mem_of_getElem? (i := 230) rfl)) rfl
theorem wse_X1_push : Cond.selects RX1 yX1_push yX1_push ∈ TB := TB_of (tb_1 (List.mem_of_getElem? (i := 231) rfl)) rfl
theorem wcd_X1_push : Cond.code yX1_push cX1_push 4 none ∈ TB := TB_of (tb_1 (List.mem_of_getElem? (i := 232) rfl)) rfl
theorem wml_RX1_18 : Cond.methodLink RX1 18 yX0_copyFrom ∈ TB := TB_of (tb_1 (List.mem_of_getElem? (i := 233) rfl)) rfl
theorem wim_X0_copyFrom : Cond.instanceMethod yX0_copyFrom ∈ TB := TB_of (tb_1 (List.mem_of_getElem? (i := 234) rfl)) rfl
theorem wse_X0_copyFrom : Cond.selects RX0 yX0_copyFrom yX0_copyFrom ∈ TB := TB_of (tb_1 (List.mem_of_getElem? (i := 235) rfl)) rfl
theorem wcd_X0_copyFrom : Cond.code yX0_copyFrom cX0_copyFrom 2 none ∈ TB := TB_of (tb_1 (List.mem_of_getElem? (i := 236) rfl)) rfl
theorem wml_RX0_59 : Cond.methodLink RX0 59 arraycopyName ∈ TB := TB_of (tb_1 (List.mem_of_getElem? (i := 237) rfl)) rfl
theorem wst_copy : Cond.static arraycopyName ∈ TB := TB_of (tb_1 (List.mem_of_getElem? (i := 238) rfl)) rfl
theorem wnat_copy : Cond.native arraycopyName ∈ TB := TB_of (tb_1 (List.mem_of_getElem? (i := 239) rfl)) rfl
theorem wml_RX1_26 : Cond.methodLink RX1 26 yJ9_min_7cf53 ∈ TB := TB_of (tb_2 (List.mem_of_getElem? (i := 0) rfl)) rfl
theorem wst_J9_min_7cf53 : Cond.static yJ9_min_7cf53 ∈ TB := TB_of (tb_2 (List.mem_of_getElem? (i := 1) rfl)) rfl
theorem wcd_J9_min_7cf53 : Cond.code yJ9_min_7cf53 cJ9_min_7cf53 2 (some .int) ∈ TB := TB_of (tb_2 (List.mem_of_getElem? (i := 2) rfl)) rfl
theorem wml_RX6_70 : Cond.methodLink RX6 70 yX0_letBear ∈ TB := TB_of (tb_2 (List.mem_of_getElem? (i := 3) rfl)) rfl
theorem wim_X0_letBear : Cond.instanceMethod yX0_letBear ∈ TB := TB_of (tb_2 (List.mem_of_getElem? (i := 4) rfl)) rfl
theorem wse_X0_letBear : Cond.selects RX0 yX0_letBear yX0_letBear ∈ TB := TB_of (tb_2 (List.mem_of_getElem? (i := 5) rfl)) rfl
theorem wcd_X0_letBear : Cond.code yX0_letBear cX0_letBear 3 none ∈ TB := TB_of (tb_2 (List.mem_of_getElem? (i := 6) rfl)) rfl
theorem wml_RX0_89 : Cond.methodLink RX0 89 yX0_hasLine ∈ TB := TB_of (tb_2 (List.mem_of_getElem? (i := 7) rfl)) rfl
theorem wim_X0_hasLine : Cond.instanceMethod yX0_hasLine ∈ TB := TB_of (tb_2 (List.mem_of_getElem? (i := 8) rfl)) rfl
theorem wse_X0_hasLine : Cond.selects RX0 yX0_hasLine yX0_hasLine ∈ TB := TB_of (tb_2 (List.mem_of_getElem? (i := 9) rfl)) rfl
theorem wcd_X0_hasLine : Cond.code yX0_hasLine cX0_hasLine 2 (some .boolean) ∈ TB := TB_of (tb_2 (List.mem_of_getElem? (i := 10) rfl)) rfl
theorem wml_RL_18 : Cond.methodLink RL 18 yX6_wind ∈ TB := TB_of (tb_2 (List.mem_of_getElem? (i := 11) rfl)) rfl
theorem wim_X6_wind : Cond.instanceMethod yX6_wind ∈ TB := TB_of (tb_2 (List.mem_of_getElem? (i := 12) rfl)) rfl
theorem wse_X6_wind : Cond.selects RX6 yX6_wind yX6_wind ∈ TB := TB_of (tb_2 (List.mem_of_getElem? (i := 13) rfl)) rfl
theorem wcd_X6_wind : Cond.code yX6_wind cX6_wind 3 (some .int) ∈ TB := TB_of (tb_2 (List.mem_of_getElem? (i := 14) rfl)) rfl
theorem wml_RL_23 : Cond.methodLink RL 23 yX6_chimney ∈ TB := TB_of (tb_2 (List.mem_of_getElem? (i := 15) rfl)) rfl
theorem wim_X6_chimney : Cond.instanceMethod yX6_chimney ∈ TB := TB_of (tb_2 (List.mem_of_getElem? (i := 16) rfl)) rfl
theorem wse_X6_chimney : Cond.selects RX6 yX6_chimney yX6_chimney ∈ TB := TB_of (tb_2 (List.mem_of_getElem? (i := 17) rfl)) rfl
theorem wcd_X6_chimney : Cond.code yX6_chimney cX6_chimney 2 (some .int) ∈ TB := TB_of (tb_2 (List.mem_of_getElem? (i := 18) rfl)) rfl
theorem wml_RX6_78 : Cond.methodLink RX6 78 yX6_isRoof ∈ TB := TB_of (tb_2 (List.mem_of_getElem? (i := 19) rfl)) rfl
theorem wst_X6_isRoof : Cond.static yX6_isRoof ∈ TB := TB_of (tb_2 (List.mem_of_getElem? (i := 20) rfl)) rfl
theorem wcd_X6_isRoof : Cond.code yX6_isRoof cX6_isRoof 1 (some .boolean) ∈ TB := TB_of (tb_2 (List.mem_of_getElem? (i := 21) rfl)) rfl
theorem wml_RX6_81 : Cond.methodLink RX6 81 yX0_toggleChimney ∈ TB := TB_of (tb_2 (List.mem_of_getElem? (i := 22) rfl)) rfl
theorem wim_X0_toggleChimney : Cond.instanceMethod yX0_toggleChimney ∈ TB := TB_of (tb_2 (List.mem_of_getElem? (i := 23) rfl)) rfl
theorem wse_X0_toggleChimney : Cond.selects RX0 yX0_toggleChimney yX0_toggleChimney ∈ TB := TB_of (tb_2 (List.mem_of_getElem? (i := 24) rfl)) rfl
theorem wcd_X0_toggleChimney : Cond.code yX0_toggleChimney cX0_toggleChimney 2 none ∈ TB := TB_of (tb_2 (List.mem_of_getElem? (i := 25) rfl)) rfl
theorem wml_RX6_85 : Cond.methodLink RX6 85 yX0_smokeBlown ∈ TB := TB_of (tb_2 (List.mem_of_getElem? (i := 26) rfl)) rfl
theorem wim_X0_smokeBlown : Cond.instanceMethod yX0_smokeBlown ∈ TB := TB_of (tb_2 (List.mem_of_getElem? (i := 27) rfl)) rfl
theorem wse_X0_smokeBlown : Cond.selects RX0 yX0_smokeBlown yX0_smokeBlown ∈ TB := TB_of (tb_2 (List.mem_of_getElem? (i := 28) rfl)) rfl
theorem wcd_X0_smokeBlown : Cond.code yX0_smokeBlown cX0_smokeBlown 4 (some .int) ∈ TB := TB_of (tb_2 (List.mem_of_getElem? (i := 29) rfl)) rfl
theorem wst_X6_isIn : Cond.static yX6_isIn ∈ TB := TB_of (tb_2 (List.mem_of_getElem? (i := 31) rfl)) rfl
theorem wcd_X6_isIn : Cond.code yX6_isIn cX6_isIn 2 (some .boolean) ∈ TB := TB_of (tb_2 (List.mem_of_getElem? (i := 32) rfl)) rfl
theorem wml_RX0_96 : Cond.methodLink RX0 96 yX4_roofAndNext ∈ TB := TB_of (tb_2 (List.mem_of_getElem? (i := 33) rfl)) rfl
theorem wst_X4_roofAndNext : Cond.static yX4_roofAndNext ∈ TB := TB_of (tb_2 (List.mem_of_getElem? (i := 34) rfl)) rfl
theorem wcd_X4_roofAndNext : Cond.code yX4_roofAndNext cX4_roofAndNext 6 (some .int) ∈ TB := TB_of (tb_2 (List.mem_of_getElem? (i := 35) rfl)) rfl
theorem wml_RX4_33 : Cond.methodLink RX4 33 yX4_nextRoof ∈ TB := TB_of (tb_2 (List.mem_of_getElem? (i := 36) rfl)) rfl
theorem wst_X4_nextRoof : Cond.static yX4_nextRoof ∈ TB := TB_of (tb_2 (List.mem_of_getElem? (i := 37) rfl)) rfl
theorem wcd_X4_nextRoof : Cond.code yX4_nextRoof cX4_nextRoof 2 (some .int) ∈ TB := TB_of (tb_2 (List.mem_of_getElem? (i := 38) rfl)) rfl
theorem wml_RX6_89 : Cond.methodLink RX6 89 yJ6_bitCount_0f7a4 ∈ TB := TB_of (tb_2 (List.mem_of_getElem? (i := 39) rfl)) rfl
theorem wst_J6_bitCount_0f7a4 : Cond.static yJ6_bitCount_0f7a4 ∈ TB := TB_of (tb_2 (List.mem_of_getElem? (i := 40) rfl)) rfl
theorem wcd_J6_bitCount_0f7a4 : Cond.code yJ6_bitCount_0f7a4 cJ6_bitCount_0f7a4 1 (some .int) ∈ TB := TB_of (tb_2 (List.mem_of_getElem? (i := 41) rfl)) rfl
theorem wco_RJ6_265 : Cond.constant RJ6 265 1431655765 ∈ TB := TB_of (tb_2 (List.mem_of_getElem? (i := 42) rfl)) rfl
theorem wco_RJ6_266 : Cond.constant RJ6 266 858993459 ∈ TB := TB_of (tb_2 (List.mem_of_getElem? (i := 43) rfl)) rfl
theorem wco_RJ6_267 : Cond.constant RJ6 267 252645135 ∈ TB := TB_of (tb_2 (List.mem_of_getElem? (i := 44) rfl)) rfl
theorem wml_RL_27 : Cond.methodLink RL 27 yX6_coop ∈ TB := TB_of (tb_2 (List.mem_of_getElem? (i := 45) rfl)) rfl
theorem wim_X6_coop : Cond.instanceMethod yX6_coop ∈ TB := TB_of (tb_2 (List.mem_of_getElem? (i := 46) rfl)) rfl
theorem wse_X6_coop : Cond.selects RX6 yX6_coop yX6_coop ∈ TB := TB_of (tb_2 (List.mem_of_getElem? (i := 47) rfl)) rfl
theorem wcd_X6_coop : Cond.code yX6_coop cX6_coop 2 (some .int) ∈ TB := TB_of (tb_2 (List.mem_of_getElem? (i := 48) rfl)) rfl
theorem wml_RL_31 : Cond.methodLink RL 31 yX6_owner ∈ TB := TB_of (tb_2 (List.mem_of_getElem? (i := 49) rfl)) rfl
theorem wim_X6_owner : Cond.instanceMethod yX6_owner ∈ TB := TB_of (tb_2 (List.mem_of_getElem? (i := 50) rfl)) rfl
theorem wse_X6_owner : Cond.selects RX6 yX6_owner yX6_owner ∈ TB := TB_of (tb_2 (List.mem_of_getElem? (i := 51) rfl)) rfl
theorem wcd_X6_owner : Cond.code yX6_owner cX6_owner 6 (some .int) ∈ TB := TB_of (tb_2 (List.mem_of_getElem? (i := 52) rfl)) rfl
theorem wml_RX6_97 : Cond.methodLink RX6 97 yX6_isOwner ∈ TB := TB_of (tb_2 (List.mem_of_getElem? (i := 53) rfl)) rfl
theorem wst_X6_isOwner : Cond.static yX6_isOwner ∈ TB := TB_of (tb_2 (List.mem_of_getElem? (i := 54) rfl)) rfl
theorem wcd_X6_isOwner : Cond.code yX6_isOwner cX6_isOwner 1 (some .boolean) ∈ TB := TB_of (tb_2 (List.mem_of_getElem? (i := 55) rfl)) rfl
theorem wco_RX6_100 : Cond.constant RX6 100 65535 ∈ TB := TB_of (tb_2 (List.mem_of_getElem? (i := 56) rfl)) rfl
theorem wml_RX6_107 : Cond.methodLink RX6 107 yX0_setTruce ∈ TB := TB_of (tb_2 (List.mem_of_getElem? (i := 57) rfl)) rfl
theorem wim_X0_setTruce : Cond.instanceMethod yX0_setTruce ∈ TB := TB_of (tb_2 (List.mem_of_getElem? (i := 58) rfl)) rfl
theorem wse_X0_setTruce : Cond.selects RX0 yX0_setTruce yX0_setTruce ∈ TB := TB_of (tb_2 (List.mem_of_getElem? (i := 59) rfl)) rfl
theorem wcd_X0_setTruce : Cond.code yX0_setTruce cX0_setTruce 3 none ∈ TB := TB_of (tb_2 (List.mem_of_getElem? (i := 60) rfl)) rfl
theorem wml_RL_36 : Cond.methodLink RL 36 yX6_reach ∈ TB := TB_of (tb_2 (List.mem_of_getElem? (i := 61) rfl)) rfl
theorem wim_X6_reach : Cond.instanceMethod yX6_reach ∈ TB := TB_of (tb_2 (List.mem_of_getElem? (i := 62) rfl)) rfl
theorem wse_X6_reach : Cond.selects RX6 yX6_reach yX6_reach ∈ TB := TB_of (tb_2 (List.mem_of_getElem? (i := 63) rfl)) rfl
theorem wcd_X6_reach : Cond.code yX6_reach cX6_reach 3 (some .int) ∈ TB := TB_of (tb_2 (List.mem_of_getElem? (i := 64) rfl)) rfl
theorem wml_RL_40 : Cond.methodLink RL 40 yX6_hang ∈ TB := TB_of (tb_2 (List.mem_of_getElem? (i := 65) rfl)) rfl
theorem wim_X6_hang : Cond.instanceMethod yX6_hang ∈ TB := TB_of (tb_2 (List.mem_of_getElem? (i := 66) rfl)) rfl
theorem wse_X6_hang : Cond.selects RX6 yX6_hang yX6_hang ∈ TB := TB_of (tb_2 (List.mem_of_getElem? (i := 67) rfl)) rfl
theorem wcd_X6_hang : Cond.code yX6_hang cX6_hang 3 (some .int) ∈ TB := TB_of (tb_2 (List.mem_of_getElem? (i := 68) rfl)) rfl
theorem wml_RX6_114 : Cond.methodLink RX6 114 yX0_hangLine ∈ TB := TB_of (tb_2 (List.mem_of_getElem? (i := 69) rfl)) rfl
theorem wim_X0_hangLine : Cond.instanceMethod yX0_hangLine ∈ TB := TB_of (tb_2 (List.mem_of_getElem? (i := 70) rfl)) rfl
theorem wse_X0_hangLine : Cond.selects RX0 yX0_hangLine yX0_hangLine ∈ TB := TB_of (tb_2 (List.mem_of_getElem? (i := 71) rfl)) rfl
theorem wcd_X0_hangLine : Cond.code yX0_hangLine cX0_hangLine 4 (some .int) ∈ TB := TB_of (tb_2 (List.mem_of_getElem? (i := 72) rfl)) rfl
theorem wml_RX0_122 : Cond.methodLink RX0 122 yX0_reasonNotToHang ∈ TB := TB_of (tb_2 (List.mem_of_getElem? (i := 73) rfl)) rfl
theorem wim_X0_reasonNotToHang : Cond.instanceMethod yX0_reasonNotToHang ∈ TB := TB_of (tb_2 (List.mem_of_getElem? (i := 74) rfl)) rfl
theorem wse_X0_reasonNotToHang : Cond.selects RX0 yX0_reasonNotToHang yX0_reasonNotToHang ∈ TB := TB_of (tb_2 (List.mem_of_getElem? (i := 75) rfl)) rfl
theorem wcd_X0_reasonNotToHang : Cond.code yX0_reasonNotToHang cX0_reasonNotToHang 4 (some .int) ∈ TB := TB_of (tb_2 (List.mem_of_getElem? (i := 76) rfl)) rfl
theorem wml_RX0_104 : Cond.methodLink RX0 104 yX4_roofsOf ∈ TB := TB_of (tb_2 (List.mem_of_getElem? (i := 77) rfl)) rfl
theorem wst_X4_roofsOf : Cond.static yX4_roofsOf ∈ TB := TB_of (tb_2 (List.mem_of_getElem? (i := 78) rfl)) rfl
theorem wcd_X4_roofsOf : Cond.code yX4_roofsOf cX4_roofsOf 1 (some .int) ∈ TB := TB_of (tb_2 (List.mem_of_getElem? (i := 79) rfl)) rfl
theorem wml_RX4_13 : Cond.methodLink RX4 13 yX4_lesserRoof ∈ TB := TB_of (tb_2 (List.mem_of_getElem? (i := 80) rfl)) rfl
theorem wst_X4_lesserRoof : Cond.static yX4_lesserRoof ∈ TB := TB_of (tb_2 (List.mem_of_getElem? (i := 81) rfl)) rfl
theorem wcd_X4_lesserRoof : Cond.code yX4_lesserRoof cX4_lesserRoof 1 (some .int) ∈ TB := TB_of (tb_2 (List.mem_of_getElem? (i := 82) rfl)) rfl
theorem wml_RX4_19 : Cond.methodLink RX4 19 yX4_greaterRoof ∈ TB := TB_of (tb_2 (List.mem_of_getElem? (i := 83) rfl)) rfl
theorem wst_X4_greaterRoof : Cond.static yX4_greaterRoof ∈ TB := TB_of (tb_2 (List.mem_of_getElem? (i := 84) rfl)) rfl
theorem wcd_X4_greaterRoof : Cond.code yX4_greaterRoof cX4_greaterRoof 1 (some .int) ∈ TB := TB_of (tb_2 (List.mem_of_getElem? (i := 85) rfl)) rfl
theorem wml_RX0_116 : Cond.methodLink RX0 116 yX0_isThere ∈ TB := TB_of (tb_2 (List.mem_of_getElem? (i := 86) rfl)) rfl
theorem wim_X0_isThere : Cond.instanceMethod yX0_isThere ∈ TB := TB_of (tb_2 (List.mem_of_getElem? (i := 87) rfl)) rfl
theorem wse_X0_isThere : Cond.selects RX0 yX0_isThere yX0_isThere ∈ TB := TB_of (tb_2 (List.mem_of_getElem? (i := 88) rfl)) rfl
theorem wcd_X0_isThere : Cond.code yX0_isThere cX0_isThere 2 (some .boolean) ∈ TB := TB_of (tb_2 (List.mem_of_getElem? (i := 89) rfl)) rfl
theorem wml_RX0_100 : Cond.methodLink RX0 100 yX0_smokeBlown ∈ TB := TB_of (tb_2 (List.mem_of_getElem? (i := 90) rfl)) rfl
theorem wml_RX0_119 : Cond.methodLink RX0 119 yX0_isNearCoop ∈ TB := TB_of (tb_2 (List.mem_of_getElem? (i := 91) rfl)) rfl
theorem wim_X0_isNearCoop : Cond.instanceMethod yX0_isNearCoop ∈ TB := TB_of (tb_2 (List.mem_of_getElem? (i := 92) rfl)) rfl
theorem wse_X0_isNearCoop : Cond.selects RX0 yX0_isNearCoop yX0_isNearCoop ∈ TB := TB_of (tb_2 (List.mem_of_getElem? (i := 93) rfl)) rfl
theorem wcd_X0_isNearCoop : Cond.code yX0_isNearCoop cX0_isNearCoop 3 (some .boolean) ∈ TB := TB_of (tb_2 (List.mem_of_getElem? (i := 94) rfl)) rfl
theorem wml_RX0_107 : Cond.methodLink RX0 107 yX4_lesserRoof ∈ TB := TB_of (tb_2 (List.mem_of_getElem? (i := 95) rfl)) rfl
theorem wml_RX0_110 : Cond.methodLink RX0 110 yX4_roofAndNeighbours ∈ TB := TB_of (tb_2 (List.mem_of_getElem? (i := 96) rfl)) rfl
theorem wst_X4_roofAndNeighbours : Cond.static yX4_roofAndNeighbours ∈ TB := TB_of (tb_2 (List.mem_of_getElem? (i := 97) rfl)) rfl
theorem wcd_X4_roofAndNeighbours : Cond.code yX4_roofAndNeighbours cX4_roofAndNeighbours 4 (some .int) ∈ TB := TB_of (tb_2 (List.mem_of_getElem? (i := 98) rfl)) rfl
theorem wml_RX0_113 : Cond.methodLink RX0 113 yX4_greaterRoof ∈ TB := TB_of (tb_2 (List.mem_of_getElem? (i := 99) rfl)) rfl
theorem wml_RX0_126 : Cond.methodLink RX0 126 yX0_allLines ∈ TB := TB_of (tb_2 (List.mem_of_getElem? (i := 100) rfl)) rfl
theorem wim_X0_allLines : Cond.instanceMethod yX0_allLines ∈ TB := TB_of (tb_2 (List.mem_of_getElem? (i := 101) rfl)) rfl
theorem wse_X0_allLines : Cond.selects RX0 yX0_allLines yX0_allLines ∈ TB := TB_of (tb_2 (List.mem_of_getElem? (i := 102) rfl)) rfl
theorem wcd_X0_allLines : Cond.code yX0_allLines cX0_allLines 3 (some .int) ∈ TB := TB_of (tb_2 (List.mem_of_getElem? (i := 103) rfl)) rfl
theorem wml_RX0_130 : Cond.methodLink RX0 130 yJ6_bitCount_0f7a4 ∈ TB := TB_of (tb_2 (List.mem_of_getElem? (i := 104) rfl)) rfl
theorem wml_RL_44 : Cond.methodLink RL 44 yX6_take ∈ TB := TB_of (tb_2 (List.mem_of_getElem? (i := 105) rfl)) rfl
theorem wim_X6_take : Cond.instanceMethod yX6_take ∈ TB := TB_of (tb_2 (List.mem_of_getElem? (i := 106) rfl)) rfl
theorem wse_X6_take : Cond.selects RX6 yX6_take yX6_take ∈ TB := TB_of (tb_2 (List.mem_of_getElem? (i := 107) rfl)) rfl
theorem wcd_X6_take : Cond.code yX6_take cX6_take 3 (some .int) ∈ TB := TB_of (tb_2 (List.mem_of_getElem? (i := 108) rfl)) rfl
theorem wml_RX6_118 : Cond.methodLink RX6 118 yX0_takeLine ∈ TB := TB_of (tb_2 (List.mem_of_getElem? (i := 109) rfl)) rfl
theorem wim_X0_takeLine : Cond.instanceMethod yX0_takeLine ∈ TB := TB_of (tb_2 (List.mem_of_getElem? (i := 110) rfl)) rfl
theorem wse_X0_takeLine : Cond.selects RX0 yX0_takeLine yX0_takeLine ∈ TB := TB_of (tb_2 (List.mem_of_getElem? (i := 111) rfl)) rfl
theorem wcd_X0_takeLine : Cond.code yX0_takeLine cX0_takeLine 3 (some .int) ∈ TB := TB_of (tb_2 (List.mem_of_getElem? (i := 112) rfl)) rfl
theorem wml_RL_48 : Cond.methodLink RL 48 yX6_walk ∈ TB := TB_of (tb_2 (List.mem_of_getElem? (i := 113) rfl)) rfl
theorem wim_X6_walk : Cond.instanceMethod yX6_walk ∈ TB := TB_of (tb_2 (List.mem_of_getElem? (i := 114) rfl)) rfl
theorem wse_X6_walk : Cond.selects RX6 yX6_walk yX6_walk ∈ TB := TB_of (tb_2 (List.mem_of_getElem? (i := 115) rfl)) rfl
theorem wcd_X6_walk : Cond.code yX6_walk cX6_walk 3 (some .int) ∈ TB := TB_of (tb_2 (List.mem_of_getElem? (i := 116) rfl)) rfl
theorem wml_RX6_121 : Cond.methodLink RX6 121 yX0_standsAt ∈ TB := TB_of (tb_2 (List.mem_of_getElem? (i := 117) rfl)) rfl
theorem wim_X0_standsAt : Cond.instanceMethod yX0_standsAt ∈ TB := TB_of (tb_2 (List.mem_of_getElem? (i := 118) rfl)) rfl
theorem wse_X0_standsAt : Cond.selects RX0 yX0_standsAt yX0_standsAt ∈ TB := TB_of (tb_2 (List.mem_of_getElem? (i := 119) rfl)) rfl
theorem wcd_X0_standsAt : Cond.code yX0_standsAt cX0_standsAt 3 (some .boolean) ∈ TB := TB_of (tb_2 (List.mem_of_getElem? (i := 120) rfl)) rfl
theorem wml_RX6_125 : Cond.methodLink RX6 125 yX0_walkOver ∈ TB := TB_of (tb_2 (List.mem_of_getElem? (i := 121) rfl)) rfl
theorem wim_X0_walkOver : Cond.instanceMethod yX0_walkOver ∈ TB := TB_of (tb_2 (List.mem_of_getElem? (i := 122) rfl)) rfl
theorem wse_X0_walkOver : Cond.selects RX0 yX0_walkOver yX0_walkOver ∈ TB := TB_of (tb_2 (List.mem_of_getElem? (i := 123) rfl)) rfl
theorem wcd_X0_walkOver : Cond.code yX0_walkOver cX0_walkOver 5 (some .int) ∈ TB := TB_of (tb_2 (List.mem_of_getElem? (i := 124) rfl)) rfl
theorem wml_RX0_135 : Cond.methodLink RX0 135 yX4_otherRoof ∈ TB := TB_of (tb_2 (List.mem_of_getElem? (i := 125) rfl)) rfl
theorem wst_X4_otherRoof : Cond.static yX4_otherRoof ∈ TB := TB_of (tb_2 (List.mem_of_getElem? (i := 126) rfl)) rfl
theorem wcd_X4_otherRoof : Cond.code yX4_otherRoof cX4_otherRoof 2 (some .int) ∈ TB := TB_of (tb_2 (List.mem_of_getElem? (i := 127) rfl)) rfl
theorem wml_RX0_138 : Cond.methodLink RX0 138 yX0_reasonNotToWalk ∈ TB := TB_of (tb_2 (List.mem_of_getElem? (i := 128) rfl)) rfl
theorem wim_X0_reasonNotToWalk : Cond.instanceMethod yX0_reasonNotToWalk ∈ TB := TB_of (tb_2 (List.mem_of_getElem? (i := 129) rfl)) rfl
theorem wse_X0_reasonNotToWalk : Cond.selects RX0 yX0_reasonNotToWalk yX0_reasonNotToWalk ∈ TB := TB_of (tb_2 (List.mem_of_getElem? (i := 130) rfl)) rfl
theorem wcd_X0_reasonNotToWalk : Cond.code yX0_reasonNotToWalk cX0_reasonNotToWalk 4 (some .int) ∈ TB := TB_of (tb_2 (List.mem_of_getElem? (i := 131) rfl)) rfl
theorem wml_RL_52 : Cond.methodLink RL 52 yX6_day ∈ TB := TB_of (tb_2 (List.mem_of_getElem? (i := 132) rfl)) rfl
theorem wim_X6_day : Cond.instanceMethod yX6_day ∈ TB := TB_of (tb_2 (List.mem_of_getElem? (i := 133) rfl)) rfl
theorem wse_X6_day : Cond.selects RX6 yX6_day yX6_day ∈ TB := TB_of (tb_2 (List.mem_of_getElem? (i := 134) rfl)) rfl
theorem wcd_X6_day : Cond.code yX6_day cX6_day 1 (some .int) ∈ TB := TB_of (tb_2 (List.mem_of_getElem? (i := 135) rfl)) rfl
theorem wml_RX6_128 : Cond.methodLink RX6 128 yX0_passDay ∈ TB := TB_of (tb_2 (List.mem_of_getElem? (i := 136) rfl)) rfl
theorem wim_X0_passDay : Cond.instanceMethod yX0_passDay ∈ TB := TB_of (tb_2 (List.mem_of_getElem? (i := 137) rfl)) rfl
theorem wse_X0_passDay : Cond.selects RX0 yX0_passDay yX0_passDay ∈ TB := TB_of (tb_2 (List.mem_of_getElem? (i := 138) rfl)) rfl
theorem wcd_X0_passDay : Cond.code yX0_passDay cX0_passDay 3 none ∈ TB := TB_of (tb_2 (List.mem_of_getElem? (i := 139) rfl)) rfl
theorem wml_RX0_141 : Cond.methodLink RX0 141 yX0_soilLine ∈ TB := TB_of (tb_2 (List.mem_of_getElem? (i := 140) rfl)) rfl
theorem wim_X0_soilLine : Cond.instanceMethod yX0_soilLine ∈ TB := TB_of (tb_2 (List.mem_of_getElem? (i := 141) rfl)) rfl
theorem wse_X0_soilLine : Cond.selects RX0 yX0_soilLine yX0_soilLine ∈ TB := TB_of (tb_2 (List.mem_of_getElem? (i := 142) rfl)) rfl
theorem wcd_X0_soilLine : Cond.code yX0_soilLine cX0_soilLine 4 none ∈ TB := TB_of (tb_2 (List.mem_of_getElem? (i := 143) rfl)) rfl
theorem wml_RX6_131 : Cond.methodLink RX6 131 yX0_cleanLines ∈ TB := TB_of (tb_2 (List.mem_of_getElem? (i := 144) rfl)) rfl
theorem wim_X0_cleanLines : Cond.instanceMethod yX0_cleanLines ∈ TB := TB_of (tb_2 (List.mem_of_getElem? (i := 145) rfl)) rfl
theorem wse_X0_cleanLines : Cond.selects RX0 yX0_cleanLines yX0_cleanLines ∈ TB := TB_of (tb_2 (List.mem_of_getElem? (i := 146) rfl)) rfl
theorem wcd_X0_cleanLines : Cond.code yX0_cleanLines cX0_cleanLines 3 (some .int) ∈ TB := TB_of (tb_2 (List.mem_of_getElem? (i := 147) rfl)) rfl
theorem wml_RL_57 : Cond.methodLink RL 57 yX6_append ∈ TB := TB_of (tb_2 (List.mem_of_getElem? (i := 148) rfl)) rfl
theorem wim_X6_append : Cond.instanceMethod yX6_append ∈ TB := TB_of (tb_2 (List.mem_of_getElem? (i := 149) rfl)) rfl
theorem wse_X6_append : Cond.selects RX6 yX6_append yX6_append ∈ TB := TB_of (tb_2 (List.mem_of_getElem? (i := 150) rfl)) rfl
theorem wcd_X6_append : Cond.code yX6_append cX6_append 2 (some .int) ∈ TB := TB_of (tb_2 (List.mem_of_getElem? (i := 151) rfl)) rfl
theorem wml_RX6_138 : Cond.methodLink RX6 138 yX3_add ∈ TB := TB_of (tb_2 (List.mem_of_getElem? (i := 152) rfl)) rfl
theorem wim_X3_add : Cond.instanceMethod yX3_add ∈ TB := TB_of (tb_2 (List.mem_of_getElem? (i := 153) rfl)) rfl
theorem wse_X3_add : Cond.selects RX3 yX3_add yX3_add ∈ TB := TB_of (tb_2 (List.mem_of_getElem? (i := 154) rfl)) rfl
theorem wcd_X3_add : Cond.code yX3_add cX3_add 2 none ∈ TB := TB_of (tb_2 (List.mem_of_getElem? (i := 155) rfl)) rfl
theorem wml_RL_61 : Cond.methodLink RL 61 yX6_clear ∈ TB := TB_of (tb_2 (List.mem_of_getElem? (i := 157) rfl)) rfl
theorem wim_X6_clear : Cond.instanceMethod yX6_clear ∈ TB := TB_of (tb_2 (List.mem_of_getElem? (i := 158) rfl)) rfl
theorem wse_X6_clear : Cond.selects RX6 yX6_clear yX6_clear ∈ TB := TB_of (tb_2 (List.mem_of_getElem? (i := 159) rfl)) rfl
theorem wcd_X6_clear : Cond.code yX6_clear cX6_clear 2 (some .int) ∈ TB := TB_of (tb_2 (List.mem_of_getElem? (i := 160) rfl)) rfl
theorem wml_RL_65 : Cond.methodLink RL 65 yX6_fault ∈ TB := TB_of (tb_2 (List.mem_of_getElem? (i := 161) rfl)) rfl
theorem wim_X6_fault : Cond.instanceMethod yX6_fault ∈ TB := TB_of (tb_2 (List.mem_of_getElem? (i := 162) rfl)) rfl
theorem wse_X6_fault : Cond.selects RX6 yX6_fault yX6_fault ∈ TB := TB_of (tb_2 (List.mem_of_getElem? (i := 163) rfl)) rfl
theorem wcd_X6_fault : Cond.code yX6_fault cX6_fault 1 (some .int) ∈ TB := TB_of (tb_2 (List.mem_of_getElem? (i := 164) rfl)) rfl
theorem wml_RX6_142 : Cond.methodLink RX6 142 yX2_firstFault ∈ TB := TB_of (tb_2 (List.mem_of_getElem? (i := 165) rfl)) rfl
theorem wim_X2_firstFault : Cond.instanceMethod yX2_firstFault ∈ TB := TB_of (tb_2 (List.mem_of_getElem? (i := 166) rfl)) rfl
theorem wse_X2_firstFault : Cond.selects RX2 yX2_firstFault yX2_firstFault ∈ TB := TB_of (tb_2 (List.mem_of_getElem? (i := 167) rfl)) rfl
theorem wcd_X2_firstFault : Cond.code yX2_firstFault cX2_firstFault 2 (some .int) ∈ TB := TB_of (tb_2 (List.mem_of_getElem? (i := 168) rfl)) rfl
theorem wml_RX2_19 : Cond.methodLink RX2 19 yX2_rewind ∈ TB := TB_of (tb_2 (List.mem_of_getElem? (i := 169) rfl)) rfl
theorem wim_X2_rewind : Cond.instanceMethod yX2_rewind ∈ TB := TB_of (tb_2 (List.mem_of_getElem? (i := 170) rfl)) rfl
theorem wse_X2_rewind : Cond.selects RX2 yX2_rewind yX2_rewind ∈ TB := TB_of (tb_2 (List.mem_of_getElem? (i := 171) rfl)) rfl
theorem wcd_X2_rewind : Cond.code yX2_rewind cX2_rewind 1 none ∈ TB := TB_of (tb_2 (List.mem_of_getElem? (i := 172) rfl)) rfl
theorem wml_RX2_22 : Cond.methodLink RX2 22 yX2_readOrder ∈ TB := TB_of (tb_2 (List.mem_of_getElem? (i := 173) rfl)) rfl
theorem wim_X2_readOrder : Cond.instanceMethod yX2_readOrder ∈ TB := TB_of (tb_2 (List.mem_of_getElem? (i := 175) rfl)) rfl
theorem wcd_X2_readOrder : Cond.code yX2_readOrder cX2_readOrder 1 (some .boolean) ∈ TB := TB_of (tb_2 (List.mem_of_getElem? (i := 176) rfl)) rfl
theorem wml_RX2_38 : Cond.methodLink RX2 38 yX3_signAt ∈ TB := TB_of (tb_2 (List.mem_of_getElem? (i := 177) rfl)) rfl
theorem wim_X3_signAt : Cond.instanceMethod yX3_signAt ∈ TB := TB_of (tb_2 (List.mem_of_getElem? (i := 178) rfl)) rfl
theorem wse_X3_signAt : Cond.selects RX3 yX3_signAt yX3_signAt ∈ TB := TB_of (tb_2 (List.mem_of_getElem? (i := 179) rfl)) rfl
theorem wcd_X3_signAt : Cond.code yX3_signAt cX3_signAt 2 (some .char) ∈ TB := TB_of (tb_2 (List.mem_of_getElem? (i := 180) rfl)) rfl
theorem wml_RX2_46 : Cond.methodLink RX2 46 yX2_readOwner ∈ TB := TB_of (tb_2 (List.mem_of_getElem? (i := 181) rfl)) rfl
theorem wim_X2_readOwner : Cond.instanceMethod yX2_readOwner ∈ TB := TB_of (tb_2 (List.mem_of_getElem? (i := 183) rfl)) rfl
theorem wcd_X2_readOwner : Cond.code yX2_readOwner cX2_readOwner 1 (some .boolean) ∈ TB := TB_of (tb_2 (List.mem_of_getElem? (i := 184) rfl)) rfl
theorem wml_RX2_53 : Cond.methodLink RX2 53 yX2_digitAt ∈ TB := TB_of (tb_2 (List.mem_of_getElem? (i := 185) rfl)) rfl
theorem wim_X2_digitAt : Cond.instanceMethod yX2_digitAt ∈ TB := TB_of (tb_2 (List.mem_of_getElem? (i := 187) rfl)) rfl
theorem wcd_X2_digitAt : Cond.code yX2_digitAt cX2_digitAt 3 (some .int) ∈ TB := TB_of (tb_2 (List.mem_of_getElem? (i := 188) rfl)) rfl
theorem wml_RX2_31 : Cond.methodLink RX2 31 yX2_readSign ∈ TB := TB_of (tb_2 (List.mem_of_getElem? (i := 190) rfl)) rfl
theorem wim_X2_readSign : Cond.instanceMethod yX2_readSign ∈ TB := TB_of (tb_2 (List.mem_of_getElem? (i := 192) rfl)) rfl
theorem wcd_X2_readSign : Cond.code yX2_readSign cX2_readSign 2 (some .boolean) ∈ TB := TB_of (tb_2 (List.mem_of_getElem? (i := 193) rfl)) rfl
theorem wml_RX2_49 : Cond.methodLink RX2 49 yX2_readNumber ∈ TB := TB_of (tb_2 (List.mem_of_getElem? (i := 194) rfl)) rfl
theorem wim_X2_readNumber : Cond.instanceMethod yX2_readNumber ∈ TB := TB_of (tb_2 (List.mem_of_getElem? (i := 196) rfl)) rfl
theorem wcd_X2_readNumber : Cond.code yX2_readNumber cX2_readNumber 4 (some .boolean) ∈ TB := TB_of (tb_2 (List.mem_of_getElem? (i := 197) rfl)) rfl
theorem wml_RX2_64 : Cond.methodLink RX2 64 yX2_isAllowed ∈ TB := TB_of (tb_2 (List.mem_of_getElem? (i := 198) rfl)) rfl
theorem wst_X2_isAllowed : Cond.static yX2_isAllowed ∈ TB := TB_of (tb_2 (List.mem_of_getElem? (i := 199) rfl)) rfl
theorem wcd_X2_isAllowed : Cond.code yX2_isAllowed cX2_isAllowed 2 (some .boolean) ∈ TB := TB_of (tb_2 (List.mem_of_getElem? (i := 200) rfl)) rfl
theorem wml_RX2_71 : Cond.methodLink RX2 71 yX4_isGangway ∈ TB := TB_of (tb_2 (List.mem_of_getElem? (i := 201) rfl)) rfl
theorem wml_RL_69 : Cond.methodLink RL 69 yX6_run ∈ TB := TB_of (tb_2 (List.mem_of_getElem? (i := 203) rfl)) rfl
theorem wim_X6_run : Cond.instanceMethod yX6_run ∈ TB := TB_of (tb_2 (List.mem_of_getElem? (i := 204) rfl)) rfl
theorem wse_X6_run : Cond.selects RX6 yX6_run yX6_run ∈ TB := TB_of (tb_2 (List.mem_of_getElem? (i := 205) rfl)) rfl
theorem wcd_X6_run : Cond.code yX6_run cX6_run 4 (some .int) ∈ TB := TB_of (tb_2 (List.mem_of_getElem? (i := 206) rfl)) rfl
theorem wml_RX6_149 : Cond.methodLink RX6 149 yX2_rewind ∈ TB := TB_of (tb_2 (List.mem_of_getElem? (i := 207) rfl)) rfl
theorem wml_RX6_152 : Cond.methodLink RX6 152 yX2_readNext ∈ TB := TB_of (tb_2 (List.mem_of_getElem? (i := 208) rfl)) rfl
theorem wim_X2_readNext : Cond.instanceMethod yX2_readNext ∈ TB := TB_of (tb_2 (List.mem_of_getElem? (i := 209) rfl)) rfl
theorem wse_X2_readNext : Cond.selects RX2 yX2_readNext yX2_readNext ∈ TB := TB_of (tb_2 (List.mem_of_getElem? (i := 210) rfl)) rfl
theorem wcd_X2_readNext : Cond.code yX2_readNext cX2_readNext 2 (some .boolean) ∈ TB := TB_of (tb_2 (List.mem_of_getElem? (i := 211) rfl)) rfl
theorem wml_RX6_156 : Cond.methodLink RX6 156 yX6_carryOutOrder ∈ TB := TB_of (tb_2 (List.mem_of_getElem? (i := 212) rfl)) rfl
theorem wim_X6_carryOutOrder : Cond.instanceMethod yX6_carryOutOrder ∈ TB := TB_of (tb_2 (List.mem_of_getElem? (i := 214) rfl)) rfl
theorem wcd_X6_carryOutOrder : Cond.code yX6_carryOutOrder cX6_carryOutOrder 1 (some .int) ∈ TB := TB_of (tb_2 (List.mem_of_getElem? (i := 215) rfl)) rfl
theorem wml_RX6_289 : Cond.methodLink RX6 289 yX6_causeIn ∈ TB := TB_of (tb_2 (List.mem_of_getElem? (i := 216) rfl)) rfl
theorem wst_X6_causeIn : Cond.static yX6_causeIn ∈ TB := TB_of (tb_2 (List.mem_of_getElem? (i := 217) rfl)) rfl
theorem wcd_X6_causeIn : Cond.code yX6_causeIn cX6_causeIn 1 (some .int) ∈ TB := TB_of (tb_2 (List.mem_of_getElem? (i := 218) rfl)) rfl
theorem wml_RX6_159 : Cond.methodLink RX6 159 yX6_keepStop ∈ TB := TB_of (tb_2 (List.mem_of_getElem? (i := 219) rfl)) rfl
theorem wim_X6_keepStop : Cond.instanceMethod yX6_keepStop ∈ TB := TB_of (tb_2 (List.mem_of_getElem? (i := 221) rfl)) rfl
theorem wcd_X6_keepStop : Cond.code yX6_keepStop cX6_keepStop 3 none ∈ TB := TB_of (tb_2 (List.mem_of_getElem? (i := 222) rfl)) rfl
theorem wml_RL_73 : Cond.methodLink RL 73 yX6_why ∈ TB := TB_of (tb_2 (List.mem_of_getElem? (i := 223) rfl)) rfl
theorem wim_X6_why : Cond.instanceMethod yX6_why ∈ TB := TB_of (tb_2 (List.mem_of_getElem? (i := 224) rfl)) rfl
theorem wse_X6_why : Cond.selects RX6 yX6_why yX6_why ∈ TB := TB_of (tb_2 (List.mem_of_getElem? (i := 225) rfl)) rfl
theorem wcd_X6_why : Cond.code yX6_why cX6_why 2 (some .int) ∈ TB := TB_of (tb_2 (List.mem_of_getElem? (i := 226) rfl)) rfl
theorem wml_RL_77 : Cond.methodLink RL 77 yX6_roof ∈ TB := TB_of (tb_2 (List.mem_of_getElem? (i := 227) rfl)) rfl
theorem wim_X6_roof : Cond.instanceMethod yX6_roof ∈ TB := TB_of (tb_2 (List.mem_of_getElem? (i := 228) rfl)) rfl
theorem wse_X6_roof : Cond.selects RX6 yX6_roof yX6_roof ∈ TB := TB_of (tb_2 (List.mem_of_getElem? (i := 229) rfl)) rfl
theorem wcd_X6_roof : Cond.code yX6_roof cX6_roof 3 (some .int) ∈ TB := TB_of (tb_2 (List.mem_of_getElem? (i := 230) rfl)) rfl
theorem wml_RX6_174 : Cond.methodLink RX6 174 yX6_bitOf ∈ TB := TB_of (tb_2 (List.mem_of_getElem? (i := 231) rfl)) rfl
theorem wst_X6_bitOf : Cond.static yX6_bitOf ∈ TB := TB_of (tb_2 (List.mem_of_getElem? (i := 232) rfl)) rfl
theorem wcd_X6_bitOf : Cond.code yX6_bitOf cX6_bitOf 2 (some .int) ∈ TB := TB_of (tb_2 (List.mem_of_getElem? (i := 233) rfl)) rfl
theorem wml_RX6_177 : Cond.methodLink RX6 177 yX0_chimneysSmoking ∈ TB := TB_of (tb_2 (List.mem_of_getElem? (i := 234) rfl)) rfl
theorem wim_X0_chimneysSmoking : Cond.instanceMethod yX0_chimneysSmoking ∈ TB := TB_of (tb_2 (List.mem_of_getElem? (i := 235) rfl)) rfl
theorem wse_X0_chimneysSmoking : Cond.selects RX0 yX0_chimneysSmoking yX0_chimneysSmoking ∈ TB := TB_of (tb_2 (List.mem_of_getElem? (i := 236) rfl)) rfl
theorem wcd_X0_chimneysSmoking : Cond.code yX0_chimneysSmoking cX0_chimneysSmoking 4 (some .int) ∈ TB := TB_of (tb_2 (List.mem_of_getElem? (i := 237) rfl)) rfl
theorem wml_RX6_180 : Cond.methodLink RX6 180 yX0_ownersOn ∈ TB := TB_of (tb_2 (List.mem_of_getElem? (i := 238) rfl)) rfl
theorem wim_X0_ownersOn : Cond.instanceMethod yX0_ownersOn ∈ TB := TB_of (tb_2 (List.mem_of_getElem? (i := 239) rfl)) rfl
theorem wse_X0_ownersOn : Cond.selects RX0 yX0_ownersOn yX0_ownersOn ∈ TB := TB_of (tb_3 (List.mem_of_getElem? (i := 0) rfl)) rfl
theorem wcd_X0_ownersOn : Cond.code yX0_ownersOn cX0_ownersOn 4 (some .int) ∈ TB := TB_of (tb_3 (List.mem_of_getElem? (i := 1) rfl)) rfl
theorem wml_RX6_183 : Cond.methodLink RX6 183 yX0_standingGangways ∈ TB := TB_of (tb_3 (List.mem_of_getElem? (i := 2) rfl)) rfl
theorem wim_X0_standingGangways : Cond.instanceMethod yX0_standingGangways ∈ TB := TB_of (tb_3 (List.mem_of_getElem? (i := 3) rfl)) rfl
theorem wse_X0_standingGangways : Cond.selects RX0 yX0_standingGangways yX0_standingGangways ∈ TB := TB_of (tb_3 (List.mem_of_getElem? (i := 4) rfl)) rfl
theorem wcd_X0_standingGangways : Cond.code yX0_standingGangways cX0_standingGangways 3 (some .int) ∈ TB := TB_of (tb_3 (List.mem_of_getElem? (i := 5) rfl)) rfl
theorem wml_RX6_186 : Cond.methodLink RX6 186 yX4_gangwaysOf ∈ TB := TB_of (tb_3 (List.mem_of_getElem? (i := 6) rfl)) rfl
theorem wst_X4_gangwaysOf : Cond.static yX4_gangwaysOf ∈ TB := TB_of (tb_3 (List.mem_of_getElem? (i := 7) rfl)) rfl
theorem wcd_X4_gangwaysOf : Cond.code yX4_gangwaysOf cX4_gangwaysOf 3 (some .int) ∈ TB := TB_of (tb_3 (List.mem_of_getElem? (i := 8) rfl)) rfl
theorem wml_RX4_22 : Cond.methodLink RX4 22 yX4_isGangway ∈ TB := TB_of (tb_3 (List.mem_of_getElem? (i := 9) rfl)) rfl
theorem wml_RX4_26 : Cond.methodLink RX4 26 yX4_roofsOf ∈ TB := TB_of (tb_3 (List.mem_of_getElem? (i := 10) rfl)) rfl
theorem wml_RX6_189 : Cond.methodLink RX6 189 yX0_allLines ∈ TB := TB_of (tb_3 (List.mem_of_getElem? (i := 12) rfl)) rfl
theorem wml_RX6_192 : Cond.methodLink RX6 192 yX5_roofsFrom ∈ TB := TB_of (tb_3 (List.mem_of_getElem? (i := 13) rfl)) rfl
theorem wim_X5_roofsFrom : Cond.instanceMethod yX5_roofsFrom ∈ TB := TB_of (tb_3 (List.mem_of_getElem? (i := 14) rfl)) rfl
theorem wse_X5_roofsFrom : Cond.selects RX5 yX5_roofsFrom yX5_roofsFrom ∈ TB := TB_of (tb_3 (List.mem_of_getElem? (i := 15) rfl)) rfl
theorem wcd_X5_roofsFrom : Cond.code yX5_roofsFrom cX5_roofsFrom 7 (some .int) ∈ TB := TB_of (tb_3 (List.mem_of_getElem? (i := 16) rfl)) rfl
theorem wml_RX5_64 : Cond.methodLink RX5 64 yX4_roofsOf ∈ TB := TB_of (tb_3 (List.mem_of_getElem? (i := 17) rfl)) rfl
theorem wml_RX5_67 : Cond.methodLink RX5 67 yX0_isThere ∈ TB := TB_of (tb_3 (List.mem_of_getElem? (i := 18) rfl)) rfl
theorem wml_RL_81 : Cond.methodLink RL 81 yX6_gangway ∈ TB := TB_of (tb_3 (List.mem_of_getElem? (i := 19) rfl)) rfl
theorem wim_X6_gangway : Cond.instanceMethod yX6_gangway ∈ TB := TB_of (tb_3 (List.mem_of_getElem? (i := 20) rfl)) rfl
theorem wse_X6_gangway : Cond.selects RX6 yX6_gangway yX6_gangway ∈ TB := TB_of (tb_3 (List.mem_of_getElem? (i := 21) rfl)) rfl
theorem wcd_X6_gangway : Cond.code yX6_gangway cX6_gangway 3 (some .int) ∈ TB := TB_of (tb_3 (List.mem_of_getElem? (i := 22) rfl)) rfl
theorem wml_RX6_196 : Cond.methodLink RX6 196 yX4_lesserRoof ∈ TB := TB_of (tb_3 (List.mem_of_getElem? (i := 23) rfl)) rfl
theorem wml_RX6_199 : Cond.methodLink RX6 199 yX4_greaterRoof ∈ TB := TB_of (tb_3 (List.mem_of_getElem? (i := 24) rfl)) rfl
theorem wml_RX6_202 : Cond.methodLink RX6 202 yX0_hasLine ∈ TB := TB_of (tb_3 (List.mem_of_getElem? (i := 25) rfl)) rfl
theorem wml_RX6_214 : Cond.methodLink RX6 214 yX4_roofsOf ∈ TB := TB_of (tb_3 (List.mem_of_getElem? (i := 26) rfl)) rfl
theorem wml_RL_85 : Cond.methodLink RL 85 yX6_ownerOf ∈ TB := TB_of (tb_3 (List.mem_of_getElem? (i := 27) rfl)) rfl
theorem wim_X6_ownerOf : Cond.instanceMethod yX6_ownerOf ∈ TB := TB_of (tb_3 (List.mem_of_getElem? (i := 28) rfl)) rfl
theorem wse_X6_ownerOf : Cond.selects RX6 yX6_ownerOf yX6_ownerOf ∈ TB := TB_of (tb_3 (List.mem_of_getElem? (i := 29) rfl)) rfl
theorem wcd_X6_ownerOf : Cond.code yX6_ownerOf cX6_ownerOf 3 (some .int) ∈ TB := TB_of (tb_3 (List.mem_of_getElem? (i := 30) rfl)) rfl
theorem wml_RX6_223 : Cond.methodLink RX6 223 yX0_linesOf ∈ TB := TB_of (tb_3 (List.mem_of_getElem? (i := 31) rfl)) rfl
theorem wim_X0_linesOf : Cond.instanceMethod yX0_linesOf ∈ TB := TB_of (tb_3 (List.mem_of_getElem? (i := 32) rfl)) rfl
theorem wse_X0_linesOf : Cond.selects RX0 yX0_linesOf yX0_linesOf ∈ TB := TB_of (tb_3 (List.mem_of_getElem? (i := 33) rfl)) rfl
theorem wcd_X0_linesOf : Cond.code yX0_linesOf cX0_linesOf 4 (some .int) ∈ TB := TB_of (tb_3 (List.mem_of_getElem? (i := 34) rfl)) rfl
theorem wml_RX6_226 : Cond.methodLink RX6 226 yX0_walksOpenTo ∈ TB := TB_of (tb_3 (List.mem_of_getElem? (i := 35) rfl)) rfl
theorem wim_X0_walksOpenTo : Cond.instanceMethod yX0_walksOpenTo ∈ TB := TB_of (tb_3 (List.mem_of_getElem? (i := 36) rfl)) rfl
theorem wse_X0_walksOpenTo : Cond.selects RX0 yX0_walksOpenTo yX0_walksOpenTo ∈ TB := TB_of (tb_3 (List.mem_of_getElem? (i := 37) rfl)) rfl
theorem wcd_X0_walksOpenTo : Cond.code yX0_walksOpenTo cX0_walksOpenTo 5 (some .int) ∈ TB := TB_of (tb_3 (List.mem_of_getElem? (i := 38) rfl)) rfl
theorem wml_RX0_145 : Cond.methodLink RX0 145 yX0_standsAt ∈ TB := TB_of (tb_3 (List.mem_of_getElem? (i := 39) rfl)) rfl
theorem wml_RX6_232 : Cond.methodLink RX6 232 yX0_hangingsOpenTo ∈ TB := TB_of (tb_3 (List.mem_of_getElem? (i := 40) rfl)) rfl
theorem wim_X0_hangingsOpenTo : Cond.instanceMethod yX0_hangingsOpenTo ∈ TB := TB_of (tb_3 (List.mem_of_getElem? (i := 41) rfl)) rfl
theorem wse_X0_hangingsOpenTo : Cond.selects RX0 yX0_hangingsOpenTo yX0_hangingsOpenTo ∈ TB := TB_of (tb_3 (List.mem_of_getElem? (i := 42) rfl)) rfl
theorem wcd_X0_hangingsOpenTo : Cond.code yX0_hangingsOpenTo cX0_hangingsOpenTo 4 (some .int) ∈ TB := TB_of (tb_3 (List.mem_of_getElem? (i := 43) rfl)) rfl
theorem wml_RL_89 : Cond.methodLink RL 89 yX6_whyNotHang ∈ TB := TB_of (tb_3 (List.mem_of_getElem? (i := 44) rfl)) rfl
theorem wim_X6_whyNotHang : Cond.instanceMethod yX6_whyNotHang ∈ TB := TB_of (tb_3 (List.mem_of_getElem? (i := 45) rfl)) rfl
theorem wse_X6_whyNotHang : Cond.selects RX6 yX6_whyNotHang yX6_whyNotHang ∈ TB := TB_of (tb_3 (List.mem_of_getElem? (i := 46) rfl)) rfl
theorem wcd_X6_whyNotHang : Cond.code yX6_whyNotHang cX6_whyNotHang 3 (some .int) ∈ TB := TB_of (tb_3 (List.mem_of_getElem? (i := 47) rfl)) rfl
theorem wml_RX6_235 : Cond.methodLink RX6 235 yX0_reasonNotToHang ∈ TB := TB_of (tb_3 (List.mem_of_getElem? (i := 48) rfl)) rfl
theorem wml_RL_93 : Cond.methodLink RL 93 yX6_strongest ∈ TB := TB_of (tb_3 (List.mem_of_getElem? (i := 49) rfl)) rfl
theorem wim_X6_strongest : Cond.instanceMethod yX6_strongest ∈ TB := TB_of (tb_3 (List.mem_of_getElem? (i := 50) rfl)) rfl
theorem wse_X6_strongest : Cond.selects RX6 yX6_strongest yX6_strongest ∈ TB := TB_of (tb_3 (List.mem_of_getElem? (i := 51) rfl)) rfl
theorem wcd_X6_strongest : Cond.code yX6_strongest cX6_strongest 4 (some .int) ∈ TB := TB_of (tb_3 (List.mem_of_getElem? (i := 52) rfl)) rfl
theorem wml_RX6_238 : Cond.methodLink RX6 238 yX5_strongestByJoining ∈ TB := TB_of (tb_3 (List.mem_of_getElem? (i := 53) rfl)) rfl
theorem wim_X5_strongestByJoining : Cond.instanceMethod yX5_strongestByJoining ∈ TB := TB_of (tb_3 (List.mem_of_getElem? (i := 54) rfl)) rfl
theorem wse_X5_strongestByJoining : Cond.selects RX5 yX5_strongestByJoining yX5_strongestByJoining ∈ TB := TB_of (tb_3 (List.mem_of_getElem? (i := 55) rfl)) rfl
theorem wcd_X5_strongestByJoining : Cond.code yX5_strongestByJoining cX5_strongestByJoining 5 (some .int) ∈ TB := TB_of (tb_3 (List.mem_of_getElem? (i := 56) rfl)) rfl
theorem wml_RX5_18 : Cond.methodLink RX5 18 yX5_joinOver ∈ TB := TB_of (tb_3 (List.mem_of_getElem? (i := 57) rfl)) rfl
theorem wim_X5_joinOver : Cond.instanceMethod yX5_joinOver ∈ TB := TB_of (tb_3 (List.mem_of_getElem? (i := 59) rfl)) rfl
theorem wcd_X5_joinOver : Cond.code yX5_joinOver cX5_joinOver 4 none ∈ TB := TB_of (tb_3 (List.mem_of_getElem? (i := 60) rfl)) rfl
theorem wml_RX5_22 : Cond.methodLink RX5 22 yX4_isGangway ∈ TB := TB_of (tb_3 (List.mem_of_getElem? (i := 61) rfl)) rfl
theorem wml_RX5_33 : Cond.methodLink RX5 33 yX4_greaterRoof ∈ TB := TB_of (tb_3 (List.mem_of_getElem? (i := 62) rfl)) rfl
theorem wml_RX5_37 : Cond.methodLink RX5 37 yX4_lesserRoof ∈ TB := TB_of (tb_3 (List.mem_of_getElem? (i := 63) rfl)) rfl
theorem wml_RX5_40 : Cond.methodLink RX5 40 yX5_rename ∈ TB := TB_of (tb_3 (List.mem_of_getElem? (i := 64) rfl)) rfl
theorem wim_X5_rename : Cond.instanceMethod yX5_rename ∈ TB := TB_of (tb_3 (List.mem_of_getElem? (i := 66) rfl)) rfl
theorem wcd_X5_rename : Cond.code yX5_rename cX5_rename 4 none ∈ TB := TB_of (tb_3 (List.mem_of_getElem? (i := 67) rfl)) rfl
theorem wml_RX6_242 : Cond.methodLink RX6 242 yX5_strongestBySpreading ∈ TB := TB_of (tb_3 (List.mem_of_getElem? (i := 68) rfl)) rfl
theorem wim_X5_strongestBySpreading : Cond.instanceMethod yX5_strongestBySpreading ∈ TB := TB_of (tb_3 (List.mem_of_getElem? (i := 69) rfl)) rfl
theorem wse_X5_strongestBySpreading : Cond.selects RX5 yX5_strongestBySpreading yX5_strongestBySpreading ∈ TB := TB_of (tb_3 (List.mem_of_getElem? (i := 70) rfl)) rfl
theorem wcd_X5_strongestBySpreading : Cond.code yX5_strongestBySpreading cX5_strongestBySpreading 6 (some .int) ∈ TB := TB_of (tb_3 (List.mem_of_getElem? (i := 71) rfl)) rfl
theorem wml_RX5_44 : Cond.methodLink RX5 44 yJ7_fill_53178 ∈ TB := TB_of (tb_3 (List.mem_of_getElem? (i := 72) rfl)) rfl
theorem wml_RX5_50 : Cond.methodLink RX5 50 yX5_spread ∈ TB := TB_of (tb_3 (List.mem_of_getElem? (i := 73) rfl)) rfl
theorem wim_X5_spread : Cond.instanceMethod yX5_spread ∈ TB := TB_of (tb_3 (List.mem_of_getElem? (i := 75) rfl)) rfl
theorem wcd_X5_spread : Cond.code yX5_spread cX5_spread 8 (some .boolean) ∈ TB := TB_of (tb_3 (List.mem_of_getElem? (i := 76) rfl)) rfl
theorem wml_RX5_54 : Cond.methodLink RX5 54 yJ9_min_7cf53 ∈ TB := TB_of (tb_3 (List.mem_of_getElem? (i := 77) rfl)) rfl
theorem wml_RX5_60 : Cond.methodLink RX5 60 yX5_raise ∈ TB := TB_of (tb_3 (List.mem_of_getElem? (i := 78) rfl)) rfl
theorem wim_X5_raise : Cond.instanceMethod yX5_raise ∈ TB := TB_of (tb_3 (List.mem_of_getElem? (i := 80) rfl)) rfl
theorem wcd_X5_raise : Cond.code yX5_raise cX5_raise 3 (some .boolean) ∈ TB := TB_of (tb_3 (List.mem_of_getElem? (i := 81) rfl)) rfl
theorem wml_RL_98 : Cond.methodLink RL 98 yX6_steps ∈ TB := TB_of (tb_3 (List.mem_of_getElem? (i := 82) rfl)) rfl
theorem wim_X6_steps : Cond.instanceMethod yX6_steps ∈ TB := TB_of (tb_3 (List.mem_of_getElem? (i := 83) rfl)) rfl
theorem wse_X6_steps : Cond.selects RX6 yX6_steps yX6_steps ∈ TB := TB_of (tb_3 (List.mem_of_getElem? (i := 84) rfl)) rfl
theorem wcd_X6_steps : Cond.code yX6_steps cX6_steps 3 (some .int) ∈ TB := TB_of (tb_3 (List.mem_of_getElem? (i := 85) rfl)) rfl
theorem wml_RX6_245 : Cond.methodLink RX6 245 yX5_fewestWalks ∈ TB := TB_of (tb_3 (List.mem_of_getElem? (i := 86) rfl)) rfl
theorem wim_X5_fewestWalks : Cond.instanceMethod yX5_fewestWalks ∈ TB := TB_of (tb_3 (List.mem_of_getElem? (i := 87) rfl)) rfl
theorem wse_X5_fewestWalks : Cond.selects RX5 yX5_fewestWalks yX5_fewestWalks ∈ TB := TB_of (tb_3 (List.mem_of_getElem? (i := 88) rfl)) rfl
theorem wcd_X5_fewestWalks : Cond.code yX5_fewestWalks cX5_fewestWalks 6 (some .int) ∈ TB := TB_of (tb_3 (List.mem_of_getElem? (i := 89) rfl)) rfl
theorem wml_RX5_76 : Cond.methodLink RX5 76 yX5_oneWalkFurther ∈ TB := TB_of (tb_3 (List.mem_of_getElem? (i := 91) rfl)) rfl
theorem wim_X5_oneWalkFurther : Cond.instanceMethod yX5_oneWalkFurther ∈ TB := TB_of (tb_3 (List.mem_of_getElem? (i := 93) rfl)) rfl
theorem wcd_X5_oneWalkFurther : Cond.code yX5_oneWalkFurther cX5_oneWalkFurther 8 (some .int) ∈ TB := TB_of (tb_3 (List.mem_of_getElem? (i := 94) rfl)) rfl
theorem wml_RX5_80 : Cond.methodLink RX5 80 yX0_reasonNotToWalk ∈ TB := TB_of (tb_3 (List.mem_of_getElem? (i := 95) rfl)) rfl
theorem wml_RL_102 : Cond.methodLink RL 102 yX6_count ∈ TB := TB_of (tb_3 (List.mem_of_getElem? (i := 96) rfl)) rfl
theorem wim_X6_count : Cond.instanceMethod yX6_count ∈ TB := TB_of (tb_3 (List.mem_of_getElem? (i := 97) rfl)) rfl
theorem wse_X6_count : Cond.selects RX6 yX6_count yX6_count ∈ TB := TB_of (tb_3 (List.mem_of_getElem? (i := 98) rfl)) rfl
theorem wcd_X6_count : Cond.code yX6_count cX6_count 2 (some .int) ∈ TB := TB_of (tb_3 (List.mem_of_getElem? (i := 99) rfl)) rfl
theorem wml_RX6_251 : Cond.methodLink RX6 251 yX0_numberOfNow ∈ TB := TB_of (tb_3 (List.mem_of_getElem? (i := 100) rfl)) rfl
theorem wim_X0_numberOfNow : Cond.instanceMethod yX0_numberOfNow ∈ TB := TB_of (tb_3 (List.mem_of_getElem? (i := 101) rfl)) rfl
theorem wse_X0_numberOfNow : Cond.selects RX0 yX0_numberOfNow yX0_numberOfNow ∈ TB := TB_of (tb_3 (List.mem_of_getElem? (i := 102) rfl)) rfl
theorem wcd_X0_numberOfNow : Cond.code yX0_numberOfNow cX0_numberOfNow 2 (some .int) ∈ TB := TB_of (tb_3 (List.mem_of_getElem? (i := 103) rfl)) rfl
theorem wml_RX0_148 : Cond.methodLink RX0 148 yX0_cleanLines ∈ TB := TB_of (tb_3 (List.mem_of_getElem? (i := 104) rfl)) rfl
theorem wml_RX0_151 : Cond.methodLink RX0 151 yX0_sumOverLines ∈ TB := TB_of (tb_3 (List.mem_of_getElem? (i := 105) rfl)) rfl
theorem wim_X0_sumOverLines : Cond.instanceMethod yX0_sumOverLines ∈ TB := TB_of (tb_3 (List.mem_of_getElem? (i := 106) rfl)) rfl
theorem wse_X0_sumOverLines : Cond.selects RX0 yX0_sumOverLines yX0_sumOverLines ∈ TB := TB_of (tb_3 (List.mem_of_getElem? (i := 107) rfl)) rfl
theorem wcd_X0_sumOverLines : Cond.code yX0_sumOverLines cX0_sumOverLines 4 (some .int) ∈ TB := TB_of (tb_3 (List.mem_of_getElem? (i := 108) rfl)) rfl
theorem wml_RX0_155 : Cond.methodLink RX0 155 yX0_linesSmokedBy ∈ TB := TB_of (tb_3 (List.mem_of_getElem? (i := 109) rfl)) rfl
theorem wim_X0_linesSmokedBy : Cond.instanceMethod yX0_linesSmokedBy ∈ TB := TB_of (tb_3 (List.mem_of_getElem? (i := 110) rfl)) rfl
theorem wse_X0_linesSmokedBy : Cond.selects RX0 yX0_linesSmokedBy yX0_linesSmokedBy ∈ TB := TB_of (tb_3 (List.mem_of_getElem? (i := 111) rfl)) rfl
theorem wcd_X0_linesSmokedBy : Cond.code yX0_linesSmokedBy cX0_linesSmokedBy 5 (some .int) ∈ TB := TB_of (tb_3 (List.mem_of_getElem? (i := 112) rfl)) rfl
theorem wml_RX6_254 : Cond.methodLink RX6 254 yX0_numberSoFar ∈ TB := TB_of (tb_3 (List.mem_of_getElem? (i := 113) rfl)) rfl
theorem wim_X0_numberSoFar : Cond.instanceMethod yX0_numberSoFar ∈ TB := TB_of (tb_3 (List.mem_of_getElem? (i := 114) rfl)) rfl
theorem wse_X0_numberSoFar : Cond.selects RX0 yX0_numberSoFar yX0_numberSoFar ∈ TB := TB_of (tb_3 (List.mem_of_getElem? (i := 115) rfl)) rfl
theorem wcd_X0_numberSoFar : Cond.code yX0_numberSoFar cX0_numberSoFar 2 (some .int) ∈ TB := TB_of (tb_3 (List.mem_of_getElem? (i := 116) rfl)) rfl
theorem wml_RL_106 : Cond.methodLink RL 106 yX6_cleanness ∈ TB := TB_of (tb_3 (List.mem_of_getElem? (i := 117) rfl)) rfl
theorem wim_X6_cleanness : Cond.instanceMethod yX6_cleanness ∈ TB := TB_of (tb_3 (List.mem_of_getElem? (i := 118) rfl)) rfl
theorem wse_X6_cleanness : Cond.selects RX6 yX6_cleanness yX6_cleanness ∈ TB := TB_of (tb_3 (List.mem_of_getElem? (i := 119) rfl)) rfl
theorem wcd_X6_cleanness : Cond.code yX6_cleanness cX6_cleanness 2 (some .double) ∈ TB := TB_of (tb_3 (List.mem_of_getElem? (i := 120) rfl)) rfl
theorem wml_RL_111 : Cond.methodLink RL 111 yX6_ifWind ∈ TB := TB_of (tb_3 (List.mem_of_getElem? (i := 121) rfl)) rfl
theorem wim_X6_ifWind : Cond.instanceMethod yX6_ifWind ∈ TB := TB_of (tb_3 (List.mem_of_getElem? (i := 122) rfl)) rfl
theorem wse_X6_ifWind : Cond.selects RX6 yX6_ifWind yX6_ifWind ∈ TB := TB_of (tb_3 (List.mem_of_getElem? (i := 123) rfl)) rfl
theorem wcd_X6_ifWind : Cond.code yX6_ifWind cX6_ifWind 2 (some .int) ∈ TB := TB_of (tb_3 (List.mem_of_getElem? (i := 124) rfl)) rfl
theorem wml_RX6_257 : Cond.methodLink RX6 257 yX0_linesSmokedBy ∈ TB := TB_of (tb_3 (List.mem_of_getElem? (i := 125) rfl)) rfl
theorem wml_RL_115 : Cond.methodLink RL 115 yX6_bestWind ∈ TB := TB_of (tb_3 (List.mem_of_getElem? (i := 126) rfl)) rfl
theorem wim_X6_bestWind : Cond.instanceMethod yX6_bestWind ∈ TB := TB_of (tb_3 (List.mem_of_getElem? (i := 127) rfl)) rfl
theorem wse_X6_bestWind : Cond.selects RX6 yX6_bestWind yX6_bestWind ∈ TB := TB_of (tb_3 (List.mem_of_getElem? (i := 128) rfl)) rfl
theorem wcd_X6_bestWind : Cond.code yX6_bestWind cX6_bestWind 3 (some .int) ∈ TB := TB_of (tb_3 (List.mem_of_getElem? (i := 129) rfl)) rfl
theorem wml_RL_119 : Cond.methodLink RL 119 yX6_ifDays ∈ TB := TB_of (tb_3 (List.mem_of_getElem? (i := 130) rfl)) rfl
theorem wim_X6_ifDays : Cond.instanceMethod yX6_ifDays ∈ TB := TB_of (tb_3 (List.mem_of_getElem? (i := 131) rfl)) rfl
theorem wse_X6_ifDays : Cond.selects RX6 yX6_ifDays yX6_ifDays ∈ TB := TB_of (tb_3 (List.mem_of_getElem? (i := 132) rfl)) rfl
theorem wcd_X6_ifDays : Cond.code yX6_ifDays cX6_ifDays 4 (some .int) ∈ TB := TB_of (tb_3 (List.mem_of_getElem? (i := 133) rfl)) rfl
theorem wml_RX6_260 : Cond.methodLink RX6 260 yX0_copyFrom ∈ TB := TB_of (tb_3 (List.mem_of_getElem? (i := 134) rfl)) rfl
theorem wml_RX6_263 : Cond.methodLink RX6 263 yX0_sumOverLines ∈ TB := TB_of (tb_3 (List.mem_of_getElem? (i := 135) rfl)) rfl
theorem wml_RL_123 : Cond.methodLink RL 123 yX6_bestPlace ∈ TB := TB_of (tb_3 (List.mem_of_getElem? (i := 136) rfl)) rfl
theorem wim_X6_bestPlace : Cond.instanceMethod yX6_bestPlace ∈ TB := TB_of (tb_3 (List.mem_of_getElem? (i := 137) rfl)) rfl
theorem wse_X6_bestPlace : Cond.selects RX6 yX6_bestPlace yX6_bestPlace ∈ TB := TB_of (tb_3 (List.mem_of_getElem? (i := 138) rfl)) rfl
theorem wcd_X6_bestPlace : Cond.code yX6_bestPlace cX6_bestPlace 6 (some .int) ∈ TB := TB_of (tb_3 (List.mem_of_getElem? (i := 139) rfl)) rfl
theorem wml_RX6_267 : Cond.methodLink RX6 267 yX0_windsSmoking ∈ TB := TB_of (tb_3 (List.mem_of_getElem? (i := 140) rfl)) rfl
theorem wim_X0_windsSmoking : Cond.instanceMethod yX0_windsSmoking ∈ TB := TB_of (tb_3 (List.mem_of_getElem? (i := 141) rfl)) rfl
theorem wse_X0_windsSmoking : Cond.selects RX0 yX0_windsSmoking yX0_windsSmoking ∈ TB := TB_of (tb_3 (List.mem_of_getElem? (i := 142) rfl)) rfl
theorem wcd_X0_windsSmoking : Cond.code yX0_windsSmoking cX0_windsSmoking 4 (some .int) ∈ TB := TB_of (tb_3 (List.mem_of_getElem? (i := 143) rfl)) rfl
theorem wml_RL_127 : Cond.methodLink RL 127 yX6_undo ∈ TB := TB_of (tb_3 (List.mem_of_getElem? (i := 144) rfl)) rfl
theorem wim_X6_undo : Cond.instanceMethod yX6_undo ∈ TB := TB_of (tb_3 (List.mem_of_getElem? (i := 145) rfl)) rfl
theorem wse_X6_undo : Cond.selects RX6 yX6_undo yX6_undo ∈ TB := TB_of (tb_3 (List.mem_of_getElem? (i := 146) rfl)) rfl
theorem wcd_X6_undo : Cond.code yX6_undo cX6_undo 1 (some .int) ∈ TB := TB_of (tb_3 (List.mem_of_getElem? (i := 147) rfl)) rfl
theorem wml_RX6_270 : Cond.methodLink RX6 270 yX1_popInto ∈ TB := TB_of (tb_3 (List.mem_of_getElem? (i := 148) rfl)) rfl
theorem wim_X1_popInto : Cond.instanceMethod yX1_popInto ∈ TB := TB_of (tb_3 (List.mem_of_getElem? (i := 149) rfl)) rfl
theorem wse_X1_popInto : Cond.selects RX1 yX1_popInto yX1_popInto ∈ TB := TB_of (tb_3 (List.mem_of_getElem? (i := 150) rfl)) rfl
theorem wcd_X1_popInto : Cond.code yX1_popInto cX1_popInto 4 none ∈ TB := TB_of (tb_3 (List.mem_of_getElem? (i := 151) rfl)) rfl
theorem wml_RX1_32 : Cond.methodLink RX1 32 yJ9_max_7cf53 ∈ TB := TB_of (tb_3 (List.mem_of_getElem? (i := 152) rfl)) rfl
theorem wst_J9_max_7cf53 : Cond.static yJ9_max_7cf53 ∈ TB := TB_of (tb_3 (List.mem_of_getElem? (i := 153) rfl)) rfl
theorem wcd_J9_max_7cf53 : Cond.code yJ9_max_7cf53 cJ9_max_7cf53 2 (some .int) ∈ TB := TB_of (tb_3 (List.mem_of_getElem? (i := 154) rfl)) rfl
theorem wml_RL_131 : Cond.methodLink RL 131 yX6_save ∈ TB := TB_of (tb_3 (List.mem_of_getElem? (i := 155) rfl)) rfl
theorem wim_X6_save : Cond.instanceMethod yX6_save ∈ TB := TB_of (tb_3 (List.mem_of_getElem? (i := 156) rfl)) rfl
theorem wse_X6_save : Cond.selects RX6 yX6_save yX6_save ∈ TB := TB_of (tb_3 (List.mem_of_getElem? (i := 157) rfl)) rfl
theorem wcd_X6_save : Cond.code yX6_save cX6_save 1 (some .int) ∈ TB := TB_of (tb_3 (List.mem_of_getElem? (i := 158) rfl)) rfl
theorem wml_RL_135 : Cond.methodLink RL 135 yX6_restore ∈ TB := TB_of (tb_3 (List.mem_of_getElem? (i := 159) rfl)) rfl
theorem wim_X6_restore : Cond.instanceMethod yX6_restore ∈ TB := TB_of (tb_3 (List.mem_of_getElem? (i := 160) rfl)) rfl
theorem wse_X6_restore : Cond.selects RX6 yX6_restore yX6_restore ∈ TB := TB_of (tb_3 (List.mem_of_getElem? (i := 161) rfl)) rfl
theorem wcd_X6_restore : Cond.code yX6_restore cX6_restore 1 (some .int) ∈ TB := TB_of (tb_3 (List.mem_of_getElem? (i := 162) rfl)) rfl
theorem wcl_RL_10 : Cond.classLink RL 10 RX7 ∈ TB := TB_of (tb_3 (List.mem_of_getElem? (i := 163) rfl)) rfl
theorem wis_RX7 : Cond.instantiable RX7 15 ∈ TB := TB_of (tb_3 (List.mem_of_getElem? (i := 164) rfl)) rfl
theorem wml_RL_12 : Cond.methodLink RL 12 yX7_init ∈ TB := TB_of (tb_3 (List.mem_of_getElem? (i := 165) rfl)) rfl
theorem wim_X7_init : Cond.instanceMethod yX7_init ∈ TB := TB_of (tb_3 (List.mem_of_getElem? (i := 166) rfl)) rfl
theorem wcd_X7_init : Cond.code yX7_init cX7_init 2 none ∈ TB := TB_of (tb_3 (List.mem_of_getElem? (i := 167) rfl)) rfl
theorem wml_RX7_1 : Cond.methodLink RX7 1 objectInit ∈ TB := TB_of (tb_3 (List.mem_of_getElem? (i := 168) rfl)) rfl
theorem wco_RX7_28 : Cond.constant RX7 28 65535 ∈ TB := TB_of (tb_3 (List.mem_of_getElem? (i := 169) rfl)) rfl
theorem wml_RX7_29 : Cond.methodLink RX7 29 yX7_isGangway ∈ TB := TB_of (tb_3 (List.mem_of_getElem? (i := 170) rfl)) rfl
theorem wst_X7_isGangway : Cond.static yX7_isGangway ∈ TB := TB_of (tb_3 (List.mem_of_getElem? (i := 171) rfl)) rfl
theorem wcd_X7_isGangway : Cond.code yX7_isGangway cX7_isGangway 1 (some .boolean) ∈ TB := TB_of (tb_3 (List.mem_of_getElem? (i := 172) rfl)) rfl
theorem wml_RX7_41 : Cond.methodLink RX7 41 yX7_in ∈ TB := TB_of (tb_3 (List.mem_of_getElem? (i := 173) rfl)) rfl
theorem wst_X7_in : Cond.static yX7_in ∈ TB := TB_of (tb_3 (List.mem_of_getElem? (i := 174) rfl)) rfl
theorem wcd_X7_in : Cond.code yX7_in cX7_in 3 (some .boolean) ∈ TB := TB_of (tb_3 (List.mem_of_getElem? (i := 175) rfl)) rfl
theorem wfl_RX7_7 : Cond.fieldLink RX7 7 "RoofOrdinancesModel" "s" "[I" ∈ TB := TB_of (tb_3 (List.mem_of_getElem? (i := 176) rfl)) rfl
theorem wfl_RX7_13 : Cond.fieldLink RX7 13 "RoofOrdinancesModel" "aside" "[I" ∈ TB := TB_of (tb_3 (List.mem_of_getElem? (i := 177) rfl)) rfl
theorem wfl_RX7_16 : Cond.fieldLink RX7 16 "RoofOrdinancesModel" "past" "[I" ∈ TB := TB_of (tb_3 (List.mem_of_getElem? (i := 178) rfl)) rfl
theorem wfl_RX7_33 : Cond.fieldLink RX7 33 "RoofOrdinancesModel" "known" "I" ∈ TB := TB_of (tb_3 (List.mem_of_getElem? (i := 179) rfl)) rfl
theorem wfl_RX7_19 : Cond.fieldLink RX7 19 "RoofOrdinancesModel" "kept" "[I" ∈ TB := TB_of (tb_3 (List.mem_of_getElem? (i := 180) rfl)) rfl
theorem wfl_RX7_235 : Cond.fieldLink RX7 235 "RoofOrdinancesModel" "isKept" "Z" ∈ TB := TB_of (tb_3 (List.mem_of_getElem? (i := 181) rfl)) rfl
theorem wfl_RX7_22 : Cond.fieldLink RX7 22 "RoofOrdinancesModel" "pad" "[I" ∈ TB := TB_of (tb_3 (List.mem_of_getElem? (i := 182) rfl)) rfl
theorem wfl_RX7_145 : Cond.fieldLink RX7 145 "RoofOrdinancesModel" "length" "I" ∈ TB := TB_of (tb_3 (List.mem_of_getElem? (i := 183) rfl)) rfl
theorem wfl_RX7_148 : Cond.fieldLink RX7 148 "RoofOrdinancesModel" "spot" "I" ∈ TB := TB_of (tb_3 (List.mem_of_getElem? (i := 184) rfl)) rfl
theorem wfl_RX7_151 : Cond.fieldLink RX7 151 "RoofOrdinancesModel" "isForm" "Z" ∈ TB := TB_of (tb_3 (List.mem_of_getElem? (i := 185) rfl)) rfl
theorem wfl_RX7_166 : Cond.fieldLink RX7 166 "RoofOrdinancesModel" "letter" "I" ∈ TB := TB_of (tb_3 (List.mem_of_getElem? (i := 186) rfl)) rfl
theorem wfl_RX7_169 : Cond.fieldLink RX7 169 "RoofOrdinancesModel" "first" "I" ∈ TB := TB_of (tb_3 (List.mem_of_getElem? (i := 187) rfl)) rfl
theorem wfl_RX7_176 : Cond.fieldLink RX7 176 "RoofOrdinancesModel" "second" "I" ∈ TB := TB_of (tb_3 (List.mem_of_getElem? (i := 188) rfl)) rfl
theorem wfl_RX7_186 : Cond.fieldLink RX7 186 "RoofOrdinancesModel" "isStopped" "Z" ∈ TB := TB_of (tb_3 (List.mem_of_getElem? (i := 189) rfl)) rfl
theorem wfl_RX7_25 : Cond.fieldLink RX7 25 "RoofOrdinancesModel" "stop" "[I" ∈ TB := TB_of (tb_3 (List.mem_of_getElem? (i := 190) rfl)) rfl
theorem wla_RX7_s : Cond.laysFinal RX7 "RoofOrdinancesModel" "s" "[I" ∈ TB := TB_of (tb_3 (List.mem_of_getElem? (i := 191) rfl)) rfl
theorem wla_RX7_aside : Cond.laysFinal RX7 "RoofOrdinancesModel" "aside" "[I" ∈ TB := TB_of (tb_3 (List.mem_of_getElem? (i := 193) rfl)) rfl
theorem wla_RX7_past : Cond.laysFinal RX7 "RoofOrdinancesModel" "past" "[I" ∈ TB := TB_of (tb_3 (List.mem_of_getElem? (i := 195) rfl)) rfl
theorem wla_RX7_known : Cond.lays RX7 "RoofOrdinancesModel" "known" "I" ∈ TB := TB_of (tb_3 (List.mem_of_getElem? (i := 197) rfl)) rfl
theorem wla_RX7_kept : Cond.laysFinal RX7 "RoofOrdinancesModel" "kept" "[I" ∈ TB := TB_of (tb_3 (List.mem_of_getElem? (i := 199) rfl)) rfl
theorem wla_RX7_isKept : Cond.lays RX7 "RoofOrdinancesModel" "isKept" "Z" ∈ TB := TB_of (tb_3 (List.mem_of_getElem? (i := 201) rfl)) rfl
theorem wla_RX7_pad : Cond.laysFinal RX7 "RoofOrdinancesModel" "pad" "[I" ∈ TB := TB_of (tb_3 (List.mem_of_getElem? (i := 203) rfl)) rfl
theorem wla_RX7_length : Cond.lays RX7 "RoofOrdinancesModel" "length" "I" ∈ TB := TB_of (tb_3 (List.mem_of_getElem? (i := 205) rfl)) rfl
theorem wla_RX7_spot : Cond.lays RX7 "RoofOrdinancesModel" "spot" "I" ∈ TB := TB_of (tb_3 (List.mem_of_getElem? (i := 207) rfl)) rfl
theorem wla_RX7_isForm : Cond.lays RX7 "RoofOrdinancesModel" "isForm" "Z" ∈ TB := TB_of (tb_3 (List.mem_of_getElem? (i := 209) rfl)) rfl
theorem wla_RX7_letter : Cond.lays RX7 "RoofOrdinancesModel" "letter" "I" ∈ TB := TB_of (tb_3 (List.mem_of_getElem? (i := 211) rfl)) rfl
theorem wla_RX7_first : Cond.lays RX7 "RoofOrdinancesModel" "first" "I" ∈ TB := TB_of (tb_3 (List.mem_of_getElem? (i := 213) rfl)) rfl
theorem wla_RX7_second : Cond.lays RX7 "RoofOrdinancesModel" "second" "I" ∈ TB := TB_of (tb_3 (List.mem_of_getElem? (i := 215) rfl)) rfl
theorem wla_RX7_isStopped : Cond.lays RX7 "RoofOrdinancesModel" "isStopped" "Z" ∈ TB := TB_of (tb_3 (List.mem_of_getElem? (i := 217) rfl)) rfl
theorem wla_RX7_stop : Cond.laysFinal RX7 "RoofOrdinancesModel" "stop" "[I" ∈ TB := TB_of (tb_3 (List.mem_of_getElem? (i := 219) rfl)) rfl
theorem wml_RL_17 : Cond.methodLink RL 17 yX7_bears ∈ TB := TB_of (tb_3 (List.mem_of_getElem? (i := 222) rfl)) rfl
theorem wim_X7_bears : Cond.instanceMethod yX7_bears ∈ TB := TB_of (tb_3 (List.mem_of_getElem? (i := 223) rfl)) rfl
theorem wse_X7_bears : Cond.selects RX7 yX7_bears yX7_bears ∈ TB := TB_of (tb_3 (List.mem_of_getElem? (i := 224) rfl)) rfl
theorem wcd_X7_bears : Cond.code yX7_bears cX7_bears 4 (some .int) ∈ TB := TB_of (tb_3 (List.mem_of_getElem? (i := 225) rfl)) rfl
theorem wml_RX7_118 : Cond.methodLink RX7 118 yX7_records ∈ TB := TB_of (tb_3 (List.mem_of_getElem? (i := 226) rfl)) rfl
theorem wim_X7_records : Cond.instanceMethod yX7_records ∈ TB := TB_of (tb_3 (List.mem_of_getElem? (i := 228) rfl)) rfl
theorem wcd_X7_records : Cond.code yX7_records cX7_records 2 none ∈ TB := TB_of (tb_3 (List.mem_of_getElem? (i := 229) rfl)) rfl
theorem wml_RX7_37 : Cond.methodLink RX7 37 yX7_copies ∈ TB := TB_of (tb_3 (List.mem_of_getElem? (i := 230) rfl)) rfl
theorem wst_X7_copies : Cond.static yX7_copies ∈ TB := TB_of (tb_3 (List.mem_of_getElem? (i := 231) rfl)) rfl
theorem wcd_X7_copies : Cond.code yX7_copies cX7_copies 5 none ∈ TB := TB_of (tb_3 (List.mem_of_getElem? (i := 232) rfl)) rfl
theorem wml_RX7_52 : Cond.methodLink RX7 52 yX7_of ∈ TB := TB_of (tb_3 (List.mem_of_getElem? (i := 233) rfl)) rfl
theorem wim_X7_of : Cond.instanceMethod yX7_of ∈ TB := TB_of (tb_3 (List.mem_of_getElem? (i := 235) rfl)) rfl
theorem wcd_X7_of : Cond.code yX7_of cX7_of 3 (some .int) ∈ TB := TB_of (tb_3 (List.mem_of_getElem? (i := 236) rfl)) rfl
theorem wml_RX7_91 : Cond.methodLink RX7 91 yX7_lays ∈ TB := TB_of (tb_3 (List.mem_of_getElem? (i := 237) rfl)) rfl
theorem wim_X7_lays : Cond.instanceMethod yX7_lays ∈ TB := TB_of (tb_3 (List.mem_of_getElem? (i := 239) rfl)) rfl
theorem wcd_X7_lays : Cond.code yX7_lays cX7_lays 4 none ∈ TB := TB_of (tb_4 (List.mem_of_getElem? (i := 0) rfl)) rfl
theorem wml_RX7_56 : Cond.methodLink RX7 56 yX7_hasLine ∈ TB := TB_of (tb_4 (List.mem_of_getElem? (i := 1) rfl)) rfl
theorem wim_X7_hasLine : Cond.instanceMethod yX7_hasLine ∈ TB := TB_of (tb_4 (List.mem_of_getElem? (i := 3) rfl)) rfl
theorem wcd_X7_hasLine : Cond.code yX7_hasLine cX7_hasLine 2 (some .boolean) ∈ TB := TB_of (tb_4 (List.mem_of_getElem? (i := 4) rfl)) rfl
theorem wml_RX7_101 : Cond.methodLink RX7 101 yX7_removes ∈ TB := TB_of (tb_4 (List.mem_of_getElem? (i := 5) rfl)) rfl
theorem wim_X7_removes : Cond.instanceMethod yX7_removes ∈ TB := TB_of (tb_4 (List.mem_of_getElem? (i := 7) rfl)) rfl
theorem wcd_X7_removes : Cond.code yX7_removes cX7_removes 2 none ∈ TB := TB_of (tb_4 (List.mem_of_getElem? (i := 8) rfl)) rfl
theorem wml_RL_22 : Cond.methodLink RL 22 yX7_wind ∈ TB := TB_of (tb_4 (List.mem_of_getElem? (i := 9) rfl)) rfl
theorem wim_X7_wind : Cond.instanceMethod yX7_wind ∈ TB := TB_of (tb_4 (List.mem_of_getElem? (i := 10) rfl)) rfl
theorem wse_X7_wind : Cond.selects RX7 yX7_wind yX7_wind ∈ TB := TB_of (tb_4 (List.mem_of_getElem? (i := 11) rfl)) rfl
theorem wcd_X7_wind : Cond.code yX7_wind cX7_wind 3 (some .int) ∈ TB := TB_of (tb_4 (List.mem_of_getElem? (i := 12) rfl)) rfl
theorem wml_RL_26 : Cond.methodLink RL 26 yX7_chimney ∈ TB := TB_of (tb_4 (List.mem_of_getElem? (i := 13) rfl)) rfl
theorem wim_X7_chimney : Cond.instanceMethod yX7_chimney ∈ TB := TB_of (tb_4 (List.mem_of_getElem? (i := 14) rfl)) rfl
theorem wse_X7_chimney : Cond.selects RX7 yX7_chimney yX7_chimney ∈ TB := TB_of (tb_4 (List.mem_of_getElem? (i := 15) rfl)) rfl
theorem wcd_X7_chimney : Cond.code yX7_chimney cX7_chimney 2 (some .int) ∈ TB := TB_of (tb_4 (List.mem_of_getElem? (i := 16) rfl)) rfl
theorem wml_RX7_121 : Cond.methodLink RX7 121 yX7_isRoof ∈ TB := TB_of (tb_4 (List.mem_of_getElem? (i := 17) rfl)) rfl
theorem wst_X7_isRoof : Cond.static yX7_isRoof ∈ TB := TB_of (tb_4 (List.mem_of_getElem? (i := 18) rfl)) rfl
theorem wcd_X7_isRoof : Cond.code yX7_isRoof cX7_isRoof 1 (some .boolean) ∈ TB := TB_of (tb_4 (List.mem_of_getElem? (i := 19) rfl)) rfl
theorem wml_RX7_124 : Cond.methodLink RX7 124 yX7_goChimney ∈ TB := TB_of (tb_4 (List.mem_of_getElem? (i := 20) rfl)) rfl
theorem wim_X7_goChimney : Cond.instanceMethod yX7_goChimney ∈ TB := TB_of (tb_4 (List.mem_of_getElem? (i := 22) rfl)) rfl
theorem wcd_X7_goChimney : Cond.code yX7_goChimney cX7_goChimney 2 (some .int) ∈ TB := TB_of (tb_4 (List.mem_of_getElem? (i := 23) rfl)) rfl
theorem wml_RX7_78 : Cond.methodLink RX7 78 yX7_smoke ∈ TB := TB_of (tb_4 (List.mem_of_getElem? (i := 24) rfl)) rfl
theorem wim_X7_smoke : Cond.instanceMethod yX7_smoke ∈ TB := TB_of (tb_4 (List.mem_of_getElem? (i := 26) rfl)) rfl
theorem wcd_X7_smoke : Cond.code yX7_smoke cX7_smoke 1 (some .int) ∈ TB := TB_of (tb_4 (List.mem_of_getElem? (i := 27) rfl)) rfl
theorem wml_RX7_69 : Cond.methodLink RX7 69 yX7_smokeBy ∈ TB := TB_of (tb_4 (List.mem_of_getElem? (i := 28) rfl)) rfl
theorem wim_X7_smokeBy : Cond.instanceMethod yX7_smokeBy ∈ TB := TB_of (tb_4 (List.mem_of_getElem? (i := 30) rfl)) rfl
theorem wcd_X7_smokeBy : Cond.code yX7_smokeBy cX7_smokeBy 4 (some .int) ∈ TB := TB_of (tb_4 (List.mem_of_getElem? (i := 31) rfl)) rfl
theorem wml_RX7_62 : Cond.methodLink RX7 62 yX7_isIn ∈ TB := TB_of (tb_4 (List.mem_of_getElem? (i := 32) rfl)) rfl
theorem wst_X7_isIn : Cond.static yX7_isIn ∈ TB := TB_of (tb_4 (List.mem_of_getElem? (i := 33) rfl)) rfl
theorem wcd_X7_isIn : Cond.code yX7_isIn cX7_isIn 2 (some .boolean) ∈ TB := TB_of (tb_4 (List.mem_of_getElem? (i := 34) rfl)) rfl
theorem wml_RX7_66 : Cond.methodLink RX7 66 yX7_smokeOf ∈ TB := TB_of (tb_4 (List.mem_of_getElem? (i := 35) rfl)) rfl
theorem wim_X7_smokeOf : Cond.instanceMethod yX7_smokeOf ∈ TB := TB_of (tb_4 (List.mem_of_getElem? (i := 37) rfl)) rfl
theorem wcd_X7_smokeOf : Cond.code yX7_smokeOf cX7_smokeOf 6 (some .int) ∈ TB := TB_of (tb_4 (List.mem_of_getElem? (i := 38) rfl)) rfl
theorem wml_RX7_59 : Cond.methodLink RX7 59 yX7_nextTo ∈ TB := TB_of (tb_4 (List.mem_of_getElem? (i := 39) rfl)) rfl
theorem wst_X7_nextTo : Cond.static yX7_nextTo ∈ TB := TB_of (tb_4 (List.mem_of_getElem? (i := 40) rfl)) rfl
theorem wcd_X7_nextTo : Cond.code yX7_nextTo cX7_nextTo 4 (some .int) ∈ TB := TB_of (tb_4 (List.mem_of_getElem? (i := 41) rfl)) rfl
theorem wml_RX7_112 : Cond.methodLink RX7 112 yX7_ones ∈ TB := TB_of (tb_4 (List.mem_of_getElem? (i := 42) rfl)) rfl
theorem wst_X7_ones : Cond.static yX7_ones ∈ TB := TB_of (tb_4 (List.mem_of_getElem? (i := 43) rfl)) rfl
theorem wcd_X7_ones : Cond.code yX7_ones cX7_ones 3 (some .int) ∈ TB := TB_of (tb_4 (List.mem_of_getElem? (i := 44) rfl)) rfl
theorem wml_RL_30 : Cond.methodLink RL 30 yX7_coop ∈ TB := TB_of (tb_4 (List.mem_of_getElem? (i := 45) rfl)) rfl
theorem wim_X7_coop : Cond.instanceMethod yX7_coop ∈ TB := TB_of (tb_4 (List.mem_of_getElem? (i := 46) rfl)) rfl
theorem wse_X7_coop : Cond.selects RX7 yX7_coop yX7_coop ∈ TB := TB_of (tb_4 (List.mem_of_getElem? (i := 47) rfl)) rfl
theorem wcd_X7_coop : Cond.code yX7_coop cX7_coop 2 (some .int) ∈ TB := TB_of (tb_4 (List.mem_of_getElem? (i := 48) rfl)) rfl
theorem wml_RL_35 : Cond.methodLink RL 35 yX7_owner ∈ TB := TB_of (tb_4 (List.mem_of_getElem? (i := 49) rfl)) rfl
theorem wim_X7_owner : Cond.instanceMethod yX7_owner ∈ TB := TB_of (tb_4 (List.mem_of_getElem? (i := 50) rfl)) rfl
theorem wse_X7_owner : Cond.selects RX7 yX7_owner yX7_owner ∈ TB := TB_of (tb_4 (List.mem_of_getElem? (i := 51) rfl)) rfl
theorem wcd_X7_owner : Cond.code yX7_owner cX7_owner 6 (some .int) ∈ TB := TB_of (tb_4 (List.mem_of_getElem? (i := 52) rfl)) rfl
theorem wml_RX7_127 : Cond.methodLink RX7 127 yX7_isOwner ∈ TB := TB_of (tb_4 (List.mem_of_getElem? (i := 53) rfl)) rfl
theorem wst_X7_isOwner : Cond.static yX7_isOwner ∈ TB := TB_of (tb_4 (List.mem_of_getElem? (i := 54) rfl)) rfl
theorem wcd_X7_isOwner : Cond.code yX7_isOwner cX7_isOwner 1 (some .boolean) ∈ TB := TB_of (tb_4 (List.mem_of_getElem? (i := 55) rfl)) rfl
theorem wml_RX7_72 : Cond.methodLink RX7 72 yX7_ofOwner ∈ TB := TB_of (tb_4 (List.mem_of_getElem? (i := 56) rfl)) rfl
theorem wim_X7_ofOwner : Cond.instanceMethod yX7_ofOwner ∈ TB := TB_of (tb_4 (List.mem_of_getElem? (i := 58) rfl)) rfl
theorem wcd_X7_ofOwner : Cond.code yX7_ofOwner cX7_ofOwner 3 (some .int) ∈ TB := TB_of (tb_4 (List.mem_of_getElem? (i := 59) rfl)) rfl
theorem wml_RL_39 : Cond.methodLink RL 39 yX7_reach ∈ TB := TB_of (tb_4 (List.mem_of_getElem? (i := 60) rfl)) rfl
theorem wim_X7_reach : Cond.instanceMethod yX7_reach ∈ TB := TB_of (tb_4 (List.mem_of_getElem? (i := 61) rfl)) rfl
theorem wse_X7_reach : Cond.selects RX7 yX7_reach yX7_reach ∈ TB := TB_of (tb_4 (List.mem_of_getElem? (i := 62) rfl)) rfl
theorem wcd_X7_reach : Cond.code yX7_reach cX7_reach 3 (some .int) ∈ TB := TB_of (tb_4 (List.mem_of_getElem? (i := 63) rfl)) rfl
theorem wml_RL_43 : Cond.methodLink RL 43 yX7_hang ∈ TB := TB_of (tb_4 (List.mem_of_getElem? (i := 64) rfl)) rfl
theorem wim_X7_hang : Cond.instanceMethod yX7_hang ∈ TB := TB_of (tb_4 (List.mem_of_getElem? (i := 65) rfl)) rfl
theorem wse_X7_hang : Cond.selects RX7 yX7_hang yX7_hang ∈ TB := TB_of (tb_4 (List.mem_of_getElem? (i := 66) rfl)) rfl
theorem wcd_X7_hang : Cond.code yX7_hang cX7_hang 3 (some .int) ∈ TB := TB_of (tb_4 (List.mem_of_getElem? (i := 67) rfl)) rfl
theorem wml_RX7_130 : Cond.methodLink RX7 130 yX7_goHang ∈ TB := TB_of (tb_4 (List.mem_of_getElem? (i := 68) rfl)) rfl
theorem wim_X7_goHang : Cond.instanceMethod yX7_goHang ∈ TB := TB_of (tb_4 (List.mem_of_getElem? (i := 70) rfl)) rfl
theorem wcd_X7_goHang : Cond.code yX7_goHang cX7_goHang 4 (some .int) ∈ TB := TB_of (tb_4 (List.mem_of_getElem? (i := 71) rfl)) rfl
theorem wml_RX7_95 : Cond.methodLink RX7 95 yX7_reasonToHang ∈ TB := TB_of (tb_4 (List.mem_of_getElem? (i := 72) rfl)) rfl
theorem wim_X7_reasonToHang : Cond.instanceMethod yX7_reasonToHang ∈ TB := TB_of (tb_4 (List.mem_of_getElem? (i := 74) rfl)) rfl
theorem wcd_X7_reasonToHang : Cond.code yX7_reasonToHang cX7_reasonToHang 3 (some .int) ∈ TB := TB_of (tb_4 (List.mem_of_getElem? (i := 75) rfl)) rfl
theorem wml_RX7_75 : Cond.methodLink RX7 75 yX7_bothOf ∈ TB := TB_of (tb_4 (List.mem_of_getElem? (i := 76) rfl)) rfl
theorem wim_X7_bothOf : Cond.instanceMethod yX7_bothOf ∈ TB := TB_of (tb_4 (List.mem_of_getElem? (i := 78) rfl)) rfl
theorem wcd_X7_bothOf : Cond.code yX7_bothOf cX7_bothOf 2 (some .int) ∈ TB := TB_of (tb_4 (List.mem_of_getElem? (i := 79) rfl)) rfl
theorem wml_RX7_45 : Cond.methodLink RX7 45 yX7_lesserOf ∈ TB := TB_of (tb_4 (List.mem_of_getElem? (i := 80) rfl)) rfl
theorem wst_X7_lesserOf : Cond.static yX7_lesserOf ∈ TB := TB_of (tb_4 (List.mem_of_getElem? (i := 81) rfl)) rfl
theorem wcd_X7_lesserOf : Cond.code yX7_lesserOf cX7_lesserOf 1 (some .int) ∈ TB := TB_of (tb_4 (List.mem_of_getElem? (i := 82) rfl)) rfl
theorem wml_RX7_49 : Cond.methodLink RX7 49 yX7_greaterOf ∈ TB := TB_of (tb_4 (List.mem_of_getElem? (i := 83) rfl)) rfl
theorem wst_X7_greaterOf : Cond.static yX7_greaterOf ∈ TB := TB_of (tb_4 (List.mem_of_getElem? (i := 84) rfl)) rfl
theorem wcd_X7_greaterOf : Cond.code yX7_greaterOf cX7_greaterOf 1 (some .int) ∈ TB := TB_of (tb_4 (List.mem_of_getElem? (i := 85) rfl)) rfl
theorem wml_RX7_82 : Cond.methodLink RX7 82 yX7_nearCoops ∈ TB := TB_of (tb_4 (List.mem_of_getElem? (i := 86) rfl)) rfl
theorem wim_X7_nearCoops : Cond.instanceMethod yX7_nearCoops ∈ TB := TB_of (tb_4 (List.mem_of_getElem? (i := 88) rfl)) rfl
theorem wcd_X7_nearCoops : Cond.code yX7_nearCoops cX7_nearCoops 5 (some .int) ∈ TB := TB_of (tb_4 (List.mem_of_getElem? (i := 89) rfl)) rfl
theorem wml_RX7_98 : Cond.methodLink RX7 98 yX7_refuses ∈ TB := TB_of (tb_4 (List.mem_of_getElem? (i := 90) rfl)) rfl
theorem wim_X7_refuses : Cond.instanceMethod yX7_refuses ∈ TB := TB_of (tb_4 (List.mem_of_getElem? (i := 92) rfl)) rfl
theorem wcd_X7_refuses : Cond.code yX7_refuses cX7_refuses 2 (some .int) ∈ TB := TB_of (tb_4 (List.mem_of_getElem? (i := 93) rfl)) rfl
theorem wml_RX7_105 : Cond.methodLink RX7 105 yX7_linesNow ∈ TB := TB_of (tb_4 (List.mem_of_getElem? (i := 94) rfl)) rfl
theorem wim_X7_linesNow : Cond.instanceMethod yX7_linesNow ∈ TB := TB_of (tb_4 (List.mem_of_getElem? (i := 96) rfl)) rfl
theorem wcd_X7_linesNow : Cond.code yX7_linesNow cX7_linesNow 3 (some .int) ∈ TB := TB_of (tb_4 (List.mem_of_getElem? (i := 97) rfl)) rfl
theorem wml_RL_47 : Cond.methodLink RL 47 yX7_take ∈ TB := TB_of (tb_4 (List.mem_of_getElem? (i := 98) rfl)) rfl
theorem wim_X7_take : Cond.instanceMethod yX7_take ∈ TB := TB_of (tb_4 (List.mem_of_getElem? (i := 99) rfl)) rfl
theorem wse_X7_take : Cond.selects RX7 yX7_take yX7_take ∈ TB := TB_of (tb_4 (List.mem_of_getElem? (i := 100) rfl)) rfl
theorem wcd_X7_take : Cond.code yX7_take cX7_take 3 (some .int) ∈ TB := TB_of (tb_4 (List.mem_of_getElem? (i := 101) rfl)) rfl
theorem wml_RX7_133 : Cond.methodLink RX7 133 yX7_goTake ∈ TB := TB_of (tb_4 (List.mem_of_getElem? (i := 102) rfl)) rfl
theorem wim_X7_goTake : Cond.instanceMethod yX7_goTake ∈ TB := TB_of (tb_4 (List.mem_of_getElem? (i := 104) rfl)) rfl
theorem wcd_X7_goTake : Cond.code yX7_goTake cX7_goTake 4 (some .int) ∈ TB := TB_of (tb_4 (List.mem_of_getElem? (i := 105) rfl)) rfl
theorem wml_RL_51 : Cond.methodLink RL 51 yX7_walk ∈ TB := TB_of (tb_4 (List.mem_of_getElem? (i := 106) rfl)) rfl
theorem wim_X7_walk : Cond.instanceMethod yX7_walk ∈ TB := TB_of (tb_4 (List.mem_of_getElem? (i := 107) rfl)) rfl
theorem wse_X7_walk : Cond.selects RX7 yX7_walk yX7_walk ∈ TB := TB_of (tb_4 (List.mem_of_getElem? (i := 108) rfl)) rfl
theorem wcd_X7_walk : Cond.code yX7_walk cX7_walk 3 (some .int) ∈ TB := TB_of (tb_4 (List.mem_of_getElem? (i := 109) rfl)) rfl
theorem wml_RX7_136 : Cond.methodLink RX7 136 yX7_isOfRoof ∈ TB := TB_of (tb_4 (List.mem_of_getElem? (i := 110) rfl)) rfl
theorem wst_X7_isOfRoof : Cond.static yX7_isOfRoof ∈ TB := TB_of (tb_4 (List.mem_of_getElem? (i := 111) rfl)) rfl
theorem wcd_X7_isOfRoof : Cond.code yX7_isOfRoof cX7_isOfRoof 2 (some .boolean) ∈ TB := TB_of (tb_4 (List.mem_of_getElem? (i := 112) rfl)) rfl
theorem wml_RX7_139 : Cond.methodLink RX7 139 yX7_goWalk ∈ TB := TB_of (tb_4 (List.mem_of_getElem? (i := 113) rfl)) rfl
theorem wim_X7_goWalk : Cond.instanceMethod yX7_goWalk ∈ TB := TB_of (tb_4 (List.mem_of_getElem? (i := 115) rfl)) rfl
theorem wcd_X7_goWalk : Cond.code yX7_goWalk cX7_goWalk 5 (some .int) ∈ TB := TB_of (tb_4 (List.mem_of_getElem? (i := 116) rfl)) rfl
theorem wml_RX7_108 : Cond.methodLink RX7 108 yX7_reasonToWalk ∈ TB := TB_of (tb_4 (List.mem_of_getElem? (i := 117) rfl)) rfl
theorem wim_X7_reasonToWalk : Cond.instanceMethod yX7_reasonToWalk ∈ TB := TB_of (tb_4 (List.mem_of_getElem? (i := 119) rfl)) rfl
theorem wcd_X7_reasonToWalk : Cond.code yX7_reasonToWalk cX7_reasonToWalk 4 (some .int) ∈ TB := TB_of (tb_4 (List.mem_of_getElem? (i := 120) rfl)) rfl
theorem wml_RX7_85 : Cond.methodLink RX7 85 yX7_otherOf ∈ TB := TB_of (tb_4 (List.mem_of_getElem? (i := 121) rfl)) rfl
theorem wst_X7_otherOf : Cond.static yX7_otherOf ∈ TB := TB_of (tb_4 (List.mem_of_getElem? (i := 122) rfl)) rfl
theorem wcd_X7_otherOf : Cond.code yX7_otherOf cX7_otherOf 2 (some .int) ∈ TB := TB_of (tb_4 (List.mem_of_getElem? (i := 123) rfl)) rfl
theorem wml_RL_56 : Cond.methodLink RL 56 yX7_day ∈ TB := TB_of (tb_4 (List.mem_of_getElem? (i := 124) rfl)) rfl
theorem wim_X7_day : Cond.instanceMethod yX7_day ∈ TB := TB_of (tb_4 (List.mem_of_getElem? (i := 125) rfl)) rfl
theorem wse_X7_day : Cond.selects RX7 yX7_day yX7_day ∈ TB := TB_of (tb_4 (List.mem_of_getElem? (i := 126) rfl)) rfl
theorem wcd_X7_day : Cond.code yX7_day cX7_day 1 (some .int) ∈ TB := TB_of (tb_4 (List.mem_of_getElem? (i := 127) rfl)) rfl
theorem wml_RX7_142 : Cond.methodLink RX7 142 yX7_goDay ∈ TB := TB_of (tb_4 (List.mem_of_getElem? (i := 128) rfl)) rfl
theorem wim_X7_goDay : Cond.instanceMethod yX7_goDay ∈ TB := TB_of (tb_4 (List.mem_of_getElem? (i := 130) rfl)) rfl
theorem wcd_X7_goDay : Cond.code yX7_goDay cX7_goDay 4 (some .int) ∈ TB := TB_of (tb_4 (List.mem_of_getElem? (i := 131) rfl)) rfl
theorem wml_RX7_115 : Cond.methodLink RX7 115 yX7_cleanNow ∈ TB := TB_of (tb_4 (List.mem_of_getElem? (i := 132) rfl)) rfl
theorem wim_X7_cleanNow : Cond.instanceMethod yX7_cleanNow ∈ TB := TB_of (tb_4 (List.mem_of_getElem? (i := 134) rfl)) rfl
theorem wcd_X7_cleanNow : Cond.code yX7_cleanNow cX7_cleanNow 3 (some .int) ∈ TB := TB_of (tb_4 (List.mem_of_getElem? (i := 135) rfl)) rfl
theorem wml_RX7_88 : Cond.methodLink RX7 88 yX7_isClean ∈ TB := TB_of (tb_4 (List.mem_of_getElem? (i := 136) rfl)) rfl
theorem wim_X7_isClean : Cond.instanceMethod yX7_isClean ∈ TB := TB_of (tb_4 (List.mem_of_getElem? (i := 138) rfl)) rfl
theorem wcd_X7_isClean : Cond.code yX7_isClean cX7_isClean 2 (some .boolean) ∈ TB := TB_of (tb_4 (List.mem_of_getElem? (i := 139) rfl)) rfl
theorem wml_RL_60 : Cond.methodLink RL 60 yX7_append ∈ TB := TB_of (tb_4 (List.mem_of_getElem? (i := 140) rfl)) rfl
theorem wim_X7_append : Cond.instanceMethod yX7_append ∈ TB := TB_of (tb_4 (List.mem_of_getElem? (i := 141) rfl)) rfl
theorem wse_X7_append : Cond.selects RX7 yX7_append yX7_append ∈ TB := TB_of (tb_4 (List.mem_of_getElem? (i := 142) rfl)) rfl
theorem wcd_X7_append : Cond.code yX7_append cX7_append 2 (some .int) ∈ TB := TB_of (tb_4 (List.mem_of_getElem? (i := 143) rfl)) rfl
theorem wml_RL_64 : Cond.methodLink RL 64 yX7_clear ∈ TB := TB_of (tb_4 (List.mem_of_getElem? (i := 144) rfl)) rfl
theorem wim_X7_clear : Cond.instanceMethod yX7_clear ∈ TB := TB_of (tb_4 (List.mem_of_getElem? (i := 145) rfl)) rfl
theorem wse_X7_clear : Cond.selects RX7 yX7_clear yX7_clear ∈ TB := TB_of (tb_4 (List.mem_of_getElem? (i := 146) rfl)) rfl
theorem wcd_X7_clear : Cond.code yX7_clear cX7_clear 2 (some .int) ∈ TB := TB_of (tb_4 (List.mem_of_getElem? (i := 147) rfl)) rfl
theorem wml_RL_68 : Cond.methodLink RL 68 yX7_fault ∈ TB := TB_of (tb_4 (List.mem_of_getElem? (i := 148) rfl)) rfl
theorem wim_X7_fault : Cond.instanceMethod yX7_fault ∈ TB := TB_of (tb_4 (List.mem_of_getElem? (i := 149) rfl)) rfl
theorem wse_X7_fault : Cond.selects RX7 yX7_fault yX7_fault ∈ TB := TB_of (tb_4 (List.mem_of_getElem? (i := 150) rfl)) rfl
theorem wcd_X7_fault : Cond.code yX7_fault cX7_fault 1 (some .int) ∈ TB := TB_of (tb_4 (List.mem_of_getElem? (i := 151) rfl)) rfl
theorem wml_RX7_182 : Cond.methodLink RX7 182 yX7_isText ∈ TB := TB_of (tb_4 (List.mem_of_getElem? (i := 152) rfl)) rfl
theorem wim_X7_isText : Cond.instanceMethod yX7_isText ∈ TB := TB_of (tb_4 (List.mem_of_getElem? (i := 154) rfl)) rfl
theorem wcd_X7_isText : Cond.code yX7_isText cX7_isText 1 (some .boolean) ∈ TB := TB_of (tb_4 (List.mem_of_getElem? (i := 155) rfl)) rfl
theorem wml_RX7_179 : Cond.methodLink RX7 179 yX7_takesOrder ∈ TB := TB_of (tb_4 (List.mem_of_getElem? (i := 156) rfl)) rfl
theorem wim_X7_takesOrder : Cond.instanceMethod yX7_takesOrder ∈ TB := TB_of (tb_4 (List.mem_of_getElem? (i := 158) rfl)) rfl
theorem wcd_X7_takesOrder : Cond.code yX7_takesOrder cX7_takesOrder 2 none ∈ TB := TB_of (tb_4 (List.mem_of_getElem? (i := 159) rfl)) rfl
theorem wml_RX7_155 : Cond.methodLink RX7 155 yX7_here ∈ TB := TB_of (tb_4 (List.mem_of_getElem? (i := 160) rfl)) rfl
theorem wim_X7_here : Cond.instanceMethod yX7_here ∈ TB := TB_of (tb_4 (List.mem_of_getElem? (i := 162) rfl)) rfl
theorem wcd_X7_here : Cond.code yX7_here cX7_here 1 (some .int) ∈ TB := TB_of (tb_4 (List.mem_of_getElem? (i := 163) rfl)) rfl
theorem wml_RX7_162 : Cond.methodLink RX7 162 yX7_takes ∈ TB := TB_of (tb_4 (List.mem_of_getElem? (i := 164) rfl)) rfl
theorem wim_X7_takes : Cond.instanceMethod yX7_takes ∈ TB := TB_of (tb_4 (List.mem_of_getElem? (i := 166) rfl)) rfl
theorem wcd_X7_takes : Cond.code yX7_takes cX7_takes 2 none ∈ TB := TB_of (tb_4 (List.mem_of_getElem? (i := 167) rfl)) rfl
theorem wml_RX7_172 : Cond.methodLink RX7 172 yX7_takesNumber ∈ TB := TB_of (tb_4 (List.mem_of_getElem? (i := 168) rfl)) rfl
theorem wim_X7_takesNumber : Cond.instanceMethod yX7_takesNumber ∈ TB := TB_of (tb_4 (List.mem_of_getElem? (i := 170) rfl)) rfl
theorem wcd_X7_takesNumber : Cond.code yX7_takesNumber cX7_takesNumber 4 (some .int) ∈ TB := TB_of (tb_4 (List.mem_of_getElem? (i := 171) rfl)) rfl
theorem wml_RX7_158 : Cond.methodLink RX7 158 yX7_isNumber ∈ TB := TB_of (tb_4 (List.mem_of_getElem? (i := 172) rfl)) rfl
theorem wst_X7_isNumber : Cond.static yX7_isNumber ∈ TB := TB_of (tb_4 (List.mem_of_getElem? (i := 173) rfl)) rfl
theorem wcd_X7_isNumber : Cond.code yX7_isNumber cX7_isNumber 2 (some .boolean) ∈ TB := TB_of (tb_4 (List.mem_of_getElem? (i := 174) rfl)) rfl
theorem wml_RL_72 : Cond.methodLink RL 72 yX7_run ∈ TB := TB_of (tb_4 (List.mem_of_getElem? (i := 175) rfl)) rfl
theorem wim_X7_run : Cond.instanceMethod yX7_run ∈ TB := TB_of (tb_4 (List.mem_of_getElem? (i := 176) rfl)) rfl
theorem wse_X7_run : Cond.selects RX7 yX7_run yX7_run ∈ TB := TB_of (tb_4 (List.mem_of_getElem? (i := 177) rfl)) rfl
theorem wcd_X7_run : Cond.code yX7_run cX7_run 4 (some .int) ∈ TB := TB_of (tb_4 (List.mem_of_getElem? (i := 178) rfl)) rfl
theorem wml_RX7_189 : Cond.methodLink RX7 189 yX7_doesOrder ∈ TB := TB_of (tb_4 (List.mem_of_getElem? (i := 179) rfl)) rfl
theorem wim_X7_doesOrder : Cond.instanceMethod yX7_doesOrder ∈ TB := TB_of (tb_4 (List.mem_of_getElem? (i := 181) rfl)) rfl
theorem wcd_X7_doesOrder : Cond.code yX7_doesOrder cX7_doesOrder 1 (some .int) ∈ TB := TB_of (tb_4 (List.mem_of_getElem? (i := 182) rfl)) rfl
theorem wml_RL_76 : Cond.methodLink RL 76 yX7_why ∈ TB := TB_of (tb_4 (List.mem_of_getElem? (i := 183) rfl)) rfl
theorem wim_X7_why : Cond.instanceMethod yX7_why ∈ TB := TB_of (tb_4 (List.mem_of_getElem? (i := 184) rfl)) rfl
theorem wse_X7_why : Cond.selects RX7 yX7_why yX7_why ∈ TB := TB_of (tb_4 (List.mem_of_getElem? (i := 185) rfl)) rfl
theorem wcd_X7_why : Cond.code yX7_why cX7_why 2 (some .int) ∈ TB := TB_of (tb_4 (List.mem_of_getElem? (i := 186) rfl)) rfl
theorem wml_RL_80 : Cond.methodLink RL 80 yX7_roof ∈ TB := TB_of (tb_4 (List.mem_of_getElem? (i := 187) rfl)) rfl
theorem wim_X7_roof : Cond.instanceMethod yX7_roof ∈ TB := TB_of (tb_4 (List.mem_of_getElem? (i := 188) rfl)) rfl
theorem wse_X7_roof : Cond.selects RX7 yX7_roof yX7_roof ∈ TB := TB_of (tb_4 (List.mem_of_getElem? (i := 189) rfl)) rfl
theorem wcd_X7_roof : Cond.code yX7_roof cX7_roof 3 (some .int) ∈ TB := TB_of (tb_4 (List.mem_of_getElem? (i := 190) rfl)) rfl
theorem wml_RX7_192 : Cond.methodLink RX7 192 yX7_chimneysOver ∈ TB := TB_of (tb_4 (List.mem_of_getElem? (i := 191) rfl)) rfl
theorem wim_X7_chimneysOver : Cond.instanceMethod yX7_chimneysOver ∈ TB := TB_of (tb_4 (List.mem_of_getElem? (i := 193) rfl)) rfl
theorem wcd_X7_chimneysOver : Cond.code yX7_chimneysOver cX7_chimneysOver 4 (some .int) ∈ TB := TB_of (tb_4 (List.mem_of_getElem? (i := 194) rfl)) rfl
theorem wml_RX7_195 : Cond.methodLink RX7 195 yX7_ownersAt ∈ TB := TB_of (tb_4 (List.mem_of_getElem? (i := 195) rfl)) rfl
theorem wim_X7_ownersAt : Cond.instanceMethod yX7_ownersAt ∈ TB := TB_of (tb_4 (List.mem_of_getElem? (i := 197) rfl)) rfl
theorem wcd_X7_ownersAt : Cond.code yX7_ownersAt cX7_ownersAt 4 (some .int) ∈ TB := TB_of (tb_4 (List.mem_of_getElem? (i := 198) rfl)) rfl
theorem wml_RX7_198 : Cond.methodLink RX7 198 yX7_strongAt ∈ TB := TB_of (tb_4 (List.mem_of_getElem? (i := 199) rfl)) rfl
theorem wim_X7_strongAt : Cond.instanceMethod yX7_strongAt ∈ TB := TB_of (tb_4 (List.mem_of_getElem? (i := 201) rfl)) rfl
theorem wcd_X7_strongAt : Cond.code yX7_strongAt cX7_strongAt 4 (some .int) ∈ TB := TB_of (tb_4 (List.mem_of_getElem? (i := 202) rfl)) rfl
theorem wml_RX7_201 : Cond.methodLink RX7 201 yX7_linesAt ∈ TB := TB_of (tb_4 (List.mem_of_getElem? (i := 203) rfl)) rfl
theorem wim_X7_linesAt : Cond.instanceMethod yX7_linesAt ∈ TB := TB_of (tb_4 (List.mem_of_getElem? (i := 205) rfl)) rfl
theorem wcd_X7_linesAt : Cond.code yX7_linesAt cX7_linesAt 4 (some .int) ∈ TB := TB_of (tb_4 (List.mem_of_getElem? (i := 206) rfl)) rfl
theorem wml_RX7_204 : Cond.methodLink RX7 204 yX7_comeTo ∈ TB := TB_of (tb_4 (List.mem_of_getElem? (i := 207) rfl)) rfl
theorem wim_X7_comeTo : Cond.instanceMethod yX7_comeTo ∈ TB := TB_of (tb_4 (List.mem_of_getElem? (i := 209) rfl)) rfl
theorem wcd_X7_comeTo : Cond.code yX7_comeTo cX7_comeTo 8 (some .int) ∈ TB := TB_of (tb_4 (List.mem_of_getElem? (i := 210) rfl)) rfl
theorem wml_RL_84 : Cond.methodLink RL 84 yX7_gangway ∈ TB := TB_of (tb_4 (List.mem_of_getElem? (i := 211) rfl)) rfl
theorem wim_X7_gangway : Cond.instanceMethod yX7_gangway ∈ TB := TB_of (tb_4 (List.mem_of_getElem? (i := 212) rfl)) rfl
theorem wse_X7_gangway : Cond.selects RX7 yX7_gangway yX7_gangway ∈ TB := TB_of (tb_4 (List.mem_of_getElem? (i := 213) rfl)) rfl
theorem wcd_X7_gangway : Cond.code yX7_gangway cX7_gangway 3 (some .int) ∈ TB := TB_of (tb_4 (List.mem_of_getElem? (i := 214) rfl)) rfl
theorem wml_RL_88 : Cond.methodLink RL 88 yX7_ownerOf ∈ TB := TB_of (tb_4 (List.mem_of_getElem? (i := 215) rfl)) rfl
theorem wim_X7_ownerOf : Cond.instanceMethod yX7_ownerOf ∈ TB := TB_of (tb_4 (List.mem_of_getElem? (i := 216) rfl)) rfl
theorem wse_X7_ownerOf : Cond.selects RX7 yX7_ownerOf yX7_ownerOf ∈ TB := TB_of (tb_4 (List.mem_of_getElem? (i := 217) rfl)) rfl
theorem wcd_X7_ownerOf : Cond.code yX7_ownerOf cX7_ownerOf 3 (some .int) ∈ TB := TB_of (tb_4 (List.mem_of_getElem? (i := 218) rfl)) rfl
theorem wml_RX7_207 : Cond.methodLink RX7 207 yX7_linesOf ∈ TB := TB_of (tb_4 (List.mem_of_getElem? (i := 219) rfl)) rfl
theorem wim_X7_linesOf : Cond.instanceMethod yX7_linesOf ∈ TB := TB_of (tb_4 (List.mem_of_getElem? (i := 221) rfl)) rfl
theorem wcd_X7_linesOf : Cond.code yX7_linesOf cX7_linesOf 5 (some .int) ∈ TB := TB_of (tb_4 (List.mem_of_getElem? (i := 222) rfl)) rfl
theorem wml_RX7_211 : Cond.methodLink RX7 211 yX7_walksNow ∈ TB := TB_of (tb_4 (List.mem_of_getElem? (i := 223) rfl)) rfl
theorem wim_X7_walksNow : Cond.instanceMethod yX7_walksNow ∈ TB := TB_of (tb_4 (List.mem_of_getElem? (i := 225) rfl)) rfl
theorem wcd_X7_walksNow : Cond.code yX7_walksNow cX7_walksNow 5 (some .int) ∈ TB := TB_of (tb_4 (List.mem_of_getElem? (i := 226) rfl)) rfl
theorem wml_RX7_214 : Cond.methodLink RX7 214 yX7_hangsNow ∈ TB := TB_of (tb_4 (List.mem_of_getElem? (i := 227) rfl)) rfl
theorem wim_X7_hangsNow : Cond.instanceMethod yX7_hangsNow ∈ TB := TB_of (tb_4 (List.mem_of_getElem? (i := 229) rfl)) rfl
theorem wcd_X7_hangsNow : Cond.code yX7_hangsNow cX7_hangsNow 4 (some .int) ∈ TB := TB_of (tb_4 (List.mem_of_getElem? (i := 230) rfl)) rfl
theorem wml_RL_92 : Cond.methodLink RL 92 yX7_whyNotHang ∈ TB := TB_of (tb_4 (List.mem_of_getElem? (i := 231) rfl)) rfl
theorem wim_X7_whyNotHang : Cond.instanceMethod yX7_whyNotHang ∈ TB := TB_of (tb_4 (List.mem_of_getElem? (i := 232) rfl)) rfl
theorem wse_X7_whyNotHang : Cond.selects RX7 yX7_whyNotHang yX7_whyNotHang ∈ TB := TB_of (tb_4 (List.mem_of_getElem? (i := 233) rfl)) rfl
theorem wcd_X7_whyNotHang : Cond.code yX7_whyNotHang cX7_whyNotHang 3 (some .int) ∈ TB := TB_of (tb_4 (List.mem_of_getElem? (i := 234) rfl)) rfl
theorem wml_RL_97 : Cond.methodLink RL 97 yX7_strongest ∈ TB := TB_of (tb_4 (List.mem_of_getElem? (i := 235) rfl)) rfl
theorem wim_X7_strongest : Cond.instanceMethod yX7_strongest ∈ TB := TB_of (tb_4 (List.mem_of_getElem? (i := 236) rfl)) rfl
theorem wse_X7_strongest : Cond.selects RX7 yX7_strongest yX7_strongest ∈ TB := TB_of (tb_4 (List.mem_of_getElem? (i := 237) rfl)) rfl
theorem wcd_X7_strongest : Cond.code yX7_strongest cX7_strongest 4 (some .int) ∈ TB := TB_of (tb_4 (List.mem_of_getElem? (i := 238) rfl)) rfl
theorem wml_RX7_217 : Cond.methodLink RX7 217 yX7_strengthOf ∈ TB := TB_of (tb_4 (List.mem_of_getElem? (i := 239) rfl)) rfl
theorem wim_X7_strengthOf : Cond.instanceMethod yX7_strengthOf ∈ TB := TB_of (tb_5 (List.mem_of_getElem? (i := 1) rfl)) rfl
theorem wcd_X7_strengthOf : Cond.code yX7_strengthOf cX7_strengthOf 5 (some .int) ∈ TB := TB_of (tb_5 (List.mem_of_getElem? (i := 2) rfl)) rfl
theorem wml_RL_101 : Cond.methodLink RL 101 yX7_steps ∈ TB := TB_of (tb_5 (List.mem_of_getElem? (i := 3) rfl)) rfl
theorem wim_X7_steps : Cond.instanceMethod yX7_steps ∈ TB := TB_of (tb_5 (List.mem_of_getElem? (i := 4) rfl)) rfl
theorem wse_X7_steps : Cond.selects RX7 yX7_steps yX7_steps ∈ TB := TB_of (tb_5 (List.mem_of_getElem? (i := 5) rfl)) rfl
theorem wcd_X7_steps : Cond.code yX7_steps cX7_steps 3 (some .int) ∈ TB := TB_of (tb_5 (List.mem_of_getElem? (i := 6) rfl)) rfl
theorem wml_RX7_223 : Cond.methodLink RX7 223 yX7_stepsOf ∈ TB := TB_of (tb_5 (List.mem_of_getElem? (i := 7) rfl)) rfl
theorem wim_X7_stepsOf : Cond.instanceMethod yX7_stepsOf ∈ TB := TB_of (tb_5 (List.mem_of_getElem? (i := 9) rfl)) rfl
theorem wcd_X7_stepsOf : Cond.code yX7_stepsOf cX7_stepsOf 5 (some .int) ∈ TB := TB_of (tb_5 (List.mem_of_getElem? (i := 10) rfl)) rfl
theorem wml_RX7_220 : Cond.methodLink RX7 220 yX7_furtherFrom ∈ TB := TB_of (tb_5 (List.mem_of_getElem? (i := 11) rfl)) rfl
theorem wim_X7_furtherFrom : Cond.instanceMethod yX7_furtherFrom ∈ TB := TB_of (tb_5 (List.mem_of_getElem? (i := 13) rfl)) rfl
theorem wcd_X7_furtherFrom : Cond.code yX7_furtherFrom cX7_furtherFrom 7 (some .int) ∈ TB := TB_of (tb_5 (List.mem_of_getElem? (i := 14) rfl)) rfl
theorem wml_RL_105 : Cond.methodLink RL 105 yX7_count ∈ TB := TB_of (tb_5 (List.mem_of_getElem? (i := 15) rfl)) rfl
theorem wim_X7_count : Cond.instanceMethod yX7_count ∈ TB := TB_of (tb_5 (List.mem_of_getElem? (i := 16) rfl)) rfl
theorem wse_X7_count : Cond.selects RX7 yX7_count yX7_count ∈ TB := TB_of (tb_5 (List.mem_of_getElem? (i := 17) rfl)) rfl
theorem wcd_X7_count : Cond.code yX7_count cX7_count 2 (some .int) ∈ TB := TB_of (tb_5 (List.mem_of_getElem? (i := 18) rfl)) rfl
theorem wml_RX7_226 : Cond.methodLink RX7 226 yX7_sumOf ∈ TB := TB_of (tb_5 (List.mem_of_getElem? (i := 19) rfl)) rfl
theorem wim_X7_sumOf : Cond.instanceMethod yX7_sumOf ∈ TB := TB_of (tb_5 (List.mem_of_getElem? (i := 21) rfl)) rfl
theorem wcd_X7_sumOf : Cond.code yX7_sumOf cX7_sumOf 4 (some .int) ∈ TB := TB_of (tb_5 (List.mem_of_getElem? (i := 22) rfl)) rfl
theorem wml_RX7_229 : Cond.methodLink RX7 229 yX7_smokedBy ∈ TB := TB_of (tb_5 (List.mem_of_getElem? (i := 23) rfl)) rfl
theorem wim_X7_smokedBy : Cond.instanceMethod yX7_smokedBy ∈ TB := TB_of (tb_5 (List.mem_of_getElem? (i := 25) rfl)) rfl
theorem wcd_X7_smokedBy : Cond.code yX7_smokedBy cX7_smokedBy 5 (some .int) ∈ TB := TB_of (tb_5 (List.mem_of_getElem? (i := 26) rfl)) rfl
theorem wml_RL_110 : Cond.methodLink RL 110 yX7_cleanness ∈ TB := TB_of (tb_5 (List.mem_of_getElem? (i := 27) rfl)) rfl
theorem wim_X7_cleanness : Cond.instanceMethod yX7_cleanness ∈ TB := TB_of (tb_5 (List.mem_of_getElem? (i := 28) rfl)) rfl
theorem wse_X7_cleanness : Cond.selects RX7 yX7_cleanness yX7_cleanness ∈ TB := TB_of (tb_5 (List.mem_of_getElem? (i := 29) rfl)) rfl
theorem wcd_X7_cleanness : Cond.code yX7_cleanness cX7_cleanness 1 (some .double) ∈ TB := TB_of (tb_5 (List.mem_of_getElem? (i := 30) rfl)) rfl
theorem wml_RL_114 : Cond.methodLink RL 114 yX7_ifWind ∈ TB := TB_of (tb_5 (List.mem_of_getElem? (i := 31) rfl)) rfl
theorem wim_X7_ifWind : Cond.instanceMethod yX7_ifWind ∈ TB := TB_of (tb_5 (List.mem_of_getElem? (i := 32) rfl)) rfl
theorem wse_X7_ifWind : Cond.selects RX7 yX7_ifWind yX7_ifWind ∈ TB := TB_of (tb_5 (List.mem_of_getElem? (i := 33) rfl)) rfl
theorem wcd_X7_ifWind : Cond.code yX7_ifWind cX7_ifWind 2 (some .int) ∈ TB := TB_of (tb_5 (List.mem_of_getElem? (i := 34) rfl)) rfl
theorem wml_RL_118 : Cond.methodLink RL 118 yX7_bestWind ∈ TB := TB_of (tb_5 (List.mem_of_getElem? (i := 35) rfl)) rfl
theorem wim_X7_bestWind : Cond.instanceMethod yX7_bestWind ∈ TB := TB_of (tb_5 (List.mem_of_getElem? (i := 36) rfl)) rfl
theorem wse_X7_bestWind : Cond.selects RX7 yX7_bestWind yX7_bestWind ∈ TB := TB_of (tb_5 (List.mem_of_getElem? (i := 37) rfl)) rfl
theorem wcd_X7_bestWind : Cond.code yX7_bestWind cX7_bestWind 3 (some .int) ∈ TB := TB_of (tb_5 (List.mem_of_getElem? (i := 38) rfl)) rfl
theorem wml_RL_122 : Cond.methodLink RL 122 yX7_ifDays ∈ TB := TB_of (tb_5 (List.mem_of_getElem? (i := 39) rfl)) rfl
theorem wim_X7_ifDays : Cond.instanceMethod yX7_ifDays ∈ TB := TB_of (tb_5 (List.mem_of_getElem? (i := 40) rfl)) rfl
theorem wse_X7_ifDays : Cond.selects RX7 yX7_ifDays yX7_ifDays ∈ TB := TB_of (tb_5 (List.mem_of_getElem? (i := 41) rfl)) rfl
theorem wcd_X7_ifDays : Cond.code yX7_ifDays cX7_ifDays 5 (some .int) ∈ TB := TB_of (tb_5 (List.mem_of_getElem? (i := 42) rfl)) rfl
theorem wml_RL_126 : Cond.methodLink RL 126 yX7_bestPlace ∈ TB := TB_of (tb_5 (List.mem_of_getElem? (i := 43) rfl)) rfl
theorem wim_X7_bestPlace : Cond.instanceMethod yX7_bestPlace ∈ TB := TB_of (tb_5 (List.mem_of_getElem? (i := 44) rfl)) rfl
theorem wse_X7_bestPlace : Cond.selects RX7 yX7_bestPlace yX7_bestPlace ∈ TB := TB_of (tb_5 (List.mem_of_getElem? (i := 45) rfl)) rfl
theorem wcd_X7_bestPlace : Cond.code yX7_bestPlace cX7_bestPlace 6 (some .int) ∈ TB := TB_of (tb_5 (List.mem_of_getElem? (i := 46) rfl)) rfl
theorem wml_RX7_232 : Cond.methodLink RX7 232 yX7_windsOver ∈ TB := TB_of (tb_5 (List.mem_of_getElem? (i := 47) rfl)) rfl
theorem wim_X7_windsOver : Cond.instanceMethod yX7_windsOver ∈ TB := TB_of (tb_5 (List.mem_of_getElem? (i := 49) rfl)) rfl
theorem wcd_X7_windsOver : Cond.code yX7_windsOver cX7_windsOver 4 (some .int) ∈ TB := TB_of (tb_5 (List.mem_of_getElem? (i := 50) rfl)) rfl
theorem wml_RL_130 : Cond.methodLink RL 130 yX7_undo ∈ TB := TB_of (tb_5 (List.mem_of_getElem? (i := 51) rfl)) rfl
theorem wim_X7_undo : Cond.instanceMethod yX7_undo ∈ TB := TB_of (tb_5 (List.mem_of_getElem? (i := 52) rfl)) rfl
theorem wse_X7_undo : Cond.selects RX7 yX7_undo yX7_undo ∈ TB := TB_of (tb_5 (List.mem_of_getElem? (i := 53) rfl)) rfl
theorem wcd_X7_undo : Cond.code yX7_undo cX7_undo 1 (some .int) ∈ TB := TB_of (tb_5 (List.mem_of_getElem? (i := 54) rfl)) rfl
theorem wml_RL_134 : Cond.methodLink RL 134 yX7_save ∈ TB := TB_of (tb_5 (List.mem_of_getElem? (i := 55) rfl)) rfl
theorem wim_X7_save : Cond.instanceMethod yX7_save ∈ TB := TB_of (tb_5 (List.mem_of_getElem? (i := 56) rfl)) rfl
theorem wse_X7_save : Cond.selects RX7 yX7_save yX7_save ∈ TB := TB_of (tb_5 (List.mem_of_getElem? (i := 57) rfl)) rfl
theorem wcd_X7_save : Cond.code yX7_save cX7_save 1 (some .int) ∈ TB := TB_of (tb_5 (List.mem_of_getElem? (i := 58) rfl)) rfl
theorem wml_RL_138 : Cond.methodLink RL 138 yX7_restore ∈ TB := TB_of (tb_5 (List.mem_of_getElem? (i := 59) rfl)) rfl
theorem wim_X7_restore : Cond.instanceMethod yX7_restore ∈ TB := TB_of (tb_5 (List.mem_of_getElem? (i := 60) rfl)) rfl
theorem wse_X7_restore : Cond.selects RX7 yX7_restore yX7_restore ∈ TB := TB_of (tb_5 (List.mem_of_getElem? (i := 61) rfl)) rfl
theorem wcd_X7_restore : Cond.code yX7_restore cX7_restore 1 (some .int) ∈ TB := TB_of (tb_5 (List.mem_of_getElem? (i := 62) rfl)) rfl
theorem wse_X2_readOrder : Cond.selects RX2 yX2_readOrder yX2_readOrder ∈ TB := TB_of (tb_0 (List.mem_of_getElem? (i := 0) rfl)) rfl
theorem wse_X2_readOwner : Cond.selects RX2 yX2_readOwner yX2_readOwner ∈ TB := TB_of (tb_0 (List.mem_of_getElem? (i := 1) rfl)) rfl
theorem wse_X2_digitAt : Cond.selects RX2 yX2_digitAt yX2_digitAt ∈ TB := TB_of (tb_0 (List.mem_of_getElem? (i := 2) rfl)) rfl
theorem wse_X2_readSign : Cond.selects RX2 yX2_readSign yX2_readSign ∈ TB := TB_of (tb_0 (List.mem_of_getElem? (i := 3) rfl)) rfl
theorem wse_X2_readNumber : Cond.selects RX2 yX2_readNumber yX2_readNumber ∈ TB := TB_of (tb_0 (List.mem_of_getElem? (i := 4) rfl)) rfl
theorem wse_X6_carryOutOrder : Cond.selects RX6 yX6_carryOutOrder yX6_carryOutOrder ∈ TB := TB_of (tb_0 (List.mem_of_getElem? (i := 5) rfl)) rfl
theorem wse_X6_keepStop : Cond.selects RX6 yX6_keepStop yX6_keepStop ∈ TB := TB_of (tb_0 (List.mem_of_getElem? (i := 6) rfl)) rfl
theorem wse_X5_joinOver : Cond.selects RX5 yX5_joinOver yX5_joinOver ∈ TB := TB_of (tb_0 (List.mem_of_getElem? (i := 7) rfl)) rfl
theorem wse_X5_rename : Cond.selects RX5 yX5_rename yX5_rename ∈ TB := TB_of (tb_0 (List.mem_of_getElem? (i := 8) rfl)) rfl
theorem wse_X5_spread : Cond.selects RX5 yX5_spread yX5_spread ∈ TB := TB_of (tb_0 (List.mem_of_getElem? (i := 9) rfl)) rfl
theorem wse_X5_raise : Cond.selects RX5 yX5_raise yX5_raise ∈ TB := TB_of (tb_0 (List.mem_of_getElem? (i := 10) rfl)) rfl
theorem wse_X5_oneWalkFurther : Cond.selects RX5 yX5_oneWalkFurther yX5_oneWalkFurther ∈ TB := TB_of (tb_0 (List.mem_of_getElem? (i := 11) rfl)) rfl
theorem wse_X7_records : Cond.selects RX7 yX7_records yX7_records ∈ TB := TB_of (tb_0 (List.mem_of_getElem? (i := 12) rfl)) rfl
theorem wse_X7_of : Cond.selects RX7 yX7_of yX7_of ∈ TB := TB_of (tb_0 (List.mem_of_getElem? (i := 13) rfl)) rfl
theorem wse_X7_lays : Cond.selects RX7 yX7_lays yX7_lays ∈ TB := TB_of (tb_0 (List.mem_of_getElem? (i := 14) rfl)) rfl
theorem wse_X7_hasLine : Cond.selects RX7 yX7_hasLine yX7_hasLine ∈ TB := TB_of (tb_0 (List.mem_of_getElem? (i := 15) rfl)) rfl
theorem wse_X7_removes : Cond.selects RX7 yX7_removes yX7_removes ∈ TB := TB_of (tb_0 (List.mem_of_getElem? (i := 16) rfl)) rfl
theorem wse_X7_goChimney : Cond.selects RX7 yX7_goChimney yX7_goChimney ∈ TB := TB_of (tb_0 (List.mem_of_getElem? (i := 17) rfl)) rfl
theorem wse_X7_smoke : Cond.selects RX7 yX7_smoke yX7_smoke ∈ TB := TB_of (tb_0 (List.mem_of_getElem? (i := 18) rfl)) rfl
theorem wse_X7_smokeBy : Cond.selects RX7 yX7_smokeBy yX7_smokeBy ∈ TB := TB_of (tb_0 (List.mem_of_getElem? (i := 19) rfl)) rfl
theorem wse_X7_smokeOf : Cond.selects RX7 yX7_smokeOf yX7_smokeOf ∈ TB := TB_of (tb_0 (List.mem_of_getElem? (i := 20) rfl)) rfl
theorem wse_X7_ofOwner : Cond.selects RX7 yX7_ofOwner yX7_ofOwner ∈ TB := TB_of (tb_0 (List.mem_of_getElem? (i := 21) rfl)) rfl
theorem wse_X7_goHang : Cond.selects RX7 yX7_goHang yX7_goHang ∈ TB := TB_of (tb_0 (List.mem_of_getElem? (i := 22) rfl)) rfl
theorem wse_X7_reasonToHang : Cond.selects RX7 yX7_reasonToHang yX7_reasonToHang ∈ TB := TB_of (tb_0 (List.mem_of_getElem? (i := 23) rfl)) rfl
theorem wse_X7_bothOf : Cond.selects RX7 yX7_bothOf yX7_bothOf ∈ TB := TB_of (tb_0 (List.mem_of_getElem? (i := 24) rfl)) rfl
theorem wse_X7_nearCoops : Cond.selects RX7 yX7_nearCoops yX7_nearCoops ∈ TB := TB_of (tb_0 (List.mem_of_getElem? (i := 25) rfl)) rfl
theorem wse_X7_refuses : Cond.selects RX7 yX7_refuses yX7_refuses ∈ TB := TB_of (tb_0 (List.mem_of_getElem? (i := 26) rfl)) rfl
theorem wse_X7_linesNow : Cond.selects RX7 yX7_linesNow yX7_linesNow ∈ TB := TB_of (tb_0 (List.mem_of_getElem? (i := 27) rfl)) rfl
theorem wse_X7_goTake : Cond.selects RX7 yX7_goTake yX7_goTake ∈ TB := TB_of (tb_0 (List.mem_of_getElem? (i := 28) rfl)) rfl
theorem wse_X7_goWalk : Cond.selects RX7 yX7_goWalk yX7_goWalk ∈ TB := TB_of (tb_0 (List.mem_of_getElem? (i := 29) rfl)) rfl
theorem wse_X7_reasonToWalk : Cond.selects RX7 yX7_reasonToWalk yX7_reasonToWalk ∈ TB := TB_of (tb_0 (List.mem_of_getElem? (i := 30) rfl)) rfl
theorem wse_X7_goDay : Cond.selects RX7 yX7_goDay yX7_goDay ∈ TB := TB_of (tb_0 (List.mem_of_getElem? (i := 31) rfl)) rfl
theorem wse_X7_cleanNow : Cond.selects RX7 yX7_cleanNow yX7_cleanNow ∈ TB := TB_of (tb_0 (List.mem_of_getElem? (i := 32) rfl)) rfl
theorem wse_X7_isClean : Cond.selects RX7 yX7_isClean yX7_isClean ∈ TB := TB_of (tb_0 (List.mem_of_getElem? (i := 33) rfl)) rfl
theorem wse_X7_isText : Cond.selects RX7 yX7_isText yX7_isText ∈ TB := TB_of (tb_0 (List.mem_of_getElem? (i := 34) rfl)) rfl
theorem wse_X7_takesOrder : Cond.selects RX7 yX7_takesOrder yX7_takesOrder ∈ TB := TB_of (tb_0 (List.mem_of_getElem? (i := 35) rfl)) rfl
theorem wse_X7_here : Cond.selects RX7 yX7_here yX7_here ∈ TB := TB_of (tb_0 (List.mem_of_getElem? (i := 36) rfl)) rfl
theorem wse_X7_takes : Cond.selects RX7 yX7_takes yX7_takes ∈ TB := TB_of (tb_0 (List.mem_of_getElem? (i := 37) rfl)) rfl
theorem wse_X7_takesNumber : Cond.selects RX7 yX7_takesNumber yX7_takesNumber ∈ TB := TB_of (tb_0 (List.mem_of_getElem? (i := 38) rfl)) rfl
theorem wse_X7_doesOrder : Cond.selects RX7 yX7_doesOrder yX7_doesOrder ∈ TB := TB_of (tb_0 (List.mem_of_getElem? (i := 39) rfl)) rfl
theorem wse_X7_chimneysOver : Cond.selects RX7 yX7_chimneysOver yX7_chimneysOver ∈ TB := TB_of (tb_0 (List.mem_of_getElem? (i := 40) rfl)) rfl
theorem wse_X7_ownersAt : Cond.selects RX7 yX7_ownersAt yX7_ownersAt ∈ TB := TB_of (tb_0 (List.mem_of_getElem? (i := 41) rfl)) rfl
theorem wse_X7_strongAt : Cond.selects RX7 yX7_strongAt yX7_strongAt ∈ TB := TB_of (tb_0 (List.mem_of_getElem? (i := 42) rfl)) rfl
theorem wse_X7_linesAt : Cond.selects RX7 yX7_linesAt yX7_linesAt ∈ TB := TB_of (tb_0 (List.mem_of_getElem? (i := 43) rfl)) rfl
theorem wse_X7_comeTo : Cond.selects RX7 yX7_comeTo yX7_comeTo ∈ TB := TB_of (tb_0 (List.mem_of_getElem? (i := 44) rfl)) rfl
theorem wse_X7_linesOf : Cond.selects RX7 yX7_linesOf yX7_linesOf ∈ TB := TB_of (tb_0 (List.mem_of_getElem? (i := 45) rfl)) rfl
theorem wse_X7_walksNow : Cond.selects RX7 yX7_walksNow yX7_walksNow ∈ TB := TB_of (tb_0 (List.mem_of_getElem? (i := 46) rfl)) rfl
theorem wse_X7_hangsNow : Cond.selects RX7 yX7_hangsNow yX7_hangsNow ∈ TB := TB_of (tb_0 (List.mem_of_getElem? (i := 47) rfl)) rfl
theorem wse_X7_strengthOf : Cond.selects RX7 yX7_strengthOf yX7_strengthOf ∈ TB := TB_of (tb_0 (List.mem_of_getElem? (i := 48) rfl)) rfl
theorem wse_X7_stepsOf : Cond.selects RX7 yX7_stepsOf yX7_stepsOf ∈ TB := TB_of (tb_0 (List.mem_of_getElem? (i := 49) rfl)) rfl
theorem wse_X7_furtherFrom : Cond.selects RX7 yX7_furtherFrom yX7_furtherFrom ∈ TB := TB_of (tb_0 (List.mem_of_getElem? (i := 50) rfl)) rfl
theorem wse_X7_sumOf : Cond.selects RX7 yX7_sumOf yX7_sumOf ∈ TB := TB_of (tb_0 (List.mem_of_getElem? (i := 51) rfl)) rfl
theorem wse_X7_smokedBy : Cond.selects RX7 yX7_smokedBy yX7_smokedBy ∈ TB := TB_of (tb_0 (List.mem_of_getElem? (i := 52) rfl)) rfl
theorem wse_X7_windsOver : Cond.selects RX7 yX7_windsOver yX7_windsOver ∈ TB := TB_of (tb_0 (List.mem_of_getElem? (i := 53) rfl)) rfl
theorem inT_X0 : ∀ w ∈ u_ws RX0 TX0 19, w ∈ TB := List.forall_mem_cons.mpr ⟨wla_RX0_borne, List.forall_mem_cons.mpr ⟨wla_RX0_hangers, List.forall_mem_cons.mpr ⟨wla_RX0_soot, List.forall_mem_cons.mpr ⟨wla_RX0_spots, List.forall_mem_cons.mpr ⟨wla_RX0_weights, List.forall_mem_cons.mpr ⟨wla_RX0_keys, List.forall_mem_cons.mpr ⟨wla_RX0_places, List.forall_mem_cons.mpr ⟨wla_RX0_walks, List.forall_mem_cons.mpr ⟨wla_RX0_truces, List.forall_mem_cons.mpr ⟨wla_RX0_chimneys, List.forall_mem_cons.mpr ⟨wla_RX0_coops, List.forall_mem_cons.mpr ⟨wla_RX0_windTo, List.forall_mem_cons.mpr ⟨wla_RX0_smokeReach, List.forall_mem_cons.mpr ⟨wla_RX0_dayNumber, List.forall_mem_cons.mpr ⟨wla_RX0_lot, List.forall_mem_cons.mpr ⟨wla_RX0_hung, List.forall_mem_cons.mpr ⟨wla_RX0_taken, List.forall_mem_cons.mpr ⟨wla_RX0_fallen, List.forall_mem_cons.mpr ⟨wla_RX0_refused, fun _ h => absurd h List.not_mem_nil⟩⟩⟩⟩⟩⟩⟩⟩⟩⟩⟩⟩⟩⟩⟩⟩⟩⟩⟩
theorem inT_X1 : ∀ w ∈ u_ws RX1 TX1 2, w ∈ TB := List.forall_mem_cons.mpr ⟨wla_RX1_states, List.forall_mem_cons.mpr ⟨wla_RX1_size, fun _ h => absurd h List.not_mem_nil⟩⟩
theorem inT_X2 : ∀ w ∈ u_ws RX2 TX2 6, w ∈ TB := List.forall_mem_cons.mpr ⟨wla_RX2_text, List.forall_mem_cons.mpr ⟨wla_RX2_position, List.forall_mem_cons.mpr ⟨wla_RX2_start, List.forall_mem_cons.mpr ⟨wla_RX2_letter, List.forall_mem_cons.mpr ⟨wla_RX2_orderOwner, List.forall_mem_cons.mpr ⟨wla_RX2_orderNumber, fun _ h => absurd h List.not_mem_nil⟩⟩⟩⟩⟩⟩
theorem inT_X3 : ∀ w ∈ u_ws RX3 TX3 2, w ∈ TB := List.forall_mem_cons.mpr ⟨wla_RX3_signs, List.forall_mem_cons.mpr ⟨wla_RX3_length, fun _ h => absurd h List.not_mem_nil⟩⟩
theorem inT_X5 : ∀ w ∈ u_ws RX5 TX5 2, w ∈ TB := List.forall_mem_cons.mpr ⟨wla_RX5_groups, List.forall_mem_cons.mpr ⟨wla_RX5_strengths, fun _ h => absurd h List.not_mem_nil⟩⟩
theorem inT_X6 : ∀ w ∈ u_ws RX6 TX6 12, w ∈ TB := List.forall_mem_cons.mpr ⟨wla_RX6_city, List.forall_mem_cons.mpr ⟨wla_RX6_trial, List.forall_mem_cons.mpr ⟨wla_RX6_snapshot, List.forall_mem_cons.mpr ⟨wla_RX6_snapshotTaken, List.forall_mem_cons.mpr ⟨wla_RX6_history, List.forall_mem_cons.mpr ⟨wla_RX6_ways, List.forall_mem_cons.mpr ⟨wla_RX6_pad, List.forall_mem_cons.mpr ⟨wla_RX6_reader, List.forall_mem_cons.mpr ⟨wla_RX6_stopped, List.forall_mem_cons.mpr ⟨wla_RX6_stopCause, List.forall_mem_cons.mpr ⟨wla_RX6_stopNumber, List.forall_mem_cons.mpr ⟨wla_RX6_stopPosition, fun _ h => absurd h List.not_mem_nil⟩⟩⟩⟩⟩⟩⟩⟩⟩⟩⟩⟩
theorem inT_X7 : ∀ w ∈ u_ws RX7 TX7 15, w ∈ TB := List.forall_mem_cons.mpr ⟨wla_RX7_s, List.forall_mem_cons.mpr ⟨wla_RX7_aside, List.forall_mem_cons.mpr ⟨wla_RX7_past, List.forall_mem_cons.mpr ⟨wla_RX7_known, List.forall_mem_cons.mpr ⟨wla_RX7_kept, List.forall_mem_cons.mpr ⟨wla_RX7_isKept, List.forall_mem_cons.mpr ⟨wla_RX7_pad, List.forall_mem_cons.mpr ⟨wla_RX7_length, List.forall_mem_cons.mpr ⟨wla_RX7_spot, List.forall_mem_cons.mpr ⟨wla_RX7_isForm, List.forall_mem_cons.mpr ⟨wla_RX7_letter, List.forall_mem_cons.mpr ⟨wla_RX7_first, List.forall_mem_cons.mpr ⟨wla_RX7_second, List.forall_mem_cons.mpr ⟨wla_RX7_isStopped, List.forall_mem_cons.mpr ⟨wla_RX7_stop, fun _ h => absurd h List.not_mem_nil⟩⟩⟩⟩⟩⟩⟩⟩⟩⟩⟩⟩⟩⟩⟩
