/-- the tables' words that stay: every method's words are these, behind its own code -/
def TB : List Cond := lw_tbl.filter goodWord
theorem TB_of {w : Cond} (h : w ∈ lw_tbl) (hg : goodWord w = true) : w ∈ TB := List.mem_filter.mpr ⟨h, hg⟩
theorem TB_good {w : Cond} (h : w ∈ TB) : (w.onTables && w.keeps) = true ∨ ∃ ty, w = .arrayClass ty := good_of_word (List.mem_filter.mp h).2
theorem tb_1 {w : Cond} (h : w ∈ tables_1_1) : w ∈ lw_tbl := List.mem_append_right _ (List.mem_append_left _ h)
theorem tb_2 {w : Cond} (h : w ∈ tables_1_2) : w ∈ lw_tbl := List.mem_append_right _ (List.mem_append_right _ (List.mem_append_left _ h))
theorem tb_3 {w : Cond} (h : w ∈ tables_1_3) : w ∈ lw_tbl := List.mem_append_right _ (List.mem_append_right _ (List.mem_append_right _ (h)))
theorem tb_0 {w : Cond} (h : w ∈ k2_sels lw_privs) : w ∈ lw_tbl := List.mem_append_left _ h
theorem win_RL : Cond.initialized RL ∈ TB := TB_of (tb_1 (List.mem_of_getElem? (i := 0) rfl)) rfl
theorem win_RX6 : Cond.initialized RX6 ∈ TB := TB_of (tb_1 (List.mem_of_getElem? (i := 1) rfl)) rfl
theorem win_RX0 : Cond.initialized RX0 ∈ TB := TB_of (tb_1 (List.mem_of_getElem? (i := 2) rfl)) rfl
theorem win_RX4 : Cond.initialized RX4 ∈ TB := TB_of (tb_1 (List.mem_of_getElem? (i := 3) rfl)) rfl
theorem win_RJ7 : Cond.initialized RJ7 ∈ TB := TB_of (tb_1 (List.mem_of_getElem? (i := 4) rfl)) rfl
theorem win_RX1 : Cond.initialized RX1 ∈ TB := TB_of (tb_1 (List.mem_of_getElem? (i := 5) rfl)) rfl
theorem win_RX5 : Cond.initialized RX5 ∈ TB := TB_of (tb_1 (List.mem_of_getElem? (i := 6) rfl)) rfl
theorem win_RX3 : Cond.initialized RX3 ∈ TB := TB_of (tb_1 (List.mem_of_getElem? (i := 7) rfl)) rfl
theorem win_RX2 : Cond.initialized RX2 ∈ TB := TB_of (tb_1 (List.mem_of_getElem? (i := 8) rfl)) rfl
theorem win_RJ6 : Cond.initialized RJ6 ∈ TB := TB_of (tb_1 (List.mem_of_getElem? (i := 9) rfl)) rfl
theorem win_RJ9 : Cond.initialized RJ9 ∈ TB := TB_of (tb_1 (List.mem_of_getElem? (i := 10) rfl)) rfl
theorem win_RJ10 : Cond.initialized RJ10 ∈ TB := TB_of (tb_1 (List.mem_of_getElem? (i := 11) rfl)) rfl
theorem wcl_RL_14 : Cond.classLink RL 14 RX6 ∈ TB := TB_of (tb_1 (List.mem_of_getElem? (i := 12) rfl)) rfl
theorem wis_RX6 : Cond.instantiable RX6 12 ∈ TB := TB_of (tb_1 (List.mem_of_getElem? (i := 13) rfl)) rfl
theorem wml_RL_129 : Cond.methodLink RL 129 yX6_init ∈ TB := TB_of (tb_1 (List.mem_of_getElem? (i := 14) rfl)) rfl
theorem wim_X6_init : Cond.instanceMethod yX6_init ∈ TB := TB_of (tb_1 (List.mem_of_getElem? (i := 15) rfl)) rfl
theorem wcd_X6_init : Cond.code yX6_init cX6_init 1 none ∈ TB := TB_of (tb_1 (List.mem_of_getElem? (i := 16) rfl)) rfl
theorem wml_RX6_1 : Cond.methodLink RX6 1 objectInit ∈ TB := TB_of (tb_1 (List.mem_of_getElem? (i := 17) rfl)) rfl
theorem wim_obj : Cond.instanceMethod objectInit ∈ TB := TB_of (tb_1 (List.mem_of_getElem? (i := 18) rfl)) rfl
theorem wcd_obj : Cond.code objectInit ⟨#[0xb1]⟩ 1 none ∈ TB := TB_of (tb_1 (List.mem_of_getElem? (i := 19) rfl)) rfl
theorem wcl_RX6_7 : Cond.classLink RX6 7 RX0 ∈ TB := TB_of (tb_1 (List.mem_of_getElem? (i := 20) rfl)) rfl
theorem wis_RX0 : Cond.instantiable RX0 19 ∈ TB := TB_of (tb_1 (List.mem_of_getElem? (i := 21) rfl)) rfl
theorem wml_RX6_9 : Cond.methodLink RX6 9 yX0_init ∈ TB := TB_of (tb_1 (List.mem_of_getElem? (i := 22) rfl)) rfl
theorem wim_X0_init : Cond.instanceMethod yX0_init ∈ TB := TB_of (tb_1 (List.mem_of_getElem? (i := 23) rfl)) rfl
theorem wcd_X0_init : Cond.code yX0_init cX0_init 2 none ∈ TB := TB_of (tb_1 (List.mem_of_getElem? (i := 24) rfl)) rfl
theorem wml_RX0_3 : Cond.methodLink RX0 3 objectInit ∈ TB := TB_of (tb_1 (List.mem_of_getElem? (i := 25) rfl)) rfl
theorem wml_RX0_46 : Cond.methodLink RX0 46 yX4_isGangway ∈ TB := TB_of (tb_1 (List.mem_of_getElem? (i := 26) rfl)) rfl
theorem wst_X4_isGangway : Cond.static yX4_isGangway ∈ TB := TB_of (tb_1 (List.mem_of_getElem? (i := 27) rfl)) rfl
theorem wcd_X4_isGangway : Cond.code yX4_isGangway cX4_isGangway 1 (some .boolean) ∈ TB := TB_of (tb_1 (List.mem_of_getElem? (i := 28) rfl)) rfl
theorem wst_X6_isWithin : Cond.static yX6_isWithin ∈ TB := TB_of (tb_1 (List.mem_of_getElem? (i := 30) rfl)) rfl
theorem wcd_X6_isWithin : Cond.code yX6_isWithin cX6_isWithin 3 (some .boolean) ∈ TB := TB_of (tb_1 (List.mem_of_getElem? (i := 31) rfl)) rfl
theorem wml_RX0_52 : Cond.methodLink RX0 52 yJ7_fill_53178 ∈ TB := TB_of (tb_1 (List.mem_of_getElem? (i := 32) rfl)) rfl
theorem wst_J7_fill_53178 : Cond.static yJ7_fill_53178 ∈ TB := TB_of (tb_1 (List.mem_of_getElem? (i := 33) rfl)) rfl
theorem wcd_J7_fill_53178 : Cond.code yJ7_fill_53178 cJ7_fill_53178 4 none ∈ TB := TB_of (tb_1 (List.mem_of_getElem? (i := 34) rfl)) rfl
theorem wco_RX0_58 : Cond.constant RX0 58 65535 ∈ TB := TB_of (tb_1 (List.mem_of_getElem? (i := 35) rfl)) rfl
theorem wfl_RX0_9 : Cond.fieldLink RX0 9 "RoofOrdinances$City" "borne" "[I" ∈ TB := TB_of (tb_1 (List.mem_of_getElem? (i := 36) rfl)) rfl
theorem wfl_RX6_66 : Cond.fieldLink RX6 66 "RoofOrdinances$City" "borne" "[I" ∈ TB := TB_of (tb_1 (List.mem_of_getElem? (i := 37) rfl)) rfl
theorem wfl_RX5_28 : Cond.fieldLink RX5 28 "RoofOrdinances$City" "borne" "[I" ∈ TB := TB_of (tb_1 (List.mem_of_getElem? (i := 38) rfl)) rfl
theorem wfl_RX0_15 : Cond.fieldLink RX0 15 "RoofOrdinances$City" "hangers" "[I" ∈ TB := TB_of (tb_1 (List.mem_of_getElem? (i := 39) rfl)) rfl
theorem wfl_RX6_205 : Cond.fieldLink RX6 205 "RoofOrdinances$City" "hangers" "[I" ∈ TB := TB_of (tb_1 (List.mem_of_getElem? (i := 40) rfl)) rfl
theorem wfl_RX0_18 : Cond.fieldLink RX0 18 "RoofOrdinances$City" "soot" "[I" ∈ TB := TB_of (tb_1 (List.mem_of_getElem? (i := 41) rfl)) rfl
theorem wfl_RX6_208 : Cond.fieldLink RX6 208 "RoofOrdinances$City" "soot" "[I" ∈ TB := TB_of (tb_1 (List.mem_of_getElem? (i := 42) rfl)) rfl
theorem wfl_RX0_21 : Cond.fieldLink RX0 21 "RoofOrdinances$City" "spots" "[I" ∈ TB := TB_of (tb_1 (List.mem_of_getElem? (i := 43) rfl)) rfl
theorem wfl_RX6_211 : Cond.fieldLink RX6 211 "RoofOrdinances$City" "spots" "[I" ∈ TB := TB_of (tb_1 (List.mem_of_getElem? (i := 44) rfl)) rfl
theorem wfl_RX0_24 : Cond.fieldLink RX0 24 "RoofOrdinances$City" "weights" "[I" ∈ TB := TB_of (tb_1 (List.mem_of_getElem? (i := 45) rfl)) rfl
theorem wfl_RX6_101 : Cond.fieldLink RX6 101 "RoofOrdinances$City" "weights" "[I" ∈ TB := TB_of (tb_1 (List.mem_of_getElem? (i := 46) rfl)) rfl
theorem wfl_RX0_27 : Cond.fieldLink RX0 27 "RoofOrdinances$City" "keys" "[I" ∈ TB := TB_of (tb_1 (List.mem_of_getElem? (i := 47) rfl)) rfl
theorem wfl_RX6_104 : Cond.fieldLink RX6 104 "RoofOrdinances$City" "keys" "[I" ∈ TB := TB_of (tb_1 (List.mem_of_getElem? (i := 48) rfl)) rfl
theorem wfl_RX0_30 : Cond.fieldLink RX0 30 "RoofOrdinances$City" "places" "[I" ∈ TB := TB_of (tb_1 (List.mem_of_getElem? (i := 49) rfl)) rfl
theorem wfl_RX5_70 : Cond.fieldLink RX5 70 "RoofOrdinances$City" "places" "[I" ∈ TB := TB_of (tb_1 (List.mem_of_getElem? (i := 50) rfl)) rfl
theorem wfl_RX6_220 : Cond.fieldLink RX6 220 "RoofOrdinances$City" "places" "[I" ∈ TB := TB_of (tb_1 (List.mem_of_getElem? (i := 51) rfl)) rfl
theorem wfl_RX0_33 : Cond.fieldLink RX0 33 "RoofOrdinances$City" "walks" "[I" ∈ TB := TB_of (tb_1 (List.mem_of_getElem? (i := 52) rfl)) rfl
theorem wfl_RX6_229 : Cond.fieldLink RX6 229 "RoofOrdinances$City" "walks" "[I" ∈ TB := TB_of (tb_1 (List.mem_of_getElem? (i := 53) rfl)) rfl
theorem wfl_RX0_65 : Cond.fieldLink RX0 65 "RoofOrdinances$City" "truces" "I" ∈ TB := TB_of (tb_1 (List.mem_of_getElem? (i := 54) rfl)) rfl
theorem wfl_RX6_217 : Cond.fieldLink RX6 217 "RoofOrdinances$City" "truces" "I" ∈ TB := TB_of (tb_1 (List.mem_of_getElem? (i := 55) rfl)) rfl
theorem wfl_RX0_68 : Cond.fieldLink RX0 68 "RoofOrdinances$City" "chimneys" "I" ∈ TB := TB_of (tb_1 (List.mem_of_getElem? (i := 56) rfl)) rfl
theorem wfl_RX6_171 : Cond.fieldLink RX6 171 "RoofOrdinances$City" "chimneys" "I" ∈ TB := TB_of (tb_1 (List.mem_of_getElem? (i := 57) rfl)) rfl
theorem wfl_RX0_71 : Cond.fieldLink RX0 71 "RoofOrdinances$City" "coops" "I" ∈ TB := TB_of (tb_1 (List.mem_of_getElem? (i := 58) rfl)) rfl
theorem wfl_RX6_94 : Cond.fieldLink RX6 94 "RoofOrdinances$City" "coops" "I" ∈ TB := TB_of (tb_1 (List.mem_of_getElem? (i := 59) rfl)) rfl
theorem wfl_RX0_36 : Cond.fieldLink RX0 36 "RoofOrdinances$City" "windTo" "I" ∈ TB := TB_of (tb_1 (List.mem_of_getElem? (i := 60) rfl)) rfl
theorem wfl_RX6_74 : Cond.fieldLink RX6 74 "RoofOrdinances$City" "windTo" "I" ∈ TB := TB_of (tb_1 (List.mem_of_getElem? (i := 61) rfl)) rfl
theorem wfl_RX0_40 : Cond.fieldLink RX0 40 "RoofOrdinances$City" "smokeReach" "I" ∈ TB := TB_of (tb_1 (List.mem_of_getElem? (i := 62) rfl)) rfl
theorem wfl_RX6_111 : Cond.fieldLink RX6 111 "RoofOrdinances$City" "smokeReach" "I" ∈ TB := TB_of (tb_1 (List.mem_of_getElem? (i := 63) rfl)) rfl
theorem wfl_RX0_74 : Cond.fieldLink RX0 74 "RoofOrdinances$City" "dayNumber" "I" ∈ TB := TB_of (tb_1 (List.mem_of_getElem? (i := 64) rfl)) rfl
theorem wfl_RX0_43 : Cond.fieldLink RX0 43 "RoofOrdinances$City" "lot" "I" ∈ TB := TB_of (tb_1 (List.mem_of_getElem? (i := 65) rfl)) rfl
theorem wfl_RX0_77 : Cond.fieldLink RX0 77 "RoofOrdinances$City" "hung" "I" ∈ TB := TB_of (tb_1 (List.mem_of_getElem? (i := 66) rfl)) rfl
theorem wfl_RX0_80 : Cond.fieldLink RX0 80 "RoofOrdinances$City" "taken" "I" ∈ TB := TB_of (tb_1 (List.mem_of_getElem? (i := 67) rfl)) rfl
theorem wfl_RX0_83 : Cond.fieldLink RX0 83 "RoofOrdinances$City" "fallen" "I" ∈ TB := TB_of (tb_1 (List.mem_of_getElem? (i := 68) rfl)) rfl
theorem wfl_RX0_86 : Cond.fieldLink RX0 86 "RoofOrdinances$City" "refused" "I" ∈ TB := TB_of (tb_1 (List.mem_of_getElem? (i := 69) rfl)) rfl
theorem wla_RX0_borne : Cond.laysFinal RX0 "RoofOrdinances$City" "borne" "[I" ∈ TB := TB_of (tb_1 (List.mem_of_getElem? (i := 70) rfl)) rfl
theorem wla_RX0_hangers : Cond.laysFinal RX0 "RoofOrdinances$City" "hangers" "[I" ∈ TB := TB_of (tb_1 (List.mem_of_getElem? (i := 72) rfl)) rfl
theorem wla_RX0_soot : Cond.laysFinal RX0 "RoofOrdinances$City" "soot" "[I" ∈ TB := TB_of (tb_1 (List.mem_of_getElem? (i := 74) rfl)) rfl
theorem wla_RX0_spots : Cond.laysFinal RX0 "RoofOrdinances$City" "spots" "[I" ∈ TB := TB_of (tb_1 (List.mem_of_getElem? (i := 76) rfl)) rfl
theorem wla_RX0_weights : Cond.laysFinal RX0 "RoofOrdinances$City" "weights" "[I" ∈ TB := TB_of (tb_1 (List.mem_of_getElem? (i := 78) rfl)) rfl
theorem wla_RX0_keys : Cond.laysFinal RX0 "RoofOrdinances$City" "keys" "[I" ∈ TB := TB_of (tb_1 (List.mem_of_getElem? (i := 80) rfl)) rfl
theorem wla_RX0_places : Cond.laysFinal RX0 "RoofOrdinances$City" "places" "[I" ∈ TB := TB_of (tb_1 (List.mem_of_getElem? (i := 82) rfl)) rfl
theorem wla_RX0_walks : Cond.laysFinal RX0 "RoofOrdinances$City" "walks" "[I" ∈ TB := TB_of (tb_1 (List.mem_of_getElem? (i := 84) rfl)) rfl
theorem wla_RX0_truces : Cond.lays RX0 "RoofOrdinances$City" "truces" "I" ∈ TB := TB_of (tb_1 (List.mem_of_getElem? (i := 86) rfl)) rfl
theorem wla_RX0_chimneys : Cond.lays RX0 "RoofOrdinances$City" "chimneys" "I" ∈ TB := TB_of (tb_1 (List.mem_of_getElem? (i := 88) rfl)) rfl
theorem wla_RX0_coops : Cond.lays RX0 "RoofOrdinances$City" "coops" "I" ∈ TB := TB_of (tb_1 (List.mem_of_getElem? (i := 90) rfl)) rfl
theorem wla_RX0_windTo : Cond.lays RX0 "RoofOrdinances$City" "windTo" "I" ∈ TB := TB_of (tb_1 (List.mem_of_getElem? (i := 92) rfl)) rfl
theorem wla_RX0_smokeReach : Cond.lays RX0 "RoofOrdinances$City" "smokeReach" "I" ∈ TB := TB_of (tb_1 (List.mem_of_getElem? (i := 94) rfl)) rfl
theorem wla_RX0_dayNumber : Cond.lays RX0 "RoofOrdinances$City" "dayNumber" "I" ∈ TB := TB_of (tb_1 (List.mem_of_getElem? (i := 96) rfl)) rfl
theorem wla_RX0_lot : Cond.lays RX0 "RoofOrdinances$City" "lot" "I" ∈ TB := TB_of (tb_1 (List.mem_of_getElem? (i := 98) rfl)) rfl
theorem wla_RX0_hung : Cond.lays RX0 "RoofOrdinances$City" "hung" "I" ∈ TB := TB_of (tb_1 (List.mem_of_getElem? (i := 100) rfl)) rfl
theorem wla_RX0_taken : Cond.lays RX0 "RoofOrdinances$City" "taken" "I" ∈ TB := TB_of (tb_1 (List.mem_of_getElem? (i := 102) rfl)) rfl
theorem wla_RX0_fallen : Cond.lays RX0 "RoofOrdinances$City" "fallen" "I" ∈ TB := TB_of (tb_1 (List.mem_of_getElem? (i := 104) rfl)) rfl
theorem wla_RX0_refused : Cond.lays RX0 "RoofOrdinances$City" "refused" "I" ∈ TB := TB_of (tb_1 (List.mem_of_getElem? (i := 106) rfl)) rfl
theorem wac_int : Cond.arrayClass .int ∈ TB := TB_of (tb_1 (List.mem_of_getElem? (i := 109) rfl)) rfl
theorem wcl_RX6_22 : Cond.classLink RX6 22 RX1 ∈ TB := TB_of (tb_1 (List.mem_of_getElem? (i := 110) rfl)) rfl
theorem wis_RX1 : Cond.instantiable RX1 2 ∈ TB := TB_of (tb_1 (List.mem_of_getElem? (i := 111) rfl)) rfl
theorem wml_RX6_24 : Cond.methodLink RX6 24 yX1_init ∈ TB := TB_of (tb_1 (List.mem_of_getElem? (i := 112) rfl)) rfl
theorem wim_X1_init : Cond.instanceMethod yX1_init ∈ TB := TB_of (tb_1 (List.mem_of_getElem? (i := 113) rfl)) rfl
theorem wcd_X1_init : Cond.code yX1_init cX1_init 2 none ∈ TB := TB_of (tb_1 (List.mem_of_getElem? (i := 114) rfl)) rfl
theorem wml_RX1_3 : Cond.methodLink RX1 3 objectInit ∈ TB := TB_of (tb_1 (List.mem_of_getElem? (i := 115) rfl)) rfl
theorem wcl_RX1_9 : Cond.classLink RX1 9 RX0 ∈ TB := TB_of (tb_1 (List.mem_of_getElem? (i := 116) rfl)) rfl
theorem wml_RX1_17 : Cond.methodLink RX1 17 yX0_init ∈ TB := TB_of (tb_1 (List.mem_of_getElem? (i := 118) rfl)) rfl
theorem wfl_RX1_11 : Cond.fieldLink RX1 11 "RoofOrdinances$History" "states" "[LRoofOrdinances$City;" ∈ TB := TB_of (tb_1 (List.mem_of_getElem? (i := 119) rfl)) rfl
theorem wfl_RX1_22 : Cond.fieldLink RX1 22 "RoofOrdinances$History" "size" "I" ∈ TB := TB_of (tb_1 (List.mem_of_getElem? (i := 120) rfl)) rfl
theorem wfl_RX6_248 : Cond.fieldLink RX6 248 "RoofOrdinances$History" "size" "I" ∈ TB := TB_of (tb_1 (List.mem_of_getElem? (i := 121) rfl)) rfl
theorem wla_RX1_states : Cond.laysFinal RX1 "RoofOrdinances$History" "states" "[LRoofOrdinances$City;" ∈ TB := TB_of (tb_1 (List.mem_of_getElem? (i := 122) rfl)) rfl
theorem wla_RX1_size : Cond.lays RX1 "RoofOrdinances$History" "size" "I" ∈ TB := TB_of (tb_1 (List.mem_of_getElem? (i := 124) rfl)) rfl
theorem wcl_RX6_29 : Cond.classLink RX6 29 RX5 ∈ TB := TB_of (tb_1 (List.mem_of_getElem? (i := 127) rfl)) rfl
theorem wis_RX5 : Cond.instantiable RX5 2 ∈ TB := TB_of (tb_1 (List.mem_of_getElem? (i := 128) rfl)) rfl
theorem wim_X5_init : Cond.instanceMethod yX5_init ∈ TB := TB_of (tb_1 (List.mem_of_getElem? (i := 130) rfl)) rfl
theorem wcd_X5_init : Cond.code yX5_init cX5_init 1 none ∈ TB := TB_of (tb_1 (List.mem_of_getElem? (i := 131) rfl)) rfl
theorem wml_RX5_3 : Cond.methodLink RX5 3 objectInit ∈ TB := TB_of (tb_1 (List.mem_of_getElem? (i := 132) rfl)) rfl
theorem wfl_RX5_9 : Cond.fieldLink RX5 9 "RoofOrdinances$Ways" "groups" "[I" ∈ TB := TB_of (tb_1 (List.mem_of_getElem? (i := 133) rfl)) rfl
theorem wfl_RX5_15 : Cond.fieldLink RX5 15 "RoofOrdinances$Ways" "strengths" "[I" ∈ TB := TB_of (tb_1 (List.mem_of_getElem? (i := 134) rfl)) rfl
theorem wla_RX5_groups : Cond.laysFinal RX5 "RoofOrdinances$Ways" "groups" "[I" ∈ TB := TB_of (tb_1 (List.mem_of_getElem? (i := 135) rfl)) rfl
theorem wla_RX5_strengths : Cond.laysFinal RX5 "RoofOrdinances$Ways" "strengths" "[I" ∈ TB := TB_of (tb_1 (List.mem_of_getElem? (i := 137) rfl)) rfl
theorem wcl_RX6_36 : Cond.classLink RX6 36 RX3 ∈ TB := TB_of (tb_1 (List.mem_of_getElem? (i := 140) rfl)) rfl
theorem wis_RX3 : Cond.instantiable RX3 2 ∈ TB := TB_of (tb_1 (List.mem_of_getElem? (i := 141) rfl)) rfl
theorem wim_X3_init : Cond.instanceMethod yX3_init ∈ TB := TB_of (tb_1 (List.mem_of_getElem? (i := 143) rfl)) rfl
theorem wcd_X3_init : Cond.code yX3_init cX3_init 1 none ∈ TB := TB_of (tb_1 (List.mem_of_getElem? (i := 144) rfl)) rfl
theorem wml_RX3_3 : Cond.methodLink RX3 3 objectInit ∈ TB := TB_of (tb_1 (List.mem_of_getElem? (i := 145) rfl)) rfl
theorem wfl_RX3_9 : Cond.fieldLink RX3 9 "RoofOrdinances$Pad" "signs" "[C" ∈ TB := TB_of (tb_1 (List.mem_of_getElem? (i := 146) rfl)) rfl
theorem wfl_RX3_15 : Cond.fieldLink RX3 15 "RoofOrdinances$Pad" "length" "I" ∈ TB := TB_of (tb_1 (List.mem_of_getElem? (i := 147) rfl)) rfl
theorem wfl_RX2_26 : Cond.fieldLink RX2 26 "RoofOrdinances$Pad" "length" "I" ∈ TB := TB_of (tb_1 (List.mem_of_getElem? (i := 148) rfl)) rfl
theorem wfl_RX6_135 : Cond.fieldLink RX6 135 "RoofOrdinances$Pad" "length" "I" ∈ TB := TB_of (tb_1 (List.mem_of_getElem? (i := 149) rfl)) rfl
theorem wla_RX3_signs : Cond.laysFinal RX3 "RoofOrdinances$Pad" "signs" "[C" ∈ TB := TB_of (tb_1 (List.mem_of_getElem? (i := 150) rfl)) rfl
theorem wla_RX3_length : Cond.lays RX3 "RoofOrdinances$Pad" "length" "I" ∈ TB := TB_of (tb_1 (List.mem_of_getElem? (i := 152) rfl)) rfl
theorem wac_char : Cond.arrayClass .char ∈ TB := TB_of (tb_1 (List.mem_of_getElem? (i := 155) rfl)) rfl
theorem wcl_RX6_43 : Cond.classLink RX6 43 RX2 ∈ TB := TB_of (tb_1 (List.mem_of_getElem? (i := 156) rfl)) rfl
theorem wis_RX2 : Cond.instantiable RX2 6 ∈ TB := TB_of (tb_1 (List.mem_of_getElem? (i := 157) rfl)) rfl
theorem wml_RX6_45 : Cond.methodLink RX6 45 yX2_init ∈ TB := TB_of (tb_1 (List.mem_of_getElem? (i := 158) rfl)) rfl
theorem wim_X2_init : Cond.instanceMethod yX2_init ∈ TB := TB_of (tb_1 (List.mem_of_getElem? (i := 159) rfl)) rfl
theorem wcd_X2_init : Cond.code yX2_init cX2_init 2 none ∈ TB := TB_of (tb_1 (List.mem_of_getElem? (i := 160) rfl)) rfl
theorem wml_RX2_3 : Cond.methodLink RX2 3 objectInit ∈ TB := TB_of (tb_1 (List.mem_of_getElem? (i := 161) rfl)) rfl
theorem wfl_RX2_9 : Cond.fieldLink RX2 9 "RoofOrdinances$OrderReader" "text" "LRoofOrdinances$Pad;" ∈ TB := TB_of (tb_1 (List.mem_of_getElem? (i := 162) rfl)) rfl
theorem wfl_RX2_15 : Cond.fieldLink RX2 15 "RoofOrdinances$OrderReader" "position" "I" ∈ TB := TB_of (tb_1 (List.mem_of_getElem? (i := 163) rfl)) rfl
theorem wfl_RX2_35 : Cond.fieldLink RX2 35 "RoofOrdinances$OrderReader" "start" "I" ∈ TB := TB_of (tb_1 (List.mem_of_getElem? (i := 164) rfl)) rfl
theorem wfl_RX6_276 : Cond.fieldLink RX6 276 "RoofOrdinances$OrderReader" "start" "I" ∈ TB := TB_of (tb_1 (List.mem_of_getElem? (i := 165) rfl)) rfl
theorem wfl_RX2_42 : Cond.fieldLink RX2 42 "RoofOrdinances$OrderReader" "letter" "C" ∈ TB := TB_of (tb_1 (List.mem_of_getElem? (i := 166) rfl)) rfl
theorem wfl_RX6_279 : Cond.fieldLink RX6 279 "RoofOrdinances$OrderReader" "letter" "C" ∈ TB := TB_of (tb_1 (List.mem_of_getElem? (i := 167) rfl)) rfl
theorem wfl_RX2_57 : Cond.fieldLink RX2 57 "RoofOrdinances$OrderReader" "orderOwner" "I" ∈ TB := TB_of (tb_1 (List.mem_of_getElem? (i := 168) rfl)) rfl
theorem wfl_RX6_283 : Cond.fieldLink RX6 283 "RoofOrdinances$OrderReader" "orderOwner" "I" ∈ TB := TB_of (tb_1 (List.mem_of_getElem? (i := 169) rfl)) rfl
theorem wfl_RX2_68 : Cond.fieldLink RX2 68 "RoofOrdinances$OrderReader" "orderNumber" "I" ∈ TB := TB_of (tb_1 (List.mem_of_getElem? (i := 170) rfl)) rfl
theorem wfl_RX6_286 : Cond.fieldLink RX6 286 "RoofOrdinances$OrderReader" "orderNumber" "I" ∈ TB := TB_of (tb_1 (List.mem_of_getElem? (i := 171) rfl)) rfl
theorem wla_RX2_text : Cond.laysFinal RX2 "RoofOrdinances$OrderReader" "text" "LRoofOrdinances$Pad;" ∈ TB := TB_of (tb_1 (List.mem_of_getElem? (i := 172) rfl)) rfl
theorem wla_RX2_position : Cond.lays RX2 "RoofOrdinances$OrderReader" "position" "I" ∈ TB := TB_of (tb_1 (List.mem_of_getElem? (i := 174) rfl)) rfl
theorem wla_RX2_start : Cond.lays RX2 "RoofOrdinances$OrderReader" "start" "I" ∈ TB := TB_of (tb_1 (List.mem_of_getElem? (i := 176) rfl)) rfl
theorem wla_RX2_letter : Cond.lays RX2 "RoofOrdinances$OrderReader" "letter" "C" ∈ TB := TB_of (tb_1 (List.mem_of_getElem? (i := 178) rfl)) rfl
theorem wla_RX2_orderOwner : Cond.lays RX2 "RoofOrdinances$OrderReader" "orderOwner" "I" ∈ TB := TB_of (tb_1 (List.mem_of_getElem? (i := 180) rfl)) rfl
theorem wla_RX2_orderNumber : Cond.lays RX2 "RoofOrdinances$OrderReader" "orderNumber" "I" ∈ TB := TB_of (tb_1 (List.mem_of_getElem? (i := 182) rfl)) rfl
theorem wfl_RX6_10 : Cond.fieldLink RX6 10 "RoofOrdinances" "city" "LRoofOrdinances$City;" ∈ TB := TB_of (tb_1 (List.mem_of_getElem? (i := 185) rfl)) rfl
theorem wfl_RX6_16 : Cond.fieldLink RX6 16 "RoofOrdinances" "trial" "LRoofOrdinances$City;" ∈ TB := TB_of (tb_1 (List.mem_of_getElem? (i := 186) rfl)) rfl
theorem wfl_RX6_19 : Cond.fieldLink RX6 19 "RoofOrdinances" "snapshot" "LRoofOrdinances$City;" ∈ TB := TB_of (tb_1 (List.mem_of_getElem? (i := 187) rfl)) rfl
theorem wfl_RX6_273 : Cond.fieldLink RX6 273 "RoofOrdinances" "snapshotTaken" "Z" ∈ TB := TB_of (tb_1 (List.mem_of_getElem? (i := 188) rfl)) rfl
theorem wfl_RX6_25 : Cond.fieldLink RX6 25 "RoofOrdinances" "history" "LRoofOrdinances$History;" ∈ TB := TB_of (tb_1 (List.mem_of_getElem? (i := 189) rfl)) rfl
theorem wfl_RX6_32 : Cond.fieldLink RX6 32 "RoofOrdinances" "ways" "LRoofOrdinances$Ways;" ∈ TB := TB_of (tb_1 (List.mem_of_getElem? (i := 190) rfl)) rfl
theorem wfl_RX6_39 : Cond.fieldLink RX6 39 "RoofOrdinances" "pad" "LRoofOrdinances$Pad;" ∈ TB := TB_of (tb_1 (List.mem_of_getElem? (i := 191) rfl)) rfl
theorem wfl_RX6_48 : Cond.fieldLink RX6 48 "RoofOrdinances" "reader" "LRoofOrdinances$OrderReader;" ∈ TB := TB_of (tb_1 (List.mem_of_getElem? (i := 192) rfl)) rfl
theorem wfl_RX6_145 : Cond.fieldLink RX6 145 "RoofOrdinances" "stopped" "Z" ∈ TB := TB_of (tb_1 (List.mem_of_getElem? (i := 193) rfl)) rfl
theorem wfl_RX6_162 : Cond.fieldLink RX6 162 "RoofOrdinances" "stopCause" "I" ∈ TB := TB_of (tb_1 (List.mem_of_getElem? (i := 194) rfl)) rfl
theorem wfl_RX6_165 : Cond.fieldLink RX6 165 "RoofOrdinances" "stopNumber" "I" ∈ TB := TB_of (tb_1 (List.mem_of_getElem? (i := 195) rfl)) rfl
theorem wfl_RX6_168 : Cond.fieldLink RX6 168 "RoofOrdinances" "stopPosition" "I" ∈ TB := TB_of (tb_1 (List.mem_of_getElem? (i := 196) rfl)) rfl
theorem wla_RX6_city : Cond.laysFinal RX6 "RoofOrdinances" "city" "LRoofOrdinances$City;" ∈ TB := TB_of (tb_1 (List.mem_of_getElem? (i := 197) rfl)) rfl
theorem wla_RX6_trial : Cond.laysFinal RX6 "RoofOrdinances" "trial" "LRoofOrdinances$City;" ∈ TB := TB_of (tb_1 (List.mem_of_getElem? (i := 199) rfl)) rfl
theorem wla_RX6_snapshot : Cond.laysFinal RX6 "RoofOrdinances" "snapshot" "LRoofOrdinances$City;" ∈ TB := TB_of (tb_1 (List.mem_of_getElem? (i := 201) rfl)) rfl
theorem wla_RX6_snapshotTaken : Cond.lays RX6 "RoofOrdinances" "snapshotTaken" "Z" ∈ TB := TB_of (tb_1 (List.mem_of_getElem? (i := 203) rfl)) rfl
theorem wla_RX6_history : Cond.laysFinal RX6 "RoofOrdinances" "history" "LRoofOrdinances$History;" ∈ TB := TB_of (tb_1 (List.mem_of_getElem? (i := 205) rfl)) rfl
theorem wla_RX6_ways : Cond.laysFinal RX6 "RoofOrdinances" "ways" "LRoofOrdinances$Ways;" ∈ TB := TB_of (tb_1 (List.mem_of_getElem? (i := 207) rfl)) rfl
theorem wla_RX6_pad : Cond.laysFinal RX6 "RoofOrdinances" "pad" "LRoofOrdinances$Pad;" ∈ TB := TB_of (tb_1 (List.mem_of_getElem? (i := 209) rfl)) rfl
theorem wla_RX6_reader : Cond.laysFinal RX6 "RoofOrdinances" "reader" "LRoofOrdinances$OrderReader;" ∈ TB := TB_of (tb_1 (List.mem_of_getElem? (i := 211) rfl)) rfl
theorem wla_RX6_stopped : Cond.lays RX6 "RoofOrdinances" "stopped" "Z" ∈ TB := TB_of (tb_1 (List.mem_of_getElem? (i := 213) rfl)) rfl
theorem wla_RX6_stopCause : Cond.lays RX6 "RoofOrdinances" "stopCause" "I" ∈ TB := TB_of (tb_1 (List.mem_of_getElem? (i := 215) rfl)) rfl
theorem wla_RX6_stopNumber : Cond.lays RX6 "RoofOrdinances" "stopNumber" "I" ∈ TB := TB_of (tb_1 (List.mem_of_getElem? (i := 217) rfl)) rfl
theorem wla_RX6_stopPosition : Cond.lays RX6 "RoofOrdinances" "stopPosition" "I" ∈ TB := TB_of (tb_1 (List.mem_of_getElem? (i := 219) rfl)) rfl
theorem wml_RL_13 : Cond.methodLink RL 13 yX6_count ∈ TB := TB_of (tb_1 (List.mem_of_getElem? (i := 222) rfl)) rfl
theorem wim_X6_count : Cond.instanceMethod yX6_count ∈ TB := TB_of (tb_1 (List.mem_of_getElem? (i := 223) rfl)) rfl
theorem wse_X6_count : Cond.selects RX6 yX6_count yX6_count ∈ TB := TB_of (tb_1 (List.mem_of_getElem? (i := 224) rfl)) rfl
theorem wcd_X6_count : Cond.code yX6_count cX6_count 2 (some .int) ∈ TB := TB_of (tb_1 (List.mem_of_getElem? (i := 225) rfl)) rfl
theorem wml_RX6_58 : Cond.methodLink RX6 58 yX6_isWithin ∈ TB := TB_of (tb_1 (List.mem_of_getElem? (i := 226) rfl)) rfl
theorem wml_RX6_251 : Cond.methodLink RX6 251 yX0_numberOfNow ∈ TB := TB_of (tb_1 (List.mem_of_getElem? (i := 227) rfl)) rfl
theorem wim_X0_numberOfNow : Cond.instanceMethod yX0_numberOfNow ∈ TB := TB_of (tb_1 (List.mem_of_getElem? (i := 228) rfl)) rfl
theorem wse_X0_numberOfNow : Cond.selects RX0 yX0_numberOfNow yX0_numberOfNow ∈ TB := TB_of (tb_1 (List.mem_of_getElem? (i := 229) rfl)) rfl
theorem wcd_X0_numberOfNow : Cond.code yX0_numberOfNow cX0_numberOfNow 2 (some .int) ∈ TB := TB_of (tb_1 (List.mem_of_getElem? (i := 230) rfl)) rfl
theorem wml_RX0_130 : Cond.methodLink RX0 130 yJ6_bitCount_0f7a4 ∈ TB := TB_of (tb_1 (List.mem_of_getElem? (i := 231) rfl)) rfl
theorem wst_J6_bitCount_0f7a4 : Cond.static yJ6_bitCount_0f7a4 ∈ TB := TB_of (tb_1 (List.mem_of_getElem? (i := 232) rfl)) rfl
theorem wcd_J6_bitCount_0f7a4 : Cond.code yJ6_bitCount_0f7a4 cJ6_bitCount_0f7a4 1 (some .int) ∈ TB := TB_of (tb_1 (List.mem_of_getElem? (i := 233) rfl)) rfl
theorem wco_RJ6_265 : Cond.constant RJ6 265 1431655765 ∈ TB := TB_of (tb_1 (List.mem_of_getElem? (i := 234) rfl)) rfl
theorem wco_RJ6_266 : Cond.constant RJ6 266 858993459 ∈ TB := TB_of (tb_1 (List.mem_of_getElem? (i := 235) rfl)) rfl
theorem wco_RJ6_267 : Cond.constant RJ6 267 252645135 ∈ TB := TB_of (tb_1 (List.mem_of_getElem? (i := 236) rfl)) rfl
theorem wml_RX0_100 : Cond.methodLink RX0 100 yX0_smokeBlown ∈ TB := TB_of (tb_1 (List.mem_of_getElem? (i := 237) rfl)) rfl
theorem wim_X0_smokeBlown : Cond.instanceMethod yX0_smokeBlown ∈ TB := TB_of (tb_1 (List.mem_of_getElem? (i := 238) rfl)) rfl
theorem wse_X0_smokeBlown : Cond.selects RX0 yX0_smokeBlown yX0_smokeBlown ∈ TB := TB_of (tb_1 (List.mem_of_getElem? (i := 239) rfl)) rfl
theorem wcd_X0_smokeBlown : Cond.code yX0_smokeBlown cX0_smokeBlown 4 (some .int) ∈ TB := TB_of (tb_2 (List.mem_of_getElem? (i := 0) rfl)) rfl
theorem wst_X6_isIn : Cond.static yX6_isIn ∈ TB := TB_of (tb_2 (List.mem_of_getElem? (i := 2) rfl)) rfl
theorem wcd_X6_isIn : Cond.code yX6_isIn cX6_isIn 2 (some .boolean) ∈ TB := TB_of (tb_2 (List.mem_of_getElem? (i := 3) rfl)) rfl
theorem wml_RX0_96 : Cond.methodLink RX0 96 yX4_roofAndNext ∈ TB := TB_of (tb_2 (List.mem_of_getElem? (i := 4) rfl)) rfl
theorem wst_X4_roofAndNext : Cond.static yX4_roofAndNext ∈ TB := TB_of (tb_2 (List.mem_of_getElem? (i := 5) rfl)) rfl
theorem wcd_X4_roofAndNext : Cond.code yX4_roofAndNext cX4_roofAndNext 6 (some .int) ∈ TB := TB_of (tb_2 (List.mem_of_getElem? (i := 6) rfl)) rfl
theorem wml_RX4_33 : Cond.methodLink RX4 33 yX4_nextRoof ∈ TB := TB_of (tb_2 (List.mem_of_getElem? (i := 7) rfl)) rfl
theorem wst_X4_nextRoof : Cond.static yX4_nextRoof ∈ TB := TB_of (tb_2 (List.mem_of_getElem? (i := 8) rfl)) rfl
theorem wcd_X4_nextRoof : Cond.code yX4_nextRoof cX4_nextRoof 2 (some .int) ∈ TB := TB_of (tb_2 (List.mem_of_getElem? (i := 9) rfl)) rfl
theorem wml_RX0_126 : Cond.methodLink RX0 126 yX0_allLines ∈ TB := TB_of (tb_2 (List.mem_of_getElem? (i := 10) rfl)) rfl
theorem wim_X0_allLines : Cond.instanceMethod yX0_allLines ∈ TB := TB_of (tb_2 (List.mem_of_getElem? (i := 11) rfl)) rfl
theorem wse_X0_allLines : Cond.selects RX0 yX0_allLines yX0_allLines ∈ TB := TB_of (tb_2 (List.mem_of_getElem? (i := 12) rfl)) rfl
theorem wcd_X0_allLines : Cond.code yX0_allLines cX0_allLines 3 (some .int) ∈ TB := TB_of (tb_2 (List.mem_of_getElem? (i := 13) rfl)) rfl
theorem wml_RX0_89 : Cond.methodLink RX0 89 yX0_hasLine ∈ TB := TB_of (tb_2 (List.mem_of_getElem? (i := 14) rfl)) rfl
theorem wim_X0_hasLine : Cond.instanceMethod yX0_hasLine ∈ TB := TB_of (tb_2 (List.mem_of_getElem? (i := 15) rfl)) rfl
theorem wse_X0_hasLine : Cond.selects RX0 yX0_hasLine yX0_hasLine ∈ TB := TB_of (tb_2 (List.mem_of_getElem? (i := 16) rfl)) rfl
theorem wcd_X0_hasLine : Cond.code yX0_hasLine cX0_hasLine 2 (some .boolean) ∈ TB := TB_of (tb_2 (List.mem_of_getElem? (i := 17) rfl)) rfl
theorem wml_RX0_148 : Cond.methodLink RX0 148 yX0_cleanLines ∈ TB := TB_of (tb_2 (List.mem_of_getElem? (i := 18) rfl)) rfl
theorem wim_X0_cleanLines : Cond.instanceMethod yX0_cleanLines ∈ TB := TB_of (tb_2 (List.mem_of_getElem? (i := 19) rfl)) rfl
theorem wse_X0_cleanLines : Cond.selects RX0 yX0_cleanLines yX0_cleanLines ∈ TB := TB_of (tb_2 (List.mem_of_getElem? (i := 20) rfl)) rfl
theorem wcd_X0_cleanLines : Cond.code yX0_cleanLines cX0_cleanLines 3 (some .int) ∈ TB := TB_of (tb_2 (List.mem_of_getElem? (i := 21) rfl)) rfl
theorem wml_RX0_151 : Cond.methodLink RX0 151 yX0_sumOverLines ∈ TB := TB_of (tb_2 (List.mem_of_getElem? (i := 22) rfl)) rfl
theorem wim_X0_sumOverLines : Cond.instanceMethod yX0_sumOverLines ∈ TB := TB_of (tb_2 (List.mem_of_getElem? (i := 23) rfl)) rfl
theorem wse_X0_sumOverLines : Cond.selects RX0 yX0_sumOverLines yX0_sumOverLines ∈ TB := TB_of (tb_2 (List.mem_of_getElem? (i := 24) rfl)) rfl
theorem wcd_X0_sumOverLines : Cond.code yX0_sumOverLines cX0_sumOverLines 4 (some .int) ∈ TB := TB_of (tb_2 (List.mem_of_getElem? (i := 25) rfl)) rfl
theorem wml_RX0_155 : Cond.methodLink RX0 155 yX0_linesSmokedBy ∈ TB := TB_of (tb_2 (List.mem_of_getElem? (i := 26) rfl)) rfl
theorem wim_X0_linesSmokedBy : Cond.instanceMethod yX0_linesSmokedBy ∈ TB := TB_of (tb_2 (List.mem_of_getElem? (i := 27) rfl)) rfl
theorem wse_X0_linesSmokedBy : Cond.selects RX0 yX0_linesSmokedBy yX0_linesSmokedBy ∈ TB := TB_of (tb_2 (List.mem_of_getElem? (i := 28) rfl)) rfl
theorem wcd_X0_linesSmokedBy : Cond.code yX0_linesSmokedBy cX0_linesSmokedBy 5 (some .int) ∈ TB := TB_of (tb_2 (List.mem_of_getElem? (i := 29) rfl)) rfl
theorem wml_RX0_104 : Cond.methodLink RX0 104 yX4_roofsOf ∈ TB := TB_of (tb_2 (List.mem_of_getElem? (i := 30) rfl)) rfl
theorem wst_X4_roofsOf : Cond.static yX4_roofsOf ∈ TB := TB_of (tb_2 (List.mem_of_getElem? (i := 31) rfl)) rfl
theorem wcd_X4_roofsOf : Cond.code yX4_roofsOf cX4_roofsOf 1 (some .int) ∈ TB := TB_of (tb_2 (List.mem_of_getElem? (i := 32) rfl)) rfl
theorem wml_RX4_13 : Cond.methodLink RX4 13 yX4_lesserRoof ∈ TB := TB_of (tb_2 (List.mem_of_getElem? (i := 33) rfl)) rfl
theorem wst_X4_lesserRoof : Cond.static yX4_lesserRoof ∈ TB := TB_of (tb_2 (List.mem_of_getElem? (i := 34) rfl)) rfl
theorem wcd_X4_lesserRoof : Cond.code yX4_lesserRoof cX4_lesserRoof 1 (some .int) ∈ TB := TB_of (tb_2 (List.mem_of_getElem? (i := 35) rfl)) rfl
theorem wml_RX4_19 : Cond.methodLink RX4 19 yX4_greaterRoof ∈ TB := TB_of (tb_2 (List.mem_of_getElem? (i := 36) rfl)) rfl
theorem wst_X4_greaterRoof : Cond.static yX4_greaterRoof ∈ TB := TB_of (tb_2 (List.mem_of_getElem? (i := 37) rfl)) rfl
theorem wcd_X4_greaterRoof : Cond.code yX4_greaterRoof cX4_greaterRoof 1 (some .int) ∈ TB := TB_of (tb_2 (List.mem_of_getElem? (i := 38) rfl)) rfl
theorem wml_RX6_254 : Cond.methodLink RX6 254 yX0_numberSoFar ∈ TB := TB_of (tb_2 (List.mem_of_getElem? (i := 39) rfl)) rfl
theorem wim_X0_numberSoFar : Cond.instanceMethod yX0_numberSoFar ∈ TB := TB_of (tb_2 (List.mem_of_getElem? (i := 40) rfl)) rfl
theorem wse_X0_numberSoFar : Cond.selects RX0 yX0_numberSoFar yX0_numberSoFar ∈ TB := TB_of (tb_2 (List.mem_of_getElem? (i := 41) rfl)) rfl
theorem wcd_X0_numberSoFar : Cond.code yX0_numberSoFar cX0_numberSoFar 2 (some .int) ∈ TB := TB_of (tb_2 (List.mem_of_getElem? (i := 42) rfl)) rfl
theorem wml_RL_137 : Cond.methodLink RL 137 yX6_undo ∈ TB := TB_of (tb_2 (List.mem_of_getElem? (i := 43) rfl)) rfl
theorem wim_X6_undo : Cond.instanceMethod yX6_undo ∈ TB := TB_of (tb_2 (List.mem_of_getElem? (i := 44) rfl)) rfl
theorem wse_X6_undo : Cond.selects RX6 yX6_undo yX6_undo ∈ TB := TB_of (tb_2 (List.mem_of_getElem? (i := 45) rfl)) rfl
theorem wcd_X6_undo : Cond.code yX6_undo cX6_undo 1 (some .int) ∈ TB := TB_of (tb_2 (List.mem_of_getElem? (i := 46) rfl)) rfl
theorem wml_RX6_270 : Cond.methodLink RX6 270 yX1_popInto ∈ TB := TB_of (tb_2 (List.mem_of_getElem? (i := 47) rfl)) rfl
theorem wim_X1_popInto : Cond.instanceMethod yX1_popInto ∈ TB := TB_of (tb_2 (List.mem_of_getElem? (i := 48) rfl)) rfl
theorem wse_X1_popInto : Cond.selects RX1 yX1_popInto yX1_popInto ∈ TB := TB_of (tb_2 (List.mem_of_getElem? (i := 49) rfl)) rfl
theorem wcd_X1_popInto : Cond.code yX1_popInto cX1_popInto 4 none ∈ TB := TB_of (tb_2 (List.mem_of_getElem? (i := 50) rfl)) rfl
theorem wml_RX1_18 : Cond.methodLink RX1 18 yX0_copyFrom ∈ TB := TB_of (tb_2 (List.mem_of_getElem? (i := 51) rfl)) rfl
theorem wim_X0_copyFrom : Cond.instanceMethod yX0_copyFrom ∈ TB := TB_of (tb_2 (List.mem_of_getElem? (i := 52) rfl)) rfl
theorem wse_X0_copyFrom : Cond.selects RX0 yX0_copyFrom yX0_copyFrom ∈ TB := TB_of (tb_2 (List.mem_of_getElem? (i := 53) rfl)) rfl
theorem wcd_X0_copyFrom : Cond.code yX0_copyFrom cX0_copyFrom 2 none ∈ TB := TB_of (tb_2 (List.mem_of_getElem? (i := 54) rfl)) rfl
theorem wml_RX0_59 : Cond.methodLink RX0 59 arraycopyName ∈ TB := TB_of (tb_2 (List.mem_of_getElem? (i := 55) rfl)) rfl
theorem wst_copy : Cond.static arraycopyName ∈ TB := TB_of (tb_2 (List.mem_of_getElem? (i := 56) rfl)) rfl
theorem wnat_copy : Cond.native arraycopyName ∈ TB := TB_of (tb_2 (List.mem_of_getElem? (i := 57) rfl)) rfl
theorem wml_RX1_32 : Cond.methodLink RX1 32 yJ9_max_7cf53 ∈ TB := TB_of (tb_2 (List.mem_of_getElem? (i := 58) rfl)) rfl
theorem wst_J9_max_7cf53 : Cond.static yJ9_max_7cf53 ∈ TB := TB_of (tb_2 (List.mem_of_getElem? (i := 59) rfl)) rfl
theorem wcd_J9_max_7cf53 : Cond.code yJ9_max_7cf53 cJ9_max_7cf53 2 (some .int) ∈ TB := TB_of (tb_2 (List.mem_of_getElem? (i := 60) rfl)) rfl
theorem wml_RL_143 : Cond.methodLink RL 143 yX6_save ∈ TB := TB_of (tb_2 (List.mem_of_getElem? (i := 61) rfl)) rfl
theorem wim_X6_save : Cond.instanceMethod yX6_save ∈ TB := TB_of (tb_2 (List.mem_of_getElem? (i := 62) rfl)) rfl
theorem wse_X6_save : Cond.selects RX6 yX6_save yX6_save ∈ TB := TB_of (tb_2 (List.mem_of_getElem? (i := 63) rfl)) rfl
theorem wcd_X6_save : Cond.code yX6_save cX6_save 1 (some .int) ∈ TB := TB_of (tb_2 (List.mem_of_getElem? (i := 64) rfl)) rfl
theorem wml_RX6_260 : Cond.methodLink RX6 260 yX0_copyFrom ∈ TB := TB_of (tb_2 (List.mem_of_getElem? (i := 65) rfl)) rfl
theorem wml_RX6_189 : Cond.methodLink RX6 189 yX0_allLines ∈ TB := TB_of (tb_2 (List.mem_of_getElem? (i := 66) rfl)) rfl
theorem wml_RX6_89 : Cond.methodLink RX6 89 yJ6_bitCount_0f7a4 ∈ TB := TB_of (tb_2 (List.mem_of_getElem? (i := 67) rfl)) rfl
theorem wml_RL_140 : Cond.methodLink RL 140 yX6_restore ∈ TB := TB_of (tb_2 (List.mem_of_getElem? (i := 68) rfl)) rfl
theorem wim_X6_restore : Cond.instanceMethod yX6_restore ∈ TB := TB_of (tb_2 (List.mem_of_getElem? (i := 69) rfl)) rfl
theorem wse_X6_restore : Cond.selects RX6 yX6_restore yX6_restore ∈ TB := TB_of (tb_2 (List.mem_of_getElem? (i := 70) rfl)) rfl
theorem wcd_X6_restore : Cond.code yX6_restore cX6_restore 1 (some .int) ∈ TB := TB_of (tb_2 (List.mem_of_getElem? (i := 71) rfl)) rfl
theorem wml_RX6_62 : Cond.methodLink RX6 62 yX1_push ∈ TB := TB_of (tb_2 (List.mem_of_getElem? (i := 72) rfl)) rfl
theorem wim_X1_push : Cond.instanceMethod yX1_push ∈ TB := TB_of (tb_2 (List.mem_of_getElem? (i := 73) rfl)) rfl
theorem wse_X1_push : Cond.selects RX1 yX1_push yX1_push ∈ TB := TB_of (tb_2 (List.mem_of_getElem? (i := 74) rfl)) rfl
theorem wcd_X1_push : Cond.code yX1_push cX1_push 4 none ∈ TB := TB_of (tb_2 (List.mem_of_getElem? (i := 75) rfl)) rfl
theorem wml_RX1_26 : Cond.methodLink RX1 26 yJ9_min_7cf53 ∈ TB := TB_of (tb_2 (List.mem_of_getElem? (i := 76) rfl)) rfl
theorem wst_J9_min_7cf53 : Cond.static yJ9_min_7cf53 ∈ TB := TB_of (tb_2 (List.mem_of_getElem? (i := 77) rfl)) rfl
theorem wcd_J9_min_7cf53 : Cond.code yJ9_min_7cf53 cJ9_min_7cf53 2 (some .int) ∈ TB := TB_of (tb_2 (List.mem_of_getElem? (i := 78) rfl)) rfl
theorem wml_RL_146 : Cond.methodLink RL 146 yL_lot ∈ TB := TB_of (tb_2 (List.mem_of_getElem? (i := 79) rfl)) rfl
theorem wst_L_lot : Cond.static yL_lot ∈ TB := TB_of (tb_2 (List.mem_of_getElem? (i := 80) rfl)) rfl
theorem wcd_L_lot : Cond.code yL_lot cL_lot 2 (some .int) ∈ TB := TB_of (tb_2 (List.mem_of_getElem? (i := 81) rfl)) rfl
theorem wco_RL_7 : Cond.constant RL 7 522063469 ∈ TB := TB_of (tb_2 (List.mem_of_getElem? (i := 82) rfl)) rfl
theorem wml_RL_42 : Cond.methodLink RL 42 yL_low ∈ TB := TB_of (tb_2 (List.mem_of_getElem? (i := 83) rfl)) rfl
theorem wst_L_low : Cond.static yL_low ∈ TB := TB_of (tb_2 (List.mem_of_getElem? (i := 84) rfl)) rfl
theorem wcd_L_low : Cond.code yL_low cL_low 2 (some .int) ∈ TB := TB_of (tb_2 (List.mem_of_getElem? (i := 85) rfl)) rfl
theorem wco_RL_8 : Cond.constant RL 8 2147483647 ∈ TB := TB_of (tb_2 (List.mem_of_getElem? (i := 86) rfl)) rfl
theorem wml_RL_75 : Cond.methodLink RL 75 yL_look ∈ TB := TB_of (tb_2 (List.mem_of_getElem? (i := 87) rfl)) rfl
theorem wst_L_look : Cond.static yL_look ∈ TB := TB_of (tb_2 (List.mem_of_getElem? (i := 88) rfl)) rfl
theorem wcd_L_look : Cond.code yL_look cL_look 5 (some .long) ∈ TB := TB_of (tb_2 (List.mem_of_getElem? (i := 89) rfl)) rfl
theorem wcL_RL_9 : Cond.constantLong RL 9 463 ∈ TB := TB_of (tb_2 (List.mem_of_getElem? (i := 90) rfl)) rfl
theorem wcL_RL_11 : Cond.constantLong RL 11 31 ∈ TB := TB_of (tb_2 (List.mem_of_getElem? (i := 91) rfl)) rfl
theorem wml_RL_19 : Cond.methodLink RL 19 yX6_roof ∈ TB := TB_of (tb_2 (List.mem_of_getElem? (i := 92) rfl)) rfl
theorem wim_X6_roof : Cond.instanceMethod yX6_roof ∈ TB := TB_of (tb_2 (List.mem_of_getElem? (i := 93) rfl)) rfl
theorem wse_X6_roof : Cond.selects RX6 yX6_roof yX6_roof ∈ TB := TB_of (tb_2 (List.mem_of_getElem? (i := 94) rfl)) rfl
theorem wcd_X6_roof : Cond.code yX6_roof cX6_roof 3 (some .int) ∈ TB := TB_of (tb_2 (List.mem_of_getElem? (i := 95) rfl)) rfl
theorem wml_RX6_78 : Cond.methodLink RX6 78 yX6_isRoof ∈ TB := TB_of (tb_2 (List.mem_of_getElem? (i := 96) rfl)) rfl
theorem wst_X6_isRoof : Cond.static yX6_isRoof ∈ TB := TB_of (tb_2 (List.mem_of_getElem? (i := 97) rfl)) rfl
theorem wcd_X6_isRoof : Cond.code yX6_isRoof cX6_isRoof 1 (some .boolean) ∈ TB := TB_of (tb_2 (List.mem_of_getElem? (i := 98) rfl)) rfl
theorem wml_RX6_174 : Cond.methodLink RX6 174 yX6_bitOf ∈ TB := TB_of (tb_2 (List.mem_of_getElem? (i := 99) rfl)) rfl
theorem wst_X6_bitOf : Cond.static yX6_bitOf ∈ TB := TB_of (tb_2 (List.mem_of_getElem? (i := 100) rfl)) rfl
theorem wcd_X6_bitOf : Cond.code yX6_bitOf cX6_bitOf 2 (some .int) ∈ TB := TB_of (tb_2 (List.mem_of_getElem? (i := 101) rfl)) rfl
theorem wml_RX6_85 : Cond.methodLink RX6 85 yX0_smokeBlown ∈ TB := TB_of (tb_2 (List.mem_of_getElem? (i := 102) rfl)) rfl
theorem wml_RX6_177 : Cond.methodLink RX6 177 yX0_chimneysSmoking ∈ TB := TB_of (tb_2 (List.mem_of_getElem? (i := 103) rfl)) rfl
theorem wim_X0_chimneysSmoking : Cond.instanceMethod yX0_chimneysSmoking ∈ TB := TB_of (tb_2 (List.mem_of_getElem? (i := 104) rfl)) rfl
theorem wse_X0_chimneysSmoking : Cond.selects RX0 yX0_chimneysSmoking yX0_chimneysSmoking ∈ TB := TB_of (tb_2 (List.mem_of_getElem? (i := 105) rfl)) rfl
theorem wcd_X0_chimneysSmoking : Cond.code yX0_chimneysSmoking cX0_chimneysSmoking 4 (some .int) ∈ TB := TB_of (tb_2 (List.mem_of_getElem? (i := 106) rfl)) rfl
theorem wml_RX6_180 : Cond.methodLink RX6 180 yX0_ownersOn ∈ TB := TB_of (tb_2 (List.mem_of_getElem? (i := 107) rfl)) rfl
theorem wim_X0_ownersOn : Cond.instanceMethod yX0_ownersOn ∈ TB := TB_of (tb_2 (List.mem_of_getElem? (i := 108) rfl)) rfl
theorem wse_X0_ownersOn : Cond.selects RX0 yX0_ownersOn yX0_ownersOn ∈ TB := TB_of (tb_2 (List.mem_of_getElem? (i := 109) rfl)) rfl
theorem wcd_X0_ownersOn : Cond.code yX0_ownersOn cX0_ownersOn 4 (some .int) ∈ TB := TB_of (tb_2 (List.mem_of_getElem? (i := 110) rfl)) rfl
theorem wml_RX6_183 : Cond.methodLink RX6 183 yX0_standingGangways ∈ TB := TB_of (tb_2 (List.mem_of_getElem? (i := 111) rfl)) rfl
theorem wim_X0_standingGangways : Cond.instanceMethod yX0_standingGangways ∈ TB := TB_of (tb_2 (List.mem_of_getElem? (i := 112) rfl)) rfl
theorem wse_X0_standingGangways : Cond.selects RX0 yX0_standingGangways yX0_standingGangways ∈ TB := TB_of (tb_2 (List.mem_of_getElem? (i := 113) rfl)) rfl
theorem wcd_X0_standingGangways : Cond.code yX0_standingGangways cX0_standingGangways 3 (some .int) ∈ TB := TB_of (tb_2 (List.mem_of_getElem? (i := 114) rfl)) rfl
theorem wml_RX0_116 : Cond.methodLink RX0 116 yX0_isThere ∈ TB := TB_of (tb_2 (List.mem_of_getElem? (i := 115) rfl)) rfl
theorem wim_X0_isThere : Cond.instanceMethod yX0_isThere ∈ TB := TB_of (tb_2 (List.mem_of_getElem? (i := 116) rfl)) rfl
theorem wse_X0_isThere : Cond.selects RX0 yX0_isThere yX0_isThere ∈ TB := TB_of (tb_2 (List.mem_of_getElem? (i := 117) rfl)) rfl
theorem wcd_X0_isThere : Cond.code yX0_isThere cX0_isThere 2 (some .boolean) ∈ TB := TB_of (tb_2 (List.mem_of_getElem? (i := 118) rfl)) rfl
theorem wml_RX6_186 : Cond.methodLink RX6 186 yX4_gangwaysOf ∈ TB := TB_of (tb_2 (List.mem_of_getElem? (i := 119) rfl)) rfl
theorem wst_X4_gangwaysOf : Cond.static yX4_gangwaysOf ∈ TB := TB_of (tb_2 (List.mem_of_getElem? (i := 120) rfl)) rfl
theorem wcd_X4_gangwaysOf : Cond.code yX4_gangwaysOf cX4_gangwaysOf 3 (some .int) ∈ TB := TB_of (tb_2 (List.mem_of_getElem? (i := 121) rfl)) rfl
theorem wml_RX4_22 : Cond.methodLink RX4 22 yX4_isGangway ∈ TB := TB_of (tb_2 (List.mem_of_getElem? (i := 122) rfl)) rfl
theorem wml_RX4_26 : Cond.methodLink RX4 26 yX4_roofsOf ∈ TB := TB_of (tb_2 (List.mem_of_getElem? (i := 123) rfl)) rfl
theorem wml_RX6_192 : Cond.methodLink RX6 192 yX5_roofsFrom ∈ TB := TB_of (tb_2 (List.mem_of_getElem? (i := 125) rfl)) rfl
theorem wim_X5_roofsFrom : Cond.instanceMethod yX5_roofsFrom ∈ TB := TB_of (tb_2 (List.mem_of_getElem? (i := 126) rfl)) rfl
theorem wse_X5_roofsFrom : Cond.selects RX5 yX5_roofsFrom yX5_roofsFrom ∈ TB := TB_of (tb_2 (List.mem_of_getElem? (i := 127) rfl)) rfl
theorem wcd_X5_roofsFrom : Cond.code yX5_roofsFrom cX5_roofsFrom 7 (some .int) ∈ TB := TB_of (tb_2 (List.mem_of_getElem? (i := 128) rfl)) rfl
theorem wml_RX5_64 : Cond.methodLink RX5 64 yX4_roofsOf ∈ TB := TB_of (tb_2 (List.mem_of_getElem? (i := 129) rfl)) rfl
theorem wml_RX5_67 : Cond.methodLink RX5 67 yX0_isThere ∈ TB := TB_of (tb_2 (List.mem_of_getElem? (i := 130) rfl)) rfl
theorem wml_RL_23 : Cond.methodLink RL 23 yL_bridge ∈ TB := TB_of (tb_2 (List.mem_of_getElem? (i := 131) rfl)) rfl
theorem wst_L_bridge : Cond.static yL_bridge ∈ TB := TB_of (tb_2 (List.mem_of_getElem? (i := 132) rfl)) rfl
theorem wcd_L_bridge : Cond.code yL_bridge cL_bridge 1 (some .boolean) ∈ TB := TB_of (tb_2 (List.mem_of_getElem? (i := 133) rfl)) rfl
theorem wml_RL_29 : Cond.methodLink RL 29 yX6_gangway ∈ TB := TB_of (tb_2 (List.mem_of_getElem? (i := 134) rfl)) rfl
theorem wim_X6_gangway : Cond.instanceMethod yX6_gangway ∈ TB := TB_of (tb_2 (List.mem_of_getElem? (i := 135) rfl)) rfl
theorem wse_X6_gangway : Cond.selects RX6 yX6_gangway yX6_gangway ∈ TB := TB_of (tb_2 (List.mem_of_getElem? (i := 136) rfl)) rfl
theorem wcd_X6_gangway : Cond.code yX6_gangway cX6_gangway 3 (some .int) ∈ TB := TB_of (tb_2 (List.mem_of_getElem? (i := 137) rfl)) rfl
theorem wml_RX6_52 : Cond.methodLink RX6 52 yX4_isGangway ∈ TB := TB_of (tb_2 (List.mem_of_getElem? (i := 138) rfl)) rfl
theorem wml_RX6_196 : Cond.methodLink RX6 196 yX4_lesserRoof ∈ TB := TB_of (tb_2 (List.mem_of_getElem? (i := 139) rfl)) rfl
theorem wml_RX6_199 : Cond.methodLink RX6 199 yX4_greaterRoof ∈ TB := TB_of (tb_2 (List.mem_of_getElem? (i := 140) rfl)) rfl
theorem wml_RX6_202 : Cond.methodLink RX6 202 yX0_hasLine ∈ TB := TB_of (tb_2 (List.mem_of_getElem? (i := 141) rfl)) rfl
theorem wml_RX6_214 : Cond.methodLink RX6 214 yX4_roofsOf ∈ TB := TB_of (tb_2 (List.mem_of_getElem? (i := 142) rfl)) rfl
theorem wml_RL_32 : Cond.methodLink RL 32 yX6_ownerOf ∈ TB := TB_of (tb_2 (List.mem_of_getElem? (i := 143) rfl)) rfl
theorem wim_X6_ownerOf : Cond.instanceMethod yX6_ownerOf ∈ TB := TB_of (tb_2 (List.mem_of_getElem? (i := 144) rfl)) rfl
theorem wse_X6_ownerOf : Cond.selects RX6 yX6_ownerOf yX6_ownerOf ∈ TB := TB_of (tb_2 (List.mem_of_getElem? (i := 145) rfl)) rfl
theorem wcd_X6_ownerOf : Cond.code yX6_ownerOf cX6_ownerOf 3 (some .int) ∈ TB := TB_of (tb_2 (List.mem_of_getElem? (i := 146) rfl)) rfl
theorem wml_RX6_97 : Cond.methodLink RX6 97 yX6_isOwner ∈ TB := TB_of (tb_2 (List.mem_of_getElem? (i := 147) rfl)) rfl
theorem wst_X6_isOwner : Cond.static yX6_isOwner ∈ TB := TB_of (tb_2 (List.mem_of_getElem? (i := 148) rfl)) rfl
theorem wcd_X6_isOwner : Cond.code yX6_isOwner cX6_isOwner 1 (some .boolean) ∈ TB := TB_of (tb_2 (List.mem_of_getElem? (i := 149) rfl)) rfl
theorem wml_RX6_223 : Cond.methodLink RX6 223 yX0_linesOf ∈ TB := TB_of (tb_2 (List.mem_of_getElem? (i := 150) rfl)) rfl
theorem wim_X0_linesOf : Cond.instanceMethod yX0_linesOf ∈ TB := TB_of (tb_2 (List.mem_of_getElem? (i := 151) rfl)) rfl
theorem wse_X0_linesOf : Cond.selects RX0 yX0_linesOf yX0_linesOf ∈ TB := TB_of (tb_2 (List.mem_of_getElem? (i := 152) rfl)) rfl
theorem wcd_X0_linesOf : Cond.code yX0_linesOf cX0_linesOf 4 (some .int) ∈ TB := TB_of (tb_2 (List.mem_of_getElem? (i := 153) rfl)) rfl
theorem wml_RX6_131 : Cond.methodLink RX6 131 yX0_cleanLines ∈ TB := TB_of (tb_2 (List.mem_of_getElem? (i := 154) rfl)) rfl
theorem wml_RX6_226 : Cond.methodLink RX6 226 yX0_walksOpenTo ∈ TB := TB_of (tb_2 (List.mem_of_getElem? (i := 155) rfl)) rfl
theorem wim_X0_walksOpenTo : Cond.instanceMethod yX0_walksOpenTo ∈ TB := TB_of (tb_2 (List.mem_of_getElem? (i := 156) rfl)) rfl
theorem wse_X0_walksOpenTo : Cond.selects RX0 yX0_walksOpenTo yX0_walksOpenTo ∈ TB := TB_of (tb_2 (List.mem_of_getElem? (i := 157) rfl)) rfl
theorem wcd_X0_walksOpenTo : Cond.code yX0_walksOpenTo cX0_walksOpenTo 5 (some .int) ∈ TB := TB_of (tb_2 (List.mem_of_getElem? (i := 158) rfl)) rfl
theorem wml_RX0_135 : Cond.methodLink RX0 135 yX4_otherRoof ∈ TB := TB_of (tb_2 (List.mem_of_getElem? (i := 159) rfl)) rfl
theorem wst_X4_otherRoof : Cond.static yX4_otherRoof ∈ TB := TB_of (tb_2 (List.mem_of_getElem? (i := 160) rfl)) rfl
theorem wcd_X4_otherRoof : Cond.code yX4_otherRoof cX4_otherRoof 2 (some .int) ∈ TB := TB_of (tb_2 (List.mem_of_getElem? (i := 161) rfl)) rfl
theorem wml_RX0_145 : Cond.methodLink RX0 145 yX0_standsAt ∈ TB := TB_of (tb_2 (List.mem_of_getElem? (i := 162) rfl)) rfl
theorem wim_X0_standsAt : Cond.instanceMethod yX0_standsAt ∈ TB := TB_of (tb_2 (List.mem_of_getElem? (i := 163) rfl)) rfl
theorem wse_X0_standsAt : Cond.selects RX0 yX0_standsAt yX0_standsAt ∈ TB := TB_of (tb_2 (List.mem_of_getElem? (i := 164) rfl)) rfl
theorem wcd_X0_standsAt : Cond.code yX0_standsAt cX0_standsAt 3 (some .boolean) ∈ TB := TB_of (tb_2 (List.mem_of_getElem? (i := 165) rfl)) rfl
theorem wml_RX0_138 : Cond.methodLink RX0 138 yX0_reasonNotToWalk ∈ TB := TB_of (tb_2 (List.mem_of_getElem? (i := 166) rfl)) rfl
theorem wim_X0_reasonNotToWalk : Cond.instanceMethod yX0_reasonNotToWalk ∈ TB := TB_of (tb_2 (List.mem_of_getElem? (i := 167) rfl)) rfl
theorem wse_X0_reasonNotToWalk : Cond.selects RX0 yX0_reasonNotToWalk yX0_reasonNotToWalk ∈ TB := TB_of (tb_2 (List.mem_of_getElem? (i := 168) rfl)) rfl
theorem wcd_X0_reasonNotToWalk : Cond.code yX0_reasonNotToWalk cX0_reasonNotToWalk 4 (some .int) ∈ TB := TB_of (tb_2 (List.mem_of_getElem? (i := 169) rfl)) rfl
theorem wml_RX6_232 : Cond.methodLink RX6 232 yX0_hangingsOpenTo ∈ TB := TB_of (tb_2 (List.mem_of_getElem? (i := 170) rfl)) rfl
theorem wim_X0_hangingsOpenTo : Cond.instanceMethod yX0_hangingsOpenTo ∈ TB := TB_of (tb_2 (List.mem_of_getElem? (i := 171) rfl)) rfl
theorem wse_X0_hangingsOpenTo : Cond.selects RX0 yX0_hangingsOpenTo yX0_hangingsOpenTo ∈ TB := TB_of (tb_2 (List.mem_of_getElem? (i := 172) rfl)) rfl
theorem wcd_X0_hangingsOpenTo : Cond.code yX0_hangingsOpenTo cX0_hangingsOpenTo 4 (some .int) ∈ TB := TB_of (tb_2 (List.mem_of_getElem? (i := 173) rfl)) rfl
theorem wml_RX0_122 : Cond.methodLink RX0 122 yX0_reasonNotToHang ∈ TB := TB_of (tb_2 (List.mem_of_getElem? (i := 174) rfl)) rfl
theorem wim_X0_reasonNotToHang : Cond.instanceMethod yX0_reasonNotToHang ∈ TB := TB_of (tb_2 (List.mem_of_getElem? (i := 175) rfl)) rfl
theorem wse_X0_reasonNotToHang : Cond.selects RX0 yX0_reasonNotToHang yX0_reasonNotToHang ∈ TB := TB_of (tb_2 (List.mem_of_getElem? (i := 176) rfl)) rfl
theorem wcd_X0_reasonNotToHang : Cond.code yX0_reasonNotToHang cX0_reasonNotToHang 4 (some .int) ∈ TB := TB_of (tb_2 (List.mem_of_getElem? (i := 177) rfl)) rfl
theorem wml_RX0_119 : Cond.methodLink RX0 119 yX0_isNearCoop ∈ TB := TB_of (tb_2 (List.mem_of_getElem? (i := 178) rfl)) rfl
theorem wim_X0_isNearCoop : Cond.instanceMethod yX0_isNearCoop ∈ TB := TB_of (tb_2 (List.mem_of_getElem? (i := 179) rfl)) rfl
theorem wse_X0_isNearCoop : Cond.selects RX0 yX0_isNearCoop yX0_isNearCoop ∈ TB := TB_of (tb_2 (List.mem_of_getElem? (i := 180) rfl)) rfl
theorem wcd_X0_isNearCoop : Cond.code yX0_isNearCoop cX0_isNearCoop 3 (some .boolean) ∈ TB := TB_of (tb_2 (List.mem_of_getElem? (i := 181) rfl)) rfl
theorem wml_RX0_107 : Cond.methodLink RX0 107 yX4_lesserRoof ∈ TB := TB_of (tb_2 (List.mem_of_getElem? (i := 182) rfl)) rfl
theorem wml_RX0_110 : Cond.methodLink RX0 110 yX4_roofAndNeighbours ∈ TB := TB_of (tb_2 (List.mem_of_getElem? (i := 183) rfl)) rfl
theorem wst_X4_roofAndNeighbours : Cond.static yX4_roofAndNeighbours ∈ TB := TB_of (tb_2 (List.mem_of_getElem? (i := 184) rfl)) rfl
theorem wcd_X4_roofAndNeighbours : Cond.code yX4_roofAndNeighbours cX4_roofAndNeighbours 4 (some .int) ∈ TB := TB_of (tb_2 (List.mem_of_getElem? (i := 185) rfl)) rfl
theorem wml_RX0_113 : Cond.methodLink RX0 113 yX4_greaterRoof ∈ TB := TB_of (tb_2 (List.mem_of_getElem? (i := 186) rfl)) rfl
theorem wml_RL_130 : Cond.methodLink RL 130 yL_holds ∈ TB := TB_of (tb_2 (List.mem_of_getElem? (i := 187) rfl)) rfl
theorem wst_L_holds : Cond.static yL_holds ∈ TB := TB_of (tb_2 (List.mem_of_getElem? (i := 188) rfl)) rfl
theorem wcd_L_holds : Cond.code yL_holds cL_holds 16 (some .boolean) ∈ TB := TB_of (tb_2 (List.mem_of_getElem? (i := 189) rfl)) rfl
theorem wml_RL_35 : Cond.methodLink RL 35 yX6_bestPlace ∈ TB := TB_of (tb_2 (List.mem_of_getElem? (i := 190) rfl)) rfl
theorem wim_X6_bestPlace : Cond.instanceMethod yX6_bestPlace ∈ TB := TB_of (tb_2 (List.mem_of_getElem? (i := 191) rfl)) rfl
theorem wse_X6_bestPlace : Cond.selects RX6 yX6_bestPlace yX6_bestPlace ∈ TB := TB_of (tb_2 (List.mem_of_getElem? (i := 192) rfl)) rfl
theorem wcd_X6_bestPlace : Cond.code yX6_bestPlace cX6_bestPlace 6 (some .int) ∈ TB := TB_of (tb_2 (List.mem_of_getElem? (i := 193) rfl)) rfl
theorem wml_RX6_235 : Cond.methodLink RX6 235 yX0_reasonNotToHang ∈ TB := TB_of (tb_2 (List.mem_of_getElem? (i := 194) rfl)) rfl
theorem wml_RX6_267 : Cond.methodLink RX6 267 yX0_windsSmoking ∈ TB := TB_of (tb_2 (List.mem_of_getElem? (i := 195) rfl)) rfl
theorem wim_X0_windsSmoking : Cond.instanceMethod yX0_windsSmoking ∈ TB := TB_of (tb_2 (List.mem_of_getElem? (i := 196) rfl)) rfl
theorem wse_X0_windsSmoking : Cond.selects RX0 yX0_windsSmoking yX0_windsSmoking ∈ TB := TB_of (tb_2 (List.mem_of_getElem? (i := 197) rfl)) rfl
theorem wcd_X0_windsSmoking : Cond.code yX0_windsSmoking cX0_windsSmoking 4 (some .int) ∈ TB := TB_of (tb_2 (List.mem_of_getElem? (i := 198) rfl)) rfl
theorem wml_RL_38 : Cond.methodLink RL 38 yX6_cleanness ∈ TB := TB_of (tb_2 (List.mem_of_getElem? (i := 199) rfl)) rfl
theorem wim_X6_cleanness : Cond.instanceMethod yX6_cleanness ∈ TB := TB_of (tb_2 (List.mem_of_getElem? (i := 200) rfl)) rfl
theorem wse_X6_cleanness : Cond.selects RX6 yX6_cleanness yX6_cleanness ∈ TB := TB_of (tb_2 (List.mem_of_getElem? (i := 201) rfl)) rfl
theorem wcd_X6_cleanness : Cond.code yX6_cleanness cX6_cleanness 2 (some .double) ∈ TB := TB_of (tb_2 (List.mem_of_getElem? (i := 202) rfl)) rfl
theorem wml_RL_134 : Cond.methodLink RL 134 yL_would ∈ TB := TB_of (tb_2 (List.mem_of_getElem? (i := 203) rfl)) rfl
theorem wst_L_would : Cond.static yL_would ∈ TB := TB_of (tb_2 (List.mem_of_getElem? (i := 204) rfl)) rfl
theorem wcd_L_would : Cond.code yL_would cL_would 19 (some .boolean) ∈ TB := TB_of (tb_2 (List.mem_of_getElem? (i := 205) rfl)) rfl
theorem wml_RL_45 : Cond.methodLink RL 45 yX6_whyNotHang ∈ TB := TB_of (tb_2 (List.mem_of_getElem? (i := 206) rfl)) rfl
theorem wim_X6_whyNotHang : Cond.instanceMethod yX6_whyNotHang ∈ TB := TB_of (tb_2 (List.mem_of_getElem? (i := 207) rfl)) rfl
theorem wse_X6_whyNotHang : Cond.selects RX6 yX6_whyNotHang yX6_whyNotHang ∈ TB := TB_of (tb_2 (List.mem_of_getElem? (i := 208) rfl)) rfl
theorem wcd_X6_whyNotHang : Cond.code yX6_whyNotHang cX6_whyNotHang 3 (some .int) ∈ TB := TB_of (tb_2 (List.mem_of_getElem? (i := 209) rfl)) rfl
theorem wml_RL_48 : Cond.methodLink RL 48 yX6_strongest ∈ TB := TB_of (tb_2 (List.mem_of_getElem? (i := 210) rfl)) rfl
theorem wim_X6_strongest : Cond.instanceMethod yX6_strongest ∈ TB := TB_of (tb_2 (List.mem_of_getElem? (i := 211) rfl)) rfl
theorem wse_X6_strongest : Cond.selects RX6 yX6_strongest yX6_strongest ∈ TB := TB_of (tb_2 (List.mem_of_getElem? (i := 212) rfl)) rfl
theorem wcd_X6_strongest : Cond.code yX6_strongest cX6_strongest 4 (some .int) ∈ TB := TB_of (tb_2 (List.mem_of_getElem? (i := 213) rfl)) rfl
theorem wml_RX6_238 : Cond.methodLink RX6 238 yX5_strongestByJoining ∈ TB := TB_of (tb_2 (List.mem_of_getElem? (i := 214) rfl)) rfl
theorem wim_X5_strongestByJoining : Cond.instanceMethod yX5_strongestByJoining ∈ TB := TB_of (tb_2 (List.mem_of_getElem? (i := 215) rfl)) rfl
theorem wse_X5_strongestByJoining : Cond.selects RX5 yX5_strongestByJoining yX5_strongestByJoining ∈ TB := TB_of (tb_2 (List.mem_of_getElem? (i := 216) rfl)) rfl
theorem wcd_X5_strongestByJoining : Cond.code yX5_strongestByJoining cX5_strongestByJoining 5 (some .int) ∈ TB := TB_of (tb_2 (List.mem_of_getElem? (i := 217) rfl)) rfl
theorem wml_RX5_18 : Cond.methodLink RX5 18 yX5_joinOver ∈ TB := TB_of (tb_2 (List.mem_of_getElem? (i := 218) rfl)) rfl
theorem wim_X5_joinOver : Cond.instanceMethod yX5_joinOver ∈ TB := TB_of (tb_2 (List.mem_of_getElem? (i := 220) rfl)) rfl
theorem wcd_X5_joinOver : Cond.code yX5_joinOver cX5_joinOver 4 none ∈ TB := TB_of (tb_2 (List.mem_of_getElem? (i := 221) rfl)) rfl
theorem wml_RX5_22 : Cond.methodLink RX5 22 yX4_isGangway ∈ TB := TB_of (tb_2 (List.mem_of_getElem? (i := 222) rfl)) rfl
theorem wml_RX5_33 : Cond.methodLink RX5 33 yX4_greaterRoof ∈ TB := TB_of (tb_2 (List.mem_of_getElem? (i := 223) rfl)) rfl
theorem wml_RX5_37 : Cond.methodLink RX5 37 yX4_lesserRoof ∈ TB := TB_of (tb_2 (List.mem_of_getElem? (i := 224) rfl)) rfl
theorem wml_RX5_40 : Cond.methodLink RX5 40 yX5_rename ∈ TB := TB_of (tb_2 (List.mem_of_getElem? (i := 225) rfl)) rfl
theorem wim_X5_rename : Cond.instanceMethod yX5_rename ∈ TB := TB_of (tb_2 (List.mem_of_getElem? (i := 227) rfl)) rfl
theorem wcd_X5_rename : Cond.code yX5_rename cX5_rename 4 none ∈ TB := TB_of (tb_2 (List.mem_of_getElem? (i := 228) rfl)) rfl
theorem wml_RX6_242 : Cond.methodLink RX6 242 yX5_strongestBySpreading ∈ TB := TB_of (tb_2 (List.mem_of_getElem? (i := 229) rfl)) rfl
theorem wim_X5_strongestBySpreading : Cond.instanceMethod yX5_strongestBySpreading ∈ TB := TB_of (tb_2 (List.mem_of_getElem? (i := 230) rfl)) rfl
theorem wse_X5_strongestBySpreading : Cond.selects RX5 yX5_strongestBySpreading yX5_strongestBySpreading ∈ TB := TB_of (tb_2 (List.mem_of_getElem? (i := 231) rfl)) rfl
theorem wcd_X5_strongestBySpreading : Cond.code yX5_strongestBySpreading cX5_strongestBySpreading 6 (some .int) ∈ TB := TB_of (tb_2 (List.mem_of_getElem? (i := 232) rfl)) rfl
theorem wml_RX5_44 : Cond.methodLink RX5 44 yJ7_fill_53178 ∈ TB := TB_of (tb_2 (List.mem_of_getElem? (i := 233) rfl)) rfl
theorem wml_RX5_50 : Cond.methodLink RX5 50 yX5_spread ∈ TB := TB_of (tb_2 (List.mem_of_getElem? (i := 234) rfl)) rfl
theorem wim_X5_spread : Cond.instanceMethod yX5_spread ∈ TB := TB_of (tb_2 (List.mem_of_getElem? (i := 236) rfl)) rfl
theorem wcd_X5_spread : Cond.code yX5_spread cX5_spread 8 (some .boolean) ∈ TB := TB_of (tb_2 (List.mem_of_getElem? (i := 237) rfl)) rfl
theorem wml_RX5_54 : Cond.methodLink RX5 54 yJ9_min_7cf53 ∈ TB := TB_of (tb_2 (List.mem_of_getElem? (i := 238) rfl)) rfl
theorem wml_RX5_60 : Cond.methodLink RX5 60 yX5_raise ∈ TB := TB_of (tb_2 (List.mem_of_getElem? (i := 239) rfl)) rfl
theorem wim_X5_raise : Cond.instanceMethod yX5_raise ∈ TB := TB_of (tb_3 (List.mem_of_getElem? (i := 1) rfl)) rfl
theorem wcd_X5_raise : Cond.code yX5_raise cX5_raise 3 (some .boolean) ∈ TB := TB_of (tb_3 (List.mem_of_getElem? (i := 2) rfl)) rfl
theorem wml_RL_52 : Cond.methodLink RL 52 yX6_steps ∈ TB := TB_of (tb_3 (List.mem_of_getElem? (i := 3) rfl)) rfl
theorem wim_X6_steps : Cond.instanceMethod yX6_steps ∈ TB := TB_of (tb_3 (List.mem_of_getElem? (i := 4) rfl)) rfl
theorem wse_X6_steps : Cond.selects RX6 yX6_steps yX6_steps ∈ TB := TB_of (tb_3 (List.mem_of_getElem? (i := 5) rfl)) rfl
theorem wcd_X6_steps : Cond.code yX6_steps cX6_steps 3 (some .int) ∈ TB := TB_of (tb_3 (List.mem_of_getElem? (i := 6) rfl)) rfl
theorem wml_RX6_245 : Cond.methodLink RX6 245 yX5_fewestWalks ∈ TB := TB_of (tb_3 (List.mem_of_getElem? (i := 7) rfl)) rfl
theorem wim_X5_fewestWalks : Cond.instanceMethod yX5_fewestWalks ∈ TB := TB_of (tb_3 (List.mem_of_getElem? (i := 8) rfl)) rfl
theorem wse_X5_fewestWalks : Cond.selects RX5 yX5_fewestWalks yX5_fewestWalks ∈ TB := TB_of (tb_3 (List.mem_of_getElem? (i := 9) rfl)) rfl
theorem wcd_X5_fewestWalks : Cond.code yX5_fewestWalks cX5_fewestWalks 6 (some .int) ∈ TB := TB_of (tb_3 (List.mem_of_getElem? (i := 10) rfl)) rfl
theorem wml_RX5_76 : Cond.methodLink RX5 76 yX5_oneWalkFurther ∈ TB := TB_of (tb_3 (List.mem_of_getElem? (i := 12) rfl)) rfl
theorem wim_X5_oneWalkFurther : Cond.instanceMethod yX5_oneWalkFurther ∈ TB := TB_of (tb_3 (List.mem_of_getElem? (i := 14) rfl)) rfl
theorem wcd_X5_oneWalkFurther : Cond.code yX5_oneWalkFurther cX5_oneWalkFurther 8 (some .int) ∈ TB := TB_of (tb_3 (List.mem_of_getElem? (i := 15) rfl)) rfl
theorem wml_RX5_80 : Cond.methodLink RX5 80 yX0_reasonNotToWalk ∈ TB := TB_of (tb_3 (List.mem_of_getElem? (i := 16) rfl)) rfl
theorem wml_RL_55 : Cond.methodLink RL 55 yX6_ifWind ∈ TB := TB_of (tb_3 (List.mem_of_getElem? (i := 17) rfl)) rfl
theorem wim_X6_ifWind : Cond.instanceMethod yX6_ifWind ∈ TB := TB_of (tb_3 (List.mem_of_getElem? (i := 18) rfl)) rfl
theorem wse_X6_ifWind : Cond.selects RX6 yX6_ifWind yX6_ifWind ∈ TB := TB_of (tb_3 (List.mem_of_getElem? (i := 19) rfl)) rfl
theorem wcd_X6_ifWind : Cond.code yX6_ifWind cX6_ifWind 2 (some .int) ∈ TB := TB_of (tb_3 (List.mem_of_getElem? (i := 20) rfl)) rfl
theorem wml_RX6_257 : Cond.methodLink RX6 257 yX0_linesSmokedBy ∈ TB := TB_of (tb_3 (List.mem_of_getElem? (i := 21) rfl)) rfl
theorem wml_RL_58 : Cond.methodLink RL 58 yX6_bestWind ∈ TB := TB_of (tb_3 (List.mem_of_getElem? (i := 22) rfl)) rfl
theorem wim_X6_bestWind : Cond.instanceMethod yX6_bestWind ∈ TB := TB_of (tb_3 (List.mem_of_getElem? (i := 23) rfl)) rfl
theorem wse_X6_bestWind : Cond.selects RX6 yX6_bestWind yX6_bestWind ∈ TB := TB_of (tb_3 (List.mem_of_getElem? (i := 24) rfl)) rfl
theorem wcd_X6_bestWind : Cond.code yX6_bestWind cX6_bestWind 3 (some .int) ∈ TB := TB_of (tb_3 (List.mem_of_getElem? (i := 25) rfl)) rfl
theorem wml_RL_62 : Cond.methodLink RL 62 yX6_ifDays ∈ TB := TB_of (tb_3 (List.mem_of_getElem? (i := 26) rfl)) rfl
theorem wim_X6_ifDays : Cond.instanceMethod yX6_ifDays ∈ TB := TB_of (tb_3 (List.mem_of_getElem? (i := 27) rfl)) rfl
theorem wse_X6_ifDays : Cond.selects RX6 yX6_ifDays yX6_ifDays ∈ TB := TB_of (tb_3 (List.mem_of_getElem? (i := 28) rfl)) rfl
theorem wcd_X6_ifDays : Cond.code yX6_ifDays cX6_ifDays 4 (some .int) ∈ TB := TB_of (tb_3 (List.mem_of_getElem? (i := 29) rfl)) rfl
theorem wml_RX6_128 : Cond.methodLink RX6 128 yX0_passDay ∈ TB := TB_of (tb_3 (List.mem_of_getElem? (i := 30) rfl)) rfl
theorem wim_X0_passDay : Cond.instanceMethod yX0_passDay ∈ TB := TB_of (tb_3 (List.mem_of_getElem? (i := 31) rfl)) rfl
theorem wse_X0_passDay : Cond.selects RX0 yX0_passDay yX0_passDay ∈ TB := TB_of (tb_3 (List.mem_of_getElem? (i := 32) rfl)) rfl
theorem wcd_X0_passDay : Cond.code yX0_passDay cX0_passDay 3 none ∈ TB := TB_of (tb_3 (List.mem_of_getElem? (i := 33) rfl)) rfl
theorem wml_RX0_141 : Cond.methodLink RX0 141 yX0_soilLine ∈ TB := TB_of (tb_3 (List.mem_of_getElem? (i := 34) rfl)) rfl
theorem wim_X0_soilLine : Cond.instanceMethod yX0_soilLine ∈ TB := TB_of (tb_3 (List.mem_of_getElem? (i := 35) rfl)) rfl
theorem wse_X0_soilLine : Cond.selects RX0 yX0_soilLine yX0_soilLine ∈ TB := TB_of (tb_3 (List.mem_of_getElem? (i := 36) rfl)) rfl
theorem wcd_X0_soilLine : Cond.code yX0_soilLine cX0_soilLine 4 none ∈ TB := TB_of (tb_3 (List.mem_of_getElem? (i := 37) rfl)) rfl
theorem wml_RX6_263 : Cond.methodLink RX6 263 yX0_sumOverLines ∈ TB := TB_of (tb_3 (List.mem_of_getElem? (i := 38) rfl)) rfl
theorem wml_RL_150 : Cond.methodLink RL 150 yL_acts ∈ TB := TB_of (tb_3 (List.mem_of_getElem? (i := 39) rfl)) rfl
theorem wst_L_acts : Cond.static yL_acts ∈ TB := TB_of (tb_3 (List.mem_of_getElem? (i := 40) rfl)) rfl
theorem wcd_L_acts : Cond.code yL_acts cL_acts 10 (some .boolean) ∈ TB := TB_of (tb_3 (List.mem_of_getElem? (i := 41) rfl)) rfl
theorem wml_RL_97 : Cond.methodLink RL 97 yL_deeds ∈ TB := TB_of (tb_3 (List.mem_of_getElem? (i := 42) rfl)) rfl
theorem wst_L_deeds : Cond.static yL_deeds ∈ TB := TB_of (tb_3 (List.mem_of_getElem? (i := 43) rfl)) rfl
theorem wcd_L_deeds : Cond.code yL_deeds cL_deeds 17 (some .boolean) ∈ TB := TB_of (tb_3 (List.mem_of_getElem? (i := 44) rfl)) rfl
theorem wml_RL_88 : Cond.methodLink RL 88 yX6_hang ∈ TB := TB_of (tb_3 (List.mem_of_getElem? (i := 45) rfl)) rfl
theorem wim_X6_hang : Cond.instanceMethod yX6_hang ∈ TB := TB_of (tb_3 (List.mem_of_getElem? (i := 46) rfl)) rfl
theorem wse_X6_hang : Cond.selects RX6 yX6_hang yX6_hang ∈ TB := TB_of (tb_3 (List.mem_of_getElem? (i := 47) rfl)) rfl
theorem wcd_X6_hang : Cond.code yX6_hang cX6_hang 3 (some .int) ∈ TB := TB_of (tb_3 (List.mem_of_getElem? (i := 48) rfl)) rfl
theorem wml_RX6_114 : Cond.methodLink RX6 114 yX0_hangLine ∈ TB := TB_of (tb_3 (List.mem_of_getElem? (i := 49) rfl)) rfl
theorem wim_X0_hangLine : Cond.instanceMethod yX0_hangLine ∈ TB := TB_of (tb_3 (List.mem_of_getElem? (i := 50) rfl)) rfl
theorem wse_X0_hangLine : Cond.selects RX0 yX0_hangLine yX0_hangLine ∈ TB := TB_of (tb_3 (List.mem_of_getElem? (i := 51) rfl)) rfl
theorem wcd_X0_hangLine : Cond.code yX0_hangLine cX0_hangLine 4 (some .int) ∈ TB := TB_of (tb_3 (List.mem_of_getElem? (i := 52) rfl)) rfl
theorem wml_RL_91 : Cond.methodLink RL 91 yX6_take ∈ TB := TB_of (tb_3 (List.mem_of_getElem? (i := 53) rfl)) rfl
theorem wim_X6_take : Cond.instanceMethod yX6_take ∈ TB := TB_of (tb_3 (List.mem_of_getElem? (i := 54) rfl)) rfl
theorem wse_X6_take : Cond.selects RX6 yX6_take yX6_take ∈ TB := TB_of (tb_3 (List.mem_of_getElem? (i := 55) rfl)) rfl
theorem wcd_X6_take : Cond.code yX6_take cX6_take 3 (some .int) ∈ TB := TB_of (tb_3 (List.mem_of_getElem? (i := 56) rfl)) rfl
theorem wml_RX6_118 : Cond.methodLink RX6 118 yX0_takeLine ∈ TB := TB_of (tb_3 (List.mem_of_getElem? (i := 57) rfl)) rfl
theorem wim_X0_takeLine : Cond.instanceMethod yX0_takeLine ∈ TB := TB_of (tb_3 (List.mem_of_getElem? (i := 58) rfl)) rfl
theorem wse_X0_takeLine : Cond.selects RX0 yX0_takeLine yX0_takeLine ∈ TB := TB_of (tb_3 (List.mem_of_getElem? (i := 59) rfl)) rfl
theorem wcd_X0_takeLine : Cond.code yX0_takeLine cX0_takeLine 3 (some .int) ∈ TB := TB_of (tb_3 (List.mem_of_getElem? (i := 60) rfl)) rfl
theorem wml_RL_94 : Cond.methodLink RL 94 yX6_walk ∈ TB := TB_of (tb_3 (List.mem_of_getElem? (i := 61) rfl)) rfl
theorem wim_X6_walk : Cond.instanceMethod yX6_walk ∈ TB := TB_of (tb_3 (List.mem_of_getElem? (i := 62) rfl)) rfl
theorem wse_X6_walk : Cond.selects RX6 yX6_walk yX6_walk ∈ TB := TB_of (tb_3 (List.mem_of_getElem? (i := 63) rfl)) rfl
theorem wcd_X6_walk : Cond.code yX6_walk cX6_walk 3 (some .int) ∈ TB := TB_of (tb_3 (List.mem_of_getElem? (i := 64) rfl)) rfl
theorem wml_RX6_121 : Cond.methodLink RX6 121 yX0_standsAt ∈ TB := TB_of (tb_3 (List.mem_of_getElem? (i := 65) rfl)) rfl
theorem wml_RX6_125 : Cond.methodLink RX6 125 yX0_walkOver ∈ TB := TB_of (tb_3 (List.mem_of_getElem? (i := 66) rfl)) rfl
theorem wim_X0_walkOver : Cond.instanceMethod yX0_walkOver ∈ TB := TB_of (tb_3 (List.mem_of_getElem? (i := 67) rfl)) rfl
theorem wse_X0_walkOver : Cond.selects RX0 yX0_walkOver yX0_walkOver ∈ TB := TB_of (tb_3 (List.mem_of_getElem? (i := 68) rfl)) rfl
theorem wcd_X0_walkOver : Cond.code yX0_walkOver cX0_walkOver 5 (some .int) ∈ TB := TB_of (tb_3 (List.mem_of_getElem? (i := 69) rfl)) rfl
theorem wml_RL_101 : Cond.methodLink RL 101 yX6_day ∈ TB := TB_of (tb_3 (List.mem_of_getElem? (i := 70) rfl)) rfl
theorem wim_X6_day : Cond.instanceMethod yX6_day ∈ TB := TB_of (tb_3 (List.mem_of_getElem? (i := 71) rfl)) rfl
theorem wse_X6_day : Cond.selects RX6 yX6_day yX6_day ∈ TB := TB_of (tb_3 (List.mem_of_getElem? (i := 72) rfl)) rfl
theorem wcd_X6_day : Cond.code yX6_day cX6_day 1 (some .int) ∈ TB := TB_of (tb_3 (List.mem_of_getElem? (i := 73) rfl)) rfl
theorem wml_RL_104 : Cond.methodLink RL 104 yX6_bears ∈ TB := TB_of (tb_3 (List.mem_of_getElem? (i := 74) rfl)) rfl
theorem wim_X6_bears : Cond.instanceMethod yX6_bears ∈ TB := TB_of (tb_3 (List.mem_of_getElem? (i := 75) rfl)) rfl
theorem wse_X6_bears : Cond.selects RX6 yX6_bears yX6_bears ∈ TB := TB_of (tb_3 (List.mem_of_getElem? (i := 76) rfl)) rfl
theorem wcd_X6_bears : Cond.code yX6_bears cX6_bears 4 (some .int) ∈ TB := TB_of (tb_3 (List.mem_of_getElem? (i := 77) rfl)) rfl
theorem wml_RX6_70 : Cond.methodLink RX6 70 yX0_letBear ∈ TB := TB_of (tb_3 (List.mem_of_getElem? (i := 78) rfl)) rfl
theorem wim_X0_letBear : Cond.instanceMethod yX0_letBear ∈ TB := TB_of (tb_3 (List.mem_of_getElem? (i := 79) rfl)) rfl
theorem wse_X0_letBear : Cond.selects RX0 yX0_letBear yX0_letBear ∈ TB := TB_of (tb_3 (List.mem_of_getElem? (i := 80) rfl)) rfl
theorem wcd_X0_letBear : Cond.code yX0_letBear cX0_letBear 3 none ∈ TB := TB_of (tb_3 (List.mem_of_getElem? (i := 81) rfl)) rfl
theorem wml_RL_107 : Cond.methodLink RL 107 yX6_wind ∈ TB := TB_of (tb_3 (List.mem_of_getElem? (i := 82) rfl)) rfl
theorem wim_X6_wind : Cond.instanceMethod yX6_wind ∈ TB := TB_of (tb_3 (List.mem_of_getElem? (i := 83) rfl)) rfl
theorem wse_X6_wind : Cond.selects RX6 yX6_wind yX6_wind ∈ TB := TB_of (tb_3 (List.mem_of_getElem? (i := 84) rfl)) rfl
theorem wcd_X6_wind : Cond.code yX6_wind cX6_wind 3 (some .int) ∈ TB := TB_of (tb_3 (List.mem_of_getElem? (i := 85) rfl)) rfl
theorem wml_RL_110 : Cond.methodLink RL 110 yX6_chimney ∈ TB := TB_of (tb_3 (List.mem_of_getElem? (i := 86) rfl)) rfl
theorem wim_X6_chimney : Cond.instanceMethod yX6_chimney ∈ TB := TB_of (tb_3 (List.mem_of_getElem? (i := 87) rfl)) rfl
theorem wse_X6_chimney : Cond.selects RX6 yX6_chimney yX6_chimney ∈ TB := TB_of (tb_3 (List.mem_of_getElem? (i := 88) rfl)) rfl
theorem wcd_X6_chimney : Cond.code yX6_chimney cX6_chimney 2 (some .int) ∈ TB := TB_of (tb_3 (List.mem_of_getElem? (i := 89) rfl)) rfl
theorem wml_RX6_81 : Cond.methodLink RX6 81 yX0_toggleChimney ∈ TB := TB_of (tb_3 (List.mem_of_getElem? (i := 90) rfl)) rfl
theorem wim_X0_toggleChimney : Cond.instanceMethod yX0_toggleChimney ∈ TB := TB_of (tb_3 (List.mem_of_getElem? (i := 91) rfl)) rfl
theorem wse_X0_toggleChimney : Cond.selects RX0 yX0_toggleChimney yX0_toggleChimney ∈ TB := TB_of (tb_3 (List.mem_of_getElem? (i := 92) rfl)) rfl
theorem wcd_X0_toggleChimney : Cond.code yX0_toggleChimney cX0_toggleChimney 2 none ∈ TB := TB_of (tb_3 (List.mem_of_getElem? (i := 93) rfl)) rfl
theorem wml_RL_113 : Cond.methodLink RL 113 yX6_coop ∈ TB := TB_of (tb_3 (List.mem_of_getElem? (i := 94) rfl)) rfl
theorem wim_X6_coop : Cond.instanceMethod yX6_coop ∈ TB := TB_of (tb_3 (List.mem_of_getElem? (i := 95) rfl)) rfl
theorem wse_X6_coop : Cond.selects RX6 yX6_coop yX6_coop ∈ TB := TB_of (tb_3 (List.mem_of_getElem? (i := 96) rfl)) rfl
theorem wcd_X6_coop : Cond.code yX6_coop cX6_coop 2 (some .int) ∈ TB := TB_of (tb_3 (List.mem_of_getElem? (i := 97) rfl)) rfl
theorem wco_RL_116 : Cond.constant RL 116 65537 ∈ TB := TB_of (tb_3 (List.mem_of_getElem? (i := 98) rfl)) rfl
theorem wco_RL_117 : Cond.constant RL 117 65535 ∈ TB := TB_of (tb_3 (List.mem_of_getElem? (i := 99) rfl)) rfl
theorem wco_RL_118 : Cond.constant RL 118 65536 ∈ TB := TB_of (tb_3 (List.mem_of_getElem? (i := 100) rfl)) rfl
theorem wml_RL_119 : Cond.methodLink RL 119 yX6_owner ∈ TB := TB_of (tb_3 (List.mem_of_getElem? (i := 101) rfl)) rfl
theorem wim_X6_owner : Cond.instanceMethod yX6_owner ∈ TB := TB_of (tb_3 (List.mem_of_getElem? (i := 102) rfl)) rfl
theorem wse_X6_owner : Cond.selects RX6 yX6_owner yX6_owner ∈ TB := TB_of (tb_3 (List.mem_of_getElem? (i := 103) rfl)) rfl
theorem wcd_X6_owner : Cond.code yX6_owner cX6_owner 6 (some .int) ∈ TB := TB_of (tb_3 (List.mem_of_getElem? (i := 104) rfl)) rfl
theorem wco_RX6_100 : Cond.constant RX6 100 65535 ∈ TB := TB_of (tb_3 (List.mem_of_getElem? (i := 105) rfl)) rfl
theorem wml_RX6_107 : Cond.methodLink RX6 107 yX0_setTruce ∈ TB := TB_of (tb_3 (List.mem_of_getElem? (i := 106) rfl)) rfl
theorem wim_X0_setTruce : Cond.instanceMethod yX0_setTruce ∈ TB := TB_of (tb_3 (List.mem_of_getElem? (i := 107) rfl)) rfl
theorem wse_X0_setTruce : Cond.selects RX0 yX0_setTruce yX0_setTruce ∈ TB := TB_of (tb_3 (List.mem_of_getElem? (i := 108) rfl)) rfl
theorem wcd_X0_setTruce : Cond.code yX0_setTruce cX0_setTruce 3 none ∈ TB := TB_of (tb_3 (List.mem_of_getElem? (i := 109) rfl)) rfl
theorem wml_RL_123 : Cond.methodLink RL 123 yX6_reach ∈ TB := TB_of (tb_3 (List.mem_of_getElem? (i := 110) rfl)) rfl
theorem wim_X6_reach : Cond.instanceMethod yX6_reach ∈ TB := TB_of (tb_3 (List.mem_of_getElem? (i := 111) rfl)) rfl
theorem wse_X6_reach : Cond.selects RX6 yX6_reach yX6_reach ∈ TB := TB_of (tb_3 (List.mem_of_getElem? (i := 112) rfl)) rfl
theorem wcd_X6_reach : Cond.code yX6_reach cX6_reach 3 (some .int) ∈ TB := TB_of (tb_3 (List.mem_of_getElem? (i := 113) rfl)) rfl
theorem wml_RL_126 : Cond.methodLink RL 126 yL_runs ∈ TB := TB_of (tb_3 (List.mem_of_getElem? (i := 114) rfl)) rfl
theorem wst_L_runs : Cond.static yL_runs ∈ TB := TB_of (tb_3 (List.mem_of_getElem? (i := 115) rfl)) rfl
theorem wcd_L_runs : Cond.code yL_runs cL_runs 14 (some .boolean) ∈ TB := TB_of (tb_3 (List.mem_of_getElem? (i := 116) rfl)) rfl
theorem wml_RL_71 : Cond.methodLink RL 71 yL_types ∈ TB := TB_of (tb_3 (List.mem_of_getElem? (i := 117) rfl)) rfl
theorem wst_L_types : Cond.static yL_types ∈ TB := TB_of (tb_3 (List.mem_of_getElem? (i := 118) rfl)) rfl
theorem wcd_L_types : Cond.code yL_types cL_types 9 (some .boolean) ∈ TB := TB_of (tb_3 (List.mem_of_getElem? (i := 119) rfl)) rfl
theorem wml_RL_65 : Cond.methodLink RL 65 yX6_clear ∈ TB := TB_of (tb_3 (List.mem_of_getElem? (i := 120) rfl)) rfl
theorem wim_X6_clear : Cond.instanceMethod yX6_clear ∈ TB := TB_of (tb_3 (List.mem_of_getElem? (i := 121) rfl)) rfl
theorem wse_X6_clear : Cond.selects RX6 yX6_clear yX6_clear ∈ TB := TB_of (tb_3 (List.mem_of_getElem? (i := 122) rfl)) rfl
theorem wcd_X6_clear : Cond.code yX6_clear cX6_clear 2 (some .int) ∈ TB := TB_of (tb_3 (List.mem_of_getElem? (i := 123) rfl)) rfl
theorem wml_RL_68 : Cond.methodLink RL 68 yX6_append ∈ TB := TB_of (tb_3 (List.mem_of_getElem? (i := 124) rfl)) rfl
theorem wim_X6_append : Cond.instanceMethod yX6_append ∈ TB := TB_of (tb_3 (List.mem_of_getElem? (i := 125) rfl)) rfl
theorem wse_X6_append : Cond.selects RX6 yX6_append yX6_append ∈ TB := TB_of (tb_3 (List.mem_of_getElem? (i := 126) rfl)) rfl
theorem wcd_X6_append : Cond.code yX6_append cX6_append 2 (some .int) ∈ TB := TB_of (tb_3 (List.mem_of_getElem? (i := 127) rfl)) rfl
theorem wml_RX6_138 : Cond.methodLink RX6 138 yX3_add ∈ TB := TB_of (tb_3 (List.mem_of_getElem? (i := 128) rfl)) rfl
theorem wim_X3_add : Cond.instanceMethod yX3_add ∈ TB := TB_of (tb_3 (List.mem_of_getElem? (i := 129) rfl)) rfl
theorem wse_X3_add : Cond.selects RX3 yX3_add yX3_add ∈ TB := TB_of (tb_3 (List.mem_of_getElem? (i := 130) rfl)) rfl
theorem wcd_X3_add : Cond.code yX3_add cX3_add 2 none ∈ TB := TB_of (tb_3 (List.mem_of_getElem? (i := 131) rfl)) rfl
theorem wml_RL_79 : Cond.methodLink RL 79 yX6_fault ∈ TB := TB_of (tb_3 (List.mem_of_getElem? (i := 133) rfl)) rfl
theorem wim_X6_fault : Cond.instanceMethod yX6_fault ∈ TB := TB_of (tb_3 (List.mem_of_getElem? (i := 134) rfl)) rfl
theorem wse_X6_fault : Cond.selects RX6 yX6_fault yX6_fault ∈ TB := TB_of (tb_3 (List.mem_of_getElem? (i := 135) rfl)) rfl
theorem wcd_X6_fault : Cond.code yX6_fault cX6_fault 1 (some .int) ∈ TB := TB_of (tb_3 (List.mem_of_getElem? (i := 136) rfl)) rfl
theorem wml_RX6_142 : Cond.methodLink RX6 142 yX2_firstFault ∈ TB := TB_of (tb_3 (List.mem_of_getElem? (i := 137) rfl)) rfl
theorem wim_X2_firstFault : Cond.instanceMethod yX2_firstFault ∈ TB := TB_of (tb_3 (List.mem_of_getElem? (i := 138) rfl)) rfl
theorem wse_X2_firstFault : Cond.selects RX2 yX2_firstFault yX2_firstFault ∈ TB := TB_of (tb_3 (List.mem_of_getElem? (i := 139) rfl)) rfl
theorem wcd_X2_firstFault : Cond.code yX2_firstFault cX2_firstFault 2 (some .int) ∈ TB := TB_of (tb_3 (List.mem_of_getElem? (i := 140) rfl)) rfl
theorem wml_RX2_19 : Cond.methodLink RX2 19 yX2_rewind ∈ TB := TB_of (tb_3 (List.mem_of_getElem? (i := 141) rfl)) rfl
theorem wim_X2_rewind : Cond.instanceMethod yX2_rewind ∈ TB := TB_of (tb_3 (List.mem_of_getElem? (i := 142) rfl)) rfl
theorem wse_X2_rewind : Cond.selects RX2 yX2_rewind yX2_rewind ∈ TB := TB_of (tb_3 (List.mem_of_getElem? (i := 143) rfl)) rfl
theorem wcd_X2_rewind : Cond.code yX2_rewind cX2_rewind 1 none ∈ TB := TB_of (tb_3 (List.mem_of_getElem? (i := 144) rfl)) rfl
theorem wml_RX2_22 : Cond.methodLink RX2 22 yX2_readOrder ∈ TB := TB_of (tb_3 (List.mem_of_getElem? (i := 145) rfl)) rfl
theorem wim_X2_readOrder : Cond.instanceMethod yX2_readOrder ∈ TB := TB_of (tb_3 (List.mem_of_getElem? (i := 147) rfl)) rfl
theorem wcd_X2_readOrder : Cond.code yX2_readOrder cX2_readOrder 1 (some .boolean) ∈ TB := TB_of (tb_3 (List.mem_of_getElem? (i := 148) rfl)) rfl
theorem wml_RX2_38 : Cond.methodLink RX2 38 yX3_signAt ∈ TB := TB_of (tb_3 (List.mem_of_getElem? (i := 149) rfl)) rfl
theorem wim_X3_signAt : Cond.instanceMethod yX3_signAt ∈ TB := TB_of (tb_3 (List.mem_of_getElem? (i := 150) rfl)) rfl
theorem wse_X3_signAt : Cond.selects RX3 yX3_signAt yX3_signAt ∈ TB := TB_of (tb_3 (List.mem_of_getElem? (i := 151) rfl)) rfl
theorem wcd_X3_signAt : Cond.code yX3_signAt cX3_signAt 2 (some .char) ∈ TB := TB_of (tb_3 (List.mem_of_getElem? (i := 152) rfl)) rfl
theorem wml_RX2_46 : Cond.methodLink RX2 46 yX2_readOwner ∈ TB := TB_of (tb_3 (List.mem_of_getElem? (i := 153) rfl)) rfl
theorem wim_X2_readOwner : Cond.instanceMethod yX2_readOwner ∈ TB := TB_of (tb_3 (List.mem_of_getElem? (i := 155) rfl)) rfl
theorem wcd_X2_readOwner : Cond.code yX2_readOwner cX2_readOwner 1 (some .boolean) ∈ TB := TB_of (tb_3 (List.mem_of_getElem? (i := 156) rfl)) rfl
theorem wml_RX2_53 : Cond.methodLink RX2 53 yX2_digitAt ∈ TB := TB_of (tb_3 (List.mem_of_getElem? (i := 157) rfl)) rfl
theorem wim_X2_digitAt : Cond.instanceMethod yX2_digitAt ∈ TB := TB_of (tb_3 (List.mem_of_getElem? (i := 159) rfl)) rfl
theorem wcd_X2_digitAt : Cond.code yX2_digitAt cX2_digitAt 3 (some .int) ∈ TB := TB_of (tb_3 (List.mem_of_getElem? (i := 160) rfl)) rfl
theorem wml_RX2_31 : Cond.methodLink RX2 31 yX2_readSign ∈ TB := TB_of (tb_3 (List.mem_of_getElem? (i := 162) rfl)) rfl
theorem wim_X2_readSign : Cond.instanceMethod yX2_readSign ∈ TB := TB_of (tb_3 (List.mem_of_getElem? (i := 164) rfl)) rfl
theorem wcd_X2_readSign : Cond.code yX2_readSign cX2_readSign 2 (some .boolean) ∈ TB := TB_of (tb_3 (List.mem_of_getElem? (i := 165) rfl)) rfl
theorem wml_RX2_49 : Cond.methodLink RX2 49 yX2_readNumber ∈ TB := TB_of (tb_3 (List.mem_of_getElem? (i := 166) rfl)) rfl
theorem wim_X2_readNumber : Cond.instanceMethod yX2_readNumber ∈ TB := TB_of (tb_3 (List.mem_of_getElem? (i := 168) rfl)) rfl
theorem wcd_X2_readNumber : Cond.code yX2_readNumber cX2_readNumber 4 (some .boolean) ∈ TB := TB_of (tb_3 (List.mem_of_getElem? (i := 169) rfl)) rfl
theorem wml_RX2_64 : Cond.methodLink RX2 64 yX2_isAllowed ∈ TB := TB_of (tb_3 (List.mem_of_getElem? (i := 170) rfl)) rfl
theorem wst_X2_isAllowed : Cond.static yX2_isAllowed ∈ TB := TB_of (tb_3 (List.mem_of_getElem? (i := 171) rfl)) rfl
theorem wcd_X2_isAllowed : Cond.code yX2_isAllowed cX2_isAllowed 2 (some .boolean) ∈ TB := TB_of (tb_3 (List.mem_of_getElem? (i := 172) rfl)) rfl
theorem wml_RX2_71 : Cond.methodLink RX2 71 yX4_isGangway ∈ TB := TB_of (tb_3 (List.mem_of_getElem? (i := 173) rfl)) rfl
theorem wml_RL_82 : Cond.methodLink RL 82 yX6_run ∈ TB := TB_of (tb_3 (List.mem_of_getElem? (i := 175) rfl)) rfl
theorem wim_X6_run : Cond.instanceMethod yX6_run ∈ TB := TB_of (tb_3 (List.mem_of_getElem? (i := 176) rfl)) rfl
theorem wse_X6_run : Cond.selects RX6 yX6_run yX6_run ∈ TB := TB_of (tb_3 (List.mem_of_getElem? (i := 177) rfl)) rfl
theorem wcd_X6_run : Cond.code yX6_run cX6_run 4 (some .int) ∈ TB := TB_of (tb_3 (List.mem_of_getElem? (i := 178) rfl)) rfl
theorem wml_RX6_149 : Cond.methodLink RX6 149 yX2_rewind ∈ TB := TB_of (tb_3 (List.mem_of_getElem? (i := 179) rfl)) rfl
theorem wml_RX6_152 : Cond.methodLink RX6 152 yX2_readNext ∈ TB := TB_of (tb_3 (List.mem_of_getElem? (i := 180) rfl)) rfl
theorem wim_X2_readNext : Cond.instanceMethod yX2_readNext ∈ TB := TB_of (tb_3 (List.mem_of_getElem? (i := 181) rfl)) rfl
theorem wse_X2_readNext : Cond.selects RX2 yX2_readNext yX2_readNext ∈ TB := TB_of (tb_3 (List.mem_of_getElem? (i := 182) rfl)) rfl
theorem wcd_X2_readNext : Cond.code yX2_readNext cX2_readNext 2 (some .boolean) ∈ TB := TB_of (tb_3 (List.mem_of_getElem? (i := 183) rfl)) rfl
theorem wml_RX6_156 : Cond.methodLink RX6 156 yX6_carryOutOrder ∈ TB := TB_of (tb_3 (List.mem_of_getElem? (i := 184) rfl)) rfl
theorem wim_X6_carryOutOrder : Cond.instanceMethod yX6_carryOutOrder ∈ TB := TB_of (tb_3 (List.mem_of_getElem? (i := 186) rfl)) rfl
theorem wcd_X6_carryOutOrder : Cond.code yX6_carryOutOrder cX6_carryOutOrder 1 (some .int) ∈ TB := TB_of (tb_3 (List.mem_of_getElem? (i := 187) rfl)) rfl
theorem wml_RX6_289 : Cond.methodLink RX6 289 yX6_causeIn ∈ TB := TB_of (tb_3 (List.mem_of_getElem? (i := 188) rfl)) rfl
theorem wst_X6_causeIn : Cond.static yX6_causeIn ∈ TB := TB_of (tb_3 (List.mem_of_getElem? (i := 189) rfl)) rfl
theorem wcd_X6_causeIn : Cond.code yX6_causeIn cX6_causeIn 1 (some .int) ∈ TB := TB_of (tb_3 (List.mem_of_getElem? (i := 190) rfl)) rfl
theorem wml_RX6_159 : Cond.methodLink RX6 159 yX6_keepStop ∈ TB := TB_of (tb_3 (List.mem_of_getElem? (i := 191) rfl)) rfl
theorem wim_X6_keepStop : Cond.instanceMethod yX6_keepStop ∈ TB := TB_of (tb_3 (List.mem_of_getElem? (i := 193) rfl)) rfl
theorem wcd_X6_keepStop : Cond.code yX6_keepStop cX6_keepStop 3 none ∈ TB := TB_of (tb_3 (List.mem_of_getElem? (i := 194) rfl)) rfl
theorem wml_RL_85 : Cond.methodLink RL 85 yX6_why ∈ TB := TB_of (tb_3 (List.mem_of_getElem? (i := 195) rfl)) rfl
theorem wim_X6_why : Cond.instanceMethod yX6_why ∈ TB := TB_of (tb_3 (List.mem_of_getElem? (i := 196) rfl)) rfl
theorem wse_X6_why : Cond.selects RX6 yX6_why yX6_why ∈ TB := TB_of (tb_3 (List.mem_of_getElem? (i := 197) rfl)) rfl
theorem wcd_X6_why : Cond.code yX6_why cX6_why 2 (some .int) ∈ TB := TB_of (tb_3 (List.mem_of_getElem? (i := 198) rfl)) rfl
theorem wse_X5_joinOver : Cond.selects RX5 yX5_joinOver yX5_joinOver ∈ TB := TB_of (tb_0 (List.mem_of_getElem? (i := 0) rfl)) rfl
theorem wse_X5_rename : Cond.selects RX5 yX5_rename yX5_rename ∈ TB := TB_of (tb_0 (List.mem_of_getElem? (i := 1) rfl)) rfl
theorem wse_X5_spread : Cond.selects RX5 yX5_spread yX5_spread ∈ TB := TB_of (tb_0 (List.mem_of_getElem? (i := 2) rfl)) rfl
theorem wse_X5_raise : Cond.selects RX5 yX5_raise yX5_raise ∈ TB := TB_of (tb_0 (List.mem_of_getElem? (i := 3) rfl)) rfl
theorem wse_X5_oneWalkFurther : Cond.selects RX5 yX5_oneWalkFurther yX5_oneWalkFurther ∈ TB := TB_of (tb_0 (List.mem_of_getElem? (i := 4) rfl)) rfl
theorem wse_X2_readOrder : Cond.selects RX2 yX2_readOrder yX2_readOrder ∈ TB := TB_of (tb_0 (List.mem_of_getElem? (i := 5) rfl)) rfl
theorem wse_X2_readOwner : Cond.selects RX2 yX2_readOwner yX2_readOwner ∈ TB := TB_of (tb_0 (List.mem_of_getElem? (i := 6) rfl)) rfl
theorem wse_X2_digitAt : Cond.selects RX2 yX2_digitAt yX2_digitAt ∈ TB := TB_of (tb_0 (List.mem_of_getElem? (i := 7) rfl)) rfl
theorem wse_X2_readSign : Cond.selects RX2 yX2_readSign yX2_readSign ∈ TB := TB_of (tb_0 (List.mem_of_getElem? (i := 8) rfl)) rfl
theorem wse_X2_readNumber : Cond.selects RX2 yX2_readNumber yX2_readNumber ∈ TB := TB_of (tb_0 (List.mem_of_getElem? (i := 9) rfl)) rfl
theorem wse_X6_carryOutOrder : Cond.selects RX6 yX6_carryOutOrder yX6_carryOutOrder ∈ TB := TB_of (tb_0 (List.mem_of_getElem? (i := 10) rfl)) rfl
theorem wse_X6_keepStop : Cond.selects RX6 yX6_keepStop yX6_keepStop ∈ TB := TB_of (tb_0 (List.mem_of_getElem? (i := 11) rfl)) rfl
theorem inT_X0 : ∀ w ∈ u_ws RX0 TX0 19, w ∈ TB := List.forall_mem_cons.mpr ⟨wla_RX0_borne, List.forall_mem_cons.mpr ⟨wla_RX0_hangers, List.forall_mem_cons.mpr ⟨wla_RX0_soot, List.forall_mem_cons.mpr ⟨wla_RX0_spots, List.forall_mem_cons.mpr ⟨wla_RX0_weights, List.forall_mem_cons.mpr ⟨wla_RX0_keys, List.forall_mem_cons.mpr ⟨wla_RX0_places, List.forall_mem_cons.mpr ⟨wla_RX0_walks, List.forall_mem_cons.mpr ⟨wla_RX0_truces, List.forall_mem_cons.mpr ⟨wla_RX0_chimneys, List.forall_mem_cons.mpr ⟨wla_RX0_coops, List.forall_mem_cons.mpr ⟨wla_RX0_windTo, List.forall_mem_cons.mpr ⟨wla_RX0_smokeReach, List.forall_mem_cons.mpr ⟨wla_RX0_dayNumber, List.forall_mem_cons.mpr ⟨wla_RX0_lot, List.forall_mem_cons.mpr ⟨wla_RX0_hung, List.forall_mem_cons.mpr ⟨wla_RX0_taken, List.forall_mem_cons.mpr ⟨wla_RX0_fallen, List.forall_mem_cons.mpr ⟨wla_RX0_refused, fun _ h => absurd h List.not_mem_nil⟩⟩⟩⟩⟩⟩⟩⟩⟩⟩⟩⟩⟩⟩⟩⟩⟩⟩⟩
theorem inT_X1 : ∀ w ∈ u_ws RX1 TX1 2, w ∈ TB := List.forall_mem_cons.mpr ⟨wla_RX1_states, List.forall_mem_cons.mpr ⟨wla_RX1_size, fun _ h => absurd h List.not_mem_nil⟩⟩
theorem inT_X2 : ∀ w ∈ u_ws RX2 TX2 6, w ∈ TB := List.forall_mem_cons.mpr ⟨wla_RX2_text, List.forall_mem_cons.mpr ⟨wla_RX2_position, List.forall_mem_cons.mpr ⟨wla_RX2_start, List.forall_mem_cons.mpr ⟨wla_RX2_letter, List.forall_mem_cons.mpr ⟨wla_RX2_orderOwner, List.forall_mem_cons.mpr ⟨wla_RX2_orderNumber, fun _ h => absurd h List.not_mem_nil⟩⟩⟩⟩⟩⟩
theorem inT_X3 : ∀ w ∈ u_ws RX3 TX3 2, w ∈ TB := List.forall_mem_cons.mpr ⟨wla_RX3_signs, List.forall_mem_cons.mpr ⟨wla_RX3_length, fun _ h => absurd h List.not_mem_nil⟩⟩
theorem inT_X5 : ∀ w ∈ u_ws RX5 TX5 2, w ∈ TB := List.forall_mem_cons.mpr ⟨wla_RX5_groups, List.forall_mem_cons.mpr ⟨wla_RX5_strengths, fun _ h => absurd h List.not_mem_nil⟩⟩
theorem inT_X6 : ∀ w ∈ u_ws RX6 TX6 12, w ∈ TB := List.forall_mem_cons.mpr ⟨wla_RX6_city, List.forall_mem_cons.mpr ⟨wla_RX6_trial, List.forall_mem_cons.mpr ⟨wla_RX6_snapshot, List.forall_mem_cons.mpr ⟨wla_RX6_snapshotTaken, List.forall_mem_cons.mpr ⟨wla_RX6_history, List.forall_mem_cons.mpr ⟨wla_RX6_ways, List.forall_mem_cons.mpr ⟨wla_RX6_pad, List.forall_mem_cons.mpr ⟨wla_RX6_reader, List.forall_mem_cons.mpr ⟨wla_RX6_stopped, List.forall_mem_cons.mpr ⟨wla_RX6_stopCause, List.forall_mem_cons.mpr ⟨wla_RX6_stopNumber, List.forall_mem_cons.mpr ⟨wla_RX6_stopPosition, fun _ h => absurd h List.not_mem_nil⟩⟩⟩⟩⟩⟩⟩⟩⟩⟩⟩⟩
