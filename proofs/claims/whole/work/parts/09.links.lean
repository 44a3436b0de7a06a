theorem cM_12_1059 : cpM 12 1059 = some (1, 3, mJ3_checkIndex_8e157) := rfl
theorem cM_12_335 : cpM 12 335 = some (6, 0, mJ0_coder_7d493) := rfl
theorem cM_0_83 : cpM 0 83 = some (1, 2, mJ7_fill_53178) := rfl
theorem cM_0_108 : cpM 0 108 = some (0, 1, mX6_calls) := rfl
theorem cM_0_163 : cpM 0 163 = some (0, 2, mX5_missing) := rfl
theorem cM_0_170 : cpM 0 170 = some (0, 2, mX3_way) := rfl
theorem cM_10_167 : cpM 10 167 = some (1, 2, mX10_least) := rfl
theorem cM_10_258 : cpM 10 258 = some (0, 7, mX10_isWord) := rfl
theorem cM_10_150 : cpM 10 150 = some (1, 3, mX10_in) := rfl
theorem cM_10_300 : cpM 10 300 = some (0, 1, mX10_take) := rfl
theorem cM_10_376 : cpM 10 376 = some (0, 3, mX10_keep) := rfl
theorem cM_10_210 : cpM 10 210 = some (1, 1, mX10_one) := rfl
theorem cM_10_171 : cpM 10 171 = some (0, 2, mX10_awayOf) := rfl
theorem cM_10_200 : cpM 10 200 = some (0, 1, mX10_hourOf) := rfl
theorem cM_10_236 : cpM 10 236 = some (0, 0, mX10_here) := rfl
theorem cM_10_254 : cpM 10 254 = some (0, 3, mX10_want) := rfl
theorem cM_2_27 : cpM 2 27 = some (1, 2, mJ7_fill_53178) := rfl
theorem cM_3_19 : cpM 3 19 = some (1, 2, mJ7_fill_53178) := rfl
theorem cM_3_25 : cpM 3 25 = some (0, 2, mX3_way) := rfl
theorem cM_4_32 : cpM 4 32 = some (0, 2, mX4_inForce) := rfl
theorem cM_4_36 : cpM 4 36 = some (4, 2, mX9_has) := rfl
theorem cM_5_34 : cpM 5 34 = some (0, 2, mX5_missing) := rfl
theorem cM_6_38 : cpM 6 38 = some (0, 2, mX3_way) := rfl
theorem cM_7_50 : cpM 7 50 = some (0, 0, mX7_skipBlanks) := rfl
theorem cM_7_93 : cpM 7 93 = some (0, 1, mX7_takes) := rfl
theorem cM_7_79 : cpM 7 79 = some (0, 2, mX7_blame) := rfl
theorem cM_8_51 : cpM 8 51 = some (4, 2, mX9_has) := rfl
theorem cM_8_59 : cpM 8 59 = some (0, 1, mX8_struckBy) := rfl
theorem cM_9_152 : cpM 9 152 = some (0, 1, mX0_loadsThatAre) := rfl
theorem cM_9_157 : cpM 9 157 = some (1, 1, mX9_sum) := rfl
theorem cM_9_91 : cpM 9 91 = some (1, 3, mX9_beyond) := rfl
theorem cM_9_193 : cpM 9 193 = some (0, 2, mX7_append) := rfl
theorem cM_9_256 : cpM 9 256 = some (0, 5, mX4_give) := rfl
theorem cM_9_169 : cpM 9 169 = some (1, 2, mX9_noNumber) := rfl
theorem cM_13_9 : cpM 13 9 = some (1, 2, mJ0_checkIndex_df160) := rfl
theorem cM_0_69 : cpM 0 69 = some (0, 0, mX0_beginAnew) := rfl
theorem cM_0_157 : cpM 0 157 = some (0, 1, mX0_payDay) := rfl
theorem cM_10_158 : cpM 10 158 = some (1, 1, mX10_isTown) := rfl
theorem cM_10_218 : cpM 10 218 = some (1, 1, mX10_isHour) := rfl
theorem cM_10_349 : cpM 10 349 = some (0, 3, mX10_ledTo) := rfl
theorem cM_10_305 : cpM 10 305 = some (0, 1, mX10_findRules) := rfl
theorem cM_10_337 : cpM 10 337 = some (0, 1, mX10_loadsIn) := rfl
theorem cM_10_340 : cpM 10 340 = some (0, 1, mX10_outAll) := rfl
theorem cM_10_343 : cpM 10 343 = some (0, 0, mX10_hungerAll) := rfl
theorem cM_10_365 : cpM 10 365 = some (0, 3, mX10_worthOf) := rfl
theorem cM_10_183 : cpM 10 183 = some (1, 1, mX10_isUnion) := rfl
theorem cM_10_207 : cpM 10 207 = some (0, 2, mX10_reachOf) := rfl
theorem cM_10_369 : cpM 10 369 = some (1, 2, mX10_isGame) := rfl
theorem cM_10_204 : cpM 10 204 = some (0, 1, mX10_noOrder) := rfl
theorem cM_10_176 : cpM 10 176 = some (1, 1, mX10_isGood) := rfl
theorem cM_10_311 : cpM 10 311 = some (0, 1, mX10_begin) := rfl
theorem cM_10_262 : cpM 10 262 = some (0, 0, mX10_takeWord) := rfl
theorem cM_10_265 : cpM 10 265 = some (0, 0, mX10_goodOf) := rfl
theorem cM_10_268 : cpM 10 268 = some (0, 0, mX10_stampOf) := rfl
theorem cM_10_314 : cpM 10 314 = some (0, 1, mX10_noLoad) := rfl
theorem cM_1_52 : cpM 1 52 = some (0, 2, mX1_outcome) := rfl
theorem cM_3_29 : cpM 3 29 = some (0, 5, mX3_shorten) := rfl
theorem cM_6_44 : cpM 6 44 = some (0, 3, mX6_comes) := rfl
theorem cM_6_48 : cpM 6 48 = some (0, 2, mX6_overtaken) := rfl
theorem cM_7_82 : cpM 7 82 = some (0, 0, mX7_refuseNinth) := rfl
theorem cM_7_113 : cpM 7 113 = some (4, 3, mX9_beyond) := rfl
theorem cM_7_97 : cpM 7 97 = some (0, 2, mX7_close) := rfl
theorem cM_8_47 : cpM 8 47 = some (0, 1, mX8_countingIn) := rfl
theorem cM_8_55 : cpM 8 55 = some (0, 2, mX8_apply) := rfl
theorem cM_9_87 : cpM 9 87 = some (1, 1, mX9_noTown) := rfl
theorem cM_9_102 : cpM 9 102 = some (0, 2, mX3_way) := rfl
theorem cM_9_259 : cpM 9 259 = some (0, 3, mX4_bound) := rfl
theorem cM_9_262 : cpM 9 262 = some (1, 2, mX9_has) := rfl
theorem cM_9_116 : cpM 9 116 = some (1, 1, mX9_noUnion) := rfl
theorem cM_9_281 : cpM 9 281 = some (1, 1, mX1_rows) := rfl
theorem cM_9_284 : cpM 9 284 = some (0, 3, mX1_score) := rfl
theorem cM_9_106 : cpM 9 106 = some (1, 1, mX9_noGood) := rfl
theorem cM_9_215 : cpM 9 215 = some (0, 5, mX5_add) := rfl
theorem cM_9_165 : cpM 9 165 = some (0, 4, mX6_give) := rfl
theorem cM_9_176 : cpM 9 176 = some (0, 3, mX6_comes) := rfl
theorem cM_12_492 : cpM 12 492 = some (6, 0, mJ0_isLatin1_aae02) := rfl
theorem cM_12_495 : cpM 12 495 = some (1, 2, mJ1_charAt_3b067) := rfl
theorem cM_10_373 : cpM 10 373 = some (0, 2, mX10_findWorths) := rfl
theorem cM_10_214 : cpM 10 214 = some (0, 4, mX10_holdsOf) := rfl
theorem cM_10_353 : cpM 10 353 = some (0, 1, mX10_lastOf) := rfl
theorem cM_10_271 : cpM 10 271 = some (0, 1, mX10_readNeed) := rfl
theorem cM_10_275 : cpM 10 275 = some (0, 2, mX10_takeNumber) := rfl
theorem cM_1_48 : cpM 1 48 = some (0, 3, mX1_answer) := rfl
theorem cM_6_52 : cpM 6 52 = some (1, 2, mJ7_fill_53178) := rfl
theorem cM_6_58 : cpM 6 58 = some (0, 0, mX6_firstCallHour) := rfl
theorem cM_6_62 : cpM 6 62 = some (0, 3, mX6_spread) := rfl
theorem cM_9_211 : cpM 9 211 = some (0, 2, mX8_holdIn) := rfl
theorem cM_9_244 : cpM 9 244 = some (0, 2, mX5_clashes) := rfl
theorem cM_9_11 : cpM 9 11 = some (2, 0, mX3_init) := rfl
theorem cM_9_18 : cpM 9 18 = some (2, 0, mX2_init) := rfl
theorem cM_9_25 : cpM 9 25 = some (2, 1, mX6_init) := rfl
theorem cM_9_34 : cpM 9 34 = some (5, 0, mX8_init) := rfl
theorem cM_9_41 : cpM 9 41 = some (5, 0, mX7_init) := rfl
theorem cM_9_48 : cpM 9 48 = some (5, 0, mX5_init) := rfl
theorem cM_9_55 : cpM 9 55 = some (2, 5, mX0_init) := rfl
theorem cM_9_67 : cpM 9 67 = some (5, 0, mX4_init) := rfl
theorem cM_9_74 : cpM 9 74 = some (5, 0, mX1_init) := rfl
theorem cM_9_180 : cpM 9 180 = some (0, 1, mX6_lateTowns) := rfl
theorem cM_9_98 : cpM 9 98 = some (0, 3, mX3_join) := rfl
theorem cM_9_248 : cpM 9 248 = some (0, 2, mX5_missing) := rfl
theorem cM_0_103 : cpM 0 103 = some (0, 2, mX6_listen) := rfl
theorem cM_0_112 : cpM 0 112 = some (0, 2, mX8_holdIn) := rfl
theorem cM_0_118 : cpM 0 118 = some (0, 1, mX0_arrive) := rfl
theorem cM_0_122 : cpM 0 122 = some (0, 0, mX0_callOut) := rfl
theorem cM_0_125 : cpM 0 125 = some (0, 0, mX0_payAll) := rfl
theorem cM_0_131 : cpM 0 131 = some (0, 2, mX0_send) := rfl
theorem cM_0_135 : cpM 0 135 = some (0, 1, mX0_use) := rfl
theorem cM_10_221 : cpM 10 221 = some (0, 3, mX10_isCalled) := rfl
theorem cM_10_281 : cpM 10 281 = some (0, 0, mX10_clauseOf) := rfl
theorem cM_10_284 : cpM 10 284 = some (0, 2, mX10_readClause) := rfl
theorem cM_1_44 : cpM 1 44 = some (0, 4, mX1_solveDay) := rfl
theorem cM_7_117 : cpM 7 117 = some (6, 0, mJ0_length_8abf5) := rfl
theorem cM_7_121 : cpM 7 121 = some (6, 1, mJ0_charAt_5068e) := rfl
theorem cM_9_183 : cpM 9 183 = some (0, 2, mX6_listen) := rfl
theorem cM_9_187 : cpM 9 187 = some (0, 1, mX6_calls) := rfl
theorem cM_9_265 : cpM 9 265 = some (0, 1, mX9_daysPaid) := rfl
theorem cM_0_95 : cpM 0 95 = some (0, 2, mX0_listenAhead) := rfl
theorem cM_0_99 : cpM 0 99 = some (0, 2, mX0_step) := rfl
theorem cM_10_317 : cpM 10 317 = some (0, 1, mX10_arrive) := rfl
theorem cM_10_320 : cpM 10 320 = some (0, 1, mX10_callOut) := rfl
theorem cM_10_323 : cpM 10 323 = some (0, 2, mX10_payOut) := rfl
theorem cM_10_326 : cpM 10 326 = some (0, 1, mX10_sendOff) := rfl
theorem cM_10_329 : cpM 10 329 = some (0, 1, mX10_useUp) := rfl
theorem cM_7_58 : cpM 7 58 = some (0, 1, mX7_spells) := rfl
theorem cM_9_271 : cpM 9 271 = some (0, 2, mX1_solve) := rfl
theorem cM_10_379 : cpM 10 379 = some (0, 1, mX10_keepAll) := rfl
theorem cM_10_334 : cpM 10 334 = some (0, 1, mX10_doHour) := rfl
theorem cM_7_53 : cpM 7 53 = some (0, 0, mX7_takeWord) := rfl
theorem cM_7_100 : cpM 7 100 = some (0, 0, mX7_committee) := rfl
theorem cM_7_103 : cpM 7 103 = some (4, 2, mX9_has) := rfl
theorem cM_9_287 : cpM 9 287 = some (0, 0, mX0_beginAnew) := rfl
theorem cM_9_252 : cpM 9 252 = some (0, 3, mX0_run) := rfl
theorem cM_7_85 : cpM 7 85 = some (0, 0, mX7_good) := rfl
theorem cM_7_89 : cpM 7 89 = some (0, 1, mX7_readStamp) := rfl
theorem cM_7_62 : cpM 7 62 = some (0, 0, mX7_readNeed) := rfl
theorem cM_7_67 : cpM 7 67 = some (0, 2, mX7_readNumber) := rfl
theorem cM_7_42 : cpM 7 42 = some (0, 0, mX7_more) := rfl
theorem cM_7_46 : cpM 7 46 = some (0, 1, mX7_readClause) := rfl
theorem cM_9_197 : cpM 9 197 = some (0, 1, mX7_read) := rfl
theorem cM_9_204 : cpM 9 204 = some (0, 2, mX8_enact) := rfl
theorem cM_11_9 : cpM 11 9 = some (2, 0, mX9_init) := rfl
theorem cM_11_12 : cpM 11 12 = some (2, 0, mX10_init) := rfl
theorem cM_11_13 : cpM 11 13 = some (0, 3, mX9_road) := rfl
theorem cM_11_17 : cpM 11 17 = some (0, 3, mX10_road) := rfl
theorem cM_11_18 : cpM 11 18 = some (0, 2, mX9_away) := rfl
theorem cM_11_22 : cpM 11 22 = some (0, 2, mX10_away) := rfl
theorem cM_11_23 : cpM 11 23 = some (0, 3, mX9_store) := rfl
theorem cM_11_26 : cpM 11 26 = some (0, 3, mX10_store) := rfl
theorem cM_11_27 : cpM 11 27 = some (0, 3, mX9_need) := rfl
theorem cM_11_30 : cpM 11 30 = some (0, 3, mX10_need) := rfl
theorem cM_11_31 : cpM 11 31 = some (0, 3, mX9_members) := rfl
theorem cM_11_34 : cpM 11 34 = some (0, 3, mX10_members) := rfl
theorem cM_11_35 : cpM 11 35 = some (0, 2, mX9_purse) := rfl
theorem cM_11_38 : cpM 11 38 = some (0, 2, mX10_purse) := rfl
theorem cM_11_39 : cpM 11 39 = some (0, 2, mX9_fund) := rfl
theorem cM_11_42 : cpM 11 42 = some (0, 2, mX10_fund) := rfl
theorem cM_11_43 : cpM 11 43 = some (0, 3, mX9_out) := rfl
theorem cM_11_46 : cpM 11 46 = some (0, 3, mX10_out) := rfl
theorem cM_11_47 : cpM 11 47 = some (0, 2, mX9_town) := rfl
theorem cM_11_50 : cpM 11 50 = some (0, 2, mX10_town) := rfl
theorem cM_11_51 : cpM 11 51 = some (0, 1, mX9_count) := rfl
theorem cM_11_55 : cpM 11 55 = some (0, 1, mX10_count) := rfl
theorem cM_11_56 : cpM 11 56 = some (0, 4, mX9_order) := rfl
theorem cM_11_60 : cpM 11 60 = some (0, 4, mX10_order) := rfl
theorem cM_11_61 : cpM 11 61 = some (0, 2, mX9_reach) := rfl
theorem cM_11_64 : cpM 11 64 = some (0, 2, mX10_reach) := rfl
theorem cM_11_65 : cpM 11 65 = some (0, 1, mX9_late) := rfl
theorem cM_11_68 : cpM 11 68 = some (0, 1, mX10_late) := rfl
theorem cM_11_69 : cpM 11 69 = some (0, 3, mX9_called) := rfl
theorem cM_11_72 : cpM 11 72 = some (0, 3, mX10_called) := rfl
theorem cM_11_73 : cpM 11 73 = some (0, 4, mX9_holds) := rfl
theorem cM_11_76 : cpM 11 76 = some (0, 4, mX10_holds) := rfl
theorem cM_11_79 : cpM 11 79 = some (0, 2, mX9_feed) := rfl
theorem cM_11_83 : cpM 11 83 = some (0, 2, mX10_feed) := rfl
theorem cM_11_84 : cpM 11 84 = some (0, 1, mX9_rule) := rfl
theorem cM_11_87 : cpM 11 87 = some (0, 1, mX10_rule) := rfl
theorem cM_11_88 : cpM 11 88 = some (0, 0, mX9_fault) := rfl
theorem cM_11_92 : cpM 11 92 = some (0, 0, mX10_fault) := rfl
theorem cM_11_93 : cpM 11 93 = some (0, 2, mX9_force) := rfl
theorem cM_11_96 : cpM 11 96 = some (0, 2, mX10_force) := rfl
theorem cM_11_97 : cpM 11 97 = some (0, 5, mX9_load) := rfl
theorem cM_11_101 : cpM 11 101 = some (0, 5, mX10_load) := rfl
theorem cM_11_102 : cpM 11 102 = some (0, 2, mX9_stamp) := rfl
theorem cM_11_105 : cpM 11 105 = some (0, 2, mX10_stamp) := rfl
theorem cM_11_106 : cpM 11 106 = some (0, 2, mX9_told) := rfl
theorem cM_11_109 : cpM 11 109 = some (0, 2, mX10_told) := rfl
theorem cM_11_110 : cpM 11 110 = some (0, 1, mX9_clash) := rfl
theorem cM_11_113 : cpM 11 113 = some (0, 1, mX10_clash) := rfl
theorem cM_11_114 : cpM 11 114 = some (0, 0, mX9_words) := rfl
theorem cM_11_117 : cpM 11 117 = some (0, 0, mX10_words) := rfl
theorem cM_11_118 : cpM 11 118 = some (0, 1, mX9_go) := rfl
theorem cM_11_121 : cpM 11 121 = some (0, 1, mX10_go) := rfl
theorem cM_11_122 : cpM 11 122 = some (0, 5, mX9_leave) := rfl
theorem cM_11_126 : cpM 11 126 = some (0, 5, mX10_leave) := rfl
theorem cM_11_127 : cpM 11 127 = some (0, 3, mX9_binds) := rfl
theorem cM_11_130 : cpM 11 130 = some (0, 3, mX10_binds) := rfl
theorem cM_11_131 : cpM 11 131 = some (0, 1, mX9_last) := rfl
theorem cM_11_134 : cpM 11 134 = some (0, 1, mX10_last) := rfl
theorem cM_11_135 : cpM 11 135 = some (0, 1, mX9_lending) := rfl
theorem cM_11_138 : cpM 11 138 = some (0, 1, mX10_lending) := rfl
theorem cM_11_139 : cpM 11 139 = some (0, 3, mX9_table) := rfl
theorem cM_11_142 : cpM 11 142 = some (0, 3, mX10_table) := rfl
theorem cM_11_143 : cpM 11 143 = some (0, 3, mX9_game) := rfl
theorem cM_11_146 : cpM 11 146 = some (0, 3, mX10_game) := rfl
theorem cM_11_147 : cpM 11 147 = some (0, 3, mX9_judge) := rfl
theorem cM_11_150 : cpM 11 150 = some (0, 3, mX10_judge) := rfl
theorem cM_11_151 : cpM 11 151 = some (0, 1, mX9_beside) := rfl
theorem cM_11_155 : cpM 11 155 = some (0, 1, mX10_beside) := rfl
theorem cF_0_65 : cpF 0 65 = some (0, 4, 17, false, true, true) := rfl
theorem cF_0_89 : cpF 0 89 = some (5, 6, 7, false, false, false) := rfl
theorem cF_0_33 : cpF 0 33 = some (0, 12, 17, false, true, true) := rfl
theorem cF_10_7 : cpF 10 7 = some (10, 2, 60, false, true, true) := rfl
theorem cF_10_114 : cpF 10 114 = some (10, 48, 60, false, true, true) := rfl
theorem cF_10_117 : cpF 10 117 = some (10, 49, 60, false, true, true) := rfl
theorem cF_10_120 : cpF 10 120 = some (10, 50, 60, false, true, true) := rfl
theorem cF_10_83 : cpF 10 83 = some (10, 31, 60, false, false, false) := rfl
theorem cF_10_230 : cpF 10 230 = some (10, 29, 60, false, false, false) := rfl
theorem cF_10_225 : cpF 10 225 = some (10, 28, 60, false, false, false) := rfl
theorem cF_10_80 : cpF 10 80 = some (10, 27, 60, false, true, true) := rfl
theorem cF_10_61 : cpF 10 61 = some (10, 20, 60, false, false, false) := rfl
theorem cF_10_49 : cpF 10 49 = some (10, 16, 60, false, true, true) := rfl
theorem cF_10_58 : cpF 10 58 = some (10, 19, 60, false, true, true) := rfl
theorem cF_10_22 : cpF 10 22 = some (10, 6, 60, false, true, true) := rfl
theorem cF_10_247 : cpF 10 247 = some (10, 33, 60, false, false, false) := rfl
theorem cF_10_240 : cpF 10 240 = some (10, 32, 60, false, false, false) := rfl
theorem cF_10_144 : cpF 10 144 = some (10, 59, 60, false, true, true) := rfl
theorem cF_10_37 : cpF 10 37 = some (10, 11, 60, false, true, true) := rfl
theorem cF_10_31 : cpF 10 31 = some (10, 9, 60, false, true, true) := rfl
theorem cF_10_71 : cpF 10 71 = some (10, 24, 60, false, true, true) := rfl
theorem cF_10_93 : cpF 10 93 = some (10, 36, 60, false, true, true) := rfl
theorem cF_10_74 : cpF 10 74 = some (10, 25, 60, false, true, true) := rfl
theorem cF_10_77 : cpF 10 77 = some (10, 26, 60, false, true, true) := rfl
theorem cF_10_288 : cpF 10 288 = some (10, 37, 60, false, false, false) := rfl
theorem cF_10_291 : cpF 10 291 = some (10, 38, 60, false, false, false) := rfl
theorem cF_10_294 : cpF 10 294 = some (10, 39, 60, false, false, false) := rfl
theorem cF_10_297 : cpF 10 297 = some (10, 40, 60, false, false, false) := rfl
theorem cF_10_233 : cpF 10 233 = some (10, 30, 60, false, false, false) := rfl
theorem cF_3_9 : cpF 3 9 = some (3, 0, 2, false, true, true) := rfl
theorem cF_4_9 : cpF 4 9 = some (4, 0, 6, false, true, true) := rfl
theorem cF_4_28 : cpF 4 28 = some (4, 5, 6, false, false, false) := rfl
theorem cF_4_15 : cpF 4 15 = some (4, 1, 6, false, true, true) := rfl
theorem cF_4_18 : cpF 4 18 = some (4, 2, 6, false, true, true) := rfl
theorem cF_4_21 : cpF 4 21 = some (4, 3, 6, false, true, true) := rfl
theorem cF_4_24 : cpF 4 24 = some (4, 4, 6, false, true, true) := rfl
theorem cF_5_9 : cpF 5 9 = some (5, 0, 7, false, true, true) := rfl
theorem cF_5_30 : cpF 5 30 = some (5, 6, 7, false, false, false) := rfl
theorem cF_5_15 : cpF 5 15 = some (5, 1, 7, false, true, true) := rfl
theorem cF_5_18 : cpF 5 18 = some (5, 2, 7, false, true, true) := rfl
theorem cF_5_21 : cpF 5 21 = some (5, 3, 7, false, true, true) := rfl
theorem cF_5_24 : cpF 5 24 = some (5, 4, 7, false, true, true) := rfl
theorem cF_5_27 : cpF 5 27 = some (5, 5, 7, false, true, true) := rfl
theorem cF_6_24 : cpF 6 24 = some (6, 5, 8, false, true, true) := rfl
theorem cF_6_9 : cpF 6 9 = some (6, 1, 8, false, true, true) := rfl
theorem cF_6_30 : cpF 6 30 = some (6, 7, 8, false, false, false) := rfl
theorem cF_6_15 : cpF 6 15 = some (6, 2, 8, false, true, true) := rfl
theorem cF_6_18 : cpF 6 18 = some (6, 3, 8, false, true, true) := rfl
theorem cF_6_21 : cpF 6 21 = some (6, 4, 8, false, true, true) := rfl
theorem cF_7_9 : cpF 7 9 = some (7, 0, 9, false, true, true) := rfl
theorem cF_7_21 : cpF 7 21 = some (7, 3, 9, false, false, false) := rfl
theorem cF_7_28 : cpF 7 28 = some (7, 5, 9, false, false, false) := rfl
theorem cF_7_31 : cpF 7 31 = some (7, 6, 9, false, false, false) := rfl
theorem cF_7_34 : cpF 7 34 = some (7, 7, 9, false, false, false) := rfl
theorem cF_8_15 : cpF 8 15 = some (8, 1, 6, false, true, true) := rfl
theorem cF_8_21 : cpF 8 21 = some (8, 3, 6, false, true, true) := rfl
theorem cF_8_24 : cpF 8 24 = some (8, 4, 6, false, true, true) := rfl
theorem cF_9_42 : cpF 9 42 = some (9, 4, 12, false, true, true) := rfl
theorem cF_9_208 : cpF 9 208 = some (7, 6, 9, false, false, false) := rfl
theorem cF_0_39 : cpF 0 39 = some (0, 14, 17, false, true, true) := rfl
theorem cF_0_139 : cpF 0 139 = some (5, 3, 7, false, true, true) := rfl
theorem cF_0_142 : cpF 0 142 = some (5, 0, 7, false, true, true) := rfl
theorem cF_0_9 : cpF 0 9 = some (0, 5, 17, false, true, true) := rfl
theorem cF_0_145 : cpF 0 145 = some (5, 1, 7, false, true, true) := rfl
theorem cF_0_53 : cpF 0 53 = some (0, 1, 17, false, true, true) := rfl
theorem cF_0_72 : cpF 0 72 = some (2, 0, 5, false, true, true) := rfl
theorem cF_0_81 : cpF 0 81 = some (2, 4, 5, false, true, true) := rfl
theorem cF_0_30 : cpF 0 30 = some (0, 11, 17, false, true, true) := rfl
theorem cF_0_24 : cpF 0 24 = some (0, 9, 17, false, true, true) := rfl
theorem cF_0_82 : cpF 0 82 = some (2, 3, 5, false, true, true) := rfl
theorem cF_0_15 : cpF 0 15 = some (0, 6, 17, false, true, true) := rfl
theorem cF_0_18 : cpF 0 18 = some (0, 7, 17, false, true, true) := rfl
theorem cF_0_21 : cpF 0 21 = some (0, 8, 17, false, true, true) := rfl
theorem cF_0_27 : cpF 0 27 = some (0, 10, 17, false, true, true) := rfl
theorem cF_0_36 : cpF 0 36 = some (0, 13, 17, false, true, true) := rfl
theorem cF_0_57 : cpF 0 57 = some (0, 2, 17, false, true, true) := rfl
theorem cF_0_42 : cpF 0 42 = some (0, 15, 17, false, true, true) := rfl
theorem cF_0_154 : cpF 0 154 = some (2, 2, 5, false, true, true) := rfl
theorem cF_0_46 : cpF 0 46 = some (0, 16, 17, false, true, true) := rfl
theorem cF_0_167 : cpF 0 167 = some (5, 2, 7, false, true, true) := rfl
theorem cF_0_49 : cpF 0 49 = some (0, 0, 17, false, true, true) := rfl
theorem cF_0_175 : cpF 0 175 = some (2, 1, 5, false, true, true) := rfl
theorem cF_10_308 : cpF 10 308 = some (10, 41, 60, false, false, false) := rfl
theorem cF_10_105 : cpF 10 105 = some (10, 45, 60, false, true, true) := rfl
theorem cF_10_96 : cpF 10 96 = some (10, 42, 60, false, true, true) := rfl
theorem cF_10_13 : cpF 10 13 = some (10, 3, 60, false, true, true) := rfl
theorem cF_10_99 : cpF 10 99 = some (10, 43, 60, false, true, true) := rfl
theorem cF_10_278 : cpF 10 278 = some (10, 21, 60, false, false, false) := rfl
theorem cF_10_86 : cpF 10 86 = some (10, 34, 60, false, true, true) := rfl
theorem cF_10_65 : cpF 10 65 = some (10, 22, 60, false, true, true) := rfl
theorem cF_10_68 : cpF 10 68 = some (10, 23, 60, false, true, true) := rfl
theorem cF_10_90 : cpF 10 90 = some (10, 35, 60, false, true, true) := rfl
theorem cF_10_16 : cpF 10 16 = some (10, 4, 60, false, true, true) := rfl
theorem cF_10_19 : cpF 10 19 = some (10, 5, 60, false, true, true) := rfl
theorem cF_10_25 : cpF 10 25 = some (10, 7, 60, false, true, true) := rfl
theorem cF_10_28 : cpF 10 28 = some (10, 8, 60, false, true, true) := rfl
theorem cF_10_34 : cpF 10 34 = some (10, 10, 60, false, true, true) := rfl
theorem cF_10_40 : cpF 10 40 = some (10, 12, 60, false, true, true) := rfl
theorem cF_10_43 : cpF 10 43 = some (10, 13, 60, false, true, true) := rfl
theorem cF_10_46 : cpF 10 46 = some (10, 14, 60, false, true, true) := rfl
theorem cF_10_52 : cpF 10 52 = some (10, 17, 60, false, true, true) := rfl
theorem cF_10_55 : cpF 10 55 = some (10, 18, 60, false, true, true) := rfl
theorem cF_10_102 : cpF 10 102 = some (10, 44, 60, false, true, true) := rfl
theorem cF_10_108 : cpF 10 108 = some (10, 46, 60, false, true, true) := rfl
theorem cF_10_111 : cpF 10 111 = some (10, 47, 60, false, true, true) := rfl
theorem cF_10_123 : cpF 10 123 = some (10, 52, 60, false, true, true) := rfl
theorem cF_10_126 : cpF 10 126 = some (10, 53, 60, false, true, true) := rfl
theorem cF_10_129 : cpF 10 129 = some (10, 54, 60, false, true, true) := rfl
theorem cF_10_132 : cpF 10 132 = some (10, 55, 60, false, true, true) := rfl
theorem cF_10_135 : cpF 10 135 = some (10, 56, 60, false, true, true) := rfl
theorem cF_10_138 : cpF 10 138 = some (10, 57, 60, false, true, true) := rfl
theorem cF_10_141 : cpF 10 141 = some (10, 58, 60, false, true, true) := rfl
theorem cF_10_346 : cpF 10 346 = some (10, 51, 60, false, false, false) := rfl
theorem cF_10_192 : cpF 10 192 = some (10, 15, 60, false, false, false) := rfl
theorem cF_1_9 : cpF 1 9 = some (1, 0, 6, false, true, true) := rfl
theorem cF_1_15 : cpF 1 15 = some (1, 1, 6, false, false, false) := rfl
theorem cF_1_19 : cpF 1 19 = some (1, 2, 6, false, false, false) := rfl
theorem cF_1_22 : cpF 1 22 = some (1, 3, 6, false, true, false) := rfl
theorem cF_1_25 : cpF 1 25 = some (1, 4, 6, false, true, false) := rfl
theorem cF_1_28 : cpF 1 28 = some (1, 5, 6, false, false, false) := rfl
theorem cF_2_9 : cpF 2 9 = some (2, 0, 5, false, true, true) := rfl
theorem cF_2_15 : cpF 2 15 = some (2, 1, 5, false, true, true) := rfl
theorem cF_2_18 : cpF 2 18 = some (2, 2, 5, false, true, true) := rfl
theorem cF_2_21 : cpF 2 21 = some (2, 3, 5, false, true, true) := rfl
theorem cF_2_24 : cpF 2 24 = some (2, 4, 5, false, true, true) := rfl
theorem cF_3_15 : cpF 3 15 = some (3, 1, 2, false, false, false) := rfl
theorem cF_6_34 : cpF 6 34 = some (6, 0, 8, false, true, true) := rfl
theorem cF_6_27 : cpF 6 27 = some (6, 6, 8, false, true, true) := rfl
theorem cF_7_25 : cpF 7 25 = some (7, 4, 9, false, false, false) := rfl
theorem cF_7_15 : cpF 7 15 = some (7, 1, 9, false, true, true) := rfl
theorem cF_7_18 : cpF 7 18 = some (7, 2, 9, false, true, true) := rfl
theorem cF_7_37 : cpF 7 37 = some (7, 8, 9, false, false, false) := rfl
theorem cF_8_27 : cpF 8 27 = some (8, 5, 6, false, false, false) := rfl
theorem cF_8_9 : cpF 8 9 = some (8, 0, 6, false, true, true) := rfl
theorem cF_8_31 : cpF 8 31 = some (7, 4, 9, false, false, false) := rfl
theorem cF_8_36 : cpF 8 36 = some (7, 1, 9, false, true, true) := rfl
theorem cF_8_43 : cpF 8 43 = some (7, 2, 9, false, true, true) := rfl
theorem cF_8_18 : cpF 8 18 = some (8, 2, 6, false, true, true) := rfl
theorem cF_9_83 : cpF 9 83 = some (9, 11, 12, false, false, false) := rfl
theorem cF_9_12 : cpF 9 12 = some (9, 0, 12, false, true, true) := rfl
theorem cF_9_95 : cpF 9 95 = some (3, 1, 2, false, false, false) := rfl
theorem cF_9_28 : cpF 9 28 = some (9, 2, 12, false, true, true) := rfl
theorem cF_9_148 : cpF 9 148 = some (6, 7, 8, false, false, false) := rfl
theorem cF_9_49 : cpF 9 49 = some (9, 5, 12, false, true, true) := rfl
theorem cF_9_151 : cpF 9 151 = some (5, 6, 7, false, false, false) := rfl
theorem cF_9_58 : cpF 9 58 = some (9, 6, 12, false, true, true) := rfl
theorem cF_9_35 : cpF 9 35 = some (9, 3, 12, false, true, true) := rfl
theorem cF_9_156 : cpF 9 156 = some (8, 5, 6, false, false, false) := rfl
theorem cF_9_122 : cpF 9 122 = some (0, 8, 17, false, true, true) := rfl
theorem cF_9_142 : cpF 9 142 = some (0, 6, 17, false, true, true) := rfl
theorem cF_9_68 : cpF 9 68 = some (9, 8, 12, false, true, true) := rfl
theorem cF_9_161 : cpF 9 161 = some (4, 5, 6, false, false, false) := rfl
theorem cF_9_162 : cpF 9 162 = some (7, 3, 9, false, false, false) := rfl
theorem cF_9_139 : cpF 9 139 = some (0, 10, 17, false, true, true) := rfl
theorem cF_9_219 : cpF 9 219 = some (5, 5, 7, false, true, true) := rfl
theorem cF_9_222 : cpF 9 222 = some (0, 12, 17, false, true, true) := rfl
theorem cF_9_75 : cpF 9 75 = some (9, 9, 12, false, true, true) := rfl
theorem cF_9_268 : cpF 9 268 = some (1, 0, 6, false, true, true) := rfl
theorem cF_9_225 : cpF 9 225 = some (5, 0, 7, false, true, true) := rfl
theorem cF_9_228 : cpF 9 228 = some (5, 1, 7, false, true, true) := rfl
theorem cF_9_231 : cpF 9 231 = some (5, 2, 7, false, true, true) := rfl
theorem cF_9_234 : cpF 9 234 = some (5, 3, 7, false, true, true) := rfl
theorem cF_9_237 : cpF 9 237 = some (5, 4, 7, false, true, true) := rfl
theorem cF_9_238 : cpF 9 238 = some (0, 13, 17, false, true, true) := rfl
theorem cF_9_241 : cpF 9 241 = some (0, 14, 17, false, true, true) := rfl
theorem cF_0_61 : cpF 0 61 = some (0, 3, 17, false, true, true) := rfl
theorem cF_10_197 : cpF 10 197 = some (10, 0, 60, false, false, false) := rfl
theorem cF_10_164 : cpF 10 164 = some (10, 1, 60, false, false, false) := rfl
theorem cF_9_135 : cpF 9 135 = some (0, 11, 17, false, true, true) := rfl
theorem cF_9_19 : cpF 9 19 = some (9, 1, 12, false, true, true) := rfl
theorem cF_9_138 : cpF 9 138 = some (2, 4, 5, false, true, true) := rfl
theorem cF_9_119 : cpF 9 119 = some (2, 2, 5, false, true, true) := rfl
theorem cF_9_113 : cpF 9 113 = some (2, 1, 5, false, true, true) := rfl
theorem cF_9_133 : cpF 9 133 = some (0, 9, 17, false, true, true) := rfl
theorem cF_9_130 : cpF 9 130 = some (2, 3, 5, false, true, true) := rfl
theorem cF_9_173 : cpF 9 173 = some (6, 4, 8, false, true, true) := rfl
theorem cF_9_109 : cpF 9 109 = some (0, 5, 17, false, true, true) := rfl
theorem cF_9_112 : cpF 9 112 = some (2, 0, 5, false, true, true) := rfl
theorem cF_9_145 : cpF 9 145 = some (0, 7, 17, false, true, true) := rfl
theorem cF_9_79 : cpF 9 79 = some (9, 10, 12, false, true, true) := rfl
theorem cF_9_62 : cpF 9 62 = some (9, 7, 12, false, true, true) := rfl
theorem cF_0_128 : cpF 0 128 = some (5, 4, 7, false, true, true) := rfl
theorem cF_9_190 : cpF 9 190 = some (6, 5, 8, false, true, true) := rfl
theorem cF_9_275 : cpF 9 275 = some (1, 1, 6, false, false, false) := rfl
theorem cF_9_278 : cpF 9 278 = some (1, 2, 6, false, false, false) := rfl
theorem cF_9_201 : cpF 9 201 = some (7, 5, 9, false, false, false) := rfl
theorem cB_0_148 : cpB 0 148 = some 0 := rfl
theorem cB_0_75 : cpB 0 75 = some 4 := rfl
theorem cB_0_160 : cpB 0 160 = some 1 := rfl
theorem cB_10_1 : cpB 10 1 = some 3 := rfl
theorem cB_1_3 : cpB 1 3 = some 3 := rfl
theorem cB_1_31 : cpB 1 31 = some 2 := rfl
theorem cB_2_3 : cpB 2 3 = some 3 := rfl
theorem cB_3_3 : cpB 3 3 = some 3 := rfl
theorem cB_4_3 : cpB 4 3 = some 3 := rfl
theorem cB_5_3 : cpB 5 3 = some 3 := rfl
theorem cB_6_66 : cpB 6 66 = some 0 := rfl
theorem cB_6_3 : cpB 6 3 = some 3 := rfl
theorem cB_7_3 : cpB 7 3 = some 3 := rfl
theorem cB_8_37 : cpB 8 37 = some 4 := rfl
theorem cB_8_3 : cpB 8 3 = some 3 := rfl
theorem cB_0_3 : cpB 0 3 = some 3 := rfl
theorem cB_1_37 : cpB 1 37 = some 0 := rfl
theorem cB_9_125 : cpB 9 125 = some 0 := rfl
theorem cB_1_41 : cpB 1 41 = some 1 := rfl
theorem cB_9_3 : cpB 9 3 = some 3 := rfl
theorem cU_12_15 : cpU 12 15 = some 1 := rfl
theorem cU_12_9 : cpU 12 9 = some 0 := rfl
theorem cC_9_9 : cpC 9 9 = some (3, 2) := rfl
theorem cC_9_16 : cpC 9 16 = some (2, 5) := rfl
theorem cC_9_23 : cpC 9 23 = some (6, 8) := rfl
theorem cC_9_32 : cpC 9 32 = some (8, 6) := rfl
theorem cC_9_39 : cpC 9 39 = some (7, 9) := rfl
theorem cC_9_46 : cpC 9 46 = some (5, 7) := rfl
theorem cC_9_53 : cpC 9 53 = some (0, 17) := rfl
theorem cC_9_65 : cpC 9 65 = some (4, 6) := rfl
theorem cC_9_72 : cpC 9 72 = some (1, 6) := rfl
theorem cC_11_7 : cpC 11 7 = some (9, 12) := rfl
theorem cC_11_10 : cpC 11 10 = some (10, 60) := rfl
theorem cI_10_147 : cpI 10 147 = some (1000000) := rfl
theorem cI_10_364 : cpI 10 364 = some (-1000000) := rfl
theorem cI_9_134 : cpI 9 134 = some (99999) := rfl
theorem cJ_7_40 : cpJ 7 40 = some (255) := rfl
theorem cJ_10_190 : cpJ 10 190 = some (8) := rfl
theorem cJ_10_228 : cpJ 10 228 = some (255) := rfl
theorem cJ_10_303 : cpJ 10 303 = some (6) := rfl
theorem cJ_10_186 : cpJ 10 186 = some (999) := rfl
theorem cJ_10_174 : cpJ 10 174 = some (2) := rfl
theorem cJ_10_156 : cpJ 10 156 = some (240) := rfl
theorem cJ_10_148 : cpJ 10 148 = some (7) := rfl
theorem cJ_10_154 : cpJ 10 154 = some (5) := rfl
theorem cJ_10_358 : cpJ 10 358 = some (-99) := rfl
theorem cJ_10_181 : cpJ 10 181 = some (99) := rfl
theorem cJ_10_250 : cpJ 10 250 = some (48) := rfl
theorem cJ_10_252 : cpJ 10 252 = some (57) := rfl
theorem cJ_10_243 : cpJ 10 243 = some (97) := rfl
theorem cJ_10_245 : cpJ 10 245 = some (122) := rfl
theorem cJ_10_360 : cpJ 10 360 = some (-550) := rfl
theorem cJ_10_362 : cpJ 10 362 = some (550) := rfl
theorem cJ_10_188 : cpJ 10 188 = some (99999) := rfl
theorem cJ_10_195 : cpJ 10 195 = some (3) := rfl
theorem cJ_10_162 : cpJ 10 162 = some (30) := rfl
theorem cJ_10_179 : cpJ 10 179 = some (9999) := rfl
theorem cJ_10_356 : cpJ 10 356 = some (63) := rfl
theorem cJ_10_332 : cpJ 10 332 = some (100) := rfl
theorem cJ_11_77 : cpJ 11 77 = some (4294967295) := rfl
theorem cT_7_131 : cpT 7 131 = some 0 := rfl
theorem cT_7_133 : cpT 7 133 = some 1 := rfl
theorem cT_7_135 : cpT 7 135 = some 2 := rfl
theorem cT_7_137 : cpT 7 137 = some 3 := rfl
theorem cT_7_125 : cpT 7 125 = some 4 := rfl
theorem cT_7_127 : cpT 7 127 = some 5 := rfl
theorem cT_7_129 : cpT 7 129 = some 6 := rfl
theorem cT_7_56 : cpT 7 56 = some 7 := rfl
theorem cT_7_65 : cpT 7 65 = some 8 := rfl
theorem cT_7_71 : cpT 7 71 = some 9 := rfl
theorem cT_7_73 : cpT 7 73 = some 10 := rfl
theorem cT_7_75 : cpT 7 75 = some 11 := rfl
theorem cT_7_77 : cpT 7 77 = some 12 := rfl
theorem cG_12_38 : cpG 12 38 = some (9, false) := rfl
theorem cG_7_107 : cpG 7 107 = some (1, true) := rfl
theorem cG_7_110 : cpG 7 110 = some (2, true) := rfl
theorem cG_8_44 : cpG 8 44 = some (0, true) := rfl
