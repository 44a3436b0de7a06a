theorem br_100_14 : (decide (0 ≤ ((100 : Nat) : Int) + 14) && (tg 100 14 == 114)) = true := by decide
theorem br_100_7 : (decide (0 ≤ ((100 : Nat) : Int) + 7) && (tg 100 7 == 107)) = true := by decide
theorem br_100_82 : (decide (0 ≤ ((100 : Nat) : Int) + 82) && (tg 100 82 == 182)) = true := by decide
theorem br_1011_400 : (decide (0 ≤ ((1011 : Nat) : Int) + 400) && (tg 1011 400 == 1411)) = true := by decide
theorem br_102_4 : (decide (0 ≤ ((102 : Nat) : Int) + 4) && (tg 102 4 == 106)) = true := by decide
theorem br_102_5 : (decide (0 ≤ ((102 : Nat) : Int) + 5) && (tg 102 5 == 107)) = true := by decide
theorem br_102_7 : (decide (0 ≤ ((102 : Nat) : Int) + 7) && (tg 102 7 == 109)) = true := by decide
theorem br_102_m42 : (decide (0 ≤ ((102 : Nat) : Int) + (-42)) && (tg 102 (-42) == 60)) = true := by decide
theorem br_102_m49 : (decide (0 ≤ ((102 : Nat) : Int) + (-49)) && (tg 102 (-49) == 53)) = true := by decide
theorem br_1034_377 : (decide (0 ≤ ((1034 : Nat) : Int) + 377) && (tg 1034 377 == 1411)) = true := by decide
theorem br_103_m101 : (decide (0 ≤ ((103 : Nat) : Int) + (-101)) && (tg 103 (-101) == 2)) = true := by decide
theorem br_1047_364 : (decide (0 ≤ ((1047 : Nat) : Int) + 364) && (tg 1047 364 == 1411)) = true := by decide
theorem br_104_4 : (decide (0 ≤ ((104 : Nat) : Int) + 4) && (tg 104 4 == 108)) = true := by decide
theorem br_104_5 : (decide (0 ≤ ((104 : Nat) : Int) + 5) && (tg 104 5 == 109)) = true := by decide
theorem br_105_20 : (decide (0 ≤ ((105 : Nat) : Int) + 20) && (tg 105 20 == 125)) = true := by decide
theorem br_106_38 : (decide (0 ≤ ((106 : Nat) : Int) + 38) && (tg 106 38 == 144)) = true := by decide
theorem br_106_4 : (decide (0 ≤ ((106 : Nat) : Int) + 4) && (tg 106 4 == 110)) = true := by decide
theorem br_106_m38 : (decide (0 ≤ ((106 : Nat) : Int) + (-38)) && (tg 106 (-38) == 68)) = true := by decide
theorem br_1070_341 : (decide (0 ≤ ((1070 : Nat) : Int) + 341) && (tg 1070 341 == 1411)) = true := by decide
theorem br_107_9 : (decide (0 ≤ ((107 : Nat) : Int) + 9) && (tg 107 9 == 116)) = true := by decide
theorem br_108_9 : (decide (0 ≤ ((108 : Nat) : Int) + 9) && (tg 108 9 == 117)) = true := by decide
theorem br_108_m64 : (decide (0 ≤ ((108 : Nat) : Int) + (-64)) && (tg 108 (-64) == 44)) = true := by decide
theorem br_109_12 : (decide (0 ≤ ((109 : Nat) : Int) + 12) && (tg 109 12 == 121)) = true := by decide
theorem br_109_3 : (decide (0 ≤ ((109 : Nat) : Int) + 3) && (tg 109 3 == 112)) = true := by decide
theorem br_10_10 : (decide (0 ≤ ((10 : Nat) : Int) + 10) && (tg 10 10 == 20)) = true := by decide
theorem br_10_111 : (decide (0 ≤ ((10 : Nat) : Int) + 111) && (tg 10 111 == 121)) = true := by decide
theorem br_10_12 : (decide (0 ≤ ((10 : Nat) : Int) + 12) && (tg 10 12 == 22)) = true := by decide
theorem br_10_21 : (decide (0 ≤ ((10 : Nat) : Int) + 21) && (tg 10 21 == 31)) = true := by decide
theorem br_10_4 : (decide (0 ≤ ((10 : Nat) : Int) + 4) && (tg 10 4 == 14)) = true := by decide
theorem br_10_44 : (decide (0 ≤ ((10 : Nat) : Int) + 44) && (tg 10 44 == 54)) = true := by decide
theorem br_10_7 : (decide (0 ≤ ((10 : Nat) : Int) + 7) && (tg 10 7 == 17)) = true := by decide
theorem br_10_89 : (decide (0 ≤ ((10 : Nat) : Int) + 89) && (tg 10 89 == 99)) = true := by decide
theorem br_10_92 : (decide (0 ≤ ((10 : Nat) : Int) + 92) && (tg 10 92 == 102)) = true := by decide
theorem br_1101_7 : (decide (0 ≤ ((1101 : Nat) : Int) + 7) && (tg 1101 7 == 1108)) = true := by decide
theorem br_1105_4 : (decide (0 ≤ ((1105 : Nat) : Int) + 4) && (tg 1105 4 == 1109)) = true := by decide
theorem br_110_9 : (decide (0 ≤ ((110 : Nat) : Int) + 9) && (tg 110 9 == 119)) = true := by decide
theorem br_111_m16 : (decide (0 ≤ ((111 : Nat) : Int) + (-16)) && (tg 111 (-16) == 95)) = true := by decide
theorem br_112_62 : (decide (0 ≤ ((112 : Nat) : Int) + 62) && (tg 112 62 == 174)) = true := by decide
theorem br_112_m38 : (decide (0 ≤ ((112 : Nat) : Int) + (-38)) && (tg 112 (-38) == 74)) = true := by decide
theorem br_112_m96 : (decide (0 ≤ ((112 : Nat) : Int) + (-96)) && (tg 112 (-96) == 16)) = true := by decide
theorem br_1138_7 : (decide (0 ≤ ((1138 : Nat) : Int) + 7) && (tg 1138 7 == 1145)) = true := by decide
theorem br_113_13 : (decide (0 ≤ ((113 : Nat) : Int) + 13) && (tg 113 13 == 126)) = true := by decide
theorem br_1142_4 : (decide (0 ≤ ((1142 : Nat) : Int) + 4) && (tg 1142 4 == 1146)) = true := by decide
theorem br_1149_262 : (decide (0 ≤ ((1149 : Nat) : Int) + 262) && (tg 1149 262 == 1411)) = true := by decide
theorem br_114_19 : (decide (0 ≤ ((114 : Nat) : Int) + 19) && (tg 114 19 == 133)) = true := by decide
theorem br_115_40 : (decide (0 ≤ ((115 : Nat) : Int) + 40) && (tg 115 40 == 155)) = true := by decide
theorem br_115_m97 : (decide (0 ≤ ((115 : Nat) : Int) + (-97)) && (tg 115 (-97) == 18)) = true := by decide
theorem br_116_66 : (decide (0 ≤ ((116 : Nat) : Int) + 66) && (tg 116 66 == 182)) = true := by decide
theorem br_116_8 : (decide (0 ≤ ((116 : Nat) : Int) + 8) && (tg 116 8 == 124)) = true := by decide
theorem br_117_7 : (decide (0 ≤ ((117 : Nat) : Int) + 7) && (tg 117 7 == 124)) = true := by decide
theorem br_117_m76 : (decide (0 ≤ ((117 : Nat) : Int) + (-76)) && (tg 117 (-76) == 41)) = true := by decide
theorem br_118_m112 : (decide (0 ≤ ((118 : Nat) : Int) + (-112)) && (tg 118 (-112) == 6)) = true := by decide
theorem br_1192_219 : (decide (0 ≤ ((1192 : Nat) : Int) + 219) && (tg 1192 219 == 1411)) = true := by decide
theorem br_11_10 : (decide (0 ≤ ((11 : Nat) : Int) + 10) && (tg 11 10 == 21)) = true := by decide
theorem br_11_12 : (decide (0 ≤ ((11 : Nat) : Int) + 12) && (tg 11 12 == 23)) = true := by decide
theorem br_11_14 : (decide (0 ≤ ((11 : Nat) : Int) + 14) && (tg 11 14 == 25)) = true := by decide
theorem br_11_29 : (decide (0 ≤ ((11 : Nat) : Int) + 29) && (tg 11 29 == 40)) = true := by decide
theorem br_11_4 : (decide (0 ≤ ((11 : Nat) : Int) + 4) && (tg 11 4 == 15)) = true := by decide
theorem br_11_69 : (decide (0 ≤ ((11 : Nat) : Int) + 69) && (tg 11 69 == 80)) = true := by decide
theorem br_11_7 : (decide (0 ≤ ((11 : Nat) : Int) + 7) && (tg 11 7 == 18)) = true := by decide
theorem br_120_21 : (decide (0 ≤ ((120 : Nat) : Int) + 21) && (tg 120 21 == 141)) = true := by decide
theorem br_120_82 : (decide (0 ≤ ((120 : Nat) : Int) + 82) && (tg 120 82 == 202)) = true := by decide
theorem br_1215_196 : (decide (0 ≤ ((1215 : Nat) : Int) + 196) && (tg 1215 196 == 1411)) = true := by decide
theorem br_121_4 : (decide (0 ≤ ((121 : Nat) : Int) + 4) && (tg 121 4 == 125)) = true := by decide
theorem br_122_7 : (decide (0 ≤ ((122 : Nat) : Int) + 7) && (tg 122 7 == 129)) = true := by decide
theorem br_1238_173 : (decide (0 ≤ ((1238 : Nat) : Int) + 173) && (tg 1238 173 == 1411)) = true := by decide
theorem br_123_43 : (decide (0 ≤ ((123 : Nat) : Int) + 43) && (tg 123 43 == 166)) = true := by decide
theorem br_123_m91 : (decide (0 ≤ ((123 : Nat) : Int) + (-91)) && (tg 123 (-91) == 32)) = true := by decide
theorem br_125_m50 : (decide (0 ≤ ((125 : Nat) : Int) + (-50)) && (tg 125 (-50) == 75)) = true := by decide
theorem br_125_m84 : (decide (0 ≤ ((125 : Nat) : Int) + (-84)) && (tg 125 (-84) == 41)) = true := by decide
theorem br_126_4 : (decide (0 ≤ ((126 : Nat) : Int) + 4) && (tg 126 4 == 130)) = true := by decide
theorem br_126_7 : (decide (0 ≤ ((126 : Nat) : Int) + 7) && (tg 126 7 == 133)) = true := by decide
theorem br_1281_130 : (decide (0 ≤ ((1281 : Nat) : Int) + 130) && (tg 1281 130 == 1411)) = true := by decide
theorem br_129_67 : (decide (0 ≤ ((129 : Nat) : Int) + 67) && (tg 129 67 == 196)) = true := by decide
theorem br_12_12 : (decide (0 ≤ ((12 : Nat) : Int) + 12) && (tg 12 12 == 24)) = true := by decide
theorem br_12_22 : (decide (0 ≤ ((12 : Nat) : Int) + 22) && (tg 12 22 == 34)) = true := by decide
theorem br_12_4 : (decide (0 ≤ ((12 : Nat) : Int) + 4) && (tg 12 4 == 16)) = true := by decide
theorem br_12_57 : (decide (0 ≤ ((12 : Nat) : Int) + 57) && (tg 12 57 == 69)) = true := by decide
theorem br_12_7 : (decide (0 ≤ ((12 : Nat) : Int) + 7) && (tg 12 7 == 19)) = true := by decide
theorem br_12_9 : (decide (0 ≤ ((12 : Nat) : Int) + 9) && (tg 12 9 == 21)) = true := by decide
theorem br_130_4 : (decide (0 ≤ ((130 : Nat) : Int) + 4) && (tg 130 4 == 134)) = true := by decide
theorem br_131_20 : (decide (0 ≤ ((131 : Nat) : Int) + 20) && (tg 131 20 == 151)) = true := by decide
theorem br_131_m119 : (decide (0 ≤ ((131 : Nat) : Int) + (-119)) && (tg 131 (-119) == 12)) = true := by decide
theorem br_1324_87 : (decide (0 ≤ ((1324 : Nat) : Int) + 87) && (tg 1324 87 == 1411)) = true := by decide
theorem br_132_26 : (decide (0 ≤ ((132 : Nat) : Int) + 26) && (tg 132 26 == 158)) = true := by decide
theorem br_132_7 : (decide (0 ≤ ((132 : Nat) : Int) + 7) && (tg 132 7 == 139)) = true := by decide
theorem br_1367_44 : (decide (0 ≤ ((1367 : Nat) : Int) + 44) && (tg 1367 44 == 1411)) = true := by decide
theorem br_136_13 : (decide (0 ≤ ((136 : Nat) : Int) + 13) && (tg 136 13 == 149)) = true := by decide
theorem br_136_4 : (decide (0 ≤ ((136 : Nat) : Int) + 4) && (tg 136 4 == 140)) = true := by decide
theorem br_1378_7 : (decide (0 ≤ ((1378 : Nat) : Int) + 7) && (tg 1378 7 == 1385)) = true := by decide
theorem br_137_11 : (decide (0 ≤ ((137 : Nat) : Int) + 11) && (tg 137 11 == 148)) = true := by decide
theorem br_137_48 : (decide (0 ≤ ((137 : Nat) : Int) + 48) && (tg 137 48 == 185)) = true := by decide
theorem br_137_m135 : (decide (0 ≤ ((137 : Nat) : Int) + (-135)) && (tg 137 (-135) == 2)) = true := by decide
theorem br_1382_4 : (decide (0 ≤ ((1382 : Nat) : Int) + 4) && (tg 1382 4 == 1386)) = true := by decide
theorem br_138_9 : (decide (0 ≤ ((138 : Nat) : Int) + 9) && (tg 138 9 == 147)) = true := by decide
theorem br_1395_7 : (decide (0 ≤ ((1395 : Nat) : Int) + 7) && (tg 1395 7 == 1402)) = true := by decide
theorem br_1399_4 : (decide (0 ≤ ((1399 : Nat) : Int) + 4) && (tg 1399 4 == 1403)) = true := by decide
theorem br_139_16 : (decide (0 ≤ ((139 : Nat) : Int) + 16) && (tg 139 16 == 155)) = true := by decide
theorem br_139_m103 : (decide (0 ≤ ((139 : Nat) : Int) + (-103)) && (tg 139 (-103) == 36)) = true := by decide
theorem br_13_10 : (decide (0 ≤ ((13 : Nat) : Int) + 10) && (tg 13 10 == 23)) = true := by decide
theorem br_13_17 : (decide (0 ≤ ((13 : Nat) : Int) + 17) && (tg 13 17 == 30)) = true := by decide
theorem br_13_20 : (decide (0 ≤ ((13 : Nat) : Int) + 20) && (tg 13 20 == 33)) = true := by decide
theorem br_13_5 : (decide (0 ≤ ((13 : Nat) : Int) + 5) && (tg 13 5 == 18)) = true := by decide
theorem br_13_7 : (decide (0 ≤ ((13 : Nat) : Int) + 7) && (tg 13 7 == 20)) = true := by decide
theorem br_13_87 : (decide (0 ≤ ((13 : Nat) : Int) + 87) && (tg 13 87 == 100)) = true := by decide
theorem br_1406_5 : (decide (0 ≤ ((1406 : Nat) : Int) + 5) && (tg 1406 5 == 1411)) = true := by decide
theorem br_1414_m1396 : (decide (0 ≤ ((1414 : Nat) : Int) + (-1396)) && (tg 1414 (-1396) == 18)) = true := by decide
theorem br_141_7 : (decide (0 ≤ ((141 : Nat) : Int) + 7) && (tg 141 7 == 148)) = true := by decide
theorem br_144_7 : (decide (0 ≤ ((144 : Nat) : Int) + 7) && (tg 144 7 == 151)) = true := by decide
theorem br_144_m104 : (decide (0 ≤ ((144 : Nat) : Int) + (-104)) && (tg 144 (-104) == 40)) = true := by decide
theorem br_145_5 : (decide (0 ≤ ((145 : Nat) : Int) + 5) && (tg 145 5 == 150)) = true := by decide
theorem br_146_12 : (decide (0 ≤ ((146 : Nat) : Int) + 12) && (tg 146 12 == 158)) = true := by decide
theorem br_148_4 : (decide (0 ≤ ((148 : Nat) : Int) + 4) && (tg 148 4 == 152)) = true := by decide
theorem br_149_m73 : (decide (0 ≤ ((149 : Nat) : Int) + (-73)) && (tg 149 (-73) == 76)) = true := by decide
theorem br_14_4 : (decide (0 ≤ ((14 : Nat) : Int) + 4) && (tg 14 4 == 18)) = true := by decide
theorem br_14_48 : (decide (0 ≤ ((14 : Nat) : Int) + 48) && (tg 14 48 == 62)) = true := by decide
theorem br_14_6 : (decide (0 ≤ ((14 : Nat) : Int) + 6) && (tg 14 6 == 20)) = true := by decide
theorem br_14_8 : (decide (0 ≤ ((14 : Nat) : Int) + 8) && (tg 14 8 == 22)) = true := by decide
theorem br_150_15 : (decide (0 ≤ ((150 : Nat) : Int) + 15) && (tg 150 15 == 165)) = true := by decide
theorem br_152_5 : (decide (0 ≤ ((152 : Nat) : Int) + 5) && (tg 152 5 == 157)) = true := by decide
theorem br_155_4 : (decide (0 ≤ ((155 : Nat) : Int) + 4) && (tg 155 4 == 159)) = true := by decide
theorem br_155_m139 : (decide (0 ≤ ((155 : Nat) : Int) + (-139)) && (tg 155 (-139) == 16)) = true := by decide
theorem br_156_9 : (decide (0 ≤ ((156 : Nat) : Int) + 9) && (tg 156 9 == 165)) = true := by decide
theorem br_157_31 : (decide (0 ≤ ((157 : Nat) : Int) + 31) && (tg 157 31 == 188)) = true := by decide
theorem br_15_12 : (decide (0 ≤ ((15 : Nat) : Int) + 12) && (tg 15 12 == 27)) = true := by decide
theorem br_15_13 : (decide (0 ≤ ((15 : Nat) : Int) + 13) && (tg 15 13 == 28)) = true := by decide
theorem br_15_14 : (decide (0 ≤ ((15 : Nat) : Int) + 14) && (tg 15 14 == 29)) = true := by decide
theorem br_15_15 : (decide (0 ≤ ((15 : Nat) : Int) + 15) && (tg 15 15 == 30)) = true := by decide
theorem br_15_5 : (decide (0 ≤ ((15 : Nat) : Int) + 5) && (tg 15 5 == 20)) = true := by decide
theorem br_15_69 : (decide (0 ≤ ((15 : Nat) : Int) + 69) && (tg 15 69 == 84)) = true := by decide
theorem br_15_7 : (decide (0 ≤ ((15 : Nat) : Int) + 7) && (tg 15 7 == 22)) = true := by decide
theorem br_160_25 : (decide (0 ≤ ((160 : Nat) : Int) + 25) && (tg 160 25 == 185)) = true := by decide
theorem br_163_m45 : (decide (0 ≤ ((163 : Nat) : Int) + (-45)) && (tg 163 (-45) == 118)) = true := by decide
theorem br_168_10 : (decide (0 ≤ ((168 : Nat) : Int) + 10) && (tg 168 10 == 178)) = true := by decide
theorem br_168_7 : (decide (0 ≤ ((168 : Nat) : Int) + 7) && (tg 168 7 == 175)) = true := by decide
theorem br_16_13 : (decide (0 ≤ ((16 : Nat) : Int) + 13) && (tg 16 13 == 29)) = true := by decide
theorem br_16_15 : (decide (0 ≤ ((16 : Nat) : Int) + 15) && (tg 16 15 == 31)) = true := by decide
theorem br_16_23 : (decide (0 ≤ ((16 : Nat) : Int) + 23) && (tg 16 23 == 39)) = true := by decide
theorem br_16_5 : (decide (0 ≤ ((16 : Nat) : Int) + 5) && (tg 16 5 == 21)) = true := by decide
theorem br_16_7 : (decide (0 ≤ ((16 : Nat) : Int) + 7) && (tg 16 7 == 23)) = true := by decide
theorem br_16_95 : (decide (0 ≤ ((16 : Nat) : Int) + 95) && (tg 16 95 == 111)) = true := by decide
theorem br_172_4 : (decide (0 ≤ ((172 : Nat) : Int) + 4) && (tg 172 4 == 176)) = true := by decide
theorem br_175_4 : (decide (0 ≤ ((175 : Nat) : Int) + 4) && (tg 175 4 == 179)) = true := by decide
theorem br_179_m104 : (decide (0 ≤ ((179 : Nat) : Int) + (-104)) && (tg 179 (-104) == 75)) = true := by decide
theorem br_17_10 : (decide (0 ≤ ((17 : Nat) : Int) + 10) && (tg 17 10 == 27)) = true := by decide
theorem br_17_104 : (decide (0 ≤ ((17 : Nat) : Int) + 104) && (tg 17 104 == 121)) = true := by decide
theorem br_17_117 : (decide (0 ≤ ((17 : Nat) : Int) + 117) && (tg 17 117 == 134)) = true := by decide
theorem br_17_21 : (decide (0 ≤ ((17 : Nat) : Int) + 21) && (tg 17 21 == 38)) = true := by decide
theorem br_17_34 : (decide (0 ≤ ((17 : Nat) : Int) + 34) && (tg 17 34 == 51)) = true := by decide
theorem br_17_4 : (decide (0 ≤ ((17 : Nat) : Int) + 4) && (tg 17 4 == 21)) = true := by decide
theorem br_17_5 : (decide (0 ≤ ((17 : Nat) : Int) + 5) && (tg 17 5 == 22)) = true := by decide
theorem br_17_55 : (decide (0 ≤ ((17 : Nat) : Int) + 55) && (tg 17 55 == 72)) = true := by decide
theorem br_17_6 : (decide (0 ≤ ((17 : Nat) : Int) + 6) && (tg 17 6 == 23)) = true := by decide
theorem br_17_61 : (decide (0 ≤ ((17 : Nat) : Int) + 61) && (tg 17 61 == 78)) = true := by decide
theorem br_17_64 : (decide (0 ≤ ((17 : Nat) : Int) + 64) && (tg 17 64 == 81)) = true := by decide
theorem br_17_7 : (decide (0 ≤ ((17 : Nat) : Int) + 7) && (tg 17 7 == 24)) = true := by decide
theorem br_17_71 : (decide (0 ≤ ((17 : Nat) : Int) + 71) && (tg 17 71 == 88)) = true := by decide
theorem br_17_8 : (decide (0 ≤ ((17 : Nat) : Int) + 8) && (tg 17 8 == 25)) = true := by decide
theorem br_17_m12 : (decide (0 ≤ ((17 : Nat) : Int) + (-12)) && (tg 17 (-12) == 5)) = true := by decide
theorem br_17_m13 : (decide (0 ≤ ((17 : Nat) : Int) + (-13)) && (tg 17 (-13) == 4)) = true := by decide
theorem br_182_m47 : (decide (0 ≤ ((182 : Nat) : Int) + (-47)) && (tg 182 (-47) == 135)) = true := by decide
theorem br_185_m120 : (decide (0 ≤ ((185 : Nat) : Int) + (-120)) && (tg 185 (-120) == 65)) = true := by decide
theorem br_185_m183 : (decide (0 ≤ ((185 : Nat) : Int) + (-183)) && (tg 185 (-183) == 2)) = true := by decide
theorem br_185_m31 : (decide (0 ≤ ((185 : Nat) : Int) + (-31)) && (tg 185 (-31) == 154)) = true := by decide
theorem br_18_12 : (decide (0 ≤ ((18 : Nat) : Int) + 12) && (tg 18 12 == 30)) = true := by decide
theorem br_18_13 : (decide (0 ≤ ((18 : Nat) : Int) + 13) && (tg 18 13 == 31)) = true := by decide
theorem br_18_5 : (decide (0 ≤ ((18 : Nat) : Int) + 5) && (tg 18 5 == 23)) = true := by decide
theorem br_18_7 : (decide (0 ≤ ((18 : Nat) : Int) + 7) && (tg 18 7 == 25)) = true := by decide
theorem br_18_9 : (decide (0 ≤ ((18 : Nat) : Int) + 9) && (tg 18 9 == 27)) = true := by decide
theorem br_190_18 : (decide (0 ≤ ((190 : Nat) : Int) + 18) && (tg 190 18 == 208)) = true := by decide
theorem br_193_75 : (decide (0 ≤ ((193 : Nat) : Int) + 75) && (tg 193 75 == 268)) = true := by decide
theorem br_199_m84 : (decide (0 ≤ ((199 : Nat) : Int) + (-84)) && (tg 199 (-84) == 115)) = true := by decide
theorem br_19_139 : (decide (0 ≤ ((19 : Nat) : Int) + 139) && (tg 19 139 == 158)) = true := by decide
theorem br_19_31 : (decide (0 ≤ ((19 : Nat) : Int) + 31) && (tg 19 31 == 50)) = true := by decide
theorem br_19_7 : (decide (0 ≤ ((19 : Nat) : Int) + 7) && (tg 19 7 == 26)) = true := by decide
theorem br_1_14 : (decide (0 ≤ ((1 : Nat) : Int) + 14) && (tg 1 14 == 15)) = true := by decide
theorem br_1_20 : (decide (0 ≤ ((1 : Nat) : Int) + 20) && (tg 1 20 == 21)) = true := by decide
theorem br_1_7 : (decide (0 ≤ ((1 : Nat) : Int) + 7) && (tg 1 7 == 8)) = true := by decide
theorem br_1_8 : (decide (0 ≤ ((1 : Nat) : Int) + 8) && (tg 1 8 == 9)) = true := by decide
theorem br_205_m21 : (decide (0 ≤ ((205 : Nat) : Int) + (-21)) && (tg 205 (-21) == 184)) = true := by decide
theorem br_20_13 : (decide (0 ≤ ((20 : Nat) : Int) + 13) && (tg 20 13 == 33)) = true := by decide
theorem br_20_14 : (decide (0 ≤ ((20 : Nat) : Int) + 14) && (tg 20 14 == 34)) = true := by decide
theorem br_20_15 : (decide (0 ≤ ((20 : Nat) : Int) + 15) && (tg 20 15 == 35)) = true := by decide
theorem br_20_23 : (decide (0 ≤ ((20 : Nat) : Int) + 23) && (tg 20 23 == 43)) = true := by decide
theorem br_20_44 : (decide (0 ≤ ((20 : Nat) : Int) + 44) && (tg 20 44 == 64)) = true := by decide
theorem br_20_54 : (decide (0 ≤ ((20 : Nat) : Int) + 54) && (tg 20 54 == 74)) = true := by decide
theorem br_20_6 : (decide (0 ≤ ((20 : Nat) : Int) + 6) && (tg 20 6 == 26)) = true := by decide
theorem br_20_65 : (decide (0 ≤ ((20 : Nat) : Int) + 65) && (tg 20 65 == 85)) = true := by decide
theorem br_20_7 : (decide (0 ≤ ((20 : Nat) : Int) + 7) && (tg 20 7 == 27)) = true := by decide
theorem br_20_73 : (decide (0 ≤ ((20 : Nat) : Int) + 73) && (tg 20 73 == 93)) = true := by decide
theorem br_20_9 : (decide (0 ≤ ((20 : Nat) : Int) + 9) && (tg 20 9 == 29)) = true := by decide
theorem br_218_1193 : (decide (0 ≤ ((218 : Nat) : Int) + 1193) && (tg 218 1193 == 1411)) = true := by decide
theorem br_21_17 : (decide (0 ≤ ((21 : Nat) : Int) + 17) && (tg 21 17 == 38)) = true := by decide
theorem br_21_29 : (decide (0 ≤ ((21 : Nat) : Int) + 29) && (tg 21 29 == 50)) = true := by decide
theorem br_21_38 : (decide (0 ≤ ((21 : Nat) : Int) + 38) && (tg 21 38 == 59)) = true := by decide
theorem br_21_4 : (decide (0 ≤ ((21 : Nat) : Int) + 4) && (tg 21 4 == 25)) = true := by decide
theorem br_21_48 : (decide (0 ≤ ((21 : Nat) : Int) + 48) && (tg 21 48 == 69)) = true := by decide
theorem br_21_5 : (decide (0 ≤ ((21 : Nat) : Int) + 5) && (tg 21 5 == 26)) = true := by decide
theorem br_21_7 : (decide (0 ≤ ((21 : Nat) : Int) + 7) && (tg 21 7 == 28)) = true := by decide
theorem br_21_8 : (decide (0 ≤ ((21 : Nat) : Int) + 8) && (tg 21 8 == 29)) = true := by decide
theorem br_21_9 : (decide (0 ≤ ((21 : Nat) : Int) + 9) && (tg 21 9 == 30)) = true := by decide
theorem br_21_97 : (decide (0 ≤ ((21 : Nat) : Int) + 97) && (tg 21 97 == 118)) = true := by decide
theorem br_22_16 : (decide (0 ≤ ((22 : Nat) : Int) + 16) && (tg 22 16 == 38)) = true := by decide
theorem br_22_24 : (decide (0 ≤ ((22 : Nat) : Int) + 24) && (tg 22 24 == 46)) = true := by decide
theorem br_22_26 : (decide (0 ≤ ((22 : Nat) : Int) + 26) && (tg 22 26 == 48)) = true := by decide
theorem br_22_33 : (decide (0 ≤ ((22 : Nat) : Int) + 33) && (tg 22 33 == 55)) = true := by decide
theorem br_22_6 : (decide (0 ≤ ((22 : Nat) : Int) + 6) && (tg 22 6 == 28)) = true := by decide
theorem br_22_7 : (decide (0 ≤ ((22 : Nat) : Int) + 7) && (tg 22 7 == 29)) = true := by decide
theorem br_22_74 : (decide (0 ≤ ((22 : Nat) : Int) + 74) && (tg 22 74 == 96)) = true := by decide
theorem br_22_93 : (decide (0 ≤ ((22 : Nat) : Int) + 93) && (tg 22 93 == 115)) = true := by decide
theorem br_22_m18 : (decide (0 ≤ ((22 : Nat) : Int) + (-18)) && (tg 22 (-18) == 4)) = true := by decide
theorem br_23_13 : (decide (0 ≤ ((23 : Nat) : Int) + 13) && (tg 23 13 == 36)) = true := by decide
theorem br_23_34 : (decide (0 ≤ ((23 : Nat) : Int) + 34) && (tg 23 34 == 57)) = true := by decide
theorem br_23_35 : (decide (0 ≤ ((23 : Nat) : Int) + 35) && (tg 23 35 == 58)) = true := by decide
theorem br_23_38 : (decide (0 ≤ ((23 : Nat) : Int) + 38) && (tg 23 38 == 61)) = true := by decide
theorem br_23_4 : (decide (0 ≤ ((23 : Nat) : Int) + 4) && (tg 23 4 == 27)) = true := by decide
theorem br_23_51 : (decide (0 ≤ ((23 : Nat) : Int) + 51) && (tg 23 51 == 74)) = true := by decide
theorem br_23_7 : (decide (0 ≤ ((23 : Nat) : Int) + 7) && (tg 23 7 == 30)) = true := by decide
theorem br_249_58 : (decide (0 ≤ ((249 : Nat) : Int) + 58) && (tg 249 58 == 307)) = true := by decide
theorem br_24_1393 : (decide (0 ≤ ((24 : Nat) : Int) + 1393) && (tg 24 1393 == 1417)) = true := by decide
theorem br_24_18 : (decide (0 ≤ ((24 : Nat) : Int) + 18) && (tg 24 18 == 42)) = true := by decide
theorem br_24_4 : (decide (0 ≤ ((24 : Nat) : Int) + 4) && (tg 24 4 == 28)) = true := by decide
theorem br_24_50 : (decide (0 ≤ ((24 : Nat) : Int) + 50) && (tg 24 50 == 74)) = true := by decide
theorem br_24_7 : (decide (0 ≤ ((24 : Nat) : Int) + 7) && (tg 24 7 == 31)) = true := by decide
theorem br_24_74 : (decide (0 ≤ ((24 : Nat) : Int) + 74) && (tg 24 74 == 98)) = true := by decide
theorem br_251_1160 : (decide (0 ≤ ((251 : Nat) : Int) + 1160) && (tg 251 1160 == 1411)) = true := by decide
theorem br_25_21 : (decide (0 ≤ ((25 : Nat) : Int) + 21) && (tg 25 21 == 46)) = true := by decide
theorem br_25_30 : (decide (0 ≤ ((25 : Nat) : Int) + 30) && (tg 25 30 == 55)) = true := by decide
theorem br_25_31 : (decide (0 ≤ ((25 : Nat) : Int) + 31) && (tg 25 31 == 56)) = true := by decide
theorem br_25_4 : (decide (0 ≤ ((25 : Nat) : Int) + 4) && (tg 25 4 == 29)) = true := by decide
theorem br_25_7 : (decide (0 ≤ ((25 : Nat) : Int) + 7) && (tg 25 7 == 32)) = true := by decide
theorem br_25_84 : (decide (0 ≤ ((25 : Nat) : Int) + 84) && (tg 25 84 == 109)) = true := by decide
theorem br_25_m23 : (decide (0 ≤ ((25 : Nat) : Int) + (-23)) && (tg 25 (-23) == 2)) = true := by decide
theorem br_265_m75 : (decide (0 ≤ ((265 : Nat) : Int) + (-75)) && (tg 265 (-75) == 190)) = true := by decide
theorem br_26_12 : (decide (0 ≤ ((26 : Nat) : Int) + 12) && (tg 26 12 == 38)) = true := by decide
theorem br_26_13 : (decide (0 ≤ ((26 : Nat) : Int) + 13) && (tg 26 13 == 39)) = true := by decide
theorem br_26_16 : (decide (0 ≤ ((26 : Nat) : Int) + 16) && (tg 26 16 == 42)) = true := by decide
theorem br_26_24 : (decide (0 ≤ ((26 : Nat) : Int) + 24) && (tg 26 24 == 50)) = true := by decide
theorem br_26_35 : (decide (0 ≤ ((26 : Nat) : Int) + 35) && (tg 26 35 == 61)) = true := by decide
theorem br_26_4 : (decide (0 ≤ ((26 : Nat) : Int) + 4) && (tg 26 4 == 30)) = true := by decide
theorem br_26_7 : (decide (0 ≤ ((26 : Nat) : Int) + 7) && (tg 26 7 == 33)) = true := by decide
theorem br_26_92 : (decide (0 ≤ ((26 : Nat) : Int) + 92) && (tg 26 92 == 118)) = true := by decide
theorem br_27_13 : (decide (0 ≤ ((27 : Nat) : Int) + 13) && (tg 27 13 == 40)) = true := by decide
theorem br_27_19 : (decide (0 ≤ ((27 : Nat) : Int) + 19) && (tg 27 19 == 46)) = true := by decide
theorem br_27_20 : (decide (0 ≤ ((27 : Nat) : Int) + 20) && (tg 27 20 == 47)) = true := by decide
theorem br_27_4 : (decide (0 ≤ ((27 : Nat) : Int) + 4) && (tg 27 4 == 31)) = true := by decide
theorem br_27_49 : (decide (0 ≤ ((27 : Nat) : Int) + 49) && (tg 27 49 == 76)) = true := by decide
theorem br_27_51 : (decide (0 ≤ ((27 : Nat) : Int) + 51) && (tg 27 51 == 78)) = true := by decide
theorem br_27_55 : (decide (0 ≤ ((27 : Nat) : Int) + 55) && (tg 27 55 == 82)) = true := by decide
theorem br_27_7 : (decide (0 ≤ ((27 : Nat) : Int) + 7) && (tg 27 7 == 34)) = true := by decide
theorem br_286_15 : (decide (0 ≤ ((286 : Nat) : Int) + 15) && (tg 286 15 == 301)) = true := by decide
theorem br_28_154 : (decide (0 ≤ ((28 : Nat) : Int) + 154) && (tg 28 154 == 182)) = true := by decide
theorem br_28_17 : (decide (0 ≤ ((28 : Nat) : Int) + 17) && (tg 28 17 == 45)) = true := by decide
theorem br_28_22 : (decide (0 ≤ ((28 : Nat) : Int) + 22) && (tg 28 22 == 50)) = true := by decide
theorem br_28_27 : (decide (0 ≤ ((28 : Nat) : Int) + 27) && (tg 28 27 == 55)) = true := by decide
theorem br_28_5 : (decide (0 ≤ ((28 : Nat) : Int) + 5) && (tg 28 5 == 33)) = true := by decide
theorem br_28_68 : (decide (0 ≤ ((28 : Nat) : Int) + 68) && (tg 28 68 == 96)) = true := by decide
theorem br_28_7 : (decide (0 ≤ ((28 : Nat) : Int) + 7) && (tg 28 7 == 35)) = true := by decide
theorem br_28_m21 : (decide (0 ≤ ((28 : Nat) : Int) + (-21)) && (tg 28 (-21) == 7)) = true := by decide
theorem br_294_1117 : (decide (0 ≤ ((294 : Nat) : Int) + 1117) && (tg 294 1117 == 1411)) = true := by decide
theorem br_298_m35 : (decide (0 ≤ ((298 : Nat) : Int) + (-35)) && (tg 298 (-35) == 263)) = true := by decide
theorem br_29_4 : (decide (0 ≤ ((29 : Nat) : Int) + 4) && (tg 29 4 == 33)) = true := by decide
theorem br_2_7 : (decide (0 ≤ ((2 : Nat) : Int) + 7) && (tg 2 7 == 9)) = true := by decide
theorem br_2_8 : (decide (0 ≤ ((2 : Nat) : Int) + 8) && (tg 2 8 == 10)) = true := by decide
theorem br_2_9 : (decide (0 ≤ ((2 : Nat) : Int) + 9) && (tg 2 9 == 11)) = true := by decide
theorem br_304_m57 : (decide (0 ≤ ((304 : Nat) : Int) + (-57)) && (tg 304 (-57) == 247)) = true := by decide
theorem br_30_12 : (decide (0 ≤ ((30 : Nat) : Int) + 12) && (tg 30 12 == 42)) = true := by decide
theorem br_30_14 : (decide (0 ≤ ((30 : Nat) : Int) + 14) && (tg 30 14 == 44)) = true := by decide
theorem br_30_21 : (decide (0 ≤ ((30 : Nat) : Int) + 21) && (tg 30 21 == 51)) = true := by decide
theorem br_30_49 : (decide (0 ≤ ((30 : Nat) : Int) + 49) && (tg 30 49 == 79)) = true := by decide
theorem br_30_51 : (decide (0 ≤ ((30 : Nat) : Int) + 51) && (tg 30 51 == 81)) = true := by decide
theorem br_30_6 : (decide (0 ≤ ((30 : Nat) : Int) + 6) && (tg 30 6 == 36)) = true := by decide
theorem br_30_7 : (decide (0 ≤ ((30 : Nat) : Int) + 7) && (tg 30 7 == 37)) = true := by decide
theorem br_30_72 : (decide (0 ≤ ((30 : Nat) : Int) + 72) && (tg 30 72 == 102)) = true := by decide
theorem br_30_m20 : (decide (0 ≤ ((30 : Nat) : Int) + (-20)) && (tg 30 (-20) == 10)) = true := by decide
theorem br_31_14 : (decide (0 ≤ ((31 : Nat) : Int) + 14) && (tg 31 14 == 45)) = true := by decide
theorem br_31_43 : (decide (0 ≤ ((31 : Nat) : Int) + 43) && (tg 31 43 == 74)) = true := by decide
theorem br_31_m27 : (decide (0 ≤ ((31 : Nat) : Int) + (-27)) && (tg 31 (-27) == 4)) = true := by decide
theorem br_32_10 : (decide (0 ≤ ((32 : Nat) : Int) + 10) && (tg 32 10 == 42)) = true := by decide
theorem br_32_14 : (decide (0 ≤ ((32 : Nat) : Int) + 14) && (tg 32 14 == 46)) = true := by decide
theorem br_32_21 : (decide (0 ≤ ((32 : Nat) : Int) + 21) && (tg 32 21 == 53)) = true := by decide
theorem br_32_23 : (decide (0 ≤ ((32 : Nat) : Int) + 23) && (tg 32 23 == 55)) = true := by decide
theorem br_32_4 : (decide (0 ≤ ((32 : Nat) : Int) + 4) && (tg 32 4 == 36)) = true := by decide
theorem br_32_7 : (decide (0 ≤ ((32 : Nat) : Int) + 7) && (tg 32 7 == 39)) = true := by decide
theorem br_337_1074 : (decide (0 ≤ ((337 : Nat) : Int) + 1074) && (tg 337 1074 == 1411)) = true := by decide
theorem br_33_13 : (decide (0 ≤ ((33 : Nat) : Int) + 13) && (tg 33 13 == 46)) = true := by decide
theorem br_33_15 : (decide (0 ≤ ((33 : Nat) : Int) + 15) && (tg 33 15 == 48)) = true := by decide
theorem br_33_17 : (decide (0 ≤ ((33 : Nat) : Int) + 17) && (tg 33 17 == 50)) = true := by decide
theorem br_33_5 : (decide (0 ≤ ((33 : Nat) : Int) + 5) && (tg 33 5 == 38)) = true := by decide
theorem br_33_60 : (decide (0 ≤ ((33 : Nat) : Int) + 60) && (tg 33 60 == 93)) = true := by decide
theorem br_33_7 : (decide (0 ≤ ((33 : Nat) : Int) + 7) && (tg 33 7 == 40)) = true := by decide
theorem br_33_85 : (decide (0 ≤ ((33 : Nat) : Int) + 85) && (tg 33 85 == 118)) = true := by decide
theorem br_34_17 : (decide (0 ≤ ((34 : Nat) : Int) + 17) && (tg 34 17 == 51)) = true := by decide
theorem br_34_19 : (decide (0 ≤ ((34 : Nat) : Int) + 19) && (tg 34 19 == 53)) = true := by decide
theorem br_34_24 : (decide (0 ≤ ((34 : Nat) : Int) + 24) && (tg 34 24 == 58)) = true := by decide
theorem br_34_30 : (decide (0 ≤ ((34 : Nat) : Int) + 30) && (tg 34 30 == 64)) = true := by decide
theorem br_34_5 : (decide (0 ≤ ((34 : Nat) : Int) + 5) && (tg 34 5 == 39)) = true := by decide
theorem br_34_6 : (decide (0 ≤ ((34 : Nat) : Int) + 6) && (tg 34 6 == 40)) = true := by decide
theorem br_34_m32 : (decide (0 ≤ ((34 : Nat) : Int) + (-32)) && (tg 34 (-32) == 2)) = true := by decide
theorem br_35_13 : (decide (0 ≤ ((35 : Nat) : Int) + 13) && (tg 35 13 == 48)) = true := by decide
theorem br_35_26 : (decide (0 ≤ ((35 : Nat) : Int) + 26) && (tg 35 26 == 61)) = true := by decide
theorem br_35_4 : (decide (0 ≤ ((35 : Nat) : Int) + 4) && (tg 35 4 == 39)) = true := by decide
theorem br_35_43 : (decide (0 ≤ ((35 : Nat) : Int) + 43) && (tg 35 43 == 78)) = true := by decide
theorem br_35_6 : (decide (0 ≤ ((35 : Nat) : Int) + 6) && (tg 35 6 == 41)) = true := by decide
theorem br_35_7 : (decide (0 ≤ ((35 : Nat) : Int) + 7) && (tg 35 7 == 42)) = true := by decide
theorem br_35_86 : (decide (0 ≤ ((35 : Nat) : Int) + 86) && (tg 35 86 == 121)) = true := by decide
theorem br_35_m23 : (decide (0 ≤ ((35 : Nat) : Int) + (-23)) && (tg 35 (-23) == 12)) = true := by decide
theorem br_35_m31 : (decide (0 ≤ ((35 : Nat) : Int) + (-31)) && (tg 35 (-31) == 4)) = true := by decide
theorem br_35_m35 : (decide (0 ≤ ((35 : Nat) : Int) + (-35)) && (tg 35 (-35) == 0)) = true := by decide
theorem br_365_32 : (decide (0 ≤ ((365 : Nat) : Int) + 32) && (tg 365 32 == 397)) = true := by decide
theorem br_36_31 : (decide (0 ≤ ((36 : Nat) : Int) + 31) && (tg 36 31 == 67)) = true := by decide
theorem br_36_5 : (decide (0 ≤ ((36 : Nat) : Int) + 5) && (tg 36 5 == 41)) = true := by decide
theorem br_36_7 : (decide (0 ≤ ((36 : Nat) : Int) + 7) && (tg 36 7 == 43)) = true := by decide
theorem br_36_90 : (decide (0 ≤ ((36 : Nat) : Int) + 90) && (tg 36 90 == 126)) = true := by decide
theorem br_36_m23 : (decide (0 ≤ ((36 : Nat) : Int) + (-23)) && (tg 36 (-23) == 13)) = true := by decide
theorem br_36_m32 : (decide (0 ≤ ((36 : Nat) : Int) + (-32)) && (tg 36 (-32) == 4)) = true := by decide
theorem br_37_12 : (decide (0 ≤ ((37 : Nat) : Int) + 12) && (tg 37 12 == 49)) = true := by decide
theorem br_37_14 : (decide (0 ≤ ((37 : Nat) : Int) + 14) && (tg 37 14 == 51)) = true := by decide
theorem br_37_15 : (decide (0 ≤ ((37 : Nat) : Int) + 15) && (tg 37 15 == 52)) = true := by decide
theorem br_37_18 : (decide (0 ≤ ((37 : Nat) : Int) + 18) && (tg 37 18 == 55)) = true := by decide
theorem br_37_19 : (decide (0 ≤ ((37 : Nat) : Int) + 19) && (tg 37 19 == 56)) = true := by decide
theorem br_37_26 : (decide (0 ≤ ((37 : Nat) : Int) + 26) && (tg 37 26 == 63)) = true := by decide
theorem br_37_39 : (decide (0 ≤ ((37 : Nat) : Int) + 39) && (tg 37 39 == 76)) = true := by decide
theorem br_37_9 : (decide (0 ≤ ((37 : Nat) : Int) + 9) && (tg 37 9 == 46)) = true := by decide
theorem br_37_m31 : (decide (0 ≤ ((37 : Nat) : Int) + (-31)) && (tg 37 (-31) == 6)) = true := by decide
theorem br_380_1031 : (decide (0 ≤ ((380 : Nat) : Int) + 1031) && (tg 380 1031 == 1411)) = true := by decide
theorem br_381_7 : (decide (0 ≤ ((381 : Nat) : Int) + 7) && (tg 381 7 == 388)) = true := by decide
theorem br_385_5 : (decide (0 ≤ ((385 : Nat) : Int) + 5) && (tg 385 5 == 390)) = true := by decide
theorem br_38_144 : (decide (0 ≤ ((38 : Nat) : Int) + 144) && (tg 38 144 == 182)) = true := by decide
theorem br_38_30 : (decide (0 ≤ ((38 : Nat) : Int) + 30) && (tg 38 30 == 68)) = true := by decide
theorem br_38_32 : (decide (0 ≤ ((38 : Nat) : Int) + 32) && (tg 38 32 == 70)) = true := by decide
theorem br_38_60 : (decide (0 ≤ ((38 : Nat) : Int) + 60) && (tg 38 60 == 98)) = true := by decide
theorem br_38_7 : (decide (0 ≤ ((38 : Nat) : Int) + 7) && (tg 38 7 == 45)) = true := by decide
theorem br_394_m32 : (decide (0 ≤ ((394 : Nat) : Int) + (-32)) && (tg 394 (-32) == 362)) = true := by decide
theorem br_39_12 : (decide (0 ≤ ((39 : Nat) : Int) + 12) && (tg 39 12 == 51)) = true := by decide
theorem br_39_16 : (decide (0 ≤ ((39 : Nat) : Int) + 16) && (tg 39 16 == 55)) = true := by decide
theorem br_39_21 : (decide (0 ≤ ((39 : Nat) : Int) + 21) && (tg 39 21 == 60)) = true := by decide
theorem br_39_29 : (decide (0 ≤ ((39 : Nat) : Int) + 29) && (tg 39 29 == 68)) = true := by decide
theorem br_39_31 : (decide (0 ≤ ((39 : Nat) : Int) + 31) && (tg 39 31 == 70)) = true := by decide
theorem br_39_40 : (decide (0 ≤ ((39 : Nat) : Int) + 40) && (tg 39 40 == 79)) = true := by decide
theorem br_39_43 : (decide (0 ≤ ((39 : Nat) : Int) + 43) && (tg 39 43 == 82)) = true := by decide
theorem br_39_7 : (decide (0 ≤ ((39 : Nat) : Int) + 7) && (tg 39 7 == 46)) = true := by decide
theorem br_3_10 : (decide (0 ≤ ((3 : Nat) : Int) + 10) && (tg 3 10 == 13)) = true := by decide
theorem br_3_14 : (decide (0 ≤ ((3 : Nat) : Int) + 14) && (tg 3 14 == 17)) = true := by decide
theorem br_402_44 : (decide (0 ≤ ((402 : Nat) : Int) + 44) && (tg 402 44 == 446)) = true := by decide
theorem br_40_15 : (decide (0 ≤ ((40 : Nat) : Int) + 15) && (tg 40 15 == 55)) = true := by decide
theorem br_40_18 : (decide (0 ≤ ((40 : Nat) : Int) + 18) && (tg 40 18 == 58)) = true := by decide
theorem br_413_998 : (decide (0 ≤ ((413 : Nat) : Int) + 998) && (tg 413 998 == 1411)) = true := by decide
theorem br_418_22 : (decide (0 ≤ ((418 : Nat) : Int) + 22) && (tg 418 22 == 440)) = true := by decide
theorem br_41_106 : (decide (0 ≤ ((41 : Nat) : Int) + 106) && (tg 41 106 == 147)) = true := by decide
theorem br_41_20 : (decide (0 ≤ ((41 : Nat) : Int) + 20) && (tg 41 20 == 61)) = true := by decide
theorem br_41_22 : (decide (0 ≤ ((41 : Nat) : Int) + 22) && (tg 41 22 == 63)) = true := by decide
theorem br_41_24 : (decide (0 ≤ ((41 : Nat) : Int) + 24) && (tg 41 24 == 65)) = true := by decide
theorem br_41_27 : (decide (0 ≤ ((41 : Nat) : Int) + 27) && (tg 41 27 == 68)) = true := by decide
theorem br_41_35 : (decide (0 ≤ ((41 : Nat) : Int) + 35) && (tg 41 35 == 76)) = true := by decide
theorem br_41_m36 : (decide (0 ≤ ((41 : Nat) : Int) + (-36)) && (tg 41 (-36) == 5)) = true := by decide
theorem br_42_100 : (decide (0 ≤ ((42 : Nat) : Int) + 100) && (tg 42 100 == 142)) = true := by decide
theorem br_42_36 : (decide (0 ≤ ((42 : Nat) : Int) + 36) && (tg 42 36 == 78)) = true := by decide
theorem br_42_67 : (decide (0 ≤ ((42 : Nat) : Int) + 67) && (tg 42 67 == 109)) = true := by decide
theorem br_42_7 : (decide (0 ≤ ((42 : Nat) : Int) + 7) && (tg 42 7 == 49)) = true := by decide
theorem br_437_m22 : (decide (0 ≤ ((437 : Nat) : Int) + (-22)) && (tg 437 (-22) == 415)) = true := by decide
theorem br_43_16 : (decide (0 ≤ ((43 : Nat) : Int) + 16) && (tg 43 16 == 59)) = true := by decide
theorem br_43_20 : (decide (0 ≤ ((43 : Nat) : Int) + 20) && (tg 43 20 == 63)) = true := by decide
theorem br_43_4 : (decide (0 ≤ ((43 : Nat) : Int) + 4) && (tg 43 4 == 47)) = true := by decide
theorem br_43_7 : (decide (0 ≤ ((43 : Nat) : Int) + 7) && (tg 43 7 == 50)) = true := by decide
theorem br_43_m21 : (decide (0 ≤ ((43 : Nat) : Int) + (-21)) && (tg 43 (-21) == 22)) = true := by decide
theorem br_443_m44 : (decide (0 ≤ ((443 : Nat) : Int) + (-44)) && (tg 443 (-44) == 399)) = true := by decide
theorem br_446_965 : (decide (0 ≤ ((446 : Nat) : Int) + 965) && (tg 446 965 == 1411)) = true := by decide
theorem br_44_10 : (decide (0 ≤ ((44 : Nat) : Int) + 10) && (tg 44 10 == 54)) = true := by decide
theorem br_44_12 : (decide (0 ≤ ((44 : Nat) : Int) + 12) && (tg 44 12 == 56)) = true := by decide
theorem br_44_13 : (decide (0 ≤ ((44 : Nat) : Int) + 13) && (tg 44 13 == 57)) = true := by decide
theorem br_44_5 : (decide (0 ≤ ((44 : Nat) : Int) + 5) && (tg 44 5 == 49)) = true := by decide
theorem br_44_7 : (decide (0 ≤ ((44 : Nat) : Int) + 7) && (tg 44 7 == 51)) = true := by decide
theorem br_451_16 : (decide (0 ≤ ((451 : Nat) : Int) + 16) && (tg 451 16 == 467)) = true := by decide
theorem br_45_6 : (decide (0 ≤ ((45 : Nat) : Int) + 6) && (tg 45 6 == 51)) = true := by decide
theorem br_45_66 : (decide (0 ≤ ((45 : Nat) : Int) + 66) && (tg 45 66 == 111)) = true := by decide
theorem br_45_7 : (decide (0 ≤ ((45 : Nat) : Int) + 7) && (tg 45 7 == 52)) = true := by decide
theorem br_45_83 : (decide (0 ≤ ((45 : Nat) : Int) + 83) && (tg 45 83 == 128)) = true := by decide
theorem br_464_m16 : (decide (0 ≤ ((464 : Nat) : Int) + (-16)) && (tg 464 (-16) == 448)) = true := by decide
theorem br_46_15 : (decide (0 ≤ ((46 : Nat) : Int) + 15) && (tg 46 15 == 61)) = true := by decide
theorem br_46_21 : (decide (0 ≤ ((46 : Nat) : Int) + 21) && (tg 46 21 == 67)) = true := by decide
theorem br_46_24 : (decide (0 ≤ ((46 : Nat) : Int) + 24) && (tg 46 24 == 70)) = true := by decide
theorem br_46_28 : (decide (0 ≤ ((46 : Nat) : Int) + 28) && (tg 46 28 == 74)) = true := by decide
theorem br_46_50 : (decide (0 ≤ ((46 : Nat) : Int) + 50) && (tg 46 50 == 96)) = true := by decide
theorem br_46_7 : (decide (0 ≤ ((46 : Nat) : Int) + 7) && (tg 46 7 == 53)) = true := by decide
theorem br_47_4 : (decide (0 ≤ ((47 : Nat) : Int) + 4) && (tg 47 4 == 51)) = true := by decide
theorem br_47_7 : (decide (0 ≤ ((47 : Nat) : Int) + 7) && (tg 47 7 == 54)) = true := by decide
theorem br_47_95 : (decide (0 ≤ ((47 : Nat) : Int) + 95) && (tg 47 95 == 142)) = true := by decide
theorem br_47_m40 : (decide (0 ≤ ((47 : Nat) : Int) + (-40)) && (tg 47 (-40) == 7)) = true := by decide
theorem br_489_922 : (decide (0 ≤ ((489 : Nat) : Int) + 922) && (tg 489 922 == 1411)) = true := by decide
theorem br_48_10 : (decide (0 ≤ ((48 : Nat) : Int) + 10) && (tg 48 10 == 58)) = true := by decide
theorem br_48_11 : (decide (0 ≤ ((48 : Nat) : Int) + 11) && (tg 48 11 == 59)) = true := by decide
theorem br_48_16 : (decide (0 ≤ ((48 : Nat) : Int) + 16) && (tg 48 16 == 64)) = true := by decide
theorem br_48_28 : (decide (0 ≤ ((48 : Nat) : Int) + 28) && (tg 48 28 == 76)) = true := by decide
theorem br_48_7 : (decide (0 ≤ ((48 : Nat) : Int) + 7) && (tg 48 7 == 55)) = true := by decide
theorem br_48_99 : (decide (0 ≤ ((48 : Nat) : Int) + 99) && (tg 48 99 == 147)) = true := by decide
theorem br_48_m21 : (decide (0 ≤ ((48 : Nat) : Int) + (-21)) && (tg 48 (-21) == 27)) = true := by decide
theorem br_48_m43 : (decide (0 ≤ ((48 : Nat) : Int) + (-43)) && (tg 48 (-43) == 5)) = true := by decide
theorem br_49_29 : (decide (0 ≤ ((49 : Nat) : Int) + 29) && (tg 49 29 == 78)) = true := by decide
theorem br_49_7 : (decide (0 ≤ ((49 : Nat) : Int) + 7) && (tg 49 7 == 56)) = true := by decide
theorem br_49_71 : (decide (0 ≤ ((49 : Nat) : Int) + 71) && (tg 49 71 == 120)) = true := by decide
theorem br_49_m45 : (decide (0 ≤ ((49 : Nat) : Int) + (-45)) && (tg 49 (-45) == 4)) = true := by decide
theorem br_4_10 : (decide (0 ≤ ((4 : Nat) : Int) + 10) && (tg 4 10 == 14)) = true := by decide
theorem br_4_11 : (decide (0 ≤ ((4 : Nat) : Int) + 11) && (tg 4 11 == 15)) = true := by decide
theorem br_4_12 : (decide (0 ≤ ((4 : Nat) : Int) + 12) && (tg 4 12 == 16)) = true := by decide
theorem br_4_13 : (decide (0 ≤ ((4 : Nat) : Int) + 13) && (tg 4 13 == 17)) = true := by decide
theorem br_4_136 : (decide (0 ≤ ((4 : Nat) : Int) + 136) && (tg 4 136 == 140)) = true := by decide
theorem br_4_19 : (decide (0 ≤ ((4 : Nat) : Int) + 19) && (tg 4 19 == 23)) = true := by decide
theorem br_4_4 : (decide (0 ≤ ((4 : Nat) : Int) + 4) && (tg 4 4 == 8)) = true := by decide
theorem br_4_7 : (decide (0 ≤ ((4 : Nat) : Int) + 7) && (tg 4 7 == 11)) = true := by decide
theorem br_50_132 : (decide (0 ≤ ((50 : Nat) : Int) + 132) && (tg 50 132 == 182)) = true := by decide
theorem br_50_25 : (decide (0 ≤ ((50 : Nat) : Int) + 25) && (tg 50 25 == 75)) = true := by decide
theorem br_50_4 : (decide (0 ≤ ((50 : Nat) : Int) + 4) && (tg 50 4 == 54)) = true := by decide
theorem br_50_7 : (decide (0 ≤ ((50 : Nat) : Int) + 7) && (tg 50 7 == 57)) = true := by decide
theorem br_51_14 : (decide (0 ≤ ((51 : Nat) : Int) + 14) && (tg 51 14 == 65)) = true := by decide
theorem br_51_15 : (decide (0 ≤ ((51 : Nat) : Int) + 15) && (tg 51 15 == 66)) = true := by decide
theorem br_51_28 : (decide (0 ≤ ((51 : Nat) : Int) + 28) && (tg 51 28 == 79)) = true := by decide
theorem br_51_30 : (decide (0 ≤ ((51 : Nat) : Int) + 30) && (tg 51 30 == 81)) = true := by decide
theorem br_51_31 : (decide (0 ≤ ((51 : Nat) : Int) + 31) && (tg 51 31 == 82)) = true := by decide
theorem br_51_m44 : (decide (0 ≤ ((51 : Nat) : Int) + (-44)) && (tg 51 (-44) == 7)) = true := by decide
theorem br_522_889 : (decide (0 ≤ ((522 : Nat) : Int) + 889) && (tg 522 889 == 1411)) = true := by decide
theorem br_52_12 : (decide (0 ≤ ((52 : Nat) : Int) + 12) && (tg 52 12 == 64)) = true := by decide
theorem br_52_18 : (decide (0 ≤ ((52 : Nat) : Int) + 18) && (tg 52 18 == 70)) = true := by decide
theorem br_52_4 : (decide (0 ≤ ((52 : Nat) : Int) + 4) && (tg 52 4 == 56)) = true := by decide
theorem br_52_44 : (decide (0 ≤ ((52 : Nat) : Int) + 44) && (tg 52 44 == 96)) = true := by decide
theorem br_52_46 : (decide (0 ≤ ((52 : Nat) : Int) + 46) && (tg 52 46 == 98)) = true := by decide
theorem br_52_76 : (decide (0 ≤ ((52 : Nat) : Int) + 76) && (tg 52 76 == 128)) = true := by decide
theorem br_52_m32 : (decide (0 ≤ ((52 : Nat) : Int) + (-32)) && (tg 52 (-32) == 20)) = true := by decide
theorem br_53_4 : (decide (0 ≤ ((53 : Nat) : Int) + 4) && (tg 53 4 == 57)) = true := by decide
theorem br_53_68 : (decide (0 ≤ ((53 : Nat) : Int) + 68) && (tg 53 68 == 121)) = true := by decide
theorem br_53_7 : (decide (0 ≤ ((53 : Nat) : Int) + 7) && (tg 53 7 == 60)) = true := by decide
theorem br_53_9 : (decide (0 ≤ ((53 : Nat) : Int) + 9) && (tg 53 9 == 62)) = true := by decide
theorem br_545_866 : (decide (0 ≤ ((545 : Nat) : Int) + 866) && (tg 545 866 == 1411)) = true := by decide
theorem br_54_10 : (decide (0 ≤ ((54 : Nat) : Int) + 10) && (tg 54 10 == 64)) = true := by decide
theorem br_54_24 : (decide (0 ≤ ((54 : Nat) : Int) + 24) && (tg 54 24 == 78)) = true := by decide
theorem br_54_48 : (decide (0 ≤ ((54 : Nat) : Int) + 48) && (tg 54 48 == 102)) = true := by decide
theorem br_54_5 : (decide (0 ≤ ((54 : Nat) : Int) + 5) && (tg 54 5 == 59)) = true := by decide
theorem br_54_6 : (decide (0 ≤ ((54 : Nat) : Int) + 6) && (tg 54 6 == 60)) = true := by decide
theorem br_54_m34 : (decide (0 ≤ ((54 : Nat) : Int) + (-34)) && (tg 54 (-34) == 20)) = true := by decide
theorem br_55_20 : (decide (0 ≤ ((55 : Nat) : Int) + 20) && (tg 55 20 == 75)) = true := by decide
theorem br_55_37 : (decide (0 ≤ ((55 : Nat) : Int) + 37) && (tg 55 37 == 92)) = true := by decide
theorem br_55_7 : (decide (0 ≤ ((55 : Nat) : Int) + 7) && (tg 55 7 == 62)) = true := by decide
theorem br_56_10 : (decide (0 ≤ ((56 : Nat) : Int) + 10) && (tg 56 10 == 66)) = true := by decide
theorem br_56_7 : (decide (0 ≤ ((56 : Nat) : Int) + 7) && (tg 56 7 == 63)) = true := by decide
theorem br_56_m43 : (decide (0 ≤ ((56 : Nat) : Int) + (-43)) && (tg 56 (-43) == 13)) = true := by decide
theorem br_57_13 : (decide (0 ≤ ((57 : Nat) : Int) + 13) && (tg 57 13 == 70)) = true := by decide
theorem br_57_4 : (decide (0 ≤ ((57 : Nat) : Int) + 4) && (tg 57 4 == 61)) = true := by decide
theorem br_57_52 : (decide (0 ≤ ((57 : Nat) : Int) + 52) && (tg 57 52 == 109)) = true := by decide
theorem br_57_55 : (decide (0 ≤ ((57 : Nat) : Int) + 55) && (tg 57 55 == 112)) = true := by decide
theorem br_57_7 : (decide (0 ≤ ((57 : Nat) : Int) + 7) && (tg 57 7 == 64)) = true := by decide
theorem br_57_m21 : (decide (0 ≤ ((57 : Nat) : Int) + (-21)) && (tg 57 (-21) == 36)) = true := by decide
theorem br_58_32 : (decide (0 ≤ ((58 : Nat) : Int) + 32) && (tg 58 32 == 90)) = true := by decide
theorem br_58_4 : (decide (0 ≤ ((58 : Nat) : Int) + 4) && (tg 58 4 == 62)) = true := by decide
theorem br_58_5 : (decide (0 ≤ ((58 : Nat) : Int) + 5) && (tg 58 5 == 63)) = true := by decide
theorem br_58_7 : (decide (0 ≤ ((58 : Nat) : Int) + 7) && (tg 58 7 == 65)) = true := by decide
theorem br_58_m38 : (decide (0 ≤ ((58 : Nat) : Int) + (-38)) && (tg 58 (-38) == 20)) = true := by decide
theorem br_598_813 : (decide (0 ≤ ((598 : Nat) : Int) + 813) && (tg 598 813 == 1411)) = true := by decide
theorem br_59_4 : (decide (0 ≤ ((59 : Nat) : Int) + 4) && (tg 59 4 == 63)) = true := by decide
theorem br_59_m47 : (decide (0 ≤ ((59 : Nat) : Int) + (-47)) && (tg 59 (-47) == 12)) = true := by decide
theorem br_5_10 : (decide (0 ≤ ((5 : Nat) : Int) + 10) && (tg 5 10 == 15)) = true := by decide
theorem br_5_101 : (decide (0 ≤ ((5 : Nat) : Int) + 101) && (tg 5 101 == 106)) = true := by decide
theorem br_5_13 : (decide (0 ≤ ((5 : Nat) : Int) + 13) && (tg 5 13 == 18)) = true := by decide
theorem br_5_23 : (decide (0 ≤ ((5 : Nat) : Int) + 23) && (tg 5 23 == 28)) = true := by decide
theorem br_5_4 : (decide (0 ≤ ((5 : Nat) : Int) + 4) && (tg 5 4 == 9)) = true := by decide
theorem br_5_63 : (decide (0 ≤ ((5 : Nat) : Int) + 63) && (tg 5 63 == 68)) = true := by decide
theorem br_5_69 : (decide (0 ≤ ((5 : Nat) : Int) + 69) && (tg 5 69 == 74)) = true := by decide
theorem br_5_7 : (decide (0 ≤ ((5 : Nat) : Int) + 7) && (tg 5 7 == 12)) = true := by decide
theorem br_60_18 : (decide (0 ≤ ((60 : Nat) : Int) + 18) && (tg 60 18 == 78)) = true := by decide
theorem br_60_4 : (decide (0 ≤ ((60 : Nat) : Int) + 4) && (tg 60 4 == 64)) = true := by decide
theorem br_60_7 : (decide (0 ≤ ((60 : Nat) : Int) + 7) && (tg 60 7 == 67)) = true := by decide
theorem br_61_11 : (decide (0 ≤ ((61 : Nat) : Int) + 11) && (tg 61 11 == 72)) = true := by decide
theorem br_61_9 : (decide (0 ≤ ((61 : Nat) : Int) + 9) && (tg 61 9 == 70)) = true := by decide
theorem br_61_m49 : (decide (0 ≤ ((61 : Nat) : Int) + (-49)) && (tg 61 (-49) == 12)) = true := by decide
theorem br_62_12 : (decide (0 ≤ ((62 : Nat) : Int) + 12) && (tg 62 12 == 74)) = true := by decide
theorem br_62_13 : (decide (0 ≤ ((62 : Nat) : Int) + 13) && (tg 62 13 == 75)) = true := by decide
theorem br_62_23 : (decide (0 ≤ ((62 : Nat) : Int) + 23) && (tg 62 23 == 85)) = true := by decide
theorem br_62_5 : (decide (0 ≤ ((62 : Nat) : Int) + 5) && (tg 62 5 == 67)) = true := by decide
theorem br_62_m24 : (decide (0 ≤ ((62 : Nat) : Int) + (-24)) && (tg 62 (-24) == 38)) = true := by decide
theorem br_631_780 : (decide (0 ≤ ((631 : Nat) : Int) + 780) && (tg 631 780 == 1411)) = true := by decide
theorem br_63_12 : (decide (0 ≤ ((63 : Nat) : Int) + 12) && (tg 63 12 == 75)) = true := by decide
theorem br_63_19 : (decide (0 ≤ ((63 : Nat) : Int) + 19) && (tg 63 19 == 82)) = true := by decide
theorem br_63_25 : (decide (0 ≤ ((63 : Nat) : Int) + 25) && (tg 63 25 == 88)) = true := by decide
theorem br_63_42 : (decide (0 ≤ ((63 : Nat) : Int) + 42) && (tg 63 42 == 105)) = true := by decide
theorem br_64_22 : (decide (0 ≤ ((64 : Nat) : Int) + 22) && (tg 64 22 == 86)) = true := by decide
theorem br_64_38 : (decide (0 ≤ ((64 : Nat) : Int) + 38) && (tg 64 38 == 102)) = true := by decide
theorem br_64_4 : (decide (0 ≤ ((64 : Nat) : Int) + 4) && (tg 64 4 == 68)) = true := by decide
theorem br_64_7 : (decide (0 ≤ ((64 : Nat) : Int) + 7) && (tg 64 7 == 71)) = true := by decide
theorem br_64_m31 : (decide (0 ≤ ((64 : Nat) : Int) + (-31)) && (tg 64 (-31) == 33)) = true := by decide
theorem br_654_757 : (decide (0 ≤ ((654 : Nat) : Int) + 757) && (tg 654 757 == 1411)) = true := by decide
theorem br_65_40 : (decide (0 ≤ ((65 : Nat) : Int) + 40) && (tg 65 40 == 105)) = true := by decide
theorem br_65_7 : (decide (0 ≤ ((65 : Nat) : Int) + 7) && (tg 65 7 == 72)) = true := by decide
theorem br_65_m27 : (decide (0 ≤ ((65 : Nat) : Int) + (-27)) && (tg 65 (-27) == 38)) = true := by decide
theorem br_65_m29 : (decide (0 ≤ ((65 : Nat) : Int) + (-29)) && (tg 65 (-29) == 36)) = true := by decide
theorem br_65_m63 : (decide (0 ≤ ((65 : Nat) : Int) + (-63)) && (tg 65 (-63) == 2)) = true := by decide
theorem br_66_15 : (decide (0 ≤ ((66 : Nat) : Int) + 15) && (tg 66 15 == 81)) = true := by decide
theorem br_66_45 : (decide (0 ≤ ((66 : Nat) : Int) + 45) && (tg 66 45 == 111)) = true := by decide
theorem br_66_7 : (decide (0 ≤ ((66 : Nat) : Int) + 7) && (tg 66 7 == 73)) = true := by decide
theorem br_66_m57 : (decide (0 ≤ ((66 : Nat) : Int) + (-57)) && (tg 66 (-57) == 9)) = true := by decide
theorem br_67_11 : (decide (0 ≤ ((67 : Nat) : Int) + 11) && (tg 67 11 == 78)) = true := by decide
theorem br_67_13 : (decide (0 ≤ ((67 : Nat) : Int) + 13) && (tg 67 13 == 80)) = true := by decide
theorem br_67_16 : (decide (0 ≤ ((67 : Nat) : Int) + 16) && (tg 67 16 == 83)) = true := by decide
theorem br_67_5 : (decide (0 ≤ ((67 : Nat) : Int) + 5) && (tg 67 5 == 72)) = true := by decide
theorem br_67_6 : (decide (0 ≤ ((67 : Nat) : Int) + 6) && (tg 67 6 == 73)) = true := by decide
theorem br_67_m33 : (decide (0 ≤ ((67 : Nat) : Int) + (-33)) && (tg 67 (-33) == 34)) = true := by decide
theorem br_68_10 : (decide (0 ≤ ((68 : Nat) : Int) + 10) && (tg 68 10 == 78)) = true := by decide
theorem br_68_18 : (decide (0 ≤ ((68 : Nat) : Int) + 18) && (tg 68 18 == 86)) = true := by decide
theorem br_68_25 : (decide (0 ≤ ((68 : Nat) : Int) + 25) && (tg 68 25 == 93)) = true := by decide
theorem br_68_4 : (decide (0 ≤ ((68 : Nat) : Int) + 4) && (tg 68 4 == 72)) = true := by decide
theorem br_68_7 : (decide (0 ≤ ((68 : Nat) : Int) + 7) && (tg 68 7 == 75)) = true := by decide
theorem br_697_714 : (decide (0 ≤ ((697 : Nat) : Int) + 714) && (tg 697 714 == 1411)) = true := by decide
theorem br_69_119 : (decide (0 ≤ ((69 : Nat) : Int) + 119) && (tg 69 119 == 188)) = true := by decide
theorem br_69_m57 : (decide (0 ≤ ((69 : Nat) : Int) + (-57)) && (tg 69 (-57) == 12)) = true := by decide
theorem br_6_10 : (decide (0 ≤ ((6 : Nat) : Int) + 10) && (tg 6 10 == 16)) = true := by decide
theorem br_6_12 : (decide (0 ≤ ((6 : Nat) : Int) + 12) && (tg 6 12 == 18)) = true := by decide
theorem br_6_14 : (decide (0 ≤ ((6 : Nat) : Int) + 14) && (tg 6 14 == 20)) = true := by decide
theorem br_6_24 : (decide (0 ≤ ((6 : Nat) : Int) + 24) && (tg 6 24 == 30)) = true := by decide
theorem br_6_4 : (decide (0 ≤ ((6 : Nat) : Int) + 4) && (tg 6 4 == 10)) = true := by decide
theorem br_6_5 : (decide (0 ≤ ((6 : Nat) : Int) + 5) && (tg 6 5 == 11)) = true := by decide
theorem br_6_7 : (decide (0 ≤ ((6 : Nat) : Int) + 7) && (tg 6 7 == 13)) = true := by decide
theorem br_70_26 : (decide (0 ≤ ((70 : Nat) : Int) + 26) && (tg 70 26 == 96)) = true := by decide
theorem br_70_4 : (decide (0 ≤ ((70 : Nat) : Int) + 4) && (tg 70 4 == 74)) = true := by decide
theorem br_70_42 : (decide (0 ≤ ((70 : Nat) : Int) + 42) && (tg 70 42 == 112)) = true := by decide
theorem br_70_8 : (decide (0 ≤ ((70 : Nat) : Int) + 8) && (tg 70 8 == 78)) = true := by decide
theorem br_71_38 : (decide (0 ≤ ((71 : Nat) : Int) + 38) && (tg 71 38 == 109)) = true := by decide
theorem br_71_49 : (decide (0 ≤ ((71 : Nat) : Int) + 49) && (tg 71 49 == 120)) = true := by decide
theorem br_71_50 : (decide (0 ≤ ((71 : Nat) : Int) + 50) && (tg 71 50 == 121)) = true := by decide
theorem br_71_7 : (decide (0 ≤ ((71 : Nat) : Int) + 7) && (tg 71 7 == 78)) = true := by decide
theorem br_71_m29 : (decide (0 ≤ ((71 : Nat) : Int) + (-29)) && (tg 71 (-29) == 42)) = true := by decide
theorem br_71_m54 : (decide (0 ≤ ((71 : Nat) : Int) + (-54)) && (tg 71 (-54) == 17)) = true := by decide
theorem br_71_m69 : (decide (0 ≤ ((71 : Nat) : Int) + (-69)) && (tg 71 (-69) == 2)) = true := by decide
theorem br_72_21 : (decide (0 ≤ ((72 : Nat) : Int) + 21) && (tg 72 21 == 93)) = true := by decide
theorem br_72_4 : (decide (0 ≤ ((72 : Nat) : Int) + 4) && (tg 72 4 == 76)) = true := by decide
theorem br_73_13 : (decide (0 ≤ ((73 : Nat) : Int) + 13) && (tg 73 13 == 86)) = true := by decide
theorem br_73_17 : (decide (0 ≤ ((73 : Nat) : Int) + 17) && (tg 73 17 == 90)) = true := by decide
theorem br_73_7 : (decide (0 ≤ ((73 : Nat) : Int) + 7) && (tg 73 7 == 80)) = true := by decide
theorem br_73_m39 : (decide (0 ≤ ((73 : Nat) : Int) + (-39)) && (tg 73 (-39) == 34)) = true := by decide
theorem br_73_m54 : (decide (0 ≤ ((73 : Nat) : Int) + (-54)) && (tg 73 (-54) == 19)) = true := by decide
theorem br_74_31 : (decide (0 ≤ ((74 : Nat) : Int) + 31) && (tg 74 31 == 105)) = true := by decide
theorem br_74_5 : (decide (0 ≤ ((74 : Nat) : Int) + 5) && (tg 74 5 == 79)) = true := by decide
theorem br_750_661 : (decide (0 ≤ ((750 : Nat) : Int) + 661) && (tg 750 661 == 1411)) = true := by decide
theorem br_75_27 : (decide (0 ≤ ((75 : Nat) : Int) + 27) && (tg 75 27 == 102)) = true := by decide
theorem br_75_40 : (decide (0 ≤ ((75 : Nat) : Int) + 40) && (tg 75 40 == 115)) = true := by decide
theorem br_75_7 : (decide (0 ≤ ((75 : Nat) : Int) + 7) && (tg 75 7 == 82)) = true := by decide
theorem br_75_m36 : (decide (0 ≤ ((75 : Nat) : Int) + (-36)) && (tg 75 (-36) == 39)) = true := by decide
theorem br_76_20 : (decide (0 ≤ ((76 : Nat) : Int) + 20) && (tg 76 20 == 96)) = true := by decide
theorem br_76_5 : (decide (0 ≤ ((76 : Nat) : Int) + 5) && (tg 76 5 == 81)) = true := by decide
theorem br_76_7 : (decide (0 ≤ ((76 : Nat) : Int) + 7) && (tg 76 7 == 83)) = true := by decide
theorem br_76_m29 : (decide (0 ≤ ((76 : Nat) : Int) + (-29)) && (tg 76 (-29) == 47)) = true := by decide
theorem br_76_m39 : (decide (0 ≤ ((76 : Nat) : Int) + (-39)) && (tg 76 (-39) == 37)) = true := by decide
theorem br_77_4 : (decide (0 ≤ ((77 : Nat) : Int) + 4) && (tg 77 4 == 81)) = true := by decide
theorem br_77_51 : (decide (0 ≤ ((77 : Nat) : Int) + 51) && (tg 77 51 == 128)) = true := by decide
theorem br_77_7 : (decide (0 ≤ ((77 : Nat) : Int) + 7) && (tg 77 7 == 84)) = true := by decide
theorem br_77_9 : (decide (0 ≤ ((77 : Nat) : Int) + 9) && (tg 77 9 == 86)) = true := by decide
theorem br_77_m70 : (decide (0 ≤ ((77 : Nat) : Int) + (-70)) && (tg 77 (-70) == 7)) = true := by decide
theorem br_78_m54 : (decide (0 ≤ ((78 : Nat) : Int) + (-54)) && (tg 78 (-54) == 24)) = true := by decide
theorem br_78_m66 : (decide (0 ≤ ((78 : Nat) : Int) + (-66)) && (tg 78 (-66) == 12)) = true := by decide
theorem br_79_103 : (decide (0 ≤ ((79 : Nat) : Int) + 103) && (tg 79 103 == 182)) = true := by decide
theorem br_79_5 : (decide (0 ≤ ((79 : Nat) : Int) + 5) && (tg 79 5 == 84)) = true := by decide
theorem br_79_73 : (decide (0 ≤ ((79 : Nat) : Int) + 73) && (tg 79 73 == 152)) = true := by decide
theorem br_79_8 : (decide (0 ≤ ((79 : Nat) : Int) + 8) && (tg 79 8 == 87)) = true := by decide
theorem br_79_m56 : (decide (0 ≤ ((79 : Nat) : Int) + (-56)) && (tg 79 (-56) == 23)) = true := by decide
theorem br_7_13 : (decide (0 ≤ ((7 : Nat) : Int) + 13) && (tg 7 13 == 20)) = true := by decide
theorem br_7_14 : (decide (0 ≤ ((7 : Nat) : Int) + 14) && (tg 7 14 == 21)) = true := by decide
theorem br_7_17 : (decide (0 ≤ ((7 : Nat) : Int) + 17) && (tg 7 17 == 24)) = true := by decide
theorem br_7_18 : (decide (0 ≤ ((7 : Nat) : Int) + 18) && (tg 7 18 == 25)) = true := by decide
theorem br_7_181 : (decide (0 ≤ ((7 : Nat) : Int) + 181) && (tg 7 181 == 188)) = true := by decide
theorem br_7_23 : (decide (0 ≤ ((7 : Nat) : Int) + 23) && (tg 7 23 == 30)) = true := by decide
theorem br_7_30 : (decide (0 ≤ ((7 : Nat) : Int) + 30) && (tg 7 30 == 37)) = true := by decide
theorem br_7_31 : (decide (0 ≤ ((7 : Nat) : Int) + 31) && (tg 7 31 == 38)) = true := by decide
theorem br_7_37 : (decide (0 ≤ ((7 : Nat) : Int) + 37) && (tg 7 37 == 44)) = true := by decide
theorem br_7_45 : (decide (0 ≤ ((7 : Nat) : Int) + 45) && (tg 7 45 == 52)) = true := by decide
theorem br_7_7 : (decide (0 ≤ ((7 : Nat) : Int) + 7) && (tg 7 7 == 14)) = true := by decide
theorem br_7_77 : (decide (0 ≤ ((7 : Nat) : Int) + 77) && (tg 7 77 == 84)) = true := by decide
theorem br_7_80 : (decide (0 ≤ ((7 : Nat) : Int) + 80) && (tg 7 80 == 87)) = true := by decide
theorem br_7_94 : (decide (0 ≤ ((7 : Nat) : Int) + 94) && (tg 7 94 == 101)) = true := by decide
theorem br_7_95 : (decide (0 ≤ ((7 : Nat) : Int) + 95) && (tg 7 95 == 102)) = true := by decide
theorem br_80_13 : (decide (0 ≤ ((80 : Nat) : Int) + 13) && (tg 80 13 == 93)) = true := by decide
theorem br_80_64 : (decide (0 ≤ ((80 : Nat) : Int) + 64) && (tg 80 64 == 144)) = true := by decide
theorem br_80_9 : (decide (0 ≤ ((80 : Nat) : Int) + 9) && (tg 80 9 == 89)) = true := by decide
theorem br_813_598 : (decide (0 ≤ ((813 : Nat) : Int) + 598) && (tg 813 598 == 1411)) = true := by decide
theorem br_81_4 : (decide (0 ≤ ((81 : Nat) : Int) + 4) && (tg 81 4 == 85)) = true := by decide
theorem br_81_7 : (decide (0 ≤ ((81 : Nat) : Int) + 7) && (tg 81 7 == 88)) = true := by decide
theorem br_81_8 : (decide (0 ≤ ((81 : Nat) : Int) + 8) && (tg 81 8 == 89)) = true := by decide
theorem br_81_m72 : (decide (0 ≤ ((81 : Nat) : Int) + (-72)) && (tg 81 (-72) == 9)) = true := by decide
theorem br_81_m79 : (decide (0 ≤ ((81 : Nat) : Int) + (-79)) && (tg 81 (-79) == 2)) = true := by decide
theorem br_82_43 : (decide (0 ≤ ((82 : Nat) : Int) + 43) && (tg 82 43 == 125)) = true := by decide
theorem br_82_m66 : (decide (0 ≤ ((82 : Nat) : Int) + (-66)) && (tg 82 (-66) == 16)) = true := by decide
theorem br_836_575 : (decide (0 ≤ ((836 : Nat) : Int) + 575) && (tg 836 575 == 1411)) = true := by decide
theorem br_83_10 : (decide (0 ≤ ((83 : Nat) : Int) + 10) && (tg 83 10 == 93)) = true := by decide
theorem br_83_29 : (decide (0 ≤ ((83 : Nat) : Int) + 29) && (tg 83 29 == 112)) = true := by decide
theorem br_83_4 : (decide (0 ≤ ((83 : Nat) : Int) + 4) && (tg 83 4 == 87)) = true := by decide
theorem br_849_562 : (decide (0 ≤ ((849 : Nat) : Int) + 562) && (tg 849 562 == 1411)) = true := by decide
theorem br_84_15 : (decide (0 ≤ ((84 : Nat) : Int) + 15) && (tg 84 15 == 99)) = true := by decide
theorem br_84_21 : (decide (0 ≤ ((84 : Nat) : Int) + 21) && (tg 84 21 == 105)) = true := by decide
theorem br_84_5 : (decide (0 ≤ ((84 : Nat) : Int) + 5) && (tg 84 5 == 89)) = true := by decide
theorem br_84_m82 : (decide (0 ≤ ((84 : Nat) : Int) + (-82)) && (tg 84 (-82) == 2)) = true := by decide
theorem br_85_4 : (decide (0 ≤ ((85 : Nat) : Int) + 4) && (tg 85 4 == 89)) = true := by decide
theorem br_85_m72 : (decide (0 ≤ ((85 : Nat) : Int) + (-72)) && (tg 85 (-72) == 13)) = true := by decide
theorem br_86_10 : (decide (0 ≤ ((86 : Nat) : Int) + 10) && (tg 86 10 == 96)) = true := by decide
theorem br_86_16 : (decide (0 ≤ ((86 : Nat) : Int) + 16) && (tg 86 16 == 102)) = true := by decide
theorem br_87_8 : (decide (0 ≤ ((87 : Nat) : Int) + 8) && (tg 87 8 == 95)) = true := by decide
theorem br_882_529 : (decide (0 ≤ ((882 : Nat) : Int) + 529) && (tg 882 529 == 1411)) = true := by decide
theorem br_88_10 : (decide (0 ≤ ((88 : Nat) : Int) + 10) && (tg 88 10 == 98)) = true := by decide
theorem br_89_7 : (decide (0 ≤ ((89 : Nat) : Int) + 7) && (tg 89 7 == 96)) = true := by decide
theorem br_89_m42 : (decide (0 ≤ ((89 : Nat) : Int) + (-42)) && (tg 89 (-42) == 47)) = true := by decide
theorem br_8_11 : (decide (0 ≤ ((8 : Nat) : Int) + 11) && (tg 8 11 == 19)) = true := by decide
theorem br_8_13 : (decide (0 ≤ ((8 : Nat) : Int) + 13) && (tg 8 13 == 21)) = true := by decide
theorem br_8_16 : (decide (0 ≤ ((8 : Nat) : Int) + 16) && (tg 8 16 == 24)) = true := by decide
theorem br_8_18 : (decide (0 ≤ ((8 : Nat) : Int) + 18) && (tg 8 18 == 26)) = true := by decide
theorem br_8_30 : (decide (0 ≤ ((8 : Nat) : Int) + 30) && (tg 8 30 == 38)) = true := by decide
theorem br_8_4 : (decide (0 ≤ ((8 : Nat) : Int) + 4) && (tg 8 4 == 12)) = true := by decide
theorem br_8_7 : (decide (0 ≤ ((8 : Nat) : Int) + 7) && (tg 8 7 == 15)) = true := by decide
theorem br_90_13 : (decide (0 ≤ ((90 : Nat) : Int) + 13) && (tg 90 13 == 103)) = true := by decide
theorem br_90_15 : (decide (0 ≤ ((90 : Nat) : Int) + 15) && (tg 90 15 == 105)) = true := by decide
theorem br_90_31 : (decide (0 ≤ ((90 : Nat) : Int) + 31) && (tg 90 31 == 121)) = true := by decide
theorem br_90_4 : (decide (0 ≤ ((90 : Nat) : Int) + 4) && (tg 90 4 == 94)) = true := by decide
theorem br_90_7 : (decide (0 ≤ ((90 : Nat) : Int) + 7) && (tg 90 7 == 97)) = true := by decide
theorem br_90_m21 : (decide (0 ≤ ((90 : Nat) : Int) + (-21)) && (tg 90 (-21) == 69)) = true := by decide
theorem br_91_4 : (decide (0 ≤ ((91 : Nat) : Int) + 4) && (tg 91 4 == 95)) = true := by decide
theorem br_91_7 : (decide (0 ≤ ((91 : Nat) : Int) + 7) && (tg 91 7 == 98)) = true := by decide
theorem br_91_8 : (decide (0 ≤ ((91 : Nat) : Int) + 8) && (tg 91 8 == 99)) = true := by decide
theorem br_92_15 : (decide (0 ≤ ((92 : Nat) : Int) + 15) && (tg 92 15 == 107)) = true := by decide
theorem br_92_23 : (decide (0 ≤ ((92 : Nat) : Int) + 23) && (tg 92 23 == 115)) = true := by decide
theorem br_92_8 : (decide (0 ≤ ((92 : Nat) : Int) + 8) && (tg 92 8 == 100)) = true := by decide
theorem br_93_36 : (decide (0 ≤ ((93 : Nat) : Int) + 36) && (tg 93 36 == 129)) = true := by decide
theorem br_93_4 : (decide (0 ≤ ((93 : Nat) : Int) + 4) && (tg 93 4 == 97)) = true := by decide
theorem br_93_m68 : (decide (0 ≤ ((93 : Nat) : Int) + (-68)) && (tg 93 (-68) == 25)) = true := by decide
theorem br_93_m77 : (decide (0 ≤ ((93 : Nat) : Int) + (-77)) && (tg 93 (-77) == 16)) = true := by decide
theorem br_945_466 : (decide (0 ≤ ((945 : Nat) : Int) + 466) && (tg 945 466 == 1411)) = true := by decide
theorem br_94_4 : (decide (0 ≤ ((94 : Nat) : Int) + 4) && (tg 94 4 == 98)) = true := by decide
theorem br_94_5 : (decide (0 ≤ ((94 : Nat) : Int) + 5) && (tg 94 5 == 99)) = true := by decide
theorem br_95_4 : (decide (0 ≤ ((95 : Nat) : Int) + 4) && (tg 95 4 == 99)) = true := by decide
theorem br_95_m79 : (decide (0 ≤ ((95 : Nat) : Int) + (-79)) && (tg 95 (-79) == 16)) = true := by decide
theorem br_96_16 : (decide (0 ≤ ((96 : Nat) : Int) + 16) && (tg 96 16 == 112)) = true := by decide
theorem br_96_5 : (decide (0 ≤ ((96 : Nat) : Int) + 5) && (tg 96 5 == 101)) = true := by decide
theorem br_96_m94 : (decide (0 ≤ ((96 : Nat) : Int) + (-94)) && (tg 96 (-94) == 2)) = true := by decide
theorem br_978_433 : (decide (0 ≤ ((978 : Nat) : Int) + 433) && (tg 978 433 == 1411)) = true := by decide
theorem br_97_5 : (decide (0 ≤ ((97 : Nat) : Int) + 5) && (tg 97 5 == 102)) = true := by decide
theorem br_97_8 : (decide (0 ≤ ((97 : Nat) : Int) + 8) && (tg 97 8 == 105)) = true := by decide
theorem br_97_m87 : (decide (0 ≤ ((97 : Nat) : Int) + (-87)) && (tg 97 (-87) == 10)) = true := by decide
theorem br_98_35 : (decide (0 ≤ ((98 : Nat) : Int) + 35) && (tg 98 35 == 133)) = true := by decide
theorem br_98_9 : (decide (0 ≤ ((98 : Nat) : Int) + 9) && (tg 98 9 == 107)) = true := by decide
theorem br_98_m94 : (decide (0 ≤ ((98 : Nat) : Int) + (-94)) && (tg 98 (-94) == 4)) = true := by decide
theorem br_99_13 : (decide (0 ≤ ((99 : Nat) : Int) + 13) && (tg 99 13 == 112)) = true := by decide
theorem br_99_14 : (decide (0 ≤ ((99 : Nat) : Int) + 14) && (tg 99 14 == 113)) = true := by decide
theorem br_99_m73 : (decide (0 ≤ ((99 : Nat) : Int) + (-73)) && (tg 99 (-73) == 26)) = true := by decide
theorem br_99_m93 : (decide (0 ≤ ((99 : Nat) : Int) + (-93)) && (tg 99 (-93) == 6)) = true := by decide
theorem br_99_m95 : (decide (0 ≤ ((99 : Nat) : Int) + (-95)) && (tg 99 (-95) == 4)) = true := by decide
theorem br_9_10 : (decide (0 ≤ ((9 : Nat) : Int) + 10) && (tg 9 10 == 19)) = true := by decide
theorem br_9_11 : (decide (0 ≤ ((9 : Nat) : Int) + 11) && (tg 9 11 == 20)) = true := by decide
theorem br_9_19 : (decide (0 ≤ ((9 : Nat) : Int) + 19) && (tg 9 19 == 28)) = true := by decide
theorem br_9_22 : (decide (0 ≤ ((9 : Nat) : Int) + 22) && (tg 9 22 == 31)) = true := by decide
theorem br_9_29 : (decide (0 ≤ ((9 : Nat) : Int) + 29) && (tg 9 29 == 38)) = true := by decide
theorem br_9_30 : (decide (0 ≤ ((9 : Nat) : Int) + 30) && (tg 9 30 == 39)) = true := by decide
theorem br_9_4 : (decide (0 ≤ ((9 : Nat) : Int) + 4) && (tg 9 4 == 13)) = true := by decide
theorem br_9_41 : (decide (0 ≤ ((9 : Nat) : Int) + 41) && (tg 9 41 == 50)) = true := by decide
theorem br_9_7 : (decide (0 ≤ ((9 : Nat) : Int) + 7) && (tg 9 7 == 16)) = true := by decide
theorem kb_10 : (Int8.ofInt 10).toInt32 = 10 := by decide
theorem kb_100 : (Int8.ofInt 100).toInt32 = 100 := by decide
theorem kb_101 : (Int8.ofInt 101).toInt32 = 101 := by decide
theorem kb_102 : (Int8.ofInt 102).toInt32 = 102 := by decide
theorem kb_105 : (Int8.ofInt 105).toInt32 = 105 := by decide
theorem kb_107 : (Int8.ofInt 107).toInt32 = 107 := by decide
theorem kb_108 : (Int8.ofInt 108).toInt32 = 108 := by decide
theorem kb_109 : (Int8.ofInt 109).toInt32 = 109 := by decide
theorem kb_110 : (Int8.ofInt 110).toInt32 = 110 := by decide
theorem kb_111 : (Int8.ofInt 111).toInt32 = 111 := by decide
theorem kb_112 : (Int8.ofInt 112).toInt32 = 112 := by decide
theorem kb_114 : (Int8.ofInt 114).toInt32 = 114 := by decide
theorem kb_115 : (Int8.ofInt 115).toInt32 = 115 := by decide
theorem kb_116 : (Int8.ofInt 116).toInt32 = 116 := by decide
theorem kb_117 : (Int8.ofInt 117).toInt32 = 117 := by decide
theorem kb_119 : (Int8.ofInt 119).toInt32 = 119 := by decide
theorem kb_12 : (Int8.ofInt 12).toInt32 = 12 := by decide
theorem kb_120 : (Int8.ofInt 120).toInt32 = 120 := by decide
theorem kb_121 : (Int8.ofInt 121).toInt32 = 121 := by decide
theorem kb_122 : (Int8.ofInt 122).toInt32 = 122 := by decide
theorem kb_14 : (Int8.ofInt 14).toInt32 = 14 := by decide
theorem kb_20 : (Int8.ofInt 20).toInt32 = 20 := by decide
theorem kb_24 : (Int8.ofInt 24).toInt32 = 24 := by decide
theorem kb_30 : (Int8.ofInt 30).toInt32 = 30 := by decide
theorem kb_32 : (Int8.ofInt 32).toInt32 = 32 := by decide
theorem kb_40 : (Int8.ofInt 40).toInt32 = 40 := by decide
theorem kb_44 : (Int8.ofInt 44).toInt32 = 44 := by decide
theorem kb_48 : (Int8.ofInt 48).toInt32 = 48 := by decide
theorem kb_57 : (Int8.ofInt 57).toInt32 = 57 := by decide
theorem kb_59 : (Int8.ofInt 59).toInt32 = 59 := by decide
theorem kb_6 : (Int8.ofInt 6).toInt32 = 6 := by decide
theorem kb_63 : (Int8.ofInt 63).toInt32 = 63 := by decide
theorem kb_64 : (Int8.ofInt 64).toInt32 = 64 := by decide
theorem kb_7 : (Int8.ofInt 7).toInt32 = 7 := by decide
theorem kb_72 : (Int8.ofInt 72).toInt32 = 72 := by decide
theorem kb_8 : (Int8.ofInt 8).toInt32 = 8 := by decide
theorem kb_9 : (Int8.ofInt 9).toInt32 = 9 := by decide
theorem kb_96 : (Int8.ofInt 96).toInt32 = 96 := by decide
theorem kb_97 : (Int8.ofInt 97).toInt32 = 97 := by decide
theorem kb_98 : (Int8.ofInt 98).toInt32 = 98 := by decide
theorem kb_99 : (Int8.ofInt 99).toInt32 = 99 := by decide
theorem kb_m10 : (Int8.ofInt (-10)).toInt32 = (-10) := by decide
theorem kb_m99 : (Int8.ofInt (-99)).toInt32 = (-99) := by decide
theorem ki_0 : Int32.ofInt 0 = 0 := by decide
theorem ki_1 : Int32.ofInt 1 = 1 := by decide
theorem ki_2 : Int32.ofInt 2 = 2 := by decide
theorem ki_3 : Int32.ofInt 3 = 3 := by decide
theorem ki_4 : Int32.ofInt 4 = 4 := by decide
theorem ki_5 : Int32.ofInt 5 = 5 := by decide
theorem ki_6 : Int32.ofInt 6 = 6 := by decide
theorem ki_m1 : Int32.ofInt (-1) = (-1) := by decide
theorem ks_1300 : (Int16.ofInt 1300).toInt32 = 1300 := by decide
theorem ks_160 : (Int16.ofInt 160).toInt32 = 160 := by decide
theorem ks_168 : (Int16.ofInt 168).toInt32 = 168 := by decide
theorem ks_216 : (Int16.ofInt 216).toInt32 = 216 := by decide
theorem ks_222 : (Int16.ofInt 222).toInt32 = 222 := by decide
theorem ks_240 : (Int16.ofInt 240).toInt32 = 240 := by decide
theorem ks_255 : (Int16.ofInt 255).toInt32 = 255 := by decide
theorem ks_262 : (Int16.ofInt 262).toInt32 = 262 := by decide
theorem ks_302 : (Int16.ofInt 302).toInt32 = 302 := by decide
theorem ks_400 : (Int16.ofInt 400).toInt32 = 400 := by decide
theorem ks_495 : (Int16.ofInt 495).toInt32 = 495 := by decide
theorem ks_650 : (Int16.ofInt 650).toInt32 = 650 := by decide
theorem ks_9100 : (Int16.ofInt 9100).toInt32 = 9100 := by decide
theorem ks_991 : (Int16.ofInt 991).toInt32 = 991 := by decide
theorem ks_999 : (Int16.ofInt 999).toInt32 = 999 := by decide
theorem ks_9999 : (Int16.ofInt 9999).toInt32 = 9999 := by decide
theorem ks_m1001 : (Int16.ofInt (-1001)).toInt32 = (-1001) := by decide
theorem ks_m1002 : (Int16.ofInt (-1002)).toInt32 = (-1002) := by decide
theorem ks_m1003 : (Int16.ofInt (-1003)).toInt32 = (-1003) := by decide
theorem ks_m1004 : (Int16.ofInt (-1004)).toInt32 = (-1004) := by decide
theorem ks_m650 : (Int16.ofInt (-650)).toInt32 = (-650) := by decide
theorem l1_X0_arrive : 1 ≤ mV mX0_arrive := by decide
theorem l1_X0_beginAnew : 1 ≤ mV mX0_beginAnew := by decide
theorem l1_X0_payDay : 1 ≤ mV mX0_payDay := by decide
theorem l1_X0_use : 1 ≤ mV mX0_use := by decide
theorem l1_X1_answer : 1 ≤ mV mX1_answer := by decide
theorem l1_X1_outcome : 1 ≤ mV mX1_outcome := by decide
theorem l1_X1_score : 1 ≤ mV mX1_score := by decide
theorem l1_X1_solve : 1 ≤ mV mX1_solve := by decide
theorem l1_X1_solveDay : 1 ≤ mV mX1_solveDay := by decide
theorem l1_X6_firstCallHour : 1 ≤ mV mX6_firstCallHour := by decide
theorem l1_X8_enact : 1 ≤ mV mX8_enact := by decide
theorem l1_X8_holdIn : 1 ≤ mV mX8_holdIn := by decide
theorem l1_X9_daysPaid : 1 ≤ mV mX9_daysPaid := by decide
theorem l1_X9_members : 1 ≤ mV mX9_members := by decide
theorem lv_J0_charAt_5068e_J0_isLatin1_aae02 : mV mJ0_isLatin1_aae02 + 1 ≤ mV mJ0_charAt_5068e ∧ mC mJ0_isLatin1_aae02 = 0 ∧ mS mJ0_isLatin1_aae02 = 0 := ⟨by decide, rfl, rfl⟩
theorem lv_J0_charAt_5068e_J1_charAt_3b067 : mV mJ1_charAt_3b067 + 1 ≤ mV mJ0_charAt_5068e ∧ mC mJ1_charAt_3b067 = 0 ∧ mS mJ1_charAt_3b067 = 0 := ⟨by decide, rfl, rfl⟩
theorem lv_J0_checkIndex_df160_J3_checkIndex_8e157 : mV mJ3_checkIndex_8e157 + 1 ≤ mV mJ0_checkIndex_df160 ∧ mC mJ3_checkIndex_8e157 = 0 ∧ mS mJ3_checkIndex_8e157 = 0 := ⟨by decide, rfl, rfl⟩
theorem lv_J0_length_8abf5_J0_coder_7d493 : mV mJ0_coder_7d493 + 1 ≤ mV mJ0_length_8abf5 ∧ mC mJ0_coder_7d493 = 0 ∧ mS mJ0_coder_7d493 = 0 := ⟨by decide, rfl, rfl⟩
theorem lv_J1_charAt_3b067_J0_checkIndex_df160 : mV mJ0_checkIndex_df160 + 1 ≤ mV mJ1_charAt_3b067 ∧ mC mJ0_checkIndex_df160 = 0 ∧ mS mJ0_checkIndex_df160 = 0 := ⟨by decide, rfl, rfl⟩
theorem lv_L_X10_away (n : Nat) (xs : Nat → Int32) : mV mX10_away + 1 ≤ mV (mL_law n xs) ∧ mC mX10_away = 0 ∧ mS mX10_away = 0 := ⟨Nat.le_of_ble_eq_true rfl, rfl, rfl⟩
theorem lv_L_X10_beside (n : Nat) (xs : Nat → Int32) : mV mX10_beside + 1 ≤ mV (mL_law n xs) ∧ mC mX10_beside = 0 ∧ mS mX10_beside = 0 := ⟨Nat.le_of_ble_eq_true rfl, rfl, rfl⟩
theorem lv_L_X10_binds (n : Nat) (xs : Nat → Int32) : mV mX10_binds + 1 ≤ mV (mL_law n xs) ∧ mC mX10_binds = 0 ∧ mS mX10_binds = 0 := ⟨Nat.le_of_ble_eq_true rfl, rfl, rfl⟩
theorem lv_L_X10_called (n : Nat) (xs : Nat → Int32) : mV mX10_called + 1 ≤ mV (mL_law n xs) ∧ mC mX10_called = 0 ∧ mS mX10_called = 0 := ⟨Nat.le_of_ble_eq_true rfl, rfl, rfl⟩
theorem lv_L_X10_clash (n : Nat) (xs : Nat → Int32) : mV mX10_clash + 1 ≤ mV (mL_law n xs) ∧ mC mX10_clash = 0 ∧ mS mX10_clash = 0 := ⟨Nat.le_of_ble_eq_true rfl, rfl, rfl⟩
theorem lv_L_X10_count (n : Nat) (xs : Nat → Int32) : mV mX10_count + 1 ≤ mV (mL_law n xs) ∧ mC mX10_count = 0 ∧ mS mX10_count = 0 := ⟨Nat.le_of_ble_eq_true rfl, rfl, rfl⟩
theorem lv_L_X10_fault (n : Nat) (xs : Nat → Int32) : mV mX10_fault + 1 ≤ mV (mL_law n xs) ∧ mC mX10_fault = 0 ∧ mS mX10_fault = 0 := ⟨Nat.le_of_ble_eq_true rfl, rfl, rfl⟩
theorem lv_L_X10_feed (n : Nat) (xs : Nat → Int32) : mV mX10_feed + 1 ≤ mV (mL_law n xs) ∧ mC mX10_feed = 0 ∧ mS mX10_feed = 0 := ⟨Nat.le_of_ble_eq_true rfl, rfl, rfl⟩
theorem lv_L_X10_force (n : Nat) (xs : Nat → Int32) : mV mX10_force + 1 ≤ mV (mL_law n xs) ∧ mC mX10_force = 0 ∧ mS mX10_force = 0 := ⟨Nat.le_of_ble_eq_true rfl, rfl, rfl⟩
theorem lv_L_X10_fund (n : Nat) (xs : Nat → Int32) : mV mX10_fund + 1 ≤ mV (mL_law n xs) ∧ mC mX10_fund = 0 ∧ mS mX10_fund = 0 := ⟨Nat.le_of_ble_eq_true rfl, rfl, rfl⟩
theorem lv_L_X10_game (n : Nat) (xs : Nat → Int32) : mV mX10_game + 1 ≤ mV (mL_law n xs) ∧ mC mX10_game = 0 ∧ mS mX10_game = 0 := ⟨Nat.le_of_ble_eq_true rfl, rfl, rfl⟩
theorem lv_L_X10_go (n : Nat) (xs : Nat → Int32) : mV mX10_go + 1 ≤ mV (mL_law n xs) ∧ mC mX10_go = 0 ∧ mS mX10_go = 0 := ⟨Nat.le_of_ble_eq_true rfl, rfl, rfl⟩
theorem lv_L_X10_holds (n : Nat) (xs : Nat → Int32) : mV mX10_holds + 1 ≤ mV (mL_law n xs) ∧ mC mX10_holds = 0 ∧ mS mX10_holds = 0 := ⟨Nat.le_of_ble_eq_true rfl, rfl, rfl⟩
theorem lv_L_X10_judge (n : Nat) (xs : Nat → Int32) : mV mX10_judge + 1 ≤ mV (mL_law n xs) ∧ mC mX10_judge = 0 ∧ mS mX10_judge = 0 := ⟨Nat.le_of_ble_eq_true rfl, rfl, rfl⟩
theorem lv_L_X10_last (n : Nat) (xs : Nat → Int32) : mV mX10_last + 1 ≤ mV (mL_law n xs) ∧ mC mX10_last = 0 ∧ mS mX10_last = 0 := ⟨Nat.le_of_ble_eq_true rfl, rfl, rfl⟩
theorem lv_L_X10_late (n : Nat) (xs : Nat → Int32) : mV mX10_late + 1 ≤ mV (mL_law n xs) ∧ mC mX10_late = 0 ∧ mS mX10_late = 0 := ⟨Nat.le_of_ble_eq_true rfl, rfl, rfl⟩
theorem lv_L_X10_leave (n : Nat) (xs : Nat → Int32) : mV mX10_leave + 1 ≤ mV (mL_law n xs) ∧ mC mX10_leave = 0 ∧ mS mX10_leave = 0 := ⟨Nat.le_of_ble_eq_true rfl, rfl, rfl⟩
theorem lv_L_X10_lending (n : Nat) (xs : Nat → Int32) : mV mX10_lending + 1 ≤ mV (mL_law n xs) ∧ mC mX10_lending = 0 ∧ mS mX10_lending = 0 := ⟨Nat.le_of_ble_eq_true rfl, rfl, rfl⟩
theorem lv_L_X10_load (n : Nat) (xs : Nat → Int32) : mV mX10_load + 1 ≤ mV (mL_law n xs) ∧ mC mX10_load = 0 ∧ mS mX10_load = 0 := ⟨Nat.le_of_ble_eq_true rfl, rfl, rfl⟩
theorem lv_L_X10_members (n : Nat) (xs : Nat → Int32) : mV mX10_members + 1 ≤ mV (mL_law n xs) ∧ mC mX10_members = 0 ∧ mS mX10_members = 0 := ⟨Nat.le_of_ble_eq_true rfl, rfl, rfl⟩
theorem lv_L_X10_need (n : Nat) (xs : Nat → Int32) : mV mX10_need + 1 ≤ mV (mL_law n xs) ∧ mC mX10_need = 0 ∧ mS mX10_need = 0 := ⟨Nat.le_of_ble_eq_true rfl, rfl, rfl⟩
theorem lv_L_X10_order (n : Nat) (xs : Nat → Int32) : mV mX10_order + 1 ≤ mV (mL_law n xs) ∧ mC mX10_order = 0 ∧ mS mX10_order = 0 := ⟨Nat.le_of_ble_eq_true rfl, rfl, rfl⟩
theorem lv_L_X10_out (n : Nat) (xs : Nat → Int32) : mV mX10_out + 1 ≤ mV (mL_law n xs) ∧ mC mX10_out = 0 ∧ mS mX10_out = 0 := ⟨Nat.le_of_ble_eq_true rfl, rfl, rfl⟩
theorem lv_L_X10_purse (n : Nat) (xs : Nat → Int32) : mV mX10_purse + 1 ≤ mV (mL_law n xs) ∧ mC mX10_purse = 0 ∧ mS mX10_purse = 0 := ⟨Nat.le_of_ble_eq_true rfl, rfl, rfl⟩
theorem lv_L_X10_reach (n : Nat) (xs : Nat → Int32) : mV mX10_reach + 1 ≤ mV (mL_law n xs) ∧ mC mX10_reach = 0 ∧ mS mX10_reach = 0 := ⟨Nat.le_of_ble_eq_true rfl, rfl, rfl⟩
theorem lv_L_X10_road (n : Nat) (xs : Nat → Int32) : mV mX10_road + 1 ≤ mV (mL_law n xs) ∧ mC mX10_road = 0 ∧ mS mX10_road = 0 := ⟨Nat.le_of_ble_eq_true rfl, rfl, rfl⟩
theorem lv_L_X10_rule (n : Nat) (xs : Nat → Int32) : mV mX10_rule + 1 ≤ mV (mL_law n xs) ∧ mC mX10_rule = 0 ∧ mS mX10_rule = 0 := ⟨Nat.le_of_ble_eq_true rfl, rfl, rfl⟩
theorem lv_L_X10_stamp (n : Nat) (xs : Nat → Int32) : mV mX10_stamp + 1 ≤ mV (mL_law n xs) ∧ mC mX10_stamp = 0 ∧ mS mX10_stamp = 0 := ⟨Nat.le_of_ble_eq_true rfl, rfl, rfl⟩
theorem lv_L_X10_store (n : Nat) (xs : Nat → Int32) : mV mX10_store + 1 ≤ mV (mL_law n xs) ∧ mC mX10_store = 0 ∧ mS mX10_store = 0 := ⟨Nat.le_of_ble_eq_true rfl, rfl, rfl⟩
theorem lv_L_X10_table (n : Nat) (xs : Nat → Int32) : mV mX10_table + 1 ≤ mV (mL_law n xs) ∧ mC mX10_table = 0 ∧ mS mX10_table = 0 := ⟨Nat.le_of_ble_eq_true rfl, rfl, rfl⟩
theorem lv_L_X10_told (n : Nat) (xs : Nat → Int32) : mV mX10_told + 1 ≤ mV (mL_law n xs) ∧ mC mX10_told = 0 ∧ mS mX10_told = 0 := ⟨Nat.le_of_ble_eq_true rfl, rfl, rfl⟩
theorem lv_L_X10_town (n : Nat) (xs : Nat → Int32) : mV mX10_town + 1 ≤ mV (mL_law n xs) ∧ mC mX10_town = 0 ∧ mS mX10_town = 0 := ⟨Nat.le_of_ble_eq_true rfl, rfl, rfl⟩
theorem lv_L_X10_words (n : Nat) (xs : Nat → Int32) : mV mX10_words + 1 ≤ mV (mL_law n xs) ∧ mC mX10_words = 0 ∧ mS mX10_words = 0 := ⟨Nat.le_of_ble_eq_true rfl, rfl, rfl⟩
theorem lv_L_X9_away (n : Nat) (xs : Nat → Int32) : mV mX9_away + 1 ≤ mV (mL_law n xs) ∧ mC mX9_away = 0 ∧ mS mX9_away = 0 := ⟨Nat.le_of_ble_eq_true rfl, rfl, rfl⟩
theorem lv_L_X9_beside (n : Nat) (xs : Nat → Int32) : mV mX9_beside + 1 ≤ mV (mL_law n xs) ∧ mC mX9_beside = 0 ∧ mS mX9_beside = 0 := ⟨Nat.le_of_ble_eq_true rfl, rfl, rfl⟩
theorem lv_L_X9_binds (n : Nat) (xs : Nat → Int32) : mV mX9_binds + 1 ≤ mV (mL_law n xs) ∧ mC mX9_binds = 0 ∧ mS mX9_binds = 0 := ⟨Nat.le_of_ble_eq_true rfl, rfl, rfl⟩
theorem lv_L_X9_called (n : Nat) (xs : Nat → Int32) : mV mX9_called + 1 ≤ mV (mL_law n xs) ∧ mC mX9_called = 0 ∧ mS mX9_called = 0 := ⟨Nat.le_of_ble_eq_true rfl, rfl, rfl⟩
theorem lv_L_X9_clash (n : Nat) (xs : Nat → Int32) : mV mX9_clash + 1 ≤ mV (mL_law n xs) ∧ mC mX9_clash = 0 ∧ mS mX9_clash = 0 := ⟨Nat.le_of_ble_eq_true rfl, rfl, rfl⟩
theorem lv_L_X9_count (n : Nat) (xs : Nat → Int32) : mV mX9_count + 1 ≤ mV (mL_law n xs) ∧ mC mX9_count = 0 ∧ mS mX9_count = 0 := ⟨Nat.le_of_ble_eq_true rfl, rfl, rfl⟩
theorem lv_L_X9_fault (n : Nat) (xs : Nat → Int32) : mV mX9_fault + 1 ≤ mV (mL_law n xs) ∧ mC mX9_fault = 0 ∧ mS mX9_fault = 0 := ⟨Nat.le_of_ble_eq_true rfl, rfl, rfl⟩
theorem lv_L_X9_feed (n : Nat) (xs : Nat → Int32) : mV mX9_feed + 1 ≤ mV (mL_law n xs) ∧ mC mX9_feed = 0 ∧ mS mX9_feed = 0 := ⟨Nat.le_of_ble_eq_true rfl, rfl, rfl⟩
theorem lv_L_X9_force (n : Nat) (xs : Nat → Int32) : mV mX9_force + 1 ≤ mV (mL_law n xs) ∧ mC mX9_force = 0 ∧ mS mX9_force = 0 := ⟨Nat.le_of_ble_eq_true rfl, rfl, rfl⟩
theorem lv_L_X9_fund (n : Nat) (xs : Nat → Int32) : mV mX9_fund + 1 ≤ mV (mL_law n xs) ∧ mC mX9_fund = 0 ∧ mS mX9_fund = 0 := ⟨Nat.le_of_ble_eq_true rfl, rfl, rfl⟩
theorem lv_L_X9_game (n : Nat) (xs : Nat → Int32) : mV mX9_game + 1 ≤ mV (mL_law n xs) ∧ mC mX9_game = 0 ∧ mS mX9_game = 0 := ⟨Nat.le_of_ble_eq_true rfl, rfl, rfl⟩
theorem lv_L_X9_go (n : Nat) (xs : Nat → Int32) : mV mX9_go + 1 ≤ mV (mL_law n xs) ∧ mC mX9_go = 0 ∧ mS mX9_go = 0 := ⟨Nat.le_of_ble_eq_true rfl, rfl, rfl⟩
theorem lv_L_X9_holds (n : Nat) (xs : Nat → Int32) : mV mX9_holds + 1 ≤ mV (mL_law n xs) ∧ mC mX9_holds = 0 ∧ mS mX9_holds = 0 := ⟨Nat.le_of_ble_eq_true rfl, rfl, rfl⟩
theorem lv_L_X9_judge (n : Nat) (xs : Nat → Int32) : mV mX9_judge + 1 ≤ mV (mL_law n xs) ∧ mC mX9_judge = 0 ∧ mS mX9_judge = 0 := ⟨Nat.le_of_ble_eq_true rfl, rfl, rfl⟩
theorem lv_L_X9_last (n : Nat) (xs : Nat → Int32) : mV mX9_last + 1 ≤ mV (mL_law n xs) ∧ mC mX9_last = 0 ∧ mS mX9_last = 0 := ⟨Nat.le_of_ble_eq_true rfl, rfl, rfl⟩
theorem lv_L_X9_late (n : Nat) (xs : Nat → Int32) : mV mX9_late + 1 ≤ mV (mL_law n xs) ∧ mC mX9_late = 0 ∧ mS mX9_late = 0 := ⟨Nat.le_of_ble_eq_true rfl, rfl, rfl⟩
theorem lv_L_X9_leave (n : Nat) (xs : Nat → Int32) : mV mX9_leave + 1 ≤ mV (mL_law n xs) ∧ mC mX9_leave = 0 ∧ mS mX9_leave = 0 := ⟨Nat.le_of_ble_eq_true rfl, rfl, rfl⟩
theorem lv_L_X9_lending (n : Nat) (xs : Nat → Int32) : mV mX9_lending + 1 ≤ mV (mL_law n xs) ∧ mC mX9_lending = 0 ∧ mS mX9_lending = 0 := ⟨Nat.le_of_ble_eq_true rfl, rfl, rfl⟩
theorem lv_L_X9_load (n : Nat) (xs : Nat → Int32) : mV mX9_load + 1 ≤ mV (mL_law n xs) ∧ mC mX9_load = 0 ∧ mS mX9_load = 0 := ⟨Nat.le_of_ble_eq_true rfl, rfl, rfl⟩
theorem lv_L_X9_members (n : Nat) (xs : Nat → Int32) : mV mX9_members + 1 ≤ mV (mL_law n xs) ∧ mC mX9_members = 0 ∧ mS mX9_members = 0 := ⟨Nat.le_of_ble_eq_true rfl, rfl, rfl⟩
theorem lv_L_X9_need (n : Nat) (xs : Nat → Int32) : mV mX9_need + 1 ≤ mV (mL_law n xs) ∧ mC mX9_need = 0 ∧ mS mX9_need = 0 := ⟨Nat.le_of_ble_eq_true rfl, rfl, rfl⟩
theorem lv_L_X9_order (n : Nat) (xs : Nat → Int32) : mV mX9_order + 1 ≤ mV (mL_law n xs) ∧ mC mX9_order = 0 ∧ mS mX9_order = 0 := ⟨Nat.le_of_ble_eq_true rfl, rfl, rfl⟩
theorem lv_L_X9_out (n : Nat) (xs : Nat → Int32) : mV mX9_out + 1 ≤ mV (mL_law n xs) ∧ mC mX9_out = 0 ∧ mS mX9_out = 0 := ⟨Nat.le_of_ble_eq_true rfl, rfl, rfl⟩
theorem lv_L_X9_purse (n : Nat) (xs : Nat → Int32) : mV mX9_purse + 1 ≤ mV (mL_law n xs) ∧ mC mX9_purse = 0 ∧ mS mX9_purse = 0 := ⟨Nat.le_of_ble_eq_true rfl, rfl, rfl⟩
theorem lv_L_X9_reach (n : Nat) (xs : Nat → Int32) : mV mX9_reach + 1 ≤ mV (mL_law n xs) ∧ mC mX9_reach = 0 ∧ mS mX9_reach = 0 := ⟨Nat.le_of_ble_eq_true rfl, rfl, rfl⟩
theorem lv_L_X9_road (n : Nat) (xs : Nat → Int32) : mV mX9_road + 1 ≤ mV (mL_law n xs) ∧ mC mX9_road = 0 ∧ mS mX9_road = 0 := ⟨Nat.le_of_ble_eq_true rfl, rfl, rfl⟩
theorem lv_L_X9_rule (n : Nat) (xs : Nat → Int32) : mV mX9_rule + 1 ≤ mV (mL_law n xs) ∧ mC mX9_rule = 0 ∧ mS mX9_rule = 0 := ⟨Nat.le_of_ble_eq_true rfl, rfl, rfl⟩
theorem lv_L_X9_stamp (n : Nat) (xs : Nat → Int32) : mV mX9_stamp + 1 ≤ mV (mL_law n xs) ∧ mC mX9_stamp = 0 ∧ mS mX9_stamp = 0 := ⟨Nat.le_of_ble_eq_true rfl, rfl, rfl⟩
theorem lv_L_X9_store (n : Nat) (xs : Nat → Int32) : mV mX9_store + 1 ≤ mV (mL_law n xs) ∧ mC mX9_store = 0 ∧ mS mX9_store = 0 := ⟨Nat.le_of_ble_eq_true rfl, rfl, rfl⟩
theorem lv_L_X9_table (n : Nat) (xs : Nat → Int32) : mV mX9_table + 1 ≤ mV (mL_law n xs) ∧ mC mX9_table = 0 ∧ mS mX9_table = 0 := ⟨Nat.le_of_ble_eq_true rfl, rfl, rfl⟩
theorem lv_L_X9_told (n : Nat) (xs : Nat → Int32) : mV mX9_told + 1 ≤ mV (mL_law n xs) ∧ mC mX9_told = 0 ∧ mS mX9_told = 0 := ⟨Nat.le_of_ble_eq_true rfl, rfl, rfl⟩
theorem lv_L_X9_town (n : Nat) (xs : Nat → Int32) : mV mX9_town + 1 ≤ mV (mL_law n xs) ∧ mC mX9_town = 0 ∧ mS mX9_town = 0 := ⟨Nat.le_of_ble_eq_true rfl, rfl, rfl⟩
theorem lv_L_X9_words (n : Nat) (xs : Nat → Int32) : mV mX9_words + 1 ≤ mV (mL_law n xs) ∧ mC mX9_words = 0 ∧ mS mX9_words = 0 := ⟨Nat.le_of_ble_eq_true rfl, rfl, rfl⟩
theorem lv_X0_beginAnew_J7_fill_53178 : mV mJ7_fill_53178 + 1 ≤ mV mX0_beginAnew ∧ mC mJ7_fill_53178 = 0 ∧ mS mJ7_fill_53178 = 0 := ⟨by decide, rfl, rfl⟩
theorem lv_X0_callOut_X6_calls : mV mX6_calls + 1 ≤ mV mX0_callOut ∧ mC mX6_calls = 0 ∧ mS mX6_calls = 0 := ⟨by decide, rfl, rfl⟩
theorem lv_X0_init_X0_beginAnew : mV mX0_beginAnew + 1 ≤ mV mX0_init ∧ mC mX0_beginAnew = 0 ∧ mS mX0_beginAnew = 0 := ⟨by decide, rfl, rfl⟩
theorem lv_X0_listenAhead_X6_calls : mV mX6_calls + 1 ≤ mV mX0_listenAhead ∧ mC mX6_calls = 0 ∧ mS mX6_calls = 0 := ⟨by decide, rfl, rfl⟩
theorem lv_X0_listenAhead_X6_listen : mV mX6_listen + 1 ≤ mV mX0_listenAhead ∧ mC mX6_listen = 0 ∧ mS mX6_listen = 0 := ⟨by decide, rfl, rfl⟩
theorem lv_X0_payAll_X0_payDay : mV mX0_payDay + 1 ≤ mV mX0_payAll ∧ mC mX0_payDay = 0 ∧ mS mX0_payDay = 0 := ⟨by decide, rfl, rfl⟩
theorem lv_X0_run_X0_listenAhead : mV mX0_listenAhead + 1 ≤ mV mX0_run ∧ mC mX0_listenAhead = 0 ∧ mS mX0_listenAhead = 0 := ⟨by decide, rfl, rfl⟩
theorem lv_X0_run_X0_step : mV mX0_step + 1 ≤ mV mX0_run ∧ mC mX0_step = 0 ∧ mS mX0_step = 0 := ⟨by decide, rfl, rfl⟩
theorem lv_X0_send_X3_way : mV mX3_way + 1 ≤ mV mX0_send ∧ mC mX3_way = 0 ∧ mS mX3_way = 0 := ⟨by decide, rfl, rfl⟩
theorem lv_X0_send_X5_missing : mV mX5_missing + 1 ≤ mV mX0_send ∧ mC mX5_missing = 0 ∧ mS mX5_missing = 0 := ⟨by decide, rfl, rfl⟩
theorem lv_X0_step_X0_arrive : mV mX0_arrive + 1 ≤ mV mX0_step ∧ mC mX0_arrive = 0 ∧ mS mX0_arrive = 0 := ⟨by decide, rfl, rfl⟩
theorem lv_X0_step_X0_callOut : mV mX0_callOut + 1 ≤ mV mX0_step ∧ mC mX0_callOut = 0 ∧ mS mX0_callOut = 0 := ⟨by decide, rfl, rfl⟩
theorem lv_X0_step_X0_payAll : mV mX0_payAll + 1 ≤ mV mX0_step ∧ mC mX0_payAll = 0 ∧ mS mX0_payAll = 0 := ⟨by decide, rfl, rfl⟩
theorem lv_X0_step_X0_send : mV mX0_send + 1 ≤ mV mX0_step ∧ mC mX0_send = 0 ∧ mS mX0_send = 0 := ⟨by decide, rfl, rfl⟩
theorem lv_X0_step_X0_use : mV mX0_use + 1 ≤ mV mX0_step ∧ mC mX0_use = 0 ∧ mS mX0_use = 0 := ⟨by decide, rfl, rfl⟩
theorem lv_X0_step_X6_listen : mV mX6_listen + 1 ≤ mV mX0_step ∧ mC mX6_listen = 0 ∧ mS mX6_listen = 0 := ⟨by decide, rfl, rfl⟩
theorem lv_X0_step_X8_holdIn : mV mX8_holdIn + 1 ≤ mV mX0_step ∧ mC mX8_holdIn = 0 ∧ mS mX8_holdIn = 0 := ⟨by decide, rfl, rfl⟩
theorem lv_X10_arrive_X10_least : mV mX10_least + 1 ≤ mV mX10_arrive ∧ mC mX10_least = 0 ∧ mS mX10_least = 0 := ⟨by decide, rfl, rfl⟩
theorem lv_X10_away_X10_awayOf : mV mX10_awayOf + 1 ≤ mV mX10_away ∧ mC mX10_awayOf = 0 ∧ mS mX10_awayOf = 0 := ⟨by decide, rfl, rfl⟩
theorem lv_X10_away_X10_isTown : mV mX10_isTown + 1 ≤ mV mX10_away ∧ mC mX10_isTown = 0 ∧ mS mX10_isTown = 0 := ⟨by decide, rfl, rfl⟩
theorem lv_X10_beside_X10_begin : mV mX10_begin + 1 ≤ mV mX10_beside ∧ mC mX10_begin = 0 ∧ mS mX10_begin = 0 := ⟨by decide, rfl, rfl⟩
theorem lv_X10_beside_X10_doHour : mV mX10_doHour + 1 ≤ mV mX10_beside ∧ mC mX10_doHour = 0 ∧ mS mX10_doHour = 0 := ⟨by decide, rfl, rfl⟩
theorem lv_X10_beside_X10_keepAll : mV mX10_keepAll + 1 ≤ mV mX10_beside ∧ mC mX10_keepAll = 0 ∧ mS mX10_keepAll = 0 := ⟨by decide, rfl, rfl⟩
theorem lv_X10_binds_X10_in : mV mX10_in + 1 ≤ mV mX10_binds ∧ mC mX10_in = 0 ∧ mS mX10_in = 0 := ⟨by decide, rfl, rfl⟩
theorem lv_X10_binds_X10_isHour : mV mX10_isHour + 1 ≤ mV mX10_binds ∧ mC mX10_isHour = 0 ∧ mS mX10_isHour = 0 := ⟨by decide, rfl, rfl⟩
theorem lv_X10_binds_X10_ledTo : mV mX10_ledTo + 1 ≤ mV mX10_binds ∧ mC mX10_ledTo = 0 ∧ mS mX10_ledTo = 0 := ⟨by decide, rfl, rfl⟩
theorem lv_X10_callOut_X10_isCalled : mV mX10_isCalled + 1 ≤ mV mX10_callOut ∧ mC mX10_isCalled = 0 ∧ mS mX10_isCalled = 0 := ⟨by decide, rfl, rfl⟩
theorem lv_X10_called_X10_isCalled : mV mX10_isCalled + 1 ≤ mV mX10_called ∧ mC mX10_isCalled = 0 ∧ mS mX10_isCalled = 0 := ⟨by decide, rfl, rfl⟩
theorem lv_X10_called_X10_isHour : mV mX10_isHour + 1 ≤ mV mX10_called ∧ mC mX10_isHour = 0 ∧ mS mX10_isHour = 0 := ⟨by decide, rfl, rfl⟩
theorem lv_X10_called_X10_isTown : mV mX10_isTown + 1 ≤ mV mX10_called ∧ mC mX10_isTown = 0 ∧ mS mX10_isTown = 0 := ⟨by decide, rfl, rfl⟩
theorem lv_X10_called_X10_isUnion : mV mX10_isUnion + 1 ≤ mV mX10_called ∧ mC mX10_isUnion = 0 ∧ mS mX10_isUnion = 0 := ⟨by decide, rfl, rfl⟩
theorem lv_X10_called_X10_one : mV mX10_one + 1 ≤ mV mX10_called ∧ mC mX10_one = 0 ∧ mS mX10_one = 0 := ⟨by decide, rfl, rfl⟩
theorem lv_X10_clash_X10_findRules : mV mX10_findRules + 1 ≤ mV mX10_clash ∧ mC mX10_findRules = 0 ∧ mS mX10_findRules = 0 := ⟨by decide, rfl, rfl⟩
theorem lv_X10_clauseOf_X10_isWord : mV mX10_isWord + 1 ≤ mV mX10_clauseOf ∧ mC mX10_isWord = 0 ∧ mS mX10_isWord = 0 := ⟨by decide, rfl, rfl⟩
theorem lv_X10_count_X10_hungerAll : mV mX10_hungerAll + 1 ≤ mV mX10_count ∧ mC mX10_hungerAll = 0 ∧ mS mX10_hungerAll = 0 := ⟨by decide, rfl, rfl⟩
theorem lv_X10_count_X10_loadsIn : mV mX10_loadsIn + 1 ≤ mV mX10_count ∧ mC mX10_loadsIn = 0 ∧ mS mX10_loadsIn = 0 := ⟨by decide, rfl, rfl⟩
theorem lv_X10_count_X10_outAll : mV mX10_outAll + 1 ≤ mV mX10_count ∧ mC mX10_outAll = 0 ∧ mS mX10_outAll = 0 := ⟨by decide, rfl, rfl⟩
theorem lv_X10_doHour_X10_arrive : mV mX10_arrive + 1 ≤ mV mX10_doHour ∧ mC mX10_arrive = 0 ∧ mS mX10_arrive = 0 := ⟨by decide, rfl, rfl⟩
theorem lv_X10_doHour_X10_callOut : mV mX10_callOut + 1 ≤ mV mX10_doHour ∧ mC mX10_callOut = 0 ∧ mS mX10_callOut = 0 := ⟨by decide, rfl, rfl⟩
theorem lv_X10_doHour_X10_findRules : mV mX10_findRules + 1 ≤ mV mX10_doHour ∧ mC mX10_findRules = 0 ∧ mS mX10_findRules = 0 := ⟨by decide, rfl, rfl⟩
theorem lv_X10_doHour_X10_payOut : mV mX10_payOut + 1 ≤ mV mX10_doHour ∧ mC mX10_payOut = 0 ∧ mS mX10_payOut = 0 := ⟨by decide, rfl, rfl⟩
theorem lv_X10_doHour_X10_sendOff : mV mX10_sendOff + 1 ≤ mV mX10_doHour ∧ mC mX10_sendOff = 0 ∧ mS mX10_sendOff = 0 := ⟨by decide, rfl, rfl⟩
theorem lv_X10_doHour_X10_useUp : mV mX10_useUp + 1 ≤ mV mX10_doHour ∧ mC mX10_useUp = 0 ∧ mS mX10_useUp = 0 := ⟨by decide, rfl, rfl⟩
theorem lv_X10_feed_X10_in : mV mX10_in + 1 ≤ mV mX10_feed ∧ mC mX10_in = 0 ∧ mS mX10_in = 0 := ⟨by decide, rfl, rfl⟩
theorem lv_X10_findRules_X10_take : mV mX10_take + 1 ≤ mV mX10_findRules ∧ mC mX10_take = 0 ∧ mS mX10_take = 0 := ⟨by decide, rfl, rfl⟩
theorem lv_X10_findWorths_X10_in : mV mX10_in + 1 ≤ mV mX10_findWorths ∧ mC mX10_in = 0 ∧ mS mX10_in = 0 := ⟨by decide, rfl, rfl⟩
theorem lv_X10_findWorths_X10_worthOf : mV mX10_worthOf + 1 ≤ mV mX10_findWorths ∧ mC mX10_worthOf = 0 ∧ mS mX10_worthOf = 0 := ⟨by decide, rfl, rfl⟩
theorem lv_X10_force_X10_findRules : mV mX10_findRules + 1 ≤ mV mX10_force ∧ mC mX10_findRules = 0 ∧ mS mX10_findRules = 0 := ⟨by decide, rfl, rfl⟩
theorem lv_X10_force_X10_in : mV mX10_in + 1 ≤ mV mX10_force ∧ mC mX10_in = 0 ∧ mS mX10_in = 0 := ⟨by decide, rfl, rfl⟩
theorem lv_X10_force_X10_isHour : mV mX10_isHour + 1 ≤ mV mX10_force ∧ mC mX10_isHour = 0 ∧ mS mX10_isHour = 0 := ⟨by decide, rfl, rfl⟩
theorem lv_X10_fund_X10_in : mV mX10_in + 1 ≤ mV mX10_fund ∧ mC mX10_in = 0 ∧ mS mX10_in = 0 := ⟨by decide, rfl, rfl⟩
theorem lv_X10_fund_X10_isUnion : mV mX10_isUnion + 1 ≤ mV mX10_fund ∧ mC mX10_isUnion = 0 ∧ mS mX10_isUnion = 0 := ⟨by decide, rfl, rfl⟩
theorem lv_X10_game_X10_findWorths : mV mX10_findWorths + 1 ≤ mV mX10_game ∧ mC mX10_findWorths = 0 ∧ mS mX10_findWorths = 0 := ⟨by decide, rfl, rfl⟩
theorem lv_X10_game_X10_in : mV mX10_in + 1 ≤ mV mX10_game ∧ mC mX10_in = 0 ∧ mS mX10_in = 0 := ⟨by decide, rfl, rfl⟩
theorem lv_X10_game_X10_isGame : mV mX10_isGame + 1 ≤ mV mX10_game ∧ mC mX10_isGame = 0 ∧ mS mX10_isGame = 0 := ⟨by decide, rfl, rfl⟩
theorem lv_X10_game_X10_worthOf : mV mX10_worthOf + 1 ≤ mV mX10_game ∧ mC mX10_worthOf = 0 ∧ mS mX10_worthOf = 0 := ⟨by decide, rfl, rfl⟩
theorem lv_X10_go_X10_doHour : mV mX10_doHour + 1 ≤ mV mX10_go ∧ mC mX10_doHour = 0 ∧ mS mX10_doHour = 0 := ⟨by decide, rfl, rfl⟩
theorem lv_X10_go_X10_in : mV mX10_in + 1 ≤ mV mX10_go ∧ mC mX10_in = 0 ∧ mS mX10_in = 0 := ⟨by decide, rfl, rfl⟩
theorem lv_X10_goodOf_X10_isWord : mV mX10_isWord + 1 ≤ mV mX10_goodOf ∧ mC mX10_isWord = 0 ∧ mS mX10_isWord = 0 := ⟨by decide, rfl, rfl⟩
theorem lv_X10_holdsOf_X10_reachOf : mV mX10_reachOf + 1 ≤ mV mX10_holdsOf ∧ mC mX10_reachOf = 0 ∧ mS mX10_reachOf = 0 := ⟨by decide, rfl, rfl⟩
theorem lv_X10_holds_X10_holdsOf : mV mX10_holdsOf + 1 ≤ mV mX10_holds ∧ mC mX10_holdsOf = 0 ∧ mS mX10_holdsOf = 0 := ⟨by decide, rfl, rfl⟩
theorem lv_X10_holds_X10_in : mV mX10_in + 1 ≤ mV mX10_holds ∧ mC mX10_in = 0 ∧ mS mX10_in = 0 := ⟨by decide, rfl, rfl⟩
theorem lv_X10_holds_X10_isHour : mV mX10_isHour + 1 ≤ mV mX10_holds ∧ mC mX10_isHour = 0 ∧ mS mX10_isHour = 0 := ⟨by decide, rfl, rfl⟩
theorem lv_X10_holds_X10_isTown : mV mX10_isTown + 1 ≤ mV mX10_holds ∧ mC mX10_isTown = 0 ∧ mS mX10_isTown = 0 := ⟨by decide, rfl, rfl⟩
theorem lv_X10_holds_X10_isUnion : mV mX10_isUnion + 1 ≤ mV mX10_holds ∧ mC mX10_isUnion = 0 ∧ mS mX10_isUnion = 0 := ⟨by decide, rfl, rfl⟩
theorem lv_X10_isCalled_X10_holdsOf : mV mX10_holdsOf + 1 ≤ mV mX10_isCalled ∧ mC mX10_holdsOf = 0 ∧ mS mX10_holdsOf = 0 := ⟨by decide, rfl, rfl⟩
theorem lv_X10_isGame_X10_in : mV mX10_in + 1 ≤ mV mX10_isGame ∧ mC mX10_in = 0 ∧ mS mX10_in = 0 := ⟨by decide, rfl, rfl⟩
theorem lv_X10_isGood_X10_in : mV mX10_in + 1 ≤ mV mX10_isGood ∧ mC mX10_in = 0 ∧ mS mX10_in = 0 := ⟨by decide, rfl, rfl⟩
theorem lv_X10_isHour_X10_in : mV mX10_in + 1 ≤ mV mX10_isHour ∧ mC mX10_in = 0 ∧ mS mX10_in = 0 := ⟨by decide, rfl, rfl⟩
theorem lv_X10_isTown_X10_in : mV mX10_in + 1 ≤ mV mX10_isTown ∧ mC mX10_in = 0 ∧ mS mX10_in = 0 := ⟨by decide, rfl, rfl⟩
theorem lv_X10_isUnion_X10_in : mV mX10_in + 1 ≤ mV mX10_isUnion ∧ mC mX10_in = 0 ∧ mS mX10_in = 0 := ⟨by decide, rfl, rfl⟩
theorem lv_X10_judge_X10_in : mV mX10_in + 1 ≤ mV mX10_judge ∧ mC mX10_in = 0 ∧ mS mX10_in = 0 := ⟨by decide, rfl, rfl⟩
theorem lv_X10_judge_X10_isGame : mV mX10_isGame + 1 ≤ mV mX10_judge ∧ mC mX10_isGame = 0 ∧ mS mX10_isGame = 0 := ⟨by decide, rfl, rfl⟩
theorem lv_X10_keepAll_X10_keep : mV mX10_keep + 1 ≤ mV mX10_keepAll ∧ mC mX10_keep = 0 ∧ mS mX10_keep = 0 := ⟨by decide, rfl, rfl⟩
theorem lv_X10_lastOf_X10_findRules : mV mX10_findRules + 1 ≤ mV mX10_lastOf ∧ mC mX10_findRules = 0 ∧ mS mX10_findRules = 0 := ⟨by decide, rfl, rfl⟩
theorem lv_X10_last_X10_isUnion : mV mX10_isUnion + 1 ≤ mV mX10_last ∧ mC mX10_isUnion = 0 ∧ mS mX10_isUnion = 0 := ⟨by decide, rfl, rfl⟩
theorem lv_X10_last_X10_lastOf : mV mX10_lastOf + 1 ≤ mV mX10_last ∧ mC mX10_lastOf = 0 ∧ mS mX10_lastOf = 0 := ⟨by decide, rfl, rfl⟩
theorem lv_X10_late_X10_noOrder : mV mX10_noOrder + 1 ≤ mV mX10_late ∧ mC mX10_noOrder = 0 ∧ mS mX10_noOrder = 0 := ⟨by decide, rfl, rfl⟩
theorem lv_X10_late_X10_one : mV mX10_one + 1 ≤ mV mX10_late ∧ mC mX10_one = 0 ∧ mS mX10_one = 0 := ⟨by decide, rfl, rfl⟩
theorem lv_X10_late_X10_reachOf : mV mX10_reachOf + 1 ≤ mV mX10_late ∧ mC mX10_reachOf = 0 ∧ mS mX10_reachOf = 0 := ⟨by decide, rfl, rfl⟩
theorem lv_X10_leave_X10_in : mV mX10_in + 1 ≤ mV mX10_leave ∧ mC mX10_in = 0 ∧ mS mX10_in = 0 := ⟨by decide, rfl, rfl⟩
theorem lv_X10_leave_X10_isHour : mV mX10_isHour + 1 ≤ mV mX10_leave ∧ mC mX10_isHour = 0 ∧ mS mX10_isHour = 0 := ⟨by decide, rfl, rfl⟩
theorem lv_X10_ledTo_X10_in : mV mX10_in + 1 ≤ mV mX10_ledTo ∧ mC mX10_in = 0 ∧ mS mX10_in = 0 := ⟨by decide, rfl, rfl⟩
theorem lv_X10_lending_X10_in : mV mX10_in + 1 ≤ mV mX10_lending ∧ mC mX10_in = 0 ∧ mS mX10_in = 0 := ⟨by decide, rfl, rfl⟩
theorem lv_X10_lending_X10_lastOf : mV mX10_lastOf + 1 ≤ mV mX10_lending ∧ mC mX10_lastOf = 0 ∧ mS mX10_lastOf = 0 := ⟨by decide, rfl, rfl⟩
theorem lv_X10_load_X10_begin : mV mX10_begin + 1 ≤ mV mX10_load ∧ mC mX10_begin = 0 ∧ mS mX10_begin = 0 := ⟨by decide, rfl, rfl⟩
theorem lv_X10_load_X10_in : mV mX10_in + 1 ≤ mV mX10_load ∧ mC mX10_in = 0 ∧ mS mX10_in = 0 := ⟨by decide, rfl, rfl⟩
theorem lv_X10_load_X10_isGood : mV mX10_isGood + 1 ≤ mV mX10_load ∧ mC mX10_isGood = 0 ∧ mS mX10_isGood = 0 := ⟨by decide, rfl, rfl⟩
theorem lv_X10_load_X10_isTown : mV mX10_isTown + 1 ≤ mV mX10_load ∧ mC mX10_isTown = 0 ∧ mS mX10_isTown = 0 := ⟨by decide, rfl, rfl⟩
theorem lv_X10_loadsIn_X10_one : mV mX10_one + 1 ≤ mV mX10_loadsIn ∧ mC mX10_one = 0 ∧ mS mX10_one = 0 := ⟨by decide, rfl, rfl⟩
theorem lv_X10_members_X10_in : mV mX10_in + 1 ≤ mV mX10_members ∧ mC mX10_in = 0 ∧ mS mX10_in = 0 := ⟨by decide, rfl, rfl⟩
theorem lv_X10_members_X10_isTown : mV mX10_isTown + 1 ≤ mV mX10_members ∧ mC mX10_isTown = 0 ∧ mS mX10_isTown = 0 := ⟨by decide, rfl, rfl⟩
theorem lv_X10_members_X10_isUnion : mV mX10_isUnion + 1 ≤ mV mX10_members ∧ mC mX10_isUnion = 0 ∧ mS mX10_isUnion = 0 := ⟨by decide, rfl, rfl⟩
theorem lv_X10_members_X10_least : mV mX10_least + 1 ≤ mV mX10_members ∧ mC mX10_least = 0 ∧ mS mX10_least = 0 := ⟨by decide, rfl, rfl⟩
theorem lv_X10_need_X10_in : mV mX10_in + 1 ≤ mV mX10_need ∧ mC mX10_in = 0 ∧ mS mX10_in = 0 := ⟨by decide, rfl, rfl⟩
theorem lv_X10_need_X10_isGood : mV mX10_isGood + 1 ≤ mV mX10_need ∧ mC mX10_isGood = 0 ∧ mS mX10_isGood = 0 := ⟨by decide, rfl, rfl⟩
theorem lv_X10_need_X10_isTown : mV mX10_isTown + 1 ≤ mV mX10_need ∧ mC mX10_isTown = 0 ∧ mS mX10_isTown = 0 := ⟨by decide, rfl, rfl⟩
theorem lv_X10_noLoad_X10_in : mV mX10_in + 1 ≤ mV mX10_noLoad ∧ mC mX10_in = 0 ∧ mS mX10_in = 0 := ⟨by decide, rfl, rfl⟩
theorem lv_X10_noOrder_X10_in : mV mX10_in + 1 ≤ mV mX10_noOrder ∧ mC mX10_in = 0 ∧ mS mX10_in = 0 := ⟨by decide, rfl, rfl⟩
theorem lv_X10_order_X10_in : mV mX10_in + 1 ≤ mV mX10_order ∧ mC mX10_in = 0 ∧ mS mX10_in = 0 := ⟨by decide, rfl, rfl⟩
theorem lv_X10_order_X10_isTown : mV mX10_isTown + 1 ≤ mV mX10_order ∧ mC mX10_isTown = 0 ∧ mS mX10_isTown = 0 := ⟨by decide, rfl, rfl⟩
theorem lv_X10_order_X10_isUnion : mV mX10_isUnion + 1 ≤ mV mX10_order ∧ mC mX10_isUnion = 0 ∧ mS mX10_isUnion = 0 := ⟨by decide, rfl, rfl⟩
theorem lv_X10_out_X10_isTown : mV mX10_isTown + 1 ≤ mV mX10_out ∧ mC mX10_isTown = 0 ∧ mS mX10_isTown = 0 := ⟨by decide, rfl, rfl⟩
theorem lv_X10_out_X10_isUnion : mV mX10_isUnion + 1 ≤ mV mX10_out ∧ mC mX10_isUnion = 0 ∧ mS mX10_isUnion = 0 := ⟨by decide, rfl, rfl⟩
theorem lv_X10_payOut_X10_least : mV mX10_least + 1 ≤ mV mX10_payOut ∧ mC mX10_least = 0 ∧ mS mX10_least = 0 := ⟨by decide, rfl, rfl⟩
theorem lv_X10_purse_X10_in : mV mX10_in + 1 ≤ mV mX10_purse ∧ mC mX10_in = 0 ∧ mS mX10_in = 0 := ⟨by decide, rfl, rfl⟩
theorem lv_X10_purse_X10_isUnion : mV mX10_isUnion + 1 ≤ mV mX10_purse ∧ mC mX10_isUnion = 0 ∧ mS mX10_isUnion = 0 := ⟨by decide, rfl, rfl⟩
theorem lv_X10_reachOf_X10_awayOf : mV mX10_awayOf + 1 ≤ mV mX10_reachOf ∧ mC mX10_awayOf = 0 ∧ mS mX10_awayOf = 0 := ⟨by decide, rfl, rfl⟩
theorem lv_X10_reachOf_X10_hourOf : mV mX10_hourOf + 1 ≤ mV mX10_reachOf ∧ mC mX10_hourOf = 0 ∧ mS mX10_hourOf = 0 := ⟨by decide, rfl, rfl⟩
theorem lv_X10_reach_X10_isTown : mV mX10_isTown + 1 ≤ mV mX10_reach ∧ mC mX10_isTown = 0 ∧ mS mX10_isTown = 0 := ⟨by decide, rfl, rfl⟩
theorem lv_X10_reach_X10_noOrder : mV mX10_noOrder + 1 ≤ mV mX10_reach ∧ mC mX10_noOrder = 0 ∧ mS mX10_noOrder = 0 := ⟨by decide, rfl, rfl⟩
theorem lv_X10_reach_X10_reachOf : mV mX10_reachOf + 1 ≤ mV mX10_reach ∧ mC mX10_reachOf = 0 ∧ mS mX10_reachOf = 0 := ⟨by decide, rfl, rfl⟩
theorem lv_X10_readClause_X10_here : mV mX10_here + 1 ≤ mV mX10_readClause ∧ mC mX10_here = 0 ∧ mS mX10_here = 0 := ⟨by decide, rfl, rfl⟩
theorem lv_X10_readClause_X10_one : mV mX10_one + 1 ≤ mV mX10_readClause ∧ mC mX10_one = 0 ∧ mS mX10_one = 0 := ⟨by decide, rfl, rfl⟩
theorem lv_X10_readClause_X10_readNeed : mV mX10_readNeed + 1 ≤ mV mX10_readClause ∧ mC mX10_readNeed = 0 ∧ mS mX10_readNeed = 0 := ⟨by decide, rfl, rfl⟩
theorem lv_X10_readClause_X10_takeNumber : mV mX10_takeNumber + 1 ≤ mV mX10_readClause ∧ mC mX10_takeNumber = 0 ∧ mS mX10_takeNumber = 0 := ⟨by decide, rfl, rfl⟩
theorem lv_X10_readClause_X10_want : mV mX10_want + 1 ≤ mV mX10_readClause ∧ mC mX10_want = 0 ∧ mS mX10_want = 0 := ⟨by decide, rfl, rfl⟩
theorem lv_X10_readNeed_X10_goodOf : mV mX10_goodOf + 1 ≤ mV mX10_readNeed ∧ mC mX10_goodOf = 0 ∧ mS mX10_goodOf = 0 := ⟨by decide, rfl, rfl⟩
theorem lv_X10_readNeed_X10_here : mV mX10_here + 1 ≤ mV mX10_readNeed ∧ mC mX10_here = 0 ∧ mS mX10_here = 0 := ⟨by decide, rfl, rfl⟩
theorem lv_X10_readNeed_X10_one : mV mX10_one + 1 ≤ mV mX10_readNeed ∧ mC mX10_one = 0 ∧ mS mX10_one = 0 := ⟨by decide, rfl, rfl⟩
theorem lv_X10_readNeed_X10_stampOf : mV mX10_stampOf + 1 ≤ mV mX10_readNeed ∧ mC mX10_stampOf = 0 ∧ mS mX10_stampOf = 0 := ⟨by decide, rfl, rfl⟩
theorem lv_X10_readNeed_X10_takeWord : mV mX10_takeWord + 1 ≤ mV mX10_readNeed ∧ mC mX10_takeWord = 0 ∧ mS mX10_takeWord = 0 := ⟨by decide, rfl, rfl⟩
theorem lv_X10_readNeed_X10_want : mV mX10_want + 1 ≤ mV mX10_readNeed ∧ mC mX10_want = 0 ∧ mS mX10_want = 0 := ⟨by decide, rfl, rfl⟩
theorem lv_X10_road_X10_in : mV mX10_in + 1 ≤ mV mX10_road ∧ mC mX10_in = 0 ∧ mS mX10_in = 0 := ⟨by decide, rfl, rfl⟩
theorem lv_X10_road_X10_isTown : mV mX10_isTown + 1 ≤ mV mX10_road ∧ mC mX10_isTown = 0 ∧ mS mX10_isTown = 0 := ⟨by decide, rfl, rfl⟩
theorem lv_X10_road_X10_least : mV mX10_least + 1 ≤ mV mX10_road ∧ mC mX10_least = 0 ∧ mS mX10_least = 0 := ⟨by decide, rfl, rfl⟩
theorem lv_X10_rule_X10_clauseOf : mV mX10_clauseOf + 1 ≤ mV mX10_rule ∧ mC mX10_clauseOf = 0 ∧ mS mX10_clauseOf = 0 := ⟨by decide, rfl, rfl⟩
theorem lv_X10_rule_X10_here : mV mX10_here + 1 ≤ mV mX10_rule ∧ mC mX10_here = 0 ∧ mS mX10_here = 0 := ⟨by decide, rfl, rfl⟩
theorem lv_X10_rule_X10_isHour : mV mX10_isHour + 1 ≤ mV mX10_rule ∧ mC mX10_isHour = 0 ∧ mS mX10_isHour = 0 := ⟨by decide, rfl, rfl⟩
theorem lv_X10_rule_X10_readClause : mV mX10_readClause + 1 ≤ mV mX10_rule ∧ mC mX10_readClause = 0 ∧ mS mX10_readClause = 0 := ⟨by decide, rfl, rfl⟩
theorem lv_X10_rule_X10_takeWord : mV mX10_takeWord + 1 ≤ mV mX10_rule ∧ mC mX10_takeWord = 0 ∧ mS mX10_takeWord = 0 := ⟨by decide, rfl, rfl⟩
theorem lv_X10_rule_X10_want : mV mX10_want + 1 ≤ mV mX10_rule ∧ mC mX10_want = 0 ∧ mS mX10_want = 0 := ⟨by decide, rfl, rfl⟩
theorem lv_X10_sendOff_X10_awayOf : mV mX10_awayOf + 1 ≤ mV mX10_sendOff ∧ mC mX10_awayOf = 0 ∧ mS mX10_awayOf = 0 := ⟨by decide, rfl, rfl⟩
theorem lv_X10_stampOf_X10_isWord : mV mX10_isWord + 1 ≤ mV mX10_stampOf ∧ mC mX10_isWord = 0 ∧ mS mX10_isWord = 0 := ⟨by decide, rfl, rfl⟩
theorem lv_X10_stamp_X10_in : mV mX10_in + 1 ≤ mV mX10_stamp ∧ mC mX10_in = 0 ∧ mS mX10_in = 0 := ⟨by decide, rfl, rfl⟩
theorem lv_X10_stamp_X10_noLoad : mV mX10_noLoad + 1 ≤ mV mX10_stamp ∧ mC mX10_noLoad = 0 ∧ mS mX10_noLoad = 0 := ⟨by decide, rfl, rfl⟩
theorem lv_X10_store_X10_in : mV mX10_in + 1 ≤ mV mX10_store ∧ mC mX10_in = 0 ∧ mS mX10_in = 0 := ⟨by decide, rfl, rfl⟩
theorem lv_X10_store_X10_isGood : mV mX10_isGood + 1 ≤ mV mX10_store ∧ mC mX10_isGood = 0 ∧ mS mX10_isGood = 0 := ⟨by decide, rfl, rfl⟩
theorem lv_X10_store_X10_isTown : mV mX10_isTown + 1 ≤ mV mX10_store ∧ mC mX10_isTown = 0 ∧ mS mX10_isTown = 0 := ⟨by decide, rfl, rfl⟩
theorem lv_X10_table_X10_in : mV mX10_in + 1 ≤ mV mX10_table ∧ mC mX10_in = 0 ∧ mS mX10_in = 0 := ⟨by decide, rfl, rfl⟩
theorem lv_X10_takeNumber_X10_here : mV mX10_here + 1 ≤ mV mX10_takeNumber ∧ mC mX10_here = 0 ∧ mS mX10_here = 0 := ⟨by decide, rfl, rfl⟩
theorem lv_X10_takeNumber_X10_in : mV mX10_in + 1 ≤ mV mX10_takeNumber ∧ mC mX10_in = 0 ∧ mS mX10_in = 0 := ⟨by decide, rfl, rfl⟩
theorem lv_X10_takeNumber_X10_want : mV mX10_want + 1 ≤ mV mX10_takeNumber ∧ mC mX10_want = 0 ∧ mS mX10_want = 0 := ⟨by decide, rfl, rfl⟩
theorem lv_X10_takeWord_X10_here : mV mX10_here + 1 ≤ mV mX10_takeWord ∧ mC mX10_here = 0 ∧ mS mX10_here = 0 := ⟨by decide, rfl, rfl⟩
theorem lv_X10_takeWord_X10_in : mV mX10_in + 1 ≤ mV mX10_takeWord ∧ mC mX10_in = 0 ∧ mS mX10_in = 0 := ⟨by decide, rfl, rfl⟩
theorem lv_X10_told_X10_noLoad : mV mX10_noLoad + 1 ≤ mV mX10_told ∧ mC mX10_noLoad = 0 ∧ mS mX10_noLoad = 0 := ⟨by decide, rfl, rfl⟩
theorem lv_X10_town_X10_in : mV mX10_in + 1 ≤ mV mX10_town ∧ mC mX10_in = 0 ∧ mS mX10_in = 0 := ⟨by decide, rfl, rfl⟩
theorem lv_X10_town_X10_isTown : mV mX10_isTown + 1 ≤ mV mX10_town ∧ mC mX10_isTown = 0 ∧ mS mX10_isTown = 0 := ⟨by decide, rfl, rfl⟩
theorem lv_X10_useUp_X10_least : mV mX10_least + 1 ≤ mV mX10_useUp ∧ mC mX10_least = 0 ∧ mS mX10_least = 0 := ⟨by decide, rfl, rfl⟩
theorem lv_X10_words_X10_findRules : mV mX10_findRules + 1 ≤ mV mX10_words ∧ mC mX10_findRules = 0 ∧ mS mX10_findRules = 0 := ⟨by decide, rfl, rfl⟩
theorem lv_X10_worthOf_X10_least : mV mX10_least + 1 ≤ mV mX10_worthOf ∧ mC mX10_least = 0 ∧ mS mX10_least = 0 := ⟨by decide, rfl, rfl⟩
theorem lv_X1_answer_X1_outcome : mV mX1_outcome + 1 ≤ mV mX1_answer ∧ mC mX1_outcome = 0 ∧ mS mX1_outcome = 0 := ⟨by decide, rfl, rfl⟩
theorem lv_X1_solveDay_X1_answer : mV mX1_answer + 1 ≤ mV mX1_solveDay ∧ mC mX1_answer = 0 ∧ mS mX1_answer = 0 := ⟨by decide, rfl, rfl⟩
theorem lv_X1_solve_X1_solveDay : mV mX1_solveDay + 1 ≤ mV mX1_solve ∧ mC mX1_solveDay = 0 ∧ mS mX1_solveDay = 0 := ⟨by decide, rfl, rfl⟩
theorem lv_X2_init_J7_fill_53178 : mV mJ7_fill_53178 + 1 ≤ mV mX2_init ∧ mC mJ7_fill_53178 = 0 ∧ mS mJ7_fill_53178 = 0 := ⟨by decide, rfl, rfl⟩
theorem lv_X3_init_J7_fill_53178 : mV mJ7_fill_53178 + 1 ≤ mV mX3_init ∧ mC mJ7_fill_53178 = 0 ∧ mS mJ7_fill_53178 = 0 := ⟨by decide, rfl, rfl⟩
theorem lv_X3_join_X3_shorten : mV mX3_shorten + 1 ≤ mV mX3_join ∧ mC mX3_shorten = 0 ∧ mS mX3_shorten = 0 := ⟨by decide, rfl, rfl⟩
theorem lv_X3_join_X3_way : mV mX3_way + 1 ≤ mV mX3_join ∧ mC mX3_way = 0 ∧ mS mX3_way = 0 := ⟨by decide, rfl, rfl⟩
theorem lv_X3_shorten_X3_way : mV mX3_way + 1 ≤ mV mX3_shorten ∧ mC mX3_way = 0 ∧ mS mX3_way = 0 := ⟨by decide, rfl, rfl⟩
theorem lv_X4_bound_X4_inForce : mV mX4_inForce + 1 ≤ mV mX4_bound ∧ mC mX4_inForce = 0 ∧ mS mX4_inForce = 0 := ⟨by decide, rfl, rfl⟩
theorem lv_X4_bound_X9_has : mV mX9_has + 1 ≤ mV mX4_bound ∧ mC mX9_has = 0 ∧ mS mX9_has = 0 := ⟨by decide, rfl, rfl⟩
theorem lv_X5_clashes_X5_missing : mV mX5_missing + 1 ≤ mV mX5_clashes ∧ mC mX5_missing = 0 ∧ mS mX5_missing = 0 := ⟨by decide, rfl, rfl⟩
theorem lv_X6_comes_X3_way : mV mX3_way + 1 ≤ mV mX6_comes ∧ mC mX3_way = 0 ∧ mS mX3_way = 0 := ⟨by decide, rfl, rfl⟩
theorem lv_X6_lateTowns_X6_comes : mV mX6_comes + 1 ≤ mV mX6_lateTowns ∧ mC mX6_comes = 0 ∧ mS mX6_comes = 0 := ⟨by decide, rfl, rfl⟩
theorem lv_X6_lateTowns_X6_overtaken : mV mX6_overtaken + 1 ≤ mV mX6_lateTowns ∧ mC mX6_overtaken = 0 ∧ mS mX6_overtaken = 0 := ⟨by decide, rfl, rfl⟩
theorem lv_X6_listen_J7_fill_53178 : mV mJ7_fill_53178 + 1 ≤ mV mX6_listen ∧ mC mJ7_fill_53178 = 0 ∧ mS mJ7_fill_53178 = 0 := ⟨by decide, rfl, rfl⟩
theorem lv_X6_listen_X6_firstCallHour : mV mX6_firstCallHour + 1 ≤ mV mX6_listen ∧ mC mX6_firstCallHour = 0 ∧ mS mX6_firstCallHour = 0 := ⟨by decide, rfl, rfl⟩
theorem lv_X6_listen_X6_spread : mV mX6_spread + 1 ≤ mV mX6_listen ∧ mC mX6_spread = 0 ∧ mS mX6_spread = 0 := ⟨by decide, rfl, rfl⟩
theorem lv_X6_spread_X6_comes : mV mX6_comes + 1 ≤ mV mX6_spread ∧ mC mX6_comes = 0 ∧ mS mX6_comes = 0 := ⟨by decide, rfl, rfl⟩
theorem lv_X7_close_X7_blame : mV mX7_blame + 1 ≤ mV mX7_close ∧ mC mX7_blame = 0 ∧ mS mX7_blame = 0 := ⟨by decide, rfl, rfl⟩
theorem lv_X7_close_X7_skipBlanks : mV mX7_skipBlanks + 1 ≤ mV mX7_close ∧ mC mX7_skipBlanks = 0 ∧ mS mX7_skipBlanks = 0 := ⟨by decide, rfl, rfl⟩
theorem lv_X7_close_X7_takes : mV mX7_takes + 1 ≤ mV mX7_close ∧ mC mX7_takes = 0 ∧ mS mX7_takes = 0 := ⟨by decide, rfl, rfl⟩
theorem lv_X7_committee_X7_spells : mV mX7_spells + 1 ≤ mV mX7_committee ∧ mC mX7_spells = 0 ∧ mS mX7_spells = 0 := ⟨by decide, rfl, rfl⟩
theorem lv_X7_good_X7_spells : mV mX7_spells + 1 ≤ mV mX7_good ∧ mC mX7_spells = 0 ∧ mS mX7_spells = 0 := ⟨by decide, rfl, rfl⟩
theorem lv_X7_more_X7_skipBlanks : mV mX7_skipBlanks + 1 ≤ mV mX7_more ∧ mC mX7_skipBlanks = 0 ∧ mS mX7_skipBlanks = 0 := ⟨by decide, rfl, rfl⟩
theorem lv_X7_readClause_X7_blame : mV mX7_blame + 1 ≤ mV mX7_readClause ∧ mC mX7_blame = 0 ∧ mS mX7_blame = 0 := ⟨by decide, rfl, rfl⟩
theorem lv_X7_readClause_X7_readNeed : mV mX7_readNeed + 1 ≤ mV mX7_readClause ∧ mC mX7_readNeed = 0 ∧ mS mX7_readNeed = 0 := ⟨by decide, rfl, rfl⟩
theorem lv_X7_readClause_X7_readNumber : mV mX7_readNumber + 1 ≤ mV mX7_readClause ∧ mC mX7_readNumber = 0 ∧ mS mX7_readNumber = 0 := ⟨by decide, rfl, rfl⟩
theorem lv_X7_readClause_X7_spells : mV mX7_spells + 1 ≤ mV mX7_readClause ∧ mC mX7_spells = 0 ∧ mS mX7_spells = 0 := ⟨by decide, rfl, rfl⟩
theorem lv_X7_readClause_X7_takeWord : mV mX7_takeWord + 1 ≤ mV mX7_readClause ∧ mC mX7_takeWord = 0 ∧ mS mX7_takeWord = 0 := ⟨by decide, rfl, rfl⟩
theorem lv_X7_readNeed_X7_blame : mV mX7_blame + 1 ≤ mV mX7_readNeed ∧ mC mX7_blame = 0 ∧ mS mX7_blame = 0 := ⟨by decide, rfl, rfl⟩
theorem lv_X7_readNeed_X7_close : mV mX7_close + 1 ≤ mV mX7_readNeed ∧ mC mX7_close = 0 ∧ mS mX7_close = 0 := ⟨by decide, rfl, rfl⟩
theorem lv_X7_readNeed_X7_good : mV mX7_good + 1 ≤ mV mX7_readNeed ∧ mC mX7_good = 0 ∧ mS mX7_good = 0 := ⟨by decide, rfl, rfl⟩
theorem lv_X7_readNeed_X7_readStamp : mV mX7_readStamp + 1 ≤ mV mX7_readNeed ∧ mC mX7_readStamp = 0 ∧ mS mX7_readStamp = 0 := ⟨by decide, rfl, rfl⟩
theorem lv_X7_readNeed_X7_refuseNinth : mV mX7_refuseNinth + 1 ≤ mV mX7_readNeed ∧ mC mX7_refuseNinth = 0 ∧ mS mX7_refuseNinth = 0 := ⟨by decide, rfl, rfl⟩
theorem lv_X7_readNeed_X7_skipBlanks : mV mX7_skipBlanks + 1 ≤ mV mX7_readNeed ∧ mC mX7_skipBlanks = 0 ∧ mS mX7_skipBlanks = 0 := ⟨by decide, rfl, rfl⟩
theorem lv_X7_readNeed_X7_takeWord : mV mX7_takeWord + 1 ≤ mV mX7_readNeed ∧ mC mX7_takeWord = 0 ∧ mS mX7_takeWord = 0 := ⟨by decide, rfl, rfl⟩
theorem lv_X7_readNeed_X7_takes : mV mX7_takes + 1 ≤ mV mX7_readNeed ∧ mC mX7_takes = 0 ∧ mS mX7_takes = 0 := ⟨by decide, rfl, rfl⟩
theorem lv_X7_readNumber_X7_blame : mV mX7_blame + 1 ≤ mV mX7_readNumber ∧ mC mX7_blame = 0 ∧ mS mX7_blame = 0 := ⟨by decide, rfl, rfl⟩
theorem lv_X7_readNumber_X7_close : mV mX7_close + 1 ≤ mV mX7_readNumber ∧ mC mX7_close = 0 ∧ mS mX7_close = 0 := ⟨by decide, rfl, rfl⟩
theorem lv_X7_readNumber_X7_refuseNinth : mV mX7_refuseNinth + 1 ≤ mV mX7_readNumber ∧ mC mX7_refuseNinth = 0 ∧ mS mX7_refuseNinth = 0 := ⟨by decide, rfl, rfl⟩
theorem lv_X7_readNumber_X7_skipBlanks : mV mX7_skipBlanks + 1 ≤ mV mX7_readNumber ∧ mC mX7_skipBlanks = 0 ∧ mS mX7_skipBlanks = 0 := ⟨by decide, rfl, rfl⟩
theorem lv_X7_readNumber_X9_beyond : mV mX9_beyond + 1 ≤ mV mX7_readNumber ∧ mC mX9_beyond = 0 ∧ mS mX9_beyond = 0 := ⟨by decide, rfl, rfl⟩
theorem lv_X7_readStamp_X7_blame : mV mX7_blame + 1 ≤ mV mX7_readStamp ∧ mC mX7_blame = 0 ∧ mS mX7_blame = 0 := ⟨by decide, rfl, rfl⟩
theorem lv_X7_readStamp_X7_committee : mV mX7_committee + 1 ≤ mV mX7_readStamp ∧ mC mX7_committee = 0 ∧ mS mX7_committee = 0 := ⟨by decide, rfl, rfl⟩
theorem lv_X7_readStamp_X7_takeWord : mV mX7_takeWord + 1 ≤ mV mX7_readStamp ∧ mC mX7_takeWord = 0 ∧ mS mX7_takeWord = 0 := ⟨by decide, rfl, rfl⟩
theorem lv_X7_readStamp_X9_has : mV mX9_has + 1 ≤ mV mX7_readStamp ∧ mC mX9_has = 0 ∧ mS mX9_has = 0 := ⟨by decide, rfl, rfl⟩
theorem lv_X7_read_X7_more : mV mX7_more + 1 ≤ mV mX7_read ∧ mC mX7_more = 0 ∧ mS mX7_more = 0 := ⟨by decide, rfl, rfl⟩
theorem lv_X7_read_X7_readClause : mV mX7_readClause + 1 ≤ mV mX7_read ∧ mC mX7_readClause = 0 ∧ mS mX7_readClause = 0 := ⟨by decide, rfl, rfl⟩
theorem lv_X7_refuseNinth_X7_blame : mV mX7_blame + 1 ≤ mV mX7_refuseNinth ∧ mC mX7_blame = 0 ∧ mS mX7_blame = 0 := ⟨by decide, rfl, rfl⟩
theorem lv_X7_spells_J0_charAt_5068e : mV mJ0_charAt_5068e + 1 ≤ mV mX7_spells ∧ mC mJ0_charAt_5068e = 0 ∧ mS mJ0_charAt_5068e = 0 := ⟨by decide, rfl, rfl⟩
theorem lv_X7_spells_J0_length_8abf5 : mV mJ0_length_8abf5 + 1 ≤ mV mX7_spells ∧ mC mJ0_length_8abf5 = 0 ∧ mS mJ0_length_8abf5 = 0 := ⟨by decide, rfl, rfl⟩
theorem lv_X7_takeWord_X7_skipBlanks : mV mX7_skipBlanks + 1 ≤ mV mX7_takeWord ∧ mC mX7_skipBlanks = 0 ∧ mS mX7_skipBlanks = 0 := ⟨by decide, rfl, rfl⟩
theorem lv_X8_countingIn_X8_struckBy : mV mX8_struckBy + 1 ≤ mV mX8_countingIn ∧ mC mX8_struckBy = 0 ∧ mS mX8_struckBy = 0 := ⟨by decide, rfl, rfl⟩
theorem lv_X8_countingIn_X9_has : mV mX9_has + 1 ≤ mV mX8_countingIn ∧ mC mX9_has = 0 ∧ mS mX9_has = 0 := ⟨by decide, rfl, rfl⟩
theorem lv_X8_holdIn_X8_apply : mV mX8_apply + 1 ≤ mV mX8_holdIn ∧ mC mX8_apply = 0 ∧ mS mX8_apply = 0 := ⟨by decide, rfl, rfl⟩
theorem lv_X8_holdIn_X8_countingIn : mV mX8_countingIn + 1 ≤ mV mX8_holdIn ∧ mC mX8_countingIn = 0 ∧ mS mX8_countingIn = 0 := ⟨by decide, rfl, rfl⟩
theorem lv_X8_holdIn_X9_has : mV mX9_has + 1 ≤ mV mX8_holdIn ∧ mC mX9_has = 0 ∧ mS mX9_has = 0 := ⟨by decide, rfl, rfl⟩
theorem lv_X9_away_X3_way : mV mX3_way + 1 ≤ mV mX9_away ∧ mC mX3_way = 0 ∧ mS mX3_way = 0 := ⟨by decide, rfl, rfl⟩
theorem lv_X9_away_X9_noTown : mV mX9_noTown + 1 ≤ mV mX9_away ∧ mC mX9_noTown = 0 ∧ mS mX9_noTown = 0 := ⟨by decide, rfl, rfl⟩
theorem lv_X9_beside_X0_beginAnew : mV mX0_beginAnew + 1 ≤ mV mX9_beside ∧ mC mX0_beginAnew = 0 ∧ mS mX0_beginAnew = 0 := ⟨by decide, rfl, rfl⟩
theorem lv_X9_beside_X0_run : mV mX0_run + 1 ≤ mV mX9_beside ∧ mC mX0_run = 0 ∧ mS mX0_run = 0 := ⟨by decide, rfl, rfl⟩
theorem lv_X9_binds_X4_bound : mV mX4_bound + 1 ≤ mV mX9_binds ∧ mC mX4_bound = 0 ∧ mS mX4_bound = 0 := ⟨by decide, rfl, rfl⟩
theorem lv_X9_binds_X9_beyond : mV mX9_beyond + 1 ≤ mV mX9_binds ∧ mC mX9_beyond = 0 ∧ mS mX9_beyond = 0 := ⟨by decide, rfl, rfl⟩
theorem lv_X9_binds_X9_has : mV mX9_has + 1 ≤ mV mX9_binds ∧ mC mX9_has = 0 ∧ mS mX9_has = 0 := ⟨by decide, rfl, rfl⟩
theorem lv_X9_called_X6_calls : mV mX6_calls + 1 ≤ mV mX9_called ∧ mC mX6_calls = 0 ∧ mS mX6_calls = 0 := ⟨by decide, rfl, rfl⟩
theorem lv_X9_called_X6_listen : mV mX6_listen + 1 ≤ mV mX9_called ∧ mC mX6_listen = 0 ∧ mS mX6_listen = 0 := ⟨by decide, rfl, rfl⟩
theorem lv_X9_called_X9_beyond : mV mX9_beyond + 1 ≤ mV mX9_called ∧ mC mX9_beyond = 0 ∧ mS mX9_beyond = 0 := ⟨by decide, rfl, rfl⟩
theorem lv_X9_called_X9_noTown : mV mX9_noTown + 1 ≤ mV mX9_called ∧ mC mX9_noTown = 0 ∧ mS mX9_noTown = 0 := ⟨by decide, rfl, rfl⟩
theorem lv_X9_called_X9_noUnion : mV mX9_noUnion + 1 ≤ mV mX9_called ∧ mC mX9_noUnion = 0 ∧ mS mX9_noUnion = 0 := ⟨by decide, rfl, rfl⟩
theorem lv_X9_clash_X5_clashes : mV mX5_clashes + 1 ≤ mV mX9_clash ∧ mC mX5_clashes = 0 ∧ mS mX5_clashes = 0 := ⟨by decide, rfl, rfl⟩
theorem lv_X9_clash_X8_holdIn : mV mX8_holdIn + 1 ≤ mV mX9_clash ∧ mC mX8_holdIn = 0 ∧ mS mX8_holdIn = 0 := ⟨by decide, rfl, rfl⟩
theorem lv_X9_count_X0_loadsThatAre : mV mX0_loadsThatAre + 1 ≤ mV mX9_count ∧ mC mX0_loadsThatAre = 0 ∧ mS mX0_loadsThatAre = 0 := ⟨by decide, rfl, rfl⟩
theorem lv_X9_count_X9_sum : mV mX9_sum + 1 ≤ mV mX9_count ∧ mC mX9_sum = 0 ∧ mS mX9_sum = 0 := ⟨by decide, rfl, rfl⟩
theorem lv_X9_daysPaid_X8_holdIn : mV mX8_holdIn + 1 ≤ mV mX9_daysPaid ∧ mC mX8_holdIn = 0 ∧ mS mX8_holdIn = 0 := ⟨by decide, rfl, rfl⟩
theorem lv_X9_daysPaid_X9_has : mV mX9_has + 1 ≤ mV mX9_daysPaid ∧ mC mX9_has = 0 ∧ mS mX9_has = 0 := ⟨by decide, rfl, rfl⟩
theorem lv_X9_feed_X7_append : mV mX7_append + 1 ≤ mV mX9_feed ∧ mC mX7_append = 0 ∧ mS mX7_append = 0 := ⟨by decide, rfl, rfl⟩
theorem lv_X9_feed_X9_beyond : mV mX9_beyond + 1 ≤ mV mX9_feed ∧ mC mX9_beyond = 0 ∧ mS mX9_beyond = 0 := ⟨by decide, rfl, rfl⟩
theorem lv_X9_force_X8_holdIn : mV mX8_holdIn + 1 ≤ mV mX9_force ∧ mC mX8_holdIn = 0 ∧ mS mX8_holdIn = 0 := ⟨by decide, rfl, rfl⟩
theorem lv_X9_force_X9_beyond : mV mX9_beyond + 1 ≤ mV mX9_force ∧ mC mX9_beyond = 0 ∧ mS mX9_beyond = 0 := ⟨by decide, rfl, rfl⟩
theorem lv_X9_fund_X9_beyond : mV mX9_beyond + 1 ≤ mV mX9_fund ∧ mC mX9_beyond = 0 ∧ mS mX9_beyond = 0 := ⟨by decide, rfl, rfl⟩
theorem lv_X9_fund_X9_noUnion : mV mX9_noUnion + 1 ≤ mV mX9_fund ∧ mC mX9_noUnion = 0 ∧ mS mX9_noUnion = 0 := ⟨by decide, rfl, rfl⟩
theorem lv_X9_game_X1_solve : mV mX1_solve + 1 ≤ mV mX9_game ∧ mC mX1_solve = 0 ∧ mS mX1_solve = 0 := ⟨by decide, rfl, rfl⟩
theorem lv_X9_game_X9_beyond : mV mX9_beyond + 1 ≤ mV mX9_game ∧ mC mX9_beyond = 0 ∧ mS mX9_beyond = 0 := ⟨by decide, rfl, rfl⟩
theorem lv_X9_go_X0_run : mV mX0_run + 1 ≤ mV mX9_go ∧ mC mX0_run = 0 ∧ mS mX0_run = 0 := ⟨by decide, rfl, rfl⟩
theorem lv_X9_go_X9_beyond : mV mX9_beyond + 1 ≤ mV mX9_go ∧ mC mX9_beyond = 0 ∧ mS mX9_beyond = 0 := ⟨by decide, rfl, rfl⟩
theorem lv_X9_holds_X6_listen : mV mX6_listen + 1 ≤ mV mX9_holds ∧ mC mX6_listen = 0 ∧ mS mX6_listen = 0 := ⟨by decide, rfl, rfl⟩
theorem lv_X9_holds_X9_beyond : mV mX9_beyond + 1 ≤ mV mX9_holds ∧ mC mX9_beyond = 0 ∧ mS mX9_beyond = 0 := ⟨by decide, rfl, rfl⟩
theorem lv_X9_holds_X9_noTown : mV mX9_noTown + 1 ≤ mV mX9_holds ∧ mC mX9_noTown = 0 ∧ mS mX9_noTown = 0 := ⟨by decide, rfl, rfl⟩
theorem lv_X9_holds_X9_noUnion : mV mX9_noUnion + 1 ≤ mV mX9_holds ∧ mC mX9_noUnion = 0 ∧ mS mX9_noUnion = 0 := ⟨by decide, rfl, rfl⟩
theorem lv_X9_judge_X1_rows : mV mX1_rows + 1 ≤ mV mX9_judge ∧ mC mX1_rows = 0 ∧ mS mX1_rows = 0 := ⟨by decide, rfl, rfl⟩
theorem lv_X9_judge_X1_score : mV mX1_score + 1 ≤ mV mX9_judge ∧ mC mX1_score = 0 ∧ mS mX1_score = 0 := ⟨by decide, rfl, rfl⟩
theorem lv_X9_judge_X9_beyond : mV mX9_beyond + 1 ≤ mV mX9_judge ∧ mC mX9_beyond = 0 ∧ mS mX9_beyond = 0 := ⟨by decide, rfl, rfl⟩
theorem lv_X9_last_X9_daysPaid : mV mX9_daysPaid + 1 ≤ mV mX9_last ∧ mC mX9_daysPaid = 0 ∧ mS mX9_daysPaid = 0 := ⟨by decide, rfl, rfl⟩
theorem lv_X9_last_X9_noUnion : mV mX9_noUnion + 1 ≤ mV mX9_last ∧ mC mX9_noUnion = 0 ∧ mS mX9_noUnion = 0 := ⟨by decide, rfl, rfl⟩
theorem lv_X9_late_X6_lateTowns : mV mX6_lateTowns + 1 ≤ mV mX9_late ∧ mC mX6_lateTowns = 0 ∧ mS mX6_lateTowns = 0 := ⟨by decide, rfl, rfl⟩
theorem lv_X9_late_X9_noNumber : mV mX9_noNumber + 1 ≤ mV mX9_late ∧ mC mX9_noNumber = 0 ∧ mS mX9_noNumber = 0 := ⟨by decide, rfl, rfl⟩
theorem lv_X9_leave_X4_give : mV mX4_give + 1 ≤ mV mX9_leave ∧ mC mX4_give = 0 ∧ mS mX4_give = 0 := ⟨by decide, rfl, rfl⟩
theorem lv_X9_leave_X9_beyond : mV mX9_beyond + 1 ≤ mV mX9_leave ∧ mC mX9_beyond = 0 ∧ mS mX9_beyond = 0 := ⟨by decide, rfl, rfl⟩
theorem lv_X9_lending_X9_beyond : mV mX9_beyond + 1 ≤ mV mX9_lending ∧ mC mX9_beyond = 0 ∧ mS mX9_beyond = 0 := ⟨by decide, rfl, rfl⟩
theorem lv_X9_lending_X9_daysPaid : mV mX9_daysPaid + 1 ≤ mV mX9_lending ∧ mC mX9_daysPaid = 0 ∧ mS mX9_daysPaid = 0 := ⟨by decide, rfl, rfl⟩
theorem lv_X9_load_X5_add : mV mX5_add + 1 ≤ mV mX9_load ∧ mC mX5_add = 0 ∧ mS mX5_add = 0 := ⟨by decide, rfl, rfl⟩
theorem lv_X9_load_X9_beyond : mV mX9_beyond + 1 ≤ mV mX9_load ∧ mC mX9_beyond = 0 ∧ mS mX9_beyond = 0 := ⟨by decide, rfl, rfl⟩
theorem lv_X9_load_X9_noGood : mV mX9_noGood + 1 ≤ mV mX9_load ∧ mC mX9_noGood = 0 ∧ mS mX9_noGood = 0 := ⟨by decide, rfl, rfl⟩
theorem lv_X9_load_X9_noTown : mV mX9_noTown + 1 ≤ mV mX9_load ∧ mC mX9_noTown = 0 ∧ mS mX9_noTown = 0 := ⟨by decide, rfl, rfl⟩
theorem lv_X9_members_X9_beyond : mV mX9_beyond + 1 ≤ mV mX9_members ∧ mC mX9_beyond = 0 ∧ mS mX9_beyond = 0 := ⟨by decide, rfl, rfl⟩
theorem lv_X9_members_X9_noTown : mV mX9_noTown + 1 ≤ mV mX9_members ∧ mC mX9_noTown = 0 ∧ mS mX9_noTown = 0 := ⟨by decide, rfl, rfl⟩
theorem lv_X9_members_X9_noUnion : mV mX9_noUnion + 1 ≤ mV mX9_members ∧ mC mX9_noUnion = 0 ∧ mS mX9_noUnion = 0 := ⟨by decide, rfl, rfl⟩
theorem lv_X9_need_X9_beyond : mV mX9_beyond + 1 ≤ mV mX9_need ∧ mC mX9_beyond = 0 ∧ mS mX9_beyond = 0 := ⟨by decide, rfl, rfl⟩
theorem lv_X9_need_X9_noGood : mV mX9_noGood + 1 ≤ mV mX9_need ∧ mC mX9_noGood = 0 ∧ mS mX9_noGood = 0 := ⟨by decide, rfl, rfl⟩
theorem lv_X9_need_X9_noTown : mV mX9_noTown + 1 ≤ mV mX9_need ∧ mC mX9_noTown = 0 ∧ mS mX9_noTown = 0 := ⟨by decide, rfl, rfl⟩
theorem lv_X9_noGood_X9_noNumber : mV mX9_noNumber + 1 ≤ mV mX9_noGood ∧ mC mX9_noNumber = 0 ∧ mS mX9_noNumber = 0 := ⟨by decide, rfl, rfl⟩
theorem lv_X9_noTown_X9_noNumber : mV mX9_noNumber + 1 ≤ mV mX9_noTown ∧ mC mX9_noNumber = 0 ∧ mS mX9_noNumber = 0 := ⟨by decide, rfl, rfl⟩
theorem lv_X9_noUnion_X9_noNumber : mV mX9_noNumber + 1 ≤ mV mX9_noUnion ∧ mC mX9_noNumber = 0 ∧ mS mX9_noNumber = 0 := ⟨by decide, rfl, rfl⟩
theorem lv_X9_order_X6_give : mV mX6_give + 1 ≤ mV mX9_order ∧ mC mX6_give = 0 ∧ mS mX6_give = 0 := ⟨by decide, rfl, rfl⟩
theorem lv_X9_order_X9_beyond : mV mX9_beyond + 1 ≤ mV mX9_order ∧ mC mX9_beyond = 0 ∧ mS mX9_beyond = 0 := ⟨by decide, rfl, rfl⟩
theorem lv_X9_order_X9_noTown : mV mX9_noTown + 1 ≤ mV mX9_order ∧ mC mX9_noTown = 0 ∧ mS mX9_noTown = 0 := ⟨by decide, rfl, rfl⟩
theorem lv_X9_order_X9_noUnion : mV mX9_noUnion + 1 ≤ mV mX9_order ∧ mC mX9_noUnion = 0 ∧ mS mX9_noUnion = 0 := ⟨by decide, rfl, rfl⟩
theorem lv_X9_out_X9_noTown : mV mX9_noTown + 1 ≤ mV mX9_out ∧ mC mX9_noTown = 0 ∧ mS mX9_noTown = 0 := ⟨by decide, rfl, rfl⟩
theorem lv_X9_out_X9_noUnion : mV mX9_noUnion + 1 ≤ mV mX9_out ∧ mC mX9_noUnion = 0 ∧ mS mX9_noUnion = 0 := ⟨by decide, rfl, rfl⟩
theorem lv_X9_purse_X9_beyond : mV mX9_beyond + 1 ≤ mV mX9_purse ∧ mC mX9_beyond = 0 ∧ mS mX9_beyond = 0 := ⟨by decide, rfl, rfl⟩
theorem lv_X9_purse_X9_noUnion : mV mX9_noUnion + 1 ≤ mV mX9_purse ∧ mC mX9_noUnion = 0 ∧ mS mX9_noUnion = 0 := ⟨by decide, rfl, rfl⟩
theorem lv_X9_reach_X6_comes : mV mX6_comes + 1 ≤ mV mX9_reach ∧ mC mX6_comes = 0 ∧ mS mX6_comes = 0 := ⟨by decide, rfl, rfl⟩
theorem lv_X9_reach_X9_noNumber : mV mX9_noNumber + 1 ≤ mV mX9_reach ∧ mC mX9_noNumber = 0 ∧ mS mX9_noNumber = 0 := ⟨by decide, rfl, rfl⟩
theorem lv_X9_reach_X9_noTown : mV mX9_noTown + 1 ≤ mV mX9_reach ∧ mC mX9_noTown = 0 ∧ mS mX9_noTown = 0 := ⟨by decide, rfl, rfl⟩
theorem lv_X9_road_X3_join : mV mX3_join + 1 ≤ mV mX9_road ∧ mC mX3_join = 0 ∧ mS mX3_join = 0 := ⟨by decide, rfl, rfl⟩
theorem lv_X9_road_X9_beyond : mV mX9_beyond + 1 ≤ mV mX9_road ∧ mC mX9_beyond = 0 ∧ mS mX9_beyond = 0 := ⟨by decide, rfl, rfl⟩
theorem lv_X9_road_X9_noTown : mV mX9_noTown + 1 ≤ mV mX9_road ∧ mC mX9_noTown = 0 ∧ mS mX9_noTown = 0 := ⟨by decide, rfl, rfl⟩
theorem lv_X9_rule_X7_read : mV mX7_read + 1 ≤ mV mX9_rule ∧ mC mX7_read = 0 ∧ mS mX7_read = 0 := ⟨by decide, rfl, rfl⟩
theorem lv_X9_rule_X8_enact : mV mX8_enact + 1 ≤ mV mX9_rule ∧ mC mX8_enact = 0 ∧ mS mX8_enact = 0 := ⟨by decide, rfl, rfl⟩
theorem lv_X9_rule_X9_beyond : mV mX9_beyond + 1 ≤ mV mX9_rule ∧ mC mX9_beyond = 0 ∧ mS mX9_beyond = 0 := ⟨by decide, rfl, rfl⟩
theorem lv_X9_stamp_X9_beyond : mV mX9_beyond + 1 ≤ mV mX9_stamp ∧ mC mX9_beyond = 0 ∧ mS mX9_beyond = 0 := ⟨by decide, rfl, rfl⟩
theorem lv_X9_stamp_X9_noNumber : mV mX9_noNumber + 1 ≤ mV mX9_stamp ∧ mC mX9_noNumber = 0 ∧ mS mX9_noNumber = 0 := ⟨by decide, rfl, rfl⟩
theorem lv_X9_store_X9_beyond : mV mX9_beyond + 1 ≤ mV mX9_store ∧ mC mX9_beyond = 0 ∧ mS mX9_beyond = 0 := ⟨by decide, rfl, rfl⟩
theorem lv_X9_store_X9_noGood : mV mX9_noGood + 1 ≤ mV mX9_store ∧ mC mX9_noGood = 0 ∧ mS mX9_noGood = 0 := ⟨by decide, rfl, rfl⟩
theorem lv_X9_store_X9_noTown : mV mX9_noTown + 1 ≤ mV mX9_store ∧ mC mX9_noTown = 0 ∧ mS mX9_noTown = 0 := ⟨by decide, rfl, rfl⟩
theorem lv_X9_table_X9_beyond : mV mX9_beyond + 1 ≤ mV mX9_table ∧ mC mX9_beyond = 0 ∧ mS mX9_beyond = 0 := ⟨by decide, rfl, rfl⟩
theorem lv_X9_told_X9_noNumber : mV mX9_noNumber + 1 ≤ mV mX9_told ∧ mC mX9_noNumber = 0 ∧ mS mX9_noNumber = 0 := ⟨by decide, rfl, rfl⟩
theorem lv_X9_town_X9_beyond : mV mX9_beyond + 1 ≤ mV mX9_town ∧ mC mX9_beyond = 0 ∧ mS mX9_beyond = 0 := ⟨by decide, rfl, rfl⟩
theorem lv_X9_town_X9_noTown : mV mX9_noTown + 1 ≤ mV mX9_town ∧ mC mX9_noTown = 0 ∧ mS mX9_noTown = 0 := ⟨by decide, rfl, rfl⟩
theorem lv_X9_words_X5_missing : mV mX5_missing + 1 ≤ mV mX9_words ∧ mC mX5_missing = 0 ∧ mS mX5_missing = 0 := ⟨by decide, rfl, rfl⟩
theorem lv_X9_words_X8_holdIn : mV mX8_holdIn + 1 ≤ mV mX9_words ∧ mC mX8_holdIn = 0 ∧ mS mX8_holdIn = 0 := ⟨by decide, rfl, rfl⟩
