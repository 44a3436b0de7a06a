-- the constructors: those without a loop
theorem TL_0 : (Tk 0).length = 0 := rfl
theorem TL_1 : (Tk 1).length = 1 := rfl
theorem TL_2 : (Tk 2).length = 2 := rfl
theorem TL_3 : (Tk 3).length = 3 := rfl
theorem TL_4 : (Tk 4).length = 4 := rfl
theorem TL_5 : (Tk 5).length = 5 := rfl
theorem TL_6 : (Tk 6).length = 6 := rfl
theorem TL_7 : (Tk 7).length = 7 := rfl
theorem TL_8 : (Tk 8).length = 8 := rfl
theorem TL_9 : (Tk 9).length = 9 := rfl
theorem TL_10 : (Tk 10).length = 10 := rfl
theorem TL_11 : (Tk 11).length = 11 := rfl
theorem TL_12 : (Tk 12).length = 12 := rfl
theorem TL_13 : (Tk 13).length = 13 := rfl
theorem TL_14 : (Tk 14).length = 14 := rfl
theorem TL_15 : (Tk 15).length = 15 := rfl
theorem TL_16 : (Tk 16).length = 16 := rfl
theorem TL_17 : (Tk 17).length = 17 := rfl
theorem TL_18 : (Tk 18).length = 18 := rfl
theorem TL_19 : (Tk 19).length = 19 := rfl
theorem TL_20 : (Tk 20).length = 20 := rfl
theorem TL_21 : (Tk 21).length = 21 := rfl
theorem TL_22 : (Tk 22).length = 22 := rfl
theorem TL_23 : (Tk 23).length = 23 := rfl
theorem TL_24 : (Tk 24).length = 24 := rfl
theorem TL_25 : (Tk 25).length = 25 := rfl
theorem TL_26 : (Tk 26).length = 26 := rfl
theorem TL_27 : (Tk 27).length = 27 := rfl
theorem TL_28 : (Tk 28).length = 28 := rfl
theorem TL_29 : (Tk 29).length = 29 := rfl
theorem TL_30 : (Tk 30).length = 30 := rfl
theorem TL_31 : (Tk 31).length = 31 := rfl
theorem TL_32 : (Tk 32).length = 32 := rfl
theorem TL_33 : (Tk 33).length = 33 := rfl
theorem TL_34 : (Tk 34).length = 34 := rfl
theorem TL_35 : (Tk 35).length = 35 := rfl
theorem TL_36 : (Tk 36).length = 36 := rfl
theorem TL_37 : (Tk 37).length = 37 := rfl
theorem TL_38 : (Tk 38).length = 38 := rfl
theorem TL_39 : (Tk 39).length = 39 := rfl
theorem TL_40 : (Tk 40).length = 40 := rfl
theorem TL_41 : (Tk 41).length = 41 := rfl
theorem TL_42 : (Tk 42).length = 42 := rfl
theorem TL_43 : (Tk 43).length = 43 := rfl
theorem TL_44 : (Tk 44).length = 44 := rfl
theorem TL_45 : (Tk 45).length = 45 := rfl
theorem TL_46 : (Tk 46).length = 46 := rfl
theorem TL_47 : (Tk 47).length = 47 := rfl
theorem TL_48 : (Tk 48).length = 48 := rfl
theorem TL_49 : (Tk 49).length = 49 := rfl
theorem TL_50 : (Tk 50).length = 50 := rfl
theorem TL_51 : (Tk 51).length = 51 := rfl
theorem TL_52 : (Tk 52).length = 52 := rfl
theorem TL_53 : (Tk 53).length = 53 := rfl
theorem TL_54 : (Tk 54).length = 54 := rfl
theorem TL_55 : (Tk 55).length = 55 := rfl
theorem TL_56 : (Tk 56).length = 56 := rfl
theorem TL_57 : (Tk 57).length = 57 := rfl
theorem TL_58 : (Tk 58).length = 58 := rfl
theorem TL_59 : (Tk 59).length = 59 := rfl
theorem TL_60 : (Tk 60).length = 60 := rfl
theorem TL_61 : (Tk 61).length = 61 := rfl
theorem TL_62 : (Tk 62).length = 62 := rfl
theorem TL_63 : (Tk 63).length = 63 := rfl
theorem TL_64 : (Tk 64).length = 64 := rfl
theorem TL_65 : (Tk 65).length = 65 := rfl
theorem TL_66 : (Tk 66).length = 66 := rfl
theorem TL_67 : (Tk 67).length = 67 := rfl
theorem TL_68 : (Tk 68).length = 68 := rfl
theorem TL_69 : (Tk 69).length = 69 := rfl
theorem TL_70 : (Tk 70).length = 70 := rfl
theorem TL_71 : (Tk 71).length = 71 := rfl
theorem TL_72 : (Tk 72).length = 72 := rfl
theorem TL_73 : (Tk 73).length = 73 := rfl
theorem TL_74 : (Tk 74).length = 74 := rfl
theorem TL_75 : (Tk 75).length = 75 := rfl
theorem TL_76 : (Tk 76).length = 76 := rfl
theorem TL_77 : (Tk 77).length = 77 := rfl
theorem TL_78 : (Tk 78).length = 78 := rfl
theorem TL_79 : (Tk 79).length = 79 := rfl
theorem TL_80 : (Tk 80).length = 80 := rfl
theorem TL_81 : (Tk 81).length = 81 := rfl
theorem TL_82 : (Tk 82).length = 82 := rfl
theorem TL_83 : (Tk 83).length = 83 := rfl
theorem TL_84 : (Tk 84).length = 84 := rfl
theorem TL_85 : (Tk 85).length = 85 := rfl
theorem TL_86 : (Tk 86).length = 86 := rfl
theorem TL_87 : (Tk 87).length = 87 := rfl
theorem TL_88 : (Tk 88).length = 88 := rfl
theorem TL_89 : (Tk 89).length = 89 := rfl
theorem TL_90 : (Tk 90).length = 90 := rfl
theorem TL_91 : (Tk 91).length = 91 := rfl
theorem TL_92 : (Tk 92).length = 92 := rfl
theorem TL_93 : (Tk 93).length = 93 := rfl
theorem TL_94 : (Tk 94).length = 94 := rfl
theorem TL_95 : (Tk 95).length = 95 := rfl
theorem TL_96 : (Tk 96).length = 96 := rfl
theorem TL_97 : (Tk 97).length = 97 := rfl
theorem TL_98 : (Tk 98).length = 98 := rfl
theorem TL_99 : (Tk 99).length = 99 := rfl
theorem TL_100 : (Tk 100).length = 100 := rfl
theorem TL_101 : (Tk 101).length = 101 := rfl
theorem TL_102 : (Tk 102).length = 102 := rfl
theorem TL_103 : (Tk 103).length = 103 := rfl
theorem TL_104 : (Tk 104).length = 104 := rfl
theorem TL_105 : (Tk 105).length = 105 := rfl
theorem TL_106 : (Tk 106).length = 106 := rfl
theorem TL_107 : (Tk 107).length = 107 := rfl
theorem TL_108 : (Tk 108).length = 108 := rfl
theorem TL_109 : (Tk 109).length = 109 := rfl
theorem TL_110 : (Tk 110).length = 110 := rfl
theorem TL_111 : (Tk 111).length = 111 := rfl
theorem TL_112 : (Tk 112).length = 112 := rfl
theorem TL_113 : (Tk 113).length = 113 := rfl
theorem TL_114 : (Tk 114).length = 114 := rfl
theorem TA_0 : Tk 0 ++ [(12, 12)] = Tk 1 := rfl
theorem TA_1 : Tk 1 ++ [(6, 2)] = Tk 2 := rfl
theorem TA_2 : Tk 2 ++ [(1, 64)] = Tk 3 := rfl
theorem TA_3 : Tk 3 ++ [(5, 5)] = Tk 4 := rfl
theorem TA_4 : Tk 4 ++ [(1, 24)] = Tk 5 := rfl
theorem TA_5 : Tk 5 ++ [(1, 24)] = Tk 6 := rfl
theorem TA_6 : Tk 6 ++ [(1, 48)] = Tk 7 := rfl
theorem TA_7 : Tk 7 ++ [(1, 6)] = Tk 8 := rfl
theorem TA_8 : Tk 8 ++ [(1, 6)] = Tk 9 := rfl
theorem TA_9 : Tk 9 ++ [(9, 8)] = Tk 10 := rfl
theorem TA_10 : Tk 10 ++ [(1, 40)] = Tk 11 := rfl
theorem TA_11 : Tk 11 ++ [(1, 40)] = Tk 12 := rfl
theorem TA_12 : Tk 12 ++ [(1, 40)] = Tk 13 := rfl
theorem TA_13 : Tk 13 ++ [(1, 40)] = Tk 14 := rfl
theorem TA_14 : Tk 14 ++ [(1, 96)] = Tk 15 := rfl
theorem TA_15 : Tk 15 ++ [(1, 96)] = Tk 16 := rfl
theorem TA_16 : Tk 16 ++ [(11, 6)] = Tk 17 := rfl
theorem TA_17 : Tk 17 ++ [(1, 8)] = Tk 18 := rfl
theorem TA_18 : Tk 18 ++ [(1, 8)] = Tk 19 := rfl
theorem TA_19 : Tk 19 ++ [(1, 8)] = Tk 20 := rfl
theorem TA_20 : Tk 20 ++ [(1, 64)] = Tk 21 := rfl
theorem TA_21 : Tk 21 ++ [(1, 64)] = Tk 22 := rfl
theorem TA_22 : Tk 22 ++ [(10, 9)] = Tk 23 := rfl
theorem TA_23 : Tk 23 ++ [(1, 160)] = Tk 24 := rfl
theorem TA_24 : Tk 24 ++ [(1, 8)] = Tk 25 := rfl
theorem TA_25 : Tk 25 ++ [(1, 8)] = Tk 26 := rfl
theorem TA_26 : Tk 26 ++ [(8, 7)] = Tk 27 := rfl
theorem TA_27 : Tk 27 ++ [(1, 40)] = Tk 28 := rfl
theorem TA_28 : Tk 28 ++ [(1, 40)] = Tk 29 := rfl
theorem TA_29 : Tk 29 ++ [(1, 40)] = Tk 30 := rfl
theorem TA_30 : Tk 30 ++ [(1, 40)] = Tk 31 := rfl
theorem TA_31 : Tk 31 ++ [(1, 40)] = Tk 32 := rfl
theorem TA_32 : Tk 32 ++ [(1, 40)] = Tk 33 := rfl
theorem TA_33 : Tk 33 ++ [(3, 17)] = Tk 34 := rfl
theorem TA_34 : Tk 34 ++ [(1, 24)] = Tk 35 := rfl
theorem TA_35 : Tk 35 ++ [(1, 24)] = Tk 36 := rfl
theorem TA_36 : Tk 36 ++ [(1, 24)] = Tk 37 := rfl
theorem TA_37 : Tk 37 ++ [(1, 48)] = Tk 38 := rfl
theorem TA_38 : Tk 38 ++ [(1, 48)] = Tk 39 := rfl
theorem TA_39 : Tk 39 ++ [(1, 48)] = Tk 40 := rfl
theorem TA_40 : Tk 40 ++ [(1, 6)] = Tk 41 := rfl
theorem TA_41 : Tk 41 ++ [(1, 40)] = Tk 42 := rfl
theorem TA_42 : Tk 42 ++ [(1, 40)] = Tk 43 := rfl
theorem TA_43 : Tk 43 ++ [(1, 40)] = Tk 44 := rfl
theorem TA_44 : Tk 44 ++ [(2, 48)] = Tk 45 := rfl
theorem TA_45 : Tk 45 ++ [(1, 7)] = Tk 46 := rfl
theorem TA_46 : Tk 46 ++ [(3, 17)] = Tk 47 := rfl
theorem TA_47 : Tk 47 ++ [(1, 24)] = Tk 48 := rfl
theorem TA_48 : Tk 48 ++ [(1, 24)] = Tk 49 := rfl
theorem TA_49 : Tk 49 ++ [(1, 24)] = Tk 50 := rfl
theorem TA_50 : Tk 50 ++ [(1, 48)] = Tk 51 := rfl
theorem TA_51 : Tk 51 ++ [(1, 48)] = Tk 52 := rfl
theorem TA_52 : Tk 52 ++ [(1, 48)] = Tk 53 := rfl
theorem TA_53 : Tk 53 ++ [(1, 6)] = Tk 54 := rfl
theorem TA_54 : Tk 54 ++ [(1, 40)] = Tk 55 := rfl
theorem TA_55 : Tk 55 ++ [(1, 40)] = Tk 56 := rfl
theorem TA_56 : Tk 56 ++ [(1, 40)] = Tk 57 := rfl
theorem TA_57 : Tk 57 ++ [(2, 48)] = Tk 58 := rfl
theorem TA_58 : Tk 58 ++ [(1, 7)] = Tk 59 := rfl
theorem TA_59 : Tk 59 ++ [(7, 6)] = Tk 60 := rfl
theorem TA_60 : Tk 60 ++ [(1, 24)] = Tk 61 := rfl
theorem TA_61 : Tk 61 ++ [(1, 24)] = Tk 62 := rfl
theorem TA_62 : Tk 62 ++ [(1, 24)] = Tk 63 := rfl
theorem TA_63 : Tk 63 ++ [(1, 24)] = Tk 64 := rfl
theorem TA_64 : Tk 64 ++ [(2, 24)] = Tk 65 := rfl
theorem TA_65 : Tk 65 ++ [(4, 6)] = Tk 66 := rfl
theorem TA_66 : Tk 66 ++ [(1, 9)] = Tk 67 := rfl
theorem TA_67 : Tk 67 ++ [(1, 991)] = Tk 68 := rfl
theorem TA_68 : Tk 68 ++ [(1, 991)] = Tk 69 := rfl
theorem TA_69 : Tk 69 ++ [(1, 7)] = Tk 70 := rfl
theorem TA_70 : Tk 70 ++ [(13, 60)] = Tk 71 := rfl
theorem TA_71 : Tk 71 ++ [(1, 64)] = Tk 72 := rfl
theorem TA_72 : Tk 72 ++ [(1, 24)] = Tk 73 := rfl
theorem TA_73 : Tk 73 ++ [(1, 24)] = Tk 74 := rfl
theorem TA_74 : Tk 74 ++ [(1, 24)] = Tk 75 := rfl
theorem TA_75 : Tk 75 ++ [(1, 24)] = Tk 76 := rfl
theorem TA_76 : Tk 76 ++ [(1, 24)] = Tk 77 := rfl
theorem TA_77 : Tk 77 ++ [(1, 48)] = Tk 78 := rfl
theorem TA_78 : Tk 78 ++ [(1, 48)] = Tk 79 := rfl
theorem TA_79 : Tk 79 ++ [(1, 48)] = Tk 80 := rfl
theorem TA_80 : Tk 80 ++ [(1, 48)] = Tk 81 := rfl
theorem TA_81 : Tk 81 ++ [(1, 6)] = Tk 82 := rfl
theorem TA_82 : Tk 82 ++ [(1, 6)] = Tk 83 := rfl
theorem TA_83 : Tk 83 ++ [(1, 6)] = Tk 84 := rfl
theorem TA_84 : Tk 84 ++ [(1, 40)] = Tk 85 := rfl
theorem TA_85 : Tk 85 ++ [(1, 40)] = Tk 86 := rfl
theorem TA_86 : Tk 86 ++ [(1, 40)] = Tk 87 := rfl
theorem TA_87 : Tk 87 ++ [(1, 40)] = Tk 88 := rfl
theorem TA_88 : Tk 88 ++ [(1, 8)] = Tk 89 := rfl
theorem TA_89 : Tk 89 ++ [(1, 8)] = Tk 90 := rfl
theorem TA_90 : Tk 90 ++ [(1, 64)] = Tk 91 := rfl
theorem TA_91 : Tk 91 ++ [(1, 64)] = Tk 92 := rfl
theorem TA_92 : Tk 92 ++ [(1, 64)] = Tk 93 := rfl
theorem TA_93 : Tk 93 ++ [(1, 160)] = Tk 94 := rfl
theorem TA_94 : Tk 94 ++ [(2, 8)] = Tk 95 := rfl
theorem TA_95 : Tk 95 ++ [(1, 8)] = Tk 96 := rfl
theorem TA_96 : Tk 96 ++ [(1, 3)] = Tk 97 := rfl
theorem TA_97 : Tk 97 ++ [(1, 40)] = Tk 98 := rfl
theorem TA_98 : Tk 98 ++ [(1, 40)] = Tk 99 := rfl
theorem TA_99 : Tk 99 ++ [(1, 40)] = Tk 100 := rfl
theorem TA_100 : Tk 100 ++ [(1, 40)] = Tk 101 := rfl
theorem TA_101 : Tk 101 ++ [(1, 40)] = Tk 102 := rfl
theorem TA_102 : Tk 102 ++ [(1, 40)] = Tk 103 := rfl
theorem TA_103 : Tk 103 ++ [(1, 40)] = Tk 104 := rfl
theorem TA_104 : Tk 104 ++ [(1, 40)] = Tk 105 := rfl
theorem TA_105 : Tk 105 ++ [(1, 40)] = Tk 106 := rfl
theorem TA_106 : Tk 106 ++ [(1, 24)] = Tk 107 := rfl
theorem TA_107 : Tk 107 ++ [(1, 24)] = Tk 108 := rfl
theorem TA_108 : Tk 108 ++ [(1, 24)] = Tk 109 := rfl
theorem TA_109 : Tk 109 ++ [(1, 24)] = Tk 110 := rfl
theorem TA_110 : Tk 110 ++ [(2, 24)] = Tk 111 := rfl
theorem TA_111 : Tk 111 ++ [(1, 9)] = Tk 112 := rfl
theorem TA_112 : Tk 112 ++ [(1, 9100)] = Tk 113 := rfl
theorem TA_113 : Tk 113 ++ [(1, 400)] = Tk 114 := rfl
theorem Lo_0 : Ld 0 = (12, 12) := rfl
theorem Lo_1 : Ld 1 = (6, 2) := rfl
theorem Lo_3 : Ld 3 = (5, 5) := rfl
theorem Lo_9 : Ld 9 = (9, 8) := rfl
theorem Lo_16 : Ld 16 = (11, 6) := rfl
theorem Lo_22 : Ld 22 = (10, 9) := rfl
theorem Lo_26 : Ld 26 = (8, 7) := rfl
theorem Lo_33 : Ld 33 = (3, 17) := rfl
theorem Lo_46 : Ld 46 = (3, 17) := rfl
theorem Lo_59 : Ld 59 = (7, 6) := rfl
theorem Lo_65 : Ld 65 = (4, 6) := rfl
theorem Lo_70 : Ld 70 = (13, 60) := rfl
theorem tnc_3 : Int32.toNatClampNeg 3 = 3 := by decide
theorem tzc_3 : (¬ (3 : Int32) < 0) = True := by decide
theorem tnc_6 : Int32.toNatClampNeg 6 = 6 := by decide
theorem tzc_6 : (¬ (6 : Int32) < 0) = True := by decide
theorem tnc_7 : Int32.toNatClampNeg 7 = 7 := by decide
theorem tzc_7 : (¬ (7 : Int32) < 0) = True := by decide
theorem tnc_8 : Int32.toNatClampNeg 8 = 8 := by decide
theorem tzc_8 : (¬ (8 : Int32) < 0) = True := by decide
theorem tnc_9 : Int32.toNatClampNeg 9 = 9 := by decide
theorem tzc_9 : (¬ (9 : Int32) < 0) = True := by decide
theorem tnc_24 : Int32.toNatClampNeg 24 = 24 := by decide
theorem tzc_24 : (¬ (24 : Int32) < 0) = True := by decide
theorem tnc_40 : Int32.toNatClampNeg 40 = 40 := by decide
theorem tzc_40 : (¬ (40 : Int32) < 0) = True := by decide
theorem tnc_48 : Int32.toNatClampNeg 48 = 48 := by decide
theorem tzc_48 : (¬ (48 : Int32) < 0) = True := by decide
theorem tnc_64 : Int32.toNatClampNeg 64 = 64 := by decide
theorem tzc_64 : (¬ (64 : Int32) < 0) = True := by decide
theorem tnc_96 : Int32.toNatClampNeg 96 = 96 := by decide
theorem tzc_96 : (¬ (96 : Int32) < 0) = True := by decide
theorem tnc_160 : Int32.toNatClampNeg 160 = 160 := by decide
theorem tzc_160 : (¬ (160 : Int32) < 0) = True := by decide
theorem tnc_400 : Int32.toNatClampNeg 400 = 400 := by decide
theorem tzc_400 : (¬ (400 : Int32) < 0) = True := by decide
theorem tnc_991 : Int32.toNatClampNeg 991 = 991 := by decide
theorem tzc_991 : (¬ (991 : Int32) < 0) = True := by decide
theorem tnc_9100 : Int32.toNatClampNeg 9100 = 9100 := by decide
theorem tzc_9100 : (¬ (9100 : Int32) < 0) = True := by decide
theorem cc_X3_init : mC mX3_init = 1 := rfl
theorem cz_X3_init : mS mX3_init = 64 := rfl
theorem cc_X2_init : mC mX2_init = 5 := rfl
theorem cz_X2_init : mS mX2_init = 108 := rfl
theorem cc_X6_init : mC mX6_init = 6 := rfl
theorem cz_X6_init : mS mX6_init = 352 := rfl
theorem cc_X8_init : mC mX8_init = 5 := rfl
theorem cz_X8_init : mS mX8_init = 152 := rfl
theorem cc_X7_init : mC mX7_init = 3 := rfl
theorem cz_X7_init : mS mX7_init = 176 := rfl
theorem cc_X5_init : mC mX5_init = 6 := rfl
theorem cz_X5_init : mS mX5_init = 240 := rfl
theorem cc_X0_init : mC mX0_init = 12 := rfl
theorem cz_X0_init : mS mX0_init = 397 := rfl
theorem cc_X4_init : mC mX4_init = 5 := rfl
theorem cz_X4_init : mS mX4_init = 120 := rfl
theorem cc_X1_init : mC mX1_init = 3 := rfl
theorem cz_X1_init : mS mX1_init = 1991 := rfl
theorem cc_X9_init : mC mX9_init = 69 := rfl
theorem cz_X9_init : mS mX9_init = 4087 := rfl
theorem cc_X10_init : mC mX10_init = 43 := rfl
theorem cz_X10_init : mS mX10_init = 10930 := rfl
theorem upF_o (F : xF) (a j : Nat) (v : Value) {b : Nat} (h : ¬ b = a) : upF F a j v b = F b := by
  funext i
  unfold upF
  rw [if_neg (fun q => h q.1)]
theorem upF_s (F : xF) (a j : Nat) (v : Value) : upF F a j v a j = v := by simp [upF]
theorem upF_n (F : xF) (a j : Nat) (v : Value) {i : Nat} (h : ¬ i = j) : upF F a j v a i = F a i := by simp [upF, h]
theorem nwF_s (F : xF) (a : Nat) (f : Nat → Value) : nwF F a f a = f := by simp [nwF]
theorem nwF_o (F : xF) (a : Nat) (f : Nat → Value) {b : Nat} (h : ¬ b = a) : nwF F a f b = F b := by simp [nwF, h]
set_option maxHeartbeats 4000000 in
theorem c_orders {F : xF} {A : xA} {Q : xQ} (h : ctP 9 10 16 F A Q) : CallOk mX6_init [.ref (9 : Nat), .ref (1 : Nat)] (Tk 10) F A Q := by
  refine call_of mX6_init [.ref (9 : Nat), .ref (1 : Nat)] (Tk 10) F A Q (ls := [some (.ref (9 : Nat)), some (.ref (1 : Nat))]) rfl (Nat.le_of_ble_eq_true rfl) (by decide) rfl rfl ?_
  refine ok1_0 cX6_init 6 35 rfl rfl ?_
  simp only [Nat.reduceEqDiff, not_false_eq_true, Nat.zero_le, Nat.reduceLeDiff, Nat.reduceLT, Nat.reduceAdd, sg1_s, ↓kig_0, ↓kig_c, ↓reduceIte, nl_n, nl_i, nl_r, List.length_cons, List.length_nil, true_and, and_true, and_self, (n_aload_n_0 dX6_init_0 (n := 1) rfl), (n_oini (M := mX6_init) dX6_init_1 (n := 4) rfl cB_6_3 (by decide)), (n_aload_n_0 dX6_init_4 (n := 5) rfl), (n_bipush dX6_init_5 (n := 7) rfl kb_40), (n_newi dX6_init_7 (n := 9) rfl), (n_putr (M := mX6_init) dX6_init_9 (n := 12) rfl cF_6_9 (Or.inr ⟨rfl, rfl, rfl⟩)), (n_aload_n_0 dX6_init_12 (n := 13) rfl), (n_bipush dX6_init_13 (n := 15) rfl kb_40), (n_newi dX6_init_15 (n := 17) rfl), (n_putr (M := mX6_init) dX6_init_17 (n := 20) rfl cF_6_15 (Or.inr ⟨rfl, rfl, rfl⟩)), (n_aload_n_0 dX6_init_20 (n := 21) rfl), (n_bipush dX6_init_21 (n := 23) rfl kb_40), (n_newi dX6_init_23 (n := 25) rfl), (n_putr (M := mX6_init) dX6_init_25 (n := 28) rfl cF_6_18 (Or.inr ⟨rfl, rfl, rfl⟩)), (n_aload_n_0 dX6_init_28 (n := 29) rfl), (n_bipush dX6_init_29 (n := 31) rfl kb_40), (n_newi dX6_init_31 (n := 33) rfl), (n_putr (M := mX6_init) dX6_init_33 (n := 36) rfl cF_6_21 (Or.inr ⟨rfl, rfl, rfl⟩)), (n_aload_n_0 dX6_init_36 (n := 37) rfl), (n_bipush dX6_init_37 (n := 39) rfl kb_96), (n_newi dX6_init_39 (n := 41) rfl), (n_putr (M := mX6_init) dX6_init_41 (n := 44) rfl cF_6_24 (Or.inr ⟨rfl, rfl, rfl⟩)), (n_aload_n_0 dX6_init_44 (n := 45) rfl), (n_bipush dX6_init_45 (n := 47) rfl kb_96), (n_newi dX6_init_47 (n := 49) rfl), (n_putr (M := mX6_init) dX6_init_49 (n := 52) rfl cF_6_27 (Or.inr ⟨rfl, rfl, rfl⟩)), (n_aload_n_0 dX6_init_52 (n := 53) rfl), (n_iconst dX6_init_53 (n := 54) rfl ki_0), (n_puti (M := mX6_init) dX6_init_54 (n := 57) rfl cF_6_30 (Or.inl rfl)), (n_aload_n_0 dX6_init_57 (n := 58) rfl), (n_aload_n_1 dX6_init_58 (n := 59) rfl), (n_putr (M := mX6_init) dX6_init_59 (n := 62) rfl cF_6_34 (Or.inr ⟨rfl, rfl, rfl⟩)), (n_ret (M := mX6_init) dX6_init_62 (n := 63) rfl rfl), TL_10, TA_10, TL_11, TA_11, TL_12, TA_12, TL_13, TA_13, TL_14, TA_14, TL_15, TA_15, TL_16, Tk_get, Lo_9, Ld_10, Ld_11, Ld_12, Ld_13, Ld_14, Ld_15, tnc_40, tzc_40, tnc_96, tzc_96, cc_X6_init, cz_X6_init, Nat.lt_irrefl, Nat.le_refl, Option.toList_none, List.nil_append]
  exact h _ _ (by
    intro j hj
    have hj : j < 8 := hj
    match j, hj with
    | 0, _ => rfl
    | 1, _ => rfl
    | 2, _ => rfl
    | 3, _ => rfl
    | 4, _ => rfl
    | 5, _ => rfl
    | 6, _ => rfl
    | 7, _ => rfl
    | n + 8, h => exact absurd h (by omega)) (fun b hb => by simp only [upF_o _ _ _ _ hb]) (fun b hb => by
    simp (discharger := omega) only [upA_n]) (fun b h1 h2 h3 i hi => by
    obtain rfl | rfl | rfl | rfl | rfl | rfl : b = 10 ∨ b = 11 ∨ b = 12 ∨ b = 13 ∨ b = 14 ∨ b = 15 := by omega
    · rfl
    · rfl
    · rfl
    · rfl
    · rfl
    · rfl)
set_option maxHeartbeats 4000000 in
theorem c_rules {F : xF} {A : xA} {Q : xQ} (h : ctP 16 17 22 F A Q) : CallOk mX8_init [.ref (16 : Nat)] (Tk 17) F A Q := by
  refine call_of mX8_init [.ref (16 : Nat)] (Tk 17) F A Q (ls := [some (.ref (16 : Nat))]) rfl (Nat.le_of_ble_eq_true rfl) (by decide) rfl rfl ?_
  refine ok1_0 cX8_init 8 28 rfl rfl ?_
  simp only [Nat.reduceEqDiff, not_false_eq_true, Nat.zero_le, Nat.reduceLeDiff, Nat.reduceLT, Nat.reduceAdd, sg1_s, ↓kig_0, ↓kig_c, ↓reduceIte, nl_n, nl_i, nl_r, List.length_cons, List.length_nil, true_and, and_true, and_self, (n_aload_n_0 dX8_init_0 (n := 1) rfl), (n_oini (M := mX8_init) dX8_init_1 (n := 4) rfl cB_8_3 (by decide)), (n_aload_n_0 dX8_init_4 (n := 5) rfl), (n_bipush dX8_init_5 (n := 7) rfl kb_8), (n_newi dX8_init_7 (n := 9) rfl), (n_putr (M := mX8_init) dX8_init_9 (n := 12) rfl cF_8_9 (Or.inr ⟨rfl, rfl, rfl⟩)), (n_aload_n_0 dX8_init_12 (n := 13) rfl), (n_bipush dX8_init_13 (n := 15) rfl kb_8), (n_newi dX8_init_15 (n := 17) rfl), (n_putr (M := mX8_init) dX8_init_17 (n := 20) rfl cF_8_15 (Or.inr ⟨rfl, rfl, rfl⟩)), (n_aload_n_0 dX8_init_20 (n := 21) rfl), (n_bipush dX8_init_21 (n := 23) rfl kb_8), (n_newi dX8_init_23 (n := 25) rfl), (n_putr (M := mX8_init) dX8_init_25 (n := 28) rfl cF_8_18 (Or.inr ⟨rfl, rfl, rfl⟩)), (n_aload_n_0 dX8_init_28 (n := 29) rfl), (n_bipush dX8_init_29 (n := 31) rfl kb_64), (n_newi dX8_init_31 (n := 33) rfl), (n_putr (M := mX8_init) dX8_init_33 (n := 36) rfl cF_8_21 (Or.inr ⟨rfl, rfl, rfl⟩)), (n_aload_n_0 dX8_init_36 (n := 37) rfl), (n_bipush dX8_init_37 (n := 39) rfl kb_64), (n_newi dX8_init_39 (n := 41) rfl), (n_putr (M := mX8_init) dX8_init_41 (n := 44) rfl cF_8_24 (Or.inr ⟨rfl, rfl, rfl⟩)), (n_aload_n_0 dX8_init_44 (n := 45) rfl), (n_iconst dX8_init_45 (n := 46) rfl ki_0), (n_puti (M := mX8_init) dX8_init_46 (n := 49) rfl cF_8_27 (Or.inl rfl)), (n_ret (M := mX8_init) dX8_init_49 (n := 50) rfl rfl), TL_17, TA_17, TL_18, TA_18, TL_19, TA_19, TL_20, TA_20, TL_21, TA_21, TL_22, Tk_get, Lo_16, Ld_17, Ld_18, Ld_19, Ld_20, Ld_21, tnc_8, tzc_8, tnc_64, tzc_64, cc_X8_init, cz_X8_init, Nat.lt_irrefl, Nat.le_refl, Option.toList_none, List.nil_append]
  exact h _ _ (by
    intro j hj
    have hj : j < 6 := hj
    match j, hj with
    | 0, _ => rfl
    | 1, _ => rfl
    | 2, _ => rfl
    | 3, _ => rfl
    | 4, _ => rfl
    | 5, _ => rfl
    | n + 6, h => exact absurd h (by omega)) (fun b hb => by simp only [upF_o _ _ _ _ hb]) (fun b hb => by
    simp (discharger := omega) only [upA_n]) (fun b h1 h2 h3 i hi => by
    obtain rfl | rfl | rfl | rfl | rfl : b = 17 ∨ b = 18 ∨ b = 19 ∨ b = 20 ∨ b = 21 := by omega
    · rfl
    · rfl
    · rfl
    · rfl
    · rfl)
set_option maxHeartbeats 4000000 in
theorem c_reader {F : xF} {A : xA} {Q : xQ} (h : ctP 22 23 26 F A Q) : CallOk mX7_init [.ref (22 : Nat)] (Tk 23) F A Q := by
  refine call_of mX7_init [.ref (22 : Nat)] (Tk 23) F A Q (ls := [some (.ref (22 : Nat))]) rfl (Nat.le_of_ble_eq_true rfl) (by decide) rfl rfl ?_
  refine ok1_0 cX7_init 7 35 rfl rfl ?_
  simp only [Nat.reduceEqDiff, not_false_eq_true, Nat.zero_le, Nat.reduceLeDiff, Nat.reduceLT, Nat.reduceAdd, sg1_s, ↓kig_0, ↓kig_c, ↓reduceIte, nl_n, nl_i, nl_r, List.length_cons, List.length_nil, true_and, and_true, and_self, (n_aload_n_0 dX7_init_0 (n := 1) rfl), (n_oini (M := mX7_init) dX7_init_1 (n := 4) rfl cB_7_3 (by decide)), (n_aload_n_0 dX7_init_4 (n := 5) rfl), (n_sipush dX7_init_5 (n := 8) rfl ks_160), (n_newi dX7_init_8 (n := 10) rfl), (n_putr (M := mX7_init) dX7_init_10 (n := 13) rfl cF_7_9 (Or.inr ⟨rfl, rfl, rfl⟩)), (n_aload_n_0 dX7_init_13 (n := 14) rfl), (n_bipush dX7_init_14 (n := 16) rfl kb_8), (n_newi dX7_init_16 (n := 18) rfl), (n_putr (M := mX7_init) dX7_init_18 (n := 21) rfl cF_7_15 (Or.inr ⟨rfl, rfl, rfl⟩)), (n_aload_n_0 dX7_init_21 (n := 22) rfl), (n_bipush dX7_init_22 (n := 24) rfl kb_8), (n_newi dX7_init_24 (n := 26) rfl), (n_putr (M := mX7_init) dX7_init_26 (n := 29) rfl cF_7_18 (Or.inr ⟨rfl, rfl, rfl⟩)), (n_aload_n_0 dX7_init_29 (n := 30) rfl), (n_iconst dX7_init_30 (n := 31) rfl ki_0), (n_puti (M := mX7_init) dX7_init_31 (n := 34) rfl cF_7_21 (Or.inl rfl)), (n_aload_n_0 dX7_init_34 (n := 35) rfl), (n_iconst dX7_init_35 (n := 36) rfl ki_0), (n_puti (M := mX7_init) dX7_init_36 (n := 39) rfl cF_7_25 (Or.inl rfl)), (n_aload_n_0 dX7_init_39 (n := 40) rfl), (n_iconst dX7_init_40 (n := 41) rfl ki_0), (n_puti (M := mX7_init) dX7_init_41 (n := 44) rfl cF_7_28 (Or.inl rfl)), (n_aload_n_0 dX7_init_44 (n := 45) rfl), (n_iconst dX7_init_45 (n := 46) rfl ki_m1), (n_puti (M := mX7_init) dX7_init_46 (n := 49) rfl cF_7_31 (Or.inl rfl)), (n_aload_n_0 dX7_init_49 (n := 50) rfl), (n_iconst dX7_init_50 (n := 51) rfl ki_0), (n_puti (M := mX7_init) dX7_init_51 (n := 54) rfl cF_7_34 (Or.inl rfl)), (n_aload_n_0 dX7_init_54 (n := 55) rfl), (n_iconst dX7_init_55 (n := 56) rfl ki_0), (n_puti (M := mX7_init) dX7_init_56 (n := 59) rfl cF_7_37 (Or.inl rfl)), (n_ret (M := mX7_init) dX7_init_59 (n := 60) rfl rfl), TL_23, TA_23, TL_24, TA_24, TL_25, TA_25, TL_26, Tk_get, Lo_22, Ld_23, Ld_24, Ld_25, tnc_8, tzc_8, tnc_160, tzc_160, cc_X7_init, cz_X7_init, Nat.lt_irrefl, Nat.le_refl, Option.toList_none, List.nil_append]
  exact h _ _ (by
    intro j hj
    have hj : j < 9 := hj
    match j, hj with
    | 0, _ => rfl
    | 1, _ => rfl
    | 2, _ => rfl
    | 3, _ => rfl
    | 4, _ => rfl
    | 5, _ => rfl
    | 6, _ => rfl
    | 7, _ => rfl
    | 8, _ => rfl
    | n + 9, h => exact absurd h (by omega)) (fun b hb => by simp only [upF_o _ _ _ _ hb]) (fun b hb => by
    simp (discharger := omega) only [upA_n]) (fun b h1 h2 h3 i hi => by
    obtain rfl | rfl | rfl : b = 23 ∨ b = 24 ∨ b = 25 := by omega
    · rfl
    · rfl
    · rfl)
set_option maxHeartbeats 4000000 in
theorem c_loads {F : xF} {A : xA} {Q : xQ} (h : ctP 26 27 33 F A Q) : CallOk mX5_init [.ref (26 : Nat)] (Tk 27) F A Q := by
  refine call_of mX5_init [.ref (26 : Nat)] (Tk 27) F A Q (ls := [some (.ref (26 : Nat))]) rfl (Nat.le_of_ble_eq_true rfl) (by decide) rfl rfl ?_
  refine ok1_0 cX5_init 5 32 rfl rfl ?_
  simp only [Nat.reduceEqDiff, not_false_eq_true, Nat.zero_le, Nat.reduceLeDiff, Nat.reduceLT, Nat.reduceAdd, sg1_s, ↓kig_0, ↓kig_c, ↓reduceIte, nl_n, nl_i, nl_r, List.length_cons, List.length_nil, true_and, and_true, and_self, (n_aload_n_0 dX5_init_0 (n := 1) rfl), (n_oini (M := mX5_init) dX5_init_1 (n := 4) rfl cB_5_3 (by decide)), (n_aload_n_0 dX5_init_4 (n := 5) rfl), (n_bipush dX5_init_5 (n := 7) rfl kb_40), (n_newi dX5_init_7 (n := 9) rfl), (n_putr (M := mX5_init) dX5_init_9 (n := 12) rfl cF_5_9 (Or.inr ⟨rfl, rfl, rfl⟩)), (n_aload_n_0 dX5_init_12 (n := 13) rfl), (n_bipush dX5_init_13 (n := 15) rfl kb_40), (n_newi dX5_init_15 (n := 17) rfl), (n_putr (M := mX5_init) dX5_init_17 (n := 20) rfl cF_5_15 (Or.inr ⟨rfl, rfl, rfl⟩)), (n_aload_n_0 dX5_init_20 (n := 21) rfl), (n_bipush dX5_init_21 (n := 23) rfl kb_40), (n_newi dX5_init_23 (n := 25) rfl), (n_putr (M := mX5_init) dX5_init_25 (n := 28) rfl cF_5_18 (Or.inr ⟨rfl, rfl, rfl⟩)), (n_aload_n_0 dX5_init_28 (n := 29) rfl), (n_bipush dX5_init_29 (n := 31) rfl kb_40), (n_newi dX5_init_31 (n := 33) rfl), (n_putr (M := mX5_init) dX5_init_33 (n := 36) rfl cF_5_21 (Or.inr ⟨rfl, rfl, rfl⟩)), (n_aload_n_0 dX5_init_36 (n := 37) rfl), (n_bipush dX5_init_37 (n := 39) rfl kb_40), (n_newi dX5_init_39 (n := 41) rfl), (n_putr (M := mX5_init) dX5_init_41 (n := 44) rfl cF_5_24 (Or.inr ⟨rfl, rfl, rfl⟩)), (n_aload_n_0 dX5_init_44 (n := 45) rfl), (n_bipush dX5_init_45 (n := 47) rfl kb_40), (n_newi dX5_init_47 (n := 49) rfl), (n_putr (M := mX5_init) dX5_init_49 (n := 52) rfl cF_5_27 (Or.inr ⟨rfl, rfl, rfl⟩)), (n_aload_n_0 dX5_init_52 (n := 53) rfl), (n_iconst dX5_init_53 (n := 54) rfl ki_0), (n_puti (M := mX5_init) dX5_init_54 (n := 57) rfl cF_5_30 (Or.inl rfl)), (n_ret (M := mX5_init) dX5_init_57 (n := 58) rfl rfl), TL_27, TA_27, TL_28, TA_28, TL_29, TA_29, TL_30, TA_30, TL_31, TA_31, TL_32, TA_32, TL_33, Tk_get, Lo_26, Ld_27, Ld_28, Ld_29, Ld_30, Ld_31, Ld_32, tnc_40, tzc_40, cc_X5_init, cz_X5_init, Nat.lt_irrefl, Nat.le_refl, Option.toList_none, List.nil_append]
  exact h _ _ (by
    intro j hj
    have hj : j < 7 := hj
    match j, hj with
    | 0, _ => rfl
    | 1, _ => rfl
    | 2, _ => rfl
    | 3, _ => rfl
    | 4, _ => rfl
    | 5, _ => rfl
    | 6, _ => rfl
    | n + 7, h => exact absurd h (by omega)) (fun b hb => by simp only [upF_o _ _ _ _ hb]) (fun b hb => by
    simp (discharger := omega) only [upA_n]) (fun b h1 h2 h3 i hi => by
    obtain rfl | rfl | rfl | rfl | rfl | rfl : b = 27 ∨ b = 28 ∨ b = 29 ∨ b = 30 ∨ b = 31 ∨ b = 32 := by omega
    · rfl
    · rfl
    · rfl
    · rfl
    · rfl
    · rfl)
set_option maxHeartbeats 4000000 in
theorem c_leaves {F : xF} {A : xA} {Q : xQ} (h : ctP 59 60 65 F A Q) : CallOk mX4_init [.ref (59 : Nat)] (Tk 60) F A Q := by
  refine call_of mX4_init [.ref (59 : Nat)] (Tk 60) F A Q (ls := [some (.ref (59 : Nat))]) rfl (Nat.le_of_ble_eq_true rfl) (by decide) rfl rfl ?_
  refine ok1_0 cX4_init 4 28 rfl rfl ?_
  simp only [Nat.reduceEqDiff, not_false_eq_true, Nat.zero_le, Nat.reduceLeDiff, Nat.reduceLT, Nat.reduceAdd, sg1_s, ↓kig_0, ↓kig_c, ↓reduceIte, nl_n, nl_i, nl_r, List.length_cons, List.length_nil, true_and, and_true, and_self, (n_aload_n_0 dX4_init_0 (n := 1) rfl), (n_oini (M := mX4_init) dX4_init_1 (n := 4) rfl cB_4_3 (by decide)), (n_aload_n_0 dX4_init_4 (n := 5) rfl), (n_bipush dX4_init_5 (n := 7) rfl kb_24), (n_newi dX4_init_7 (n := 9) rfl), (n_putr (M := mX4_init) dX4_init_9 (n := 12) rfl cF_4_9 (Or.inr ⟨rfl, rfl, rfl⟩)), (n_aload_n_0 dX4_init_12 (n := 13) rfl), (n_bipush dX4_init_13 (n := 15) rfl kb_24), (n_newi dX4_init_15 (n := 17) rfl), (n_putr (M := mX4_init) dX4_init_17 (n := 20) rfl cF_4_15 (Or.inr ⟨rfl, rfl, rfl⟩)), (n_aload_n_0 dX4_init_20 (n := 21) rfl), (n_bipush dX4_init_21 (n := 23) rfl kb_24), (n_newi dX4_init_23 (n := 25) rfl), (n_putr (M := mX4_init) dX4_init_25 (n := 28) rfl cF_4_18 (Or.inr ⟨rfl, rfl, rfl⟩)), (n_aload_n_0 dX4_init_28 (n := 29) rfl), (n_bipush dX4_init_29 (n := 31) rfl kb_24), (n_newi dX4_init_31 (n := 33) rfl), (n_putr (M := mX4_init) dX4_init_33 (n := 36) rfl cF_4_21 (Or.inr ⟨rfl, rfl, rfl⟩)), (n_aload_n_0 dX4_init_36 (n := 37) rfl), (n_bipush dX4_init_37 (n := 39) rfl kb_24), (n_newz dX4_init_39 (n := 41) rfl), (n_putr (M := mX4_init) dX4_init_41 (n := 44) rfl cF_4_24 (Or.inr ⟨rfl, rfl, rfl⟩)), (n_aload_n_0 dX4_init_44 (n := 45) rfl), (n_iconst dX4_init_45 (n := 46) rfl ki_0), (n_puti (M := mX4_init) dX4_init_46 (n := 49) rfl cF_4_28 (Or.inl rfl)), (n_ret (M := mX4_init) dX4_init_49 (n := 50) rfl rfl), TL_60, TA_60, TL_61, TA_61, TL_62, TA_62, TL_63, TA_63, TL_64, TA_64, TL_65, Tk_get, Lo_59, Ld_60, Ld_61, Ld_62, Ld_63, Ld_64, tnc_24, tzc_24, cc_X4_init, cz_X4_init, Nat.lt_irrefl, Nat.le_refl, Option.toList_none, List.nil_append]
  exact h _ _ (by
    intro j hj
    have hj : j < 6 := hj
    match j, hj with
    | 0, _ => rfl
    | 1, _ => rfl
    | 2, _ => rfl
    | 3, _ => rfl
    | 4, _ => rfl
    | 5, _ => rfl
    | n + 6, h => exact absurd h (by omega)) (fun b hb => by simp only [upF_o _ _ _ _ hb]) (fun b hb => by
    simp (discharger := omega) only [upA_n]) (fun b h1 h2 h3 i hi => by
    obtain rfl | rfl | rfl | rfl | rfl : b = 60 ∨ b = 61 ∨ b = 62 ∨ b = 63 ∨ b = 64 := by omega
    · rfl
    · rfl
    · rfl
    · rfl
    · rfl)
set_option maxHeartbeats 4000000 in
theorem c_game {F : xF} {A : xA} {Q : xQ} (h : ctP 65 66 69 F A Q) : CallOk mX1_init [.ref (65 : Nat)] (Tk 66) F A Q := by
  refine call_of mX1_init [.ref (65 : Nat)] (Tk 66) F A Q (ls := [some (.ref (65 : Nat))]) rfl (Nat.le_of_ble_eq_true rfl) (by decide) rfl rfl ?_
  refine ok1_0 cX1_init 1 26 rfl rfl ?_
  simp only [Nat.reduceEqDiff, not_false_eq_true, Nat.zero_le, Nat.reduceLeDiff, Nat.reduceLT, Nat.reduceAdd, sg1_s, ↓kig_0, ↓kig_c, ↓reduceIte, nl_n, nl_i, nl_r, List.length_cons, List.length_nil, true_and, and_true, and_self, (n_aload_n_0 dX1_init_0 (n := 1) rfl), (n_oini (M := mX1_init) dX1_init_1 (n := 4) rfl cB_1_3 (by decide)), (n_aload_n_0 dX1_init_4 (n := 5) rfl), (n_bipush dX1_init_5 (n := 7) rfl kb_9), (n_newi dX1_init_7 (n := 9) rfl), (n_putr (M := mX1_init) dX1_init_9 (n := 12) rfl cF_1_9 (Or.inr ⟨rfl, rfl, rfl⟩)), (n_aload_n_0 dX1_init_12 (n := 13) rfl), (n_iconst dX1_init_13 (n := 14) rfl ki_0), (n_puti (M := mX1_init) dX1_init_14 (n := 17) rfl cF_1_15 (Or.inl rfl)), (n_aload_n_0 dX1_init_17 (n := 18) rfl), (n_iconst dX1_init_18 (n := 19) rfl ki_0), (n_puti (M := mX1_init) dX1_init_19 (n := 22) rfl cF_1_19 (Or.inl rfl)), (n_aload_n_0 dX1_init_22 (n := 23) rfl), (n_sipush dX1_init_23 (n := 26) rfl ks_991), (n_newi dX1_init_26 (n := 28) rfl), (n_putr (M := mX1_init) dX1_init_28 (n := 31) rfl cF_1_22 (Or.inl rfl)), (n_aload_n_0 dX1_init_31 (n := 32) rfl), (n_sipush dX1_init_32 (n := 35) rfl ks_991), (n_newi dX1_init_35 (n := 37) rfl), (n_putr (M := mX1_init) dX1_init_37 (n := 40) rfl cF_1_25 (Or.inl rfl)), (n_aload_n_0 dX1_init_40 (n := 41) rfl), (n_iconst dX1_init_41 (n := 42) rfl ki_1), (n_puti (M := mX1_init) dX1_init_42 (n := 45) rfl cF_1_28 (Or.inl rfl)), (n_ret (M := mX1_init) dX1_init_45 (n := 46) rfl rfl), TL_66, TA_66, TL_67, TA_67, TL_68, TA_68, TL_69, Tk_get, Lo_65, Ld_66, Ld_67, Ld_68, tnc_9, tzc_9, tnc_991, tzc_991, cc_X1_init, cz_X1_init, Nat.lt_irrefl, Nat.le_refl, Option.toList_none, List.nil_append]
  exact h _ _ (by
    intro j hj
    have hj : j < 6 := hj
    match j, hj with
    | 0, _ => rfl
    | 1, _ => rfl
    | 2, _ => rfl
    | 3, _ => rfl
    | 4, _ => rfl
    | 5, _ => rfl
    | n + 6, h => exact absurd h (by omega)) (fun b hb => by simp only [upF_o _ _ _ _ hb]) (fun b hb => by
    simp (discharger := omega) only [upA_n]) (fun b h1 h2 h3 i hi => by
    obtain rfl | rfl | rfl : b = 66 ∨ b = 67 ∨ b = 68 := by omega
    · rfl
    · rfl
    · rfl)
