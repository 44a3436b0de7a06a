-- the layout behind both constructors: cells by number, references that stay
def L0 : xL := [(12, 12), (6, 2), (1, 64), (5, 5), (1, 24), (1, 24), (1, 48), (1, 6), (1, 6), (9, 8), (1, 40), (1, 40), (1, 40), (1, 40), (1, 96), (1, 96), (11, 6), (1, 8), (1, 8), (1, 8), (1, 64), (1, 64), (10, 9), (1, 160), (1, 8), (1, 8), (8, 7), (1, 40), (1, 40), (1, 40), (1, 40), (1, 40), (1, 40), (3, 17), (1, 24), (1, 24), (1, 24), (1, 48), (1, 48), (1, 48), (1, 6), (1, 40), (1, 40), (1, 40), (2, 48), (1, 7), (3, 17), (1, 24), (1, 24), (1, 24), (1, 48), (1, 48), (1, 48), (1, 6), (1, 40), (1, 40), (1, 40), (2, 48), (1, 7), (7, 6), (1, 24), (1, 24), (1, 24), (1, 24), (2, 24), (4, 6), (1, 9), (1, 991), (1, 991), (1, 7), (13, 60), (1, 64), (1, 24), (1, 24), (1, 24), (1, 24), (1, 24), (1, 48), (1, 48), (1, 48), (1, 48), (1, 6), (1, 6), (1, 6), (1, 40), (1, 40), (1, 40), (1, 40), (1, 8), (1, 8), (1, 64), (1, 64), (1, 64), (1, 160), (2, 8), (1, 8), (1, 3), (1, 40), (1, 40), (1, 40), (1, 40), (1, 40), (1, 40), (1, 40), (1, 40), (1, 40), (1, 24), (1, 24), (1, 24), (1, 24), (2, 24), (1, 9), (1, 9100), (1, 400)]
def Ld (a : Nat) : Nat × Nat := L0.getD a (0, 0)
def rT : List ((Nat × Nat) × Nat) := [((0, 0), 1), ((0, 1), 3), ((0, 2), 9), ((0, 3), 16), ((0, 4), 22), ((0, 5), 26), ((0, 6), 33), ((0, 7), 46), ((0, 8), 59), ((0, 9), 65), ((0, 10), 69), ((1, 0), 2), ((3, 0), 4), ((3, 1), 5), ((3, 2), 6), ((3, 3), 7), ((3, 4), 8), ((9, 0), 1), ((9, 1), 10), ((9, 2), 11), ((9, 3), 12), ((9, 4), 13), ((9, 5), 14), ((9, 6), 15), ((16, 0), 17), ((16, 1), 18), ((16, 2), 19), ((16, 3), 20), ((16, 4), 21), ((22, 0), 23), ((22, 1), 24), ((22, 2), 25), ((26, 0), 27), ((26, 1), 28), ((26, 2), 29), ((26, 3), 30), ((26, 4), 31), ((26, 5), 32), ((33, 0), 1), ((33, 1), 3), ((33, 2), 9), ((33, 3), 16), ((33, 4), 26), ((33, 5), 34), ((33, 6), 35), ((33, 7), 36), ((33, 8), 37), ((33, 9), 38), ((33, 10), 39), ((33, 11), 40), ((33, 12), 41), ((33, 13), 42), ((33, 14), 43), ((33, 15), 44), ((33, 16), 45), ((46, 0), 1), ((46, 1), 3), ((46, 2), 9), ((46, 3), 16), ((46, 4), 26), ((46, 5), 47), ((46, 6), 48), ((46, 7), 49), ((46, 8), 50), ((46, 9), 51), ((46, 10), 52), ((46, 11), 53), ((46, 12), 54), ((46, 13), 55), ((46, 14), 56), ((46, 15), 57), ((46, 16), 58), ((59, 0), 60), ((59, 1), 61), ((59, 2), 62), ((59, 3), 63), ((59, 4), 64), ((65, 0), 66), ((70, 2), 71), ((70, 3), 72), ((70, 4), 73), ((70, 5), 74), ((70, 6), 75), ((70, 7), 76), ((70, 8), 77), ((70, 9), 78), ((70, 10), 79), ((70, 11), 80), ((70, 12), 81), ((70, 13), 82), ((70, 14), 83), ((70, 16), 84), ((70, 17), 85), ((70, 18), 86), ((70, 19), 87), ((70, 22), 88), ((70, 23), 89), ((70, 24), 90), ((70, 25), 91), ((70, 26), 92), ((70, 27), 93), ((70, 34), 94), ((70, 35), 95), ((70, 36), 96), ((70, 42), 97), ((70, 43), 98), ((70, 44), 99), ((70, 45), 100), ((70, 46), 101), ((70, 47), 102), ((70, 48), 103), ((70, 49), 104), ((70, 50), 105), ((70, 52), 106), ((70, 53), 107), ((70, 54), 108), ((70, 55), 109), ((70, 56), 110), ((70, 57), 111), ((70, 58), 112), ((70, 59), 113)]
def oD (a j : Nat) : Bool := a == 65 && (j == 3 || j == 4)
def Fc (S : xA) : xF := fun a j => if oD a j = true then .ref (S a j).toNatClampNeg else match rT.lookup (a, j) with
  | some b => .ref b
  | none => .int (S a j)
theorem Ld_0 : Ld 0 = (12, 12) := rfl
theorem Ld_1 : Ld 1 = (6, 2) := rfl
theorem Ld_2 : Ld 2 = (1, 64) := rfl
theorem Ld_3 : Ld 3 = (5, 5) := rfl
theorem Ld_4 : Ld 4 = (1, 24) := rfl
theorem Ld_5 : Ld 5 = (1, 24) := rfl
theorem Ld_6 : Ld 6 = (1, 48) := rfl
theorem Ld_7 : Ld 7 = (1, 6) := rfl
theorem Ld_8 : Ld 8 = (1, 6) := rfl
theorem Ld_9 : Ld 9 = (9, 8) := rfl
theorem Ld_10 : Ld 10 = (1, 40) := rfl
theorem Ld_11 : Ld 11 = (1, 40) := rfl
theorem Ld_12 : Ld 12 = (1, 40) := rfl
theorem Ld_13 : Ld 13 = (1, 40) := rfl
theorem Ld_14 : Ld 14 = (1, 96) := rfl
theorem Ld_15 : Ld 15 = (1, 96) := rfl
theorem Ld_16 : Ld 16 = (11, 6) := rfl
theorem Ld_17 : Ld 17 = (1, 8) := rfl
theorem Ld_18 : Ld 18 = (1, 8) := rfl
theorem Ld_19 : Ld 19 = (1, 8) := rfl
theorem Ld_20 : Ld 20 = (1, 64) := rfl
theorem Ld_21 : Ld 21 = (1, 64) := rfl
theorem Ld_22 : Ld 22 = (10, 9) := rfl
theorem Ld_23 : Ld 23 = (1, 160) := rfl
theorem Ld_24 : Ld 24 = (1, 8) := rfl
theorem Ld_25 : Ld 25 = (1, 8) := rfl
theorem Ld_26 : Ld 26 = (8, 7) := rfl
theorem Ld_27 : Ld 27 = (1, 40) := rfl
theorem Ld_28 : Ld 28 = (1, 40) := rfl
theorem Ld_29 : Ld 29 = (1, 40) := rfl
theorem Ld_30 : Ld 30 = (1, 40) := rfl
theorem Ld_31 : Ld 31 = (1, 40) := rfl
theorem Ld_32 : Ld 32 = (1, 40) := rfl
theorem Ld_33 : Ld 33 = (3, 17) := rfl
theorem Ld_34 : Ld 34 = (1, 24) := rfl
theorem Ld_35 : Ld 35 = (1, 24) := rfl
theorem Ld_36 : Ld 36 = (1, 24) := rfl
theorem Ld_37 : Ld 37 = (1, 48) := rfl
theorem Ld_38 : Ld 38 = (1, 48) := rfl
theorem Ld_39 : Ld 39 = (1, 48) := rfl
theorem Ld_40 : Ld 40 = (1, 6) := rfl
theorem Ld_41 : Ld 41 = (1, 40) := rfl
theorem Ld_42 : Ld 42 = (1, 40) := rfl
theorem Ld_43 : Ld 43 = (1, 40) := rfl
theorem Ld_44 : Ld 44 = (2, 48) := rfl
theorem Ld_45 : Ld 45 = (1, 7) := rfl
theorem Ld_46 : Ld 46 = (3, 17) := rfl
theorem Ld_47 : Ld 47 = (1, 24) := rfl
theorem Ld_48 : Ld 48 = (1, 24) := rfl
theorem Ld_49 : Ld 49 = (1, 24) := rfl
theorem Ld_50 : Ld 50 = (1, 48) := rfl
theorem Ld_51 : Ld 51 = (1, 48) := rfl
theorem Ld_52 : Ld 52 = (1, 48) := rfl
theorem Ld_53 : Ld 53 = (1, 6) := rfl
theorem Ld_54 : Ld 54 = (1, 40) := rfl
theorem Ld_55 : Ld 55 = (1, 40) := rfl
theorem Ld_56 : Ld 56 = (1, 40) := rfl
theorem Ld_57 : Ld 57 = (2, 48) := rfl
theorem Ld_58 : Ld 58 = (1, 7) := rfl
theorem Ld_59 : Ld 59 = (7, 6) := rfl
theorem Ld_60 : Ld 60 = (1, 24) := rfl
theorem Ld_61 : Ld 61 = (1, 24) := rfl
theorem Ld_62 : Ld 62 = (1, 24) := rfl
theorem Ld_63 : Ld 63 = (1, 24) := rfl
theorem Ld_64 : Ld 64 = (2, 24) := rfl
theorem Ld_65 : Ld 65 = (4, 6) := rfl
theorem Ld_66 : Ld 66 = (1, 9) := rfl
theorem Ld_67 : Ld 67 = (1, 991) := rfl
theorem Ld_68 : Ld 68 = (1, 991) := rfl
theorem Ld_69 : Ld 69 = (1, 7) := rfl
theorem Ld_70 : Ld 70 = (13, 60) := rfl
theorem Ld_71 : Ld 71 = (1, 64) := rfl
theorem Ld_72 : Ld 72 = (1, 24) := rfl
theorem Ld_73 : Ld 73 = (1, 24) := rfl
theorem Ld_74 : Ld 74 = (1, 24) := rfl
theorem Ld_75 : Ld 75 = (1, 24) := rfl
theorem Ld_76 : Ld 76 = (1, 24) := rfl
theorem Ld_77 : Ld 77 = (1, 48) := rfl
theorem Ld_78 : Ld 78 = (1, 48) := rfl
theorem Ld_79 : Ld 79 = (1, 48) := rfl
theorem Ld_80 : Ld 80 = (1, 48) := rfl
theorem Ld_81 : Ld 81 = (1, 6) := rfl
theorem Ld_82 : Ld 82 = (1, 6) := rfl
theorem Ld_83 : Ld 83 = (1, 6) := rfl
theorem Ld_84 : Ld 84 = (1, 40) := rfl
theorem Ld_85 : Ld 85 = (1, 40) := rfl
theorem Ld_86 : Ld 86 = (1, 40) := rfl
theorem Ld_87 : Ld 87 = (1, 40) := rfl
theorem Ld_88 : Ld 88 = (1, 8) := rfl
theorem Ld_89 : Ld 89 = (1, 8) := rfl
theorem Ld_90 : Ld 90 = (1, 64) := rfl
theorem Ld_91 : Ld 91 = (1, 64) := rfl
theorem Ld_92 : Ld 92 = (1, 64) := rfl
theorem Ld_93 : Ld 93 = (1, 160) := rfl
theorem Ld_94 : Ld 94 = (2, 8) := rfl
theorem Ld_95 : Ld 95 = (1, 8) := rfl
theorem Ld_96 : Ld 96 = (1, 3) := rfl
theorem Ld_97 : Ld 97 = (1, 40) := rfl
theorem Ld_98 : Ld 98 = (1, 40) := rfl
theorem Ld_99 : Ld 99 = (1, 40) := rfl
theorem Ld_100 : Ld 100 = (1, 40) := rfl
theorem Ld_101 : Ld 101 = (1, 40) := rfl
theorem Ld_102 : Ld 102 = (1, 40) := rfl
theorem Ld_103 : Ld 103 = (1, 40) := rfl
theorem Ld_104 : Ld 104 = (1, 40) := rfl
theorem Ld_105 : Ld 105 = (1, 40) := rfl
theorem Ld_106 : Ld 106 = (1, 24) := rfl
theorem Ld_107 : Ld 107 = (1, 24) := rfl
theorem Ld_108 : Ld 108 = (1, 24) := rfl
theorem Ld_109 : Ld 109 = (1, 24) := rfl
theorem Ld_110 : Ld 110 = (2, 24) := rfl
theorem Ld_111 : Ld 111 = (1, 9) := rfl
theorem Ld_112 : Ld 112 = (1, 9100) := rfl
theorem Ld_113 : Ld 113 = (1, 400) := rfl
theorem Fr_0_0 (S : xA) : Fc S 0 0 = .ref (1 : Nat) := rfl
theorem Fr_0_1 (S : xA) : Fc S 0 1 = .ref (3 : Nat) := rfl
theorem Fr_0_2 (S : xA) : Fc S 0 2 = .ref (9 : Nat) := rfl
theorem Fr_0_3 (S : xA) : Fc S 0 3 = .ref (16 : Nat) := rfl
theorem Fr_0_4 (S : xA) : Fc S 0 4 = .ref (22 : Nat) := rfl
theorem Fr_0_5 (S : xA) : Fc S 0 5 = .ref (26 : Nat) := rfl
theorem Fr_0_6 (S : xA) : Fc S 0 6 = .ref (33 : Nat) := rfl
theorem Fr_0_7 (S : xA) : Fc S 0 7 = .ref (46 : Nat) := rfl
theorem Fr_0_8 (S : xA) : Fc S 0 8 = .ref (59 : Nat) := rfl
theorem Fr_0_9 (S : xA) : Fc S 0 9 = .ref (65 : Nat) := rfl
theorem Fr_0_10 (S : xA) : Fc S 0 10 = .ref (69 : Nat) := rfl
theorem Fr_0_11 (S : xA) : Fc S 0 11 = .int (S 0 11) := rfl
theorem Fr_1_0 (S : xA) : Fc S 1 0 = .ref (2 : Nat) := rfl
theorem Fr_1_1 (S : xA) : Fc S 1 1 = .int (S 1 1) := rfl
theorem Fr_3_0 (S : xA) : Fc S 3 0 = .ref (4 : Nat) := rfl
theorem Fr_3_1 (S : xA) : Fc S 3 1 = .ref (5 : Nat) := rfl
theorem Fr_3_2 (S : xA) : Fc S 3 2 = .ref (6 : Nat) := rfl
theorem Fr_3_3 (S : xA) : Fc S 3 3 = .ref (7 : Nat) := rfl
theorem Fr_3_4 (S : xA) : Fc S 3 4 = .ref (8 : Nat) := rfl
theorem Fr_9_0 (S : xA) : Fc S 9 0 = .ref (1 : Nat) := rfl
theorem Fr_9_1 (S : xA) : Fc S 9 1 = .ref (10 : Nat) := rfl
theorem Fr_9_2 (S : xA) : Fc S 9 2 = .ref (11 : Nat) := rfl
theorem Fr_9_3 (S : xA) : Fc S 9 3 = .ref (12 : Nat) := rfl
theorem Fr_9_4 (S : xA) : Fc S 9 4 = .ref (13 : Nat) := rfl
theorem Fr_9_5 (S : xA) : Fc S 9 5 = .ref (14 : Nat) := rfl
theorem Fr_9_6 (S : xA) : Fc S 9 6 = .ref (15 : Nat) := rfl
theorem Fr_9_7 (S : xA) : Fc S 9 7 = .int (S 9 7) := rfl
theorem Fr_16_0 (S : xA) : Fc S 16 0 = .ref (17 : Nat) := rfl
theorem Fr_16_1 (S : xA) : Fc S 16 1 = .ref (18 : Nat) := rfl
theorem Fr_16_2 (S : xA) : Fc S 16 2 = .ref (19 : Nat) := rfl
theorem Fr_16_3 (S : xA) : Fc S 16 3 = .ref (20 : Nat) := rfl
theorem Fr_16_4 (S : xA) : Fc S 16 4 = .ref (21 : Nat) := rfl
theorem Fr_16_5 (S : xA) : Fc S 16 5 = .int (S 16 5) := rfl
theorem Fr_22_0 (S : xA) : Fc S 22 0 = .ref (23 : Nat) := rfl
theorem Fr_22_1 (S : xA) : Fc S 22 1 = .ref (24 : Nat) := rfl
theorem Fr_22_2 (S : xA) : Fc S 22 2 = .ref (25 : Nat) := rfl
theorem Fr_22_3 (S : xA) : Fc S 22 3 = .int (S 22 3) := rfl
theorem Fr_22_4 (S : xA) : Fc S 22 4 = .int (S 22 4) := rfl
theorem Fr_22_5 (S : xA) : Fc S 22 5 = .int (S 22 5) := rfl
theorem Fr_22_6 (S : xA) : Fc S 22 6 = .int (S 22 6) := rfl
theorem Fr_22_7 (S : xA) : Fc S 22 7 = .int (S 22 7) := rfl
theorem Fr_22_8 (S : xA) : Fc S 22 8 = .int (S 22 8) := rfl
theorem Fr_26_0 (S : xA) : Fc S 26 0 = .ref (27 : Nat) := rfl
theorem Fr_26_1 (S : xA) : Fc S 26 1 = .ref (28 : Nat) := rfl
theorem Fr_26_2 (S : xA) : Fc S 26 2 = .ref (29 : Nat) := rfl
theorem Fr_26_3 (S : xA) : Fc S 26 3 = .ref (30 : Nat) := rfl
theorem Fr_26_4 (S : xA) : Fc S 26 4 = .ref (31 : Nat) := rfl
theorem Fr_26_5 (S : xA) : Fc S 26 5 = .ref (32 : Nat) := rfl
theorem Fr_26_6 (S : xA) : Fc S 26 6 = .int (S 26 6) := rfl
theorem Fr_33_0 (S : xA) : Fc S 33 0 = .ref (1 : Nat) := rfl
theorem Fr_33_1 (S : xA) : Fc S 33 1 = .ref (3 : Nat) := rfl
theorem Fr_33_2 (S : xA) : Fc S 33 2 = .ref (9 : Nat) := rfl
theorem Fr_33_3 (S : xA) : Fc S 33 3 = .ref (16 : Nat) := rfl
theorem Fr_33_4 (S : xA) : Fc S 33 4 = .ref (26 : Nat) := rfl
theorem Fr_33_5 (S : xA) : Fc S 33 5 = .ref (34 : Nat) := rfl
theorem Fr_33_6 (S : xA) : Fc S 33 6 = .ref (35 : Nat) := rfl
theorem Fr_33_7 (S : xA) : Fc S 33 7 = .ref (36 : Nat) := rfl
theorem Fr_33_8 (S : xA) : Fc S 33 8 = .ref (37 : Nat) := rfl
theorem Fr_33_9 (S : xA) : Fc S 33 9 = .ref (38 : Nat) := rfl
theorem Fr_33_10 (S : xA) : Fc S 33 10 = .ref (39 : Nat) := rfl
theorem Fr_33_11 (S : xA) : Fc S 33 11 = .ref (40 : Nat) := rfl
theorem Fr_33_12 (S : xA) : Fc S 33 12 = .ref (41 : Nat) := rfl
theorem Fr_33_13 (S : xA) : Fc S 33 13 = .ref (42 : Nat) := rfl
theorem Fr_33_14 (S : xA) : Fc S 33 14 = .ref (43 : Nat) := rfl
theorem Fr_33_15 (S : xA) : Fc S 33 15 = .ref (44 : Nat) := rfl
theorem Fr_33_16 (S : xA) : Fc S 33 16 = .ref (45 : Nat) := rfl
theorem Fr_46_0 (S : xA) : Fc S 46 0 = .ref (1 : Nat) := rfl
theorem Fr_46_1 (S : xA) : Fc S 46 1 = .ref (3 : Nat) := rfl
theorem Fr_46_2 (S : xA) : Fc S 46 2 = .ref (9 : Nat) := rfl
theorem Fr_46_3 (S : xA) : Fc S 46 3 = .ref (16 : Nat) := rfl
theorem Fr_46_4 (S : xA) : Fc S 46 4 = .ref (26 : Nat) := rfl
theorem Fr_46_5 (S : xA) : Fc S 46 5 = .ref (47 : Nat) := rfl
theorem Fr_46_6 (S : xA) : Fc S 46 6 = .ref (48 : Nat) := rfl
theorem Fr_46_7 (S : xA) : Fc S 46 7 = .ref (49 : Nat) := rfl
theorem Fr_46_8 (S : xA) : Fc S 46 8 = .ref (50 : Nat) := rfl
theorem Fr_46_9 (S : xA) : Fc S 46 9 = .ref (51 : Nat) := rfl
theorem Fr_46_10 (S : xA) : Fc S 46 10 = .ref (52 : Nat) := rfl
theorem Fr_46_11 (S : xA) : Fc S 46 11 = .ref (53 : Nat) := rfl
theorem Fr_46_12 (S : xA) : Fc S 46 12 = .ref (54 : Nat) := rfl
theorem Fr_46_13 (S : xA) : Fc S 46 13 = .ref (55 : Nat) := rfl
theorem Fr_46_14 (S : xA) : Fc S 46 14 = .ref (56 : Nat) := rfl
theorem Fr_46_15 (S : xA) : Fc S 46 15 = .ref (57 : Nat) := rfl
theorem Fr_46_16 (S : xA) : Fc S 46 16 = .ref (58 : Nat) := rfl
theorem Fr_59_0 (S : xA) : Fc S 59 0 = .ref (60 : Nat) := rfl
theorem Fr_59_1 (S : xA) : Fc S 59 1 = .ref (61 : Nat) := rfl
theorem Fr_59_2 (S : xA) : Fc S 59 2 = .ref (62 : Nat) := rfl
theorem Fr_59_3 (S : xA) : Fc S 59 3 = .ref (63 : Nat) := rfl
theorem Fr_59_4 (S : xA) : Fc S 59 4 = .ref (64 : Nat) := rfl
theorem Fr_59_5 (S : xA) : Fc S 59 5 = .int (S 59 5) := rfl
theorem Fr_65_0 (S : xA) : Fc S 65 0 = .ref (66 : Nat) := rfl
theorem Fr_65_1 (S : xA) : Fc S 65 1 = .int (S 65 1) := rfl
theorem Fr_65_2 (S : xA) : Fc S 65 2 = .int (S 65 2) := rfl
theorem Fr_65_3 (S : xA) : Fc S 65 3 = .ref (S 65 3).toNatClampNeg := rfl
theorem Fr_65_4 (S : xA) : Fc S 65 4 = .ref (S 65 4).toNatClampNeg := rfl
theorem Fr_65_5 (S : xA) : Fc S 65 5 = .int (S 65 5) := rfl
theorem Fr_70_0 (S : xA) : Fc S 70 0 = .int (S 70 0) := rfl
theorem Fr_70_1 (S : xA) : Fc S 70 1 = .int (S 70 1) := rfl
theorem Fr_70_2 (S : xA) : Fc S 70 2 = .ref (71 : Nat) := rfl
theorem Fr_70_3 (S : xA) : Fc S 70 3 = .ref (72 : Nat) := rfl
theorem Fr_70_4 (S : xA) : Fc S 70 4 = .ref (73 : Nat) := rfl
theorem Fr_70_5 (S : xA) : Fc S 70 5 = .ref (74 : Nat) := rfl
theorem Fr_70_6 (S : xA) : Fc S 70 6 = .ref (75 : Nat) := rfl
theorem Fr_70_7 (S : xA) : Fc S 70 7 = .ref (76 : Nat) := rfl
theorem Fr_70_8 (S : xA) : Fc S 70 8 = .ref (77 : Nat) := rfl
theorem Fr_70_9 (S : xA) : Fc S 70 9 = .ref (78 : Nat) := rfl
theorem Fr_70_10 (S : xA) : Fc S 70 10 = .ref (79 : Nat) := rfl
theorem Fr_70_11 (S : xA) : Fc S 70 11 = .ref (80 : Nat) := rfl
theorem Fr_70_12 (S : xA) : Fc S 70 12 = .ref (81 : Nat) := rfl
theorem Fr_70_13 (S : xA) : Fc S 70 13 = .ref (82 : Nat) := rfl
theorem Fr_70_14 (S : xA) : Fc S 70 14 = .ref (83 : Nat) := rfl
theorem Fr_70_15 (S : xA) : Fc S 70 15 = .int (S 70 15) := rfl
theorem Fr_70_16 (S : xA) : Fc S 70 16 = .ref (84 : Nat) := rfl
theorem Fr_70_17 (S : xA) : Fc S 70 17 = .ref (85 : Nat) := rfl
theorem Fr_70_18 (S : xA) : Fc S 70 18 = .ref (86 : Nat) := rfl
theorem Fr_70_19 (S : xA) : Fc S 70 19 = .ref (87 : Nat) := rfl
theorem Fr_70_20 (S : xA) : Fc S 70 20 = .int (S 70 20) := rfl
theorem Fr_70_21 (S : xA) : Fc S 70 21 = .int (S 70 21) := rfl
theorem Fr_70_22 (S : xA) : Fc S 70 22 = .ref (88 : Nat) := rfl
theorem Fr_70_23 (S : xA) : Fc S 70 23 = .ref (89 : Nat) := rfl
theorem Fr_70_24 (S : xA) : Fc S 70 24 = .ref (90 : Nat) := rfl
theorem Fr_70_25 (S : xA) : Fc S 70 25 = .ref (91 : Nat) := rfl
theorem Fr_70_26 (S : xA) : Fc S 70 26 = .ref (92 : Nat) := rfl
theorem Fr_70_27 (S : xA) : Fc S 70 27 = .ref (93 : Nat) := rfl
theorem Fr_70_28 (S : xA) : Fc S 70 28 = .int (S 70 28) := rfl
theorem Fr_70_29 (S : xA) : Fc S 70 29 = .int (S 70 29) := rfl
theorem Fr_70_30 (S : xA) : Fc S 70 30 = .int (S 70 30) := rfl
theorem Fr_70_31 (S : xA) : Fc S 70 31 = .int (S 70 31) := rfl
theorem Fr_70_32 (S : xA) : Fc S 70 32 = .int (S 70 32) := rfl
theorem Fr_70_33 (S : xA) : Fc S 70 33 = .int (S 70 33) := rfl
theorem Fr_70_34 (S : xA) : Fc S 70 34 = .ref (94 : Nat) := rfl
theorem Fr_70_35 (S : xA) : Fc S 70 35 = .ref (95 : Nat) := rfl
theorem Fr_70_36 (S : xA) : Fc S 70 36 = .ref (96 : Nat) := rfl
theorem Fr_70_37 (S : xA) : Fc S 70 37 = .int (S 70 37) := rfl
theorem Fr_70_38 (S : xA) : Fc S 70 38 = .int (S 70 38) := rfl
theorem Fr_70_39 (S : xA) : Fc S 70 39 = .int (S 70 39) := rfl
theorem Fr_70_40 (S : xA) : Fc S 70 40 = .int (S 70 40) := rfl
theorem Fr_70_41 (S : xA) : Fc S 70 41 = .int (S 70 41) := rfl
theorem Fr_70_42 (S : xA) : Fc S 70 42 = .ref (97 : Nat) := rfl
theorem Fr_70_43 (S : xA) : Fc S 70 43 = .ref (98 : Nat) := rfl
theorem Fr_70_44 (S : xA) : Fc S 70 44 = .ref (99 : Nat) := rfl
theorem Fr_70_45 (S : xA) : Fc S 70 45 = .ref (100 : Nat) := rfl
theorem Fr_70_46 (S : xA) : Fc S 70 46 = .ref (101 : Nat) := rfl
theorem Fr_70_47 (S : xA) : Fc S 70 47 = .ref (102 : Nat) := rfl
theorem Fr_70_48 (S : xA) : Fc S 70 48 = .ref (103 : Nat) := rfl
theorem Fr_70_49 (S : xA) : Fc S 70 49 = .ref (104 : Nat) := rfl
theorem Fr_70_50 (S : xA) : Fc S 70 50 = .ref (105 : Nat) := rfl
theorem Fr_70_51 (S : xA) : Fc S 70 51 = .int (S 70 51) := rfl
theorem Fr_70_52 (S : xA) : Fc S 70 52 = .ref (106 : Nat) := rfl
theorem Fr_70_53 (S : xA) : Fc S 70 53 = .ref (107 : Nat) := rfl
theorem Fr_70_54 (S : xA) : Fc S 70 54 = .ref (108 : Nat) := rfl
theorem Fr_70_55 (S : xA) : Fc S 70 55 = .ref (109 : Nat) := rfl
theorem Fr_70_56 (S : xA) : Fc S 70 56 = .ref (110 : Nat) := rfl
theorem Fr_70_57 (S : xA) : Fc S 70 57 = .ref (111 : Nat) := rfl
theorem Fr_70_58 (S : xA) : Fc S 70 58 = .ref (112 : Nat) := rfl
theorem Fr_70_59 (S : xA) : Fc S 70 59 = .ref (113 : Nat) := rfl
