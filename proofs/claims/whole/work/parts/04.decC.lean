theorem dX9_init_0 : decode cX9_init 0 = .ok (.aload_n 0, 1) := by decide +kernel
theorem dX9_init_1 : decode cX9_init 1 = .ok (.invokespecial 3, 3) := by decide +kernel
theorem dX9_init_4 : decode cX9_init 4 = .ok (.aload_n 0, 1) := by decide +kernel
theorem dX9_init_5 : decode cX9_init 5 = .ok (.new 9, 3) := by decide +kernel
theorem dX9_init_8 : decode cX9_init 8 = .ok (.dup, 1) := by decide +kernel
theorem dX9_init_9 : decode cX9_init 9 = .ok (.invokespecial 11, 3) := by decide +kernel
theorem dX9_init_12 : decode cX9_init 12 = .ok (.putfield 12, 3) := by decide +kernel
theorem dX9_init_15 : decode cX9_init 15 = .ok (.aload_n 0, 1) := by decide +kernel
theorem dX9_init_16 : decode cX9_init 16 = .ok (.new 16, 3) := by decide +kernel
theorem dX9_init_19 : decode cX9_init 19 = .ok (.dup, 1) := by decide +kernel
theorem dX9_init_20 : decode cX9_init 20 = .ok (.invokespecial 18, 3) := by decide +kernel
theorem dX9_init_23 : decode cX9_init 23 = .ok (.putfield 19, 3) := by decide +kernel
theorem dX9_init_26 : decode cX9_init 26 = .ok (.aload_n 0, 1) := by decide +kernel
theorem dX9_init_27 : decode cX9_init 27 = .ok (.new 23, 3) := by decide +kernel
theorem dX9_init_30 : decode cX9_init 30 = .ok (.dup, 1) := by decide +kernel
theorem dX9_init_31 : decode cX9_init 31 = .ok (.aload_n 0, 1) := by decide +kernel
theorem dX9_init_32 : decode cX9_init 32 = .ok (.getfield 12, 3) := by decide +kernel
theorem dX9_init_35 : decode cX9_init 35 = .ok (.invokespecial 25, 3) := by decide +kernel
theorem dX9_init_38 : decode cX9_init 38 = .ok (.putfield 28, 3) := by decide +kernel
theorem dX9_init_41 : decode cX9_init 41 = .ok (.aload_n 0, 1) := by decide +kernel
theorem dX9_init_42 : decode cX9_init 42 = .ok (.new 32, 3) := by decide +kernel
theorem dX9_init_45 : decode cX9_init 45 = .ok (.dup, 1) := by decide +kernel
theorem dX9_init_46 : decode cX9_init 46 = .ok (.invokespecial 34, 3) := by decide +kernel
theorem dX9_init_49 : decode cX9_init 49 = .ok (.putfield 35, 3) := by decide +kernel
theorem dX9_init_52 : decode cX9_init 52 = .ok (.aload_n 0, 1) := by decide +kernel
theorem dX9_init_53 : decode cX9_init 53 = .ok (.new 39, 3) := by decide +kernel
theorem dX9_init_56 : decode cX9_init 56 = .ok (.dup, 1) := by decide +kernel
theorem dX9_init_57 : decode cX9_init 57 = .ok (.invokespecial 41, 3) := by decide +kernel
theorem dX9_init_60 : decode cX9_init 60 = .ok (.putfield 42, 3) := by decide +kernel
theorem dX9_init_63 : decode cX9_init 63 = .ok (.aload_n 0, 1) := by decide +kernel
theorem dX9_init_64 : decode cX9_init 64 = .ok (.new 46, 3) := by decide +kernel
theorem dX9_init_67 : decode cX9_init 67 = .ok (.dup, 1) := by decide +kernel
theorem dX9_init_68 : decode cX9_init 68 = .ok (.invokespecial 48, 3) := by decide +kernel
theorem dX9_init_71 : decode cX9_init 71 = .ok (.putfield 49, 3) := by decide +kernel
theorem dX9_init_74 : decode cX9_init 74 = .ok (.aload_n 0, 1) := by decide +kernel
theorem dX9_init_75 : decode cX9_init 75 = .ok (.new 53, 3) := by decide +kernel
theorem dX9_init_78 : decode cX9_init 78 = .ok (.dup, 1) := by decide +kernel
theorem dX9_init_79 : decode cX9_init 79 = .ok (.aload_n 0, 1) := by decide +kernel
theorem dX9_init_80 : decode cX9_init 80 = .ok (.getfield 12, 3) := by decide +kernel
theorem dX9_init_83 : decode cX9_init 83 = .ok (.aload_n 0, 1) := by decide +kernel
theorem dX9_init_84 : decode cX9_init 84 = .ok (.getfield 19, 3) := by decide +kernel
theorem dX9_init_87 : decode cX9_init 87 = .ok (.aload_n 0, 1) := by decide +kernel
theorem dX9_init_88 : decode cX9_init 88 = .ok (.getfield 28, 3) := by decide +kernel
theorem dX9_init_91 : decode cX9_init 91 = .ok (.aload_n 0, 1) := by decide +kernel
theorem dX9_init_92 : decode cX9_init 92 = .ok (.getfield 35, 3) := by decide +kernel
theorem dX9_init_95 : decode cX9_init 95 = .ok (.aload_n 0, 1) := by decide +kernel
theorem dX9_init_96 : decode cX9_init 96 = .ok (.getfield 49, 3) := by decide +kernel
theorem dX9_init_99 : decode cX9_init 99 = .ok (.invokespecial 55, 3) := by decide +kernel
theorem dX9_init_102 : decode cX9_init 102 = .ok (.putfield 58, 3) := by decide +kernel
theorem dX9_init_105 : decode cX9_init 105 = .ok (.aload_n 0, 1) := by decide +kernel
theorem dX9_init_106 : decode cX9_init 106 = .ok (.new 53, 3) := by decide +kernel
theorem dX9_init_109 : decode cX9_init 109 = .ok (.dup, 1) := by decide +kernel
theorem dX9_init_110 : decode cX9_init 110 = .ok (.aload_n 0, 1) := by decide +kernel
theorem dX9_init_111 : decode cX9_init 111 = .ok (.getfield 12, 3) := by decide +kernel
theorem dX9_init_114 : decode cX9_init 114 = .ok (.aload_n 0, 1) := by decide +kernel
theorem dX9_init_115 : decode cX9_init 115 = .ok (.getfield 19, 3) := by decide +kernel
theorem dX9_init_118 : decode cX9_init 118 = .ok (.aload_n 0, 1) := by decide +kernel
theorem dX9_init_119 : decode cX9_init 119 = .ok (.getfield 28, 3) := by decide +kernel
theorem dX9_init_122 : decode cX9_init 122 = .ok (.aload_n 0, 1) := by decide +kernel
theorem dX9_init_123 : decode cX9_init 123 = .ok (.getfield 35, 3) := by decide +kernel
theorem dX9_init_126 : decode cX9_init 126 = .ok (.aload_n 0, 1) := by decide +kernel
theorem dX9_init_127 : decode cX9_init 127 = .ok (.getfield 49, 3) := by decide +kernel
theorem dX9_init_130 : decode cX9_init 130 = .ok (.invokespecial 55, 3) := by decide +kernel
theorem dX9_init_133 : decode cX9_init 133 = .ok (.putfield 62, 3) := by decide +kernel
theorem dX9_init_136 : decode cX9_init 136 = .ok (.aload_n 0, 1) := by decide +kernel
theorem dX9_init_137 : decode cX9_init 137 = .ok (.new 65, 3) := by decide +kernel
theorem dX9_init_140 : decode cX9_init 140 = .ok (.dup, 1) := by decide +kernel
theorem dX9_init_141 : decode cX9_init 141 = .ok (.invokespecial 67, 3) := by decide +kernel
theorem dX9_init_144 : decode cX9_init 144 = .ok (.putfield 68, 3) := by decide +kernel
theorem dX9_init_147 : decode cX9_init 147 = .ok (.aload_n 0, 1) := by decide +kernel
theorem dX9_init_148 : decode cX9_init 148 = .ok (.new 72, 3) := by decide +kernel
theorem dX9_init_151 : decode cX9_init 151 = .ok (.dup, 1) := by decide +kernel
theorem dX9_init_152 : decode cX9_init 152 = .ok (.invokespecial 74, 3) := by decide +kernel
theorem dX9_init_155 : decode cX9_init 155 = .ok (.putfield 75, 3) := by decide +kernel
theorem dX9_init_158 : decode cX9_init 158 = .ok (.aload_n 0, 1) := by decide +kernel
theorem dX9_init_159 : decode cX9_init 159 = .ok (.bipush 7, 2) := by decide +kernel
theorem dX9_init_161 : decode cX9_init 161 = .ok (.newarray .int, 2) := by decide +kernel
theorem dX9_init_163 : decode cX9_init 163 = .ok (.putfield 79, 3) := by decide +kernel
theorem dX9_init_166 : decode cX9_init 166 = .ok (.aload_n 0, 1) := by decide +kernel
theorem dX9_init_167 : decode cX9_init 167 = .ok (.iconst 0, 1) := by decide +kernel
theorem dX9_init_168 : decode cX9_init 168 = .ok (.putfield 83, 3) := by decide +kernel
theorem dX9_init_171 : decode cX9_init 171 = .ok (.return_, 1) := by decide +kernel
theorem dX9_road_0 : decode cX9_road 0 = .ok (.iload_n 1, 1) := by decide +kernel
theorem dX9_road_1 : decode cX9_road 1 = .ok (.invokestatic 87, 3) := by decide +kernel
theorem dX9_road_4 : decode cX9_road 4 = .ok (.ifCond .ne 10, 3) := by decide +kernel
theorem dX9_road_7 : decode cX9_road 7 = .ok (.iload_n 2, 1) := by decide +kernel
theorem dX9_road_8 : decode cX9_road 8 = .ok (.invokestatic 87, 3) := by decide +kernel
theorem dX9_road_11 : decode cX9_road 11 = .ok (.ifCond .eq 7, 3) := by decide +kernel
theorem dX9_road_14 : decode cX9_road 14 = .ok (.sipush (-1001), 3) := by decide +kernel
theorem dX9_road_17 : decode cX9_road 17 = .ok (.ireturn, 1) := by decide +kernel
theorem dX9_road_18 : decode cX9_road 18 = .ok (.iload_n 1, 1) := by decide +kernel
theorem dX9_road_19 : decode cX9_road 19 = .ok (.iload_n 2, 1) := by decide +kernel
theorem dX9_road_20 : decode cX9_road 20 = .ok (.if_icmp .eq 13, 3) := by decide +kernel
theorem dX9_road_23 : decode cX9_road 23 = .ok (.iload_n 3, 1) := by decide +kernel
theorem dX9_road_24 : decode cX9_road 24 = .ok (.iconst 1, 1) := by decide +kernel
theorem dX9_road_25 : decode cX9_road 25 = .ok (.bipush 30, 2) := by decide +kernel
theorem dX9_road_27 : decode cX9_road 27 = .ok (.invokestatic 91, 3) := by decide +kernel
theorem dX9_road_30 : decode cX9_road 30 = .ok (.ifCond .eq 7, 3) := by decide +kernel
theorem dX9_road_33 : decode cX9_road 33 = .ok (.sipush (-1002), 3) := by decide +kernel
theorem dX9_road_36 : decode cX9_road 36 = .ok (.ireturn, 1) := by decide +kernel
theorem dX9_road_37 : decode cX9_road 37 = .ok (.aload_n 0, 1) := by decide +kernel
theorem dX9_road_38 : decode cX9_road 38 = .ok (.getfield 12, 3) := by decide +kernel
theorem dX9_road_41 : decode cX9_road 41 = .ok (.getfield 95, 3) := by decide +kernel
theorem dX9_road_44 : decode cX9_road 44 = .ok (.bipush 14, 2) := by decide +kernel
theorem dX9_road_46 : decode cX9_road 46 = .ok (.if_icmp .lt 7, 3) := by decide +kernel
theorem dX9_road_49 : decode cX9_road 49 = .ok (.sipush (-1004), 3) := by decide +kernel
theorem dX9_road_52 : decode cX9_road 52 = .ok (.ireturn, 1) := by decide +kernel
theorem dX9_road_53 : decode cX9_road 53 = .ok (.aload_n 0, 1) := by decide +kernel
theorem dX9_road_54 : decode cX9_road 54 = .ok (.getfield 12, 3) := by decide +kernel
theorem dX9_road_57 : decode cX9_road 57 = .ok (.iload_n 1, 1) := by decide +kernel
theorem dX9_road_58 : decode cX9_road 58 = .ok (.iload_n 2, 1) := by decide +kernel
theorem dX9_road_59 : decode cX9_road 59 = .ok (.iload_n 3, 1) := by decide +kernel
theorem dX9_road_60 : decode cX9_road 60 = .ok (.invokevirtual 98, 3) := by decide +kernel
theorem dX9_road_63 : decode cX9_road 63 = .ok (.aload_n 0, 1) := by decide +kernel
theorem dX9_road_64 : decode cX9_road 64 = .ok (.getfield 12, 3) := by decide +kernel
theorem dX9_road_67 : decode cX9_road 67 = .ok (.getfield 95, 3) := by decide +kernel
theorem dX9_road_70 : decode cX9_road 70 = .ok (.ireturn, 1) := by decide +kernel
theorem dX9_away_0 : decode cX9_away 0 = .ok (.iload_n 1, 1) := by decide +kernel
theorem dX9_away_1 : decode cX9_away 1 = .ok (.invokestatic 87, 3) := by decide +kernel
theorem dX9_away_4 : decode cX9_away 4 = .ok (.ifCond .ne 10, 3) := by decide +kernel
theorem dX9_away_7 : decode cX9_away 7 = .ok (.iload_n 2, 1) := by decide +kernel
theorem dX9_away_8 : decode cX9_away 8 = .ok (.invokestatic 87, 3) := by decide +kernel
theorem dX9_away_11 : decode cX9_away 11 = .ok (.ifCond .eq 7, 3) := by decide +kernel
theorem dX9_away_14 : decode cX9_away 14 = .ok (.sipush (-1001), 3) := by decide +kernel
theorem dX9_away_17 : decode cX9_away 17 = .ok (.ireturn, 1) := by decide +kernel
theorem dX9_away_18 : decode cX9_away 18 = .ok (.aload_n 0, 1) := by decide +kernel
theorem dX9_away_19 : decode cX9_away 19 = .ok (.getfield 12, 3) := by decide +kernel
theorem dX9_away_22 : decode cX9_away 22 = .ok (.iload_n 1, 1) := by decide +kernel
theorem dX9_away_23 : decode cX9_away 23 = .ok (.iload_n 2, 1) := by decide +kernel
theorem dX9_away_24 : decode cX9_away 24 = .ok (.invokevirtual 102, 3) := by decide +kernel
theorem dX9_away_27 : decode cX9_away 27 = .ok (.ireturn, 1) := by decide +kernel
theorem dX9_store_0 : decode cX9_store 0 = .ok (.iload_n 1, 1) := by decide +kernel
theorem dX9_store_1 : decode cX9_store 1 = .ok (.invokestatic 87, 3) := by decide +kernel
theorem dX9_store_4 : decode cX9_store 4 = .ok (.ifCond .eq 7, 3) := by decide +kernel
theorem dX9_store_7 : decode cX9_store 7 = .ok (.sipush (-1001), 3) := by decide +kernel
theorem dX9_store_10 : decode cX9_store 10 = .ok (.ireturn, 1) := by decide +kernel
theorem dX9_store_11 : decode cX9_store 11 = .ok (.iload_n 2, 1) := by decide +kernel
theorem dX9_store_12 : decode cX9_store 12 = .ok (.invokestatic 106, 3) := by decide +kernel
theorem dX9_store_15 : decode cX9_store 15 = .ok (.ifCond .ne 14, 3) := by decide +kernel
theorem dX9_store_18 : decode cX9_store 18 = .ok (.iload_n 3, 1) := by decide +kernel
theorem dX9_store_19 : decode cX9_store 19 = .ok (.iconst 0, 1) := by decide +kernel
theorem dX9_store_20 : decode cX9_store 20 = .ok (.sipush 9999, 3) := by decide +kernel
theorem dX9_store_23 : decode cX9_store 23 = .ok (.invokestatic 91, 3) := by decide +kernel
theorem dX9_store_26 : decode cX9_store 26 = .ok (.ifCond .eq 7, 3) := by decide +kernel
theorem dX9_store_29 : decode cX9_store 29 = .ok (.sipush (-1002), 3) := by decide +kernel
theorem dX9_store_32 : decode cX9_store 32 = .ok (.ireturn, 1) := by decide +kernel
theorem dX9_store_33 : decode cX9_store 33 = .ok (.iload_n 1, 1) := by decide +kernel
theorem dX9_store_34 : decode cX9_store 34 = .ok (.iconst 3, 1) := by decide +kernel
theorem dX9_store_35 : decode cX9_store 35 = .ok (.imul, 1) := by decide +kernel
theorem dX9_store_36 : decode cX9_store 36 = .ok (.iload_n 2, 1) := by decide +kernel
theorem dX9_store_37 : decode cX9_store 37 = .ok (.iadd, 1) := by decide +kernel
theorem dX9_store_38 : decode cX9_store 38 = .ok (.istore 4, 2) := by decide +kernel
theorem dX9_store_40 : decode cX9_store 40 = .ok (.aload_n 0, 1) := by decide +kernel
theorem dX9_store_41 : decode cX9_store 41 = .ok (.getfield 58, 3) := by decide +kernel
theorem dX9_store_44 : decode cX9_store 44 = .ok (.getfield 109, 3) := by decide +kernel
theorem dX9_store_47 : decode cX9_store 47 = .ok (.iload 4, 2) := by decide +kernel
theorem dX9_store_49 : decode cX9_store 49 = .ok (.iaload, 1) := by decide +kernel
theorem dX9_store_50 : decode cX9_store 50 = .ok (.istore 5, 2) := by decide +kernel
theorem dX9_store_52 : decode cX9_store 52 = .ok (.aload_n 0, 1) := by decide +kernel
theorem dX9_store_53 : decode cX9_store 53 = .ok (.getfield 19, 3) := by decide +kernel
theorem dX9_store_56 : decode cX9_store 56 = .ok (.getfield 112, 3) := by decide +kernel
theorem dX9_store_59 : decode cX9_store 59 = .ok (.iload 4, 2) := by decide +kernel
theorem dX9_store_61 : decode cX9_store 61 = .ok (.iload_n 3, 1) := by decide +kernel
theorem dX9_store_62 : decode cX9_store 62 = .ok (.iastore, 1) := by decide +kernel
theorem dX9_store_63 : decode cX9_store 63 = .ok (.aload_n 0, 1) := by decide +kernel
theorem dX9_store_64 : decode cX9_store 64 = .ok (.getfield 58, 3) := by decide +kernel
theorem dX9_store_67 : decode cX9_store 67 = .ok (.getfield 109, 3) := by decide +kernel
theorem dX9_store_70 : decode cX9_store 70 = .ok (.iload 4, 2) := by decide +kernel
theorem dX9_store_72 : decode cX9_store 72 = .ok (.iload_n 3, 1) := by decide +kernel
theorem dX9_store_73 : decode cX9_store 73 = .ok (.iastore, 1) := by decide +kernel
theorem dX9_store_74 : decode cX9_store 74 = .ok (.iload 5, 2) := by decide +kernel
theorem dX9_store_76 : decode cX9_store 76 = .ok (.ireturn, 1) := by decide +kernel
theorem dX9_need_0 : decode cX9_need 0 = .ok (.iload_n 1, 1) := by decide +kernel
theorem dX9_need_1 : decode cX9_need 1 = .ok (.invokestatic 87, 3) := by decide +kernel
theorem dX9_need_4 : decode cX9_need 4 = .ok (.ifCond .eq 7, 3) := by decide +kernel
theorem dX9_need_7 : decode cX9_need 7 = .ok (.sipush (-1001), 3) := by decide +kernel
theorem dX9_need_10 : decode cX9_need 10 = .ok (.ireturn, 1) := by decide +kernel
theorem dX9_need_11 : decode cX9_need 11 = .ok (.iload_n 2, 1) := by decide +kernel
theorem dX9_need_12 : decode cX9_need 12 = .ok (.invokestatic 106, 3) := by decide +kernel
theorem dX9_need_15 : decode cX9_need 15 = .ok (.ifCond .ne 13, 3) := by decide +kernel
theorem dX9_need_18 : decode cX9_need 18 = .ok (.iload_n 3, 1) := by decide +kernel
theorem dX9_need_19 : decode cX9_need 19 = .ok (.iconst 0, 1) := by decide +kernel
theorem dX9_need_20 : decode cX9_need 20 = .ok (.bipush 99, 2) := by decide +kernel
theorem dX9_need_22 : decode cX9_need 22 = .ok (.invokestatic 91, 3) := by decide +kernel
theorem dX9_need_25 : decode cX9_need 25 = .ok (.ifCond .eq 7, 3) := by decide +kernel
theorem dX9_need_28 : decode cX9_need 28 = .ok (.sipush (-1002), 3) := by decide +kernel
theorem dX9_need_31 : decode cX9_need 31 = .ok (.ireturn, 1) := by decide +kernel
theorem dX9_need_32 : decode cX9_need 32 = .ok (.iload_n 1, 1) := by decide +kernel
theorem dX9_need_33 : decode cX9_need 33 = .ok (.iconst 3, 1) := by decide +kernel
theorem dX9_need_34 : decode cX9_need 34 = .ok (.imul, 1) := by decide +kernel
theorem dX9_need_35 : decode cX9_need 35 = .ok (.iload_n 2, 1) := by decide +kernel
theorem dX9_need_36 : decode cX9_need 36 = .ok (.iadd, 1) := by decide +kernel
theorem dX9_need_37 : decode cX9_need 37 = .ok (.istore 4, 2) := by decide +kernel
theorem dX9_need_39 : decode cX9_need 39 = .ok (.aload_n 0, 1) := by decide +kernel
theorem dX9_need_40 : decode cX9_need 40 = .ok (.getfield 19, 3) := by decide +kernel
theorem dX9_need_43 : decode cX9_need 43 = .ok (.getfield 113, 3) := by decide +kernel
theorem dX9_need_46 : decode cX9_need 46 = .ok (.iload 4, 2) := by decide +kernel
theorem dX9_need_48 : decode cX9_need 48 = .ok (.iaload, 1) := by decide +kernel
theorem dX9_need_49 : decode cX9_need 49 = .ok (.istore 5, 2) := by decide +kernel
theorem dX9_need_51 : decode cX9_need 51 = .ok (.aload_n 0, 1) := by decide +kernel
theorem dX9_need_52 : decode cX9_need 52 = .ok (.getfield 19, 3) := by decide +kernel
theorem dX9_need_55 : decode cX9_need 55 = .ok (.getfield 113, 3) := by decide +kernel
theorem dX9_need_58 : decode cX9_need 58 = .ok (.iload 4, 2) := by decide +kernel
theorem dX9_need_60 : decode cX9_need 60 = .ok (.iload_n 3, 1) := by decide +kernel
theorem dX9_need_61 : decode cX9_need 61 = .ok (.iastore, 1) := by decide +kernel
theorem dX9_need_62 : decode cX9_need 62 = .ok (.iload 5, 2) := by decide +kernel
theorem dX9_need_64 : decode cX9_need 64 = .ok (.ireturn, 1) := by decide +kernel
theorem dX9_members_0 : decode cX9_members 0 = .ok (.iload_n 1, 1) := by decide +kernel
theorem dX9_members_1 : decode cX9_members 1 = .ok (.invokestatic 116, 3) := by decide +kernel
theorem dX9_members_4 : decode cX9_members 4 = .ok (.ifCond .ne 10, 3) := by decide +kernel
theorem dX9_members_7 : decode cX9_members 7 = .ok (.iload_n 2, 1) := by decide +kernel
theorem dX9_members_8 : decode cX9_members 8 = .ok (.invokestatic 87, 3) := by decide +kernel
theorem dX9_members_11 : decode cX9_members 11 = .ok (.ifCond .eq 7, 3) := by decide +kernel
theorem dX9_members_14 : decode cX9_members 14 = .ok (.sipush (-1001), 3) := by decide +kernel
theorem dX9_members_17 : decode cX9_members 17 = .ok (.ireturn, 1) := by decide +kernel
theorem dX9_members_18 : decode cX9_members 18 = .ok (.iload_n 3, 1) := by decide +kernel
theorem dX9_members_19 : decode cX9_members 19 = .ok (.iconst 0, 1) := by decide +kernel
theorem dX9_members_20 : decode cX9_members 20 = .ok (.sipush 999, 3) := by decide +kernel
theorem dX9_members_23 : decode cX9_members 23 = .ok (.invokestatic 91, 3) := by decide +kernel
theorem dX9_members_26 : decode cX9_members 26 = .ok (.ifCond .eq 7, 3) := by decide +kernel
theorem dX9_members_29 : decode cX9_members 29 = .ok (.sipush (-1002), 3) := by decide +kernel
theorem dX9_members_32 : decode cX9_members 32 = .ok (.ireturn, 1) := by decide +kernel
theorem dX9_members_33 : decode cX9_members 33 = .ok (.iload_n 1, 1) := by decide +kernel
theorem dX9_members_34 : decode cX9_members 34 = .ok (.bipush 8, 2) := by decide +kernel
theorem dX9_members_36 : decode cX9_members 36 = .ok (.imul, 1) := by decide +kernel
theorem dX9_members_37 : decode cX9_members 37 = .ok (.iload_n 2, 1) := by decide +kernel
theorem dX9_members_38 : decode cX9_members 38 = .ok (.iadd, 1) := by decide +kernel
theorem dX9_members_39 : decode cX9_members 39 = .ok (.istore 4, 2) := by decide +kernel
theorem dX9_members_41 : decode cX9_members 41 = .ok (.aload_n 0, 1) := by decide +kernel
theorem dX9_members_42 : decode cX9_members 42 = .ok (.getfield 19, 3) := by decide +kernel
theorem dX9_members_45 : decode cX9_members 45 = .ok (.getfield 119, 3) := by decide +kernel
theorem dX9_members_48 : decode cX9_members 48 = .ok (.iload 4, 2) := by decide +kernel
theorem dX9_members_50 : decode cX9_members 50 = .ok (.iaload, 1) := by decide +kernel
theorem dX9_members_51 : decode cX9_members 51 = .ok (.istore 5, 2) := by decide +kernel
theorem dX9_members_53 : decode cX9_members 53 = .ok (.aload_n 0, 1) := by decide +kernel
theorem dX9_members_54 : decode cX9_members 54 = .ok (.getfield 19, 3) := by decide +kernel
theorem dX9_members_57 : decode cX9_members 57 = .ok (.getfield 119, 3) := by decide +kernel
theorem dX9_members_60 : decode cX9_members 60 = .ok (.iload 4, 2) := by decide +kernel
theorem dX9_members_62 : decode cX9_members 62 = .ok (.iload_n 3, 1) := by decide +kernel
theorem dX9_members_63 : decode cX9_members 63 = .ok (.iastore, 1) := by decide +kernel
theorem dX9_members_64 : decode cX9_members 64 = .ok (.aload_n 0, 1) := by decide +kernel
theorem dX9_members_65 : decode cX9_members 65 = .ok (.getfield 58, 3) := by decide +kernel
theorem dX9_members_68 : decode cX9_members 68 = .ok (.getfield 122, 3) := by decide +kernel
theorem dX9_members_71 : decode cX9_members 71 = .ok (.iload 4, 2) := by decide +kernel
theorem dX9_members_73 : decode cX9_members 73 = .ok (.aload_n 0, 1) := by decide +kernel
theorem dX9_members_74 : decode cX9_members 74 = .ok (.getfield 58, 3) := by decide +kernel
theorem dX9_members_77 : decode cX9_members 77 = .ok (.getfield 122, 3) := by decide +kernel
theorem dX9_members_80 : decode cX9_members 80 = .ok (.iload 4, 2) := by decide +kernel
theorem dX9_members_82 : decode cX9_members 82 = .ok (.iaload, 1) := by decide +kernel
theorem dX9_members_83 : decode cX9_members 83 = .ok (.iload_n 3, 1) := by decide +kernel
theorem dX9_members_84 : decode cX9_members 84 = .ok (.invokestatic 125, 3) := by decide +kernel
theorem dX9_members_87 : decode cX9_members 87 = .ok (.iastore, 1) := by decide +kernel
theorem dX9_members_88 : decode cX9_members 88 = .ok (.iload 5, 2) := by decide +kernel
theorem dX9_members_90 : decode cX9_members 90 = .ok (.ireturn, 1) := by decide +kernel
theorem dX9_purse_0 : decode cX9_purse 0 = .ok (.iload_n 1, 1) := by decide +kernel
theorem dX9_purse_1 : decode cX9_purse 1 = .ok (.invokestatic 116, 3) := by decide +kernel
theorem dX9_purse_4 : decode cX9_purse 4 = .ok (.ifCond .eq 7, 3) := by decide +kernel
theorem dX9_purse_7 : decode cX9_purse 7 = .ok (.sipush (-1001), 3) := by decide +kernel
theorem dX9_purse_10 : decode cX9_purse 10 = .ok (.ireturn, 1) := by decide +kernel
theorem dX9_purse_11 : decode cX9_purse 11 = .ok (.iload_n 2, 1) := by decide +kernel
theorem dX9_purse_12 : decode cX9_purse 12 = .ok (.iconst 0, 1) := by decide +kernel
theorem dX9_purse_13 : decode cX9_purse 13 = .ok (.sipush 999, 3) := by decide +kernel
theorem dX9_purse_16 : decode cX9_purse 16 = .ok (.invokestatic 91, 3) := by decide +kernel
theorem dX9_purse_19 : decode cX9_purse 19 = .ok (.ifCond .eq 7, 3) := by decide +kernel
theorem dX9_purse_22 : decode cX9_purse 22 = .ok (.sipush (-1002), 3) := by decide +kernel
theorem dX9_purse_25 : decode cX9_purse 25 = .ok (.ireturn, 1) := by decide +kernel
theorem dX9_purse_26 : decode cX9_purse 26 = .ok (.aload_n 0, 1) := by decide +kernel
theorem dX9_purse_27 : decode cX9_purse 27 = .ok (.getfield 19, 3) := by decide +kernel
theorem dX9_purse_30 : decode cX9_purse 30 = .ok (.getfield 130, 3) := by decide +kernel
theorem dX9_purse_33 : decode cX9_purse 33 = .ok (.iload_n 1, 1) := by decide +kernel
theorem dX9_purse_34 : decode cX9_purse 34 = .ok (.iload_n 2, 1) := by decide +kernel
theorem dX9_purse_35 : decode cX9_purse 35 = .ok (.iastore, 1) := by decide +kernel
theorem dX9_purse_36 : decode cX9_purse 36 = .ok (.iconst 0, 1) := by decide +kernel
theorem dX9_purse_37 : decode cX9_purse 37 = .ok (.istore_n 3, 1) := by decide +kernel
theorem dX9_purse_38 : decode cX9_purse 38 = .ok (.iload_n 3, 1) := by decide +kernel
theorem dX9_purse_39 : decode cX9_purse 39 = .ok (.bipush 8, 2) := by decide +kernel
theorem dX9_purse_41 : decode cX9_purse 41 = .ok (.if_icmp .ge 24, 3) := by decide +kernel
theorem dX9_purse_44 : decode cX9_purse 44 = .ok (.aload_n 0, 1) := by decide +kernel
theorem dX9_purse_45 : decode cX9_purse 45 = .ok (.getfield 58, 3) := by decide +kernel
theorem dX9_purse_48 : decode cX9_purse 48 = .ok (.getfield 133, 3) := by decide +kernel
theorem dX9_purse_51 : decode cX9_purse 51 = .ok (.iload_n 1, 1) := by decide +kernel
theorem dX9_purse_52 : decode cX9_purse 52 = .ok (.bipush 8, 2) := by decide +kernel
theorem dX9_purse_54 : decode cX9_purse 54 = .ok (.imul, 1) := by decide +kernel
theorem dX9_purse_55 : decode cX9_purse 55 = .ok (.iload_n 3, 1) := by decide +kernel
theorem dX9_purse_56 : decode cX9_purse 56 = .ok (.iadd, 1) := by decide +kernel
theorem dX9_purse_57 : decode cX9_purse 57 = .ok (.iload_n 2, 1) := by decide +kernel
theorem dX9_purse_58 : decode cX9_purse 58 = .ok (.iastore, 1) := by decide +kernel
theorem dX9_purse_59 : decode cX9_purse 59 = .ok (.iinc 3 1, 3) := by decide +kernel
theorem dX9_purse_62 : decode cX9_purse 62 = .ok (.goto (-24), 3) := by decide +kernel
theorem dX9_purse_65 : decode cX9_purse 65 = .ok (.iconst 1, 1) := by decide +kernel
theorem dX9_purse_66 : decode cX9_purse 66 = .ok (.ireturn, 1) := by decide +kernel
theorem dX9_fund_0 : decode cX9_fund 0 = .ok (.iload_n 1, 1) := by decide +kernel
theorem dX9_fund_1 : decode cX9_fund 1 = .ok (.invokestatic 116, 3) := by decide +kernel
theorem dX9_fund_4 : decode cX9_fund 4 = .ok (.ifCond .eq 7, 3) := by decide +kernel
theorem dX9_fund_7 : decode cX9_fund 7 = .ok (.sipush (-1001), 3) := by decide +kernel
theorem dX9_fund_10 : decode cX9_fund 10 = .ok (.ireturn, 1) := by decide +kernel
theorem dX9_fund_11 : decode cX9_fund 11 = .ok (.iload_n 2, 1) := by decide +kernel
theorem dX9_fund_12 : decode cX9_fund 12 = .ok (.iconst 0, 1) := by decide +kernel
theorem dX9_fund_13 : decode cX9_fund 13 = .ok (.ldc 134, 2) := by decide +kernel
theorem dX9_fund_15 : decode cX9_fund 15 = .ok (.invokestatic 91, 3) := by decide +kernel
theorem dX9_fund_18 : decode cX9_fund 18 = .ok (.ifCond .eq 7, 3) := by decide +kernel
theorem dX9_fund_21 : decode cX9_fund 21 = .ok (.sipush (-1002), 3) := by decide +kernel
theorem dX9_fund_24 : decode cX9_fund 24 = .ok (.ireturn, 1) := by decide +kernel
theorem dX9_fund_25 : decode cX9_fund 25 = .ok (.aload_n 0, 1) := by decide +kernel
theorem dX9_fund_26 : decode cX9_fund 26 = .ok (.getfield 58, 3) := by decide +kernel
theorem dX9_fund_29 : decode cX9_fund 29 = .ok (.getfield 135, 3) := by decide +kernel
theorem dX9_fund_32 : decode cX9_fund 32 = .ok (.iload_n 1, 1) := by decide +kernel
theorem dX9_fund_33 : decode cX9_fund 33 = .ok (.iaload, 1) := by decide +kernel
theorem dX9_fund_34 : decode cX9_fund 34 = .ok (.istore_n 3, 1) := by decide +kernel
theorem dX9_fund_35 : decode cX9_fund 35 = .ok (.aload_n 0, 1) := by decide +kernel
theorem dX9_fund_36 : decode cX9_fund 36 = .ok (.getfield 19, 3) := by decide +kernel
theorem dX9_fund_39 : decode cX9_fund 39 = .ok (.getfield 138, 3) := by decide +kernel
theorem dX9_fund_42 : decode cX9_fund 42 = .ok (.iload_n 1, 1) := by decide +kernel
theorem dX9_fund_43 : decode cX9_fund 43 = .ok (.iload_n 2, 1) := by decide +kernel
theorem dX9_fund_44 : decode cX9_fund 44 = .ok (.iastore, 1) := by decide +kernel
theorem dX9_fund_45 : decode cX9_fund 45 = .ok (.aload_n 0, 1) := by decide +kernel
theorem dX9_fund_46 : decode cX9_fund 46 = .ok (.getfield 58, 3) := by decide +kernel
theorem dX9_fund_49 : decode cX9_fund 49 = .ok (.getfield 135, 3) := by decide +kernel
theorem dX9_fund_52 : decode cX9_fund 52 = .ok (.iload_n 1, 1) := by decide +kernel
theorem dX9_fund_53 : decode cX9_fund 53 = .ok (.iload_n 2, 1) := by decide +kernel
theorem dX9_fund_54 : decode cX9_fund 54 = .ok (.iastore, 1) := by decide +kernel
theorem dX9_fund_55 : decode cX9_fund 55 = .ok (.iload_n 3, 1) := by decide +kernel
theorem dX9_fund_56 : decode cX9_fund 56 = .ok (.ireturn, 1) := by decide +kernel
theorem dX9_out_0 : decode cX9_out 0 = .ok (.iload_n 1, 1) := by decide +kernel
theorem dX9_out_1 : decode cX9_out 1 = .ok (.invokestatic 116, 3) := by decide +kernel
theorem dX9_out_4 : decode cX9_out 4 = .ok (.ifCond .ne 10, 3) := by decide +kernel
theorem dX9_out_7 : decode cX9_out 7 = .ok (.iload_n 2, 1) := by decide +kernel
theorem dX9_out_8 : decode cX9_out 8 = .ok (.invokestatic 87, 3) := by decide +kernel
theorem dX9_out_11 : decode cX9_out 11 = .ok (.ifCond .eq 7, 3) := by decide +kernel
theorem dX9_out_14 : decode cX9_out 14 = .ok (.sipush (-1001), 3) := by decide +kernel
theorem dX9_out_17 : decode cX9_out 17 = .ok (.ireturn, 1) := by decide +kernel
theorem dX9_out_18 : decode cX9_out 18 = .ok (.iload_n 1, 1) := by decide +kernel
theorem dX9_out_19 : decode cX9_out 19 = .ok (.bipush 8, 2) := by decide +kernel
theorem dX9_out_21 : decode cX9_out 21 = .ok (.imul, 1) := by decide +kernel
theorem dX9_out_22 : decode cX9_out 22 = .ok (.iload_n 2, 1) := by decide +kernel
theorem dX9_out_23 : decode cX9_out 23 = .ok (.iadd, 1) := by decide +kernel
theorem dX9_out_24 : decode cX9_out 24 = .ok (.istore 4, 2) := by decide +kernel
theorem dX9_out_26 : decode cX9_out 26 = .ok (.iload_n 3, 1) := by decide +kernel
theorem dX9_out_27 : decode cX9_out 27 = .ok (.tableswitch 73 0 3 #[29, 40, 51, 62], 29) := by decide +kernel
theorem dX9_out_56 : decode cX9_out 56 = .ok (.aload_n 0, 1) := by decide +kernel
theorem dX9_out_57 : decode cX9_out 57 = .ok (.getfield 19, 3) := by decide +kernel
theorem dX9_out_60 : decode cX9_out 60 = .ok (.getfield 119, 3) := by decide +kernel
theorem dX9_out_63 : decode cX9_out 63 = .ok (.iload 4, 2) := by decide +kernel
theorem dX9_out_65 : decode cX9_out 65 = .ok (.iaload, 1) := by decide +kernel
theorem dX9_out_66 : decode cX9_out 66 = .ok (.ireturn, 1) := by decide +kernel
theorem dX9_out_67 : decode cX9_out 67 = .ok (.aload_n 0, 1) := by decide +kernel
theorem dX9_out_68 : decode cX9_out 68 = .ok (.getfield 58, 3) := by decide +kernel
theorem dX9_out_71 : decode cX9_out 71 = .ok (.getfield 122, 3) := by decide +kernel
theorem dX9_out_74 : decode cX9_out 74 = .ok (.iload 4, 2) := by decide +kernel
theorem dX9_out_76 : decode cX9_out 76 = .ok (.iaload, 1) := by decide +kernel
theorem dX9_out_77 : decode cX9_out 77 = .ok (.ireturn, 1) := by decide +kernel
theorem dX9_out_78 : decode cX9_out 78 = .ok (.aload_n 0, 1) := by decide +kernel
theorem dX9_out_79 : decode cX9_out 79 = .ok (.getfield 58, 3) := by decide +kernel
theorem dX9_out_82 : decode cX9_out 82 = .ok (.getfield 133, 3) := by decide +kernel
theorem dX9_out_85 : decode cX9_out 85 = .ok (.iload 4, 2) := by decide +kernel
theorem dX9_out_87 : decode cX9_out 87 = .ok (.iaload, 1) := by decide +kernel
theorem dX9_out_88 : decode cX9_out 88 = .ok (.ireturn, 1) := by decide +kernel
theorem dX9_out_89 : decode cX9_out 89 = .ok (.aload_n 0, 1) := by decide +kernel
theorem dX9_out_90 : decode cX9_out 90 = .ok (.getfield 58, 3) := by decide +kernel
theorem dX9_out_93 : decode cX9_out 93 = .ok (.getfield 139, 3) := by decide +kernel
theorem dX9_out_96 : decode cX9_out 96 = .ok (.iload 4, 2) := by decide +kernel
theorem dX9_out_98 : decode cX9_out 98 = .ok (.iaload, 1) := by decide +kernel
theorem dX9_out_99 : decode cX9_out 99 = .ok (.ireturn, 1) := by decide +kernel
theorem dX9_out_100 : decode cX9_out 100 = .ok (.sipush (-1002), 3) := by decide +kernel
theorem dX9_out_103 : decode cX9_out 103 = .ok (.ireturn, 1) := by decide +kernel
theorem dX9_town_0 : decode cX9_town 0 = .ok (.iload_n 1, 1) := by decide +kernel
theorem dX9_town_1 : decode cX9_town 1 = .ok (.invokestatic 87, 3) := by decide +kernel
theorem dX9_town_4 : decode cX9_town 4 = .ok (.ifCond .eq 7, 3) := by decide +kernel
theorem dX9_town_7 : decode cX9_town 7 = .ok (.sipush (-1001), 3) := by decide +kernel
theorem dX9_town_10 : decode cX9_town 10 = .ok (.ireturn, 1) := by decide +kernel
theorem dX9_town_11 : decode cX9_town 11 = .ok (.iload_n 2, 1) := by decide +kernel
theorem dX9_town_12 : decode cX9_town 12 = .ok (.iconst 0, 1) := by decide +kernel
theorem dX9_town_13 : decode cX9_town 13 = .ok (.bipush 8, 2) := by decide +kernel
theorem dX9_town_15 : decode cX9_town 15 = .ok (.invokestatic 91, 3) := by decide +kernel
theorem dX9_town_18 : decode cX9_town 18 = .ok (.ifCond .eq 7, 3) := by decide +kernel
theorem dX9_town_21 : decode cX9_town 21 = .ok (.sipush (-1002), 3) := by decide +kernel
theorem dX9_town_24 : decode cX9_town 24 = .ok (.ireturn, 1) := by decide +kernel
theorem dX9_town_25 : decode cX9_town 25 = .ok (.iload_n 1, 1) := by decide +kernel
theorem dX9_town_26 : decode cX9_town 26 = .ok (.iconst 3, 1) := by decide +kernel
theorem dX9_town_27 : decode cX9_town 27 = .ok (.imul, 1) := by decide +kernel
theorem dX9_town_28 : decode cX9_town 28 = .ok (.iload_n 2, 1) := by decide +kernel
theorem dX9_town_29 : decode cX9_town 29 = .ok (.iconst 3, 1) := by decide +kernel
theorem dX9_town_30 : decode cX9_town 30 = .ok (.irem, 1) := by decide +kernel
theorem dX9_town_31 : decode cX9_town 31 = .ok (.iadd, 1) := by decide +kernel
theorem dX9_town_32 : decode cX9_town 32 = .ok (.istore_n 3, 1) := by decide +kernel
theorem dX9_town_33 : decode cX9_town 33 = .ok (.iload_n 2, 1) := by decide +kernel
theorem dX9_town_34 : decode cX9_town 34 = .ok (.iconst 3, 1) := by decide +kernel
theorem dX9_town_35 : decode cX9_town 35 = .ok (.if_icmp .ge 13, 3) := by decide +kernel
theorem dX9_town_38 : decode cX9_town 38 = .ok (.aload_n 0, 1) := by decide +kernel
theorem dX9_town_39 : decode cX9_town 39 = .ok (.getfield 58, 3) := by decide +kernel
theorem dX9_town_42 : decode cX9_town 42 = .ok (.getfield 109, 3) := by decide +kernel
theorem dX9_town_45 : decode cX9_town 45 = .ok (.iload_n 3, 1) := by decide +kernel
theorem dX9_town_46 : decode cX9_town 46 = .ok (.iaload, 1) := by decide +kernel
theorem dX9_town_47 : decode cX9_town 47 = .ok (.ireturn, 1) := by decide +kernel
theorem dX9_town_48 : decode cX9_town 48 = .ok (.iload_n 2, 1) := by decide +kernel
theorem dX9_town_49 : decode cX9_town 49 = .ok (.bipush 6, 2) := by decide +kernel
theorem dX9_town_51 : decode cX9_town 51 = .ok (.if_icmp .ge 15, 3) := by decide +kernel
theorem dX9_town_54 : decode cX9_town 54 = .ok (.aload_n 0, 1) := by decide +kernel
theorem dX9_town_55 : decode cX9_town 55 = .ok (.getfield 58, 3) := by decide +kernel
theorem dX9_town_58 : decode cX9_town 58 = .ok (.getfield 142, 3) := by decide +kernel
theorem dX9_town_61 : decode cX9_town 61 = .ok (.iload_n 3, 1) := by decide +kernel
theorem dX9_town_62 : decode cX9_town 62 = .ok (.iaload, 1) := by decide +kernel
theorem dX9_town_63 : decode cX9_town 63 = .ok (.goto 12, 3) := by decide +kernel
theorem dX9_town_66 : decode cX9_town 66 = .ok (.aload_n 0, 1) := by decide +kernel
theorem dX9_town_67 : decode cX9_town 67 = .ok (.getfield 58, 3) := by decide +kernel
theorem dX9_town_70 : decode cX9_town 70 = .ok (.getfield 145, 3) := by decide +kernel
theorem dX9_town_73 : decode cX9_town 73 = .ok (.iload_n 3, 1) := by decide +kernel
theorem dX9_town_74 : decode cX9_town 74 = .ok (.iaload, 1) := by decide +kernel
theorem dX9_town_75 : decode cX9_town 75 = .ok (.ireturn, 1) := by decide +kernel
theorem dX9_count_0 : decode cX9_count 0 = .ok (.iload_n 1, 1) := by decide +kernel
theorem dX9_count_1 : decode cX9_count 1 = .ok (.tableswitch 193 0 13 #[71, 76, 84, 92, 100, 109, 118, 127, 136, 144, 155, 166, 174, 182], 71) := by decide +kernel
theorem dX9_count_72 : decode cX9_count 72 = .ok (.aload_n 0, 1) := by decide +kernel
theorem dX9_count_73 : decode cX9_count 73 = .ok (.getfield 83, 3) := by decide +kernel
theorem dX9_count_76 : decode cX9_count 76 = .ok (.ireturn, 1) := by decide +kernel
theorem dX9_count_77 : decode cX9_count 77 = .ok (.aload_n 0, 1) := by decide +kernel
theorem dX9_count_78 : decode cX9_count 78 = .ok (.getfield 12, 3) := by decide +kernel
theorem dX9_count_81 : decode cX9_count 81 = .ok (.getfield 95, 3) := by decide +kernel
theorem dX9_count_84 : decode cX9_count 84 = .ok (.ireturn, 1) := by decide +kernel
theorem dX9_count_85 : decode cX9_count 85 = .ok (.aload_n 0, 1) := by decide +kernel
theorem dX9_count_86 : decode cX9_count 86 = .ok (.getfield 28, 3) := by decide +kernel
theorem dX9_count_89 : decode cX9_count 89 = .ok (.getfield 148, 3) := by decide +kernel
theorem dX9_count_92 : decode cX9_count 92 = .ok (.ireturn, 1) := by decide +kernel
theorem dX9_count_93 : decode cX9_count 93 = .ok (.aload_n 0, 1) := by decide +kernel
theorem dX9_count_94 : decode cX9_count 94 = .ok (.getfield 49, 3) := by decide +kernel
theorem dX9_count_97 : decode cX9_count 97 = .ok (.getfield 151, 3) := by decide +kernel
theorem dX9_count_100 : decode cX9_count 100 = .ok (.ireturn, 1) := by decide +kernel
theorem dX9_count_101 : decode cX9_count 101 = .ok (.aload_n 0, 1) := by decide +kernel
theorem dX9_count_102 : decode cX9_count 102 = .ok (.getfield 58, 3) := by decide +kernel
theorem dX9_count_105 : decode cX9_count 105 = .ok (.iconst 0, 1) := by decide +kernel
theorem dX9_count_106 : decode cX9_count 106 = .ok (.invokevirtual 152, 3) := by decide +kernel
theorem dX9_count_109 : decode cX9_count 109 = .ok (.ireturn, 1) := by decide +kernel
theorem dX9_count_110 : decode cX9_count 110 = .ok (.aload_n 0, 1) := by decide +kernel
theorem dX9_count_111 : decode cX9_count 111 = .ok (.getfield 58, 3) := by decide +kernel
theorem dX9_count_114 : decode cX9_count 114 = .ok (.iconst 1, 1) := by decide +kernel
theorem dX9_count_115 : decode cX9_count 115 = .ok (.invokevirtual 152, 3) := by decide +kernel
theorem dX9_count_118 : decode cX9_count 118 = .ok (.ireturn, 1) := by decide +kernel
theorem dX9_count_119 : decode cX9_count 119 = .ok (.aload_n 0, 1) := by decide +kernel
theorem dX9_count_120 : decode cX9_count 120 = .ok (.getfield 58, 3) := by decide +kernel
theorem dX9_count_123 : decode cX9_count 123 = .ok (.iconst 2, 1) := by decide +kernel
theorem dX9_count_124 : decode cX9_count 124 = .ok (.invokevirtual 152, 3) := by decide +kernel
theorem dX9_count_127 : decode cX9_count 127 = .ok (.ireturn, 1) := by decide +kernel
theorem dX9_count_128 : decode cX9_count 128 = .ok (.aload_n 0, 1) := by decide +kernel
theorem dX9_count_129 : decode cX9_count 129 = .ok (.getfield 58, 3) := by decide +kernel
theorem dX9_count_132 : decode cX9_count 132 = .ok (.iconst 3, 1) := by decide +kernel
theorem dX9_count_133 : decode cX9_count 133 = .ok (.invokevirtual 152, 3) := by decide +kernel
theorem dX9_count_136 : decode cX9_count 136 = .ok (.ireturn, 1) := by decide +kernel
theorem dX9_count_137 : decode cX9_count 137 = .ok (.aload_n 0, 1) := by decide +kernel
theorem dX9_count_138 : decode cX9_count 138 = .ok (.getfield 35, 3) := by decide +kernel
theorem dX9_count_141 : decode cX9_count 141 = .ok (.getfield 156, 3) := by decide +kernel
theorem dX9_count_144 : decode cX9_count 144 = .ok (.ireturn, 1) := by decide +kernel
theorem dX9_count_145 : decode cX9_count 145 = .ok (.aload_n 0, 1) := by decide +kernel
theorem dX9_count_146 : decode cX9_count 146 = .ok (.getfield 58, 3) := by decide +kernel
theorem dX9_count_149 : decode cX9_count 149 = .ok (.getfield 122, 3) := by decide +kernel
theorem dX9_count_152 : decode cX9_count 152 = .ok (.invokestatic 157, 3) := by decide +kernel
theorem dX9_count_155 : decode cX9_count 155 = .ok (.ireturn, 1) := by decide +kernel
theorem dX9_count_156 : decode cX9_count 156 = .ok (.aload_n 0, 1) := by decide +kernel
theorem dX9_count_157 : decode cX9_count 157 = .ok (.getfield 58, 3) := by decide +kernel
theorem dX9_count_160 : decode cX9_count 160 = .ok (.getfield 142, 3) := by decide +kernel
theorem dX9_count_163 : decode cX9_count 163 = .ok (.invokestatic 157, 3) := by decide +kernel
theorem dX9_count_166 : decode cX9_count 166 = .ok (.ireturn, 1) := by decide +kernel
theorem dX9_count_167 : decode cX9_count 167 = .ok (.aload_n 0, 1) := by decide +kernel
theorem dX9_count_168 : decode cX9_count 168 = .ok (.getfield 68, 3) := by decide +kernel
theorem dX9_count_171 : decode cX9_count 171 = .ok (.getfield 161, 3) := by decide +kernel
theorem dX9_count_174 : decode cX9_count 174 = .ok (.ireturn, 1) := by decide +kernel
theorem dX9_count_175 : decode cX9_count 175 = .ok (.aload_n 0, 1) := by decide +kernel
theorem dX9_count_176 : decode cX9_count 176 = .ok (.getfield 42, 3) := by decide +kernel
theorem dX9_count_179 : decode cX9_count 179 = .ok (.getfield 162, 3) := by decide +kernel
theorem dX9_count_182 : decode cX9_count 182 = .ok (.ireturn, 1) := by decide +kernel
theorem dX9_count_183 : decode cX9_count 183 = .ok (.aload_n 0, 1) := by decide +kernel
theorem dX9_count_184 : decode cX9_count 184 = .ok (.getfield 58, 3) := by decide +kernel
theorem dX9_count_187 : decode cX9_count 187 = .ok (.getfield 139, 3) := by decide +kernel
theorem dX9_count_190 : decode cX9_count 190 = .ok (.invokestatic 157, 3) := by decide +kernel
theorem dX9_count_193 : decode cX9_count 193 = .ok (.ireturn, 1) := by decide +kernel
theorem dX9_count_194 : decode cX9_count 194 = .ok (.sipush (-1002), 3) := by decide +kernel
theorem dX9_count_197 : decode cX9_count 197 = .ok (.ireturn, 1) := by decide +kernel
theorem dX9_order_0 : decode cX9_order 0 = .ok (.iload_n 2, 1) := by decide +kernel
theorem dX9_order_1 : decode cX9_order 1 = .ok (.invokestatic 116, 3) := by decide +kernel
theorem dX9_order_4 : decode cX9_order 4 = .ok (.ifCond .ne 10, 3) := by decide +kernel
theorem dX9_order_7 : decode cX9_order 7 = .ok (.iload_n 3, 1) := by decide +kernel
theorem dX9_order_8 : decode cX9_order 8 = .ok (.invokestatic 87, 3) := by decide +kernel
theorem dX9_order_11 : decode cX9_order 11 = .ok (.ifCond .eq 7, 3) := by decide +kernel
theorem dX9_order_14 : decode cX9_order 14 = .ok (.sipush (-1001), 3) := by decide +kernel
theorem dX9_order_17 : decode cX9_order 17 = .ok (.ireturn, 1) := by decide +kernel
theorem dX9_order_18 : decode cX9_order 18 = .ok (.iload_n 1, 1) := by decide +kernel
theorem dX9_order_19 : decode cX9_order 19 = .ok (.iconst 0, 1) := by decide +kernel
theorem dX9_order_20 : decode cX9_order 20 = .ok (.iconst 3, 1) := by decide +kernel
theorem dX9_order_21 : decode cX9_order 21 = .ok (.invokestatic 91, 3) := by decide +kernel
theorem dX9_order_24 : decode cX9_order 24 = .ok (.ifCond .ne 18, 3) := by decide +kernel
theorem dX9_order_27 : decode cX9_order 27 = .ok (.iload 4, 2) := by decide +kernel
theorem dX9_order_29 : decode cX9_order 29 = .ok (.aload_n 0, 1) := by decide +kernel
theorem dX9_order_30 : decode cX9_order 30 = .ok (.getfield 83, 3) := by decide +kernel
theorem dX9_order_33 : decode cX9_order 33 = .ok (.sipush 240, 3) := by decide +kernel
theorem dX9_order_36 : decode cX9_order 36 = .ok (.invokestatic 91, 3) := by decide +kernel
theorem dX9_order_39 : decode cX9_order 39 = .ok (.ifCond .eq 7, 3) := by decide +kernel
theorem dX9_order_42 : decode cX9_order 42 = .ok (.sipush (-1002), 3) := by decide +kernel
theorem dX9_order_45 : decode cX9_order 45 = .ok (.ireturn, 1) := by decide +kernel
theorem dX9_order_46 : decode cX9_order 46 = .ok (.aload_n 0, 1) := by decide +kernel
theorem dX9_order_47 : decode cX9_order 47 = .ok (.getfield 28, 3) := by decide +kernel
theorem dX9_order_50 : decode cX9_order 50 = .ok (.getfield 148, 3) := by decide +kernel
theorem dX9_order_53 : decode cX9_order 53 = .ok (.bipush 40, 2) := by decide +kernel
theorem dX9_order_55 : decode cX9_order 55 = .ok (.if_icmp .lt 7, 3) := by decide +kernel
theorem dX9_order_58 : decode cX9_order 58 = .ok (.sipush (-1004), 3) := by decide +kernel
theorem dX9_order_61 : decode cX9_order 61 = .ok (.ireturn, 1) := by decide +kernel
theorem dX9_order_62 : decode cX9_order 62 = .ok (.aload_n 0, 1) := by decide +kernel
theorem dX9_order_63 : decode cX9_order 63 = .ok (.getfield 28, 3) := by decide +kernel
theorem dX9_order_66 : decode cX9_order 66 = .ok (.iload_n 1, 1) := by decide +kernel
theorem dX9_order_67 : decode cX9_order 67 = .ok (.iload_n 2, 1) := by decide +kernel
theorem dX9_order_68 : decode cX9_order 68 = .ok (.iload_n 3, 1) := by decide +kernel
theorem dX9_order_69 : decode cX9_order 69 = .ok (.iload 4, 2) := by decide +kernel
theorem dX9_order_71 : decode cX9_order 71 = .ok (.invokevirtual 165, 3) := by decide +kernel
theorem dX9_order_74 : decode cX9_order 74 = .ok (.ireturn, 1) := by decide +kernel
theorem dX9_reach_0 : decode cX9_reach 0 = .ok (.iload_n 1, 1) := by decide +kernel
theorem dX9_reach_1 : decode cX9_reach 1 = .ok (.aload_n 0, 1) := by decide +kernel
theorem dX9_reach_2 : decode cX9_reach 2 = .ok (.getfield 28, 3) := by decide +kernel
theorem dX9_reach_5 : decode cX9_reach 5 = .ok (.getfield 148, 3) := by decide +kernel
theorem dX9_reach_8 : decode cX9_reach 8 = .ok (.invokestatic 169, 3) := by decide +kernel
theorem dX9_reach_11 : decode cX9_reach 11 = .ok (.ifCond .ne 10, 3) := by decide +kernel
theorem dX9_reach_14 : decode cX9_reach 14 = .ok (.iload_n 2, 1) := by decide +kernel
theorem dX9_reach_15 : decode cX9_reach 15 = .ok (.invokestatic 87, 3) := by decide +kernel
theorem dX9_reach_18 : decode cX9_reach 18 = .ok (.ifCond .eq 7, 3) := by decide +kernel
theorem dX9_reach_21 : decode cX9_reach 21 = .ok (.sipush (-1001), 3) := by decide +kernel
theorem dX9_reach_24 : decode cX9_reach 24 = .ok (.ireturn, 1) := by decide +kernel
theorem dX9_reach_25 : decode cX9_reach 25 = .ok (.aload_n 0, 1) := by decide +kernel
theorem dX9_reach_26 : decode cX9_reach 26 = .ok (.getfield 28, 3) := by decide +kernel
theorem dX9_reach_29 : decode cX9_reach 29 = .ok (.iload_n 1, 1) := by decide +kernel
theorem dX9_reach_30 : decode cX9_reach 30 = .ok (.iload_n 2, 1) := by decide +kernel
theorem dX9_reach_31 : decode cX9_reach 31 = .ok (.aload_n 0, 1) := by decide +kernel
theorem dX9_reach_32 : decode cX9_reach 32 = .ok (.getfield 28, 3) := by decide +kernel
theorem dX9_reach_35 : decode cX9_reach 35 = .ok (.getfield 173, 3) := by decide +kernel
theorem dX9_reach_38 : decode cX9_reach 38 = .ok (.iload_n 1, 1) := by decide +kernel
theorem dX9_reach_39 : decode cX9_reach 39 = .ok (.iaload, 1) := by decide +kernel
theorem dX9_reach_40 : decode cX9_reach 40 = .ok (.invokevirtual 176, 3) := by decide +kernel
theorem dX9_reach_43 : decode cX9_reach 43 = .ok (.ireturn, 1) := by decide +kernel
theorem dX9_late_0 : decode cX9_late 0 = .ok (.iload_n 1, 1) := by decide +kernel
theorem dX9_late_1 : decode cX9_late 1 = .ok (.aload_n 0, 1) := by decide +kernel
theorem dX9_late_2 : decode cX9_late 2 = .ok (.getfield 28, 3) := by decide +kernel
theorem dX9_late_5 : decode cX9_late 5 = .ok (.getfield 148, 3) := by decide +kernel
theorem dX9_late_8 : decode cX9_late 8 = .ok (.invokestatic 169, 3) := by decide +kernel
theorem dX9_late_11 : decode cX9_late 11 = .ok (.ifCond .eq 7, 3) := by decide +kernel
theorem dX9_late_14 : decode cX9_late 14 = .ok (.sipush (-1001), 3) := by decide +kernel
theorem dX9_late_17 : decode cX9_late 17 = .ok (.ireturn, 1) := by decide +kernel
theorem dX9_late_18 : decode cX9_late 18 = .ok (.aload_n 0, 1) := by decide +kernel
theorem dX9_late_19 : decode cX9_late 19 = .ok (.getfield 28, 3) := by decide +kernel
theorem dX9_late_22 : decode cX9_late 22 = .ok (.iload_n 1, 1) := by decide +kernel
theorem dX9_late_23 : decode cX9_late 23 = .ok (.invokevirtual 180, 3) := by decide +kernel
theorem dX9_late_26 : decode cX9_late 26 = .ok (.ireturn, 1) := by decide +kernel
theorem dX9_called_0 : decode cX9_called 0 = .ok (.iload_n 1, 1) := by decide +kernel
theorem dX9_called_1 : decode cX9_called 1 = .ok (.invokestatic 116, 3) := by decide +kernel
theorem dX9_called_4 : decode cX9_called 4 = .ok (.ifCond .ne 10, 3) := by decide +kernel
theorem dX9_called_7 : decode cX9_called 7 = .ok (.iload_n 2, 1) := by decide +kernel
theorem dX9_called_8 : decode cX9_called 8 = .ok (.invokestatic 87, 3) := by decide +kernel
theorem dX9_called_11 : decode cX9_called 11 = .ok (.ifCond .eq 7, 3) := by decide +kernel
theorem dX9_called_14 : decode cX9_called 14 = .ok (.sipush (-1001), 3) := by decide +kernel
theorem dX9_called_17 : decode cX9_called 17 = .ok (.ireturn, 1) := by decide +kernel
theorem dX9_called_18 : decode cX9_called 18 = .ok (.iload_n 3, 1) := by decide +kernel
theorem dX9_called_19 : decode cX9_called 19 = .ok (.iconst 0, 1) := by decide +kernel
theorem dX9_called_20 : decode cX9_called 20 = .ok (.sipush 240, 3) := by decide +kernel
theorem dX9_called_23 : decode cX9_called 23 = .ok (.invokestatic 91, 3) := by decide +kernel
theorem dX9_called_26 : decode cX9_called 26 = .ok (.ifCond .eq 7, 3) := by decide +kernel
theorem dX9_called_29 : decode cX9_called 29 = .ok (.sipush (-1002), 3) := by decide +kernel
theorem dX9_called_32 : decode cX9_called 32 = .ok (.ireturn, 1) := by decide +kernel
theorem dX9_called_33 : decode cX9_called 33 = .ok (.aload_n 0, 1) := by decide +kernel
theorem dX9_called_34 : decode cX9_called 34 = .ok (.getfield 28, 3) := by decide +kernel
theorem dX9_called_37 : decode cX9_called 37 = .ok (.iload_n 3, 1) := by decide +kernel
theorem dX9_called_38 : decode cX9_called 38 = .ok (.iconst 0, 1) := by decide +kernel
theorem dX9_called_39 : decode cX9_called 39 = .ok (.invokevirtual 183, 3) := by decide +kernel
theorem dX9_called_42 : decode cX9_called 42 = .ok (.aload_n 0, 1) := by decide +kernel
theorem dX9_called_43 : decode cX9_called 43 = .ok (.getfield 28, 3) := by decide +kernel
theorem dX9_called_46 : decode cX9_called 46 = .ok (.iload_n 1, 1) := by decide +kernel
theorem dX9_called_47 : decode cX9_called 47 = .ok (.bipush 8, 2) := by decide +kernel
theorem dX9_called_49 : decode cX9_called 49 = .ok (.imul, 1) := by decide +kernel
theorem dX9_called_50 : decode cX9_called 50 = .ok (.iload_n 2, 1) := by decide +kernel
theorem dX9_called_51 : decode cX9_called 51 = .ok (.iadd, 1) := by decide +kernel
theorem dX9_called_52 : decode cX9_called 52 = .ok (.invokevirtual 187, 3) := by decide +kernel
theorem dX9_called_55 : decode cX9_called 55 = .ok (.ifCond .eq 7, 3) := by decide +kernel
theorem dX9_called_58 : decode cX9_called 58 = .ok (.iconst 1, 1) := by decide +kernel
theorem dX9_called_59 : decode cX9_called 59 = .ok (.goto 4, 3) := by decide +kernel
theorem dX9_called_62 : decode cX9_called 62 = .ok (.iconst 0, 1) := by decide +kernel
theorem dX9_called_63 : decode cX9_called 63 = .ok (.ireturn, 1) := by decide +kernel
theorem dX9_holds_0 : decode cX9_holds 0 = .ok (.iload_n 1, 1) := by decide +kernel
theorem dX9_holds_1 : decode cX9_holds 1 = .ok (.invokestatic 116, 3) := by decide +kernel
theorem dX9_holds_4 : decode cX9_holds 4 = .ok (.ifCond .ne 10, 3) := by decide +kernel
theorem dX9_holds_7 : decode cX9_holds 7 = .ok (.iload_n 2, 1) := by decide +kernel
theorem dX9_holds_8 : decode cX9_holds 8 = .ok (.invokestatic 87, 3) := by decide +kernel
theorem dX9_holds_11 : decode cX9_holds 11 = .ok (.ifCond .eq 7, 3) := by decide +kernel
theorem dX9_holds_14 : decode cX9_holds 14 = .ok (.sipush (-1001), 3) := by decide +kernel
theorem dX9_holds_17 : decode cX9_holds 17 = .ok (.ireturn, 1) := by decide +kernel
theorem dX9_holds_18 : decode cX9_holds 18 = .ok (.iload_n 3, 1) := by decide +kernel
theorem dX9_holds_19 : decode cX9_holds 19 = .ok (.iconst 0, 1) := by decide +kernel
theorem dX9_holds_20 : decode cX9_holds 20 = .ok (.sipush 240, 3) := by decide +kernel
theorem dX9_holds_23 : decode cX9_holds 23 = .ok (.invokestatic 91, 3) := by decide +kernel
theorem dX9_holds_26 : decode cX9_holds 26 = .ok (.ifCond .ne 13, 3) := by decide +kernel
theorem dX9_holds_29 : decode cX9_holds 29 = .ok (.iload 4, 2) := by decide +kernel
theorem dX9_holds_31 : decode cX9_holds 31 = .ok (.iconst 0, 1) := by decide +kernel
theorem dX9_holds_32 : decode cX9_holds 32 = .ok (.iconst 1, 1) := by decide +kernel
theorem dX9_holds_33 : decode cX9_holds 33 = .ok (.invokestatic 91, 3) := by decide +kernel
theorem dX9_holds_36 : decode cX9_holds 36 = .ok (.ifCond .eq 7, 3) := by decide +kernel
theorem dX9_holds_39 : decode cX9_holds 39 = .ok (.sipush (-1002), 3) := by decide +kernel
theorem dX9_holds_42 : decode cX9_holds 42 = .ok (.ireturn, 1) := by decide +kernel
theorem dX9_holds_43 : decode cX9_holds 43 = .ok (.aload_n 0, 1) := by decide +kernel
theorem dX9_holds_44 : decode cX9_holds 44 = .ok (.getfield 28, 3) := by decide +kernel
theorem dX9_holds_47 : decode cX9_holds 47 = .ok (.iload_n 3, 1) := by decide +kernel
theorem dX9_holds_48 : decode cX9_holds 48 = .ok (.iconst 0, 1) := by decide +kernel
theorem dX9_holds_49 : decode cX9_holds 49 = .ok (.invokevirtual 183, 3) := by decide +kernel
theorem dX9_holds_52 : decode cX9_holds 52 = .ok (.aload_n 0, 1) := by decide +kernel
theorem dX9_holds_53 : decode cX9_holds 53 = .ok (.getfield 28, 3) := by decide +kernel
theorem dX9_holds_56 : decode cX9_holds 56 = .ok (.getfield 190, 3) := by decide +kernel
theorem dX9_holds_59 : decode cX9_holds 59 = .ok (.iload 4, 2) := by decide +kernel
theorem dX9_holds_61 : decode cX9_holds 61 = .ok (.bipush 48, 2) := by decide +kernel
theorem dX9_holds_63 : decode cX9_holds 63 = .ok (.imul, 1) := by decide +kernel
theorem dX9_holds_64 : decode cX9_holds 64 = .ok (.iload_n 1, 1) := by decide +kernel
theorem dX9_holds_65 : decode cX9_holds 65 = .ok (.bipush 8, 2) := by decide +kernel
theorem dX9_holds_67 : decode cX9_holds 67 = .ok (.imul, 1) := by decide +kernel
theorem dX9_holds_68 : decode cX9_holds 68 = .ok (.iadd, 1) := by decide +kernel
theorem dX9_holds_69 : decode cX9_holds 69 = .ok (.iload_n 2, 1) := by decide +kernel
theorem dX9_holds_70 : decode cX9_holds 70 = .ok (.iadd, 1) := by decide +kernel
theorem dX9_holds_71 : decode cX9_holds 71 = .ok (.iaload, 1) := by decide +kernel
theorem dX9_holds_72 : decode cX9_holds 72 = .ok (.ireturn, 1) := by decide +kernel
theorem dX9_feed_0 : decode cX9_feed 0 = .ok (.iload_n 1, 1) := by decide +kernel
theorem dX9_feed_1 : decode cX9_feed 1 = .ok (.iconst 1, 1) := by decide +kernel
theorem dX9_feed_2 : decode cX9_feed 2 = .ok (.bipush 8, 2) := by decide +kernel
theorem dX9_feed_4 : decode cX9_feed 4 = .ok (.invokestatic 91, 3) := by decide +kernel
theorem dX9_feed_7 : decode cX9_feed 7 = .ok (.ifCond .eq 7, 3) := by decide +kernel
theorem dX9_feed_10 : decode cX9_feed 10 = .ok (.sipush (-1002), 3) := by decide +kernel
theorem dX9_feed_13 : decode cX9_feed 13 = .ok (.ireturn, 1) := by decide +kernel
theorem dX9_feed_14 : decode cX9_feed 14 = .ok (.aload_n 0, 1) := by decide +kernel
theorem dX9_feed_15 : decode cX9_feed 15 = .ok (.getfield 42, 3) := by decide +kernel
theorem dX9_feed_18 : decode cX9_feed 18 = .ok (.getfield 162, 3) := by decide +kernel
theorem dX9_feed_21 : decode cX9_feed 21 = .ok (.iload_n 1, 1) := by decide +kernel
theorem dX9_feed_22 : decode cX9_feed 22 = .ok (.iadd, 1) := by decide +kernel
theorem dX9_feed_23 : decode cX9_feed 23 = .ok (.sipush 160, 3) := by decide +kernel
theorem dX9_feed_26 : decode cX9_feed 26 = .ok (.if_icmp .le 7, 3) := by decide +kernel
theorem dX9_feed_29 : decode cX9_feed 29 = .ok (.sipush (-1004), 3) := by decide +kernel
theorem dX9_feed_32 : decode cX9_feed 32 = .ok (.ireturn, 1) := by decide +kernel
theorem dX9_feed_33 : decode cX9_feed 33 = .ok (.aload_n 0, 1) := by decide +kernel
theorem dX9_feed_34 : decode cX9_feed 34 = .ok (.getfield 42, 3) := by decide +kernel
theorem dX9_feed_37 : decode cX9_feed 37 = .ok (.iload_n 1, 1) := by decide +kernel
theorem dX9_feed_38 : decode cX9_feed 38 = .ok (.lload_n 2, 1) := by decide +kernel
theorem dX9_feed_39 : decode cX9_feed 39 = .ok (.invokevirtual 193, 3) := by decide +kernel
theorem dX9_feed_42 : decode cX9_feed 42 = .ok (.aload_n 0, 1) := by decide +kernel
theorem dX9_feed_43 : decode cX9_feed 43 = .ok (.getfield 42, 3) := by decide +kernel
theorem dX9_feed_46 : decode cX9_feed 46 = .ok (.getfield 162, 3) := by decide +kernel
theorem dX9_feed_49 : decode cX9_feed 49 = .ok (.ireturn, 1) := by decide +kernel
theorem dX9_rule_0 : decode cX9_rule 0 = .ok (.iload_n 1, 1) := by decide +kernel
theorem dX9_rule_1 : decode cX9_rule 1 = .ok (.iconst 0, 1) := by decide +kernel
theorem dX9_rule_2 : decode cX9_rule 2 = .ok (.sipush 240, 3) := by decide +kernel
theorem dX9_rule_5 : decode cX9_rule 5 = .ok (.invokestatic 91, 3) := by decide +kernel
theorem dX9_rule_8 : decode cX9_rule 8 = .ok (.ifCond .eq 7, 3) := by decide +kernel
theorem dX9_rule_11 : decode cX9_rule 11 = .ok (.sipush (-1002), 3) := by decide +kernel
theorem dX9_rule_14 : decode cX9_rule 14 = .ok (.ireturn, 1) := by decide +kernel
theorem dX9_rule_15 : decode cX9_rule 15 = .ok (.aload_n 0, 1) := by decide +kernel
theorem dX9_rule_16 : decode cX9_rule 16 = .ok (.getfield 35, 3) := by decide +kernel
theorem dX9_rule_19 : decode cX9_rule 19 = .ok (.getfield 156, 3) := by decide +kernel
theorem dX9_rule_22 : decode cX9_rule 22 = .ok (.bipush 8, 2) := by decide +kernel
theorem dX9_rule_24 : decode cX9_rule 24 = .ok (.if_icmp .lt 7, 3) := by decide +kernel
theorem dX9_rule_27 : decode cX9_rule 27 = .ok (.sipush (-1004), 3) := by decide +kernel
theorem dX9_rule_30 : decode cX9_rule 30 = .ok (.ireturn, 1) := by decide +kernel
theorem dX9_rule_31 : decode cX9_rule 31 = .ok (.aload_n 0, 1) := by decide +kernel
theorem dX9_rule_32 : decode cX9_rule 32 = .ok (.getfield 42, 3) := by decide +kernel
theorem dX9_rule_35 : decode cX9_rule 35 = .ok (.aload_n 0, 1) := by decide +kernel
theorem dX9_rule_36 : decode cX9_rule 36 = .ok (.getfield 35, 3) := by decide +kernel
theorem dX9_rule_39 : decode cX9_rule 39 = .ok (.getfield 156, 3) := by decide +kernel
theorem dX9_rule_42 : decode cX9_rule 42 = .ok (.invokevirtual 197, 3) := by decide +kernel
theorem dX9_rule_45 : decode cX9_rule 45 = .ok (.aload_n 0, 1) := by decide +kernel
theorem dX9_rule_46 : decode cX9_rule 46 = .ok (.getfield 42, 3) := by decide +kernel
theorem dX9_rule_49 : decode cX9_rule 49 = .ok (.getfield 201, 3) := by decide +kernel
theorem dX9_rule_52 : decode cX9_rule 52 = .ok (.ifCond .ne 18, 3) := by decide +kernel
theorem dX9_rule_55 : decode cX9_rule 55 = .ok (.aload_n 0, 1) := by decide +kernel
theorem dX9_rule_56 : decode cX9_rule 56 = .ok (.getfield 35, 3) := by decide +kernel
theorem dX9_rule_59 : decode cX9_rule 59 = .ok (.iload_n 1, 1) := by decide +kernel
theorem dX9_rule_60 : decode cX9_rule 60 = .ok (.aload_n 0, 1) := by decide +kernel
theorem dX9_rule_61 : decode cX9_rule 61 = .ok (.getfield 42, 3) := by decide +kernel
theorem dX9_rule_64 : decode cX9_rule 64 = .ok (.invokevirtual 204, 3) := by decide +kernel
theorem dX9_rule_67 : decode cX9_rule 67 = .ok (.goto 13, 3) := by decide +kernel
theorem dX9_rule_70 : decode cX9_rule 70 = .ok (.bipush (-10), 2) := by decide +kernel
theorem dX9_rule_72 : decode cX9_rule 72 = .ok (.aload_n 0, 1) := by decide +kernel
theorem dX9_rule_73 : decode cX9_rule 73 = .ok (.getfield 42, 3) := by decide +kernel
theorem dX9_rule_76 : decode cX9_rule 76 = .ok (.getfield 201, 3) := by decide +kernel
theorem dX9_rule_79 : decode cX9_rule 79 = .ok (.isub, 1) := by decide +kernel
theorem dX9_rule_80 : decode cX9_rule 80 = .ok (.ireturn, 1) := by decide +kernel
theorem dX9_fault_0 : decode cX9_fault 0 = .ok (.aload_n 0, 1) := by decide +kernel
theorem dX9_fault_1 : decode cX9_fault 1 = .ok (.getfield 42, 3) := by decide +kernel
theorem dX9_fault_4 : decode cX9_fault 4 = .ok (.getfield 208, 3) := by decide +kernel
theorem dX9_fault_7 : decode cX9_fault 7 = .ok (.ireturn, 1) := by decide +kernel
theorem dX9_force_0 : decode cX9_force 0 = .ok (.iload_n 1, 1) := by decide +kernel
theorem dX9_force_1 : decode cX9_force 1 = .ok (.iconst 0, 1) := by decide +kernel
theorem dX9_force_2 : decode cX9_force 2 = .ok (.bipush 6, 2) := by decide +kernel
theorem dX9_force_4 : decode cX9_force 4 = .ok (.invokestatic 91, 3) := by decide +kernel
theorem dX9_force_7 : decode cX9_force 7 = .ok (.ifCond .ne 14, 3) := by decide +kernel
theorem dX9_force_10 : decode cX9_force 10 = .ok (.iload_n 2, 1) := by decide +kernel
theorem dX9_force_11 : decode cX9_force 11 = .ok (.iconst 0, 1) := by decide +kernel
theorem dX9_force_12 : decode cX9_force 12 = .ok (.sipush 240, 3) := by decide +kernel
theorem dX9_force_15 : decode cX9_force 15 = .ok (.invokestatic 91, 3) := by decide +kernel
theorem dX9_force_18 : decode cX9_force 18 = .ok (.ifCond .eq 7, 3) := by decide +kernel
theorem dX9_force_21 : decode cX9_force 21 = .ok (.sipush (-1002), 3) := by decide +kernel
theorem dX9_force_24 : decode cX9_force 24 = .ok (.ireturn, 1) := by decide +kernel
theorem dX9_force_25 : decode cX9_force 25 = .ok (.aload_n 0, 1) := by decide +kernel
theorem dX9_force_26 : decode cX9_force 26 = .ok (.getfield 35, 3) := by decide +kernel
theorem dX9_force_29 : decode cX9_force 29 = .ok (.iload_n 2, 1) := by decide +kernel
theorem dX9_force_30 : decode cX9_force 30 = .ok (.aload_n 0, 1) := by decide +kernel
theorem dX9_force_31 : decode cX9_force 31 = .ok (.getfield 79, 3) := by decide +kernel
theorem dX9_force_34 : decode cX9_force 34 = .ok (.invokevirtual 211, 3) := by decide +kernel
theorem dX9_force_37 : decode cX9_force 37 = .ok (.aload_n 0, 1) := by decide +kernel
theorem dX9_force_38 : decode cX9_force 38 = .ok (.getfield 79, 3) := by decide +kernel
theorem dX9_force_41 : decode cX9_force 41 = .ok (.iload_n 1, 1) := by decide +kernel
theorem dX9_force_42 : decode cX9_force 42 = .ok (.iaload, 1) := by decide +kernel
theorem dX9_force_43 : decode cX9_force 43 = .ok (.ireturn, 1) := by decide +kernel
theorem dX9_load_0 : decode cX9_load 0 = .ok (.iload_n 3, 1) := by decide +kernel
theorem dX9_load_1 : decode cX9_load 1 = .ok (.invokestatic 87, 3) := by decide +kernel
theorem dX9_load_4 : decode cX9_load 4 = .ok (.ifCond .ne 11, 3) := by decide +kernel
theorem dX9_load_7 : decode cX9_load 7 = .ok (.iload 4, 2) := by decide +kernel
theorem dX9_load_9 : decode cX9_load 9 = .ok (.invokestatic 87, 3) := by decide +kernel
theorem dX9_load_12 : decode cX9_load 12 = .ok (.ifCond .eq 7, 3) := by decide +kernel
theorem dX9_load_15 : decode cX9_load 15 = .ok (.sipush (-1001), 3) := by decide +kernel
theorem dX9_load_18 : decode cX9_load 18 = .ok (.ireturn, 1) := by decide +kernel
theorem dX9_load_19 : decode cX9_load 19 = .ok (.iload_n 1, 1) := by decide +kernel
theorem dX9_load_20 : decode cX9_load 20 = .ok (.invokestatic 106, 3) := by decide +kernel
theorem dX9_load_23 : decode cX9_load 23 = .ok (.ifCond .ne 35, 3) := by decide +kernel
theorem dX9_load_26 : decode cX9_load 26 = .ok (.iload_n 2, 1) := by decide +kernel
theorem dX9_load_27 : decode cX9_load 27 = .ok (.iconst 1, 1) := by decide +kernel
theorem dX9_load_28 : decode cX9_load 28 = .ok (.sipush 999, 3) := by decide +kernel
theorem dX9_load_31 : decode cX9_load 31 = .ok (.invokestatic 91, 3) := by decide +kernel
theorem dX9_load_34 : decode cX9_load 34 = .ok (.ifCond .ne 24, 3) := by decide +kernel
theorem dX9_load_37 : decode cX9_load 37 = .ok (.iload_n 3, 1) := by decide +kernel
theorem dX9_load_38 : decode cX9_load 38 = .ok (.iload 4, 2) := by decide +kernel
theorem dX9_load_40 : decode cX9_load 40 = .ok (.if_icmp .eq 18, 3) := by decide +kernel
theorem dX9_load_43 : decode cX9_load 43 = .ok (.iload 5, 2) := by decide +kernel
theorem dX9_load_45 : decode cX9_load 45 = .ok (.aload_n 0, 1) := by decide +kernel
theorem dX9_load_46 : decode cX9_load 46 = .ok (.getfield 83, 3) := by decide +kernel
theorem dX9_load_49 : decode cX9_load 49 = .ok (.sipush 240, 3) := by decide +kernel
theorem dX9_load_52 : decode cX9_load 52 = .ok (.invokestatic 91, 3) := by decide +kernel
theorem dX9_load_55 : decode cX9_load 55 = .ok (.ifCond .eq 7, 3) := by decide +kernel
theorem dX9_load_58 : decode cX9_load 58 = .ok (.sipush (-1002), 3) := by decide +kernel
theorem dX9_load_61 : decode cX9_load 61 = .ok (.ireturn, 1) := by decide +kernel
theorem dX9_load_62 : decode cX9_load 62 = .ok (.aload_n 0, 1) := by decide +kernel
theorem dX9_load_63 : decode cX9_load 63 = .ok (.getfield 49, 3) := by decide +kernel
theorem dX9_load_66 : decode cX9_load 66 = .ok (.getfield 151, 3) := by decide +kernel
theorem dX9_load_69 : decode cX9_load 69 = .ok (.bipush 40, 2) := by decide +kernel
theorem dX9_load_71 : decode cX9_load 71 = .ok (.if_icmp .lt 7, 3) := by decide +kernel
theorem dX9_load_74 : decode cX9_load 74 = .ok (.sipush (-1004), 3) := by decide +kernel
theorem dX9_load_77 : decode cX9_load 77 = .ok (.ireturn, 1) := by decide +kernel
theorem dX9_load_78 : decode cX9_load 78 = .ok (.aload_n 0, 1) := by decide +kernel
theorem dX9_load_79 : decode cX9_load 79 = .ok (.getfield 49, 3) := by decide +kernel
theorem dX9_load_82 : decode cX9_load 82 = .ok (.iload_n 1, 1) := by decide +kernel
theorem dX9_load_83 : decode cX9_load 83 = .ok (.iload_n 2, 1) := by decide +kernel
theorem dX9_load_84 : decode cX9_load 84 = .ok (.iload_n 3, 1) := by decide +kernel
theorem dX9_load_85 : decode cX9_load 85 = .ok (.iload 4, 2) := by decide +kernel
theorem dX9_load_87 : decode cX9_load 87 = .ok (.iload 5, 2) := by decide +kernel
theorem dX9_load_89 : decode cX9_load 89 = .ok (.invokevirtual 215, 3) := by decide +kernel
theorem dX9_load_92 : decode cX9_load 92 = .ok (.ireturn, 1) := by decide +kernel
theorem dX9_stamp_0 : decode cX9_stamp 0 = .ok (.iload_n 1, 1) := by decide +kernel
theorem dX9_stamp_1 : decode cX9_stamp 1 = .ok (.aload_n 0, 1) := by decide +kernel
theorem dX9_stamp_2 : decode cX9_stamp 2 = .ok (.getfield 49, 3) := by decide +kernel
theorem dX9_stamp_5 : decode cX9_stamp 5 = .ok (.getfield 151, 3) := by decide +kernel
theorem dX9_stamp_8 : decode cX9_stamp 8 = .ok (.invokestatic 169, 3) := by decide +kernel
theorem dX9_stamp_11 : decode cX9_stamp 11 = .ok (.ifCond .eq 7, 3) := by decide +kernel
theorem dX9_stamp_14 : decode cX9_stamp 14 = .ok (.sipush (-1001), 3) := by decide +kernel
theorem dX9_stamp_17 : decode cX9_stamp 17 = .ok (.ireturn, 1) := by decide +kernel
theorem dX9_stamp_18 : decode cX9_stamp 18 = .ok (.iload_n 2, 1) := by decide +kernel
theorem dX9_stamp_19 : decode cX9_stamp 19 = .ok (.iconst 0, 1) := by decide +kernel
theorem dX9_stamp_20 : decode cX9_stamp 20 = .ok (.iconst 3, 1) := by decide +kernel
theorem dX9_stamp_21 : decode cX9_stamp 21 = .ok (.invokestatic 91, 3) := by decide +kernel
theorem dX9_stamp_24 : decode cX9_stamp 24 = .ok (.ifCond .eq 7, 3) := by decide +kernel
theorem dX9_stamp_27 : decode cX9_stamp 27 = .ok (.sipush (-1002), 3) := by decide +kernel
theorem dX9_stamp_30 : decode cX9_stamp 30 = .ok (.ireturn, 1) := by decide +kernel
theorem dX9_stamp_31 : decode cX9_stamp 31 = .ok (.iconst 1, 1) := by decide +kernel
theorem dX9_stamp_32 : decode cX9_stamp 32 = .ok (.iload_n 2, 1) := by decide +kernel
theorem dX9_stamp_33 : decode cX9_stamp 33 = .ok (.ishl, 1) := by decide +kernel
theorem dX9_stamp_34 : decode cX9_stamp 34 = .ok (.istore_n 3, 1) := by decide +kernel
theorem dX9_stamp_35 : decode cX9_stamp 35 = .ok (.aload_n 0, 1) := by decide +kernel
theorem dX9_stamp_36 : decode cX9_stamp 36 = .ok (.getfield 49, 3) := by decide +kernel
theorem dX9_stamp_39 : decode cX9_stamp 39 = .ok (.getfield 219, 3) := by decide +kernel
theorem dX9_stamp_42 : decode cX9_stamp 42 = .ok (.iload_n 1, 1) := by decide +kernel
theorem dX9_stamp_43 : decode cX9_stamp 43 = .ok (.iaload, 1) := by decide +kernel
theorem dX9_stamp_44 : decode cX9_stamp 44 = .ok (.iload_n 3, 1) := by decide +kernel
theorem dX9_stamp_45 : decode cX9_stamp 45 = .ok (.iand, 1) := by decide +kernel
theorem dX9_stamp_46 : decode cX9_stamp 46 = .ok (.ifCond .ne 15, 3) := by decide +kernel
theorem dX9_stamp_49 : decode cX9_stamp 49 = .ok (.aload_n 0, 1) := by decide +kernel
theorem dX9_stamp_50 : decode cX9_stamp 50 = .ok (.getfield 58, 3) := by decide +kernel
theorem dX9_stamp_53 : decode cX9_stamp 53 = .ok (.getfield 222, 3) := by decide +kernel
theorem dX9_stamp_56 : decode cX9_stamp 56 = .ok (.iload_n 1, 1) := by decide +kernel
theorem dX9_stamp_57 : decode cX9_stamp 57 = .ok (.iaload, 1) := by decide +kernel
theorem dX9_stamp_58 : decode cX9_stamp 58 = .ok (.ifCond .eq 7, 3) := by decide +kernel
theorem dX9_stamp_61 : decode cX9_stamp 61 = .ok (.sipush (-1003), 3) := by decide +kernel
theorem dX9_stamp_64 : decode cX9_stamp 64 = .ok (.ireturn, 1) := by decide +kernel
theorem dX9_stamp_65 : decode cX9_stamp 65 = .ok (.aload_n 0, 1) := by decide +kernel
theorem dX9_stamp_66 : decode cX9_stamp 66 = .ok (.getfield 49, 3) := by decide +kernel
theorem dX9_stamp_69 : decode cX9_stamp 69 = .ok (.getfield 219, 3) := by decide +kernel
theorem dX9_stamp_72 : decode cX9_stamp 72 = .ok (.iload_n 1, 1) := by decide +kernel
theorem dX9_stamp_73 : decode cX9_stamp 73 = .ok (.dup2, 1) := by decide +kernel
theorem dX9_stamp_74 : decode cX9_stamp 74 = .ok (.iaload, 1) := by decide +kernel
theorem dX9_stamp_75 : decode cX9_stamp 75 = .ok (.iload_n 3, 1) := by decide +kernel
theorem dX9_stamp_76 : decode cX9_stamp 76 = .ok (.ior, 1) := by decide +kernel
theorem dX9_stamp_77 : decode cX9_stamp 77 = .ok (.iastore, 1) := by decide +kernel
theorem dX9_stamp_78 : decode cX9_stamp 78 = .ok (.aload_n 0, 1) := by decide +kernel
theorem dX9_stamp_79 : decode cX9_stamp 79 = .ok (.getfield 49, 3) := by decide +kernel
theorem dX9_stamp_82 : decode cX9_stamp 82 = .ok (.getfield 219, 3) := by decide +kernel
theorem dX9_stamp_85 : decode cX9_stamp 85 = .ok (.iload_n 1, 1) := by decide +kernel
theorem dX9_stamp_86 : decode cX9_stamp 86 = .ok (.iaload, 1) := by decide +kernel
theorem dX9_stamp_87 : decode cX9_stamp 87 = .ok (.ireturn, 1) := by decide +kernel
theorem dX9_told_0 : decode cX9_told 0 = .ok (.iload_n 1, 1) := by decide +kernel
theorem dX9_told_1 : decode cX9_told 1 = .ok (.aload_n 0, 1) := by decide +kernel
theorem dX9_told_2 : decode cX9_told 2 = .ok (.getfield 49, 3) := by decide +kernel
theorem dX9_told_5 : decode cX9_told 5 = .ok (.getfield 151, 3) := by decide +kernel
theorem dX9_told_8 : decode cX9_told 8 = .ok (.invokestatic 169, 3) := by decide +kernel
theorem dX9_told_11 : decode cX9_told 11 = .ok (.ifCond .eq 7, 3) := by decide +kernel
theorem dX9_told_14 : decode cX9_told 14 = .ok (.sipush (-1001), 3) := by decide +kernel
theorem dX9_told_17 : decode cX9_told 17 = .ok (.ireturn, 1) := by decide +kernel
theorem dX9_told_18 : decode cX9_told 18 = .ok (.iload_n 2, 1) := by decide +kernel
theorem dX9_told_19 : decode cX9_told 19 = .ok (.tableswitch 139 0 8 #[49, 59, 69, 79, 89, 99, 109, 119, 129], 49) := by decide +kernel
theorem dX9_told_68 : decode cX9_told 68 = .ok (.aload_n 0, 1) := by decide +kernel
theorem dX9_told_69 : decode cX9_told 69 = .ok (.getfield 49, 3) := by decide +kernel
theorem dX9_told_72 : decode cX9_told 72 = .ok (.getfield 225, 3) := by decide +kernel
theorem dX9_told_75 : decode cX9_told 75 = .ok (.iload_n 1, 1) := by decide +kernel
theorem dX9_told_76 : decode cX9_told 76 = .ok (.iaload, 1) := by decide +kernel
theorem dX9_told_77 : decode cX9_told 77 = .ok (.ireturn, 1) := by decide +kernel
theorem dX9_told_78 : decode cX9_told 78 = .ok (.aload_n 0, 1) := by decide +kernel
theorem dX9_told_79 : decode cX9_told 79 = .ok (.getfield 49, 3) := by decide +kernel
theorem dX9_told_82 : decode cX9_told 82 = .ok (.getfield 228, 3) := by decide +kernel
theorem dX9_told_85 : decode cX9_told 85 = .ok (.iload_n 1, 1) := by decide +kernel
theorem dX9_told_86 : decode cX9_told 86 = .ok (.iaload, 1) := by decide +kernel
theorem dX9_told_87 : decode cX9_told 87 = .ok (.ireturn, 1) := by decide +kernel
theorem dX9_told_88 : decode cX9_told 88 = .ok (.aload_n 0, 1) := by decide +kernel
theorem dX9_told_89 : decode cX9_told 89 = .ok (.getfield 49, 3) := by decide +kernel
theorem dX9_told_92 : decode cX9_told 92 = .ok (.getfield 231, 3) := by decide +kernel
theorem dX9_told_95 : decode cX9_told 95 = .ok (.iload_n 1, 1) := by decide +kernel
theorem dX9_told_96 : decode cX9_told 96 = .ok (.iaload, 1) := by decide +kernel
theorem dX9_told_97 : decode cX9_told 97 = .ok (.ireturn, 1) := by decide +kernel
theorem dX9_told_98 : decode cX9_told 98 = .ok (.aload_n 0, 1) := by decide +kernel
theorem dX9_told_99 : decode cX9_told 99 = .ok (.getfield 49, 3) := by decide +kernel
theorem dX9_told_102 : decode cX9_told 102 = .ok (.getfield 234, 3) := by decide +kernel
theorem dX9_told_105 : decode cX9_told 105 = .ok (.iload_n 1, 1) := by decide +kernel
theorem dX9_told_106 : decode cX9_told 106 = .ok (.iaload, 1) := by decide +kernel
theorem dX9_told_107 : decode cX9_told 107 = .ok (.ireturn, 1) := by decide +kernel
theorem dX9_told_108 : decode cX9_told 108 = .ok (.aload_n 0, 1) := by decide +kernel
theorem dX9_told_109 : decode cX9_told 109 = .ok (.getfield 49, 3) := by decide +kernel
theorem dX9_told_112 : decode cX9_told 112 = .ok (.getfield 237, 3) := by decide +kernel
theorem dX9_told_115 : decode cX9_told 115 = .ok (.iload_n 1, 1) := by decide +kernel
theorem dX9_told_116 : decode cX9_told 116 = .ok (.iaload, 1) := by decide +kernel
theorem dX9_told_117 : decode cX9_told 117 = .ok (.ireturn, 1) := by decide +kernel
theorem dX9_told_118 : decode cX9_told 118 = .ok (.aload_n 0, 1) := by decide +kernel
theorem dX9_told_119 : decode cX9_told 119 = .ok (.getfield 49, 3) := by decide +kernel
theorem dX9_told_122 : decode cX9_told 122 = .ok (.getfield 219, 3) := by decide +kernel
theorem dX9_told_125 : decode cX9_told 125 = .ok (.iload_n 1, 1) := by decide +kernel
theorem dX9_told_126 : decode cX9_told 126 = .ok (.iaload, 1) := by decide +kernel
theorem dX9_told_127 : decode cX9_told 127 = .ok (.ireturn, 1) := by decide +kernel
theorem dX9_told_128 : decode cX9_told 128 = .ok (.aload_n 0, 1) := by decide +kernel
theorem dX9_told_129 : decode cX9_told 129 = .ok (.getfield 58, 3) := by decide +kernel
theorem dX9_told_132 : decode cX9_told 132 = .ok (.getfield 222, 3) := by decide +kernel
theorem dX9_told_135 : decode cX9_told 135 = .ok (.iload_n 1, 1) := by decide +kernel
theorem dX9_told_136 : decode cX9_told 136 = .ok (.iaload, 1) := by decide +kernel
theorem dX9_told_137 : decode cX9_told 137 = .ok (.ireturn, 1) := by decide +kernel
theorem dX9_told_138 : decode cX9_told 138 = .ok (.aload_n 0, 1) := by decide +kernel
theorem dX9_told_139 : decode cX9_told 139 = .ok (.getfield 58, 3) := by decide +kernel
theorem dX9_told_142 : decode cX9_told 142 = .ok (.getfield 238, 3) := by decide +kernel
theorem dX9_told_145 : decode cX9_told 145 = .ok (.iload_n 1, 1) := by decide +kernel
theorem dX9_told_146 : decode cX9_told 146 = .ok (.iaload, 1) := by decide +kernel
theorem dX9_told_147 : decode cX9_told 147 = .ok (.ireturn, 1) := by decide +kernel
theorem dX9_told_148 : decode cX9_told 148 = .ok (.aload_n 0, 1) := by decide +kernel
theorem dX9_told_149 : decode cX9_told 149 = .ok (.getfield 58, 3) := by decide +kernel
theorem dX9_told_152 : decode cX9_told 152 = .ok (.getfield 241, 3) := by decide +kernel
theorem dX9_told_155 : decode cX9_told 155 = .ok (.iload_n 1, 1) := by decide +kernel
theorem dX9_told_156 : decode cX9_told 156 = .ok (.iaload, 1) := by decide +kernel
theorem dX9_told_157 : decode cX9_told 157 = .ok (.ireturn, 1) := by decide +kernel
theorem dX9_told_158 : decode cX9_told 158 = .ok (.sipush (-1002), 3) := by decide +kernel
theorem dX9_told_161 : decode cX9_told 161 = .ok (.ireturn, 1) := by decide +kernel
theorem dX9_clash_0 : decode cX9_clash 0 = .ok (.aload_n 0, 1) := by decide +kernel
theorem dX9_clash_1 : decode cX9_clash 1 = .ok (.getfield 35, 3) := by decide +kernel
theorem dX9_clash_4 : decode cX9_clash 4 = .ok (.aload_n 0, 1) := by decide +kernel
theorem dX9_clash_5 : decode cX9_clash 5 = .ok (.getfield 83, 3) := by decide +kernel
theorem dX9_clash_8 : decode cX9_clash 8 = .ok (.aload_n 0, 1) := by decide +kernel
theorem dX9_clash_9 : decode cX9_clash 9 = .ok (.getfield 79, 3) := by decide +kernel
theorem dX9_clash_12 : decode cX9_clash 12 = .ok (.invokevirtual 211, 3) := by decide +kernel
theorem dX9_clash_15 : decode cX9_clash 15 = .ok (.iconst 0, 1) := by decide +kernel
theorem dX9_clash_16 : decode cX9_clash 16 = .ok (.istore_n 2, 1) := by decide +kernel
theorem dX9_clash_17 : decode cX9_clash 17 = .ok (.iconst 0, 1) := by decide +kernel
theorem dX9_clash_18 : decode cX9_clash 18 = .ok (.istore_n 3, 1) := by decide +kernel
theorem dX9_clash_19 : decode cX9_clash 19 = .ok (.iload_n 3, 1) := by decide +kernel
theorem dX9_clash_20 : decode cX9_clash 20 = .ok (.aload_n 0, 1) := by decide +kernel
theorem dX9_clash_21 : decode cX9_clash 21 = .ok (.getfield 49, 3) := by decide +kernel
theorem dX9_clash_24 : decode cX9_clash 24 = .ok (.getfield 151, 3) := by decide +kernel
theorem dX9_clash_27 : decode cX9_clash 27 = .ok (.if_icmp .ge 49, 3) := by decide +kernel
theorem dX9_clash_30 : decode cX9_clash 30 = .ok (.aload_n 0, 1) := by decide +kernel
theorem dX9_clash_31 : decode cX9_clash 31 = .ok (.getfield 58, 3) := by decide +kernel
theorem dX9_clash_34 : decode cX9_clash 34 = .ok (.getfield 222, 3) := by decide +kernel
theorem dX9_clash_37 : decode cX9_clash 37 = .ok (.iload_n 3, 1) := by decide +kernel
theorem dX9_clash_38 : decode cX9_clash 38 = .ok (.iaload, 1) := by decide +kernel
theorem dX9_clash_39 : decode cX9_clash 39 = .ok (.ifCond .ne 31, 3) := by decide +kernel
theorem dX9_clash_42 : decode cX9_clash 42 = .ok (.aload_n 0, 1) := by decide +kernel
theorem dX9_clash_43 : decode cX9_clash 43 = .ok (.getfield 49, 3) := by decide +kernel
theorem dX9_clash_46 : decode cX9_clash 46 = .ok (.iload_n 3, 1) := by decide +kernel
theorem dX9_clash_47 : decode cX9_clash 47 = .ok (.aload_n 0, 1) := by decide +kernel
theorem dX9_clash_48 : decode cX9_clash 48 = .ok (.getfield 79, 3) := by decide +kernel
theorem dX9_clash_51 : decode cX9_clash 51 = .ok (.invokevirtual 244, 3) := by decide +kernel
theorem dX9_clash_54 : decode cX9_clash 54 = .ok (.ifCond .ne 6, 3) := by decide +kernel
theorem dX9_clash_57 : decode cX9_clash 57 = .ok (.goto 13, 3) := by decide +kernel
theorem dX9_clash_60 : decode cX9_clash 60 = .ok (.iload_n 2, 1) := by decide +kernel
theorem dX9_clash_61 : decode cX9_clash 61 = .ok (.iload_n 1, 1) := by decide +kernel
theorem dX9_clash_62 : decode cX9_clash 62 = .ok (.if_icmp .ne 5, 3) := by decide +kernel
theorem dX9_clash_65 : decode cX9_clash 65 = .ok (.iload_n 3, 1) := by decide +kernel
theorem dX9_clash_66 : decode cX9_clash 66 = .ok (.ireturn, 1) := by decide +kernel
theorem dX9_clash_67 : decode cX9_clash 67 = .ok (.iinc 2 1, 3) := by decide +kernel
theorem dX9_clash_70 : decode cX9_clash 70 = .ok (.iinc 3 1, 3) := by decide +kernel
theorem dX9_clash_73 : decode cX9_clash 73 = .ok (.goto (-54), 3) := by decide +kernel
theorem dX9_clash_76 : decode cX9_clash 76 = .ok (.iconst (-1), 1) := by decide +kernel
theorem dX9_clash_77 : decode cX9_clash 77 = .ok (.ireturn, 1) := by decide +kernel
theorem dX9_words_0 : decode cX9_words 0 = .ok (.aload_n 0, 1) := by decide +kernel
theorem dX9_words_1 : decode cX9_words 1 = .ok (.getfield 35, 3) := by decide +kernel
theorem dX9_words_4 : decode cX9_words 4 = .ok (.aload_n 0, 1) := by decide +kernel
theorem dX9_words_5 : decode cX9_words 5 = .ok (.getfield 83, 3) := by decide +kernel
theorem dX9_words_8 : decode cX9_words 8 = .ok (.aload_n 0, 1) := by decide +kernel
theorem dX9_words_9 : decode cX9_words 9 = .ok (.getfield 79, 3) := by decide +kernel
theorem dX9_words_12 : decode cX9_words 12 = .ok (.invokevirtual 211, 3) := by decide +kernel
theorem dX9_words_15 : decode cX9_words 15 = .ok (.iconst 0, 1) := by decide +kernel
theorem dX9_words_16 : decode cX9_words 16 = .ok (.istore_n 1, 1) := by decide +kernel
theorem dX9_words_17 : decode cX9_words 17 = .ok (.iconst 0, 1) := by decide +kernel
theorem dX9_words_18 : decode cX9_words 18 = .ok (.istore_n 2, 1) := by decide +kernel
theorem dX9_words_19 : decode cX9_words 19 = .ok (.iload_n 2, 1) := by decide +kernel
theorem dX9_words_20 : decode cX9_words 20 = .ok (.aload_n 0, 1) := by decide +kernel
theorem dX9_words_21 : decode cX9_words 21 = .ok (.getfield 49, 3) := by decide +kernel
theorem dX9_words_24 : decode cX9_words 24 = .ok (.getfield 151, 3) := by decide +kernel
theorem dX9_words_27 : decode cX9_words 27 = .ok (.if_icmp .ge 49, 3) := by decide +kernel
theorem dX9_words_30 : decode cX9_words 30 = .ok (.aload_n 0, 1) := by decide +kernel
theorem dX9_words_31 : decode cX9_words 31 = .ok (.getfield 58, 3) := by decide +kernel
theorem dX9_words_34 : decode cX9_words 34 = .ok (.getfield 222, 3) := by decide +kernel
theorem dX9_words_37 : decode cX9_words 37 = .ok (.iload_n 2, 1) := by decide +kernel
theorem dX9_words_38 : decode cX9_words 38 = .ok (.iaload, 1) := by decide +kernel
theorem dX9_words_39 : decode cX9_words 39 = .ok (.ifCond .eq 16, 3) := by decide +kernel
theorem dX9_words_42 : decode cX9_words 42 = .ok (.aload_n 0, 1) := by decide +kernel
theorem dX9_words_43 : decode cX9_words 43 = .ok (.getfield 58, 3) := by decide +kernel
theorem dX9_words_46 : decode cX9_words 46 = .ok (.getfield 222, 3) := by decide +kernel
theorem dX9_words_49 : decode cX9_words 49 = .ok (.iload_n 2, 1) := by decide +kernel
theorem dX9_words_50 : decode cX9_words 50 = .ok (.iaload, 1) := by decide +kernel
theorem dX9_words_51 : decode cX9_words 51 = .ok (.iconst 3, 1) := by decide +kernel
theorem dX9_words_52 : decode cX9_words 52 = .ok (.if_icmp .ne 18, 3) := by decide +kernel
theorem dX9_words_55 : decode cX9_words 55 = .ok (.iload_n 1, 1) := by decide +kernel
theorem dX9_words_56 : decode cX9_words 56 = .ok (.aload_n 0, 1) := by decide +kernel
theorem dX9_words_57 : decode cX9_words 57 = .ok (.getfield 49, 3) := by decide +kernel
theorem dX9_words_60 : decode cX9_words 60 = .ok (.iload_n 2, 1) := by decide +kernel
theorem dX9_words_61 : decode cX9_words 61 = .ok (.aload_n 0, 1) := by decide +kernel
theorem dX9_words_62 : decode cX9_words 62 = .ok (.getfield 79, 3) := by decide +kernel
theorem dX9_words_65 : decode cX9_words 65 = .ok (.invokevirtual 248, 3) := by decide +kernel
theorem dX9_words_68 : decode cX9_words 68 = .ok (.ior, 1) := by decide +kernel
theorem dX9_words_69 : decode cX9_words 69 = .ok (.istore_n 1, 1) := by decide +kernel
theorem dX9_words_70 : decode cX9_words 70 = .ok (.iinc 2 1, 3) := by decide +kernel
theorem dX9_words_73 : decode cX9_words 73 = .ok (.goto (-54), 3) := by decide +kernel
theorem dX9_words_76 : decode cX9_words 76 = .ok (.iload_n 1, 1) := by decide +kernel
theorem dX9_words_77 : decode cX9_words 77 = .ok (.ireturn, 1) := by decide +kernel
theorem dX9_go_0 : decode cX9_go 0 = .ok (.iload_n 1, 1) := by decide +kernel
theorem dX9_go_1 : decode cX9_go 1 = .ok (.iconst 0, 1) := by decide +kernel
theorem dX9_go_2 : decode cX9_go 2 = .ok (.bipush 100, 2) := by decide +kernel
theorem dX9_go_4 : decode cX9_go 4 = .ok (.invokestatic 91, 3) := by decide +kernel
theorem dX9_go_7 : decode cX9_go 7 = .ok (.ifCond .eq 7, 3) := by decide +kernel
theorem dX9_go_10 : decode cX9_go 10 = .ok (.sipush (-1002), 3) := by decide +kernel
theorem dX9_go_13 : decode cX9_go 13 = .ok (.ireturn, 1) := by decide +kernel
theorem dX9_go_14 : decode cX9_go 14 = .ok (.aload_n 0, 1) := by decide +kernel
theorem dX9_go_15 : decode cX9_go 15 = .ok (.getfield 83, 3) := by decide +kernel
theorem dX9_go_18 : decode cX9_go 18 = .ok (.iload_n 1, 1) := by decide +kernel
theorem dX9_go_19 : decode cX9_go 19 = .ok (.iadd, 1) := by decide +kernel
theorem dX9_go_20 : decode cX9_go 20 = .ok (.sipush 240, 3) := by decide +kernel
theorem dX9_go_23 : decode cX9_go 23 = .ok (.if_icmp .le 7, 3) := by decide +kernel
theorem dX9_go_26 : decode cX9_go 26 = .ok (.sipush (-1003), 3) := by decide +kernel
theorem dX9_go_29 : decode cX9_go 29 = .ok (.ireturn, 1) := by decide +kernel
theorem dX9_go_30 : decode cX9_go 30 = .ok (.aload_n 0, 1) := by decide +kernel
theorem dX9_go_31 : decode cX9_go 31 = .ok (.getfield 58, 3) := by decide +kernel
theorem dX9_go_34 : decode cX9_go 34 = .ok (.aload_n 0, 1) := by decide +kernel
theorem dX9_go_35 : decode cX9_go 35 = .ok (.getfield 83, 3) := by decide +kernel
theorem dX9_go_38 : decode cX9_go 38 = .ok (.iload_n 1, 1) := by decide +kernel
theorem dX9_go_39 : decode cX9_go 39 = .ok (.iconst 0, 1) := by decide +kernel
theorem dX9_go_40 : decode cX9_go 40 = .ok (.invokevirtual 252, 3) := by decide +kernel
theorem dX9_go_43 : decode cX9_go 43 = .ok (.istore_n 2, 1) := by decide +kernel
theorem dX9_go_44 : decode cX9_go 44 = .ok (.aload_n 0, 1) := by decide +kernel
theorem dX9_go_45 : decode cX9_go 45 = .ok (.dup, 1) := by decide +kernel
theorem dX9_go_46 : decode cX9_go 46 = .ok (.getfield 83, 3) := by decide +kernel
theorem dX9_go_49 : decode cX9_go 49 = .ok (.iload_n 1, 1) := by decide +kernel
theorem dX9_go_50 : decode cX9_go 50 = .ok (.iadd, 1) := by decide +kernel
theorem dX9_go_51 : decode cX9_go 51 = .ok (.putfield 83, 3) := by decide +kernel
theorem dX9_go_54 : decode cX9_go 54 = .ok (.iload_n 2, 1) := by decide +kernel
theorem dX9_go_55 : decode cX9_go 55 = .ok (.ireturn, 1) := by decide +kernel
theorem dX9_leave_0 : decode cX9_leave 0 = .ok (.iload_n 1, 1) := by decide +kernel
theorem dX9_leave_1 : decode cX9_leave 1 = .ok (.iconst 0, 1) := by decide +kernel
theorem dX9_leave_2 : decode cX9_leave 2 = .ok (.bipush 7, 2) := by decide +kernel
theorem dX9_leave_4 : decode cX9_leave 4 = .ok (.invokestatic 91, 3) := by decide +kernel
theorem dX9_leave_7 : decode cX9_leave 7 = .ok (.ifCond .ne 18, 3) := by decide +kernel
theorem dX9_leave_10 : decode cX9_leave 10 = .ok (.iload_n 2, 1) := by decide +kernel
theorem dX9_leave_11 : decode cX9_leave 11 = .ok (.iconst 0, 1) := by decide +kernel
theorem dX9_leave_12 : decode cX9_leave 12 = .ok (.bipush 7, 2) := by decide +kernel
theorem dX9_leave_14 : decode cX9_leave 14 = .ok (.invokestatic 91, 3) := by decide +kernel
theorem dX9_leave_17 : decode cX9_leave 17 = .ok (.ifCond .ne 8, 3) := by decide +kernel
theorem dX9_leave_20 : decode cX9_leave 20 = .ok (.iload_n 1, 1) := by decide +kernel
theorem dX9_leave_21 : decode cX9_leave 21 = .ok (.iload_n 2, 1) := by decide +kernel
theorem dX9_leave_22 : decode cX9_leave 22 = .ok (.if_icmp .ne 7, 3) := by decide +kernel
theorem dX9_leave_25 : decode cX9_leave 25 = .ok (.sipush (-1002), 3) := by decide +kernel
theorem dX9_leave_28 : decode cX9_leave 28 = .ok (.ireturn, 1) := by decide +kernel
theorem dX9_leave_29 : decode cX9_leave 29 = .ok (.iload_n 3, 1) := by decide +kernel
theorem dX9_leave_30 : decode cX9_leave 30 = .ok (.iconst 0, 1) := by decide +kernel
theorem dX9_leave_31 : decode cX9_leave 31 = .ok (.sipush 240, 3) := by decide +kernel
theorem dX9_leave_34 : decode cX9_leave 34 = .ok (.invokestatic 91, 3) := by decide +kernel
theorem dX9_leave_37 : decode cX9_leave 37 = .ok (.ifCond .ne 15, 3) := by decide +kernel
theorem dX9_leave_40 : decode cX9_leave 40 = .ok (.iload 4, 2) := by decide +kernel
theorem dX9_leave_42 : decode cX9_leave 42 = .ok (.iload_n 3, 1) := by decide +kernel
theorem dX9_leave_43 : decode cX9_leave 43 = .ok (.sipush 240, 3) := by decide +kernel
theorem dX9_leave_46 : decode cX9_leave 46 = .ok (.invokestatic 91, 3) := by decide +kernel
theorem dX9_leave_49 : decode cX9_leave 49 = .ok (.ifCond .eq 7, 3) := by decide +kernel
theorem dX9_leave_52 : decode cX9_leave 52 = .ok (.sipush (-1002), 3) := by decide +kernel
theorem dX9_leave_55 : decode cX9_leave 55 = .ok (.ireturn, 1) := by decide +kernel
theorem dX9_leave_56 : decode cX9_leave 56 = .ok (.aload_n 0, 1) := by decide +kernel
theorem dX9_leave_57 : decode cX9_leave 57 = .ok (.getfield 68, 3) := by decide +kernel
theorem dX9_leave_60 : decode cX9_leave 60 = .ok (.getfield 161, 3) := by decide +kernel
theorem dX9_leave_63 : decode cX9_leave 63 = .ok (.bipush 24, 2) := by decide +kernel
theorem dX9_leave_65 : decode cX9_leave 65 = .ok (.if_icmp .lt 7, 3) := by decide +kernel
theorem dX9_leave_68 : decode cX9_leave 68 = .ok (.sipush (-1004), 3) := by decide +kernel
theorem dX9_leave_71 : decode cX9_leave 71 = .ok (.ireturn, 1) := by decide +kernel
theorem dX9_leave_72 : decode cX9_leave 72 = .ok (.aload_n 0, 1) := by decide +kernel
theorem dX9_leave_73 : decode cX9_leave 73 = .ok (.getfield 68, 3) := by decide +kernel
theorem dX9_leave_76 : decode cX9_leave 76 = .ok (.iload_n 1, 1) := by decide +kernel
theorem dX9_leave_77 : decode cX9_leave 77 = .ok (.iload_n 2, 1) := by decide +kernel
theorem dX9_leave_78 : decode cX9_leave 78 = .ok (.iload_n 3, 1) := by decide +kernel
theorem dX9_leave_79 : decode cX9_leave 79 = .ok (.iload 4, 2) := by decide +kernel
theorem dX9_leave_81 : decode cX9_leave 81 = .ok (.iload 5, 2) := by decide +kernel
theorem dX9_leave_83 : decode cX9_leave 83 = .ok (.invokevirtual 256, 3) := by decide +kernel
theorem dX9_leave_86 : decode cX9_leave 86 = .ok (.ireturn, 1) := by decide +kernel
theorem dX9_binds_0 : decode cX9_binds 0 = .ok (.iload_n 1, 1) := by decide +kernel
theorem dX9_binds_1 : decode cX9_binds 1 = .ok (.iconst 0, 1) := by decide +kernel
theorem dX9_binds_2 : decode cX9_binds 2 = .ok (.sipush 255, 3) := by decide +kernel
theorem dX9_binds_5 : decode cX9_binds 5 = .ok (.invokestatic 91, 3) := by decide +kernel
theorem dX9_binds_8 : decode cX9_binds 8 = .ok (.ifCond .eq 7, 3) := by decide +kernel
theorem dX9_binds_11 : decode cX9_binds 11 = .ok (.sipush (-1002), 3) := by decide +kernel
theorem dX9_binds_14 : decode cX9_binds 14 = .ok (.ireturn, 1) := by decide +kernel
theorem dX9_binds_15 : decode cX9_binds 15 = .ok (.iload_n 2, 1) := by decide +kernel
theorem dX9_binds_16 : decode cX9_binds 16 = .ok (.iconst 0, 1) := by decide +kernel
theorem dX9_binds_17 : decode cX9_binds 17 = .ok (.sipush 240, 3) := by decide +kernel
theorem dX9_binds_20 : decode cX9_binds 20 = .ok (.invokestatic 91, 3) := by decide +kernel
theorem dX9_binds_23 : decode cX9_binds 23 = .ok (.ifCond .ne 13, 3) := by decide +kernel
theorem dX9_binds_26 : decode cX9_binds 26 = .ok (.iload_n 3, 1) := by decide +kernel
theorem dX9_binds_27 : decode cX9_binds 27 = .ok (.iconst 0, 1) := by decide +kernel
theorem dX9_binds_28 : decode cX9_binds 28 = .ok (.bipush 7, 2) := by decide +kernel
theorem dX9_binds_30 : decode cX9_binds 30 = .ok (.invokestatic 91, 3) := by decide +kernel
theorem dX9_binds_33 : decode cX9_binds 33 = .ok (.ifCond .eq 7, 3) := by decide +kernel
theorem dX9_binds_36 : decode cX9_binds 36 = .ok (.sipush (-1002), 3) := by decide +kernel
theorem dX9_binds_39 : decode cX9_binds 39 = .ok (.ireturn, 1) := by decide +kernel
theorem dX9_binds_40 : decode cX9_binds 40 = .ok (.aload_n 0, 1) := by decide +kernel
theorem dX9_binds_41 : decode cX9_binds 41 = .ok (.getfield 68, 3) := by decide +kernel
theorem dX9_binds_44 : decode cX9_binds 44 = .ok (.iload_n 1, 1) := by decide +kernel
theorem dX9_binds_45 : decode cX9_binds 45 = .ok (.iload_n 2, 1) := by decide +kernel
theorem dX9_binds_46 : decode cX9_binds 46 = .ok (.iconst 1, 1) := by decide +kernel
theorem dX9_binds_47 : decode cX9_binds 47 = .ok (.invokevirtual 259, 3) := by decide +kernel
theorem dX9_binds_50 : decode cX9_binds 50 = .ok (.iload_n 3, 1) := by decide +kernel
theorem dX9_binds_51 : decode cX9_binds 51 = .ok (.invokestatic 262, 3) := by decide +kernel
theorem dX9_binds_54 : decode cX9_binds 54 = .ok (.ifCond .eq 5, 3) := by decide +kernel
theorem dX9_binds_57 : decode cX9_binds 57 = .ok (.iconst 2, 1) := by decide +kernel
theorem dX9_binds_58 : decode cX9_binds 58 = .ok (.ireturn, 1) := by decide +kernel
theorem dX9_binds_59 : decode cX9_binds 59 = .ok (.aload_n 0, 1) := by decide +kernel
theorem dX9_binds_60 : decode cX9_binds 60 = .ok (.getfield 68, 3) := by decide +kernel
theorem dX9_binds_63 : decode cX9_binds 63 = .ok (.iload_n 1, 1) := by decide +kernel
theorem dX9_binds_64 : decode cX9_binds 64 = .ok (.iload_n 2, 1) := by decide +kernel
theorem dX9_binds_65 : decode cX9_binds 65 = .ok (.iconst 0, 1) := by decide +kernel
theorem dX9_binds_66 : decode cX9_binds 66 = .ok (.invokevirtual 259, 3) := by decide +kernel
theorem dX9_binds_69 : decode cX9_binds 69 = .ok (.iload_n 3, 1) := by decide +kernel
theorem dX9_binds_70 : decode cX9_binds 70 = .ok (.invokestatic 262, 3) := by decide +kernel
theorem dX9_binds_73 : decode cX9_binds 73 = .ok (.ifCond .eq 7, 3) := by decide +kernel
theorem dX9_binds_76 : decode cX9_binds 76 = .ok (.iconst 1, 1) := by decide +kernel
theorem dX9_binds_77 : decode cX9_binds 77 = .ok (.goto 4, 3) := by decide +kernel
theorem dX9_binds_80 : decode cX9_binds 80 = .ok (.iconst 0, 1) := by decide +kernel
theorem dX9_binds_81 : decode cX9_binds 81 = .ok (.ireturn, 1) := by decide +kernel
theorem dX9_last_0 : decode cX9_last 0 = .ok (.iload_n 1, 1) := by decide +kernel
theorem dX9_last_1 : decode cX9_last 1 = .ok (.invokestatic 116, 3) := by decide +kernel
theorem dX9_last_4 : decode cX9_last 4 = .ok (.ifCond .eq 7, 3) := by decide +kernel
theorem dX9_last_7 : decode cX9_last 7 = .ok (.sipush (-1001), 3) := by decide +kernel
theorem dX9_last_10 : decode cX9_last 10 = .ok (.ireturn, 1) := by decide +kernel
theorem dX9_last_11 : decode cX9_last 11 = .ok (.aload_n 0, 1) := by decide +kernel
theorem dX9_last_12 : decode cX9_last 12 = .ok (.iconst 1, 1) := by decide +kernel
theorem dX9_last_13 : decode cX9_last 13 = .ok (.iload_n 1, 1) := by decide +kernel
theorem dX9_last_14 : decode cX9_last 14 = .ok (.ishl, 1) := by decide +kernel
theorem dX9_last_15 : decode cX9_last 15 = .ok (.invokevirtual 265, 3) := by decide +kernel
theorem dX9_last_18 : decode cX9_last 18 = .ok (.ireturn, 1) := by decide +kernel
theorem dX9_lending_0 : decode cX9_lending 0 = .ok (.iload_n 1, 1) := by decide +kernel
theorem dX9_lending_1 : decode cX9_lending 1 = .ok (.iconst 0, 1) := by decide +kernel
theorem dX9_lending_2 : decode cX9_lending 2 = .ok (.bipush 63, 2) := by decide +kernel
theorem dX9_lending_4 : decode cX9_lending 4 = .ok (.invokestatic 91, 3) := by decide +kernel
theorem dX9_lending_7 : decode cX9_lending 7 = .ok (.ifCond .eq 7, 3) := by decide +kernel
theorem dX9_lending_10 : decode cX9_lending 10 = .ok (.sipush (-1001), 3) := by decide +kernel
theorem dX9_lending_13 : decode cX9_lending 13 = .ok (.ireturn, 1) := by decide +kernel
theorem dX9_lending_14 : decode cX9_lending 14 = .ok (.aload_n 0, 1) := by decide +kernel
theorem dX9_lending_15 : decode cX9_lending 15 = .ok (.iload_n 1, 1) := by decide +kernel
theorem dX9_lending_16 : decode cX9_lending 16 = .ok (.invokevirtual 265, 3) := by decide +kernel
theorem dX9_lending_19 : decode cX9_lending 19 = .ok (.ireturn, 1) := by decide +kernel
theorem dX9_table_0 : decode cX9_table 0 = .ok (.iload_n 1, 1) := by decide +kernel
theorem dX9_table_1 : decode cX9_table 1 = .ok (.iconst 0, 1) := by decide +kernel
theorem dX9_table_2 : decode cX9_table 2 = .ok (.iconst 2, 1) := by decide +kernel
theorem dX9_table_3 : decode cX9_table 3 = .ok (.invokestatic 91, 3) := by decide +kernel
theorem dX9_table_6 : decode cX9_table 6 = .ok (.ifCond .ne 12, 3) := by decide +kernel
theorem dX9_table_9 : decode cX9_table 9 = .ok (.iload_n 2, 1) := by decide +kernel
theorem dX9_table_10 : decode cX9_table 10 = .ok (.iconst 0, 1) := by decide +kernel
theorem dX9_table_11 : decode cX9_table 11 = .ok (.iconst 2, 1) := by decide +kernel
theorem dX9_table_12 : decode cX9_table 12 = .ok (.invokestatic 91, 3) := by decide +kernel
theorem dX9_table_15 : decode cX9_table 15 = .ok (.ifCond .eq 7, 3) := by decide +kernel
theorem dX9_table_18 : decode cX9_table 18 = .ok (.sipush (-1002), 3) := by decide +kernel
theorem dX9_table_21 : decode cX9_table 21 = .ok (.ireturn, 1) := by decide +kernel
theorem dX9_table_22 : decode cX9_table 22 = .ok (.iload_n 3, 1) := by decide +kernel
theorem dX9_table_23 : decode cX9_table 23 = .ok (.bipush (-99), 2) := by decide +kernel
theorem dX9_table_25 : decode cX9_table 25 = .ok (.bipush 99, 2) := by decide +kernel
theorem dX9_table_27 : decode cX9_table 27 = .ok (.invokestatic 91, 3) := by decide +kernel
theorem dX9_table_30 : decode cX9_table 30 = .ok (.ifCond .eq 7, 3) := by decide +kernel
theorem dX9_table_33 : decode cX9_table 33 = .ok (.sipush (-1002), 3) := by decide +kernel
theorem dX9_table_36 : decode cX9_table 36 = .ok (.ireturn, 1) := by decide +kernel
theorem dX9_table_37 : decode cX9_table 37 = .ok (.aload_n 0, 1) := by decide +kernel
theorem dX9_table_38 : decode cX9_table 38 = .ok (.getfield 75, 3) := by decide +kernel
theorem dX9_table_41 : decode cX9_table 41 = .ok (.getfield 268, 3) := by decide +kernel
theorem dX9_table_44 : decode cX9_table 44 = .ok (.iload_n 1, 1) := by decide +kernel
theorem dX9_table_45 : decode cX9_table 45 = .ok (.iconst 3, 1) := by decide +kernel
theorem dX9_table_46 : decode cX9_table 46 = .ok (.imul, 1) := by decide +kernel
theorem dX9_table_47 : decode cX9_table 47 = .ok (.iload_n 2, 1) := by decide +kernel
theorem dX9_table_48 : decode cX9_table 48 = .ok (.iadd, 1) := by decide +kernel
theorem dX9_table_49 : decode cX9_table 49 = .ok (.iaload, 1) := by decide +kernel
theorem dX9_table_50 : decode cX9_table 50 = .ok (.istore 4, 2) := by decide +kernel
theorem dX9_table_52 : decode cX9_table 52 = .ok (.aload_n 0, 1) := by decide +kernel
theorem dX9_table_53 : decode cX9_table 53 = .ok (.getfield 75, 3) := by decide +kernel
theorem dX9_table_56 : decode cX9_table 56 = .ok (.getfield 268, 3) := by decide +kernel
theorem dX9_table_59 : decode cX9_table 59 = .ok (.iload_n 1, 1) := by decide +kernel
theorem dX9_table_60 : decode cX9_table 60 = .ok (.iconst 3, 1) := by decide +kernel
theorem dX9_table_61 : decode cX9_table 61 = .ok (.imul, 1) := by decide +kernel
theorem dX9_table_62 : decode cX9_table 62 = .ok (.iload_n 2, 1) := by decide +kernel
theorem dX9_table_63 : decode cX9_table 63 = .ok (.iadd, 1) := by decide +kernel
theorem dX9_table_64 : decode cX9_table 64 = .ok (.iload_n 3, 1) := by decide +kernel
theorem dX9_table_65 : decode cX9_table 65 = .ok (.iastore, 1) := by decide +kernel
theorem dX9_table_66 : decode cX9_table 66 = .ok (.iload 4, 2) := by decide +kernel
theorem dX9_table_68 : decode cX9_table 68 = .ok (.ireturn, 1) := by decide +kernel
theorem dX9_game_0 : decode cX9_game 0 = .ok (.iload_n 1, 1) := by decide +kernel
theorem dX9_game_1 : decode cX9_game 1 = .ok (.iconst 1, 1) := by decide +kernel
theorem dX9_game_2 : decode cX9_game 2 = .ok (.bipush 6, 2) := by decide +kernel
theorem dX9_game_4 : decode cX9_game 4 = .ok (.invokestatic 91, 3) := by decide +kernel
theorem dX9_game_7 : decode cX9_game 7 = .ok (.ifCond .ne 23, 3) := by decide +kernel
theorem dX9_game_10 : decode cX9_game 10 = .ok (.iload_n 2, 1) := by decide +kernel
theorem dX9_game_11 : decode cX9_game 11 = .ok (.iconst 1, 1) := by decide +kernel
theorem dX9_game_12 : decode cX9_game 12 = .ok (.sipush 999, 3) := by decide +kernel
theorem dX9_game_15 : decode cX9_game 15 = .ok (.invokestatic 91, 3) := by decide +kernel
theorem dX9_game_18 : decode cX9_game 18 = .ok (.ifCond .ne 12, 3) := by decide +kernel
theorem dX9_game_21 : decode cX9_game 21 = .ok (.iload_n 3, 1) := by decide +kernel
theorem dX9_game_22 : decode cX9_game 22 = .ok (.iconst 0, 1) := by decide +kernel
theorem dX9_game_23 : decode cX9_game 23 = .ok (.iconst 1, 1) := by decide +kernel
theorem dX9_game_24 : decode cX9_game 24 = .ok (.invokestatic 91, 3) := by decide +kernel
theorem dX9_game_27 : decode cX9_game 27 = .ok (.ifCond .eq 7, 3) := by decide +kernel
theorem dX9_game_30 : decode cX9_game 30 = .ok (.sipush (-1002), 3) := by decide +kernel
theorem dX9_game_33 : decode cX9_game 33 = .ok (.ireturn, 1) := by decide +kernel
theorem dX9_game_34 : decode cX9_game 34 = .ok (.aload_n 0, 1) := by decide +kernel
theorem dX9_game_35 : decode cX9_game 35 = .ok (.getfield 75, 3) := by decide +kernel
theorem dX9_game_38 : decode cX9_game 38 = .ok (.iload_n 1, 1) := by decide +kernel
theorem dX9_game_39 : decode cX9_game 39 = .ok (.iload_n 2, 1) := by decide +kernel
theorem dX9_game_40 : decode cX9_game 40 = .ok (.invokevirtual 271, 3) := by decide +kernel
theorem dX9_game_43 : decode cX9_game 43 = .ok (.iload_n 3, 1) := by decide +kernel
theorem dX9_game_44 : decode cX9_game 44 = .ok (.ifCond .ne 13, 3) := by decide +kernel
theorem dX9_game_47 : decode cX9_game 47 = .ok (.aload_n 0, 1) := by decide +kernel
theorem dX9_game_48 : decode cX9_game 48 = .ok (.getfield 75, 3) := by decide +kernel
theorem dX9_game_51 : decode cX9_game 51 = .ok (.getfield 275, 3) := by decide +kernel
theorem dX9_game_54 : decode cX9_game 54 = .ok (.goto 10, 3) := by decide +kernel
theorem dX9_game_57 : decode cX9_game 57 = .ok (.aload_n 0, 1) := by decide +kernel
theorem dX9_game_58 : decode cX9_game 58 = .ok (.getfield 75, 3) := by decide +kernel
theorem dX9_game_61 : decode cX9_game 61 = .ok (.getfield 278, 3) := by decide +kernel
theorem dX9_game_64 : decode cX9_game 64 = .ok (.ireturn, 1) := by decide +kernel
theorem dX9_judge_0 : decode cX9_judge 0 = .ok (.iload_n 1, 1) := by decide +kernel
theorem dX9_judge_1 : decode cX9_judge 1 = .ok (.iconst 1, 1) := by decide +kernel
theorem dX9_judge_2 : decode cX9_judge 2 = .ok (.bipush 6, 2) := by decide +kernel
theorem dX9_judge_4 : decode cX9_judge 4 = .ok (.invokestatic 91, 3) := by decide +kernel
theorem dX9_judge_7 : decode cX9_judge 7 = .ok (.ifCond .ne 14, 3) := by decide +kernel
theorem dX9_judge_10 : decode cX9_judge 10 = .ok (.iload_n 2, 1) := by decide +kernel
theorem dX9_judge_11 : decode cX9_judge 11 = .ok (.iconst 1, 1) := by decide +kernel
theorem dX9_judge_12 : decode cX9_judge 12 = .ok (.sipush 999, 3) := by decide +kernel
theorem dX9_judge_15 : decode cX9_judge 15 = .ok (.invokestatic 91, 3) := by decide +kernel
theorem dX9_judge_18 : decode cX9_judge 18 = .ok (.ifCond .eq 7, 3) := by decide +kernel
theorem dX9_judge_21 : decode cX9_judge 21 = .ok (.sipush (-1002), 3) := by decide +kernel
theorem dX9_judge_24 : decode cX9_judge 24 = .ok (.ireturn, 1) := by decide +kernel
theorem dX9_judge_25 : decode cX9_judge 25 = .ok (.iload_n 3, 1) := by decide +kernel
theorem dX9_judge_26 : decode cX9_judge 26 = .ok (.iconst 0, 1) := by decide +kernel
theorem dX9_judge_27 : decode cX9_judge 27 = .ok (.iload_n 1, 1) := by decide +kernel
theorem dX9_judge_28 : decode cX9_judge 28 = .ok (.invokestatic 281, 3) := by decide +kernel
theorem dX9_judge_31 : decode cX9_judge 31 = .ok (.iconst 1, 1) := by decide +kernel
theorem dX9_judge_32 : decode cX9_judge 32 = .ok (.isub, 1) := by decide +kernel
theorem dX9_judge_33 : decode cX9_judge 33 = .ok (.invokestatic 91, 3) := by decide +kernel
theorem dX9_judge_36 : decode cX9_judge 36 = .ok (.ifCond .eq 7, 3) := by decide +kernel
theorem dX9_judge_39 : decode cX9_judge 39 = .ok (.sipush (-1002), 3) := by decide +kernel
theorem dX9_judge_42 : decode cX9_judge 42 = .ok (.ireturn, 1) := by decide +kernel
theorem dX9_judge_43 : decode cX9_judge 43 = .ok (.aload_n 0, 1) := by decide +kernel
theorem dX9_judge_44 : decode cX9_judge 44 = .ok (.getfield 75, 3) := by decide +kernel
theorem dX9_judge_47 : decode cX9_judge 47 = .ok (.iload_n 1, 1) := by decide +kernel
theorem dX9_judge_48 : decode cX9_judge 48 = .ok (.iload_n 2, 1) := by decide +kernel
theorem dX9_judge_49 : decode cX9_judge 49 = .ok (.iload_n 3, 1) := by decide +kernel
theorem dX9_judge_50 : decode cX9_judge 50 = .ok (.invokevirtual 284, 3) := by decide +kernel
theorem dX9_judge_53 : decode cX9_judge 53 = .ok (.ireturn, 1) := by decide +kernel
theorem dX9_beside_0 : decode cX9_beside 0 = .ok (.aload_n 0, 1) := by decide +kernel
theorem dX9_beside_1 : decode cX9_beside 1 = .ok (.getfield 62, 3) := by decide +kernel
theorem dX9_beside_4 : decode cX9_beside 4 = .ok (.invokevirtual 287, 3) := by decide +kernel
theorem dX9_beside_7 : decode cX9_beside 7 = .ok (.aload_n 0, 1) := by decide +kernel
theorem dX9_beside_8 : decode cX9_beside 8 = .ok (.getfield 62, 3) := by decide +kernel
theorem dX9_beside_11 : decode cX9_beside 11 = .ok (.iconst 0, 1) := by decide +kernel
theorem dX9_beside_12 : decode cX9_beside 12 = .ok (.aload_n 0, 1) := by decide +kernel
theorem dX9_beside_13 : decode cX9_beside 13 = .ok (.getfield 83, 3) := by decide +kernel
theorem dX9_beside_16 : decode cX9_beside 16 = .ok (.iload_n 1, 1) := by decide +kernel
theorem dX9_beside_17 : decode cX9_beside 17 = .ok (.invokevirtual 252, 3) := by decide +kernel
theorem dX9_beside_20 : decode cX9_beside 20 = .ok (.ireturn, 1) := by decide +kernel
theorem dX9_daysPaid_0 : decode cX9_daysPaid 0 = .ok (.iconst 0, 1) := by decide +kernel
theorem dX9_daysPaid_1 : decode cX9_daysPaid 1 = .ok (.istore_n 2, 1) := by decide +kernel
theorem dX9_daysPaid_2 : decode cX9_daysPaid 2 = .ok (.iconst 0, 1) := by decide +kernel
theorem dX9_daysPaid_3 : decode cX9_daysPaid 3 = .ok (.istore_n 3, 1) := by decide +kernel
theorem dX9_daysPaid_4 : decode cX9_daysPaid 4 = .ok (.iconst 0, 1) := by decide +kernel
theorem dX9_daysPaid_5 : decode cX9_daysPaid 5 = .ok (.istore 4, 2) := by decide +kernel
theorem dX9_daysPaid_7 : decode cX9_daysPaid 7 = .ok (.iload 4, 2) := by decide +kernel
theorem dX9_daysPaid_9 : decode cX9_daysPaid 9 = .ok (.bipush 6, 2) := by decide +kernel
theorem dX9_daysPaid_11 : decode cX9_daysPaid 11 = .ok (.if_icmp .ge 69, 3) := by decide +kernel
theorem dX9_daysPaid_14 : decode cX9_daysPaid 14 = .ok (.iload_n 1, 1) := by decide +kernel
theorem dX9_daysPaid_15 : decode cX9_daysPaid 15 = .ok (.iload 4, 2) := by decide +kernel
theorem dX9_daysPaid_17 : decode cX9_daysPaid 17 = .ok (.invokestatic 262, 3) := by decide +kernel
theorem dX9_daysPaid_20 : decode cX9_daysPaid 20 = .ok (.ifCond .ne 6, 3) := by decide +kernel
theorem dX9_daysPaid_23 : decode cX9_daysPaid 23 = .ok (.goto 51, 3) := by decide +kernel
theorem dX9_daysPaid_26 : decode cX9_daysPaid 26 = .ok (.iload_n 3, 1) := by decide +kernel
theorem dX9_daysPaid_27 : decode cX9_daysPaid 27 = .ok (.aload_n 0, 1) := by decide +kernel
theorem dX9_daysPaid_28 : decode cX9_daysPaid 28 = .ok (.getfield 58, 3) := by decide +kernel
theorem dX9_daysPaid_31 : decode cX9_daysPaid 31 = .ok (.getfield 135, 3) := by decide +kernel
theorem dX9_daysPaid_34 : decode cX9_daysPaid 34 = .ok (.iload 4, 2) := by decide +kernel
theorem dX9_daysPaid_36 : decode cX9_daysPaid 36 = .ok (.iaload, 1) := by decide +kernel
theorem dX9_daysPaid_37 : decode cX9_daysPaid 37 = .ok (.iadd, 1) := by decide +kernel
theorem dX9_daysPaid_38 : decode cX9_daysPaid 38 = .ok (.istore_n 3, 1) := by decide +kernel
theorem dX9_daysPaid_39 : decode cX9_daysPaid 39 = .ok (.iconst 0, 1) := by decide +kernel
theorem dX9_daysPaid_40 : decode cX9_daysPaid 40 = .ok (.istore 5, 2) := by decide +kernel
theorem dX9_daysPaid_42 : decode cX9_daysPaid 42 = .ok (.iload 5, 2) := by decide +kernel
theorem dX9_daysPaid_44 : decode cX9_daysPaid 44 = .ok (.bipush 8, 2) := by decide +kernel
theorem dX9_daysPaid_46 : decode cX9_daysPaid 46 = .ok (.if_icmp .ge 28, 3) := by decide +kernel
theorem dX9_daysPaid_49 : decode cX9_daysPaid 49 = .ok (.iload_n 2, 1) := by decide +kernel
theorem dX9_daysPaid_50 : decode cX9_daysPaid 50 = .ok (.aload_n 0, 1) := by decide +kernel
theorem dX9_daysPaid_51 : decode cX9_daysPaid 51 = .ok (.getfield 19, 3) := by decide +kernel
theorem dX9_daysPaid_54 : decode cX9_daysPaid 54 = .ok (.getfield 119, 3) := by decide +kernel
theorem dX9_daysPaid_57 : decode cX9_daysPaid 57 = .ok (.iload 4, 2) := by decide +kernel
theorem dX9_daysPaid_59 : decode cX9_daysPaid 59 = .ok (.bipush 8, 2) := by decide +kernel
theorem dX9_daysPaid_61 : decode cX9_daysPaid 61 = .ok (.imul, 1) := by decide +kernel
theorem dX9_daysPaid_62 : decode cX9_daysPaid 62 = .ok (.iload 5, 2) := by decide +kernel
theorem dX9_daysPaid_64 : decode cX9_daysPaid 64 = .ok (.iadd, 1) := by decide +kernel
theorem dX9_daysPaid_65 : decode cX9_daysPaid 65 = .ok (.iaload, 1) := by decide +kernel
theorem dX9_daysPaid_66 : decode cX9_daysPaid 66 = .ok (.iadd, 1) := by decide +kernel
theorem dX9_daysPaid_67 : decode cX9_daysPaid 67 = .ok (.istore_n 2, 1) := by decide +kernel
theorem dX9_daysPaid_68 : decode cX9_daysPaid 68 = .ok (.iinc 5 1, 3) := by decide +kernel
theorem dX9_daysPaid_71 : decode cX9_daysPaid 71 = .ok (.goto (-29), 3) := by decide +kernel
theorem dX9_daysPaid_74 : decode cX9_daysPaid 74 = .ok (.iinc 4 1, 3) := by decide +kernel
theorem dX9_daysPaid_77 : decode cX9_daysPaid 77 = .ok (.goto (-70), 3) := by decide +kernel
theorem dX9_daysPaid_80 : decode cX9_daysPaid 80 = .ok (.aload_n 0, 1) := by decide +kernel
theorem dX9_daysPaid_81 : decode cX9_daysPaid 81 = .ok (.getfield 35, 3) := by decide +kernel
theorem dX9_daysPaid_84 : decode cX9_daysPaid 84 = .ok (.aload_n 0, 1) := by decide +kernel
theorem dX9_daysPaid_85 : decode cX9_daysPaid 85 = .ok (.getfield 83, 3) := by decide +kernel
theorem dX9_daysPaid_88 : decode cX9_daysPaid 88 = .ok (.aload_n 0, 1) := by decide +kernel
theorem dX9_daysPaid_89 : decode cX9_daysPaid 89 = .ok (.getfield 79, 3) := by decide +kernel
theorem dX9_daysPaid_92 : decode cX9_daysPaid 92 = .ok (.invokevirtual 211, 3) := by decide +kernel
theorem dX9_daysPaid_95 : decode cX9_daysPaid 95 = .ok (.iload_n 2, 1) := by decide +kernel
theorem dX9_daysPaid_96 : decode cX9_daysPaid 96 = .ok (.aload_n 0, 1) := by decide +kernel
theorem dX9_daysPaid_97 : decode cX9_daysPaid 97 = .ok (.getfield 79, 3) := by decide +kernel
theorem dX9_daysPaid_100 : decode cX9_daysPaid 100 = .ok (.iconst 3, 1) := by decide +kernel
theorem dX9_daysPaid_101 : decode cX9_daysPaid 101 = .ok (.iaload, 1) := by decide +kernel
theorem dX9_daysPaid_102 : decode cX9_daysPaid 102 = .ok (.imul, 1) := by decide +kernel
theorem dX9_daysPaid_103 : decode cX9_daysPaid 103 = .ok (.istore 4, 2) := by decide +kernel
theorem dX9_daysPaid_105 : decode cX9_daysPaid 105 = .ok (.iload 4, 2) := by decide +kernel
theorem dX9_daysPaid_107 : decode cX9_daysPaid 107 = .ok (.ifCond .gt 9, 3) := by decide +kernel
theorem dX9_daysPaid_110 : decode cX9_daysPaid 110 = .ok (.sipush 999, 3) := by decide +kernel
theorem dX9_daysPaid_113 : decode cX9_daysPaid 113 = .ok (.goto 13, 3) := by decide +kernel
theorem dX9_daysPaid_116 : decode cX9_daysPaid 116 = .ok (.sipush 999, 3) := by decide +kernel
theorem dX9_daysPaid_119 : decode cX9_daysPaid 119 = .ok (.iload_n 3, 1) := by decide +kernel
theorem dX9_daysPaid_120 : decode cX9_daysPaid 120 = .ok (.iload 4, 2) := by decide +kernel
theorem dX9_daysPaid_122 : decode cX9_daysPaid 122 = .ok (.idiv, 1) := by decide +kernel
theorem dX9_daysPaid_123 : decode cX9_daysPaid 123 = .ok (.invokestatic 125, 3) := by decide +kernel
theorem dX9_daysPaid_126 : decode cX9_daysPaid 126 = .ok (.ireturn, 1) := by decide +kernel
theorem dX9_beyond_0 : decode cX9_beyond 0 = .ok (.iload_n 0, 1) := by decide +kernel
theorem dX9_beyond_1 : decode cX9_beyond 1 = .ok (.iload_n 1, 1) := by decide +kernel
theorem dX9_beyond_2 : decode cX9_beyond 2 = .ok (.if_icmp .lt 8, 3) := by decide +kernel
theorem dX9_beyond_5 : decode cX9_beyond 5 = .ok (.iload_n 0, 1) := by decide +kernel
theorem dX9_beyond_6 : decode cX9_beyond 6 = .ok (.iload_n 2, 1) := by decide +kernel
theorem dX9_beyond_7 : decode cX9_beyond 7 = .ok (.if_icmp .le 7, 3) := by decide +kernel
theorem dX9_beyond_10 : decode cX9_beyond 10 = .ok (.iconst 1, 1) := by decide +kernel
theorem dX9_beyond_11 : decode cX9_beyond 11 = .ok (.goto 4, 3) := by decide +kernel
theorem dX9_beyond_14 : decode cX9_beyond 14 = .ok (.iconst 0, 1) := by decide +kernel
theorem dX9_beyond_15 : decode cX9_beyond 15 = .ok (.ireturn, 1) := by decide +kernel
theorem dX9_noNumber_0 : decode cX9_noNumber 0 = .ok (.iload_n 0, 1) := by decide +kernel
theorem dX9_noNumber_1 : decode cX9_noNumber 1 = .ok (.ifCond .lt 8, 3) := by decide +kernel
theorem dX9_noNumber_4 : decode cX9_noNumber 4 = .ok (.iload_n 0, 1) := by decide +kernel
theorem dX9_noNumber_5 : decode cX9_noNumber 5 = .ok (.iload_n 1, 1) := by decide +kernel
theorem dX9_noNumber_6 : decode cX9_noNumber 6 = .ok (.if_icmp .lt 7, 3) := by decide +kernel
theorem dX9_noNumber_9 : decode cX9_noNumber 9 = .ok (.iconst 1, 1) := by decide +kernel
theorem dX9_noNumber_10 : decode cX9_noNumber 10 = .ok (.goto 4, 3) := by decide +kernel
theorem dX9_noNumber_13 : decode cX9_noNumber 13 = .ok (.iconst 0, 1) := by decide +kernel
theorem dX9_noNumber_14 : decode cX9_noNumber 14 = .ok (.ireturn, 1) := by decide +kernel
theorem dX9_noTown_0 : decode cX9_noTown 0 = .ok (.iload_n 0, 1) := by decide +kernel
theorem dX9_noTown_1 : decode cX9_noTown 1 = .ok (.bipush 8, 2) := by decide +kernel
theorem dX9_noTown_3 : decode cX9_noTown 3 = .ok (.invokestatic 169, 3) := by decide +kernel
theorem dX9_noTown_6 : decode cX9_noTown 6 = .ok (.ireturn, 1) := by decide +kernel
theorem dX9_noUnion_0 : decode cX9_noUnion 0 = .ok (.iload_n 0, 1) := by decide +kernel
theorem dX9_noUnion_1 : decode cX9_noUnion 1 = .ok (.bipush 6, 2) := by decide +kernel
theorem dX9_noUnion_3 : decode cX9_noUnion 3 = .ok (.invokestatic 169, 3) := by decide +kernel
theorem dX9_noUnion_6 : decode cX9_noUnion 6 = .ok (.ireturn, 1) := by decide +kernel
theorem dX9_noGood_0 : decode cX9_noGood 0 = .ok (.iload_n 0, 1) := by decide +kernel
theorem dX9_noGood_1 : decode cX9_noGood 1 = .ok (.iconst 3, 1) := by decide +kernel
theorem dX9_noGood_2 : decode cX9_noGood 2 = .ok (.invokestatic 169, 3) := by decide +kernel
theorem dX9_noGood_5 : decode cX9_noGood 5 = .ok (.ireturn, 1) := by decide +kernel
theorem dX9_has_0 : decode cX9_has 0 = .ok (.iload_n 0, 1) := by decide +kernel
theorem dX9_has_1 : decode cX9_has 1 = .ok (.iload_n 1, 1) := by decide +kernel
theorem dX9_has_2 : decode cX9_has 2 = .ok (.ishr, 1) := by decide +kernel
theorem dX9_has_3 : decode cX9_has 3 = .ok (.iconst 1, 1) := by decide +kernel
theorem dX9_has_4 : decode cX9_has 4 = .ok (.iand, 1) := by decide +kernel
theorem dX9_has_5 : decode cX9_has 5 = .ok (.iconst 1, 1) := by decide +kernel
theorem dX9_has_6 : decode cX9_has 6 = .ok (.if_icmp .ne 7, 3) := by decide +kernel
theorem dX9_has_9 : decode cX9_has 9 = .ok (.iconst 1, 1) := by decide +kernel
theorem dX9_has_10 : decode cX9_has 10 = .ok (.goto 4, 3) := by decide +kernel
theorem dX9_has_13 : decode cX9_has 13 = .ok (.iconst 0, 1) := by decide +kernel
theorem dX9_has_14 : decode cX9_has 14 = .ok (.ireturn, 1) := by decide +kernel
theorem dX9_sum_0 : decode cX9_sum 0 = .ok (.iconst 0, 1) := by decide +kernel
theorem dX9_sum_1 : decode cX9_sum 1 = .ok (.istore_n 1, 1) := by decide +kernel
theorem dX9_sum_2 : decode cX9_sum 2 = .ok (.aload_n 0, 1) := by decide +kernel
theorem dX9_sum_3 : decode cX9_sum 3 = .ok (.astore_n 2, 1) := by decide +kernel
theorem dX9_sum_4 : decode cX9_sum 4 = .ok (.aload_n 2, 1) := by decide +kernel
theorem dX9_sum_5 : decode cX9_sum 5 = .ok (.arraylength, 1) := by decide +kernel
theorem dX9_sum_6 : decode cX9_sum 6 = .ok (.istore_n 3, 1) := by decide +kernel
theorem dX9_sum_7 : decode cX9_sum 7 = .ok (.iconst 0, 1) := by decide +kernel
theorem dX9_sum_8 : decode cX9_sum 8 = .ok (.istore 4, 2) := by decide +kernel
theorem dX9_sum_10 : decode cX9_sum 10 = .ok (.iload 4, 2) := by decide +kernel
theorem dX9_sum_12 : decode cX9_sum 12 = .ok (.iload_n 3, 1) := by decide +kernel
theorem dX9_sum_13 : decode cX9_sum 13 = .ok (.if_icmp .ge 20, 3) := by decide +kernel
theorem dX9_sum_16 : decode cX9_sum 16 = .ok (.aload_n 2, 1) := by decide +kernel
theorem dX9_sum_17 : decode cX9_sum 17 = .ok (.iload 4, 2) := by decide +kernel
theorem dX9_sum_19 : decode cX9_sum 19 = .ok (.iaload, 1) := by decide +kernel
theorem dX9_sum_20 : decode cX9_sum 20 = .ok (.istore 5, 2) := by decide +kernel
theorem dX9_sum_22 : decode cX9_sum 22 = .ok (.iload_n 1, 1) := by decide +kernel
theorem dX9_sum_23 : decode cX9_sum 23 = .ok (.iload 5, 2) := by decide +kernel
theorem dX9_sum_25 : decode cX9_sum 25 = .ok (.iadd, 1) := by decide +kernel
theorem dX9_sum_26 : decode cX9_sum 26 = .ok (.istore_n 1, 1) := by decide +kernel
theorem dX9_sum_27 : decode cX9_sum 27 = .ok (.iinc 4 1, 3) := by decide +kernel
theorem dX9_sum_30 : decode cX9_sum 30 = .ok (.goto (-20), 3) := by decide +kernel
theorem dX9_sum_33 : decode cX9_sum 33 = .ok (.iload_n 1, 1) := by decide +kernel
theorem dX9_sum_34 : decode cX9_sum 34 = .ok (.ireturn, 1) := by decide +kernel
