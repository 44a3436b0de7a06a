theorem dX10_force_6 : decode cX10_force 6 = .ok (.invokestatic 150, 3) := by decide +kernel
theorem dX10_force_9 : decode cX10_force 9 = .ok (.ifCond .eq 10, 3) := by decide +kernel
theorem dX10_force_12 : decode cX10_force 12 = .ok (.iload_n 2, 1) := by decide +kernel
theorem dX10_force_13 : decode cX10_force 13 = .ok (.invokestatic 218, 3) := by decide +kernel
theorem dX10_force_16 : decode cX10_force 16 = .ok (.ifCond .ne 7, 3) := by decide +kernel
theorem dX10_force_19 : decode cX10_force 19 = .ok (.sipush (-1002), 3) := by decide +kernel
theorem dX10_force_22 : decode cX10_force 22 = .ok (.ireturn, 1) := by decide +kernel
theorem dX10_force_23 : decode cX10_force 23 = .ok (.aload_n 0, 1) := by decide +kernel
theorem dX10_force_24 : decode cX10_force 24 = .ok (.iload_n 2, 1) := by decide +kernel
theorem dX10_force_25 : decode cX10_force 25 = .ok (.invokevirtual 305, 3) := by decide +kernel
theorem dX10_force_28 : decode cX10_force 28 = .ok (.iload_n 1, 1) := by decide +kernel
theorem dX10_force_29 : decode cX10_force 29 = .ok (.iconst 3, 1) := by decide +kernel
theorem dX10_force_30 : decode cX10_force 30 = .ok (.if_icmp .ge 12, 3) := by decide +kernel
theorem dX10_force_33 : decode cX10_force 33 = .ok (.aload_n 0, 1) := by decide +kernel
theorem dX10_force_34 : decode cX10_force 34 = .ok (.getfield 93, 3) := by decide +kernel
theorem dX10_force_37 : decode cX10_force 37 = .ok (.iload_n 1, 1) := by decide +kernel
theorem dX10_force_38 : decode cX10_force 38 = .ok (.iaload, 1) := by decide +kernel
theorem dX10_force_39 : decode cX10_force 39 = .ok (.goto 43, 3) := by decide +kernel
theorem dX10_force_42 : decode cX10_force 42 = .ok (.iload_n 1, 1) := by decide +kernel
theorem dX10_force_43 : decode cX10_force 43 = .ok (.iconst 3, 1) := by decide +kernel
theorem dX10_force_44 : decode cX10_force 44 = .ok (.if_icmp .ne 10, 3) := by decide +kernel
theorem dX10_force_47 : decode cX10_force 47 = .ok (.aload_n 0, 1) := by decide +kernel
theorem dX10_force_48 : decode cX10_force 48 = .ok (.getfield 288, 3) := by decide +kernel
theorem dX10_force_51 : decode cX10_force 51 = .ok (.goto 31, 3) := by decide +kernel
theorem dX10_force_54 : decode cX10_force 54 = .ok (.iload_n 1, 1) := by decide +kernel
theorem dX10_force_55 : decode cX10_force 55 = .ok (.iconst 4, 1) := by decide +kernel
theorem dX10_force_56 : decode cX10_force 56 = .ok (.if_icmp .ne 10, 3) := by decide +kernel
theorem dX10_force_59 : decode cX10_force 59 = .ok (.aload_n 0, 1) := by decide +kernel
theorem dX10_force_60 : decode cX10_force 60 = .ok (.getfield 291, 3) := by decide +kernel
theorem dX10_force_63 : decode cX10_force 63 = .ok (.goto 19, 3) := by decide +kernel
theorem dX10_force_66 : decode cX10_force 66 = .ok (.iload_n 1, 1) := by decide +kernel
theorem dX10_force_67 : decode cX10_force 67 = .ok (.iconst 5, 1) := by decide +kernel
theorem dX10_force_68 : decode cX10_force 68 = .ok (.if_icmp .ne 10, 3) := by decide +kernel
theorem dX10_force_71 : decode cX10_force 71 = .ok (.aload_n 0, 1) := by decide +kernel
theorem dX10_force_72 : decode cX10_force 72 = .ok (.getfield 294, 3) := by decide +kernel
theorem dX10_force_75 : decode cX10_force 75 = .ok (.goto 7, 3) := by decide +kernel
theorem dX10_force_78 : decode cX10_force 78 = .ok (.aload_n 0, 1) := by decide +kernel
theorem dX10_force_79 : decode cX10_force 79 = .ok (.getfield 297, 3) := by decide +kernel
theorem dX10_force_82 : decode cX10_force 82 = .ok (.ireturn, 1) := by decide +kernel
theorem dX10_noLoad_0 : decode cX10_noLoad 0 = .ok (.iload_n 1, 1) := by decide +kernel
theorem dX10_noLoad_1 : decode cX10_noLoad 1 = .ok (.i2l, 1) := by decide +kernel
theorem dX10_noLoad_2 : decode cX10_noLoad 2 = .ok (.lconst 0, 1) := by decide +kernel
theorem dX10_noLoad_3 : decode cX10_noLoad 3 = .ok (.aload_n 0, 1) := by decide +kernel
theorem dX10_noLoad_4 : decode cX10_noLoad 4 = .ok (.getfield 308, 3) := by decide +kernel
theorem dX10_noLoad_7 : decode cX10_noLoad 7 = .ok (.iconst 1, 1) := by decide +kernel
theorem dX10_noLoad_8 : decode cX10_noLoad 8 = .ok (.isub, 1) := by decide +kernel
theorem dX10_noLoad_9 : decode cX10_noLoad 9 = .ok (.i2l, 1) := by decide +kernel
theorem dX10_noLoad_10 : decode cX10_noLoad 10 = .ok (.invokestatic 150, 3) := by decide +kernel
theorem dX10_noLoad_13 : decode cX10_noLoad 13 = .ok (.ifCond .ne 7, 3) := by decide +kernel
theorem dX10_noLoad_16 : decode cX10_noLoad 16 = .ok (.iconst 1, 1) := by decide +kernel
theorem dX10_noLoad_17 : decode cX10_noLoad 17 = .ok (.goto 4, 3) := by decide +kernel
theorem dX10_noLoad_20 : decode cX10_noLoad 20 = .ok (.iconst 0, 1) := by decide +kernel
theorem dX10_noLoad_21 : decode cX10_noLoad 21 = .ok (.ireturn, 1) := by decide +kernel
theorem dX10_begin_0 : decode cX10_begin 0 = .ok (.aload_n 0, 1) := by decide +kernel
theorem dX10_begin_1 : decode cX10_begin 1 = .ok (.getfield 114, 3) := by decide +kernel
theorem dX10_begin_4 : decode cX10_begin 4 = .ok (.iload_n 1, 1) := by decide +kernel
theorem dX10_begin_5 : decode cX10_begin 5 = .ok (.iconst 0, 1) := by decide +kernel
theorem dX10_begin_6 : decode cX10_begin 6 = .ok (.iastore, 1) := by decide +kernel
theorem dX10_begin_7 : decode cX10_begin 7 = .ok (.aload_n 0, 1) := by decide +kernel
theorem dX10_begin_8 : decode cX10_begin 8 = .ok (.getfield 117, 3) := by decide +kernel
theorem dX10_begin_11 : decode cX10_begin 11 = .ok (.iload_n 1, 1) := by decide +kernel
theorem dX10_begin_12 : decode cX10_begin 12 = .ok (.iconst (-1), 1) := by decide +kernel
theorem dX10_begin_13 : decode cX10_begin 13 = .ok (.iastore, 1) := by decide +kernel
theorem dX10_begin_14 : decode cX10_begin 14 = .ok (.aload_n 0, 1) := by decide +kernel
theorem dX10_begin_15 : decode cX10_begin 15 = .ok (.getfield 120, 3) := by decide +kernel
theorem dX10_begin_18 : decode cX10_begin 18 = .ok (.iload_n 1, 1) := by decide +kernel
theorem dX10_begin_19 : decode cX10_begin 19 = .ok (.iconst (-1), 1) := by decide +kernel
theorem dX10_begin_20 : decode cX10_begin 20 = .ok (.iastore, 1) := by decide +kernel
theorem dX10_begin_21 : decode cX10_begin 21 = .ok (.return_, 1) := by decide +kernel
theorem dX10_load_0 : decode cX10_load 0 = .ok (.iload_n 3, 1) := by decide +kernel
theorem dX10_load_1 : decode cX10_load 1 = .ok (.invokestatic 158, 3) := by decide +kernel
theorem dX10_load_4 : decode cX10_load 4 = .ok (.ifCond .eq 11, 3) := by decide +kernel
theorem dX10_load_7 : decode cX10_load 7 = .ok (.iload 4, 2) := by decide +kernel
theorem dX10_load_9 : decode cX10_load 9 = .ok (.invokestatic 158, 3) := by decide +kernel
theorem dX10_load_12 : decode cX10_load 12 = .ok (.ifCond .ne 7, 3) := by decide +kernel
theorem dX10_load_15 : decode cX10_load 15 = .ok (.sipush (-1001), 3) := by decide +kernel
theorem dX10_load_18 : decode cX10_load 18 = .ok (.ireturn, 1) := by decide +kernel
theorem dX10_load_19 : decode cX10_load 19 = .ok (.iload_n 1, 1) := by decide +kernel
theorem dX10_load_20 : decode cX10_load 20 = .ok (.invokestatic 176, 3) := by decide +kernel
theorem dX10_load_23 : decode cX10_load 23 = .ok (.ifCond .eq 38, 3) := by decide +kernel
theorem dX10_load_26 : decode cX10_load 26 = .ok (.iload_n 2, 1) := by decide +kernel
theorem dX10_load_27 : decode cX10_load 27 = .ok (.i2l, 1) := by decide +kernel
theorem dX10_load_28 : decode cX10_load 28 = .ok (.lconst 1, 1) := by decide +kernel
theorem dX10_load_29 : decode cX10_load 29 = .ok (.ldc2_w 186, 3) := by decide +kernel
theorem dX10_load_32 : decode cX10_load 32 = .ok (.invokestatic 150, 3) := by decide +kernel
theorem dX10_load_35 : decode cX10_load 35 = .ok (.ifCond .eq 26, 3) := by decide +kernel
theorem dX10_load_38 : decode cX10_load 38 = .ok (.iload_n 3, 1) := by decide +kernel
theorem dX10_load_39 : decode cX10_load 39 = .ok (.iload 4, 2) := by decide +kernel
theorem dX10_load_41 : decode cX10_load 41 = .ok (.if_icmp .eq 20, 3) := by decide +kernel
theorem dX10_load_44 : decode cX10_load 44 = .ok (.iload 5, 2) := by decide +kernel
theorem dX10_load_46 : decode cX10_load 46 = .ok (.i2l, 1) := by decide +kernel
theorem dX10_load_47 : decode cX10_load 47 = .ok (.aload_n 0, 1) := by decide +kernel
theorem dX10_load_48 : decode cX10_load 48 = .ok (.getfield 197, 3) := by decide +kernel
theorem dX10_load_51 : decode cX10_load 51 = .ok (.i2l, 1) := by decide +kernel
theorem dX10_load_52 : decode cX10_load 52 = .ok (.ldc2_w 156, 3) := by decide +kernel
theorem dX10_load_55 : decode cX10_load 55 = .ok (.invokestatic 150, 3) := by decide +kernel
theorem dX10_load_58 : decode cX10_load 58 = .ok (.ifCond .ne 7, 3) := by decide +kernel
theorem dX10_load_61 : decode cX10_load 61 = .ok (.sipush (-1002), 3) := by decide +kernel
theorem dX10_load_64 : decode cX10_load 64 = .ok (.ireturn, 1) := by decide +kernel
theorem dX10_load_65 : decode cX10_load 65 = .ok (.aload_n 0, 1) := by decide +kernel
theorem dX10_load_66 : decode cX10_load 66 = .ok (.getfield 308, 3) := by decide +kernel
theorem dX10_load_69 : decode cX10_load 69 = .ok (.bipush 40, 2) := by decide +kernel
theorem dX10_load_71 : decode cX10_load 71 = .ok (.if_icmp .ne 7, 3) := by decide +kernel
theorem dX10_load_74 : decode cX10_load 74 = .ok (.sipush (-1004), 3) := by decide +kernel
theorem dX10_load_77 : decode cX10_load 77 = .ok (.ireturn, 1) := by decide +kernel
theorem dX10_load_78 : decode cX10_load 78 = .ok (.aload_n 0, 1) := by decide +kernel
theorem dX10_load_79 : decode cX10_load 79 = .ok (.getfield 96, 3) := by decide +kernel
theorem dX10_load_82 : decode cX10_load 82 = .ok (.aload_n 0, 1) := by decide +kernel
theorem dX10_load_83 : decode cX10_load 83 = .ok (.getfield 308, 3) := by decide +kernel
theorem dX10_load_86 : decode cX10_load 86 = .ok (.iload_n 1, 1) := by decide +kernel
theorem dX10_load_87 : decode cX10_load 87 = .ok (.iastore, 1) := by decide +kernel
theorem dX10_load_88 : decode cX10_load 88 = .ok (.aload_n 0, 1) := by decide +kernel
theorem dX10_load_89 : decode cX10_load 89 = .ok (.getfield 99, 3) := by decide +kernel
theorem dX10_load_92 : decode cX10_load 92 = .ok (.aload_n 0, 1) := by decide +kernel
theorem dX10_load_93 : decode cX10_load 93 = .ok (.getfield 308, 3) := by decide +kernel
theorem dX10_load_96 : decode cX10_load 96 = .ok (.iload_n 2, 1) := by decide +kernel
theorem dX10_load_97 : decode cX10_load 97 = .ok (.iastore, 1) := by decide +kernel
theorem dX10_load_98 : decode cX10_load 98 = .ok (.aload_n 0, 1) := by decide +kernel
theorem dX10_load_99 : decode cX10_load 99 = .ok (.getfield 102, 3) := by decide +kernel
theorem dX10_load_102 : decode cX10_load 102 = .ok (.aload_n 0, 1) := by decide +kernel
theorem dX10_load_103 : decode cX10_load 103 = .ok (.getfield 308, 3) := by decide +kernel
theorem dX10_load_106 : decode cX10_load 106 = .ok (.iload_n 3, 1) := by decide +kernel
theorem dX10_load_107 : decode cX10_load 107 = .ok (.iastore, 1) := by decide +kernel
theorem dX10_load_108 : decode cX10_load 108 = .ok (.aload_n 0, 1) := by decide +kernel
theorem dX10_load_109 : decode cX10_load 109 = .ok (.getfield 105, 3) := by decide +kernel
theorem dX10_load_112 : decode cX10_load 112 = .ok (.aload_n 0, 1) := by decide +kernel
theorem dX10_load_113 : decode cX10_load 113 = .ok (.getfield 308, 3) := by decide +kernel
theorem dX10_load_116 : decode cX10_load 116 = .ok (.iload 4, 2) := by decide +kernel
theorem dX10_load_118 : decode cX10_load 118 = .ok (.iastore, 1) := by decide +kernel
theorem dX10_load_119 : decode cX10_load 119 = .ok (.aload_n 0, 1) := by decide +kernel
theorem dX10_load_120 : decode cX10_load 120 = .ok (.getfield 108, 3) := by decide +kernel
theorem dX10_load_123 : decode cX10_load 123 = .ok (.aload_n 0, 1) := by decide +kernel
theorem dX10_load_124 : decode cX10_load 124 = .ok (.getfield 308, 3) := by decide +kernel
theorem dX10_load_127 : decode cX10_load 127 = .ok (.iload 5, 2) := by decide +kernel
theorem dX10_load_129 : decode cX10_load 129 = .ok (.iastore, 1) := by decide +kernel
theorem dX10_load_130 : decode cX10_load 130 = .ok (.aload_n 0, 1) := by decide +kernel
theorem dX10_load_131 : decode cX10_load 131 = .ok (.getfield 111, 3) := by decide +kernel
theorem dX10_load_134 : decode cX10_load 134 = .ok (.aload_n 0, 1) := by decide +kernel
theorem dX10_load_135 : decode cX10_load 135 = .ok (.getfield 308, 3) := by decide +kernel
theorem dX10_load_138 : decode cX10_load 138 = .ok (.iconst 0, 1) := by decide +kernel
theorem dX10_load_139 : decode cX10_load 139 = .ok (.iastore, 1) := by decide +kernel
theorem dX10_load_140 : decode cX10_load 140 = .ok (.aload_n 0, 1) := by decide +kernel
theorem dX10_load_141 : decode cX10_load 141 = .ok (.aload_n 0, 1) := by decide +kernel
theorem dX10_load_142 : decode cX10_load 142 = .ok (.getfield 308, 3) := by decide +kernel
theorem dX10_load_145 : decode cX10_load 145 = .ok (.invokevirtual 311, 3) := by decide +kernel
theorem dX10_load_148 : decode cX10_load 148 = .ok (.aload_n 0, 1) := by decide +kernel
theorem dX10_load_149 : decode cX10_load 149 = .ok (.dup, 1) := by decide +kernel
theorem dX10_load_150 : decode cX10_load 150 = .ok (.getfield 308, 3) := by decide +kernel
theorem dX10_load_153 : decode cX10_load 153 = .ok (.iconst 1, 1) := by decide +kernel
theorem dX10_load_154 : decode cX10_load 154 = .ok (.iadd, 1) := by decide +kernel
theorem dX10_load_155 : decode cX10_load 155 = .ok (.putfield 308, 3) := by decide +kernel
theorem dX10_load_158 : decode cX10_load 158 = .ok (.aload_n 0, 1) := by decide +kernel
theorem dX10_load_159 : decode cX10_load 159 = .ok (.getfield 308, 3) := by decide +kernel
theorem dX10_load_162 : decode cX10_load 162 = .ok (.iconst 1, 1) := by decide +kernel
theorem dX10_load_163 : decode cX10_load 163 = .ok (.isub, 1) := by decide +kernel
theorem dX10_load_164 : decode cX10_load 164 = .ok (.ireturn, 1) := by decide +kernel
theorem dX10_stamp_0 : decode cX10_stamp 0 = .ok (.aload_n 0, 1) := by decide +kernel
theorem dX10_stamp_1 : decode cX10_stamp 1 = .ok (.iload_n 1, 1) := by decide +kernel
theorem dX10_stamp_2 : decode cX10_stamp 2 = .ok (.invokevirtual 314, 3) := by decide +kernel
theorem dX10_stamp_5 : decode cX10_stamp 5 = .ok (.ifCond .eq 7, 3) := by decide +kernel
theorem dX10_stamp_8 : decode cX10_stamp 8 = .ok (.sipush (-1001), 3) := by decide +kernel
theorem dX10_stamp_11 : decode cX10_stamp 11 = .ok (.ireturn, 1) := by decide +kernel
theorem dX10_stamp_12 : decode cX10_stamp 12 = .ok (.iload_n 2, 1) := by decide +kernel
theorem dX10_stamp_13 : decode cX10_stamp 13 = .ok (.i2l, 1) := by decide +kernel
theorem dX10_stamp_14 : decode cX10_stamp 14 = .ok (.lconst 0, 1) := by decide +kernel
theorem dX10_stamp_15 : decode cX10_stamp 15 = .ok (.ldc2_w 195, 3) := by decide +kernel
theorem dX10_stamp_18 : decode cX10_stamp 18 = .ok (.invokestatic 150, 3) := by decide +kernel
theorem dX10_stamp_21 : decode cX10_stamp 21 = .ok (.ifCond .ne 7, 3) := by decide +kernel
theorem dX10_stamp_24 : decode cX10_stamp 24 = .ok (.sipush (-1002), 3) := by decide +kernel
theorem dX10_stamp_27 : decode cX10_stamp 27 = .ok (.ireturn, 1) := by decide +kernel
theorem dX10_stamp_28 : decode cX10_stamp 28 = .ok (.aload_n 0, 1) := by decide +kernel
theorem dX10_stamp_29 : decode cX10_stamp 29 = .ok (.getfield 111, 3) := by decide +kernel
theorem dX10_stamp_32 : decode cX10_stamp 32 = .ok (.iload_n 1, 1) := by decide +kernel
theorem dX10_stamp_33 : decode cX10_stamp 33 = .ok (.iaload, 1) := by decide +kernel
theorem dX10_stamp_34 : decode cX10_stamp 34 = .ok (.iload_n 2, 1) := by decide +kernel
theorem dX10_stamp_35 : decode cX10_stamp 35 = .ok (.ishr, 1) := by decide +kernel
theorem dX10_stamp_36 : decode cX10_stamp 36 = .ok (.iconst 1, 1) := by decide +kernel
theorem dX10_stamp_37 : decode cX10_stamp 37 = .ok (.iand, 1) := by decide +kernel
theorem dX10_stamp_38 : decode cX10_stamp 38 = .ok (.iconst 1, 1) := by decide +kernel
theorem dX10_stamp_39 : decode cX10_stamp 39 = .ok (.if_icmp .eq 12, 3) := by decide +kernel
theorem dX10_stamp_42 : decode cX10_stamp 42 = .ok (.aload_n 0, 1) := by decide +kernel
theorem dX10_stamp_43 : decode cX10_stamp 43 = .ok (.getfield 114, 3) := by decide +kernel
theorem dX10_stamp_46 : decode cX10_stamp 46 = .ok (.iload_n 1, 1) := by decide +kernel
theorem dX10_stamp_47 : decode cX10_stamp 47 = .ok (.iaload, 1) := by decide +kernel
theorem dX10_stamp_48 : decode cX10_stamp 48 = .ok (.ifCond .eq 7, 3) := by decide +kernel
theorem dX10_stamp_51 : decode cX10_stamp 51 = .ok (.sipush (-1003), 3) := by decide +kernel
theorem dX10_stamp_54 : decode cX10_stamp 54 = .ok (.ireturn, 1) := by decide +kernel
theorem dX10_stamp_55 : decode cX10_stamp 55 = .ok (.aload_n 0, 1) := by decide +kernel
theorem dX10_stamp_56 : decode cX10_stamp 56 = .ok (.getfield 111, 3) := by decide +kernel
theorem dX10_stamp_59 : decode cX10_stamp 59 = .ok (.iload_n 1, 1) := by decide +kernel
theorem dX10_stamp_60 : decode cX10_stamp 60 = .ok (.dup2, 1) := by decide +kernel
theorem dX10_stamp_61 : decode cX10_stamp 61 = .ok (.iaload, 1) := by decide +kernel
theorem dX10_stamp_62 : decode cX10_stamp 62 = .ok (.iconst 1, 1) := by decide +kernel
theorem dX10_stamp_63 : decode cX10_stamp 63 = .ok (.iload_n 2, 1) := by decide +kernel
theorem dX10_stamp_64 : decode cX10_stamp 64 = .ok (.ishl, 1) := by decide +kernel
theorem dX10_stamp_65 : decode cX10_stamp 65 = .ok (.ior, 1) := by decide +kernel
theorem dX10_stamp_66 : decode cX10_stamp 66 = .ok (.iastore, 1) := by decide +kernel
theorem dX10_stamp_67 : decode cX10_stamp 67 = .ok (.aload_n 0, 1) := by decide +kernel
theorem dX10_stamp_68 : decode cX10_stamp 68 = .ok (.getfield 111, 3) := by decide +kernel
theorem dX10_stamp_71 : decode cX10_stamp 71 = .ok (.iload_n 1, 1) := by decide +kernel
theorem dX10_stamp_72 : decode cX10_stamp 72 = .ok (.iaload, 1) := by decide +kernel
theorem dX10_stamp_73 : decode cX10_stamp 73 = .ok (.ireturn, 1) := by decide +kernel
theorem dX10_told_0 : decode cX10_told 0 = .ok (.aload_n 0, 1) := by decide +kernel
theorem dX10_told_1 : decode cX10_told 1 = .ok (.iload_n 1, 1) := by decide +kernel
theorem dX10_told_2 : decode cX10_told 2 = .ok (.invokevirtual 314, 3) := by decide +kernel
theorem dX10_told_5 : decode cX10_told 5 = .ok (.ifCond .eq 7, 3) := by decide +kernel
theorem dX10_told_8 : decode cX10_told 8 = .ok (.sipush (-1001), 3) := by decide +kernel
theorem dX10_told_11 : decode cX10_told 11 = .ok (.ireturn, 1) := by decide +kernel
theorem dX10_told_12 : decode cX10_told 12 = .ok (.iload_n 2, 1) := by decide +kernel
theorem dX10_told_13 : decode cX10_told 13 = .ok (.tableswitch 114 0 8 #[51, 58, 65, 72, 79, 86, 93, 100, 107], 51) := by decide +kernel
theorem dX10_told_64 : decode cX10_told 64 = .ok (.aload_n 0, 1) := by decide +kernel
theorem dX10_told_65 : decode cX10_told 65 = .ok (.getfield 96, 3) := by decide +kernel
theorem dX10_told_68 : decode cX10_told 68 = .ok (.iload_n 1, 1) := by decide +kernel
theorem dX10_told_69 : decode cX10_told 69 = .ok (.iaload, 1) := by decide +kernel
theorem dX10_told_70 : decode cX10_told 70 = .ok (.ireturn, 1) := by decide +kernel
theorem dX10_told_71 : decode cX10_told 71 = .ok (.aload_n 0, 1) := by decide +kernel
theorem dX10_told_72 : decode cX10_told 72 = .ok (.getfield 99, 3) := by decide +kernel
theorem dX10_told_75 : decode cX10_told 75 = .ok (.iload_n 1, 1) := by decide +kernel
theorem dX10_told_76 : decode cX10_told 76 = .ok (.iaload, 1) := by decide +kernel
theorem dX10_told_77 : decode cX10_told 77 = .ok (.ireturn, 1) := by decide +kernel
theorem dX10_told_78 : decode cX10_told 78 = .ok (.aload_n 0, 1) := by decide +kernel
theorem dX10_told_79 : decode cX10_told 79 = .ok (.getfield 102, 3) := by decide +kernel
theorem dX10_told_82 : decode cX10_told 82 = .ok (.iload_n 1, 1) := by decide +kernel
theorem dX10_told_83 : decode cX10_told 83 = .ok (.iaload, 1) := by decide +kernel
theorem dX10_told_84 : decode cX10_told 84 = .ok (.ireturn, 1) := by decide +kernel
theorem dX10_told_85 : decode cX10_told 85 = .ok (.aload_n 0, 1) := by decide +kernel
theorem dX10_told_86 : decode cX10_told 86 = .ok (.getfield 105, 3) := by decide +kernel
theorem dX10_told_89 : decode cX10_told 89 = .ok (.iload_n 1, 1) := by decide +kernel
theorem dX10_told_90 : decode cX10_told 90 = .ok (.iaload, 1) := by decide +kernel
theorem dX10_told_91 : decode cX10_told 91 = .ok (.ireturn, 1) := by decide +kernel
theorem dX10_told_92 : decode cX10_told 92 = .ok (.aload_n 0, 1) := by decide +kernel
theorem dX10_told_93 : decode cX10_told 93 = .ok (.getfield 108, 3) := by decide +kernel
theorem dX10_told_96 : decode cX10_told 96 = .ok (.iload_n 1, 1) := by decide +kernel
theorem dX10_told_97 : decode cX10_told 97 = .ok (.iaload, 1) := by decide +kernel
theorem dX10_told_98 : decode cX10_told 98 = .ok (.ireturn, 1) := by decide +kernel
theorem dX10_told_99 : decode cX10_told 99 = .ok (.aload_n 0, 1) := by decide +kernel
theorem dX10_told_100 : decode cX10_told 100 = .ok (.getfield 111, 3) := by decide +kernel
theorem dX10_told_103 : decode cX10_told 103 = .ok (.iload_n 1, 1) := by decide +kernel
theorem dX10_told_104 : decode cX10_told 104 = .ok (.iaload, 1) := by decide +kernel
theorem dX10_told_105 : decode cX10_told 105 = .ok (.ireturn, 1) := by decide +kernel
theorem dX10_told_106 : decode cX10_told 106 = .ok (.aload_n 0, 1) := by decide +kernel
theorem dX10_told_107 : decode cX10_told 107 = .ok (.getfield 114, 3) := by decide +kernel
theorem dX10_told_110 : decode cX10_told 110 = .ok (.iload_n 1, 1) := by decide +kernel
theorem dX10_told_111 : decode cX10_told 111 = .ok (.iaload, 1) := by decide +kernel
theorem dX10_told_112 : decode cX10_told 112 = .ok (.ireturn, 1) := by decide +kernel
theorem dX10_told_113 : decode cX10_told 113 = .ok (.aload_n 0, 1) := by decide +kernel
theorem dX10_told_114 : decode cX10_told 114 = .ok (.getfield 117, 3) := by decide +kernel
theorem dX10_told_117 : decode cX10_told 117 = .ok (.iload_n 1, 1) := by decide +kernel
theorem dX10_told_118 : decode cX10_told 118 = .ok (.iaload, 1) := by decide +kernel
theorem dX10_told_119 : decode cX10_told 119 = .ok (.ireturn, 1) := by decide +kernel
theorem dX10_told_120 : decode cX10_told 120 = .ok (.aload_n 0, 1) := by decide +kernel
theorem dX10_told_121 : decode cX10_told 121 = .ok (.getfield 120, 3) := by decide +kernel
theorem dX10_told_124 : decode cX10_told 124 = .ok (.iload_n 1, 1) := by decide +kernel
theorem dX10_told_125 : decode cX10_told 125 = .ok (.iaload, 1) := by decide +kernel
theorem dX10_told_126 : decode cX10_told 126 = .ok (.ireturn, 1) := by decide +kernel
theorem dX10_told_127 : decode cX10_told 127 = .ok (.sipush (-1002), 3) := by decide +kernel
theorem dX10_told_130 : decode cX10_told 130 = .ok (.ireturn, 1) := by decide +kernel
theorem dX10_clash_0 : decode cX10_clash 0 = .ok (.aload_n 0, 1) := by decide +kernel
theorem dX10_clash_1 : decode cX10_clash 1 = .ok (.aload_n 0, 1) := by decide +kernel
theorem dX10_clash_2 : decode cX10_clash 2 = .ok (.getfield 197, 3) := by decide +kernel
theorem dX10_clash_5 : decode cX10_clash 5 = .ok (.invokevirtual 305, 3) := by decide +kernel
theorem dX10_clash_8 : decode cX10_clash 8 = .ok (.iconst 0, 1) := by decide +kernel
theorem dX10_clash_9 : decode cX10_clash 9 = .ok (.istore_n 2, 1) := by decide +kernel
theorem dX10_clash_10 : decode cX10_clash 10 = .ok (.iconst 0, 1) := by decide +kernel
theorem dX10_clash_11 : decode cX10_clash 11 = .ok (.istore_n 3, 1) := by decide +kernel
theorem dX10_clash_12 : decode cX10_clash 12 = .ok (.iload_n 3, 1) := by decide +kernel
theorem dX10_clash_13 : decode cX10_clash 13 = .ok (.aload_n 0, 1) := by decide +kernel
theorem dX10_clash_14 : decode cX10_clash 14 = .ok (.getfield 308, 3) := by decide +kernel
theorem dX10_clash_17 : decode cX10_clash 17 = .ok (.if_icmp .ge 64, 3) := by decide +kernel
theorem dX10_clash_20 : decode cX10_clash 20 = .ok (.aload_n 0, 1) := by decide +kernel
theorem dX10_clash_21 : decode cX10_clash 21 = .ok (.getfield 93, 3) := by decide +kernel
theorem dX10_clash_24 : decode cX10_clash 24 = .ok (.aload_n 0, 1) := by decide +kernel
theorem dX10_clash_25 : decode cX10_clash 25 = .ok (.getfield 96, 3) := by decide +kernel
theorem dX10_clash_28 : decode cX10_clash 28 = .ok (.iload_n 3, 1) := by decide +kernel
theorem dX10_clash_29 : decode cX10_clash 29 = .ok (.iaload, 1) := by decide +kernel
theorem dX10_clash_30 : decode cX10_clash 30 = .ok (.iaload, 1) := by decide +kernel
theorem dX10_clash_31 : decode cX10_clash 31 = .ok (.istore 4, 2) := by decide +kernel
theorem dX10_clash_33 : decode cX10_clash 33 = .ok (.iload 4, 2) := by decide +kernel
theorem dX10_clash_35 : decode cX10_clash 35 = .ok (.aload_n 0, 1) := by decide +kernel
theorem dX10_clash_36 : decode cX10_clash 36 = .ok (.getfield 111, 3) := by decide +kernel
theorem dX10_clash_39 : decode cX10_clash 39 = .ok (.iload_n 3, 1) := by decide +kernel
theorem dX10_clash_40 : decode cX10_clash 40 = .ok (.iaload, 1) := by decide +kernel
theorem dX10_clash_41 : decode cX10_clash 41 = .ok (.iand, 1) := by decide +kernel
theorem dX10_clash_42 : decode cX10_clash 42 = .ok (.istore 5, 2) := by decide +kernel
theorem dX10_clash_44 : decode cX10_clash 44 = .ok (.aload_n 0, 1) := by decide +kernel
theorem dX10_clash_45 : decode cX10_clash 45 = .ok (.getfield 114, 3) := by decide +kernel
theorem dX10_clash_48 : decode cX10_clash 48 = .ok (.iload_n 3, 1) := by decide +kernel
theorem dX10_clash_49 : decode cX10_clash 49 = .ok (.iaload, 1) := by decide +kernel
theorem dX10_clash_50 : decode cX10_clash 50 = .ok (.ifCond .ne 25, 3) := by decide +kernel
theorem dX10_clash_53 : decode cX10_clash 53 = .ok (.iload 5, 2) := by decide +kernel
theorem dX10_clash_55 : decode cX10_clash 55 = .ok (.ifCond .eq 20, 3) := by decide +kernel
theorem dX10_clash_58 : decode cX10_clash 58 = .ok (.iload 5, 2) := by decide +kernel
theorem dX10_clash_60 : decode cX10_clash 60 = .ok (.iload 4, 2) := by decide +kernel
theorem dX10_clash_62 : decode cX10_clash 62 = .ok (.if_icmp .eq 13, 3) := by decide +kernel
theorem dX10_clash_65 : decode cX10_clash 65 = .ok (.iload_n 2, 1) := by decide +kernel
theorem dX10_clash_66 : decode cX10_clash 66 = .ok (.iload_n 1, 1) := by decide +kernel
theorem dX10_clash_67 : decode cX10_clash 67 = .ok (.if_icmp .ne 5, 3) := by decide +kernel
theorem dX10_clash_70 : decode cX10_clash 70 = .ok (.iload_n 3, 1) := by decide +kernel
theorem dX10_clash_71 : decode cX10_clash 71 = .ok (.ireturn, 1) := by decide +kernel
theorem dX10_clash_72 : decode cX10_clash 72 = .ok (.iinc 2 1, 3) := by decide +kernel
theorem dX10_clash_75 : decode cX10_clash 75 = .ok (.iinc 3 1, 3) := by decide +kernel
theorem dX10_clash_78 : decode cX10_clash 78 = .ok (.goto (-66), 3) := by decide +kernel
theorem dX10_clash_81 : decode cX10_clash 81 = .ok (.iconst (-1), 1) := by decide +kernel
theorem dX10_clash_82 : decode cX10_clash 82 = .ok (.ireturn, 1) := by decide +kernel
theorem dX10_words_0 : decode cX10_words 0 = .ok (.aload_n 0, 1) := by decide +kernel
theorem dX10_words_1 : decode cX10_words 1 = .ok (.aload_n 0, 1) := by decide +kernel
theorem dX10_words_2 : decode cX10_words 2 = .ok (.getfield 197, 3) := by decide +kernel
theorem dX10_words_5 : decode cX10_words 5 = .ok (.invokevirtual 305, 3) := by decide +kernel
theorem dX10_words_8 : decode cX10_words 8 = .ok (.iconst 0, 1) := by decide +kernel
theorem dX10_words_9 : decode cX10_words 9 = .ok (.istore_n 1, 1) := by decide +kernel
theorem dX10_words_10 : decode cX10_words 10 = .ok (.iconst 0, 1) := by decide +kernel
theorem dX10_words_11 : decode cX10_words 11 = .ok (.istore_n 2, 1) := by decide +kernel
theorem dX10_words_12 : decode cX10_words 12 = .ok (.iload_n 2, 1) := by decide +kernel
theorem dX10_words_13 : decode cX10_words 13 = .ok (.aload_n 0, 1) := by decide +kernel
theorem dX10_words_14 : decode cX10_words 14 = .ok (.getfield 308, 3) := by decide +kernel
theorem dX10_words_17 : decode cX10_words 17 = .ok (.if_icmp .ge 55, 3) := by decide +kernel
theorem dX10_words_20 : decode cX10_words 20 = .ok (.iload_n 1, 1) := by decide +kernel
theorem dX10_words_21 : decode cX10_words 21 = .ok (.aload_n 0, 1) := by decide +kernel
theorem dX10_words_22 : decode cX10_words 22 = .ok (.getfield 114, 3) := by decide +kernel
theorem dX10_words_25 : decode cX10_words 25 = .ok (.iload_n 2, 1) := by decide +kernel
theorem dX10_words_26 : decode cX10_words 26 = .ok (.iaload, 1) := by decide +kernel
theorem dX10_words_27 : decode cX10_words 27 = .ok (.ifCond .eq 13, 3) := by decide +kernel
theorem dX10_words_30 : decode cX10_words 30 = .ok (.aload_n 0, 1) := by decide +kernel
theorem dX10_words_31 : decode cX10_words 31 = .ok (.getfield 114, 3) := by decide +kernel
theorem dX10_words_34 : decode cX10_words 34 = .ok (.iload_n 2, 1) := by decide +kernel
theorem dX10_words_35 : decode cX10_words 35 = .ok (.iaload, 1) := by decide +kernel
theorem dX10_words_36 : decode cX10_words 36 = .ok (.iconst 3, 1) := by decide +kernel
theorem dX10_words_37 : decode cX10_words 37 = .ok (.if_icmp .ne 26, 3) := by decide +kernel
theorem dX10_words_40 : decode cX10_words 40 = .ok (.aload_n 0, 1) := by decide +kernel
theorem dX10_words_41 : decode cX10_words 41 = .ok (.getfield 93, 3) := by decide +kernel
theorem dX10_words_44 : decode cX10_words 44 = .ok (.aload_n 0, 1) := by decide +kernel
theorem dX10_words_45 : decode cX10_words 45 = .ok (.getfield 96, 3) := by decide +kernel
theorem dX10_words_48 : decode cX10_words 48 = .ok (.iload_n 2, 1) := by decide +kernel
theorem dX10_words_49 : decode cX10_words 49 = .ok (.iaload, 1) := by decide +kernel
theorem dX10_words_50 : decode cX10_words 50 = .ok (.iaload, 1) := by decide +kernel
theorem dX10_words_51 : decode cX10_words 51 = .ok (.aload_n 0, 1) := by decide +kernel
theorem dX10_words_52 : decode cX10_words 52 = .ok (.getfield 111, 3) := by decide +kernel
theorem dX10_words_55 : decode cX10_words 55 = .ok (.iload_n 2, 1) := by decide +kernel
theorem dX10_words_56 : decode cX10_words 56 = .ok (.iaload, 1) := by decide +kernel
theorem dX10_words_57 : decode cX10_words 57 = .ok (.iconst (-1), 1) := by decide +kernel
theorem dX10_words_58 : decode cX10_words 58 = .ok (.ixor, 1) := by decide +kernel
theorem dX10_words_59 : decode cX10_words 59 = .ok (.iand, 1) := by decide +kernel
theorem dX10_words_60 : decode cX10_words 60 = .ok (.goto 4, 3) := by decide +kernel
theorem dX10_words_63 : decode cX10_words 63 = .ok (.iconst 0, 1) := by decide +kernel
theorem dX10_words_64 : decode cX10_words 64 = .ok (.ior, 1) := by decide +kernel
theorem dX10_words_65 : decode cX10_words 65 = .ok (.istore_n 1, 1) := by decide +kernel
theorem dX10_words_66 : decode cX10_words 66 = .ok (.iinc 2 1, 3) := by decide +kernel
theorem dX10_words_69 : decode cX10_words 69 = .ok (.goto (-57), 3) := by decide +kernel
theorem dX10_words_72 : decode cX10_words 72 = .ok (.iload_n 1, 1) := by decide +kernel
theorem dX10_words_73 : decode cX10_words 73 = .ok (.ireturn, 1) := by decide +kernel
theorem dX10_arrive_0 : decode cX10_arrive 0 = .ok (.iconst 0, 1) := by decide +kernel
theorem dX10_arrive_1 : decode cX10_arrive 1 = .ok (.istore_n 2, 1) := by decide +kernel
theorem dX10_arrive_2 : decode cX10_arrive 2 = .ok (.iload_n 2, 1) := by decide +kernel
theorem dX10_arrive_3 : decode cX10_arrive 3 = .ok (.aload_n 0, 1) := by decide +kernel
theorem dX10_arrive_4 : decode cX10_arrive 4 = .ok (.getfield 308, 3) := by decide +kernel
theorem dX10_arrive_7 : decode cX10_arrive 7 = .ok (.if_icmp .ge 77, 3) := by decide +kernel
theorem dX10_arrive_10 : decode cX10_arrive 10 = .ok (.aload_n 0, 1) := by decide +kernel
theorem dX10_arrive_11 : decode cX10_arrive 11 = .ok (.getfield 114, 3) := by decide +kernel
theorem dX10_arrive_14 : decode cX10_arrive 14 = .ok (.iload_n 2, 1) := by decide +kernel
theorem dX10_arrive_15 : decode cX10_arrive 15 = .ok (.iaload, 1) := by decide +kernel
theorem dX10_arrive_16 : decode cX10_arrive 16 = .ok (.iconst 1, 1) := by decide +kernel
theorem dX10_arrive_17 : decode cX10_arrive 17 = .ok (.if_icmp .ne 61, 3) := by decide +kernel
theorem dX10_arrive_20 : decode cX10_arrive 20 = .ok (.aload_n 0, 1) := by decide +kernel
theorem dX10_arrive_21 : decode cX10_arrive 21 = .ok (.getfield 120, 3) := by decide +kernel
theorem dX10_arrive_24 : decode cX10_arrive 24 = .ok (.iload_n 2, 1) := by decide +kernel
theorem dX10_arrive_25 : decode cX10_arrive 25 = .ok (.iaload, 1) := by decide +kernel
theorem dX10_arrive_26 : decode cX10_arrive 26 = .ok (.iload_n 1, 1) := by decide +kernel
theorem dX10_arrive_27 : decode cX10_arrive 27 = .ok (.if_icmp .ne 51, 3) := by decide +kernel
theorem dX10_arrive_30 : decode cX10_arrive 30 = .ok (.aload_n 0, 1) := by decide +kernel
theorem dX10_arrive_31 : decode cX10_arrive 31 = .ok (.getfield 114, 3) := by decide +kernel
theorem dX10_arrive_34 : decode cX10_arrive 34 = .ok (.iload_n 2, 1) := by decide +kernel
theorem dX10_arrive_35 : decode cX10_arrive 35 = .ok (.iconst 2, 1) := by decide +kernel
theorem dX10_arrive_36 : decode cX10_arrive 36 = .ok (.iastore, 1) := by decide +kernel
theorem dX10_arrive_37 : decode cX10_arrive 37 = .ok (.iconst 3, 1) := by decide +kernel
theorem dX10_arrive_38 : decode cX10_arrive 38 = .ok (.aload_n 0, 1) := by decide +kernel
theorem dX10_arrive_39 : decode cX10_arrive 39 = .ok (.getfield 105, 3) := by decide +kernel
theorem dX10_arrive_42 : decode cX10_arrive 42 = .ok (.iload_n 2, 1) := by decide +kernel
theorem dX10_arrive_43 : decode cX10_arrive 43 = .ok (.iaload, 1) := by decide +kernel
theorem dX10_arrive_44 : decode cX10_arrive 44 = .ok (.imul, 1) := by decide +kernel
theorem dX10_arrive_45 : decode cX10_arrive 45 = .ok (.aload_n 0, 1) := by decide +kernel
theorem dX10_arrive_46 : decode cX10_arrive 46 = .ok (.getfield 96, 3) := by decide +kernel
theorem dX10_arrive_49 : decode cX10_arrive 49 = .ok (.iload_n 2, 1) := by decide +kernel
theorem dX10_arrive_50 : decode cX10_arrive 50 = .ok (.iaload, 1) := by decide +kernel
theorem dX10_arrive_51 : decode cX10_arrive 51 = .ok (.iadd, 1) := by decide +kernel
theorem dX10_arrive_52 : decode cX10_arrive 52 = .ok (.istore_n 3, 1) := by decide +kernel
theorem dX10_arrive_53 : decode cX10_arrive 53 = .ok (.aload_n 0, 1) := by decide +kernel
theorem dX10_arrive_54 : decode cX10_arrive 54 = .ok (.getfield 13, 3) := by decide +kernel
theorem dX10_arrive_57 : decode cX10_arrive 57 = .ok (.iload_n 3, 1) := by decide +kernel
theorem dX10_arrive_58 : decode cX10_arrive 58 = .ok (.sipush 9999, 3) := by decide +kernel
theorem dX10_arrive_61 : decode cX10_arrive 61 = .ok (.aload_n 0, 1) := by decide +kernel
theorem dX10_arrive_62 : decode cX10_arrive 62 = .ok (.getfield 13, 3) := by decide +kernel
theorem dX10_arrive_65 : decode cX10_arrive 65 = .ok (.iload_n 3, 1) := by decide +kernel
theorem dX10_arrive_66 : decode cX10_arrive 66 = .ok (.iaload, 1) := by decide +kernel
theorem dX10_arrive_67 : decode cX10_arrive 67 = .ok (.aload_n 0, 1) := by decide +kernel
theorem dX10_arrive_68 : decode cX10_arrive 68 = .ok (.getfield 99, 3) := by decide +kernel
theorem dX10_arrive_71 : decode cX10_arrive 71 = .ok (.iload_n 2, 1) := by decide +kernel
theorem dX10_arrive_72 : decode cX10_arrive 72 = .ok (.iaload, 1) := by decide +kernel
theorem dX10_arrive_73 : decode cX10_arrive 73 = .ok (.iadd, 1) := by decide +kernel
theorem dX10_arrive_74 : decode cX10_arrive 74 = .ok (.invokestatic 167, 3) := by decide +kernel
theorem dX10_arrive_77 : decode cX10_arrive 77 = .ok (.iastore, 1) := by decide +kernel
theorem dX10_arrive_78 : decode cX10_arrive 78 = .ok (.iinc 2 1, 3) := by decide +kernel
theorem dX10_arrive_81 : decode cX10_arrive 81 = .ok (.goto (-79), 3) := by decide +kernel
theorem dX10_arrive_84 : decode cX10_arrive 84 = .ok (.return_, 1) := by decide +kernel
theorem dX10_callOut_0 : decode cX10_callOut 0 = .ok (.iconst 0, 1) := by decide +kernel
theorem dX10_callOut_1 : decode cX10_callOut 1 = .ok (.istore_n 2, 1) := by decide +kernel
theorem dX10_callOut_2 : decode cX10_callOut 2 = .ok (.iload_n 2, 1) := by decide +kernel
theorem dX10_callOut_3 : decode cX10_callOut 3 = .ok (.bipush 6, 2) := by decide +kernel
theorem dX10_callOut_5 : decode cX10_callOut 5 = .ok (.if_icmp .ge 101, 3) := by decide +kernel
theorem dX10_callOut_8 : decode cX10_callOut 8 = .ok (.iconst 0, 1) := by decide +kernel
theorem dX10_callOut_9 : decode cX10_callOut 9 = .ok (.istore_n 3, 1) := by decide +kernel
theorem dX10_callOut_10 : decode cX10_callOut 10 = .ok (.iload_n 3, 1) := by decide +kernel
theorem dX10_callOut_11 : decode cX10_callOut 11 = .ok (.bipush 8, 2) := by decide +kernel
theorem dX10_callOut_13 : decode cX10_callOut 13 = .ok (.if_icmp .ge 87, 3) := by decide +kernel
theorem dX10_callOut_16 : decode cX10_callOut 16 = .ok (.bipush 8, 2) := by decide +kernel
theorem dX10_callOut_18 : decode cX10_callOut 18 = .ok (.iload_n 2, 1) := by decide +kernel
theorem dX10_callOut_19 : decode cX10_callOut 19 = .ok (.imul, 1) := by decide +kernel
theorem dX10_callOut_20 : decode cX10_callOut 20 = .ok (.iload_n 3, 1) := by decide +kernel
theorem dX10_callOut_21 : decode cX10_callOut 21 = .ok (.iadd, 1) := by decide +kernel
theorem dX10_callOut_22 : decode cX10_callOut 22 = .ok (.istore 4, 2) := by decide +kernel
theorem dX10_callOut_24 : decode cX10_callOut 24 = .ok (.aload_n 0, 1) := by decide +kernel
theorem dX10_callOut_25 : decode cX10_callOut 25 = .ok (.iload_n 2, 1) := by decide +kernel
theorem dX10_callOut_26 : decode cX10_callOut 26 = .ok (.iload_n 3, 1) := by decide +kernel
theorem dX10_callOut_27 : decode cX10_callOut 27 = .ok (.iload_n 1, 1) := by decide +kernel
theorem dX10_callOut_28 : decode cX10_callOut 28 = .ok (.invokevirtual 221, 3) := by decide +kernel
theorem dX10_callOut_31 : decode cX10_callOut 31 = .ok (.istore 5, 2) := by decide +kernel
theorem dX10_callOut_33 : decode cX10_callOut 33 = .ok (.iload_n 1, 1) := by decide +kernel
theorem dX10_callOut_34 : decode cX10_callOut 34 = .ok (.ifCond .le 19, 3) := by decide +kernel
theorem dX10_callOut_37 : decode cX10_callOut 37 = .ok (.aload_n 0, 1) := by decide +kernel
theorem dX10_callOut_38 : decode cX10_callOut 38 = .ok (.iload_n 2, 1) := by decide +kernel
theorem dX10_callOut_39 : decode cX10_callOut 39 = .ok (.iload_n 3, 1) := by decide +kernel
theorem dX10_callOut_40 : decode cX10_callOut 40 = .ok (.iload_n 1, 1) := by decide +kernel
theorem dX10_callOut_41 : decode cX10_callOut 41 = .ok (.iconst 1, 1) := by decide +kernel
theorem dX10_callOut_42 : decode cX10_callOut 42 = .ok (.isub, 1) := by decide +kernel
theorem dX10_callOut_43 : decode cX10_callOut 43 = .ok (.invokevirtual 221, 3) := by decide +kernel
theorem dX10_callOut_46 : decode cX10_callOut 46 = .ok (.ifCond .eq 7, 3) := by decide +kernel
theorem dX10_callOut_49 : decode cX10_callOut 49 = .ok (.iconst 1, 1) := by decide +kernel
theorem dX10_callOut_50 : decode cX10_callOut 50 = .ok (.goto 4, 3) := by decide +kernel
theorem dX10_callOut_53 : decode cX10_callOut 53 = .ok (.iconst 0, 1) := by decide +kernel
theorem dX10_callOut_54 : decode cX10_callOut 54 = .ok (.istore 6, 2) := by decide +kernel
theorem dX10_callOut_56 : decode cX10_callOut 56 = .ok (.aload_n 0, 1) := by decide +kernel
theorem dX10_callOut_57 : decode cX10_callOut 57 = .ok (.getfield 31, 3) := by decide +kernel
theorem dX10_callOut_60 : decode cX10_callOut 60 = .ok (.iload 4, 2) := by decide +kernel
theorem dX10_callOut_62 : decode cX10_callOut 62 = .ok (.iload 5, 2) := by decide +kernel
theorem dX10_callOut_64 : decode cX10_callOut 64 = .ok (.ifCond .ne 7, 3) := by decide +kernel
theorem dX10_callOut_67 : decode cX10_callOut 67 = .ok (.iconst 0, 1) := by decide +kernel
theorem dX10_callOut_68 : decode cX10_callOut 68 = .ok (.goto 25, 3) := by decide +kernel
theorem dX10_callOut_71 : decode cX10_callOut 71 = .ok (.iload 6, 2) := by decide +kernel
theorem dX10_callOut_73 : decode cX10_callOut 73 = .ok (.ifCond .eq 13, 3) := by decide +kernel
theorem dX10_callOut_76 : decode cX10_callOut 76 = .ok (.aload_n 0, 1) := by decide +kernel
theorem dX10_callOut_77 : decode cX10_callOut 77 = .ok (.getfield 31, 3) := by decide +kernel
theorem dX10_callOut_80 : decode cX10_callOut 80 = .ok (.iload 4, 2) := by decide +kernel
theorem dX10_callOut_82 : decode cX10_callOut 82 = .ok (.iaload, 1) := by decide +kernel
theorem dX10_callOut_83 : decode cX10_callOut 83 = .ok (.goto 10, 3) := by decide +kernel
theorem dX10_callOut_86 : decode cX10_callOut 86 = .ok (.aload_n 0, 1) := by decide +kernel
theorem dX10_callOut_87 : decode cX10_callOut 87 = .ok (.getfield 28, 3) := by decide +kernel
theorem dX10_callOut_90 : decode cX10_callOut 90 = .ok (.iload 4, 2) := by decide +kernel
theorem dX10_callOut_92 : decode cX10_callOut 92 = .ok (.iaload, 1) := by decide +kernel
theorem dX10_callOut_93 : decode cX10_callOut 93 = .ok (.iastore, 1) := by decide +kernel
theorem dX10_callOut_94 : decode cX10_callOut 94 = .ok (.iinc 3 1, 3) := by decide +kernel
theorem dX10_callOut_97 : decode cX10_callOut 97 = .ok (.goto (-87), 3) := by decide +kernel
theorem dX10_callOut_100 : decode cX10_callOut 100 = .ok (.iinc 2 1, 3) := by decide +kernel
theorem dX10_callOut_103 : decode cX10_callOut 103 = .ok (.goto (-101), 3) := by decide +kernel
theorem dX10_callOut_106 : decode cX10_callOut 106 = .ok (.return_, 1) := by decide +kernel
theorem dX10_payOut_0 : decode cX10_payOut 0 = .ok (.bipush 8, 2) := by decide +kernel
theorem dX10_payOut_2 : decode cX10_payOut 2 = .ok (.iload_n 1, 1) := by decide +kernel
theorem dX10_payOut_3 : decode cX10_payOut 3 = .ok (.imul, 1) := by decide +kernel
theorem dX10_payOut_4 : decode cX10_payOut 4 = .ok (.iload_n 2, 1) := by decide +kernel
theorem dX10_payOut_5 : decode cX10_payOut 5 = .ok (.iadd, 1) := by decide +kernel
theorem dX10_payOut_6 : decode cX10_payOut 6 = .ok (.istore_n 3, 1) := by decide +kernel
theorem dX10_payOut_7 : decode cX10_payOut 7 = .ok (.aload_n 0, 1) := by decide +kernel
theorem dX10_payOut_8 : decode cX10_payOut 8 = .ok (.getfield 288, 3) := by decide +kernel
theorem dX10_payOut_11 : decode cX10_payOut 11 = .ok (.ifCond .ne 12, 3) := by decide +kernel
theorem dX10_payOut_14 : decode cX10_payOut 14 = .ok (.aload_n 0, 1) := by decide +kernel
theorem dX10_payOut_15 : decode cX10_payOut 15 = .ok (.getfield 31, 3) := by decide +kernel
theorem dX10_payOut_18 : decode cX10_payOut 18 = .ok (.iload_n 3, 1) := by decide +kernel
theorem dX10_payOut_19 : decode cX10_payOut 19 = .ok (.iaload, 1) := by decide +kernel
theorem dX10_payOut_20 : decode cX10_payOut 20 = .ok (.goto 23, 3) := by decide +kernel
theorem dX10_payOut_23 : decode cX10_payOut 23 = .ok (.aload_n 0, 1) := by decide +kernel
theorem dX10_payOut_24 : decode cX10_payOut 24 = .ok (.getfield 31, 3) := by decide +kernel
theorem dX10_payOut_27 : decode cX10_payOut 27 = .ok (.iload_n 3, 1) := by decide +kernel
theorem dX10_payOut_28 : decode cX10_payOut 28 = .ok (.iaload, 1) := by decide +kernel
theorem dX10_payOut_29 : decode cX10_payOut 29 = .ok (.aload_n 0, 1) := by decide +kernel
theorem dX10_payOut_30 : decode cX10_payOut 30 = .ok (.getfield 40, 3) := by decide +kernel
theorem dX10_payOut_33 : decode cX10_payOut 33 = .ok (.iload_n 1, 1) := by decide +kernel
theorem dX10_payOut_34 : decode cX10_payOut 34 = .ok (.iaload, 1) := by decide +kernel
theorem dX10_payOut_35 : decode cX10_payOut 35 = .ok (.aload_n 0, 1) := by decide +kernel
theorem dX10_payOut_36 : decode cX10_payOut 36 = .ok (.getfield 288, 3) := by decide +kernel
theorem dX10_payOut_39 : decode cX10_payOut 39 = .ok (.idiv, 1) := by decide +kernel
theorem dX10_payOut_40 : decode cX10_payOut 40 = .ok (.invokestatic 167, 3) := by decide +kernel
theorem dX10_payOut_43 : decode cX10_payOut 43 = .ok (.istore 4, 2) := by decide +kernel
theorem dX10_payOut_45 : decode cX10_payOut 45 = .ok (.iload 4, 2) := by decide +kernel
theorem dX10_payOut_47 : decode cX10_payOut 47 = .ok (.aload_n 0, 1) := by decide +kernel
theorem dX10_payOut_48 : decode cX10_payOut 48 = .ok (.getfield 31, 3) := by decide +kernel
theorem dX10_payOut_51 : decode cX10_payOut 51 = .ok (.iload_n 3, 1) := by decide +kernel
theorem dX10_payOut_52 : decode cX10_payOut 52 = .ok (.iaload, 1) := by decide +kernel
theorem dX10_payOut_53 : decode cX10_payOut 53 = .ok (.if_icmp .ne 7, 3) := by decide +kernel
theorem dX10_payOut_56 : decode cX10_payOut 56 = .ok (.iconst 1, 1) := by decide +kernel
theorem dX10_payOut_57 : decode cX10_payOut 57 = .ok (.goto 4, 3) := by decide +kernel
theorem dX10_payOut_60 : decode cX10_payOut 60 = .ok (.iconst 0, 1) := by decide +kernel
theorem dX10_payOut_61 : decode cX10_payOut 61 = .ok (.istore 5, 2) := by decide +kernel
theorem dX10_payOut_63 : decode cX10_payOut 63 = .ok (.aload_n 0, 1) := by decide +kernel
theorem dX10_payOut_64 : decode cX10_payOut 64 = .ok (.getfield 40, 3) := by decide +kernel
theorem dX10_payOut_67 : decode cX10_payOut 67 = .ok (.iload_n 1, 1) := by decide +kernel
theorem dX10_payOut_68 : decode cX10_payOut 68 = .ok (.dup2, 1) := by decide +kernel
theorem dX10_payOut_69 : decode cX10_payOut 69 = .ok (.iaload, 1) := by decide +kernel
theorem dX10_payOut_70 : decode cX10_payOut 70 = .ok (.iload 4, 2) := by decide +kernel
theorem dX10_payOut_72 : decode cX10_payOut 72 = .ok (.aload_n 0, 1) := by decide +kernel
theorem dX10_payOut_73 : decode cX10_payOut 73 = .ok (.getfield 288, 3) := by decide +kernel
theorem dX10_payOut_76 : decode cX10_payOut 76 = .ok (.imul, 1) := by decide +kernel
theorem dX10_payOut_77 : decode cX10_payOut 77 = .ok (.isub, 1) := by decide +kernel
theorem dX10_payOut_78 : decode cX10_payOut 78 = .ok (.iastore, 1) := by decide +kernel
theorem dX10_payOut_79 : decode cX10_payOut 79 = .ok (.aload_n 0, 1) := by decide +kernel
theorem dX10_payOut_80 : decode cX10_payOut 80 = .ok (.getfield 34, 3) := by decide +kernel
theorem dX10_payOut_83 : decode cX10_payOut 83 = .ok (.iload_n 3, 1) := by decide +kernel
theorem dX10_payOut_84 : decode cX10_payOut 84 = .ok (.dup2, 1) := by decide +kernel
theorem dX10_payOut_85 : decode cX10_payOut 85 = .ok (.iaload, 1) := by decide +kernel
theorem dX10_payOut_86 : decode cX10_payOut 86 = .ok (.iload 5, 2) := by decide +kernel
theorem dX10_payOut_88 : decode cX10_payOut 88 = .ok (.ifCond .eq 10, 3) := by decide +kernel
theorem dX10_payOut_91 : decode cX10_payOut 91 = .ok (.aload_n 0, 1) := by decide +kernel
theorem dX10_payOut_92 : decode cX10_payOut 92 = .ok (.getfield 288, 3) := by decide +kernel
theorem dX10_payOut_95 : decode cX10_payOut 95 = .ok (.goto 4, 3) := by decide +kernel
theorem dX10_payOut_98 : decode cX10_payOut 98 = .ok (.iconst 0, 1) := by decide +kernel
theorem dX10_payOut_99 : decode cX10_payOut 99 = .ok (.aload_n 0, 1) := by decide +kernel
theorem dX10_payOut_100 : decode cX10_payOut 100 = .ok (.getfield 291, 3) := by decide +kernel
theorem dX10_payOut_103 : decode cX10_payOut 103 = .ok (.isub, 1) := by decide +kernel
theorem dX10_payOut_104 : decode cX10_payOut 104 = .ok (.iadd, 1) := by decide +kernel
theorem dX10_payOut_105 : decode cX10_payOut 105 = .ok (.iastore, 1) := by decide +kernel
theorem dX10_payOut_106 : decode cX10_payOut 106 = .ok (.aload_n 0, 1) := by decide +kernel
theorem dX10_payOut_107 : decode cX10_payOut 107 = .ok (.getfield 34, 3) := by decide +kernel
theorem dX10_payOut_110 : decode cX10_payOut 110 = .ok (.iload_n 3, 1) := by decide +kernel
theorem dX10_payOut_111 : decode cX10_payOut 111 = .ok (.iaload, 1) := by decide +kernel
theorem dX10_payOut_112 : decode cX10_payOut 112 = .ok (.ifCond .ge 62, 3) := by decide +kernel
theorem dX10_payOut_115 : decode cX10_payOut 115 = .ok (.aload_n 0, 1) := by decide +kernel
theorem dX10_payOut_116 : decode cX10_payOut 116 = .ok (.getfield 34, 3) := by decide +kernel
theorem dX10_payOut_119 : decode cX10_payOut 119 = .ok (.iload_n 3, 1) := by decide +kernel
theorem dX10_payOut_120 : decode cX10_payOut 120 = .ok (.iconst 0, 1) := by decide +kernel
theorem dX10_payOut_121 : decode cX10_payOut 121 = .ok (.iastore, 1) := by decide +kernel
theorem dX10_payOut_122 : decode cX10_payOut 122 = .ok (.aload_n 0, 1) := by decide +kernel
theorem dX10_payOut_123 : decode cX10_payOut 123 = .ok (.getfield 31, 3) := by decide +kernel
theorem dX10_payOut_126 : decode cX10_payOut 126 = .ok (.iload_n 3, 1) := by decide +kernel
theorem dX10_payOut_127 : decode cX10_payOut 127 = .ok (.iaload, 1) := by decide +kernel
theorem dX10_payOut_128 : decode cX10_payOut 128 = .ok (.aload_n 0, 1) := by decide +kernel
theorem dX10_payOut_129 : decode cX10_payOut 129 = .ok (.getfield 294, 3) := by decide +kernel
theorem dX10_payOut_132 : decode cX10_payOut 132 = .ok (.imul, 1) := by decide +kernel
theorem dX10_payOut_133 : decode cX10_payOut 133 = .ok (.bipush 100, 2) := by decide +kernel
theorem dX10_payOut_135 : decode cX10_payOut 135 = .ok (.idiv, 1) := by decide +kernel
theorem dX10_payOut_136 : decode cX10_payOut 136 = .ok (.istore 6, 2) := by decide +kernel
theorem dX10_payOut_138 : decode cX10_payOut 138 = .ok (.iload 6, 2) := by decide +kernel
theorem dX10_payOut_140 : decode cX10_payOut 140 = .ok (.iconst 1, 1) := by decide +kernel
theorem dX10_payOut_141 : decode cX10_payOut 141 = .ok (.if_icmp .ge 7, 3) := by decide +kernel
theorem dX10_payOut_144 : decode cX10_payOut 144 = .ok (.iconst 1, 1) := by decide +kernel
theorem dX10_payOut_145 : decode cX10_payOut 145 = .ok (.goto 5, 3) := by decide +kernel
theorem dX10_payOut_148 : decode cX10_payOut 148 = .ok (.iload 6, 2) := by decide +kernel
theorem dX10_payOut_150 : decode cX10_payOut 150 = .ok (.istore 6, 2) := by decide +kernel
theorem dX10_payOut_152 : decode cX10_payOut 152 = .ok (.aload_n 0, 1) := by decide +kernel
theorem dX10_payOut_153 : decode cX10_payOut 153 = .ok (.getfield 31, 3) := by decide +kernel
theorem dX10_payOut_156 : decode cX10_payOut 156 = .ok (.iload_n 3, 1) := by decide +kernel
theorem dX10_payOut_157 : decode cX10_payOut 157 = .ok (.dup2, 1) := by decide +kernel
theorem dX10_payOut_158 : decode cX10_payOut 158 = .ok (.iaload, 1) := by decide +kernel
theorem dX10_payOut_159 : decode cX10_payOut 159 = .ok (.iload 6, 2) := by decide +kernel
theorem dX10_payOut_161 : decode cX10_payOut 161 = .ok (.isub, 1) := by decide +kernel
theorem dX10_payOut_162 : decode cX10_payOut 162 = .ok (.iastore, 1) := by decide +kernel
theorem dX10_payOut_163 : decode cX10_payOut 163 = .ok (.aload_n 0, 1) := by decide +kernel
theorem dX10_payOut_164 : decode cX10_payOut 164 = .ok (.getfield 37, 3) := by decide +kernel
theorem dX10_payOut_167 : decode cX10_payOut 167 = .ok (.iload_n 3, 1) := by decide +kernel
theorem dX10_payOut_168 : decode cX10_payOut 168 = .ok (.dup2, 1) := by decide +kernel
theorem dX10_payOut_169 : decode cX10_payOut 169 = .ok (.iaload, 1) := by decide +kernel
theorem dX10_payOut_170 : decode cX10_payOut 170 = .ok (.iload 6, 2) := by decide +kernel
theorem dX10_payOut_172 : decode cX10_payOut 172 = .ok (.iadd, 1) := by decide +kernel
theorem dX10_payOut_173 : decode cX10_payOut 173 = .ok (.iastore, 1) := by decide +kernel
theorem dX10_payOut_174 : decode cX10_payOut 174 = .ok (.return_, 1) := by decide +kernel
theorem dX10_sendOff_0 : decode cX10_sendOff 0 = .ok (.iconst 0, 1) := by decide +kernel
theorem dX10_sendOff_1 : decode cX10_sendOff 1 = .ok (.istore_n 2, 1) := by decide +kernel
theorem dX10_sendOff_2 : decode cX10_sendOff 2 = .ok (.iload_n 2, 1) := by decide +kernel
theorem dX10_sendOff_3 : decode cX10_sendOff 3 = .ok (.aload_n 0, 1) := by decide +kernel
theorem dX10_sendOff_4 : decode cX10_sendOff 4 = .ok (.getfield 308, 3) := by decide +kernel
theorem dX10_sendOff_7 : decode cX10_sendOff 7 = .ok (.if_icmp .ge 181, 3) := by decide +kernel
theorem dX10_sendOff_10 : decode cX10_sendOff 10 = .ok (.aload_n 0, 1) := by decide +kernel
theorem dX10_sendOff_11 : decode cX10_sendOff 11 = .ok (.getfield 93, 3) := by decide +kernel
theorem dX10_sendOff_14 : decode cX10_sendOff 14 = .ok (.aload_n 0, 1) := by decide +kernel
theorem dX10_sendOff_15 : decode cX10_sendOff 15 = .ok (.getfield 96, 3) := by decide +kernel
theorem dX10_sendOff_18 : decode cX10_sendOff 18 = .ok (.iload_n 2, 1) := by decide +kernel
theorem dX10_sendOff_19 : decode cX10_sendOff 19 = .ok (.iaload, 1) := by decide +kernel
theorem dX10_sendOff_20 : decode cX10_sendOff 20 = .ok (.iaload, 1) := by decide +kernel
theorem dX10_sendOff_21 : decode cX10_sendOff 21 = .ok (.istore_n 3, 1) := by decide +kernel
theorem dX10_sendOff_22 : decode cX10_sendOff 22 = .ok (.aload_n 0, 1) := by decide +kernel
theorem dX10_sendOff_23 : decode cX10_sendOff 23 = .ok (.getfield 114, 3) := by decide +kernel
theorem dX10_sendOff_26 : decode cX10_sendOff 26 = .ok (.iload_n 2, 1) := by decide +kernel
theorem dX10_sendOff_27 : decode cX10_sendOff 27 = .ok (.iaload, 1) := by decide +kernel
theorem dX10_sendOff_28 : decode cX10_sendOff 28 = .ok (.ifCond .ne 154, 3) := by decide +kernel
theorem dX10_sendOff_31 : decode cX10_sendOff 31 = .ok (.aload_n 0, 1) := by decide +kernel
theorem dX10_sendOff_32 : decode cX10_sendOff 32 = .ok (.getfield 108, 3) := by decide +kernel
theorem dX10_sendOff_35 : decode cX10_sendOff 35 = .ok (.iload_n 2, 1) := by decide +kernel
theorem dX10_sendOff_36 : decode cX10_sendOff 36 = .ok (.iaload, 1) := by decide +kernel
theorem dX10_sendOff_37 : decode cX10_sendOff 37 = .ok (.iload_n 1, 1) := by decide +kernel
theorem dX10_sendOff_38 : decode cX10_sendOff 38 = .ok (.if_icmp .gt 144, 3) := by decide +kernel
theorem dX10_sendOff_41 : decode cX10_sendOff 41 = .ok (.aload_n 0, 1) := by decide +kernel
theorem dX10_sendOff_42 : decode cX10_sendOff 42 = .ok (.getfield 111, 3) := by decide +kernel
theorem dX10_sendOff_45 : decode cX10_sendOff 45 = .ok (.iload_n 2, 1) := by decide +kernel
theorem dX10_sendOff_46 : decode cX10_sendOff 46 = .ok (.iaload, 1) := by decide +kernel
theorem dX10_sendOff_47 : decode cX10_sendOff 47 = .ok (.iload_n 3, 1) := by decide +kernel
theorem dX10_sendOff_48 : decode cX10_sendOff 48 = .ok (.iand, 1) := by decide +kernel
theorem dX10_sendOff_49 : decode cX10_sendOff 49 = .ok (.iload_n 3, 1) := by decide +kernel
theorem dX10_sendOff_50 : decode cX10_sendOff 50 = .ok (.if_icmp .ne 132, 3) := by decide +kernel
theorem dX10_sendOff_53 : decode cX10_sendOff 53 = .ok (.aload_n 0, 1) := by decide +kernel
theorem dX10_sendOff_54 : decode cX10_sendOff 54 = .ok (.aload_n 0, 1) := by decide +kernel
theorem dX10_sendOff_55 : decode cX10_sendOff 55 = .ok (.getfield 102, 3) := by decide +kernel
theorem dX10_sendOff_58 : decode cX10_sendOff 58 = .ok (.iload_n 2, 1) := by decide +kernel
theorem dX10_sendOff_59 : decode cX10_sendOff 59 = .ok (.iaload, 1) := by decide +kernel
theorem dX10_sendOff_60 : decode cX10_sendOff 60 = .ok (.aload_n 0, 1) := by decide +kernel
theorem dX10_sendOff_61 : decode cX10_sendOff 61 = .ok (.getfield 105, 3) := by decide +kernel
theorem dX10_sendOff_64 : decode cX10_sendOff 64 = .ok (.iload_n 2, 1) := by decide +kernel
theorem dX10_sendOff_65 : decode cX10_sendOff 65 = .ok (.iaload, 1) := by decide +kernel
theorem dX10_sendOff_66 : decode cX10_sendOff 66 = .ok (.invokevirtual 171, 3) := by decide +kernel
theorem dX10_sendOff_69 : decode cX10_sendOff 69 = .ok (.istore 4, 2) := by decide +kernel
theorem dX10_sendOff_71 : decode cX10_sendOff 71 = .ok (.iconst 3, 1) := by decide +kernel
theorem dX10_sendOff_72 : decode cX10_sendOff 72 = .ok (.aload_n 0, 1) := by decide +kernel
theorem dX10_sendOff_73 : decode cX10_sendOff 73 = .ok (.getfield 102, 3) := by decide +kernel
theorem dX10_sendOff_76 : decode cX10_sendOff 76 = .ok (.iload_n 2, 1) := by decide +kernel
theorem dX10_sendOff_77 : decode cX10_sendOff 77 = .ok (.iaload, 1) := by decide +kernel
theorem dX10_sendOff_78 : decode cX10_sendOff 78 = .ok (.imul, 1) := by decide +kernel
theorem dX10_sendOff_79 : decode cX10_sendOff 79 = .ok (.aload_n 0, 1) := by decide +kernel
theorem dX10_sendOff_80 : decode cX10_sendOff 80 = .ok (.getfield 96, 3) := by decide +kernel
theorem dX10_sendOff_83 : decode cX10_sendOff 83 = .ok (.iload_n 2, 1) := by decide +kernel
theorem dX10_sendOff_84 : decode cX10_sendOff 84 = .ok (.iaload, 1) := by decide +kernel
theorem dX10_sendOff_85 : decode cX10_sendOff 85 = .ok (.iadd, 1) := by decide +kernel
theorem dX10_sendOff_86 : decode cX10_sendOff 86 = .ok (.istore 5, 2) := by decide +kernel
theorem dX10_sendOff_88 : decode cX10_sendOff 88 = .ok (.iload 4, 2) := by decide +kernel
theorem dX10_sendOff_90 : decode cX10_sendOff 90 = .ok (.ifCond .ge 13, 3) := by decide +kernel
theorem dX10_sendOff_93 : decode cX10_sendOff 93 = .ok (.aload_n 0, 1) := by decide +kernel
theorem dX10_sendOff_94 : decode cX10_sendOff 94 = .ok (.getfield 114, 3) := by decide +kernel
theorem dX10_sendOff_97 : decode cX10_sendOff 97 = .ok (.iload_n 2, 1) := by decide +kernel
theorem dX10_sendOff_98 : decode cX10_sendOff 98 = .ok (.iconst 3, 1) := by decide +kernel
theorem dX10_sendOff_99 : decode cX10_sendOff 99 = .ok (.iastore, 1) := by decide +kernel
theorem dX10_sendOff_100 : decode cX10_sendOff 100 = .ok (.goto 82, 3) := by decide +kernel
theorem dX10_sendOff_103 : decode cX10_sendOff 103 = .ok (.aload_n 0, 1) := by decide +kernel
theorem dX10_sendOff_104 : decode cX10_sendOff 104 = .ok (.getfield 13, 3) := by decide +kernel
theorem dX10_sendOff_107 : decode cX10_sendOff 107 = .ok (.iload 5, 2) := by decide +kernel
theorem dX10_sendOff_109 : decode cX10_sendOff 109 = .ok (.iaload, 1) := by decide +kernel
theorem dX10_sendOff_110 : decode cX10_sendOff 110 = .ok (.aload_n 0, 1) := by decide +kernel
theorem dX10_sendOff_111 : decode cX10_sendOff 111 = .ok (.getfield 99, 3) := by decide +kernel
theorem dX10_sendOff_114 : decode cX10_sendOff 114 = .ok (.iload_n 2, 1) := by decide +kernel
theorem dX10_sendOff_115 : decode cX10_sendOff 115 = .ok (.iaload, 1) := by decide +kernel
theorem dX10_sendOff_116 : decode cX10_sendOff 116 = .ok (.if_icmp .lt 66, 3) := by decide +kernel
theorem dX10_sendOff_119 : decode cX10_sendOff 119 = .ok (.aload_n 0, 1) := by decide +kernel
theorem dX10_sendOff_120 : decode cX10_sendOff 120 = .ok (.getfield 13, 3) := by decide +kernel
theorem dX10_sendOff_123 : decode cX10_sendOff 123 = .ok (.iload 5, 2) := by decide +kernel
theorem dX10_sendOff_125 : decode cX10_sendOff 125 = .ok (.dup2, 1) := by decide +kernel
theorem dX10_sendOff_126 : decode cX10_sendOff 126 = .ok (.iaload, 1) := by decide +kernel
theorem dX10_sendOff_127 : decode cX10_sendOff 127 = .ok (.aload_n 0, 1) := by decide +kernel
theorem dX10_sendOff_128 : decode cX10_sendOff 128 = .ok (.getfield 99, 3) := by decide +kernel
theorem dX10_sendOff_131 : decode cX10_sendOff 131 = .ok (.iload_n 2, 1) := by decide +kernel
theorem dX10_sendOff_132 : decode cX10_sendOff 132 = .ok (.iaload, 1) := by decide +kernel
theorem dX10_sendOff_133 : decode cX10_sendOff 133 = .ok (.isub, 1) := by decide +kernel
theorem dX10_sendOff_134 : decode cX10_sendOff 134 = .ok (.iastore, 1) := by decide +kernel
theorem dX10_sendOff_135 : decode cX10_sendOff 135 = .ok (.aload_n 0, 1) := by decide +kernel
theorem dX10_sendOff_136 : decode cX10_sendOff 136 = .ok (.getfield 114, 3) := by decide +kernel
theorem dX10_sendOff_139 : decode cX10_sendOff 139 = .ok (.iload_n 2, 1) := by decide +kernel
theorem dX10_sendOff_140 : decode cX10_sendOff 140 = .ok (.iconst 1, 1) := by decide +kernel
theorem dX10_sendOff_141 : decode cX10_sendOff 141 = .ok (.iastore, 1) := by decide +kernel
theorem dX10_sendOff_142 : decode cX10_sendOff 142 = .ok (.aload_n 0, 1) := by decide +kernel
theorem dX10_sendOff_143 : decode cX10_sendOff 143 = .ok (.getfield 117, 3) := by decide +kernel
theorem dX10_sendOff_146 : decode cX10_sendOff 146 = .ok (.iload_n 2, 1) := by decide +kernel
theorem dX10_sendOff_147 : decode cX10_sendOff 147 = .ok (.iload_n 1, 1) := by decide +kernel
theorem dX10_sendOff_148 : decode cX10_sendOff 148 = .ok (.iastore, 1) := by decide +kernel
theorem dX10_sendOff_149 : decode cX10_sendOff 149 = .ok (.aload_n 0, 1) := by decide +kernel
theorem dX10_sendOff_150 : decode cX10_sendOff 150 = .ok (.getfield 120, 3) := by decide +kernel
theorem dX10_sendOff_153 : decode cX10_sendOff 153 = .ok (.iload_n 2, 1) := by decide +kernel
theorem dX10_sendOff_154 : decode cX10_sendOff 154 = .ok (.iload_n 1, 1) := by decide +kernel
theorem dX10_sendOff_155 : decode cX10_sendOff 155 = .ok (.iload 4, 2) := by decide +kernel
theorem dX10_sendOff_157 : decode cX10_sendOff 157 = .ok (.aload_n 0, 1) := by decide +kernel
theorem dX10_sendOff_158 : decode cX10_sendOff 158 = .ok (.getfield 31, 3) := by decide +kernel
theorem dX10_sendOff_161 : decode cX10_sendOff 161 = .ok (.aload_n 0, 1) := by decide +kernel
theorem dX10_sendOff_162 : decode cX10_sendOff 162 = .ok (.getfield 102, 3) := by decide +kernel
theorem dX10_sendOff_165 : decode cX10_sendOff 165 = .ok (.iload_n 2, 1) := by decide +kernel
theorem dX10_sendOff_166 : decode cX10_sendOff 166 = .ok (.iaload, 1) := by decide +kernel
theorem dX10_sendOff_167 : decode cX10_sendOff 167 = .ok (.iaload, 1) := by decide +kernel
theorem dX10_sendOff_168 : decode cX10_sendOff 168 = .ok (.ifCond .le 10, 3) := by decide +kernel
theorem dX10_sendOff_171 : decode cX10_sendOff 171 = .ok (.aload_n 0, 1) := by decide +kernel
theorem dX10_sendOff_172 : decode cX10_sendOff 172 = .ok (.getfield 297, 3) := by decide +kernel
theorem dX10_sendOff_175 : decode cX10_sendOff 175 = .ok (.goto 4, 3) := by decide +kernel
theorem dX10_sendOff_178 : decode cX10_sendOff 178 = .ok (.iconst 1, 1) := by decide +kernel
theorem dX10_sendOff_179 : decode cX10_sendOff 179 = .ok (.imul, 1) := by decide +kernel
theorem dX10_sendOff_180 : decode cX10_sendOff 180 = .ok (.iadd, 1) := by decide +kernel
theorem dX10_sendOff_181 : decode cX10_sendOff 181 = .ok (.iastore, 1) := by decide +kernel
theorem dX10_sendOff_182 : decode cX10_sendOff 182 = .ok (.iinc 2 1, 3) := by decide +kernel
theorem dX10_sendOff_185 : decode cX10_sendOff 185 = .ok (.goto (-183), 3) := by decide +kernel
theorem dX10_sendOff_188 : decode cX10_sendOff 188 = .ok (.return_, 1) := by decide +kernel
theorem dX10_useUp_0 : decode cX10_useUp 0 = .ok (.iconst 0, 1) := by decide +kernel
theorem dX10_useUp_1 : decode cX10_useUp 1 = .ok (.istore_n 2, 1) := by decide +kernel
theorem dX10_useUp_2 : decode cX10_useUp 2 = .ok (.iconst 0, 1) := by decide +kernel
theorem dX10_useUp_3 : decode cX10_useUp 3 = .ok (.istore_n 3, 1) := by decide +kernel
theorem dX10_useUp_4 : decode cX10_useUp 4 = .ok (.iload_n 3, 1) := by decide +kernel
theorem dX10_useUp_5 : decode cX10_useUp 5 = .ok (.bipush 24, 2) := by decide +kernel
theorem dX10_useUp_7 : decode cX10_useUp 7 = .ok (.if_icmp .ge 94, 3) := by decide +kernel
theorem dX10_useUp_10 : decode cX10_useUp 10 = .ok (.aload_n 0, 1) := by decide +kernel
theorem dX10_useUp_11 : decode cX10_useUp 11 = .ok (.getfield 13, 3) := by decide +kernel
theorem dX10_useUp_14 : decode cX10_useUp 14 = .ok (.iload_n 3, 1) := by decide +kernel
theorem dX10_useUp_15 : decode cX10_useUp 15 = .ok (.iaload, 1) := by decide +kernel
theorem dX10_useUp_16 : decode cX10_useUp 16 = .ok (.aload_n 0, 1) := by decide +kernel
theorem dX10_useUp_17 : decode cX10_useUp 17 = .ok (.getfield 19, 3) := by decide +kernel
theorem dX10_useUp_20 : decode cX10_useUp 20 = .ok (.iload_n 3, 1) := by decide +kernel
theorem dX10_useUp_21 : decode cX10_useUp 21 = .ok (.iaload, 1) := by decide +kernel
theorem dX10_useUp_22 : decode cX10_useUp 22 = .ok (.invokestatic 167, 3) := by decide +kernel
theorem dX10_useUp_25 : decode cX10_useUp 25 = .ok (.istore 4, 2) := by decide +kernel
theorem dX10_useUp_27 : decode cX10_useUp 27 = .ok (.aload_n 0, 1) := by decide +kernel
theorem dX10_useUp_28 : decode cX10_useUp 28 = .ok (.getfield 19, 3) := by decide +kernel
theorem dX10_useUp_31 : decode cX10_useUp 31 = .ok (.iload_n 3, 1) := by decide +kernel
theorem dX10_useUp_32 : decode cX10_useUp 32 = .ok (.iaload, 1) := by decide +kernel
theorem dX10_useUp_33 : decode cX10_useUp 33 = .ok (.iload 4, 2) := by decide +kernel
theorem dX10_useUp_35 : decode cX10_useUp 35 = .ok (.isub, 1) := by decide +kernel
theorem dX10_useUp_36 : decode cX10_useUp 36 = .ok (.istore 5, 2) := by decide +kernel
theorem dX10_useUp_38 : decode cX10_useUp 38 = .ok (.aload_n 0, 1) := by decide +kernel
theorem dX10_useUp_39 : decode cX10_useUp 39 = .ok (.getfield 13, 3) := by decide +kernel
theorem dX10_useUp_42 : decode cX10_useUp 42 = .ok (.iload_n 3, 1) := by decide +kernel
theorem dX10_useUp_43 : decode cX10_useUp 43 = .ok (.dup2, 1) := by decide +kernel
theorem dX10_useUp_44 : decode cX10_useUp 44 = .ok (.iaload, 1) := by decide +kernel
theorem dX10_useUp_45 : decode cX10_useUp 45 = .ok (.iload 4, 2) := by decide +kernel
theorem dX10_useUp_47 : decode cX10_useUp 47 = .ok (.isub, 1) := by decide +kernel
theorem dX10_useUp_48 : decode cX10_useUp 48 = .ok (.iastore, 1) := by decide +kernel
theorem dX10_useUp_49 : decode cX10_useUp 49 = .ok (.aload_n 0, 1) := by decide +kernel
theorem dX10_useUp_50 : decode cX10_useUp 50 = .ok (.getfield 22, 3) := by decide +kernel
theorem dX10_useUp_53 : decode cX10_useUp 53 = .ok (.iload_n 3, 1) := by decide +kernel
theorem dX10_useUp_54 : decode cX10_useUp 54 = .ok (.dup2, 1) := by decide +kernel
theorem dX10_useUp_55 : decode cX10_useUp 55 = .ok (.iaload, 1) := by decide +kernel
theorem dX10_useUp_56 : decode cX10_useUp 56 = .ok (.iload 5, 2) := by decide +kernel
theorem dX10_useUp_58 : decode cX10_useUp 58 = .ok (.iadd, 1) := by decide +kernel
theorem dX10_useUp_59 : decode cX10_useUp 59 = .ok (.iastore, 1) := by decide +kernel
theorem dX10_useUp_60 : decode cX10_useUp 60 = .ok (.aload_n 0, 1) := by decide +kernel
theorem dX10_useUp_61 : decode cX10_useUp 61 = .ok (.getfield 25, 3) := by decide +kernel
theorem dX10_useUp_64 : decode cX10_useUp 64 = .ok (.iload_n 3, 1) := by decide +kernel
theorem dX10_useUp_65 : decode cX10_useUp 65 = .ok (.iload 5, 2) := by decide +kernel
theorem dX10_useUp_67 : decode cX10_useUp 67 = .ok (.ifCond .le 16, 3) := by decide +kernel
theorem dX10_useUp_70 : decode cX10_useUp 70 = .ok (.aload_n 0, 1) := by decide +kernel
theorem dX10_useUp_71 : decode cX10_useUp 71 = .ok (.getfield 25, 3) := by decide +kernel
theorem dX10_useUp_74 : decode cX10_useUp 74 = .ok (.iload_n 3, 1) := by decide +kernel
theorem dX10_useUp_75 : decode cX10_useUp 75 = .ok (.iaload, 1) := by decide +kernel
theorem dX10_useUp_76 : decode cX10_useUp 76 = .ok (.ifCond .ge 7, 3) := by decide +kernel
theorem dX10_useUp_79 : decode cX10_useUp 79 = .ok (.iload_n 1, 1) := by decide +kernel
theorem dX10_useUp_80 : decode cX10_useUp 80 = .ok (.goto 9, 3) := by decide +kernel
theorem dX10_useUp_83 : decode cX10_useUp 83 = .ok (.aload_n 0, 1) := by decide +kernel
theorem dX10_useUp_84 : decode cX10_useUp 84 = .ok (.getfield 25, 3) := by decide +kernel
theorem dX10_useUp_87 : decode cX10_useUp 87 = .ok (.iload_n 3, 1) := by decide +kernel
theorem dX10_useUp_88 : decode cX10_useUp 88 = .ok (.iaload, 1) := by decide +kernel
theorem dX10_useUp_89 : decode cX10_useUp 89 = .ok (.iastore, 1) := by decide +kernel
theorem dX10_useUp_90 : decode cX10_useUp 90 = .ok (.iload_n 2, 1) := by decide +kernel
theorem dX10_useUp_91 : decode cX10_useUp 91 = .ok (.iload 5, 2) := by decide +kernel
theorem dX10_useUp_93 : decode cX10_useUp 93 = .ok (.iadd, 1) := by decide +kernel
theorem dX10_useUp_94 : decode cX10_useUp 94 = .ok (.istore_n 2, 1) := by decide +kernel
theorem dX10_useUp_95 : decode cX10_useUp 95 = .ok (.iinc 3 1, 3) := by decide +kernel
theorem dX10_useUp_98 : decode cX10_useUp 98 = .ok (.goto (-94), 3) := by decide +kernel
theorem dX10_useUp_101 : decode cX10_useUp 101 = .ok (.iload_n 2, 1) := by decide +kernel
theorem dX10_useUp_102 : decode cX10_useUp 102 = .ok (.ireturn, 1) := by decide +kernel
theorem dX10_doHour_0 : decode cX10_doHour 0 = .ok (.aload_n 0, 1) := by decide +kernel
theorem dX10_doHour_1 : decode cX10_doHour 1 = .ok (.iload_n 1, 1) := by decide +kernel
theorem dX10_doHour_2 : decode cX10_doHour 2 = .ok (.invokevirtual 305, 3) := by decide +kernel
theorem dX10_doHour_5 : decode cX10_doHour 5 = .ok (.aload_n 0, 1) := by decide +kernel
theorem dX10_doHour_6 : decode cX10_doHour 6 = .ok (.iload_n 1, 1) := by decide +kernel
theorem dX10_doHour_7 : decode cX10_doHour 7 = .ok (.invokevirtual 317, 3) := by decide +kernel
theorem dX10_doHour_10 : decode cX10_doHour 10 = .ok (.aload_n 0, 1) := by decide +kernel
theorem dX10_doHour_11 : decode cX10_doHour 11 = .ok (.iload_n 1, 1) := by decide +kernel
theorem dX10_doHour_12 : decode cX10_doHour 12 = .ok (.invokevirtual 320, 3) := by decide +kernel
theorem dX10_doHour_15 : decode cX10_doHour 15 = .ok (.iconst 0, 1) := by decide +kernel
theorem dX10_doHour_16 : decode cX10_doHour 16 = .ok (.istore_n 2, 1) := by decide +kernel
theorem dX10_doHour_17 : decode cX10_doHour 17 = .ok (.iload_n 2, 1) := by decide +kernel
theorem dX10_doHour_18 : decode cX10_doHour 18 = .ok (.bipush 6, 2) := by decide +kernel
theorem dX10_doHour_20 : decode cX10_doHour 20 = .ok (.if_icmp .ge 54, 3) := by decide +kernel
theorem dX10_doHour_23 : decode cX10_doHour 23 = .ok (.iload_n 1, 1) := by decide +kernel
theorem dX10_doHour_24 : decode cX10_doHour 24 = .ok (.ifCond .le 50, 3) := by decide +kernel
theorem dX10_doHour_27 : decode cX10_doHour 27 = .ok (.iload_n 1, 1) := by decide +kernel
theorem dX10_doHour_28 : decode cX10_doHour 28 = .ok (.bipush 24, 2) := by decide +kernel
theorem dX10_doHour_30 : decode cX10_doHour 30 = .ok (.irem, 1) := by decide +kernel
theorem dX10_doHour_31 : decode cX10_doHour 31 = .ok (.ifCond .ne 43, 3) := by decide +kernel
theorem dX10_doHour_34 : decode cX10_doHour 34 = .ok (.iconst 0, 1) := by decide +kernel
theorem dX10_doHour_35 : decode cX10_doHour 35 = .ok (.istore_n 3, 1) := by decide +kernel
theorem dX10_doHour_36 : decode cX10_doHour 36 = .ok (.iload_n 3, 1) := by decide +kernel
theorem dX10_doHour_37 : decode cX10_doHour 37 = .ok (.bipush 8, 2) := by decide +kernel
theorem dX10_doHour_39 : decode cX10_doHour 39 = .ok (.if_icmp .ge 29, 3) := by decide +kernel
theorem dX10_doHour_42 : decode cX10_doHour 42 = .ok (.aload_n 0, 1) := by decide +kernel
theorem dX10_doHour_43 : decode cX10_doHour 43 = .ok (.getfield 31, 3) := by decide +kernel
theorem dX10_doHour_46 : decode cX10_doHour 46 = .ok (.bipush 8, 2) := by decide +kernel
theorem dX10_doHour_48 : decode cX10_doHour 48 = .ok (.iload_n 2, 1) := by decide +kernel
theorem dX10_doHour_49 : decode cX10_doHour 49 = .ok (.imul, 1) := by decide +kernel
theorem dX10_doHour_50 : decode cX10_doHour 50 = .ok (.iload_n 3, 1) := by decide +kernel
theorem dX10_doHour_51 : decode cX10_doHour 51 = .ok (.iadd, 1) := by decide +kernel
theorem dX10_doHour_52 : decode cX10_doHour 52 = .ok (.iaload, 1) := by decide +kernel
theorem dX10_doHour_53 : decode cX10_doHour 53 = .ok (.ifCond .le 9, 3) := by decide +kernel
theorem dX10_doHour_56 : decode cX10_doHour 56 = .ok (.aload_n 0, 1) := by decide +kernel
theorem dX10_doHour_57 : decode cX10_doHour 57 = .ok (.iload_n 2, 1) := by decide +kernel
theorem dX10_doHour_58 : decode cX10_doHour 58 = .ok (.iload_n 3, 1) := by decide +kernel
theorem dX10_doHour_59 : decode cX10_doHour 59 = .ok (.invokevirtual 323, 3) := by decide +kernel
theorem dX10_doHour_62 : decode cX10_doHour 62 = .ok (.iinc 3 1, 3) := by decide +kernel
theorem dX10_doHour_65 : decode cX10_doHour 65 = .ok (.goto (-29), 3) := by decide +kernel
theorem dX10_doHour_68 : decode cX10_doHour 68 = .ok (.iinc 2 1, 3) := by decide +kernel
theorem dX10_doHour_71 : decode cX10_doHour 71 = .ok (.goto (-54), 3) := by decide +kernel
theorem dX10_doHour_74 : decode cX10_doHour 74 = .ok (.aload_n 0, 1) := by decide +kernel
theorem dX10_doHour_75 : decode cX10_doHour 75 = .ok (.iload_n 1, 1) := by decide +kernel
theorem dX10_doHour_76 : decode cX10_doHour 76 = .ok (.invokevirtual 326, 3) := by decide +kernel
theorem dX10_doHour_79 : decode cX10_doHour 79 = .ok (.aload_n 0, 1) := by decide +kernel
theorem dX10_doHour_80 : decode cX10_doHour 80 = .ok (.iload_n 1, 1) := by decide +kernel
theorem dX10_doHour_81 : decode cX10_doHour 81 = .ok (.invokevirtual 329, 3) := by decide +kernel
theorem dX10_doHour_84 : decode cX10_doHour 84 = .ok (.ireturn, 1) := by decide +kernel
theorem dX10_go_0 : decode cX10_go 0 = .ok (.iload_n 1, 1) := by decide +kernel
theorem dX10_go_1 : decode cX10_go 1 = .ok (.i2l, 1) := by decide +kernel
theorem dX10_go_2 : decode cX10_go 2 = .ok (.lconst 0, 1) := by decide +kernel
theorem dX10_go_3 : decode cX10_go 3 = .ok (.ldc2_w 332, 3) := by decide +kernel
theorem dX10_go_6 : decode cX10_go 6 = .ok (.invokestatic 150, 3) := by decide +kernel
theorem dX10_go_9 : decode cX10_go 9 = .ok (.ifCond .ne 7, 3) := by decide +kernel
theorem dX10_go_12 : decode cX10_go 12 = .ok (.sipush (-1002), 3) := by decide +kernel
theorem dX10_go_15 : decode cX10_go 15 = .ok (.ireturn, 1) := by decide +kernel
theorem dX10_go_16 : decode cX10_go 16 = .ok (.aload_n 0, 1) := by decide +kernel
theorem dX10_go_17 : decode cX10_go 17 = .ok (.getfield 197, 3) := by decide +kernel
theorem dX10_go_20 : decode cX10_go 20 = .ok (.iload_n 1, 1) := by decide +kernel
theorem dX10_go_21 : decode cX10_go 21 = .ok (.iadd, 1) := by decide +kernel
theorem dX10_go_22 : decode cX10_go 22 = .ok (.sipush 240, 3) := by decide +kernel
theorem dX10_go_25 : decode cX10_go 25 = .ok (.if_icmp .le 7, 3) := by decide +kernel
theorem dX10_go_28 : decode cX10_go 28 = .ok (.sipush (-1003), 3) := by decide +kernel
theorem dX10_go_31 : decode cX10_go 31 = .ok (.ireturn, 1) := by decide +kernel
theorem dX10_go_32 : decode cX10_go 32 = .ok (.iconst 0, 1) := by decide +kernel
theorem dX10_go_33 : decode cX10_go 33 = .ok (.istore_n 2, 1) := by decide +kernel
theorem dX10_go_34 : decode cX10_go 34 = .ok (.iconst 0, 1) := by decide +kernel
theorem dX10_go_35 : decode cX10_go 35 = .ok (.istore_n 3, 1) := by decide +kernel
theorem dX10_go_36 : decode cX10_go 36 = .ok (.iload_n 3, 1) := by decide +kernel
theorem dX10_go_37 : decode cX10_go 37 = .ok (.iload_n 1, 1) := by decide +kernel
theorem dX10_go_38 : decode cX10_go 38 = .ok (.if_icmp .ge 30, 3) := by decide +kernel
theorem dX10_go_41 : decode cX10_go 41 = .ok (.iload_n 2, 1) := by decide +kernel
theorem dX10_go_42 : decode cX10_go 42 = .ok (.aload_n 0, 1) := by decide +kernel
theorem dX10_go_43 : decode cX10_go 43 = .ok (.aload_n 0, 1) := by decide +kernel
theorem dX10_go_44 : decode cX10_go 44 = .ok (.getfield 197, 3) := by decide +kernel
theorem dX10_go_47 : decode cX10_go 47 = .ok (.invokevirtual 334, 3) := by decide +kernel
theorem dX10_go_50 : decode cX10_go 50 = .ok (.iadd, 1) := by decide +kernel
theorem dX10_go_51 : decode cX10_go 51 = .ok (.istore_n 2, 1) := by decide +kernel
theorem dX10_go_52 : decode cX10_go 52 = .ok (.aload_n 0, 1) := by decide +kernel
theorem dX10_go_53 : decode cX10_go 53 = .ok (.dup, 1) := by decide +kernel
theorem dX10_go_54 : decode cX10_go 54 = .ok (.getfield 197, 3) := by decide +kernel
theorem dX10_go_57 : decode cX10_go 57 = .ok (.iconst 1, 1) := by decide +kernel
theorem dX10_go_58 : decode cX10_go 58 = .ok (.iadd, 1) := by decide +kernel
theorem dX10_go_59 : decode cX10_go 59 = .ok (.putfield 197, 3) := by decide +kernel
theorem dX10_go_62 : decode cX10_go 62 = .ok (.iinc 3 1, 3) := by decide +kernel
theorem dX10_go_65 : decode cX10_go 65 = .ok (.goto (-29), 3) := by decide +kernel
theorem dX10_go_68 : decode cX10_go 68 = .ok (.iload_n 2, 1) := by decide +kernel
theorem dX10_go_69 : decode cX10_go 69 = .ok (.ireturn, 1) := by decide +kernel
theorem dX10_loadsIn_0 : decode cX10_loadsIn 0 = .ok (.iconst 0, 1) := by decide +kernel
theorem dX10_loadsIn_1 : decode cX10_loadsIn 1 = .ok (.istore_n 2, 1) := by decide +kernel
theorem dX10_loadsIn_2 : decode cX10_loadsIn 2 = .ok (.iconst 0, 1) := by decide +kernel
theorem dX10_loadsIn_3 : decode cX10_loadsIn 3 = .ok (.istore_n 3, 1) := by decide +kernel
theorem dX10_loadsIn_4 : decode cX10_loadsIn 4 = .ok (.iload_n 3, 1) := by decide +kernel
theorem dX10_loadsIn_5 : decode cX10_loadsIn 5 = .ok (.aload_n 0, 1) := by decide +kernel
theorem dX10_loadsIn_6 : decode cX10_loadsIn 6 = .ok (.getfield 308, 3) := by decide +kernel
theorem dX10_loadsIn_9 : decode cX10_loadsIn 9 = .ok (.if_icmp .ge 30, 3) := by decide +kernel
theorem dX10_loadsIn_12 : decode cX10_loadsIn 12 = .ok (.iload_n 2, 1) := by decide +kernel
theorem dX10_loadsIn_13 : decode cX10_loadsIn 13 = .ok (.aload_n 0, 1) := by decide +kernel
theorem dX10_loadsIn_14 : decode cX10_loadsIn 14 = .ok (.getfield 114, 3) := by decide +kernel
theorem dX10_loadsIn_17 : decode cX10_loadsIn 17 = .ok (.iload_n 3, 1) := by decide +kernel
theorem dX10_loadsIn_18 : decode cX10_loadsIn 18 = .ok (.iaload, 1) := by decide +kernel
theorem dX10_loadsIn_19 : decode cX10_loadsIn 19 = .ok (.iload_n 1, 1) := by decide +kernel
theorem dX10_loadsIn_20 : decode cX10_loadsIn 20 = .ok (.if_icmp .ne 7, 3) := by decide +kernel
theorem dX10_loadsIn_23 : decode cX10_loadsIn 23 = .ok (.iconst 1, 1) := by decide +kernel
theorem dX10_loadsIn_24 : decode cX10_loadsIn 24 = .ok (.goto 4, 3) := by decide +kernel
theorem dX10_loadsIn_27 : decode cX10_loadsIn 27 = .ok (.iconst 0, 1) := by decide +kernel
theorem dX10_loadsIn_28 : decode cX10_loadsIn 28 = .ok (.invokestatic 210, 3) := by decide +kernel
theorem dX10_loadsIn_31 : decode cX10_loadsIn 31 = .ok (.iadd, 1) := by decide +kernel
theorem dX10_loadsIn_32 : decode cX10_loadsIn 32 = .ok (.istore_n 2, 1) := by decide +kernel
theorem dX10_loadsIn_33 : decode cX10_loadsIn 33 = .ok (.iinc 3 1, 3) := by decide +kernel
theorem dX10_loadsIn_36 : decode cX10_loadsIn 36 = .ok (.goto (-32), 3) := by decide +kernel
theorem dX10_loadsIn_39 : decode cX10_loadsIn 39 = .ok (.iload_n 2, 1) := by decide +kernel
theorem dX10_loadsIn_40 : decode cX10_loadsIn 40 = .ok (.ireturn, 1) := by decide +kernel
theorem dX10_outAll_0 : decode cX10_outAll 0 = .ok (.iconst 0, 1) := by decide +kernel
theorem dX10_outAll_1 : decode cX10_outAll 1 = .ok (.istore_n 2, 1) := by decide +kernel
theorem dX10_outAll_2 : decode cX10_outAll 2 = .ok (.iconst 0, 1) := by decide +kernel
theorem dX10_outAll_3 : decode cX10_outAll 3 = .ok (.istore_n 3, 1) := by decide +kernel
theorem dX10_outAll_4 : decode cX10_outAll 4 = .ok (.iload_n 3, 1) := by decide +kernel
theorem dX10_outAll_5 : decode cX10_outAll 5 = .ok (.bipush 48, 2) := by decide +kernel
theorem dX10_outAll_7 : decode cX10_outAll 7 = .ok (.if_icmp .ge 31, 3) := by decide +kernel
theorem dX10_outAll_10 : decode cX10_outAll 10 = .ok (.iload_n 2, 1) := by decide +kernel
theorem dX10_outAll_11 : decode cX10_outAll 11 = .ok (.iload_n 1, 1) := by decide +kernel
theorem dX10_outAll_12 : decode cX10_outAll 12 = .ok (.ifCond .eq 12, 3) := by decide +kernel
theorem dX10_outAll_15 : decode cX10_outAll 15 = .ok (.aload_n 0, 1) := by decide +kernel
theorem dX10_outAll_16 : decode cX10_outAll 16 = .ok (.getfield 37, 3) := by decide +kernel
theorem dX10_outAll_19 : decode cX10_outAll 19 = .ok (.iload_n 3, 1) := by decide +kernel
theorem dX10_outAll_20 : decode cX10_outAll 20 = .ok (.iaload, 1) := by decide +kernel
theorem dX10_outAll_21 : decode cX10_outAll 21 = .ok (.goto 9, 3) := by decide +kernel
theorem dX10_outAll_24 : decode cX10_outAll 24 = .ok (.aload_n 0, 1) := by decide +kernel
theorem dX10_outAll_25 : decode cX10_outAll 25 = .ok (.getfield 31, 3) := by decide +kernel
theorem dX10_outAll_28 : decode cX10_outAll 28 = .ok (.iload_n 3, 1) := by decide +kernel
theorem dX10_outAll_29 : decode cX10_outAll 29 = .ok (.iaload, 1) := by decide +kernel
theorem dX10_outAll_30 : decode cX10_outAll 30 = .ok (.iadd, 1) := by decide +kernel
theorem dX10_outAll_31 : decode cX10_outAll 31 = .ok (.istore_n 2, 1) := by decide +kernel
theorem dX10_outAll_32 : decode cX10_outAll 32 = .ok (.iinc 3 1, 3) := by decide +kernel
theorem dX10_outAll_35 : decode cX10_outAll 35 = .ok (.goto (-31), 3) := by decide +kernel
theorem dX10_outAll_38 : decode cX10_outAll 38 = .ok (.iload_n 2, 1) := by decide +kernel
theorem dX10_outAll_39 : decode cX10_outAll 39 = .ok (.ireturn, 1) := by decide +kernel
theorem dX10_hungerAll_0 : decode cX10_hungerAll 0 = .ok (.iconst 0, 1) := by decide +kernel
theorem dX10_hungerAll_1 : decode cX10_hungerAll 1 = .ok (.istore_n 1, 1) := by decide +kernel
theorem dX10_hungerAll_2 : decode cX10_hungerAll 2 = .ok (.iconst 0, 1) := by decide +kernel
theorem dX10_hungerAll_3 : decode cX10_hungerAll 3 = .ok (.istore_n 2, 1) := by decide +kernel
theorem dX10_hungerAll_4 : decode cX10_hungerAll 4 = .ok (.iload_n 2, 1) := by decide +kernel
theorem dX10_hungerAll_5 : decode cX10_hungerAll 5 = .ok (.bipush 24, 2) := by decide +kernel
theorem dX10_hungerAll_7 : decode cX10_hungerAll 7 = .ok (.if_icmp .ge 18, 3) := by decide +kernel
theorem dX10_hungerAll_10 : decode cX10_hungerAll 10 = .ok (.iload_n 1, 1) := by decide +kernel
theorem dX10_hungerAll_11 : decode cX10_hungerAll 11 = .ok (.aload_n 0, 1) := by decide +kernel
theorem dX10_hungerAll_12 : decode cX10_hungerAll 12 = .ok (.getfield 22, 3) := by decide +kernel
theorem dX10_hungerAll_15 : decode cX10_hungerAll 15 = .ok (.iload_n 2, 1) := by decide +kernel
theorem dX10_hungerAll_16 : decode cX10_hungerAll 16 = .ok (.iaload, 1) := by decide +kernel
theorem dX10_hungerAll_17 : decode cX10_hungerAll 17 = .ok (.iadd, 1) := by decide +kernel
theorem dX10_hungerAll_18 : decode cX10_hungerAll 18 = .ok (.istore_n 1, 1) := by decide +kernel
theorem dX10_hungerAll_19 : decode cX10_hungerAll 19 = .ok (.iinc 2 1, 3) := by decide +kernel
theorem dX10_hungerAll_22 : decode cX10_hungerAll 22 = .ok (.goto (-18), 3) := by decide +kernel
theorem dX10_hungerAll_25 : decode cX10_hungerAll 25 = .ok (.iload_n 1, 1) := by decide +kernel
theorem dX10_hungerAll_26 : decode cX10_hungerAll 26 = .ok (.ireturn, 1) := by decide +kernel
theorem dX10_count_0 : decode cX10_count 0 = .ok (.iload_n 1, 1) := by decide +kernel
theorem dX10_count_1 : decode cX10_count 1 = .ok (.tableswitch 131 0 13 #[71, 76, 81, 86, 91, 91, 91, 91, 99, 104, 110, 115, 120, 125], 71) := by decide +kernel
theorem dX10_count_72 : decode cX10_count 72 = .ok (.aload_n 0, 1) := by decide +kernel
theorem dX10_count_73 : decode cX10_count 73 = .ok (.getfield 197, 3) := by decide +kernel
theorem dX10_count_76 : decode cX10_count 76 = .ok (.ireturn, 1) := by decide +kernel
theorem dX10_count_77 : decode cX10_count 77 = .ok (.aload_n 0, 1) := by decide +kernel
theorem dX10_count_78 : decode cX10_count 78 = .ok (.getfield 164, 3) := by decide +kernel
theorem dX10_count_81 : decode cX10_count 81 = .ok (.ireturn, 1) := by decide +kernel
theorem dX10_count_82 : decode cX10_count 82 = .ok (.aload_n 0, 1) := by decide +kernel
theorem dX10_count_83 : decode cX10_count 83 = .ok (.getfield 192, 3) := by decide +kernel
theorem dX10_count_86 : decode cX10_count 86 = .ok (.ireturn, 1) := by decide +kernel
theorem dX10_count_87 : decode cX10_count 87 = .ok (.aload_n 0, 1) := by decide +kernel
theorem dX10_count_88 : decode cX10_count 88 = .ok (.getfield 308, 3) := by decide +kernel
theorem dX10_count_91 : decode cX10_count 91 = .ok (.ireturn, 1) := by decide +kernel
theorem dX10_count_92 : decode cX10_count 92 = .ok (.aload_n 0, 1) := by decide +kernel
theorem dX10_count_93 : decode cX10_count 93 = .ok (.iload_n 1, 1) := by decide +kernel
theorem dX10_count_94 : decode cX10_count 94 = .ok (.iconst 4, 1) := by decide +kernel
theorem dX10_count_95 : decode cX10_count 95 = .ok (.isub, 1) := by decide +kernel
theorem dX10_count_96 : decode cX10_count 96 = .ok (.invokevirtual 337, 3) := by decide +kernel
theorem dX10_count_99 : decode cX10_count 99 = .ok (.ireturn, 1) := by decide +kernel
theorem dX10_count_100 : decode cX10_count 100 = .ok (.aload_n 0, 1) := by decide +kernel
theorem dX10_count_101 : decode cX10_count 101 = .ok (.getfield 278, 3) := by decide +kernel
theorem dX10_count_104 : decode cX10_count 104 = .ok (.ireturn, 1) := by decide +kernel
theorem dX10_count_105 : decode cX10_count 105 = .ok (.aload_n 0, 1) := by decide +kernel
theorem dX10_count_106 : decode cX10_count 106 = .ok (.iconst 0, 1) := by decide +kernel
theorem dX10_count_107 : decode cX10_count 107 = .ok (.invokevirtual 340, 3) := by decide +kernel
theorem dX10_count_110 : decode cX10_count 110 = .ok (.ireturn, 1) := by decide +kernel
theorem dX10_count_111 : decode cX10_count 111 = .ok (.aload_n 0, 1) := by decide +kernel
theorem dX10_count_112 : decode cX10_count 112 = .ok (.invokevirtual 343, 3) := by decide +kernel
theorem dX10_count_115 : decode cX10_count 115 = .ok (.ireturn, 1) := by decide +kernel
theorem dX10_count_116 : decode cX10_count 116 = .ok (.aload_n 0, 1) := by decide +kernel
theorem dX10_count_117 : decode cX10_count 117 = .ok (.getfield 346, 3) := by decide +kernel
theorem dX10_count_120 : decode cX10_count 120 = .ok (.ireturn, 1) := by decide +kernel
theorem dX10_count_121 : decode cX10_count 121 = .ok (.aload_n 0, 1) := by decide +kernel
theorem dX10_count_122 : decode cX10_count 122 = .ok (.getfield 225, 3) := by decide +kernel
theorem dX10_count_125 : decode cX10_count 125 = .ok (.ireturn, 1) := by decide +kernel
theorem dX10_count_126 : decode cX10_count 126 = .ok (.aload_n 0, 1) := by decide +kernel
theorem dX10_count_127 : decode cX10_count 127 = .ok (.iconst 1, 1) := by decide +kernel
theorem dX10_count_128 : decode cX10_count 128 = .ok (.invokevirtual 340, 3) := by decide +kernel
theorem dX10_count_131 : decode cX10_count 131 = .ok (.ireturn, 1) := by decide +kernel
theorem dX10_count_132 : decode cX10_count 132 = .ok (.sipush (-1002), 3) := by decide +kernel
theorem dX10_count_135 : decode cX10_count 135 = .ok (.ireturn, 1) := by decide +kernel
theorem dX10_leave_0 : decode cX10_leave 0 = .ok (.iload_n 1, 1) := by decide +kernel
theorem dX10_leave_1 : decode cX10_leave 1 = .ok (.i2l, 1) := by decide +kernel
theorem dX10_leave_2 : decode cX10_leave 2 = .ok (.lconst 0, 1) := by decide +kernel
theorem dX10_leave_3 : decode cX10_leave 3 = .ok (.ldc2_w 148, 3) := by decide +kernel
theorem dX10_leave_6 : decode cX10_leave 6 = .ok (.invokestatic 150, 3) := by decide +kernel
theorem dX10_leave_9 : decode cX10_leave 9 = .ok (.ifCond .eq 41, 3) := by decide +kernel
theorem dX10_leave_12 : decode cX10_leave 12 = .ok (.iload_n 2, 1) := by decide +kernel
theorem dX10_leave_13 : decode cX10_leave 13 = .ok (.i2l, 1) := by decide +kernel
theorem dX10_leave_14 : decode cX10_leave 14 = .ok (.lconst 0, 1) := by decide +kernel
theorem dX10_leave_15 : decode cX10_leave 15 = .ok (.ldc2_w 148, 3) := by decide +kernel
theorem dX10_leave_18 : decode cX10_leave 18 = .ok (.invokestatic 150, 3) := by decide +kernel
theorem dX10_leave_21 : decode cX10_leave 21 = .ok (.ifCond .eq 29, 3) := by decide +kernel
theorem dX10_leave_24 : decode cX10_leave 24 = .ok (.iload_n 1, 1) := by decide +kernel
theorem dX10_leave_25 : decode cX10_leave 25 = .ok (.iload_n 2, 1) := by decide +kernel
theorem dX10_leave_26 : decode cX10_leave 26 = .ok (.if_icmp .eq 24, 3) := by decide +kernel
theorem dX10_leave_29 : decode cX10_leave 29 = .ok (.iload_n 3, 1) := by decide +kernel
theorem dX10_leave_30 : decode cX10_leave 30 = .ok (.invokestatic 218, 3) := by decide +kernel
theorem dX10_leave_33 : decode cX10_leave 33 = .ok (.ifCond .eq 17, 3) := by decide +kernel
theorem dX10_leave_36 : decode cX10_leave 36 = .ok (.iload 4, 2) := by decide +kernel
theorem dX10_leave_38 : decode cX10_leave 38 = .ok (.i2l, 1) := by decide +kernel
theorem dX10_leave_39 : decode cX10_leave 39 = .ok (.iload_n 3, 1) := by decide +kernel
theorem dX10_leave_40 : decode cX10_leave 40 = .ok (.i2l, 1) := by decide +kernel
theorem dX10_leave_41 : decode cX10_leave 41 = .ok (.ldc2_w 156, 3) := by decide +kernel
theorem dX10_leave_44 : decode cX10_leave 44 = .ok (.invokestatic 150, 3) := by decide +kernel
theorem dX10_leave_47 : decode cX10_leave 47 = .ok (.ifCond .ne 7, 3) := by decide +kernel
theorem dX10_leave_50 : decode cX10_leave 50 = .ok (.sipush (-1002), 3) := by decide +kernel
theorem dX10_leave_53 : decode cX10_leave 53 = .ok (.ireturn, 1) := by decide +kernel
theorem dX10_leave_54 : decode cX10_leave 54 = .ok (.aload_n 0, 1) := by decide +kernel
theorem dX10_leave_55 : decode cX10_leave 55 = .ok (.getfield 346, 3) := by decide +kernel
theorem dX10_leave_58 : decode cX10_leave 58 = .ok (.bipush 24, 2) := by decide +kernel
theorem dX10_leave_60 : decode cX10_leave 60 = .ok (.if_icmp .ne 7, 3) := by decide +kernel
theorem dX10_leave_63 : decode cX10_leave 63 = .ok (.sipush (-1004), 3) := by decide +kernel
theorem dX10_leave_66 : decode cX10_leave 66 = .ok (.ireturn, 1) := by decide +kernel
theorem dX10_leave_67 : decode cX10_leave 67 = .ok (.aload_n 0, 1) := by decide +kernel
theorem dX10_leave_68 : decode cX10_leave 68 = .ok (.getfield 123, 3) := by decide +kernel
theorem dX10_leave_71 : decode cX10_leave 71 = .ok (.aload_n 0, 1) := by decide +kernel
theorem dX10_leave_72 : decode cX10_leave 72 = .ok (.getfield 346, 3) := by decide +kernel
theorem dX10_leave_75 : decode cX10_leave 75 = .ok (.iload_n 1, 1) := by decide +kernel
theorem dX10_leave_76 : decode cX10_leave 76 = .ok (.iastore, 1) := by decide +kernel
theorem dX10_leave_77 : decode cX10_leave 77 = .ok (.aload_n 0, 1) := by decide +kernel
theorem dX10_leave_78 : decode cX10_leave 78 = .ok (.getfield 126, 3) := by decide +kernel
theorem dX10_leave_81 : decode cX10_leave 81 = .ok (.aload_n 0, 1) := by decide +kernel
theorem dX10_leave_82 : decode cX10_leave 82 = .ok (.getfield 346, 3) := by decide +kernel
theorem dX10_leave_85 : decode cX10_leave 85 = .ok (.iload_n 2, 1) := by decide +kernel
theorem dX10_leave_86 : decode cX10_leave 86 = .ok (.iastore, 1) := by decide +kernel
theorem dX10_leave_87 : decode cX10_leave 87 = .ok (.aload_n 0, 1) := by decide +kernel
theorem dX10_leave_88 : decode cX10_leave 88 = .ok (.getfield 129, 3) := by decide +kernel
theorem dX10_leave_91 : decode cX10_leave 91 = .ok (.aload_n 0, 1) := by decide +kernel
