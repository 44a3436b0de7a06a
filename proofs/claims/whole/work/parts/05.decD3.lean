theorem dX10_leave_92 : decode cX10_leave 92 = .ok (.getfield 346, 3) := by decide +kernel
theorem dX10_leave_95 : decode cX10_leave 95 = .ok (.iload_n 3, 1) := by decide +kernel
theorem dX10_leave_96 : decode cX10_leave 96 = .ok (.iastore, 1) := by decide +kernel
theorem dX10_leave_97 : decode cX10_leave 97 = .ok (.aload_n 0, 1) := by decide +kernel
theorem dX10_leave_98 : decode cX10_leave 98 = .ok (.getfield 132, 3) := by decide +kernel
theorem dX10_leave_101 : decode cX10_leave 101 = .ok (.aload_n 0, 1) := by decide +kernel
theorem dX10_leave_102 : decode cX10_leave 102 = .ok (.getfield 346, 3) := by decide +kernel
theorem dX10_leave_105 : decode cX10_leave 105 = .ok (.iload 4, 2) := by decide +kernel
theorem dX10_leave_107 : decode cX10_leave 107 = .ok (.iastore, 1) := by decide +kernel
theorem dX10_leave_108 : decode cX10_leave 108 = .ok (.aload_n 0, 1) := by decide +kernel
theorem dX10_leave_109 : decode cX10_leave 109 = .ok (.getfield 135, 3) := by decide +kernel
theorem dX10_leave_112 : decode cX10_leave 112 = .ok (.aload_n 0, 1) := by decide +kernel
theorem dX10_leave_113 : decode cX10_leave 113 = .ok (.getfield 346, 3) := by decide +kernel
theorem dX10_leave_116 : decode cX10_leave 116 = .ok (.iload 5, 2) := by decide +kernel
theorem dX10_leave_118 : decode cX10_leave 118 = .ok (.bastore, 1) := by decide +kernel
theorem dX10_leave_119 : decode cX10_leave 119 = .ok (.aload_n 0, 1) := by decide +kernel
theorem dX10_leave_120 : decode cX10_leave 120 = .ok (.dup, 1) := by decide +kernel
theorem dX10_leave_121 : decode cX10_leave 121 = .ok (.getfield 346, 3) := by decide +kernel
theorem dX10_leave_124 : decode cX10_leave 124 = .ok (.iconst 1, 1) := by decide +kernel
theorem dX10_leave_125 : decode cX10_leave 125 = .ok (.iadd, 1) := by decide +kernel
theorem dX10_leave_126 : decode cX10_leave 126 = .ok (.putfield 346, 3) := by decide +kernel
theorem dX10_leave_129 : decode cX10_leave 129 = .ok (.aload_n 0, 1) := by decide +kernel
theorem dX10_leave_130 : decode cX10_leave 130 = .ok (.getfield 346, 3) := by decide +kernel
theorem dX10_leave_133 : decode cX10_leave 133 = .ok (.iconst 1, 1) := by decide +kernel
theorem dX10_leave_134 : decode cX10_leave 134 = .ok (.isub, 1) := by decide +kernel
theorem dX10_leave_135 : decode cX10_leave 135 = .ok (.ireturn, 1) := by decide +kernel
theorem dX10_ledTo_0 : decode cX10_ledTo 0 = .ok (.iload_n 1, 1) := by decide +kernel
theorem dX10_ledTo_1 : decode cX10_ledTo 1 = .ok (.istore 4, 2) := by decide +kernel
theorem dX10_ledTo_3 : decode cX10_ledTo 3 = .ok (.iconst 0, 1) := by decide +kernel
theorem dX10_ledTo_4 : decode cX10_ledTo 4 = .ok (.istore 5, 2) := by decide +kernel
theorem dX10_ledTo_6 : decode cX10_ledTo 6 = .ok (.iload 5, 2) := by decide +kernel
theorem dX10_ledTo_8 : decode cX10_ledTo 8 = .ok (.bipush 8, 2) := by decide +kernel
theorem dX10_ledTo_10 : decode cX10_ledTo 10 = .ok (.if_icmp .ge 111, 3) := by decide +kernel
theorem dX10_ledTo_13 : decode cX10_ledTo 13 = .ok (.iconst 0, 1) := by decide +kernel
theorem dX10_ledTo_14 : decode cX10_ledTo 14 = .ok (.istore 6, 2) := by decide +kernel
theorem dX10_ledTo_16 : decode cX10_ledTo 16 = .ok (.iload 6, 2) := by decide +kernel
theorem dX10_ledTo_18 : decode cX10_ledTo 18 = .ok (.aload_n 0, 1) := by decide +kernel
theorem dX10_ledTo_19 : decode cX10_ledTo 19 = .ok (.getfield 346, 3) := by decide +kernel
theorem dX10_ledTo_22 : decode cX10_ledTo 22 = .ok (.if_icmp .ge 93, 3) := by decide +kernel
theorem dX10_ledTo_25 : decode cX10_ledTo 25 = .ok (.iload_n 2, 1) := by decide +kernel
theorem dX10_ledTo_26 : decode cX10_ledTo 26 = .ok (.i2l, 1) := by decide +kernel
theorem dX10_ledTo_27 : decode cX10_ledTo 27 = .ok (.aload_n 0, 1) := by decide +kernel
theorem dX10_ledTo_28 : decode cX10_ledTo 28 = .ok (.getfield 129, 3) := by decide +kernel
theorem dX10_ledTo_31 : decode cX10_ledTo 31 = .ok (.iload 6, 2) := by decide +kernel
theorem dX10_ledTo_33 : decode cX10_ledTo 33 = .ok (.iaload, 1) := by decide +kernel
theorem dX10_ledTo_34 : decode cX10_ledTo 34 = .ok (.i2l, 1) := by decide +kernel
theorem dX10_ledTo_35 : decode cX10_ledTo 35 = .ok (.aload_n 0, 1) := by decide +kernel
theorem dX10_ledTo_36 : decode cX10_ledTo 36 = .ok (.getfield 132, 3) := by decide +kernel
theorem dX10_ledTo_39 : decode cX10_ledTo 39 = .ok (.iload 6, 2) := by decide +kernel
theorem dX10_ledTo_41 : decode cX10_ledTo 41 = .ok (.iaload, 1) := by decide +kernel
theorem dX10_ledTo_42 : decode cX10_ledTo 42 = .ok (.i2l, 1) := by decide +kernel
theorem dX10_ledTo_43 : decode cX10_ledTo 43 = .ok (.invokestatic 150, 3) := by decide +kernel
theorem dX10_ledTo_46 : decode cX10_ledTo 46 = .ok (.ifCond .eq 21, 3) := by decide +kernel
theorem dX10_ledTo_49 : decode cX10_ledTo 49 = .ok (.aload_n 0, 1) := by decide +kernel
theorem dX10_ledTo_50 : decode cX10_ledTo 50 = .ok (.getfield 135, 3) := by decide +kernel
theorem dX10_ledTo_53 : decode cX10_ledTo 53 = .ok (.iload 6, 2) := by decide +kernel
theorem dX10_ledTo_55 : decode cX10_ledTo 55 = .ok (.baload, 1) := by decide +kernel
theorem dX10_ledTo_56 : decode cX10_ledTo 56 = .ok (.ifCond .ne 7, 3) := by decide +kernel
theorem dX10_ledTo_59 : decode cX10_ledTo 59 = .ok (.iload_n 3, 1) := by decide +kernel
theorem dX10_ledTo_60 : decode cX10_ledTo 60 = .ok (.ifCond .ne 7, 3) := by decide +kernel
theorem dX10_ledTo_63 : decode cX10_ledTo 63 = .ok (.iconst 1, 1) := by decide +kernel
theorem dX10_ledTo_64 : decode cX10_ledTo 64 = .ok (.goto 4, 3) := by decide +kernel
theorem dX10_ledTo_67 : decode cX10_ledTo 67 = .ok (.iconst 0, 1) := by decide +kernel
theorem dX10_ledTo_68 : decode cX10_ledTo 68 = .ok (.istore 7, 2) := by decide +kernel
theorem dX10_ledTo_70 : decode cX10_ledTo 70 = .ok (.iload 4, 2) := by decide +kernel
theorem dX10_ledTo_72 : decode cX10_ledTo 72 = .ok (.iload 7, 2) := by decide +kernel
theorem dX10_ledTo_74 : decode cX10_ledTo 74 = .ok (.ifCond .eq 31, 3) := by decide +kernel
theorem dX10_ledTo_77 : decode cX10_ledTo 77 = .ok (.iload 4, 2) := by decide +kernel
theorem dX10_ledTo_79 : decode cX10_ledTo 79 = .ok (.aload_n 0, 1) := by decide +kernel
theorem dX10_ledTo_80 : decode cX10_ledTo 80 = .ok (.getfield 123, 3) := by decide +kernel
theorem dX10_ledTo_83 : decode cX10_ledTo 83 = .ok (.iload 6, 2) := by decide +kernel
theorem dX10_ledTo_85 : decode cX10_ledTo 85 = .ok (.iaload, 1) := by decide +kernel
theorem dX10_ledTo_86 : decode cX10_ledTo 86 = .ok (.ishr, 1) := by decide +kernel
theorem dX10_ledTo_87 : decode cX10_ledTo 87 = .ok (.iconst 1, 1) := by decide +kernel
theorem dX10_ledTo_88 : decode cX10_ledTo 88 = .ok (.iand, 1) := by decide +kernel
theorem dX10_ledTo_89 : decode cX10_ledTo 89 = .ok (.iconst 1, 1) := by decide +kernel
theorem dX10_ledTo_90 : decode cX10_ledTo 90 = .ok (.if_icmp .ne 15, 3) := by decide +kernel
theorem dX10_ledTo_93 : decode cX10_ledTo 93 = .ok (.iconst 1, 1) := by decide +kernel
theorem dX10_ledTo_94 : decode cX10_ledTo 94 = .ok (.aload_n 0, 1) := by decide +kernel
theorem dX10_ledTo_95 : decode cX10_ledTo 95 = .ok (.getfield 126, 3) := by decide +kernel
theorem dX10_ledTo_98 : decode cX10_ledTo 98 = .ok (.iload 6, 2) := by decide +kernel
theorem dX10_ledTo_100 : decode cX10_ledTo 100 = .ok (.iaload, 1) := by decide +kernel
theorem dX10_ledTo_101 : decode cX10_ledTo 101 = .ok (.ishl, 1) := by decide +kernel
theorem dX10_ledTo_102 : decode cX10_ledTo 102 = .ok (.goto 4, 3) := by decide +kernel
theorem dX10_ledTo_105 : decode cX10_ledTo 105 = .ok (.iconst 0, 1) := by decide +kernel
theorem dX10_ledTo_106 : decode cX10_ledTo 106 = .ok (.ior, 1) := by decide +kernel
theorem dX10_ledTo_107 : decode cX10_ledTo 107 = .ok (.istore 4, 2) := by decide +kernel
theorem dX10_ledTo_109 : decode cX10_ledTo 109 = .ok (.iinc 6 1, 3) := by decide +kernel
theorem dX10_ledTo_112 : decode cX10_ledTo 112 = .ok (.goto (-96), 3) := by decide +kernel
theorem dX10_ledTo_115 : decode cX10_ledTo 115 = .ok (.iinc 5 1, 3) := by decide +kernel
theorem dX10_ledTo_118 : decode cX10_ledTo 118 = .ok (.goto (-112), 3) := by decide +kernel
theorem dX10_ledTo_121 : decode cX10_ledTo 121 = .ok (.iload 4, 2) := by decide +kernel
theorem dX10_ledTo_123 : decode cX10_ledTo 123 = .ok (.ireturn, 1) := by decide +kernel
theorem dX10_binds_0 : decode cX10_binds 0 = .ok (.iload_n 1, 1) := by decide +kernel
theorem dX10_binds_1 : decode cX10_binds 1 = .ok (.i2l, 1) := by decide +kernel
theorem dX10_binds_2 : decode cX10_binds 2 = .ok (.lconst 0, 1) := by decide +kernel
theorem dX10_binds_3 : decode cX10_binds 3 = .ok (.ldc2_w 228, 3) := by decide +kernel
theorem dX10_binds_6 : decode cX10_binds 6 = .ok (.invokestatic 150, 3) := by decide +kernel
theorem dX10_binds_9 : decode cX10_binds 9 = .ok (.ifCond .eq 22, 3) := by decide +kernel
theorem dX10_binds_12 : decode cX10_binds 12 = .ok (.iload_n 2, 1) := by decide +kernel
theorem dX10_binds_13 : decode cX10_binds 13 = .ok (.invokestatic 218, 3) := by decide +kernel
theorem dX10_binds_16 : decode cX10_binds 16 = .ok (.ifCond .eq 15, 3) := by decide +kernel
theorem dX10_binds_19 : decode cX10_binds 19 = .ok (.iload_n 3, 1) := by decide +kernel
theorem dX10_binds_20 : decode cX10_binds 20 = .ok (.i2l, 1) := by decide +kernel
theorem dX10_binds_21 : decode cX10_binds 21 = .ok (.lconst 0, 1) := by decide +kernel
theorem dX10_binds_22 : decode cX10_binds 22 = .ok (.ldc2_w 148, 3) := by decide +kernel
theorem dX10_binds_25 : decode cX10_binds 25 = .ok (.invokestatic 150, 3) := by decide +kernel
theorem dX10_binds_28 : decode cX10_binds 28 = .ok (.ifCond .ne 7, 3) := by decide +kernel
theorem dX10_binds_31 : decode cX10_binds 31 = .ok (.sipush (-1002), 3) := by decide +kernel
theorem dX10_binds_34 : decode cX10_binds 34 = .ok (.ireturn, 1) := by decide +kernel
theorem dX10_binds_35 : decode cX10_binds 35 = .ok (.aload_n 0, 1) := by decide +kernel
theorem dX10_binds_36 : decode cX10_binds 36 = .ok (.iload_n 1, 1) := by decide +kernel
theorem dX10_binds_37 : decode cX10_binds 37 = .ok (.iload_n 2, 1) := by decide +kernel
theorem dX10_binds_38 : decode cX10_binds 38 = .ok (.iconst 1, 1) := by decide +kernel
theorem dX10_binds_39 : decode cX10_binds 39 = .ok (.invokevirtual 349, 3) := by decide +kernel
theorem dX10_binds_42 : decode cX10_binds 42 = .ok (.iload_n 3, 1) := by decide +kernel
theorem dX10_binds_43 : decode cX10_binds 43 = .ok (.ishr, 1) := by decide +kernel
theorem dX10_binds_44 : decode cX10_binds 44 = .ok (.iconst 1, 1) := by decide +kernel
theorem dX10_binds_45 : decode cX10_binds 45 = .ok (.iand, 1) := by decide +kernel
theorem dX10_binds_46 : decode cX10_binds 46 = .ok (.iconst 1, 1) := by decide +kernel
theorem dX10_binds_47 : decode cX10_binds 47 = .ok (.if_icmp .ne 7, 3) := by decide +kernel
theorem dX10_binds_50 : decode cX10_binds 50 = .ok (.iconst 2, 1) := by decide +kernel
theorem dX10_binds_51 : decode cX10_binds 51 = .ok (.goto 14, 3) := by decide +kernel
theorem dX10_binds_54 : decode cX10_binds 54 = .ok (.aload_n 0, 1) := by decide +kernel
theorem dX10_binds_55 : decode cX10_binds 55 = .ok (.iload_n 1, 1) := by decide +kernel
theorem dX10_binds_56 : decode cX10_binds 56 = .ok (.iload_n 2, 1) := by decide +kernel
theorem dX10_binds_57 : decode cX10_binds 57 = .ok (.iconst 0, 1) := by decide +kernel
theorem dX10_binds_58 : decode cX10_binds 58 = .ok (.invokevirtual 349, 3) := by decide +kernel
theorem dX10_binds_61 : decode cX10_binds 61 = .ok (.iload_n 3, 1) := by decide +kernel
theorem dX10_binds_62 : decode cX10_binds 62 = .ok (.ishr, 1) := by decide +kernel
theorem dX10_binds_63 : decode cX10_binds 63 = .ok (.iconst 1, 1) := by decide +kernel
theorem dX10_binds_64 : decode cX10_binds 64 = .ok (.iand, 1) := by decide +kernel
theorem dX10_binds_65 : decode cX10_binds 65 = .ok (.ireturn, 1) := by decide +kernel
theorem dX10_lastOf_0 : decode cX10_lastOf 0 = .ok (.aload_n 0, 1) := by decide +kernel
theorem dX10_lastOf_1 : decode cX10_lastOf 1 = .ok (.aload_n 0, 1) := by decide +kernel
theorem dX10_lastOf_2 : decode cX10_lastOf 2 = .ok (.getfield 197, 3) := by decide +kernel
theorem dX10_lastOf_5 : decode cX10_lastOf 5 = .ok (.invokevirtual 305, 3) := by decide +kernel
theorem dX10_lastOf_8 : decode cX10_lastOf 8 = .ok (.lconst 0, 1) := by decide +kernel
theorem dX10_lastOf_9 : decode cX10_lastOf 9 = .ok (.lstore_n 2, 1) := by decide +kernel
theorem dX10_lastOf_10 : decode cX10_lastOf 10 = .ok (.lconst 0, 1) := by decide +kernel
theorem dX10_lastOf_11 : decode cX10_lastOf 11 = .ok (.lstore 4, 2) := by decide +kernel
theorem dX10_lastOf_13 : decode cX10_lastOf 13 = .ok (.iconst 0, 1) := by decide +kernel
theorem dX10_lastOf_14 : decode cX10_lastOf 14 = .ok (.istore 6, 2) := by decide +kernel
theorem dX10_lastOf_16 : decode cX10_lastOf 16 = .ok (.iload 6, 2) := by decide +kernel
theorem dX10_lastOf_18 : decode cX10_lastOf 18 = .ok (.bipush 6, 2) := by decide +kernel
theorem dX10_lastOf_20 : decode cX10_lastOf 20 = .ok (.if_icmp .ge 65, 3) := by decide +kernel
theorem dX10_lastOf_23 : decode cX10_lastOf 23 = .ok (.iload_n 1, 1) := by decide +kernel
theorem dX10_lastOf_24 : decode cX10_lastOf 24 = .ok (.iload 6, 2) := by decide +kernel
theorem dX10_lastOf_26 : decode cX10_lastOf 26 = .ok (.ishr, 1) := by decide +kernel
theorem dX10_lastOf_27 : decode cX10_lastOf 27 = .ok (.iconst 1, 1) := by decide +kernel
theorem dX10_lastOf_28 : decode cX10_lastOf 28 = .ok (.iand, 1) := by decide +kernel
theorem dX10_lastOf_29 : decode cX10_lastOf 29 = .ok (.iconst 1, 1) := by decide +kernel
theorem dX10_lastOf_30 : decode cX10_lastOf 30 = .ok (.if_icmp .ne 49, 3) := by decide +kernel
theorem dX10_lastOf_33 : decode cX10_lastOf 33 = .ok (.lload_n 2, 1) := by decide +kernel
theorem dX10_lastOf_34 : decode cX10_lastOf 34 = .ok (.aload_n 0, 1) := by decide +kernel
theorem dX10_lastOf_35 : decode cX10_lastOf 35 = .ok (.getfield 40, 3) := by decide +kernel
theorem dX10_lastOf_38 : decode cX10_lastOf 38 = .ok (.iload 6, 2) := by decide +kernel
theorem dX10_lastOf_40 : decode cX10_lastOf 40 = .ok (.iaload, 1) := by decide +kernel
theorem dX10_lastOf_41 : decode cX10_lastOf 41 = .ok (.i2l, 1) := by decide +kernel
theorem dX10_lastOf_42 : decode cX10_lastOf 42 = .ok (.ladd, 1) := by decide +kernel
theorem dX10_lastOf_43 : decode cX10_lastOf 43 = .ok (.lstore_n 2, 1) := by decide +kernel
theorem dX10_lastOf_44 : decode cX10_lastOf 44 = .ok (.iconst 0, 1) := by decide +kernel
theorem dX10_lastOf_45 : decode cX10_lastOf 45 = .ok (.istore 7, 2) := by decide +kernel
theorem dX10_lastOf_47 : decode cX10_lastOf 47 = .ok (.iload 7, 2) := by decide +kernel
theorem dX10_lastOf_49 : decode cX10_lastOf 49 = .ok (.bipush 8, 2) := by decide +kernel
theorem dX10_lastOf_51 : decode cX10_lastOf 51 = .ok (.if_icmp .ge 28, 3) := by decide +kernel
theorem dX10_lastOf_54 : decode cX10_lastOf 54 = .ok (.lload 4, 2) := by decide +kernel
theorem dX10_lastOf_56 : decode cX10_lastOf 56 = .ok (.aload_n 0, 1) := by decide +kernel
theorem dX10_lastOf_57 : decode cX10_lastOf 57 = .ok (.getfield 28, 3) := by decide +kernel
theorem dX10_lastOf_60 : decode cX10_lastOf 60 = .ok (.bipush 8, 2) := by decide +kernel
theorem dX10_lastOf_62 : decode cX10_lastOf 62 = .ok (.iload 6, 2) := by decide +kernel
theorem dX10_lastOf_64 : decode cX10_lastOf 64 = .ok (.imul, 1) := by decide +kernel
theorem dX10_lastOf_65 : decode cX10_lastOf 65 = .ok (.iload 7, 2) := by decide +kernel
theorem dX10_lastOf_67 : decode cX10_lastOf 67 = .ok (.iadd, 1) := by decide +kernel
theorem dX10_lastOf_68 : decode cX10_lastOf 68 = .ok (.iaload, 1) := by decide +kernel
theorem dX10_lastOf_69 : decode cX10_lastOf 69 = .ok (.i2l, 1) := by decide +kernel
theorem dX10_lastOf_70 : decode cX10_lastOf 70 = .ok (.ladd, 1) := by decide +kernel
theorem dX10_lastOf_71 : decode cX10_lastOf 71 = .ok (.lstore 4, 2) := by decide +kernel
theorem dX10_lastOf_73 : decode cX10_lastOf 73 = .ok (.iinc 7 1, 3) := by decide +kernel
theorem dX10_lastOf_76 : decode cX10_lastOf 76 = .ok (.goto (-29), 3) := by decide +kernel
theorem dX10_lastOf_79 : decode cX10_lastOf 79 = .ok (.iinc 6 1, 3) := by decide +kernel
theorem dX10_lastOf_82 : decode cX10_lastOf 82 = .ok (.goto (-66), 3) := by decide +kernel
theorem dX10_lastOf_85 : decode cX10_lastOf 85 = .ok (.lload 4, 2) := by decide +kernel
theorem dX10_lastOf_87 : decode cX10_lastOf 87 = .ok (.aload_n 0, 1) := by decide +kernel
theorem dX10_lastOf_88 : decode cX10_lastOf 88 = .ok (.getfield 288, 3) := by decide +kernel
theorem dX10_lastOf_91 : decode cX10_lastOf 91 = .ok (.i2l, 1) := by decide +kernel
theorem dX10_lastOf_92 : decode cX10_lastOf 92 = .ok (.lmul, 1) := by decide +kernel
theorem dX10_lastOf_93 : decode cX10_lastOf 93 = .ok (.lstore 6, 2) := by decide +kernel
theorem dX10_lastOf_95 : decode cX10_lastOf 95 = .ok (.lload 6, 2) := by decide +kernel
theorem dX10_lastOf_97 : decode cX10_lastOf 97 = .ok (.lconst 0, 1) := by decide +kernel
theorem dX10_lastOf_98 : decode cX10_lastOf 98 = .ok (.lcmp, 1) := by decide +kernel
theorem dX10_lastOf_99 : decode cX10_lastOf 99 = .ok (.ifCond .eq 14, 3) := by decide +kernel
theorem dX10_lastOf_102 : decode cX10_lastOf 102 = .ok (.lload_n 2, 1) := by decide +kernel
theorem dX10_lastOf_103 : decode cX10_lastOf 103 = .ok (.lload 6, 2) := by decide +kernel
theorem dX10_lastOf_105 : decode cX10_lastOf 105 = .ok (.ldiv, 1) := by decide +kernel
theorem dX10_lastOf_106 : decode cX10_lastOf 106 = .ok (.ldc2_w 186, 3) := by decide +kernel
theorem dX10_lastOf_109 : decode cX10_lastOf 109 = .ok (.lcmp, 1) := by decide +kernel
theorem dX10_lastOf_110 : decode cX10_lastOf 110 = .ok (.ifCond .le 9, 3) := by decide +kernel
theorem dX10_lastOf_113 : decode cX10_lastOf 113 = .ok (.sipush 999, 3) := by decide +kernel
theorem dX10_lastOf_116 : decode cX10_lastOf 116 = .ok (.goto 8, 3) := by decide +kernel
theorem dX10_lastOf_119 : decode cX10_lastOf 119 = .ok (.lload_n 2, 1) := by decide +kernel
theorem dX10_lastOf_120 : decode cX10_lastOf 120 = .ok (.lload 6, 2) := by decide +kernel
theorem dX10_lastOf_122 : decode cX10_lastOf 122 = .ok (.ldiv, 1) := by decide +kernel
theorem dX10_lastOf_123 : decode cX10_lastOf 123 = .ok (.l2i, 1) := by decide +kernel
theorem dX10_lastOf_124 : decode cX10_lastOf 124 = .ok (.ireturn, 1) := by decide +kernel
theorem dX10_last_0 : decode cX10_last 0 = .ok (.iload_n 1, 1) := by decide +kernel
theorem dX10_last_1 : decode cX10_last 1 = .ok (.invokestatic 183, 3) := by decide +kernel
theorem dX10_last_4 : decode cX10_last 4 = .ok (.ifCond .eq 13, 3) := by decide +kernel
theorem dX10_last_7 : decode cX10_last 7 = .ok (.aload_n 0, 1) := by decide +kernel
theorem dX10_last_8 : decode cX10_last 8 = .ok (.iconst 1, 1) := by decide +kernel
theorem dX10_last_9 : decode cX10_last 9 = .ok (.iload_n 1, 1) := by decide +kernel
theorem dX10_last_10 : decode cX10_last 10 = .ok (.ishl, 1) := by decide +kernel
theorem dX10_last_11 : decode cX10_last 11 = .ok (.invokevirtual 353, 3) := by decide +kernel
theorem dX10_last_14 : decode cX10_last 14 = .ok (.goto 6, 3) := by decide +kernel
theorem dX10_last_17 : decode cX10_last 17 = .ok (.sipush (-1001), 3) := by decide +kernel
theorem dX10_last_20 : decode cX10_last 20 = .ok (.ireturn, 1) := by decide +kernel
theorem dX10_lending_0 : decode cX10_lending 0 = .ok (.iload_n 1, 1) := by decide +kernel
theorem dX10_lending_1 : decode cX10_lending 1 = .ok (.i2l, 1) := by decide +kernel
theorem dX10_lending_2 : decode cX10_lending 2 = .ok (.lconst 0, 1) := by decide +kernel
theorem dX10_lending_3 : decode cX10_lending 3 = .ok (.ldc2_w 356, 3) := by decide +kernel
theorem dX10_lending_6 : decode cX10_lending 6 = .ok (.invokestatic 150, 3) := by decide +kernel
theorem dX10_lending_9 : decode cX10_lending 9 = .ok (.ifCond .eq 11, 3) := by decide +kernel
theorem dX10_lending_12 : decode cX10_lending 12 = .ok (.aload_n 0, 1) := by decide +kernel
theorem dX10_lending_13 : decode cX10_lending 13 = .ok (.iload_n 1, 1) := by decide +kernel
theorem dX10_lending_14 : decode cX10_lending 14 = .ok (.invokevirtual 353, 3) := by decide +kernel
theorem dX10_lending_17 : decode cX10_lending 17 = .ok (.goto 6, 3) := by decide +kernel
theorem dX10_lending_20 : decode cX10_lending 20 = .ok (.sipush (-1001), 3) := by decide +kernel
theorem dX10_lending_23 : decode cX10_lending 23 = .ok (.ireturn, 1) := by decide +kernel
theorem dX10_table_0 : decode cX10_table 0 = .ok (.iload_n 1, 1) := by decide +kernel
theorem dX10_table_1 : decode cX10_table 1 = .ok (.i2l, 1) := by decide +kernel
theorem dX10_table_2 : decode cX10_table 2 = .ok (.lconst 0, 1) := by decide +kernel
theorem dX10_table_3 : decode cX10_table 3 = .ok (.ldc2_w 174, 3) := by decide +kernel
theorem dX10_table_6 : decode cX10_table 6 = .ok (.invokestatic 150, 3) := by decide +kernel
theorem dX10_table_9 : decode cX10_table 9 = .ok (.ifCond .eq 29, 3) := by decide +kernel
theorem dX10_table_12 : decode cX10_table 12 = .ok (.iload_n 2, 1) := by decide +kernel
theorem dX10_table_13 : decode cX10_table 13 = .ok (.i2l, 1) := by decide +kernel
theorem dX10_table_14 : decode cX10_table 14 = .ok (.lconst 0, 1) := by decide +kernel
theorem dX10_table_15 : decode cX10_table 15 = .ok (.ldc2_w 174, 3) := by decide +kernel
theorem dX10_table_18 : decode cX10_table 18 = .ok (.invokestatic 150, 3) := by decide +kernel
theorem dX10_table_21 : decode cX10_table 21 = .ok (.ifCond .eq 17, 3) := by decide +kernel
theorem dX10_table_24 : decode cX10_table 24 = .ok (.iload_n 3, 1) := by decide +kernel
theorem dX10_table_25 : decode cX10_table 25 = .ok (.i2l, 1) := by decide +kernel
theorem dX10_table_26 : decode cX10_table 26 = .ok (.ldc2_w 358, 3) := by decide +kernel
theorem dX10_table_29 : decode cX10_table 29 = .ok (.ldc2_w 181, 3) := by decide +kernel
theorem dX10_table_32 : decode cX10_table 32 = .ok (.invokestatic 150, 3) := by decide +kernel
theorem dX10_table_35 : decode cX10_table 35 = .ok (.ifCond .ne 7, 3) := by decide +kernel
theorem dX10_table_38 : decode cX10_table 38 = .ok (.sipush (-1002), 3) := by decide +kernel
theorem dX10_table_41 : decode cX10_table 41 = .ok (.ireturn, 1) := by decide +kernel
theorem dX10_table_42 : decode cX10_table 42 = .ok (.aload_n 0, 1) := by decide +kernel
theorem dX10_table_43 : decode cX10_table 43 = .ok (.getfield 138, 3) := by decide +kernel
theorem dX10_table_46 : decode cX10_table 46 = .ok (.iconst 3, 1) := by decide +kernel
theorem dX10_table_47 : decode cX10_table 47 = .ok (.iload_n 1, 1) := by decide +kernel
theorem dX10_table_48 : decode cX10_table 48 = .ok (.imul, 1) := by decide +kernel
theorem dX10_table_49 : decode cX10_table 49 = .ok (.iload_n 2, 1) := by decide +kernel
theorem dX10_table_50 : decode cX10_table 50 = .ok (.iadd, 1) := by decide +kernel
theorem dX10_table_51 : decode cX10_table 51 = .ok (.iaload, 1) := by decide +kernel
theorem dX10_table_52 : decode cX10_table 52 = .ok (.istore 4, 2) := by decide +kernel
theorem dX10_table_54 : decode cX10_table 54 = .ok (.aload_n 0, 1) := by decide +kernel
theorem dX10_table_55 : decode cX10_table 55 = .ok (.getfield 138, 3) := by decide +kernel
theorem dX10_table_58 : decode cX10_table 58 = .ok (.iconst 3, 1) := by decide +kernel
theorem dX10_table_59 : decode cX10_table 59 = .ok (.iload_n 1, 1) := by decide +kernel
theorem dX10_table_60 : decode cX10_table 60 = .ok (.imul, 1) := by decide +kernel
theorem dX10_table_61 : decode cX10_table 61 = .ok (.iload_n 2, 1) := by decide +kernel
theorem dX10_table_62 : decode cX10_table 62 = .ok (.iadd, 1) := by decide +kernel
theorem dX10_table_63 : decode cX10_table 63 = .ok (.iload_n 3, 1) := by decide +kernel
theorem dX10_table_64 : decode cX10_table 64 = .ok (.iastore, 1) := by decide +kernel
theorem dX10_table_65 : decode cX10_table 65 = .ok (.iload 4, 2) := by decide +kernel
theorem dX10_table_67 : decode cX10_table 67 = .ok (.ireturn, 1) := by decide +kernel
theorem dX10_isGame_0 : decode cX10_isGame 0 = .ok (.iload_n 0, 1) := by decide +kernel
theorem dX10_isGame_1 : decode cX10_isGame 1 = .ok (.i2l, 1) := by decide +kernel
theorem dX10_isGame_2 : decode cX10_isGame 2 = .ok (.lconst 1, 1) := by decide +kernel
theorem dX10_isGame_3 : decode cX10_isGame 3 = .ok (.ldc2_w 303, 3) := by decide +kernel
theorem dX10_isGame_6 : decode cX10_isGame 6 = .ok (.invokestatic 150, 3) := by decide +kernel
theorem dX10_isGame_9 : decode cX10_isGame 9 = .ok (.ifCond .eq 19, 3) := by decide +kernel
theorem dX10_isGame_12 : decode cX10_isGame 12 = .ok (.iload_n 1, 1) := by decide +kernel
theorem dX10_isGame_13 : decode cX10_isGame 13 = .ok (.i2l, 1) := by decide +kernel
theorem dX10_isGame_14 : decode cX10_isGame 14 = .ok (.lconst 1, 1) := by decide +kernel
theorem dX10_isGame_15 : decode cX10_isGame 15 = .ok (.ldc2_w 186, 3) := by decide +kernel
theorem dX10_isGame_18 : decode cX10_isGame 18 = .ok (.invokestatic 150, 3) := by decide +kernel
theorem dX10_isGame_21 : decode cX10_isGame 21 = .ok (.ifCond .eq 7, 3) := by decide +kernel
theorem dX10_isGame_24 : decode cX10_isGame 24 = .ok (.iconst 1, 1) := by decide +kernel
theorem dX10_isGame_25 : decode cX10_isGame 25 = .ok (.goto 4, 3) := by decide +kernel
theorem dX10_isGame_28 : decode cX10_isGame 28 = .ok (.iconst 0, 1) := by decide +kernel
theorem dX10_isGame_29 : decode cX10_isGame 29 = .ok (.ireturn, 1) := by decide +kernel
theorem dX10_worthOf_0 : decode cX10_worthOf 0 = .ok (.ldc 147, 2) := by decide +kernel
theorem dX10_worthOf_2 : decode cX10_worthOf 2 = .ok (.istore 4, 2) := by decide +kernel
theorem dX10_worthOf_4 : decode cX10_worthOf 4 = .ok (.iconst 0, 1) := by decide +kernel
theorem dX10_worthOf_5 : decode cX10_worthOf 5 = .ok (.istore 5, 2) := by decide +kernel
theorem dX10_worthOf_7 : decode cX10_worthOf 7 = .ok (.iload 5, 2) := by decide +kernel
theorem dX10_worthOf_9 : decode cX10_worthOf 9 = .ok (.iconst 3, 1) := by decide +kernel
theorem dX10_worthOf_10 : decode cX10_worthOf 10 = .ok (.if_icmp .ge 44, 3) := by decide +kernel
theorem dX10_worthOf_13 : decode cX10_worthOf 13 = .ok (.iload 4, 2) := by decide +kernel
theorem dX10_worthOf_15 : decode cX10_worthOf 15 = .ok (.aload_n 0, 1) := by decide +kernel
theorem dX10_worthOf_16 : decode cX10_worthOf 16 = .ok (.getfield 141, 3) := by decide +kernel
theorem dX10_worthOf_19 : decode cX10_worthOf 19 = .ok (.sipush 1300, 3) := by decide +kernel
theorem dX10_worthOf_22 : decode cX10_worthOf 22 = .ok (.iload_n 2, 1) := by decide +kernel
theorem dX10_worthOf_23 : decode cX10_worthOf 23 = .ok (.imul, 1) := by decide +kernel
theorem dX10_worthOf_24 : decode cX10_worthOf 24 = .ok (.sipush 650, 3) := by decide +kernel
theorem dX10_worthOf_27 : decode cX10_worthOf 27 = .ok (.iadd, 1) := by decide +kernel
theorem dX10_worthOf_28 : decode cX10_worthOf 28 = .ok (.iload_n 3, 1) := by decide +kernel
theorem dX10_worthOf_29 : decode cX10_worthOf 29 = .ok (.iadd, 1) := by decide +kernel
theorem dX10_worthOf_30 : decode cX10_worthOf 30 = .ok (.aload_n 0, 1) := by decide +kernel
theorem dX10_worthOf_31 : decode cX10_worthOf 31 = .ok (.getfield 138, 3) := by decide +kernel
theorem dX10_worthOf_34 : decode cX10_worthOf 34 = .ok (.iconst 3, 1) := by decide +kernel
theorem dX10_worthOf_35 : decode cX10_worthOf 35 = .ok (.iload_n 1, 1) := by decide +kernel
theorem dX10_worthOf_36 : decode cX10_worthOf 36 = .ok (.imul, 1) := by decide +kernel
theorem dX10_worthOf_37 : decode cX10_worthOf 37 = .ok (.iload 5, 2) := by decide +kernel
theorem dX10_worthOf_39 : decode cX10_worthOf 39 = .ok (.iadd, 1) := by decide +kernel
theorem dX10_worthOf_40 : decode cX10_worthOf 40 = .ok (.iaload, 1) := by decide +kernel
theorem dX10_worthOf_41 : decode cX10_worthOf 41 = .ok (.iadd, 1) := by decide +kernel
theorem dX10_worthOf_42 : decode cX10_worthOf 42 = .ok (.iaload, 1) := by decide +kernel
theorem dX10_worthOf_43 : decode cX10_worthOf 43 = .ok (.invokestatic 167, 3) := by decide +kernel
theorem dX10_worthOf_46 : decode cX10_worthOf 46 = .ok (.istore 4, 2) := by decide +kernel
theorem dX10_worthOf_48 : decode cX10_worthOf 48 = .ok (.iinc 5 1, 3) := by decide +kernel
theorem dX10_worthOf_51 : decode cX10_worthOf 51 = .ok (.goto (-44), 3) := by decide +kernel
theorem dX10_worthOf_54 : decode cX10_worthOf 54 = .ok (.iload 4, 2) := by decide +kernel
theorem dX10_worthOf_56 : decode cX10_worthOf 56 = .ok (.ireturn, 1) := by decide +kernel
theorem dX10_findWorths_0 : decode cX10_findWorths 0 = .ok (.iconst 0, 1) := by decide +kernel
theorem dX10_findWorths_1 : decode cX10_findWorths 1 = .ok (.istore_n 3, 1) := by decide +kernel
theorem dX10_findWorths_2 : decode cX10_findWorths 2 = .ok (.iload_n 3, 1) := by decide +kernel
theorem dX10_findWorths_3 : decode cX10_findWorths 3 = .ok (.iload_n 1, 1) := by decide +kernel
theorem dX10_findWorths_4 : decode cX10_findWorths 4 = .ok (.if_icmp .ge 136, 3) := by decide +kernel
theorem dX10_findWorths_7 : decode cX10_findWorths 7 = .ok (.sipush (-650), 3) := by decide +kernel
theorem dX10_findWorths_10 : decode cX10_findWorths 10 = .ok (.istore 4, 2) := by decide +kernel
theorem dX10_findWorths_12 : decode cX10_findWorths 12 = .ok (.iload 4, 2) := by decide +kernel
theorem dX10_findWorths_14 : decode cX10_findWorths 14 = .ok (.sipush 650, 3) := by decide +kernel
theorem dX10_findWorths_17 : decode cX10_findWorths 17 = .ok (.if_icmp .ge 117, 3) := by decide +kernel
theorem dX10_findWorths_20 : decode cX10_findWorths 20 = .ok (.iload 4, 2) := by decide +kernel
theorem dX10_findWorths_22 : decode cX10_findWorths 22 = .ok (.istore 5, 2) := by decide +kernel
theorem dX10_findWorths_24 : decode cX10_findWorths 24 = .ok (.iload_n 3, 1) := by decide +kernel
theorem dX10_findWorths_25 : decode cX10_findWorths 25 = .ok (.ifCond .le 84, 3) := by decide +kernel
theorem dX10_findWorths_28 : decode cX10_findWorths 28 = .ok (.iload 4, 2) := by decide +kernel
theorem dX10_findWorths_30 : decode cX10_findWorths 30 = .ok (.i2l, 1) := by decide +kernel
theorem dX10_findWorths_31 : decode cX10_findWorths 31 = .ok (.iconst 1, 1) := by decide +kernel
theorem dX10_findWorths_32 : decode cX10_findWorths 32 = .ok (.iload_n 2, 1) := by decide +kernel
theorem dX10_findWorths_33 : decode cX10_findWorths 33 = .ok (.isub, 1) := by decide +kernel
theorem dX10_findWorths_34 : decode cX10_findWorths 34 = .ok (.i2l, 1) := by decide +kernel
theorem dX10_findWorths_35 : decode cX10_findWorths 35 = .ok (.iload_n 2, 1) := by decide +kernel
theorem dX10_findWorths_36 : decode cX10_findWorths 36 = .ok (.iconst 1, 1) := by decide +kernel
theorem dX10_findWorths_37 : decode cX10_findWorths 37 = .ok (.isub, 1) := by decide +kernel
theorem dX10_findWorths_38 : decode cX10_findWorths 38 = .ok (.i2l, 1) := by decide +kernel
theorem dX10_findWorths_39 : decode cX10_findWorths 39 = .ok (.invokestatic 150, 3) := by decide +kernel
theorem dX10_findWorths_42 : decode cX10_findWorths 42 = .ok (.ifCond .eq 67, 3) := by decide +kernel
theorem dX10_findWorths_45 : decode cX10_findWorths 45 = .ok (.iload 4, 2) := by decide +kernel
theorem dX10_findWorths_47 : decode cX10_findWorths 47 = .ok (.i2l, 1) := by decide +kernel
theorem dX10_findWorths_48 : decode cX10_findWorths 48 = .ok (.ldc2_w 360, 3) := by decide +kernel
theorem dX10_findWorths_51 : decode cX10_findWorths 51 = .ok (.ldc2_w 362, 3) := by decide +kernel
theorem dX10_findWorths_54 : decode cX10_findWorths 54 = .ok (.invokestatic 150, 3) := by decide +kernel
theorem dX10_findWorths_57 : decode cX10_findWorths 57 = .ok (.ifCond .eq 52, 3) := by decide +kernel
theorem dX10_findWorths_60 : decode cX10_findWorths 60 = .ok (.ldc_w 364, 3) := by decide +kernel
theorem dX10_findWorths_63 : decode cX10_findWorths 63 = .ok (.istore 5, 2) := by decide +kernel
theorem dX10_findWorths_65 : decode cX10_findWorths 65 = .ok (.iconst 0, 1) := by decide +kernel
theorem dX10_findWorths_66 : decode cX10_findWorths 66 = .ok (.istore 6, 2) := by decide +kernel
theorem dX10_findWorths_68 : decode cX10_findWorths 68 = .ok (.iload 6, 2) := by decide +kernel
theorem dX10_findWorths_70 : decode cX10_findWorths 70 = .ok (.iconst 3, 1) := by decide +kernel
theorem dX10_findWorths_71 : decode cX10_findWorths 71 = .ok (.if_icmp .ge 38, 3) := by decide +kernel
theorem dX10_findWorths_74 : decode cX10_findWorths 74 = .ok (.aload_n 0, 1) := by decide +kernel
theorem dX10_findWorths_75 : decode cX10_findWorths 75 = .ok (.iload 6, 2) := by decide +kernel
theorem dX10_findWorths_77 : decode cX10_findWorths 77 = .ok (.iload_n 3, 1) := by decide +kernel
theorem dX10_findWorths_78 : decode cX10_findWorths 78 = .ok (.iconst 1, 1) := by decide +kernel
theorem dX10_findWorths_79 : decode cX10_findWorths 79 = .ok (.isub, 1) := by decide +kernel
theorem dX10_findWorths_80 : decode cX10_findWorths 80 = .ok (.iload 4, 2) := by decide +kernel
theorem dX10_findWorths_82 : decode cX10_findWorths 82 = .ok (.invokevirtual 365, 3) := by decide +kernel
theorem dX10_findWorths_85 : decode cX10_findWorths 85 = .ok (.istore 7, 2) := by decide +kernel
theorem dX10_findWorths_87 : decode cX10_findWorths 87 = .ok (.iload 7, 2) := by decide +kernel
theorem dX10_findWorths_89 : decode cX10_findWorths 89 = .ok (.iload 5, 2) := by decide +kernel
theorem dX10_findWorths_91 : decode cX10_findWorths 91 = .ok (.if_icmp .le 8, 3) := by decide +kernel
theorem dX10_findWorths_94 : decode cX10_findWorths 94 = .ok (.iload 7, 2) := by decide +kernel
theorem dX10_findWorths_96 : decode cX10_findWorths 96 = .ok (.goto 5, 3) := by decide +kernel
theorem dX10_findWorths_99 : decode cX10_findWorths 99 = .ok (.iload 5, 2) := by decide +kernel
theorem dX10_findWorths_101 : decode cX10_findWorths 101 = .ok (.istore 5, 2) := by decide +kernel
theorem dX10_findWorths_103 : decode cX10_findWorths 103 = .ok (.iinc 6 1, 3) := by decide +kernel
theorem dX10_findWorths_106 : decode cX10_findWorths 106 = .ok (.goto (-38), 3) := by decide +kernel
theorem dX10_findWorths_109 : decode cX10_findWorths 109 = .ok (.aload_n 0, 1) := by decide +kernel
theorem dX10_findWorths_110 : decode cX10_findWorths 110 = .ok (.getfield 141, 3) := by decide +kernel
theorem dX10_findWorths_113 : decode cX10_findWorths 113 = .ok (.sipush 1300, 3) := by decide +kernel
theorem dX10_findWorths_116 : decode cX10_findWorths 116 = .ok (.iload_n 3, 1) := by decide +kernel
theorem dX10_findWorths_117 : decode cX10_findWorths 117 = .ok (.imul, 1) := by decide +kernel
theorem dX10_findWorths_118 : decode cX10_findWorths 118 = .ok (.sipush 650, 3) := by decide +kernel
theorem dX10_findWorths_121 : decode cX10_findWorths 121 = .ok (.iadd, 1) := by decide +kernel
theorem dX10_findWorths_122 : decode cX10_findWorths 122 = .ok (.iload 4, 2) := by decide +kernel
theorem dX10_findWorths_124 : decode cX10_findWorths 124 = .ok (.iadd, 1) := by decide +kernel
theorem dX10_findWorths_125 : decode cX10_findWorths 125 = .ok (.iload 5, 2) := by decide +kernel
theorem dX10_findWorths_127 : decode cX10_findWorths 127 = .ok (.iastore, 1) := by decide +kernel
theorem dX10_findWorths_128 : decode cX10_findWorths 128 = .ok (.iinc 4 1, 3) := by decide +kernel
theorem dX10_findWorths_131 : decode cX10_findWorths 131 = .ok (.goto (-119), 3) := by decide +kernel
theorem dX10_findWorths_134 : decode cX10_findWorths 134 = .ok (.iinc 3 1, 3) := by decide +kernel
theorem dX10_findWorths_137 : decode cX10_findWorths 137 = .ok (.goto (-135), 3) := by decide +kernel
theorem dX10_findWorths_140 : decode cX10_findWorths 140 = .ok (.return_, 1) := by decide +kernel
theorem dX10_game_0 : decode cX10_game 0 = .ok (.iload_n 1, 1) := by decide +kernel
theorem dX10_game_1 : decode cX10_game 1 = .ok (.iload_n 2, 1) := by decide +kernel
theorem dX10_game_2 : decode cX10_game 2 = .ok (.invokestatic 369, 3) := by decide +kernel
theorem dX10_game_5 : decode cX10_game 5 = .ok (.ifCond .eq 13, 3) := by decide +kernel
theorem dX10_game_8 : decode cX10_game 8 = .ok (.iload_n 3, 1) := by decide +kernel
theorem dX10_game_9 : decode cX10_game 9 = .ok (.i2l, 1) := by decide +kernel
theorem dX10_game_10 : decode cX10_game 10 = .ok (.lconst 0, 1) := by decide +kernel
theorem dX10_game_11 : decode cX10_game 11 = .ok (.lconst 1, 1) := by decide +kernel
theorem dX10_game_12 : decode cX10_game 12 = .ok (.invokestatic 150, 3) := by decide +kernel
theorem dX10_game_15 : decode cX10_game 15 = .ok (.ifCond .ne 7, 3) := by decide +kernel
theorem dX10_game_18 : decode cX10_game 18 = .ok (.sipush (-1002), 3) := by decide +kernel
theorem dX10_game_21 : decode cX10_game 21 = .ok (.ireturn, 1) := by decide +kernel
theorem dX10_game_22 : decode cX10_game 22 = .ok (.aload_n 0, 1) := by decide +kernel
theorem dX10_game_23 : decode cX10_game 23 = .ok (.iload_n 1, 1) := by decide +kernel
theorem dX10_game_24 : decode cX10_game 24 = .ok (.iload_n 2, 1) := by decide +kernel
theorem dX10_game_25 : decode cX10_game 25 = .ok (.invokevirtual 373, 3) := by decide +kernel
theorem dX10_game_28 : decode cX10_game 28 = .ok (.iconst 0, 1) := by decide +kernel
theorem dX10_game_29 : decode cX10_game 29 = .ok (.istore 4, 2) := by decide +kernel
theorem dX10_game_31 : decode cX10_game 31 = .ok (.ldc_w 364, 3) := by decide +kernel
theorem dX10_game_34 : decode cX10_game 34 = .ok (.istore 5, 2) := by decide +kernel
theorem dX10_game_36 : decode cX10_game 36 = .ok (.iconst 0, 1) := by decide +kernel
theorem dX10_game_37 : decode cX10_game 37 = .ok (.istore 6, 2) := by decide +kernel
theorem dX10_game_39 : decode cX10_game 39 = .ok (.iload 6, 2) := by decide +kernel
theorem dX10_game_41 : decode cX10_game 41 = .ok (.iconst 3, 1) := by decide +kernel
theorem dX10_game_42 : decode cX10_game 42 = .ok (.if_icmp .ge 36, 3) := by decide +kernel
theorem dX10_game_45 : decode cX10_game 45 = .ok (.aload_n 0, 1) := by decide +kernel
theorem dX10_game_46 : decode cX10_game 46 = .ok (.iload 6, 2) := by decide +kernel
theorem dX10_game_48 : decode cX10_game 48 = .ok (.iload_n 1, 1) := by decide +kernel
theorem dX10_game_49 : decode cX10_game 49 = .ok (.iconst 1, 1) := by decide +kernel
theorem dX10_game_50 : decode cX10_game 50 = .ok (.isub, 1) := by decide +kernel
theorem dX10_game_51 : decode cX10_game 51 = .ok (.iconst 0, 1) := by decide +kernel
theorem dX10_game_52 : decode cX10_game 52 = .ok (.invokevirtual 365, 3) := by decide +kernel
theorem dX10_game_55 : decode cX10_game 55 = .ok (.istore 7, 2) := by decide +kernel
theorem dX10_game_57 : decode cX10_game 57 = .ok (.iload 7, 2) := by decide +kernel
theorem dX10_game_59 : decode cX10_game 59 = .ok (.iload 5, 2) := by decide +kernel
theorem dX10_game_61 : decode cX10_game 61 = .ok (.if_icmp .le 11, 3) := by decide +kernel
theorem dX10_game_64 : decode cX10_game 64 = .ok (.iload 6, 2) := by decide +kernel
theorem dX10_game_66 : decode cX10_game 66 = .ok (.istore 4, 2) := by decide +kernel
theorem dX10_game_68 : decode cX10_game 68 = .ok (.iload 7, 2) := by decide +kernel
theorem dX10_game_70 : decode cX10_game 70 = .ok (.istore 5, 2) := by decide +kernel
theorem dX10_game_72 : decode cX10_game 72 = .ok (.iinc 6 1, 3) := by decide +kernel
theorem dX10_game_75 : decode cX10_game 75 = .ok (.goto (-36), 3) := by decide +kernel
theorem dX10_game_78 : decode cX10_game 78 = .ok (.iload_n 3, 1) := by decide +kernel
theorem dX10_game_79 : decode cX10_game 79 = .ok (.ifCond .ne 8, 3) := by decide +kernel
theorem dX10_game_82 : decode cX10_game 82 = .ok (.iload 5, 2) := by decide +kernel
theorem dX10_game_84 : decode cX10_game 84 = .ok (.goto 5, 3) := by decide +kernel
theorem dX10_game_87 : decode cX10_game 87 = .ok (.iload 4, 2) := by decide +kernel
theorem dX10_game_89 : decode cX10_game 89 = .ok (.ireturn, 1) := by decide +kernel
theorem dX10_judge_0 : decode cX10_judge 0 = .ok (.iload_n 1, 1) := by decide +kernel
theorem dX10_judge_1 : decode cX10_judge 1 = .ok (.iload_n 2, 1) := by decide +kernel
theorem dX10_judge_2 : decode cX10_judge 2 = .ok (.invokestatic 369, 3) := by decide +kernel
theorem dX10_judge_5 : decode cX10_judge 5 = .ok (.ifCond .eq 7, 3) := by decide +kernel
theorem dX10_judge_8 : decode cX10_judge 8 = .ok (.iload_n 3, 1) := by decide +kernel
theorem dX10_judge_9 : decode cX10_judge 9 = .ok (.ifCond .ge 7, 3) := by decide +kernel
theorem dX10_judge_12 : decode cX10_judge 12 = .ok (.sipush (-1002), 3) := by decide +kernel
theorem dX10_judge_15 : decode cX10_judge 15 = .ok (.ireturn, 1) := by decide +kernel
theorem dX10_judge_16 : decode cX10_judge 16 = .ok (.iconst 0, 1) := by decide +kernel
theorem dX10_judge_17 : decode cX10_judge 17 = .ok (.istore 4, 2) := by decide +kernel
theorem dX10_judge_19 : decode cX10_judge 19 = .ok (.iload_n 3, 1) := by decide +kernel
theorem dX10_judge_20 : decode cX10_judge 20 = .ok (.istore 5, 2) := by decide +kernel
theorem dX10_judge_22 : decode cX10_judge 22 = .ok (.iconst 0, 1) := by decide +kernel
theorem dX10_judge_23 : decode cX10_judge 23 = .ok (.istore 6, 2) := by decide +kernel
theorem dX10_judge_25 : decode cX10_judge 25 = .ok (.iload 6, 2) := by decide +kernel
theorem dX10_judge_27 : decode cX10_judge 27 = .ok (.iload_n 1, 1) := by decide +kernel
theorem dX10_judge_28 : decode cX10_judge 28 = .ok (.if_icmp .ge 68, 3) := by decide +kernel
theorem dX10_judge_31 : decode cX10_judge 31 = .ok (.iload 5, 2) := by decide +kernel
theorem dX10_judge_33 : decode cX10_judge 33 = .ok (.iconst 3, 1) := by decide +kernel
theorem dX10_judge_34 : decode cX10_judge 34 = .ok (.irem, 1) := by decide +kernel
theorem dX10_judge_35 : decode cX10_judge 35 = .ok (.istore 7, 2) := by decide +kernel
theorem dX10_judge_37 : decode cX10_judge 37 = .ok (.iload 5, 2) := by decide +kernel
theorem dX10_judge_39 : decode cX10_judge 39 = .ok (.iconst 3, 1) := by decide +kernel
theorem dX10_judge_40 : decode cX10_judge 40 = .ok (.idiv, 1) := by decide +kernel
theorem dX10_judge_41 : decode cX10_judge 41 = .ok (.iconst 3, 1) := by decide +kernel
theorem dX10_judge_42 : decode cX10_judge 42 = .ok (.irem, 1) := by decide +kernel
theorem dX10_judge_43 : decode cX10_judge 43 = .ok (.istore 8, 2) := by decide +kernel
theorem dX10_judge_45 : decode cX10_judge 45 = .ok (.iload 5, 2) := by decide +kernel
theorem dX10_judge_47 : decode cX10_judge 47 = .ok (.bipush 9, 2) := by decide +kernel
theorem dX10_judge_49 : decode cX10_judge 49 = .ok (.idiv, 1) := by decide +kernel
theorem dX10_judge_50 : decode cX10_judge 50 = .ok (.istore 5, 2) := by decide +kernel
theorem dX10_judge_52 : decode cX10_judge 52 = .ok (.iload 4, 2) := by decide +kernel
theorem dX10_judge_54 : decode cX10_judge 54 = .ok (.iload 4, 2) := by decide +kernel
theorem dX10_judge_56 : decode cX10_judge 56 = .ok (.i2l, 1) := by decide +kernel
theorem dX10_judge_57 : decode cX10_judge 57 = .ok (.iconst 1, 1) := by decide +kernel
theorem dX10_judge_58 : decode cX10_judge 58 = .ok (.iload_n 2, 1) := by decide +kernel
theorem dX10_judge_59 : decode cX10_judge 59 = .ok (.isub, 1) := by decide +kernel
theorem dX10_judge_60 : decode cX10_judge 60 = .ok (.i2l, 1) := by decide +kernel
theorem dX10_judge_61 : decode cX10_judge 61 = .ok (.iload_n 2, 1) := by decide +kernel
theorem dX10_judge_62 : decode cX10_judge 62 = .ok (.iconst 1, 1) := by decide +kernel
theorem dX10_judge_63 : decode cX10_judge 63 = .ok (.isub, 1) := by decide +kernel
theorem dX10_judge_64 : decode cX10_judge 64 = .ok (.i2l, 1) := by decide +kernel
theorem dX10_judge_65 : decode cX10_judge 65 = .ok (.invokestatic 150, 3) := by decide +kernel
theorem dX10_judge_68 : decode cX10_judge 68 = .ok (.ifCond .eq 18, 3) := by decide +kernel
theorem dX10_judge_71 : decode cX10_judge 71 = .ok (.aload_n 0, 1) := by decide +kernel
theorem dX10_judge_72 : decode cX10_judge 72 = .ok (.getfield 138, 3) := by decide +kernel
theorem dX10_judge_75 : decode cX10_judge 75 = .ok (.iconst 3, 1) := by decide +kernel
theorem dX10_judge_76 : decode cX10_judge 76 = .ok (.iload 7, 2) := by decide +kernel
theorem dX10_judge_78 : decode cX10_judge 78 = .ok (.imul, 1) := by decide +kernel
theorem dX10_judge_79 : decode cX10_judge 79 = .ok (.iload 8, 2) := by decide +kernel
theorem dX10_judge_81 : decode cX10_judge 81 = .ok (.iadd, 1) := by decide +kernel
theorem dX10_judge_82 : decode cX10_judge 82 = .ok (.iaload, 1) := by decide +kernel
theorem dX10_judge_83 : decode cX10_judge 83 = .ok (.goto 4, 3) := by decide +kernel
theorem dX10_judge_86 : decode cX10_judge 86 = .ok (.iconst 0, 1) := by decide +kernel
theorem dX10_judge_87 : decode cX10_judge 87 = .ok (.iadd, 1) := by decide +kernel
theorem dX10_judge_88 : decode cX10_judge 88 = .ok (.istore 4, 2) := by decide +kernel
theorem dX10_judge_90 : decode cX10_judge 90 = .ok (.iinc 6 1, 3) := by decide +kernel
theorem dX10_judge_93 : decode cX10_judge 93 = .ok (.goto (-68), 3) := by decide +kernel
theorem dX10_judge_96 : decode cX10_judge 96 = .ok (.iload 5, 2) := by decide +kernel
theorem dX10_judge_98 : decode cX10_judge 98 = .ok (.ifCond .le 9, 3) := by decide +kernel
theorem dX10_judge_101 : decode cX10_judge 101 = .ok (.sipush (-1002), 3) := by decide +kernel
theorem dX10_judge_104 : decode cX10_judge 104 = .ok (.goto 5, 3) := by decide +kernel
theorem dX10_judge_107 : decode cX10_judge 107 = .ok (.iload 4, 2) := by decide +kernel
theorem dX10_judge_109 : decode cX10_judge 109 = .ok (.ireturn, 1) := by decide +kernel
theorem dX10_keep_0 : decode cX10_keep 0 = .ok (.iload_n 1, 1) := by decide +kernel
theorem dX10_keep_1 : decode cX10_keep 1 = .ok (.istore 4, 2) := by decide +kernel
theorem dX10_keep_3 : decode cX10_keep 3 = .ok (.iload_n 3, 1) := by decide +kernel
theorem dX10_keep_4 : decode cX10_keep 4 = .ok (.ifCond .ne 11, 3) := by decide +kernel
theorem dX10_keep_7 : decode cX10_keep 7 = .ok (.aload_n 0, 1) := by decide +kernel
theorem dX10_keep_8 : decode cX10_keep 8 = .ok (.getfield 144, 3) := by decide +kernel
theorem dX10_keep_11 : decode cX10_keep 11 = .ok (.iload 4, 2) := by decide +kernel
theorem dX10_keep_13 : decode cX10_keep 13 = .ok (.iload_n 2, 1) := by decide +kernel
theorem dX10_keep_14 : decode cX10_keep 14 = .ok (.iastore, 1) := by decide +kernel
theorem dX10_keep_15 : decode cX10_keep 15 = .ok (.aload_n 0, 1) := by decide +kernel
theorem dX10_keep_16 : decode cX10_keep 16 = .ok (.getfield 144, 3) := by decide +kernel
theorem dX10_keep_19 : decode cX10_keep 19 = .ok (.iload 4, 2) := by decide +kernel
theorem dX10_keep_21 : decode cX10_keep 21 = .ok (.iaload, 1) := by decide +kernel
theorem dX10_keep_22 : decode cX10_keep 22 = .ok (.ireturn, 1) := by decide +kernel
theorem dX10_keepAll_0 : decode cX10_keepAll 0 = .ok (.iconst 0, 1) := by decide +kernel
theorem dX10_keepAll_1 : decode cX10_keepAll 1 = .ok (.istore_n 2, 1) := by decide +kernel
theorem dX10_keepAll_2 : decode cX10_keepAll 2 = .ok (.iload_n 2, 1) := by decide +kernel
theorem dX10_keepAll_3 : decode cX10_keepAll 3 = .ok (.bipush 24, 2) := by decide +kernel
theorem dX10_keepAll_5 : decode cX10_keepAll 5 = .ok (.if_icmp .ge 69, 3) := by decide +kernel
theorem dX10_keepAll_8 : decode cX10_keepAll 8 = .ok (.aload_n 0, 1) := by decide +kernel
theorem dX10_keepAll_9 : decode cX10_keepAll 9 = .ok (.getfield 13, 3) := by decide +kernel
theorem dX10_keepAll_12 : decode cX10_keepAll 12 = .ok (.iload_n 2, 1) := by decide +kernel
theorem dX10_keepAll_13 : decode cX10_keepAll 13 = .ok (.aload_n 0, 1) := by decide +kernel
theorem dX10_keepAll_14 : decode cX10_keepAll 14 = .ok (.iload_n 2, 1) := by decide +kernel
theorem dX10_keepAll_15 : decode cX10_keepAll 15 = .ok (.aload_n 0, 1) := by decide +kernel
theorem dX10_keepAll_16 : decode cX10_keepAll 16 = .ok (.getfield 13, 3) := by decide +kernel
theorem dX10_keepAll_19 : decode cX10_keepAll 19 = .ok (.iload_n 2, 1) := by decide +kernel
theorem dX10_keepAll_20 : decode cX10_keepAll 20 = .ok (.iaload, 1) := by decide +kernel
theorem dX10_keepAll_21 : decode cX10_keepAll 21 = .ok (.iload_n 1, 1) := by decide +kernel
theorem dX10_keepAll_22 : decode cX10_keepAll 22 = .ok (.invokevirtual 376, 3) := by decide +kernel
theorem dX10_keepAll_25 : decode cX10_keepAll 25 = .ok (.iastore, 1) := by decide +kernel
theorem dX10_keepAll_26 : decode cX10_keepAll 26 = .ok (.aload_n 0, 1) := by decide +kernel
theorem dX10_keepAll_27 : decode cX10_keepAll 27 = .ok (.getfield 22, 3) := by decide +kernel
theorem dX10_keepAll_30 : decode cX10_keepAll 30 = .ok (.iload_n 2, 1) := by decide +kernel
theorem dX10_keepAll_31 : decode cX10_keepAll 31 = .ok (.aload_n 0, 1) := by decide +kernel
theorem dX10_keepAll_32 : decode cX10_keepAll 32 = .ok (.bipush 24, 2) := by decide +kernel
theorem dX10_keepAll_34 : decode cX10_keepAll 34 = .ok (.iload_n 2, 1) := by decide +kernel
theorem dX10_keepAll_35 : decode cX10_keepAll 35 = .ok (.iadd, 1) := by decide +kernel
theorem dX10_keepAll_36 : decode cX10_keepAll 36 = .ok (.aload_n 0, 1) := by decide +kernel
theorem dX10_keepAll_37 : decode cX10_keepAll 37 = .ok (.getfield 22, 3) := by decide +kernel
theorem dX10_keepAll_40 : decode cX10_keepAll 40 = .ok (.iload_n 2, 1) := by decide +kernel
theorem dX10_keepAll_41 : decode cX10_keepAll 41 = .ok (.iaload, 1) := by decide +kernel
theorem dX10_keepAll_42 : decode cX10_keepAll 42 = .ok (.iload_n 1, 1) := by decide +kernel
theorem dX10_keepAll_43 : decode cX10_keepAll 43 = .ok (.invokevirtual 376, 3) := by decide +kernel
theorem dX10_keepAll_46 : decode cX10_keepAll 46 = .ok (.iastore, 1) := by decide +kernel
theorem dX10_keepAll_47 : decode cX10_keepAll 47 = .ok (.aload_n 0, 1) := by decide +kernel
theorem dX10_keepAll_48 : decode cX10_keepAll 48 = .ok (.getfield 25, 3) := by decide +kernel
theorem dX10_keepAll_51 : decode cX10_keepAll 51 = .ok (.iload_n 2, 1) := by decide +kernel
theorem dX10_keepAll_52 : decode cX10_keepAll 52 = .ok (.aload_n 0, 1) := by decide +kernel
theorem dX10_keepAll_53 : decode cX10_keepAll 53 = .ok (.bipush 48, 2) := by decide +kernel
theorem dX10_keepAll_55 : decode cX10_keepAll 55 = .ok (.iload_n 2, 1) := by decide +kernel
theorem dX10_keepAll_56 : decode cX10_keepAll 56 = .ok (.iadd, 1) := by decide +kernel
theorem dX10_keepAll_57 : decode cX10_keepAll 57 = .ok (.aload_n 0, 1) := by decide +kernel
theorem dX10_keepAll_58 : decode cX10_keepAll 58 = .ok (.getfield 25, 3) := by decide +kernel
theorem dX10_keepAll_61 : decode cX10_keepAll 61 = .ok (.iload_n 2, 1) := by decide +kernel
theorem dX10_keepAll_62 : decode cX10_keepAll 62 = .ok (.iaload, 1) := by decide +kernel
theorem dX10_keepAll_63 : decode cX10_keepAll 63 = .ok (.iload_n 1, 1) := by decide +kernel
theorem dX10_keepAll_64 : decode cX10_keepAll 64 = .ok (.invokevirtual 376, 3) := by decide +kernel
theorem dX10_keepAll_67 : decode cX10_keepAll 67 = .ok (.iastore, 1) := by decide +kernel
theorem dX10_keepAll_68 : decode cX10_keepAll 68 = .ok (.iinc 2 1, 3) := by decide +kernel
theorem dX10_keepAll_71 : decode cX10_keepAll 71 = .ok (.goto (-69), 3) := by decide +kernel
theorem dX10_keepAll_74 : decode cX10_keepAll 74 = .ok (.iconst 0, 1) := by decide +kernel
theorem dX10_keepAll_75 : decode cX10_keepAll 75 = .ok (.istore_n 2, 1) := by decide +kernel
theorem dX10_keepAll_76 : decode cX10_keepAll 76 = .ok (.iload_n 2, 1) := by decide +kernel
theorem dX10_keepAll_77 : decode cX10_keepAll 77 = .ok (.bipush 48, 2) := by decide +kernel
theorem dX10_keepAll_79 : decode cX10_keepAll 79 = .ok (.if_icmp .ge 73, 3) := by decide +kernel
theorem dX10_keepAll_82 : decode cX10_keepAll 82 = .ok (.aload_n 0, 1) := by decide +kernel
theorem dX10_keepAll_83 : decode cX10_keepAll 83 = .ok (.getfield 31, 3) := by decide +kernel
theorem dX10_keepAll_86 : decode cX10_keepAll 86 = .ok (.iload_n 2, 1) := by decide +kernel
theorem dX10_keepAll_87 : decode cX10_keepAll 87 = .ok (.aload_n 0, 1) := by decide +kernel
theorem dX10_keepAll_88 : decode cX10_keepAll 88 = .ok (.bipush 72, 2) := by decide +kernel
theorem dX10_keepAll_90 : decode cX10_keepAll 90 = .ok (.iload_n 2, 1) := by decide +kernel
theorem dX10_keepAll_91 : decode cX10_keepAll 91 = .ok (.iadd, 1) := by decide +kernel
theorem dX10_keepAll_92 : decode cX10_keepAll 92 = .ok (.aload_n 0, 1) := by decide +kernel
theorem dX10_keepAll_93 : decode cX10_keepAll 93 = .ok (.getfield 31, 3) := by decide +kernel
theorem dX10_keepAll_96 : decode cX10_keepAll 96 = .ok (.iload_n 2, 1) := by decide +kernel
theorem dX10_keepAll_97 : decode cX10_keepAll 97 = .ok (.iaload, 1) := by decide +kernel
theorem dX10_keepAll_98 : decode cX10_keepAll 98 = .ok (.iload_n 1, 1) := by decide +kernel
theorem dX10_keepAll_99 : decode cX10_keepAll 99 = .ok (.invokevirtual 376, 3) := by decide +kernel
theorem dX10_keepAll_102 : decode cX10_keepAll 102 = .ok (.iastore, 1) := by decide +kernel
theorem dX10_keepAll_103 : decode cX10_keepAll 103 = .ok (.aload_n 0, 1) := by decide +kernel
theorem dX10_keepAll_104 : decode cX10_keepAll 104 = .ok (.getfield 34, 3) := by decide +kernel
theorem dX10_keepAll_107 : decode cX10_keepAll 107 = .ok (.iload_n 2, 1) := by decide +kernel
theorem dX10_keepAll_108 : decode cX10_keepAll 108 = .ok (.aload_n 0, 1) := by decide +kernel
theorem dX10_keepAll_109 : decode cX10_keepAll 109 = .ok (.bipush 120, 2) := by decide +kernel
theorem dX10_keepAll_111 : decode cX10_keepAll 111 = .ok (.iload_n 2, 1) := by decide +kernel
theorem dX10_keepAll_112 : decode cX10_keepAll 112 = .ok (.iadd, 1) := by decide +kernel
theorem dX10_keepAll_113 : decode cX10_keepAll 113 = .ok (.aload_n 0, 1) := by decide +kernel
theorem dX10_keepAll_114 : decode cX10_keepAll 114 = .ok (.getfield 34, 3) := by decide +kernel
theorem dX10_keepAll_117 : decode cX10_keepAll 117 = .ok (.iload_n 2, 1) := by decide +kernel
theorem dX10_keepAll_118 : decode cX10_keepAll 118 = .ok (.iaload, 1) := by decide +kernel
theorem dX10_keepAll_119 : decode cX10_keepAll 119 = .ok (.iload_n 1, 1) := by decide +kernel
theorem dX10_keepAll_120 : decode cX10_keepAll 120 = .ok (.invokevirtual 376, 3) := by decide +kernel
theorem dX10_keepAll_123 : decode cX10_keepAll 123 = .ok (.iastore, 1) := by decide +kernel
theorem dX10_keepAll_124 : decode cX10_keepAll 124 = .ok (.aload_n 0, 1) := by decide +kernel
theorem dX10_keepAll_125 : decode cX10_keepAll 125 = .ok (.getfield 37, 3) := by decide +kernel
theorem dX10_keepAll_128 : decode cX10_keepAll 128 = .ok (.iload_n 2, 1) := by decide +kernel
theorem dX10_keepAll_129 : decode cX10_keepAll 129 = .ok (.aload_n 0, 1) := by decide +kernel
theorem dX10_keepAll_130 : decode cX10_keepAll 130 = .ok (.sipush 168, 3) := by decide +kernel
theorem dX10_keepAll_133 : decode cX10_keepAll 133 = .ok (.iload_n 2, 1) := by decide +kernel
theorem dX10_keepAll_134 : decode cX10_keepAll 134 = .ok (.iadd, 1) := by decide +kernel
theorem dX10_keepAll_135 : decode cX10_keepAll 135 = .ok (.aload_n 0, 1) := by decide +kernel
theorem dX10_keepAll_136 : decode cX10_keepAll 136 = .ok (.getfield 37, 3) := by decide +kernel
theorem dX10_keepAll_139 : decode cX10_keepAll 139 = .ok (.iload_n 2, 1) := by decide +kernel
theorem dX10_keepAll_140 : decode cX10_keepAll 140 = .ok (.iaload, 1) := by decide +kernel
theorem dX10_keepAll_141 : decode cX10_keepAll 141 = .ok (.iload_n 1, 1) := by decide +kernel
theorem dX10_keepAll_142 : decode cX10_keepAll 142 = .ok (.invokevirtual 376, 3) := by decide +kernel
theorem dX10_keepAll_145 : decode cX10_keepAll 145 = .ok (.iastore, 1) := by decide +kernel
theorem dX10_keepAll_146 : decode cX10_keepAll 146 = .ok (.iinc 2 1, 3) := by decide +kernel
theorem dX10_keepAll_149 : decode cX10_keepAll 149 = .ok (.goto (-73), 3) := by decide +kernel
theorem dX10_keepAll_152 : decode cX10_keepAll 152 = .ok (.iconst 0, 1) := by decide +kernel
theorem dX10_keepAll_153 : decode cX10_keepAll 153 = .ok (.istore_n 2, 1) := by decide +kernel
theorem dX10_keepAll_154 : decode cX10_keepAll 154 = .ok (.iload_n 2, 1) := by decide +kernel
theorem dX10_keepAll_155 : decode cX10_keepAll 155 = .ok (.bipush 6, 2) := by decide +kernel
theorem dX10_keepAll_157 : decode cX10_keepAll 157 = .ok (.if_icmp .ge 31, 3) := by decide +kernel
theorem dX10_keepAll_160 : decode cX10_keepAll 160 = .ok (.aload_n 0, 1) := by decide +kernel
theorem dX10_keepAll_161 : decode cX10_keepAll 161 = .ok (.getfield 40, 3) := by decide +kernel
theorem dX10_keepAll_164 : decode cX10_keepAll 164 = .ok (.iload_n 2, 1) := by decide +kernel
theorem dX10_keepAll_165 : decode cX10_keepAll 165 = .ok (.aload_n 0, 1) := by decide +kernel
theorem dX10_keepAll_166 : decode cX10_keepAll 166 = .ok (.sipush 216, 3) := by decide +kernel
theorem dX10_keepAll_169 : decode cX10_keepAll 169 = .ok (.iload_n 2, 1) := by decide +kernel
theorem dX10_keepAll_170 : decode cX10_keepAll 170 = .ok (.iadd, 1) := by decide +kernel
theorem dX10_keepAll_171 : decode cX10_keepAll 171 = .ok (.aload_n 0, 1) := by decide +kernel
theorem dX10_keepAll_172 : decode cX10_keepAll 172 = .ok (.getfield 40, 3) := by decide +kernel
theorem dX10_keepAll_175 : decode cX10_keepAll 175 = .ok (.iload_n 2, 1) := by decide +kernel
theorem dX10_keepAll_176 : decode cX10_keepAll 176 = .ok (.iaload, 1) := by decide +kernel
theorem dX10_keepAll_177 : decode cX10_keepAll 177 = .ok (.iload_n 1, 1) := by decide +kernel
theorem dX10_keepAll_178 : decode cX10_keepAll 178 = .ok (.invokevirtual 376, 3) := by decide +kernel
theorem dX10_keepAll_181 : decode cX10_keepAll 181 = .ok (.iastore, 1) := by decide +kernel
theorem dX10_keepAll_182 : decode cX10_keepAll 182 = .ok (.iinc 2 1, 3) := by decide +kernel
theorem dX10_keepAll_185 : decode cX10_keepAll 185 = .ok (.goto (-31), 3) := by decide +kernel
theorem dX10_keepAll_188 : decode cX10_keepAll 188 = .ok (.iconst 0, 1) := by decide +kernel
theorem dX10_keepAll_189 : decode cX10_keepAll 189 = .ok (.istore_n 2, 1) := by decide +kernel
theorem dX10_keepAll_190 : decode cX10_keepAll 190 = .ok (.iload_n 2, 1) := by decide +kernel
theorem dX10_keepAll_191 : decode cX10_keepAll 191 = .ok (.bipush 40, 2) := by decide +kernel
theorem dX10_keepAll_193 : decode cX10_keepAll 193 = .ok (.if_icmp .ge 75, 3) := by decide +kernel
theorem dX10_keepAll_196 : decode cX10_keepAll 196 = .ok (.aload_n 0, 1) := by decide +kernel
theorem dX10_keepAll_197 : decode cX10_keepAll 197 = .ok (.getfield 114, 3) := by decide +kernel
theorem dX10_keepAll_200 : decode cX10_keepAll 200 = .ok (.iload_n 2, 1) := by decide +kernel
theorem dX10_keepAll_201 : decode cX10_keepAll 201 = .ok (.aload_n 0, 1) := by decide +kernel
theorem dX10_keepAll_202 : decode cX10_keepAll 202 = .ok (.sipush 222, 3) := by decide +kernel
theorem dX10_keepAll_205 : decode cX10_keepAll 205 = .ok (.iload_n 2, 1) := by decide +kernel
theorem dX10_keepAll_206 : decode cX10_keepAll 206 = .ok (.iadd, 1) := by decide +kernel
theorem dX10_keepAll_207 : decode cX10_keepAll 207 = .ok (.aload_n 0, 1) := by decide +kernel
theorem dX10_keepAll_208 : decode cX10_keepAll 208 = .ok (.getfield 114, 3) := by decide +kernel
theorem dX10_keepAll_211 : decode cX10_keepAll 211 = .ok (.iload_n 2, 1) := by decide +kernel
theorem dX10_keepAll_212 : decode cX10_keepAll 212 = .ok (.iaload, 1) := by decide +kernel
theorem dX10_keepAll_213 : decode cX10_keepAll 213 = .ok (.iload_n 1, 1) := by decide +kernel
theorem dX10_keepAll_214 : decode cX10_keepAll 214 = .ok (.invokevirtual 376, 3) := by decide +kernel
theorem dX10_keepAll_217 : decode cX10_keepAll 217 = .ok (.iastore, 1) := by decide +kernel
theorem dX10_keepAll_218 : decode cX10_keepAll 218 = .ok (.aload_n 0, 1) := by decide +kernel
theorem dX10_keepAll_219 : decode cX10_keepAll 219 = .ok (.getfield 117, 3) := by decide +kernel
theorem dX10_keepAll_222 : decode cX10_keepAll 222 = .ok (.iload_n 2, 1) := by decide +kernel
theorem dX10_keepAll_223 : decode cX10_keepAll 223 = .ok (.aload_n 0, 1) := by decide +kernel
theorem dX10_keepAll_224 : decode cX10_keepAll 224 = .ok (.sipush 262, 3) := by decide +kernel
theorem dX10_keepAll_227 : decode cX10_keepAll 227 = .ok (.iload_n 2, 1) := by decide +kernel
theorem dX10_keepAll_228 : decode cX10_keepAll 228 = .ok (.iadd, 1) := by decide +kernel
theorem dX10_keepAll_229 : decode cX10_keepAll 229 = .ok (.aload_n 0, 1) := by decide +kernel
theorem dX10_keepAll_230 : decode cX10_keepAll 230 = .ok (.getfield 117, 3) := by decide +kernel
theorem dX10_keepAll_233 : decode cX10_keepAll 233 = .ok (.iload_n 2, 1) := by decide +kernel
theorem dX10_keepAll_234 : decode cX10_keepAll 234 = .ok (.iaload, 1) := by decide +kernel
theorem dX10_keepAll_235 : decode cX10_keepAll 235 = .ok (.iload_n 1, 1) := by decide +kernel
theorem dX10_keepAll_236 : decode cX10_keepAll 236 = .ok (.invokevirtual 376, 3) := by decide +kernel
theorem dX10_keepAll_239 : decode cX10_keepAll 239 = .ok (.iastore, 1) := by decide +kernel
theorem dX10_keepAll_240 : decode cX10_keepAll 240 = .ok (.aload_n 0, 1) := by decide +kernel
theorem dX10_keepAll_241 : decode cX10_keepAll 241 = .ok (.getfield 120, 3) := by decide +kernel
theorem dX10_keepAll_244 : decode cX10_keepAll 244 = .ok (.iload_n 2, 1) := by decide +kernel
theorem dX10_keepAll_245 : decode cX10_keepAll 245 = .ok (.aload_n 0, 1) := by decide +kernel
theorem dX10_keepAll_246 : decode cX10_keepAll 246 = .ok (.sipush 302, 3) := by decide +kernel
theorem dX10_keepAll_249 : decode cX10_keepAll 249 = .ok (.iload_n 2, 1) := by decide +kernel
theorem dX10_keepAll_250 : decode cX10_keepAll 250 = .ok (.iadd, 1) := by decide +kernel
theorem dX10_keepAll_251 : decode cX10_keepAll 251 = .ok (.aload_n 0, 1) := by decide +kernel
theorem dX10_keepAll_252 : decode cX10_keepAll 252 = .ok (.getfield 120, 3) := by decide +kernel
theorem dX10_keepAll_255 : decode cX10_keepAll 255 = .ok (.iload_n 2, 1) := by decide +kernel
theorem dX10_keepAll_256 : decode cX10_keepAll 256 = .ok (.iaload, 1) := by decide +kernel
theorem dX10_keepAll_257 : decode cX10_keepAll 257 = .ok (.iload_n 1, 1) := by decide +kernel
theorem dX10_keepAll_258 : decode cX10_keepAll 258 = .ok (.invokevirtual 376, 3) := by decide +kernel
theorem dX10_keepAll_261 : decode cX10_keepAll 261 = .ok (.iastore, 1) := by decide +kernel
theorem dX10_keepAll_262 : decode cX10_keepAll 262 = .ok (.iinc 2 1, 3) := by decide +kernel
theorem dX10_keepAll_265 : decode cX10_keepAll 265 = .ok (.goto (-75), 3) := by decide +kernel
theorem dX10_keepAll_268 : decode cX10_keepAll 268 = .ok (.return_, 1) := by decide +kernel
theorem dX10_beside_0 : decode cX10_beside 0 = .ok (.aload_n 0, 1) := by decide +kernel
theorem dX10_beside_1 : decode cX10_beside 1 = .ok (.iconst 0, 1) := by decide +kernel
theorem dX10_beside_2 : decode cX10_beside 2 = .ok (.invokevirtual 379, 3) := by decide +kernel
theorem dX10_beside_5 : decode cX10_beside 5 = .ok (.iconst 0, 1) := by decide +kernel
theorem dX10_beside_6 : decode cX10_beside 6 = .ok (.istore_n 2, 1) := by decide +kernel
theorem dX10_beside_7 : decode cX10_beside 7 = .ok (.iload_n 2, 1) := by decide +kernel
theorem dX10_beside_8 : decode cX10_beside 8 = .ok (.bipush 24, 2) := by decide +kernel
theorem dX10_beside_10 : decode cX10_beside 10 = .ok (.if_icmp .ge 21, 3) := by decide +kernel
theorem dX10_beside_13 : decode cX10_beside 13 = .ok (.aload_n 0, 1) := by decide +kernel
theorem dX10_beside_14 : decode cX10_beside 14 = .ok (.getfield 13, 3) := by decide +kernel
theorem dX10_beside_17 : decode cX10_beside 17 = .ok (.iload_n 2, 1) := by decide +kernel
theorem dX10_beside_18 : decode cX10_beside 18 = .ok (.aload_n 0, 1) := by decide +kernel
theorem dX10_beside_19 : decode cX10_beside 19 = .ok (.getfield 16, 3) := by decide +kernel
theorem dX10_beside_22 : decode cX10_beside 22 = .ok (.iload_n 2, 1) := by decide +kernel
theorem dX10_beside_23 : decode cX10_beside 23 = .ok (.iaload, 1) := by decide +kernel
theorem dX10_beside_24 : decode cX10_beside 24 = .ok (.iastore, 1) := by decide +kernel
theorem dX10_beside_25 : decode cX10_beside 25 = .ok (.iinc 2 1, 3) := by decide +kernel
theorem dX10_beside_28 : decode cX10_beside 28 = .ok (.goto (-21), 3) := by decide +kernel
theorem dX10_beside_31 : decode cX10_beside 31 = .ok (.iconst 0, 1) := by decide +kernel
theorem dX10_beside_32 : decode cX10_beside 32 = .ok (.istore_n 2, 1) := by decide +kernel
theorem dX10_beside_33 : decode cX10_beside 33 = .ok (.iload_n 2, 1) := by decide +kernel
theorem dX10_beside_34 : decode cX10_beside 34 = .ok (.bipush 48, 2) := by decide +kernel
theorem dX10_beside_36 : decode cX10_beside 36 = .ok (.if_icmp .ge 31, 3) := by decide +kernel
theorem dX10_beside_39 : decode cX10_beside 39 = .ok (.aload_n 0, 1) := by decide +kernel
theorem dX10_beside_40 : decode cX10_beside 40 = .ok (.getfield 31, 3) := by decide +kernel
theorem dX10_beside_43 : decode cX10_beside 43 = .ok (.iload_n 2, 1) := by decide +kernel
theorem dX10_beside_44 : decode cX10_beside 44 = .ok (.iconst 0, 1) := by decide +kernel
theorem dX10_beside_45 : decode cX10_beside 45 = .ok (.iastore, 1) := by decide +kernel
theorem dX10_beside_46 : decode cX10_beside 46 = .ok (.aload_n 0, 1) := by decide +kernel
theorem dX10_beside_47 : decode cX10_beside 47 = .ok (.getfield 34, 3) := by decide +kernel
theorem dX10_beside_50 : decode cX10_beside 50 = .ok (.iload_n 2, 1) := by decide +kernel
theorem dX10_beside_51 : decode cX10_beside 51 = .ok (.aload_n 0, 1) := by decide +kernel
theorem dX10_beside_52 : decode cX10_beside 52 = .ok (.getfield 46, 3) := by decide +kernel
theorem dX10_beside_55 : decode cX10_beside 55 = .ok (.iload_n 2, 1) := by decide +kernel
theorem dX10_beside_56 : decode cX10_beside 56 = .ok (.bipush 8, 2) := by decide +kernel
theorem dX10_beside_58 : decode cX10_beside 58 = .ok (.idiv, 1) := by decide +kernel
theorem dX10_beside_59 : decode cX10_beside 59 = .ok (.iaload, 1) := by decide +kernel
theorem dX10_beside_60 : decode cX10_beside 60 = .ok (.iastore, 1) := by decide +kernel
theorem dX10_beside_61 : decode cX10_beside 61 = .ok (.iinc 2 1, 3) := by decide +kernel
theorem dX10_beside_64 : decode cX10_beside 64 = .ok (.goto (-31), 3) := by decide +kernel
theorem dX10_beside_67 : decode cX10_beside 67 = .ok (.iconst 0, 1) := by decide +kernel
theorem dX10_beside_68 : decode cX10_beside 68 = .ok (.istore_n 2, 1) := by decide +kernel
theorem dX10_beside_69 : decode cX10_beside 69 = .ok (.iload_n 2, 1) := by decide +kernel
theorem dX10_beside_70 : decode cX10_beside 70 = .ok (.bipush 6, 2) := by decide +kernel
theorem dX10_beside_72 : decode cX10_beside 72 = .ok (.if_icmp .ge 21, 3) := by decide +kernel
theorem dX10_beside_75 : decode cX10_beside 75 = .ok (.aload_n 0, 1) := by decide +kernel
theorem dX10_beside_76 : decode cX10_beside 76 = .ok (.getfield 40, 3) := by decide +kernel
theorem dX10_beside_79 : decode cX10_beside 79 = .ok (.iload_n 2, 1) := by decide +kernel
theorem dX10_beside_80 : decode cX10_beside 80 = .ok (.aload_n 0, 1) := by decide +kernel
theorem dX10_beside_81 : decode cX10_beside 81 = .ok (.getfield 43, 3) := by decide +kernel
theorem dX10_beside_84 : decode cX10_beside 84 = .ok (.iload_n 2, 1) := by decide +kernel
theorem dX10_beside_85 : decode cX10_beside 85 = .ok (.iaload, 1) := by decide +kernel
theorem dX10_beside_86 : decode cX10_beside 86 = .ok (.iastore, 1) := by decide +kernel
theorem dX10_beside_87 : decode cX10_beside 87 = .ok (.iinc 2 1, 3) := by decide +kernel
theorem dX10_beside_90 : decode cX10_beside 90 = .ok (.goto (-21), 3) := by decide +kernel
theorem dX10_beside_93 : decode cX10_beside 93 = .ok (.iconst 0, 1) := by decide +kernel
theorem dX10_beside_94 : decode cX10_beside 94 = .ok (.istore_n 2, 1) := by decide +kernel
theorem dX10_beside_95 : decode cX10_beside 95 = .ok (.iload_n 2, 1) := by decide +kernel
theorem dX10_beside_96 : decode cX10_beside 96 = .ok (.aload_n 0, 1) := by decide +kernel
theorem dX10_beside_97 : decode cX10_beside 97 = .ok (.getfield 308, 3) := by decide +kernel
theorem dX10_beside_100 : decode cX10_beside 100 = .ok (.if_icmp .ge 14, 3) := by decide +kernel
theorem dX10_beside_103 : decode cX10_beside 103 = .ok (.aload_n 0, 1) := by decide +kernel
theorem dX10_beside_104 : decode cX10_beside 104 = .ok (.iload_n 2, 1) := by decide +kernel
theorem dX10_beside_105 : decode cX10_beside 105 = .ok (.invokevirtual 311, 3) := by decide +kernel
theorem dX10_beside_108 : decode cX10_beside 108 = .ok (.iinc 2 1, 3) := by decide +kernel
theorem dX10_beside_111 : decode cX10_beside 111 = .ok (.goto (-16), 3) := by decide +kernel
theorem dX10_beside_114 : decode cX10_beside 114 = .ok (.iconst (-1), 1) := by decide +kernel
theorem dX10_beside_115 : decode cX10_beside 115 = .ok (.istore_n 2, 1) := by decide +kernel
theorem dX10_beside_116 : decode cX10_beside 116 = .ok (.iconst 0, 1) := by decide +kernel
theorem dX10_beside_117 : decode cX10_beside 117 = .ok (.istore_n 3, 1) := by decide +kernel
theorem dX10_beside_118 : decode cX10_beside 118 = .ok (.iload_n 3, 1) := by decide +kernel
theorem dX10_beside_119 : decode cX10_beside 119 = .ok (.aload_n 0, 1) := by decide +kernel
theorem dX10_beside_120 : decode cX10_beside 120 = .ok (.getfield 192, 3) := by decide +kernel
theorem dX10_beside_123 : decode cX10_beside 123 = .ok (.if_icmp .ge 43, 3) := by decide +kernel
theorem dX10_beside_126 : decode cX10_beside 126 = .ok (.aload_n 0, 1) := by decide +kernel
theorem dX10_beside_127 : decode cX10_beside 127 = .ok (.getfield 49, 3) := by decide +kernel
theorem dX10_beside_130 : decode cX10_beside 130 = .ok (.iload_n 3, 1) := by decide +kernel
theorem dX10_beside_131 : decode cX10_beside 131 = .ok (.iaload, 1) := by decide +kernel
theorem dX10_beside_132 : decode cX10_beside 132 = .ok (.ifCond .ne 26, 3) := by decide +kernel
theorem dX10_beside_135 : decode cX10_beside 135 = .ok (.iload_n 2, 1) := by decide +kernel
theorem dX10_beside_136 : decode cX10_beside 136 = .ok (.ifCond .lt 13, 3) := by decide +kernel
theorem dX10_beside_139 : decode cX10_beside 139 = .ok (.aload_n 0, 1) := by decide +kernel
theorem dX10_beside_140 : decode cX10_beside 140 = .ok (.getfield 58, 3) := by decide +kernel
theorem dX10_beside_143 : decode cX10_beside 143 = .ok (.iload_n 3, 1) := by decide +kernel
theorem dX10_beside_144 : decode cX10_beside 144 = .ok (.iaload, 1) := by decide +kernel
theorem dX10_beside_145 : decode cX10_beside 145 = .ok (.iload_n 2, 1) := by decide +kernel
theorem dX10_beside_146 : decode cX10_beside 146 = .ok (.if_icmp .ge 12, 3) := by decide +kernel
theorem dX10_beside_149 : decode cX10_beside 149 = .ok (.aload_n 0, 1) := by decide +kernel
theorem dX10_beside_150 : decode cX10_beside 150 = .ok (.getfield 58, 3) := by decide +kernel
theorem dX10_beside_153 : decode cX10_beside 153 = .ok (.iload_n 3, 1) := by decide +kernel
theorem dX10_beside_154 : decode cX10_beside 154 = .ok (.iaload, 1) := by decide +kernel
theorem dX10_beside_155 : decode cX10_beside 155 = .ok (.goto 4, 3) := by decide +kernel
theorem dX10_beside_158 : decode cX10_beside 158 = .ok (.iload_n 2, 1) := by decide +kernel
theorem dX10_beside_159 : decode cX10_beside 159 = .ok (.istore_n 2, 1) := by decide +kernel
theorem dX10_beside_160 : decode cX10_beside 160 = .ok (.iinc 3 1, 3) := by decide +kernel
theorem dX10_beside_163 : decode cX10_beside 163 = .ok (.goto (-45), 3) := by decide +kernel
theorem dX10_beside_166 : decode cX10_beside 166 = .ok (.aload_n 0, 1) := by decide +kernel
theorem dX10_beside_167 : decode cX10_beside 167 = .ok (.iload_n 1, 1) := by decide +kernel
theorem dX10_beside_168 : decode cX10_beside 168 = .ok (.ifCond .eq 7, 3) := by decide +kernel
theorem dX10_beside_171 : decode cX10_beside 171 = .ok (.iload_n 2, 1) := by decide +kernel
theorem dX10_beside_172 : decode cX10_beside 172 = .ok (.goto 4, 3) := by decide +kernel
theorem dX10_beside_175 : decode cX10_beside 175 = .ok (.iconst (-1), 1) := by decide +kernel
theorem dX10_beside_176 : decode cX10_beside 176 = .ok (.putfield 61, 3) := by decide +kernel
theorem dX10_beside_179 : decode cX10_beside 179 = .ok (.iconst 0, 1) := by decide +kernel
theorem dX10_beside_180 : decode cX10_beside 180 = .ok (.istore_n 3, 1) := by decide +kernel
theorem dX10_beside_181 : decode cX10_beside 181 = .ok (.iconst 0, 1) := by decide +kernel
theorem dX10_beside_182 : decode cX10_beside 182 = .ok (.istore 4, 2) := by decide +kernel
theorem dX10_beside_184 : decode cX10_beside 184 = .ok (.iload 4, 2) := by decide +kernel
theorem dX10_beside_186 : decode cX10_beside 186 = .ok (.aload_n 0, 1) := by decide +kernel
theorem dX10_beside_187 : decode cX10_beside 187 = .ok (.getfield 197, 3) := by decide +kernel
theorem dX10_beside_190 : decode cX10_beside 190 = .ok (.if_icmp .ge 18, 3) := by decide +kernel
theorem dX10_beside_193 : decode cX10_beside 193 = .ok (.iload_n 3, 1) := by decide +kernel
theorem dX10_beside_194 : decode cX10_beside 194 = .ok (.aload_n 0, 1) := by decide +kernel
theorem dX10_beside_195 : decode cX10_beside 195 = .ok (.iload 4, 2) := by decide +kernel
theorem dX10_beside_197 : decode cX10_beside 197 = .ok (.invokevirtual 334, 3) := by decide +kernel
theorem dX10_beside_200 : decode cX10_beside 200 = .ok (.iadd, 1) := by decide +kernel
theorem dX10_beside_201 : decode cX10_beside 201 = .ok (.istore_n 3, 1) := by decide +kernel
theorem dX10_beside_202 : decode cX10_beside 202 = .ok (.iinc 4 1, 3) := by decide +kernel
theorem dX10_beside_205 : decode cX10_beside 205 = .ok (.goto (-21), 3) := by decide +kernel
theorem dX10_beside_208 : decode cX10_beside 208 = .ok (.aload_n 0, 1) := by decide +kernel
theorem dX10_beside_209 : decode cX10_beside 209 = .ok (.iconst (-1), 1) := by decide +kernel
theorem dX10_beside_210 : decode cX10_beside 210 = .ok (.putfield 61, 3) := by decide +kernel
theorem dX10_beside_213 : decode cX10_beside 213 = .ok (.aload_n 0, 1) := by decide +kernel
theorem dX10_beside_214 : decode cX10_beside 214 = .ok (.iconst 1, 1) := by decide +kernel
theorem dX10_beside_215 : decode cX10_beside 215 = .ok (.invokevirtual 379, 3) := by decide +kernel
theorem dX10_beside_218 : decode cX10_beside 218 = .ok (.iload_n 3, 1) := by decide +kernel
theorem dX10_beside_219 : decode cX10_beside 219 = .ok (.ireturn, 1) := by decide +kernel
