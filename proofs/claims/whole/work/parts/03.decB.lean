theorem dX7_init_0 : decode cX7_init 0 = .ok (.aload_n 0, 1) := by decide +kernel
theorem dX7_init_1 : decode cX7_init 1 = .ok (.invokespecial 3, 3) := by decide +kernel
theorem dX7_init_4 : decode cX7_init 4 = .ok (.aload_n 0, 1) := by decide +kernel
theorem dX7_init_5 : decode cX7_init 5 = .ok (.sipush 160, 3) := by decide +kernel
theorem dX7_init_8 : decode cX7_init 8 = .ok (.newarray .int, 2) := by decide +kernel
theorem dX7_init_10 : decode cX7_init 10 = .ok (.putfield 9, 3) := by decide +kernel
theorem dX7_init_13 : decode cX7_init 13 = .ok (.aload_n 0, 1) := by decide +kernel
theorem dX7_init_14 : decode cX7_init 14 = .ok (.bipush 8, 2) := by decide +kernel
theorem dX7_init_16 : decode cX7_init 16 = .ok (.newarray .int, 2) := by decide +kernel
theorem dX7_init_18 : decode cX7_init 18 = .ok (.putfield 15, 3) := by decide +kernel
theorem dX7_init_21 : decode cX7_init 21 = .ok (.aload_n 0, 1) := by decide +kernel
theorem dX7_init_22 : decode cX7_init 22 = .ok (.bipush 8, 2) := by decide +kernel
theorem dX7_init_24 : decode cX7_init 24 = .ok (.newarray .int, 2) := by decide +kernel
theorem dX7_init_26 : decode cX7_init 26 = .ok (.putfield 18, 3) := by decide +kernel
theorem dX7_init_29 : decode cX7_init 29 = .ok (.aload_n 0, 1) := by decide +kernel
theorem dX7_init_30 : decode cX7_init 30 = .ok (.iconst 0, 1) := by decide +kernel
theorem dX7_init_31 : decode cX7_init 31 = .ok (.putfield 21, 3) := by decide +kernel
theorem dX7_init_34 : decode cX7_init 34 = .ok (.aload_n 0, 1) := by decide +kernel
theorem dX7_init_35 : decode cX7_init 35 = .ok (.iconst 0, 1) := by decide +kernel
theorem dX7_init_36 : decode cX7_init 36 = .ok (.putfield 25, 3) := by decide +kernel
theorem dX7_init_39 : decode cX7_init 39 = .ok (.aload_n 0, 1) := by decide +kernel
theorem dX7_init_40 : decode cX7_init 40 = .ok (.iconst 0, 1) := by decide +kernel
theorem dX7_init_41 : decode cX7_init 41 = .ok (.putfield 28, 3) := by decide +kernel
theorem dX7_init_44 : decode cX7_init 44 = .ok (.aload_n 0, 1) := by decide +kernel
theorem dX7_init_45 : decode cX7_init 45 = .ok (.iconst (-1), 1) := by decide +kernel
theorem dX7_init_46 : decode cX7_init 46 = .ok (.putfield 31, 3) := by decide +kernel
theorem dX7_init_49 : decode cX7_init 49 = .ok (.aload_n 0, 1) := by decide +kernel
theorem dX7_init_50 : decode cX7_init 50 = .ok (.iconst 0, 1) := by decide +kernel
theorem dX7_init_51 : decode cX7_init 51 = .ok (.putfield 34, 3) := by decide +kernel
theorem dX7_init_54 : decode cX7_init 54 = .ok (.aload_n 0, 1) := by decide +kernel
theorem dX7_init_55 : decode cX7_init 55 = .ok (.iconst 0, 1) := by decide +kernel
theorem dX7_init_56 : decode cX7_init 56 = .ok (.putfield 37, 3) := by decide +kernel
theorem dX7_init_59 : decode cX7_init 59 = .ok (.return_, 1) := by decide +kernel
theorem dX7_append_0 : decode cX7_append 0 = .ok (.iload_n 1, 1) := by decide +kernel
theorem dX7_append_1 : decode cX7_append 1 = .ok (.iconst 1, 1) := by decide +kernel
theorem dX7_append_2 : decode cX7_append 2 = .ok (.isub, 1) := by decide +kernel
theorem dX7_append_3 : decode cX7_append 3 = .ok (.istore 4, 2) := by decide +kernel
theorem dX7_append_5 : decode cX7_append 5 = .ok (.iload 4, 2) := by decide +kernel
theorem dX7_append_7 : decode cX7_append 7 = .ok (.ifCond .lt 37, 3) := by decide +kernel
theorem dX7_append_10 : decode cX7_append 10 = .ok (.aload_n 0, 1) := by decide +kernel
theorem dX7_append_11 : decode cX7_append 11 = .ok (.getfield 9, 3) := by decide +kernel
theorem dX7_append_14 : decode cX7_append 14 = .ok (.aload_n 0, 1) := by decide +kernel
theorem dX7_append_15 : decode cX7_append 15 = .ok (.dup, 1) := by decide +kernel
theorem dX7_append_16 : decode cX7_append 16 = .ok (.getfield 21, 3) := by decide +kernel
theorem dX7_append_19 : decode cX7_append 19 = .ok (.dup_x1, 1) := by decide +kernel
theorem dX7_append_20 : decode cX7_append 20 = .ok (.iconst 1, 1) := by decide +kernel
theorem dX7_append_21 : decode cX7_append 21 = .ok (.iadd, 1) := by decide +kernel
theorem dX7_append_22 : decode cX7_append 22 = .ok (.putfield 21, 3) := by decide +kernel
theorem dX7_append_25 : decode cX7_append 25 = .ok (.lload_n 2, 1) := by decide +kernel
theorem dX7_append_26 : decode cX7_append 26 = .ok (.bipush 8, 2) := by decide +kernel
theorem dX7_append_28 : decode cX7_append 28 = .ok (.iload 4, 2) := by decide +kernel
theorem dX7_append_30 : decode cX7_append 30 = .ok (.imul, 1) := by decide +kernel
theorem dX7_append_31 : decode cX7_append 31 = .ok (.lshr, 1) := by decide +kernel
theorem dX7_append_32 : decode cX7_append 32 = .ok (.ldc2_w 40, 3) := by decide +kernel
theorem dX7_append_35 : decode cX7_append 35 = .ok (.land, 1) := by decide +kernel
theorem dX7_append_36 : decode cX7_append 36 = .ok (.l2i, 1) := by decide +kernel
theorem dX7_append_37 : decode cX7_append 37 = .ok (.iastore, 1) := by decide +kernel
theorem dX7_append_38 : decode cX7_append 38 = .ok (.iinc 4 (-1), 3) := by decide +kernel
theorem dX7_append_41 : decode cX7_append 41 = .ok (.goto (-36), 3) := by decide +kernel
theorem dX7_append_44 : decode cX7_append 44 = .ok (.return_, 1) := by decide +kernel
theorem dX7_read_0 : decode cX7_read 0 = .ok (.aload_n 0, 1) := by decide +kernel
theorem dX7_read_1 : decode cX7_read 1 = .ok (.iconst 0, 1) := by decide +kernel
theorem dX7_read_2 : decode cX7_read 2 = .ok (.putfield 34, 3) := by decide +kernel
theorem dX7_read_5 : decode cX7_read 5 = .ok (.aload_n 0, 1) := by decide +kernel
theorem dX7_read_6 : decode cX7_read 6 = .ok (.iconst 0, 1) := by decide +kernel
theorem dX7_read_7 : decode cX7_read 7 = .ok (.putfield 25, 3) := by decide +kernel
theorem dX7_read_10 : decode cX7_read 10 = .ok (.aload_n 0, 1) := by decide +kernel
theorem dX7_read_11 : decode cX7_read 11 = .ok (.iconst 0, 1) := by decide +kernel
theorem dX7_read_12 : decode cX7_read 12 = .ok (.putfield 28, 3) := by decide +kernel
theorem dX7_read_15 : decode cX7_read 15 = .ok (.aload_n 0, 1) := by decide +kernel
theorem dX7_read_16 : decode cX7_read 16 = .ok (.iconst (-1), 1) := by decide +kernel
theorem dX7_read_17 : decode cX7_read 17 = .ok (.putfield 31, 3) := by decide +kernel
theorem dX7_read_20 : decode cX7_read 20 = .ok (.iconst 0, 1) := by decide +kernel
theorem dX7_read_21 : decode cX7_read 21 = .ok (.istore_n 2, 1) := by decide +kernel
theorem dX7_read_22 : decode cX7_read 22 = .ok (.iload_n 2, 1) := by decide +kernel
theorem dX7_read_23 : decode cX7_read 23 = .ok (.bipush 8, 2) := by decide +kernel
theorem dX7_read_25 : decode cX7_read 25 = .ok (.if_icmp .gt 21, 3) := by decide +kernel
theorem dX7_read_28 : decode cX7_read 28 = .ok (.aload_n 0, 1) := by decide +kernel
theorem dX7_read_29 : decode cX7_read 29 = .ok (.invokevirtual 42, 3) := by decide +kernel
theorem dX7_read_32 : decode cX7_read 32 = .ok (.ifCond .eq 14, 3) := by decide +kernel
theorem dX7_read_35 : decode cX7_read 35 = .ok (.aload_n 0, 1) := by decide +kernel
theorem dX7_read_36 : decode cX7_read 36 = .ok (.iload_n 1, 1) := by decide +kernel
theorem dX7_read_37 : decode cX7_read 37 = .ok (.invokevirtual 46, 3) := by decide +kernel
theorem dX7_read_40 : decode cX7_read 40 = .ok (.iinc 2 1, 3) := by decide +kernel
theorem dX7_read_43 : decode cX7_read 43 = .ok (.goto (-21), 3) := by decide +kernel
theorem dX7_read_46 : decode cX7_read 46 = .ok (.aload_n 0, 1) := by decide +kernel
theorem dX7_read_47 : decode cX7_read 47 = .ok (.iconst 0, 1) := by decide +kernel
theorem dX7_read_48 : decode cX7_read 48 = .ok (.putfield 21, 3) := by decide +kernel
theorem dX7_read_51 : decode cX7_read 51 = .ok (.return_, 1) := by decide +kernel
theorem dX7_more_0 : decode cX7_more 0 = .ok (.aload_n 0, 1) := by decide +kernel
theorem dX7_more_1 : decode cX7_more 1 = .ok (.invokevirtual 50, 3) := by decide +kernel
theorem dX7_more_4 : decode cX7_more 4 = .ok (.aload_n 0, 1) := by decide +kernel
theorem dX7_more_5 : decode cX7_more 5 = .ok (.getfield 28, 3) := by decide +kernel
theorem dX7_more_8 : decode cX7_more 8 = .ok (.ifCond .ne 18, 3) := by decide +kernel
theorem dX7_more_11 : decode cX7_more 11 = .ok (.aload_n 0, 1) := by decide +kernel
theorem dX7_more_12 : decode cX7_more 12 = .ok (.getfield 34, 3) := by decide +kernel
theorem dX7_more_15 : decode cX7_more 15 = .ok (.aload_n 0, 1) := by decide +kernel
theorem dX7_more_16 : decode cX7_more 16 = .ok (.getfield 21, 3) := by decide +kernel
theorem dX7_more_19 : decode cX7_more 19 = .ok (.if_icmp .ge 7, 3) := by decide +kernel
theorem dX7_more_22 : decode cX7_more 22 = .ok (.iconst 1, 1) := by decide +kernel
theorem dX7_more_23 : decode cX7_more 23 = .ok (.goto 4, 3) := by decide +kernel
theorem dX7_more_26 : decode cX7_more 26 = .ok (.iconst 0, 1) := by decide +kernel
theorem dX7_more_27 : decode cX7_more 27 = .ok (.ireturn, 1) := by decide +kernel
theorem dX7_readClause_0 : decode cX7_readClause 0 = .ok (.aload_n 0, 1) := by decide +kernel
theorem dX7_readClause_1 : decode cX7_readClause 1 = .ok (.invokevirtual 53, 3) := by decide +kernel
theorem dX7_readClause_4 : decode cX7_readClause 4 = .ok (.aload_n 0, 1) := by decide +kernel
theorem dX7_readClause_5 : decode cX7_readClause 5 = .ok (.ldc 56, 2) := by decide +kernel
theorem dX7_readClause_7 : decode cX7_readClause 7 = .ok (.invokevirtual 58, 3) := by decide +kernel
theorem dX7_readClause_10 : decode cX7_readClause 10 = .ok (.ifCond .eq 10, 3) := by decide +kernel
theorem dX7_readClause_13 : decode cX7_readClause 13 = .ok (.aload_n 0, 1) := by decide +kernel
theorem dX7_readClause_14 : decode cX7_readClause 14 = .ok (.invokevirtual 62, 3) := by decide +kernel
theorem dX7_readClause_17 : decode cX7_readClause 17 = .ok (.goto 104, 3) := by decide +kernel
theorem dX7_readClause_20 : decode cX7_readClause 20 = .ok (.aload_n 0, 1) := by decide +kernel
theorem dX7_readClause_21 : decode cX7_readClause 21 = .ok (.ldc 65, 2) := by decide +kernel
theorem dX7_readClause_23 : decode cX7_readClause 23 = .ok (.invokevirtual 58, 3) := by decide +kernel
theorem dX7_readClause_26 : decode cX7_readClause 26 = .ok (.ifCond .eq 12, 3) := by decide +kernel
theorem dX7_readClause_29 : decode cX7_readClause 29 = .ok (.aload_n 0, 1) := by decide +kernel
theorem dX7_readClause_30 : decode cX7_readClause 30 = .ok (.iconst 3, 1) := by decide +kernel
theorem dX7_readClause_31 : decode cX7_readClause 31 = .ok (.iload_n 1, 1) := by decide +kernel
theorem dX7_readClause_32 : decode cX7_readClause 32 = .ok (.invokevirtual 67, 3) := by decide +kernel
theorem dX7_readClause_35 : decode cX7_readClause 35 = .ok (.goto 86, 3) := by decide +kernel
theorem dX7_readClause_38 : decode cX7_readClause 38 = .ok (.aload_n 0, 1) := by decide +kernel
theorem dX7_readClause_39 : decode cX7_readClause 39 = .ok (.ldc 71, 2) := by decide +kernel
theorem dX7_readClause_41 : decode cX7_readClause 41 = .ok (.invokevirtual 58, 3) := by decide +kernel
theorem dX7_readClause_44 : decode cX7_readClause 44 = .ok (.ifCond .eq 12, 3) := by decide +kernel
theorem dX7_readClause_47 : decode cX7_readClause 47 = .ok (.aload_n 0, 1) := by decide +kernel
theorem dX7_readClause_48 : decode cX7_readClause 48 = .ok (.iconst 4, 1) := by decide +kernel
theorem dX7_readClause_49 : decode cX7_readClause 49 = .ok (.iload_n 1, 1) := by decide +kernel
theorem dX7_readClause_50 : decode cX7_readClause 50 = .ok (.invokevirtual 67, 3) := by decide +kernel
theorem dX7_readClause_53 : decode cX7_readClause 53 = .ok (.goto 68, 3) := by decide +kernel
theorem dX7_readClause_56 : decode cX7_readClause 56 = .ok (.aload_n 0, 1) := by decide +kernel
theorem dX7_readClause_57 : decode cX7_readClause 57 = .ok (.ldc 73, 2) := by decide +kernel
theorem dX7_readClause_59 : decode cX7_readClause 59 = .ok (.invokevirtual 58, 3) := by decide +kernel
theorem dX7_readClause_62 : decode cX7_readClause 62 = .ok (.ifCond .eq 12, 3) := by decide +kernel
theorem dX7_readClause_65 : decode cX7_readClause 65 = .ok (.aload_n 0, 1) := by decide +kernel
theorem dX7_readClause_66 : decode cX7_readClause 66 = .ok (.iconst 5, 1) := by decide +kernel
theorem dX7_readClause_67 : decode cX7_readClause 67 = .ok (.iload_n 1, 1) := by decide +kernel
theorem dX7_readClause_68 : decode cX7_readClause 68 = .ok (.invokevirtual 67, 3) := by decide +kernel
theorem dX7_readClause_71 : decode cX7_readClause 71 = .ok (.goto 50, 3) := by decide +kernel
theorem dX7_readClause_74 : decode cX7_readClause 74 = .ok (.aload_n 0, 1) := by decide +kernel
theorem dX7_readClause_75 : decode cX7_readClause 75 = .ok (.ldc 75, 2) := by decide +kernel
theorem dX7_readClause_77 : decode cX7_readClause 77 = .ok (.invokevirtual 58, 3) := by decide +kernel
theorem dX7_readClause_80 : decode cX7_readClause 80 = .ok (.ifCond .eq 13, 3) := by decide +kernel
theorem dX7_readClause_83 : decode cX7_readClause 83 = .ok (.aload_n 0, 1) := by decide +kernel
theorem dX7_readClause_84 : decode cX7_readClause 84 = .ok (.bipush 6, 2) := by decide +kernel
theorem dX7_readClause_86 : decode cX7_readClause 86 = .ok (.iload_n 1, 1) := by decide +kernel
theorem dX7_readClause_87 : decode cX7_readClause 87 = .ok (.invokevirtual 67, 3) := by decide +kernel
theorem dX7_readClause_90 : decode cX7_readClause 90 = .ok (.goto 31, 3) := by decide +kernel
theorem dX7_readClause_93 : decode cX7_readClause 93 = .ok (.aload_n 0, 1) := by decide +kernel
theorem dX7_readClause_94 : decode cX7_readClause 94 = .ok (.ldc 77, 2) := by decide +kernel
theorem dX7_readClause_96 : decode cX7_readClause 96 = .ok (.invokevirtual 58, 3) := by decide +kernel
theorem dX7_readClause_99 : decode cX7_readClause 99 = .ok (.ifCond .eq 13, 3) := by decide +kernel
theorem dX7_readClause_102 : decode cX7_readClause 102 = .ok (.aload_n 0, 1) := by decide +kernel
theorem dX7_readClause_103 : decode cX7_readClause 103 = .ok (.bipush 7, 2) := by decide +kernel
theorem dX7_readClause_105 : decode cX7_readClause 105 = .ok (.iload_n 1, 1) := by decide +kernel
theorem dX7_readClause_106 : decode cX7_readClause 106 = .ok (.invokevirtual 67, 3) := by decide +kernel
theorem dX7_readClause_109 : decode cX7_readClause 109 = .ok (.goto 12, 3) := by decide +kernel
theorem dX7_readClause_112 : decode cX7_readClause 112 = .ok (.aload_n 0, 1) := by decide +kernel
theorem dX7_readClause_113 : decode cX7_readClause 113 = .ok (.iconst 1, 1) := by decide +kernel
theorem dX7_readClause_114 : decode cX7_readClause 114 = .ok (.aload_n 0, 1) := by decide +kernel
theorem dX7_readClause_115 : decode cX7_readClause 115 = .ok (.getfield 37, 3) := by decide +kernel
theorem dX7_readClause_118 : decode cX7_readClause 118 = .ok (.invokevirtual 79, 3) := by decide +kernel
theorem dX7_readClause_121 : decode cX7_readClause 121 = .ok (.return_, 1) := by decide +kernel
theorem dX7_readNeed_0 : decode cX7_readNeed 0 = .ok (.aload_n 0, 1) := by decide +kernel
theorem dX7_readNeed_1 : decode cX7_readNeed 1 = .ok (.invokevirtual 82, 3) := by decide +kernel
theorem dX7_readNeed_4 : decode cX7_readNeed 4 = .ok (.aload_n 0, 1) := by decide +kernel
theorem dX7_readNeed_5 : decode cX7_readNeed 5 = .ok (.invokevirtual 53, 3) := by decide +kernel
theorem dX7_readNeed_8 : decode cX7_readNeed 8 = .ok (.aload_n 0, 1) := by decide +kernel
theorem dX7_readNeed_9 : decode cX7_readNeed 9 = .ok (.invokevirtual 85, 3) := by decide +kernel
theorem dX7_readNeed_12 : decode cX7_readNeed 12 = .ok (.istore_n 1, 1) := by decide +kernel
theorem dX7_readNeed_13 : decode cX7_readNeed 13 = .ok (.iload_n 1, 1) := by decide +kernel
theorem dX7_readNeed_14 : decode cX7_readNeed 14 = .ok (.iconst (-1), 1) := by decide +kernel
theorem dX7_readNeed_15 : decode cX7_readNeed 15 = .ok (.if_icmp .ne 12, 3) := by decide +kernel
theorem dX7_readNeed_18 : decode cX7_readNeed 18 = .ok (.aload_n 0, 1) := by decide +kernel
theorem dX7_readNeed_19 : decode cX7_readNeed 19 = .ok (.iconst 1, 1) := by decide +kernel
theorem dX7_readNeed_20 : decode cX7_readNeed 20 = .ok (.aload_n 0, 1) := by decide +kernel
theorem dX7_readNeed_21 : decode cX7_readNeed 21 = .ok (.getfield 37, 3) := by decide +kernel
theorem dX7_readNeed_24 : decode cX7_readNeed 24 = .ok (.invokevirtual 79, 3) := by decide +kernel
theorem dX7_readNeed_27 : decode cX7_readNeed 27 = .ok (.iconst 0, 1) := by decide +kernel
theorem dX7_readNeed_28 : decode cX7_readNeed 28 = .ok (.istore_n 2, 1) := by decide +kernel
theorem dX7_readNeed_29 : decode cX7_readNeed 29 = .ok (.iconst 1, 1) := by decide +kernel
theorem dX7_readNeed_30 : decode cX7_readNeed 30 = .ok (.istore_n 3, 1) := by decide +kernel
theorem dX7_readNeed_31 : decode cX7_readNeed 31 = .ok (.iconst 0, 1) := by decide +kernel
theorem dX7_readNeed_32 : decode cX7_readNeed 32 = .ok (.istore 4, 2) := by decide +kernel
theorem dX7_readNeed_34 : decode cX7_readNeed 34 = .ok (.iload 4, 2) := by decide +kernel
theorem dX7_readNeed_36 : decode cX7_readNeed 36 = .ok (.iconst 4, 1) := by decide +kernel
theorem dX7_readNeed_37 : decode cX7_readNeed 37 = .ok (.if_icmp .gt 39, 3) := by decide +kernel
theorem dX7_readNeed_40 : decode cX7_readNeed 40 = .ok (.iload_n 3, 1) := by decide +kernel
theorem dX7_readNeed_41 : decode cX7_readNeed 41 = .ok (.ifCond .eq 35, 3) := by decide +kernel
theorem dX7_readNeed_44 : decode cX7_readNeed 44 = .ok (.aload_n 0, 1) := by decide +kernel
theorem dX7_readNeed_45 : decode cX7_readNeed 45 = .ok (.getfield 28, 3) := by decide +kernel
theorem dX7_readNeed_48 : decode cX7_readNeed 48 = .ok (.ifCond .ne 28, 3) := by decide +kernel
theorem dX7_readNeed_51 : decode cX7_readNeed 51 = .ok (.iload_n 2, 1) := by decide +kernel
theorem dX7_readNeed_52 : decode cX7_readNeed 52 = .ok (.aload_n 0, 1) := by decide +kernel
theorem dX7_readNeed_53 : decode cX7_readNeed 53 = .ok (.iload_n 2, 1) := by decide +kernel
theorem dX7_readNeed_54 : decode cX7_readNeed 54 = .ok (.invokevirtual 89, 3) := by decide +kernel
theorem dX7_readNeed_57 : decode cX7_readNeed 57 = .ok (.ior, 1) := by decide +kernel
theorem dX7_readNeed_58 : decode cX7_readNeed 58 = .ok (.istore_n 2, 1) := by decide +kernel
theorem dX7_readNeed_59 : decode cX7_readNeed 59 = .ok (.aload_n 0, 1) := by decide +kernel
theorem dX7_readNeed_60 : decode cX7_readNeed 60 = .ok (.invokevirtual 50, 3) := by decide +kernel
theorem dX7_readNeed_63 : decode cX7_readNeed 63 = .ok (.aload_n 0, 1) := by decide +kernel
theorem dX7_readNeed_64 : decode cX7_readNeed 64 = .ok (.bipush 44, 2) := by decide +kernel
theorem dX7_readNeed_66 : decode cX7_readNeed 66 = .ok (.invokevirtual 93, 3) := by decide +kernel
theorem dX7_readNeed_69 : decode cX7_readNeed 69 = .ok (.istore_n 3, 1) := by decide +kernel
theorem dX7_readNeed_70 : decode cX7_readNeed 70 = .ok (.iinc 4 1, 3) := by decide +kernel
theorem dX7_readNeed_73 : decode cX7_readNeed 73 = .ok (.goto (-39), 3) := by decide +kernel
theorem dX7_readNeed_76 : decode cX7_readNeed 76 = .ok (.aload_n 0, 1) := by decide +kernel
theorem dX7_readNeed_77 : decode cX7_readNeed 77 = .ok (.iload_n 1, 1) := by decide +kernel
theorem dX7_readNeed_78 : decode cX7_readNeed 78 = .ok (.iload_n 2, 1) := by decide +kernel
theorem dX7_readNeed_79 : decode cX7_readNeed 79 = .ok (.invokevirtual 97, 3) := by decide +kernel
theorem dX7_readNeed_82 : decode cX7_readNeed 82 = .ok (.return_, 1) := by decide +kernel
theorem dX7_readStamp_0 : decode cX7_readStamp 0 = .ok (.aload_n 0, 1) := by decide +kernel
theorem dX7_readStamp_1 : decode cX7_readStamp 1 = .ok (.invokevirtual 53, 3) := by decide +kernel
theorem dX7_readStamp_4 : decode cX7_readStamp 4 = .ok (.aload_n 0, 1) := by decide +kernel
theorem dX7_readStamp_5 : decode cX7_readStamp 5 = .ok (.invokevirtual 100, 3) := by decide +kernel
theorem dX7_readStamp_8 : decode cX7_readStamp 8 = .ok (.istore_n 2, 1) := by decide +kernel
theorem dX7_readStamp_9 : decode cX7_readStamp 9 = .ok (.iload_n 2, 1) := by decide +kernel
theorem dX7_readStamp_10 : decode cX7_readStamp 10 = .ok (.iconst (-1), 1) := by decide +kernel
theorem dX7_readStamp_11 : decode cX7_readStamp 11 = .ok (.if_icmp .ne 14, 3) := by decide +kernel
theorem dX7_readStamp_14 : decode cX7_readStamp 14 = .ok (.aload_n 0, 1) := by decide +kernel
theorem dX7_readStamp_15 : decode cX7_readStamp 15 = .ok (.iconst 1, 1) := by decide +kernel
theorem dX7_readStamp_16 : decode cX7_readStamp 16 = .ok (.aload_n 0, 1) := by decide +kernel
theorem dX7_readStamp_17 : decode cX7_readStamp 17 = .ok (.getfield 37, 3) := by decide +kernel
theorem dX7_readStamp_20 : decode cX7_readStamp 20 = .ok (.invokevirtual 79, 3) := by decide +kernel
theorem dX7_readStamp_23 : decode cX7_readStamp 23 = .ok (.iconst 0, 1) := by decide +kernel
theorem dX7_readStamp_24 : decode cX7_readStamp 24 = .ok (.ireturn, 1) := by decide +kernel
theorem dX7_readStamp_25 : decode cX7_readStamp 25 = .ok (.iload_n 1, 1) := by decide +kernel
theorem dX7_readStamp_26 : decode cX7_readStamp 26 = .ok (.iload_n 2, 1) := by decide +kernel
theorem dX7_readStamp_27 : decode cX7_readStamp 27 = .ok (.invokestatic 103, 3) := by decide +kernel
theorem dX7_readStamp_30 : decode cX7_readStamp 30 = .ok (.ifCond .eq 12, 3) := by decide +kernel
theorem dX7_readStamp_33 : decode cX7_readStamp 33 = .ok (.aload_n 0, 1) := by decide +kernel
theorem dX7_readStamp_34 : decode cX7_readStamp 34 = .ok (.iconst 4, 1) := by decide +kernel
theorem dX7_readStamp_35 : decode cX7_readStamp 35 = .ok (.aload_n 0, 1) := by decide +kernel
theorem dX7_readStamp_36 : decode cX7_readStamp 36 = .ok (.getfield 37, 3) := by decide +kernel
theorem dX7_readStamp_39 : decode cX7_readStamp 39 = .ok (.invokevirtual 79, 3) := by decide +kernel
theorem dX7_readStamp_42 : decode cX7_readStamp 42 = .ok (.iconst 1, 1) := by decide +kernel
theorem dX7_readStamp_43 : decode cX7_readStamp 43 = .ok (.iload_n 2, 1) := by decide +kernel
theorem dX7_readStamp_44 : decode cX7_readStamp 44 = .ok (.ishl, 1) := by decide +kernel
theorem dX7_readStamp_45 : decode cX7_readStamp 45 = .ok (.ireturn, 1) := by decide +kernel
theorem dX7_readNumber_0 : decode cX7_readNumber 0 = .ok (.aload_n 0, 1) := by decide +kernel
theorem dX7_readNumber_1 : decode cX7_readNumber 1 = .ok (.invokevirtual 82, 3) := by decide +kernel
theorem dX7_readNumber_4 : decode cX7_readNumber 4 = .ok (.aload_n 0, 1) := by decide +kernel
theorem dX7_readNumber_5 : decode cX7_readNumber 5 = .ok (.invokevirtual 50, 3) := by decide +kernel
theorem dX7_readNumber_8 : decode cX7_readNumber 8 = .ok (.aload_n 0, 1) := by decide +kernel
theorem dX7_readNumber_9 : decode cX7_readNumber 9 = .ok (.getfield 34, 3) := by decide +kernel
theorem dX7_readNumber_12 : decode cX7_readNumber 12 = .ok (.istore_n 3, 1) := by decide +kernel
theorem dX7_readNumber_13 : decode cX7_readNumber 13 = .ok (.iconst 0, 1) := by decide +kernel
theorem dX7_readNumber_14 : decode cX7_readNumber 14 = .ok (.istore 4, 2) := by decide +kernel
theorem dX7_readNumber_16 : decode cX7_readNumber 16 = .ok (.aload_n 0, 1) := by decide +kernel
theorem dX7_readNumber_17 : decode cX7_readNumber 17 = .ok (.getfield 34, 3) := by decide +kernel
theorem dX7_readNumber_20 : decode cX7_readNumber 20 = .ok (.aload_n 0, 1) := by decide +kernel
theorem dX7_readNumber_21 : decode cX7_readNumber 21 = .ok (.getfield 21, 3) := by decide +kernel
theorem dX7_readNumber_24 : decode cX7_readNumber 24 = .ok (.if_icmp .ge 74, 3) := by decide +kernel
theorem dX7_readNumber_27 : decode cX7_readNumber 27 = .ok (.aload_n 0, 1) := by decide +kernel
theorem dX7_readNumber_28 : decode cX7_readNumber 28 = .ok (.getfield 9, 3) := by decide +kernel
theorem dX7_readNumber_31 : decode cX7_readNumber 31 = .ok (.aload_n 0, 1) := by decide +kernel
theorem dX7_readNumber_32 : decode cX7_readNumber 32 = .ok (.getfield 34, 3) := by decide +kernel
theorem dX7_readNumber_35 : decode cX7_readNumber 35 = .ok (.iaload, 1) := by decide +kernel
theorem dX7_readNumber_36 : decode cX7_readNumber 36 = .ok (.bipush 48, 2) := by decide +kernel
theorem dX7_readNumber_38 : decode cX7_readNumber 38 = .ok (.if_icmp .lt 60, 3) := by decide +kernel
theorem dX7_readNumber_41 : decode cX7_readNumber 41 = .ok (.aload_n 0, 1) := by decide +kernel
theorem dX7_readNumber_42 : decode cX7_readNumber 42 = .ok (.getfield 9, 3) := by decide +kernel
theorem dX7_readNumber_45 : decode cX7_readNumber 45 = .ok (.aload_n 0, 1) := by decide +kernel
theorem dX7_readNumber_46 : decode cX7_readNumber 46 = .ok (.getfield 34, 3) := by decide +kernel
theorem dX7_readNumber_49 : decode cX7_readNumber 49 = .ok (.iaload, 1) := by decide +kernel
theorem dX7_readNumber_50 : decode cX7_readNumber 50 = .ok (.bipush 57, 2) := by decide +kernel
theorem dX7_readNumber_52 : decode cX7_readNumber 52 = .ok (.if_icmp .gt 46, 3) := by decide +kernel
theorem dX7_readNumber_55 : decode cX7_readNumber 55 = .ok (.aload_n 0, 1) := by decide +kernel
theorem dX7_readNumber_56 : decode cX7_readNumber 56 = .ok (.getfield 34, 3) := by decide +kernel
theorem dX7_readNumber_59 : decode cX7_readNumber 59 = .ok (.iload_n 3, 1) := by decide +kernel
theorem dX7_readNumber_60 : decode cX7_readNumber 60 = .ok (.isub, 1) := by decide +kernel
theorem dX7_readNumber_61 : decode cX7_readNumber 61 = .ok (.iconst 3, 1) := by decide +kernel
theorem dX7_readNumber_62 : decode cX7_readNumber 62 = .ok (.if_icmp .ge 23, 3) := by decide +kernel
theorem dX7_readNumber_65 : decode cX7_readNumber 65 = .ok (.iload 4, 2) := by decide +kernel
theorem dX7_readNumber_67 : decode cX7_readNumber 67 = .ok (.bipush 10, 2) := by decide +kernel
theorem dX7_readNumber_69 : decode cX7_readNumber 69 = .ok (.imul, 1) := by decide +kernel
theorem dX7_readNumber_70 : decode cX7_readNumber 70 = .ok (.aload_n 0, 1) := by decide +kernel
theorem dX7_readNumber_71 : decode cX7_readNumber 71 = .ok (.getfield 9, 3) := by decide +kernel
theorem dX7_readNumber_74 : decode cX7_readNumber 74 = .ok (.aload_n 0, 1) := by decide +kernel
theorem dX7_readNumber_75 : decode cX7_readNumber 75 = .ok (.getfield 34, 3) := by decide +kernel
theorem dX7_readNumber_78 : decode cX7_readNumber 78 = .ok (.iaload, 1) := by decide +kernel
theorem dX7_readNumber_79 : decode cX7_readNumber 79 = .ok (.iadd, 1) := by decide +kernel
theorem dX7_readNumber_80 : decode cX7_readNumber 80 = .ok (.bipush 48, 2) := by decide +kernel
theorem dX7_readNumber_82 : decode cX7_readNumber 82 = .ok (.isub, 1) := by decide +kernel
theorem dX7_readNumber_83 : decode cX7_readNumber 83 = .ok (.istore 4, 2) := by decide +kernel
theorem dX7_readNumber_85 : decode cX7_readNumber 85 = .ok (.aload_n 0, 1) := by decide +kernel
theorem dX7_readNumber_86 : decode cX7_readNumber 86 = .ok (.dup, 1) := by decide +kernel
theorem dX7_readNumber_87 : decode cX7_readNumber 87 = .ok (.getfield 34, 3) := by decide +kernel
theorem dX7_readNumber_90 : decode cX7_readNumber 90 = .ok (.iconst 1, 1) := by decide +kernel
theorem dX7_readNumber_91 : decode cX7_readNumber 91 = .ok (.iadd, 1) := by decide +kernel
theorem dX7_readNumber_92 : decode cX7_readNumber 92 = .ok (.putfield 34, 3) := by decide +kernel
theorem dX7_readNumber_95 : decode cX7_readNumber 95 = .ok (.goto (-79), 3) := by decide +kernel
theorem dX7_readNumber_98 : decode cX7_readNumber 98 = .ok (.aload_n 0, 1) := by decide +kernel
theorem dX7_readNumber_99 : decode cX7_readNumber 99 = .ok (.getfield 34, 3) := by decide +kernel
theorem dX7_readNumber_102 : decode cX7_readNumber 102 = .ok (.iload_n 3, 1) := by decide +kernel
theorem dX7_readNumber_103 : decode cX7_readNumber 103 = .ok (.isub, 1) := by decide +kernel
theorem dX7_readNumber_104 : decode cX7_readNumber 104 = .ok (.istore 5, 2) := by decide +kernel
theorem dX7_readNumber_106 : decode cX7_readNumber 106 = .ok (.iload 5, 2) := by decide +kernel
theorem dX7_readNumber_108 : decode cX7_readNumber 108 = .ok (.ifCond .ne 9, 3) := by decide +kernel
theorem dX7_readNumber_111 : decode cX7_readNumber 111 = .ok (.aload_n 0, 1) := by decide +kernel
theorem dX7_readNumber_112 : decode cX7_readNumber 112 = .ok (.iconst 1, 1) := by decide +kernel
theorem dX7_readNumber_113 : decode cX7_readNumber 113 = .ok (.iload_n 3, 1) := by decide +kernel
theorem dX7_readNumber_114 : decode cX7_readNumber 114 = .ok (.invokevirtual 79, 3) := by decide +kernel
theorem dX7_readNumber_117 : decode cX7_readNumber 117 = .ok (.iload 5, 2) := by decide +kernel
theorem dX7_readNumber_119 : decode cX7_readNumber 119 = .ok (.iconst 3, 1) := by decide +kernel
theorem dX7_readNumber_120 : decode cX7_readNumber 120 = .ok (.if_icmp .gt 21, 3) := by decide +kernel
theorem dX7_readNumber_123 : decode cX7_readNumber 123 = .ok (.iload 4, 2) := by decide +kernel
theorem dX7_readNumber_125 : decode cX7_readNumber 125 = .ok (.getstatic 107, 3) := by decide +kernel
theorem dX7_readNumber_128 : decode cX7_readNumber 128 = .ok (.iload_n 1, 1) := by decide +kernel
theorem dX7_readNumber_129 : decode cX7_readNumber 129 = .ok (.iaload, 1) := by decide +kernel
theorem dX7_readNumber_130 : decode cX7_readNumber 130 = .ok (.getstatic 110, 3) := by decide +kernel
theorem dX7_readNumber_133 : decode cX7_readNumber 133 = .ok (.iload_n 1, 1) := by decide +kernel
theorem dX7_readNumber_134 : decode cX7_readNumber 134 = .ok (.iaload, 1) := by decide +kernel
theorem dX7_readNumber_135 : decode cX7_readNumber 135 = .ok (.invokestatic 113, 3) := by decide +kernel
theorem dX7_readNumber_138 : decode cX7_readNumber 138 = .ok (.ifCond .eq 9, 3) := by decide +kernel
theorem dX7_readNumber_141 : decode cX7_readNumber 141 = .ok (.aload_n 0, 1) := by decide +kernel
theorem dX7_readNumber_142 : decode cX7_readNumber 142 = .ok (.iconst 2, 1) := by decide +kernel
theorem dX7_readNumber_143 : decode cX7_readNumber 143 = .ok (.iload_n 3, 1) := by decide +kernel
theorem dX7_readNumber_144 : decode cX7_readNumber 144 = .ok (.invokevirtual 79, 3) := by decide +kernel
theorem dX7_readNumber_147 : decode cX7_readNumber 147 = .ok (.iload_n 1, 1) := by decide +kernel
theorem dX7_readNumber_148 : decode cX7_readNumber 148 = .ok (.bipush 7, 2) := by decide +kernel
theorem dX7_readNumber_150 : decode cX7_readNumber 150 = .ok (.if_icmp .ne 15, 3) := by decide +kernel
theorem dX7_readNumber_153 : decode cX7_readNumber 153 = .ok (.iload 4, 2) := by decide +kernel
theorem dX7_readNumber_155 : decode cX7_readNumber 155 = .ok (.iload_n 2, 1) := by decide +kernel
theorem dX7_readNumber_156 : decode cX7_readNumber 156 = .ok (.if_icmp .lt 9, 3) := by decide +kernel
theorem dX7_readNumber_159 : decode cX7_readNumber 159 = .ok (.aload_n 0, 1) := by decide +kernel
theorem dX7_readNumber_160 : decode cX7_readNumber 160 = .ok (.iconst 3, 1) := by decide +kernel
theorem dX7_readNumber_161 : decode cX7_readNumber 161 = .ok (.iload_n 3, 1) := by decide +kernel
theorem dX7_readNumber_162 : decode cX7_readNumber 162 = .ok (.invokevirtual 79, 3) := by decide +kernel
theorem dX7_readNumber_165 : decode cX7_readNumber 165 = .ok (.aload_n 0, 1) := by decide +kernel
theorem dX7_readNumber_166 : decode cX7_readNumber 166 = .ok (.iload_n 1, 1) := by decide +kernel
theorem dX7_readNumber_167 : decode cX7_readNumber 167 = .ok (.iload 4, 2) := by decide +kernel
theorem dX7_readNumber_169 : decode cX7_readNumber 169 = .ok (.invokevirtual 97, 3) := by decide +kernel
theorem dX7_readNumber_172 : decode cX7_readNumber 172 = .ok (.return_, 1) := by decide +kernel
theorem dX7_refuseNinth_0 : decode cX7_refuseNinth 0 = .ok (.aload_n 0, 1) := by decide +kernel
theorem dX7_refuseNinth_1 : decode cX7_refuseNinth 1 = .ok (.getfield 25, 3) := by decide +kernel
theorem dX7_refuseNinth_4 : decode cX7_refuseNinth 4 = .ok (.bipush 8, 2) := by decide +kernel
theorem dX7_refuseNinth_6 : decode cX7_refuseNinth 6 = .ok (.if_icmp .lt 12, 3) := by decide +kernel
theorem dX7_refuseNinth_9 : decode cX7_refuseNinth 9 = .ok (.aload_n 0, 1) := by decide +kernel
theorem dX7_refuseNinth_10 : decode cX7_refuseNinth 10 = .ok (.iconst 5, 1) := by decide +kernel
theorem dX7_refuseNinth_11 : decode cX7_refuseNinth 11 = .ok (.aload_n 0, 1) := by decide +kernel
theorem dX7_refuseNinth_12 : decode cX7_refuseNinth 12 = .ok (.getfield 37, 3) := by decide +kernel
theorem dX7_refuseNinth_15 : decode cX7_refuseNinth 15 = .ok (.invokevirtual 79, 3) := by decide +kernel
theorem dX7_refuseNinth_18 : decode cX7_refuseNinth 18 = .ok (.return_, 1) := by decide +kernel
theorem dX7_close_0 : decode cX7_close 0 = .ok (.aload_n 0, 1) := by decide +kernel
theorem dX7_close_1 : decode cX7_close 1 = .ok (.invokevirtual 50, 3) := by decide +kernel
theorem dX7_close_4 : decode cX7_close 4 = .ok (.aload_n 0, 1) := by decide +kernel
theorem dX7_close_5 : decode cX7_close 5 = .ok (.bipush 59, 2) := by decide +kernel
theorem dX7_close_7 : decode cX7_close 7 = .ok (.invokevirtual 93, 3) := by decide +kernel
theorem dX7_close_10 : decode cX7_close 10 = .ok (.ifCond .ne 12, 3) := by decide +kernel
theorem dX7_close_13 : decode cX7_close 13 = .ok (.aload_n 0, 1) := by decide +kernel
theorem dX7_close_14 : decode cX7_close 14 = .ok (.iconst 1, 1) := by decide +kernel
theorem dX7_close_15 : decode cX7_close 15 = .ok (.aload_n 0, 1) := by decide +kernel
theorem dX7_close_16 : decode cX7_close 16 = .ok (.getfield 34, 3) := by decide +kernel
theorem dX7_close_19 : decode cX7_close 19 = .ok (.invokevirtual 79, 3) := by decide +kernel
theorem dX7_close_22 : decode cX7_close 22 = .ok (.aload_n 0, 1) := by decide +kernel
theorem dX7_close_23 : decode cX7_close 23 = .ok (.getfield 28, 3) := by decide +kernel
theorem dX7_close_26 : decode cX7_close 26 = .ok (.ifCond .ne 12, 3) := by decide +kernel
theorem dX7_close_29 : decode cX7_close 29 = .ok (.aload_n 0, 1) := by decide +kernel
theorem dX7_close_30 : decode cX7_close 30 = .ok (.getfield 25, 3) := by decide +kernel
theorem dX7_close_33 : decode cX7_close 33 = .ok (.bipush 8, 2) := by decide +kernel
theorem dX7_close_35 : decode cX7_close 35 = .ok (.if_icmp .lt 4, 3) := by decide +kernel
theorem dX7_close_38 : decode cX7_close 38 = .ok (.return_, 1) := by decide +kernel
theorem dX7_close_39 : decode cX7_close 39 = .ok (.aload_n 0, 1) := by decide +kernel
theorem dX7_close_40 : decode cX7_close 40 = .ok (.getfield 15, 3) := by decide +kernel
theorem dX7_close_43 : decode cX7_close 43 = .ok (.aload_n 0, 1) := by decide +kernel
theorem dX7_close_44 : decode cX7_close 44 = .ok (.getfield 25, 3) := by decide +kernel
theorem dX7_close_47 : decode cX7_close 47 = .ok (.iload_n 1, 1) := by decide +kernel
theorem dX7_close_48 : decode cX7_close 48 = .ok (.iastore, 1) := by decide +kernel
theorem dX7_close_49 : decode cX7_close 49 = .ok (.aload_n 0, 1) := by decide +kernel
theorem dX7_close_50 : decode cX7_close 50 = .ok (.getfield 18, 3) := by decide +kernel
theorem dX7_close_53 : decode cX7_close 53 = .ok (.aload_n 0, 1) := by decide +kernel
theorem dX7_close_54 : decode cX7_close 54 = .ok (.getfield 25, 3) := by decide +kernel
theorem dX7_close_57 : decode cX7_close 57 = .ok (.iload_n 2, 1) := by decide +kernel
theorem dX7_close_58 : decode cX7_close 58 = .ok (.iastore, 1) := by decide +kernel
theorem dX7_close_59 : decode cX7_close 59 = .ok (.aload_n 0, 1) := by decide +kernel
theorem dX7_close_60 : decode cX7_close 60 = .ok (.dup, 1) := by decide +kernel
theorem dX7_close_61 : decode cX7_close 61 = .ok (.getfield 25, 3) := by decide +kernel
theorem dX7_close_64 : decode cX7_close 64 = .ok (.iconst 1, 1) := by decide +kernel
theorem dX7_close_65 : decode cX7_close 65 = .ok (.iadd, 1) := by decide +kernel
theorem dX7_close_66 : decode cX7_close 66 = .ok (.putfield 25, 3) := by decide +kernel
theorem dX7_close_69 : decode cX7_close 69 = .ok (.return_, 1) := by decide +kernel
theorem dX7_blame_0 : decode cX7_blame 0 = .ok (.aload_n 0, 1) := by decide +kernel
theorem dX7_blame_1 : decode cX7_blame 1 = .ok (.getfield 28, 3) := by decide +kernel
theorem dX7_blame_4 : decode cX7_blame 4 = .ok (.ifCond .eq 4, 3) := by decide +kernel
theorem dX7_blame_7 : decode cX7_blame 7 = .ok (.return_, 1) := by decide +kernel
theorem dX7_blame_8 : decode cX7_blame 8 = .ok (.aload_n 0, 1) := by decide +kernel
theorem dX7_blame_9 : decode cX7_blame 9 = .ok (.iload_n 1, 1) := by decide +kernel
theorem dX7_blame_10 : decode cX7_blame 10 = .ok (.putfield 28, 3) := by decide +kernel
theorem dX7_blame_13 : decode cX7_blame 13 = .ok (.aload_n 0, 1) := by decide +kernel
theorem dX7_blame_14 : decode cX7_blame 14 = .ok (.iload_n 2, 1) := by decide +kernel
theorem dX7_blame_15 : decode cX7_blame 15 = .ok (.putfield 31, 3) := by decide +kernel
theorem dX7_blame_18 : decode cX7_blame 18 = .ok (.return_, 1) := by decide +kernel
theorem dX7_skipBlanks_0 : decode cX7_skipBlanks 0 = .ok (.aload_n 0, 1) := by decide +kernel
theorem dX7_skipBlanks_1 : decode cX7_skipBlanks 1 = .ok (.getfield 34, 3) := by decide +kernel
theorem dX7_skipBlanks_4 : decode cX7_skipBlanks 4 = .ok (.aload_n 0, 1) := by decide +kernel
theorem dX7_skipBlanks_5 : decode cX7_skipBlanks 5 = .ok (.getfield 21, 3) := by decide +kernel
theorem dX7_skipBlanks_8 : decode cX7_skipBlanks 8 = .ok (.if_icmp .ge 30, 3) := by decide +kernel
theorem dX7_skipBlanks_11 : decode cX7_skipBlanks 11 = .ok (.aload_n 0, 1) := by decide +kernel
theorem dX7_skipBlanks_12 : decode cX7_skipBlanks 12 = .ok (.getfield 9, 3) := by decide +kernel
theorem dX7_skipBlanks_15 : decode cX7_skipBlanks 15 = .ok (.aload_n 0, 1) := by decide +kernel
theorem dX7_skipBlanks_16 : decode cX7_skipBlanks 16 = .ok (.getfield 34, 3) := by decide +kernel
theorem dX7_skipBlanks_19 : decode cX7_skipBlanks 19 = .ok (.iaload, 1) := by decide +kernel
theorem dX7_skipBlanks_20 : decode cX7_skipBlanks 20 = .ok (.bipush 32, 2) := by decide +kernel
theorem dX7_skipBlanks_22 : decode cX7_skipBlanks 22 = .ok (.if_icmp .ne 16, 3) := by decide +kernel
theorem dX7_skipBlanks_25 : decode cX7_skipBlanks 25 = .ok (.aload_n 0, 1) := by decide +kernel
theorem dX7_skipBlanks_26 : decode cX7_skipBlanks 26 = .ok (.dup, 1) := by decide +kernel
theorem dX7_skipBlanks_27 : decode cX7_skipBlanks 27 = .ok (.getfield 34, 3) := by decide +kernel
theorem dX7_skipBlanks_30 : decode cX7_skipBlanks 30 = .ok (.iconst 1, 1) := by decide +kernel
theorem dX7_skipBlanks_31 : decode cX7_skipBlanks 31 = .ok (.iadd, 1) := by decide +kernel
theorem dX7_skipBlanks_32 : decode cX7_skipBlanks 32 = .ok (.putfield 34, 3) := by decide +kernel
theorem dX7_skipBlanks_35 : decode cX7_skipBlanks 35 = .ok (.goto (-35), 3) := by decide +kernel
theorem dX7_skipBlanks_38 : decode cX7_skipBlanks 38 = .ok (.return_, 1) := by decide +kernel
theorem dX7_takes_0 : decode cX7_takes 0 = .ok (.aload_n 0, 1) := by decide +kernel
theorem dX7_takes_1 : decode cX7_takes 1 = .ok (.getfield 34, 3) := by decide +kernel
theorem dX7_takes_4 : decode cX7_takes 4 = .ok (.aload_n 0, 1) := by decide +kernel
theorem dX7_takes_5 : decode cX7_takes 5 = .ok (.getfield 21, 3) := by decide +kernel
theorem dX7_takes_8 : decode cX7_takes 8 = .ok (.if_icmp .ge 16, 3) := by decide +kernel
theorem dX7_takes_11 : decode cX7_takes 11 = .ok (.aload_n 0, 1) := by decide +kernel
theorem dX7_takes_12 : decode cX7_takes 12 = .ok (.getfield 9, 3) := by decide +kernel
theorem dX7_takes_15 : decode cX7_takes 15 = .ok (.aload_n 0, 1) := by decide +kernel
theorem dX7_takes_16 : decode cX7_takes 16 = .ok (.getfield 34, 3) := by decide +kernel
theorem dX7_takes_19 : decode cX7_takes 19 = .ok (.iaload, 1) := by decide +kernel
theorem dX7_takes_20 : decode cX7_takes 20 = .ok (.iload_n 1, 1) := by decide +kernel
theorem dX7_takes_21 : decode cX7_takes 21 = .ok (.if_icmp .eq 5, 3) := by decide +kernel
theorem dX7_takes_24 : decode cX7_takes 24 = .ok (.iconst 0, 1) := by decide +kernel
theorem dX7_takes_25 : decode cX7_takes 25 = .ok (.ireturn, 1) := by decide +kernel
theorem dX7_takes_26 : decode cX7_takes 26 = .ok (.aload_n 0, 1) := by decide +kernel
theorem dX7_takes_27 : decode cX7_takes 27 = .ok (.dup, 1) := by decide +kernel
theorem dX7_takes_28 : decode cX7_takes 28 = .ok (.getfield 34, 3) := by decide +kernel
theorem dX7_takes_31 : decode cX7_takes 31 = .ok (.iconst 1, 1) := by decide +kernel
theorem dX7_takes_32 : decode cX7_takes 32 = .ok (.iadd, 1) := by decide +kernel
theorem dX7_takes_33 : decode cX7_takes 33 = .ok (.putfield 34, 3) := by decide +kernel
theorem dX7_takes_36 : decode cX7_takes 36 = .ok (.iconst 1, 1) := by decide +kernel
theorem dX7_takes_37 : decode cX7_takes 37 = .ok (.ireturn, 1) := by decide +kernel
theorem dX7_takeWord_0 : decode cX7_takeWord 0 = .ok (.aload_n 0, 1) := by decide +kernel
theorem dX7_takeWord_1 : decode cX7_takeWord 1 = .ok (.invokevirtual 50, 3) := by decide +kernel
theorem dX7_takeWord_4 : decode cX7_takeWord 4 = .ok (.aload_n 0, 1) := by decide +kernel
theorem dX7_takeWord_5 : decode cX7_takeWord 5 = .ok (.aload_n 0, 1) := by decide +kernel
theorem dX7_takeWord_6 : decode cX7_takeWord 6 = .ok (.getfield 34, 3) := by decide +kernel
theorem dX7_takeWord_9 : decode cX7_takeWord 9 = .ok (.putfield 37, 3) := by decide +kernel
theorem dX7_takeWord_12 : decode cX7_takeWord 12 = .ok (.aload_n 0, 1) := by decide +kernel
theorem dX7_takeWord_13 : decode cX7_takeWord 13 = .ok (.getfield 34, 3) := by decide +kernel
theorem dX7_takeWord_16 : decode cX7_takeWord 16 = .ok (.aload_n 0, 1) := by decide +kernel
theorem dX7_takeWord_17 : decode cX7_takeWord 17 = .ok (.getfield 21, 3) := by decide +kernel
theorem dX7_takeWord_20 : decode cX7_takeWord 20 = .ok (.if_icmp .ge 44, 3) := by decide +kernel
theorem dX7_takeWord_23 : decode cX7_takeWord 23 = .ok (.aload_n 0, 1) := by decide +kernel
theorem dX7_takeWord_24 : decode cX7_takeWord 24 = .ok (.getfield 9, 3) := by decide +kernel
theorem dX7_takeWord_27 : decode cX7_takeWord 27 = .ok (.aload_n 0, 1) := by decide +kernel
theorem dX7_takeWord_28 : decode cX7_takeWord 28 = .ok (.getfield 34, 3) := by decide +kernel
theorem dX7_takeWord_31 : decode cX7_takeWord 31 = .ok (.iaload, 1) := by decide +kernel
theorem dX7_takeWord_32 : decode cX7_takeWord 32 = .ok (.bipush 97, 2) := by decide +kernel
theorem dX7_takeWord_34 : decode cX7_takeWord 34 = .ok (.if_icmp .lt 30, 3) := by decide +kernel
theorem dX7_takeWord_37 : decode cX7_takeWord 37 = .ok (.aload_n 0, 1) := by decide +kernel
theorem dX7_takeWord_38 : decode cX7_takeWord 38 = .ok (.getfield 9, 3) := by decide +kernel
theorem dX7_takeWord_41 : decode cX7_takeWord 41 = .ok (.aload_n 0, 1) := by decide +kernel
theorem dX7_takeWord_42 : decode cX7_takeWord 42 = .ok (.getfield 34, 3) := by decide +kernel
theorem dX7_takeWord_45 : decode cX7_takeWord 45 = .ok (.iaload, 1) := by decide +kernel
theorem dX7_takeWord_46 : decode cX7_takeWord 46 = .ok (.bipush 122, 2) := by decide +kernel
theorem dX7_takeWord_48 : decode cX7_takeWord 48 = .ok (.if_icmp .gt 16, 3) := by decide +kernel
theorem dX7_takeWord_51 : decode cX7_takeWord 51 = .ok (.aload_n 0, 1) := by decide +kernel
theorem dX7_takeWord_52 : decode cX7_takeWord 52 = .ok (.dup, 1) := by decide +kernel
theorem dX7_takeWord_53 : decode cX7_takeWord 53 = .ok (.getfield 34, 3) := by decide +kernel
theorem dX7_takeWord_56 : decode cX7_takeWord 56 = .ok (.iconst 1, 1) := by decide +kernel
theorem dX7_takeWord_57 : decode cX7_takeWord 57 = .ok (.iadd, 1) := by decide +kernel
theorem dX7_takeWord_58 : decode cX7_takeWord 58 = .ok (.putfield 34, 3) := by decide +kernel
theorem dX7_takeWord_61 : decode cX7_takeWord 61 = .ok (.goto (-49), 3) := by decide +kernel
theorem dX7_takeWord_64 : decode cX7_takeWord 64 = .ok (.return_, 1) := by decide +kernel
theorem dX7_spells_0 : decode cX7_spells 0 = .ok (.aload_n 0, 1) := by decide +kernel
theorem dX7_spells_1 : decode cX7_spells 1 = .ok (.getfield 34, 3) := by decide +kernel
theorem dX7_spells_4 : decode cX7_spells 4 = .ok (.aload_n 0, 1) := by decide +kernel
theorem dX7_spells_5 : decode cX7_spells 5 = .ok (.getfield 37, 3) := by decide +kernel
theorem dX7_spells_8 : decode cX7_spells 8 = .ok (.isub, 1) := by decide +kernel
theorem dX7_spells_9 : decode cX7_spells 9 = .ok (.aload_n 1, 1) := by decide +kernel
theorem dX7_spells_10 : decode cX7_spells 10 = .ok (.invokevirtual 117, 3) := by decide +kernel
theorem dX7_spells_13 : decode cX7_spells 13 = .ok (.if_icmp .eq 5, 3) := by decide +kernel
theorem dX7_spells_16 : decode cX7_spells 16 = .ok (.iconst 0, 1) := by decide +kernel
theorem dX7_spells_17 : decode cX7_spells 17 = .ok (.ireturn, 1) := by decide +kernel
theorem dX7_spells_18 : decode cX7_spells 18 = .ok (.iconst 0, 1) := by decide +kernel
theorem dX7_spells_19 : decode cX7_spells 19 = .ok (.istore_n 2, 1) := by decide +kernel
theorem dX7_spells_20 : decode cX7_spells 20 = .ok (.iload_n 2, 1) := by decide +kernel
theorem dX7_spells_21 : decode cX7_spells 21 = .ok (.aload_n 1, 1) := by decide +kernel
theorem dX7_spells_22 : decode cX7_spells 22 = .ok (.invokevirtual 117, 3) := by decide +kernel
theorem dX7_spells_25 : decode cX7_spells 25 = .ok (.if_icmp .ge 30, 3) := by decide +kernel
theorem dX7_spells_28 : decode cX7_spells 28 = .ok (.aload_n 0, 1) := by decide +kernel
theorem dX7_spells_29 : decode cX7_spells 29 = .ok (.getfield 9, 3) := by decide +kernel
theorem dX7_spells_32 : decode cX7_spells 32 = .ok (.aload_n 0, 1) := by decide +kernel
theorem dX7_spells_33 : decode cX7_spells 33 = .ok (.getfield 37, 3) := by decide +kernel
theorem dX7_spells_36 : decode cX7_spells 36 = .ok (.iload_n 2, 1) := by decide +kernel
theorem dX7_spells_37 : decode cX7_spells 37 = .ok (.iadd, 1) := by decide +kernel
theorem dX7_spells_38 : decode cX7_spells 38 = .ok (.iaload, 1) := by decide +kernel
theorem dX7_spells_39 : decode cX7_spells 39 = .ok (.aload_n 1, 1) := by decide +kernel
theorem dX7_spells_40 : decode cX7_spells 40 = .ok (.iload_n 2, 1) := by decide +kernel
theorem dX7_spells_41 : decode cX7_spells 41 = .ok (.invokevirtual 121, 3) := by decide +kernel
theorem dX7_spells_44 : decode cX7_spells 44 = .ok (.if_icmp .eq 5, 3) := by decide +kernel
theorem dX7_spells_47 : decode cX7_spells 47 = .ok (.iconst 0, 1) := by decide +kernel
theorem dX7_spells_48 : decode cX7_spells 48 = .ok (.ireturn, 1) := by decide +kernel
theorem dX7_spells_49 : decode cX7_spells 49 = .ok (.iinc 2 1, 3) := by decide +kernel
theorem dX7_spells_52 : decode cX7_spells 52 = .ok (.goto (-32), 3) := by decide +kernel
theorem dX7_spells_55 : decode cX7_spells 55 = .ok (.iconst 1, 1) := by decide +kernel
theorem dX7_spells_56 : decode cX7_spells 56 = .ok (.ireturn, 1) := by decide +kernel
theorem dX7_good_0 : decode cX7_good 0 = .ok (.aload_n 0, 1) := by decide +kernel
theorem dX7_good_1 : decode cX7_good 1 = .ok (.ldc 125, 2) := by decide +kernel
theorem dX7_good_3 : decode cX7_good 3 = .ok (.invokevirtual 58, 3) := by decide +kernel
theorem dX7_good_6 : decode cX7_good 6 = .ok (.ifCond .eq 5, 3) := by decide +kernel
theorem dX7_good_9 : decode cX7_good 9 = .ok (.iconst 0, 1) := by decide +kernel
theorem dX7_good_10 : decode cX7_good 10 = .ok (.ireturn, 1) := by decide +kernel
theorem dX7_good_11 : decode cX7_good 11 = .ok (.aload_n 0, 1) := by decide +kernel
theorem dX7_good_12 : decode cX7_good 12 = .ok (.ldc 127, 2) := by decide +kernel
theorem dX7_good_14 : decode cX7_good 14 = .ok (.invokevirtual 58, 3) := by decide +kernel
theorem dX7_good_17 : decode cX7_good 17 = .ok (.ifCond .eq 5, 3) := by decide +kernel
theorem dX7_good_20 : decode cX7_good 20 = .ok (.iconst 1, 1) := by decide +kernel
theorem dX7_good_21 : decode cX7_good 21 = .ok (.ireturn, 1) := by decide +kernel
theorem dX7_good_22 : decode cX7_good 22 = .ok (.aload_n 0, 1) := by decide +kernel
theorem dX7_good_23 : decode cX7_good 23 = .ok (.ldc 129, 2) := by decide +kernel
theorem dX7_good_25 : decode cX7_good 25 = .ok (.invokevirtual 58, 3) := by decide +kernel
theorem dX7_good_28 : decode cX7_good 28 = .ok (.ifCond .eq 7, 3) := by decide +kernel
theorem dX7_good_31 : decode cX7_good 31 = .ok (.iconst 2, 1) := by decide +kernel
theorem dX7_good_32 : decode cX7_good 32 = .ok (.goto 4, 3) := by decide +kernel
theorem dX7_good_35 : decode cX7_good 35 = .ok (.iconst (-1), 1) := by decide +kernel
theorem dX7_good_36 : decode cX7_good 36 = .ok (.ireturn, 1) := by decide +kernel
theorem dX7_committee_0 : decode cX7_committee 0 = .ok (.aload_n 0, 1) := by decide +kernel
theorem dX7_committee_1 : decode cX7_committee 1 = .ok (.ldc 131, 2) := by decide +kernel
theorem dX7_committee_3 : decode cX7_committee 3 = .ok (.invokevirtual 58, 3) := by decide +kernel
theorem dX7_committee_6 : decode cX7_committee 6 = .ok (.ifCond .eq 5, 3) := by decide +kernel
theorem dX7_committee_9 : decode cX7_committee 9 = .ok (.iconst 0, 1) := by decide +kernel
theorem dX7_committee_10 : decode cX7_committee 10 = .ok (.ireturn, 1) := by decide +kernel
theorem dX7_committee_11 : decode cX7_committee 11 = .ok (.aload_n 0, 1) := by decide +kernel
theorem dX7_committee_12 : decode cX7_committee 12 = .ok (.ldc 133, 2) := by decide +kernel
theorem dX7_committee_14 : decode cX7_committee 14 = .ok (.invokevirtual 58, 3) := by decide +kernel
theorem dX7_committee_17 : decode cX7_committee 17 = .ok (.ifCond .eq 5, 3) := by decide +kernel
theorem dX7_committee_20 : decode cX7_committee 20 = .ok (.iconst 1, 1) := by decide +kernel
theorem dX7_committee_21 : decode cX7_committee 21 = .ok (.ireturn, 1) := by decide +kernel
theorem dX7_committee_22 : decode cX7_committee 22 = .ok (.aload_n 0, 1) := by decide +kernel
theorem dX7_committee_23 : decode cX7_committee 23 = .ok (.ldc 135, 2) := by decide +kernel
theorem dX7_committee_25 : decode cX7_committee 25 = .ok (.invokevirtual 58, 3) := by decide +kernel
theorem dX7_committee_28 : decode cX7_committee 28 = .ok (.ifCond .eq 5, 3) := by decide +kernel
theorem dX7_committee_31 : decode cX7_committee 31 = .ok (.iconst 2, 1) := by decide +kernel
theorem dX7_committee_32 : decode cX7_committee 32 = .ok (.ireturn, 1) := by decide +kernel
theorem dX7_committee_33 : decode cX7_committee 33 = .ok (.aload_n 0, 1) := by decide +kernel
theorem dX7_committee_34 : decode cX7_committee 34 = .ok (.ldc 137, 2) := by decide +kernel
theorem dX7_committee_36 : decode cX7_committee 36 = .ok (.invokevirtual 58, 3) := by decide +kernel
theorem dX7_committee_39 : decode cX7_committee 39 = .ok (.ifCond .eq 7, 3) := by decide +kernel
theorem dX7_committee_42 : decode cX7_committee 42 = .ok (.iconst 3, 1) := by decide +kernel
theorem dX7_committee_43 : decode cX7_committee 43 = .ok (.goto 4, 3) := by decide +kernel
theorem dX7_committee_46 : decode cX7_committee 46 = .ok (.iconst (-1), 1) := by decide +kernel
theorem dX7_committee_47 : decode cX7_committee 47 = .ok (.ireturn, 1) := by decide +kernel
theorem dX8_init_0 : decode cX8_init 0 = .ok (.aload_n 0, 1) := by decide +kernel
theorem dX8_init_1 : decode cX8_init 1 = .ok (.invokespecial 3, 3) := by decide +kernel
theorem dX8_init_4 : decode cX8_init 4 = .ok (.aload_n 0, 1) := by decide +kernel
theorem dX8_init_5 : decode cX8_init 5 = .ok (.bipush 8, 2) := by decide +kernel
theorem dX8_init_7 : decode cX8_init 7 = .ok (.newarray .int, 2) := by decide +kernel
theorem dX8_init_9 : decode cX8_init 9 = .ok (.putfield 9, 3) := by decide +kernel
theorem dX8_init_12 : decode cX8_init 12 = .ok (.aload_n 0, 1) := by decide +kernel
theorem dX8_init_13 : decode cX8_init 13 = .ok (.bipush 8, 2) := by decide +kernel
theorem dX8_init_15 : decode cX8_init 15 = .ok (.newarray .int, 2) := by decide +kernel
theorem dX8_init_17 : decode cX8_init 17 = .ok (.putfield 15, 3) := by decide +kernel
theorem dX8_init_20 : decode cX8_init 20 = .ok (.aload_n 0, 1) := by decide +kernel
theorem dX8_init_21 : decode cX8_init 21 = .ok (.bipush 8, 2) := by decide +kernel
theorem dX8_init_23 : decode cX8_init 23 = .ok (.newarray .int, 2) := by decide +kernel
theorem dX8_init_25 : decode cX8_init 25 = .ok (.putfield 18, 3) := by decide +kernel
theorem dX8_init_28 : decode cX8_init 28 = .ok (.aload_n 0, 1) := by decide +kernel
theorem dX8_init_29 : decode cX8_init 29 = .ok (.bipush 64, 2) := by decide +kernel
theorem dX8_init_31 : decode cX8_init 31 = .ok (.newarray .int, 2) := by decide +kernel
theorem dX8_init_33 : decode cX8_init 33 = .ok (.putfield 21, 3) := by decide +kernel
theorem dX8_init_36 : decode cX8_init 36 = .ok (.aload_n 0, 1) := by decide +kernel
theorem dX8_init_37 : decode cX8_init 37 = .ok (.bipush 64, 2) := by decide +kernel
theorem dX8_init_39 : decode cX8_init 39 = .ok (.newarray .int, 2) := by decide +kernel
theorem dX8_init_41 : decode cX8_init 41 = .ok (.putfield 24, 3) := by decide +kernel
theorem dX8_init_44 : decode cX8_init 44 = .ok (.aload_n 0, 1) := by decide +kernel
theorem dX8_init_45 : decode cX8_init 45 = .ok (.iconst 0, 1) := by decide +kernel
theorem dX8_init_46 : decode cX8_init 46 = .ok (.putfield 27, 3) := by decide +kernel
theorem dX8_init_49 : decode cX8_init 49 = .ok (.return_, 1) := by decide +kernel
theorem dX8_enact_0 : decode cX8_enact 0 = .ok (.aload_n 0, 1) := by decide +kernel
theorem dX8_enact_1 : decode cX8_enact 1 = .ok (.getfield 9, 3) := by decide +kernel
theorem dX8_enact_4 : decode cX8_enact 4 = .ok (.aload_n 0, 1) := by decide +kernel
theorem dX8_enact_5 : decode cX8_enact 5 = .ok (.getfield 27, 3) := by decide +kernel
theorem dX8_enact_8 : decode cX8_enact 8 = .ok (.iload_n 1, 1) := by decide +kernel
theorem dX8_enact_9 : decode cX8_enact 9 = .ok (.iastore, 1) := by decide +kernel
theorem dX8_enact_10 : decode cX8_enact 10 = .ok (.aload_n 0, 1) := by decide +kernel
theorem dX8_enact_11 : decode cX8_enact 11 = .ok (.getfield 15, 3) := by decide +kernel
theorem dX8_enact_14 : decode cX8_enact 14 = .ok (.aload_n 0, 1) := by decide +kernel
theorem dX8_enact_15 : decode cX8_enact 15 = .ok (.getfield 27, 3) := by decide +kernel
theorem dX8_enact_18 : decode cX8_enact 18 = .ok (.aload_n 2, 1) := by decide +kernel
theorem dX8_enact_19 : decode cX8_enact 19 = .ok (.getfield 31, 3) := by decide +kernel
theorem dX8_enact_22 : decode cX8_enact 22 = .ok (.iastore, 1) := by decide +kernel
theorem dX8_enact_23 : decode cX8_enact 23 = .ok (.aload_n 2, 1) := by decide +kernel
theorem dX8_enact_24 : decode cX8_enact 24 = .ok (.getfield 36, 3) := by decide +kernel
theorem dX8_enact_27 : decode cX8_enact 27 = .ok (.iconst 0, 1) := by decide +kernel
theorem dX8_enact_28 : decode cX8_enact 28 = .ok (.aload_n 0, 1) := by decide +kernel
theorem dX8_enact_29 : decode cX8_enact 29 = .ok (.getfield 21, 3) := by decide +kernel
theorem dX8_enact_32 : decode cX8_enact 32 = .ok (.aload_n 0, 1) := by decide +kernel
theorem dX8_enact_33 : decode cX8_enact 33 = .ok (.getfield 27, 3) := by decide +kernel
theorem dX8_enact_36 : decode cX8_enact 36 = .ok (.bipush 8, 2) := by decide +kernel
theorem dX8_enact_38 : decode cX8_enact 38 = .ok (.imul, 1) := by decide +kernel
theorem dX8_enact_39 : decode cX8_enact 39 = .ok (.aload_n 2, 1) := by decide +kernel
theorem dX8_enact_40 : decode cX8_enact 40 = .ok (.getfield 31, 3) := by decide +kernel
theorem dX8_enact_43 : decode cX8_enact 43 = .ok (.invokestatic 37, 3) := by decide +kernel
theorem dX8_enact_46 : decode cX8_enact 46 = .ok (.aload_n 2, 1) := by decide +kernel
theorem dX8_enact_47 : decode cX8_enact 47 = .ok (.getfield 43, 3) := by decide +kernel
theorem dX8_enact_50 : decode cX8_enact 50 = .ok (.iconst 0, 1) := by decide +kernel
theorem dX8_enact_51 : decode cX8_enact 51 = .ok (.aload_n 0, 1) := by decide +kernel
theorem dX8_enact_52 : decode cX8_enact 52 = .ok (.getfield 24, 3) := by decide +kernel
theorem dX8_enact_55 : decode cX8_enact 55 = .ok (.aload_n 0, 1) := by decide +kernel
theorem dX8_enact_56 : decode cX8_enact 56 = .ok (.getfield 27, 3) := by decide +kernel
theorem dX8_enact_59 : decode cX8_enact 59 = .ok (.bipush 8, 2) := by decide +kernel
theorem dX8_enact_61 : decode cX8_enact 61 = .ok (.imul, 1) := by decide +kernel
theorem dX8_enact_62 : decode cX8_enact 62 = .ok (.aload_n 2, 1) := by decide +kernel
theorem dX8_enact_63 : decode cX8_enact 63 = .ok (.getfield 31, 3) := by decide +kernel
theorem dX8_enact_66 : decode cX8_enact 66 = .ok (.invokestatic 37, 3) := by decide +kernel
theorem dX8_enact_69 : decode cX8_enact 69 = .ok (.aload_n 0, 1) := by decide +kernel
theorem dX8_enact_70 : decode cX8_enact 70 = .ok (.getfield 27, 3) := by decide +kernel
theorem dX8_enact_73 : decode cX8_enact 73 = .ok (.istore_n 3, 1) := by decide +kernel
theorem dX8_enact_74 : decode cX8_enact 74 = .ok (.iload_n 3, 1) := by decide +kernel
theorem dX8_enact_75 : decode cX8_enact 75 = .ok (.ifCond .le 40, 3) := by decide +kernel
theorem dX8_enact_78 : decode cX8_enact 78 = .ok (.aload_n 0, 1) := by decide +kernel
theorem dX8_enact_79 : decode cX8_enact 79 = .ok (.getfield 9, 3) := by decide +kernel
theorem dX8_enact_82 : decode cX8_enact 82 = .ok (.aload_n 0, 1) := by decide +kernel
theorem dX8_enact_83 : decode cX8_enact 83 = .ok (.getfield 18, 3) := by decide +kernel
theorem dX8_enact_86 : decode cX8_enact 86 = .ok (.iload_n 3, 1) := by decide +kernel
theorem dX8_enact_87 : decode cX8_enact 87 = .ok (.iconst 1, 1) := by decide +kernel
theorem dX8_enact_88 : decode cX8_enact 88 = .ok (.isub, 1) := by decide +kernel
theorem dX8_enact_89 : decode cX8_enact 89 = .ok (.iaload, 1) := by decide +kernel
theorem dX8_enact_90 : decode cX8_enact 90 = .ok (.iaload, 1) := by decide +kernel
theorem dX8_enact_91 : decode cX8_enact 91 = .ok (.iload_n 1, 1) := by decide +kernel
theorem dX8_enact_92 : decode cX8_enact 92 = .ok (.if_icmp .le 23, 3) := by decide +kernel
theorem dX8_enact_95 : decode cX8_enact 95 = .ok (.aload_n 0, 1) := by decide +kernel
theorem dX8_enact_96 : decode cX8_enact 96 = .ok (.getfield 18, 3) := by decide +kernel
theorem dX8_enact_99 : decode cX8_enact 99 = .ok (.iload_n 3, 1) := by decide +kernel
theorem dX8_enact_100 : decode cX8_enact 100 = .ok (.aload_n 0, 1) := by decide +kernel
theorem dX8_enact_101 : decode cX8_enact 101 = .ok (.getfield 18, 3) := by decide +kernel
theorem dX8_enact_104 : decode cX8_enact 104 = .ok (.iload_n 3, 1) := by decide +kernel
theorem dX8_enact_105 : decode cX8_enact 105 = .ok (.iconst 1, 1) := by decide +kernel
theorem dX8_enact_106 : decode cX8_enact 106 = .ok (.isub, 1) := by decide +kernel
theorem dX8_enact_107 : decode cX8_enact 107 = .ok (.iaload, 1) := by decide +kernel
theorem dX8_enact_108 : decode cX8_enact 108 = .ok (.iastore, 1) := by decide +kernel
theorem dX8_enact_109 : decode cX8_enact 109 = .ok (.iinc 3 (-1), 3) := by decide +kernel
theorem dX8_enact_112 : decode cX8_enact 112 = .ok (.goto (-38), 3) := by decide +kernel
theorem dX8_enact_115 : decode cX8_enact 115 = .ok (.aload_n 0, 1) := by decide +kernel
theorem dX8_enact_116 : decode cX8_enact 116 = .ok (.getfield 18, 3) := by decide +kernel
theorem dX8_enact_119 : decode cX8_enact 119 = .ok (.iload_n 3, 1) := by decide +kernel
theorem dX8_enact_120 : decode cX8_enact 120 = .ok (.aload_n 0, 1) := by decide +kernel
theorem dX8_enact_121 : decode cX8_enact 121 = .ok (.getfield 27, 3) := by decide +kernel
theorem dX8_enact_124 : decode cX8_enact 124 = .ok (.iastore, 1) := by decide +kernel
theorem dX8_enact_125 : decode cX8_enact 125 = .ok (.aload_n 0, 1) := by decide +kernel
theorem dX8_enact_126 : decode cX8_enact 126 = .ok (.dup, 1) := by decide +kernel
theorem dX8_enact_127 : decode cX8_enact 127 = .ok (.getfield 27, 3) := by decide +kernel
theorem dX8_enact_130 : decode cX8_enact 130 = .ok (.dup_x1, 1) := by decide +kernel
theorem dX8_enact_131 : decode cX8_enact 131 = .ok (.iconst 1, 1) := by decide +kernel
theorem dX8_enact_132 : decode cX8_enact 132 = .ok (.iadd, 1) := by decide +kernel
theorem dX8_enact_133 : decode cX8_enact 133 = .ok (.putfield 27, 3) := by decide +kernel
theorem dX8_enact_136 : decode cX8_enact 136 = .ok (.ireturn, 1) := by decide +kernel
theorem dX8_holdIn_0 : decode cX8_holdIn 0 = .ok (.getstatic 44, 3) := by decide +kernel
theorem dX8_holdIn_3 : decode cX8_holdIn 3 = .ok (.iconst 0, 1) := by decide +kernel
theorem dX8_holdIn_4 : decode cX8_holdIn 4 = .ok (.aload_n 2, 1) := by decide +kernel
theorem dX8_holdIn_5 : decode cX8_holdIn 5 = .ok (.iconst 0, 1) := by decide +kernel
theorem dX8_holdIn_6 : decode cX8_holdIn 6 = .ok (.bipush 7, 2) := by decide +kernel
theorem dX8_holdIn_8 : decode cX8_holdIn 8 = .ok (.invokestatic 37, 3) := by decide +kernel
theorem dX8_holdIn_11 : decode cX8_holdIn 11 = .ok (.aload_n 0, 1) := by decide +kernel
theorem dX8_holdIn_12 : decode cX8_holdIn 12 = .ok (.iload_n 1, 1) := by decide +kernel
theorem dX8_holdIn_13 : decode cX8_holdIn 13 = .ok (.invokevirtual 47, 3) := by decide +kernel
theorem dX8_holdIn_16 : decode cX8_holdIn 16 = .ok (.istore_n 3, 1) := by decide +kernel
theorem dX8_holdIn_17 : decode cX8_holdIn 17 = .ok (.iconst 0, 1) := by decide +kernel
theorem dX8_holdIn_18 : decode cX8_holdIn 18 = .ok (.istore 4, 2) := by decide +kernel
theorem dX8_holdIn_20 : decode cX8_holdIn 20 = .ok (.iload 4, 2) := by decide +kernel
theorem dX8_holdIn_22 : decode cX8_holdIn 22 = .ok (.aload_n 0, 1) := by decide +kernel
theorem dX8_holdIn_23 : decode cX8_holdIn 23 = .ok (.getfield 27, 3) := by decide +kernel
theorem dX8_holdIn_26 : decode cX8_holdIn 26 = .ok (.if_icmp .ge 35, 3) := by decide +kernel
theorem dX8_holdIn_29 : decode cX8_holdIn 29 = .ok (.iload_n 3, 1) := by decide +kernel
theorem dX8_holdIn_30 : decode cX8_holdIn 30 = .ok (.aload_n 0, 1) := by decide +kernel
theorem dX8_holdIn_31 : decode cX8_holdIn 31 = .ok (.getfield 18, 3) := by decide +kernel
theorem dX8_holdIn_34 : decode cX8_holdIn 34 = .ok (.iload 4, 2) := by decide +kernel
theorem dX8_holdIn_36 : decode cX8_holdIn 36 = .ok (.iaload, 1) := by decide +kernel
theorem dX8_holdIn_37 : decode cX8_holdIn 37 = .ok (.invokestatic 51, 3) := by decide +kernel
theorem dX8_holdIn_40 : decode cX8_holdIn 40 = .ok (.ifCond .eq 15, 3) := by decide +kernel
theorem dX8_holdIn_43 : decode cX8_holdIn 43 = .ok (.aload_n 0, 1) := by decide +kernel
theorem dX8_holdIn_44 : decode cX8_holdIn 44 = .ok (.aload_n 0, 1) := by decide +kernel
theorem dX8_holdIn_45 : decode cX8_holdIn 45 = .ok (.getfield 18, 3) := by decide +kernel
theorem dX8_holdIn_48 : decode cX8_holdIn 48 = .ok (.iload 4, 2) := by decide +kernel
theorem dX8_holdIn_50 : decode cX8_holdIn 50 = .ok (.iaload, 1) := by decide +kernel
theorem dX8_holdIn_51 : decode cX8_holdIn 51 = .ok (.aload_n 2, 1) := by decide +kernel
theorem dX8_holdIn_52 : decode cX8_holdIn 52 = .ok (.invokevirtual 55, 3) := by decide +kernel
theorem dX8_holdIn_55 : decode cX8_holdIn 55 = .ok (.iinc 4 1, 3) := by decide +kernel
theorem dX8_holdIn_58 : decode cX8_holdIn 58 = .ok (.goto (-38), 3) := by decide +kernel
theorem dX8_holdIn_61 : decode cX8_holdIn 61 = .ok (.return_, 1) := by decide +kernel
theorem dX8_countingIn_0 : decode cX8_countingIn 0 = .ok (.iconst 0, 1) := by decide +kernel
theorem dX8_countingIn_1 : decode cX8_countingIn 1 = .ok (.istore_n 2, 1) := by decide +kernel
theorem dX8_countingIn_2 : decode cX8_countingIn 2 = .ok (.iconst 0, 1) := by decide +kernel
theorem dX8_countingIn_3 : decode cX8_countingIn 3 = .ok (.istore_n 3, 1) := by decide +kernel
theorem dX8_countingIn_4 : decode cX8_countingIn 4 = .ok (.aload_n 0, 1) := by decide +kernel
theorem dX8_countingIn_5 : decode cX8_countingIn 5 = .ok (.getfield 27, 3) := by decide +kernel
theorem dX8_countingIn_8 : decode cX8_countingIn 8 = .ok (.iconst 1, 1) := by decide +kernel
theorem dX8_countingIn_9 : decode cX8_countingIn 9 = .ok (.isub, 1) := by decide +kernel
theorem dX8_countingIn_10 : decode cX8_countingIn 10 = .ok (.istore 4, 2) := by decide +kernel
theorem dX8_countingIn_12 : decode cX8_countingIn 12 = .ok (.iload 4, 2) := by decide +kernel
theorem dX8_countingIn_14 : decode cX8_countingIn 14 = .ok (.ifCond .lt 48, 3) := by decide +kernel
theorem dX8_countingIn_17 : decode cX8_countingIn 17 = .ok (.aload_n 0, 1) := by decide +kernel
theorem dX8_countingIn_18 : decode cX8_countingIn 18 = .ok (.getfield 9, 3) := by decide +kernel
theorem dX8_countingIn_21 : decode cX8_countingIn 21 = .ok (.iload 4, 2) := by decide +kernel
theorem dX8_countingIn_23 : decode cX8_countingIn 23 = .ok (.iaload, 1) := by decide +kernel
theorem dX8_countingIn_24 : decode cX8_countingIn 24 = .ok (.iload_n 1, 1) := by decide +kernel
theorem dX8_countingIn_25 : decode cX8_countingIn 25 = .ok (.if_icmp .gt 31, 3) := by decide +kernel
theorem dX8_countingIn_28 : decode cX8_countingIn 28 = .ok (.iload_n 3, 1) := by decide +kernel
theorem dX8_countingIn_29 : decode cX8_countingIn 29 = .ok (.iload 4, 2) := by decide +kernel
theorem dX8_countingIn_31 : decode cX8_countingIn 31 = .ok (.invokestatic 51, 3) := by decide +kernel
theorem dX8_countingIn_34 : decode cX8_countingIn 34 = .ok (.ifCond .eq 6, 3) := by decide +kernel
theorem dX8_countingIn_37 : decode cX8_countingIn 37 = .ok (.goto 19, 3) := by decide +kernel
theorem dX8_countingIn_40 : decode cX8_countingIn 40 = .ok (.iload_n 2, 1) := by decide +kernel
theorem dX8_countingIn_41 : decode cX8_countingIn 41 = .ok (.iconst 1, 1) := by decide +kernel
theorem dX8_countingIn_42 : decode cX8_countingIn 42 = .ok (.iload 4, 2) := by decide +kernel
theorem dX8_countingIn_44 : decode cX8_countingIn 44 = .ok (.ishl, 1) := by decide +kernel
theorem dX8_countingIn_45 : decode cX8_countingIn 45 = .ok (.ior, 1) := by decide +kernel
theorem dX8_countingIn_46 : decode cX8_countingIn 46 = .ok (.istore_n 2, 1) := by decide +kernel
theorem dX8_countingIn_47 : decode cX8_countingIn 47 = .ok (.iload_n 3, 1) := by decide +kernel
theorem dX8_countingIn_48 : decode cX8_countingIn 48 = .ok (.aload_n 0, 1) := by decide +kernel
theorem dX8_countingIn_49 : decode cX8_countingIn 49 = .ok (.iload 4, 2) := by decide +kernel
theorem dX8_countingIn_51 : decode cX8_countingIn 51 = .ok (.invokevirtual 59, 3) := by decide +kernel
theorem dX8_countingIn_54 : decode cX8_countingIn 54 = .ok (.ior, 1) := by decide +kernel
theorem dX8_countingIn_55 : decode cX8_countingIn 55 = .ok (.istore_n 3, 1) := by decide +kernel
theorem dX8_countingIn_56 : decode cX8_countingIn 56 = .ok (.iinc 4 (-1), 3) := by decide +kernel
theorem dX8_countingIn_59 : decode cX8_countingIn 59 = .ok (.goto (-47), 3) := by decide +kernel
theorem dX8_countingIn_62 : decode cX8_countingIn 62 = .ok (.iload_n 2, 1) := by decide +kernel
theorem dX8_countingIn_63 : decode cX8_countingIn 63 = .ok (.ireturn, 1) := by decide +kernel
theorem dX8_struckBy_0 : decode cX8_struckBy 0 = .ok (.iconst 0, 1) := by decide +kernel
theorem dX8_struckBy_1 : decode cX8_struckBy 1 = .ok (.istore_n 2, 1) := by decide +kernel
theorem dX8_struckBy_2 : decode cX8_struckBy 2 = .ok (.iload_n 1, 1) := by decide +kernel
theorem dX8_struckBy_3 : decode cX8_struckBy 3 = .ok (.bipush 8, 2) := by decide +kernel
theorem dX8_struckBy_5 : decode cX8_struckBy 5 = .ok (.imul, 1) := by decide +kernel
theorem dX8_struckBy_6 : decode cX8_struckBy 6 = .ok (.istore_n 3, 1) := by decide +kernel
theorem dX8_struckBy_7 : decode cX8_struckBy 7 = .ok (.iload_n 3, 1) := by decide +kernel
theorem dX8_struckBy_8 : decode cX8_struckBy 8 = .ok (.iload_n 1, 1) := by decide +kernel
theorem dX8_struckBy_9 : decode cX8_struckBy 9 = .ok (.bipush 8, 2) := by decide +kernel
theorem dX8_struckBy_11 : decode cX8_struckBy 11 = .ok (.imul, 1) := by decide +kernel
theorem dX8_struckBy_12 : decode cX8_struckBy 12 = .ok (.aload_n 0, 1) := by decide +kernel
theorem dX8_struckBy_13 : decode cX8_struckBy 13 = .ok (.getfield 15, 3) := by decide +kernel
theorem dX8_struckBy_16 : decode cX8_struckBy 16 = .ok (.iload_n 1, 1) := by decide +kernel
theorem dX8_struckBy_17 : decode cX8_struckBy 17 = .ok (.iaload, 1) := by decide +kernel
theorem dX8_struckBy_18 : decode cX8_struckBy 18 = .ok (.iadd, 1) := by decide +kernel
theorem dX8_struckBy_19 : decode cX8_struckBy 19 = .ok (.if_icmp .ge 31, 3) := by decide +kernel
theorem dX8_struckBy_22 : decode cX8_struckBy 22 = .ok (.aload_n 0, 1) := by decide +kernel
theorem dX8_struckBy_23 : decode cX8_struckBy 23 = .ok (.getfield 21, 3) := by decide +kernel
theorem dX8_struckBy_26 : decode cX8_struckBy 26 = .ok (.iload_n 3, 1) := by decide +kernel
theorem dX8_struckBy_27 : decode cX8_struckBy 27 = .ok (.iaload, 1) := by decide +kernel
theorem dX8_struckBy_28 : decode cX8_struckBy 28 = .ok (.bipush 7, 2) := by decide +kernel
theorem dX8_struckBy_30 : decode cX8_struckBy 30 = .ok (.if_icmp .ne 14, 3) := by decide +kernel
theorem dX8_struckBy_33 : decode cX8_struckBy 33 = .ok (.iload_n 2, 1) := by decide +kernel
theorem dX8_struckBy_34 : decode cX8_struckBy 34 = .ok (.iconst 1, 1) := by decide +kernel
theorem dX8_struckBy_35 : decode cX8_struckBy 35 = .ok (.aload_n 0, 1) := by decide +kernel
theorem dX8_struckBy_36 : decode cX8_struckBy 36 = .ok (.getfield 24, 3) := by decide +kernel
theorem dX8_struckBy_39 : decode cX8_struckBy 39 = .ok (.iload_n 3, 1) := by decide +kernel
theorem dX8_struckBy_40 : decode cX8_struckBy 40 = .ok (.iaload, 1) := by decide +kernel
theorem dX8_struckBy_41 : decode cX8_struckBy 41 = .ok (.ishl, 1) := by decide +kernel
theorem dX8_struckBy_42 : decode cX8_struckBy 42 = .ok (.ior, 1) := by decide +kernel
theorem dX8_struckBy_43 : decode cX8_struckBy 43 = .ok (.istore_n 2, 1) := by decide +kernel
theorem dX8_struckBy_44 : decode cX8_struckBy 44 = .ok (.iinc 3 1, 3) := by decide +kernel
theorem dX8_struckBy_47 : decode cX8_struckBy 47 = .ok (.goto (-40), 3) := by decide +kernel
theorem dX8_struckBy_50 : decode cX8_struckBy 50 = .ok (.iload_n 2, 1) := by decide +kernel
theorem dX8_struckBy_51 : decode cX8_struckBy 51 = .ok (.ireturn, 1) := by decide +kernel
theorem dX8_apply_0 : decode cX8_apply 0 = .ok (.iload_n 1, 1) := by decide +kernel
theorem dX8_apply_1 : decode cX8_apply 1 = .ok (.bipush 8, 2) := by decide +kernel
theorem dX8_apply_3 : decode cX8_apply 3 = .ok (.imul, 1) := by decide +kernel
theorem dX8_apply_4 : decode cX8_apply 4 = .ok (.istore_n 3, 1) := by decide +kernel
theorem dX8_apply_5 : decode cX8_apply 5 = .ok (.iload_n 3, 1) := by decide +kernel
theorem dX8_apply_6 : decode cX8_apply 6 = .ok (.iload_n 1, 1) := by decide +kernel
theorem dX8_apply_7 : decode cX8_apply 7 = .ok (.bipush 8, 2) := by decide +kernel
theorem dX8_apply_9 : decode cX8_apply 9 = .ok (.imul, 1) := by decide +kernel
theorem dX8_apply_10 : decode cX8_apply 10 = .ok (.aload_n 0, 1) := by decide +kernel
theorem dX8_apply_11 : decode cX8_apply 11 = .ok (.getfield 15, 3) := by decide +kernel
theorem dX8_apply_14 : decode cX8_apply 14 = .ok (.iload_n 1, 1) := by decide +kernel
theorem dX8_apply_15 : decode cX8_apply 15 = .ok (.iaload, 1) := by decide +kernel
theorem dX8_apply_16 : decode cX8_apply 16 = .ok (.iadd, 1) := by decide +kernel
theorem dX8_apply_17 : decode cX8_apply 17 = .ok (.if_icmp .ge 34, 3) := by decide +kernel
theorem dX8_apply_20 : decode cX8_apply 20 = .ok (.aload_n 0, 1) := by decide +kernel
theorem dX8_apply_21 : decode cX8_apply 21 = .ok (.getfield 21, 3) := by decide +kernel
theorem dX8_apply_24 : decode cX8_apply 24 = .ok (.iload_n 3, 1) := by decide +kernel
theorem dX8_apply_25 : decode cX8_apply 25 = .ok (.iaload, 1) := by decide +kernel
theorem dX8_apply_26 : decode cX8_apply 26 = .ok (.bipush 7, 2) := by decide +kernel
theorem dX8_apply_28 : decode cX8_apply 28 = .ok (.if_icmp .ge 17, 3) := by decide +kernel
theorem dX8_apply_31 : decode cX8_apply 31 = .ok (.aload_n 2, 1) := by decide +kernel
theorem dX8_apply_32 : decode cX8_apply 32 = .ok (.aload_n 0, 1) := by decide +kernel
theorem dX8_apply_33 : decode cX8_apply 33 = .ok (.getfield 21, 3) := by decide +kernel
theorem dX8_apply_36 : decode cX8_apply 36 = .ok (.iload_n 3, 1) := by decide +kernel
theorem dX8_apply_37 : decode cX8_apply 37 = .ok (.iaload, 1) := by decide +kernel
theorem dX8_apply_38 : decode cX8_apply 38 = .ok (.aload_n 0, 1) := by decide +kernel
theorem dX8_apply_39 : decode cX8_apply 39 = .ok (.getfield 24, 3) := by decide +kernel
theorem dX8_apply_42 : decode cX8_apply 42 = .ok (.iload_n 3, 1) := by decide +kernel
theorem dX8_apply_43 : decode cX8_apply 43 = .ok (.iaload, 1) := by decide +kernel
theorem dX8_apply_44 : decode cX8_apply 44 = .ok (.iastore, 1) := by decide +kernel
theorem dX8_apply_45 : decode cX8_apply 45 = .ok (.iinc 3 1, 3) := by decide +kernel
theorem dX8_apply_48 : decode cX8_apply 48 = .ok (.goto (-43), 3) := by decide +kernel
theorem dX8_apply_51 : decode cX8_apply 51 = .ok (.return_, 1) := by decide +kernel
theorem dJ0_length_8abf5_0 : decode cJ0_length_8abf5 0 = .ok (.aload_n 0, 1) := by decide +kernel
theorem dJ0_length_8abf5_1 : decode cJ0_length_8abf5 1 = .ok (.getfield 9, 3) := by decide +kernel
theorem dJ0_length_8abf5_4 : decode cJ0_length_8abf5 4 = .ok (.arraylength, 1) := by decide +kernel
theorem dJ0_length_8abf5_5 : decode cJ0_length_8abf5 5 = .ok (.aload_n 0, 1) := by decide +kernel
theorem dJ0_length_8abf5_6 : decode cJ0_length_8abf5 6 = .ok (.invokevirtual 335, 3) := by decide +kernel
theorem dJ0_length_8abf5_9 : decode cJ0_length_8abf5 9 = .ok (.ishr, 1) := by decide +kernel
theorem dJ0_length_8abf5_10 : decode cJ0_length_8abf5 10 = .ok (.ireturn, 1) := by decide +kernel
theorem dJ0_charAt_5068e_0 : decode cJ0_charAt_5068e 0 = .ok (.aload_n 0, 1) := by decide +kernel
theorem dJ0_charAt_5068e_1 : decode cJ0_charAt_5068e 1 = .ok (.invokevirtual 492, 3) := by decide +kernel
theorem dJ0_charAt_5068e_4 : decode cJ0_charAt_5068e 4 = .ok (.ifCond .eq 12, 3) := by decide +kernel
theorem dJ0_charAt_5068e_7 : decode cJ0_charAt_5068e 7 = .ok (.aload_n 0, 1) := by decide +kernel
theorem dJ0_charAt_5068e_8 : decode cJ0_charAt_5068e 8 = .ok (.getfield 9, 3) := by decide +kernel
theorem dJ0_charAt_5068e_11 : decode cJ0_charAt_5068e 11 = .ok (.iload_n 1, 1) := by decide +kernel
theorem dJ0_charAt_5068e_12 : decode cJ0_charAt_5068e 12 = .ok (.invokestatic 495, 3) := by decide +kernel
theorem dJ0_charAt_5068e_15 : decode cJ0_charAt_5068e 15 = .ok (.ireturn, 1) := by decide +kernel
theorem dJ0_charAt_5068e_16 : decode cJ0_charAt_5068e 16 = .ok (.aload_n 0, 1) := by decide +kernel
theorem dJ0_charAt_5068e_17 : decode cJ0_charAt_5068e 17 = .ok (.getfield 9, 3) := by decide +kernel
theorem dJ0_charAt_5068e_20 : decode cJ0_charAt_5068e 20 = .ok (.iload_n 1, 1) := by decide +kernel
theorem dJ0_charAt_5068e_21 : decode cJ0_charAt_5068e 21 = .ok (.invokestatic 498, 3) := by decide +kernel
theorem dJ0_charAt_5068e_24 : decode cJ0_charAt_5068e 24 = .ok (.ireturn, 1) := by decide +kernel
theorem dJ0_coder_7d493_0 : decode cJ0_coder_7d493 0 = .ok (.getstatic 38, 3) := by decide +kernel
theorem dJ0_coder_7d493_3 : decode cJ0_coder_7d493 3 = .ok (.ifCond .eq 10, 3) := by decide +kernel
theorem dJ0_coder_7d493_6 : decode cJ0_coder_7d493 6 = .ok (.aload_n 0, 1) := by decide +kernel
theorem dJ0_coder_7d493_7 : decode cJ0_coder_7d493 7 = .ok (.getfield 15, 3) := by decide +kernel
theorem dJ0_coder_7d493_10 : decode cJ0_coder_7d493 10 = .ok (.goto 4, 3) := by decide +kernel
theorem dJ0_coder_7d493_13 : decode cJ0_coder_7d493 13 = .ok (.iconst 1, 1) := by decide +kernel
theorem dJ0_coder_7d493_14 : decode cJ0_coder_7d493 14 = .ok (.ireturn, 1) := by decide +kernel
theorem dJ0_isLatin1_aae02_0 : decode cJ0_isLatin1_aae02 0 = .ok (.getstatic 38, 3) := by decide +kernel
theorem dJ0_isLatin1_aae02_3 : decode cJ0_isLatin1_aae02 3 = .ok (.ifCond .eq 14, 3) := by decide +kernel
theorem dJ0_isLatin1_aae02_6 : decode cJ0_isLatin1_aae02 6 = .ok (.aload_n 0, 1) := by decide +kernel
theorem dJ0_isLatin1_aae02_7 : decode cJ0_isLatin1_aae02 7 = .ok (.getfield 15, 3) := by decide +kernel
theorem dJ0_isLatin1_aae02_10 : decode cJ0_isLatin1_aae02 10 = .ok (.ifCond .ne 7, 3) := by decide +kernel
theorem dJ0_isLatin1_aae02_13 : decode cJ0_isLatin1_aae02 13 = .ok (.iconst 1, 1) := by decide +kernel
theorem dJ0_isLatin1_aae02_14 : decode cJ0_isLatin1_aae02 14 = .ok (.goto 4, 3) := by decide +kernel
theorem dJ0_isLatin1_aae02_17 : decode cJ0_isLatin1_aae02 17 = .ok (.iconst 0, 1) := by decide +kernel
theorem dJ0_isLatin1_aae02_18 : decode cJ0_isLatin1_aae02 18 = .ok (.ireturn, 1) := by decide +kernel
theorem dJ0_checkIndex_df160_0 : decode cJ0_checkIndex_df160 0 = .ok (.iload_n 0, 1) := by decide +kernel
theorem dJ0_checkIndex_df160_1 : decode cJ0_checkIndex_df160 1 = .ok (.iload_n 1, 1) := by decide +kernel
theorem dJ0_checkIndex_df160_2 : decode cJ0_checkIndex_df160 2 = .ok (.getstatic 1053, 3) := by decide +kernel
theorem dJ0_checkIndex_df160_5 : decode cJ0_checkIndex_df160 5 = .ok (.invokestatic 1059, 3) := by decide +kernel
theorem dJ0_checkIndex_df160_8 : decode cJ0_checkIndex_df160 8 = .ok (.pop, 1) := by decide +kernel
theorem dJ0_checkIndex_df160_9 : decode cJ0_checkIndex_df160 9 = .ok (.return_, 1) := by decide +kernel
theorem dJ1_charAt_3b067_0 : decode cJ1_charAt_3b067 0 = .ok (.iload_n 1, 1) := by decide +kernel
theorem dJ1_charAt_3b067_1 : decode cJ1_charAt_3b067 1 = .ok (.aload_n 0, 1) := by decide +kernel
theorem dJ1_charAt_3b067_2 : decode cJ1_charAt_3b067 2 = .ok (.arraylength, 1) := by decide +kernel
theorem dJ1_charAt_3b067_3 : decode cJ1_charAt_3b067 3 = .ok (.invokestatic 9, 3) := by decide +kernel
theorem dJ1_charAt_3b067_6 : decode cJ1_charAt_3b067 6 = .ok (.aload_n 0, 1) := by decide +kernel
theorem dJ1_charAt_3b067_7 : decode cJ1_charAt_3b067 7 = .ok (.iload_n 1, 1) := by decide +kernel
theorem dJ1_charAt_3b067_8 : decode cJ1_charAt_3b067 8 = .ok (.baload, 1) := by decide +kernel
theorem dJ1_charAt_3b067_9 : decode cJ1_charAt_3b067 9 = .ok (.sipush 255, 3) := by decide +kernel
theorem dJ1_charAt_3b067_12 : decode cJ1_charAt_3b067 12 = .ok (.iand, 1) := by decide +kernel
theorem dJ1_charAt_3b067_13 : decode cJ1_charAt_3b067 13 = .ok (.i2c, 1) := by decide +kernel
theorem dJ1_charAt_3b067_14 : decode cJ1_charAt_3b067 14 = .ok (.ireturn, 1) := by decide +kernel
theorem dJ3_checkIndex_8e157_0 : decode cJ3_checkIndex_8e157 0 = .ok (.iload_n 0, 1) := by decide +kernel
theorem dJ3_checkIndex_8e157_1 : decode cJ3_checkIndex_8e157 1 = .ok (.ifCond .lt 8, 3) := by decide +kernel
theorem dJ3_checkIndex_8e157_4 : decode cJ3_checkIndex_8e157 4 = .ok (.iload_n 0, 1) := by decide +kernel
theorem dJ3_checkIndex_8e157_5 : decode cJ3_checkIndex_8e157 5 = .ok (.iload_n 1, 1) := by decide +kernel
theorem dJ3_checkIndex_8e157_6 : decode cJ3_checkIndex_8e157 6 = .ok (.if_icmp .lt 10, 3) := by decide +kernel
theorem dJ3_checkIndex_8e157_9 : decode cJ3_checkIndex_8e157 9 = .ok (.aload_n 2, 1) := by decide +kernel
theorem dJ3_checkIndex_8e157_10 : decode cJ3_checkIndex_8e157 10 = .ok (.iload_n 0, 1) := by decide +kernel
theorem dJ3_checkIndex_8e157_11 : decode cJ3_checkIndex_8e157 11 = .ok (.iload_n 1, 1) := by decide +kernel
theorem dJ3_checkIndex_8e157_12 : decode cJ3_checkIndex_8e157 12 = .ok (.invokestatic 95, 3) := by decide +kernel
theorem dJ3_checkIndex_8e157_15 : decode cJ3_checkIndex_8e157 15 = .ok (.athrow, 1) := by decide +kernel
theorem dJ3_checkIndex_8e157_16 : decode cJ3_checkIndex_8e157 16 = .ok (.iload_n 0, 1) := by decide +kernel
theorem dJ3_checkIndex_8e157_17 : decode cJ3_checkIndex_8e157 17 = .ok (.ireturn, 1) := by decide +kernel
theorem dJ7_fill_53178_0 : decode cJ7_fill_53178 0 = .ok (.iconst 0, 1) := by decide +kernel
theorem dJ7_fill_53178_1 : decode cJ7_fill_53178 1 = .ok (.istore_n 2, 1) := by decide +kernel
theorem dJ7_fill_53178_2 : decode cJ7_fill_53178 2 = .ok (.aload_n 0, 1) := by decide +kernel
theorem dJ7_fill_53178_3 : decode cJ7_fill_53178 3 = .ok (.arraylength, 1) := by decide +kernel
theorem dJ7_fill_53178_4 : decode cJ7_fill_53178 4 = .ok (.istore_n 3, 1) := by decide +kernel
theorem dJ7_fill_53178_5 : decode cJ7_fill_53178 5 = .ok (.iload_n 2, 1) := by decide +kernel
theorem dJ7_fill_53178_6 : decode cJ7_fill_53178 6 = .ok (.iload_n 3, 1) := by decide +kernel
theorem dJ7_fill_53178_7 : decode cJ7_fill_53178 7 = .ok (.if_icmp .ge 13, 3) := by decide +kernel
theorem dJ7_fill_53178_10 : decode cJ7_fill_53178 10 = .ok (.aload_n 0, 1) := by decide +kernel
theorem dJ7_fill_53178_11 : decode cJ7_fill_53178 11 = .ok (.iload_n 2, 1) := by decide +kernel
theorem dJ7_fill_53178_12 : decode cJ7_fill_53178 12 = .ok (.iload_n 1, 1) := by decide +kernel
theorem dJ7_fill_53178_13 : decode cJ7_fill_53178 13 = .ok (.iastore, 1) := by decide +kernel
theorem dJ7_fill_53178_14 : decode cJ7_fill_53178 14 = .ok (.iinc 2 1, 3) := by decide +kernel
theorem dJ7_fill_53178_17 : decode cJ7_fill_53178 17 = .ok (.goto (-12), 3) := by decide +kernel
theorem dJ7_fill_53178_20 : decode cJ7_fill_53178 20 = .ok (.return_, 1) := by decide +kernel
