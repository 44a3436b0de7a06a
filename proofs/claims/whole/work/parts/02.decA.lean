theorem dX0_init_0 : decode cX0_init 0 = .ok (.aload_n 0, 1) := by decide +kernel
theorem dX0_init_1 : decode cX0_init 1 = .ok (.invokespecial 3, 3) := by decide +kernel
theorem dX0_init_4 : decode cX0_init 4 = .ok (.aload_n 0, 1) := by decide +kernel
theorem dX0_init_5 : decode cX0_init 5 = .ok (.bipush 24, 2) := by decide +kernel
theorem dX0_init_7 : decode cX0_init 7 = .ok (.newarray .int, 2) := by decide +kernel
theorem dX0_init_9 : decode cX0_init 9 = .ok (.putfield 9, 3) := by decide +kernel
theorem dX0_init_12 : decode cX0_init 12 = .ok (.aload_n 0, 1) := by decide +kernel
theorem dX0_init_13 : decode cX0_init 13 = .ok (.bipush 24, 2) := by decide +kernel
theorem dX0_init_15 : decode cX0_init 15 = .ok (.newarray .int, 2) := by decide +kernel
theorem dX0_init_17 : decode cX0_init 17 = .ok (.putfield 15, 3) := by decide +kernel
theorem dX0_init_20 : decode cX0_init 20 = .ok (.aload_n 0, 1) := by decide +kernel
theorem dX0_init_21 : decode cX0_init 21 = .ok (.bipush 24, 2) := by decide +kernel
theorem dX0_init_23 : decode cX0_init 23 = .ok (.newarray .int, 2) := by decide +kernel
theorem dX0_init_25 : decode cX0_init 25 = .ok (.putfield 18, 3) := by decide +kernel
theorem dX0_init_28 : decode cX0_init 28 = .ok (.aload_n 0, 1) := by decide +kernel
theorem dX0_init_29 : decode cX0_init 29 = .ok (.bipush 48, 2) := by decide +kernel
theorem dX0_init_31 : decode cX0_init 31 = .ok (.newarray .int, 2) := by decide +kernel
theorem dX0_init_33 : decode cX0_init 33 = .ok (.putfield 21, 3) := by decide +kernel
theorem dX0_init_36 : decode cX0_init 36 = .ok (.aload_n 0, 1) := by decide +kernel
theorem dX0_init_37 : decode cX0_init 37 = .ok (.bipush 48, 2) := by decide +kernel
theorem dX0_init_39 : decode cX0_init 39 = .ok (.newarray .int, 2) := by decide +kernel
theorem dX0_init_41 : decode cX0_init 41 = .ok (.putfield 24, 3) := by decide +kernel
theorem dX0_init_44 : decode cX0_init 44 = .ok (.aload_n 0, 1) := by decide +kernel
theorem dX0_init_45 : decode cX0_init 45 = .ok (.bipush 48, 2) := by decide +kernel
theorem dX0_init_47 : decode cX0_init 47 = .ok (.newarray .int, 2) := by decide +kernel
theorem dX0_init_49 : decode cX0_init 49 = .ok (.putfield 27, 3) := by decide +kernel
theorem dX0_init_52 : decode cX0_init 52 = .ok (.aload_n 0, 1) := by decide +kernel
theorem dX0_init_53 : decode cX0_init 53 = .ok (.bipush 6, 2) := by decide +kernel
theorem dX0_init_55 : decode cX0_init 55 = .ok (.newarray .int, 2) := by decide +kernel
theorem dX0_init_57 : decode cX0_init 57 = .ok (.putfield 30, 3) := by decide +kernel
theorem dX0_init_60 : decode cX0_init 60 = .ok (.aload_n 0, 1) := by decide +kernel
theorem dX0_init_61 : decode cX0_init 61 = .ok (.bipush 40, 2) := by decide +kernel
theorem dX0_init_63 : decode cX0_init 63 = .ok (.newarray .int, 2) := by decide +kernel
theorem dX0_init_65 : decode cX0_init 65 = .ok (.putfield 33, 3) := by decide +kernel
theorem dX0_init_68 : decode cX0_init 68 = .ok (.aload_n 0, 1) := by decide +kernel
theorem dX0_init_69 : decode cX0_init 69 = .ok (.bipush 40, 2) := by decide +kernel
theorem dX0_init_71 : decode cX0_init 71 = .ok (.newarray .int, 2) := by decide +kernel
theorem dX0_init_73 : decode cX0_init 73 = .ok (.putfield 36, 3) := by decide +kernel
theorem dX0_init_76 : decode cX0_init 76 = .ok (.aload_n 0, 1) := by decide +kernel
theorem dX0_init_77 : decode cX0_init 77 = .ok (.bipush 40, 2) := by decide +kernel
theorem dX0_init_79 : decode cX0_init 79 = .ok (.newarray .int, 2) := by decide +kernel
theorem dX0_init_81 : decode cX0_init 81 = .ok (.putfield 39, 3) := by decide +kernel
theorem dX0_init_84 : decode cX0_init 84 = .ok (.aload_n 0, 1) := by decide +kernel
theorem dX0_init_85 : decode cX0_init 85 = .ok (.bipush 48, 2) := by decide +kernel
theorem dX0_init_87 : decode cX0_init 87 = .ok (.newarray .boolean, 2) := by decide +kernel
theorem dX0_init_89 : decode cX0_init 89 = .ok (.putfield 42, 3) := by decide +kernel
theorem dX0_init_92 : decode cX0_init 92 = .ok (.aload_n 0, 1) := by decide +kernel
theorem dX0_init_93 : decode cX0_init 93 = .ok (.bipush 7, 2) := by decide +kernel
theorem dX0_init_95 : decode cX0_init 95 = .ok (.newarray .int, 2) := by decide +kernel
theorem dX0_init_97 : decode cX0_init 97 = .ok (.putfield 46, 3) := by decide +kernel
theorem dX0_init_100 : decode cX0_init 100 = .ok (.aload_n 0, 1) := by decide +kernel
theorem dX0_init_101 : decode cX0_init 101 = .ok (.aload_n 1, 1) := by decide +kernel
theorem dX0_init_102 : decode cX0_init 102 = .ok (.putfield 49, 3) := by decide +kernel
theorem dX0_init_105 : decode cX0_init 105 = .ok (.aload_n 0, 1) := by decide +kernel
theorem dX0_init_106 : decode cX0_init 106 = .ok (.aload_n 2, 1) := by decide +kernel
theorem dX0_init_107 : decode cX0_init 107 = .ok (.putfield 53, 3) := by decide +kernel
theorem dX0_init_110 : decode cX0_init 110 = .ok (.aload_n 0, 1) := by decide +kernel
theorem dX0_init_111 : decode cX0_init 111 = .ok (.aload_n 3, 1) := by decide +kernel
theorem dX0_init_112 : decode cX0_init 112 = .ok (.putfield 57, 3) := by decide +kernel
theorem dX0_init_115 : decode cX0_init 115 = .ok (.aload_n 0, 1) := by decide +kernel
theorem dX0_init_116 : decode cX0_init 116 = .ok (.aload 4, 2) := by decide +kernel
theorem dX0_init_118 : decode cX0_init 118 = .ok (.putfield 61, 3) := by decide +kernel
theorem dX0_init_121 : decode cX0_init 121 = .ok (.aload_n 0, 1) := by decide +kernel
theorem dX0_init_122 : decode cX0_init 122 = .ok (.aload 5, 2) := by decide +kernel
theorem dX0_init_124 : decode cX0_init 124 = .ok (.putfield 65, 3) := by decide +kernel
theorem dX0_init_127 : decode cX0_init 127 = .ok (.aload_n 0, 1) := by decide +kernel
theorem dX0_init_128 : decode cX0_init 128 = .ok (.invokevirtual 69, 3) := by decide +kernel
theorem dX0_init_131 : decode cX0_init 131 = .ok (.return_, 1) := by decide +kernel
theorem dX0_beginAnew_0 : decode cX0_beginAnew 0 = .ok (.aload_n 0, 1) := by decide +kernel
theorem dX0_beginAnew_1 : decode cX0_beginAnew 1 = .ok (.getfield 53, 3) := by decide +kernel
theorem dX0_beginAnew_4 : decode cX0_beginAnew 4 = .ok (.getfield 72, 3) := by decide +kernel
theorem dX0_beginAnew_7 : decode cX0_beginAnew 7 = .ok (.iconst 0, 1) := by decide +kernel
theorem dX0_beginAnew_8 : decode cX0_beginAnew 8 = .ok (.aload_n 0, 1) := by decide +kernel
theorem dX0_beginAnew_9 : decode cX0_beginAnew 9 = .ok (.getfield 9, 3) := by decide +kernel
theorem dX0_beginAnew_12 : decode cX0_beginAnew 12 = .ok (.iconst 0, 1) := by decide +kernel
theorem dX0_beginAnew_13 : decode cX0_beginAnew 13 = .ok (.bipush 24, 2) := by decide +kernel
theorem dX0_beginAnew_15 : decode cX0_beginAnew 15 = .ok (.invokestatic 75, 3) := by decide +kernel
theorem dX0_beginAnew_18 : decode cX0_beginAnew 18 = .ok (.aload_n 0, 1) := by decide +kernel
theorem dX0_beginAnew_19 : decode cX0_beginAnew 19 = .ok (.getfield 53, 3) := by decide +kernel
theorem dX0_beginAnew_22 : decode cX0_beginAnew 22 = .ok (.getfield 81, 3) := by decide +kernel
theorem dX0_beginAnew_25 : decode cX0_beginAnew 25 = .ok (.iconst 0, 1) := by decide +kernel
theorem dX0_beginAnew_26 : decode cX0_beginAnew 26 = .ok (.aload_n 0, 1) := by decide +kernel
theorem dX0_beginAnew_27 : decode cX0_beginAnew 27 = .ok (.getfield 30, 3) := by decide +kernel
theorem dX0_beginAnew_30 : decode cX0_beginAnew 30 = .ok (.iconst 0, 1) := by decide +kernel
theorem dX0_beginAnew_31 : decode cX0_beginAnew 31 = .ok (.bipush 6, 2) := by decide +kernel
theorem dX0_beginAnew_33 : decode cX0_beginAnew 33 = .ok (.invokestatic 75, 3) := by decide +kernel
theorem dX0_beginAnew_36 : decode cX0_beginAnew 36 = .ok (.iconst 0, 1) := by decide +kernel
theorem dX0_beginAnew_37 : decode cX0_beginAnew 37 = .ok (.istore_n 1, 1) := by decide +kernel
theorem dX0_beginAnew_38 : decode cX0_beginAnew 38 = .ok (.iload_n 1, 1) := by decide +kernel
theorem dX0_beginAnew_39 : decode cX0_beginAnew 39 = .ok (.bipush 48, 2) := by decide +kernel
theorem dX0_beginAnew_41 : decode cX0_beginAnew 41 = .ok (.if_icmp .ge 27, 3) := by decide +kernel
theorem dX0_beginAnew_44 : decode cX0_beginAnew 44 = .ok (.aload_n 0, 1) := by decide +kernel
theorem dX0_beginAnew_45 : decode cX0_beginAnew 45 = .ok (.getfield 24, 3) := by decide +kernel
theorem dX0_beginAnew_48 : decode cX0_beginAnew 48 = .ok (.iload_n 1, 1) := by decide +kernel
theorem dX0_beginAnew_49 : decode cX0_beginAnew 49 = .ok (.aload_n 0, 1) := by decide +kernel
theorem dX0_beginAnew_50 : decode cX0_beginAnew 50 = .ok (.getfield 53, 3) := by decide +kernel
theorem dX0_beginAnew_53 : decode cX0_beginAnew 53 = .ok (.getfield 82, 3) := by decide +kernel
theorem dX0_beginAnew_56 : decode cX0_beginAnew 56 = .ok (.iload_n 1, 1) := by decide +kernel
theorem dX0_beginAnew_57 : decode cX0_beginAnew 57 = .ok (.bipush 8, 2) := by decide +kernel
theorem dX0_beginAnew_59 : decode cX0_beginAnew 59 = .ok (.idiv, 1) := by decide +kernel
theorem dX0_beginAnew_60 : decode cX0_beginAnew 60 = .ok (.iaload, 1) := by decide +kernel
theorem dX0_beginAnew_61 : decode cX0_beginAnew 61 = .ok (.iastore, 1) := by decide +kernel
theorem dX0_beginAnew_62 : decode cX0_beginAnew 62 = .ok (.iinc 1 1, 3) := by decide +kernel
theorem dX0_beginAnew_65 : decode cX0_beginAnew 65 = .ok (.goto (-27), 3) := by decide +kernel
theorem dX0_beginAnew_68 : decode cX0_beginAnew 68 = .ok (.aload_n 0, 1) := by decide +kernel
theorem dX0_beginAnew_69 : decode cX0_beginAnew 69 = .ok (.getfield 15, 3) := by decide +kernel
theorem dX0_beginAnew_72 : decode cX0_beginAnew 72 = .ok (.iconst 0, 1) := by decide +kernel
theorem dX0_beginAnew_73 : decode cX0_beginAnew 73 = .ok (.invokestatic 83, 3) := by decide +kernel
theorem dX0_beginAnew_76 : decode cX0_beginAnew 76 = .ok (.aload_n 0, 1) := by decide +kernel
theorem dX0_beginAnew_77 : decode cX0_beginAnew 77 = .ok (.getfield 18, 3) := by decide +kernel
theorem dX0_beginAnew_80 : decode cX0_beginAnew 80 = .ok (.iconst (-1), 1) := by decide +kernel
theorem dX0_beginAnew_81 : decode cX0_beginAnew 81 = .ok (.invokestatic 83, 3) := by decide +kernel
theorem dX0_beginAnew_84 : decode cX0_beginAnew 84 = .ok (.aload_n 0, 1) := by decide +kernel
theorem dX0_beginAnew_85 : decode cX0_beginAnew 85 = .ok (.getfield 21, 3) := by decide +kernel
theorem dX0_beginAnew_88 : decode cX0_beginAnew 88 = .ok (.iconst 0, 1) := by decide +kernel
theorem dX0_beginAnew_89 : decode cX0_beginAnew 89 = .ok (.invokestatic 83, 3) := by decide +kernel
theorem dX0_beginAnew_92 : decode cX0_beginAnew 92 = .ok (.aload_n 0, 1) := by decide +kernel
theorem dX0_beginAnew_93 : decode cX0_beginAnew 93 = .ok (.getfield 27, 3) := by decide +kernel
theorem dX0_beginAnew_96 : decode cX0_beginAnew 96 = .ok (.iconst 0, 1) := by decide +kernel
theorem dX0_beginAnew_97 : decode cX0_beginAnew 97 = .ok (.invokestatic 83, 3) := by decide +kernel
theorem dX0_beginAnew_100 : decode cX0_beginAnew 100 = .ok (.aload_n 0, 1) := by decide +kernel
theorem dX0_beginAnew_101 : decode cX0_beginAnew 101 = .ok (.getfield 33, 3) := by decide +kernel
theorem dX0_beginAnew_104 : decode cX0_beginAnew 104 = .ok (.iconst 0, 1) := by decide +kernel
theorem dX0_beginAnew_105 : decode cX0_beginAnew 105 = .ok (.invokestatic 83, 3) := by decide +kernel
theorem dX0_beginAnew_108 : decode cX0_beginAnew 108 = .ok (.aload_n 0, 1) := by decide +kernel
theorem dX0_beginAnew_109 : decode cX0_beginAnew 109 = .ok (.getfield 36, 3) := by decide +kernel
theorem dX0_beginAnew_112 : decode cX0_beginAnew 112 = .ok (.iconst (-1), 1) := by decide +kernel
theorem dX0_beginAnew_113 : decode cX0_beginAnew 113 = .ok (.invokestatic 83, 3) := by decide +kernel
theorem dX0_beginAnew_116 : decode cX0_beginAnew 116 = .ok (.aload_n 0, 1) := by decide +kernel
theorem dX0_beginAnew_117 : decode cX0_beginAnew 117 = .ok (.getfield 39, 3) := by decide +kernel
theorem dX0_beginAnew_120 : decode cX0_beginAnew 120 = .ok (.iconst (-1), 1) := by decide +kernel
theorem dX0_beginAnew_121 : decode cX0_beginAnew 121 = .ok (.invokestatic 83, 3) := by decide +kernel
theorem dX0_beginAnew_124 : decode cX0_beginAnew 124 = .ok (.return_, 1) := by decide +kernel
theorem dX0_loadsThatAre_0 : decode cX0_loadsThatAre 0 = .ok (.iconst 0, 1) := by decide +kernel
theorem dX0_loadsThatAre_1 : decode cX0_loadsThatAre 1 = .ok (.istore_n 2, 1) := by decide +kernel
theorem dX0_loadsThatAre_2 : decode cX0_loadsThatAre 2 = .ok (.iconst 0, 1) := by decide +kernel
theorem dX0_loadsThatAre_3 : decode cX0_loadsThatAre 3 = .ok (.istore_n 3, 1) := by decide +kernel
theorem dX0_loadsThatAre_4 : decode cX0_loadsThatAre 4 = .ok (.iload_n 3, 1) := by decide +kernel
theorem dX0_loadsThatAre_5 : decode cX0_loadsThatAre 5 = .ok (.aload_n 0, 1) := by decide +kernel
theorem dX0_loadsThatAre_6 : decode cX0_loadsThatAre 6 = .ok (.getfield 65, 3) := by decide +kernel
theorem dX0_loadsThatAre_9 : decode cX0_loadsThatAre 9 = .ok (.getfield 89, 3) := by decide +kernel
theorem dX0_loadsThatAre_12 : decode cX0_loadsThatAre 12 = .ok (.if_icmp .ge 22, 3) := by decide +kernel
theorem dX0_loadsThatAre_15 : decode cX0_loadsThatAre 15 = .ok (.aload_n 0, 1) := by decide +kernel
theorem dX0_loadsThatAre_16 : decode cX0_loadsThatAre 16 = .ok (.getfield 33, 3) := by decide +kernel
theorem dX0_loadsThatAre_19 : decode cX0_loadsThatAre 19 = .ok (.iload_n 3, 1) := by decide +kernel
theorem dX0_loadsThatAre_20 : decode cX0_loadsThatAre 20 = .ok (.iaload, 1) := by decide +kernel
theorem dX0_loadsThatAre_21 : decode cX0_loadsThatAre 21 = .ok (.iload_n 1, 1) := by decide +kernel
theorem dX0_loadsThatAre_22 : decode cX0_loadsThatAre 22 = .ok (.if_icmp .ne 6, 3) := by decide +kernel
theorem dX0_loadsThatAre_25 : decode cX0_loadsThatAre 25 = .ok (.iinc 2 1, 3) := by decide +kernel
theorem dX0_loadsThatAre_28 : decode cX0_loadsThatAre 28 = .ok (.iinc 3 1, 3) := by decide +kernel
theorem dX0_loadsThatAre_31 : decode cX0_loadsThatAre 31 = .ok (.goto (-27), 3) := by decide +kernel
theorem dX0_loadsThatAre_34 : decode cX0_loadsThatAre 34 = .ok (.iload_n 2, 1) := by decide +kernel
theorem dX0_loadsThatAre_35 : decode cX0_loadsThatAre 35 = .ok (.ireturn, 1) := by decide +kernel
theorem dX0_run_0 : decode cX0_run 0 = .ok (.aload_n 0, 1) := by decide +kernel
theorem dX0_run_1 : decode cX0_run 1 = .ok (.iload_n 1, 1) := by decide +kernel
theorem dX0_run_2 : decode cX0_run 2 = .ok (.iload_n 3, 1) := by decide +kernel
theorem dX0_run_3 : decode cX0_run 3 = .ok (.invokevirtual 95, 3) := by decide +kernel
theorem dX0_run_6 : decode cX0_run 6 = .ok (.iconst 0, 1) := by decide +kernel
theorem dX0_run_7 : decode cX0_run 7 = .ok (.istore 4, 2) := by decide +kernel
theorem dX0_run_9 : decode cX0_run 9 = .ok (.iload_n 1, 1) := by decide +kernel
theorem dX0_run_10 : decode cX0_run 10 = .ok (.istore 5, 2) := by decide +kernel
theorem dX0_run_12 : decode cX0_run 12 = .ok (.iload 5, 2) := by decide +kernel
theorem dX0_run_14 : decode cX0_run 14 = .ok (.iload_n 1, 1) := by decide +kernel
theorem dX0_run_15 : decode cX0_run 15 = .ok (.iload_n 2, 1) := by decide +kernel
theorem dX0_run_16 : decode cX0_run 16 = .ok (.iadd, 1) := by decide +kernel
theorem dX0_run_17 : decode cX0_run 17 = .ok (.if_icmp .ge 21, 3) := by decide +kernel
theorem dX0_run_20 : decode cX0_run 20 = .ok (.iload 4, 2) := by decide +kernel
theorem dX0_run_22 : decode cX0_run 22 = .ok (.aload_n 0, 1) := by decide +kernel
theorem dX0_run_23 : decode cX0_run 23 = .ok (.iload 5, 2) := by decide +kernel
theorem dX0_run_25 : decode cX0_run 25 = .ok (.iload_n 3, 1) := by decide +kernel
theorem dX0_run_26 : decode cX0_run 26 = .ok (.invokevirtual 99, 3) := by decide +kernel
theorem dX0_run_29 : decode cX0_run 29 = .ok (.iadd, 1) := by decide +kernel
theorem dX0_run_30 : decode cX0_run 30 = .ok (.istore 4, 2) := by decide +kernel
theorem dX0_run_32 : decode cX0_run 32 = .ok (.iinc 5 1, 3) := by decide +kernel
theorem dX0_run_35 : decode cX0_run 35 = .ok (.goto (-23), 3) := by decide +kernel
theorem dX0_run_38 : decode cX0_run 38 = .ok (.iload 4, 2) := by decide +kernel
theorem dX0_run_40 : decode cX0_run 40 = .ok (.ireturn, 1) := by decide +kernel
theorem dX0_listenAhead_0 : decode cX0_listenAhead 0 = .ok (.aload_n 0, 1) := by decide +kernel
theorem dX0_listenAhead_1 : decode cX0_listenAhead 1 = .ok (.getfield 57, 3) := by decide +kernel
theorem dX0_listenAhead_4 : decode cX0_listenAhead 4 = .ok (.iload_n 1, 1) := by decide +kernel
theorem dX0_listenAhead_5 : decode cX0_listenAhead 5 = .ok (.iconst 1, 1) := by decide +kernel
theorem dX0_listenAhead_6 : decode cX0_listenAhead 6 = .ok (.isub, 1) := by decide +kernel
theorem dX0_listenAhead_7 : decode cX0_listenAhead 7 = .ok (.iload_n 2, 1) := by decide +kernel
theorem dX0_listenAhead_8 : decode cX0_listenAhead 8 = .ok (.invokevirtual 103, 3) := by decide +kernel
theorem dX0_listenAhead_11 : decode cX0_listenAhead 11 = .ok (.iconst 0, 1) := by decide +kernel
theorem dX0_listenAhead_12 : decode cX0_listenAhead 12 = .ok (.istore_n 3, 1) := by decide +kernel
theorem dX0_listenAhead_13 : decode cX0_listenAhead 13 = .ok (.iload_n 3, 1) := by decide +kernel
theorem dX0_listenAhead_14 : decode cX0_listenAhead 14 = .ok (.bipush 48, 2) := by decide +kernel
theorem dX0_listenAhead_16 : decode cX0_listenAhead 16 = .ok (.if_icmp .ge 23, 3) := by decide +kernel
theorem dX0_listenAhead_19 : decode cX0_listenAhead 19 = .ok (.aload_n 0, 1) := by decide +kernel
theorem dX0_listenAhead_20 : decode cX0_listenAhead 20 = .ok (.getfield 42, 3) := by decide +kernel
theorem dX0_listenAhead_23 : decode cX0_listenAhead 23 = .ok (.iload_n 3, 1) := by decide +kernel
theorem dX0_listenAhead_24 : decode cX0_listenAhead 24 = .ok (.aload_n 0, 1) := by decide +kernel
theorem dX0_listenAhead_25 : decode cX0_listenAhead 25 = .ok (.getfield 57, 3) := by decide +kernel
theorem dX0_listenAhead_28 : decode cX0_listenAhead 28 = .ok (.iload_n 3, 1) := by decide +kernel
theorem dX0_listenAhead_29 : decode cX0_listenAhead 29 = .ok (.invokevirtual 108, 3) := by decide +kernel
theorem dX0_listenAhead_32 : decode cX0_listenAhead 32 = .ok (.bastore, 1) := by decide +kernel
theorem dX0_listenAhead_33 : decode cX0_listenAhead 33 = .ok (.iinc 3 1, 3) := by decide +kernel
theorem dX0_listenAhead_36 : decode cX0_listenAhead 36 = .ok (.goto (-23), 3) := by decide +kernel
theorem dX0_listenAhead_39 : decode cX0_listenAhead 39 = .ok (.return_, 1) := by decide +kernel
theorem dX0_step_0 : decode cX0_step 0 = .ok (.aload_n 0, 1) := by decide +kernel
theorem dX0_step_1 : decode cX0_step 1 = .ok (.getfield 61, 3) := by decide +kernel
theorem dX0_step_4 : decode cX0_step 4 = .ok (.iload_n 1, 1) := by decide +kernel
theorem dX0_step_5 : decode cX0_step 5 = .ok (.aload_n 0, 1) := by decide +kernel
theorem dX0_step_6 : decode cX0_step 6 = .ok (.getfield 46, 3) := by decide +kernel
theorem dX0_step_9 : decode cX0_step 9 = .ok (.invokevirtual 112, 3) := by decide +kernel
theorem dX0_step_12 : decode cX0_step 12 = .ok (.aload_n 0, 1) := by decide +kernel
theorem dX0_step_13 : decode cX0_step 13 = .ok (.getfield 57, 3) := by decide +kernel
theorem dX0_step_16 : decode cX0_step 16 = .ok (.iload_n 1, 1) := by decide +kernel
theorem dX0_step_17 : decode cX0_step 17 = .ok (.iload_n 2, 1) := by decide +kernel
theorem dX0_step_18 : decode cX0_step 18 = .ok (.invokevirtual 103, 3) := by decide +kernel
theorem dX0_step_21 : decode cX0_step 21 = .ok (.aload_n 0, 1) := by decide +kernel
theorem dX0_step_22 : decode cX0_step 22 = .ok (.iload_n 1, 1) := by decide +kernel
theorem dX0_step_23 : decode cX0_step 23 = .ok (.invokevirtual 118, 3) := by decide +kernel
theorem dX0_step_26 : decode cX0_step 26 = .ok (.aload_n 0, 1) := by decide +kernel
theorem dX0_step_27 : decode cX0_step 27 = .ok (.invokevirtual 122, 3) := by decide +kernel
theorem dX0_step_30 : decode cX0_step 30 = .ok (.iload_n 1, 1) := by decide +kernel
theorem dX0_step_31 : decode cX0_step 31 = .ok (.ifCond .le 14, 3) := by decide +kernel
theorem dX0_step_34 : decode cX0_step 34 = .ok (.iload_n 1, 1) := by decide +kernel
theorem dX0_step_35 : decode cX0_step 35 = .ok (.bipush 24, 2) := by decide +kernel
theorem dX0_step_37 : decode cX0_step 37 = .ok (.irem, 1) := by decide +kernel
theorem dX0_step_38 : decode cX0_step 38 = .ok (.ifCond .ne 7, 3) := by decide +kernel
theorem dX0_step_41 : decode cX0_step 41 = .ok (.aload_n 0, 1) := by decide +kernel
theorem dX0_step_42 : decode cX0_step 42 = .ok (.invokevirtual 125, 3) := by decide +kernel
theorem dX0_step_45 : decode cX0_step 45 = .ok (.iconst 0, 1) := by decide +kernel
theorem dX0_step_46 : decode cX0_step 46 = .ok (.istore_n 3, 1) := by decide +kernel
theorem dX0_step_47 : decode cX0_step 47 = .ok (.iload_n 3, 1) := by decide +kernel
theorem dX0_step_48 : decode cX0_step 48 = .ok (.aload_n 0, 1) := by decide +kernel
theorem dX0_step_49 : decode cX0_step 49 = .ok (.getfield 65, 3) := by decide +kernel
theorem dX0_step_52 : decode cX0_step 52 = .ok (.getfield 89, 3) := by decide +kernel
theorem dX0_step_55 : decode cX0_step 55 = .ok (.if_icmp .ge 37, 3) := by decide +kernel
theorem dX0_step_58 : decode cX0_step 58 = .ok (.aload_n 0, 1) := by decide +kernel
theorem dX0_step_59 : decode cX0_step 59 = .ok (.getfield 33, 3) := by decide +kernel
theorem dX0_step_62 : decode cX0_step 62 = .ok (.iload_n 3, 1) := by decide +kernel
theorem dX0_step_63 : decode cX0_step 63 = .ok (.iaload, 1) := by decide +kernel
theorem dX0_step_64 : decode cX0_step 64 = .ok (.ifCond .ne 22, 3) := by decide +kernel
theorem dX0_step_67 : decode cX0_step 67 = .ok (.aload_n 0, 1) := by decide +kernel
theorem dX0_step_68 : decode cX0_step 68 = .ok (.getfield 65, 3) := by decide +kernel
theorem dX0_step_71 : decode cX0_step 71 = .ok (.getfield 128, 3) := by decide +kernel
theorem dX0_step_74 : decode cX0_step 74 = .ok (.iload_n 3, 1) := by decide +kernel
theorem dX0_step_75 : decode cX0_step 75 = .ok (.iaload, 1) := by decide +kernel
theorem dX0_step_76 : decode cX0_step 76 = .ok (.iload_n 1, 1) := by decide +kernel
theorem dX0_step_77 : decode cX0_step 77 = .ok (.if_icmp .gt 9, 3) := by decide +kernel
theorem dX0_step_80 : decode cX0_step 80 = .ok (.aload_n 0, 1) := by decide +kernel
theorem dX0_step_81 : decode cX0_step 81 = .ok (.iload_n 3, 1) := by decide +kernel
theorem dX0_step_82 : decode cX0_step 82 = .ok (.iload_n 1, 1) := by decide +kernel
theorem dX0_step_83 : decode cX0_step 83 = .ok (.invokevirtual 131, 3) := by decide +kernel
theorem dX0_step_86 : decode cX0_step 86 = .ok (.iinc 3 1, 3) := by decide +kernel
theorem dX0_step_89 : decode cX0_step 89 = .ok (.goto (-42), 3) := by decide +kernel
theorem dX0_step_92 : decode cX0_step 92 = .ok (.aload_n 0, 1) := by decide +kernel
theorem dX0_step_93 : decode cX0_step 93 = .ok (.iload_n 1, 1) := by decide +kernel
theorem dX0_step_94 : decode cX0_step 94 = .ok (.invokevirtual 135, 3) := by decide +kernel
theorem dX0_step_97 : decode cX0_step 97 = .ok (.ireturn, 1) := by decide +kernel
theorem dX0_arrive_0 : decode cX0_arrive 0 = .ok (.iconst 0, 1) := by decide +kernel
theorem dX0_arrive_1 : decode cX0_arrive 1 = .ok (.istore_n 2, 1) := by decide +kernel
theorem dX0_arrive_2 : decode cX0_arrive 2 = .ok (.iload_n 2, 1) := by decide +kernel
theorem dX0_arrive_3 : decode cX0_arrive 3 = .ok (.aload_n 0, 1) := by decide +kernel
theorem dX0_arrive_4 : decode cX0_arrive 4 = .ok (.getfield 65, 3) := by decide +kernel
theorem dX0_arrive_7 : decode cX0_arrive 7 = .ok (.getfield 89, 3) := by decide +kernel
theorem dX0_arrive_10 : decode cX0_arrive 10 = .ok (.if_icmp .ge 89, 3) := by decide +kernel
theorem dX0_arrive_13 : decode cX0_arrive 13 = .ok (.aload_n 0, 1) := by decide +kernel
theorem dX0_arrive_14 : decode cX0_arrive 14 = .ok (.getfield 33, 3) := by decide +kernel
theorem dX0_arrive_17 : decode cX0_arrive 17 = .ok (.iload_n 2, 1) := by decide +kernel
theorem dX0_arrive_18 : decode cX0_arrive 18 = .ok (.iaload, 1) := by decide +kernel
theorem dX0_arrive_19 : decode cX0_arrive 19 = .ok (.iconst 1, 1) := by decide +kernel
theorem dX0_arrive_20 : decode cX0_arrive 20 = .ok (.if_icmp .ne 73, 3) := by decide +kernel
theorem dX0_arrive_23 : decode cX0_arrive 23 = .ok (.aload_n 0, 1) := by decide +kernel
theorem dX0_arrive_24 : decode cX0_arrive 24 = .ok (.getfield 39, 3) := by decide +kernel
theorem dX0_arrive_27 : decode cX0_arrive 27 = .ok (.iload_n 2, 1) := by decide +kernel
theorem dX0_arrive_28 : decode cX0_arrive 28 = .ok (.iaload, 1) := by decide +kernel
theorem dX0_arrive_29 : decode cX0_arrive 29 = .ok (.iload_n 1, 1) := by decide +kernel
theorem dX0_arrive_30 : decode cX0_arrive 30 = .ok (.if_icmp .eq 6, 3) := by decide +kernel
theorem dX0_arrive_33 : decode cX0_arrive 33 = .ok (.goto 60, 3) := by decide +kernel
theorem dX0_arrive_36 : decode cX0_arrive 36 = .ok (.aload_n 0, 1) := by decide +kernel
theorem dX0_arrive_37 : decode cX0_arrive 37 = .ok (.getfield 65, 3) := by decide +kernel
theorem dX0_arrive_40 : decode cX0_arrive 40 = .ok (.getfield 139, 3) := by decide +kernel
theorem dX0_arrive_43 : decode cX0_arrive 43 = .ok (.iload_n 2, 1) := by decide +kernel
theorem dX0_arrive_44 : decode cX0_arrive 44 = .ok (.iaload, 1) := by decide +kernel
theorem dX0_arrive_45 : decode cX0_arrive 45 = .ok (.iconst 3, 1) := by decide +kernel
theorem dX0_arrive_46 : decode cX0_arrive 46 = .ok (.imul, 1) := by decide +kernel
theorem dX0_arrive_47 : decode cX0_arrive 47 = .ok (.aload_n 0, 1) := by decide +kernel
theorem dX0_arrive_48 : decode cX0_arrive 48 = .ok (.getfield 65, 3) := by decide +kernel
theorem dX0_arrive_51 : decode cX0_arrive 51 = .ok (.getfield 142, 3) := by decide +kernel
theorem dX0_arrive_54 : decode cX0_arrive 54 = .ok (.iload_n 2, 1) := by decide +kernel
theorem dX0_arrive_55 : decode cX0_arrive 55 = .ok (.iaload, 1) := by decide +kernel
theorem dX0_arrive_56 : decode cX0_arrive 56 = .ok (.iadd, 1) := by decide +kernel
theorem dX0_arrive_57 : decode cX0_arrive 57 = .ok (.istore_n 3, 1) := by decide +kernel
theorem dX0_arrive_58 : decode cX0_arrive 58 = .ok (.aload_n 0, 1) := by decide +kernel
theorem dX0_arrive_59 : decode cX0_arrive 59 = .ok (.getfield 9, 3) := by decide +kernel
theorem dX0_arrive_62 : decode cX0_arrive 62 = .ok (.iload_n 3, 1) := by decide +kernel
theorem dX0_arrive_63 : decode cX0_arrive 63 = .ok (.sipush 9999, 3) := by decide +kernel
theorem dX0_arrive_66 : decode cX0_arrive 66 = .ok (.aload_n 0, 1) := by decide +kernel
theorem dX0_arrive_67 : decode cX0_arrive 67 = .ok (.getfield 9, 3) := by decide +kernel
theorem dX0_arrive_70 : decode cX0_arrive 70 = .ok (.iload_n 3, 1) := by decide +kernel
theorem dX0_arrive_71 : decode cX0_arrive 71 = .ok (.iaload, 1) := by decide +kernel
theorem dX0_arrive_72 : decode cX0_arrive 72 = .ok (.aload_n 0, 1) := by decide +kernel
theorem dX0_arrive_73 : decode cX0_arrive 73 = .ok (.getfield 65, 3) := by decide +kernel
theorem dX0_arrive_76 : decode cX0_arrive 76 = .ok (.getfield 145, 3) := by decide +kernel
theorem dX0_arrive_79 : decode cX0_arrive 79 = .ok (.iload_n 2, 1) := by decide +kernel
theorem dX0_arrive_80 : decode cX0_arrive 80 = .ok (.iaload, 1) := by decide +kernel
theorem dX0_arrive_81 : decode cX0_arrive 81 = .ok (.iadd, 1) := by decide +kernel
theorem dX0_arrive_82 : decode cX0_arrive 82 = .ok (.invokestatic 148, 3) := by decide +kernel
theorem dX0_arrive_85 : decode cX0_arrive 85 = .ok (.iastore, 1) := by decide +kernel
theorem dX0_arrive_86 : decode cX0_arrive 86 = .ok (.aload_n 0, 1) := by decide +kernel
theorem dX0_arrive_87 : decode cX0_arrive 87 = .ok (.getfield 33, 3) := by decide +kernel
theorem dX0_arrive_90 : decode cX0_arrive 90 = .ok (.iload_n 2, 1) := by decide +kernel
theorem dX0_arrive_91 : decode cX0_arrive 91 = .ok (.iconst 2, 1) := by decide +kernel
theorem dX0_arrive_92 : decode cX0_arrive 92 = .ok (.iastore, 1) := by decide +kernel
theorem dX0_arrive_93 : decode cX0_arrive 93 = .ok (.iinc 2 1, 3) := by decide +kernel
theorem dX0_arrive_96 : decode cX0_arrive 96 = .ok (.goto (-94), 3) := by decide +kernel
theorem dX0_arrive_99 : decode cX0_arrive 99 = .ok (.return_, 1) := by decide +kernel
theorem dX0_callOut_0 : decode cX0_callOut 0 = .ok (.iconst 0, 1) := by decide +kernel
theorem dX0_callOut_1 : decode cX0_callOut 1 = .ok (.istore_n 1, 1) := by decide +kernel
theorem dX0_callOut_2 : decode cX0_callOut 2 = .ok (.iload_n 1, 1) := by decide +kernel
theorem dX0_callOut_3 : decode cX0_callOut 3 = .ok (.bipush 48, 2) := by decide +kernel
theorem dX0_callOut_5 : decode cX0_callOut 5 = .ok (.if_icmp .ge 63, 3) := by decide +kernel
theorem dX0_callOut_8 : decode cX0_callOut 8 = .ok (.aload_n 0, 1) := by decide +kernel
theorem dX0_callOut_9 : decode cX0_callOut 9 = .ok (.getfield 57, 3) := by decide +kernel
theorem dX0_callOut_12 : decode cX0_callOut 12 = .ok (.iload_n 1, 1) := by decide +kernel
theorem dX0_callOut_13 : decode cX0_callOut 13 = .ok (.invokevirtual 108, 3) := by decide +kernel
theorem dX0_callOut_16 : decode cX0_callOut 16 = .ok (.istore_n 2, 1) := by decide +kernel
theorem dX0_callOut_17 : decode cX0_callOut 17 = .ok (.iload_n 2, 1) := by decide +kernel
theorem dX0_callOut_18 : decode cX0_callOut 18 = .ok (.ifCond .ne 13, 3) := by decide +kernel
theorem dX0_callOut_21 : decode cX0_callOut 21 = .ok (.aload_n 0, 1) := by decide +kernel
theorem dX0_callOut_22 : decode cX0_callOut 22 = .ok (.getfield 21, 3) := by decide +kernel
theorem dX0_callOut_25 : decode cX0_callOut 25 = .ok (.iload_n 1, 1) := by decide +kernel
theorem dX0_callOut_26 : decode cX0_callOut 26 = .ok (.iconst 0, 1) := by decide +kernel
theorem dX0_callOut_27 : decode cX0_callOut 27 = .ok (.iastore, 1) := by decide +kernel
theorem dX0_callOut_28 : decode cX0_callOut 28 = .ok (.goto 27, 3) := by decide +kernel
theorem dX0_callOut_31 : decode cX0_callOut 31 = .ok (.aload_n 0, 1) := by decide +kernel
theorem dX0_callOut_32 : decode cX0_callOut 32 = .ok (.getfield 42, 3) := by decide +kernel
theorem dX0_callOut_35 : decode cX0_callOut 35 = .ok (.iload_n 1, 1) := by decide +kernel
theorem dX0_callOut_36 : decode cX0_callOut 36 = .ok (.baload, 1) := by decide +kernel
theorem dX0_callOut_37 : decode cX0_callOut 37 = .ok (.ifCond .ne 18, 3) := by decide +kernel
theorem dX0_callOut_40 : decode cX0_callOut 40 = .ok (.aload_n 0, 1) := by decide +kernel
theorem dX0_callOut_41 : decode cX0_callOut 41 = .ok (.getfield 21, 3) := by decide +kernel
theorem dX0_callOut_44 : decode cX0_callOut 44 = .ok (.iload_n 1, 1) := by decide +kernel
theorem dX0_callOut_45 : decode cX0_callOut 45 = .ok (.aload_n 0, 1) := by decide +kernel
theorem dX0_callOut_46 : decode cX0_callOut 46 = .ok (.getfield 53, 3) := by decide +kernel
theorem dX0_callOut_49 : decode cX0_callOut 49 = .ok (.getfield 154, 3) := by decide +kernel
theorem dX0_callOut_52 : decode cX0_callOut 52 = .ok (.iload_n 1, 1) := by decide +kernel
theorem dX0_callOut_53 : decode cX0_callOut 53 = .ok (.iaload, 1) := by decide +kernel
theorem dX0_callOut_54 : decode cX0_callOut 54 = .ok (.iastore, 1) := by decide +kernel
theorem dX0_callOut_55 : decode cX0_callOut 55 = .ok (.aload_n 0, 1) := by decide +kernel
theorem dX0_callOut_56 : decode cX0_callOut 56 = .ok (.getfield 42, 3) := by decide +kernel
theorem dX0_callOut_59 : decode cX0_callOut 59 = .ok (.iload_n 1, 1) := by decide +kernel
theorem dX0_callOut_60 : decode cX0_callOut 60 = .ok (.iload_n 2, 1) := by decide +kernel
theorem dX0_callOut_61 : decode cX0_callOut 61 = .ok (.bastore, 1) := by decide +kernel
theorem dX0_callOut_62 : decode cX0_callOut 62 = .ok (.iinc 1 1, 3) := by decide +kernel
theorem dX0_callOut_65 : decode cX0_callOut 65 = .ok (.goto (-63), 3) := by decide +kernel
theorem dX0_callOut_68 : decode cX0_callOut 68 = .ok (.return_, 1) := by decide +kernel
theorem dX0_payAll_0 : decode cX0_payAll 0 = .ok (.iconst 0, 1) := by decide +kernel
theorem dX0_payAll_1 : decode cX0_payAll 1 = .ok (.istore_n 1, 1) := by decide +kernel
theorem dX0_payAll_2 : decode cX0_payAll 2 = .ok (.iload_n 1, 1) := by decide +kernel
theorem dX0_payAll_3 : decode cX0_payAll 3 = .ok (.bipush 48, 2) := by decide +kernel
theorem dX0_payAll_5 : decode cX0_payAll 5 = .ok (.if_icmp .ge 23, 3) := by decide +kernel
theorem dX0_payAll_8 : decode cX0_payAll 8 = .ok (.aload_n 0, 1) := by decide +kernel
theorem dX0_payAll_9 : decode cX0_payAll 9 = .ok (.getfield 21, 3) := by decide +kernel
theorem dX0_payAll_12 : decode cX0_payAll 12 = .ok (.iload_n 1, 1) := by decide +kernel
theorem dX0_payAll_13 : decode cX0_payAll 13 = .ok (.iaload, 1) := by decide +kernel
theorem dX0_payAll_14 : decode cX0_payAll 14 = .ok (.ifCond .le 8, 3) := by decide +kernel
theorem dX0_payAll_17 : decode cX0_payAll 17 = .ok (.aload_n 0, 1) := by decide +kernel
theorem dX0_payAll_18 : decode cX0_payAll 18 = .ok (.iload_n 1, 1) := by decide +kernel
theorem dX0_payAll_19 : decode cX0_payAll 19 = .ok (.invokevirtual 157, 3) := by decide +kernel
theorem dX0_payAll_22 : decode cX0_payAll 22 = .ok (.iinc 1 1, 3) := by decide +kernel
theorem dX0_payAll_25 : decode cX0_payAll 25 = .ok (.goto (-23), 3) := by decide +kernel
theorem dX0_payAll_28 : decode cX0_payAll 28 = .ok (.return_, 1) := by decide +kernel
theorem dX0_payDay_0 : decode cX0_payDay 0 = .ok (.iload_n 1, 1) := by decide +kernel
theorem dX0_payDay_1 : decode cX0_payDay 1 = .ok (.bipush 8, 2) := by decide +kernel
theorem dX0_payDay_3 : decode cX0_payDay 3 = .ok (.idiv, 1) := by decide +kernel
theorem dX0_payDay_4 : decode cX0_payDay 4 = .ok (.istore_n 2, 1) := by decide +kernel
theorem dX0_payDay_5 : decode cX0_payDay 5 = .ok (.aload_n 0, 1) := by decide +kernel
theorem dX0_payDay_6 : decode cX0_payDay 6 = .ok (.getfield 46, 3) := by decide +kernel
theorem dX0_payDay_9 : decode cX0_payDay 9 = .ok (.iconst 3, 1) := by decide +kernel
theorem dX0_payDay_10 : decode cX0_payDay 10 = .ok (.iaload, 1) := by decide +kernel
theorem dX0_payDay_11 : decode cX0_payDay 11 = .ok (.istore_n 3, 1) := by decide +kernel
theorem dX0_payDay_12 : decode cX0_payDay 12 = .ok (.aload_n 0, 1) := by decide +kernel
theorem dX0_payDay_13 : decode cX0_payDay 13 = .ok (.getfield 21, 3) := by decide +kernel
theorem dX0_payDay_16 : decode cX0_payDay 16 = .ok (.iload_n 1, 1) := by decide +kernel
theorem dX0_payDay_17 : decode cX0_payDay 17 = .ok (.iaload, 1) := by decide +kernel
theorem dX0_payDay_18 : decode cX0_payDay 18 = .ok (.istore 4, 2) := by decide +kernel
theorem dX0_payDay_20 : decode cX0_payDay 20 = .ok (.iload_n 3, 1) := by decide +kernel
theorem dX0_payDay_21 : decode cX0_payDay 21 = .ok (.ifCond .ne 8, 3) := by decide +kernel
theorem dX0_payDay_24 : decode cX0_payDay 24 = .ok (.iload 4, 2) := by decide +kernel
theorem dX0_payDay_26 : decode cX0_payDay 26 = .ok (.goto 16, 3) := by decide +kernel
theorem dX0_payDay_29 : decode cX0_payDay 29 = .ok (.iload 4, 2) := by decide +kernel
theorem dX0_payDay_31 : decode cX0_payDay 31 = .ok (.aload_n 0, 1) := by decide +kernel
theorem dX0_payDay_32 : decode cX0_payDay 32 = .ok (.getfield 30, 3) := by decide +kernel
theorem dX0_payDay_35 : decode cX0_payDay 35 = .ok (.iload_n 2, 1) := by decide +kernel
theorem dX0_payDay_36 : decode cX0_payDay 36 = .ok (.iaload, 1) := by decide +kernel
theorem dX0_payDay_37 : decode cX0_payDay 37 = .ok (.iload_n 3, 1) := by decide +kernel
theorem dX0_payDay_38 : decode cX0_payDay 38 = .ok (.idiv, 1) := by decide +kernel
theorem dX0_payDay_39 : decode cX0_payDay 39 = .ok (.invokestatic 148, 3) := by decide +kernel
theorem dX0_payDay_42 : decode cX0_payDay 42 = .ok (.istore 5, 2) := by decide +kernel
theorem dX0_payDay_44 : decode cX0_payDay 44 = .ok (.aload_n 0, 1) := by decide +kernel
theorem dX0_payDay_45 : decode cX0_payDay 45 = .ok (.getfield 30, 3) := by decide +kernel
theorem dX0_payDay_48 : decode cX0_payDay 48 = .ok (.iload_n 2, 1) := by decide +kernel
theorem dX0_payDay_49 : decode cX0_payDay 49 = .ok (.dup2, 1) := by decide +kernel
theorem dX0_payDay_50 : decode cX0_payDay 50 = .ok (.iaload, 1) := by decide +kernel
theorem dX0_payDay_51 : decode cX0_payDay 51 = .ok (.iload 5, 2) := by decide +kernel
theorem dX0_payDay_53 : decode cX0_payDay 53 = .ok (.iload_n 3, 1) := by decide +kernel
theorem dX0_payDay_54 : decode cX0_payDay 54 = .ok (.imul, 1) := by decide +kernel
theorem dX0_payDay_55 : decode cX0_payDay 55 = .ok (.isub, 1) := by decide +kernel
theorem dX0_payDay_56 : decode cX0_payDay 56 = .ok (.iastore, 1) := by decide +kernel
theorem dX0_payDay_57 : decode cX0_payDay 57 = .ok (.aload_n 0, 1) := by decide +kernel
theorem dX0_payDay_58 : decode cX0_payDay 58 = .ok (.getfield 24, 3) := by decide +kernel
theorem dX0_payDay_61 : decode cX0_payDay 61 = .ok (.iload_n 1, 1) := by decide +kernel
theorem dX0_payDay_62 : decode cX0_payDay 62 = .ok (.dup2, 1) := by decide +kernel
theorem dX0_payDay_63 : decode cX0_payDay 63 = .ok (.iaload, 1) := by decide +kernel
theorem dX0_payDay_64 : decode cX0_payDay 64 = .ok (.iload 5, 2) := by decide +kernel
theorem dX0_payDay_66 : decode cX0_payDay 66 = .ok (.iload 4, 2) := by decide +kernel
theorem dX0_payDay_68 : decode cX0_payDay 68 = .ok (.if_icmp .ne 7, 3) := by decide +kernel
theorem dX0_payDay_71 : decode cX0_payDay 71 = .ok (.iload_n 3, 1) := by decide +kernel
theorem dX0_payDay_72 : decode cX0_payDay 72 = .ok (.goto 4, 3) := by decide +kernel
theorem dX0_payDay_75 : decode cX0_payDay 75 = .ok (.iconst 0, 1) := by decide +kernel
theorem dX0_payDay_76 : decode cX0_payDay 76 = .ok (.aload_n 0, 1) := by decide +kernel
theorem dX0_payDay_77 : decode cX0_payDay 77 = .ok (.getfield 46, 3) := by decide +kernel
theorem dX0_payDay_80 : decode cX0_payDay 80 = .ok (.iconst 4, 1) := by decide +kernel
theorem dX0_payDay_81 : decode cX0_payDay 81 = .ok (.iaload, 1) := by decide +kernel
theorem dX0_payDay_82 : decode cX0_payDay 82 = .ok (.isub, 1) := by decide +kernel
theorem dX0_payDay_83 : decode cX0_payDay 83 = .ok (.iadd, 1) := by decide +kernel
theorem dX0_payDay_84 : decode cX0_payDay 84 = .ok (.iastore, 1) := by decide +kernel
theorem dX0_payDay_85 : decode cX0_payDay 85 = .ok (.aload_n 0, 1) := by decide +kernel
theorem dX0_payDay_86 : decode cX0_payDay 86 = .ok (.getfield 24, 3) := by decide +kernel
theorem dX0_payDay_89 : decode cX0_payDay 89 = .ok (.iload_n 1, 1) := by decide +kernel
theorem dX0_payDay_90 : decode cX0_payDay 90 = .ok (.iaload, 1) := by decide +kernel
theorem dX0_payDay_91 : decode cX0_payDay 91 = .ok (.ifCond .lt 4, 3) := by decide +kernel
theorem dX0_payDay_94 : decode cX0_payDay 94 = .ok (.return_, 1) := by decide +kernel
theorem dX0_payDay_95 : decode cX0_payDay 95 = .ok (.aload_n 0, 1) := by decide +kernel
theorem dX0_payDay_96 : decode cX0_payDay 96 = .ok (.getfield 24, 3) := by decide +kernel
theorem dX0_payDay_99 : decode cX0_payDay 99 = .ok (.iload_n 1, 1) := by decide +kernel
theorem dX0_payDay_100 : decode cX0_payDay 100 = .ok (.iconst 0, 1) := by decide +kernel
theorem dX0_payDay_101 : decode cX0_payDay 101 = .ok (.iastore, 1) := by decide +kernel
theorem dX0_payDay_102 : decode cX0_payDay 102 = .ok (.iconst 1, 1) := by decide +kernel
theorem dX0_payDay_103 : decode cX0_payDay 103 = .ok (.iload 4, 2) := by decide +kernel
theorem dX0_payDay_105 : decode cX0_payDay 105 = .ok (.aload_n 0, 1) := by decide +kernel
theorem dX0_payDay_106 : decode cX0_payDay 106 = .ok (.getfield 46, 3) := by decide +kernel
theorem dX0_payDay_109 : decode cX0_payDay 109 = .ok (.iconst 5, 1) := by decide +kernel
theorem dX0_payDay_110 : decode cX0_payDay 110 = .ok (.iaload, 1) := by decide +kernel
theorem dX0_payDay_111 : decode cX0_payDay 111 = .ok (.imul, 1) := by decide +kernel
theorem dX0_payDay_112 : decode cX0_payDay 112 = .ok (.bipush 100, 2) := by decide +kernel
theorem dX0_payDay_114 : decode cX0_payDay 114 = .ok (.idiv, 1) := by decide +kernel
theorem dX0_payDay_115 : decode cX0_payDay 115 = .ok (.invokestatic 160, 3) := by decide +kernel
theorem dX0_payDay_118 : decode cX0_payDay 118 = .ok (.istore 6, 2) := by decide +kernel
theorem dX0_payDay_120 : decode cX0_payDay 120 = .ok (.aload_n 0, 1) := by decide +kernel
theorem dX0_payDay_121 : decode cX0_payDay 121 = .ok (.getfield 21, 3) := by decide +kernel
theorem dX0_payDay_124 : decode cX0_payDay 124 = .ok (.iload_n 1, 1) := by decide +kernel
theorem dX0_payDay_125 : decode cX0_payDay 125 = .ok (.dup2, 1) := by decide +kernel
theorem dX0_payDay_126 : decode cX0_payDay 126 = .ok (.iaload, 1) := by decide +kernel
theorem dX0_payDay_127 : decode cX0_payDay 127 = .ok (.iload 6, 2) := by decide +kernel
theorem dX0_payDay_129 : decode cX0_payDay 129 = .ok (.isub, 1) := by decide +kernel
theorem dX0_payDay_130 : decode cX0_payDay 130 = .ok (.iastore, 1) := by decide +kernel
theorem dX0_payDay_131 : decode cX0_payDay 131 = .ok (.aload_n 0, 1) := by decide +kernel
theorem dX0_payDay_132 : decode cX0_payDay 132 = .ok (.getfield 27, 3) := by decide +kernel
theorem dX0_payDay_135 : decode cX0_payDay 135 = .ok (.iload_n 1, 1) := by decide +kernel
theorem dX0_payDay_136 : decode cX0_payDay 136 = .ok (.dup2, 1) := by decide +kernel
theorem dX0_payDay_137 : decode cX0_payDay 137 = .ok (.iaload, 1) := by decide +kernel
theorem dX0_payDay_138 : decode cX0_payDay 138 = .ok (.iload 6, 2) := by decide +kernel
theorem dX0_payDay_140 : decode cX0_payDay 140 = .ok (.iadd, 1) := by decide +kernel
theorem dX0_payDay_141 : decode cX0_payDay 141 = .ok (.iastore, 1) := by decide +kernel
theorem dX0_payDay_142 : decode cX0_payDay 142 = .ok (.return_, 1) := by decide +kernel
theorem dX0_send_0 : decode cX0_send 0 = .ok (.aload_n 0, 1) := by decide +kernel
theorem dX0_send_1 : decode cX0_send 1 = .ok (.getfield 65, 3) := by decide +kernel
theorem dX0_send_4 : decode cX0_send 4 = .ok (.iload_n 1, 1) := by decide +kernel
theorem dX0_send_5 : decode cX0_send 5 = .ok (.aload_n 0, 1) := by decide +kernel
theorem dX0_send_6 : decode cX0_send 6 = .ok (.getfield 46, 3) := by decide +kernel
theorem dX0_send_9 : decode cX0_send 9 = .ok (.invokevirtual 163, 3) := by decide +kernel
theorem dX0_send_12 : decode cX0_send 12 = .ok (.ifCond .eq 4, 3) := by decide +kernel
theorem dX0_send_15 : decode cX0_send 15 = .ok (.return_, 1) := by decide +kernel
theorem dX0_send_16 : decode cX0_send 16 = .ok (.aload_n 0, 1) := by decide +kernel
theorem dX0_send_17 : decode cX0_send 17 = .ok (.getfield 65, 3) := by decide +kernel
theorem dX0_send_20 : decode cX0_send 20 = .ok (.getfield 167, 3) := by decide +kernel
theorem dX0_send_23 : decode cX0_send 23 = .ok (.iload_n 1, 1) := by decide +kernel
theorem dX0_send_24 : decode cX0_send 24 = .ok (.iaload, 1) := by decide +kernel
theorem dX0_send_25 : decode cX0_send 25 = .ok (.istore_n 3, 1) := by decide +kernel
theorem dX0_send_26 : decode cX0_send 26 = .ok (.aload_n 0, 1) := by decide +kernel
theorem dX0_send_27 : decode cX0_send 27 = .ok (.getfield 49, 3) := by decide +kernel
theorem dX0_send_30 : decode cX0_send 30 = .ok (.iload_n 3, 1) := by decide +kernel
theorem dX0_send_31 : decode cX0_send 31 = .ok (.aload_n 0, 1) := by decide +kernel
theorem dX0_send_32 : decode cX0_send 32 = .ok (.getfield 65, 3) := by decide +kernel
theorem dX0_send_35 : decode cX0_send 35 = .ok (.getfield 139, 3) := by decide +kernel
theorem dX0_send_38 : decode cX0_send 38 = .ok (.iload_n 1, 1) := by decide +kernel
theorem dX0_send_39 : decode cX0_send 39 = .ok (.iaload, 1) := by decide +kernel
theorem dX0_send_40 : decode cX0_send 40 = .ok (.invokevirtual 170, 3) := by decide +kernel
theorem dX0_send_43 : decode cX0_send 43 = .ok (.istore 4, 2) := by decide +kernel
theorem dX0_send_45 : decode cX0_send 45 = .ok (.iload 4, 2) := by decide +kernel
theorem dX0_send_47 : decode cX0_send 47 = .ok (.iconst (-1), 1) := by decide +kernel
theorem dX0_send_48 : decode cX0_send 48 = .ok (.if_icmp .ne 11, 3) := by decide +kernel
theorem dX0_send_51 : decode cX0_send 51 = .ok (.aload_n 0, 1) := by decide +kernel
theorem dX0_send_52 : decode cX0_send 52 = .ok (.getfield 33, 3) := by decide +kernel
theorem dX0_send_55 : decode cX0_send 55 = .ok (.iload_n 1, 1) := by decide +kernel
theorem dX0_send_56 : decode cX0_send 56 = .ok (.iconst 3, 1) := by decide +kernel
theorem dX0_send_57 : decode cX0_send 57 = .ok (.iastore, 1) := by decide +kernel
theorem dX0_send_58 : decode cX0_send 58 = .ok (.return_, 1) := by decide +kernel
theorem dX0_send_59 : decode cX0_send 59 = .ok (.iload_n 3, 1) := by decide +kernel
theorem dX0_send_60 : decode cX0_send 60 = .ok (.iconst 3, 1) := by decide +kernel
theorem dX0_send_61 : decode cX0_send 61 = .ok (.imul, 1) := by decide +kernel
theorem dX0_send_62 : decode cX0_send 62 = .ok (.aload_n 0, 1) := by decide +kernel
theorem dX0_send_63 : decode cX0_send 63 = .ok (.getfield 65, 3) := by decide +kernel
theorem dX0_send_66 : decode cX0_send 66 = .ok (.getfield 142, 3) := by decide +kernel
theorem dX0_send_69 : decode cX0_send 69 = .ok (.iload_n 1, 1) := by decide +kernel
theorem dX0_send_70 : decode cX0_send 70 = .ok (.iaload, 1) := by decide +kernel
theorem dX0_send_71 : decode cX0_send 71 = .ok (.iadd, 1) := by decide +kernel
theorem dX0_send_72 : decode cX0_send 72 = .ok (.istore 5, 2) := by decide +kernel
theorem dX0_send_74 : decode cX0_send 74 = .ok (.aload_n 0, 1) := by decide +kernel
theorem dX0_send_75 : decode cX0_send 75 = .ok (.getfield 9, 3) := by decide +kernel
theorem dX0_send_78 : decode cX0_send 78 = .ok (.iload 5, 2) := by decide +kernel
theorem dX0_send_80 : decode cX0_send 80 = .ok (.iaload, 1) := by decide +kernel
theorem dX0_send_81 : decode cX0_send 81 = .ok (.aload_n 0, 1) := by decide +kernel
theorem dX0_send_82 : decode cX0_send 82 = .ok (.getfield 65, 3) := by decide +kernel
theorem dX0_send_85 : decode cX0_send 85 = .ok (.getfield 145, 3) := by decide +kernel
theorem dX0_send_88 : decode cX0_send 88 = .ok (.iload_n 1, 1) := by decide +kernel
theorem dX0_send_89 : decode cX0_send 89 = .ok (.iaload, 1) := by decide +kernel
theorem dX0_send_90 : decode cX0_send 90 = .ok (.if_icmp .ge 4, 3) := by decide +kernel
theorem dX0_send_93 : decode cX0_send 93 = .ok (.return_, 1) := by decide +kernel
theorem dX0_send_94 : decode cX0_send 94 = .ok (.aload_n 0, 1) := by decide +kernel
theorem dX0_send_95 : decode cX0_send 95 = .ok (.getfield 9, 3) := by decide +kernel
theorem dX0_send_98 : decode cX0_send 98 = .ok (.iload 5, 2) := by decide +kernel
theorem dX0_send_100 : decode cX0_send 100 = .ok (.dup2, 1) := by decide +kernel
theorem dX0_send_101 : decode cX0_send 101 = .ok (.iaload, 1) := by decide +kernel
theorem dX0_send_102 : decode cX0_send 102 = .ok (.aload_n 0, 1) := by decide +kernel
theorem dX0_send_103 : decode cX0_send 103 = .ok (.getfield 65, 3) := by decide +kernel
theorem dX0_send_106 : decode cX0_send 106 = .ok (.getfield 145, 3) := by decide +kernel
theorem dX0_send_109 : decode cX0_send 109 = .ok (.iload_n 1, 1) := by decide +kernel
theorem dX0_send_110 : decode cX0_send 110 = .ok (.iaload, 1) := by decide +kernel
theorem dX0_send_111 : decode cX0_send 111 = .ok (.isub, 1) := by decide +kernel
theorem dX0_send_112 : decode cX0_send 112 = .ok (.iastore, 1) := by decide +kernel
theorem dX0_send_113 : decode cX0_send 113 = .ok (.aload_n 0, 1) := by decide +kernel
theorem dX0_send_114 : decode cX0_send 114 = .ok (.getfield 33, 3) := by decide +kernel
theorem dX0_send_117 : decode cX0_send 117 = .ok (.iload_n 1, 1) := by decide +kernel
theorem dX0_send_118 : decode cX0_send 118 = .ok (.iconst 1, 1) := by decide +kernel
theorem dX0_send_119 : decode cX0_send 119 = .ok (.iastore, 1) := by decide +kernel
theorem dX0_send_120 : decode cX0_send 120 = .ok (.aload_n 0, 1) := by decide +kernel
theorem dX0_send_121 : decode cX0_send 121 = .ok (.getfield 36, 3) := by decide +kernel
theorem dX0_send_124 : decode cX0_send 124 = .ok (.iload_n 1, 1) := by decide +kernel
theorem dX0_send_125 : decode cX0_send 125 = .ok (.iload_n 2, 1) := by decide +kernel
theorem dX0_send_126 : decode cX0_send 126 = .ok (.iastore, 1) := by decide +kernel
theorem dX0_send_127 : decode cX0_send 127 = .ok (.aload_n 0, 1) := by decide +kernel
theorem dX0_send_128 : decode cX0_send 128 = .ok (.getfield 39, 3) := by decide +kernel
theorem dX0_send_131 : decode cX0_send 131 = .ok (.iload_n 1, 1) := by decide +kernel
theorem dX0_send_132 : decode cX0_send 132 = .ok (.iload_n 2, 1) := by decide +kernel
theorem dX0_send_133 : decode cX0_send 133 = .ok (.aload_n 0, 1) := by decide +kernel
theorem dX0_send_134 : decode cX0_send 134 = .ok (.getfield 21, 3) := by decide +kernel
theorem dX0_send_137 : decode cX0_send 137 = .ok (.iload_n 3, 1) := by decide +kernel
theorem dX0_send_138 : decode cX0_send 138 = .ok (.iaload, 1) := by decide +kernel
theorem dX0_send_139 : decode cX0_send 139 = .ok (.ifCond .le 16, 3) := by decide +kernel
theorem dX0_send_142 : decode cX0_send 142 = .ok (.iload 4, 2) := by decide +kernel
theorem dX0_send_144 : decode cX0_send 144 = .ok (.aload_n 0, 1) := by decide +kernel
theorem dX0_send_145 : decode cX0_send 145 = .ok (.getfield 46, 3) := by decide +kernel
theorem dX0_send_148 : decode cX0_send 148 = .ok (.bipush 6, 2) := by decide +kernel
theorem dX0_send_150 : decode cX0_send 150 = .ok (.iaload, 1) := by decide +kernel
theorem dX0_send_151 : decode cX0_send 151 = .ok (.imul, 1) := by decide +kernel
theorem dX0_send_152 : decode cX0_send 152 = .ok (.goto 5, 3) := by decide +kernel
theorem dX0_send_155 : decode cX0_send 155 = .ok (.iload 4, 2) := by decide +kernel
theorem dX0_send_157 : decode cX0_send 157 = .ok (.iadd, 1) := by decide +kernel
theorem dX0_send_158 : decode cX0_send 158 = .ok (.iastore, 1) := by decide +kernel
theorem dX0_send_159 : decode cX0_send 159 = .ok (.return_, 1) := by decide +kernel
theorem dX0_use_0 : decode cX0_use 0 = .ok (.iconst 0, 1) := by decide +kernel
theorem dX0_use_1 : decode cX0_use 1 = .ok (.istore_n 2, 1) := by decide +kernel
theorem dX0_use_2 : decode cX0_use 2 = .ok (.iconst 0, 1) := by decide +kernel
theorem dX0_use_3 : decode cX0_use 3 = .ok (.istore_n 3, 1) := by decide +kernel
theorem dX0_use_4 : decode cX0_use 4 = .ok (.iload_n 3, 1) := by decide +kernel
theorem dX0_use_5 : decode cX0_use 5 = .ok (.bipush 24, 2) := by decide +kernel
theorem dX0_use_7 : decode cX0_use 7 = .ok (.if_icmp .ge 95, 3) := by decide +kernel
theorem dX0_use_10 : decode cX0_use 10 = .ok (.iconst 0, 1) := by decide +kernel
theorem dX0_use_11 : decode cX0_use 11 = .ok (.aload_n 0, 1) := by decide +kernel
theorem dX0_use_12 : decode cX0_use 12 = .ok (.getfield 53, 3) := by decide +kernel
theorem dX0_use_15 : decode cX0_use 15 = .ok (.getfield 175, 3) := by decide +kernel
theorem dX0_use_18 : decode cX0_use 18 = .ok (.iload_n 3, 1) := by decide +kernel
theorem dX0_use_19 : decode cX0_use 19 = .ok (.iaload, 1) := by decide +kernel
theorem dX0_use_20 : decode cX0_use 20 = .ok (.aload_n 0, 1) := by decide +kernel
theorem dX0_use_21 : decode cX0_use 21 = .ok (.getfield 9, 3) := by decide +kernel
theorem dX0_use_24 : decode cX0_use 24 = .ok (.iload_n 3, 1) := by decide +kernel
theorem dX0_use_25 : decode cX0_use 25 = .ok (.iaload, 1) := by decide +kernel
theorem dX0_use_26 : decode cX0_use 26 = .ok (.isub, 1) := by decide +kernel
theorem dX0_use_27 : decode cX0_use 27 = .ok (.invokestatic 160, 3) := by decide +kernel
theorem dX0_use_30 : decode cX0_use 30 = .ok (.istore 4, 2) := by decide +kernel
theorem dX0_use_32 : decode cX0_use 32 = .ok (.aload_n 0, 1) := by decide +kernel
theorem dX0_use_33 : decode cX0_use 33 = .ok (.getfield 9, 3) := by decide +kernel
theorem dX0_use_36 : decode cX0_use 36 = .ok (.iload_n 3, 1) := by decide +kernel
theorem dX0_use_37 : decode cX0_use 37 = .ok (.iconst 0, 1) := by decide +kernel
theorem dX0_use_38 : decode cX0_use 38 = .ok (.aload_n 0, 1) := by decide +kernel
theorem dX0_use_39 : decode cX0_use 39 = .ok (.getfield 9, 3) := by decide +kernel
theorem dX0_use_42 : decode cX0_use 42 = .ok (.iload_n 3, 1) := by decide +kernel
theorem dX0_use_43 : decode cX0_use 43 = .ok (.iaload, 1) := by decide +kernel
theorem dX0_use_44 : decode cX0_use 44 = .ok (.aload_n 0, 1) := by decide +kernel
theorem dX0_use_45 : decode cX0_use 45 = .ok (.getfield 53, 3) := by decide +kernel
theorem dX0_use_48 : decode cX0_use 48 = .ok (.getfield 175, 3) := by decide +kernel
theorem dX0_use_51 : decode cX0_use 51 = .ok (.iload_n 3, 1) := by decide +kernel
theorem dX0_use_52 : decode cX0_use 52 = .ok (.iaload, 1) := by decide +kernel
theorem dX0_use_53 : decode cX0_use 53 = .ok (.isub, 1) := by decide +kernel
theorem dX0_use_54 : decode cX0_use 54 = .ok (.invokestatic 160, 3) := by decide +kernel
theorem dX0_use_57 : decode cX0_use 57 = .ok (.iastore, 1) := by decide +kernel
theorem dX0_use_58 : decode cX0_use 58 = .ok (.aload_n 0, 1) := by decide +kernel
theorem dX0_use_59 : decode cX0_use 59 = .ok (.getfield 15, 3) := by decide +kernel
theorem dX0_use_62 : decode cX0_use 62 = .ok (.iload_n 3, 1) := by decide +kernel
theorem dX0_use_63 : decode cX0_use 63 = .ok (.dup2, 1) := by decide +kernel
theorem dX0_use_64 : decode cX0_use 64 = .ok (.iaload, 1) := by decide +kernel
theorem dX0_use_65 : decode cX0_use 65 = .ok (.iload 4, 2) := by decide +kernel
theorem dX0_use_67 : decode cX0_use 67 = .ok (.iadd, 1) := by decide +kernel
theorem dX0_use_68 : decode cX0_use 68 = .ok (.iastore, 1) := by decide +kernel
theorem dX0_use_69 : decode cX0_use 69 = .ok (.iload_n 2, 1) := by decide +kernel
theorem dX0_use_70 : decode cX0_use 70 = .ok (.iload 4, 2) := by decide +kernel
theorem dX0_use_72 : decode cX0_use 72 = .ok (.iadd, 1) := by decide +kernel
theorem dX0_use_73 : decode cX0_use 73 = .ok (.istore_n 2, 1) := by decide +kernel
theorem dX0_use_74 : decode cX0_use 74 = .ok (.iload 4, 2) := by decide +kernel
theorem dX0_use_76 : decode cX0_use 76 = .ok (.ifCond .le 20, 3) := by decide +kernel
theorem dX0_use_79 : decode cX0_use 79 = .ok (.aload_n 0, 1) := by decide +kernel
theorem dX0_use_80 : decode cX0_use 80 = .ok (.getfield 18, 3) := by decide +kernel
theorem dX0_use_83 : decode cX0_use 83 = .ok (.iload_n 3, 1) := by decide +kernel
theorem dX0_use_84 : decode cX0_use 84 = .ok (.iaload, 1) := by decide +kernel
theorem dX0_use_85 : decode cX0_use 85 = .ok (.iconst (-1), 1) := by decide +kernel
theorem dX0_use_86 : decode cX0_use 86 = .ok (.if_icmp .ne 10, 3) := by decide +kernel
theorem dX0_use_89 : decode cX0_use 89 = .ok (.aload_n 0, 1) := by decide +kernel
theorem dX0_use_90 : decode cX0_use 90 = .ok (.getfield 18, 3) := by decide +kernel
theorem dX0_use_93 : decode cX0_use 93 = .ok (.iload_n 3, 1) := by decide +kernel
theorem dX0_use_94 : decode cX0_use 94 = .ok (.iload_n 1, 1) := by decide +kernel
theorem dX0_use_95 : decode cX0_use 95 = .ok (.iastore, 1) := by decide +kernel
theorem dX0_use_96 : decode cX0_use 96 = .ok (.iinc 3 1, 3) := by decide +kernel
theorem dX0_use_99 : decode cX0_use 99 = .ok (.goto (-95), 3) := by decide +kernel
theorem dX0_use_102 : decode cX0_use 102 = .ok (.iload_n 2, 1) := by decide +kernel
theorem dX0_use_103 : decode cX0_use 103 = .ok (.ireturn, 1) := by decide +kernel
theorem dX1_init_0 : decode cX1_init 0 = .ok (.aload_n 0, 1) := by decide +kernel
theorem dX1_init_1 : decode cX1_init 1 = .ok (.invokespecial 3, 3) := by decide +kernel
theorem dX1_init_4 : decode cX1_init 4 = .ok (.aload_n 0, 1) := by decide +kernel
theorem dX1_init_5 : decode cX1_init 5 = .ok (.bipush 9, 2) := by decide +kernel
theorem dX1_init_7 : decode cX1_init 7 = .ok (.newarray .int, 2) := by decide +kernel
theorem dX1_init_9 : decode cX1_init 9 = .ok (.putfield 9, 3) := by decide +kernel
theorem dX1_init_12 : decode cX1_init 12 = .ok (.aload_n 0, 1) := by decide +kernel
theorem dX1_init_13 : decode cX1_init 13 = .ok (.iconst 0, 1) := by decide +kernel
theorem dX1_init_14 : decode cX1_init 14 = .ok (.putfield 15, 3) := by decide +kernel
theorem dX1_init_17 : decode cX1_init 17 = .ok (.aload_n 0, 1) := by decide +kernel
theorem dX1_init_18 : decode cX1_init 18 = .ok (.iconst 0, 1) := by decide +kernel
theorem dX1_init_19 : decode cX1_init 19 = .ok (.putfield 19, 3) := by decide +kernel
theorem dX1_init_22 : decode cX1_init 22 = .ok (.aload_n 0, 1) := by decide +kernel
theorem dX1_init_23 : decode cX1_init 23 = .ok (.sipush 991, 3) := by decide +kernel
theorem dX1_init_26 : decode cX1_init 26 = .ok (.newarray .int, 2) := by decide +kernel
theorem dX1_init_28 : decode cX1_init 28 = .ok (.putfield 22, 3) := by decide +kernel
theorem dX1_init_31 : decode cX1_init 31 = .ok (.aload_n 0, 1) := by decide +kernel
theorem dX1_init_32 : decode cX1_init 32 = .ok (.sipush 991, 3) := by decide +kernel
theorem dX1_init_35 : decode cX1_init 35 = .ok (.newarray .int, 2) := by decide +kernel
theorem dX1_init_37 : decode cX1_init 37 = .ok (.putfield 25, 3) := by decide +kernel
theorem dX1_init_40 : decode cX1_init 40 = .ok (.aload_n 0, 1) := by decide +kernel
theorem dX1_init_41 : decode cX1_init 41 = .ok (.iconst 1, 1) := by decide +kernel
theorem dX1_init_42 : decode cX1_init 42 = .ok (.putfield 28, 3) := by decide +kernel
theorem dX1_init_45 : decode cX1_init 45 = .ok (.return_, 1) := by decide +kernel
theorem dX1_rows_0 : decode cX1_rows 0 = .ok (.iconst 1, 1) := by decide +kernel
theorem dX1_rows_1 : decode cX1_rows 1 = .ok (.istore_n 1, 1) := by decide +kernel
theorem dX1_rows_2 : decode cX1_rows 2 = .ok (.iconst 0, 1) := by decide +kernel
theorem dX1_rows_3 : decode cX1_rows 3 = .ok (.istore_n 2, 1) := by decide +kernel
theorem dX1_rows_4 : decode cX1_rows 4 = .ok (.iload_n 2, 1) := by decide +kernel
theorem dX1_rows_5 : decode cX1_rows 5 = .ok (.iload_n 0, 1) := by decide +kernel
theorem dX1_rows_6 : decode cX1_rows 6 = .ok (.if_icmp .ge 14, 3) := by decide +kernel
theorem dX1_rows_9 : decode cX1_rows 9 = .ok (.iload_n 1, 1) := by decide +kernel
theorem dX1_rows_10 : decode cX1_rows 10 = .ok (.bipush 9, 2) := by decide +kernel
theorem dX1_rows_12 : decode cX1_rows 12 = .ok (.imul, 1) := by decide +kernel
theorem dX1_rows_13 : decode cX1_rows 13 = .ok (.istore_n 1, 1) := by decide +kernel
theorem dX1_rows_14 : decode cX1_rows 14 = .ok (.iinc 2 1, 3) := by decide +kernel
theorem dX1_rows_17 : decode cX1_rows 17 = .ok (.goto (-13), 3) := by decide +kernel
theorem dX1_rows_20 : decode cX1_rows 20 = .ok (.iload_n 1, 1) := by decide +kernel
theorem dX1_rows_21 : decode cX1_rows 21 = .ok (.ireturn, 1) := by decide +kernel
theorem dX1_score_0 : decode cX1_score 0 = .ok (.iconst 0, 1) := by decide +kernel
theorem dX1_score_1 : decode cX1_score 1 = .ok (.istore 4, 2) := by decide +kernel
theorem dX1_score_3 : decode cX1_score 3 = .ok (.iload_n 3, 1) := by decide +kernel
theorem dX1_score_4 : decode cX1_score 4 = .ok (.istore 5, 2) := by decide +kernel
theorem dX1_score_6 : decode cX1_score 6 = .ok (.iconst 0, 1) := by decide +kernel
theorem dX1_score_7 : decode cX1_score 7 = .ok (.istore 6, 2) := by decide +kernel
theorem dX1_score_9 : decode cX1_score 9 = .ok (.iload 6, 2) := by decide +kernel
theorem dX1_score_11 : decode cX1_score 11 = .ok (.iload_n 1, 1) := by decide +kernel
theorem dX1_score_12 : decode cX1_score 12 = .ok (.if_icmp .ge 57, 3) := by decide +kernel
theorem dX1_score_15 : decode cX1_score 15 = .ok (.iload 5, 2) := by decide +kernel
theorem dX1_score_17 : decode cX1_score 17 = .ok (.iconst 3, 1) := by decide +kernel
theorem dX1_score_18 : decode cX1_score 18 = .ok (.irem, 1) := by decide +kernel
theorem dX1_score_19 : decode cX1_score 19 = .ok (.istore 7, 2) := by decide +kernel
theorem dX1_score_21 : decode cX1_score 21 = .ok (.iload 5, 2) := by decide +kernel
theorem dX1_score_23 : decode cX1_score 23 = .ok (.iconst 3, 1) := by decide +kernel
theorem dX1_score_24 : decode cX1_score 24 = .ok (.idiv, 1) := by decide +kernel
theorem dX1_score_25 : decode cX1_score 25 = .ok (.iconst 3, 1) := by decide +kernel
theorem dX1_score_26 : decode cX1_score 26 = .ok (.irem, 1) := by decide +kernel
theorem dX1_score_27 : decode cX1_score 27 = .ok (.istore 8, 2) := by decide +kernel
theorem dX1_score_29 : decode cX1_score 29 = .ok (.iload 5, 2) := by decide +kernel
theorem dX1_score_31 : decode cX1_score 31 = .ok (.iconst 3, 1) := by decide +kernel
theorem dX1_score_32 : decode cX1_score 32 = .ok (.idiv, 1) := by decide +kernel
theorem dX1_score_33 : decode cX1_score 33 = .ok (.iconst 3, 1) := by decide +kernel
theorem dX1_score_34 : decode cX1_score 34 = .ok (.idiv, 1) := by decide +kernel
theorem dX1_score_35 : decode cX1_score 35 = .ok (.istore 5, 2) := by decide +kernel
theorem dX1_score_37 : decode cX1_score 37 = .ok (.iload 4, 2) := by decide +kernel
theorem dX1_score_39 : decode cX1_score 39 = .ok (.invokestatic 31, 3) := by decide +kernel
theorem dX1_score_42 : decode cX1_score 42 = .ok (.iload_n 2, 1) := by decide +kernel
theorem dX1_score_43 : decode cX1_score 43 = .ok (.if_icmp .ge 20, 3) := by decide +kernel
theorem dX1_score_46 : decode cX1_score 46 = .ok (.iload 4, 2) := by decide +kernel
theorem dX1_score_48 : decode cX1_score 48 = .ok (.aload_n 0, 1) := by decide +kernel
theorem dX1_score_49 : decode cX1_score 49 = .ok (.getfield 9, 3) := by decide +kernel
theorem dX1_score_52 : decode cX1_score 52 = .ok (.iload 7, 2) := by decide +kernel
theorem dX1_score_54 : decode cX1_score 54 = .ok (.iconst 3, 1) := by decide +kernel
theorem dX1_score_55 : decode cX1_score 55 = .ok (.imul, 1) := by decide +kernel
theorem dX1_score_56 : decode cX1_score 56 = .ok (.iload 8, 2) := by decide +kernel
theorem dX1_score_58 : decode cX1_score 58 = .ok (.iadd, 1) := by decide +kernel
theorem dX1_score_59 : decode cX1_score 59 = .ok (.iaload, 1) := by decide +kernel
theorem dX1_score_60 : decode cX1_score 60 = .ok (.iadd, 1) := by decide +kernel
theorem dX1_score_61 : decode cX1_score 61 = .ok (.istore 4, 2) := by decide +kernel
theorem dX1_score_63 : decode cX1_score 63 = .ok (.iinc 6 1, 3) := by decide +kernel
theorem dX1_score_66 : decode cX1_score 66 = .ok (.goto (-57), 3) := by decide +kernel
theorem dX1_score_69 : decode cX1_score 69 = .ok (.iload 4, 2) := by decide +kernel
theorem dX1_score_71 : decode cX1_score 71 = .ok (.ireturn, 1) := by decide +kernel
theorem dX1_solve_0 : decode cX1_solve 0 = .ok (.aload_n 0, 1) := by decide +kernel
theorem dX1_solve_1 : decode cX1_solve 1 = .ok (.iload_n 2, 1) := by decide +kernel
theorem dX1_solve_2 : decode cX1_solve 2 = .ok (.putfield 28, 3) := by decide +kernel
theorem dX1_solve_5 : decode cX1_solve 5 = .ok (.aload_n 0, 1) := by decide +kernel
theorem dX1_solve_6 : decode cX1_solve 6 = .ok (.getfield 9, 3) := by decide +kernel
theorem dX1_solve_9 : decode cX1_solve 9 = .ok (.iconst 0, 1) := by decide +kernel
theorem dX1_solve_10 : decode cX1_solve 10 = .ok (.iaload, 1) := by decide +kernel
theorem dX1_solve_11 : decode cX1_solve 11 = .ok (.istore_n 3, 1) := by decide +kernel
theorem dX1_solve_12 : decode cX1_solve 12 = .ok (.aload_n 0, 1) := by decide +kernel
theorem dX1_solve_13 : decode cX1_solve 13 = .ok (.getfield 9, 3) := by decide +kernel
theorem dX1_solve_16 : decode cX1_solve 16 = .ok (.iconst 0, 1) := by decide +kernel
theorem dX1_solve_17 : decode cX1_solve 17 = .ok (.iaload, 1) := by decide +kernel
theorem dX1_solve_18 : decode cX1_solve 18 = .ok (.istore 4, 2) := by decide +kernel
theorem dX1_solve_20 : decode cX1_solve 20 = .ok (.aload_n 0, 1) := by decide +kernel
theorem dX1_solve_21 : decode cX1_solve 21 = .ok (.getfield 9, 3) := by decide +kernel
theorem dX1_solve_24 : decode cX1_solve 24 = .ok (.astore 5, 2) := by decide +kernel
theorem dX1_solve_26 : decode cX1_solve 26 = .ok (.aload 5, 2) := by decide +kernel
theorem dX1_solve_28 : decode cX1_solve 28 = .ok (.arraylength, 1) := by decide +kernel
theorem dX1_solve_29 : decode cX1_solve 29 = .ok (.istore 6, 2) := by decide +kernel
theorem dX1_solve_31 : decode cX1_solve 31 = .ok (.iconst 0, 1) := by decide +kernel
theorem dX1_solve_32 : decode cX1_solve 32 = .ok (.istore 7, 2) := by decide +kernel
theorem dX1_solve_34 : decode cX1_solve 34 = .ok (.iload 7, 2) := by decide +kernel
theorem dX1_solve_36 : decode cX1_solve 36 = .ok (.iload 6, 2) := by decide +kernel
theorem dX1_solve_38 : decode cX1_solve 38 = .ok (.if_icmp .ge 32, 3) := by decide +kernel
theorem dX1_solve_41 : decode cX1_solve 41 = .ok (.aload 5, 2) := by decide +kernel
theorem dX1_solve_43 : decode cX1_solve 43 = .ok (.iload 7, 2) := by decide +kernel
theorem dX1_solve_45 : decode cX1_solve 45 = .ok (.iaload, 1) := by decide +kernel
theorem dX1_solve_46 : decode cX1_solve 46 = .ok (.istore 8, 2) := by decide +kernel
theorem dX1_solve_48 : decode cX1_solve 48 = .ok (.iload_n 3, 1) := by decide +kernel
theorem dX1_solve_49 : decode cX1_solve 49 = .ok (.iload 8, 2) := by decide +kernel
theorem dX1_solve_51 : decode cX1_solve 51 = .ok (.invokestatic 37, 3) := by decide +kernel
theorem dX1_solve_54 : decode cX1_solve 54 = .ok (.istore_n 3, 1) := by decide +kernel
theorem dX1_solve_55 : decode cX1_solve 55 = .ok (.iload 4, 2) := by decide +kernel
theorem dX1_solve_57 : decode cX1_solve 57 = .ok (.iload 8, 2) := by decide +kernel
theorem dX1_solve_59 : decode cX1_solve 59 = .ok (.invokestatic 41, 3) := by decide +kernel
theorem dX1_solve_62 : decode cX1_solve 62 = .ok (.istore 4, 2) := by decide +kernel
theorem dX1_solve_64 : decode cX1_solve 64 = .ok (.iinc 7 1, 3) := by decide +kernel
theorem dX1_solve_67 : decode cX1_solve 67 = .ok (.goto (-33), 3) := by decide +kernel
theorem dX1_solve_70 : decode cX1_solve 70 = .ok (.iload_n 1, 1) := by decide +kernel
theorem dX1_solve_71 : decode cX1_solve 71 = .ok (.iconst 1, 1) := by decide +kernel
theorem dX1_solve_72 : decode cX1_solve 72 = .ok (.isub, 1) := by decide +kernel
theorem dX1_solve_73 : decode cX1_solve 73 = .ok (.istore 5, 2) := by decide +kernel
theorem dX1_solve_75 : decode cX1_solve 75 = .ok (.iload 5, 2) := by decide +kernel
theorem dX1_solve_77 : decode cX1_solve 77 = .ok (.ifCond .lt 51, 3) := by decide +kernel
theorem dX1_solve_80 : decode cX1_solve 80 = .ok (.aload_n 0, 1) := by decide +kernel
theorem dX1_solve_81 : decode cX1_solve 81 = .ok (.iload 5, 2) := by decide +kernel
theorem dX1_solve_83 : decode cX1_solve 83 = .ok (.iload_n 3, 1) := by decide +kernel
theorem dX1_solve_84 : decode cX1_solve 84 = .ok (.iload 4, 2) := by decide +kernel
theorem dX1_solve_86 : decode cX1_solve 86 = .ok (.iload 5, 2) := by decide +kernel
theorem dX1_solve_88 : decode cX1_solve 88 = .ok (.iload_n 1, 1) := by decide +kernel
theorem dX1_solve_89 : decode cX1_solve 89 = .ok (.iconst 1, 1) := by decide +kernel
theorem dX1_solve_90 : decode cX1_solve 90 = .ok (.isub, 1) := by decide +kernel
theorem dX1_solve_91 : decode cX1_solve 91 = .ok (.if_icmp .ne 7, 3) := by decide +kernel
theorem dX1_solve_94 : decode cX1_solve 94 = .ok (.iconst 1, 1) := by decide +kernel
theorem dX1_solve_95 : decode cX1_solve 95 = .ok (.goto 4, 3) := by decide +kernel
theorem dX1_solve_98 : decode cX1_solve 98 = .ok (.iconst 0, 1) := by decide +kernel
theorem dX1_solve_99 : decode cX1_solve 99 = .ok (.invokevirtual 44, 3) := by decide +kernel
theorem dX1_solve_102 : decode cX1_solve 102 = .ok (.aload_n 0, 1) := by decide +kernel
theorem dX1_solve_103 : decode cX1_solve 103 = .ok (.getfield 25, 3) := by decide +kernel
theorem dX1_solve_106 : decode cX1_solve 106 = .ok (.astore 6, 2) := by decide +kernel
theorem dX1_solve_108 : decode cX1_solve 108 = .ok (.aload_n 0, 1) := by decide +kernel
theorem dX1_solve_109 : decode cX1_solve 109 = .ok (.aload_n 0, 1) := by decide +kernel
theorem dX1_solve_110 : decode cX1_solve 110 = .ok (.getfield 22, 3) := by decide +kernel
theorem dX1_solve_113 : decode cX1_solve 113 = .ok (.putfield 25, 3) := by decide +kernel
theorem dX1_solve_116 : decode cX1_solve 116 = .ok (.aload_n 0, 1) := by decide +kernel
theorem dX1_solve_117 : decode cX1_solve 117 = .ok (.aload 6, 2) := by decide +kernel
theorem dX1_solve_119 : decode cX1_solve 119 = .ok (.putfield 22, 3) := by decide +kernel
theorem dX1_solve_122 : decode cX1_solve 122 = .ok (.iinc 5 (-1), 3) := by decide +kernel
theorem dX1_solve_125 : decode cX1_solve 125 = .ok (.goto (-50), 3) := by decide +kernel
theorem dX1_solve_128 : decode cX1_solve 128 = .ok (.return_, 1) := by decide +kernel
theorem dX1_solveDay_0 : decode cX1_solveDay 0 = .ok (.iload_n 1, 1) := by decide +kernel
theorem dX1_solveDay_1 : decode cX1_solveDay 1 = .ok (.iload_n 2, 1) := by decide +kernel
theorem dX1_solveDay_2 : decode cX1_solveDay 2 = .ok (.imul, 1) := by decide +kernel
theorem dX1_solveDay_3 : decode cX1_solveDay 3 = .ok (.iconst 1, 1) := by decide +kernel
theorem dX1_solveDay_4 : decode cX1_solveDay 4 = .ok (.aload_n 0, 1) := by decide +kernel
theorem dX1_solveDay_5 : decode cX1_solveDay 5 = .ok (.getfield 28, 3) := by decide +kernel
theorem dX1_solveDay_8 : decode cX1_solveDay 8 = .ok (.isub, 1) := by decide +kernel
theorem dX1_solveDay_9 : decode cX1_solveDay 9 = .ok (.invokestatic 41, 3) := by decide +kernel
theorem dX1_solveDay_12 : decode cX1_solveDay 12 = .ok (.istore 5, 2) := by decide +kernel
theorem dX1_solveDay_14 : decode cX1_solveDay 14 = .ok (.iload_n 1, 1) := by decide +kernel
theorem dX1_solveDay_15 : decode cX1_solveDay 15 = .ok (.iload_n 3, 1) := by decide +kernel
theorem dX1_solveDay_16 : decode cX1_solveDay 16 = .ok (.imul, 1) := by decide +kernel
theorem dX1_solveDay_17 : decode cX1_solveDay 17 = .ok (.aload_n 0, 1) := by decide +kernel
theorem dX1_solveDay_18 : decode cX1_solveDay 18 = .ok (.getfield 28, 3) := by decide +kernel
theorem dX1_solveDay_21 : decode cX1_solveDay 21 = .ok (.iconst 1, 1) := by decide +kernel
theorem dX1_solveDay_22 : decode cX1_solveDay 22 = .ok (.isub, 1) := by decide +kernel
theorem dX1_solveDay_23 : decode cX1_solveDay 23 = .ok (.invokestatic 37, 3) := by decide +kernel
theorem dX1_solveDay_26 : decode cX1_solveDay 26 = .ok (.istore 6, 2) := by decide +kernel
theorem dX1_solveDay_28 : decode cX1_solveDay 28 = .ok (.iload 5, 2) := by decide +kernel
theorem dX1_solveDay_30 : decode cX1_solveDay 30 = .ok (.istore 7, 2) := by decide +kernel
theorem dX1_solveDay_32 : decode cX1_solveDay 32 = .ok (.iload 7, 2) := by decide +kernel
theorem dX1_solveDay_34 : decode cX1_solveDay 34 = .ok (.iload 6, 2) := by decide +kernel
theorem dX1_solveDay_36 : decode cX1_solveDay 36 = .ok (.if_icmp .gt 90, 3) := by decide +kernel
theorem dX1_solveDay_39 : decode cX1_solveDay 39 = .ok (.aload_n 0, 1) := by decide +kernel
theorem dX1_solveDay_40 : decode cX1_solveDay 40 = .ok (.aload_n 0, 1) := by decide +kernel
theorem dX1_solveDay_41 : decode cX1_solveDay 41 = .ok (.iload 7, 2) := by decide +kernel
theorem dX1_solveDay_43 : decode cX1_solveDay 43 = .ok (.iconst 0, 1) := by decide +kernel
theorem dX1_solveDay_44 : decode cX1_solveDay 44 = .ok (.iload 4, 2) := by decide +kernel
theorem dX1_solveDay_46 : decode cX1_solveDay 46 = .ok (.invokevirtual 48, 3) := by decide +kernel
theorem dX1_solveDay_49 : decode cX1_solveDay 49 = .ok (.putfield 15, 3) := by decide +kernel
theorem dX1_solveDay_52 : decode cX1_solveDay 52 = .ok (.aload_n 0, 1) := by decide +kernel
theorem dX1_solveDay_53 : decode cX1_solveDay 53 = .ok (.iconst 0, 1) := by decide +kernel
theorem dX1_solveDay_54 : decode cX1_solveDay 54 = .ok (.putfield 19, 3) := by decide +kernel
theorem dX1_solveDay_57 : decode cX1_solveDay 57 = .ok (.iconst 1, 1) := by decide +kernel
theorem dX1_solveDay_58 : decode cX1_solveDay 58 = .ok (.istore 8, 2) := by decide +kernel
theorem dX1_solveDay_60 : decode cX1_solveDay 60 = .ok (.iload 8, 2) := by decide +kernel
theorem dX1_solveDay_62 : decode cX1_solveDay 62 = .ok (.iconst 3, 1) := by decide +kernel
theorem dX1_solveDay_63 : decode cX1_solveDay 63 = .ok (.if_icmp .ge 42, 3) := by decide +kernel
theorem dX1_solveDay_66 : decode cX1_solveDay 66 = .ok (.aload_n 0, 1) := by decide +kernel
theorem dX1_solveDay_67 : decode cX1_solveDay 67 = .ok (.iload 7, 2) := by decide +kernel
theorem dX1_solveDay_69 : decode cX1_solveDay 69 = .ok (.iload 8, 2) := by decide +kernel
theorem dX1_solveDay_71 : decode cX1_solveDay 71 = .ok (.iload 4, 2) := by decide +kernel
theorem dX1_solveDay_73 : decode cX1_solveDay 73 = .ok (.invokevirtual 48, 3) := by decide +kernel
theorem dX1_solveDay_76 : decode cX1_solveDay 76 = .ok (.istore 9, 2) := by decide +kernel
theorem dX1_solveDay_78 : decode cX1_solveDay 78 = .ok (.iload 9, 2) := by decide +kernel
theorem dX1_solveDay_80 : decode cX1_solveDay 80 = .ok (.aload_n 0, 1) := by decide +kernel
theorem dX1_solveDay_81 : decode cX1_solveDay 81 = .ok (.getfield 15, 3) := by decide +kernel
theorem dX1_solveDay_84 : decode cX1_solveDay 84 = .ok (.if_icmp .le 15, 3) := by decide +kernel
theorem dX1_solveDay_87 : decode cX1_solveDay 87 = .ok (.aload_n 0, 1) := by decide +kernel
theorem dX1_solveDay_88 : decode cX1_solveDay 88 = .ok (.iload 9, 2) := by decide +kernel
theorem dX1_solveDay_90 : decode cX1_solveDay 90 = .ok (.putfield 15, 3) := by decide +kernel
theorem dX1_solveDay_93 : decode cX1_solveDay 93 = .ok (.aload_n 0, 1) := by decide +kernel
theorem dX1_solveDay_94 : decode cX1_solveDay 94 = .ok (.iload 8, 2) := by decide +kernel
theorem dX1_solveDay_96 : decode cX1_solveDay 96 = .ok (.putfield 19, 3) := by decide +kernel
theorem dX1_solveDay_99 : decode cX1_solveDay 99 = .ok (.iinc 8 1, 3) := by decide +kernel
theorem dX1_solveDay_102 : decode cX1_solveDay 102 = .ok (.goto (-42), 3) := by decide +kernel
theorem dX1_solveDay_105 : decode cX1_solveDay 105 = .ok (.aload_n 0, 1) := by decide +kernel
theorem dX1_solveDay_106 : decode cX1_solveDay 106 = .ok (.getfield 22, 3) := by decide +kernel
theorem dX1_solveDay_109 : decode cX1_solveDay 109 = .ok (.sipush 495, 3) := by decide +kernel
theorem dX1_solveDay_112 : decode cX1_solveDay 112 = .ok (.iload 7, 2) := by decide +kernel
theorem dX1_solveDay_114 : decode cX1_solveDay 114 = .ok (.iadd, 1) := by decide +kernel
theorem dX1_solveDay_115 : decode cX1_solveDay 115 = .ok (.aload_n 0, 1) := by decide +kernel
theorem dX1_solveDay_116 : decode cX1_solveDay 116 = .ok (.getfield 15, 3) := by decide +kernel
theorem dX1_solveDay_119 : decode cX1_solveDay 119 = .ok (.iastore, 1) := by decide +kernel
theorem dX1_solveDay_120 : decode cX1_solveDay 120 = .ok (.iinc 7 1, 3) := by decide +kernel
theorem dX1_solveDay_123 : decode cX1_solveDay 123 = .ok (.goto (-91), 3) := by decide +kernel
theorem dX1_solveDay_126 : decode cX1_solveDay 126 = .ok (.return_, 1) := by decide +kernel
theorem dX1_answer_0 : decode cX1_answer 0 = .ok (.aload_n 0, 1) := by decide +kernel
theorem dX1_answer_1 : decode cX1_answer 1 = .ok (.iload_n 1, 1) := by decide +kernel
theorem dX1_answer_2 : decode cX1_answer 2 = .ok (.aload_n 0, 1) := by decide +kernel
theorem dX1_answer_3 : decode cX1_answer 3 = .ok (.getfield 9, 3) := by decide +kernel
theorem dX1_answer_6 : decode cX1_answer 6 = .ok (.iload_n 2, 1) := by decide +kernel
theorem dX1_answer_7 : decode cX1_answer 7 = .ok (.iconst 3, 1) := by decide +kernel
theorem dX1_answer_8 : decode cX1_answer 8 = .ok (.imul, 1) := by decide +kernel
theorem dX1_answer_9 : decode cX1_answer 9 = .ok (.iaload, 1) := by decide +kernel
theorem dX1_answer_10 : decode cX1_answer 10 = .ok (.iadd, 1) := by decide +kernel
theorem dX1_answer_11 : decode cX1_answer 11 = .ok (.iload_n 3, 1) := by decide +kernel
theorem dX1_answer_12 : decode cX1_answer 12 = .ok (.invokevirtual 52, 3) := by decide +kernel
theorem dX1_answer_15 : decode cX1_answer 15 = .ok (.istore 4, 2) := by decide +kernel
theorem dX1_answer_17 : decode cX1_answer 17 = .ok (.iconst 1, 1) := by decide +kernel
theorem dX1_answer_18 : decode cX1_answer 18 = .ok (.istore 5, 2) := by decide +kernel
theorem dX1_answer_20 : decode cX1_answer 20 = .ok (.iload 5, 2) := by decide +kernel
theorem dX1_answer_22 : decode cX1_answer 22 = .ok (.iconst 3, 1) := by decide +kernel
theorem dX1_answer_23 : decode cX1_answer 23 = .ok (.if_icmp .ge 34, 3) := by decide +kernel
theorem dX1_answer_26 : decode cX1_answer 26 = .ok (.iload 4, 2) := by decide +kernel
theorem dX1_answer_28 : decode cX1_answer 28 = .ok (.aload_n 0, 1) := by decide +kernel
theorem dX1_answer_29 : decode cX1_answer 29 = .ok (.iload_n 1, 1) := by decide +kernel
theorem dX1_answer_30 : decode cX1_answer 30 = .ok (.aload_n 0, 1) := by decide +kernel
theorem dX1_answer_31 : decode cX1_answer 31 = .ok (.getfield 9, 3) := by decide +kernel
theorem dX1_answer_34 : decode cX1_answer 34 = .ok (.iload_n 2, 1) := by decide +kernel
theorem dX1_answer_35 : decode cX1_answer 35 = .ok (.iconst 3, 1) := by decide +kernel
theorem dX1_answer_36 : decode cX1_answer 36 = .ok (.imul, 1) := by decide +kernel
theorem dX1_answer_37 : decode cX1_answer 37 = .ok (.iload 5, 2) := by decide +kernel
theorem dX1_answer_39 : decode cX1_answer 39 = .ok (.iadd, 1) := by decide +kernel
theorem dX1_answer_40 : decode cX1_answer 40 = .ok (.iaload, 1) := by decide +kernel
theorem dX1_answer_41 : decode cX1_answer 41 = .ok (.iadd, 1) := by decide +kernel
theorem dX1_answer_42 : decode cX1_answer 42 = .ok (.iload_n 3, 1) := by decide +kernel
theorem dX1_answer_43 : decode cX1_answer 43 = .ok (.invokevirtual 52, 3) := by decide +kernel
theorem dX1_answer_46 : decode cX1_answer 46 = .ok (.invokestatic 37, 3) := by decide +kernel
theorem dX1_answer_49 : decode cX1_answer 49 = .ok (.istore 4, 2) := by decide +kernel
theorem dX1_answer_51 : decode cX1_answer 51 = .ok (.iinc 5 1, 3) := by decide +kernel
theorem dX1_answer_54 : decode cX1_answer 54 = .ok (.goto (-34), 3) := by decide +kernel
theorem dX1_answer_57 : decode cX1_answer 57 = .ok (.iload 4, 2) := by decide +kernel
theorem dX1_answer_59 : decode cX1_answer 59 = .ok (.ireturn, 1) := by decide +kernel
theorem dX1_outcome_0 : decode cX1_outcome 0 = .ok (.iload_n 2, 1) := by decide +kernel
theorem dX1_outcome_1 : decode cX1_outcome 1 = .ok (.ifCond .ne 14, 3) := by decide +kernel
theorem dX1_outcome_4 : decode cX1_outcome 4 = .ok (.iload_n 1, 1) := by decide +kernel
theorem dX1_outcome_5 : decode cX1_outcome 5 = .ok (.invokestatic 31, 3) := by decide +kernel
theorem dX1_outcome_8 : decode cX1_outcome 8 = .ok (.aload_n 0, 1) := by decide +kernel
theorem dX1_outcome_9 : decode cX1_outcome 9 = .ok (.getfield 28, 3) := by decide +kernel
theorem dX1_outcome_12 : decode cX1_outcome 12 = .ok (.if_icmp .lt 7, 3) := by decide +kernel
theorem dX1_outcome_15 : decode cX1_outcome 15 = .ok (.iload_n 1, 1) := by decide +kernel
theorem dX1_outcome_16 : decode cX1_outcome 16 = .ok (.goto 13, 3) := by decide +kernel
theorem dX1_outcome_19 : decode cX1_outcome 19 = .ok (.aload_n 0, 1) := by decide +kernel
theorem dX1_outcome_20 : decode cX1_outcome 20 = .ok (.getfield 25, 3) := by decide +kernel
theorem dX1_outcome_23 : decode cX1_outcome 23 = .ok (.sipush 495, 3) := by decide +kernel
theorem dX1_outcome_26 : decode cX1_outcome 26 = .ok (.iload_n 1, 1) := by decide +kernel
theorem dX1_outcome_27 : decode cX1_outcome 27 = .ok (.iadd, 1) := by decide +kernel
theorem dX1_outcome_28 : decode cX1_outcome 28 = .ok (.iaload, 1) := by decide +kernel
theorem dX1_outcome_29 : decode cX1_outcome 29 = .ok (.ireturn, 1) := by decide +kernel
theorem dX2_init_0 : decode cX2_init 0 = .ok (.aload_n 0, 1) := by decide +kernel
theorem dX2_init_1 : decode cX2_init 1 = .ok (.invokespecial 3, 3) := by decide +kernel
theorem dX2_init_4 : decode cX2_init 4 = .ok (.aload_n 0, 1) := by decide +kernel
theorem dX2_init_5 : decode cX2_init 5 = .ok (.bipush 24, 2) := by decide +kernel
theorem dX2_init_7 : decode cX2_init 7 = .ok (.newarray .int, 2) := by decide +kernel
theorem dX2_init_9 : decode cX2_init 9 = .ok (.putfield 9, 3) := by decide +kernel
theorem dX2_init_12 : decode cX2_init 12 = .ok (.aload_n 0, 1) := by decide +kernel
theorem dX2_init_13 : decode cX2_init 13 = .ok (.bipush 24, 2) := by decide +kernel
theorem dX2_init_15 : decode cX2_init 15 = .ok (.newarray .int, 2) := by decide +kernel
theorem dX2_init_17 : decode cX2_init 17 = .ok (.putfield 15, 3) := by decide +kernel
theorem dX2_init_20 : decode cX2_init 20 = .ok (.aload_n 0, 1) := by decide +kernel
theorem dX2_init_21 : decode cX2_init 21 = .ok (.bipush 48, 2) := by decide +kernel
theorem dX2_init_23 : decode cX2_init 23 = .ok (.newarray .int, 2) := by decide +kernel
theorem dX2_init_25 : decode cX2_init 25 = .ok (.putfield 18, 3) := by decide +kernel
theorem dX2_init_28 : decode cX2_init 28 = .ok (.aload_n 0, 1) := by decide +kernel
theorem dX2_init_29 : decode cX2_init 29 = .ok (.bipush 6, 2) := by decide +kernel
theorem dX2_init_31 : decode cX2_init 31 = .ok (.newarray .int, 2) := by decide +kernel
theorem dX2_init_33 : decode cX2_init 33 = .ok (.putfield 21, 3) := by decide +kernel
theorem dX2_init_36 : decode cX2_init 36 = .ok (.aload_n 0, 1) := by decide +kernel
theorem dX2_init_37 : decode cX2_init 37 = .ok (.bipush 6, 2) := by decide +kernel
theorem dX2_init_39 : decode cX2_init 39 = .ok (.newarray .int, 2) := by decide +kernel
theorem dX2_init_41 : decode cX2_init 41 = .ok (.putfield 24, 3) := by decide +kernel
theorem dX2_init_44 : decode cX2_init 44 = .ok (.aload_n 0, 1) := by decide +kernel
theorem dX2_init_45 : decode cX2_init 45 = .ok (.getfield 21, 3) := by decide +kernel
theorem dX2_init_48 : decode cX2_init 48 = .ok (.bipush 20, 2) := by decide +kernel
theorem dX2_init_50 : decode cX2_init 50 = .ok (.invokestatic 27, 3) := by decide +kernel
theorem dX2_init_53 : decode cX2_init 53 = .ok (.return_, 1) := by decide +kernel
theorem dX3_init_0 : decode cX3_init 0 = .ok (.aload_n 0, 1) := by decide +kernel
theorem dX3_init_1 : decode cX3_init 1 = .ok (.invokespecial 3, 3) := by decide +kernel
theorem dX3_init_4 : decode cX3_init 4 = .ok (.aload_n 0, 1) := by decide +kernel
theorem dX3_init_5 : decode cX3_init 5 = .ok (.bipush 64, 2) := by decide +kernel
theorem dX3_init_7 : decode cX3_init 7 = .ok (.newarray .int, 2) := by decide +kernel
theorem dX3_init_9 : decode cX3_init 9 = .ok (.putfield 9, 3) := by decide +kernel
theorem dX3_init_12 : decode cX3_init 12 = .ok (.aload_n 0, 1) := by decide +kernel
theorem dX3_init_13 : decode cX3_init 13 = .ok (.iconst 0, 1) := by decide +kernel
theorem dX3_init_14 : decode cX3_init 14 = .ok (.putfield 15, 3) := by decide +kernel
theorem dX3_init_17 : decode cX3_init 17 = .ok (.aload_n 0, 1) := by decide +kernel
theorem dX3_init_18 : decode cX3_init 18 = .ok (.getfield 9, 3) := by decide +kernel
theorem dX3_init_21 : decode cX3_init 21 = .ok (.iconst (-1), 1) := by decide +kernel
theorem dX3_init_22 : decode cX3_init 22 = .ok (.invokestatic 19, 3) := by decide +kernel
theorem dX3_init_25 : decode cX3_init 25 = .ok (.iconst 0, 1) := by decide +kernel
theorem dX3_init_26 : decode cX3_init 26 = .ok (.istore_n 1, 1) := by decide +kernel
theorem dX3_init_27 : decode cX3_init 27 = .ok (.iload_n 1, 1) := by decide +kernel
theorem dX3_init_28 : decode cX3_init 28 = .ok (.bipush 8, 2) := by decide +kernel
theorem dX3_init_30 : decode cX3_init 30 = .ok (.if_icmp .ge 21, 3) := by decide +kernel
theorem dX3_init_33 : decode cX3_init 33 = .ok (.aload_n 0, 1) := by decide +kernel
theorem dX3_init_34 : decode cX3_init 34 = .ok (.getfield 9, 3) := by decide +kernel
theorem dX3_init_37 : decode cX3_init 37 = .ok (.iload_n 1, 1) := by decide +kernel
theorem dX3_init_38 : decode cX3_init 38 = .ok (.bipush 8, 2) := by decide +kernel
theorem dX3_init_40 : decode cX3_init 40 = .ok (.imul, 1) := by decide +kernel
theorem dX3_init_41 : decode cX3_init 41 = .ok (.iload_n 1, 1) := by decide +kernel
theorem dX3_init_42 : decode cX3_init 42 = .ok (.iadd, 1) := by decide +kernel
theorem dX3_init_43 : decode cX3_init 43 = .ok (.iconst 0, 1) := by decide +kernel
theorem dX3_init_44 : decode cX3_init 44 = .ok (.iastore, 1) := by decide +kernel
theorem dX3_init_45 : decode cX3_init 45 = .ok (.iinc 1 1, 3) := by decide +kernel
theorem dX3_init_48 : decode cX3_init 48 = .ok (.goto (-21), 3) := by decide +kernel
theorem dX3_init_51 : decode cX3_init 51 = .ok (.return_, 1) := by decide +kernel
theorem dX3_way_0 : decode cX3_way 0 = .ok (.aload_n 0, 1) := by decide +kernel
theorem dX3_way_1 : decode cX3_way 1 = .ok (.getfield 9, 3) := by decide +kernel
theorem dX3_way_4 : decode cX3_way 4 = .ok (.iload_n 1, 1) := by decide +kernel
theorem dX3_way_5 : decode cX3_way 5 = .ok (.bipush 8, 2) := by decide +kernel
theorem dX3_way_7 : decode cX3_way 7 = .ok (.imul, 1) := by decide +kernel
theorem dX3_way_8 : decode cX3_way 8 = .ok (.iload_n 2, 1) := by decide +kernel
theorem dX3_way_9 : decode cX3_way 9 = .ok (.iadd, 1) := by decide +kernel
theorem dX3_way_10 : decode cX3_way 10 = .ok (.iaload, 1) := by decide +kernel
theorem dX3_way_11 : decode cX3_way 11 = .ok (.ireturn, 1) := by decide +kernel
theorem dX3_join_0 : decode cX3_join 0 = .ok (.aload_n 0, 1) := by decide +kernel
theorem dX3_join_1 : decode cX3_join 1 = .ok (.dup, 1) := by decide +kernel
theorem dX3_join_2 : decode cX3_join 2 = .ok (.getfield 15, 3) := by decide +kernel
theorem dX3_join_5 : decode cX3_join 5 = .ok (.iconst 1, 1) := by decide +kernel
theorem dX3_join_6 : decode cX3_join 6 = .ok (.iadd, 1) := by decide +kernel
theorem dX3_join_7 : decode cX3_join 7 = .ok (.putfield 15, 3) := by decide +kernel
theorem dX3_join_10 : decode cX3_join 10 = .ok (.iconst 0, 1) := by decide +kernel
theorem dX3_join_11 : decode cX3_join 11 = .ok (.istore 4, 2) := by decide +kernel
theorem dX3_join_13 : decode cX3_join 13 = .ok (.iload 4, 2) := by decide +kernel
theorem dX3_join_15 : decode cX3_join 15 = .ok (.bipush 8, 2) := by decide +kernel
theorem dX3_join_17 : decode cX3_join 17 = .ok (.if_icmp .ge 71, 3) := by decide +kernel
theorem dX3_join_20 : decode cX3_join 20 = .ok (.iconst 0, 1) := by decide +kernel
theorem dX3_join_21 : decode cX3_join 21 = .ok (.istore 5, 2) := by decide +kernel
theorem dX3_join_23 : decode cX3_join 23 = .ok (.iload 5, 2) := by decide +kernel
theorem dX3_join_25 : decode cX3_join 25 = .ok (.bipush 8, 2) := by decide +kernel
theorem dX3_join_27 : decode cX3_join 27 = .ok (.if_icmp .ge 55, 3) := by decide +kernel
theorem dX3_join_30 : decode cX3_join 30 = .ok (.aload_n 0, 1) := by decide +kernel
theorem dX3_join_31 : decode cX3_join 31 = .ok (.iload 4, 2) := by decide +kernel
theorem dX3_join_33 : decode cX3_join 33 = .ok (.iload 5, 2) := by decide +kernel
theorem dX3_join_35 : decode cX3_join 35 = .ok (.aload_n 0, 1) := by decide +kernel
theorem dX3_join_36 : decode cX3_join 36 = .ok (.iload 4, 2) := by decide +kernel
theorem dX3_join_38 : decode cX3_join 38 = .ok (.iload_n 1, 1) := by decide +kernel
theorem dX3_join_39 : decode cX3_join 39 = .ok (.invokevirtual 25, 3) := by decide +kernel
theorem dX3_join_42 : decode cX3_join 42 = .ok (.iload_n 3, 1) := by decide +kernel
theorem dX3_join_43 : decode cX3_join 43 = .ok (.aload_n 0, 1) := by decide +kernel
theorem dX3_join_44 : decode cX3_join 44 = .ok (.iload_n 2, 1) := by decide +kernel
theorem dX3_join_45 : decode cX3_join 45 = .ok (.iload 5, 2) := by decide +kernel
theorem dX3_join_47 : decode cX3_join 47 = .ok (.invokevirtual 25, 3) := by decide +kernel
theorem dX3_join_50 : decode cX3_join 50 = .ok (.invokevirtual 29, 3) := by decide +kernel
theorem dX3_join_53 : decode cX3_join 53 = .ok (.aload_n 0, 1) := by decide +kernel
theorem dX3_join_54 : decode cX3_join 54 = .ok (.iload 4, 2) := by decide +kernel
theorem dX3_join_56 : decode cX3_join 56 = .ok (.iload 5, 2) := by decide +kernel
theorem dX3_join_58 : decode cX3_join 58 = .ok (.aload_n 0, 1) := by decide +kernel
theorem dX3_join_59 : decode cX3_join 59 = .ok (.iload 4, 2) := by decide +kernel
theorem dX3_join_61 : decode cX3_join 61 = .ok (.iload_n 2, 1) := by decide +kernel
theorem dX3_join_62 : decode cX3_join 62 = .ok (.invokevirtual 25, 3) := by decide +kernel
theorem dX3_join_65 : decode cX3_join 65 = .ok (.iload_n 3, 1) := by decide +kernel
theorem dX3_join_66 : decode cX3_join 66 = .ok (.aload_n 0, 1) := by decide +kernel
theorem dX3_join_67 : decode cX3_join 67 = .ok (.iload_n 1, 1) := by decide +kernel
theorem dX3_join_68 : decode cX3_join 68 = .ok (.iload 5, 2) := by decide +kernel
theorem dX3_join_70 : decode cX3_join 70 = .ok (.invokevirtual 25, 3) := by decide +kernel
theorem dX3_join_73 : decode cX3_join 73 = .ok (.invokevirtual 29, 3) := by decide +kernel
theorem dX3_join_76 : decode cX3_join 76 = .ok (.iinc 5 1, 3) := by decide +kernel
theorem dX3_join_79 : decode cX3_join 79 = .ok (.goto (-56), 3) := by decide +kernel
theorem dX3_join_82 : decode cX3_join 82 = .ok (.iinc 4 1, 3) := by decide +kernel
theorem dX3_join_85 : decode cX3_join 85 = .ok (.goto (-72), 3) := by decide +kernel
theorem dX3_join_88 : decode cX3_join 88 = .ok (.return_, 1) := by decide +kernel
theorem dX3_shorten_0 : decode cX3_shorten 0 = .ok (.iload_n 3, 1) := by decide +kernel
theorem dX3_shorten_1 : decode cX3_shorten 1 = .ok (.iconst (-1), 1) := by decide +kernel
theorem dX3_shorten_2 : decode cX3_shorten 2 = .ok (.if_icmp .eq 9, 3) := by decide +kernel
theorem dX3_shorten_5 : decode cX3_shorten 5 = .ok (.iload 5, 2) := by decide +kernel
theorem dX3_shorten_7 : decode cX3_shorten 7 = .ok (.iconst (-1), 1) := by decide +kernel
theorem dX3_shorten_8 : decode cX3_shorten 8 = .ok (.if_icmp .ne 4, 3) := by decide +kernel
theorem dX3_shorten_11 : decode cX3_shorten 11 = .ok (.return_, 1) := by decide +kernel
theorem dX3_shorten_12 : decode cX3_shorten 12 = .ok (.aload_n 0, 1) := by decide +kernel
theorem dX3_shorten_13 : decode cX3_shorten 13 = .ok (.iload_n 1, 1) := by decide +kernel
theorem dX3_shorten_14 : decode cX3_shorten 14 = .ok (.iload_n 2, 1) := by decide +kernel
theorem dX3_shorten_15 : decode cX3_shorten 15 = .ok (.invokevirtual 25, 3) := by decide +kernel
theorem dX3_shorten_18 : decode cX3_shorten 18 = .ok (.istore 6, 2) := by decide +kernel
theorem dX3_shorten_20 : decode cX3_shorten 20 = .ok (.iload_n 3, 1) := by decide +kernel
theorem dX3_shorten_21 : decode cX3_shorten 21 = .ok (.iload 4, 2) := by decide +kernel
theorem dX3_shorten_23 : decode cX3_shorten 23 = .ok (.iadd, 1) := by decide +kernel
theorem dX3_shorten_24 : decode cX3_shorten 24 = .ok (.iload 5, 2) := by decide +kernel
theorem dX3_shorten_26 : decode cX3_shorten 26 = .ok (.iadd, 1) := by decide +kernel
theorem dX3_shorten_27 : decode cX3_shorten 27 = .ok (.istore 7, 2) := by decide +kernel
theorem dX3_shorten_29 : decode cX3_shorten 29 = .ok (.iload 6, 2) := by decide +kernel
theorem dX3_shorten_31 : decode cX3_shorten 31 = .ok (.iconst (-1), 1) := by decide +kernel
theorem dX3_shorten_32 : decode cX3_shorten 32 = .ok (.if_icmp .eq 10, 3) := by decide +kernel
theorem dX3_shorten_35 : decode cX3_shorten 35 = .ok (.iload 7, 2) := by decide +kernel
theorem dX3_shorten_37 : decode cX3_shorten 37 = .ok (.iload 6, 2) := by decide +kernel
theorem dX3_shorten_39 : decode cX3_shorten 39 = .ok (.if_icmp .ge 16, 3) := by decide +kernel
theorem dX3_shorten_42 : decode cX3_shorten 42 = .ok (.aload_n 0, 1) := by decide +kernel
theorem dX3_shorten_43 : decode cX3_shorten 43 = .ok (.getfield 9, 3) := by decide +kernel
theorem dX3_shorten_46 : decode cX3_shorten 46 = .ok (.iload_n 1, 1) := by decide +kernel
theorem dX3_shorten_47 : decode cX3_shorten 47 = .ok (.bipush 8, 2) := by decide +kernel
theorem dX3_shorten_49 : decode cX3_shorten 49 = .ok (.imul, 1) := by decide +kernel
theorem dX3_shorten_50 : decode cX3_shorten 50 = .ok (.iload_n 2, 1) := by decide +kernel
theorem dX3_shorten_51 : decode cX3_shorten 51 = .ok (.iadd, 1) := by decide +kernel
theorem dX3_shorten_52 : decode cX3_shorten 52 = .ok (.iload 7, 2) := by decide +kernel
theorem dX3_shorten_54 : decode cX3_shorten 54 = .ok (.iastore, 1) := by decide +kernel
theorem dX3_shorten_55 : decode cX3_shorten 55 = .ok (.return_, 1) := by decide +kernel
theorem dX4_init_0 : decode cX4_init 0 = .ok (.aload_n 0, 1) := by decide +kernel
theorem dX4_init_1 : decode cX4_init 1 = .ok (.invokespecial 3, 3) := by decide +kernel
theorem dX4_init_4 : decode cX4_init 4 = .ok (.aload_n 0, 1) := by decide +kernel
theorem dX4_init_5 : decode cX4_init 5 = .ok (.bipush 24, 2) := by decide +kernel
theorem dX4_init_7 : decode cX4_init 7 = .ok (.newarray .int, 2) := by decide +kernel
theorem dX4_init_9 : decode cX4_init 9 = .ok (.putfield 9, 3) := by decide +kernel
theorem dX4_init_12 : decode cX4_init 12 = .ok (.aload_n 0, 1) := by decide +kernel
theorem dX4_init_13 : decode cX4_init 13 = .ok (.bipush 24, 2) := by decide +kernel
theorem dX4_init_15 : decode cX4_init 15 = .ok (.newarray .int, 2) := by decide +kernel
theorem dX4_init_17 : decode cX4_init 17 = .ok (.putfield 15, 3) := by decide +kernel
theorem dX4_init_20 : decode cX4_init 20 = .ok (.aload_n 0, 1) := by decide +kernel
theorem dX4_init_21 : decode cX4_init 21 = .ok (.bipush 24, 2) := by decide +kernel
theorem dX4_init_23 : decode cX4_init 23 = .ok (.newarray .int, 2) := by decide +kernel
theorem dX4_init_25 : decode cX4_init 25 = .ok (.putfield 18, 3) := by decide +kernel
theorem dX4_init_28 : decode cX4_init 28 = .ok (.aload_n 0, 1) := by decide +kernel
theorem dX4_init_29 : decode cX4_init 29 = .ok (.bipush 24, 2) := by decide +kernel
theorem dX4_init_31 : decode cX4_init 31 = .ok (.newarray .int, 2) := by decide +kernel
theorem dX4_init_33 : decode cX4_init 33 = .ok (.putfield 21, 3) := by decide +kernel
theorem dX4_init_36 : decode cX4_init 36 = .ok (.aload_n 0, 1) := by decide +kernel
theorem dX4_init_37 : decode cX4_init 37 = .ok (.bipush 24, 2) := by decide +kernel
theorem dX4_init_39 : decode cX4_init 39 = .ok (.newarray .boolean, 2) := by decide +kernel
theorem dX4_init_41 : decode cX4_init 41 = .ok (.putfield 24, 3) := by decide +kernel
theorem dX4_init_44 : decode cX4_init 44 = .ok (.aload_n 0, 1) := by decide +kernel
theorem dX4_init_45 : decode cX4_init 45 = .ok (.iconst 0, 1) := by decide +kernel
theorem dX4_init_46 : decode cX4_init 46 = .ok (.putfield 28, 3) := by decide +kernel
theorem dX4_init_49 : decode cX4_init 49 = .ok (.return_, 1) := by decide +kernel
theorem dX4_give_0 : decode cX4_give 0 = .ok (.aload_n 0, 1) := by decide +kernel
theorem dX4_give_1 : decode cX4_give 1 = .ok (.getfield 9, 3) := by decide +kernel
theorem dX4_give_4 : decode cX4_give 4 = .ok (.aload_n 0, 1) := by decide +kernel
theorem dX4_give_5 : decode cX4_give 5 = .ok (.getfield 28, 3) := by decide +kernel
theorem dX4_give_8 : decode cX4_give 8 = .ok (.iload_n 1, 1) := by decide +kernel
theorem dX4_give_9 : decode cX4_give 9 = .ok (.iastore, 1) := by decide +kernel
theorem dX4_give_10 : decode cX4_give 10 = .ok (.aload_n 0, 1) := by decide +kernel
theorem dX4_give_11 : decode cX4_give 11 = .ok (.getfield 15, 3) := by decide +kernel
theorem dX4_give_14 : decode cX4_give 14 = .ok (.aload_n 0, 1) := by decide +kernel
theorem dX4_give_15 : decode cX4_give 15 = .ok (.getfield 28, 3) := by decide +kernel
theorem dX4_give_18 : decode cX4_give 18 = .ok (.iload_n 2, 1) := by decide +kernel
theorem dX4_give_19 : decode cX4_give 19 = .ok (.iastore, 1) := by decide +kernel
theorem dX4_give_20 : decode cX4_give 20 = .ok (.aload_n 0, 1) := by decide +kernel
theorem dX4_give_21 : decode cX4_give 21 = .ok (.getfield 18, 3) := by decide +kernel
theorem dX4_give_24 : decode cX4_give 24 = .ok (.aload_n 0, 1) := by decide +kernel
theorem dX4_give_25 : decode cX4_give 25 = .ok (.getfield 28, 3) := by decide +kernel
theorem dX4_give_28 : decode cX4_give 28 = .ok (.iload_n 3, 1) := by decide +kernel
theorem dX4_give_29 : decode cX4_give 29 = .ok (.iastore, 1) := by decide +kernel
theorem dX4_give_30 : decode cX4_give 30 = .ok (.aload_n 0, 1) := by decide +kernel
theorem dX4_give_31 : decode cX4_give 31 = .ok (.getfield 21, 3) := by decide +kernel
theorem dX4_give_34 : decode cX4_give 34 = .ok (.aload_n 0, 1) := by decide +kernel
theorem dX4_give_35 : decode cX4_give 35 = .ok (.getfield 28, 3) := by decide +kernel
theorem dX4_give_38 : decode cX4_give 38 = .ok (.iload 4, 2) := by decide +kernel
theorem dX4_give_40 : decode cX4_give 40 = .ok (.iastore, 1) := by decide +kernel
theorem dX4_give_41 : decode cX4_give 41 = .ok (.aload_n 0, 1) := by decide +kernel
theorem dX4_give_42 : decode cX4_give 42 = .ok (.getfield 24, 3) := by decide +kernel
theorem dX4_give_45 : decode cX4_give 45 = .ok (.aload_n 0, 1) := by decide +kernel
theorem dX4_give_46 : decode cX4_give 46 = .ok (.getfield 28, 3) := by decide +kernel
theorem dX4_give_49 : decode cX4_give 49 = .ok (.iload 5, 2) := by decide +kernel
theorem dX4_give_51 : decode cX4_give 51 = .ok (.bastore, 1) := by decide +kernel
theorem dX4_give_52 : decode cX4_give 52 = .ok (.aload_n 0, 1) := by decide +kernel
theorem dX4_give_53 : decode cX4_give 53 = .ok (.dup, 1) := by decide +kernel
theorem dX4_give_54 : decode cX4_give 54 = .ok (.getfield 28, 3) := by decide +kernel
theorem dX4_give_57 : decode cX4_give 57 = .ok (.dup_x1, 1) := by decide +kernel
theorem dX4_give_58 : decode cX4_give 58 = .ok (.iconst 1, 1) := by decide +kernel
theorem dX4_give_59 : decode cX4_give 59 = .ok (.iadd, 1) := by decide +kernel
theorem dX4_give_60 : decode cX4_give 60 = .ok (.putfield 28, 3) := by decide +kernel
theorem dX4_give_63 : decode cX4_give 63 = .ok (.ireturn, 1) := by decide +kernel
theorem dX4_bound_0 : decode cX4_bound 0 = .ok (.iload_n 1, 1) := by decide +kernel
theorem dX4_bound_1 : decode cX4_bound 1 = .ok (.istore 4, 2) := by decide +kernel
theorem dX4_bound_3 : decode cX4_bound 3 = .ok (.iconst 1, 1) := by decide +kernel
theorem dX4_bound_4 : decode cX4_bound 4 = .ok (.istore 5, 2) := by decide +kernel
theorem dX4_bound_6 : decode cX4_bound 6 = .ok (.iload 5, 2) := by decide +kernel
theorem dX4_bound_8 : decode cX4_bound 8 = .ok (.bipush 8, 2) := by decide +kernel
theorem dX4_bound_10 : decode cX4_bound 10 = .ok (.if_icmp .ge 92, 3) := by decide +kernel
theorem dX4_bound_13 : decode cX4_bound 13 = .ok (.iconst 0, 1) := by decide +kernel
theorem dX4_bound_14 : decode cX4_bound 14 = .ok (.istore 6, 2) := by decide +kernel
theorem dX4_bound_16 : decode cX4_bound 16 = .ok (.iload 6, 2) := by decide +kernel
theorem dX4_bound_18 : decode cX4_bound 18 = .ok (.aload_n 0, 1) := by decide +kernel
theorem dX4_bound_19 : decode cX4_bound 19 = .ok (.getfield 28, 3) := by decide +kernel
theorem dX4_bound_22 : decode cX4_bound 22 = .ok (.if_icmp .ge 74, 3) := by decide +kernel
theorem dX4_bound_25 : decode cX4_bound 25 = .ok (.aload_n 0, 1) := by decide +kernel
theorem dX4_bound_26 : decode cX4_bound 26 = .ok (.iload 6, 2) := by decide +kernel
theorem dX4_bound_28 : decode cX4_bound 28 = .ok (.iload_n 2, 1) := by decide +kernel
theorem dX4_bound_29 : decode cX4_bound 29 = .ok (.invokevirtual 32, 3) := by decide +kernel
theorem dX4_bound_32 : decode cX4_bound 32 = .ok (.ifCond .eq 21, 3) := by decide +kernel
theorem dX4_bound_35 : decode cX4_bound 35 = .ok (.aload_n 0, 1) := by decide +kernel
theorem dX4_bound_36 : decode cX4_bound 36 = .ok (.getfield 24, 3) := by decide +kernel
theorem dX4_bound_39 : decode cX4_bound 39 = .ok (.iload 6, 2) := by decide +kernel
theorem dX4_bound_41 : decode cX4_bound 41 = .ok (.baload, 1) := by decide +kernel
theorem dX4_bound_42 : decode cX4_bound 42 = .ok (.ifCond .ne 7, 3) := by decide +kernel
theorem dX4_bound_45 : decode cX4_bound 45 = .ok (.iload_n 3, 1) := by decide +kernel
theorem dX4_bound_46 : decode cX4_bound 46 = .ok (.ifCond .ne 7, 3) := by decide +kernel
theorem dX4_bound_49 : decode cX4_bound 49 = .ok (.iconst 1, 1) := by decide +kernel
theorem dX4_bound_50 : decode cX4_bound 50 = .ok (.goto 4, 3) := by decide +kernel
theorem dX4_bound_53 : decode cX4_bound 53 = .ok (.iconst 0, 1) := by decide +kernel
theorem dX4_bound_54 : decode cX4_bound 54 = .ok (.istore 7, 2) := by decide +kernel
theorem dX4_bound_56 : decode cX4_bound 56 = .ok (.iload 7, 2) := by decide +kernel
theorem dX4_bound_58 : decode cX4_bound 58 = .ok (.ifCond .eq 32, 3) := by decide +kernel
theorem dX4_bound_61 : decode cX4_bound 61 = .ok (.iload 4, 2) := by decide +kernel
theorem dX4_bound_63 : decode cX4_bound 63 = .ok (.aload_n 0, 1) := by decide +kernel
theorem dX4_bound_64 : decode cX4_bound 64 = .ok (.getfield 9, 3) := by decide +kernel
theorem dX4_bound_67 : decode cX4_bound 67 = .ok (.iload 6, 2) := by decide +kernel
theorem dX4_bound_69 : decode cX4_bound 69 = .ok (.iaload, 1) := by decide +kernel
theorem dX4_bound_70 : decode cX4_bound 70 = .ok (.invokestatic 36, 3) := by decide +kernel
theorem dX4_bound_73 : decode cX4_bound 73 = .ok (.ifCond .eq 17, 3) := by decide +kernel
theorem dX4_bound_76 : decode cX4_bound 76 = .ok (.iload 4, 2) := by decide +kernel
theorem dX4_bound_78 : decode cX4_bound 78 = .ok (.iconst 1, 1) := by decide +kernel
theorem dX4_bound_79 : decode cX4_bound 79 = .ok (.aload_n 0, 1) := by decide +kernel
theorem dX4_bound_80 : decode cX4_bound 80 = .ok (.getfield 15, 3) := by decide +kernel
theorem dX4_bound_83 : decode cX4_bound 83 = .ok (.iload 6, 2) := by decide +kernel
theorem dX4_bound_85 : decode cX4_bound 85 = .ok (.iaload, 1) := by decide +kernel
theorem dX4_bound_86 : decode cX4_bound 86 = .ok (.ishl, 1) := by decide +kernel
theorem dX4_bound_87 : decode cX4_bound 87 = .ok (.ior, 1) := by decide +kernel
theorem dX4_bound_88 : decode cX4_bound 88 = .ok (.istore 4, 2) := by decide +kernel
theorem dX4_bound_90 : decode cX4_bound 90 = .ok (.iinc 6 1, 3) := by decide +kernel
theorem dX4_bound_93 : decode cX4_bound 93 = .ok (.goto (-77), 3) := by decide +kernel
theorem dX4_bound_96 : decode cX4_bound 96 = .ok (.iinc 5 1, 3) := by decide +kernel
theorem dX4_bound_99 : decode cX4_bound 99 = .ok (.goto (-93), 3) := by decide +kernel
theorem dX4_bound_102 : decode cX4_bound 102 = .ok (.iload 4, 2) := by decide +kernel
theorem dX4_bound_104 : decode cX4_bound 104 = .ok (.ireturn, 1) := by decide +kernel
theorem dX4_inForce_0 : decode cX4_inForce 0 = .ok (.aload_n 0, 1) := by decide +kernel
theorem dX4_inForce_1 : decode cX4_inForce 1 = .ok (.getfield 18, 3) := by decide +kernel
theorem dX4_inForce_4 : decode cX4_inForce 4 = .ok (.iload_n 1, 1) := by decide +kernel
theorem dX4_inForce_5 : decode cX4_inForce 5 = .ok (.iaload, 1) := by decide +kernel
theorem dX4_inForce_6 : decode cX4_inForce 6 = .ok (.iload_n 2, 1) := by decide +kernel
theorem dX4_inForce_7 : decode cX4_inForce 7 = .ok (.if_icmp .gt 17, 3) := by decide +kernel
theorem dX4_inForce_10 : decode cX4_inForce 10 = .ok (.iload_n 2, 1) := by decide +kernel
theorem dX4_inForce_11 : decode cX4_inForce 11 = .ok (.aload_n 0, 1) := by decide +kernel
theorem dX4_inForce_12 : decode cX4_inForce 12 = .ok (.getfield 21, 3) := by decide +kernel
theorem dX4_inForce_15 : decode cX4_inForce 15 = .ok (.iload_n 1, 1) := by decide +kernel
theorem dX4_inForce_16 : decode cX4_inForce 16 = .ok (.iaload, 1) := by decide +kernel
theorem dX4_inForce_17 : decode cX4_inForce 17 = .ok (.if_icmp .gt 7, 3) := by decide +kernel
theorem dX4_inForce_20 : decode cX4_inForce 20 = .ok (.iconst 1, 1) := by decide +kernel
theorem dX4_inForce_21 : decode cX4_inForce 21 = .ok (.goto 4, 3) := by decide +kernel
theorem dX4_inForce_24 : decode cX4_inForce 24 = .ok (.iconst 0, 1) := by decide +kernel
theorem dX4_inForce_25 : decode cX4_inForce 25 = .ok (.ireturn, 1) := by decide +kernel
theorem dX5_init_0 : decode cX5_init 0 = .ok (.aload_n 0, 1) := by decide +kernel
theorem dX5_init_1 : decode cX5_init 1 = .ok (.invokespecial 3, 3) := by decide +kernel
theorem dX5_init_4 : decode cX5_init 4 = .ok (.aload_n 0, 1) := by decide +kernel
theorem dX5_init_5 : decode cX5_init 5 = .ok (.bipush 40, 2) := by decide +kernel
theorem dX5_init_7 : decode cX5_init 7 = .ok (.newarray .int, 2) := by decide +kernel
theorem dX5_init_9 : decode cX5_init 9 = .ok (.putfield 9, 3) := by decide +kernel
theorem dX5_init_12 : decode cX5_init 12 = .ok (.aload_n 0, 1) := by decide +kernel
theorem dX5_init_13 : decode cX5_init 13 = .ok (.bipush 40, 2) := by decide +kernel
theorem dX5_init_15 : decode cX5_init 15 = .ok (.newarray .int, 2) := by decide +kernel
theorem dX5_init_17 : decode cX5_init 17 = .ok (.putfield 15, 3) := by decide +kernel
theorem dX5_init_20 : decode cX5_init 20 = .ok (.aload_n 0, 1) := by decide +kernel
theorem dX5_init_21 : decode cX5_init 21 = .ok (.bipush 40, 2) := by decide +kernel
theorem dX5_init_23 : decode cX5_init 23 = .ok (.newarray .int, 2) := by decide +kernel
theorem dX5_init_25 : decode cX5_init 25 = .ok (.putfield 18, 3) := by decide +kernel
theorem dX5_init_28 : decode cX5_init 28 = .ok (.aload_n 0, 1) := by decide +kernel
theorem dX5_init_29 : decode cX5_init 29 = .ok (.bipush 40, 2) := by decide +kernel
theorem dX5_init_31 : decode cX5_init 31 = .ok (.newarray .int, 2) := by decide +kernel
theorem dX5_init_33 : decode cX5_init 33 = .ok (.putfield 21, 3) := by decide +kernel
theorem dX5_init_36 : decode cX5_init 36 = .ok (.aload_n 0, 1) := by decide +kernel
theorem dX5_init_37 : decode cX5_init 37 = .ok (.bipush 40, 2) := by decide +kernel
theorem dX5_init_39 : decode cX5_init 39 = .ok (.newarray .int, 2) := by decide +kernel
theorem dX5_init_41 : decode cX5_init 41 = .ok (.putfield 24, 3) := by decide +kernel
theorem dX5_init_44 : decode cX5_init 44 = .ok (.aload_n 0, 1) := by decide +kernel
theorem dX5_init_45 : decode cX5_init 45 = .ok (.bipush 40, 2) := by decide +kernel
theorem dX5_init_47 : decode cX5_init 47 = .ok (.newarray .int, 2) := by decide +kernel
theorem dX5_init_49 : decode cX5_init 49 = .ok (.putfield 27, 3) := by decide +kernel
theorem dX5_init_52 : decode cX5_init 52 = .ok (.aload_n 0, 1) := by decide +kernel
theorem dX5_init_53 : decode cX5_init 53 = .ok (.iconst 0, 1) := by decide +kernel
theorem dX5_init_54 : decode cX5_init 54 = .ok (.putfield 30, 3) := by decide +kernel
theorem dX5_init_57 : decode cX5_init 57 = .ok (.return_, 1) := by decide +kernel
theorem dX5_add_0 : decode cX5_add 0 = .ok (.aload_n 0, 1) := by decide +kernel
theorem dX5_add_1 : decode cX5_add 1 = .ok (.getfield 9, 3) := by decide +kernel
theorem dX5_add_4 : decode cX5_add 4 = .ok (.aload_n 0, 1) := by decide +kernel
theorem dX5_add_5 : decode cX5_add 5 = .ok (.getfield 30, 3) := by decide +kernel
theorem dX5_add_8 : decode cX5_add 8 = .ok (.iload_n 1, 1) := by decide +kernel
theorem dX5_add_9 : decode cX5_add 9 = .ok (.iastore, 1) := by decide +kernel
theorem dX5_add_10 : decode cX5_add 10 = .ok (.aload_n 0, 1) := by decide +kernel
theorem dX5_add_11 : decode cX5_add 11 = .ok (.getfield 15, 3) := by decide +kernel
theorem dX5_add_14 : decode cX5_add 14 = .ok (.aload_n 0, 1) := by decide +kernel
theorem dX5_add_15 : decode cX5_add 15 = .ok (.getfield 30, 3) := by decide +kernel
theorem dX5_add_18 : decode cX5_add 18 = .ok (.iload_n 2, 1) := by decide +kernel
theorem dX5_add_19 : decode cX5_add 19 = .ok (.iastore, 1) := by decide +kernel
theorem dX5_add_20 : decode cX5_add 20 = .ok (.aload_n 0, 1) := by decide +kernel
theorem dX5_add_21 : decode cX5_add 21 = .ok (.getfield 18, 3) := by decide +kernel
theorem dX5_add_24 : decode cX5_add 24 = .ok (.aload_n 0, 1) := by decide +kernel
theorem dX5_add_25 : decode cX5_add 25 = .ok (.getfield 30, 3) := by decide +kernel
theorem dX5_add_28 : decode cX5_add 28 = .ok (.iload_n 3, 1) := by decide +kernel
theorem dX5_add_29 : decode cX5_add 29 = .ok (.iastore, 1) := by decide +kernel
theorem dX5_add_30 : decode cX5_add 30 = .ok (.aload_n 0, 1) := by decide +kernel
theorem dX5_add_31 : decode cX5_add 31 = .ok (.getfield 21, 3) := by decide +kernel
theorem dX5_add_34 : decode cX5_add 34 = .ok (.aload_n 0, 1) := by decide +kernel
theorem dX5_add_35 : decode cX5_add 35 = .ok (.getfield 30, 3) := by decide +kernel
theorem dX5_add_38 : decode cX5_add 38 = .ok (.iload 4, 2) := by decide +kernel
theorem dX5_add_40 : decode cX5_add 40 = .ok (.iastore, 1) := by decide +kernel
theorem dX5_add_41 : decode cX5_add 41 = .ok (.aload_n 0, 1) := by decide +kernel
theorem dX5_add_42 : decode cX5_add 42 = .ok (.getfield 24, 3) := by decide +kernel
theorem dX5_add_45 : decode cX5_add 45 = .ok (.aload_n 0, 1) := by decide +kernel
theorem dX5_add_46 : decode cX5_add 46 = .ok (.getfield 30, 3) := by decide +kernel
theorem dX5_add_49 : decode cX5_add 49 = .ok (.iload 5, 2) := by decide +kernel
theorem dX5_add_51 : decode cX5_add 51 = .ok (.iastore, 1) := by decide +kernel
theorem dX5_add_52 : decode cX5_add 52 = .ok (.aload_n 0, 1) := by decide +kernel
theorem dX5_add_53 : decode cX5_add 53 = .ok (.dup, 1) := by decide +kernel
theorem dX5_add_54 : decode cX5_add 54 = .ok (.getfield 30, 3) := by decide +kernel
theorem dX5_add_57 : decode cX5_add 57 = .ok (.dup_x1, 1) := by decide +kernel
theorem dX5_add_58 : decode cX5_add 58 = .ok (.iconst 1, 1) := by decide +kernel
theorem dX5_add_59 : decode cX5_add 59 = .ok (.iadd, 1) := by decide +kernel
theorem dX5_add_60 : decode cX5_add 60 = .ok (.putfield 30, 3) := by decide +kernel
theorem dX5_add_63 : decode cX5_add 63 = .ok (.ireturn, 1) := by decide +kernel
theorem dX5_missing_0 : decode cX5_missing 0 = .ok (.aload_n 2, 1) := by decide +kernel
theorem dX5_missing_1 : decode cX5_missing 1 = .ok (.aload_n 0, 1) := by decide +kernel
theorem dX5_missing_2 : decode cX5_missing 2 = .ok (.getfield 9, 3) := by decide +kernel
theorem dX5_missing_5 : decode cX5_missing 5 = .ok (.iload_n 1, 1) := by decide +kernel
theorem dX5_missing_6 : decode cX5_missing 6 = .ok (.iaload, 1) := by decide +kernel
theorem dX5_missing_7 : decode cX5_missing 7 = .ok (.iaload, 1) := by decide +kernel
theorem dX5_missing_8 : decode cX5_missing 8 = .ok (.aload_n 0, 1) := by decide +kernel
theorem dX5_missing_9 : decode cX5_missing 9 = .ok (.getfield 27, 3) := by decide +kernel
theorem dX5_missing_12 : decode cX5_missing 12 = .ok (.iload_n 1, 1) := by decide +kernel
theorem dX5_missing_13 : decode cX5_missing 13 = .ok (.iaload, 1) := by decide +kernel
theorem dX5_missing_14 : decode cX5_missing 14 = .ok (.iconst (-1), 1) := by decide +kernel
theorem dX5_missing_15 : decode cX5_missing 15 = .ok (.ixor, 1) := by decide +kernel
theorem dX5_missing_16 : decode cX5_missing 16 = .ok (.iand, 1) := by decide +kernel
theorem dX5_missing_17 : decode cX5_missing 17 = .ok (.ireturn, 1) := by decide +kernel
theorem dX5_clashes_0 : decode cX5_clashes 0 = .ok (.aload_n 0, 1) := by decide +kernel
theorem dX5_clashes_1 : decode cX5_clashes 1 = .ok (.iload_n 1, 1) := by decide +kernel
theorem dX5_clashes_2 : decode cX5_clashes 2 = .ok (.aload_n 2, 1) := by decide +kernel
theorem dX5_clashes_3 : decode cX5_clashes 3 = .ok (.invokevirtual 34, 3) := by decide +kernel
theorem dX5_clashes_6 : decode cX5_clashes 6 = .ok (.ifCond .eq 24, 3) := by decide +kernel
theorem dX5_clashes_9 : decode cX5_clashes 9 = .ok (.aload_n 0, 1) := by decide +kernel
theorem dX5_clashes_10 : decode cX5_clashes 10 = .ok (.iload_n 1, 1) := by decide +kernel
theorem dX5_clashes_11 : decode cX5_clashes 11 = .ok (.aload_n 2, 1) := by decide +kernel
theorem dX5_clashes_12 : decode cX5_clashes 12 = .ok (.invokevirtual 34, 3) := by decide +kernel
theorem dX5_clashes_15 : decode cX5_clashes 15 = .ok (.aload_n 2, 1) := by decide +kernel
theorem dX5_clashes_16 : decode cX5_clashes 16 = .ok (.aload_n 0, 1) := by decide +kernel
theorem dX5_clashes_17 : decode cX5_clashes 17 = .ok (.getfield 9, 3) := by decide +kernel
theorem dX5_clashes_20 : decode cX5_clashes 20 = .ok (.iload_n 1, 1) := by decide +kernel
theorem dX5_clashes_21 : decode cX5_clashes 21 = .ok (.iaload, 1) := by decide +kernel
theorem dX5_clashes_22 : decode cX5_clashes 22 = .ok (.iaload, 1) := by decide +kernel
theorem dX5_clashes_23 : decode cX5_clashes 23 = .ok (.if_icmp .eq 7, 3) := by decide +kernel
theorem dX5_clashes_26 : decode cX5_clashes 26 = .ok (.iconst 1, 1) := by decide +kernel
theorem dX5_clashes_27 : decode cX5_clashes 27 = .ok (.goto 4, 3) := by decide +kernel
theorem dX5_clashes_30 : decode cX5_clashes 30 = .ok (.iconst 0, 1) := by decide +kernel
theorem dX5_clashes_31 : decode cX5_clashes 31 = .ok (.ireturn, 1) := by decide +kernel
theorem dX6_init_0 : decode cX6_init 0 = .ok (.aload_n 0, 1) := by decide +kernel
theorem dX6_init_1 : decode cX6_init 1 = .ok (.invokespecial 3, 3) := by decide +kernel
theorem dX6_init_4 : decode cX6_init 4 = .ok (.aload_n 0, 1) := by decide +kernel
theorem dX6_init_5 : decode cX6_init 5 = .ok (.bipush 40, 2) := by decide +kernel
theorem dX6_init_7 : decode cX6_init 7 = .ok (.newarray .int, 2) := by decide +kernel
theorem dX6_init_9 : decode cX6_init 9 = .ok (.putfield 9, 3) := by decide +kernel
theorem dX6_init_12 : decode cX6_init 12 = .ok (.aload_n 0, 1) := by decide +kernel
theorem dX6_init_13 : decode cX6_init 13 = .ok (.bipush 40, 2) := by decide +kernel
theorem dX6_init_15 : decode cX6_init 15 = .ok (.newarray .int, 2) := by decide +kernel
theorem dX6_init_17 : decode cX6_init 17 = .ok (.putfield 15, 3) := by decide +kernel
theorem dX6_init_20 : decode cX6_init 20 = .ok (.aload_n 0, 1) := by decide +kernel
theorem dX6_init_21 : decode cX6_init 21 = .ok (.bipush 40, 2) := by decide +kernel
theorem dX6_init_23 : decode cX6_init 23 = .ok (.newarray .int, 2) := by decide +kernel
theorem dX6_init_25 : decode cX6_init 25 = .ok (.putfield 18, 3) := by decide +kernel
theorem dX6_init_28 : decode cX6_init 28 = .ok (.aload_n 0, 1) := by decide +kernel
theorem dX6_init_29 : decode cX6_init 29 = .ok (.bipush 40, 2) := by decide +kernel
theorem dX6_init_31 : decode cX6_init 31 = .ok (.newarray .int, 2) := by decide +kernel
theorem dX6_init_33 : decode cX6_init 33 = .ok (.putfield 21, 3) := by decide +kernel
theorem dX6_init_36 : decode cX6_init 36 = .ok (.aload_n 0, 1) := by decide +kernel
theorem dX6_init_37 : decode cX6_init 37 = .ok (.bipush 96, 2) := by decide +kernel
theorem dX6_init_39 : decode cX6_init 39 = .ok (.newarray .int, 2) := by decide +kernel
theorem dX6_init_41 : decode cX6_init 41 = .ok (.putfield 24, 3) := by decide +kernel
theorem dX6_init_44 : decode cX6_init 44 = .ok (.aload_n 0, 1) := by decide +kernel
theorem dX6_init_45 : decode cX6_init 45 = .ok (.bipush 96, 2) := by decide +kernel
theorem dX6_init_47 : decode cX6_init 47 = .ok (.newarray .int, 2) := by decide +kernel
theorem dX6_init_49 : decode cX6_init 49 = .ok (.putfield 27, 3) := by decide +kernel
theorem dX6_init_52 : decode cX6_init 52 = .ok (.aload_n 0, 1) := by decide +kernel
theorem dX6_init_53 : decode cX6_init 53 = .ok (.iconst 0, 1) := by decide +kernel
theorem dX6_init_54 : decode cX6_init 54 = .ok (.putfield 30, 3) := by decide +kernel
theorem dX6_init_57 : decode cX6_init 57 = .ok (.aload_n 0, 1) := by decide +kernel
theorem dX6_init_58 : decode cX6_init 58 = .ok (.aload_n 1, 1) := by decide +kernel
theorem dX6_init_59 : decode cX6_init 59 = .ok (.putfield 34, 3) := by decide +kernel
theorem dX6_init_62 : decode cX6_init 62 = .ok (.return_, 1) := by decide +kernel
theorem dX6_give_0 : decode cX6_give 0 = .ok (.aload_n 0, 1) := by decide +kernel
theorem dX6_give_1 : decode cX6_give 1 = .ok (.getfield 9, 3) := by decide +kernel
theorem dX6_give_4 : decode cX6_give 4 = .ok (.aload_n 0, 1) := by decide +kernel
theorem dX6_give_5 : decode cX6_give 5 = .ok (.getfield 30, 3) := by decide +kernel
theorem dX6_give_8 : decode cX6_give 8 = .ok (.iload_n 1, 1) := by decide +kernel
theorem dX6_give_9 : decode cX6_give 9 = .ok (.iastore, 1) := by decide +kernel
theorem dX6_give_10 : decode cX6_give 10 = .ok (.aload_n 0, 1) := by decide +kernel
theorem dX6_give_11 : decode cX6_give 11 = .ok (.getfield 15, 3) := by decide +kernel
theorem dX6_give_14 : decode cX6_give 14 = .ok (.aload_n 0, 1) := by decide +kernel
theorem dX6_give_15 : decode cX6_give 15 = .ok (.getfield 30, 3) := by decide +kernel
theorem dX6_give_18 : decode cX6_give 18 = .ok (.iload_n 2, 1) := by decide +kernel
theorem dX6_give_19 : decode cX6_give 19 = .ok (.iastore, 1) := by decide +kernel
theorem dX6_give_20 : decode cX6_give 20 = .ok (.aload_n 0, 1) := by decide +kernel
theorem dX6_give_21 : decode cX6_give 21 = .ok (.getfield 18, 3) := by decide +kernel
theorem dX6_give_24 : decode cX6_give 24 = .ok (.aload_n 0, 1) := by decide +kernel
theorem dX6_give_25 : decode cX6_give 25 = .ok (.getfield 30, 3) := by decide +kernel
theorem dX6_give_28 : decode cX6_give 28 = .ok (.iload_n 3, 1) := by decide +kernel
theorem dX6_give_29 : decode cX6_give 29 = .ok (.iastore, 1) := by decide +kernel
theorem dX6_give_30 : decode cX6_give 30 = .ok (.aload_n 0, 1) := by decide +kernel
theorem dX6_give_31 : decode cX6_give 31 = .ok (.getfield 21, 3) := by decide +kernel
theorem dX6_give_34 : decode cX6_give 34 = .ok (.aload_n 0, 1) := by decide +kernel
theorem dX6_give_35 : decode cX6_give 35 = .ok (.getfield 30, 3) := by decide +kernel
theorem dX6_give_38 : decode cX6_give 38 = .ok (.iload 4, 2) := by decide +kernel
theorem dX6_give_40 : decode cX6_give 40 = .ok (.iastore, 1) := by decide +kernel
theorem dX6_give_41 : decode cX6_give 41 = .ok (.aload_n 0, 1) := by decide +kernel
theorem dX6_give_42 : decode cX6_give 42 = .ok (.dup, 1) := by decide +kernel
theorem dX6_give_43 : decode cX6_give 43 = .ok (.getfield 30, 3) := by decide +kernel
theorem dX6_give_46 : decode cX6_give 46 = .ok (.dup_x1, 1) := by decide +kernel
theorem dX6_give_47 : decode cX6_give 47 = .ok (.iconst 1, 1) := by decide +kernel
theorem dX6_give_48 : decode cX6_give 48 = .ok (.iadd, 1) := by decide +kernel
theorem dX6_give_49 : decode cX6_give 49 = .ok (.putfield 30, 3) := by decide +kernel
theorem dX6_give_52 : decode cX6_give 52 = .ok (.ireturn, 1) := by decide +kernel
theorem dX6_comes_0 : decode cX6_comes 0 = .ok (.aload_n 0, 1) := by decide +kernel
theorem dX6_comes_1 : decode cX6_comes 1 = .ok (.getfield 34, 3) := by decide +kernel
theorem dX6_comes_4 : decode cX6_comes 4 = .ok (.aload_n 0, 1) := by decide +kernel
theorem dX6_comes_5 : decode cX6_comes 5 = .ok (.getfield 18, 3) := by decide +kernel
theorem dX6_comes_8 : decode cX6_comes 8 = .ok (.iload_n 1, 1) := by decide +kernel
theorem dX6_comes_9 : decode cX6_comes 9 = .ok (.iaload, 1) := by decide +kernel
theorem dX6_comes_10 : decode cX6_comes 10 = .ok (.iload_n 2, 1) := by decide +kernel
theorem dX6_comes_11 : decode cX6_comes 11 = .ok (.invokevirtual 38, 3) := by decide +kernel
theorem dX6_comes_14 : decode cX6_comes 14 = .ok (.istore 4, 2) := by decide +kernel
theorem dX6_comes_16 : decode cX6_comes 16 = .ok (.iload 4, 2) := by decide +kernel
theorem dX6_comes_18 : decode cX6_comes 18 = .ok (.iconst (-1), 1) := by decide +kernel
theorem dX6_comes_19 : decode cX6_comes 19 = .ok (.if_icmp .ne 7, 3) := by decide +kernel
theorem dX6_comes_22 : decode cX6_comes 22 = .ok (.iconst (-1), 1) := by decide +kernel
theorem dX6_comes_23 : decode cX6_comes 23 = .ok (.goto 7, 3) := by decide +kernel
theorem dX6_comes_26 : decode cX6_comes 26 = .ok (.iload_n 3, 1) := by decide +kernel
theorem dX6_comes_27 : decode cX6_comes 27 = .ok (.iload 4, 2) := by decide +kernel
theorem dX6_comes_29 : decode cX6_comes 29 = .ok (.iadd, 1) := by decide +kernel
theorem dX6_comes_30 : decode cX6_comes 30 = .ok (.ireturn, 1) := by decide +kernel
theorem dX6_lateTowns_0 : decode cX6_lateTowns 0 = .ok (.iconst 0, 1) := by decide +kernel
theorem dX6_lateTowns_1 : decode cX6_lateTowns 1 = .ok (.istore_n 2, 1) := by decide +kernel
theorem dX6_lateTowns_2 : decode cX6_lateTowns 2 = .ok (.iconst 0, 1) := by decide +kernel
theorem dX6_lateTowns_3 : decode cX6_lateTowns 3 = .ok (.istore_n 3, 1) := by decide +kernel
theorem dX6_lateTowns_4 : decode cX6_lateTowns 4 = .ok (.iload_n 3, 1) := by decide +kernel
theorem dX6_lateTowns_5 : decode cX6_lateTowns 5 = .ok (.bipush 8, 2) := by decide +kernel
theorem dX6_lateTowns_7 : decode cX6_lateTowns 7 = .ok (.if_icmp .ge 45, 3) := by decide +kernel
theorem dX6_lateTowns_10 : decode cX6_lateTowns 10 = .ok (.aload_n 0, 1) := by decide +kernel
theorem dX6_lateTowns_11 : decode cX6_lateTowns 11 = .ok (.iload_n 1, 1) := by decide +kernel
theorem dX6_lateTowns_12 : decode cX6_lateTowns 12 = .ok (.iload_n 3, 1) := by decide +kernel
theorem dX6_lateTowns_13 : decode cX6_lateTowns 13 = .ok (.aload_n 0, 1) := by decide +kernel
theorem dX6_lateTowns_14 : decode cX6_lateTowns 14 = .ok (.getfield 21, 3) := by decide +kernel
theorem dX6_lateTowns_17 : decode cX6_lateTowns 17 = .ok (.iload_n 1, 1) := by decide +kernel
theorem dX6_lateTowns_18 : decode cX6_lateTowns 18 = .ok (.iaload, 1) := by decide +kernel
theorem dX6_lateTowns_19 : decode cX6_lateTowns 19 = .ok (.invokevirtual 44, 3) := by decide +kernel
theorem dX6_lateTowns_22 : decode cX6_lateTowns 22 = .ok (.istore 4, 2) := by decide +kernel
theorem dX6_lateTowns_24 : decode cX6_lateTowns 24 = .ok (.iload 4, 2) := by decide +kernel
theorem dX6_lateTowns_26 : decode cX6_lateTowns 26 = .ok (.iconst (-1), 1) := by decide +kernel
theorem dX6_lateTowns_27 : decode cX6_lateTowns 27 = .ok (.if_icmp .eq 19, 3) := by decide +kernel
theorem dX6_lateTowns_30 : decode cX6_lateTowns 30 = .ok (.aload_n 0, 1) := by decide +kernel
theorem dX6_lateTowns_31 : decode cX6_lateTowns 31 = .ok (.iload_n 1, 1) := by decide +kernel
theorem dX6_lateTowns_32 : decode cX6_lateTowns 32 = .ok (.iload 4, 2) := by decide +kernel
theorem dX6_lateTowns_34 : decode cX6_lateTowns 34 = .ok (.invokevirtual 48, 3) := by decide +kernel
theorem dX6_lateTowns_37 : decode cX6_lateTowns 37 = .ok (.ifCond .eq 9, 3) := by decide +kernel
theorem dX6_lateTowns_40 : decode cX6_lateTowns 40 = .ok (.iload_n 2, 1) := by decide +kernel
theorem dX6_lateTowns_41 : decode cX6_lateTowns 41 = .ok (.iconst 1, 1) := by decide +kernel
theorem dX6_lateTowns_42 : decode cX6_lateTowns 42 = .ok (.iload_n 3, 1) := by decide +kernel
theorem dX6_lateTowns_43 : decode cX6_lateTowns 43 = .ok (.ishl, 1) := by decide +kernel
theorem dX6_lateTowns_44 : decode cX6_lateTowns 44 = .ok (.ior, 1) := by decide +kernel
theorem dX6_lateTowns_45 : decode cX6_lateTowns 45 = .ok (.istore_n 2, 1) := by decide +kernel
theorem dX6_lateTowns_46 : decode cX6_lateTowns 46 = .ok (.iinc 3 1, 3) := by decide +kernel
theorem dX6_lateTowns_49 : decode cX6_lateTowns 49 = .ok (.goto (-45), 3) := by decide +kernel
theorem dX6_lateTowns_52 : decode cX6_lateTowns 52 = .ok (.iload_n 2, 1) := by decide +kernel
theorem dX6_lateTowns_53 : decode cX6_lateTowns 53 = .ok (.ireturn, 1) := by decide +kernel
theorem dX6_overtaken_0 : decode cX6_overtaken 0 = .ok (.iconst 0, 1) := by decide +kernel
theorem dX6_overtaken_1 : decode cX6_overtaken 1 = .ok (.istore_n 3, 1) := by decide +kernel
theorem dX6_overtaken_2 : decode cX6_overtaken 2 = .ok (.iload_n 3, 1) := by decide +kernel
theorem dX6_overtaken_3 : decode cX6_overtaken 3 = .ok (.aload_n 0, 1) := by decide +kernel
theorem dX6_overtaken_4 : decode cX6_overtaken 4 = .ok (.getfield 30, 3) := by decide +kernel
theorem dX6_overtaken_7 : decode cX6_overtaken 7 = .ok (.if_icmp .ge 80, 3) := by decide +kernel
theorem dX6_overtaken_10 : decode cX6_overtaken 10 = .ok (.aload_n 0, 1) := by decide +kernel
theorem dX6_overtaken_11 : decode cX6_overtaken 11 = .ok (.getfield 15, 3) := by decide +kernel
theorem dX6_overtaken_14 : decode cX6_overtaken 14 = .ok (.iload_n 3, 1) := by decide +kernel
theorem dX6_overtaken_15 : decode cX6_overtaken 15 = .ok (.iaload, 1) := by decide +kernel
theorem dX6_overtaken_16 : decode cX6_overtaken 16 = .ok (.aload_n 0, 1) := by decide +kernel
theorem dX6_overtaken_17 : decode cX6_overtaken 17 = .ok (.getfield 15, 3) := by decide +kernel
theorem dX6_overtaken_20 : decode cX6_overtaken 20 = .ok (.iload_n 1, 1) := by decide +kernel
theorem dX6_overtaken_21 : decode cX6_overtaken 21 = .ok (.iaload, 1) := by decide +kernel
theorem dX6_overtaken_22 : decode cX6_overtaken 22 = .ok (.if_icmp .ne 24, 3) := by decide +kernel
theorem dX6_overtaken_25 : decode cX6_overtaken 25 = .ok (.aload_n 0, 1) := by decide +kernel
theorem dX6_overtaken_26 : decode cX6_overtaken 26 = .ok (.getfield 9, 3) := by decide +kernel
theorem dX6_overtaken_29 : decode cX6_overtaken 29 = .ok (.iload_n 3, 1) := by decide +kernel
theorem dX6_overtaken_30 : decode cX6_overtaken 30 = .ok (.iaload, 1) := by decide +kernel
theorem dX6_overtaken_31 : decode cX6_overtaken 31 = .ok (.aload_n 0, 1) := by decide +kernel
theorem dX6_overtaken_32 : decode cX6_overtaken 32 = .ok (.getfield 9, 3) := by decide +kernel
theorem dX6_overtaken_35 : decode cX6_overtaken 35 = .ok (.iload_n 1, 1) := by decide +kernel
theorem dX6_overtaken_36 : decode cX6_overtaken 36 = .ok (.iaload, 1) := by decide +kernel
theorem dX6_overtaken_37 : decode cX6_overtaken 37 = .ok (.iconst 1, 1) := by decide +kernel
theorem dX6_overtaken_38 : decode cX6_overtaken 38 = .ok (.ixor, 1) := by decide +kernel
theorem dX6_overtaken_39 : decode cX6_overtaken 39 = .ok (.if_icmp .ne 7, 3) := by decide +kernel
theorem dX6_overtaken_42 : decode cX6_overtaken 42 = .ok (.iconst 1, 1) := by decide +kernel
theorem dX6_overtaken_43 : decode cX6_overtaken 43 = .ok (.goto 4, 3) := by decide +kernel
theorem dX6_overtaken_46 : decode cX6_overtaken 46 = .ok (.iconst 0, 1) := by decide +kernel
theorem dX6_overtaken_47 : decode cX6_overtaken 47 = .ok (.istore 4, 2) := by decide +kernel
theorem dX6_overtaken_49 : decode cX6_overtaken 49 = .ok (.iload 4, 2) := by decide +kernel
theorem dX6_overtaken_51 : decode cX6_overtaken 51 = .ok (.ifCond .eq 30, 3) := by decide +kernel
theorem dX6_overtaken_54 : decode cX6_overtaken 54 = .ok (.aload_n 0, 1) := by decide +kernel
theorem dX6_overtaken_55 : decode cX6_overtaken 55 = .ok (.getfield 21, 3) := by decide +kernel
theorem dX6_overtaken_58 : decode cX6_overtaken 58 = .ok (.iload_n 3, 1) := by decide +kernel
theorem dX6_overtaken_59 : decode cX6_overtaken 59 = .ok (.iaload, 1) := by decide +kernel
theorem dX6_overtaken_60 : decode cX6_overtaken 60 = .ok (.aload_n 0, 1) := by decide +kernel
theorem dX6_overtaken_61 : decode cX6_overtaken 61 = .ok (.getfield 21, 3) := by decide +kernel
theorem dX6_overtaken_64 : decode cX6_overtaken 64 = .ok (.iload_n 1, 1) := by decide +kernel
theorem dX6_overtaken_65 : decode cX6_overtaken 65 = .ok (.iaload, 1) := by decide +kernel
theorem dX6_overtaken_66 : decode cX6_overtaken 66 = .ok (.if_icmp .le 15, 3) := by decide +kernel
theorem dX6_overtaken_69 : decode cX6_overtaken 69 = .ok (.aload_n 0, 1) := by decide +kernel
theorem dX6_overtaken_70 : decode cX6_overtaken 70 = .ok (.getfield 21, 3) := by decide +kernel
theorem dX6_overtaken_73 : decode cX6_overtaken 73 = .ok (.iload_n 3, 1) := by decide +kernel
theorem dX6_overtaken_74 : decode cX6_overtaken 74 = .ok (.iaload, 1) := by decide +kernel
theorem dX6_overtaken_75 : decode cX6_overtaken 75 = .ok (.iload_n 2, 1) := by decide +kernel
theorem dX6_overtaken_76 : decode cX6_overtaken 76 = .ok (.if_icmp .gt 5, 3) := by decide +kernel
theorem dX6_overtaken_79 : decode cX6_overtaken 79 = .ok (.iconst 1, 1) := by decide +kernel
theorem dX6_overtaken_80 : decode cX6_overtaken 80 = .ok (.ireturn, 1) := by decide +kernel
theorem dX6_overtaken_81 : decode cX6_overtaken 81 = .ok (.iinc 3 1, 3) := by decide +kernel
theorem dX6_overtaken_84 : decode cX6_overtaken 84 = .ok (.goto (-82), 3) := by decide +kernel
theorem dX6_overtaken_87 : decode cX6_overtaken 87 = .ok (.iconst 0, 1) := by decide +kernel
theorem dX6_overtaken_88 : decode cX6_overtaken 88 = .ok (.ireturn, 1) := by decide +kernel
theorem dX6_listen_0 : decode cX6_listen 0 = .ok (.aload_n 0, 1) := by decide +kernel
theorem dX6_listen_1 : decode cX6_listen 1 = .ok (.getfield 24, 3) := by decide +kernel
theorem dX6_listen_4 : decode cX6_listen 4 = .ok (.iconst (-1), 1) := by decide +kernel
theorem dX6_listen_5 : decode cX6_listen 5 = .ok (.invokestatic 52, 3) := by decide +kernel
theorem dX6_listen_8 : decode cX6_listen 8 = .ok (.aload_n 0, 1) := by decide +kernel
theorem dX6_listen_9 : decode cX6_listen 9 = .ok (.getfield 27, 3) := by decide +kernel
theorem dX6_listen_12 : decode cX6_listen 12 = .ok (.iconst (-1), 1) := by decide +kernel
theorem dX6_listen_13 : decode cX6_listen 13 = .ok (.invokestatic 52, 3) := by decide +kernel
theorem dX6_listen_16 : decode cX6_listen 16 = .ok (.aload_n 0, 1) := by decide +kernel
theorem dX6_listen_17 : decode cX6_listen 17 = .ok (.invokevirtual 58, 3) := by decide +kernel
theorem dX6_listen_20 : decode cX6_listen 20 = .ok (.istore_n 3, 1) := by decide +kernel
theorem dX6_listen_21 : decode cX6_listen 21 = .ok (.iconst 0, 1) := by decide +kernel
theorem dX6_listen_22 : decode cX6_listen 22 = .ok (.istore 4, 2) := by decide +kernel
theorem dX6_listen_24 : decode cX6_listen 24 = .ok (.iload 4, 2) := by decide +kernel
theorem dX6_listen_26 : decode cX6_listen 26 = .ok (.aload_n 0, 1) := by decide +kernel
theorem dX6_listen_27 : decode cX6_listen 27 = .ok (.getfield 30, 3) := by decide +kernel
theorem dX6_listen_30 : decode cX6_listen 30 = .ok (.if_icmp .ge 51, 3) := by decide +kernel
theorem dX6_listen_33 : decode cX6_listen 33 = .ok (.iload_n 2, 1) := by decide +kernel
theorem dX6_listen_34 : decode cX6_listen 34 = .ok (.ifCond .eq 17, 3) := by decide +kernel
theorem dX6_listen_37 : decode cX6_listen 37 = .ok (.aload_n 0, 1) := by decide +kernel
theorem dX6_listen_38 : decode cX6_listen 38 = .ok (.getfield 9, 3) := by decide +kernel
theorem dX6_listen_41 : decode cX6_listen 41 = .ok (.iload 4, 2) := by decide +kernel
theorem dX6_listen_43 : decode cX6_listen 43 = .ok (.iaload, 1) := by decide +kernel
theorem dX6_listen_44 : decode cX6_listen 44 = .ok (.ifCond .ne 7, 3) := by decide +kernel
theorem dX6_listen_47 : decode cX6_listen 47 = .ok (.iload_n 3, 1) := by decide +kernel
theorem dX6_listen_48 : decode cX6_listen 48 = .ok (.goto 10, 3) := by decide +kernel
theorem dX6_listen_51 : decode cX6_listen 51 = .ok (.aload_n 0, 1) := by decide +kernel
theorem dX6_listen_52 : decode cX6_listen 52 = .ok (.getfield 21, 3) := by decide +kernel
theorem dX6_listen_55 : decode cX6_listen 55 = .ok (.iload 4, 2) := by decide +kernel
theorem dX6_listen_57 : decode cX6_listen 57 = .ok (.iaload, 1) := by decide +kernel
theorem dX6_listen_58 : decode cX6_listen 58 = .ok (.istore 5, 2) := by decide +kernel
theorem dX6_listen_60 : decode cX6_listen 60 = .ok (.iload 5, 2) := by decide +kernel
theorem dX6_listen_62 : decode cX6_listen 62 = .ok (.iload_n 1, 1) := by decide +kernel
theorem dX6_listen_63 : decode cX6_listen 63 = .ok (.if_icmp .gt 12, 3) := by decide +kernel
theorem dX6_listen_66 : decode cX6_listen 66 = .ok (.aload_n 0, 1) := by decide +kernel
theorem dX6_listen_67 : decode cX6_listen 67 = .ok (.iload 4, 2) := by decide +kernel
theorem dX6_listen_69 : decode cX6_listen 69 = .ok (.iload 5, 2) := by decide +kernel
theorem dX6_listen_71 : decode cX6_listen 71 = .ok (.iload_n 1, 1) := by decide +kernel
theorem dX6_listen_72 : decode cX6_listen 72 = .ok (.invokevirtual 62, 3) := by decide +kernel
theorem dX6_listen_75 : decode cX6_listen 75 = .ok (.iinc 4 1, 3) := by decide +kernel
theorem dX6_listen_78 : decode cX6_listen 78 = .ok (.goto (-54), 3) := by decide +kernel
theorem dX6_listen_81 : decode cX6_listen 81 = .ok (.return_, 1) := by decide +kernel
theorem dX6_spread_0 : decode cX6_spread 0 = .ok (.aload_n 0, 1) := by decide +kernel
theorem dX6_spread_1 : decode cX6_spread 1 = .ok (.getfield 9, 3) := by decide +kernel
theorem dX6_spread_4 : decode cX6_spread 4 = .ok (.iload_n 1, 1) := by decide +kernel
theorem dX6_spread_5 : decode cX6_spread 5 = .ok (.iaload, 1) := by decide +kernel
theorem dX6_spread_6 : decode cX6_spread 6 = .ok (.iconst 2, 1) := by decide +kernel
theorem dX6_spread_7 : decode cX6_spread 7 = .ok (.idiv, 1) := by decide +kernel
theorem dX6_spread_8 : decode cX6_spread 8 = .ok (.bipush 48, 2) := by decide +kernel
theorem dX6_spread_10 : decode cX6_spread 10 = .ok (.imul, 1) := by decide +kernel
theorem dX6_spread_11 : decode cX6_spread 11 = .ok (.aload_n 0, 1) := by decide +kernel
theorem dX6_spread_12 : decode cX6_spread 12 = .ok (.getfield 15, 3) := by decide +kernel
theorem dX6_spread_15 : decode cX6_spread 15 = .ok (.iload_n 1, 1) := by decide +kernel
theorem dX6_spread_16 : decode cX6_spread 16 = .ok (.iaload, 1) := by decide +kernel
theorem dX6_spread_17 : decode cX6_spread 17 = .ok (.bipush 8, 2) := by decide +kernel
theorem dX6_spread_19 : decode cX6_spread 19 = .ok (.imul, 1) := by decide +kernel
theorem dX6_spread_20 : decode cX6_spread 20 = .ok (.iadd, 1) := by decide +kernel
theorem dX6_spread_21 : decode cX6_spread 21 = .ok (.istore 4, 2) := by decide +kernel
theorem dX6_spread_23 : decode cX6_spread 23 = .ok (.iconst 0, 1) := by decide +kernel
theorem dX6_spread_24 : decode cX6_spread 24 = .ok (.istore 5, 2) := by decide +kernel
theorem dX6_spread_26 : decode cX6_spread 26 = .ok (.iload 5, 2) := by decide +kernel
theorem dX6_spread_28 : decode cX6_spread 28 = .ok (.bipush 8, 2) := by decide +kernel
theorem dX6_spread_30 : decode cX6_spread 30 = .ok (.if_icmp .ge 72, 3) := by decide +kernel
theorem dX6_spread_33 : decode cX6_spread 33 = .ok (.aload_n 0, 1) := by decide +kernel
theorem dX6_spread_34 : decode cX6_spread 34 = .ok (.iload_n 1, 1) := by decide +kernel
theorem dX6_spread_35 : decode cX6_spread 35 = .ok (.iload 5, 2) := by decide +kernel
theorem dX6_spread_37 : decode cX6_spread 37 = .ok (.iload_n 2, 1) := by decide +kernel
theorem dX6_spread_38 : decode cX6_spread 38 = .ok (.invokevirtual 44, 3) := by decide +kernel
theorem dX6_spread_41 : decode cX6_spread 41 = .ok (.istore 6, 2) := by decide +kernel
theorem dX6_spread_43 : decode cX6_spread 43 = .ok (.iload 6, 2) := by decide +kernel
theorem dX6_spread_45 : decode cX6_spread 45 = .ok (.iconst (-1), 1) := by decide +kernel
theorem dX6_spread_46 : decode cX6_spread 46 = .ok (.if_icmp .eq 50, 3) := by decide +kernel
theorem dX6_spread_49 : decode cX6_spread 49 = .ok (.iload 6, 2) := by decide +kernel
theorem dX6_spread_51 : decode cX6_spread 51 = .ok (.iload_n 3, 1) := by decide +kernel
theorem dX6_spread_52 : decode cX6_spread 52 = .ok (.if_icmp .gt 44, 3) := by decide +kernel
theorem dX6_spread_55 : decode cX6_spread 55 = .ok (.iload 6, 2) := by decide +kernel
theorem dX6_spread_57 : decode cX6_spread 57 = .ok (.aload_n 0, 1) := by decide +kernel
theorem dX6_spread_58 : decode cX6_spread 58 = .ok (.getfield 27, 3) := by decide +kernel
theorem dX6_spread_61 : decode cX6_spread 61 = .ok (.iload 4, 2) := by decide +kernel
theorem dX6_spread_63 : decode cX6_spread 63 = .ok (.iload 5, 2) := by decide +kernel
theorem dX6_spread_65 : decode cX6_spread 65 = .ok (.iadd, 1) := by decide +kernel
theorem dX6_spread_66 : decode cX6_spread 66 = .ok (.iaload, 1) := by decide +kernel
theorem dX6_spread_67 : decode cX6_spread 67 = .ok (.if_icmp .ge 6, 3) := by decide +kernel
theorem dX6_spread_70 : decode cX6_spread 70 = .ok (.goto 26, 3) := by decide +kernel
theorem dX6_spread_73 : decode cX6_spread 73 = .ok (.aload_n 0, 1) := by decide +kernel
theorem dX6_spread_74 : decode cX6_spread 74 = .ok (.getfield 27, 3) := by decide +kernel
theorem dX6_spread_77 : decode cX6_spread 77 = .ok (.iload 4, 2) := by decide +kernel
theorem dX6_spread_79 : decode cX6_spread 79 = .ok (.iload 5, 2) := by decide +kernel
theorem dX6_spread_81 : decode cX6_spread 81 = .ok (.iadd, 1) := by decide +kernel
theorem dX6_spread_82 : decode cX6_spread 82 = .ok (.iload 6, 2) := by decide +kernel
theorem dX6_spread_84 : decode cX6_spread 84 = .ok (.iastore, 1) := by decide +kernel
theorem dX6_spread_85 : decode cX6_spread 85 = .ok (.aload_n 0, 1) := by decide +kernel
theorem dX6_spread_86 : decode cX6_spread 86 = .ok (.getfield 24, 3) := by decide +kernel
theorem dX6_spread_89 : decode cX6_spread 89 = .ok (.iload 4, 2) := by decide +kernel
theorem dX6_spread_91 : decode cX6_spread 91 = .ok (.iload 5, 2) := by decide +kernel
theorem dX6_spread_93 : decode cX6_spread 93 = .ok (.iadd, 1) := by decide +kernel
theorem dX6_spread_94 : decode cX6_spread 94 = .ok (.iload_n 1, 1) := by decide +kernel
theorem dX6_spread_95 : decode cX6_spread 95 = .ok (.iastore, 1) := by decide +kernel
theorem dX6_spread_96 : decode cX6_spread 96 = .ok (.iinc 5 1, 3) := by decide +kernel
theorem dX6_spread_99 : decode cX6_spread 99 = .ok (.goto (-73), 3) := by decide +kernel
theorem dX6_spread_102 : decode cX6_spread 102 = .ok (.return_, 1) := by decide +kernel
theorem dX6_firstCallHour_0 : decode cX6_firstCallHour 0 = .ok (.sipush 240, 3) := by decide +kernel
theorem dX6_firstCallHour_3 : decode cX6_firstCallHour 3 = .ok (.istore_n 1, 1) := by decide +kernel
theorem dX6_firstCallHour_4 : decode cX6_firstCallHour 4 = .ok (.iconst 0, 1) := by decide +kernel
theorem dX6_firstCallHour_5 : decode cX6_firstCallHour 5 = .ok (.istore_n 2, 1) := by decide +kernel
theorem dX6_firstCallHour_6 : decode cX6_firstCallHour 6 = .ok (.iload_n 2, 1) := by decide +kernel
theorem dX6_firstCallHour_7 : decode cX6_firstCallHour 7 = .ok (.aload_n 0, 1) := by decide +kernel
theorem dX6_firstCallHour_8 : decode cX6_firstCallHour 8 = .ok (.getfield 30, 3) := by decide +kernel
theorem dX6_firstCallHour_11 : decode cX6_firstCallHour 11 = .ok (.if_icmp .ge 29, 3) := by decide +kernel
theorem dX6_firstCallHour_14 : decode cX6_firstCallHour 14 = .ok (.aload_n 0, 1) := by decide +kernel
theorem dX6_firstCallHour_15 : decode cX6_firstCallHour 15 = .ok (.getfield 9, 3) := by decide +kernel
theorem dX6_firstCallHour_18 : decode cX6_firstCallHour 18 = .ok (.iload_n 2, 1) := by decide +kernel
theorem dX6_firstCallHour_19 : decode cX6_firstCallHour 19 = .ok (.iaload, 1) := by decide +kernel
theorem dX6_firstCallHour_20 : decode cX6_firstCallHour 20 = .ok (.ifCond .ne 14, 3) := by decide +kernel
theorem dX6_firstCallHour_23 : decode cX6_firstCallHour 23 = .ok (.iload_n 1, 1) := by decide +kernel
theorem dX6_firstCallHour_24 : decode cX6_firstCallHour 24 = .ok (.aload_n 0, 1) := by decide +kernel
theorem dX6_firstCallHour_25 : decode cX6_firstCallHour 25 = .ok (.getfield 21, 3) := by decide +kernel
theorem dX6_firstCallHour_28 : decode cX6_firstCallHour 28 = .ok (.iload_n 2, 1) := by decide +kernel
theorem dX6_firstCallHour_29 : decode cX6_firstCallHour 29 = .ok (.iaload, 1) := by decide +kernel
theorem dX6_firstCallHour_30 : decode cX6_firstCallHour 30 = .ok (.invokestatic 66, 3) := by decide +kernel
theorem dX6_firstCallHour_33 : decode cX6_firstCallHour 33 = .ok (.istore_n 1, 1) := by decide +kernel
theorem dX6_firstCallHour_34 : decode cX6_firstCallHour 34 = .ok (.iinc 2 1, 3) := by decide +kernel
theorem dX6_firstCallHour_37 : decode cX6_firstCallHour 37 = .ok (.goto (-31), 3) := by decide +kernel
theorem dX6_firstCallHour_40 : decode cX6_firstCallHour 40 = .ok (.iload_n 1, 1) := by decide +kernel
theorem dX6_firstCallHour_41 : decode cX6_firstCallHour 41 = .ok (.ireturn, 1) := by decide +kernel
theorem dX6_calls_0 : decode cX6_calls 0 = .ok (.aload_n 0, 1) := by decide +kernel
theorem dX6_calls_1 : decode cX6_calls 1 = .ok (.getfield 24, 3) := by decide +kernel
theorem dX6_calls_4 : decode cX6_calls 4 = .ok (.iload_n 1, 1) := by decide +kernel
theorem dX6_calls_5 : decode cX6_calls 5 = .ok (.iaload, 1) := by decide +kernel
theorem dX6_calls_6 : decode cX6_calls 6 = .ok (.istore_n 2, 1) := by decide +kernel
theorem dX6_calls_7 : decode cX6_calls 7 = .ok (.aload_n 0, 1) := by decide +kernel
theorem dX6_calls_8 : decode cX6_calls 8 = .ok (.getfield 24, 3) := by decide +kernel
theorem dX6_calls_11 : decode cX6_calls 11 = .ok (.bipush 48, 2) := by decide +kernel
theorem dX6_calls_13 : decode cX6_calls 13 = .ok (.iload_n 1, 1) := by decide +kernel
theorem dX6_calls_14 : decode cX6_calls 14 = .ok (.iadd, 1) := by decide +kernel
theorem dX6_calls_15 : decode cX6_calls 15 = .ok (.iaload, 1) := by decide +kernel
theorem dX6_calls_16 : decode cX6_calls 16 = .ok (.istore_n 3, 1) := by decide +kernel
theorem dX6_calls_17 : decode cX6_calls 17 = .ok (.iload_n 2, 1) := by decide +kernel
theorem dX6_calls_18 : decode cX6_calls 18 = .ok (.iconst (-1), 1) := by decide +kernel
theorem dX6_calls_19 : decode cX6_calls 19 = .ok (.if_icmp .eq 31, 3) := by decide +kernel
theorem dX6_calls_22 : decode cX6_calls 22 = .ok (.aload_n 0, 1) := by decide +kernel
theorem dX6_calls_23 : decode cX6_calls 23 = .ok (.getfield 9, 3) := by decide +kernel
theorem dX6_calls_26 : decode cX6_calls 26 = .ok (.iload_n 2, 1) := by decide +kernel
theorem dX6_calls_27 : decode cX6_calls 27 = .ok (.iaload, 1) := by decide +kernel
theorem dX6_calls_28 : decode cX6_calls 28 = .ok (.ifCond .ne 22, 3) := by decide +kernel
theorem dX6_calls_31 : decode cX6_calls 31 = .ok (.iload_n 3, 1) := by decide +kernel
theorem dX6_calls_32 : decode cX6_calls 32 = .ok (.iconst (-1), 1) := by decide +kernel
theorem dX6_calls_33 : decode cX6_calls 33 = .ok (.if_icmp .eq 13, 3) := by decide +kernel
theorem dX6_calls_36 : decode cX6_calls 36 = .ok (.aload_n 0, 1) := by decide +kernel
theorem dX6_calls_37 : decode cX6_calls 37 = .ok (.getfield 9, 3) := by decide +kernel
theorem dX6_calls_40 : decode cX6_calls 40 = .ok (.iload_n 3, 1) := by decide +kernel
theorem dX6_calls_41 : decode cX6_calls 41 = .ok (.iaload, 1) := by decide +kernel
theorem dX6_calls_42 : decode cX6_calls 42 = .ok (.iconst 2, 1) := by decide +kernel
theorem dX6_calls_43 : decode cX6_calls 43 = .ok (.if_icmp .eq 7, 3) := by decide +kernel
theorem dX6_calls_46 : decode cX6_calls 46 = .ok (.iconst 1, 1) := by decide +kernel
theorem dX6_calls_47 : decode cX6_calls 47 = .ok (.goto 4, 3) := by decide +kernel
theorem dX6_calls_50 : decode cX6_calls 50 = .ok (.iconst 0, 1) := by decide +kernel
theorem dX6_calls_51 : decode cX6_calls 51 = .ok (.ireturn, 1) := by decide +kernel
