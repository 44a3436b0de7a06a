theorem dX10_called_7 : decode cX10_called 7 = .ok (.iload_n 2, 1) := by decide +kernel
theorem dX10_called_8 : decode cX10_called 8 = .ok (.invokestatic 158, 3) := by decide +kernel
theorem dX10_called_11 : decode cX10_called 11 = .ok (.ifCond .ne 7, 3) := by decide +kernel
theorem dX10_called_14 : decode cX10_called 14 = .ok (.sipush (-1001), 3) := by decide +kernel
theorem dX10_called_17 : decode cX10_called 17 = .ok (.ireturn, 1) := by decide +kernel
theorem dX10_called_18 : decode cX10_called 18 = .ok (.iload_n 3, 1) := by decide +kernel
theorem dX10_called_19 : decode cX10_called 19 = .ok (.invokestatic 218, 3) := by decide +kernel
theorem dX10_called_22 : decode cX10_called 22 = .ok (.ifCond .eq 16, 3) := by decide +kernel
theorem dX10_called_25 : decode cX10_called 25 = .ok (.aload_n 0, 1) := by decide +kernel
theorem dX10_called_26 : decode cX10_called 26 = .ok (.iload_n 1, 1) := by decide +kernel
theorem dX10_called_27 : decode cX10_called 27 = .ok (.iload_n 2, 1) := by decide +kernel
theorem dX10_called_28 : decode cX10_called 28 = .ok (.iload_n 3, 1) := by decide +kernel
theorem dX10_called_29 : decode cX10_called 29 = .ok (.invokevirtual 221, 3) := by decide +kernel
theorem dX10_called_32 : decode cX10_called 32 = .ok (.invokestatic 210, 3) := by decide +kernel
theorem dX10_called_35 : decode cX10_called 35 = .ok (.goto 6, 3) := by decide +kernel
theorem dX10_called_38 : decode cX10_called 38 = .ok (.sipush (-1002), 3) := by decide +kernel
theorem dX10_called_41 : decode cX10_called 41 = .ok (.ireturn, 1) := by decide +kernel
theorem dX10_holds_0 : decode cX10_holds 0 = .ok (.iload_n 1, 1) := by decide +kernel
theorem dX10_holds_1 : decode cX10_holds 1 = .ok (.invokestatic 183, 3) := by decide +kernel
theorem dX10_holds_4 : decode cX10_holds 4 = .ok (.ifCond .eq 10, 3) := by decide +kernel
theorem dX10_holds_7 : decode cX10_holds 7 = .ok (.iload_n 2, 1) := by decide +kernel
theorem dX10_holds_8 : decode cX10_holds 8 = .ok (.invokestatic 158, 3) := by decide +kernel
theorem dX10_holds_11 : decode cX10_holds 11 = .ok (.ifCond .ne 7, 3) := by decide +kernel
theorem dX10_holds_14 : decode cX10_holds 14 = .ok (.sipush (-1001), 3) := by decide +kernel
theorem dX10_holds_17 : decode cX10_holds 17 = .ok (.ireturn, 1) := by decide +kernel
theorem dX10_holds_18 : decode cX10_holds 18 = .ok (.iload_n 3, 1) := by decide +kernel
theorem dX10_holds_19 : decode cX10_holds 19 = .ok (.invokestatic 218, 3) := by decide +kernel
theorem dX10_holds_22 : decode cX10_holds 22 = .ok (.ifCond .eq 26, 3) := by decide +kernel
theorem dX10_holds_25 : decode cX10_holds 25 = .ok (.iload 4, 2) := by decide +kernel
theorem dX10_holds_27 : decode cX10_holds 27 = .ok (.i2l, 1) := by decide +kernel
theorem dX10_holds_28 : decode cX10_holds 28 = .ok (.lconst 0, 1) := by decide +kernel
theorem dX10_holds_29 : decode cX10_holds 29 = .ok (.lconst 1, 1) := by decide +kernel
theorem dX10_holds_30 : decode cX10_holds 30 = .ok (.invokestatic 150, 3) := by decide +kernel
theorem dX10_holds_33 : decode cX10_holds 33 = .ok (.ifCond .eq 15, 3) := by decide +kernel
theorem dX10_holds_36 : decode cX10_holds 36 = .ok (.aload_n 0, 1) := by decide +kernel
theorem dX10_holds_37 : decode cX10_holds 37 = .ok (.iload_n 1, 1) := by decide +kernel
theorem dX10_holds_38 : decode cX10_holds 38 = .ok (.iload_n 2, 1) := by decide +kernel
theorem dX10_holds_39 : decode cX10_holds 39 = .ok (.iload_n 3, 1) := by decide +kernel
theorem dX10_holds_40 : decode cX10_holds 40 = .ok (.iload 4, 2) := by decide +kernel
theorem dX10_holds_42 : decode cX10_holds 42 = .ok (.invokevirtual 214, 3) := by decide +kernel
theorem dX10_holds_45 : decode cX10_holds 45 = .ok (.goto 6, 3) := by decide +kernel
theorem dX10_holds_48 : decode cX10_holds 48 = .ok (.sipush (-1002), 3) := by decide +kernel
theorem dX10_holds_51 : decode cX10_holds 51 = .ok (.ireturn, 1) := by decide +kernel
theorem dX10_feed_0 : decode cX10_feed 0 = .ok (.iload_n 1, 1) := by decide +kernel
theorem dX10_feed_1 : decode cX10_feed 1 = .ok (.i2l, 1) := by decide +kernel
theorem dX10_feed_2 : decode cX10_feed 2 = .ok (.lconst 1, 1) := by decide +kernel
theorem dX10_feed_3 : decode cX10_feed 3 = .ok (.ldc2_w 190, 3) := by decide +kernel
theorem dX10_feed_6 : decode cX10_feed 6 = .ok (.invokestatic 150, 3) := by decide +kernel
theorem dX10_feed_9 : decode cX10_feed 9 = .ok (.ifCond .ne 7, 3) := by decide +kernel
theorem dX10_feed_12 : decode cX10_feed 12 = .ok (.sipush (-1002), 3) := by decide +kernel
theorem dX10_feed_15 : decode cX10_feed 15 = .ok (.ireturn, 1) := by decide +kernel
theorem dX10_feed_16 : decode cX10_feed 16 = .ok (.aload_n 0, 1) := by decide +kernel
theorem dX10_feed_17 : decode cX10_feed 17 = .ok (.getfield 225, 3) := by decide +kernel
theorem dX10_feed_20 : decode cX10_feed 20 = .ok (.iload_n 1, 1) := by decide +kernel
theorem dX10_feed_21 : decode cX10_feed 21 = .ok (.iadd, 1) := by decide +kernel
theorem dX10_feed_22 : decode cX10_feed 22 = .ok (.sipush 160, 3) := by decide +kernel
theorem dX10_feed_25 : decode cX10_feed 25 = .ok (.if_icmp .le 7, 3) := by decide +kernel
theorem dX10_feed_28 : decode cX10_feed 28 = .ok (.sipush (-1004), 3) := by decide +kernel
theorem dX10_feed_31 : decode cX10_feed 31 = .ok (.ireturn, 1) := by decide +kernel
theorem dX10_feed_32 : decode cX10_feed 32 = .ok (.iload_n 1, 1) := by decide +kernel
theorem dX10_feed_33 : decode cX10_feed 33 = .ok (.iconst 1, 1) := by decide +kernel
theorem dX10_feed_34 : decode cX10_feed 34 = .ok (.isub, 1) := by decide +kernel
theorem dX10_feed_35 : decode cX10_feed 35 = .ok (.istore 4, 2) := by decide +kernel
theorem dX10_feed_37 : decode cX10_feed 37 = .ok (.iload 4, 2) := by decide +kernel
theorem dX10_feed_39 : decode cX10_feed 39 = .ok (.ifCond .lt 40, 3) := by decide +kernel
theorem dX10_feed_42 : decode cX10_feed 42 = .ok (.aload_n 0, 1) := by decide +kernel
theorem dX10_feed_43 : decode cX10_feed 43 = .ok (.getfield 80, 3) := by decide +kernel
theorem dX10_feed_46 : decode cX10_feed 46 = .ok (.aload_n 0, 1) := by decide +kernel
theorem dX10_feed_47 : decode cX10_feed 47 = .ok (.getfield 225, 3) := by decide +kernel
theorem dX10_feed_50 : decode cX10_feed 50 = .ok (.lload_n 2, 1) := by decide +kernel
theorem dX10_feed_51 : decode cX10_feed 51 = .ok (.bipush 8, 2) := by decide +kernel
theorem dX10_feed_53 : decode cX10_feed 53 = .ok (.iload 4, 2) := by decide +kernel
theorem dX10_feed_55 : decode cX10_feed 55 = .ok (.imul, 1) := by decide +kernel
theorem dX10_feed_56 : decode cX10_feed 56 = .ok (.lshr, 1) := by decide +kernel
theorem dX10_feed_57 : decode cX10_feed 57 = .ok (.ldc2_w 228, 3) := by decide +kernel
theorem dX10_feed_60 : decode cX10_feed 60 = .ok (.land, 1) := by decide +kernel
theorem dX10_feed_61 : decode cX10_feed 61 = .ok (.l2i, 1) := by decide +kernel
theorem dX10_feed_62 : decode cX10_feed 62 = .ok (.iastore, 1) := by decide +kernel
theorem dX10_feed_63 : decode cX10_feed 63 = .ok (.aload_n 0, 1) := by decide +kernel
theorem dX10_feed_64 : decode cX10_feed 64 = .ok (.dup, 1) := by decide +kernel
theorem dX10_feed_65 : decode cX10_feed 65 = .ok (.getfield 225, 3) := by decide +kernel
theorem dX10_feed_68 : decode cX10_feed 68 = .ok (.iconst 1, 1) := by decide +kernel
theorem dX10_feed_69 : decode cX10_feed 69 = .ok (.iadd, 1) := by decide +kernel
theorem dX10_feed_70 : decode cX10_feed 70 = .ok (.putfield 225, 3) := by decide +kernel
theorem dX10_feed_73 : decode cX10_feed 73 = .ok (.iinc 4 (-1), 3) := by decide +kernel
theorem dX10_feed_76 : decode cX10_feed 76 = .ok (.goto (-39), 3) := by decide +kernel
theorem dX10_feed_79 : decode cX10_feed 79 = .ok (.aload_n 0, 1) := by decide +kernel
theorem dX10_feed_80 : decode cX10_feed 80 = .ok (.getfield 225, 3) := by decide +kernel
theorem dX10_feed_83 : decode cX10_feed 83 = .ok (.ireturn, 1) := by decide +kernel
theorem dX10_here_0 : decode cX10_here 0 = .ok (.aload_n 0, 1) := by decide +kernel
theorem dX10_here_1 : decode cX10_here 1 = .ok (.getfield 230, 3) := by decide +kernel
theorem dX10_here_4 : decode cX10_here 4 = .ok (.aload_n 0, 1) := by decide +kernel
theorem dX10_here_5 : decode cX10_here 5 = .ok (.getfield 225, 3) := by decide +kernel
theorem dX10_here_8 : decode cX10_here 8 = .ok (.if_icmp .ge 30, 3) := by decide +kernel
theorem dX10_here_11 : decode cX10_here 11 = .ok (.aload_n 0, 1) := by decide +kernel
theorem dX10_here_12 : decode cX10_here 12 = .ok (.getfield 80, 3) := by decide +kernel
theorem dX10_here_15 : decode cX10_here 15 = .ok (.aload_n 0, 1) := by decide +kernel
theorem dX10_here_16 : decode cX10_here 16 = .ok (.getfield 230, 3) := by decide +kernel
theorem dX10_here_19 : decode cX10_here 19 = .ok (.iaload, 1) := by decide +kernel
theorem dX10_here_20 : decode cX10_here 20 = .ok (.bipush 32, 2) := by decide +kernel
theorem dX10_here_22 : decode cX10_here 22 = .ok (.if_icmp .ne 16, 3) := by decide +kernel
theorem dX10_here_25 : decode cX10_here 25 = .ok (.aload_n 0, 1) := by decide +kernel
theorem dX10_here_26 : decode cX10_here 26 = .ok (.dup, 1) := by decide +kernel
theorem dX10_here_27 : decode cX10_here 27 = .ok (.getfield 230, 3) := by decide +kernel
theorem dX10_here_30 : decode cX10_here 30 = .ok (.iconst 1, 1) := by decide +kernel
theorem dX10_here_31 : decode cX10_here 31 = .ok (.iadd, 1) := by decide +kernel
theorem dX10_here_32 : decode cX10_here 32 = .ok (.putfield 230, 3) := by decide +kernel
theorem dX10_here_35 : decode cX10_here 35 = .ok (.goto (-35), 3) := by decide +kernel
theorem dX10_here_38 : decode cX10_here 38 = .ok (.aload_n 0, 1) := by decide +kernel
theorem dX10_here_39 : decode cX10_here 39 = .ok (.getfield 230, 3) := by decide +kernel
theorem dX10_here_42 : decode cX10_here 42 = .ok (.aload_n 0, 1) := by decide +kernel
theorem dX10_here_43 : decode cX10_here 43 = .ok (.getfield 225, 3) := by decide +kernel
theorem dX10_here_46 : decode cX10_here 46 = .ok (.if_icmp .ge 15, 3) := by decide +kernel
theorem dX10_here_49 : decode cX10_here 49 = .ok (.aload_n 0, 1) := by decide +kernel
theorem dX10_here_50 : decode cX10_here 50 = .ok (.getfield 80, 3) := by decide +kernel
theorem dX10_here_53 : decode cX10_here 53 = .ok (.aload_n 0, 1) := by decide +kernel
theorem dX10_here_54 : decode cX10_here 54 = .ok (.getfield 230, 3) := by decide +kernel
theorem dX10_here_57 : decode cX10_here 57 = .ok (.iaload, 1) := by decide +kernel
theorem dX10_here_58 : decode cX10_here 58 = .ok (.goto 4, 3) := by decide +kernel
theorem dX10_here_61 : decode cX10_here 61 = .ok (.iconst (-1), 1) := by decide +kernel
theorem dX10_here_62 : decode cX10_here 62 = .ok (.ireturn, 1) := by decide +kernel
theorem dX10_want_0 : decode cX10_want 0 = .ok (.iload_n 1, 1) := by decide +kernel
theorem dX10_want_1 : decode cX10_want 1 = .ok (.ifCond .ne 20, 3) := by decide +kernel
theorem dX10_want_4 : decode cX10_want 4 = .ok (.aload_n 0, 1) := by decide +kernel
theorem dX10_want_5 : decode cX10_want 5 = .ok (.getfield 233, 3) := by decide +kernel
theorem dX10_want_8 : decode cX10_want 8 = .ok (.ifCond .ne 13, 3) := by decide +kernel
theorem dX10_want_11 : decode cX10_want 11 = .ok (.aload_n 0, 1) := by decide +kernel
theorem dX10_want_12 : decode cX10_want 12 = .ok (.iload_n 2, 1) := by decide +kernel
theorem dX10_want_13 : decode cX10_want 13 = .ok (.putfield 233, 3) := by decide +kernel
theorem dX10_want_16 : decode cX10_want 16 = .ok (.aload_n 0, 1) := by decide +kernel
theorem dX10_want_17 : decode cX10_want 17 = .ok (.iload_n 3, 1) := by decide +kernel
theorem dX10_want_18 : decode cX10_want 18 = .ok (.putfield 83, 3) := by decide +kernel
theorem dX10_want_21 : decode cX10_want 21 = .ok (.aload_n 0, 1) := by decide +kernel
theorem dX10_want_22 : decode cX10_want 22 = .ok (.getfield 233, 3) := by decide +kernel
theorem dX10_want_25 : decode cX10_want 25 = .ok (.ifCond .ne 7, 3) := by decide +kernel
theorem dX10_want_28 : decode cX10_want 28 = .ok (.iconst 1, 1) := by decide +kernel
theorem dX10_want_29 : decode cX10_want 29 = .ok (.goto 4, 3) := by decide +kernel
theorem dX10_want_32 : decode cX10_want 32 = .ok (.iconst 0, 1) := by decide +kernel
theorem dX10_want_33 : decode cX10_want 33 = .ok (.ireturn, 1) := by decide +kernel
theorem dX10_takeWord_0 : decode cX10_takeWord 0 = .ok (.aload_n 0, 1) := by decide +kernel
theorem dX10_takeWord_1 : decode cX10_takeWord 1 = .ok (.invokevirtual 236, 3) := by decide +kernel
theorem dX10_takeWord_4 : decode cX10_takeWord 4 = .ok (.istore_n 1, 1) := by decide +kernel
theorem dX10_takeWord_5 : decode cX10_takeWord 5 = .ok (.aload_n 0, 1) := by decide +kernel
theorem dX10_takeWord_6 : decode cX10_takeWord 6 = .ok (.aload_n 0, 1) := by decide +kernel
theorem dX10_takeWord_7 : decode cX10_takeWord 7 = .ok (.getfield 230, 3) := by decide +kernel
theorem dX10_takeWord_10 : decode cX10_takeWord 10 = .ok (.putfield 240, 3) := by decide +kernel
theorem dX10_takeWord_13 : decode cX10_takeWord 13 = .ok (.aload_n 0, 1) := by decide +kernel
theorem dX10_takeWord_14 : decode cX10_takeWord 14 = .ok (.getfield 230, 3) := by decide +kernel
theorem dX10_takeWord_17 : decode cX10_takeWord 17 = .ok (.aload_n 0, 1) := by decide +kernel
theorem dX10_takeWord_18 : decode cX10_takeWord 18 = .ok (.getfield 225, 3) := by decide +kernel
theorem dX10_takeWord_21 : decode cX10_takeWord 21 = .ok (.if_icmp .ge 38, 3) := by decide +kernel
theorem dX10_takeWord_24 : decode cX10_takeWord 24 = .ok (.aload_n 0, 1) := by decide +kernel
theorem dX10_takeWord_25 : decode cX10_takeWord 25 = .ok (.getfield 80, 3) := by decide +kernel
theorem dX10_takeWord_28 : decode cX10_takeWord 28 = .ok (.aload_n 0, 1) := by decide +kernel
theorem dX10_takeWord_29 : decode cX10_takeWord 29 = .ok (.getfield 230, 3) := by decide +kernel
theorem dX10_takeWord_32 : decode cX10_takeWord 32 = .ok (.iaload, 1) := by decide +kernel
theorem dX10_takeWord_33 : decode cX10_takeWord 33 = .ok (.i2l, 1) := by decide +kernel
theorem dX10_takeWord_34 : decode cX10_takeWord 34 = .ok (.ldc2_w 243, 3) := by decide +kernel
theorem dX10_takeWord_37 : decode cX10_takeWord 37 = .ok (.ldc2_w 245, 3) := by decide +kernel
theorem dX10_takeWord_40 : decode cX10_takeWord 40 = .ok (.invokestatic 150, 3) := by decide +kernel
theorem dX10_takeWord_43 : decode cX10_takeWord 43 = .ok (.ifCond .eq 16, 3) := by decide +kernel
theorem dX10_takeWord_46 : decode cX10_takeWord 46 = .ok (.aload_n 0, 1) := by decide +kernel
theorem dX10_takeWord_47 : decode cX10_takeWord 47 = .ok (.dup, 1) := by decide +kernel
theorem dX10_takeWord_48 : decode cX10_takeWord 48 = .ok (.getfield 230, 3) := by decide +kernel
theorem dX10_takeWord_51 : decode cX10_takeWord 51 = .ok (.iconst 1, 1) := by decide +kernel
theorem dX10_takeWord_52 : decode cX10_takeWord 52 = .ok (.iadd, 1) := by decide +kernel
theorem dX10_takeWord_53 : decode cX10_takeWord 53 = .ok (.putfield 230, 3) := by decide +kernel
theorem dX10_takeWord_56 : decode cX10_takeWord 56 = .ok (.goto (-43), 3) := by decide +kernel
theorem dX10_takeWord_59 : decode cX10_takeWord 59 = .ok (.aload_n 0, 1) := by decide +kernel
theorem dX10_takeWord_60 : decode cX10_takeWord 60 = .ok (.aload_n 0, 1) := by decide +kernel
theorem dX10_takeWord_61 : decode cX10_takeWord 61 = .ok (.getfield 230, 3) := by decide +kernel
theorem dX10_takeWord_64 : decode cX10_takeWord 64 = .ok (.aload_n 0, 1) := by decide +kernel
theorem dX10_takeWord_65 : decode cX10_takeWord 65 = .ok (.getfield 240, 3) := by decide +kernel
theorem dX10_takeWord_68 : decode cX10_takeWord 68 = .ok (.isub, 1) := by decide +kernel
theorem dX10_takeWord_69 : decode cX10_takeWord 69 = .ok (.putfield 247, 3) := by decide +kernel
theorem dX10_takeWord_72 : decode cX10_takeWord 72 = .ok (.return_, 1) := by decide +kernel
theorem dX10_isWord_0 : decode cX10_isWord 0 = .ok (.aload_n 0, 1) := by decide +kernel
theorem dX10_isWord_1 : decode cX10_isWord 1 = .ok (.getfield 247, 3) := by decide +kernel
theorem dX10_isWord_4 : decode cX10_isWord 4 = .ok (.iload_n 1, 1) := by decide +kernel
theorem dX10_isWord_5 : decode cX10_isWord 5 = .ok (.if_icmp .ne 7, 3) := by decide +kernel
theorem dX10_isWord_8 : decode cX10_isWord 8 = .ok (.iconst 1, 1) := by decide +kernel
theorem dX10_isWord_9 : decode cX10_isWord 9 = .ok (.goto 4, 3) := by decide +kernel
theorem dX10_isWord_12 : decode cX10_isWord 12 = .ok (.iconst 0, 1) := by decide +kernel
theorem dX10_isWord_13 : decode cX10_isWord 13 = .ok (.istore 8, 2) := by decide +kernel
theorem dX10_isWord_15 : decode cX10_isWord 15 = .ok (.iconst 0, 1) := by decide +kernel
theorem dX10_isWord_16 : decode cX10_isWord 16 = .ok (.istore 9, 2) := by decide +kernel
theorem dX10_isWord_18 : decode cX10_isWord 18 = .ok (.iload 9, 2) := by decide +kernel
theorem dX10_isWord_20 : decode cX10_isWord 20 = .ok (.iload_n 1, 1) := by decide +kernel
theorem dX10_isWord_21 : decode cX10_isWord 21 = .ok (.if_icmp .ge 97, 3) := by decide +kernel
theorem dX10_isWord_24 : decode cX10_isWord 24 = .ok (.iload 8, 2) := by decide +kernel
theorem dX10_isWord_26 : decode cX10_isWord 26 = .ok (.ifCond .eq 92, 3) := by decide +kernel
theorem dX10_isWord_29 : decode cX10_isWord 29 = .ok (.iload 9, 2) := by decide +kernel
theorem dX10_isWord_31 : decode cX10_isWord 31 = .ok (.bipush 6, 2) := by decide +kernel
theorem dX10_isWord_33 : decode cX10_isWord 33 = .ok (.if_icmp .ge 85, 3) := by decide +kernel
theorem dX10_isWord_36 : decode cX10_isWord 36 = .ok (.aload_n 0, 1) := by decide +kernel
theorem dX10_isWord_37 : decode cX10_isWord 37 = .ok (.getfield 80, 3) := by decide +kernel
theorem dX10_isWord_40 : decode cX10_isWord 40 = .ok (.aload_n 0, 1) := by decide +kernel
theorem dX10_isWord_41 : decode cX10_isWord 41 = .ok (.getfield 240, 3) := by decide +kernel
theorem dX10_isWord_44 : decode cX10_isWord 44 = .ok (.iload 9, 2) := by decide +kernel
theorem dX10_isWord_46 : decode cX10_isWord 46 = .ok (.iadd, 1) := by decide +kernel
theorem dX10_isWord_47 : decode cX10_isWord 47 = .ok (.iaload, 1) := by decide +kernel
theorem dX10_isWord_48 : decode cX10_isWord 48 = .ok (.iload 9, 2) := by decide +kernel
theorem dX10_isWord_50 : decode cX10_isWord 50 = .ok (.ifCond .ne 7, 3) := by decide +kernel
theorem dX10_isWord_53 : decode cX10_isWord 53 = .ok (.iload_n 2, 1) := by decide +kernel
theorem dX10_isWord_54 : decode cX10_isWord 54 = .ok (.goto 48, 3) := by decide +kernel
theorem dX10_isWord_57 : decode cX10_isWord 57 = .ok (.iload 9, 2) := by decide +kernel
theorem dX10_isWord_59 : decode cX10_isWord 59 = .ok (.iconst 1, 1) := by decide +kernel
theorem dX10_isWord_60 : decode cX10_isWord 60 = .ok (.if_icmp .ne 7, 3) := by decide +kernel
theorem dX10_isWord_63 : decode cX10_isWord 63 = .ok (.iload_n 3, 1) := by decide +kernel
theorem dX10_isWord_64 : decode cX10_isWord 64 = .ok (.goto 38, 3) := by decide +kernel
theorem dX10_isWord_67 : decode cX10_isWord 67 = .ok (.iload 9, 2) := by decide +kernel
theorem dX10_isWord_69 : decode cX10_isWord 69 = .ok (.iconst 2, 1) := by decide +kernel
theorem dX10_isWord_70 : decode cX10_isWord 70 = .ok (.if_icmp .ne 8, 3) := by decide +kernel
theorem dX10_isWord_73 : decode cX10_isWord 73 = .ok (.iload 4, 2) := by decide +kernel
theorem dX10_isWord_75 : decode cX10_isWord 75 = .ok (.goto 27, 3) := by decide +kernel
theorem dX10_isWord_78 : decode cX10_isWord 78 = .ok (.iload 9, 2) := by decide +kernel
theorem dX10_isWord_80 : decode cX10_isWord 80 = .ok (.iconst 3, 1) := by decide +kernel
theorem dX10_isWord_81 : decode cX10_isWord 81 = .ok (.if_icmp .ne 8, 3) := by decide +kernel
theorem dX10_isWord_84 : decode cX10_isWord 84 = .ok (.iload 5, 2) := by decide +kernel
theorem dX10_isWord_86 : decode cX10_isWord 86 = .ok (.goto 16, 3) := by decide +kernel
theorem dX10_isWord_89 : decode cX10_isWord 89 = .ok (.iload 9, 2) := by decide +kernel
theorem dX10_isWord_91 : decode cX10_isWord 91 = .ok (.iconst 4, 1) := by decide +kernel
theorem dX10_isWord_92 : decode cX10_isWord 92 = .ok (.if_icmp .ne 8, 3) := by decide +kernel
theorem dX10_isWord_95 : decode cX10_isWord 95 = .ok (.iload 6, 2) := by decide +kernel
theorem dX10_isWord_97 : decode cX10_isWord 97 = .ok (.goto 5, 3) := by decide +kernel
theorem dX10_isWord_100 : decode cX10_isWord 100 = .ok (.iload 7, 2) := by decide +kernel
theorem dX10_isWord_102 : decode cX10_isWord 102 = .ok (.if_icmp .ne 7, 3) := by decide +kernel
theorem dX10_isWord_105 : decode cX10_isWord 105 = .ok (.iconst 1, 1) := by decide +kernel
theorem dX10_isWord_106 : decode cX10_isWord 106 = .ok (.goto 4, 3) := by decide +kernel
theorem dX10_isWord_109 : decode cX10_isWord 109 = .ok (.iconst 0, 1) := by decide +kernel
theorem dX10_isWord_110 : decode cX10_isWord 110 = .ok (.istore 8, 2) := by decide +kernel
theorem dX10_isWord_112 : decode cX10_isWord 112 = .ok (.iinc 9 1, 3) := by decide +kernel
theorem dX10_isWord_115 : decode cX10_isWord 115 = .ok (.goto (-97), 3) := by decide +kernel
theorem dX10_isWord_118 : decode cX10_isWord 118 = .ok (.iload 8, 2) := by decide +kernel
theorem dX10_isWord_120 : decode cX10_isWord 120 = .ok (.ireturn, 1) := by decide +kernel
theorem dX10_takeNumber_0 : decode cX10_takeNumber 0 = .ok (.aload_n 0, 1) := by decide +kernel
theorem dX10_takeNumber_1 : decode cX10_takeNumber 1 = .ok (.invokevirtual 236, 3) := by decide +kernel
theorem dX10_takeNumber_4 : decode cX10_takeNumber 4 = .ok (.istore_n 3, 1) := by decide +kernel
theorem dX10_takeNumber_5 : decode cX10_takeNumber 5 = .ok (.aload_n 0, 1) := by decide +kernel
theorem dX10_takeNumber_6 : decode cX10_takeNumber 6 = .ok (.aload_n 0, 1) := by decide +kernel
theorem dX10_takeNumber_7 : decode cX10_takeNumber 7 = .ok (.getfield 230, 3) := by decide +kernel
theorem dX10_takeNumber_10 : decode cX10_takeNumber 10 = .ok (.putfield 240, 3) := by decide +kernel
theorem dX10_takeNumber_13 : decode cX10_takeNumber 13 = .ok (.aload_n 0, 1) := by decide +kernel
theorem dX10_takeNumber_14 : decode cX10_takeNumber 14 = .ok (.iload_n 3, 1) := by decide +kernel
theorem dX10_takeNumber_15 : decode cX10_takeNumber 15 = .ok (.i2l, 1) := by decide +kernel
theorem dX10_takeNumber_16 : decode cX10_takeNumber 16 = .ok (.ldc2_w 250, 3) := by decide +kernel
theorem dX10_takeNumber_19 : decode cX10_takeNumber 19 = .ok (.ldc2_w 252, 3) := by decide +kernel
theorem dX10_takeNumber_22 : decode cX10_takeNumber 22 = .ok (.invokestatic 150, 3) := by decide +kernel
theorem dX10_takeNumber_25 : decode cX10_takeNumber 25 = .ok (.iconst 1, 1) := by decide +kernel
theorem dX10_takeNumber_26 : decode cX10_takeNumber 26 = .ok (.aload_n 0, 1) := by decide +kernel
theorem dX10_takeNumber_27 : decode cX10_takeNumber 27 = .ok (.getfield 230, 3) := by decide +kernel
theorem dX10_takeNumber_30 : decode cX10_takeNumber 30 = .ok (.invokevirtual 254, 3) := by decide +kernel
theorem dX10_takeNumber_33 : decode cX10_takeNumber 33 = .ok (.ifCond .ne 5, 3) := by decide +kernel
theorem dX10_takeNumber_36 : decode cX10_takeNumber 36 = .ok (.iconst 0, 1) := by decide +kernel
theorem dX10_takeNumber_37 : decode cX10_takeNumber 37 = .ok (.ireturn, 1) := by decide +kernel
theorem dX10_takeNumber_38 : decode cX10_takeNumber 38 = .ok (.iconst 0, 1) := by decide +kernel
theorem dX10_takeNumber_39 : decode cX10_takeNumber 39 = .ok (.istore 4, 2) := by decide +kernel
theorem dX10_takeNumber_41 : decode cX10_takeNumber 41 = .ok (.aload_n 0, 1) := by decide +kernel
theorem dX10_takeNumber_42 : decode cX10_takeNumber 42 = .ok (.getfield 230, 3) := by decide +kernel
theorem dX10_takeNumber_45 : decode cX10_takeNumber 45 = .ok (.aload_n 0, 1) := by decide +kernel
theorem dX10_takeNumber_46 : decode cX10_takeNumber 46 = .ok (.getfield 225, 3) := by decide +kernel
theorem dX10_takeNumber_49 : decode cX10_takeNumber 49 = .ok (.if_icmp .ge 71, 3) := by decide +kernel
theorem dX10_takeNumber_52 : decode cX10_takeNumber 52 = .ok (.aload_n 0, 1) := by decide +kernel
theorem dX10_takeNumber_53 : decode cX10_takeNumber 53 = .ok (.getfield 80, 3) := by decide +kernel
theorem dX10_takeNumber_56 : decode cX10_takeNumber 56 = .ok (.aload_n 0, 1) := by decide +kernel
theorem dX10_takeNumber_57 : decode cX10_takeNumber 57 = .ok (.getfield 230, 3) := by decide +kernel
theorem dX10_takeNumber_60 : decode cX10_takeNumber 60 = .ok (.iaload, 1) := by decide +kernel
theorem dX10_takeNumber_61 : decode cX10_takeNumber 61 = .ok (.i2l, 1) := by decide +kernel
theorem dX10_takeNumber_62 : decode cX10_takeNumber 62 = .ok (.ldc2_w 250, 3) := by decide +kernel
theorem dX10_takeNumber_65 : decode cX10_takeNumber 65 = .ok (.ldc2_w 252, 3) := by decide +kernel
theorem dX10_takeNumber_68 : decode cX10_takeNumber 68 = .ok (.invokestatic 150, 3) := by decide +kernel
theorem dX10_takeNumber_71 : decode cX10_takeNumber 71 = .ok (.ifCond .eq 49, 3) := by decide +kernel
theorem dX10_takeNumber_74 : decode cX10_takeNumber 74 = .ok (.iload 4, 2) := by decide +kernel
theorem dX10_takeNumber_76 : decode cX10_takeNumber 76 = .ok (.sipush 999, 3) := by decide +kernel
theorem dX10_takeNumber_79 : decode cX10_takeNumber 79 = .ok (.if_icmp .le 8, 3) := by decide +kernel
theorem dX10_takeNumber_82 : decode cX10_takeNumber 82 = .ok (.iload 4, 2) := by decide +kernel
theorem dX10_takeNumber_84 : decode cX10_takeNumber 84 = .ok (.goto 21, 3) := by decide +kernel
theorem dX10_takeNumber_87 : decode cX10_takeNumber 87 = .ok (.bipush 10, 2) := by decide +kernel
theorem dX10_takeNumber_89 : decode cX10_takeNumber 89 = .ok (.iload 4, 2) := by decide +kernel
theorem dX10_takeNumber_91 : decode cX10_takeNumber 91 = .ok (.imul, 1) := by decide +kernel
theorem dX10_takeNumber_92 : decode cX10_takeNumber 92 = .ok (.aload_n 0, 1) := by decide +kernel
theorem dX10_takeNumber_93 : decode cX10_takeNumber 93 = .ok (.getfield 80, 3) := by decide +kernel
theorem dX10_takeNumber_96 : decode cX10_takeNumber 96 = .ok (.aload_n 0, 1) := by decide +kernel
theorem dX10_takeNumber_97 : decode cX10_takeNumber 97 = .ok (.getfield 230, 3) := by decide +kernel
theorem dX10_takeNumber_100 : decode cX10_takeNumber 100 = .ok (.iaload, 1) := by decide +kernel
theorem dX10_takeNumber_101 : decode cX10_takeNumber 101 = .ok (.iadd, 1) := by decide +kernel
theorem dX10_takeNumber_102 : decode cX10_takeNumber 102 = .ok (.bipush 48, 2) := by decide +kernel
theorem dX10_takeNumber_104 : decode cX10_takeNumber 104 = .ok (.isub, 1) := by decide +kernel
theorem dX10_takeNumber_105 : decode cX10_takeNumber 105 = .ok (.istore 4, 2) := by decide +kernel
theorem dX10_takeNumber_107 : decode cX10_takeNumber 107 = .ok (.aload_n 0, 1) := by decide +kernel
theorem dX10_takeNumber_108 : decode cX10_takeNumber 108 = .ok (.dup, 1) := by decide +kernel
theorem dX10_takeNumber_109 : decode cX10_takeNumber 109 = .ok (.getfield 230, 3) := by decide +kernel
theorem dX10_takeNumber_112 : decode cX10_takeNumber 112 = .ok (.iconst 1, 1) := by decide +kernel
theorem dX10_takeNumber_113 : decode cX10_takeNumber 113 = .ok (.iadd, 1) := by decide +kernel
theorem dX10_takeNumber_114 : decode cX10_takeNumber 114 = .ok (.putfield 230, 3) := by decide +kernel
theorem dX10_takeNumber_117 : decode cX10_takeNumber 117 = .ok (.goto (-76), 3) := by decide +kernel
theorem dX10_takeNumber_120 : decode cX10_takeNumber 120 = .ok (.aload_n 0, 1) := by decide +kernel
theorem dX10_takeNumber_121 : decode cX10_takeNumber 121 = .ok (.aload_n 0, 1) := by decide +kernel
theorem dX10_takeNumber_122 : decode cX10_takeNumber 122 = .ok (.getfield 230, 3) := by decide +kernel
theorem dX10_takeNumber_125 : decode cX10_takeNumber 125 = .ok (.aload_n 0, 1) := by decide +kernel
theorem dX10_takeNumber_126 : decode cX10_takeNumber 126 = .ok (.getfield 240, 3) := by decide +kernel
theorem dX10_takeNumber_129 : decode cX10_takeNumber 129 = .ok (.isub, 1) := by decide +kernel
theorem dX10_takeNumber_130 : decode cX10_takeNumber 130 = .ok (.iconst 4, 1) := by decide +kernel
theorem dX10_takeNumber_131 : decode cX10_takeNumber 131 = .ok (.if_icmp .ge 20, 3) := by decide +kernel
theorem dX10_takeNumber_134 : decode cX10_takeNumber 134 = .ok (.iload 4, 2) := by decide +kernel
theorem dX10_takeNumber_136 : decode cX10_takeNumber 136 = .ok (.i2l, 1) := by decide +kernel
theorem dX10_takeNumber_137 : decode cX10_takeNumber 137 = .ok (.iload_n 1, 1) := by decide +kernel
theorem dX10_takeNumber_138 : decode cX10_takeNumber 138 = .ok (.i2l, 1) := by decide +kernel
theorem dX10_takeNumber_139 : decode cX10_takeNumber 139 = .ok (.iload_n 2, 1) := by decide +kernel
theorem dX10_takeNumber_140 : decode cX10_takeNumber 140 = .ok (.i2l, 1) := by decide +kernel
theorem dX10_takeNumber_141 : decode cX10_takeNumber 141 = .ok (.invokestatic 150, 3) := by decide +kernel
theorem dX10_takeNumber_144 : decode cX10_takeNumber 144 = .ok (.ifCond .eq 7, 3) := by decide +kernel
theorem dX10_takeNumber_147 : decode cX10_takeNumber 147 = .ok (.iconst 1, 1) := by decide +kernel
theorem dX10_takeNumber_148 : decode cX10_takeNumber 148 = .ok (.goto 4, 3) := by decide +kernel
theorem dX10_takeNumber_151 : decode cX10_takeNumber 151 = .ok (.iconst 0, 1) := by decide +kernel
theorem dX10_takeNumber_152 : decode cX10_takeNumber 152 = .ok (.iconst 2, 1) := by decide +kernel
theorem dX10_takeNumber_153 : decode cX10_takeNumber 153 = .ok (.aload_n 0, 1) := by decide +kernel
theorem dX10_takeNumber_154 : decode cX10_takeNumber 154 = .ok (.getfield 240, 3) := by decide +kernel
theorem dX10_takeNumber_157 : decode cX10_takeNumber 157 = .ok (.invokevirtual 254, 3) := by decide +kernel
theorem dX10_takeNumber_160 : decode cX10_takeNumber 160 = .ok (.istore 5, 2) := by decide +kernel
theorem dX10_takeNumber_162 : decode cX10_takeNumber 162 = .ok (.iload 4, 2) := by decide +kernel
theorem dX10_takeNumber_164 : decode cX10_takeNumber 164 = .ok (.ireturn, 1) := by decide +kernel
theorem dX10_clauseOf_0 : decode cX10_clauseOf 0 = .ok (.aload_n 0, 1) := by decide +kernel
theorem dX10_clauseOf_1 : decode cX10_clauseOf 1 = .ok (.iconst 4, 1) := by decide +kernel
theorem dX10_clauseOf_2 : decode cX10_clauseOf 2 = .ok (.bipush 110, 2) := by decide +kernel
theorem dX10_clauseOf_4 : decode cX10_clauseOf 4 = .ok (.bipush 101, 2) := by decide +kernel
theorem dX10_clauseOf_6 : decode cX10_clauseOf 6 = .ok (.bipush 101, 2) := by decide +kernel
theorem dX10_clauseOf_8 : decode cX10_clauseOf 8 = .ok (.bipush 100, 2) := by decide +kernel
theorem dX10_clauseOf_10 : decode cX10_clauseOf 10 = .ok (.iconst 0, 1) := by decide +kernel
theorem dX10_clauseOf_11 : decode cX10_clauseOf 11 = .ok (.iconst 0, 1) := by decide +kernel
theorem dX10_clauseOf_12 : decode cX10_clauseOf 12 = .ok (.invokevirtual 258, 3) := by decide +kernel
theorem dX10_clauseOf_15 : decode cX10_clauseOf 15 = .ok (.ifCond .eq 5, 3) := by decide +kernel
theorem dX10_clauseOf_18 : decode cX10_clauseOf 18 = .ok (.iconst 0, 1) := by decide +kernel
theorem dX10_clauseOf_19 : decode cX10_clauseOf 19 = .ok (.ireturn, 1) := by decide +kernel
theorem dX10_clauseOf_20 : decode cX10_clauseOf 20 = .ok (.aload_n 0, 1) := by decide +kernel
theorem dX10_clauseOf_21 : decode cX10_clauseOf 21 = .ok (.iconst 3, 1) := by decide +kernel
theorem dX10_clauseOf_22 : decode cX10_clauseOf 22 = .ok (.bipush 112, 2) := by decide +kernel
theorem dX10_clauseOf_24 : decode cX10_clauseOf 24 = .ok (.bipush 97, 2) := by decide +kernel
theorem dX10_clauseOf_26 : decode cX10_clauseOf 26 = .ok (.bipush 121, 2) := by decide +kernel
theorem dX10_clauseOf_28 : decode cX10_clauseOf 28 = .ok (.iconst 0, 1) := by decide +kernel
theorem dX10_clauseOf_29 : decode cX10_clauseOf 29 = .ok (.iconst 0, 1) := by decide +kernel
theorem dX10_clauseOf_30 : decode cX10_clauseOf 30 = .ok (.iconst 0, 1) := by decide +kernel
theorem dX10_clauseOf_31 : decode cX10_clauseOf 31 = .ok (.invokevirtual 258, 3) := by decide +kernel
theorem dX10_clauseOf_34 : decode cX10_clauseOf 34 = .ok (.ifCond .eq 5, 3) := by decide +kernel
theorem dX10_clauseOf_37 : decode cX10_clauseOf 37 = .ok (.iconst 1, 1) := by decide +kernel
theorem dX10_clauseOf_38 : decode cX10_clauseOf 38 = .ok (.ireturn, 1) := by decide +kernel
theorem dX10_clauseOf_39 : decode cX10_clauseOf 39 = .ok (.aload_n 0, 1) := by decide +kernel
theorem dX10_clauseOf_40 : decode cX10_clauseOf 40 = .ok (.iconst 4, 1) := by decide +kernel
theorem dX10_clauseOf_41 : decode cX10_clauseOf 41 = .ok (.bipush 99, 2) := by decide +kernel
theorem dX10_clauseOf_43 : decode cX10_clauseOf 43 = .ok (.bipush 111, 2) := by decide +kernel
theorem dX10_clauseOf_45 : decode cX10_clauseOf 45 = .ok (.bipush 115, 2) := by decide +kernel
theorem dX10_clauseOf_47 : decode cX10_clauseOf 47 = .ok (.bipush 116, 2) := by decide +kernel
theorem dX10_clauseOf_49 : decode cX10_clauseOf 49 = .ok (.iconst 0, 1) := by decide +kernel
theorem dX10_clauseOf_50 : decode cX10_clauseOf 50 = .ok (.iconst 0, 1) := by decide +kernel
theorem dX10_clauseOf_51 : decode cX10_clauseOf 51 = .ok (.invokevirtual 258, 3) := by decide +kernel
theorem dX10_clauseOf_54 : decode cX10_clauseOf 54 = .ok (.ifCond .eq 5, 3) := by decide +kernel
theorem dX10_clauseOf_57 : decode cX10_clauseOf 57 = .ok (.iconst 2, 1) := by decide +kernel
theorem dX10_clauseOf_58 : decode cX10_clauseOf 58 = .ok (.ireturn, 1) := by decide +kernel
theorem dX10_clauseOf_59 : decode cX10_clauseOf 59 = .ok (.aload_n 0, 1) := by decide +kernel
theorem dX10_clauseOf_60 : decode cX10_clauseOf 60 = .ok (.iconst 4, 1) := by decide +kernel
theorem dX10_clauseOf_61 : decode cX10_clauseOf 61 = .ok (.bipush 102, 2) := by decide +kernel
theorem dX10_clauseOf_63 : decode cX10_clauseOf 63 = .ok (.bipush 101, 2) := by decide +kernel
theorem dX10_clauseOf_65 : decode cX10_clauseOf 65 = .ok (.bipush 97, 2) := by decide +kernel
theorem dX10_clauseOf_67 : decode cX10_clauseOf 67 = .ok (.bipush 114, 2) := by decide +kernel
theorem dX10_clauseOf_69 : decode cX10_clauseOf 69 = .ok (.iconst 0, 1) := by decide +kernel
theorem dX10_clauseOf_70 : decode cX10_clauseOf 70 = .ok (.iconst 0, 1) := by decide +kernel
theorem dX10_clauseOf_71 : decode cX10_clauseOf 71 = .ok (.invokevirtual 258, 3) := by decide +kernel
theorem dX10_clauseOf_74 : decode cX10_clauseOf 74 = .ok (.ifCond .eq 5, 3) := by decide +kernel
theorem dX10_clauseOf_77 : decode cX10_clauseOf 77 = .ok (.iconst 3, 1) := by decide +kernel
theorem dX10_clauseOf_78 : decode cX10_clauseOf 78 = .ok (.ireturn, 1) := by decide +kernel
theorem dX10_clauseOf_79 : decode cX10_clauseOf 79 = .ok (.aload_n 0, 1) := by decide +kernel
theorem dX10_clauseOf_80 : decode cX10_clauseOf 80 = .ok (.iconst 4, 1) := by decide +kernel
theorem dX10_clauseOf_81 : decode cX10_clauseOf 81 = .ok (.bipush 115, 2) := by decide +kernel
theorem dX10_clauseOf_83 : decode cX10_clauseOf 83 = .ok (.bipush 108, 2) := by decide +kernel
theorem dX10_clauseOf_85 : decode cX10_clauseOf 85 = .ok (.bipush 111, 2) := by decide +kernel
theorem dX10_clauseOf_87 : decode cX10_clauseOf 87 = .ok (.bipush 119, 2) := by decide +kernel
theorem dX10_clauseOf_89 : decode cX10_clauseOf 89 = .ok (.iconst 0, 1) := by decide +kernel
theorem dX10_clauseOf_90 : decode cX10_clauseOf 90 = .ok (.iconst 0, 1) := by decide +kernel
theorem dX10_clauseOf_91 : decode cX10_clauseOf 91 = .ok (.invokevirtual 258, 3) := by decide +kernel
theorem dX10_clauseOf_94 : decode cX10_clauseOf 94 = .ok (.ifCond .eq 5, 3) := by decide +kernel
theorem dX10_clauseOf_97 : decode cX10_clauseOf 97 = .ok (.iconst 4, 1) := by decide +kernel
theorem dX10_clauseOf_98 : decode cX10_clauseOf 98 = .ok (.ireturn, 1) := by decide +kernel
theorem dX10_clauseOf_99 : decode cX10_clauseOf 99 = .ok (.aload_n 0, 1) := by decide +kernel
theorem dX10_clauseOf_100 : decode cX10_clauseOf 100 = .ok (.bipush 6, 2) := by decide +kernel
theorem dX10_clauseOf_102 : decode cX10_clauseOf 102 = .ok (.bipush 115, 2) := by decide +kernel
theorem dX10_clauseOf_104 : decode cX10_clauseOf 104 = .ok (.bipush 116, 2) := by decide +kernel
theorem dX10_clauseOf_106 : decode cX10_clauseOf 106 = .ok (.bipush 114, 2) := by decide +kernel
theorem dX10_clauseOf_108 : decode cX10_clauseOf 108 = .ok (.bipush 105, 2) := by decide +kernel
theorem dX10_clauseOf_110 : decode cX10_clauseOf 110 = .ok (.bipush 107, 2) := by decide +kernel
theorem dX10_clauseOf_112 : decode cX10_clauseOf 112 = .ok (.bipush 101, 2) := by decide +kernel
theorem dX10_clauseOf_114 : decode cX10_clauseOf 114 = .ok (.invokevirtual 258, 3) := by decide +kernel
theorem dX10_clauseOf_117 : decode cX10_clauseOf 117 = .ok (.ifCond .eq 7, 3) := by decide +kernel
theorem dX10_clauseOf_120 : decode cX10_clauseOf 120 = .ok (.iconst 5, 1) := by decide +kernel
theorem dX10_clauseOf_121 : decode cX10_clauseOf 121 = .ok (.goto 4, 3) := by decide +kernel
theorem dX10_clauseOf_124 : decode cX10_clauseOf 124 = .ok (.iconst (-1), 1) := by decide +kernel
theorem dX10_clauseOf_125 : decode cX10_clauseOf 125 = .ok (.ireturn, 1) := by decide +kernel
theorem dX10_goodOf_0 : decode cX10_goodOf 0 = .ok (.aload_n 0, 1) := by decide +kernel
theorem dX10_goodOf_1 : decode cX10_goodOf 1 = .ok (.iconst 5, 1) := by decide +kernel
theorem dX10_goodOf_2 : decode cX10_goodOf 2 = .ok (.bipush 98, 2) := by decide +kernel
theorem dX10_goodOf_4 : decode cX10_goodOf 4 = .ok (.bipush 114, 2) := by decide +kernel
theorem dX10_goodOf_6 : decode cX10_goodOf 6 = .ok (.bipush 101, 2) := by decide +kernel
theorem dX10_goodOf_8 : decode cX10_goodOf 8 = .ok (.bipush 97, 2) := by decide +kernel
theorem dX10_goodOf_10 : decode cX10_goodOf 10 = .ok (.bipush 100, 2) := by decide +kernel
theorem dX10_goodOf_12 : decode cX10_goodOf 12 = .ok (.iconst 0, 1) := by decide +kernel
theorem dX10_goodOf_13 : decode cX10_goodOf 13 = .ok (.invokevirtual 258, 3) := by decide +kernel
theorem dX10_goodOf_16 : decode cX10_goodOf 16 = .ok (.ifCond .eq 5, 3) := by decide +kernel
theorem dX10_goodOf_19 : decode cX10_goodOf 19 = .ok (.iconst 0, 1) := by decide +kernel
theorem dX10_goodOf_20 : decode cX10_goodOf 20 = .ok (.ireturn, 1) := by decide +kernel
theorem dX10_goodOf_21 : decode cX10_goodOf 21 = .ok (.aload_n 0, 1) := by decide +kernel
theorem dX10_goodOf_22 : decode cX10_goodOf 22 = .ok (.iconst 4, 1) := by decide +kernel
theorem dX10_goodOf_23 : decode cX10_goodOf 23 = .ok (.bipush 109, 2) := by decide +kernel
theorem dX10_goodOf_25 : decode cX10_goodOf 25 = .ok (.bipush 105, 2) := by decide +kernel
theorem dX10_goodOf_27 : decode cX10_goodOf 27 = .ok (.bipush 108, 2) := by decide +kernel
theorem dX10_goodOf_29 : decode cX10_goodOf 29 = .ok (.bipush 107, 2) := by decide +kernel
theorem dX10_goodOf_31 : decode cX10_goodOf 31 = .ok (.iconst 0, 1) := by decide +kernel
theorem dX10_goodOf_32 : decode cX10_goodOf 32 = .ok (.iconst 0, 1) := by decide +kernel
theorem dX10_goodOf_33 : decode cX10_goodOf 33 = .ok (.invokevirtual 258, 3) := by decide +kernel
theorem dX10_goodOf_36 : decode cX10_goodOf 36 = .ok (.ifCond .eq 5, 3) := by decide +kernel
theorem dX10_goodOf_39 : decode cX10_goodOf 39 = .ok (.iconst 1, 1) := by decide +kernel
theorem dX10_goodOf_40 : decode cX10_goodOf 40 = .ok (.ireturn, 1) := by decide +kernel
theorem dX10_goodOf_41 : decode cX10_goodOf 41 = .ok (.aload_n 0, 1) := by decide +kernel
theorem dX10_goodOf_42 : decode cX10_goodOf 42 = .ok (.iconst 4, 1) := by decide +kernel
theorem dX10_goodOf_43 : decode cX10_goodOf 43 = .ok (.bipush 99, 2) := by decide +kernel
theorem dX10_goodOf_45 : decode cX10_goodOf 45 = .ok (.bipush 111, 2) := by decide +kernel
theorem dX10_goodOf_47 : decode cX10_goodOf 47 = .ok (.bipush 97, 2) := by decide +kernel
theorem dX10_goodOf_49 : decode cX10_goodOf 49 = .ok (.bipush 108, 2) := by decide +kernel
theorem dX10_goodOf_51 : decode cX10_goodOf 51 = .ok (.iconst 0, 1) := by decide +kernel
theorem dX10_goodOf_52 : decode cX10_goodOf 52 = .ok (.iconst 0, 1) := by decide +kernel
theorem dX10_goodOf_53 : decode cX10_goodOf 53 = .ok (.invokevirtual 258, 3) := by decide +kernel
theorem dX10_goodOf_56 : decode cX10_goodOf 56 = .ok (.ifCond .eq 7, 3) := by decide +kernel
theorem dX10_goodOf_59 : decode cX10_goodOf 59 = .ok (.iconst 2, 1) := by decide +kernel
theorem dX10_goodOf_60 : decode cX10_goodOf 60 = .ok (.goto 4, 3) := by decide +kernel
theorem dX10_goodOf_63 : decode cX10_goodOf 63 = .ok (.iconst (-1), 1) := by decide +kernel
theorem dX10_goodOf_64 : decode cX10_goodOf 64 = .ok (.ireturn, 1) := by decide +kernel
theorem dX10_stampOf_0 : decode cX10_stampOf 0 = .ok (.aload_n 0, 1) := by decide +kernel
theorem dX10_stampOf_1 : decode cX10_stampOf 1 = .ok (.bipush 6, 2) := by decide +kernel
theorem dX10_stampOf_3 : decode cX10_stampOf 3 = .ok (.bipush 111, 2) := by decide +kernel
theorem dX10_stampOf_5 : decode cX10_stampOf 5 = .ok (.bipush 119, 2) := by decide +kernel
theorem dX10_stampOf_7 : decode cX10_stampOf 7 = .ok (.bipush 110, 2) := by decide +kernel
theorem dX10_stampOf_9 : decode cX10_stampOf 9 = .ok (.bipush 101, 2) := by decide +kernel
theorem dX10_stampOf_11 : decode cX10_stampOf 11 = .ok (.bipush 114, 2) := by decide +kernel
theorem dX10_stampOf_13 : decode cX10_stampOf 13 = .ok (.bipush 115, 2) := by decide +kernel
theorem dX10_stampOf_15 : decode cX10_stampOf 15 = .ok (.invokevirtual 258, 3) := by decide +kernel
theorem dX10_stampOf_18 : decode cX10_stampOf 18 = .ok (.ifCond .eq 5, 3) := by decide +kernel
theorem dX10_stampOf_21 : decode cX10_stampOf 21 = .ok (.iconst 0, 1) := by decide +kernel
theorem dX10_stampOf_22 : decode cX10_stampOf 22 = .ok (.ireturn, 1) := by decide +kernel
theorem dX10_stampOf_23 : decode cX10_stampOf 23 = .ok (.aload_n 0, 1) := by decide +kernel
theorem dX10_stampOf_24 : decode cX10_stampOf 24 = .ok (.bipush 7, 2) := by decide +kernel
theorem dX10_stampOf_26 : decode cX10_stampOf 26 = .ok (.bipush 99, 2) := by decide +kernel
theorem dX10_stampOf_28 : decode cX10_stampOf 28 = .ok (.bipush 111, 2) := by decide +kernel
theorem dX10_stampOf_30 : decode cX10_stampOf 30 = .ok (.bipush 117, 2) := by decide +kernel
theorem dX10_stampOf_32 : decode cX10_stampOf 32 = .ok (.bipush 110, 2) := by decide +kernel
theorem dX10_stampOf_34 : decode cX10_stampOf 34 = .ok (.bipush 99, 2) := by decide +kernel
theorem dX10_stampOf_36 : decode cX10_stampOf 36 = .ok (.bipush 105, 2) := by decide +kernel
theorem dX10_stampOf_38 : decode cX10_stampOf 38 = .ok (.invokevirtual 258, 3) := by decide +kernel
theorem dX10_stampOf_41 : decode cX10_stampOf 41 = .ok (.ifCond .eq 22, 3) := by decide +kernel
theorem dX10_stampOf_44 : decode cX10_stampOf 44 = .ok (.aload_n 0, 1) := by decide +kernel
theorem dX10_stampOf_45 : decode cX10_stampOf 45 = .ok (.getfield 80, 3) := by decide +kernel
theorem dX10_stampOf_48 : decode cX10_stampOf 48 = .ok (.aload_n 0, 1) := by decide +kernel
theorem dX10_stampOf_49 : decode cX10_stampOf 49 = .ok (.getfield 240, 3) := by decide +kernel
theorem dX10_stampOf_52 : decode cX10_stampOf 52 = .ok (.bipush 6, 2) := by decide +kernel
theorem dX10_stampOf_54 : decode cX10_stampOf 54 = .ok (.iadd, 1) := by decide +kernel
theorem dX10_stampOf_55 : decode cX10_stampOf 55 = .ok (.iaload, 1) := by decide +kernel
theorem dX10_stampOf_56 : decode cX10_stampOf 56 = .ok (.bipush 108, 2) := by decide +kernel
theorem dX10_stampOf_58 : decode cX10_stampOf 58 = .ok (.if_icmp .ne 5, 3) := by decide +kernel
theorem dX10_stampOf_61 : decode cX10_stampOf 61 = .ok (.iconst 1, 1) := by decide +kernel
theorem dX10_stampOf_62 : decode cX10_stampOf 62 = .ok (.ireturn, 1) := by decide +kernel
theorem dX10_stampOf_63 : decode cX10_stampOf 63 = .ok (.aload_n 0, 1) := by decide +kernel
theorem dX10_stampOf_64 : decode cX10_stampOf 64 = .ok (.iconst 5, 1) := by decide +kernel
theorem dX10_stampOf_65 : decode cX10_stampOf 65 = .ok (.bipush 117, 2) := by decide +kernel
theorem dX10_stampOf_67 : decode cX10_stampOf 67 = .ok (.bipush 110, 2) := by decide +kernel
theorem dX10_stampOf_69 : decode cX10_stampOf 69 = .ok (.bipush 105, 2) := by decide +kernel
theorem dX10_stampOf_71 : decode cX10_stampOf 71 = .ok (.bipush 111, 2) := by decide +kernel
theorem dX10_stampOf_73 : decode cX10_stampOf 73 = .ok (.bipush 110, 2) := by decide +kernel
theorem dX10_stampOf_75 : decode cX10_stampOf 75 = .ok (.iconst 0, 1) := by decide +kernel
theorem dX10_stampOf_76 : decode cX10_stampOf 76 = .ok (.invokevirtual 258, 3) := by decide +kernel
theorem dX10_stampOf_79 : decode cX10_stampOf 79 = .ok (.ifCond .eq 5, 3) := by decide +kernel
theorem dX10_stampOf_82 : decode cX10_stampOf 82 = .ok (.iconst 2, 1) := by decide +kernel
theorem dX10_stampOf_83 : decode cX10_stampOf 83 = .ok (.ireturn, 1) := by decide +kernel
theorem dX10_stampOf_84 : decode cX10_stampOf 84 = .ok (.aload_n 0, 1) := by decide +kernel
theorem dX10_stampOf_85 : decode cX10_stampOf 85 = .ok (.iconst 5, 1) := by decide +kernel
theorem dX10_stampOf_86 : decode cX10_stampOf 86 = .ok (.bipush 115, 2) := by decide +kernel
theorem dX10_stampOf_88 : decode cX10_stampOf 88 = .ok (.bipush 116, 2) := by decide +kernel
theorem dX10_stampOf_90 : decode cX10_stampOf 90 = .ok (.bipush 97, 2) := by decide +kernel
theorem dX10_stampOf_92 : decode cX10_stampOf 92 = .ok (.bipush 116, 2) := by decide +kernel
theorem dX10_stampOf_94 : decode cX10_stampOf 94 = .ok (.bipush 101, 2) := by decide +kernel
theorem dX10_stampOf_96 : decode cX10_stampOf 96 = .ok (.iconst 0, 1) := by decide +kernel
theorem dX10_stampOf_97 : decode cX10_stampOf 97 = .ok (.invokevirtual 258, 3) := by decide +kernel
theorem dX10_stampOf_100 : decode cX10_stampOf 100 = .ok (.ifCond .eq 7, 3) := by decide +kernel
theorem dX10_stampOf_103 : decode cX10_stampOf 103 = .ok (.iconst 3, 1) := by decide +kernel
theorem dX10_stampOf_104 : decode cX10_stampOf 104 = .ok (.goto 4, 3) := by decide +kernel
theorem dX10_stampOf_107 : decode cX10_stampOf 107 = .ok (.iconst (-1), 1) := by decide +kernel
theorem dX10_stampOf_108 : decode cX10_stampOf 108 = .ok (.ireturn, 1) := by decide +kernel
theorem dX10_readNeed_0 : decode cX10_readNeed 0 = .ok (.aload_n 0, 1) := by decide +kernel
theorem dX10_readNeed_1 : decode cX10_readNeed 1 = .ok (.invokevirtual 262, 3) := by decide +kernel
theorem dX10_readNeed_4 : decode cX10_readNeed 4 = .ok (.aload_n 0, 1) := by decide +kernel
theorem dX10_readNeed_5 : decode cX10_readNeed 5 = .ok (.getfield 74, 3) := by decide +kernel
theorem dX10_readNeed_8 : decode cX10_readNeed 8 = .ok (.iload_n 1, 1) := by decide +kernel
theorem dX10_readNeed_9 : decode cX10_readNeed 9 = .ok (.aload_n 0, 1) := by decide +kernel
theorem dX10_readNeed_10 : decode cX10_readNeed 10 = .ok (.invokevirtual 265, 3) := by decide +kernel
theorem dX10_readNeed_13 : decode cX10_readNeed 13 = .ok (.iastore, 1) := by decide +kernel
theorem dX10_readNeed_14 : decode cX10_readNeed 14 = .ok (.aload_n 0, 1) := by decide +kernel
theorem dX10_readNeed_15 : decode cX10_readNeed 15 = .ok (.aload_n 0, 1) := by decide +kernel
theorem dX10_readNeed_16 : decode cX10_readNeed 16 = .ok (.getfield 74, 3) := by decide +kernel
theorem dX10_readNeed_19 : decode cX10_readNeed 19 = .ok (.iload_n 1, 1) := by decide +kernel
theorem dX10_readNeed_20 : decode cX10_readNeed 20 = .ok (.iaload, 1) := by decide +kernel
theorem dX10_readNeed_21 : decode cX10_readNeed 21 = .ok (.ifCond .lt 7, 3) := by decide +kernel
theorem dX10_readNeed_24 : decode cX10_readNeed 24 = .ok (.iconst 1, 1) := by decide +kernel
theorem dX10_readNeed_25 : decode cX10_readNeed 25 = .ok (.goto 4, 3) := by decide +kernel
theorem dX10_readNeed_28 : decode cX10_readNeed 28 = .ok (.iconst 0, 1) := by decide +kernel
theorem dX10_readNeed_29 : decode cX10_readNeed 29 = .ok (.iconst 1, 1) := by decide +kernel
theorem dX10_readNeed_30 : decode cX10_readNeed 30 = .ok (.aload_n 0, 1) := by decide +kernel
theorem dX10_readNeed_31 : decode cX10_readNeed 31 = .ok (.getfield 240, 3) := by decide +kernel
theorem dX10_readNeed_34 : decode cX10_readNeed 34 = .ok (.invokevirtual 254, 3) := by decide +kernel
theorem dX10_readNeed_37 : decode cX10_readNeed 37 = .ok (.istore_n 2, 1) := by decide +kernel
theorem dX10_readNeed_38 : decode cX10_readNeed 38 = .ok (.iconst 0, 1) := by decide +kernel
theorem dX10_readNeed_39 : decode cX10_readNeed 39 = .ok (.istore_n 3, 1) := by decide +kernel
theorem dX10_readNeed_40 : decode cX10_readNeed 40 = .ok (.iload_n 2, 1) := by decide +kernel
theorem dX10_readNeed_41 : decode cX10_readNeed 41 = .ok (.ifCond .eq 106, 3) := by decide +kernel
theorem dX10_readNeed_44 : decode cX10_readNeed 44 = .ok (.aload_n 0, 1) := by decide +kernel
theorem dX10_readNeed_45 : decode cX10_readNeed 45 = .ok (.getfield 233, 3) := by decide +kernel
theorem dX10_readNeed_48 : decode cX10_readNeed 48 = .ok (.ifCond .ne 99, 3) := by decide +kernel
theorem dX10_readNeed_51 : decode cX10_readNeed 51 = .ok (.aload_n 0, 1) := by decide +kernel
theorem dX10_readNeed_52 : decode cX10_readNeed 52 = .ok (.invokevirtual 262, 3) := by decide +kernel
theorem dX10_readNeed_55 : decode cX10_readNeed 55 = .ok (.aload_n 0, 1) := by decide +kernel
theorem dX10_readNeed_56 : decode cX10_readNeed 56 = .ok (.invokevirtual 268, 3) := by decide +kernel
theorem dX10_readNeed_59 : decode cX10_readNeed 59 = .ok (.istore 4, 2) := by decide +kernel
theorem dX10_readNeed_61 : decode cX10_readNeed 61 = .ok (.aload_n 0, 1) := by decide +kernel
theorem dX10_readNeed_62 : decode cX10_readNeed 62 = .ok (.iload 4, 2) := by decide +kernel
theorem dX10_readNeed_64 : decode cX10_readNeed 64 = .ok (.ifCond .lt 7, 3) := by decide +kernel
theorem dX10_readNeed_67 : decode cX10_readNeed 67 = .ok (.iconst 1, 1) := by decide +kernel
theorem dX10_readNeed_68 : decode cX10_readNeed 68 = .ok (.goto 4, 3) := by decide +kernel
theorem dX10_readNeed_71 : decode cX10_readNeed 71 = .ok (.iconst 0, 1) := by decide +kernel
theorem dX10_readNeed_72 : decode cX10_readNeed 72 = .ok (.iconst 1, 1) := by decide +kernel
theorem dX10_readNeed_73 : decode cX10_readNeed 73 = .ok (.aload_n 0, 1) := by decide +kernel
theorem dX10_readNeed_74 : decode cX10_readNeed 74 = .ok (.getfield 240, 3) := by decide +kernel
theorem dX10_readNeed_77 : decode cX10_readNeed 77 = .ok (.invokevirtual 254, 3) := by decide +kernel
theorem dX10_readNeed_80 : decode cX10_readNeed 80 = .ok (.ifCond .eq 64, 3) := by decide +kernel
theorem dX10_readNeed_83 : decode cX10_readNeed 83 = .ok (.aload_n 0, 1) := by decide +kernel
theorem dX10_readNeed_84 : decode cX10_readNeed 84 = .ok (.iload_n 3, 1) := by decide +kernel
theorem dX10_readNeed_85 : decode cX10_readNeed 85 = .ok (.iload 4, 2) := by decide +kernel
theorem dX10_readNeed_87 : decode cX10_readNeed 87 = .ok (.ishr, 1) := by decide +kernel
theorem dX10_readNeed_88 : decode cX10_readNeed 88 = .ok (.iconst 1, 1) := by decide +kernel
theorem dX10_readNeed_89 : decode cX10_readNeed 89 = .ok (.iand, 1) := by decide +kernel
theorem dX10_readNeed_90 : decode cX10_readNeed 90 = .ok (.ifCond .ne 7, 3) := by decide +kernel
theorem dX10_readNeed_93 : decode cX10_readNeed 93 = .ok (.iconst 1, 1) := by decide +kernel
theorem dX10_readNeed_94 : decode cX10_readNeed 94 = .ok (.goto 4, 3) := by decide +kernel
theorem dX10_readNeed_97 : decode cX10_readNeed 97 = .ok (.iconst 0, 1) := by decide +kernel
theorem dX10_readNeed_98 : decode cX10_readNeed 98 = .ok (.iconst 4, 1) := by decide +kernel
theorem dX10_readNeed_99 : decode cX10_readNeed 99 = .ok (.aload_n 0, 1) := by decide +kernel
theorem dX10_readNeed_100 : decode cX10_readNeed 100 = .ok (.getfield 240, 3) := by decide +kernel
theorem dX10_readNeed_103 : decode cX10_readNeed 103 = .ok (.invokevirtual 254, 3) := by decide +kernel
theorem dX10_readNeed_106 : decode cX10_readNeed 106 = .ok (.ifCond .eq 38, 3) := by decide +kernel
theorem dX10_readNeed_109 : decode cX10_readNeed 109 = .ok (.iload_n 3, 1) := by decide +kernel
theorem dX10_readNeed_110 : decode cX10_readNeed 110 = .ok (.iconst 1, 1) := by decide +kernel
theorem dX10_readNeed_111 : decode cX10_readNeed 111 = .ok (.iload 4, 2) := by decide +kernel
theorem dX10_readNeed_113 : decode cX10_readNeed 113 = .ok (.ishl, 1) := by decide +kernel
theorem dX10_readNeed_114 : decode cX10_readNeed 114 = .ok (.ior, 1) := by decide +kernel
theorem dX10_readNeed_115 : decode cX10_readNeed 115 = .ok (.istore_n 3, 1) := by decide +kernel
theorem dX10_readNeed_116 : decode cX10_readNeed 116 = .ok (.aload_n 0, 1) := by decide +kernel
theorem dX10_readNeed_117 : decode cX10_readNeed 117 = .ok (.invokevirtual 236, 3) := by decide +kernel
theorem dX10_readNeed_120 : decode cX10_readNeed 120 = .ok (.bipush 44, 2) := by decide +kernel
theorem dX10_readNeed_122 : decode cX10_readNeed 122 = .ok (.if_icmp .ne 7, 3) := by decide +kernel
theorem dX10_readNeed_125 : decode cX10_readNeed 125 = .ok (.iconst 1, 1) := by decide +kernel
theorem dX10_readNeed_126 : decode cX10_readNeed 126 = .ok (.goto 4, 3) := by decide +kernel
theorem dX10_readNeed_129 : decode cX10_readNeed 129 = .ok (.iconst 0, 1) := by decide +kernel
theorem dX10_readNeed_130 : decode cX10_readNeed 130 = .ok (.istore_n 2, 1) := by decide +kernel
theorem dX10_readNeed_131 : decode cX10_readNeed 131 = .ok (.aload_n 0, 1) := by decide +kernel
theorem dX10_readNeed_132 : decode cX10_readNeed 132 = .ok (.dup, 1) := by decide +kernel
theorem dX10_readNeed_133 : decode cX10_readNeed 133 = .ok (.getfield 230, 3) := by decide +kernel
theorem dX10_readNeed_136 : decode cX10_readNeed 136 = .ok (.iload_n 2, 1) := by decide +kernel
theorem dX10_readNeed_137 : decode cX10_readNeed 137 = .ok (.invokestatic 210, 3) := by decide +kernel
theorem dX10_readNeed_140 : decode cX10_readNeed 140 = .ok (.iadd, 1) := by decide +kernel
theorem dX10_readNeed_141 : decode cX10_readNeed 141 = .ok (.putfield 230, 3) := by decide +kernel
theorem dX10_readNeed_144 : decode cX10_readNeed 144 = .ok (.goto (-104), 3) := by decide +kernel
theorem dX10_readNeed_147 : decode cX10_readNeed 147 = .ok (.aload_n 0, 1) := by decide +kernel
theorem dX10_readNeed_148 : decode cX10_readNeed 148 = .ok (.getfield 77, 3) := by decide +kernel
theorem dX10_readNeed_151 : decode cX10_readNeed 151 = .ok (.iload_n 1, 1) := by decide +kernel
theorem dX10_readNeed_152 : decode cX10_readNeed 152 = .ok (.iload_n 3, 1) := by decide +kernel
theorem dX10_readNeed_153 : decode cX10_readNeed 153 = .ok (.iastore, 1) := by decide +kernel
theorem dX10_readNeed_154 : decode cX10_readNeed 154 = .ok (.return_, 1) := by decide +kernel
theorem dX10_readClause_0 : decode cX10_readClause 0 = .ok (.aload_n 0, 1) := by decide +kernel
theorem dX10_readClause_1 : decode cX10_readClause 1 = .ok (.getfield 71, 3) := by decide +kernel
theorem dX10_readClause_4 : decode cX10_readClause 4 = .ok (.iload_n 2, 1) := by decide +kernel
theorem dX10_readClause_5 : decode cX10_readClause 5 = .ok (.iload_n 1, 1) := by decide +kernel
theorem dX10_readClause_6 : decode cX10_readClause 6 = .ok (.iastore, 1) := by decide +kernel
theorem dX10_readClause_7 : decode cX10_readClause 7 = .ok (.iload_n 1, 1) := by decide +kernel
theorem dX10_readClause_8 : decode cX10_readClause 8 = .ok (.ifCond .ne 11, 3) := by decide +kernel
theorem dX10_readClause_11 : decode cX10_readClause 11 = .ok (.aload_n 0, 1) := by decide +kernel
theorem dX10_readClause_12 : decode cX10_readClause 12 = .ok (.iload_n 2, 1) := by decide +kernel
theorem dX10_readClause_13 : decode cX10_readClause 13 = .ok (.invokevirtual 271, 3) := by decide +kernel
theorem dX10_readClause_16 : decode cX10_readClause 16 = .ok (.goto 95, 3) := by decide +kernel
theorem dX10_readClause_19 : decode cX10_readClause 19 = .ok (.iload_n 1, 1) := by decide +kernel
theorem dX10_readClause_20 : decode cX10_readClause 20 = .ok (.iconst 5, 1) := by decide +kernel
theorem dX10_readClause_21 : decode cX10_readClause 21 = .ok (.if_icmp .ne 48, 3) := by decide +kernel
theorem dX10_readClause_24 : decode cX10_readClause 24 = .ok (.aload_n 0, 1) := by decide +kernel
theorem dX10_readClause_25 : decode cX10_readClause 25 = .ok (.getfield 74, 3) := by decide +kernel
theorem dX10_readClause_28 : decode cX10_readClause 28 = .ok (.iload_n 2, 1) := by decide +kernel
theorem dX10_readClause_29 : decode cX10_readClause 29 = .ok (.aload_n 0, 1) := by decide +kernel
theorem dX10_readClause_30 : decode cX10_readClause 30 = .ok (.iconst 0, 1) := by decide +kernel
theorem dX10_readClause_31 : decode cX10_readClause 31 = .ok (.sipush 999, 3) := by decide +kernel
theorem dX10_readClause_34 : decode cX10_readClause 34 = .ok (.invokevirtual 275, 3) := by decide +kernel
theorem dX10_readClause_37 : decode cX10_readClause 37 = .ok (.iastore, 1) := by decide +kernel
theorem dX10_readClause_38 : decode cX10_readClause 38 = .ok (.aload_n 0, 1) := by decide +kernel
theorem dX10_readClause_39 : decode cX10_readClause 39 = .ok (.aload_n 0, 1) := by decide +kernel
theorem dX10_readClause_40 : decode cX10_readClause 40 = .ok (.getfield 74, 3) := by decide +kernel
theorem dX10_readClause_43 : decode cX10_readClause 43 = .ok (.iload_n 2, 1) := by decide +kernel
theorem dX10_readClause_44 : decode cX10_readClause 44 = .ok (.iaload, 1) := by decide +kernel
theorem dX10_readClause_45 : decode cX10_readClause 45 = .ok (.aload_n 0, 1) := by decide +kernel
theorem dX10_readClause_46 : decode cX10_readClause 46 = .ok (.getfield 278, 3) := by decide +kernel
theorem dX10_readClause_49 : decode cX10_readClause 49 = .ok (.if_icmp .ge 7, 3) := by decide +kernel
theorem dX10_readClause_52 : decode cX10_readClause 52 = .ok (.iconst 1, 1) := by decide +kernel
theorem dX10_readClause_53 : decode cX10_readClause 53 = .ok (.goto 4, 3) := by decide +kernel
theorem dX10_readClause_56 : decode cX10_readClause 56 = .ok (.iconst 0, 1) := by decide +kernel
theorem dX10_readClause_57 : decode cX10_readClause 57 = .ok (.iconst 3, 1) := by decide +kernel
theorem dX10_readClause_58 : decode cX10_readClause 58 = .ok (.aload_n 0, 1) := by decide +kernel
theorem dX10_readClause_59 : decode cX10_readClause 59 = .ok (.getfield 240, 3) := by decide +kernel
theorem dX10_readClause_62 : decode cX10_readClause 62 = .ok (.invokevirtual 254, 3) := by decide +kernel
theorem dX10_readClause_65 : decode cX10_readClause 65 = .ok (.istore_n 3, 1) := by decide +kernel
theorem dX10_readClause_66 : decode cX10_readClause 66 = .ok (.goto 45, 3) := by decide +kernel
theorem dX10_readClause_69 : decode cX10_readClause 69 = .ok (.aload_n 0, 1) := by decide +kernel
theorem dX10_readClause_70 : decode cX10_readClause 70 = .ok (.getfield 74, 3) := by decide +kernel
theorem dX10_readClause_73 : decode cX10_readClause 73 = .ok (.iload_n 2, 1) := by decide +kernel
theorem dX10_readClause_74 : decode cX10_readClause 74 = .ok (.aload_n 0, 1) := by decide +kernel
theorem dX10_readClause_75 : decode cX10_readClause 75 = .ok (.iload_n 1, 1) := by decide +kernel
theorem dX10_readClause_76 : decode cX10_readClause 76 = .ok (.iconst 4, 1) := by decide +kernel
theorem dX10_readClause_77 : decode cX10_readClause 77 = .ok (.if_icmp .ne 7, 3) := by decide +kernel
theorem dX10_readClause_80 : decode cX10_readClause 80 = .ok (.iconst 1, 1) := by decide +kernel
theorem dX10_readClause_81 : decode cX10_readClause 81 = .ok (.goto 4, 3) := by decide +kernel
theorem dX10_readClause_84 : decode cX10_readClause 84 = .ok (.iconst 0, 1) := by decide +kernel
theorem dX10_readClause_85 : decode cX10_readClause 85 = .ok (.iload_n 1, 1) := by decide +kernel
theorem dX10_readClause_86 : decode cX10_readClause 86 = .ok (.iconst 4, 1) := by decide +kernel
theorem dX10_readClause_87 : decode cX10_readClause 87 = .ok (.if_icmp .ne 8, 3) := by decide +kernel
theorem dX10_readClause_90 : decode cX10_readClause 90 = .ok (.bipush 9, 2) := by decide +kernel
theorem dX10_readClause_92 : decode cX10_readClause 92 = .ok (.goto 15, 3) := by decide +kernel
theorem dX10_readClause_95 : decode cX10_readClause 95 = .ok (.iload_n 1, 1) := by decide +kernel
theorem dX10_readClause_96 : decode cX10_readClause 96 = .ok (.iconst 3, 1) := by decide +kernel
theorem dX10_readClause_97 : decode cX10_readClause 97 = .ok (.if_icmp .ne 8, 3) := by decide +kernel
theorem dX10_readClause_100 : decode cX10_readClause 100 = .ok (.bipush 100, 2) := by decide +kernel
theorem dX10_readClause_102 : decode cX10_readClause 102 = .ok (.goto 5, 3) := by decide +kernel
theorem dX10_readClause_105 : decode cX10_readClause 105 = .ok (.bipush 99, 2) := by decide +kernel
theorem dX10_readClause_107 : decode cX10_readClause 107 = .ok (.invokevirtual 275, 3) := by decide +kernel
theorem dX10_readClause_110 : decode cX10_readClause 110 = .ok (.iastore, 1) := by decide +kernel
theorem dX10_readClause_111 : decode cX10_readClause 111 = .ok (.aload_n 0, 1) := by decide +kernel
theorem dX10_readClause_112 : decode cX10_readClause 112 = .ok (.getfield 233, 3) := by decide +kernel
theorem dX10_readClause_115 : decode cX10_readClause 115 = .ok (.ifCond .ne 40, 3) := by decide +kernel
theorem dX10_readClause_118 : decode cX10_readClause 118 = .ok (.aload_n 0, 1) := by decide +kernel
theorem dX10_readClause_119 : decode cX10_readClause 119 = .ok (.invokevirtual 236, 3) := by decide +kernel
theorem dX10_readClause_122 : decode cX10_readClause 122 = .ok (.istore_n 3, 1) := by decide +kernel
theorem dX10_readClause_123 : decode cX10_readClause 123 = .ok (.aload_n 0, 1) := by decide +kernel
theorem dX10_readClause_124 : decode cX10_readClause 124 = .ok (.dup, 1) := by decide +kernel
theorem dX10_readClause_125 : decode cX10_readClause 125 = .ok (.getfield 230, 3) := by decide +kernel
theorem dX10_readClause_128 : decode cX10_readClause 128 = .ok (.aload_n 0, 1) := by decide +kernel
theorem dX10_readClause_129 : decode cX10_readClause 129 = .ok (.iload_n 3, 1) := by decide +kernel
theorem dX10_readClause_130 : decode cX10_readClause 130 = .ok (.bipush 59, 2) := by decide +kernel
theorem dX10_readClause_132 : decode cX10_readClause 132 = .ok (.if_icmp .ne 7, 3) := by decide +kernel
theorem dX10_readClause_135 : decode cX10_readClause 135 = .ok (.iconst 1, 1) := by decide +kernel
theorem dX10_readClause_136 : decode cX10_readClause 136 = .ok (.goto 4, 3) := by decide +kernel
theorem dX10_readClause_139 : decode cX10_readClause 139 = .ok (.iconst 0, 1) := by decide +kernel
theorem dX10_readClause_140 : decode cX10_readClause 140 = .ok (.iconst 1, 1) := by decide +kernel
theorem dX10_readClause_141 : decode cX10_readClause 141 = .ok (.aload_n 0, 1) := by decide +kernel
theorem dX10_readClause_142 : decode cX10_readClause 142 = .ok (.getfield 230, 3) := by decide +kernel
theorem dX10_readClause_145 : decode cX10_readClause 145 = .ok (.invokevirtual 254, 3) := by decide +kernel
theorem dX10_readClause_148 : decode cX10_readClause 148 = .ok (.invokestatic 210, 3) := by decide +kernel
theorem dX10_readClause_151 : decode cX10_readClause 151 = .ok (.iadd, 1) := by decide +kernel
theorem dX10_readClause_152 : decode cX10_readClause 152 = .ok (.putfield 230, 3) := by decide +kernel
theorem dX10_readClause_155 : decode cX10_readClause 155 = .ok (.return_, 1) := by decide +kernel
theorem dX10_rule_0 : decode cX10_rule 0 = .ok (.iload_n 1, 1) := by decide +kernel
theorem dX10_rule_1 : decode cX10_rule 1 = .ok (.invokestatic 218, 3) := by decide +kernel
theorem dX10_rule_4 : decode cX10_rule 4 = .ok (.ifCond .ne 7, 3) := by decide +kernel
theorem dX10_rule_7 : decode cX10_rule 7 = .ok (.sipush (-1002), 3) := by decide +kernel
theorem dX10_rule_10 : decode cX10_rule 10 = .ok (.ireturn, 1) := by decide +kernel
theorem dX10_rule_11 : decode cX10_rule 11 = .ok (.aload_n 0, 1) := by decide +kernel
theorem dX10_rule_12 : decode cX10_rule 12 = .ok (.getfield 278, 3) := by decide +kernel
theorem dX10_rule_15 : decode cX10_rule 15 = .ok (.bipush 8, 2) := by decide +kernel
theorem dX10_rule_17 : decode cX10_rule 17 = .ok (.if_icmp .ne 7, 3) := by decide +kernel
theorem dX10_rule_20 : decode cX10_rule 20 = .ok (.sipush (-1004), 3) := by decide +kernel
theorem dX10_rule_23 : decode cX10_rule 23 = .ok (.ireturn, 1) := by decide +kernel
theorem dX10_rule_24 : decode cX10_rule 24 = .ok (.aload_n 0, 1) := by decide +kernel
theorem dX10_rule_25 : decode cX10_rule 25 = .ok (.iconst 0, 1) := by decide +kernel
theorem dX10_rule_26 : decode cX10_rule 26 = .ok (.putfield 230, 3) := by decide +kernel
theorem dX10_rule_29 : decode cX10_rule 29 = .ok (.aload_n 0, 1) := by decide +kernel
theorem dX10_rule_30 : decode cX10_rule 30 = .ok (.iconst 0, 1) := by decide +kernel
theorem dX10_rule_31 : decode cX10_rule 31 = .ok (.putfield 233, 3) := by decide +kernel
theorem dX10_rule_34 : decode cX10_rule 34 = .ok (.aload_n 0, 1) := by decide +kernel
theorem dX10_rule_35 : decode cX10_rule 35 = .ok (.iconst (-1), 1) := by decide +kernel
theorem dX10_rule_36 : decode cX10_rule 36 = .ok (.putfield 83, 3) := by decide +kernel
theorem dX10_rule_39 : decode cX10_rule 39 = .ok (.iconst 0, 1) := by decide +kernel
theorem dX10_rule_40 : decode cX10_rule 40 = .ok (.istore_n 2, 1) := by decide +kernel
theorem dX10_rule_41 : decode cX10_rule 41 = .ok (.aload_n 0, 1) := by decide +kernel
theorem dX10_rule_42 : decode cX10_rule 42 = .ok (.getfield 233, 3) := by decide +kernel
theorem dX10_rule_45 : decode cX10_rule 45 = .ok (.ifCond .ne 83, 3) := by decide +kernel
theorem dX10_rule_48 : decode cX10_rule 48 = .ok (.aload_n 0, 1) := by decide +kernel
theorem dX10_rule_49 : decode cX10_rule 49 = .ok (.invokevirtual 236, 3) := by decide +kernel
theorem dX10_rule_52 : decode cX10_rule 52 = .ok (.ifCond .lt 76, 3) := by decide +kernel
theorem dX10_rule_55 : decode cX10_rule 55 = .ok (.aload_n 0, 1) := by decide +kernel
theorem dX10_rule_56 : decode cX10_rule 56 = .ok (.invokevirtual 262, 3) := by decide +kernel
theorem dX10_rule_59 : decode cX10_rule 59 = .ok (.aload_n 0, 1) := by decide +kernel
theorem dX10_rule_60 : decode cX10_rule 60 = .ok (.invokevirtual 281, 3) := by decide +kernel
theorem dX10_rule_63 : decode cX10_rule 63 = .ok (.istore_n 3, 1) := by decide +kernel
theorem dX10_rule_64 : decode cX10_rule 64 = .ok (.aload_n 0, 1) := by decide +kernel
theorem dX10_rule_65 : decode cX10_rule 65 = .ok (.iload_n 3, 1) := by decide +kernel
theorem dX10_rule_66 : decode cX10_rule 66 = .ok (.ifCond .lt 7, 3) := by decide +kernel
theorem dX10_rule_69 : decode cX10_rule 69 = .ok (.iconst 1, 1) := by decide +kernel
theorem dX10_rule_70 : decode cX10_rule 70 = .ok (.goto 4, 3) := by decide +kernel
theorem dX10_rule_73 : decode cX10_rule 73 = .ok (.iconst 0, 1) := by decide +kernel
theorem dX10_rule_74 : decode cX10_rule 74 = .ok (.iconst 1, 1) := by decide +kernel
theorem dX10_rule_75 : decode cX10_rule 75 = .ok (.aload_n 0, 1) := by decide +kernel
theorem dX10_rule_76 : decode cX10_rule 76 = .ok (.getfield 240, 3) := by decide +kernel
theorem dX10_rule_79 : decode cX10_rule 79 = .ok (.invokevirtual 254, 3) := by decide +kernel
theorem dX10_rule_82 : decode cX10_rule 82 = .ok (.ifCond .eq 43, 3) := by decide +kernel
theorem dX10_rule_85 : decode cX10_rule 85 = .ok (.aload_n 0, 1) := by decide +kernel
theorem dX10_rule_86 : decode cX10_rule 86 = .ok (.iload_n 2, 1) := by decide +kernel
theorem dX10_rule_87 : decode cX10_rule 87 = .ok (.bipush 8, 2) := by decide +kernel
theorem dX10_rule_89 : decode cX10_rule 89 = .ok (.if_icmp .ge 7, 3) := by decide +kernel
theorem dX10_rule_92 : decode cX10_rule 92 = .ok (.iconst 1, 1) := by decide +kernel
theorem dX10_rule_93 : decode cX10_rule 93 = .ok (.goto 4, 3) := by decide +kernel
theorem dX10_rule_96 : decode cX10_rule 96 = .ok (.iconst 0, 1) := by decide +kernel
theorem dX10_rule_97 : decode cX10_rule 97 = .ok (.iconst 5, 1) := by decide +kernel
theorem dX10_rule_98 : decode cX10_rule 98 = .ok (.aload_n 0, 1) := by decide +kernel
theorem dX10_rule_99 : decode cX10_rule 99 = .ok (.getfield 240, 3) := by decide +kernel
theorem dX10_rule_102 : decode cX10_rule 102 = .ok (.invokevirtual 254, 3) := by decide +kernel
theorem dX10_rule_105 : decode cX10_rule 105 = .ok (.ifCond .eq 20, 3) := by decide +kernel
theorem dX10_rule_108 : decode cX10_rule 108 = .ok (.aload_n 0, 1) := by decide +kernel
theorem dX10_rule_109 : decode cX10_rule 109 = .ok (.iload_n 3, 1) := by decide +kernel
theorem dX10_rule_110 : decode cX10_rule 110 = .ok (.bipush 8, 2) := by decide +kernel
theorem dX10_rule_112 : decode cX10_rule 112 = .ok (.aload_n 0, 1) := by decide +kernel
theorem dX10_rule_113 : decode cX10_rule 113 = .ok (.getfield 278, 3) := by decide +kernel
theorem dX10_rule_116 : decode cX10_rule 116 = .ok (.imul, 1) := by decide +kernel
theorem dX10_rule_117 : decode cX10_rule 117 = .ok (.iload_n 2, 1) := by decide +kernel
theorem dX10_rule_118 : decode cX10_rule 118 = .ok (.iadd, 1) := by decide +kernel
theorem dX10_rule_119 : decode cX10_rule 119 = .ok (.invokevirtual 284, 3) := by decide +kernel
theorem dX10_rule_122 : decode cX10_rule 122 = .ok (.iinc 2 1, 3) := by decide +kernel
theorem dX10_rule_125 : decode cX10_rule 125 = .ok (.goto (-84), 3) := by decide +kernel
theorem dX10_rule_128 : decode cX10_rule 128 = .ok (.aload_n 0, 1) := by decide +kernel
theorem dX10_rule_129 : decode cX10_rule 129 = .ok (.iconst 0, 1) := by decide +kernel
theorem dX10_rule_130 : decode cX10_rule 130 = .ok (.putfield 225, 3) := by decide +kernel
theorem dX10_rule_133 : decode cX10_rule 133 = .ok (.aload_n 0, 1) := by decide +kernel
theorem dX10_rule_134 : decode cX10_rule 134 = .ok (.getfield 233, 3) := by decide +kernel
theorem dX10_rule_137 : decode cX10_rule 137 = .ok (.ifCond .le 11, 3) := by decide +kernel
theorem dX10_rule_140 : decode cX10_rule 140 = .ok (.bipush (-10), 2) := by decide +kernel
theorem dX10_rule_142 : decode cX10_rule 142 = .ok (.aload_n 0, 1) := by decide +kernel
theorem dX10_rule_143 : decode cX10_rule 143 = .ok (.getfield 233, 3) := by decide +kernel
theorem dX10_rule_146 : decode cX10_rule 146 = .ok (.isub, 1) := by decide +kernel
theorem dX10_rule_147 : decode cX10_rule 147 = .ok (.ireturn, 1) := by decide +kernel
theorem dX10_rule_148 : decode cX10_rule 148 = .ok (.aload_n 0, 1) := by decide +kernel
theorem dX10_rule_149 : decode cX10_rule 149 = .ok (.getfield 68, 3) := by decide +kernel
theorem dX10_rule_152 : decode cX10_rule 152 = .ok (.aload_n 0, 1) := by decide +kernel
theorem dX10_rule_153 : decode cX10_rule 153 = .ok (.getfield 278, 3) := by decide +kernel
theorem dX10_rule_156 : decode cX10_rule 156 = .ok (.iload_n 2, 1) := by decide +kernel
theorem dX10_rule_157 : decode cX10_rule 157 = .ok (.iastore, 1) := by decide +kernel
theorem dX10_rule_158 : decode cX10_rule 158 = .ok (.aload_n 0, 1) := by decide +kernel
theorem dX10_rule_159 : decode cX10_rule 159 = .ok (.getfield 65, 3) := by decide +kernel
theorem dX10_rule_162 : decode cX10_rule 162 = .ok (.aload_n 0, 1) := by decide +kernel
theorem dX10_rule_163 : decode cX10_rule 163 = .ok (.getfield 278, 3) := by decide +kernel
theorem dX10_rule_166 : decode cX10_rule 166 = .ok (.iload_n 1, 1) := by decide +kernel
theorem dX10_rule_167 : decode cX10_rule 167 = .ok (.iastore, 1) := by decide +kernel
theorem dX10_rule_168 : decode cX10_rule 168 = .ok (.aload_n 0, 1) := by decide +kernel
theorem dX10_rule_169 : decode cX10_rule 169 = .ok (.dup, 1) := by decide +kernel
theorem dX10_rule_170 : decode cX10_rule 170 = .ok (.getfield 278, 3) := by decide +kernel
theorem dX10_rule_173 : decode cX10_rule 173 = .ok (.iconst 1, 1) := by decide +kernel
theorem dX10_rule_174 : decode cX10_rule 174 = .ok (.iadd, 1) := by decide +kernel
theorem dX10_rule_175 : decode cX10_rule 175 = .ok (.putfield 278, 3) := by decide +kernel
theorem dX10_rule_178 : decode cX10_rule 178 = .ok (.aload_n 0, 1) := by decide +kernel
theorem dX10_rule_179 : decode cX10_rule 179 = .ok (.getfield 278, 3) := by decide +kernel
theorem dX10_rule_182 : decode cX10_rule 182 = .ok (.iconst 1, 1) := by decide +kernel
theorem dX10_rule_183 : decode cX10_rule 183 = .ok (.isub, 1) := by decide +kernel
theorem dX10_rule_184 : decode cX10_rule 184 = .ok (.ireturn, 1) := by decide +kernel
theorem dX10_fault_0 : decode cX10_fault 0 = .ok (.aload_n 0, 1) := by decide +kernel
theorem dX10_fault_1 : decode cX10_fault 1 = .ok (.getfield 83, 3) := by decide +kernel
theorem dX10_fault_4 : decode cX10_fault 4 = .ok (.ireturn, 1) := by decide +kernel
theorem dX10_findRules_0 : decode cX10_findRules 0 = .ok (.iconst 0, 1) := by decide +kernel
theorem dX10_findRules_1 : decode cX10_findRules 1 = .ok (.istore_n 2, 1) := by decide +kernel
theorem dX10_findRules_2 : decode cX10_findRules 2 = .ok (.iload_n 2, 1) := by decide +kernel
theorem dX10_findRules_3 : decode cX10_findRules 3 = .ok (.aload_n 0, 1) := by decide +kernel
theorem dX10_findRules_4 : decode cX10_findRules 4 = .ok (.getfield 278, 3) := by decide +kernel
theorem dX10_findRules_7 : decode cX10_findRules 7 = .ok (.if_icmp .ge 30, 3) := by decide +kernel
theorem dX10_findRules_10 : decode cX10_findRules 10 = .ok (.aload_n 0, 1) := by decide +kernel
theorem dX10_findRules_11 : decode cX10_findRules 11 = .ok (.getfield 86, 3) := by decide +kernel
theorem dX10_findRules_14 : decode cX10_findRules 14 = .ok (.iload_n 2, 1) := by decide +kernel
theorem dX10_findRules_15 : decode cX10_findRules 15 = .ok (.aload_n 0, 1) := by decide +kernel
theorem dX10_findRules_16 : decode cX10_findRules 16 = .ok (.getfield 65, 3) := by decide +kernel
theorem dX10_findRules_19 : decode cX10_findRules 19 = .ok (.iload_n 2, 1) := by decide +kernel
theorem dX10_findRules_20 : decode cX10_findRules 20 = .ok (.iaload, 1) := by decide +kernel
theorem dX10_findRules_21 : decode cX10_findRules 21 = .ok (.iload_n 1, 1) := by decide +kernel
theorem dX10_findRules_22 : decode cX10_findRules 22 = .ok (.if_icmp .gt 7, 3) := by decide +kernel
theorem dX10_findRules_25 : decode cX10_findRules 25 = .ok (.iconst 1, 1) := by decide +kernel
theorem dX10_findRules_26 : decode cX10_findRules 26 = .ok (.goto 4, 3) := by decide +kernel
theorem dX10_findRules_29 : decode cX10_findRules 29 = .ok (.iconst 0, 1) := by decide +kernel
theorem dX10_findRules_30 : decode cX10_findRules 30 = .ok (.bastore, 1) := by decide +kernel
theorem dX10_findRules_31 : decode cX10_findRules 31 = .ok (.iinc 2 1, 3) := by decide +kernel
theorem dX10_findRules_34 : decode cX10_findRules 34 = .ok (.goto (-32), 3) := by decide +kernel
theorem dX10_findRules_37 : decode cX10_findRules 37 = .ok (.aload_n 0, 1) := by decide +kernel
theorem dX10_findRules_38 : decode cX10_findRules 38 = .ok (.getfield 278, 3) := by decide +kernel
theorem dX10_findRules_41 : decode cX10_findRules 41 = .ok (.iconst 1, 1) := by decide +kernel
theorem dX10_findRules_42 : decode cX10_findRules 42 = .ok (.isub, 1) := by decide +kernel
theorem dX10_findRules_43 : decode cX10_findRules 43 = .ok (.istore_n 2, 1) := by decide +kernel
theorem dX10_findRules_44 : decode cX10_findRules 44 = .ok (.iload_n 2, 1) := by decide +kernel
theorem dX10_findRules_45 : decode cX10_findRules 45 = .ok (.ifCond .lt 66, 3) := by decide +kernel
theorem dX10_findRules_48 : decode cX10_findRules 48 = .ok (.bipush 8, 2) := by decide +kernel
theorem dX10_findRules_50 : decode cX10_findRules 50 = .ok (.iload_n 2, 1) := by decide +kernel
theorem dX10_findRules_51 : decode cX10_findRules 51 = .ok (.imul, 1) := by decide +kernel
theorem dX10_findRules_52 : decode cX10_findRules 52 = .ok (.istore_n 3, 1) := by decide +kernel
theorem dX10_findRules_53 : decode cX10_findRules 53 = .ok (.iload_n 3, 1) := by decide +kernel
theorem dX10_findRules_54 : decode cX10_findRules 54 = .ok (.bipush 8, 2) := by decide +kernel
theorem dX10_findRules_56 : decode cX10_findRules 56 = .ok (.iload_n 2, 1) := by decide +kernel
theorem dX10_findRules_57 : decode cX10_findRules 57 = .ok (.imul, 1) := by decide +kernel
theorem dX10_findRules_58 : decode cX10_findRules 58 = .ok (.aload_n 0, 1) := by decide +kernel
theorem dX10_findRules_59 : decode cX10_findRules 59 = .ok (.getfield 68, 3) := by decide +kernel
theorem dX10_findRules_62 : decode cX10_findRules 62 = .ok (.iload_n 2, 1) := by decide +kernel
theorem dX10_findRules_63 : decode cX10_findRules 63 = .ok (.iaload, 1) := by decide +kernel
theorem dX10_findRules_64 : decode cX10_findRules 64 = .ok (.iadd, 1) := by decide +kernel
theorem dX10_findRules_65 : decode cX10_findRules 65 = .ok (.if_icmp .ge 40, 3) := by decide +kernel
theorem dX10_findRules_68 : decode cX10_findRules 68 = .ok (.aload_n 0, 1) := by decide +kernel
theorem dX10_findRules_69 : decode cX10_findRules 69 = .ok (.getfield 86, 3) := by decide +kernel
theorem dX10_findRules_72 : decode cX10_findRules 72 = .ok (.iload_n 2, 1) := by decide +kernel
theorem dX10_findRules_73 : decode cX10_findRules 73 = .ok (.baload, 1) := by decide +kernel
theorem dX10_findRules_74 : decode cX10_findRules 74 = .ok (.ifCond .eq 31, 3) := by decide +kernel
theorem dX10_findRules_77 : decode cX10_findRules 77 = .ok (.aload_n 0, 1) := by decide +kernel
theorem dX10_findRules_78 : decode cX10_findRules 78 = .ok (.getfield 71, 3) := by decide +kernel
theorem dX10_findRules_81 : decode cX10_findRules 81 = .ok (.iload_n 3, 1) := by decide +kernel
theorem dX10_findRules_82 : decode cX10_findRules 82 = .ok (.iaload, 1) := by decide +kernel
theorem dX10_findRules_83 : decode cX10_findRules 83 = .ok (.iconst 5, 1) := by decide +kernel
theorem dX10_findRules_84 : decode cX10_findRules 84 = .ok (.if_icmp .ne 15, 3) := by decide +kernel
theorem dX10_findRules_87 : decode cX10_findRules 87 = .ok (.aload_n 0, 1) := by decide +kernel
theorem dX10_findRules_88 : decode cX10_findRules 88 = .ok (.getfield 86, 3) := by decide +kernel
theorem dX10_findRules_91 : decode cX10_findRules 91 = .ok (.aload_n 0, 1) := by decide +kernel
theorem dX10_findRules_92 : decode cX10_findRules 92 = .ok (.getfield 74, 3) := by decide +kernel
theorem dX10_findRules_95 : decode cX10_findRules 95 = .ok (.iload_n 3, 1) := by decide +kernel
theorem dX10_findRules_96 : decode cX10_findRules 96 = .ok (.iaload, 1) := by decide +kernel
theorem dX10_findRules_97 : decode cX10_findRules 97 = .ok (.iconst 0, 1) := by decide +kernel
theorem dX10_findRules_98 : decode cX10_findRules 98 = .ok (.bastore, 1) := by decide +kernel
theorem dX10_findRules_99 : decode cX10_findRules 99 = .ok (.iinc 3 1, 3) := by decide +kernel
theorem dX10_findRules_102 : decode cX10_findRules 102 = .ok (.goto (-49), 3) := by decide +kernel
theorem dX10_findRules_105 : decode cX10_findRules 105 = .ok (.iinc 2 (-1), 3) := by decide +kernel
theorem dX10_findRules_108 : decode cX10_findRules 108 = .ok (.goto (-64), 3) := by decide +kernel
theorem dX10_findRules_111 : decode cX10_findRules 111 = .ok (.iconst 0, 1) := by decide +kernel
theorem dX10_findRules_112 : decode cX10_findRules 112 = .ok (.istore_n 2, 1) := by decide +kernel
theorem dX10_findRules_113 : decode cX10_findRules 113 = .ok (.iconst 0, 1) := by decide +kernel
theorem dX10_findRules_114 : decode cX10_findRules 114 = .ok (.istore_n 3, 1) := by decide +kernel
theorem dX10_findRules_115 : decode cX10_findRules 115 = .ok (.iload_n 3, 1) := by decide +kernel
theorem dX10_findRules_116 : decode cX10_findRules 116 = .ok (.aload_n 0, 1) := by decide +kernel
theorem dX10_findRules_117 : decode cX10_findRules 117 = .ok (.getfield 278, 3) := by decide +kernel
theorem dX10_findRules_120 : decode cX10_findRules 120 = .ok (.if_icmp .ge 82, 3) := by decide +kernel
theorem dX10_findRules_123 : decode cX10_findRules 123 = .ok (.aload_n 0, 1) := by decide +kernel
theorem dX10_findRules_124 : decode cX10_findRules 124 = .ok (.getfield 86, 3) := by decide +kernel
theorem dX10_findRules_127 : decode cX10_findRules 127 = .ok (.iload_n 3, 1) := by decide +kernel
theorem dX10_findRules_128 : decode cX10_findRules 128 = .ok (.baload, 1) := by decide +kernel
theorem dX10_findRules_129 : decode cX10_findRules 129 = .ok (.ifCond .eq 67, 3) := by decide +kernel
theorem dX10_findRules_132 : decode cX10_findRules 132 = .ok (.iload_n 2, 1) := by decide +kernel
theorem dX10_findRules_133 : decode cX10_findRules 133 = .ok (.istore 4, 2) := by decide +kernel
theorem dX10_findRules_135 : decode cX10_findRules 135 = .ok (.iload 4, 2) := by decide +kernel
theorem dX10_findRules_137 : decode cX10_findRules 137 = .ok (.ifCond .le 48, 3) := by decide +kernel
theorem dX10_findRules_140 : decode cX10_findRules 140 = .ok (.aload_n 0, 1) := by decide +kernel
theorem dX10_findRules_141 : decode cX10_findRules 141 = .ok (.getfield 65, 3) := by decide +kernel
theorem dX10_findRules_144 : decode cX10_findRules 144 = .ok (.aload_n 0, 1) := by decide +kernel
theorem dX10_findRules_145 : decode cX10_findRules 145 = .ok (.getfield 90, 3) := by decide +kernel
theorem dX10_findRules_148 : decode cX10_findRules 148 = .ok (.iload 4, 2) := by decide +kernel
theorem dX10_findRules_150 : decode cX10_findRules 150 = .ok (.iconst 1, 1) := by decide +kernel
theorem dX10_findRules_151 : decode cX10_findRules 151 = .ok (.isub, 1) := by decide +kernel
theorem dX10_findRules_152 : decode cX10_findRules 152 = .ok (.iaload, 1) := by decide +kernel
theorem dX10_findRules_153 : decode cX10_findRules 153 = .ok (.iaload, 1) := by decide +kernel
theorem dX10_findRules_154 : decode cX10_findRules 154 = .ok (.aload_n 0, 1) := by decide +kernel
theorem dX10_findRules_155 : decode cX10_findRules 155 = .ok (.getfield 65, 3) := by decide +kernel
theorem dX10_findRules_158 : decode cX10_findRules 158 = .ok (.iload_n 3, 1) := by decide +kernel
theorem dX10_findRules_159 : decode cX10_findRules 159 = .ok (.iaload, 1) := by decide +kernel
theorem dX10_findRules_160 : decode cX10_findRules 160 = .ok (.if_icmp .le 25, 3) := by decide +kernel
theorem dX10_findRules_163 : decode cX10_findRules 163 = .ok (.aload_n 0, 1) := by decide +kernel
theorem dX10_findRules_164 : decode cX10_findRules 164 = .ok (.getfield 90, 3) := by decide +kernel
theorem dX10_findRules_167 : decode cX10_findRules 167 = .ok (.iload 4, 2) := by decide +kernel
theorem dX10_findRules_169 : decode cX10_findRules 169 = .ok (.aload_n 0, 1) := by decide +kernel
theorem dX10_findRules_170 : decode cX10_findRules 170 = .ok (.getfield 90, 3) := by decide +kernel
theorem dX10_findRules_173 : decode cX10_findRules 173 = .ok (.iload 4, 2) := by decide +kernel
theorem dX10_findRules_175 : decode cX10_findRules 175 = .ok (.iconst 1, 1) := by decide +kernel
theorem dX10_findRules_176 : decode cX10_findRules 176 = .ok (.isub, 1) := by decide +kernel
theorem dX10_findRules_177 : decode cX10_findRules 177 = .ok (.iaload, 1) := by decide +kernel
theorem dX10_findRules_178 : decode cX10_findRules 178 = .ok (.iastore, 1) := by decide +kernel
theorem dX10_findRules_179 : decode cX10_findRules 179 = .ok (.iinc 4 (-1), 3) := by decide +kernel
theorem dX10_findRules_182 : decode cX10_findRules 182 = .ok (.goto (-47), 3) := by decide +kernel
theorem dX10_findRules_185 : decode cX10_findRules 185 = .ok (.aload_n 0, 1) := by decide +kernel
theorem dX10_findRules_186 : decode cX10_findRules 186 = .ok (.getfield 90, 3) := by decide +kernel
theorem dX10_findRules_189 : decode cX10_findRules 189 = .ok (.iload 4, 2) := by decide +kernel
theorem dX10_findRules_191 : decode cX10_findRules 191 = .ok (.iload_n 3, 1) := by decide +kernel
theorem dX10_findRules_192 : decode cX10_findRules 192 = .ok (.iastore, 1) := by decide +kernel
theorem dX10_findRules_193 : decode cX10_findRules 193 = .ok (.iinc 2 1, 3) := by decide +kernel
theorem dX10_findRules_196 : decode cX10_findRules 196 = .ok (.iinc 3 1, 3) := by decide +kernel
theorem dX10_findRules_199 : decode cX10_findRules 199 = .ok (.goto (-84), 3) := by decide +kernel
theorem dX10_findRules_202 : decode cX10_findRules 202 = .ok (.aload_n 0, 1) := by decide +kernel
theorem dX10_findRules_203 : decode cX10_findRules 203 = .ok (.getfield 93, 3) := by decide +kernel
theorem dX10_findRules_206 : decode cX10_findRules 206 = .ok (.iconst 0, 1) := by decide +kernel
theorem dX10_findRules_207 : decode cX10_findRules 207 = .ok (.iconst 4, 1) := by decide +kernel
theorem dX10_findRules_208 : decode cX10_findRules 208 = .ok (.iastore, 1) := by decide +kernel
theorem dX10_findRules_209 : decode cX10_findRules 209 = .ok (.aload_n 0, 1) := by decide +kernel
theorem dX10_findRules_210 : decode cX10_findRules 210 = .ok (.getfield 93, 3) := by decide +kernel
theorem dX10_findRules_213 : decode cX10_findRules 213 = .ok (.iconst 1, 1) := by decide +kernel
theorem dX10_findRules_214 : decode cX10_findRules 214 = .ok (.iconst 2, 1) := by decide +kernel
theorem dX10_findRules_215 : decode cX10_findRules 215 = .ok (.iastore, 1) := by decide +kernel
theorem dX10_findRules_216 : decode cX10_findRules 216 = .ok (.aload_n 0, 1) := by decide +kernel
theorem dX10_findRules_217 : decode cX10_findRules 217 = .ok (.getfield 93, 3) := by decide +kernel
theorem dX10_findRules_220 : decode cX10_findRules 220 = .ok (.iconst 2, 1) := by decide +kernel
theorem dX10_findRules_221 : decode cX10_findRules 221 = .ok (.bipush 12, 2) := by decide +kernel
theorem dX10_findRules_223 : decode cX10_findRules 223 = .ok (.iastore, 1) := by decide +kernel
theorem dX10_findRules_224 : decode cX10_findRules 224 = .ok (.aload_n 0, 1) := by decide +kernel
theorem dX10_findRules_225 : decode cX10_findRules 225 = .ok (.iconst 2, 1) := by decide +kernel
theorem dX10_findRules_226 : decode cX10_findRules 226 = .ok (.putfield 288, 3) := by decide +kernel
theorem dX10_findRules_229 : decode cX10_findRules 229 = .ok (.aload_n 0, 1) := by decide +kernel
theorem dX10_findRules_230 : decode cX10_findRules 230 = .ok (.iconst 5, 1) := by decide +kernel
theorem dX10_findRules_231 : decode cX10_findRules 231 = .ok (.putfield 291, 3) := by decide +kernel
theorem dX10_findRules_234 : decode cX10_findRules 234 = .ok (.aload_n 0, 1) := by decide +kernel
theorem dX10_findRules_235 : decode cX10_findRules 235 = .ok (.bipush 30, 2) := by decide +kernel
theorem dX10_findRules_237 : decode cX10_findRules 237 = .ok (.putfield 294, 3) := by decide +kernel
theorem dX10_findRules_240 : decode cX10_findRules 240 = .ok (.aload_n 0, 1) := by decide +kernel
theorem dX10_findRules_241 : decode cX10_findRules 241 = .ok (.iconst 2, 1) := by decide +kernel
theorem dX10_findRules_242 : decode cX10_findRules 242 = .ok (.putfield 297, 3) := by decide +kernel
theorem dX10_findRules_245 : decode cX10_findRules 245 = .ok (.iconst 0, 1) := by decide +kernel
theorem dX10_findRules_246 : decode cX10_findRules 246 = .ok (.istore_n 3, 1) := by decide +kernel
theorem dX10_findRules_247 : decode cX10_findRules 247 = .ok (.iload_n 3, 1) := by decide +kernel
theorem dX10_findRules_248 : decode cX10_findRules 248 = .ok (.iload_n 2, 1) := by decide +kernel
theorem dX10_findRules_249 : decode cX10_findRules 249 = .ok (.if_icmp .ge 58, 3) := by decide +kernel
theorem dX10_findRules_252 : decode cX10_findRules 252 = .ok (.bipush 8, 2) := by decide +kernel
theorem dX10_findRules_254 : decode cX10_findRules 254 = .ok (.aload_n 0, 1) := by decide +kernel
theorem dX10_findRules_255 : decode cX10_findRules 255 = .ok (.getfield 90, 3) := by decide +kernel
theorem dX10_findRules_258 : decode cX10_findRules 258 = .ok (.iload_n 3, 1) := by decide +kernel
theorem dX10_findRules_259 : decode cX10_findRules 259 = .ok (.iaload, 1) := by decide +kernel
theorem dX10_findRules_260 : decode cX10_findRules 260 = .ok (.imul, 1) := by decide +kernel
theorem dX10_findRules_261 : decode cX10_findRules 261 = .ok (.istore 4, 2) := by decide +kernel
theorem dX10_findRules_263 : decode cX10_findRules 263 = .ok (.iload 4, 2) := by decide +kernel
theorem dX10_findRules_265 : decode cX10_findRules 265 = .ok (.bipush 8, 2) := by decide +kernel
theorem dX10_findRules_267 : decode cX10_findRules 267 = .ok (.aload_n 0, 1) := by decide +kernel
theorem dX10_findRules_268 : decode cX10_findRules 268 = .ok (.getfield 90, 3) := by decide +kernel
theorem dX10_findRules_271 : decode cX10_findRules 271 = .ok (.iload_n 3, 1) := by decide +kernel
theorem dX10_findRules_272 : decode cX10_findRules 272 = .ok (.iaload, 1) := by decide +kernel
theorem dX10_findRules_273 : decode cX10_findRules 273 = .ok (.imul, 1) := by decide +kernel
theorem dX10_findRules_274 : decode cX10_findRules 274 = .ok (.aload_n 0, 1) := by decide +kernel
theorem dX10_findRules_275 : decode cX10_findRules 275 = .ok (.getfield 68, 3) := by decide +kernel
theorem dX10_findRules_278 : decode cX10_findRules 278 = .ok (.aload_n 0, 1) := by decide +kernel
theorem dX10_findRules_279 : decode cX10_findRules 279 = .ok (.getfield 90, 3) := by decide +kernel
theorem dX10_findRules_282 : decode cX10_findRules 282 = .ok (.iload_n 3, 1) := by decide +kernel
theorem dX10_findRules_283 : decode cX10_findRules 283 = .ok (.iaload, 1) := by decide +kernel
theorem dX10_findRules_284 : decode cX10_findRules 284 = .ok (.iaload, 1) := by decide +kernel
theorem dX10_findRules_285 : decode cX10_findRules 285 = .ok (.iadd, 1) := by decide +kernel
theorem dX10_findRules_286 : decode cX10_findRules 286 = .ok (.if_icmp .ge 15, 3) := by decide +kernel
theorem dX10_findRules_289 : decode cX10_findRules 289 = .ok (.aload_n 0, 1) := by decide +kernel
theorem dX10_findRules_290 : decode cX10_findRules 290 = .ok (.iload 4, 2) := by decide +kernel
theorem dX10_findRules_292 : decode cX10_findRules 292 = .ok (.invokevirtual 300, 3) := by decide +kernel
theorem dX10_findRules_295 : decode cX10_findRules 295 = .ok (.iinc 4 1, 3) := by decide +kernel
theorem dX10_findRules_298 : decode cX10_findRules 298 = .ok (.goto (-35), 3) := by decide +kernel
theorem dX10_findRules_301 : decode cX10_findRules 301 = .ok (.iinc 3 1, 3) := by decide +kernel
theorem dX10_findRules_304 : decode cX10_findRules 304 = .ok (.goto (-57), 3) := by decide +kernel
theorem dX10_findRules_307 : decode cX10_findRules 307 = .ok (.return_, 1) := by decide +kernel
theorem dX10_take_0 : decode cX10_take 0 = .ok (.aload_n 0, 1) := by decide +kernel
theorem dX10_take_1 : decode cX10_take 1 = .ok (.getfield 71, 3) := by decide +kernel
theorem dX10_take_4 : decode cX10_take 4 = .ok (.iload_n 1, 1) := by decide +kernel
theorem dX10_take_5 : decode cX10_take 5 = .ok (.iaload, 1) := by decide +kernel
theorem dX10_take_6 : decode cX10_take 6 = .ok (.tableswitch 106 0 4 #[34, 54, 67, 80, 93], 34) := by decide +kernel
theorem dX10_take_40 : decode cX10_take 40 = .ok (.aload_n 0, 1) := by decide +kernel
theorem dX10_take_41 : decode cX10_take 41 = .ok (.getfield 93, 3) := by decide +kernel
theorem dX10_take_44 : decode cX10_take 44 = .ok (.aload_n 0, 1) := by decide +kernel
theorem dX10_take_45 : decode cX10_take 45 = .ok (.getfield 74, 3) := by decide +kernel
theorem dX10_take_48 : decode cX10_take 48 = .ok (.iload_n 1, 1) := by decide +kernel
theorem dX10_take_49 : decode cX10_take 49 = .ok (.iaload, 1) := by decide +kernel
theorem dX10_take_50 : decode cX10_take 50 = .ok (.aload_n 0, 1) := by decide +kernel
theorem dX10_take_51 : decode cX10_take 51 = .ok (.getfield 77, 3) := by decide +kernel
theorem dX10_take_54 : decode cX10_take 54 = .ok (.iload_n 1, 1) := by decide +kernel
theorem dX10_take_55 : decode cX10_take 55 = .ok (.iaload, 1) := by decide +kernel
theorem dX10_take_56 : decode cX10_take 56 = .ok (.iastore, 1) := by decide +kernel
theorem dX10_take_57 : decode cX10_take 57 = .ok (.goto 55, 3) := by decide +kernel
theorem dX10_take_60 : decode cX10_take 60 = .ok (.aload_n 0, 1) := by decide +kernel
theorem dX10_take_61 : decode cX10_take 61 = .ok (.aload_n 0, 1) := by decide +kernel
theorem dX10_take_62 : decode cX10_take 62 = .ok (.getfield 74, 3) := by decide +kernel
theorem dX10_take_65 : decode cX10_take 65 = .ok (.iload_n 1, 1) := by decide +kernel
theorem dX10_take_66 : decode cX10_take 66 = .ok (.iaload, 1) := by decide +kernel
theorem dX10_take_67 : decode cX10_take 67 = .ok (.putfield 288, 3) := by decide +kernel
theorem dX10_take_70 : decode cX10_take 70 = .ok (.goto 42, 3) := by decide +kernel
theorem dX10_take_73 : decode cX10_take 73 = .ok (.aload_n 0, 1) := by decide +kernel
theorem dX10_take_74 : decode cX10_take 74 = .ok (.aload_n 0, 1) := by decide +kernel
theorem dX10_take_75 : decode cX10_take 75 = .ok (.getfield 74, 3) := by decide +kernel
theorem dX10_take_78 : decode cX10_take 78 = .ok (.iload_n 1, 1) := by decide +kernel
theorem dX10_take_79 : decode cX10_take 79 = .ok (.iaload, 1) := by decide +kernel
theorem dX10_take_80 : decode cX10_take 80 = .ok (.putfield 291, 3) := by decide +kernel
theorem dX10_take_83 : decode cX10_take 83 = .ok (.goto 29, 3) := by decide +kernel
theorem dX10_take_86 : decode cX10_take 86 = .ok (.aload_n 0, 1) := by decide +kernel
theorem dX10_take_87 : decode cX10_take 87 = .ok (.aload_n 0, 1) := by decide +kernel
theorem dX10_take_88 : decode cX10_take 88 = .ok (.getfield 74, 3) := by decide +kernel
theorem dX10_take_91 : decode cX10_take 91 = .ok (.iload_n 1, 1) := by decide +kernel
theorem dX10_take_92 : decode cX10_take 92 = .ok (.iaload, 1) := by decide +kernel
theorem dX10_take_93 : decode cX10_take 93 = .ok (.putfield 294, 3) := by decide +kernel
theorem dX10_take_96 : decode cX10_take 96 = .ok (.goto 16, 3) := by decide +kernel
theorem dX10_take_99 : decode cX10_take 99 = .ok (.aload_n 0, 1) := by decide +kernel
theorem dX10_take_100 : decode cX10_take 100 = .ok (.aload_n 0, 1) := by decide +kernel
theorem dX10_take_101 : decode cX10_take 101 = .ok (.getfield 74, 3) := by decide +kernel
theorem dX10_take_104 : decode cX10_take 104 = .ok (.iload_n 1, 1) := by decide +kernel
theorem dX10_take_105 : decode cX10_take 105 = .ok (.iaload, 1) := by decide +kernel
theorem dX10_take_106 : decode cX10_take 106 = .ok (.putfield 297, 3) := by decide +kernel
theorem dX10_take_109 : decode cX10_take 109 = .ok (.goto 3, 3) := by decide +kernel
theorem dX10_take_112 : decode cX10_take 112 = .ok (.return_, 1) := by decide +kernel
theorem dX10_force_0 : decode cX10_force 0 = .ok (.iload_n 1, 1) := by decide +kernel
theorem dX10_force_1 : decode cX10_force 1 = .ok (.i2l, 1) := by decide +kernel
theorem dX10_force_2 : decode cX10_force 2 = .ok (.lconst 0, 1) := by decide +kernel
theorem dX10_force_3 : decode cX10_force 3 = .ok (.ldc2_w 303, 3) := by decide +kernel
