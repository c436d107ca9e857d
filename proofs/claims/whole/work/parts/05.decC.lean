theorem dX6_init_0 : decode cX6_init 0 = .ok (.aload_n 0, 1) := by decide +kernel
theorem dX6_init_1 : decode cX6_init 1 = .ok (.invokespecial 1, 3) := by decide +kernel
theorem dX6_init_4 : decode cX6_init 4 = .ok (.aload_n 0, 1) := by decide +kernel
theorem dX6_init_5 : decode cX6_init 5 = .ok (.sipush 228, 3) := by decide +kernel
theorem dX6_init_8 : decode cX6_init 8 = .ok (.newarray .int, 2) := by decide +kernel
theorem dX6_init_10 : decode cX6_init 10 = .ok (.putfield 7, 3) := by decide +kernel
theorem dX6_init_13 : decode cX6_init 13 = .ok (.aload_n 0, 1) := by decide +kernel
theorem dX6_init_14 : decode cX6_init 14 = .ok (.bipush 76, 2) := by decide +kernel
theorem dX6_init_16 : decode cX6_init 16 = .ok (.newarray .int, 2) := by decide +kernel
theorem dX6_init_18 : decode cX6_init 18 = .ok (.putfield 13, 3) := by decide +kernel
theorem dX6_init_21 : decode cX6_init 21 = .ok (.aload_n 0, 1) := by decide +kernel
theorem dX6_init_22 : decode cX6_init 22 = .ok (.iconst 2, 1) := by decide +kernel
theorem dX6_init_23 : decode cX6_init 23 = .ok (.newarray .boolean, 2) := by decide +kernel
theorem dX6_init_25 : decode cX6_init 25 = .ok (.putfield 16, 3) := by decide +kernel
theorem dX6_init_28 : decode cX6_init 28 = .ok (.aload_n 0, 1) := by decide +kernel
theorem dX6_init_29 : decode cX6_init 29 = .ok (.bipush 76, 2) := by decide +kernel
theorem dX6_init_31 : decode cX6_init 31 = .ok (.newarray .int, 2) := by decide +kernel
theorem dX6_init_33 : decode cX6_init 33 = .ok (.putfield 20, 3) := by decide +kernel
theorem dX6_init_36 : decode cX6_init 36 = .ok (.aload_n 0, 1) := by decide +kernel
theorem dX6_init_37 : decode cX6_init 37 = .ok (.sipush 160, 3) := by decide +kernel
theorem dX6_init_40 : decode cX6_init 40 = .ok (.newarray .int, 2) := by decide +kernel
theorem dX6_init_42 : decode cX6_init 42 = .ok (.putfield 23, 3) := by decide +kernel
theorem dX6_init_45 : decode cX6_init 45 = .ok (.aload_n 0, 1) := by decide +kernel
theorem dX6_init_46 : decode cX6_init 46 = .ok (.bipush 105, 2) := by decide +kernel
theorem dX6_init_48 : decode cX6_init 48 = .ok (.newarray .int, 2) := by decide +kernel
theorem dX6_init_50 : decode cX6_init 50 = .ok (.putfield 26, 3) := by decide +kernel
theorem dX6_init_53 : decode cX6_init 53 = .ok (.aload_n 0, 1) := by decide +kernel
theorem dX6_init_54 : decode cX6_init 54 = .ok (.sipush 420, 3) := by decide +kernel
theorem dX6_init_57 : decode cX6_init 57 = .ok (.newarray .int, 2) := by decide +kernel
theorem dX6_init_59 : decode cX6_init 59 = .ok (.putfield 29, 3) := by decide +kernel
theorem dX6_init_62 : decode cX6_init 62 = .ok (.aload_n 0, 1) := by decide +kernel
theorem dX6_init_63 : decode cX6_init 63 = .ok (.iconst 4, 1) := by decide +kernel
theorem dX6_init_64 : decode cX6_init 64 = .ok (.newarray .int, 2) := by decide +kernel
theorem dX6_init_66 : decode cX6_init 66 = .ok (.putfield 32, 3) := by decide +kernel
theorem dX6_init_69 : decode cX6_init 69 = .ok (.aload_n 0, 1) := by decide +kernel
theorem dX6_init_70 : decode cX6_init 70 = .ok (.iconst 4, 1) := by decide +kernel
theorem dX6_init_71 : decode cX6_init 71 = .ok (.newarray .int, 2) := by decide +kernel
theorem dX6_init_73 : decode cX6_init 73 = .ok (.putfield 35, 3) := by decide +kernel
theorem dX6_init_76 : decode cX6_init 76 = .ok (.aload_n 0, 1) := by decide +kernel
theorem dX6_init_77 : decode cX6_init 77 = .ok (.sipush 160, 3) := by decide +kernel
theorem dX6_init_80 : decode cX6_init 80 = .ok (.newarray .int, 2) := by decide +kernel
theorem dX6_init_82 : decode cX6_init 82 = .ok (.putfield 38, 3) := by decide +kernel
theorem dX6_init_85 : decode cX6_init 85 = .ok (.aload_n 0, 1) := by decide +kernel
theorem dX6_init_86 : decode cX6_init 86 = .ok (.bipush 76, 2) := by decide +kernel
theorem dX6_init_88 : decode cX6_init 88 = .ok (.newarray .int, 2) := by decide +kernel
theorem dX6_init_90 : decode cX6_init 90 = .ok (.putfield 41, 3) := by decide +kernel
theorem dX6_init_93 : decode cX6_init 93 = .ok (.iconst 0, 1) := by decide +kernel
theorem dX6_init_94 : decode cX6_init 94 = .ok (.istore_n 1, 1) := by decide +kernel
theorem dX6_init_95 : decode cX6_init 95 = .ok (.iload_n 1, 1) := by decide +kernel
theorem dX6_init_96 : decode cX6_init 96 = .ok (.iconst 4, 1) := by decide +kernel
theorem dX6_init_97 : decode cX6_init 97 = .ok (.if_icmp .ge 17, 3) := by decide +kernel
theorem dX6_init_100 : decode cX6_init 100 = .ok (.aload_n 0, 1) := by decide +kernel
theorem dX6_init_101 : decode cX6_init 101 = .ok (.getfield 32, 3) := by decide +kernel
theorem dX6_init_104 : decode cX6_init 104 = .ok (.iload_n 1, 1) := by decide +kernel
theorem dX6_init_105 : decode cX6_init 105 = .ok (.bipush (-4), 2) := by decide +kernel
theorem dX6_init_107 : decode cX6_init 107 = .ok (.iastore, 1) := by decide +kernel
theorem dX6_init_108 : decode cX6_init 108 = .ok (.iinc 1 1, 3) := by decide +kernel
theorem dX6_init_111 : decode cX6_init 111 = .ok (.goto (-16), 3) := by decide +kernel
theorem dX6_init_114 : decode cX6_init 114 = .ok (.aload_n 0, 1) := by decide +kernel
theorem dX6_init_115 : decode cX6_init 115 = .ok (.invokevirtual 44, 3) := by decide +kernel
theorem dX6_init_118 : decode cX6_init 118 = .ok (.aload_n 0, 1) := by decide +kernel
theorem dX6_init_119 : decode cX6_init 119 = .ok (.invokevirtual 47, 3) := by decide +kernel
theorem dX6_init_122 : decode cX6_init 122 = .ok (.return_, 1) := by decide +kernel
theorem dX6_in_0 : decode cX6_in 0 = .ok (.lload_n 0, 1) := by decide +kernel
theorem dX6_in_1 : decode cX6_in 1 = .ok (.lload_n 2, 1) := by decide +kernel
theorem dX6_in_2 : decode cX6_in 2 = .ok (.lcmp, 1) := by decide +kernel
theorem dX6_in_3 : decode cX6_in 3 = .ok (.ifCond .lt 14, 3) := by decide +kernel
theorem dX6_in_6 : decode cX6_in 6 = .ok (.lload_n 0, 1) := by decide +kernel
theorem dX6_in_7 : decode cX6_in 7 = .ok (.lload 4, 2) := by decide +kernel
theorem dX6_in_9 : decode cX6_in 9 = .ok (.lcmp, 1) := by decide +kernel
theorem dX6_in_10 : decode cX6_in 10 = .ok (.ifCond .gt 7, 3) := by decide +kernel
theorem dX6_in_13 : decode cX6_in 13 = .ok (.iconst 1, 1) := by decide +kernel
theorem dX6_in_14 : decode cX6_in 14 = .ok (.goto 4, 3) := by decide +kernel
theorem dX6_in_17 : decode cX6_in 17 = .ok (.iconst 0, 1) := by decide +kernel
theorem dX6_in_18 : decode cX6_in 18 = .ok (.ireturn, 1) := by decide +kernel
theorem dX6_flag_0 : decode cX6_flag 0 = .ok (.iload_n 0, 1) := by decide +kernel
theorem dX6_flag_1 : decode cX6_flag 1 = .ok (.ifCond .eq 7, 3) := by decide +kernel
theorem dX6_flag_4 : decode cX6_flag 4 = .ok (.iconst 1, 1) := by decide +kernel
theorem dX6_flag_5 : decode cX6_flag 5 = .ok (.goto 4, 3) := by decide +kernel
theorem dX6_flag_8 : decode cX6_flag 8 = .ok (.iconst 0, 1) := by decide +kernel
theorem dX6_flag_9 : decode cX6_flag 9 = .ok (.ireturn, 1) := by decide +kernel
theorem dX6_lesser_0 : decode cX6_lesser 0 = .ok (.iload_n 0, 1) := by decide +kernel
theorem dX6_lesser_1 : decode cX6_lesser 1 = .ok (.iload_n 1, 1) := by decide +kernel
theorem dX6_lesser_2 : decode cX6_lesser 2 = .ok (.if_icmp .ge 7, 3) := by decide +kernel
theorem dX6_lesser_5 : decode cX6_lesser 5 = .ok (.iload_n 0, 1) := by decide +kernel
theorem dX6_lesser_6 : decode cX6_lesser 6 = .ok (.goto 4, 3) := by decide +kernel
theorem dX6_lesser_9 : decode cX6_lesser 9 = .ok (.iload_n 1, 1) := by decide +kernel
theorem dX6_lesser_10 : decode cX6_lesser 10 = .ok (.ireturn, 1) := by decide +kernel
theorem dX6_sizeOf_0 : decode cX6_sizeOf 0 = .ok (.iload_n 0, 1) := by decide +kernel
theorem dX6_sizeOf_1 : decode cX6_sizeOf 1 = .ok (.ifCond .ge 8, 3) := by decide +kernel
theorem dX6_sizeOf_4 : decode cX6_sizeOf 4 = .ok (.iload_n 0, 1) := by decide +kernel
theorem dX6_sizeOf_5 : decode cX6_sizeOf 5 = .ok (.ineg, 1) := by decide +kernel
theorem dX6_sizeOf_6 : decode cX6_sizeOf 6 = .ok (.goto 4, 3) := by decide +kernel
theorem dX6_sizeOf_9 : decode cX6_sizeOf 9 = .ok (.iload_n 0, 1) := by decide +kernel
theorem dX6_sizeOf_10 : decode cX6_sizeOf 10 = .ok (.ireturn, 1) := by decide +kernel
theorem dX6_firstDraft_0 : decode cX6_firstDraft 0 = .ok (.iconst 0, 1) := by decide +kernel
theorem dX6_firstDraft_1 : decode cX6_firstDraft 1 = .ok (.istore_n 1, 1) := by decide +kernel
theorem dX6_firstDraft_2 : decode cX6_firstDraft 2 = .ok (.iload_n 1, 1) := by decide +kernel
theorem dX6_firstDraft_3 : decode cX6_firstDraft 3 = .ok (.bipush 76, 2) := by decide +kernel
theorem dX6_firstDraft_5 : decode cX6_firstDraft 5 = .ok (.if_icmp .ge 16, 3) := by decide +kernel
theorem dX6_firstDraft_8 : decode cX6_firstDraft 8 = .ok (.aload_n 0, 1) := by decide +kernel
theorem dX6_firstDraft_9 : decode cX6_firstDraft 9 = .ok (.getfield 20, 3) := by decide +kernel
theorem dX6_firstDraft_12 : decode cX6_firstDraft 12 = .ok (.iload_n 1, 1) := by decide +kernel
theorem dX6_firstDraft_13 : decode cX6_firstDraft 13 = .ok (.iconst 0, 1) := by decide +kernel
theorem dX6_firstDraft_14 : decode cX6_firstDraft 14 = .ok (.iastore, 1) := by decide +kernel
theorem dX6_firstDraft_15 : decode cX6_firstDraft 15 = .ok (.iinc 1 1, 3) := by decide +kernel
theorem dX6_firstDraft_18 : decode cX6_firstDraft 18 = .ok (.goto (-16), 3) := by decide +kernel
theorem dX6_firstDraft_21 : decode cX6_firstDraft 21 = .ok (.aload_n 0, 1) := by decide +kernel
theorem dX6_firstDraft_22 : decode cX6_firstDraft 22 = .ok (.iconst 0, 1) := by decide +kernel
theorem dX6_firstDraft_23 : decode cX6_firstDraft 23 = .ok (.putfield 50, 3) := by decide +kernel
theorem dX6_firstDraft_26 : decode cX6_firstDraft 26 = .ok (.aload_n 0, 1) := by decide +kernel
theorem dX6_firstDraft_27 : decode cX6_firstDraft 27 = .ok (.iconst 0, 1) := by decide +kernel
theorem dX6_firstDraft_28 : decode cX6_firstDraft 28 = .ok (.putfield 54, 3) := by decide +kernel
theorem dX6_firstDraft_31 : decode cX6_firstDraft 31 = .ok (.aload_n 0, 1) := by decide +kernel
theorem dX6_firstDraft_32 : decode cX6_firstDraft 32 = .ok (.iconst 0, 1) := by decide +kernel
theorem dX6_firstDraft_33 : decode cX6_firstDraft 33 = .ok (.putfield 58, 3) := by decide +kernel
theorem dX6_firstDraft_36 : decode cX6_firstDraft 36 = .ok (.aload_n 0, 1) := by decide +kernel
theorem dX6_firstDraft_37 : decode cX6_firstDraft 37 = .ok (.bipush (-4), 2) := by decide +kernel
theorem dX6_firstDraft_39 : decode cX6_firstDraft 39 = .ok (.putfield 61, 3) := by decide +kernel
theorem dX6_firstDraft_42 : decode cX6_firstDraft 42 = .ok (.return_, 1) := by decide +kernel
theorem dX6_keepDraft_0 : decode cX6_keepDraft 0 = .ok (.iconst 0, 1) := by decide +kernel
theorem dX6_keepDraft_1 : decode cX6_keepDraft 1 = .ok (.istore_n 1, 1) := by decide +kernel
theorem dX6_keepDraft_2 : decode cX6_keepDraft 2 = .ok (.iload_n 1, 1) := by decide +kernel
theorem dX6_keepDraft_3 : decode cX6_keepDraft 3 = .ok (.bipush 76, 2) := by decide +kernel
theorem dX6_keepDraft_5 : decode cX6_keepDraft 5 = .ok (.if_icmp .ge 21, 3) := by decide +kernel
theorem dX6_keepDraft_8 : decode cX6_keepDraft 8 = .ok (.aload_n 0, 1) := by decide +kernel
theorem dX6_keepDraft_9 : decode cX6_keepDraft 9 = .ok (.getfield 7, 3) := by decide +kernel
theorem dX6_keepDraft_12 : decode cX6_keepDraft 12 = .ok (.iload_n 1, 1) := by decide +kernel
theorem dX6_keepDraft_13 : decode cX6_keepDraft 13 = .ok (.aload_n 0, 1) := by decide +kernel
theorem dX6_keepDraft_14 : decode cX6_keepDraft 14 = .ok (.getfield 20, 3) := by decide +kernel
theorem dX6_keepDraft_17 : decode cX6_keepDraft 17 = .ok (.iload_n 1, 1) := by decide +kernel
theorem dX6_keepDraft_18 : decode cX6_keepDraft 18 = .ok (.iaload, 1) := by decide +kernel
theorem dX6_keepDraft_19 : decode cX6_keepDraft 19 = .ok (.iastore, 1) := by decide +kernel
theorem dX6_keepDraft_20 : decode cX6_keepDraft 20 = .ok (.iinc 1 1, 3) := by decide +kernel
theorem dX6_keepDraft_23 : decode cX6_keepDraft 23 = .ok (.goto (-21), 3) := by decide +kernel
theorem dX6_keepDraft_26 : decode cX6_keepDraft 26 = .ok (.aload_n 0, 1) := by decide +kernel
theorem dX6_keepDraft_27 : decode cX6_keepDraft 27 = .ok (.aload_n 0, 1) := by decide +kernel
theorem dX6_keepDraft_28 : decode cX6_keepDraft 28 = .ok (.getfield 50, 3) := by decide +kernel
theorem dX6_keepDraft_31 : decode cX6_keepDraft 31 = .ok (.putfield 64, 3) := by decide +kernel
theorem dX6_keepDraft_34 : decode cX6_keepDraft 34 = .ok (.aload_n 0, 1) := by decide +kernel
theorem dX6_keepDraft_35 : decode cX6_keepDraft 35 = .ok (.getfield 16, 3) := by decide +kernel
theorem dX6_keepDraft_38 : decode cX6_keepDraft 38 = .ok (.iconst 0, 1) := by decide +kernel
theorem dX6_keepDraft_39 : decode cX6_keepDraft 39 = .ok (.iconst 0, 1) := by decide +kernel
theorem dX6_keepDraft_40 : decode cX6_keepDraft 40 = .ok (.bastore, 1) := by decide +kernel
theorem dX6_keepDraft_41 : decode cX6_keepDraft 41 = .ok (.aload_n 0, 1) := by decide +kernel
theorem dX6_keepDraft_42 : decode cX6_keepDraft 42 = .ok (.getfield 16, 3) := by decide +kernel
theorem dX6_keepDraft_45 : decode cX6_keepDraft 45 = .ok (.iconst 1, 1) := by decide +kernel
theorem dX6_keepDraft_46 : decode cX6_keepDraft 46 = .ok (.iconst 0, 1) := by decide +kernel
theorem dX6_keepDraft_47 : decode cX6_keepDraft 47 = .ok (.bastore, 1) := by decide +kernel
theorem dX6_keepDraft_48 : decode cX6_keepDraft 48 = .ok (.return_, 1) := by decide +kernel
theorem dX6_feed_0 : decode cX6_feed 0 = .ok (.iload_n 1, 1) := by decide +kernel
theorem dX6_feed_1 : decode cX6_feed 1 = .ok (.i2l, 1) := by decide +kernel
theorem dX6_feed_2 : decode cX6_feed 2 = .ok (.lconst 0, 1) := by decide +kernel
theorem dX6_feed_3 : decode cX6_feed 3 = .ok (.ldc2_w 67, 3) := by decide +kernel
theorem dX6_feed_6 : decode cX6_feed 6 = .ok (.invokestatic 69, 3) := by decide +kernel
theorem dX6_feed_9 : decode cX6_feed 9 = .ok (.ifCond .ne 5, 3) := by decide +kernel
theorem dX6_feed_12 : decode cX6_feed 12 = .ok (.iconst (-1), 1) := by decide +kernel
theorem dX6_feed_13 : decode cX6_feed 13 = .ok (.ireturn, 1) := by decide +kernel
theorem dX6_feed_14 : decode cX6_feed 14 = .ok (.aload_n 0, 1) := by decide +kernel
theorem dX6_feed_15 : decode cX6_feed 15 = .ok (.getfield 73, 3) := by decide +kernel
theorem dX6_feed_18 : decode cX6_feed 18 = .ok (.sipush 160, 3) := by decide +kernel
theorem dX6_feed_21 : decode cX6_feed 21 = .ok (.if_icmp .ne 6, 3) := by decide +kernel
theorem dX6_feed_24 : decode cX6_feed 24 = .ok (.bipush (-3), 2) := by decide +kernel
theorem dX6_feed_26 : decode cX6_feed 26 = .ok (.ireturn, 1) := by decide +kernel
theorem dX6_feed_27 : decode cX6_feed 27 = .ok (.aload_n 0, 1) := by decide +kernel
theorem dX6_feed_28 : decode cX6_feed 28 = .ok (.getfield 23, 3) := by decide +kernel
theorem dX6_feed_31 : decode cX6_feed 31 = .ok (.aload_n 0, 1) := by decide +kernel
theorem dX6_feed_32 : decode cX6_feed 32 = .ok (.getfield 73, 3) := by decide +kernel
theorem dX6_feed_35 : decode cX6_feed 35 = .ok (.iload_n 1, 1) := by decide +kernel
theorem dX6_feed_36 : decode cX6_feed 36 = .ok (.iastore, 1) := by decide +kernel
theorem dX6_feed_37 : decode cX6_feed 37 = .ok (.aload_n 0, 1) := by decide +kernel
theorem dX6_feed_38 : decode cX6_feed 38 = .ok (.dup, 1) := by decide +kernel
theorem dX6_feed_39 : decode cX6_feed 39 = .ok (.getfield 73, 3) := by decide +kernel
theorem dX6_feed_42 : decode cX6_feed 42 = .ok (.iconst 1, 1) := by decide +kernel
theorem dX6_feed_43 : decode cX6_feed 43 = .ok (.iadd, 1) := by decide +kernel
theorem dX6_feed_44 : decode cX6_feed 44 = .ok (.putfield 73, 3) := by decide +kernel
theorem dX6_feed_47 : decode cX6_feed 47 = .ok (.aload_n 0, 1) := by decide +kernel
theorem dX6_feed_48 : decode cX6_feed 48 = .ok (.getfield 73, 3) := by decide +kernel
theorem dX6_feed_51 : decode cX6_feed 51 = .ok (.ireturn, 1) := by decide +kernel
theorem dX6_end_0 : decode cX6_end 0 = .ok (.iload_n 1, 1) := by decide +kernel
theorem dX6_end_1 : decode cX6_end 1 = .ok (.i2l, 1) := by decide +kernel
theorem dX6_end_2 : decode cX6_end 2 = .ok (.lconst 0, 1) := by decide +kernel
theorem dX6_end_3 : decode cX6_end 3 = .ok (.aload_n 0, 1) := by decide +kernel
theorem dX6_end_4 : decode cX6_end 4 = .ok (.getfield 73, 3) := by decide +kernel
theorem dX6_end_7 : decode cX6_end 7 = .ok (.i2l, 1) := by decide +kernel
theorem dX6_end_8 : decode cX6_end 8 = .ok (.invokestatic 69, 3) := by decide +kernel
theorem dX6_end_11 : decode cX6_end 11 = .ok (.ifCond .ne 5, 3) := by decide +kernel
theorem dX6_end_14 : decode cX6_end 14 = .ok (.iconst (-1), 1) := by decide +kernel
theorem dX6_end_15 : decode cX6_end 15 = .ok (.ireturn, 1) := by decide +kernel
theorem dX6_end_16 : decode cX6_end 16 = .ok (.aload_n 0, 1) := by decide +kernel
theorem dX6_end_17 : decode cX6_end 17 = .ok (.getfield 73, 3) := by decide +kernel
theorem dX6_end_20 : decode cX6_end 20 = .ok (.istore_n 2, 1) := by decide +kernel
theorem dX6_end_21 : decode cX6_end 21 = .ok (.aload_n 0, 1) := by decide +kernel
theorem dX6_end_22 : decode cX6_end 22 = .ok (.iload_n 1, 1) := by decide +kernel
theorem dX6_end_23 : decode cX6_end 23 = .ok (.putfield 73, 3) := by decide +kernel
theorem dX6_end_26 : decode cX6_end 26 = .ok (.iload_n 2, 1) := by decide +kernel
theorem dX6_end_27 : decode cX6_end 27 = .ok (.ireturn, 1) := by decide +kernel
theorem dX6_needs_0 : decode cX6_needs 0 = .ok (.iload_n 1, 1) := by decide +kernel
theorem dX6_needs_1 : decode cX6_needs 1 = .ok (.ifCond .ne 23, 3) := by decide +kernel
theorem dX6_needs_4 : decode cX6_needs 4 = .ok (.aload_n 0, 1) := by decide +kernel
theorem dX6_needs_5 : decode cX6_needs 5 = .ok (.getfield 76, 3) := by decide +kernel
theorem dX6_needs_8 : decode cX6_needs 8 = .ok (.ifCond .ne 16, 3) := by decide +kernel
theorem dX6_needs_11 : decode cX6_needs 11 = .ok (.aload_n 0, 1) := by decide +kernel
theorem dX6_needs_12 : decode cX6_needs 12 = .ok (.iload_n 2, 1) := by decide +kernel
theorem dX6_needs_13 : decode cX6_needs 13 = .ok (.putfield 76, 3) := by decide +kernel
theorem dX6_needs_16 : decode cX6_needs 16 = .ok (.aload_n 0, 1) := by decide +kernel
theorem dX6_needs_17 : decode cX6_needs 17 = .ok (.aload_n 0, 1) := by decide +kernel
theorem dX6_needs_18 : decode cX6_needs 18 = .ok (.getfield 79, 3) := by decide +kernel
theorem dX6_needs_21 : decode cX6_needs 21 = .ok (.putfield 82, 3) := by decide +kernel
theorem dX6_needs_24 : decode cX6_needs 24 = .ok (.return_, 1) := by decide +kernel
theorem dX6_byteAt_0 : decode cX6_byteAt 0 = .ok (.iload_n 1, 1) := by decide +kernel
theorem dX6_byteAt_1 : decode cX6_byteAt 1 = .ok (.aload_n 0, 1) := by decide +kernel
theorem dX6_byteAt_2 : decode cX6_byteAt 2 = .ok (.getfield 73, 3) := by decide +kernel
theorem dX6_byteAt_5 : decode cX6_byteAt 5 = .ok (.if_icmp .ge 12, 3) := by decide +kernel
theorem dX6_byteAt_8 : decode cX6_byteAt 8 = .ok (.aload_n 0, 1) := by decide +kernel
theorem dX6_byteAt_9 : decode cX6_byteAt 9 = .ok (.getfield 23, 3) := by decide +kernel
theorem dX6_byteAt_12 : decode cX6_byteAt 12 = .ok (.iload_n 1, 1) := by decide +kernel
theorem dX6_byteAt_13 : decode cX6_byteAt 13 = .ok (.iaload, 1) := by decide +kernel
theorem dX6_byteAt_14 : decode cX6_byteAt 14 = .ok (.goto 4, 3) := by decide +kernel
theorem dX6_byteAt_17 : decode cX6_byteAt 17 = .ok (.iconst (-1), 1) := by decide +kernel
theorem dX6_byteAt_18 : decode cX6_byteAt 18 = .ok (.ireturn, 1) := by decide +kernel
theorem dX6_is_0 : decode cX6_is 0 = .ok (.aload_n 0, 1) := by decide +kernel
theorem dX6_is_1 : decode cX6_is 1 = .ok (.getfield 85, 3) := by decide +kernel
theorem dX6_is_4 : decode cX6_is 4 = .ok (.aload_n 0, 1) := by decide +kernel
theorem dX6_is_5 : decode cX6_is 5 = .ok (.getfield 79, 3) := by decide +kernel
theorem dX6_is_8 : decode cX6_is 8 = .ok (.isub, 1) := by decide +kernel
theorem dX6_is_9 : decode cX6_is 9 = .ok (.iload_n 1, 1) := by decide +kernel
theorem dX6_is_10 : decode cX6_is 10 = .ok (.if_icmp .ne 63, 3) := by decide +kernel
theorem dX6_is_13 : decode cX6_is 13 = .ok (.aload_n 0, 1) := by decide +kernel
theorem dX6_is_14 : decode cX6_is 14 = .ok (.aload_n 0, 1) := by decide +kernel
theorem dX6_is_15 : decode cX6_is 15 = .ok (.getfield 79, 3) := by decide +kernel
theorem dX6_is_18 : decode cX6_is 18 = .ok (.invokevirtual 88, 3) := by decide +kernel
theorem dX6_is_21 : decode cX6_is 21 = .ok (.iload_n 2, 1) := by decide +kernel
theorem dX6_is_22 : decode cX6_is 22 = .ok (.if_icmp .ne 51, 3) := by decide +kernel
theorem dX6_is_25 : decode cX6_is 25 = .ok (.aload_n 0, 1) := by decide +kernel
theorem dX6_is_26 : decode cX6_is 26 = .ok (.aload_n 0, 1) := by decide +kernel
theorem dX6_is_27 : decode cX6_is 27 = .ok (.getfield 79, 3) := by decide +kernel
theorem dX6_is_30 : decode cX6_is 30 = .ok (.iconst 1, 1) := by decide +kernel
theorem dX6_is_31 : decode cX6_is 31 = .ok (.iadd, 1) := by decide +kernel
theorem dX6_is_32 : decode cX6_is 32 = .ok (.invokevirtual 88, 3) := by decide +kernel
theorem dX6_is_35 : decode cX6_is 35 = .ok (.iload_n 3, 1) := by decide +kernel
theorem dX6_is_36 : decode cX6_is 36 = .ok (.if_icmp .ne 37, 3) := by decide +kernel
theorem dX6_is_39 : decode cX6_is 39 = .ok (.aload_n 0, 1) := by decide +kernel
theorem dX6_is_40 : decode cX6_is 40 = .ok (.aload_n 0, 1) := by decide +kernel
theorem dX6_is_41 : decode cX6_is 41 = .ok (.getfield 79, 3) := by decide +kernel
theorem dX6_is_44 : decode cX6_is 44 = .ok (.iconst 2, 1) := by decide +kernel
theorem dX6_is_45 : decode cX6_is 45 = .ok (.iadd, 1) := by decide +kernel
theorem dX6_is_46 : decode cX6_is 46 = .ok (.invokevirtual 88, 3) := by decide +kernel
theorem dX6_is_49 : decode cX6_is 49 = .ok (.iload 4, 2) := by decide +kernel
theorem dX6_is_51 : decode cX6_is 51 = .ok (.if_icmp .ne 22, 3) := by decide +kernel
theorem dX6_is_54 : decode cX6_is 54 = .ok (.aload_n 0, 1) := by decide +kernel
theorem dX6_is_55 : decode cX6_is 55 = .ok (.aload_n 0, 1) := by decide +kernel
theorem dX6_is_56 : decode cX6_is 56 = .ok (.getfield 79, 3) := by decide +kernel
theorem dX6_is_59 : decode cX6_is 59 = .ok (.iconst 3, 1) := by decide +kernel
theorem dX6_is_60 : decode cX6_is 60 = .ok (.iadd, 1) := by decide +kernel
theorem dX6_is_61 : decode cX6_is 61 = .ok (.invokevirtual 88, 3) := by decide +kernel
theorem dX6_is_64 : decode cX6_is 64 = .ok (.iload 5, 2) := by decide +kernel
theorem dX6_is_66 : decode cX6_is 66 = .ok (.if_icmp .ne 7, 3) := by decide +kernel
theorem dX6_is_69 : decode cX6_is 69 = .ok (.iconst 1, 1) := by decide +kernel
theorem dX6_is_70 : decode cX6_is 70 = .ok (.goto 4, 3) := by decide +kernel
theorem dX6_is_73 : decode cX6_is 73 = .ok (.iconst 0, 1) := by decide +kernel
theorem dX6_is_74 : decode cX6_is 74 = .ok (.ireturn, 1) := by decide +kernel
theorem dX6_endsIn_0 : decode cX6_endsIn 0 = .ok (.aload_n 0, 1) := by decide +kernel
theorem dX6_endsIn_1 : decode cX6_endsIn 1 = .ok (.aload_n 0, 1) := by decide +kernel
theorem dX6_endsIn_2 : decode cX6_endsIn 2 = .ok (.getfield 79, 3) := by decide +kernel
theorem dX6_endsIn_5 : decode cX6_endsIn 5 = .ok (.iconst 4, 1) := by decide +kernel
theorem dX6_endsIn_6 : decode cX6_endsIn 6 = .ok (.iadd, 1) := by decide +kernel
theorem dX6_endsIn_7 : decode cX6_endsIn 7 = .ok (.invokevirtual 88, 3) := by decide +kernel
theorem dX6_endsIn_10 : decode cX6_endsIn 10 = .ok (.iload_n 1, 1) := by decide +kernel
theorem dX6_endsIn_11 : decode cX6_endsIn 11 = .ok (.if_icmp .ne 7, 3) := by decide +kernel
theorem dX6_endsIn_14 : decode cX6_endsIn 14 = .ok (.iconst 1, 1) := by decide +kernel
theorem dX6_endsIn_15 : decode cX6_endsIn 15 = .ok (.goto 4, 3) := by decide +kernel
theorem dX6_endsIn_18 : decode cX6_endsIn 18 = .ok (.iconst 0, 1) := by decide +kernel
theorem dX6_endsIn_19 : decode cX6_endsIn 19 = .ok (.ireturn, 1) := by decide +kernel
theorem dX6_lineNow_0 : decode cX6_lineNow 0 = .ok (.aload_n 0, 1) := by decide +kernel
theorem dX6_lineNow_1 : decode cX6_lineNow 1 = .ok (.iconst 5, 1) := by decide +kernel
theorem dX6_lineNow_2 : decode cX6_lineNow 2 = .ok (.bipush 112, 2) := by decide +kernel
theorem dX6_lineNow_4 : decode cX6_lineNow 4 = .ok (.bipush 108, 2) := by decide +kernel
theorem dX6_lineNow_6 : decode cX6_lineNow 6 = .ok (.bipush 97, 2) := by decide +kernel
theorem dX6_lineNow_8 : decode cX6_lineNow 8 = .ok (.bipush 105, 2) := by decide +kernel
theorem dX6_lineNow_10 : decode cX6_lineNow 10 = .ok (.invokevirtual 92, 3) := by decide +kernel
theorem dX6_lineNow_13 : decode cX6_lineNow 13 = .ok (.ifCond .eq 14, 3) := by decide +kernel
theorem dX6_lineNow_16 : decode cX6_lineNow 16 = .ok (.aload_n 0, 1) := by decide +kernel
theorem dX6_lineNow_17 : decode cX6_lineNow 17 = .ok (.bipush 110, 2) := by decide +kernel
theorem dX6_lineNow_19 : decode cX6_lineNow 19 = .ok (.invokevirtual 96, 3) := by decide +kernel
theorem dX6_lineNow_22 : decode cX6_lineNow 22 = .ok (.ifCond .eq 5, 3) := by decide +kernel
theorem dX6_lineNow_25 : decode cX6_lineNow 25 = .ok (.iconst 0, 1) := by decide +kernel
theorem dX6_lineNow_26 : decode cX6_lineNow 26 = .ok (.ireturn, 1) := by decide +kernel
theorem dX6_lineNow_27 : decode cX6_lineNow 27 = .ok (.aload_n 0, 1) := by decide +kernel
theorem dX6_lineNow_28 : decode cX6_lineNow 28 = .ok (.iconst 5, 1) := by decide +kernel
theorem dX6_lineNow_29 : decode cX6_lineNow 29 = .ok (.bipush 112, 2) := by decide +kernel
theorem dX6_lineNow_31 : decode cX6_lineNow 31 = .ok (.bipush 114, 2) := by decide +kernel
theorem dX6_lineNow_33 : decode cX6_lineNow 33 = .ok (.bipush 111, 2) := by decide +kernel
theorem dX6_lineNow_35 : decode cX6_lineNow 35 = .ok (.bipush 117, 2) := by decide +kernel
theorem dX6_lineNow_37 : decode cX6_lineNow 37 = .ok (.invokevirtual 92, 3) := by decide +kernel
theorem dX6_lineNow_40 : decode cX6_lineNow 40 = .ok (.ifCond .eq 14, 3) := by decide +kernel
theorem dX6_lineNow_43 : decode cX6_lineNow 43 = .ok (.aload_n 0, 1) := by decide +kernel
theorem dX6_lineNow_44 : decode cX6_lineNow 44 = .ok (.bipush 100, 2) := by decide +kernel
theorem dX6_lineNow_46 : decode cX6_lineNow 46 = .ok (.invokevirtual 96, 3) := by decide +kernel
theorem dX6_lineNow_49 : decode cX6_lineNow 49 = .ok (.ifCond .eq 5, 3) := by decide +kernel
theorem dX6_lineNow_52 : decode cX6_lineNow 52 = .ok (.iconst 1, 1) := by decide +kernel
theorem dX6_lineNow_53 : decode cX6_lineNow 53 = .ok (.ireturn, 1) := by decide +kernel
theorem dX6_lineNow_54 : decode cX6_lineNow 54 = .ok (.aload_n 0, 1) := by decide +kernel
theorem dX6_lineNow_55 : decode cX6_lineNow 55 = .ok (.iconst 4, 1) := by decide +kernel
theorem dX6_lineNow_56 : decode cX6_lineNow 56 = .ok (.bipush 102, 2) := by decide +kernel
theorem dX6_lineNow_58 : decode cX6_lineNow 58 = .ok (.bipush 111, 2) := by decide +kernel
theorem dX6_lineNow_60 : decode cX6_lineNow 60 = .ok (.bipush 110, 2) := by decide +kernel
theorem dX6_lineNow_62 : decode cX6_lineNow 62 = .ok (.bipush 100, 2) := by decide +kernel
theorem dX6_lineNow_64 : decode cX6_lineNow 64 = .ok (.invokevirtual 92, 3) := by decide +kernel
theorem dX6_lineNow_67 : decode cX6_lineNow 67 = .ok (.ifCond .eq 5, 3) := by decide +kernel
theorem dX6_lineNow_70 : decode cX6_lineNow 70 = .ok (.iconst 2, 1) := by decide +kernel
theorem dX6_lineNow_71 : decode cX6_lineNow 71 = .ok (.ireturn, 1) := by decide +kernel
theorem dX6_lineNow_72 : decode cX6_lineNow 72 = .ok (.aload_n 0, 1) := by decide +kernel
theorem dX6_lineNow_73 : decode cX6_lineNow 73 = .ok (.iconst 5, 1) := by decide +kernel
theorem dX6_lineNow_74 : decode cX6_lineNow 74 = .ok (.bipush 119, 2) := by decide +kernel
theorem dX6_lineNow_76 : decode cX6_lineNow 76 = .ok (.bipush 105, 2) := by decide +kernel
theorem dX6_lineNow_78 : decode cX6_lineNow 78 = .ok (.bipush 100, 2) := by decide +kernel
theorem dX6_lineNow_80 : decode cX6_lineNow 80 = .ok (.bipush 111, 2) := by decide +kernel
theorem dX6_lineNow_82 : decode cX6_lineNow 82 = .ok (.invokevirtual 92, 3) := by decide +kernel
theorem dX6_lineNow_85 : decode cX6_lineNow 85 = .ok (.ifCond .eq 14, 3) := by decide +kernel
theorem dX6_lineNow_88 : decode cX6_lineNow 88 = .ok (.aload_n 0, 1) := by decide +kernel
theorem dX6_lineNow_89 : decode cX6_lineNow 89 = .ok (.bipush 119, 2) := by decide +kernel
theorem dX6_lineNow_91 : decode cX6_lineNow 91 = .ok (.invokevirtual 96, 3) := by decide +kernel
theorem dX6_lineNow_94 : decode cX6_lineNow 94 = .ok (.ifCond .eq 5, 3) := by decide +kernel
theorem dX6_lineNow_97 : decode cX6_lineNow 97 = .ok (.iconst 3, 1) := by decide +kernel
theorem dX6_lineNow_98 : decode cX6_lineNow 98 = .ok (.ireturn, 1) := by decide +kernel
theorem dX6_lineNow_99 : decode cX6_lineNow 99 = .ok (.aload_n 0, 1) := by decide +kernel
theorem dX6_lineNow_100 : decode cX6_lineNow 100 = .ok (.iconst 5, 1) := by decide +kernel
theorem dX6_lineNow_101 : decode cX6_lineNow 101 = .ok (.bipush 99, 2) := by decide +kernel
theorem dX6_lineNow_103 : decode cX6_lineNow 103 = .ok (.bipush 114, 2) := by decide +kernel
theorem dX6_lineNow_105 : decode cX6_lineNow 105 = .ok (.bipush 111, 2) := by decide +kernel
theorem dX6_lineNow_107 : decode cX6_lineNow 107 = .ok (.bipush 115, 2) := by decide +kernel
theorem dX6_lineNow_109 : decode cX6_lineNow 109 = .ok (.invokevirtual 92, 3) := by decide +kernel
theorem dX6_lineNow_112 : decode cX6_lineNow 112 = .ok (.ifCond .eq 14, 3) := by decide +kernel
theorem dX6_lineNow_115 : decode cX6_lineNow 115 = .ok (.aload_n 0, 1) := by decide +kernel
theorem dX6_lineNow_116 : decode cX6_lineNow 116 = .ok (.bipush 115, 2) := by decide +kernel
theorem dX6_lineNow_118 : decode cX6_lineNow 118 = .ok (.invokevirtual 96, 3) := by decide +kernel
theorem dX6_lineNow_121 : decode cX6_lineNow 121 = .ok (.ifCond .eq 5, 3) := by decide +kernel
theorem dX6_lineNow_124 : decode cX6_lineNow 124 = .ok (.iconst 4, 1) := by decide +kernel
theorem dX6_lineNow_125 : decode cX6_lineNow 125 = .ok (.ireturn, 1) := by decide +kernel
theorem dX6_lineNow_126 : decode cX6_lineNow 126 = .ok (.aload_n 0, 1) := by decide +kernel
theorem dX6_lineNow_127 : decode cX6_lineNow 127 = .ok (.iconst 4, 1) := by decide +kernel
theorem dX6_lineNow_128 : decode cX6_lineNow 128 = .ok (.bipush 114, 2) := by decide +kernel
theorem dX6_lineNow_130 : decode cX6_lineNow 130 = .ok (.bipush 111, 2) := by decide +kernel
theorem dX6_lineNow_132 : decode cX6_lineNow 132 = .ok (.bipush 112, 2) := by decide +kernel
theorem dX6_lineNow_134 : decode cX6_lineNow 134 = .ok (.bipush 101, 2) := by decide +kernel
theorem dX6_lineNow_136 : decode cX6_lineNow 136 = .ok (.invokevirtual 92, 3) := by decide +kernel
theorem dX6_lineNow_139 : decode cX6_lineNow 139 = .ok (.ifCond .eq 7, 3) := by decide +kernel
theorem dX6_lineNow_142 : decode cX6_lineNow 142 = .ok (.iconst 5, 1) := by decide +kernel
theorem dX6_lineNow_143 : decode cX6_lineNow 143 = .ok (.goto 35, 3) := by decide +kernel
theorem dX6_lineNow_146 : decode cX6_lineNow 146 = .ok (.aload_n 0, 1) := by decide +kernel
theorem dX6_lineNow_147 : decode cX6_lineNow 147 = .ok (.iconst 5, 1) := by decide +kernel
theorem dX6_lineNow_148 : decode cX6_lineNow 148 = .ok (.bipush 102, 2) := by decide +kernel
theorem dX6_lineNow_150 : decode cX6_lineNow 150 = .ok (.bipush 101, 2) := by decide +kernel
theorem dX6_lineNow_152 : decode cX6_lineNow 152 = .ok (.bipush 97, 2) := by decide +kernel
theorem dX6_lineNow_154 : decode cX6_lineNow 154 = .ok (.bipush 115, 2) := by decide +kernel
theorem dX6_lineNow_156 : decode cX6_lineNow 156 = .ok (.invokevirtual 92, 3) := by decide +kernel
theorem dX6_lineNow_159 : decode cX6_lineNow 159 = .ok (.ifCond .eq 17, 3) := by decide +kernel
theorem dX6_lineNow_162 : decode cX6_lineNow 162 = .ok (.aload_n 0, 1) := by decide +kernel
theorem dX6_lineNow_163 : decode cX6_lineNow 163 = .ok (.bipush 116, 2) := by decide +kernel
theorem dX6_lineNow_165 : decode cX6_lineNow 165 = .ok (.invokevirtual 96, 3) := by decide +kernel
theorem dX6_lineNow_168 : decode cX6_lineNow 168 = .ok (.ifCond .eq 8, 3) := by decide +kernel
theorem dX6_lineNow_171 : decode cX6_lineNow 171 = .ok (.bipush 6, 2) := by decide +kernel
theorem dX6_lineNow_173 : decode cX6_lineNow 173 = .ok (.goto 5, 3) := by decide +kernel
theorem dX6_lineNow_176 : decode cX6_lineNow 176 = .ok (.bipush (-4), 2) := by decide +kernel
theorem dX6_lineNow_178 : decode cX6_lineNow 178 = .ok (.ireturn, 1) := by decide +kernel
theorem dX6_takes_0 : decode cX6_takes 0 = .ok (.aload_n 0, 1) := by decide +kernel
theorem dX6_takes_1 : decode cX6_takes 1 = .ok (.getfield 76, 3) := by decide +kernel
theorem dX6_takes_4 : decode cX6_takes 4 = .ok (.ifCond .le 4, 3) := by decide +kernel
theorem dX6_takes_7 : decode cX6_takes 7 = .ok (.return_, 1) := by decide +kernel
theorem dX6_takes_8 : decode cX6_takes 8 = .ok (.aload_n 0, 1) := by decide +kernel
theorem dX6_takes_9 : decode cX6_takes 9 = .ok (.aload_n 0, 1) := by decide +kernel
theorem dX6_takes_10 : decode cX6_takes 10 = .ok (.getfield 85, 3) := by decide +kernel
theorem dX6_takes_13 : decode cX6_takes 13 = .ok (.invokevirtual 88, 3) := by decide +kernel
theorem dX6_takes_16 : decode cX6_takes 16 = .ok (.bipush 32, 2) := by decide +kernel
theorem dX6_takes_18 : decode cX6_takes 18 = .ok (.if_icmp .ne 16, 3) := by decide +kernel
theorem dX6_takes_21 : decode cX6_takes 21 = .ok (.aload_n 0, 1) := by decide +kernel
theorem dX6_takes_22 : decode cX6_takes 22 = .ok (.dup, 1) := by decide +kernel
theorem dX6_takes_23 : decode cX6_takes 23 = .ok (.getfield 85, 3) := by decide +kernel
theorem dX6_takes_26 : decode cX6_takes 26 = .ok (.iconst 1, 1) := by decide +kernel
theorem dX6_takes_27 : decode cX6_takes 27 = .ok (.iadd, 1) := by decide +kernel
theorem dX6_takes_28 : decode cX6_takes 28 = .ok (.putfield 85, 3) := by decide +kernel
theorem dX6_takes_31 : decode cX6_takes 31 = .ok (.goto (-23), 3) := by decide +kernel
theorem dX6_takes_34 : decode cX6_takes 34 = .ok (.aload_n 0, 1) := by decide +kernel
theorem dX6_takes_35 : decode cX6_takes 35 = .ok (.aload_n 0, 1) := by decide +kernel
theorem dX6_takes_36 : decode cX6_takes 36 = .ok (.getfield 85, 3) := by decide +kernel
theorem dX6_takes_39 : decode cX6_takes 39 = .ok (.putfield 79, 3) := by decide +kernel
theorem dX6_takes_42 : decode cX6_takes 42 = .ok (.aload_n 0, 1) := by decide +kernel
theorem dX6_takes_43 : decode cX6_takes 43 = .ok (.aload_n 0, 1) := by decide +kernel
theorem dX6_takes_44 : decode cX6_takes 44 = .ok (.getfield 85, 3) := by decide +kernel
theorem dX6_takes_47 : decode cX6_takes 47 = .ok (.invokevirtual 88, 3) := by decide +kernel
theorem dX6_takes_50 : decode cX6_takes 50 = .ok (.istore_n 1, 1) := by decide +kernel
theorem dX6_takes_51 : decode cX6_takes 51 = .ok (.iload_n 1, 1) := by decide +kernel
theorem dX6_takes_52 : decode cX6_takes 52 = .ok (.ifCond .ge 11, 3) := by decide +kernel
theorem dX6_takes_55 : decode cX6_takes 55 = .ok (.aload_n 0, 1) := by decide +kernel
theorem dX6_takes_56 : decode cX6_takes 56 = .ok (.iconst 0, 1) := by decide +kernel
theorem dX6_takes_57 : decode cX6_takes 57 = .ok (.putfield 100, 3) := by decide +kernel
theorem dX6_takes_60 : decode cX6_takes 60 = .ok (.goto 214, 3) := by decide +kernel
theorem dX6_takes_63 : decode cX6_takes 63 = .ok (.iload_n 1, 1) := by decide +kernel
theorem dX6_takes_64 : decode cX6_takes 64 = .ok (.i2l, 1) := by decide +kernel
theorem dX6_takes_65 : decode cX6_takes 65 = .ok (.ldc2_w 103, 3) := by decide +kernel
theorem dX6_takes_68 : decode cX6_takes 68 = .ok (.ldc2_w 105, 3) := by decide +kernel
theorem dX6_takes_71 : decode cX6_takes 71 = .ok (.invokestatic 69, 3) := by decide +kernel
theorem dX6_takes_74 : decode cX6_takes 74 = .ok (.ifCond .eq 42, 3) := by decide +kernel
theorem dX6_takes_77 : decode cX6_takes 77 = .ok (.aload_n 0, 1) := by decide +kernel
theorem dX6_takes_78 : decode cX6_takes 78 = .ok (.iconst 1, 1) := by decide +kernel
theorem dX6_takes_79 : decode cX6_takes 79 = .ok (.putfield 100, 3) := by decide +kernel
theorem dX6_takes_82 : decode cX6_takes 82 = .ok (.aload_n 0, 1) := by decide +kernel
theorem dX6_takes_83 : decode cX6_takes 83 = .ok (.aload_n 0, 1) := by decide +kernel
theorem dX6_takes_84 : decode cX6_takes 84 = .ok (.getfield 85, 3) := by decide +kernel
theorem dX6_takes_87 : decode cX6_takes 87 = .ok (.invokevirtual 88, 3) := by decide +kernel
theorem dX6_takes_90 : decode cX6_takes 90 = .ok (.i2l, 1) := by decide +kernel
theorem dX6_takes_91 : decode cX6_takes 91 = .ok (.ldc2_w 103, 3) := by decide +kernel
theorem dX6_takes_94 : decode cX6_takes 94 = .ok (.ldc2_w 105, 3) := by decide +kernel
theorem dX6_takes_97 : decode cX6_takes 97 = .ok (.invokestatic 69, 3) := by decide +kernel
theorem dX6_takes_100 : decode cX6_takes 100 = .ok (.ifCond .eq 174, 3) := by decide +kernel
theorem dX6_takes_103 : decode cX6_takes 103 = .ok (.aload_n 0, 1) := by decide +kernel
theorem dX6_takes_104 : decode cX6_takes 104 = .ok (.dup, 1) := by decide +kernel
theorem dX6_takes_105 : decode cX6_takes 105 = .ok (.getfield 85, 3) := by decide +kernel
theorem dX6_takes_108 : decode cX6_takes 108 = .ok (.iconst 1, 1) := by decide +kernel
theorem dX6_takes_109 : decode cX6_takes 109 = .ok (.iadd, 1) := by decide +kernel
theorem dX6_takes_110 : decode cX6_takes 110 = .ok (.putfield 85, 3) := by decide +kernel
theorem dX6_takes_113 : decode cX6_takes 113 = .ok (.goto (-31), 3) := by decide +kernel
theorem dX6_takes_116 : decode cX6_takes 116 = .ok (.iload_n 1, 1) := by decide +kernel
theorem dX6_takes_117 : decode cX6_takes 117 = .ok (.i2l, 1) := by decide +kernel
theorem dX6_takes_118 : decode cX6_takes 118 = .ok (.ldc2_w 107, 3) := by decide +kernel
theorem dX6_takes_121 : decode cX6_takes 121 = .ok (.ldc2_w 109, 3) := by decide +kernel
theorem dX6_takes_124 : decode cX6_takes 124 = .ok (.invokestatic 69, 3) := by decide +kernel
theorem dX6_takes_127 : decode cX6_takes 127 = .ok (.ifCond .eq 116, 3) := by decide +kernel
theorem dX6_takes_130 : decode cX6_takes 130 = .ok (.aload_n 0, 1) := by decide +kernel
theorem dX6_takes_131 : decode cX6_takes 131 = .ok (.iconst 2, 1) := by decide +kernel
theorem dX6_takes_132 : decode cX6_takes 132 = .ok (.putfield 100, 3) := by decide +kernel
theorem dX6_takes_135 : decode cX6_takes 135 = .ok (.aload_n 0, 1) := by decide +kernel
theorem dX6_takes_136 : decode cX6_takes 136 = .ok (.iconst 0, 1) := by decide +kernel
theorem dX6_takes_137 : decode cX6_takes 137 = .ok (.putfield 111, 3) := by decide +kernel
theorem dX6_takes_140 : decode cX6_takes 140 = .ok (.aload_n 0, 1) := by decide +kernel
theorem dX6_takes_141 : decode cX6_takes 141 = .ok (.aload_n 0, 1) := by decide +kernel
theorem dX6_takes_142 : decode cX6_takes 142 = .ok (.getfield 85, 3) := by decide +kernel
theorem dX6_takes_145 : decode cX6_takes 145 = .ok (.invokevirtual 88, 3) := by decide +kernel
theorem dX6_takes_148 : decode cX6_takes 148 = .ok (.i2l, 1) := by decide +kernel
theorem dX6_takes_149 : decode cX6_takes 149 = .ok (.ldc2_w 107, 3) := by decide +kernel
theorem dX6_takes_152 : decode cX6_takes 152 = .ok (.ldc2_w 109, 3) := by decide +kernel
theorem dX6_takes_155 : decode cX6_takes 155 = .ok (.invokestatic 69, 3) := by decide +kernel
theorem dX6_takes_158 : decode cX6_takes 158 = .ok (.ifCond .eq 59, 3) := by decide +kernel
theorem dX6_takes_161 : decode cX6_takes 161 = .ok (.aload_n 0, 1) := by decide +kernel
theorem dX6_takes_162 : decode cX6_takes 162 = .ok (.aload_n 0, 1) := by decide +kernel
theorem dX6_takes_163 : decode cX6_takes 163 = .ok (.getfield 85, 3) := by decide +kernel
theorem dX6_takes_166 : decode cX6_takes 166 = .ok (.aload_n 0, 1) := by decide +kernel
theorem dX6_takes_167 : decode cX6_takes 167 = .ok (.getfield 79, 3) := by decide +kernel
theorem dX6_takes_170 : decode cX6_takes 170 = .ok (.isub, 1) := by decide +kernel
theorem dX6_takes_171 : decode cX6_takes 171 = .ok (.iconst 2, 1) := by decide +kernel
theorem dX6_takes_172 : decode cX6_takes 172 = .ok (.if_icmp .ge 25, 3) := by decide +kernel
theorem dX6_takes_175 : decode cX6_takes 175 = .ok (.bipush 10, 2) := by decide +kernel
theorem dX6_takes_177 : decode cX6_takes 177 = .ok (.aload_n 0, 1) := by decide +kernel
theorem dX6_takes_178 : decode cX6_takes 178 = .ok (.getfield 111, 3) := by decide +kernel
theorem dX6_takes_181 : decode cX6_takes 181 = .ok (.imul, 1) := by decide +kernel
theorem dX6_takes_182 : decode cX6_takes 182 = .ok (.aload_n 0, 1) := by decide +kernel
theorem dX6_takes_183 : decode cX6_takes 183 = .ok (.aload_n 0, 1) := by decide +kernel
theorem dX6_takes_184 : decode cX6_takes 184 = .ok (.getfield 85, 3) := by decide +kernel
theorem dX6_takes_187 : decode cX6_takes 187 = .ok (.invokevirtual 88, 3) := by decide +kernel
theorem dX6_takes_190 : decode cX6_takes 190 = .ok (.iadd, 1) := by decide +kernel
theorem dX6_takes_191 : decode cX6_takes 191 = .ok (.bipush 48, 2) := by decide +kernel
theorem dX6_takes_193 : decode cX6_takes 193 = .ok (.isub, 1) := by decide +kernel
theorem dX6_takes_194 : decode cX6_takes 194 = .ok (.goto 7, 3) := by decide +kernel
theorem dX6_takes_197 : decode cX6_takes 197 = .ok (.aload_n 0, 1) := by decide +kernel
theorem dX6_takes_198 : decode cX6_takes 198 = .ok (.getfield 111, 3) := by decide +kernel
theorem dX6_takes_201 : decode cX6_takes 201 = .ok (.putfield 111, 3) := by decide +kernel
theorem dX6_takes_204 : decode cX6_takes 204 = .ok (.aload_n 0, 1) := by decide +kernel
theorem dX6_takes_205 : decode cX6_takes 205 = .ok (.dup, 1) := by decide +kernel
theorem dX6_takes_206 : decode cX6_takes 206 = .ok (.getfield 85, 3) := by decide +kernel
theorem dX6_takes_209 : decode cX6_takes 209 = .ok (.iconst 1, 1) := by decide +kernel
theorem dX6_takes_210 : decode cX6_takes 210 = .ok (.iadd, 1) := by decide +kernel
theorem dX6_takes_211 : decode cX6_takes 211 = .ok (.putfield 85, 3) := by decide +kernel
theorem dX6_takes_214 : decode cX6_takes 214 = .ok (.goto (-74), 3) := by decide +kernel
theorem dX6_takes_217 : decode cX6_takes 217 = .ok (.aload_n 0, 1) := by decide +kernel
theorem dX6_takes_218 : decode cX6_takes 218 = .ok (.aload_n 0, 1) := by decide +kernel
theorem dX6_takes_219 : decode cX6_takes 219 = .ok (.getfield 85, 3) := by decide +kernel
theorem dX6_takes_222 : decode cX6_takes 222 = .ok (.aload_n 0, 1) := by decide +kernel
theorem dX6_takes_223 : decode cX6_takes 223 = .ok (.getfield 79, 3) := by decide +kernel
theorem dX6_takes_226 : decode cX6_takes 226 = .ok (.isub, 1) := by decide +kernel
theorem dX6_takes_227 : decode cX6_takes 227 = .ok (.iconst 2, 1) := by decide +kernel
theorem dX6_takes_228 : decode cX6_takes 228 = .ok (.if_icmp .gt 7, 3) := by decide +kernel
theorem dX6_takes_231 : decode cX6_takes 231 = .ok (.iconst 1, 1) := by decide +kernel
theorem dX6_takes_232 : decode cX6_takes 232 = .ok (.goto 4, 3) := by decide +kernel
theorem dX6_takes_235 : decode cX6_takes 235 = .ok (.iconst 0, 1) := by decide +kernel
theorem dX6_takes_236 : decode cX6_takes 236 = .ok (.iconst 1, 1) := by decide +kernel
theorem dX6_takes_237 : decode cX6_takes 237 = .ok (.invokevirtual 114, 3) := by decide +kernel
theorem dX6_takes_240 : decode cX6_takes 240 = .ok (.goto 34, 3) := by decide +kernel
theorem dX6_takes_243 : decode cX6_takes 243 = .ok (.aload_n 0, 1) := by decide +kernel
theorem dX6_takes_244 : decode cX6_takes 244 = .ok (.iconst 3, 1) := by decide +kernel
theorem dX6_takes_245 : decode cX6_takes 245 = .ok (.putfield 100, 3) := by decide +kernel
theorem dX6_takes_248 : decode cX6_takes 248 = .ok (.aload_n 0, 1) := by decide +kernel
theorem dX6_takes_249 : decode cX6_takes 249 = .ok (.iload_n 1, 1) := by decide +kernel
theorem dX6_takes_250 : decode cX6_takes 250 = .ok (.bipush 59, 2) := by decide +kernel
theorem dX6_takes_252 : decode cX6_takes 252 = .ok (.if_icmp .ne 7, 3) := by decide +kernel
theorem dX6_takes_255 : decode cX6_takes 255 = .ok (.iconst 1, 1) := by decide +kernel
theorem dX6_takes_256 : decode cX6_takes 256 = .ok (.goto 4, 3) := by decide +kernel
theorem dX6_takes_259 : decode cX6_takes 259 = .ok (.iconst 0, 1) := by decide +kernel
theorem dX6_takes_260 : decode cX6_takes 260 = .ok (.iconst 1, 1) := by decide +kernel
theorem dX6_takes_261 : decode cX6_takes 261 = .ok (.invokevirtual 114, 3) := by decide +kernel
theorem dX6_takes_264 : decode cX6_takes 264 = .ok (.aload_n 0, 1) := by decide +kernel
theorem dX6_takes_265 : decode cX6_takes 265 = .ok (.dup, 1) := by decide +kernel
theorem dX6_takes_266 : decode cX6_takes 266 = .ok (.getfield 85, 3) := by decide +kernel
theorem dX6_takes_269 : decode cX6_takes 269 = .ok (.iconst 1, 1) := by decide +kernel
theorem dX6_takes_270 : decode cX6_takes 270 = .ok (.iadd, 1) := by decide +kernel
theorem dX6_takes_271 : decode cX6_takes 271 = .ok (.putfield 85, 3) := by decide +kernel
theorem dX6_takes_274 : decode cX6_takes 274 = .ok (.return_, 1) := by decide +kernel
theorem dX6_looked_0 : decode cX6_looked 0 = .ok (.aload_n 0, 1) := by decide +kernel
theorem dX6_looked_1 : decode cX6_looked 1 = .ok (.getfield 76, 3) := by decide +kernel
theorem dX6_looked_4 : decode cX6_looked 4 = .ok (.ifCond .ne 21, 3) := by decide +kernel
theorem dX6_looked_7 : decode cX6_looked 7 = .ok (.aload_n 0, 1) := by decide +kernel
theorem dX6_looked_8 : decode cX6_looked 8 = .ok (.aload_n 0, 1) := by decide +kernel
theorem dX6_looked_9 : decode cX6_looked 9 = .ok (.getfield 100, 3) := by decide +kernel
theorem dX6_looked_12 : decode cX6_looked 12 = .ok (.iconst 2, 1) := by decide +kernel
theorem dX6_looked_13 : decode cX6_looked 13 = .ok (.if_icmp .ne 7, 3) := by decide +kernel
theorem dX6_looked_16 : decode cX6_looked 16 = .ok (.iconst 1, 1) := by decide +kernel
theorem dX6_looked_17 : decode cX6_looked 17 = .ok (.goto 4, 3) := by decide +kernel
theorem dX6_looked_20 : decode cX6_looked 20 = .ok (.iconst 0, 1) := by decide +kernel
theorem dX6_looked_21 : decode cX6_looked 21 = .ok (.iconst 2, 1) := by decide +kernel
theorem dX6_looked_22 : decode cX6_looked 22 = .ok (.invokevirtual 114, 3) := by decide +kernel
theorem dX6_looked_25 : decode cX6_looked 25 = .ok (.aload_n 0, 1) := by decide +kernel
theorem dX6_looked_26 : decode cX6_looked 26 = .ok (.getfield 76, 3) := by decide +kernel
theorem dX6_looked_29 : decode cX6_looked 29 = .ok (.ifCond .ne 20, 3) := by decide +kernel
theorem dX6_looked_32 : decode cX6_looked 32 = .ok (.aload_n 0, 1) := by decide +kernel
theorem dX6_looked_33 : decode cX6_looked 33 = .ok (.aload_n 0, 1) := by decide +kernel
theorem dX6_looked_34 : decode cX6_looked 34 = .ok (.getfield 111, 3) := by decide +kernel
theorem dX6_looked_37 : decode cX6_looked 37 = .ok (.i2l, 1) := by decide +kernel
theorem dX6_looked_38 : decode cX6_looked 38 = .ok (.iload_n 1, 1) := by decide +kernel
theorem dX6_looked_39 : decode cX6_looked 39 = .ok (.i2l, 1) := by decide +kernel
theorem dX6_looked_40 : decode cX6_looked 40 = .ok (.iload_n 2, 1) := by decide +kernel
theorem dX6_looked_41 : decode cX6_looked 41 = .ok (.i2l, 1) := by decide +kernel
theorem dX6_looked_42 : decode cX6_looked 42 = .ok (.invokestatic 69, 3) := by decide +kernel
theorem dX6_looked_45 : decode cX6_looked 45 = .ok (.iconst 3, 1) := by decide +kernel
theorem dX6_looked_46 : decode cX6_looked 46 = .ok (.invokevirtual 114, 3) := by decide +kernel
theorem dX6_looked_49 : decode cX6_looked 49 = .ok (.aload_n 0, 1) := by decide +kernel
theorem dX6_looked_50 : decode cX6_looked 50 = .ok (.getfield 76, 3) := by decide +kernel
theorem dX6_looked_53 : decode cX6_looked 53 = .ok (.ifCond .ne 10, 3) := by decide +kernel
theorem dX6_looked_56 : decode cX6_looked 56 = .ok (.aload_n 0, 1) := by decide +kernel
theorem dX6_looked_57 : decode cX6_looked 57 = .ok (.getfield 111, 3) := by decide +kernel
theorem dX6_looked_60 : decode cX6_looked 60 = .ok (.goto 4, 3) := by decide +kernel
theorem dX6_looked_63 : decode cX6_looked 63 = .ok (.iconst 0, 1) := by decide +kernel
theorem dX6_looked_64 : decode cX6_looked 64 = .ok (.ireturn, 1) := by decide +kernel
theorem dX6_readNumber_0 : decode cX6_readNumber 0 = .ok (.aload_n 0, 1) := by decide +kernel
theorem dX6_readNumber_1 : decode cX6_readNumber 1 = .ok (.iload_n 1, 1) := by decide +kernel
theorem dX6_readNumber_2 : decode cX6_readNumber 2 = .ok (.iload_n 2, 1) := by decide +kernel
theorem dX6_readNumber_3 : decode cX6_readNumber 3 = .ok (.invokevirtual 118, 3) := by decide +kernel
theorem dX6_readNumber_6 : decode cX6_readNumber 6 = .ok (.istore_n 3, 1) := by decide +kernel
theorem dX6_readNumber_7 : decode cX6_readNumber 7 = .ok (.aload_n 0, 1) := by decide +kernel
theorem dX6_readNumber_8 : decode cX6_readNumber 8 = .ok (.invokevirtual 122, 3) := by decide +kernel
theorem dX6_readNumber_11 : decode cX6_readNumber 11 = .ok (.iload_n 3, 1) := by decide +kernel
theorem dX6_readNumber_12 : decode cX6_readNumber 12 = .ok (.ireturn, 1) := by decide +kernel
theorem dX6_noteHighest_0 : decode cX6_noteHighest 0 = .ok (.aload_n 0, 1) := by decide +kernel
theorem dX6_noteHighest_1 : decode cX6_noteHighest 1 = .ok (.iload_n 1, 1) := by decide +kernel
theorem dX6_noteHighest_2 : decode cX6_noteHighest 2 = .ok (.aload_n 0, 1) := by decide +kernel
theorem dX6_noteHighest_3 : decode cX6_noteHighest 3 = .ok (.getfield 61, 3) := by decide +kernel
theorem dX6_noteHighest_6 : decode cX6_noteHighest 6 = .ok (.if_icmp .le 7, 3) := by decide +kernel
theorem dX6_noteHighest_9 : decode cX6_noteHighest 9 = .ok (.iload_n 1, 1) := by decide +kernel
theorem dX6_noteHighest_10 : decode cX6_noteHighest 10 = .ok (.goto 7, 3) := by decide +kernel
theorem dX6_noteHighest_13 : decode cX6_noteHighest 13 = .ok (.aload_n 0, 1) := by decide +kernel
theorem dX6_noteHighest_14 : decode cX6_noteHighest 14 = .ok (.getfield 61, 3) := by decide +kernel
theorem dX6_noteHighest_17 : decode cX6_noteHighest 17 = .ok (.putfield 61, 3) := by decide +kernel
theorem dX6_noteHighest_20 : decode cX6_noteHighest 20 = .ok (.return_, 1) := by decide +kernel
theorem dX6_readIsle_0 : decode cX6_readIsle 0 = .ok (.aload_n 0, 1) := by decide +kernel
theorem dX6_readIsle_1 : decode cX6_readIsle 1 = .ok (.iconst 0, 1) := by decide +kernel
theorem dX6_readIsle_2 : decode cX6_readIsle 2 = .ok (.bipush 99, 2) := by decide +kernel
theorem dX6_readIsle_4 : decode cX6_readIsle 4 = .ok (.invokevirtual 118, 3) := by decide +kernel
theorem dX6_readIsle_7 : decode cX6_readIsle 7 = .ok (.istore_n 2, 1) := by decide +kernel
theorem dX6_readIsle_8 : decode cX6_readIsle 8 = .ok (.iconst 0, 1) := by decide +kernel
theorem dX6_readIsle_9 : decode cX6_readIsle 9 = .ok (.istore_n 3, 1) := by decide +kernel
theorem dX6_readIsle_10 : decode cX6_readIsle 10 = .ok (.iload_n 3, 1) := by decide +kernel
theorem dX6_readIsle_11 : decode cX6_readIsle 11 = .ok (.aload_n 0, 1) := by decide +kernel
theorem dX6_readIsle_12 : decode cX6_readIsle 12 = .ok (.getfield 50, 3) := by decide +kernel
theorem dX6_readIsle_15 : decode cX6_readIsle 15 = .ok (.if_icmp .ge 33, 3) := by decide +kernel
theorem dX6_readIsle_18 : decode cX6_readIsle 18 = .ok (.aload_n 0, 1) := by decide +kernel
theorem dX6_readIsle_19 : decode cX6_readIsle 19 = .ok (.aload_n 0, 1) := by decide +kernel
theorem dX6_readIsle_20 : decode cX6_readIsle 20 = .ok (.getfield 20, 3) := by decide +kernel
theorem dX6_readIsle_23 : decode cX6_readIsle 23 = .ok (.iconst 2, 1) := by decide +kernel
theorem dX6_readIsle_24 : decode cX6_readIsle 24 = .ok (.iload_n 3, 1) := by decide +kernel
theorem dX6_readIsle_25 : decode cX6_readIsle 25 = .ok (.imul, 1) := by decide +kernel
theorem dX6_readIsle_26 : decode cX6_readIsle 26 = .ok (.iconst 1, 1) := by decide +kernel
theorem dX6_readIsle_27 : decode cX6_readIsle 27 = .ok (.iadd, 1) := by decide +kernel
theorem dX6_readIsle_28 : decode cX6_readIsle 28 = .ok (.iaload, 1) := by decide +kernel
theorem dX6_readIsle_29 : decode cX6_readIsle 29 = .ok (.iload_n 2, 1) := by decide +kernel
theorem dX6_readIsle_30 : decode cX6_readIsle 30 = .ok (.if_icmp .eq 7, 3) := by decide +kernel
theorem dX6_readIsle_33 : decode cX6_readIsle 33 = .ok (.iconst 1, 1) := by decide +kernel
theorem dX6_readIsle_34 : decode cX6_readIsle 34 = .ok (.goto 4, 3) := by decide +kernel
theorem dX6_readIsle_37 : decode cX6_readIsle 37 = .ok (.iconst 0, 1) := by decide +kernel
theorem dX6_readIsle_38 : decode cX6_readIsle 38 = .ok (.iconst 4, 1) := by decide +kernel
theorem dX6_readIsle_39 : decode cX6_readIsle 39 = .ok (.invokevirtual 114, 3) := by decide +kernel
theorem dX6_readIsle_42 : decode cX6_readIsle 42 = .ok (.iinc 3 1, 3) := by decide +kernel
theorem dX6_readIsle_45 : decode cX6_readIsle 45 = .ok (.goto (-35), 3) := by decide +kernel
theorem dX6_readIsle_48 : decode cX6_readIsle 48 = .ok (.aload_n 0, 1) := by decide +kernel
theorem dX6_readIsle_49 : decode cX6_readIsle 49 = .ok (.getfield 20, 3) := by decide +kernel
theorem dX6_readIsle_52 : decode cX6_readIsle 52 = .ok (.iconst 2, 1) := by decide +kernel
theorem dX6_readIsle_53 : decode cX6_readIsle 53 = .ok (.aload_n 0, 1) := by decide +kernel
theorem dX6_readIsle_54 : decode cX6_readIsle 54 = .ok (.getfield 50, 3) := by decide +kernel
theorem dX6_readIsle_57 : decode cX6_readIsle 57 = .ok (.imul, 1) := by decide +kernel
theorem dX6_readIsle_58 : decode cX6_readIsle 58 = .ok (.iconst 0, 1) := by decide +kernel
theorem dX6_readIsle_59 : decode cX6_readIsle 59 = .ok (.iadd, 1) := by decide +kernel
theorem dX6_readIsle_60 : decode cX6_readIsle 60 = .ok (.iload_n 1, 1) := by decide +kernel
theorem dX6_readIsle_61 : decode cX6_readIsle 61 = .ok (.iastore, 1) := by decide +kernel
theorem dX6_readIsle_62 : decode cX6_readIsle 62 = .ok (.aload_n 0, 1) := by decide +kernel
theorem dX6_readIsle_63 : decode cX6_readIsle 63 = .ok (.getfield 20, 3) := by decide +kernel
theorem dX6_readIsle_66 : decode cX6_readIsle 66 = .ok (.iconst 2, 1) := by decide +kernel
theorem dX6_readIsle_67 : decode cX6_readIsle 67 = .ok (.aload_n 0, 1) := by decide +kernel
theorem dX6_readIsle_68 : decode cX6_readIsle 68 = .ok (.getfield 50, 3) := by decide +kernel
theorem dX6_readIsle_71 : decode cX6_readIsle 71 = .ok (.imul, 1) := by decide +kernel
theorem dX6_readIsle_72 : decode cX6_readIsle 72 = .ok (.iconst 1, 1) := by decide +kernel
theorem dX6_readIsle_73 : decode cX6_readIsle 73 = .ok (.iadd, 1) := by decide +kernel
theorem dX6_readIsle_74 : decode cX6_readIsle 74 = .ok (.iload_n 2, 1) := by decide +kernel
theorem dX6_readIsle_75 : decode cX6_readIsle 75 = .ok (.iastore, 1) := by decide +kernel
theorem dX6_readIsle_76 : decode cX6_readIsle 76 = .ok (.aload_n 0, 1) := by decide +kernel
theorem dX6_readIsle_77 : decode cX6_readIsle 77 = .ok (.dup, 1) := by decide +kernel
theorem dX6_readIsle_78 : decode cX6_readIsle 78 = .ok (.getfield 50, 3) := by decide +kernel
theorem dX6_readIsle_81 : decode cX6_readIsle 81 = .ok (.iconst 1, 1) := by decide +kernel
theorem dX6_readIsle_82 : decode cX6_readIsle 82 = .ok (.iadd, 1) := by decide +kernel
theorem dX6_readIsle_83 : decode cX6_readIsle 83 = .ok (.putfield 50, 3) := by decide +kernel
theorem dX6_readIsle_86 : decode cX6_readIsle 86 = .ok (.aload_n 0, 1) := by decide +kernel
theorem dX6_readIsle_87 : decode cX6_readIsle 87 = .ok (.invokevirtual 122, 3) := by decide +kernel
theorem dX6_readIsle_90 : decode cX6_readIsle 90 = .ok (.return_, 1) := by decide +kernel
theorem dX6_readCross_0 : decode cX6_readCross 0 = .ok (.aload_n 0, 1) := by decide +kernel
theorem dX6_readCross_1 : decode cX6_readCross 1 = .ok (.iconst 0, 1) := by decide +kernel
theorem dX6_readCross_2 : decode cX6_readCross 2 = .ok (.iconst 4, 1) := by decide +kernel
theorem dX6_readCross_3 : decode cX6_readCross 3 = .ok (.invokevirtual 125, 3) := by decide +kernel
theorem dX6_readCross_6 : decode cX6_readCross 6 = .ok (.istore_n 1, 1) := by decide +kernel
theorem dX6_readCross_7 : decode cX6_readCross 7 = .ok (.aload_n 0, 1) := by decide +kernel
theorem dX6_readCross_8 : decode cX6_readCross 8 = .ok (.iconst 0, 1) := by decide +kernel
theorem dX6_readCross_9 : decode cX6_readCross 9 = .ok (.iconst 4, 1) := by decide +kernel
theorem dX6_readCross_10 : decode cX6_readCross 10 = .ok (.invokevirtual 118, 3) := by decide +kernel
theorem dX6_readCross_13 : decode cX6_readCross 13 = .ok (.istore_n 2, 1) := by decide +kernel
theorem dX6_readCross_14 : decode cX6_readCross 14 = .ok (.aload_n 0, 1) := by decide +kernel
theorem dX6_readCross_15 : decode cX6_readCross 15 = .ok (.iload_n 1, 1) := by decide +kernel
theorem dX6_readCross_16 : decode cX6_readCross 16 = .ok (.iload_n 2, 1) := by decide +kernel
theorem dX6_readCross_17 : decode cX6_readCross 17 = .ok (.if_icmp .eq 7, 3) := by decide +kernel
theorem dX6_readCross_20 : decode cX6_readCross 20 = .ok (.iconst 1, 1) := by decide +kernel
theorem dX6_readCross_21 : decode cX6_readCross 21 = .ok (.goto 4, 3) := by decide +kernel
theorem dX6_readCross_24 : decode cX6_readCross 24 = .ok (.iconst 0, 1) := by decide +kernel
theorem dX6_readCross_25 : decode cX6_readCross 25 = .ok (.iconst 3, 1) := by decide +kernel
theorem dX6_readCross_26 : decode cX6_readCross 26 = .ok (.invokevirtual 114, 3) := by decide +kernel
theorem dX6_readCross_29 : decode cX6_readCross 29 = .ok (.aload_n 0, 1) := by decide +kernel
theorem dX6_readCross_30 : decode cX6_readCross 30 = .ok (.aload_n 0, 1) := by decide +kernel
theorem dX6_readCross_31 : decode cX6_readCross 31 = .ok (.getfield 58, 3) := by decide +kernel
theorem dX6_readCross_34 : decode cX6_readCross 34 = .ok (.iconst 5, 1) := by decide +kernel
theorem dX6_readCross_35 : decode cX6_readCross 35 = .ok (.iload_n 1, 1) := by decide +kernel
theorem dX6_readCross_36 : decode cX6_readCross 36 = .ok (.imul, 1) := by decide +kernel
theorem dX6_readCross_37 : decode cX6_readCross 37 = .ok (.iload_n 2, 1) := by decide +kernel
theorem dX6_readCross_38 : decode cX6_readCross 38 = .ok (.iadd, 1) := by decide +kernel
theorem dX6_readCross_39 : decode cX6_readCross 39 = .ok (.ishr, 1) := by decide +kernel
theorem dX6_readCross_40 : decode cX6_readCross 40 = .ok (.iconst 1, 1) := by decide +kernel
theorem dX6_readCross_41 : decode cX6_readCross 41 = .ok (.iand, 1) := by decide +kernel
theorem dX6_readCross_42 : decode cX6_readCross 42 = .ok (.ifCond .ne 7, 3) := by decide +kernel
theorem dX6_readCross_45 : decode cX6_readCross 45 = .ok (.iconst 1, 1) := by decide +kernel
theorem dX6_readCross_46 : decode cX6_readCross 46 = .ok (.goto 4, 3) := by decide +kernel
theorem dX6_readCross_49 : decode cX6_readCross 49 = .ok (.iconst 0, 1) := by decide +kernel
theorem dX6_readCross_50 : decode cX6_readCross 50 = .ok (.iconst 4, 1) := by decide +kernel
theorem dX6_readCross_51 : decode cX6_readCross 51 = .ok (.invokevirtual 114, 3) := by decide +kernel
theorem dX6_readCross_54 : decode cX6_readCross 54 = .ok (.aload_n 0, 1) := by decide +kernel
theorem dX6_readCross_55 : decode cX6_readCross 55 = .ok (.dup, 1) := by decide +kernel
theorem dX6_readCross_56 : decode cX6_readCross 56 = .ok (.getfield 58, 3) := by decide +kernel
theorem dX6_readCross_59 : decode cX6_readCross 59 = .ok (.iconst 1, 1) := by decide +kernel
theorem dX6_readCross_60 : decode cX6_readCross 60 = .ok (.iconst 5, 1) := by decide +kernel
theorem dX6_readCross_61 : decode cX6_readCross 61 = .ok (.iload_n 1, 1) := by decide +kernel
theorem dX6_readCross_62 : decode cX6_readCross 62 = .ok (.imul, 1) := by decide +kernel
theorem dX6_readCross_63 : decode cX6_readCross 63 = .ok (.iload_n 2, 1) := by decide +kernel
theorem dX6_readCross_64 : decode cX6_readCross 64 = .ok (.iadd, 1) := by decide +kernel
theorem dX6_readCross_65 : decode cX6_readCross 65 = .ok (.ishl, 1) := by decide +kernel
theorem dX6_readCross_66 : decode cX6_readCross 66 = .ok (.ior, 1) := by decide +kernel
theorem dX6_readCross_67 : decode cX6_readCross 67 = .ok (.putfield 58, 3) := by decide +kernel
theorem dX6_readCross_70 : decode cX6_readCross 70 = .ok (.aload_n 0, 1) := by decide +kernel
theorem dX6_readCross_71 : decode cX6_readCross 71 = .ok (.iload_n 1, 1) := by decide +kernel
theorem dX6_readCross_72 : decode cX6_readCross 72 = .ok (.invokevirtual 128, 3) := by decide +kernel
theorem dX6_readCross_75 : decode cX6_readCross 75 = .ok (.aload_n 0, 1) := by decide +kernel
theorem dX6_readCross_76 : decode cX6_readCross 76 = .ok (.iload_n 2, 1) := by decide +kernel
theorem dX6_readCross_77 : decode cX6_readCross 77 = .ok (.invokevirtual 128, 3) := by decide +kernel
theorem dX6_readCross_80 : decode cX6_readCross 80 = .ok (.aload_n 0, 1) := by decide +kernel
theorem dX6_readCross_81 : decode cX6_readCross 81 = .ok (.invokevirtual 122, 3) := by decide +kernel
theorem dX6_readCross_84 : decode cX6_readCross 84 = .ok (.aload_n 0, 1) := by decide +kernel
theorem dX6_readCross_85 : decode cX6_readCross 85 = .ok (.getfield 20, 3) := by decide +kernel
theorem dX6_readCross_88 : decode cX6_readCross 88 = .ok (.bipush 10, 2) := by decide +kernel
theorem dX6_readCross_90 : decode cX6_readCross 90 = .ok (.iconst 5, 1) := by decide +kernel
theorem dX6_readCross_91 : decode cX6_readCross 91 = .ok (.iload_n 1, 1) := by decide +kernel
theorem dX6_readCross_92 : decode cX6_readCross 92 = .ok (.imul, 1) := by decide +kernel
theorem dX6_readCross_93 : decode cX6_readCross 93 = .ok (.iadd, 1) := by decide +kernel
theorem dX6_readCross_94 : decode cX6_readCross 94 = .ok (.iload_n 2, 1) := by decide +kernel
theorem dX6_readCross_95 : decode cX6_readCross 95 = .ok (.iadd, 1) := by decide +kernel
theorem dX6_readCross_96 : decode cX6_readCross 96 = .ok (.aload_n 0, 1) := by decide +kernel
theorem dX6_readCross_97 : decode cX6_readCross 97 = .ok (.iconst 0, 1) := by decide +kernel
theorem dX6_readCross_98 : decode cX6_readCross 98 = .ok (.iconst 3, 1) := by decide +kernel
theorem dX6_readCross_99 : decode cX6_readCross 99 = .ok (.invokevirtual 125, 3) := by decide +kernel
theorem dX6_readCross_102 : decode cX6_readCross 102 = .ok (.iastore, 1) := by decide +kernel
theorem dX6_readCross_103 : decode cX6_readCross 103 = .ok (.return_, 1) := by decide +kernel
theorem dX6_readRope_0 : decode cX6_readRope 0 = .ok (.bipush 35, 2) := by decide +kernel
theorem dX6_readRope_2 : decode cX6_readRope 2 = .ok (.iconst 3, 1) := by decide +kernel
theorem dX6_readRope_3 : decode cX6_readRope 3 = .ok (.aload_n 0, 1) := by decide +kernel
theorem dX6_readRope_4 : decode cX6_readRope 4 = .ok (.getfield 20, 3) := by decide +kernel
theorem dX6_readRope_7 : decode cX6_readRope 7 = .ok (.bipush 53, 2) := by decide +kernel
theorem dX6_readRope_9 : decode cX6_readRope 9 = .ok (.iaload, 1) := by decide +kernel
theorem dX6_readRope_10 : decode cX6_readRope 10 = .ok (.imul, 1) := by decide +kernel
theorem dX6_readRope_11 : decode cX6_readRope 11 = .ok (.iadd, 1) := by decide +kernel
theorem dX6_readRope_12 : decode cX6_readRope 12 = .ok (.istore_n 1, 1) := by decide +kernel
theorem dX6_readRope_13 : decode cX6_readRope 13 = .ok (.aload_n 0, 1) := by decide +kernel
theorem dX6_readRope_14 : decode cX6_readRope 14 = .ok (.iconst 0, 1) := by decide +kernel
theorem dX6_readRope_15 : decode cX6_readRope 15 = .ok (.iconst 4, 1) := by decide +kernel
theorem dX6_readRope_16 : decode cX6_readRope 16 = .ok (.invokevirtual 125, 3) := by decide +kernel
theorem dX6_readRope_19 : decode cX6_readRope 19 = .ok (.istore_n 2, 1) := by decide +kernel
theorem dX6_readRope_20 : decode cX6_readRope 20 = .ok (.aload_n 0, 1) := by decide +kernel
theorem dX6_readRope_21 : decode cX6_readRope 21 = .ok (.iconst 0, 1) := by decide +kernel
theorem dX6_readRope_22 : decode cX6_readRope 22 = .ok (.iconst 4, 1) := by decide +kernel
theorem dX6_readRope_23 : decode cX6_readRope 23 = .ok (.invokevirtual 118, 3) := by decide +kernel
theorem dX6_readRope_26 : decode cX6_readRope 26 = .ok (.istore_n 3, 1) := by decide +kernel
theorem dX6_readRope_27 : decode cX6_readRope 27 = .ok (.aload_n 0, 1) := by decide +kernel
theorem dX6_readRope_28 : decode cX6_readRope 28 = .ok (.iload_n 2, 1) := by decide +kernel
theorem dX6_readRope_29 : decode cX6_readRope 29 = .ok (.iload_n 3, 1) := by decide +kernel
theorem dX6_readRope_30 : decode cX6_readRope 30 = .ok (.if_icmp .eq 7, 3) := by decide +kernel
theorem dX6_readRope_33 : decode cX6_readRope 33 = .ok (.iconst 1, 1) := by decide +kernel
theorem dX6_readRope_34 : decode cX6_readRope 34 = .ok (.goto 4, 3) := by decide +kernel
theorem dX6_readRope_37 : decode cX6_readRope 37 = .ok (.iconst 0, 1) := by decide +kernel
theorem dX6_readRope_38 : decode cX6_readRope 38 = .ok (.iconst 3, 1) := by decide +kernel
theorem dX6_readRope_39 : decode cX6_readRope 39 = .ok (.invokevirtual 114, 3) := by decide +kernel
theorem dX6_readRope_42 : decode cX6_readRope 42 = .ok (.aload_n 0, 1) := by decide +kernel
theorem dX6_readRope_43 : decode cX6_readRope 43 = .ok (.iload_n 2, 1) := by decide +kernel
theorem dX6_readRope_44 : decode cX6_readRope 44 = .ok (.invokevirtual 128, 3) := by decide +kernel
theorem dX6_readRope_47 : decode cX6_readRope 47 = .ok (.aload_n 0, 1) := by decide +kernel
theorem dX6_readRope_48 : decode cX6_readRope 48 = .ok (.iload_n 3, 1) := by decide +kernel
theorem dX6_readRope_49 : decode cX6_readRope 49 = .ok (.invokevirtual 128, 3) := by decide +kernel
theorem dX6_readRope_52 : decode cX6_readRope 52 = .ok (.aload_n 0, 1) := by decide +kernel
theorem dX6_readRope_53 : decode cX6_readRope 53 = .ok (.invokevirtual 122, 3) := by decide +kernel
theorem dX6_readRope_56 : decode cX6_readRope 56 = .ok (.aload_n 0, 1) := by decide +kernel
theorem dX6_readRope_57 : decode cX6_readRope 57 = .ok (.getfield 20, 3) := by decide +kernel
theorem dX6_readRope_60 : decode cX6_readRope 60 = .ok (.iload_n 1, 1) := by decide +kernel
theorem dX6_readRope_61 : decode cX6_readRope 61 = .ok (.iload_n 2, 1) := by decide +kernel
theorem dX6_readRope_62 : decode cX6_readRope 62 = .ok (.iastore, 1) := by decide +kernel
theorem dX6_readRope_63 : decode cX6_readRope 63 = .ok (.aload_n 0, 1) := by decide +kernel
theorem dX6_readRope_64 : decode cX6_readRope 64 = .ok (.getfield 20, 3) := by decide +kernel
theorem dX6_readRope_67 : decode cX6_readRope 67 = .ok (.iload_n 1, 1) := by decide +kernel
theorem dX6_readRope_68 : decode cX6_readRope 68 = .ok (.iconst 1, 1) := by decide +kernel
theorem dX6_readRope_69 : decode cX6_readRope 69 = .ok (.iadd, 1) := by decide +kernel
theorem dX6_readRope_70 : decode cX6_readRope 70 = .ok (.iload_n 3, 1) := by decide +kernel
theorem dX6_readRope_71 : decode cX6_readRope 71 = .ok (.iastore, 1) := by decide +kernel
theorem dX6_readRope_72 : decode cX6_readRope 72 = .ok (.aload_n 0, 1) := by decide +kernel
theorem dX6_readRope_73 : decode cX6_readRope 73 = .ok (.getfield 20, 3) := by decide +kernel
theorem dX6_readRope_76 : decode cX6_readRope 76 = .ok (.iload_n 1, 1) := by decide +kernel
theorem dX6_readRope_77 : decode cX6_readRope 77 = .ok (.iconst 2, 1) := by decide +kernel
theorem dX6_readRope_78 : decode cX6_readRope 78 = .ok (.iadd, 1) := by decide +kernel
theorem dX6_readRope_79 : decode cX6_readRope 79 = .ok (.aload_n 0, 1) := by decide +kernel
theorem dX6_readRope_80 : decode cX6_readRope 80 = .ok (.iconst 1, 1) := by decide +kernel
theorem dX6_readRope_81 : decode cX6_readRope 81 = .ok (.bipush 30, 2) := by decide +kernel
theorem dX6_readRope_83 : decode cX6_readRope 83 = .ok (.invokevirtual 125, 3) := by decide +kernel
theorem dX6_readRope_86 : decode cX6_readRope 86 = .ok (.iastore, 1) := by decide +kernel
theorem dX6_readRope_87 : decode cX6_readRope 87 = .ok (.aload_n 0, 1) := by decide +kernel
theorem dX6_readRope_88 : decode cX6_readRope 88 = .ok (.getfield 20, 3) := by decide +kernel
theorem dX6_readRope_91 : decode cX6_readRope 91 = .ok (.bipush 53, 2) := by decide +kernel
theorem dX6_readRope_93 : decode cX6_readRope 93 = .ok (.dup2, 1) := by decide +kernel
theorem dX6_readRope_94 : decode cX6_readRope 94 = .ok (.iaload, 1) := by decide +kernel
theorem dX6_readRope_95 : decode cX6_readRope 95 = .ok (.iconst 1, 1) := by decide +kernel
theorem dX6_readRope_96 : decode cX6_readRope 96 = .ok (.iadd, 1) := by decide +kernel
theorem dX6_readRope_97 : decode cX6_readRope 97 = .ok (.iastore, 1) := by decide +kernel
theorem dX6_readRope_98 : decode cX6_readRope 98 = .ok (.return_, 1) := by decide +kernel
theorem dX6_readLineOf_0 : decode cX6_readLineOf 0 = .ok (.iload_n 1, 1) := by decide +kernel
theorem dX6_readLineOf_1 : decode cX6_readLineOf 1 = .ok (.tableswitch 58 4 6 #[27, 34, 41], 27) := by decide +kernel
theorem dX6_readLineOf_28 : decode cX6_readLineOf 28 = .ok (.aload_n 0, 1) := by decide +kernel
theorem dX6_readLineOf_29 : decode cX6_readLineOf 29 = .ok (.invokevirtual 132, 3) := by decide +kernel
theorem dX6_readLineOf_32 : decode cX6_readLineOf 32 = .ok (.goto 32, 3) := by decide +kernel
theorem dX6_readLineOf_35 : decode cX6_readLineOf 35 = .ok (.aload_n 0, 1) := by decide +kernel
theorem dX6_readLineOf_36 : decode cX6_readLineOf 36 = .ok (.invokevirtual 135, 3) := by decide +kernel
theorem dX6_readLineOf_39 : decode cX6_readLineOf 39 = .ok (.goto 25, 3) := by decide +kernel
theorem dX6_readLineOf_42 : decode cX6_readLineOf 42 = .ok (.aload_n 0, 1) := by decide +kernel
theorem dX6_readLineOf_43 : decode cX6_readLineOf 43 = .ok (.getfield 20, 3) := by decide +kernel
theorem dX6_readLineOf_46 : decode cX6_readLineOf 46 = .ok (.bipush 55, 2) := by decide +kernel
theorem dX6_readLineOf_48 : decode cX6_readLineOf 48 = .ok (.aload_n 0, 1) := by decide +kernel
theorem dX6_readLineOf_49 : decode cX6_readLineOf 49 = .ok (.iconst 0, 1) := by decide +kernel
theorem dX6_readLineOf_50 : decode cX6_readLineOf 50 = .ok (.bipush 6, 2) := by decide +kernel
theorem dX6_readLineOf_52 : decode cX6_readLineOf 52 = .ok (.invokevirtual 125, 3) := by decide +kernel
theorem dX6_readLineOf_55 : decode cX6_readLineOf 55 = .ok (.iastore, 1) := by decide +kernel
theorem dX6_readLineOf_56 : decode cX6_readLineOf 56 = .ok (.goto 8, 3) := by decide +kernel
theorem dX6_readLineOf_59 : decode cX6_readLineOf 59 = .ok (.aload_n 0, 1) := by decide +kernel
theorem dX6_readLineOf_60 : decode cX6_readLineOf 60 = .ok (.iload_n 1, 1) := by decide +kernel
theorem dX6_readLineOf_61 : decode cX6_readLineOf 61 = .ok (.invokevirtual 138, 3) := by decide +kernel
theorem dX6_readLineOf_64 : decode cX6_readLineOf 64 = .ok (.return_, 1) := by decide +kernel
theorem dX6_readLine_0 : decode cX6_readLine 0 = .ok (.aload_n 0, 1) := by decide +kernel
theorem dX6_readLine_1 : decode cX6_readLine 1 = .ok (.getfield 100, 3) := by decide +kernel
theorem dX6_readLine_4 : decode cX6_readLine 4 = .ok (.iconst 1, 1) := by decide +kernel
theorem dX6_readLine_5 : decode cX6_readLine 5 = .ok (.if_icmp .ne 10, 3) := by decide +kernel
theorem dX6_readLine_8 : decode cX6_readLine 8 = .ok (.aload_n 0, 1) := by decide +kernel
theorem dX6_readLine_9 : decode cX6_readLine 9 = .ok (.invokevirtual 141, 3) := by decide +kernel
theorem dX6_readLine_12 : decode cX6_readLine 12 = .ok (.goto 5, 3) := by decide +kernel
theorem dX6_readLine_15 : decode cX6_readLine 15 = .ok (.bipush (-4), 2) := by decide +kernel
theorem dX6_readLine_17 : decode cX6_readLine 17 = .ok (.istore_n 1, 1) := by decide +kernel
theorem dX6_readLine_18 : decode cX6_readLine 18 = .ok (.aload_n 0, 1) := by decide +kernel
theorem dX6_readLine_19 : decode cX6_readLine 19 = .ok (.iload_n 1, 1) := by decide +kernel
theorem dX6_readLine_20 : decode cX6_readLine 20 = .ok (.bipush (-4), 2) := by decide +kernel
theorem dX6_readLine_22 : decode cX6_readLine 22 = .ok (.if_icmp .eq 7, 3) := by decide +kernel
theorem dX6_readLine_25 : decode cX6_readLine 25 = .ok (.iconst 1, 1) := by decide +kernel
theorem dX6_readLine_26 : decode cX6_readLine 26 = .ok (.goto 4, 3) := by decide +kernel
theorem dX6_readLine_29 : decode cX6_readLine 29 = .ok (.iconst 0, 1) := by decide +kernel
theorem dX6_readLine_30 : decode cX6_readLine 30 = .ok (.iconst 2, 1) := by decide +kernel
theorem dX6_readLine_31 : decode cX6_readLine 31 = .ok (.invokevirtual 114, 3) := by decide +kernel
theorem dX6_readLine_34 : decode cX6_readLine 34 = .ok (.aload_n 0, 1) := by decide +kernel
theorem dX6_readLine_35 : decode cX6_readLine 35 = .ok (.iload_n 1, 1) := by decide +kernel
theorem dX6_readLine_36 : decode cX6_readLine 36 = .ok (.iconst 4, 1) := by decide +kernel
theorem dX6_readLine_37 : decode cX6_readLine 37 = .ok (.if_icmp .ge 19, 3) := by decide +kernel
theorem dX6_readLine_40 : decode cX6_readLine 40 = .ok (.aload_n 0, 1) := by decide +kernel
theorem dX6_readLine_41 : decode cX6_readLine 41 = .ok (.getfield 50, 3) := by decide +kernel
theorem dX6_readLine_44 : decode cX6_readLine 44 = .ok (.iconst 5, 1) := by decide +kernel
theorem dX6_readLine_45 : decode cX6_readLine 45 = .ok (.if_icmp .ge 7, 3) := by decide +kernel
theorem dX6_readLine_48 : decode cX6_readLine 48 = .ok (.iconst 1, 1) := by decide +kernel
theorem dX6_readLine_49 : decode cX6_readLine 49 = .ok (.goto 29, 3) := by decide +kernel
theorem dX6_readLine_52 : decode cX6_readLine 52 = .ok (.iconst 0, 1) := by decide +kernel
theorem dX6_readLine_53 : decode cX6_readLine 53 = .ok (.goto 25, 3) := by decide +kernel
theorem dX6_readLine_56 : decode cX6_readLine 56 = .ok (.iload_n 1, 1) := by decide +kernel
theorem dX6_readLine_57 : decode cX6_readLine 57 = .ok (.iconst 5, 1) := by decide +kernel
theorem dX6_readLine_58 : decode cX6_readLine 58 = .ok (.if_icmp .ne 15, 3) := by decide +kernel
theorem dX6_readLine_61 : decode cX6_readLine 61 = .ok (.aload_n 0, 1) := by decide +kernel
theorem dX6_readLine_62 : decode cX6_readLine 62 = .ok (.getfield 20, 3) := by decide +kernel
theorem dX6_readLine_65 : decode cX6_readLine 65 = .ok (.bipush 53, 2) := by decide +kernel
theorem dX6_readLine_67 : decode cX6_readLine 67 = .ok (.iaload, 1) := by decide +kernel
theorem dX6_readLine_68 : decode cX6_readLine 68 = .ok (.bipush 6, 2) := by decide +kernel
theorem dX6_readLine_70 : decode cX6_readLine 70 = .ok (.if_icmp .ge 7, 3) := by decide +kernel
theorem dX6_readLine_73 : decode cX6_readLine 73 = .ok (.iconst 1, 1) := by decide +kernel
theorem dX6_readLine_74 : decode cX6_readLine 74 = .ok (.goto 4, 3) := by decide +kernel
theorem dX6_readLine_77 : decode cX6_readLine 77 = .ok (.iconst 0, 1) := by decide +kernel
theorem dX6_readLine_78 : decode cX6_readLine 78 = .ok (.iconst 5, 1) := by decide +kernel
theorem dX6_readLine_79 : decode cX6_readLine 79 = .ok (.invokevirtual 114, 3) := by decide +kernel
theorem dX6_readLine_82 : decode cX6_readLine 82 = .ok (.aload_n 0, 1) := by decide +kernel
theorem dX6_readLine_83 : decode cX6_readLine 83 = .ok (.iload_n 1, 1) := by decide +kernel
theorem dX6_readLine_84 : decode cX6_readLine 84 = .ok (.bipush 6, 2) := by decide +kernel
theorem dX6_readLine_86 : decode cX6_readLine 86 = .ok (.if_icmp .ne 10, 3) := by decide +kernel
theorem dX6_readLine_89 : decode cX6_readLine 89 = .ok (.aload_n 0, 1) := by decide +kernel
theorem dX6_readLine_90 : decode cX6_readLine 90 = .ok (.getfield 54, 3) := by decide +kernel
theorem dX6_readLine_93 : decode cX6_readLine 93 = .ok (.ifCond .ne 7, 3) := by decide +kernel
theorem dX6_readLine_96 : decode cX6_readLine 96 = .ok (.iconst 1, 1) := by decide +kernel
theorem dX6_readLine_97 : decode cX6_readLine 97 = .ok (.goto 4, 3) := by decide +kernel
theorem dX6_readLine_100 : decode cX6_readLine 100 = .ok (.iconst 0, 1) := by decide +kernel
theorem dX6_readLine_101 : decode cX6_readLine 101 = .ok (.iconst 4, 1) := by decide +kernel
theorem dX6_readLine_102 : decode cX6_readLine 102 = .ok (.invokevirtual 114, 3) := by decide +kernel
theorem dX6_readLine_105 : decode cX6_readLine 105 = .ok (.aload_n 0, 1) := by decide +kernel
theorem dX6_readLine_106 : decode cX6_readLine 106 = .ok (.aload_n 0, 1) := by decide +kernel
theorem dX6_readLine_107 : decode cX6_readLine 107 = .ok (.getfield 54, 3) := by decide +kernel
theorem dX6_readLine_110 : decode cX6_readLine 110 = .ok (.ifCond .ne 9, 3) := by decide +kernel
theorem dX6_readLine_113 : decode cX6_readLine 113 = .ok (.iload_n 1, 1) := by decide +kernel
theorem dX6_readLine_114 : decode cX6_readLine 114 = .ok (.bipush 6, 2) := by decide +kernel
theorem dX6_readLine_116 : decode cX6_readLine 116 = .ok (.if_icmp .ne 7, 3) := by decide +kernel
theorem dX6_readLine_119 : decode cX6_readLine 119 = .ok (.iconst 1, 1) := by decide +kernel
theorem dX6_readLine_120 : decode cX6_readLine 120 = .ok (.goto 4, 3) := by decide +kernel
theorem dX6_readLine_123 : decode cX6_readLine 123 = .ok (.iconst 0, 1) := by decide +kernel
theorem dX6_readLine_124 : decode cX6_readLine 124 = .ok (.putfield 54, 3) := by decide +kernel
theorem dX6_readLine_127 : decode cX6_readLine 127 = .ok (.aload_n 0, 1) := by decide +kernel
theorem dX6_readLine_128 : decode cX6_readLine 128 = .ok (.invokevirtual 122, 3) := by decide +kernel
theorem dX6_readLine_131 : decode cX6_readLine 131 = .ok (.aload_n 0, 1) := by decide +kernel
theorem dX6_readLine_132 : decode cX6_readLine 132 = .ok (.getfield 76, 3) := by decide +kernel
theorem dX6_readLine_135 : decode cX6_readLine 135 = .ok (.ifCond .le 4, 3) := by decide +kernel
theorem dX6_readLine_138 : decode cX6_readLine 138 = .ok (.return_, 1) := by decide +kernel
theorem dX6_readLine_139 : decode cX6_readLine 139 = .ok (.aload_n 0, 1) := by decide +kernel
theorem dX6_readLine_140 : decode cX6_readLine 140 = .ok (.iload_n 1, 1) := by decide +kernel
theorem dX6_readLine_141 : decode cX6_readLine 141 = .ok (.invokevirtual 145, 3) := by decide +kernel
theorem dX6_readLine_144 : decode cX6_readLine 144 = .ok (.aload_n 0, 1) := by decide +kernel
theorem dX6_readLine_145 : decode cX6_readLine 145 = .ok (.getfield 76, 3) := by decide +kernel
theorem dX6_readLine_148 : decode cX6_readLine 148 = .ok (.ifCond .ne 21, 3) := by decide +kernel
theorem dX6_readLine_151 : decode cX6_readLine 151 = .ok (.aload_n 0, 1) := by decide +kernel
theorem dX6_readLine_152 : decode cX6_readLine 152 = .ok (.aload_n 0, 1) := by decide +kernel
theorem dX6_readLine_153 : decode cX6_readLine 153 = .ok (.getfield 100, 3) := by decide +kernel
theorem dX6_readLine_156 : decode cX6_readLine 156 = .ok (.iconst 3, 1) := by decide +kernel
theorem dX6_readLine_157 : decode cX6_readLine 157 = .ok (.if_icmp .ne 7, 3) := by decide +kernel
theorem dX6_readLine_160 : decode cX6_readLine 160 = .ok (.iconst 1, 1) := by decide +kernel
theorem dX6_readLine_161 : decode cX6_readLine 161 = .ok (.goto 4, 3) := by decide +kernel
theorem dX6_readLine_164 : decode cX6_readLine 164 = .ok (.iconst 0, 1) := by decide +kernel
theorem dX6_readLine_165 : decode cX6_readLine 165 = .ok (.iconst 2, 1) := by decide +kernel
theorem dX6_readLine_166 : decode cX6_readLine 166 = .ok (.invokevirtual 114, 3) := by decide +kernel
theorem dX6_readLine_169 : decode cX6_readLine 169 = .ok (.aload_n 0, 1) := by decide +kernel
theorem dX6_readLine_170 : decode cX6_readLine 170 = .ok (.invokevirtual 122, 3) := by decide +kernel
theorem dX6_readLine_173 : decode cX6_readLine 173 = .ok (.return_, 1) := by decide +kernel
theorem dX6_text_0 : decode cX6_text 0 = .ok (.iconst 0, 1) := by decide +kernel
theorem dX6_text_1 : decode cX6_text 1 = .ok (.istore_n 1, 1) := by decide +kernel
theorem dX6_text_2 : decode cX6_text 2 = .ok (.aload_n 0, 1) := by decide +kernel
theorem dX6_text_3 : decode cX6_text 3 = .ok (.iconst 0, 1) := by decide +kernel
theorem dX6_text_4 : decode cX6_text 4 = .ok (.putfield 76, 3) := by decide +kernel
theorem dX6_text_7 : decode cX6_text 7 = .ok (.aload_n 0, 1) := by decide +kernel
theorem dX6_text_8 : decode cX6_text 8 = .ok (.iconst 0, 1) := by decide +kernel
theorem dX6_text_9 : decode cX6_text 9 = .ok (.putfield 85, 3) := by decide +kernel
theorem dX6_text_12 : decode cX6_text 12 = .ok (.aload_n 0, 1) := by decide +kernel
theorem dX6_text_13 : decode cX6_text 13 = .ok (.invokevirtual 44, 3) := by decide +kernel
theorem dX6_text_16 : decode cX6_text 16 = .ok (.aload_n 0, 1) := by decide +kernel
theorem dX6_text_17 : decode cX6_text 17 = .ok (.invokevirtual 122, 3) := by decide +kernel
theorem dX6_text_20 : decode cX6_text 20 = .ok (.aload_n 0, 1) := by decide +kernel
theorem dX6_text_21 : decode cX6_text 21 = .ok (.getfield 76, 3) := by decide +kernel
theorem dX6_text_24 : decode cX6_text 24 = .ok (.ifCond .ne 20, 3) := by decide +kernel
theorem dX6_text_27 : decode cX6_text 27 = .ok (.aload_n 0, 1) := by decide +kernel
theorem dX6_text_28 : decode cX6_text 28 = .ok (.getfield 100, 3) := by decide +kernel
theorem dX6_text_31 : decode cX6_text 31 = .ok (.ifCond .eq 13, 3) := by decide +kernel
theorem dX6_text_34 : decode cX6_text 34 = .ok (.aload_n 0, 1) := by decide +kernel
theorem dX6_text_35 : decode cX6_text 35 = .ok (.invokevirtual 148, 3) := by decide +kernel
theorem dX6_text_38 : decode cX6_text 38 = .ok (.iinc 1 1, 3) := by decide +kernel
theorem dX6_text_41 : decode cX6_text 41 = .ok (.goto (-21), 3) := by decide +kernel
theorem dX6_text_44 : decode cX6_text 44 = .ok (.aload_n 0, 1) := by decide +kernel
theorem dX6_text_45 : decode cX6_text 45 = .ok (.getfield 76, 3) := by decide +kernel
theorem dX6_text_48 : decode cX6_text 48 = .ok (.ifCond .ne 25, 3) := by decide +kernel
theorem dX6_text_51 : decode cX6_text 51 = .ok (.aload_n 0, 1) := by decide +kernel
theorem dX6_text_52 : decode cX6_text 52 = .ok (.aload_n 0, 1) := by decide +kernel
theorem dX6_text_53 : decode cX6_text 53 = .ok (.getfield 61, 3) := by decide +kernel
theorem dX6_text_56 : decode cX6_text 56 = .ok (.aload_n 0, 1) := by decide +kernel
theorem dX6_text_57 : decode cX6_text 57 = .ok (.getfield 50, 3) := by decide +kernel
theorem dX6_text_60 : decode cX6_text 60 = .ok (.if_icmp .ge 7, 3) := by decide +kernel
theorem dX6_text_63 : decode cX6_text 63 = .ok (.iconst 1, 1) := by decide +kernel
theorem dX6_text_64 : decode cX6_text 64 = .ok (.goto 4, 3) := by decide +kernel
theorem dX6_text_67 : decode cX6_text 67 = .ok (.iconst 0, 1) := by decide +kernel
theorem dX6_text_68 : decode cX6_text 68 = .ok (.bipush 6, 2) := by decide +kernel
theorem dX6_text_70 : decode cX6_text 70 = .ok (.invokevirtual 114, 3) := by decide +kernel
theorem dX6_text_73 : decode cX6_text 73 = .ok (.aload_n 0, 1) := by decide +kernel
theorem dX6_text_74 : decode cX6_text 74 = .ok (.iconst 0, 1) := by decide +kernel
theorem dX6_text_75 : decode cX6_text 75 = .ok (.putfield 73, 3) := by decide +kernel
theorem dX6_text_78 : decode cX6_text 78 = .ok (.aload_n 0, 1) := by decide +kernel
theorem dX6_text_79 : decode cX6_text 79 = .ok (.getfield 76, 3) := by decide +kernel
theorem dX6_text_82 : decode cX6_text 82 = .ok (.ifCond .le 11, 3) := by decide +kernel
theorem dX6_text_85 : decode cX6_text 85 = .ok (.bipush (-10), 2) := by decide +kernel
theorem dX6_text_87 : decode cX6_text 87 = .ok (.aload_n 0, 1) := by decide +kernel
theorem dX6_text_88 : decode cX6_text 88 = .ok (.getfield 82, 3) := by decide +kernel
theorem dX6_text_91 : decode cX6_text 91 = .ok (.isub, 1) := by decide +kernel
theorem dX6_text_92 : decode cX6_text 92 = .ok (.ireturn, 1) := by decide +kernel
theorem dX6_text_93 : decode cX6_text 93 = .ok (.aload_n 0, 1) := by decide +kernel
theorem dX6_text_94 : decode cX6_text 94 = .ok (.invokevirtual 47, 3) := by decide +kernel
theorem dX6_text_97 : decode cX6_text 97 = .ok (.iload_n 1, 1) := by decide +kernel
theorem dX6_text_98 : decode cX6_text 98 = .ok (.ireturn, 1) := by decide +kernel
theorem dX6_fault_0 : decode cX6_fault 0 = .ok (.aload_n 0, 1) := by decide +kernel
theorem dX6_fault_1 : decode cX6_fault 1 = .ok (.getfield 76, 3) := by decide +kernel
theorem dX6_fault_4 : decode cX6_fault 4 = .ok (.ireturn, 1) := by decide +kernel
theorem dX6_isIsle_0 : decode cX6_isIsle 0 = .ok (.iload_n 1, 1) := by decide +kernel
theorem dX6_isIsle_1 : decode cX6_isIsle 1 = .ok (.i2l, 1) := by decide +kernel
theorem dX6_isIsle_2 : decode cX6_isIsle 2 = .ok (.lconst 0, 1) := by decide +kernel
theorem dX6_isIsle_3 : decode cX6_isIsle 3 = .ok (.aload_n 0, 1) := by decide +kernel
theorem dX6_isIsle_4 : decode cX6_isIsle 4 = .ok (.getfield 64, 3) := by decide +kernel
theorem dX6_isIsle_7 : decode cX6_isIsle 7 = .ok (.iconst 1, 1) := by decide +kernel
theorem dX6_isIsle_8 : decode cX6_isIsle 8 = .ok (.isub, 1) := by decide +kernel
theorem dX6_isIsle_9 : decode cX6_isIsle 9 = .ok (.i2l, 1) := by decide +kernel
theorem dX6_isIsle_10 : decode cX6_isIsle 10 = .ok (.invokestatic 69, 3) := by decide +kernel
theorem dX6_isIsle_13 : decode cX6_isIsle 13 = .ok (.ireturn, 1) := by decide +kernel
theorem dX6_areTwo_0 : decode cX6_areTwo 0 = .ok (.aload_n 0, 1) := by decide +kernel
theorem dX6_areTwo_1 : decode cX6_areTwo 1 = .ok (.iload_n 1, 1) := by decide +kernel
theorem dX6_areTwo_2 : decode cX6_areTwo 2 = .ok (.invokevirtual 151, 3) := by decide +kernel
theorem dX6_areTwo_5 : decode cX6_areTwo 5 = .ok (.ifCond .eq 20, 3) := by decide +kernel
theorem dX6_areTwo_8 : decode cX6_areTwo 8 = .ok (.aload_n 0, 1) := by decide +kernel
theorem dX6_areTwo_9 : decode cX6_areTwo 9 = .ok (.iload_n 2, 1) := by decide +kernel
theorem dX6_areTwo_10 : decode cX6_areTwo 10 = .ok (.invokevirtual 151, 3) := by decide +kernel
theorem dX6_areTwo_13 : decode cX6_areTwo 13 = .ok (.ifCond .eq 12, 3) := by decide +kernel
theorem dX6_areTwo_16 : decode cX6_areTwo 16 = .ok (.iload_n 1, 1) := by decide +kernel
theorem dX6_areTwo_17 : decode cX6_areTwo 17 = .ok (.iload_n 2, 1) := by decide +kernel
theorem dX6_areTwo_18 : decode cX6_areTwo 18 = .ok (.if_icmp .eq 7, 3) := by decide +kernel
theorem dX6_areTwo_21 : decode cX6_areTwo 21 = .ok (.iconst 1, 1) := by decide +kernel
theorem dX6_areTwo_22 : decode cX6_areTwo 22 = .ok (.goto 4, 3) := by decide +kernel
theorem dX6_areTwo_25 : decode cX6_areTwo 25 = .ok (.iconst 0, 1) := by decide +kernel
theorem dX6_areTwo_26 : decode cX6_areTwo 26 = .ok (.ireturn, 1) := by decide +kernel
theorem dX6_isRope_0 : decode cX6_isRope 0 = .ok (.iload_n 1, 1) := by decide +kernel
theorem dX6_isRope_1 : decode cX6_isRope 1 = .ok (.i2l, 1) := by decide +kernel
theorem dX6_isRope_2 : decode cX6_isRope 2 = .ok (.lconst 0, 1) := by decide +kernel
theorem dX6_isRope_3 : decode cX6_isRope 3 = .ok (.aload_n 0, 1) := by decide +kernel
theorem dX6_isRope_4 : decode cX6_isRope 4 = .ok (.getfield 7, 3) := by decide +kernel
theorem dX6_isRope_7 : decode cX6_isRope 7 = .ok (.bipush 53, 2) := by decide +kernel
theorem dX6_isRope_9 : decode cX6_isRope 9 = .ok (.iaload, 1) := by decide +kernel
theorem dX6_isRope_10 : decode cX6_isRope 10 = .ok (.iconst 1, 1) := by decide +kernel
theorem dX6_isRope_11 : decode cX6_isRope 11 = .ok (.isub, 1) := by decide +kernel
theorem dX6_isRope_12 : decode cX6_isRope 12 = .ok (.i2l, 1) := by decide +kernel
theorem dX6_isRope_13 : decode cX6_isRope 13 = .ok (.invokestatic 69, 3) := by decide +kernel
theorem dX6_isRope_16 : decode cX6_isRope 16 = .ok (.ireturn, 1) := by decide +kernel
theorem dX6_isFathom_0 : decode cX6_isFathom 0 = .ok (.iload_n 0, 1) := by decide +kernel
theorem dX6_isFathom_1 : decode cX6_isFathom 1 = .ok (.i2l, 1) := by decide +kernel
theorem dX6_isFathom_2 : decode cX6_isFathom 2 = .ok (.lconst 0, 1) := by decide +kernel
theorem dX6_isFathom_3 : decode cX6_isFathom 3 = .ok (.ldc2_w 154, 3) := by decide +kernel
theorem dX6_isFathom_6 : decode cX6_isFathom 6 = .ok (.invokestatic 69, 3) := by decide +kernel
theorem dX6_isFathom_9 : decode cX6_isFathom 9 = .ok (.ireturn, 1) := by decide +kernel
theorem dX6_isPart_0 : decode cX6_isPart 0 = .ok (.iload_n 0, 1) := by decide +kernel
theorem dX6_isPart_1 : decode cX6_isPart 1 = .ok (.i2l, 1) := by decide +kernel
theorem dX6_isPart_2 : decode cX6_isPart 2 = .ok (.lconst 0, 1) := by decide +kernel
theorem dX6_isPart_3 : decode cX6_isPart 3 = .ok (.lconst 1, 1) := by decide +kernel
theorem dX6_isPart_4 : decode cX6_isPart 4 = .ok (.invokestatic 69, 3) := by decide +kernel
theorem dX6_isPart_7 : decode cX6_isPart 7 = .ok (.ireturn, 1) := by decide +kernel
theorem dX6_starts_0 : decode cX6_starts 0 = .ok (.iconst 0, 1) := by decide +kernel
theorem dX6_starts_1 : decode cX6_starts 1 = .ok (.istore_n 1, 1) := by decide +kernel
theorem dX6_starts_2 : decode cX6_starts 2 = .ok (.iload_n 1, 1) := by decide +kernel
theorem dX6_starts_3 : decode cX6_starts 3 = .ok (.bipush 76, 2) := by decide +kernel
theorem dX6_starts_5 : decode cX6_starts 5 = .ok (.if_icmp .ge 21, 3) := by decide +kernel
theorem dX6_starts_8 : decode cX6_starts 8 = .ok (.aload_n 0, 1) := by decide +kernel
theorem dX6_starts_9 : decode cX6_starts 9 = .ok (.getfield 13, 3) := by decide +kernel
theorem dX6_starts_12 : decode cX6_starts 12 = .ok (.iload_n 1, 1) := by decide +kernel
theorem dX6_starts_13 : decode cX6_starts 13 = .ok (.aload_n 0, 1) := by decide +kernel
theorem dX6_starts_14 : decode cX6_starts 14 = .ok (.getfield 7, 3) := by decide +kernel
theorem dX6_starts_17 : decode cX6_starts 17 = .ok (.iload_n 1, 1) := by decide +kernel
theorem dX6_starts_18 : decode cX6_starts 18 = .ok (.iaload, 1) := by decide +kernel
theorem dX6_starts_19 : decode cX6_starts 19 = .ok (.iastore, 1) := by decide +kernel
theorem dX6_starts_20 : decode cX6_starts 20 = .ok (.iinc 1 1, 3) := by decide +kernel
theorem dX6_starts_23 : decode cX6_starts 23 = .ok (.goto (-21), 3) := by decide +kernel
theorem dX6_starts_26 : decode cX6_starts 26 = .ok (.return_, 1) := by decide +kernel
theorem dX6_settles_0 : decode cX6_settles 0 = .ok (.iconst 0, 1) := by decide +kernel
theorem dX6_settles_1 : decode cX6_settles 1 = .ok (.istore_n 1, 1) := by decide +kernel
theorem dX6_settles_2 : decode cX6_settles 2 = .ok (.iload_n 1, 1) := by decide +kernel
theorem dX6_settles_3 : decode cX6_settles 3 = .ok (.bipush 76, 2) := by decide +kernel
theorem dX6_settles_5 : decode cX6_settles 5 = .ok (.if_icmp .ge 21, 3) := by decide +kernel
theorem dX6_settles_8 : decode cX6_settles 8 = .ok (.aload_n 0, 1) := by decide +kernel
theorem dX6_settles_9 : decode cX6_settles 9 = .ok (.getfield 7, 3) := by decide +kernel
theorem dX6_settles_12 : decode cX6_settles 12 = .ok (.iload_n 1, 1) := by decide +kernel
theorem dX6_settles_13 : decode cX6_settles 13 = .ok (.aload_n 0, 1) := by decide +kernel
theorem dX6_settles_14 : decode cX6_settles 14 = .ok (.getfield 13, 3) := by decide +kernel
theorem dX6_settles_17 : decode cX6_settles 17 = .ok (.iload_n 1, 1) := by decide +kernel
theorem dX6_settles_18 : decode cX6_settles 18 = .ok (.iaload, 1) := by decide +kernel
theorem dX6_settles_19 : decode cX6_settles 19 = .ok (.iastore, 1) := by decide +kernel
theorem dX6_settles_20 : decode cX6_settles 20 = .ok (.iinc 1 1, 3) := by decide +kernel
theorem dX6_settles_23 : decode cX6_settles 23 = .ok (.goto (-21), 3) := by decide +kernel
theorem dX6_settles_26 : decode cX6_settles 26 = .ok (.return_, 1) := by decide +kernel
theorem dX6_place_0 : decode cX6_place 0 = .ok (.aload_n 0, 1) := by decide +kernel
theorem dX6_place_1 : decode cX6_place 1 = .ok (.getfield 13, 3) := by decide +kernel
theorem dX6_place_4 : decode cX6_place 4 = .ok (.iconst 2, 1) := by decide +kernel
theorem dX6_place_5 : decode cX6_place 5 = .ok (.iload_n 1, 1) := by decide +kernel
theorem dX6_place_6 : decode cX6_place 6 = .ok (.imul, 1) := by decide +kernel
theorem dX6_place_7 : decode cX6_place 7 = .ok (.iconst 1, 1) := by decide +kernel
theorem dX6_place_8 : decode cX6_place 8 = .ok (.iadd, 1) := by decide +kernel
theorem dX6_place_9 : decode cX6_place 9 = .ok (.iaload, 1) := by decide +kernel
theorem dX6_place_10 : decode cX6_place 10 = .ok (.ireturn, 1) := by decide +kernel
theorem dX6_apart_0 : decode cX6_apart 0 = .ok (.aload_n 0, 1) := by decide +kernel
theorem dX6_apart_1 : decode cX6_apart 1 = .ok (.iload_n 1, 1) := by decide +kernel
theorem dX6_apart_2 : decode cX6_apart 2 = .ok (.invokevirtual 156, 3) := by decide +kernel
theorem dX6_apart_5 : decode cX6_apart 5 = .ok (.aload_n 0, 1) := by decide +kernel
theorem dX6_apart_6 : decode cX6_apart 6 = .ok (.iload_n 2, 1) := by decide +kernel
theorem dX6_apart_7 : decode cX6_apart 7 = .ok (.invokevirtual 156, 3) := by decide +kernel
theorem dX6_apart_10 : decode cX6_apart 10 = .ok (.isub, 1) := by decide +kernel
theorem dX6_apart_11 : decode cX6_apart 11 = .ok (.invokestatic 159, 3) := by decide +kernel
theorem dX6_apart_14 : decode cX6_apart 14 = .ok (.ireturn, 1) := by decide +kernel
theorem dX6_spread_0 : decode cX6_spread 0 = .ok (.iconst 0, 1) := by decide +kernel
theorem dX6_spread_1 : decode cX6_spread 1 = .ok (.istore_n 1, 1) := by decide +kernel
theorem dX6_spread_2 : decode cX6_spread 2 = .ok (.iconst 0, 1) := by decide +kernel
theorem dX6_spread_3 : decode cX6_spread 3 = .ok (.istore_n 2, 1) := by decide +kernel
theorem dX6_spread_4 : decode cX6_spread 4 = .ok (.iload_n 2, 1) := by decide +kernel
theorem dX6_spread_5 : decode cX6_spread 5 = .ok (.aload_n 0, 1) := by decide +kernel
theorem dX6_spread_6 : decode cX6_spread 6 = .ok (.getfield 64, 3) := by decide +kernel
theorem dX6_spread_9 : decode cX6_spread 9 = .ok (.if_icmp .ge 43, 3) := by decide +kernel
theorem dX6_spread_12 : decode cX6_spread 12 = .ok (.iconst 0, 1) := by decide +kernel
theorem dX6_spread_13 : decode cX6_spread 13 = .ok (.istore_n 3, 1) := by decide +kernel
theorem dX6_spread_14 : decode cX6_spread 14 = .ok (.iload_n 3, 1) := by decide +kernel
theorem dX6_spread_15 : decode cX6_spread 15 = .ok (.iload_n 2, 1) := by decide +kernel
theorem dX6_spread_16 : decode cX6_spread 16 = .ok (.if_icmp .ge 30, 3) := by decide +kernel
theorem dX6_spread_19 : decode cX6_spread 19 = .ok (.aload_n 0, 1) := by decide +kernel
theorem dX6_spread_20 : decode cX6_spread 20 = .ok (.iload_n 2, 1) := by decide +kernel
theorem dX6_spread_21 : decode cX6_spread 21 = .ok (.iload_n 3, 1) := by decide +kernel
theorem dX6_spread_22 : decode cX6_spread 22 = .ok (.invokevirtual 162, 3) := by decide +kernel
theorem dX6_spread_25 : decode cX6_spread 25 = .ok (.iload_n 1, 1) := by decide +kernel
theorem dX6_spread_26 : decode cX6_spread 26 = .ok (.if_icmp .le 12, 3) := by decide +kernel
theorem dX6_spread_29 : decode cX6_spread 29 = .ok (.aload_n 0, 1) := by decide +kernel
theorem dX6_spread_30 : decode cX6_spread 30 = .ok (.iload_n 2, 1) := by decide +kernel
theorem dX6_spread_31 : decode cX6_spread 31 = .ok (.iload_n 3, 1) := by decide +kernel
theorem dX6_spread_32 : decode cX6_spread 32 = .ok (.invokevirtual 162, 3) := by decide +kernel
theorem dX6_spread_35 : decode cX6_spread 35 = .ok (.goto 4, 3) := by decide +kernel
theorem dX6_spread_38 : decode cX6_spread 38 = .ok (.iload_n 1, 1) := by decide +kernel
theorem dX6_spread_39 : decode cX6_spread 39 = .ok (.istore_n 1, 1) := by decide +kernel
theorem dX6_spread_40 : decode cX6_spread 40 = .ok (.iinc 3 1, 3) := by decide +kernel
theorem dX6_spread_43 : decode cX6_spread 43 = .ok (.goto (-29), 3) := by decide +kernel
theorem dX6_spread_46 : decode cX6_spread 46 = .ok (.iinc 2 1, 3) := by decide +kernel
theorem dX6_spread_49 : decode cX6_spread 49 = .ok (.goto (-45), 3) := by decide +kernel
theorem dX6_spread_52 : decode cX6_spread 52 = .ok (.iload_n 1, 1) := by decide +kernel
theorem dX6_spread_53 : decode cX6_spread 53 = .ok (.ireturn, 1) := by decide +kernel
theorem dX6_sulkOf_0 : decode cX6_sulkOf 0 = .ok (.iconst 0, 1) := by decide +kernel
theorem dX6_sulkOf_1 : decode cX6_sulkOf 1 = .ok (.istore_n 2, 1) := by decide +kernel
theorem dX6_sulkOf_2 : decode cX6_sulkOf 2 = .ok (.iconst 0, 1) := by decide +kernel
theorem dX6_sulkOf_3 : decode cX6_sulkOf 3 = .ok (.istore_n 3, 1) := by decide +kernel
theorem dX6_sulkOf_4 : decode cX6_sulkOf 4 = .ok (.iload_n 3, 1) := by decide +kernel
theorem dX6_sulkOf_5 : decode cX6_sulkOf 5 = .ok (.aload_n 0, 1) := by decide +kernel
theorem dX6_sulkOf_6 : decode cX6_sulkOf 6 = .ok (.getfield 64, 3) := by decide +kernel
theorem dX6_sulkOf_9 : decode cX6_sulkOf 9 = .ok (.if_icmp .ge 57, 3) := by decide +kernel
theorem dX6_sulkOf_12 : decode cX6_sulkOf 12 = .ok (.aload_n 0, 1) := by decide +kernel
theorem dX6_sulkOf_13 : decode cX6_sulkOf 13 = .ok (.getfield 13, 3) := by decide +kernel
theorem dX6_sulkOf_16 : decode cX6_sulkOf 16 = .ok (.bipush 10, 2) := by decide +kernel
theorem dX6_sulkOf_18 : decode cX6_sulkOf 18 = .ok (.iconst 5, 1) := by decide +kernel
theorem dX6_sulkOf_19 : decode cX6_sulkOf 19 = .ok (.iload_n 1, 1) := by decide +kernel
theorem dX6_sulkOf_20 : decode cX6_sulkOf 20 = .ok (.imul, 1) := by decide +kernel
theorem dX6_sulkOf_21 : decode cX6_sulkOf 21 = .ok (.iadd, 1) := by decide +kernel
theorem dX6_sulkOf_22 : decode cX6_sulkOf 22 = .ok (.iload_n 3, 1) := by decide +kernel
theorem dX6_sulkOf_23 : decode cX6_sulkOf 23 = .ok (.iadd, 1) := by decide +kernel
theorem dX6_sulkOf_24 : decode cX6_sulkOf 24 = .ok (.iaload, 1) := by decide +kernel
theorem dX6_sulkOf_25 : decode cX6_sulkOf 25 = .ok (.istore 4, 2) := by decide +kernel
theorem dX6_sulkOf_27 : decode cX6_sulkOf 27 = .ok (.iload_n 2, 1) := by decide +kernel
theorem dX6_sulkOf_28 : decode cX6_sulkOf 28 = .ok (.iload_n 3, 1) := by decide +kernel
theorem dX6_sulkOf_29 : decode cX6_sulkOf 29 = .ok (.iload_n 1, 1) := by decide +kernel
theorem dX6_sulkOf_30 : decode cX6_sulkOf 30 = .ok (.if_icmp .ne 7, 3) := by decide +kernel
theorem dX6_sulkOf_33 : decode cX6_sulkOf 33 = .ok (.iconst 0, 1) := by decide +kernel
theorem dX6_sulkOf_34 : decode cX6_sulkOf 34 = .ok (.goto 24, 3) := by decide +kernel
theorem dX6_sulkOf_37 : decode cX6_sulkOf 37 = .ok (.aload_n 0, 1) := by decide +kernel
theorem dX6_sulkOf_38 : decode cX6_sulkOf 38 = .ok (.iload_n 1, 1) := by decide +kernel
theorem dX6_sulkOf_39 : decode cX6_sulkOf 39 = .ok (.invokevirtual 156, 3) := by decide +kernel
theorem dX6_sulkOf_42 : decode cX6_sulkOf 42 = .ok (.aload_n 0, 1) := by decide +kernel
theorem dX6_sulkOf_43 : decode cX6_sulkOf 43 = .ok (.iload_n 3, 1) := by decide +kernel
theorem dX6_sulkOf_44 : decode cX6_sulkOf 44 = .ok (.invokevirtual 156, 3) := by decide +kernel
theorem dX6_sulkOf_47 : decode cX6_sulkOf 47 = .ok (.if_icmp .le 8, 3) := by decide +kernel
theorem dX6_sulkOf_50 : decode cX6_sulkOf 50 = .ok (.iload 4, 2) := by decide +kernel
theorem dX6_sulkOf_52 : decode cX6_sulkOf 52 = .ok (.goto 6, 3) := by decide +kernel
theorem dX6_sulkOf_55 : decode cX6_sulkOf 55 = .ok (.iload 4, 2) := by decide +kernel
theorem dX6_sulkOf_57 : decode cX6_sulkOf 57 = .ok (.ineg, 1) := by decide +kernel
theorem dX6_sulkOf_58 : decode cX6_sulkOf 58 = .ok (.iadd, 1) := by decide +kernel
theorem dX6_sulkOf_59 : decode cX6_sulkOf 59 = .ok (.istore_n 2, 1) := by decide +kernel
theorem dX6_sulkOf_60 : decode cX6_sulkOf 60 = .ok (.iinc 3 1, 3) := by decide +kernel
theorem dX6_sulkOf_63 : decode cX6_sulkOf 63 = .ok (.goto (-59), 3) := by decide +kernel
theorem dX6_sulkOf_66 : decode cX6_sulkOf 66 = .ok (.iload_n 2, 1) := by decide +kernel
theorem dX6_sulkOf_67 : decode cX6_sulkOf 67 = .ok (.ireturn, 1) := by decide +kernel
theorem dX6_driftOf_0 : decode cX6_driftOf 0 = .ok (.aload_n 0, 1) := by decide +kernel
theorem dX6_driftOf_1 : decode cX6_driftOf 1 = .ok (.iload_n 1, 1) := by decide +kernel
theorem dX6_driftOf_2 : decode cX6_driftOf 2 = .ok (.invokevirtual 165, 3) := by decide +kernel
theorem dX6_driftOf_5 : decode cX6_driftOf 5 = .ok (.istore_n 2, 1) := by decide +kernel
theorem dX6_driftOf_6 : decode cX6_driftOf 6 = .ok (.iconst 2, 1) := by decide +kernel
theorem dX6_driftOf_7 : decode cX6_driftOf 7 = .ok (.iload_n 2, 1) := by decide +kernel
theorem dX6_driftOf_8 : decode cX6_driftOf 8 = .ok (.imul, 1) := by decide +kernel
theorem dX6_driftOf_9 : decode cX6_driftOf 9 = .ok (.istore_n 3, 1) := by decide +kernel
theorem dX6_driftOf_10 : decode cX6_driftOf 10 = .ok (.aload_n 0, 1) := by decide +kernel
theorem dX6_driftOf_11 : decode cX6_driftOf 11 = .ok (.getfield 13, 3) := by decide +kernel
theorem dX6_driftOf_14 : decode cX6_driftOf 14 = .ok (.iconst 2, 1) := by decide +kernel
theorem dX6_driftOf_15 : decode cX6_driftOf 15 = .ok (.iload_n 1, 1) := by decide +kernel
theorem dX6_driftOf_16 : decode cX6_driftOf 16 = .ok (.imul, 1) := by decide +kernel
theorem dX6_driftOf_17 : decode cX6_driftOf 17 = .ok (.iconst 0, 1) := by decide +kernel
theorem dX6_driftOf_18 : decode cX6_driftOf 18 = .ok (.iadd, 1) := by decide +kernel
theorem dX6_driftOf_19 : decode cX6_driftOf 19 = .ok (.iaload, 1) := by decide +kernel
theorem dX6_driftOf_20 : decode cX6_driftOf 20 = .ok (.tableswitch 68 1 3 #[28, 30, 46], 28) := by decide +kernel
theorem dX6_driftOf_48 : decode cX6_driftOf 48 = .ok (.iload_n 3, 1) := by decide +kernel
theorem dX6_driftOf_49 : decode cX6_driftOf 49 = .ok (.ireturn, 1) := by decide +kernel
theorem dX6_driftOf_50 : decode cX6_driftOf 50 = .ok (.iload_n 2, 1) := by decide +kernel
theorem dX6_driftOf_51 : decode cX6_driftOf 51 = .ok (.ifCond .ge 11, 3) := by decide +kernel
theorem dX6_driftOf_54 : decode cX6_driftOf 54 = .ok (.iload_n 2, 1) := by decide +kernel
theorem dX6_driftOf_55 : decode cX6_driftOf 55 = .ok (.ineg, 1) := by decide +kernel
theorem dX6_driftOf_56 : decode cX6_driftOf 56 = .ok (.iconst 2, 1) := by decide +kernel
theorem dX6_driftOf_57 : decode cX6_driftOf 57 = .ok (.idiv, 1) := by decide +kernel
theorem dX6_driftOf_58 : decode cX6_driftOf 58 = .ok (.ineg, 1) := by decide +kernel
theorem dX6_driftOf_59 : decode cX6_driftOf 59 = .ok (.goto 6, 3) := by decide +kernel
theorem dX6_driftOf_62 : decode cX6_driftOf 62 = .ok (.iload_n 2, 1) := by decide +kernel
theorem dX6_driftOf_63 : decode cX6_driftOf 63 = .ok (.iconst 2, 1) := by decide +kernel
theorem dX6_driftOf_64 : decode cX6_driftOf 64 = .ok (.idiv, 1) := by decide +kernel
theorem dX6_driftOf_65 : decode cX6_driftOf 65 = .ok (.ireturn, 1) := by decide +kernel
theorem dX6_driftOf_66 : decode cX6_driftOf 66 = .ok (.iload_n 3, 1) := by decide +kernel
theorem dX6_driftOf_67 : decode cX6_driftOf 67 = .ok (.ifCond .le 9, 3) := by decide +kernel
theorem dX6_driftOf_70 : decode cX6_driftOf 70 = .ok (.iload_n 3, 1) := by decide +kernel
theorem dX6_driftOf_71 : decode cX6_driftOf 71 = .ok (.iconst 1, 1) := by decide +kernel
theorem dX6_driftOf_72 : decode cX6_driftOf 72 = .ok (.isub, 1) := by decide +kernel
theorem dX6_driftOf_73 : decode cX6_driftOf 73 = .ok (.goto 14, 3) := by decide +kernel
theorem dX6_driftOf_76 : decode cX6_driftOf 76 = .ok (.iload_n 3, 1) := by decide +kernel
theorem dX6_driftOf_77 : decode cX6_driftOf 77 = .ok (.ifCond .ge 9, 3) := by decide +kernel
theorem dX6_driftOf_80 : decode cX6_driftOf 80 = .ok (.iload_n 3, 1) := by decide +kernel
theorem dX6_driftOf_81 : decode cX6_driftOf 81 = .ok (.iconst 1, 1) := by decide +kernel
theorem dX6_driftOf_82 : decode cX6_driftOf 82 = .ok (.iadd, 1) := by decide +kernel
theorem dX6_driftOf_83 : decode cX6_driftOf 83 = .ok (.goto 4, 3) := by decide +kernel
theorem dX6_driftOf_86 : decode cX6_driftOf 86 = .ok (.iconst 0, 1) := by decide +kernel
theorem dX6_driftOf_87 : decode cX6_driftOf 87 = .ok (.ireturn, 1) := by decide +kernel
theorem dX6_driftOf_88 : decode cX6_driftOf 88 = .ok (.iload_n 2, 1) := by decide +kernel
theorem dX6_driftOf_89 : decode cX6_driftOf 89 = .ok (.ireturn, 1) := by decide +kernel
theorem dX6_isHeld_0 : decode cX6_isHeld 0 = .ok (.iconst 0, 1) := by decide +kernel
theorem dX6_isHeld_1 : decode cX6_isHeld 1 = .ok (.istore_n 3, 1) := by decide +kernel
theorem dX6_isHeld_2 : decode cX6_isHeld 2 = .ok (.iconst 0, 1) := by decide +kernel
theorem dX6_isHeld_3 : decode cX6_isHeld 3 = .ok (.istore 4, 2) := by decide +kernel
theorem dX6_isHeld_5 : decode cX6_isHeld 5 = .ok (.iload 4, 2) := by decide +kernel
theorem dX6_isHeld_7 : decode cX6_isHeld 7 = .ok (.aload_n 0, 1) := by decide +kernel
theorem dX6_isHeld_8 : decode cX6_isHeld 8 = .ok (.getfield 13, 3) := by decide +kernel
theorem dX6_isHeld_11 : decode cX6_isHeld 11 = .ok (.bipush 53, 2) := by decide +kernel
theorem dX6_isHeld_13 : decode cX6_isHeld 13 = .ok (.iaload, 1) := by decide +kernel
theorem dX6_isHeld_14 : decode cX6_isHeld 14 = .ok (.if_icmp .ge 124, 3) := by decide +kernel
theorem dX6_isHeld_17 : decode cX6_isHeld 17 = .ok (.bipush 35, 2) := by decide +kernel
theorem dX6_isHeld_19 : decode cX6_isHeld 19 = .ok (.iconst 3, 1) := by decide +kernel
theorem dX6_isHeld_20 : decode cX6_isHeld 20 = .ok (.iload 4, 2) := by decide +kernel
theorem dX6_isHeld_22 : decode cX6_isHeld 22 = .ok (.imul, 1) := by decide +kernel
theorem dX6_isHeld_23 : decode cX6_isHeld 23 = .ok (.iadd, 1) := by decide +kernel
theorem dX6_isHeld_24 : decode cX6_isHeld 24 = .ok (.istore 5, 2) := by decide +kernel
theorem dX6_isHeld_26 : decode cX6_isHeld 26 = .ok (.aload_n 0, 1) := by decide +kernel
theorem dX6_isHeld_27 : decode cX6_isHeld 27 = .ok (.getfield 13, 3) := by decide +kernel
theorem dX6_isHeld_30 : decode cX6_isHeld 30 = .ok (.iload 5, 2) := by decide +kernel
theorem dX6_isHeld_32 : decode cX6_isHeld 32 = .ok (.iaload, 1) := by decide +kernel
theorem dX6_isHeld_33 : decode cX6_isHeld 33 = .ok (.iload_n 1, 1) := by decide +kernel
theorem dX6_isHeld_34 : decode cX6_isHeld 34 = .ok (.if_icmp .ne 15, 3) := by decide +kernel
theorem dX6_isHeld_37 : decode cX6_isHeld 37 = .ok (.aload_n 0, 1) := by decide +kernel
theorem dX6_isHeld_38 : decode cX6_isHeld 38 = .ok (.getfield 13, 3) := by decide +kernel
theorem dX6_isHeld_41 : decode cX6_isHeld 41 = .ok (.iload 5, 2) := by decide +kernel
theorem dX6_isHeld_43 : decode cX6_isHeld 43 = .ok (.iconst 1, 1) := by decide +kernel
theorem dX6_isHeld_44 : decode cX6_isHeld 44 = .ok (.iadd, 1) := by decide +kernel
theorem dX6_isHeld_45 : decode cX6_isHeld 45 = .ok (.iaload, 1) := by decide +kernel
theorem dX6_isHeld_46 : decode cX6_isHeld 46 = .ok (.goto 28, 3) := by decide +kernel
theorem dX6_isHeld_49 : decode cX6_isHeld 49 = .ok (.aload_n 0, 1) := by decide +kernel
theorem dX6_isHeld_50 : decode cX6_isHeld 50 = .ok (.getfield 13, 3) := by decide +kernel
theorem dX6_isHeld_53 : decode cX6_isHeld 53 = .ok (.iload 5, 2) := by decide +kernel
theorem dX6_isHeld_55 : decode cX6_isHeld 55 = .ok (.iconst 1, 1) := by decide +kernel
theorem dX6_isHeld_56 : decode cX6_isHeld 56 = .ok (.iadd, 1) := by decide +kernel
theorem dX6_isHeld_57 : decode cX6_isHeld 57 = .ok (.iaload, 1) := by decide +kernel
theorem dX6_isHeld_58 : decode cX6_isHeld 58 = .ok (.iload_n 1, 1) := by decide +kernel
theorem dX6_isHeld_59 : decode cX6_isHeld 59 = .ok (.if_icmp .ne 13, 3) := by decide +kernel
theorem dX6_isHeld_62 : decode cX6_isHeld 62 = .ok (.aload_n 0, 1) := by decide +kernel
theorem dX6_isHeld_63 : decode cX6_isHeld 63 = .ok (.getfield 13, 3) := by decide +kernel
theorem dX6_isHeld_66 : decode cX6_isHeld 66 = .ok (.iload 5, 2) := by decide +kernel
theorem dX6_isHeld_68 : decode cX6_isHeld 68 = .ok (.iaload, 1) := by decide +kernel
theorem dX6_isHeld_69 : decode cX6_isHeld 69 = .ok (.goto 5, 3) := by decide +kernel
theorem dX6_isHeld_72 : decode cX6_isHeld 72 = .ok (.bipush (-4), 2) := by decide +kernel
theorem dX6_isHeld_74 : decode cX6_isHeld 74 = .ok (.istore 6, 2) := by decide +kernel
theorem dX6_isHeld_76 : decode cX6_isHeld 76 = .ok (.iload 6, 2) := by decide +kernel
theorem dX6_isHeld_78 : decode cX6_isHeld 78 = .ok (.bipush (-4), 2) := by decide +kernel
theorem dX6_isHeld_80 : decode cX6_isHeld 80 = .ok (.if_icmp .eq 52, 3) := by decide +kernel
theorem dX6_isHeld_83 : decode cX6_isHeld 83 = .ok (.iload_n 2, 1) := by decide +kernel
theorem dX6_isHeld_84 : decode cX6_isHeld 84 = .ok (.aload_n 0, 1) := by decide +kernel
theorem dX6_isHeld_85 : decode cX6_isHeld 85 = .ok (.iload 6, 2) := by decide +kernel
theorem dX6_isHeld_87 : decode cX6_isHeld 87 = .ok (.invokevirtual 156, 3) := by decide +kernel
theorem dX6_isHeld_90 : decode cX6_isHeld 90 = .ok (.isub, 1) := by decide +kernel
theorem dX6_isHeld_91 : decode cX6_isHeld 91 = .ok (.invokestatic 159, 3) := by decide +kernel
theorem dX6_isHeld_94 : decode cX6_isHeld 94 = .ok (.istore 7, 2) := by decide +kernel
theorem dX6_isHeld_96 : decode cX6_isHeld 96 = .ok (.iload_n 3, 1) := by decide +kernel
theorem dX6_isHeld_97 : decode cX6_isHeld 97 = .ok (.ifCond .ne 29, 3) := by decide +kernel
theorem dX6_isHeld_100 : decode cX6_isHeld 100 = .ok (.iload 7, 2) := by decide +kernel
theorem dX6_isHeld_102 : decode cX6_isHeld 102 = .ok (.aload_n 0, 1) := by decide +kernel
theorem dX6_isHeld_103 : decode cX6_isHeld 103 = .ok (.getfield 13, 3) := by decide +kernel
theorem dX6_isHeld_106 : decode cX6_isHeld 106 = .ok (.iload 5, 2) := by decide +kernel
theorem dX6_isHeld_108 : decode cX6_isHeld 108 = .ok (.iconst 2, 1) := by decide +kernel
theorem dX6_isHeld_109 : decode cX6_isHeld 109 = .ok (.iadd, 1) := by decide +kernel
theorem dX6_isHeld_110 : decode cX6_isHeld 110 = .ok (.iaload, 1) := by decide +kernel
theorem dX6_isHeld_111 : decode cX6_isHeld 111 = .ok (.if_icmp .le 19, 3) := by decide +kernel
theorem dX6_isHeld_114 : decode cX6_isHeld 114 = .ok (.iload 7, 2) := by decide +kernel
theorem dX6_isHeld_116 : decode cX6_isHeld 116 = .ok (.aload_n 0, 1) := by decide +kernel
theorem dX6_isHeld_117 : decode cX6_isHeld 117 = .ok (.iload_n 1, 1) := by decide +kernel
theorem dX6_isHeld_118 : decode cX6_isHeld 118 = .ok (.iload 6, 2) := by decide +kernel
theorem dX6_isHeld_120 : decode cX6_isHeld 120 = .ok (.invokevirtual 162, 3) := by decide +kernel
theorem dX6_isHeld_123 : decode cX6_isHeld 123 = .ok (.if_icmp .le 7, 3) := by decide +kernel
theorem dX6_isHeld_126 : decode cX6_isHeld 126 = .ok (.iconst 1, 1) := by decide +kernel
theorem dX6_isHeld_127 : decode cX6_isHeld 127 = .ok (.goto 4, 3) := by decide +kernel
theorem dX6_isHeld_130 : decode cX6_isHeld 130 = .ok (.iconst 0, 1) := by decide +kernel
theorem dX6_isHeld_131 : decode cX6_isHeld 131 = .ok (.istore_n 3, 1) := by decide +kernel
theorem dX6_isHeld_132 : decode cX6_isHeld 132 = .ok (.iinc 4 1, 3) := by decide +kernel
theorem dX6_isHeld_135 : decode cX6_isHeld 135 = .ok (.goto (-130), 3) := by decide +kernel
theorem dX6_isHeld_138 : decode cX6_isHeld 138 = .ok (.iload_n 3, 1) := by decide +kernel
theorem dX6_isHeld_139 : decode cX6_isHeld 139 = .ok (.ireturn, 1) := by decide +kernel
theorem dX6_isTaken_0 : decode cX6_isTaken 0 = .ok (.iconst 0, 1) := by decide +kernel
theorem dX6_isTaken_1 : decode cX6_isTaken 1 = .ok (.istore_n 2, 1) := by decide +kernel
theorem dX6_isTaken_2 : decode cX6_isTaken 2 = .ok (.iconst 0, 1) := by decide +kernel
theorem dX6_isTaken_3 : decode cX6_isTaken 3 = .ok (.istore_n 3, 1) := by decide +kernel
theorem dX6_isTaken_4 : decode cX6_isTaken 4 = .ok (.iload_n 3, 1) := by decide +kernel
theorem dX6_isTaken_5 : decode cX6_isTaken 5 = .ok (.aload_n 0, 1) := by decide +kernel
theorem dX6_isTaken_6 : decode cX6_isTaken 6 = .ok (.getfield 64, 3) := by decide +kernel
theorem dX6_isTaken_9 : decode cX6_isTaken 9 = .ok (.if_icmp .ge 28, 3) := by decide +kernel
theorem dX6_isTaken_12 : decode cX6_isTaken 12 = .ok (.iload_n 2, 1) := by decide +kernel
theorem dX6_isTaken_13 : decode cX6_isTaken 13 = .ok (.ifCond .ne 12, 3) := by decide +kernel
theorem dX6_isTaken_16 : decode cX6_isTaken 16 = .ok (.aload_n 0, 1) := by decide +kernel
theorem dX6_isTaken_17 : decode cX6_isTaken 17 = .ok (.iload_n 3, 1) := by decide +kernel
theorem dX6_isTaken_18 : decode cX6_isTaken 18 = .ok (.invokevirtual 156, 3) := by decide +kernel
theorem dX6_isTaken_21 : decode cX6_isTaken 21 = .ok (.iload_n 1, 1) := by decide +kernel
theorem dX6_isTaken_22 : decode cX6_isTaken 22 = .ok (.if_icmp .ne 7, 3) := by decide +kernel
theorem dX6_isTaken_25 : decode cX6_isTaken 25 = .ok (.iconst 1, 1) := by decide +kernel
theorem dX6_isTaken_26 : decode cX6_isTaken 26 = .ok (.goto 4, 3) := by decide +kernel
theorem dX6_isTaken_29 : decode cX6_isTaken 29 = .ok (.iconst 0, 1) := by decide +kernel
theorem dX6_isTaken_30 : decode cX6_isTaken 30 = .ok (.istore_n 2, 1) := by decide +kernel
theorem dX6_isTaken_31 : decode cX6_isTaken 31 = .ok (.iinc 3 1, 3) := by decide +kernel
theorem dX6_isTaken_34 : decode cX6_isTaken 34 = .ok (.goto (-30), 3) := by decide +kernel
theorem dX6_isTaken_37 : decode cX6_isTaken 37 = .ok (.iload_n 2, 1) := by decide +kernel
theorem dX6_isTaken_38 : decode cX6_isTaken 38 = .ok (.ireturn, 1) := by decide +kernel
theorem dX6_nearest_0 : decode cX6_nearest 0 = .ok (.bipush (-4), 2) := by decide +kernel
theorem dX6_nearest_2 : decode cX6_nearest 2 = .ok (.istore_n 2, 1) := by decide +kernel
theorem dX6_nearest_3 : decode cX6_nearest 3 = .ok (.iconst 0, 1) := by decide +kernel
theorem dX6_nearest_4 : decode cX6_nearest 4 = .ok (.istore_n 3, 1) := by decide +kernel
theorem dX6_nearest_5 : decode cX6_nearest 5 = .ok (.iload_n 3, 1) := by decide +kernel
theorem dX6_nearest_6 : decode cX6_nearest 6 = .ok (.aload_n 0, 1) := by decide +kernel
theorem dX6_nearest_7 : decode cX6_nearest 7 = .ok (.getfield 64, 3) := by decide +kernel
theorem dX6_nearest_10 : decode cX6_nearest 10 = .ok (.if_icmp .ge 41, 3) := by decide +kernel
theorem dX6_nearest_13 : decode cX6_nearest 13 = .ok (.iload_n 3, 1) := by decide +kernel
theorem dX6_nearest_14 : decode cX6_nearest 14 = .ok (.iload_n 1, 1) := by decide +kernel
theorem dX6_nearest_15 : decode cX6_nearest 15 = .ok (.if_icmp .eq 28, 3) := by decide +kernel
theorem dX6_nearest_18 : decode cX6_nearest 18 = .ok (.iload_n 2, 1) := by decide +kernel
theorem dX6_nearest_19 : decode cX6_nearest 19 = .ok (.bipush (-4), 2) := by decide +kernel
theorem dX6_nearest_21 : decode cX6_nearest 21 = .ok (.if_icmp .eq 18, 3) := by decide +kernel
theorem dX6_nearest_24 : decode cX6_nearest 24 = .ok (.aload_n 0, 1) := by decide +kernel
theorem dX6_nearest_25 : decode cX6_nearest 25 = .ok (.iload_n 1, 1) := by decide +kernel
theorem dX6_nearest_26 : decode cX6_nearest 26 = .ok (.iload_n 3, 1) := by decide +kernel
theorem dX6_nearest_27 : decode cX6_nearest 27 = .ok (.invokevirtual 162, 3) := by decide +kernel
theorem dX6_nearest_30 : decode cX6_nearest 30 = .ok (.aload_n 0, 1) := by decide +kernel
theorem dX6_nearest_31 : decode cX6_nearest 31 = .ok (.iload_n 1, 1) := by decide +kernel
theorem dX6_nearest_32 : decode cX6_nearest 32 = .ok (.iload_n 2, 1) := by decide +kernel
theorem dX6_nearest_33 : decode cX6_nearest 33 = .ok (.invokevirtual 162, 3) := by decide +kernel
theorem dX6_nearest_36 : decode cX6_nearest 36 = .ok (.if_icmp .ge 7, 3) := by decide +kernel
theorem dX6_nearest_39 : decode cX6_nearest 39 = .ok (.iload_n 3, 1) := by decide +kernel
theorem dX6_nearest_40 : decode cX6_nearest 40 = .ok (.goto 4, 3) := by decide +kernel
theorem dX6_nearest_43 : decode cX6_nearest 43 = .ok (.iload_n 2, 1) := by decide +kernel
theorem dX6_nearest_44 : decode cX6_nearest 44 = .ok (.istore_n 2, 1) := by decide +kernel
theorem dX6_nearest_45 : decode cX6_nearest 45 = .ok (.iinc 3 1, 3) := by decide +kernel
theorem dX6_nearest_48 : decode cX6_nearest 48 = .ok (.goto (-43), 3) := by decide +kernel
theorem dX6_nearest_51 : decode cX6_nearest 51 = .ok (.iload_n 2, 1) := by decide +kernel
theorem dX6_nearest_52 : decode cX6_nearest 52 = .ok (.ireturn, 1) := by decide +kernel
theorem dX6_drifts_0 : decode cX6_drifts 0 = .ok (.aload_n 0, 1) := by decide +kernel
theorem dX6_drifts_1 : decode cX6_drifts 1 = .ok (.iload_n 1, 1) := by decide +kernel
theorem dX6_drifts_2 : decode cX6_drifts 2 = .ok (.invokevirtual 168, 3) := by decide +kernel
theorem dX6_drifts_5 : decode cX6_drifts 5 = .ok (.istore_n 2, 1) := by decide +kernel
theorem dX6_drifts_6 : decode cX6_drifts 6 = .ok (.iload_n 2, 1) := by decide +kernel
theorem dX6_drifts_7 : decode cX6_drifts 7 = .ok (.ifCond .ge 7, 3) := by decide +kernel
theorem dX6_drifts_10 : decode cX6_drifts 10 = .ok (.iconst (-1), 1) := by decide +kernel
theorem dX6_drifts_11 : decode cX6_drifts 11 = .ok (.goto 4, 3) := by decide +kernel
theorem dX6_drifts_14 : decode cX6_drifts 14 = .ok (.iconst 1, 1) := by decide +kernel
theorem dX6_drifts_15 : decode cX6_drifts 15 = .ok (.istore_n 3, 1) := by decide +kernel
theorem dX6_drifts_16 : decode cX6_drifts 16 = .ok (.iconst 0, 1) := by decide +kernel
theorem dX6_drifts_17 : decode cX6_drifts 17 = .ok (.istore 4, 2) := by decide +kernel
theorem dX6_drifts_19 : decode cX6_drifts 19 = .ok (.iconst 0, 1) := by decide +kernel
theorem dX6_drifts_20 : decode cX6_drifts 20 = .ok (.istore 5, 2) := by decide +kernel
theorem dX6_drifts_22 : decode cX6_drifts 22 = .ok (.iload 5, 2) := by decide +kernel
theorem dX6_drifts_24 : decode cX6_drifts 24 = .ok (.iload_n 2, 1) := by decide +kernel
theorem dX6_drifts_25 : decode cX6_drifts 25 = .ok (.invokestatic 159, 3) := by decide +kernel
theorem dX6_drifts_28 : decode cX6_drifts 28 = .ok (.if_icmp .ge 99, 3) := by decide +kernel
theorem dX6_drifts_31 : decode cX6_drifts 31 = .ok (.iload 4, 2) := by decide +kernel
theorem dX6_drifts_33 : decode cX6_drifts 33 = .ok (.ifCond .ne 94, 3) := by decide +kernel
theorem dX6_drifts_36 : decode cX6_drifts 36 = .ok (.aload_n 0, 1) := by decide +kernel
theorem dX6_drifts_37 : decode cX6_drifts 37 = .ok (.iload_n 1, 1) := by decide +kernel
theorem dX6_drifts_38 : decode cX6_drifts 38 = .ok (.invokevirtual 156, 3) := by decide +kernel
theorem dX6_drifts_41 : decode cX6_drifts 41 = .ok (.iload_n 3, 1) := by decide +kernel
theorem dX6_drifts_42 : decode cX6_drifts 42 = .ok (.iadd, 1) := by decide +kernel
theorem dX6_drifts_43 : decode cX6_drifts 43 = .ok (.istore 6, 2) := by decide +kernel
theorem dX6_drifts_45 : decode cX6_drifts 45 = .ok (.iload 6, 2) := by decide +kernel
theorem dX6_drifts_47 : decode cX6_drifts 47 = .ok (.invokestatic 171, 3) := by decide +kernel
theorem dX6_drifts_50 : decode cX6_drifts 50 = .ok (.ifCond .eq 13, 3) := by decide +kernel
theorem dX6_drifts_53 : decode cX6_drifts 53 = .ok (.aload_n 0, 1) := by decide +kernel
theorem dX6_drifts_54 : decode cX6_drifts 54 = .ok (.iload_n 1, 1) := by decide +kernel
theorem dX6_drifts_55 : decode cX6_drifts 55 = .ok (.iload 6, 2) := by decide +kernel
theorem dX6_drifts_57 : decode cX6_drifts 57 = .ok (.invokevirtual 174, 3) := by decide +kernel
theorem dX6_drifts_60 : decode cX6_drifts 60 = .ok (.ifCond .eq 7, 3) := by decide +kernel
theorem dX6_drifts_63 : decode cX6_drifts 63 = .ok (.iconst 1, 1) := by decide +kernel
theorem dX6_drifts_64 : decode cX6_drifts 64 = .ok (.goto 4, 3) := by decide +kernel
theorem dX6_drifts_67 : decode cX6_drifts 67 = .ok (.iconst 0, 1) := by decide +kernel
theorem dX6_drifts_68 : decode cX6_drifts 68 = .ok (.istore 4, 2) := by decide +kernel
theorem dX6_drifts_70 : decode cX6_drifts 70 = .ok (.iload 4, 2) := by decide +kernel
theorem dX6_drifts_72 : decode cX6_drifts 72 = .ok (.ifCond .ne 26, 3) := by decide +kernel
theorem dX6_drifts_75 : decode cX6_drifts 75 = .ok (.aload_n 0, 1) := by decide +kernel
theorem dX6_drifts_76 : decode cX6_drifts 76 = .ok (.iload 6, 2) := by decide +kernel
theorem dX6_drifts_78 : decode cX6_drifts 78 = .ok (.invokevirtual 178, 3) := by decide +kernel
theorem dX6_drifts_81 : decode cX6_drifts 81 = .ok (.ifCond .eq 17, 3) := by decide +kernel
theorem dX6_drifts_84 : decode cX6_drifts 84 = .ok (.iconst 1, 1) := by decide +kernel
theorem dX6_drifts_85 : decode cX6_drifts 85 = .ok (.istore 4, 2) := by decide +kernel
theorem dX6_drifts_87 : decode cX6_drifts 87 = .ok (.aload_n 0, 1) := by decide +kernel
theorem dX6_drifts_88 : decode cX6_drifts 88 = .ok (.getfield 13, 3) := by decide +kernel
theorem dX6_drifts_91 : decode cX6_drifts 91 = .ok (.bipush 56, 2) := by decide +kernel
theorem dX6_drifts_93 : decode cX6_drifts 93 = .ok (.dup2, 1) := by decide +kernel
theorem dX6_drifts_94 : decode cX6_drifts 94 = .ok (.iaload, 1) := by decide +kernel
theorem dX6_drifts_95 : decode cX6_drifts 95 = .ok (.iconst 1, 1) := by decide +kernel
theorem dX6_drifts_96 : decode cX6_drifts 96 = .ok (.iadd, 1) := by decide +kernel
theorem dX6_drifts_97 : decode cX6_drifts 97 = .ok (.iastore, 1) := by decide +kernel
theorem dX6_drifts_98 : decode cX6_drifts 98 = .ok (.aload_n 0, 1) := by decide +kernel
theorem dX6_drifts_99 : decode cX6_drifts 99 = .ok (.getfield 13, 3) := by decide +kernel
theorem dX6_drifts_102 : decode cX6_drifts 102 = .ok (.iconst 2, 1) := by decide +kernel
theorem dX6_drifts_103 : decode cX6_drifts 103 = .ok (.iload_n 1, 1) := by decide +kernel
theorem dX6_drifts_104 : decode cX6_drifts 104 = .ok (.imul, 1) := by decide +kernel
theorem dX6_drifts_105 : decode cX6_drifts 105 = .ok (.iconst 1, 1) := by decide +kernel
theorem dX6_drifts_106 : decode cX6_drifts 106 = .ok (.iadd, 1) := by decide +kernel
theorem dX6_drifts_107 : decode cX6_drifts 107 = .ok (.dup2, 1) := by decide +kernel
theorem dX6_drifts_108 : decode cX6_drifts 108 = .ok (.iaload, 1) := by decide +kernel
theorem dX6_drifts_109 : decode cX6_drifts 109 = .ok (.iload 4, 2) := by decide +kernel
theorem dX6_drifts_111 : decode cX6_drifts 111 = .ok (.ifCond .eq 7, 3) := by decide +kernel
theorem dX6_drifts_114 : decode cX6_drifts 114 = .ok (.iconst 0, 1) := by decide +kernel
theorem dX6_drifts_115 : decode cX6_drifts 115 = .ok (.goto 4, 3) := by decide +kernel
theorem dX6_drifts_118 : decode cX6_drifts 118 = .ok (.iload_n 3, 1) := by decide +kernel
theorem dX6_drifts_119 : decode cX6_drifts 119 = .ok (.iadd, 1) := by decide +kernel
theorem dX6_drifts_120 : decode cX6_drifts 120 = .ok (.iastore, 1) := by decide +kernel
theorem dX6_drifts_121 : decode cX6_drifts 121 = .ok (.iinc 5 1, 3) := by decide +kernel
theorem dX6_drifts_124 : decode cX6_drifts 124 = .ok (.goto (-102), 3) := by decide +kernel
theorem dX6_drifts_127 : decode cX6_drifts 127 = .ok (.return_, 1) := by decide +kernel
theorem dX6_feasts_0 : decode cX6_feasts 0 = .ok (.aload_n 0, 1) := by decide +kernel
theorem dX6_feasts_1 : decode cX6_feasts 1 = .ok (.iload_n 1, 1) := by decide +kernel
theorem dX6_feasts_2 : decode cX6_feasts 2 = .ok (.invokevirtual 181, 3) := by decide +kernel
theorem dX6_feasts_5 : decode cX6_feasts 5 = .ok (.istore_n 2, 1) := by decide +kernel
theorem dX6_feasts_6 : decode cX6_feasts 6 = .ok (.iload_n 2, 1) := by decide +kernel
theorem dX6_feasts_7 : decode cX6_feasts 7 = .ok (.bipush (-4), 2) := by decide +kernel
theorem dX6_feasts_9 : decode cX6_feasts 9 = .ok (.if_icmp .eq 66, 3) := by decide +kernel
theorem dX6_feasts_12 : decode cX6_feasts 12 = .ok (.aload_n 0, 1) := by decide +kernel
theorem dX6_feasts_13 : decode cX6_feasts 13 = .ok (.iload_n 1, 1) := by decide +kernel
theorem dX6_feasts_14 : decode cX6_feasts 14 = .ok (.iload_n 2, 1) := by decide +kernel
theorem dX6_feasts_15 : decode cX6_feasts 15 = .ok (.invokevirtual 162, 3) := by decide +kernel
theorem dX6_feasts_18 : decode cX6_feasts 18 = .ok (.iconst 1, 1) := by decide +kernel
theorem dX6_feasts_19 : decode cX6_feasts 19 = .ok (.if_icmp .le 56, 3) := by decide +kernel
theorem dX6_feasts_22 : decode cX6_feasts 22 = .ok (.aload_n 0, 1) := by decide +kernel
theorem dX6_feasts_23 : decode cX6_feasts 23 = .ok (.iload_n 1, 1) := by decide +kernel
theorem dX6_feasts_24 : decode cX6_feasts 24 = .ok (.invokevirtual 156, 3) := by decide +kernel
theorem dX6_feasts_27 : decode cX6_feasts 27 = .ok (.aload_n 0, 1) := by decide +kernel
theorem dX6_feasts_28 : decode cX6_feasts 28 = .ok (.iload_n 2, 1) := by decide +kernel
theorem dX6_feasts_29 : decode cX6_feasts 29 = .ok (.invokevirtual 156, 3) := by decide +kernel
theorem dX6_feasts_32 : decode cX6_feasts 32 = .ok (.aload_n 0, 1) := by decide +kernel
theorem dX6_feasts_33 : decode cX6_feasts 33 = .ok (.iload_n 1, 1) := by decide +kernel
theorem dX6_feasts_34 : decode cX6_feasts 34 = .ok (.invokevirtual 156, 3) := by decide +kernel
theorem dX6_feasts_37 : decode cX6_feasts 37 = .ok (.if_icmp .le 7, 3) := by decide +kernel
theorem dX6_feasts_40 : decode cX6_feasts 40 = .ok (.iconst 1, 1) := by decide +kernel
theorem dX6_feasts_41 : decode cX6_feasts 41 = .ok (.goto 4, 3) := by decide +kernel
theorem dX6_feasts_44 : decode cX6_feasts 44 = .ok (.iconst (-1), 1) := by decide +kernel
theorem dX6_feasts_45 : decode cX6_feasts 45 = .ok (.iadd, 1) := by decide +kernel
theorem dX6_feasts_46 : decode cX6_feasts 46 = .ok (.istore_n 3, 1) := by decide +kernel
theorem dX6_feasts_47 : decode cX6_feasts 47 = .ok (.aload_n 0, 1) := by decide +kernel
theorem dX6_feasts_48 : decode cX6_feasts 48 = .ok (.getfield 13, 3) := by decide +kernel
theorem dX6_feasts_51 : decode cX6_feasts 51 = .ok (.iconst 2, 1) := by decide +kernel
theorem dX6_feasts_52 : decode cX6_feasts 52 = .ok (.iload_n 1, 1) := by decide +kernel
theorem dX6_feasts_53 : decode cX6_feasts 53 = .ok (.imul, 1) := by decide +kernel
theorem dX6_feasts_54 : decode cX6_feasts 54 = .ok (.iconst 1, 1) := by decide +kernel
theorem dX6_feasts_55 : decode cX6_feasts 55 = .ok (.iadd, 1) := by decide +kernel
theorem dX6_feasts_56 : decode cX6_feasts 56 = .ok (.aload_n 0, 1) := by decide +kernel
theorem dX6_feasts_57 : decode cX6_feasts 57 = .ok (.iload_n 1, 1) := by decide +kernel
theorem dX6_feasts_58 : decode cX6_feasts 58 = .ok (.iload_n 3, 1) := by decide +kernel
theorem dX6_feasts_59 : decode cX6_feasts 59 = .ok (.invokevirtual 174, 3) := by decide +kernel
theorem dX6_feasts_62 : decode cX6_feasts 62 = .ok (.ifCond .eq 11, 3) := by decide +kernel
theorem dX6_feasts_65 : decode cX6_feasts 65 = .ok (.aload_n 0, 1) := by decide +kernel
theorem dX6_feasts_66 : decode cX6_feasts 66 = .ok (.iload_n 1, 1) := by decide +kernel
theorem dX6_feasts_67 : decode cX6_feasts 67 = .ok (.invokevirtual 156, 3) := by decide +kernel
theorem dX6_feasts_70 : decode cX6_feasts 70 = .ok (.goto 4, 3) := by decide +kernel
theorem dX6_feasts_73 : decode cX6_feasts 73 = .ok (.iload_n 3, 1) := by decide +kernel
theorem dX6_feasts_74 : decode cX6_feasts 74 = .ok (.iastore, 1) := by decide +kernel
theorem dX6_feasts_75 : decode cX6_feasts 75 = .ok (.return_, 1) := by decide +kernel
theorem dX6_dayGoes_0 : decode cX6_dayGoes 0 = .ok (.aload_n 0, 1) := by decide +kernel
theorem dX6_dayGoes_1 : decode cX6_dayGoes 1 = .ok (.getfield 13, 3) := by decide +kernel
theorem dX6_dayGoes_4 : decode cX6_dayGoes 4 = .ok (.bipush 54, 2) := by decide +kernel
theorem dX6_dayGoes_6 : decode cX6_dayGoes 6 = .ok (.iaload, 1) := by decide +kernel
theorem dX6_dayGoes_7 : decode cX6_dayGoes 7 = .ok (.bipush 7, 2) := by decide +kernel
theorem dX6_dayGoes_9 : decode cX6_dayGoes 9 = .ok (.irem, 1) := by decide +kernel
theorem dX6_dayGoes_10 : decode cX6_dayGoes 10 = .ok (.aload_n 0, 1) := by decide +kernel
theorem dX6_dayGoes_11 : decode cX6_dayGoes 11 = .ok (.getfield 13, 3) := by decide +kernel
theorem dX6_dayGoes_14 : decode cX6_dayGoes 14 = .ok (.bipush 55, 2) := by decide +kernel
theorem dX6_dayGoes_16 : decode cX6_dayGoes 16 = .ok (.iaload, 1) := by decide +kernel
theorem dX6_dayGoes_17 : decode cX6_dayGoes 17 = .ok (.if_icmp .ne 7, 3) := by decide +kernel
theorem dX6_dayGoes_20 : decode cX6_dayGoes 20 = .ok (.iconst 1, 1) := by decide +kernel
theorem dX6_dayGoes_21 : decode cX6_dayGoes 21 = .ok (.goto 4, 3) := by decide +kernel
theorem dX6_dayGoes_24 : decode cX6_dayGoes 24 = .ok (.iconst 0, 1) := by decide +kernel
theorem dX6_dayGoes_25 : decode cX6_dayGoes 25 = .ok (.istore_n 2, 1) := by decide +kernel
theorem dX6_dayGoes_26 : decode cX6_dayGoes 26 = .ok (.iconst 0, 1) := by decide +kernel
theorem dX6_dayGoes_27 : decode cX6_dayGoes 27 = .ok (.istore_n 3, 1) := by decide +kernel
theorem dX6_dayGoes_28 : decode cX6_dayGoes 28 = .ok (.iload_n 3, 1) := by decide +kernel
theorem dX6_dayGoes_29 : decode cX6_dayGoes 29 = .ok (.aload_n 0, 1) := by decide +kernel
theorem dX6_dayGoes_30 : decode cX6_dayGoes 30 = .ok (.getfield 64, 3) := by decide +kernel
theorem dX6_dayGoes_33 : decode cX6_dayGoes 33 = .ok (.if_icmp .ge 30, 3) := by decide +kernel
theorem dX6_dayGoes_36 : decode cX6_dayGoes 36 = .ok (.iload_n 1, 1) := by decide +kernel
theorem dX6_dayGoes_37 : decode cX6_dayGoes 37 = .ok (.ifCond .ne 26, 3) := by decide +kernel
theorem dX6_dayGoes_40 : decode cX6_dayGoes 40 = .ok (.iload_n 2, 1) := by decide +kernel
theorem dX6_dayGoes_41 : decode cX6_dayGoes 41 = .ok (.ifCond .eq 11, 3) := by decide +kernel
theorem dX6_dayGoes_44 : decode cX6_dayGoes 44 = .ok (.aload_n 0, 1) := by decide +kernel
theorem dX6_dayGoes_45 : decode cX6_dayGoes 45 = .ok (.iload_n 3, 1) := by decide +kernel
theorem dX6_dayGoes_46 : decode cX6_dayGoes 46 = .ok (.invokevirtual 184, 3) := by decide +kernel
theorem dX6_dayGoes_49 : decode cX6_dayGoes 49 = .ok (.goto 8, 3) := by decide +kernel
theorem dX6_dayGoes_52 : decode cX6_dayGoes 52 = .ok (.aload_n 0, 1) := by decide +kernel
theorem dX6_dayGoes_53 : decode cX6_dayGoes 53 = .ok (.iload_n 3, 1) := by decide +kernel
theorem dX6_dayGoes_54 : decode cX6_dayGoes 54 = .ok (.invokevirtual 187, 3) := by decide +kernel
theorem dX6_dayGoes_57 : decode cX6_dayGoes 57 = .ok (.iinc 3 1, 3) := by decide +kernel
theorem dX6_dayGoes_60 : decode cX6_dayGoes 60 = .ok (.goto (-32), 3) := by decide +kernel
theorem dX6_dayGoes_63 : decode cX6_dayGoes 63 = .ok (.aload_n 0, 1) := by decide +kernel
theorem dX6_dayGoes_64 : decode cX6_dayGoes 64 = .ok (.getfield 13, 3) := by decide +kernel
theorem dX6_dayGoes_67 : decode cX6_dayGoes 67 = .ok (.bipush 54, 2) := by decide +kernel
theorem dX6_dayGoes_69 : decode cX6_dayGoes 69 = .ok (.dup2, 1) := by decide +kernel
theorem dX6_dayGoes_70 : decode cX6_dayGoes 70 = .ok (.iaload, 1) := by decide +kernel
theorem dX6_dayGoes_71 : decode cX6_dayGoes 71 = .ok (.iconst 1, 1) := by decide +kernel
theorem dX6_dayGoes_72 : decode cX6_dayGoes 72 = .ok (.iadd, 1) := by decide +kernel
theorem dX6_dayGoes_73 : decode cX6_dayGoes 73 = .ok (.iastore, 1) := by decide +kernel
theorem dX6_dayGoes_74 : decode cX6_dayGoes 74 = .ok (.return_, 1) := by decide +kernel
theorem dX6_daysGo_0 : decode cX6_daysGo 0 = .ok (.iconst 0, 1) := by decide +kernel
theorem dX6_daysGo_1 : decode cX6_daysGo 1 = .ok (.istore_n 2, 1) := by decide +kernel
theorem dX6_daysGo_2 : decode cX6_daysGo 2 = .ok (.iload_n 2, 1) := by decide +kernel
theorem dX6_daysGo_3 : decode cX6_daysGo 3 = .ok (.iload_n 1, 1) := by decide +kernel
theorem dX6_daysGo_4 : decode cX6_daysGo 4 = .ok (.if_icmp .ge 14, 3) := by decide +kernel
theorem dX6_daysGo_7 : decode cX6_daysGo 7 = .ok (.aload_n 0, 1) := by decide +kernel
theorem dX6_daysGo_8 : decode cX6_daysGo 8 = .ok (.iconst 0, 1) := by decide +kernel
theorem dX6_daysGo_9 : decode cX6_daysGo 9 = .ok (.invokevirtual 190, 3) := by decide +kernel
theorem dX6_daysGo_12 : decode cX6_daysGo 12 = .ok (.iinc 2 1, 3) := by decide +kernel
theorem dX6_daysGo_15 : decode cX6_daysGo 15 = .ok (.goto (-13), 3) := by decide +kernel
theorem dX6_daysGo_18 : decode cX6_daysGo 18 = .ok (.return_, 1) := by decide +kernel
theorem dX6_bumpsSince_0 : decode cX6_bumpsSince 0 = .ok (.aload_n 0, 1) := by decide +kernel
theorem dX6_bumpsSince_1 : decode cX6_bumpsSince 1 = .ok (.getfield 13, 3) := by decide +kernel
theorem dX6_bumpsSince_4 : decode cX6_bumpsSince 4 = .ok (.bipush 56, 2) := by decide +kernel
theorem dX6_bumpsSince_6 : decode cX6_bumpsSince 6 = .ok (.iaload, 1) := by decide +kernel
theorem dX6_bumpsSince_7 : decode cX6_bumpsSince 7 = .ok (.aload_n 0, 1) := by decide +kernel
theorem dX6_bumpsSince_8 : decode cX6_bumpsSince 8 = .ok (.getfield 7, 3) := by decide +kernel
theorem dX6_bumpsSince_11 : decode cX6_bumpsSince 11 = .ok (.bipush 56, 2) := by decide +kernel
theorem dX6_bumpsSince_13 : decode cX6_bumpsSince 13 = .ok (.iaload, 1) := by decide +kernel
theorem dX6_bumpsSince_14 : decode cX6_bumpsSince 14 = .ok (.isub, 1) := by decide +kernel
theorem dX6_bumpsSince_15 : decode cX6_bumpsSince 15 = .ok (.ireturn, 1) := by decide +kernel
theorem dX6_rule_0 : decode cX6_rule 0 = .ok (.aload_n 0, 1) := by decide +kernel
theorem dX6_rule_1 : decode cX6_rule 1 = .ok (.invokevirtual 194, 3) := by decide +kernel
theorem dX6_rule_4 : decode cX6_rule 4 = .ok (.iload_n 1, 1) := by decide +kernel
theorem dX6_rule_5 : decode cX6_rule 5 = .ok (.tableswitch 81 0 5 #[39, 44, 52, 60, 68, 76], 39) := by decide +kernel
theorem dX6_rule_44 : decode cX6_rule 44 = .ok (.aload_n 0, 1) := by decide +kernel
theorem dX6_rule_45 : decode cX6_rule 45 = .ok (.getfield 64, 3) := by decide +kernel
theorem dX6_rule_48 : decode cX6_rule 48 = .ok (.ireturn, 1) := by decide +kernel
theorem dX6_rule_49 : decode cX6_rule 49 = .ok (.aload_n 0, 1) := by decide +kernel
theorem dX6_rule_50 : decode cX6_rule 50 = .ok (.getfield 7, 3) := by decide +kernel
theorem dX6_rule_53 : decode cX6_rule 53 = .ok (.bipush 53, 2) := by decide +kernel
theorem dX6_rule_55 : decode cX6_rule 55 = .ok (.iaload, 1) := by decide +kernel
theorem dX6_rule_56 : decode cX6_rule 56 = .ok (.ireturn, 1) := by decide +kernel
theorem dX6_rule_57 : decode cX6_rule 57 = .ok (.aload_n 0, 1) := by decide +kernel
theorem dX6_rule_58 : decode cX6_rule 58 = .ok (.getfield 7, 3) := by decide +kernel
theorem dX6_rule_61 : decode cX6_rule 61 = .ok (.bipush 54, 2) := by decide +kernel
theorem dX6_rule_63 : decode cX6_rule 63 = .ok (.iaload, 1) := by decide +kernel
theorem dX6_rule_64 : decode cX6_rule 64 = .ok (.ireturn, 1) := by decide +kernel
theorem dX6_rule_65 : decode cX6_rule 65 = .ok (.aload_n 0, 1) := by decide +kernel
theorem dX6_rule_66 : decode cX6_rule 66 = .ok (.getfield 7, 3) := by decide +kernel
theorem dX6_rule_69 : decode cX6_rule 69 = .ok (.bipush 55, 2) := by decide +kernel
theorem dX6_rule_71 : decode cX6_rule 71 = .ok (.iaload, 1) := by decide +kernel
theorem dX6_rule_72 : decode cX6_rule 72 = .ok (.ireturn, 1) := by decide +kernel
theorem dX6_rule_73 : decode cX6_rule 73 = .ok (.aload_n 0, 1) := by decide +kernel
theorem dX6_rule_74 : decode cX6_rule 74 = .ok (.getfield 7, 3) := by decide +kernel
theorem dX6_rule_77 : decode cX6_rule 77 = .ok (.bipush 56, 2) := by decide +kernel
theorem dX6_rule_79 : decode cX6_rule 79 = .ok (.iaload, 1) := by decide +kernel
theorem dX6_rule_80 : decode cX6_rule 80 = .ok (.ireturn, 1) := by decide +kernel
theorem dX6_rule_81 : decode cX6_rule 81 = .ok (.aload_n 0, 1) := by decide +kernel
theorem dX6_rule_82 : decode cX6_rule 82 = .ok (.invokevirtual 197, 3) := by decide +kernel
theorem dX6_rule_85 : decode cX6_rule 85 = .ok (.ireturn, 1) := by decide +kernel
theorem dX6_rule_86 : decode cX6_rule 86 = .ok (.iconst (-1), 1) := by decide +kernel
theorem dX6_rule_87 : decode cX6_rule 87 = .ok (.ireturn, 1) := by decide +kernel
theorem dX6_ropesOf_0 : decode cX6_ropesOf 0 = .ok (.iconst 0, 1) := by decide +kernel
theorem dX6_ropesOf_1 : decode cX6_ropesOf 1 = .ok (.istore_n 2, 1) := by decide +kernel
theorem dX6_ropesOf_2 : decode cX6_ropesOf 2 = .ok (.iconst 0, 1) := by decide +kernel
theorem dX6_ropesOf_3 : decode cX6_ropesOf 3 = .ok (.istore_n 3, 1) := by decide +kernel
theorem dX6_ropesOf_4 : decode cX6_ropesOf 4 = .ok (.iload_n 3, 1) := by decide +kernel
theorem dX6_ropesOf_5 : decode cX6_ropesOf 5 = .ok (.aload_n 0, 1) := by decide +kernel
theorem dX6_ropesOf_6 : decode cX6_ropesOf 6 = .ok (.getfield 7, 3) := by decide +kernel
theorem dX6_ropesOf_9 : decode cX6_ropesOf 9 = .ok (.bipush 53, 2) := by decide +kernel
theorem dX6_ropesOf_11 : decode cX6_ropesOf 11 = .ok (.iaload, 1) := by decide +kernel
theorem dX6_ropesOf_12 : decode cX6_ropesOf 12 = .ok (.if_icmp .ge 52, 3) := by decide +kernel
theorem dX6_ropesOf_15 : decode cX6_ropesOf 15 = .ok (.bipush 35, 2) := by decide +kernel
theorem dX6_ropesOf_17 : decode cX6_ropesOf 17 = .ok (.iconst 3, 1) := by decide +kernel
theorem dX6_ropesOf_18 : decode cX6_ropesOf 18 = .ok (.iload_n 3, 1) := by decide +kernel
theorem dX6_ropesOf_19 : decode cX6_ropesOf 19 = .ok (.imul, 1) := by decide +kernel
theorem dX6_ropesOf_20 : decode cX6_ropesOf 20 = .ok (.iadd, 1) := by decide +kernel
theorem dX6_ropesOf_21 : decode cX6_ropesOf 21 = .ok (.istore 4, 2) := by decide +kernel
theorem dX6_ropesOf_23 : decode cX6_ropesOf 23 = .ok (.iload_n 2, 1) := by decide +kernel
theorem dX6_ropesOf_24 : decode cX6_ropesOf 24 = .ok (.aload_n 0, 1) := by decide +kernel
theorem dX6_ropesOf_25 : decode cX6_ropesOf 25 = .ok (.getfield 7, 3) := by decide +kernel
theorem dX6_ropesOf_28 : decode cX6_ropesOf 28 = .ok (.iload 4, 2) := by decide +kernel
theorem dX6_ropesOf_30 : decode cX6_ropesOf 30 = .ok (.iaload, 1) := by decide +kernel
theorem dX6_ropesOf_31 : decode cX6_ropesOf 31 = .ok (.iload_n 1, 1) := by decide +kernel
theorem dX6_ropesOf_32 : decode cX6_ropesOf 32 = .ok (.if_icmp .eq 16, 3) := by decide +kernel
theorem dX6_ropesOf_35 : decode cX6_ropesOf 35 = .ok (.aload_n 0, 1) := by decide +kernel
theorem dX6_ropesOf_36 : decode cX6_ropesOf 36 = .ok (.getfield 7, 3) := by decide +kernel
theorem dX6_ropesOf_39 : decode cX6_ropesOf 39 = .ok (.iload 4, 2) := by decide +kernel
theorem dX6_ropesOf_41 : decode cX6_ropesOf 41 = .ok (.iconst 1, 1) := by decide +kernel
theorem dX6_ropesOf_42 : decode cX6_ropesOf 42 = .ok (.iadd, 1) := by decide +kernel
theorem dX6_ropesOf_43 : decode cX6_ropesOf 43 = .ok (.iaload, 1) := by decide +kernel
theorem dX6_ropesOf_44 : decode cX6_ropesOf 44 = .ok (.iload_n 1, 1) := by decide +kernel
theorem dX6_ropesOf_45 : decode cX6_ropesOf 45 = .ok (.if_icmp .ne 7, 3) := by decide +kernel
theorem dX6_ropesOf_48 : decode cX6_ropesOf 48 = .ok (.iconst 1, 1) := by decide +kernel
theorem dX6_ropesOf_49 : decode cX6_ropesOf 49 = .ok (.goto 4, 3) := by decide +kernel
theorem dX6_ropesOf_52 : decode cX6_ropesOf 52 = .ok (.iconst 0, 1) := by decide +kernel
theorem dX6_ropesOf_53 : decode cX6_ropesOf 53 = .ok (.invokestatic 200, 3) := by decide +kernel
theorem dX6_ropesOf_56 : decode cX6_ropesOf 56 = .ok (.iadd, 1) := by decide +kernel
theorem dX6_ropesOf_57 : decode cX6_ropesOf 57 = .ok (.istore_n 2, 1) := by decide +kernel
theorem dX6_ropesOf_58 : decode cX6_ropesOf 58 = .ok (.iinc 3 1, 3) := by decide +kernel
theorem dX6_ropesOf_61 : decode cX6_ropesOf 61 = .ok (.goto (-57), 3) := by decide +kernel
theorem dX6_ropesOf_64 : decode cX6_ropesOf 64 = .ok (.iload_n 2, 1) := by decide +kernel
theorem dX6_ropesOf_65 : decode cX6_ropesOf 65 = .ok (.ireturn, 1) := by decide +kernel
theorem dX6_isle_0 : decode cX6_isle 0 = .ok (.aload_n 0, 1) := by decide +kernel
theorem dX6_isle_1 : decode cX6_isle 1 = .ok (.iload_n 1, 1) := by decide +kernel
theorem dX6_isle_2 : decode cX6_isle 2 = .ok (.invokevirtual 151, 3) := by decide +kernel
theorem dX6_isle_5 : decode cX6_isle 5 = .ok (.ifCond .ne 5, 3) := by decide +kernel
theorem dX6_isle_8 : decode cX6_isle 8 = .ok (.iconst (-1), 1) := by decide +kernel
theorem dX6_isle_9 : decode cX6_isle 9 = .ok (.ireturn, 1) := by decide +kernel
theorem dX6_isle_10 : decode cX6_isle 10 = .ok (.aload_n 0, 1) := by decide +kernel
theorem dX6_isle_11 : decode cX6_isle 11 = .ok (.invokevirtual 194, 3) := by decide +kernel
theorem dX6_isle_14 : decode cX6_isle 14 = .ok (.iload_n 2, 1) := by decide +kernel
theorem dX6_isle_15 : decode cX6_isle 15 = .ok (.tableswitch 86 0 5 #[37, 37, 48, 54, 63, 80], 37) := by decide +kernel
theorem dX6_isle_52 : decode cX6_isle 52 = .ok (.aload_n 0, 1) := by decide +kernel
theorem dX6_isle_53 : decode cX6_isle 53 = .ok (.getfield 13, 3) := by decide +kernel
theorem dX6_isle_56 : decode cX6_isle 56 = .ok (.iconst 2, 1) := by decide +kernel
theorem dX6_isle_57 : decode cX6_isle 57 = .ok (.iload_n 1, 1) := by decide +kernel
theorem dX6_isle_58 : decode cX6_isle 58 = .ok (.imul, 1) := by decide +kernel
theorem dX6_isle_59 : decode cX6_isle 59 = .ok (.iload_n 2, 1) := by decide +kernel
theorem dX6_isle_60 : decode cX6_isle 60 = .ok (.iadd, 1) := by decide +kernel
theorem dX6_isle_61 : decode cX6_isle 61 = .ok (.iaload, 1) := by decide +kernel
theorem dX6_isle_62 : decode cX6_isle 62 = .ok (.ireturn, 1) := by decide +kernel
theorem dX6_isle_63 : decode cX6_isle 63 = .ok (.aload_n 0, 1) := by decide +kernel
theorem dX6_isle_64 : decode cX6_isle 64 = .ok (.iload_n 1, 1) := by decide +kernel
theorem dX6_isle_65 : decode cX6_isle 65 = .ok (.invokevirtual 204, 3) := by decide +kernel
theorem dX6_isle_68 : decode cX6_isle 68 = .ok (.ireturn, 1) := by decide +kernel
theorem dX6_isle_69 : decode cX6_isle 69 = .ok (.aload_n 0, 1) := by decide +kernel
theorem dX6_isle_70 : decode cX6_isle 70 = .ok (.iload_n 1, 1) := by decide +kernel
theorem dX6_isle_71 : decode cX6_isle 71 = .ok (.invokevirtual 168, 3) := by decide +kernel
theorem dX6_isle_74 : decode cX6_isle 74 = .ok (.invokestatic 159, 3) := by decide +kernel
theorem dX6_isle_77 : decode cX6_isle 77 = .ok (.ireturn, 1) := by decide +kernel
theorem dX6_isle_78 : decode cX6_isle 78 = .ok (.aload_n 0, 1) := by decide +kernel
theorem dX6_isle_79 : decode cX6_isle 79 = .ok (.iload_n 1, 1) := by decide +kernel
theorem dX6_isle_80 : decode cX6_isle 80 = .ok (.invokevirtual 168, 3) := by decide +kernel
theorem dX6_isle_83 : decode cX6_isle 83 = .ok (.ifCond .le 7, 3) := by decide +kernel
theorem dX6_isle_86 : decode cX6_isle 86 = .ok (.iconst 1, 1) := by decide +kernel
theorem dX6_isle_87 : decode cX6_isle 87 = .ok (.goto 4, 3) := by decide +kernel
theorem dX6_isle_90 : decode cX6_isle 90 = .ok (.iconst 0, 1) := by decide +kernel
theorem dX6_isle_91 : decode cX6_isle 91 = .ok (.invokestatic 200, 3) := by decide +kernel
theorem dX6_isle_94 : decode cX6_isle 94 = .ok (.ireturn, 1) := by decide +kernel
theorem dX6_isle_95 : decode cX6_isle 95 = .ok (.aload_n 0, 1) := by decide +kernel
theorem dX6_isle_96 : decode cX6_isle 96 = .ok (.iload_n 1, 1) := by decide +kernel
theorem dX6_isle_97 : decode cX6_isle 97 = .ok (.invokevirtual 181, 3) := by decide +kernel
theorem dX6_isle_100 : decode cX6_isle 100 = .ok (.ireturn, 1) := by decide +kernel
theorem dX6_isle_101 : decode cX6_isle 101 = .ok (.iconst (-1), 1) := by decide +kernel
theorem dX6_isle_102 : decode cX6_isle 102 = .ok (.ireturn, 1) := by decide +kernel
theorem dX6_cross_0 : decode cX6_cross 0 = .ok (.aload_n 0, 1) := by decide +kernel
theorem dX6_cross_1 : decode cX6_cross 1 = .ok (.iload_n 1, 1) := by decide +kernel
theorem dX6_cross_2 : decode cX6_cross 2 = .ok (.iload_n 2, 1) := by decide +kernel
theorem dX6_cross_3 : decode cX6_cross 3 = .ok (.invokevirtual 207, 3) := by decide +kernel
theorem dX6_cross_6 : decode cX6_cross 6 = .ok (.ifCond .eq 19, 3) := by decide +kernel
theorem dX6_cross_9 : decode cX6_cross 9 = .ok (.aload_n 0, 1) := by decide +kernel
theorem dX6_cross_10 : decode cX6_cross 10 = .ok (.getfield 7, 3) := by decide +kernel
theorem dX6_cross_13 : decode cX6_cross 13 = .ok (.bipush 10, 2) := by decide +kernel
theorem dX6_cross_15 : decode cX6_cross 15 = .ok (.iconst 5, 1) := by decide +kernel
theorem dX6_cross_16 : decode cX6_cross 16 = .ok (.iload_n 1, 1) := by decide +kernel
theorem dX6_cross_17 : decode cX6_cross 17 = .ok (.imul, 1) := by decide +kernel
theorem dX6_cross_18 : decode cX6_cross 18 = .ok (.iadd, 1) := by decide +kernel
theorem dX6_cross_19 : decode cX6_cross 19 = .ok (.iload_n 2, 1) := by decide +kernel
theorem dX6_cross_20 : decode cX6_cross 20 = .ok (.iadd, 1) := by decide +kernel
theorem dX6_cross_21 : decode cX6_cross 21 = .ok (.iaload, 1) := by decide +kernel
theorem dX6_cross_22 : decode cX6_cross 22 = .ok (.goto 4, 3) := by decide +kernel
theorem dX6_cross_25 : decode cX6_cross 25 = .ok (.iconst (-1), 1) := by decide +kernel
theorem dX6_cross_26 : decode cX6_cross 26 = .ok (.ireturn, 1) := by decide +kernel
theorem dX6_rope_0 : decode cX6_rope 0 = .ok (.aload_n 0, 1) := by decide +kernel
theorem dX6_rope_1 : decode cX6_rope 1 = .ok (.iload_n 1, 1) := by decide +kernel
theorem dX6_rope_2 : decode cX6_rope 2 = .ok (.invokevirtual 210, 3) := by decide +kernel
theorem dX6_rope_5 : decode cX6_rope 5 = .ok (.ifCond .eq 31, 3) := by decide +kernel
theorem dX6_rope_8 : decode cX6_rope 8 = .ok (.iload_n 2, 1) := by decide +kernel
theorem dX6_rope_9 : decode cX6_rope 9 = .ok (.i2l, 1) := by decide +kernel
theorem dX6_rope_10 : decode cX6_rope 10 = .ok (.lconst 0, 1) := by decide +kernel
theorem dX6_rope_11 : decode cX6_rope 11 = .ok (.ldc2_w 213, 3) := by decide +kernel
theorem dX6_rope_14 : decode cX6_rope 14 = .ok (.invokestatic 69, 3) := by decide +kernel
theorem dX6_rope_17 : decode cX6_rope 17 = .ok (.ifCond .eq 19, 3) := by decide +kernel
theorem dX6_rope_20 : decode cX6_rope 20 = .ok (.aload_n 0, 1) := by decide +kernel
theorem dX6_rope_21 : decode cX6_rope 21 = .ok (.getfield 7, 3) := by decide +kernel
theorem dX6_rope_24 : decode cX6_rope 24 = .ok (.bipush 35, 2) := by decide +kernel
theorem dX6_rope_26 : decode cX6_rope 26 = .ok (.iconst 3, 1) := by decide +kernel
theorem dX6_rope_27 : decode cX6_rope 27 = .ok (.iload_n 1, 1) := by decide +kernel
theorem dX6_rope_28 : decode cX6_rope 28 = .ok (.imul, 1) := by decide +kernel
theorem dX6_rope_29 : decode cX6_rope 29 = .ok (.iadd, 1) := by decide +kernel
theorem dX6_rope_30 : decode cX6_rope 30 = .ok (.iload_n 2, 1) := by decide +kernel
theorem dX6_rope_31 : decode cX6_rope 31 = .ok (.iadd, 1) := by decide +kernel
theorem dX6_rope_32 : decode cX6_rope 32 = .ok (.iaload, 1) := by decide +kernel
theorem dX6_rope_33 : decode cX6_rope 33 = .ok (.goto 4, 3) := by decide +kernel
theorem dX6_rope_36 : decode cX6_rope 36 = .ok (.iconst (-1), 1) := by decide +kernel
theorem dX6_rope_37 : decode cX6_rope 37 = .ok (.ireturn, 1) := by decide +kernel
theorem dX6_far_0 : decode cX6_far 0 = .ok (.aload_n 0, 1) := by decide +kernel
theorem dX6_far_1 : decode cX6_far 1 = .ok (.iload_n 1, 1) := by decide +kernel
theorem dX6_far_2 : decode cX6_far 2 = .ok (.iload_n 2, 1) := by decide +kernel
theorem dX6_far_3 : decode cX6_far 3 = .ok (.invokevirtual 207, 3) := by decide +kernel
theorem dX6_far_6 : decode cX6_far 6 = .ok (.ifCond .ne 5, 3) := by decide +kernel
theorem dX6_far_9 : decode cX6_far 9 = .ok (.iconst (-1), 1) := by decide +kernel
theorem dX6_far_10 : decode cX6_far 10 = .ok (.ireturn, 1) := by decide +kernel
theorem dX6_far_11 : decode cX6_far 11 = .ok (.aload_n 0, 1) := by decide +kernel
theorem dX6_far_12 : decode cX6_far 12 = .ok (.invokevirtual 194, 3) := by decide +kernel
theorem dX6_far_15 : decode cX6_far 15 = .ok (.aload_n 0, 1) := by decide +kernel
theorem dX6_far_16 : decode cX6_far 16 = .ok (.iload_n 1, 1) := by decide +kernel
theorem dX6_far_17 : decode cX6_far 17 = .ok (.iload_n 2, 1) := by decide +kernel
theorem dX6_far_18 : decode cX6_far 18 = .ok (.invokevirtual 162, 3) := by decide +kernel
theorem dX6_far_21 : decode cX6_far 21 = .ok (.ireturn, 1) := by decide +kernel
theorem dX6_becomes_0 : decode cX6_becomes 0 = .ok (.aload_n 0, 1) := by decide +kernel
theorem dX6_becomes_1 : decode cX6_becomes 1 = .ok (.getfield 7, 3) := by decide +kernel
theorem dX6_becomes_4 : decode cX6_becomes 4 = .ok (.iload_n 1, 1) := by decide +kernel
theorem dX6_becomes_5 : decode cX6_becomes 5 = .ok (.iaload, 1) := by decide +kernel
theorem dX6_becomes_6 : decode cX6_becomes 6 = .ok (.istore_n 3, 1) := by decide +kernel
theorem dX6_becomes_7 : decode cX6_becomes 7 = .ok (.aload_n 0, 1) := by decide +kernel
theorem dX6_becomes_8 : decode cX6_becomes 8 = .ok (.getfield 7, 3) := by decide +kernel
theorem dX6_becomes_11 : decode cX6_becomes 11 = .ok (.iload_n 1, 1) := by decide +kernel
theorem dX6_becomes_12 : decode cX6_becomes 12 = .ok (.iload_n 2, 1) := by decide +kernel
theorem dX6_becomes_13 : decode cX6_becomes 13 = .ok (.iastore, 1) := by decide +kernel
theorem dX6_becomes_14 : decode cX6_becomes 14 = .ok (.iload_n 3, 1) := by decide +kernel
theorem dX6_becomes_15 : decode cX6_becomes 15 = .ok (.ireturn, 1) := by decide +kernel
theorem dX6_alter_0 : decode cX6_alter 0 = .ok (.aload_n 0, 1) := by decide +kernel
theorem dX6_alter_1 : decode cX6_alter 1 = .ok (.invokevirtual 194, 3) := by decide +kernel
theorem dX6_alter_4 : decode cX6_alter 4 = .ok (.iload_n 2, 1) := by decide +kernel
theorem dX6_alter_5 : decode cX6_alter 5 = .ok (.ifCond .ne 15, 3) := by decide +kernel
theorem dX6_alter_8 : decode cX6_alter 8 = .ok (.iload_n 3, 1) := by decide +kernel
theorem dX6_alter_9 : decode cX6_alter 9 = .ok (.i2l, 1) := by decide +kernel
theorem dX6_alter_10 : decode cX6_alter 10 = .ok (.lconst 0, 1) := by decide +kernel
theorem dX6_alter_11 : decode cX6_alter 11 = .ok (.ldc2_w 215, 3) := by decide +kernel
theorem dX6_alter_14 : decode cX6_alter 14 = .ok (.invokestatic 69, 3) := by decide +kernel
theorem dX6_alter_17 : decode cX6_alter 17 = .ok (.goto 20, 3) := by decide +kernel
theorem dX6_alter_20 : decode cX6_alter 20 = .ok (.iload_n 2, 1) := by decide +kernel
theorem dX6_alter_21 : decode cX6_alter 21 = .ok (.iconst 1, 1) := by decide +kernel
theorem dX6_alter_22 : decode cX6_alter 22 = .ok (.if_icmp .ne 14, 3) := by decide +kernel
theorem dX6_alter_25 : decode cX6_alter 25 = .ok (.iload_n 3, 1) := by decide +kernel
theorem dX6_alter_26 : decode cX6_alter 26 = .ok (.invokestatic 171, 3) := by decide +kernel
theorem dX6_alter_29 : decode cX6_alter 29 = .ok (.ifCond .eq 7, 3) := by decide +kernel
theorem dX6_alter_32 : decode cX6_alter 32 = .ok (.iconst 1, 1) := by decide +kernel
theorem dX6_alter_33 : decode cX6_alter 33 = .ok (.goto 4, 3) := by decide +kernel
theorem dX6_alter_36 : decode cX6_alter 36 = .ok (.iconst 0, 1) := by decide +kernel
theorem dX6_alter_37 : decode cX6_alter 37 = .ok (.istore 4, 2) := by decide +kernel
theorem dX6_alter_39 : decode cX6_alter 39 = .ok (.aload_n 0, 1) := by decide +kernel
theorem dX6_alter_40 : decode cX6_alter 40 = .ok (.iload_n 1, 1) := by decide +kernel
theorem dX6_alter_41 : decode cX6_alter 41 = .ok (.invokevirtual 151, 3) := by decide +kernel
theorem dX6_alter_44 : decode cX6_alter 44 = .ok (.ifCond .eq 30, 3) := by decide +kernel
theorem dX6_alter_47 : decode cX6_alter 47 = .ok (.iload 4, 2) := by decide +kernel
theorem dX6_alter_49 : decode cX6_alter 49 = .ok (.ifCond .eq 25, 3) := by decide +kernel
theorem dX6_alter_52 : decode cX6_alter 52 = .ok (.iload_n 2, 1) := by decide +kernel
theorem dX6_alter_53 : decode cX6_alter 53 = .ok (.iconst 1, 1) := by decide +kernel
theorem dX6_alter_54 : decode cX6_alter 54 = .ok (.if_icmp .ne 22, 3) := by decide +kernel
theorem dX6_alter_57 : decode cX6_alter 57 = .ok (.aload_n 0, 1) := by decide +kernel
theorem dX6_alter_58 : decode cX6_alter 58 = .ok (.iload_n 1, 1) := by decide +kernel
theorem dX6_alter_59 : decode cX6_alter 59 = .ok (.invokevirtual 156, 3) := by decide +kernel
theorem dX6_alter_62 : decode cX6_alter 62 = .ok (.iload_n 3, 1) := by decide +kernel
theorem dX6_alter_63 : decode cX6_alter 63 = .ok (.if_icmp .eq 13, 3) := by decide +kernel
theorem dX6_alter_66 : decode cX6_alter 66 = .ok (.aload_n 0, 1) := by decide +kernel
theorem dX6_alter_67 : decode cX6_alter 67 = .ok (.iload_n 3, 1) := by decide +kernel
theorem dX6_alter_68 : decode cX6_alter 68 = .ok (.invokevirtual 178, 3) := by decide +kernel
theorem dX6_alter_71 : decode cX6_alter 71 = .ok (.ifCond .eq 5, 3) := by decide +kernel
theorem dX6_alter_74 : decode cX6_alter 74 = .ok (.iconst (-1), 1) := by decide +kernel
theorem dX6_alter_75 : decode cX6_alter 75 = .ok (.ireturn, 1) := by decide +kernel
theorem dX6_alter_76 : decode cX6_alter 76 = .ok (.aload_n 0, 1) := by decide +kernel
theorem dX6_alter_77 : decode cX6_alter 77 = .ok (.iconst 2, 1) := by decide +kernel
theorem dX6_alter_78 : decode cX6_alter 78 = .ok (.iload_n 1, 1) := by decide +kernel
theorem dX6_alter_79 : decode cX6_alter 79 = .ok (.imul, 1) := by decide +kernel
theorem dX6_alter_80 : decode cX6_alter 80 = .ok (.iload_n 2, 1) := by decide +kernel
theorem dX6_alter_81 : decode cX6_alter 81 = .ok (.iadd, 1) := by decide +kernel
theorem dX6_alter_82 : decode cX6_alter 82 = .ok (.iload_n 3, 1) := by decide +kernel
theorem dX6_alter_83 : decode cX6_alter 83 = .ok (.invokevirtual 217, 3) := by decide +kernel
theorem dX6_alter_86 : decode cX6_alter 86 = .ok (.ireturn, 1) := by decide +kernel
theorem dX6_sulk_0 : decode cX6_sulk 0 = .ok (.aload_n 0, 1) := by decide +kernel
theorem dX6_sulk_1 : decode cX6_sulk 1 = .ok (.iload_n 1, 1) := by decide +kernel
theorem dX6_sulk_2 : decode cX6_sulk 2 = .ok (.iload_n 2, 1) := by decide +kernel
theorem dX6_sulk_3 : decode cX6_sulk 3 = .ok (.invokevirtual 207, 3) := by decide +kernel
theorem dX6_sulk_6 : decode cX6_sulk 6 = .ok (.ifCond .eq 31, 3) := by decide +kernel
theorem dX6_sulk_9 : decode cX6_sulk 9 = .ok (.iload_n 3, 1) := by decide +kernel
theorem dX6_sulk_10 : decode cX6_sulk 10 = .ok (.i2l, 1) := by decide +kernel
