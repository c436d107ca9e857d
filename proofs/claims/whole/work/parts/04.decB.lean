theorem dX5_init_0 : decode cX5_init 0 = .ok (.aload_n 0, 1) := by decide +kernel
theorem dX5_init_1 : decode cX5_init 1 = .ok (.invokespecial 1, 3) := by decide +kernel
theorem dX5_init_4 : decode cX5_init 4 = .ok (.aload_n 0, 1) := by decide +kernel
theorem dX5_init_5 : decode cX5_init 5 = .ok (.new 7, 3) := by decide +kernel
theorem dX5_init_8 : decode cX5_init 8 = .ok (.dup, 1) := by decide +kernel
theorem dX5_init_9 : decode cX5_init 9 = .ok (.invokespecial 9, 3) := by decide +kernel
theorem dX5_init_12 : decode cX5_init 12 = .ok (.putfield 10, 3) := by decide +kernel
theorem dX5_init_15 : decode cX5_init 15 = .ok (.aload_n 0, 1) := by decide +kernel
theorem dX5_init_16 : decode cX5_init 16 = .ok (.new 7, 3) := by decide +kernel
theorem dX5_init_19 : decode cX5_init 19 = .ok (.dup, 1) := by decide +kernel
theorem dX5_init_20 : decode cX5_init 20 = .ok (.invokespecial 9, 3) := by decide +kernel
theorem dX5_init_23 : decode cX5_init 23 = .ok (.putfield 16, 3) := by decide +kernel
theorem dX5_init_26 : decode cX5_init 26 = .ok (.aload_n 0, 1) := by decide +kernel
theorem dX5_init_27 : decode cX5_init 27 = .ok (.new 19, 3) := by decide +kernel
theorem dX5_init_30 : decode cX5_init 30 = .ok (.dup, 1) := by decide +kernel
theorem dX5_init_31 : decode cX5_init 31 = .ok (.invokespecial 21, 3) := by decide +kernel
theorem dX5_init_34 : decode cX5_init 34 = .ok (.putfield 22, 3) := by decide +kernel
theorem dX5_init_37 : decode cX5_init 37 = .ok (.aload_n 0, 1) := by decide +kernel
theorem dX5_init_38 : decode cX5_init 38 = .ok (.iconst 2, 1) := by decide +kernel
theorem dX5_init_39 : decode cX5_init 39 = .ok (.anewarray 26, 3) := by decide +kernel
theorem dX5_init_42 : decode cX5_init 42 = .ok (.dup, 1) := by decide +kernel
theorem dX5_init_43 : decode cX5_init 43 = .ok (.iconst 0, 1) := by decide +kernel
theorem dX5_init_44 : decode cX5_init 44 = .ok (.new 26, 3) := by decide +kernel
theorem dX5_init_47 : decode cX5_init 47 = .ok (.dup, 1) := by decide +kernel
theorem dX5_init_48 : decode cX5_init 48 = .ok (.invokespecial 28, 3) := by decide +kernel
theorem dX5_init_51 : decode cX5_init 51 = .ok (.aastore, 1) := by decide +kernel
theorem dX5_init_52 : decode cX5_init 52 = .ok (.dup, 1) := by decide +kernel
theorem dX5_init_53 : decode cX5_init 53 = .ok (.iconst 1, 1) := by decide +kernel
theorem dX5_init_54 : decode cX5_init 54 = .ok (.new 26, 3) := by decide +kernel
theorem dX5_init_57 : decode cX5_init 57 = .ok (.dup, 1) := by decide +kernel
theorem dX5_init_58 : decode cX5_init 58 = .ok (.invokespecial 28, 3) := by decide +kernel
theorem dX5_init_61 : decode cX5_init 61 = .ok (.aastore, 1) := by decide +kernel
theorem dX5_init_62 : decode cX5_init 62 = .ok (.putfield 29, 3) := by decide +kernel
theorem dX5_init_65 : decode cX5_init 65 = .ok (.aload_n 0, 1) := by decide +kernel
theorem dX5_init_66 : decode cX5_init 66 = .ok (.iconst 4, 1) := by decide +kernel
theorem dX5_init_67 : decode cX5_init 67 = .ok (.anewarray 33, 3) := by decide +kernel
theorem dX5_init_70 : decode cX5_init 70 = .ok (.dup, 1) := by decide +kernel
theorem dX5_init_71 : decode cX5_init 71 = .ok (.iconst 0, 1) := by decide +kernel
theorem dX5_init_72 : decode cX5_init 72 = .ok (.new 33, 3) := by decide +kernel
theorem dX5_init_75 : decode cX5_init 75 = .ok (.dup, 1) := by decide +kernel
theorem dX5_init_76 : decode cX5_init 76 = .ok (.invokespecial 35, 3) := by decide +kernel
theorem dX5_init_79 : decode cX5_init 79 = .ok (.aastore, 1) := by decide +kernel
theorem dX5_init_80 : decode cX5_init 80 = .ok (.dup, 1) := by decide +kernel
theorem dX5_init_81 : decode cX5_init 81 = .ok (.iconst 1, 1) := by decide +kernel
theorem dX5_init_82 : decode cX5_init 82 = .ok (.new 33, 3) := by decide +kernel
theorem dX5_init_85 : decode cX5_init 85 = .ok (.dup, 1) := by decide +kernel
theorem dX5_init_86 : decode cX5_init 86 = .ok (.invokespecial 35, 3) := by decide +kernel
theorem dX5_init_89 : decode cX5_init 89 = .ok (.aastore, 1) := by decide +kernel
theorem dX5_init_90 : decode cX5_init 90 = .ok (.dup, 1) := by decide +kernel
theorem dX5_init_91 : decode cX5_init 91 = .ok (.iconst 2, 1) := by decide +kernel
theorem dX5_init_92 : decode cX5_init 92 = .ok (.new 33, 3) := by decide +kernel
theorem dX5_init_95 : decode cX5_init 95 = .ok (.dup, 1) := by decide +kernel
theorem dX5_init_96 : decode cX5_init 96 = .ok (.invokespecial 35, 3) := by decide +kernel
theorem dX5_init_99 : decode cX5_init 99 = .ok (.aastore, 1) := by decide +kernel
theorem dX5_init_100 : decode cX5_init 100 = .ok (.dup, 1) := by decide +kernel
theorem dX5_init_101 : decode cX5_init 101 = .ok (.iconst 3, 1) := by decide +kernel
theorem dX5_init_102 : decode cX5_init 102 = .ok (.new 33, 3) := by decide +kernel
theorem dX5_init_105 : decode cX5_init 105 = .ok (.dup, 1) := by decide +kernel
theorem dX5_init_106 : decode cX5_init 106 = .ok (.invokespecial 35, 3) := by decide +kernel
theorem dX5_init_109 : decode cX5_init 109 = .ok (.aastore, 1) := by decide +kernel
theorem dX5_init_110 : decode cX5_init 110 = .ok (.putfield 36, 3) := by decide +kernel
theorem dX5_init_113 : decode cX5_init 113 = .ok (.aload_n 0, 1) := by decide +kernel
theorem dX5_init_114 : decode cX5_init 114 = .ok (.new 40, 3) := by decide +kernel
theorem dX5_init_117 : decode cX5_init 117 = .ok (.dup, 1) := by decide +kernel
theorem dX5_init_118 : decode cX5_init 118 = .ok (.invokespecial 42, 3) := by decide +kernel
theorem dX5_init_121 : decode cX5_init 121 = .ok (.putfield 43, 3) := by decide +kernel
theorem dX5_init_124 : decode cX5_init 124 = .ok (.aload_n 0, 1) := by decide +kernel
theorem dX5_init_125 : decode cX5_init 125 = .ok (.sipush 420, 3) := by decide +kernel
theorem dX5_init_128 : decode cX5_init 128 = .ok (.newarray .int, 2) := by decide +kernel
theorem dX5_init_130 : decode cX5_init 130 = .ok (.putfield 47, 3) := by decide +kernel
theorem dX5_init_133 : decode cX5_init 133 = .ok (.aload_n 0, 1) := by decide +kernel
theorem dX5_init_134 : decode cX5_init 134 = .ok (.bipush 40, 2) := by decide +kernel
theorem dX5_init_136 : decode cX5_init 136 = .ok (.newarray .int, 2) := by decide +kernel
theorem dX5_init_138 : decode cX5_init 138 = .ok (.putfield 51, 3) := by decide +kernel
theorem dX5_init_141 : decode cX5_init 141 = .ok (.aload_n 0, 1) := by decide +kernel
theorem dX5_init_142 : decode cX5_init 142 = .ok (.iconst 0, 1) := by decide +kernel
theorem dX5_init_143 : decode cX5_init 143 = .ok (.putfield 54, 3) := by decide +kernel
theorem dX5_init_146 : decode cX5_init 146 = .ok (.return_, 1) := by decide +kernel
theorem dX5_feed_0 : decode cX5_feed 0 = .ok (.iload_n 1, 1) := by decide +kernel
theorem dX5_feed_1 : decode cX5_feed 1 = .ok (.ifCond .lt 9, 3) := by decide +kernel
theorem dX5_feed_4 : decode cX5_feed 4 = .ok (.iload_n 1, 1) := by decide +kernel
theorem dX5_feed_5 : decode cX5_feed 5 = .ok (.bipush 127, 2) := by decide +kernel
theorem dX5_feed_7 : decode cX5_feed 7 = .ok (.if_icmp .le 5, 3) := by decide +kernel
theorem dX5_feed_10 : decode cX5_feed 10 = .ok (.iconst (-1), 1) := by decide +kernel
theorem dX5_feed_11 : decode cX5_feed 11 = .ok (.ireturn, 1) := by decide +kernel
theorem dX5_feed_12 : decode cX5_feed 12 = .ok (.aload_n 0, 1) := by decide +kernel
theorem dX5_feed_13 : decode cX5_feed 13 = .ok (.getfield 43, 3) := by decide +kernel
theorem dX5_feed_16 : decode cX5_feed 16 = .ok (.getfield 58, 3) := by decide +kernel
theorem dX5_feed_19 : decode cX5_feed 19 = .ok (.sipush 160, 3) := by decide +kernel
theorem dX5_feed_22 : decode cX5_feed 22 = .ok (.if_icmp .lt 6, 3) := by decide +kernel
theorem dX5_feed_25 : decode cX5_feed 25 = .ok (.bipush (-3), 2) := by decide +kernel
theorem dX5_feed_27 : decode cX5_feed 27 = .ok (.ireturn, 1) := by decide +kernel
theorem dX5_feed_28 : decode cX5_feed 28 = .ok (.aload_n 0, 1) := by decide +kernel
theorem dX5_feed_29 : decode cX5_feed 29 = .ok (.getfield 43, 3) := by decide +kernel
theorem dX5_feed_32 : decode cX5_feed 32 = .ok (.getfield 61, 3) := by decide +kernel
theorem dX5_feed_35 : decode cX5_feed 35 = .ok (.aload_n 0, 1) := by decide +kernel
theorem dX5_feed_36 : decode cX5_feed 36 = .ok (.getfield 43, 3) := by decide +kernel
theorem dX5_feed_39 : decode cX5_feed 39 = .ok (.getfield 58, 3) := by decide +kernel
theorem dX5_feed_42 : decode cX5_feed 42 = .ok (.iload_n 1, 1) := by decide +kernel
theorem dX5_feed_43 : decode cX5_feed 43 = .ok (.i2b, 1) := by decide +kernel
theorem dX5_feed_44 : decode cX5_feed 44 = .ok (.bastore, 1) := by decide +kernel
theorem dX5_feed_45 : decode cX5_feed 45 = .ok (.aload_n 0, 1) := by decide +kernel
theorem dX5_feed_46 : decode cX5_feed 46 = .ok (.getfield 43, 3) := by decide +kernel
theorem dX5_feed_49 : decode cX5_feed 49 = .ok (.dup, 1) := by decide +kernel
theorem dX5_feed_50 : decode cX5_feed 50 = .ok (.getfield 58, 3) := by decide +kernel
theorem dX5_feed_53 : decode cX5_feed 53 = .ok (.iconst 1, 1) := by decide +kernel
theorem dX5_feed_54 : decode cX5_feed 54 = .ok (.iadd, 1) := by decide +kernel
theorem dX5_feed_55 : decode cX5_feed 55 = .ok (.putfield 58, 3) := by decide +kernel
theorem dX5_feed_58 : decode cX5_feed 58 = .ok (.aload_n 0, 1) := by decide +kernel
theorem dX5_feed_59 : decode cX5_feed 59 = .ok (.getfield 43, 3) := by decide +kernel
theorem dX5_feed_62 : decode cX5_feed 62 = .ok (.getfield 58, 3) := by decide +kernel
theorem dX5_feed_65 : decode cX5_feed 65 = .ok (.ireturn, 1) := by decide +kernel
theorem dX5_end_0 : decode cX5_end 0 = .ok (.iload_n 1, 1) := by decide +kernel
theorem dX5_end_1 : decode cX5_end 1 = .ok (.ifCond .lt 14, 3) := by decide +kernel
theorem dX5_end_4 : decode cX5_end 4 = .ok (.iload_n 1, 1) := by decide +kernel
theorem dX5_end_5 : decode cX5_end 5 = .ok (.aload_n 0, 1) := by decide +kernel
theorem dX5_end_6 : decode cX5_end 6 = .ok (.getfield 43, 3) := by decide +kernel
theorem dX5_end_9 : decode cX5_end 9 = .ok (.getfield 58, 3) := by decide +kernel
theorem dX5_end_12 : decode cX5_end 12 = .ok (.if_icmp .le 5, 3) := by decide +kernel
theorem dX5_end_15 : decode cX5_end 15 = .ok (.iconst (-1), 1) := by decide +kernel
theorem dX5_end_16 : decode cX5_end 16 = .ok (.ireturn, 1) := by decide +kernel
theorem dX5_end_17 : decode cX5_end 17 = .ok (.aload_n 0, 1) := by decide +kernel
theorem dX5_end_18 : decode cX5_end 18 = .ok (.getfield 43, 3) := by decide +kernel
theorem dX5_end_21 : decode cX5_end 21 = .ok (.getfield 58, 3) := by decide +kernel
theorem dX5_end_24 : decode cX5_end 24 = .ok (.istore_n 2, 1) := by decide +kernel
theorem dX5_end_25 : decode cX5_end 25 = .ok (.aload_n 0, 1) := by decide +kernel
theorem dX5_end_26 : decode cX5_end 26 = .ok (.getfield 43, 3) := by decide +kernel
theorem dX5_end_29 : decode cX5_end 29 = .ok (.iload_n 1, 1) := by decide +kernel
theorem dX5_end_30 : decode cX5_end 30 = .ok (.putfield 58, 3) := by decide +kernel
theorem dX5_end_33 : decode cX5_end 33 = .ok (.iload_n 2, 1) := by decide +kernel
theorem dX5_end_34 : decode cX5_end 34 = .ok (.ireturn, 1) := by decide +kernel
theorem dX5_text_0 : decode cX5_text 0 = .ok (.aload_n 0, 1) := by decide +kernel
theorem dX5_text_1 : decode cX5_text 1 = .ok (.getfield 43, 3) := by decide +kernel
theorem dX5_text_4 : decode cX5_text 4 = .ok (.invokevirtual 65, 3) := by decide +kernel
theorem dX5_text_7 : decode cX5_text 7 = .ok (.istore_n 1, 1) := by decide +kernel
theorem dX5_text_8 : decode cX5_text 8 = .ok (.aload_n 0, 1) := by decide +kernel
theorem dX5_text_9 : decode cX5_text 9 = .ok (.getfield 43, 3) := by decide +kernel
theorem dX5_text_12 : decode cX5_text 12 = .ok (.iconst 0, 1) := by decide +kernel
theorem dX5_text_13 : decode cX5_text 13 = .ok (.putfield 58, 3) := by decide +kernel
theorem dX5_text_16 : decode cX5_text 16 = .ok (.iload_n 1, 1) := by decide +kernel
theorem dX5_text_17 : decode cX5_text 17 = .ok (.ifCond .ne 14, 3) := by decide +kernel
theorem dX5_text_20 : decode cX5_text 20 = .ok (.bipush (-10), 2) := by decide +kernel
theorem dX5_text_22 : decode cX5_text 22 = .ok (.aload_n 0, 1) := by decide +kernel
theorem dX5_text_23 : decode cX5_text 23 = .ok (.getfield 43, 3) := by decide +kernel
theorem dX5_text_26 : decode cX5_text 26 = .ok (.getfield 69, 3) := by decide +kernel
theorem dX5_text_29 : decode cX5_text 29 = .ok (.isub, 1) := by decide +kernel
theorem dX5_text_30 : decode cX5_text 30 = .ok (.ireturn, 1) := by decide +kernel
theorem dX5_text_31 : decode cX5_text 31 = .ok (.aload_n 0, 1) := by decide +kernel
theorem dX5_text_32 : decode cX5_text 32 = .ok (.getfield 10, 3) := by decide +kernel
theorem dX5_text_35 : decode cX5_text 35 = .ok (.aload_n 0, 1) := by decide +kernel
theorem dX5_text_36 : decode cX5_text 36 = .ok (.getfield 43, 3) := by decide +kernel
theorem dX5_text_39 : decode cX5_text 39 = .ok (.getfield 72, 3) := by decide +kernel
theorem dX5_text_42 : decode cX5_text 42 = .ok (.invokevirtual 75, 3) := by decide +kernel
theorem dX5_text_45 : decode cX5_text 45 = .ok (.aload_n 0, 1) := by decide +kernel
theorem dX5_text_46 : decode cX5_text 46 = .ok (.getfield 22, 3) := by decide +kernel
theorem dX5_text_49 : decode cX5_text 49 = .ok (.iconst 0, 1) := by decide +kernel
theorem dX5_text_50 : decode cX5_text 50 = .ok (.putfield 79, 3) := by decide +kernel
theorem dX5_text_53 : decode cX5_text 53 = .ok (.iconst 0, 1) := by decide +kernel
theorem dX5_text_54 : decode cX5_text 54 = .ok (.istore_n 2, 1) := by decide +kernel
theorem dX5_text_55 : decode cX5_text 55 = .ok (.iload_n 2, 1) := by decide +kernel
theorem dX5_text_56 : decode cX5_text 56 = .ok (.aload_n 0, 1) := by decide +kernel
theorem dX5_text_57 : decode cX5_text 57 = .ok (.getfield 29, 3) := by decide +kernel
theorem dX5_text_60 : decode cX5_text 60 = .ok (.arraylength, 1) := by decide +kernel
theorem dX5_text_61 : decode cX5_text 61 = .ok (.if_icmp .ge 19, 3) := by decide +kernel
theorem dX5_text_64 : decode cX5_text 64 = .ok (.aload_n 0, 1) := by decide +kernel
theorem dX5_text_65 : decode cX5_text 65 = .ok (.getfield 29, 3) := by decide +kernel
theorem dX5_text_68 : decode cX5_text 68 = .ok (.iload_n 2, 1) := by decide +kernel
theorem dX5_text_69 : decode cX5_text 69 = .ok (.aaload, 1) := by decide +kernel
theorem dX5_text_70 : decode cX5_text 70 = .ok (.iconst 0, 1) := by decide +kernel
theorem dX5_text_71 : decode cX5_text 71 = .ok (.putfield 82, 3) := by decide +kernel
theorem dX5_text_74 : decode cX5_text 74 = .ok (.iinc 2 1, 3) := by decide +kernel
theorem dX5_text_77 : decode cX5_text 77 = .ok (.goto (-22), 3) := by decide +kernel
theorem dX5_text_80 : decode cX5_text 80 = .ok (.aload_n 0, 1) := by decide +kernel
theorem dX5_text_81 : decode cX5_text 81 = .ok (.getfield 43, 3) := by decide +kernel
theorem dX5_text_84 : decode cX5_text 84 = .ok (.getfield 86, 3) := by decide +kernel
theorem dX5_text_87 : decode cX5_text 87 = .ok (.ireturn, 1) := by decide +kernel
theorem dX5_fault_0 : decode cX5_fault 0 = .ok (.aload_n 0, 1) := by decide +kernel
theorem dX5_fault_1 : decode cX5_fault 1 = .ok (.getfield 43, 3) := by decide +kernel
theorem dX5_fault_4 : decode cX5_fault 4 = .ok (.getfield 89, 3) := by decide +kernel
theorem dX5_fault_7 : decode cX5_fault 7 = .ok (.ireturn, 1) := by decide +kernel
theorem dX5_rule_0 : decode cX5_rule 0 = .ok (.iload_n 1, 1) := by decide +kernel
theorem dX5_rule_1 : decode cX5_rule 1 = .ok (.tableswitch 87 0 5 #[39, 47, 55, 63, 71, 79], 39) := by decide +kernel
theorem dX5_rule_40 : decode cX5_rule 40 = .ok (.aload_n 0, 1) := by decide +kernel
theorem dX5_rule_41 : decode cX5_rule 41 = .ok (.getfield 10, 3) := by decide +kernel
theorem dX5_rule_44 : decode cX5_rule 44 = .ok (.getfield 92, 3) := by decide +kernel
theorem dX5_rule_47 : decode cX5_rule 47 = .ok (.ireturn, 1) := by decide +kernel
theorem dX5_rule_48 : decode cX5_rule 48 = .ok (.aload_n 0, 1) := by decide +kernel
theorem dX5_rule_49 : decode cX5_rule 49 = .ok (.getfield 10, 3) := by decide +kernel
theorem dX5_rule_52 : decode cX5_rule 52 = .ok (.getfield 95, 3) := by decide +kernel
theorem dX5_rule_55 : decode cX5_rule 55 = .ok (.ireturn, 1) := by decide +kernel
theorem dX5_rule_56 : decode cX5_rule 56 = .ok (.aload_n 0, 1) := by decide +kernel
theorem dX5_rule_57 : decode cX5_rule 57 = .ok (.getfield 10, 3) := by decide +kernel
theorem dX5_rule_60 : decode cX5_rule 60 = .ok (.getfield 98, 3) := by decide +kernel
theorem dX5_rule_63 : decode cX5_rule 63 = .ok (.ireturn, 1) := by decide +kernel
theorem dX5_rule_64 : decode cX5_rule 64 = .ok (.aload_n 0, 1) := by decide +kernel
theorem dX5_rule_65 : decode cX5_rule 65 = .ok (.getfield 10, 3) := by decide +kernel
theorem dX5_rule_68 : decode cX5_rule 68 = .ok (.getfield 101, 3) := by decide +kernel
theorem dX5_rule_71 : decode cX5_rule 71 = .ok (.ireturn, 1) := by decide +kernel
theorem dX5_rule_72 : decode cX5_rule 72 = .ok (.aload_n 0, 1) := by decide +kernel
theorem dX5_rule_73 : decode cX5_rule 73 = .ok (.getfield 10, 3) := by decide +kernel
theorem dX5_rule_76 : decode cX5_rule 76 = .ok (.getfield 104, 3) := by decide +kernel
theorem dX5_rule_79 : decode cX5_rule 79 = .ok (.ireturn, 1) := by decide +kernel
theorem dX5_rule_80 : decode cX5_rule 80 = .ok (.aload_n 0, 1) := by decide +kernel
theorem dX5_rule_81 : decode cX5_rule 81 = .ok (.getfield 10, 3) := by decide +kernel
theorem dX5_rule_84 : decode cX5_rule 84 = .ok (.invokevirtual 107, 3) := by decide +kernel
theorem dX5_rule_87 : decode cX5_rule 87 = .ok (.ireturn, 1) := by decide +kernel
theorem dX5_rule_88 : decode cX5_rule 88 = .ok (.iconst (-1), 1) := by decide +kernel
theorem dX5_rule_89 : decode cX5_rule 89 = .ok (.ireturn, 1) := by decide +kernel
theorem dX5_isle_0 : decode cX5_isle 0 = .ok (.aload_n 0, 1) := by decide +kernel
theorem dX5_isle_1 : decode cX5_isle 1 = .ok (.iload_n 1, 1) := by decide +kernel
theorem dX5_isle_2 : decode cX5_isle 2 = .ok (.invokevirtual 111, 3) := by decide +kernel
theorem dX5_isle_5 : decode cX5_isle 5 = .ok (.ifCond .ne 5, 3) := by decide +kernel
theorem dX5_isle_8 : decode cX5_isle 8 = .ok (.iconst (-1), 1) := by decide +kernel
theorem dX5_isle_9 : decode cX5_isle 9 = .ok (.ireturn, 1) := by decide +kernel
theorem dX5_isle_10 : decode cX5_isle 10 = .ok (.iload_n 2, 1) := by decide +kernel
theorem dX5_isle_11 : decode cX5_isle 11 = .ok (.tableswitch 104 0 5 #[37, 47, 57, 66, 78, 95], 37) := by decide +kernel
theorem dX5_isle_48 : decode cX5_isle 48 = .ok (.aload_n 0, 1) := by decide +kernel
theorem dX5_isle_49 : decode cX5_isle 49 = .ok (.getfield 10, 3) := by decide +kernel
theorem dX5_isle_52 : decode cX5_isle 52 = .ok (.getfield 115, 3) := by decide +kernel
theorem dX5_isle_55 : decode cX5_isle 55 = .ok (.iload_n 1, 1) := by decide +kernel
theorem dX5_isle_56 : decode cX5_isle 56 = .ok (.iaload, 1) := by decide +kernel
theorem dX5_isle_57 : decode cX5_isle 57 = .ok (.ireturn, 1) := by decide +kernel
theorem dX5_isle_58 : decode cX5_isle 58 = .ok (.aload_n 0, 1) := by decide +kernel
theorem dX5_isle_59 : decode cX5_isle 59 = .ok (.getfield 10, 3) := by decide +kernel
theorem dX5_isle_62 : decode cX5_isle 62 = .ok (.getfield 118, 3) := by decide +kernel
theorem dX5_isle_65 : decode cX5_isle 65 = .ok (.iload_n 1, 1) := by decide +kernel
theorem dX5_isle_66 : decode cX5_isle 66 = .ok (.iaload, 1) := by decide +kernel
theorem dX5_isle_67 : decode cX5_isle 67 = .ok (.ireturn, 1) := by decide +kernel
theorem dX5_isle_68 : decode cX5_isle 68 = .ok (.aload_n 0, 1) := by decide +kernel
theorem dX5_isle_69 : decode cX5_isle 69 = .ok (.getfield 10, 3) := by decide +kernel
theorem dX5_isle_72 : decode cX5_isle 72 = .ok (.iload_n 1, 1) := by decide +kernel
theorem dX5_isle_73 : decode cX5_isle 73 = .ok (.invokevirtual 121, 3) := by decide +kernel
theorem dX5_isle_76 : decode cX5_isle 76 = .ok (.ireturn, 1) := by decide +kernel
theorem dX5_isle_77 : decode cX5_isle 77 = .ok (.aload_n 0, 1) := by decide +kernel
theorem dX5_isle_78 : decode cX5_isle 78 = .ok (.getfield 10, 3) := by decide +kernel
theorem dX5_isle_81 : decode cX5_isle 81 = .ok (.iload_n 1, 1) := by decide +kernel
theorem dX5_isle_82 : decode cX5_isle 82 = .ok (.invokevirtual 125, 3) := by decide +kernel
theorem dX5_isle_85 : decode cX5_isle 85 = .ok (.invokestatic 128, 3) := by decide +kernel
theorem dX5_isle_88 : decode cX5_isle 88 = .ok (.ireturn, 1) := by decide +kernel
theorem dX5_isle_89 : decode cX5_isle 89 = .ok (.aload_n 0, 1) := by decide +kernel
theorem dX5_isle_90 : decode cX5_isle 90 = .ok (.getfield 10, 3) := by decide +kernel
theorem dX5_isle_93 : decode cX5_isle 93 = .ok (.iload_n 1, 1) := by decide +kernel
theorem dX5_isle_94 : decode cX5_isle 94 = .ok (.invokevirtual 125, 3) := by decide +kernel
theorem dX5_isle_97 : decode cX5_isle 97 = .ok (.ifCond .le 7, 3) := by decide +kernel
theorem dX5_isle_100 : decode cX5_isle 100 = .ok (.iconst 1, 1) := by decide +kernel
theorem dX5_isle_101 : decode cX5_isle 101 = .ok (.goto 4, 3) := by decide +kernel
theorem dX5_isle_104 : decode cX5_isle 104 = .ok (.iconst 0, 1) := by decide +kernel
theorem dX5_isle_105 : decode cX5_isle 105 = .ok (.ireturn, 1) := by decide +kernel
theorem dX5_isle_106 : decode cX5_isle 106 = .ok (.aload_n 0, 1) := by decide +kernel
theorem dX5_isle_107 : decode cX5_isle 107 = .ok (.getfield 10, 3) := by decide +kernel
theorem dX5_isle_110 : decode cX5_isle 110 = .ok (.iload_n 1, 1) := by decide +kernel
theorem dX5_isle_111 : decode cX5_isle 111 = .ok (.invokevirtual 133, 3) := by decide +kernel
theorem dX5_isle_114 : decode cX5_isle 114 = .ok (.ireturn, 1) := by decide +kernel
theorem dX5_isle_115 : decode cX5_isle 115 = .ok (.iconst (-1), 1) := by decide +kernel
theorem dX5_isle_116 : decode cX5_isle 116 = .ok (.ireturn, 1) := by decide +kernel
theorem dX5_cross_0 : decode cX5_cross 0 = .ok (.aload_n 0, 1) := by decide +kernel
theorem dX5_cross_1 : decode cX5_cross 1 = .ok (.iload_n 1, 1) := by decide +kernel
theorem dX5_cross_2 : decode cX5_cross 2 = .ok (.iload_n 2, 1) := by decide +kernel
theorem dX5_cross_3 : decode cX5_cross 3 = .ok (.invokevirtual 136, 3) := by decide +kernel
theorem dX5_cross_6 : decode cX5_cross 6 = .ok (.ifCond .eq 15, 3) := by decide +kernel
theorem dX5_cross_9 : decode cX5_cross 9 = .ok (.aload_n 0, 1) := by decide +kernel
theorem dX5_cross_10 : decode cX5_cross 10 = .ok (.getfield 10, 3) := by decide +kernel
theorem dX5_cross_13 : decode cX5_cross 13 = .ok (.iload_n 1, 1) := by decide +kernel
theorem dX5_cross_14 : decode cX5_cross 14 = .ok (.iload_n 2, 1) := by decide +kernel
theorem dX5_cross_15 : decode cX5_cross 15 = .ok (.invokevirtual 140, 3) := by decide +kernel
theorem dX5_cross_18 : decode cX5_cross 18 = .ok (.goto 4, 3) := by decide +kernel
theorem dX5_cross_21 : decode cX5_cross 21 = .ok (.iconst (-1), 1) := by decide +kernel
theorem dX5_cross_22 : decode cX5_cross 22 = .ok (.ireturn, 1) := by decide +kernel
theorem dX5_rope_0 : decode cX5_rope 0 = .ok (.aload_n 0, 1) := by decide +kernel
theorem dX5_rope_1 : decode cX5_rope 1 = .ok (.iload_n 1, 1) := by decide +kernel
theorem dX5_rope_2 : decode cX5_rope 2 = .ok (.invokevirtual 144, 3) := by decide +kernel
theorem dX5_rope_5 : decode cX5_rope 5 = .ok (.ifCond .ne 5, 3) := by decide +kernel
theorem dX5_rope_8 : decode cX5_rope 8 = .ok (.iconst (-1), 1) := by decide +kernel
theorem dX5_rope_9 : decode cX5_rope 9 = .ok (.ireturn, 1) := by decide +kernel
theorem dX5_rope_10 : decode cX5_rope 10 = .ok (.iload_n 2, 1) := by decide +kernel
theorem dX5_rope_11 : decode cX5_rope 11 = .ok (.tableswitch 55 0 2 #[25, 35, 45], 25) := by decide +kernel
theorem dX5_rope_36 : decode cX5_rope 36 = .ok (.aload_n 0, 1) := by decide +kernel
theorem dX5_rope_37 : decode cX5_rope 37 = .ok (.getfield 10, 3) := by decide +kernel
theorem dX5_rope_40 : decode cX5_rope 40 = .ok (.getfield 147, 3) := by decide +kernel
theorem dX5_rope_43 : decode cX5_rope 43 = .ok (.iload_n 1, 1) := by decide +kernel
theorem dX5_rope_44 : decode cX5_rope 44 = .ok (.iaload, 1) := by decide +kernel
theorem dX5_rope_45 : decode cX5_rope 45 = .ok (.ireturn, 1) := by decide +kernel
theorem dX5_rope_46 : decode cX5_rope 46 = .ok (.aload_n 0, 1) := by decide +kernel
theorem dX5_rope_47 : decode cX5_rope 47 = .ok (.getfield 10, 3) := by decide +kernel
theorem dX5_rope_50 : decode cX5_rope 50 = .ok (.getfield 150, 3) := by decide +kernel
theorem dX5_rope_53 : decode cX5_rope 53 = .ok (.iload_n 1, 1) := by decide +kernel
theorem dX5_rope_54 : decode cX5_rope 54 = .ok (.iaload, 1) := by decide +kernel
theorem dX5_rope_55 : decode cX5_rope 55 = .ok (.ireturn, 1) := by decide +kernel
theorem dX5_rope_56 : decode cX5_rope 56 = .ok (.aload_n 0, 1) := by decide +kernel
theorem dX5_rope_57 : decode cX5_rope 57 = .ok (.getfield 10, 3) := by decide +kernel
theorem dX5_rope_60 : decode cX5_rope 60 = .ok (.getfield 153, 3) := by decide +kernel
theorem dX5_rope_63 : decode cX5_rope 63 = .ok (.iload_n 1, 1) := by decide +kernel
theorem dX5_rope_64 : decode cX5_rope 64 = .ok (.iaload, 1) := by decide +kernel
theorem dX5_rope_65 : decode cX5_rope 65 = .ok (.ireturn, 1) := by decide +kernel
theorem dX5_rope_66 : decode cX5_rope 66 = .ok (.iconst (-1), 1) := by decide +kernel
theorem dX5_rope_67 : decode cX5_rope 67 = .ok (.ireturn, 1) := by decide +kernel
theorem dX5_far_0 : decode cX5_far 0 = .ok (.aload_n 0, 1) := by decide +kernel
theorem dX5_far_1 : decode cX5_far 1 = .ok (.iload_n 1, 1) := by decide +kernel
theorem dX5_far_2 : decode cX5_far 2 = .ok (.iload_n 2, 1) := by decide +kernel
theorem dX5_far_3 : decode cX5_far 3 = .ok (.invokevirtual 136, 3) := by decide +kernel
theorem dX5_far_6 : decode cX5_far 6 = .ok (.ifCond .eq 28, 3) := by decide +kernel
theorem dX5_far_9 : decode cX5_far 9 = .ok (.aload_n 0, 1) := by decide +kernel
theorem dX5_far_10 : decode cX5_far 10 = .ok (.getfield 10, 3) := by decide +kernel
theorem dX5_far_13 : decode cX5_far 13 = .ok (.getfield 118, 3) := by decide +kernel
theorem dX5_far_16 : decode cX5_far 16 = .ok (.iload_n 1, 1) := by decide +kernel
theorem dX5_far_17 : decode cX5_far 17 = .ok (.iaload, 1) := by decide +kernel
theorem dX5_far_18 : decode cX5_far 18 = .ok (.aload_n 0, 1) := by decide +kernel
theorem dX5_far_19 : decode cX5_far 19 = .ok (.getfield 10, 3) := by decide +kernel
theorem dX5_far_22 : decode cX5_far 22 = .ok (.getfield 118, 3) := by decide +kernel
theorem dX5_far_25 : decode cX5_far 25 = .ok (.iload_n 2, 1) := by decide +kernel
theorem dX5_far_26 : decode cX5_far 26 = .ok (.iaload, 1) := by decide +kernel
theorem dX5_far_27 : decode cX5_far 27 = .ok (.isub, 1) := by decide +kernel
theorem dX5_far_28 : decode cX5_far 28 = .ok (.invokestatic 128, 3) := by decide +kernel
theorem dX5_far_31 : decode cX5_far 31 = .ok (.goto 4, 3) := by decide +kernel
theorem dX5_far_34 : decode cX5_far 34 = .ok (.iconst (-1), 1) := by decide +kernel
theorem dX5_far_35 : decode cX5_far 35 = .ok (.ireturn, 1) := by decide +kernel
theorem dX5_alter_0 : decode cX5_alter 0 = .ok (.aload_n 0, 1) := by decide +kernel
theorem dX5_alter_1 : decode cX5_alter 1 = .ok (.iload_n 1, 1) := by decide +kernel
theorem dX5_alter_2 : decode cX5_alter 2 = .ok (.invokevirtual 111, 3) := by decide +kernel
theorem dX5_alter_5 : decode cX5_alter 5 = .ok (.ifCond .ne 5, 3) := by decide +kernel
theorem dX5_alter_8 : decode cX5_alter 8 = .ok (.iconst (-1), 1) := by decide +kernel
theorem dX5_alter_9 : decode cX5_alter 9 = .ok (.ireturn, 1) := by decide +kernel
theorem dX5_alter_10 : decode cX5_alter 10 = .ok (.iload_n 2, 1) := by decide +kernel
theorem dX5_alter_11 : decode cX5_alter 11 = .ok (.ifCond .ne 36, 3) := by decide +kernel
theorem dX5_alter_14 : decode cX5_alter 14 = .ok (.iload_n 3, 1) := by decide +kernel
theorem dX5_alter_15 : decode cX5_alter 15 = .ok (.iconst 0, 1) := by decide +kernel
theorem dX5_alter_16 : decode cX5_alter 16 = .ok (.iconst 3, 1) := by decide +kernel
theorem dX5_alter_17 : decode cX5_alter 17 = .ok (.invokestatic 156, 3) := by decide +kernel
theorem dX5_alter_20 : decode cX5_alter 20 = .ok (.ifCond .eq 27, 3) := by decide +kernel
theorem dX5_alter_23 : decode cX5_alter 23 = .ok (.aload_n 0, 1) := by decide +kernel
theorem dX5_alter_24 : decode cX5_alter 24 = .ok (.getfield 10, 3) := by decide +kernel
theorem dX5_alter_27 : decode cX5_alter 27 = .ok (.getfield 115, 3) := by decide +kernel
theorem dX5_alter_30 : decode cX5_alter 30 = .ok (.iload_n 1, 1) := by decide +kernel
theorem dX5_alter_31 : decode cX5_alter 31 = .ok (.iaload, 1) := by decide +kernel
theorem dX5_alter_32 : decode cX5_alter 32 = .ok (.istore 4, 2) := by decide +kernel
theorem dX5_alter_34 : decode cX5_alter 34 = .ok (.aload_n 0, 1) := by decide +kernel
theorem dX5_alter_35 : decode cX5_alter 35 = .ok (.getfield 10, 3) := by decide +kernel
theorem dX5_alter_38 : decode cX5_alter 38 = .ok (.getfield 115, 3) := by decide +kernel
theorem dX5_alter_41 : decode cX5_alter 41 = .ok (.iload_n 1, 1) := by decide +kernel
theorem dX5_alter_42 : decode cX5_alter 42 = .ok (.iload_n 3, 1) := by decide +kernel
theorem dX5_alter_43 : decode cX5_alter 43 = .ok (.iastore, 1) := by decide +kernel
theorem dX5_alter_44 : decode cX5_alter 44 = .ok (.iload 4, 2) := by decide +kernel
theorem dX5_alter_46 : decode cX5_alter 46 = .ok (.ireturn, 1) := by decide +kernel
theorem dX5_alter_47 : decode cX5_alter 47 = .ok (.iload_n 2, 1) := by decide +kernel
theorem dX5_alter_48 : decode cX5_alter 48 = .ok (.iconst 1, 1) := by decide +kernel
theorem dX5_alter_49 : decode cX5_alter 49 = .ok (.if_icmp .ne 49, 3) := by decide +kernel
theorem dX5_alter_52 : decode cX5_alter 52 = .ok (.iload_n 3, 1) := by decide +kernel
theorem dX5_alter_53 : decode cX5_alter 53 = .ok (.iconst 0, 1) := by decide +kernel
theorem dX5_alter_54 : decode cX5_alter 54 = .ok (.bipush 99, 2) := by decide +kernel
theorem dX5_alter_56 : decode cX5_alter 56 = .ok (.invokestatic 156, 3) := by decide +kernel
theorem dX5_alter_59 : decode cX5_alter 59 = .ok (.ifCond .eq 39, 3) := by decide +kernel
theorem dX5_alter_62 : decode cX5_alter 62 = .ok (.aload_n 0, 1) := by decide +kernel
theorem dX5_alter_63 : decode cX5_alter 63 = .ok (.getfield 10, 3) := by decide +kernel
theorem dX5_alter_66 : decode cX5_alter 66 = .ok (.iload_n 3, 1) := by decide +kernel
theorem dX5_alter_67 : decode cX5_alter 67 = .ok (.iload_n 1, 1) := by decide +kernel
theorem dX5_alter_68 : decode cX5_alter 68 = .ok (.invokevirtual 160, 3) := by decide +kernel
theorem dX5_alter_71 : decode cX5_alter 71 = .ok (.ifCond .ne 27, 3) := by decide +kernel
theorem dX5_alter_74 : decode cX5_alter 74 = .ok (.aload_n 0, 1) := by decide +kernel
theorem dX5_alter_75 : decode cX5_alter 75 = .ok (.getfield 10, 3) := by decide +kernel
theorem dX5_alter_78 : decode cX5_alter 78 = .ok (.getfield 118, 3) := by decide +kernel
theorem dX5_alter_81 : decode cX5_alter 81 = .ok (.iload_n 1, 1) := by decide +kernel
theorem dX5_alter_82 : decode cX5_alter 82 = .ok (.iaload, 1) := by decide +kernel
theorem dX5_alter_83 : decode cX5_alter 83 = .ok (.istore 4, 2) := by decide +kernel
theorem dX5_alter_85 : decode cX5_alter 85 = .ok (.aload_n 0, 1) := by decide +kernel
theorem dX5_alter_86 : decode cX5_alter 86 = .ok (.getfield 10, 3) := by decide +kernel
theorem dX5_alter_89 : decode cX5_alter 89 = .ok (.getfield 118, 3) := by decide +kernel
theorem dX5_alter_92 : decode cX5_alter 92 = .ok (.iload_n 1, 1) := by decide +kernel
theorem dX5_alter_93 : decode cX5_alter 93 = .ok (.iload_n 3, 1) := by decide +kernel
theorem dX5_alter_94 : decode cX5_alter 94 = .ok (.iastore, 1) := by decide +kernel
theorem dX5_alter_95 : decode cX5_alter 95 = .ok (.iload 4, 2) := by decide +kernel
theorem dX5_alter_97 : decode cX5_alter 97 = .ok (.ireturn, 1) := by decide +kernel
theorem dX5_alter_98 : decode cX5_alter 98 = .ok (.iconst (-1), 1) := by decide +kernel
theorem dX5_alter_99 : decode cX5_alter 99 = .ok (.ireturn, 1) := by decide +kernel
theorem dX5_sulk_0 : decode cX5_sulk 0 = .ok (.aload_n 0, 1) := by decide +kernel
theorem dX5_sulk_1 : decode cX5_sulk 1 = .ok (.iload_n 1, 1) := by decide +kernel
theorem dX5_sulk_2 : decode cX5_sulk 2 = .ok (.iload_n 2, 1) := by decide +kernel
theorem dX5_sulk_3 : decode cX5_sulk 3 = .ok (.iload_n 3, 1) := by decide +kernel
theorem dX5_sulk_4 : decode cX5_sulk 4 = .ok (.invokevirtual 163, 3) := by decide +kernel
theorem dX5_sulk_7 : decode cX5_sulk 7 = .ok (.ifCond .ne 5, 3) := by decide +kernel
theorem dX5_sulk_10 : decode cX5_sulk 10 = .ok (.iconst (-1), 1) := by decide +kernel
theorem dX5_sulk_11 : decode cX5_sulk 11 = .ok (.ireturn, 1) := by decide +kernel
theorem dX5_sulk_12 : decode cX5_sulk 12 = .ok (.aload_n 0, 1) := by decide +kernel
theorem dX5_sulk_13 : decode cX5_sulk 13 = .ok (.getfield 10, 3) := by decide +kernel
theorem dX5_sulk_16 : decode cX5_sulk 16 = .ok (.iload_n 1, 1) := by decide +kernel
theorem dX5_sulk_17 : decode cX5_sulk 17 = .ok (.iload_n 2, 1) := by decide +kernel
theorem dX5_sulk_18 : decode cX5_sulk 18 = .ok (.invokevirtual 140, 3) := by decide +kernel
theorem dX5_sulk_21 : decode cX5_sulk 21 = .ok (.istore 4, 2) := by decide +kernel
theorem dX5_sulk_23 : decode cX5_sulk 23 = .ok (.aload_n 0, 1) := by decide +kernel
theorem dX5_sulk_24 : decode cX5_sulk 24 = .ok (.getfield 10, 3) := by decide +kernel
theorem dX5_sulk_27 : decode cX5_sulk 27 = .ok (.iload_n 1, 1) := by decide +kernel
theorem dX5_sulk_28 : decode cX5_sulk 28 = .ok (.iload_n 2, 1) := by decide +kernel
theorem dX5_sulk_29 : decode cX5_sulk 29 = .ok (.iload_n 3, 1) := by decide +kernel
theorem dX5_sulk_30 : decode cX5_sulk 30 = .ok (.invokevirtual 166, 3) := by decide +kernel
theorem dX5_sulk_33 : decode cX5_sulk 33 = .ok (.iload 4, 2) := by decide +kernel
theorem dX5_sulk_35 : decode cX5_sulk 35 = .ok (.ireturn, 1) := by decide +kernel
theorem dX5_haul_0 : decode cX5_haul 0 = .ok (.aload_n 0, 1) := by decide +kernel
theorem dX5_haul_1 : decode cX5_haul 1 = .ok (.iload_n 1, 1) := by decide +kernel
theorem dX5_haul_2 : decode cX5_haul 2 = .ok (.invokevirtual 144, 3) := by decide +kernel
theorem dX5_haul_5 : decode cX5_haul 5 = .ok (.ifCond .eq 13, 3) := by decide +kernel
theorem dX5_haul_8 : decode cX5_haul 8 = .ok (.iload_n 2, 1) := by decide +kernel
theorem dX5_haul_9 : decode cX5_haul 9 = .ok (.iconst 1, 1) := by decide +kernel
theorem dX5_haul_10 : decode cX5_haul 10 = .ok (.bipush 30, 2) := by decide +kernel
theorem dX5_haul_12 : decode cX5_haul 12 = .ok (.invokestatic 156, 3) := by decide +kernel
theorem dX5_haul_15 : decode cX5_haul 15 = .ok (.ifCond .ne 5, 3) := by decide +kernel
theorem dX5_haul_18 : decode cX5_haul 18 = .ok (.iconst (-1), 1) := by decide +kernel
theorem dX5_haul_19 : decode cX5_haul 19 = .ok (.ireturn, 1) := by decide +kernel
theorem dX5_haul_20 : decode cX5_haul 20 = .ok (.aload_n 0, 1) := by decide +kernel
theorem dX5_haul_21 : decode cX5_haul 21 = .ok (.getfield 10, 3) := by decide +kernel
theorem dX5_haul_24 : decode cX5_haul 24 = .ok (.getfield 153, 3) := by decide +kernel
theorem dX5_haul_27 : decode cX5_haul 27 = .ok (.iload_n 1, 1) := by decide +kernel
theorem dX5_haul_28 : decode cX5_haul 28 = .ok (.iaload, 1) := by decide +kernel
theorem dX5_haul_29 : decode cX5_haul 29 = .ok (.istore_n 3, 1) := by decide +kernel
theorem dX5_haul_30 : decode cX5_haul 30 = .ok (.aload_n 0, 1) := by decide +kernel
theorem dX5_haul_31 : decode cX5_haul 31 = .ok (.getfield 10, 3) := by decide +kernel
theorem dX5_haul_34 : decode cX5_haul 34 = .ok (.getfield 153, 3) := by decide +kernel
theorem dX5_haul_37 : decode cX5_haul 37 = .ok (.iload_n 1, 1) := by decide +kernel
theorem dX5_haul_38 : decode cX5_haul 38 = .ok (.iload_n 2, 1) := by decide +kernel
theorem dX5_haul_39 : decode cX5_haul 39 = .ok (.iastore, 1) := by decide +kernel
theorem dX5_haul_40 : decode cX5_haul 40 = .ok (.iload_n 3, 1) := by decide +kernel
theorem dX5_haul_41 : decode cX5_haul 41 = .ok (.ireturn, 1) := by decide +kernel
theorem dX5_wed_0 : decode cX5_wed 0 = .ok (.aload_n 0, 1) := by decide +kernel
theorem dX5_wed_1 : decode cX5_wed 1 = .ok (.iload_n 1, 1) := by decide +kernel
theorem dX5_wed_2 : decode cX5_wed 2 = .ok (.iload_n 2, 1) := by decide +kernel
theorem dX5_wed_3 : decode cX5_wed 3 = .ok (.invokevirtual 136, 3) := by decide +kernel
theorem dX5_wed_6 : decode cX5_wed 6 = .ok (.ifCond .eq 13, 3) := by decide +kernel
theorem dX5_wed_9 : decode cX5_wed 9 = .ok (.iload_n 3, 1) := by decide +kernel
theorem dX5_wed_10 : decode cX5_wed 10 = .ok (.iconst 1, 1) := by decide +kernel
theorem dX5_wed_11 : decode cX5_wed 11 = .ok (.bipush 30, 2) := by decide +kernel
theorem dX5_wed_13 : decode cX5_wed 13 = .ok (.invokestatic 156, 3) := by decide +kernel
theorem dX5_wed_16 : decode cX5_wed 16 = .ok (.ifCond .ne 5, 3) := by decide +kernel
theorem dX5_wed_19 : decode cX5_wed 19 = .ok (.iconst (-1), 1) := by decide +kernel
theorem dX5_wed_20 : decode cX5_wed 20 = .ok (.ireturn, 1) := by decide +kernel
theorem dX5_wed_21 : decode cX5_wed 21 = .ok (.aload_n 0, 1) := by decide +kernel
theorem dX5_wed_22 : decode cX5_wed 22 = .ok (.getfield 10, 3) := by decide +kernel
theorem dX5_wed_25 : decode cX5_wed 25 = .ok (.getfield 95, 3) := by decide +kernel
theorem dX5_wed_28 : decode cX5_wed 28 = .ok (.bipush 6, 2) := by decide +kernel
theorem dX5_wed_30 : decode cX5_wed 30 = .ok (.if_icmp .lt 6, 3) := by decide +kernel
theorem dX5_wed_33 : decode cX5_wed 33 = .ok (.bipush (-3), 2) := by decide +kernel
theorem dX5_wed_35 : decode cX5_wed 35 = .ok (.ireturn, 1) := by decide +kernel
theorem dX5_wed_36 : decode cX5_wed 36 = .ok (.aload_n 0, 1) := by decide +kernel
theorem dX5_wed_37 : decode cX5_wed 37 = .ok (.getfield 10, 3) := by decide +kernel
theorem dX5_wed_40 : decode cX5_wed 40 = .ok (.iload_n 1, 1) := by decide +kernel
theorem dX5_wed_41 : decode cX5_wed 41 = .ok (.iload_n 2, 1) := by decide +kernel
theorem dX5_wed_42 : decode cX5_wed 42 = .ok (.iload_n 3, 1) := by decide +kernel
theorem dX5_wed_43 : decode cX5_wed 43 = .ok (.invokevirtual 170, 3) := by decide +kernel
theorem dX5_wed_46 : decode cX5_wed 46 = .ok (.aload_n 0, 1) := by decide +kernel
theorem dX5_wed_47 : decode cX5_wed 47 = .ok (.getfield 10, 3) := by decide +kernel
theorem dX5_wed_50 : decode cX5_wed 50 = .ok (.getfield 95, 3) := by decide +kernel
theorem dX5_wed_53 : decode cX5_wed 53 = .ok (.ireturn, 1) := by decide +kernel
theorem dX5_loose_0 : decode cX5_loose 0 = .ok (.iload_n 1, 1) := by decide +kernel
theorem dX5_loose_1 : decode cX5_loose 1 = .ok (.ifCond .lt 14, 3) := by decide +kernel
theorem dX5_loose_4 : decode cX5_loose 4 = .ok (.iload_n 1, 1) := by decide +kernel
theorem dX5_loose_5 : decode cX5_loose 5 = .ok (.aload_n 0, 1) := by decide +kernel
theorem dX5_loose_6 : decode cX5_loose 6 = .ok (.getfield 10, 3) := by decide +kernel
theorem dX5_loose_9 : decode cX5_loose 9 = .ok (.getfield 95, 3) := by decide +kernel
theorem dX5_loose_12 : decode cX5_loose 12 = .ok (.if_icmp .le 5, 3) := by decide +kernel
theorem dX5_loose_15 : decode cX5_loose 15 = .ok (.iconst (-1), 1) := by decide +kernel
theorem dX5_loose_16 : decode cX5_loose 16 = .ok (.ireturn, 1) := by decide +kernel
theorem dX5_loose_17 : decode cX5_loose 17 = .ok (.aload_n 0, 1) := by decide +kernel
theorem dX5_loose_18 : decode cX5_loose 18 = .ok (.getfield 10, 3) := by decide +kernel
theorem dX5_loose_21 : decode cX5_loose 21 = .ok (.getfield 95, 3) := by decide +kernel
theorem dX5_loose_24 : decode cX5_loose 24 = .ok (.istore_n 2, 1) := by decide +kernel
theorem dX5_loose_25 : decode cX5_loose 25 = .ok (.aload_n 0, 1) := by decide +kernel
theorem dX5_loose_26 : decode cX5_loose 26 = .ok (.getfield 10, 3) := by decide +kernel
theorem dX5_loose_29 : decode cX5_loose 29 = .ok (.iload_n 1, 1) := by decide +kernel
theorem dX5_loose_30 : decode cX5_loose 30 = .ok (.putfield 95, 3) := by decide +kernel
theorem dX5_loose_33 : decode cX5_loose 33 = .ok (.iload_n 2, 1) := by decide +kernel
theorem dX5_loose_34 : decode cX5_loose 34 = .ok (.ireturn, 1) := by decide +kernel
theorem dX5_feast_0 : decode cX5_feast 0 = .ok (.iload_n 1, 1) := by decide +kernel
theorem dX5_feast_1 : decode cX5_feast 1 = .ok (.iconst 0, 1) := by decide +kernel
theorem dX5_feast_2 : decode cX5_feast 2 = .ok (.bipush 6, 2) := by decide +kernel
theorem dX5_feast_4 : decode cX5_feast 4 = .ok (.invokestatic 156, 3) := by decide +kernel
theorem dX5_feast_7 : decode cX5_feast 7 = .ok (.ifCond .ne 5, 3) := by decide +kernel
theorem dX5_feast_10 : decode cX5_feast 10 = .ok (.iconst (-1), 1) := by decide +kernel
theorem dX5_feast_11 : decode cX5_feast 11 = .ok (.ireturn, 1) := by decide +kernel
theorem dX5_feast_12 : decode cX5_feast 12 = .ok (.aload_n 0, 1) := by decide +kernel
theorem dX5_feast_13 : decode cX5_feast 13 = .ok (.getfield 10, 3) := by decide +kernel
theorem dX5_feast_16 : decode cX5_feast 16 = .ok (.getfield 101, 3) := by decide +kernel
theorem dX5_feast_19 : decode cX5_feast 19 = .ok (.istore_n 2, 1) := by decide +kernel
theorem dX5_feast_20 : decode cX5_feast 20 = .ok (.aload_n 0, 1) := by decide +kernel
theorem dX5_feast_21 : decode cX5_feast 21 = .ok (.getfield 10, 3) := by decide +kernel
theorem dX5_feast_24 : decode cX5_feast 24 = .ok (.iload_n 1, 1) := by decide +kernel
theorem dX5_feast_25 : decode cX5_feast 25 = .ok (.putfield 101, 3) := by decide +kernel
theorem dX5_feast_28 : decode cX5_feast 28 = .ok (.iload_n 2, 1) := by decide +kernel
theorem dX5_feast_29 : decode cX5_feast 29 = .ok (.ireturn, 1) := by decide +kernel
theorem dX5_days_0 : decode cX5_days 0 = .ok (.iload_n 1, 1) := by decide +kernel
theorem dX5_days_1 : decode cX5_days 1 = .ok (.iconst 0, 1) := by decide +kernel
theorem dX5_days_2 : decode cX5_days 2 = .ok (.bipush 30, 2) := by decide +kernel
theorem dX5_days_4 : decode cX5_days 4 = .ok (.invokestatic 156, 3) := by decide +kernel
theorem dX5_days_7 : decode cX5_days 7 = .ok (.ifCond .ne 5, 3) := by decide +kernel
theorem dX5_days_10 : decode cX5_days 10 = .ok (.iconst (-1), 1) := by decide +kernel
theorem dX5_days_11 : decode cX5_days 11 = .ok (.ireturn, 1) := by decide +kernel
theorem dX5_days_12 : decode cX5_days 12 = .ok (.aload_n 0, 1) := by decide +kernel
theorem dX5_days_13 : decode cX5_days 13 = .ok (.getfield 10, 3) := by decide +kernel
theorem dX5_days_16 : decode cX5_days 16 = .ok (.getfield 98, 3) := by decide +kernel
theorem dX5_days_19 : decode cX5_days 19 = .ok (.iload_n 1, 1) := by decide +kernel
theorem dX5_days_20 : decode cX5_days 20 = .ok (.iadd, 1) := by decide +kernel
theorem dX5_days_21 : decode cX5_days 21 = .ok (.sipush 1000, 3) := by decide +kernel
theorem dX5_days_24 : decode cX5_days 24 = .ok (.if_icmp .lt 6, 3) := by decide +kernel
theorem dX5_days_27 : decode cX5_days 27 = .ok (.bipush (-3), 2) := by decide +kernel
theorem dX5_days_29 : decode cX5_days 29 = .ok (.ireturn, 1) := by decide +kernel
theorem dX5_days_30 : decode cX5_days 30 = .ok (.aload_n 0, 1) := by decide +kernel
theorem dX5_days_31 : decode cX5_days 31 = .ok (.getfield 10, 3) := by decide +kernel
theorem dX5_days_34 : decode cX5_days 34 = .ok (.getfield 104, 3) := by decide +kernel
theorem dX5_days_37 : decode cX5_days 37 = .ok (.istore_n 2, 1) := by decide +kernel
theorem dX5_days_38 : decode cX5_days 38 = .ok (.aload_n 0, 1) := by decide +kernel
theorem dX5_days_39 : decode cX5_days 39 = .ok (.getfield 10, 3) := by decide +kernel
theorem dX5_days_42 : decode cX5_days 42 = .ok (.iload_n 1, 1) := by decide +kernel
theorem dX5_days_43 : decode cX5_days 43 = .ok (.invokevirtual 173, 3) := by decide +kernel
theorem dX5_days_46 : decode cX5_days 46 = .ok (.aload_n 0, 1) := by decide +kernel
theorem dX5_days_47 : decode cX5_days 47 = .ok (.getfield 10, 3) := by decide +kernel
theorem dX5_days_50 : decode cX5_days 50 = .ok (.getfield 104, 3) := by decide +kernel
theorem dX5_days_53 : decode cX5_days 53 = .ok (.iload_n 2, 1) := by decide +kernel
theorem dX5_days_54 : decode cX5_days 54 = .ok (.isub, 1) := by decide +kernel
theorem dX5_days_55 : decode cX5_days 55 = .ok (.ireturn, 1) := by decide +kernel
theorem dX5_runs_0 : decode cX5_runs 0 = .ok (.iload_n 1, 1) := by decide +kernel
theorem dX5_runs_1 : decode cX5_runs 1 = .ok (.iconst 0, 1) := by decide +kernel
theorem dX5_runs_2 : decode cX5_runs 2 = .ok (.bipush 60, 2) := by decide +kernel
theorem dX5_runs_4 : decode cX5_runs 4 = .ok (.invokestatic 156, 3) := by decide +kernel
theorem dX5_runs_7 : decode cX5_runs 7 = .ok (.ifCond .eq 12, 3) := by decide +kernel
theorem dX5_runs_10 : decode cX5_runs 10 = .ok (.iload_n 2, 1) := by decide +kernel
theorem dX5_runs_11 : decode cX5_runs 11 = .ok (.iconst 0, 1) := by decide +kernel
theorem dX5_runs_12 : decode cX5_runs 12 = .ok (.iconst 3, 1) := by decide +kernel
theorem dX5_runs_13 : decode cX5_runs 13 = .ok (.invokestatic 156, 3) := by decide +kernel
theorem dX5_runs_16 : decode cX5_runs 16 = .ok (.ifCond .ne 5, 3) := by decide +kernel
theorem dX5_runs_19 : decode cX5_runs 19 = .ok (.iconst (-1), 1) := by decide +kernel
theorem dX5_runs_20 : decode cX5_runs 20 = .ok (.ireturn, 1) := by decide +kernel
theorem dX5_runs_21 : decode cX5_runs 21 = .ok (.aload_n 0, 1) := by decide +kernel
theorem dX5_runs_22 : decode cX5_runs 22 = .ok (.invokevirtual 177, 3) := by decide +kernel
theorem dX5_runs_25 : decode cX5_runs 25 = .ok (.astore_n 3, 1) := by decide +kernel
theorem dX5_runs_26 : decode cX5_runs 26 = .ok (.aload_n 3, 1) := by decide +kernel
theorem dX5_runs_27 : decode cX5_runs 27 = .ok (.invokevirtual 107, 3) := by decide +kernel
theorem dX5_runs_30 : decode cX5_runs 30 = .ok (.istore 4, 2) := by decide +kernel
theorem dX5_runs_32 : decode cX5_runs 32 = .ok (.iconst 0, 1) := by decide +kernel
theorem dX5_runs_33 : decode cX5_runs 33 = .ok (.istore 5, 2) := by decide +kernel
theorem dX5_runs_35 : decode cX5_runs 35 = .ok (.iload 5, 2) := by decide +kernel
theorem dX5_runs_37 : decode cX5_runs 37 = .ok (.iload_n 1, 1) := by decide +kernel
theorem dX5_runs_38 : decode cX5_runs 38 = .ok (.if_icmp .ge 24, 3) := by decide +kernel
theorem dX5_runs_41 : decode cX5_runs 41 = .ok (.aload_n 3, 1) := by decide +kernel
theorem dX5_runs_42 : decode cX5_runs 42 = .ok (.invokevirtual 181, 3) := by decide +kernel
theorem dX5_runs_45 : decode cX5_runs 45 = .ok (.iload 4, 2) := by decide +kernel
theorem dX5_runs_47 : decode cX5_runs 47 = .ok (.aload_n 3, 1) := by decide +kernel
theorem dX5_runs_48 : decode cX5_runs 48 = .ok (.invokevirtual 107, 3) := by decide +kernel
theorem dX5_runs_51 : decode cX5_runs 51 = .ok (.invokestatic 184, 3) := by decide +kernel
theorem dX5_runs_54 : decode cX5_runs 54 = .ok (.istore 4, 2) := by decide +kernel
theorem dX5_runs_56 : decode cX5_runs 56 = .ok (.iinc 5 1, 3) := by decide +kernel
theorem dX5_runs_59 : decode cX5_runs 59 = .ok (.goto (-24), 3) := by decide +kernel
theorem dX5_runs_62 : decode cX5_runs 62 = .ok (.iload_n 2, 1) := by decide +kernel
theorem dX5_runs_63 : decode cX5_runs 63 = .ok (.tableswitch 46 0 2 #[25, 30, 43], 25) := by decide +kernel
theorem dX5_runs_88 : decode cX5_runs 88 = .ok (.aload_n 3, 1) := by decide +kernel
theorem dX5_runs_89 : decode cX5_runs 89 = .ok (.invokevirtual 107, 3) := by decide +kernel
theorem dX5_runs_92 : decode cX5_runs 92 = .ok (.ireturn, 1) := by decide +kernel
theorem dX5_runs_93 : decode cX5_runs 93 = .ok (.aload_n 3, 1) := by decide +kernel
theorem dX5_runs_94 : decode cX5_runs 94 = .ok (.getfield 104, 3) := by decide +kernel
theorem dX5_runs_97 : decode cX5_runs 97 = .ok (.aload_n 0, 1) := by decide +kernel
theorem dX5_runs_98 : decode cX5_runs 98 = .ok (.getfield 10, 3) := by decide +kernel
theorem dX5_runs_101 : decode cX5_runs 101 = .ok (.getfield 104, 3) := by decide +kernel
theorem dX5_runs_104 : decode cX5_runs 104 = .ok (.isub, 1) := by decide +kernel
theorem dX5_runs_105 : decode cX5_runs 105 = .ok (.ireturn, 1) := by decide +kernel
theorem dX5_runs_106 : decode cX5_runs 106 = .ok (.iload 4, 2) := by decide +kernel
theorem dX5_runs_108 : decode cX5_runs 108 = .ok (.ireturn, 1) := by decide +kernel
theorem dX5_runs_109 : decode cX5_runs 109 = .ok (.aload_n 3, 1) := by decide +kernel
theorem dX5_runs_110 : decode cX5_runs 110 = .ok (.aload_n 0, 1) := by decide +kernel
theorem dX5_runs_111 : decode cX5_runs 111 = .ok (.getfield 10, 3) := by decide +kernel
theorem dX5_runs_114 : decode cX5_runs 114 = .ok (.invokevirtual 187, 3) := by decide +kernel
theorem dX5_runs_117 : decode cX5_runs 117 = .ok (.ireturn, 1) := by decide +kernel
theorem dX5_ahead_0 : decode cX5_ahead 0 = .ok (.aload_n 0, 1) := by decide +kernel
theorem dX5_ahead_1 : decode cX5_ahead 1 = .ok (.iload_n 1, 1) := by decide +kernel
theorem dX5_ahead_2 : decode cX5_ahead 2 = .ok (.invokevirtual 111, 3) := by decide +kernel
theorem dX5_ahead_5 : decode cX5_ahead 5 = .ok (.ifCond .eq 13, 3) := by decide +kernel
theorem dX5_ahead_8 : decode cX5_ahead 8 = .ok (.iload_n 2, 1) := by decide +kernel
theorem dX5_ahead_9 : decode cX5_ahead 9 = .ok (.iconst 0, 1) := by decide +kernel
theorem dX5_ahead_10 : decode cX5_ahead 10 = .ok (.bipush 60, 2) := by decide +kernel
theorem dX5_ahead_12 : decode cX5_ahead 12 = .ok (.invokestatic 156, 3) := by decide +kernel
theorem dX5_ahead_15 : decode cX5_ahead 15 = .ok (.ifCond .ne 5, 3) := by decide +kernel
theorem dX5_ahead_18 : decode cX5_ahead 18 = .ok (.iconst (-1), 1) := by decide +kernel
theorem dX5_ahead_19 : decode cX5_ahead 19 = .ok (.ireturn, 1) := by decide +kernel
theorem dX5_ahead_20 : decode cX5_ahead 20 = .ok (.aload_n 0, 1) := by decide +kernel
theorem dX5_ahead_21 : decode cX5_ahead 21 = .ok (.invokevirtual 177, 3) := by decide +kernel
theorem dX5_ahead_24 : decode cX5_ahead 24 = .ok (.astore_n 3, 1) := by decide +kernel
theorem dX5_ahead_25 : decode cX5_ahead 25 = .ok (.aload_n 3, 1) := by decide +kernel
theorem dX5_ahead_26 : decode cX5_ahead 26 = .ok (.iload_n 2, 1) := by decide +kernel
theorem dX5_ahead_27 : decode cX5_ahead 27 = .ok (.invokevirtual 173, 3) := by decide +kernel
theorem dX5_ahead_30 : decode cX5_ahead 30 = .ok (.aload_n 3, 1) := by decide +kernel
theorem dX5_ahead_31 : decode cX5_ahead 31 = .ok (.getfield 118, 3) := by decide +kernel
theorem dX5_ahead_34 : decode cX5_ahead 34 = .ok (.iload_n 1, 1) := by decide +kernel
theorem dX5_ahead_35 : decode cX5_ahead 35 = .ok (.iaload, 1) := by decide +kernel
theorem dX5_ahead_36 : decode cX5_ahead 36 = .ok (.ireturn, 1) := by decide +kernel
theorem dX5_within_0 : decode cX5_within 0 = .ok (.iload_n 1, 1) := by decide +kernel
theorem dX5_within_1 : decode cX5_within 1 = .ok (.iconst 0, 1) := by decide +kernel
theorem dX5_within_2 : decode cX5_within 2 = .ok (.bipush 99, 2) := by decide +kernel
theorem dX5_within_4 : decode cX5_within 4 = .ok (.invokestatic 156, 3) := by decide +kernel
theorem dX5_within_7 : decode cX5_within 7 = .ok (.ifCond .ne 5, 3) := by decide +kernel
theorem dX5_within_10 : decode cX5_within 10 = .ok (.iconst (-1), 1) := by decide +kernel
theorem dX5_within_11 : decode cX5_within 11 = .ok (.ireturn, 1) := by decide +kernel
theorem dX5_within_12 : decode cX5_within 12 = .ok (.aload_n 0, 1) := by decide +kernel
theorem dX5_within_13 : decode cX5_within 13 = .ok (.invokevirtual 177, 3) := by decide +kernel
theorem dX5_within_16 : decode cX5_within 16 = .ok (.astore_n 2, 1) := by decide +kernel
theorem dX5_within_17 : decode cX5_within 17 = .ok (.iconst 0, 1) := by decide +kernel
theorem dX5_within_18 : decode cX5_within 18 = .ok (.istore_n 3, 1) := by decide +kernel
theorem dX5_within_19 : decode cX5_within 19 = .ok (.iload_n 3, 1) := by decide +kernel
theorem dX5_within_20 : decode cX5_within 20 = .ok (.bipush 60, 2) := by decide +kernel
theorem dX5_within_22 : decode cX5_within 22 = .ok (.if_icmp .gt 23, 3) := by decide +kernel
theorem dX5_within_25 : decode cX5_within 25 = .ok (.aload_n 2, 1) := by decide +kernel
theorem dX5_within_26 : decode cX5_within 26 = .ok (.invokevirtual 107, 3) := by decide +kernel
theorem dX5_within_29 : decode cX5_within 29 = .ok (.iload_n 1, 1) := by decide +kernel
theorem dX5_within_30 : decode cX5_within 30 = .ok (.if_icmp .gt 5, 3) := by decide +kernel
theorem dX5_within_33 : decode cX5_within 33 = .ok (.iload_n 3, 1) := by decide +kernel
theorem dX5_within_34 : decode cX5_within 34 = .ok (.ireturn, 1) := by decide +kernel
theorem dX5_within_35 : decode cX5_within 35 = .ok (.aload_n 2, 1) := by decide +kernel
theorem dX5_within_36 : decode cX5_within 36 = .ok (.invokevirtual 181, 3) := by decide +kernel
theorem dX5_within_39 : decode cX5_within 39 = .ok (.iinc 3 1, 3) := by decide +kernel
theorem dX5_within_42 : decode cX5_within 42 = .ok (.goto (-23), 3) := by decide +kernel
theorem dX5_within_45 : decode cX5_within 45 = .ok (.bipush (-4), 2) := by decide +kernel
theorem dX5_within_47 : decode cX5_within 47 = .ok (.ireturn, 1) := by decide +kernel
theorem dX5_match_0 : decode cX5_match 0 = .ok (.iload_n 1, 1) := by decide +kernel
theorem dX5_match_1 : decode cX5_match 1 = .ok (.iconst 1, 1) := by decide +kernel
theorem dX5_match_2 : decode cX5_match 2 = .ok (.bipush 30, 2) := by decide +kernel
theorem dX5_match_4 : decode cX5_match 4 = .ok (.invokestatic 156, 3) := by decide +kernel
theorem dX5_match_7 : decode cX5_match 7 = .ok (.ifCond .eq 12, 3) := by decide +kernel
theorem dX5_match_10 : decode cX5_match 10 = .ok (.iload_n 2, 1) := by decide +kernel
theorem dX5_match_11 : decode cX5_match 11 = .ok (.iconst 0, 1) := by decide +kernel
theorem dX5_match_12 : decode cX5_match 12 = .ok (.iconst 1, 1) := by decide +kernel
theorem dX5_match_13 : decode cX5_match 13 = .ok (.invokestatic 156, 3) := by decide +kernel
theorem dX5_match_16 : decode cX5_match 16 = .ok (.ifCond .ne 5, 3) := by decide +kernel
theorem dX5_match_19 : decode cX5_match 19 = .ok (.iconst (-1), 1) := by decide +kernel
theorem dX5_match_20 : decode cX5_match 20 = .ok (.ireturn, 1) := by decide +kernel
theorem dX5_match_21 : decode cX5_match 21 = .ok (.aload_n 0, 1) := by decide +kernel
theorem dX5_match_22 : decode cX5_match 22 = .ok (.getfield 10, 3) := by decide +kernel
theorem dX5_match_25 : decode cX5_match 25 = .ok (.getfield 95, 3) := by decide +kernel
theorem dX5_match_28 : decode cX5_match 28 = .ok (.bipush 6, 2) := by decide +kernel
theorem dX5_match_30 : decode cX5_match 30 = .ok (.if_icmp .lt 6, 3) := by decide +kernel
theorem dX5_match_33 : decode cX5_match 33 = .ok (.bipush (-3), 2) := by decide +kernel
theorem dX5_match_35 : decode cX5_match 35 = .ok (.ireturn, 1) := by decide +kernel
theorem dX5_match_36 : decode cX5_match 36 = .ok (.aload_n 0, 1) := by decide +kernel
theorem dX5_match_37 : decode cX5_match 37 = .ok (.invokevirtual 177, 3) := by decide +kernel
theorem dX5_match_40 : decode cX5_match 40 = .ok (.bipush 30, 2) := by decide +kernel
theorem dX5_match_42 : decode cX5_match 42 = .ok (.invokevirtual 191, 3) := by decide +kernel
theorem dX5_match_45 : decode cX5_match 45 = .ok (.istore_n 3, 1) := by decide +kernel
theorem dX5_match_46 : decode cX5_match 46 = .ok (.bipush (-4), 2) := by decide +kernel
theorem dX5_match_48 : decode cX5_match 48 = .ok (.istore 4, 2) := by decide +kernel
theorem dX5_match_50 : decode cX5_match 50 = .ok (.iconst 0, 1) := by decide +kernel
theorem dX5_match_51 : decode cX5_match 51 = .ok (.istore 5, 2) := by decide +kernel
theorem dX5_match_53 : decode cX5_match 53 = .ok (.iload 5, 2) := by decide +kernel
theorem dX5_match_55 : decode cX5_match 55 = .ok (.aload_n 0, 1) := by decide +kernel
theorem dX5_match_56 : decode cX5_match 56 = .ok (.getfield 10, 3) := by decide +kernel
theorem dX5_match_59 : decode cX5_match 59 = .ok (.getfield 92, 3) := by decide +kernel
theorem dX5_match_62 : decode cX5_match 62 = .ok (.if_icmp .ge 77, 3) := by decide +kernel
theorem dX5_match_65 : decode cX5_match 65 = .ok (.iload 5, 2) := by decide +kernel
theorem dX5_match_67 : decode cX5_match 67 = .ok (.iconst 1, 1) := by decide +kernel
theorem dX5_match_68 : decode cX5_match 68 = .ok (.iadd, 1) := by decide +kernel
theorem dX5_match_69 : decode cX5_match 69 = .ok (.istore 6, 2) := by decide +kernel
theorem dX5_match_71 : decode cX5_match 71 = .ok (.iload 6, 2) := by decide +kernel
theorem dX5_match_73 : decode cX5_match 73 = .ok (.aload_n 0, 1) := by decide +kernel
theorem dX5_match_74 : decode cX5_match 74 = .ok (.getfield 10, 3) := by decide +kernel
theorem dX5_match_77 : decode cX5_match 77 = .ok (.getfield 92, 3) := by decide +kernel
theorem dX5_match_80 : decode cX5_match 80 = .ok (.if_icmp .ge 53, 3) := by decide +kernel
theorem dX5_match_83 : decode cX5_match 83 = .ok (.aload_n 0, 1) := by decide +kernel
theorem dX5_match_84 : decode cX5_match 84 = .ok (.invokevirtual 177, 3) := by decide +kernel
theorem dX5_match_87 : decode cX5_match 87 = .ok (.astore 7, 2) := by decide +kernel
theorem dX5_match_89 : decode cX5_match 89 = .ok (.aload 7, 2) := by decide +kernel
theorem dX5_match_91 : decode cX5_match 91 = .ok (.iload 5, 2) := by decide +kernel
theorem dX5_match_93 : decode cX5_match 93 = .ok (.iload 6, 2) := by decide +kernel
theorem dX5_match_95 : decode cX5_match 95 = .ok (.iload_n 1, 1) := by decide +kernel
theorem dX5_match_96 : decode cX5_match 96 = .ok (.invokevirtual 170, 3) := by decide +kernel
theorem dX5_match_99 : decode cX5_match 99 = .ok (.aload 7, 2) := by decide +kernel
theorem dX5_match_101 : decode cX5_match 101 = .ok (.bipush 30, 2) := by decide +kernel
theorem dX5_match_103 : decode cX5_match 103 = .ok (.invokevirtual 191, 3) := by decide +kernel
theorem dX5_match_106 : decode cX5_match 106 = .ok (.istore 8, 2) := by decide +kernel
theorem dX5_match_108 : decode cX5_match 108 = .ok (.iload 8, 2) := by decide +kernel
theorem dX5_match_110 : decode cX5_match 110 = .ok (.iload_n 3, 1) := by decide +kernel
theorem dX5_match_111 : decode cX5_match 111 = .ok (.if_icmp .ge 16, 3) := by decide +kernel
theorem dX5_match_114 : decode cX5_match 114 = .ok (.iload 8, 2) := by decide +kernel
theorem dX5_match_116 : decode cX5_match 116 = .ok (.istore_n 3, 1) := by decide +kernel
theorem dX5_match_117 : decode cX5_match 117 = .ok (.bipush 10, 2) := by decide +kernel
theorem dX5_match_119 : decode cX5_match 119 = .ok (.iload 5, 2) := by decide +kernel
theorem dX5_match_121 : decode cX5_match 121 = .ok (.imul, 1) := by decide +kernel
theorem dX5_match_122 : decode cX5_match 122 = .ok (.iload 6, 2) := by decide +kernel
theorem dX5_match_124 : decode cX5_match 124 = .ok (.iadd, 1) := by decide +kernel
theorem dX5_match_125 : decode cX5_match 125 = .ok (.istore 4, 2) := by decide +kernel
theorem dX5_match_127 : decode cX5_match 127 = .ok (.iinc 6 1, 3) := by decide +kernel
theorem dX5_match_130 : decode cX5_match 130 = .ok (.goto (-59), 3) := by decide +kernel
theorem dX5_match_133 : decode cX5_match 133 = .ok (.iinc 5 1, 3) := by decide +kernel
theorem dX5_match_136 : decode cX5_match 136 = .ok (.goto (-83), 3) := by decide +kernel
theorem dX5_match_139 : decode cX5_match 139 = .ok (.iload 4, 2) := by decide +kernel
theorem dX5_match_141 : decode cX5_match 141 = .ok (.iload_n 3, 1) := by decide +kernel
theorem dX5_match_142 : decode cX5_match 142 = .ok (.iload_n 2, 1) := by decide +kernel
theorem dX5_match_143 : decode cX5_match 143 = .ok (.invokestatic 194, 3) := by decide +kernel
theorem dX5_match_146 : decode cX5_match 146 = .ok (.ireturn, 1) := by decide +kernel
theorem dX5_fray_0 : decode cX5_fray 0 = .ok (.iload_n 1, 1) := by decide +kernel
theorem dX5_fray_1 : decode cX5_fray 1 = .ok (.iconst 0, 1) := by decide +kernel
theorem dX5_fray_2 : decode cX5_fray 2 = .ok (.iconst 1, 1) := by decide +kernel
theorem dX5_fray_3 : decode cX5_fray 3 = .ok (.invokestatic 156, 3) := by decide +kernel
theorem dX5_fray_6 : decode cX5_fray 6 = .ok (.ifCond .ne 5, 3) := by decide +kernel
theorem dX5_fray_9 : decode cX5_fray 9 = .ok (.iconst (-1), 1) := by decide +kernel
theorem dX5_fray_10 : decode cX5_fray 10 = .ok (.ireturn, 1) := by decide +kernel
theorem dX5_fray_11 : decode cX5_fray 11 = .ok (.aload_n 0, 1) := by decide +kernel
theorem dX5_fray_12 : decode cX5_fray 12 = .ok (.invokevirtual 177, 3) := by decide +kernel
theorem dX5_fray_15 : decode cX5_fray 15 = .ok (.bipush 30, 2) := by decide +kernel
theorem dX5_fray_17 : decode cX5_fray 17 = .ok (.invokevirtual 198, 3) := by decide +kernel
theorem dX5_fray_20 : decode cX5_fray 20 = .ok (.istore_n 2, 1) := by decide +kernel
theorem dX5_fray_21 : decode cX5_fray 21 = .ok (.bipush (-4), 2) := by decide +kernel
theorem dX5_fray_23 : decode cX5_fray 23 = .ok (.istore_n 3, 1) := by decide +kernel
theorem dX5_fray_24 : decode cX5_fray 24 = .ok (.iconst 0, 1) := by decide +kernel
theorem dX5_fray_25 : decode cX5_fray 25 = .ok (.istore 4, 2) := by decide +kernel
theorem dX5_fray_27 : decode cX5_fray 27 = .ok (.iload 4, 2) := by decide +kernel
theorem dX5_fray_29 : decode cX5_fray 29 = .ok (.aload_n 0, 1) := by decide +kernel
theorem dX5_fray_30 : decode cX5_fray 30 = .ok (.getfield 10, 3) := by decide +kernel
theorem dX5_fray_33 : decode cX5_fray 33 = .ok (.getfield 95, 3) := by decide +kernel
theorem dX5_fray_36 : decode cX5_fray 36 = .ok (.if_icmp .ge 43, 3) := by decide +kernel
theorem dX5_fray_39 : decode cX5_fray 39 = .ok (.aload_n 0, 1) := by decide +kernel
theorem dX5_fray_40 : decode cX5_fray 40 = .ok (.invokevirtual 177, 3) := by decide +kernel
theorem dX5_fray_43 : decode cX5_fray 43 = .ok (.astore 5, 2) := by decide +kernel
theorem dX5_fray_45 : decode cX5_fray 45 = .ok (.aload 5, 2) := by decide +kernel
theorem dX5_fray_47 : decode cX5_fray 47 = .ok (.iload 4, 2) := by decide +kernel
theorem dX5_fray_49 : decode cX5_fray 49 = .ok (.invokevirtual 201, 3) := by decide +kernel
theorem dX5_fray_52 : decode cX5_fray 52 = .ok (.aload 5, 2) := by decide +kernel
theorem dX5_fray_54 : decode cX5_fray 54 = .ok (.bipush 30, 2) := by decide +kernel
theorem dX5_fray_56 : decode cX5_fray 56 = .ok (.invokevirtual 198, 3) := by decide +kernel
theorem dX5_fray_59 : decode cX5_fray 59 = .ok (.istore 6, 2) := by decide +kernel
theorem dX5_fray_61 : decode cX5_fray 61 = .ok (.iload 6, 2) := by decide +kernel
theorem dX5_fray_63 : decode cX5_fray 63 = .ok (.iload_n 2, 1) := by decide +kernel
theorem dX5_fray_64 : decode cX5_fray 64 = .ok (.if_icmp .ge 9, 3) := by decide +kernel
theorem dX5_fray_67 : decode cX5_fray 67 = .ok (.iload 6, 2) := by decide +kernel
theorem dX5_fray_69 : decode cX5_fray 69 = .ok (.istore_n 2, 1) := by decide +kernel
theorem dX5_fray_70 : decode cX5_fray 70 = .ok (.iload 4, 2) := by decide +kernel
theorem dX5_fray_72 : decode cX5_fray 72 = .ok (.istore_n 3, 1) := by decide +kernel
theorem dX5_fray_73 : decode cX5_fray 73 = .ok (.iinc 4 1, 3) := by decide +kernel
theorem dX5_fray_76 : decode cX5_fray 76 = .ok (.goto (-49), 3) := by decide +kernel
theorem dX5_fray_79 : decode cX5_fray 79 = .ok (.iload_n 3, 1) := by decide +kernel
theorem dX5_fray_80 : decode cX5_fray 80 = .ok (.iload_n 2, 1) := by decide +kernel
theorem dX5_fray_81 : decode cX5_fray 81 = .ok (.iload_n 1, 1) := by decide +kernel
theorem dX5_fray_82 : decode cX5_fray 82 = .ok (.invokestatic 194, 3) := by decide +kernel
theorem dX5_fray_85 : decode cX5_fray 85 = .ok (.ireturn, 1) := by decide +kernel
theorem dX5_soothe_0 : decode cX5_soothe 0 = .ok (.iload_n 1, 1) := by decide +kernel
theorem dX5_soothe_1 : decode cX5_soothe 1 = .ok (.iconst 0, 1) := by decide +kernel
theorem dX5_soothe_2 : decode cX5_soothe 2 = .ok (.iconst 1, 1) := by decide +kernel
theorem dX5_soothe_3 : decode cX5_soothe 3 = .ok (.invokestatic 156, 3) := by decide +kernel
theorem dX5_soothe_6 : decode cX5_soothe 6 = .ok (.ifCond .ne 5, 3) := by decide +kernel
theorem dX5_soothe_9 : decode cX5_soothe 9 = .ok (.iconst (-1), 1) := by decide +kernel
theorem dX5_soothe_10 : decode cX5_soothe 10 = .ok (.ireturn, 1) := by decide +kernel
theorem dX5_soothe_11 : decode cX5_soothe 11 = .ok (.aload_n 0, 1) := by decide +kernel
theorem dX5_soothe_12 : decode cX5_soothe 12 = .ok (.invokevirtual 177, 3) := by decide +kernel
theorem dX5_soothe_15 : decode cX5_soothe 15 = .ok (.bipush 30, 2) := by decide +kernel
theorem dX5_soothe_17 : decode cX5_soothe 17 = .ok (.invokevirtual 191, 3) := by decide +kernel
theorem dX5_soothe_20 : decode cX5_soothe 20 = .ok (.istore_n 2, 1) := by decide +kernel
theorem dX5_soothe_21 : decode cX5_soothe 21 = .ok (.bipush (-4), 2) := by decide +kernel
theorem dX5_soothe_23 : decode cX5_soothe 23 = .ok (.istore_n 3, 1) := by decide +kernel
theorem dX5_soothe_24 : decode cX5_soothe 24 = .ok (.iconst 0, 1) := by decide +kernel
theorem dX5_soothe_25 : decode cX5_soothe 25 = .ok (.istore 4, 2) := by decide +kernel
theorem dX5_soothe_27 : decode cX5_soothe 27 = .ok (.iload 4, 2) := by decide +kernel
theorem dX5_soothe_29 : decode cX5_soothe 29 = .ok (.aload_n 0, 1) := by decide +kernel
theorem dX5_soothe_30 : decode cX5_soothe 30 = .ok (.getfield 10, 3) := by decide +kernel
theorem dX5_soothe_33 : decode cX5_soothe 33 = .ok (.getfield 92, 3) := by decide +kernel
theorem dX5_soothe_36 : decode cX5_soothe 36 = .ok (.if_icmp .ge 97, 3) := by decide +kernel
theorem dX5_soothe_39 : decode cX5_soothe 39 = .ok (.iconst 0, 1) := by decide +kernel
theorem dX5_soothe_40 : decode cX5_soothe 40 = .ok (.istore 5, 2) := by decide +kernel
theorem dX5_soothe_42 : decode cX5_soothe 42 = .ok (.iload 5, 2) := by decide +kernel
theorem dX5_soothe_44 : decode cX5_soothe 44 = .ok (.aload_n 0, 1) := by decide +kernel
theorem dX5_soothe_45 : decode cX5_soothe 45 = .ok (.getfield 10, 3) := by decide +kernel
theorem dX5_soothe_48 : decode cX5_soothe 48 = .ok (.getfield 92, 3) := by decide +kernel
theorem dX5_soothe_51 : decode cX5_soothe 51 = .ok (.if_icmp .ge 76, 3) := by decide +kernel
theorem dX5_soothe_54 : decode cX5_soothe 54 = .ok (.iload 4, 2) := by decide +kernel
theorem dX5_soothe_56 : decode cX5_soothe 56 = .ok (.iload 5, 2) := by decide +kernel
theorem dX5_soothe_58 : decode cX5_soothe 58 = .ok (.if_icmp .eq 63, 3) := by decide +kernel
theorem dX5_soothe_61 : decode cX5_soothe 61 = .ok (.aload_n 0, 1) := by decide +kernel
theorem dX5_soothe_62 : decode cX5_soothe 62 = .ok (.getfield 10, 3) := by decide +kernel
theorem dX5_soothe_65 : decode cX5_soothe 65 = .ok (.iload 4, 2) := by decide +kernel
theorem dX5_soothe_67 : decode cX5_soothe 67 = .ok (.iload 5, 2) := by decide +kernel
theorem dX5_soothe_69 : decode cX5_soothe 69 = .ok (.invokevirtual 140, 3) := by decide +kernel
theorem dX5_soothe_72 : decode cX5_soothe 72 = .ok (.ifCond .ne 6, 3) := by decide +kernel
theorem dX5_soothe_75 : decode cX5_soothe 75 = .ok (.goto 46, 3) := by decide +kernel
theorem dX5_soothe_78 : decode cX5_soothe 78 = .ok (.aload_n 0, 1) := by decide +kernel
theorem dX5_soothe_79 : decode cX5_soothe 79 = .ok (.invokevirtual 177, 3) := by decide +kernel
theorem dX5_soothe_82 : decode cX5_soothe 82 = .ok (.astore 6, 2) := by decide +kernel
theorem dX5_soothe_84 : decode cX5_soothe 84 = .ok (.aload 6, 2) := by decide +kernel
theorem dX5_soothe_86 : decode cX5_soothe 86 = .ok (.iload 4, 2) := by decide +kernel
theorem dX5_soothe_88 : decode cX5_soothe 88 = .ok (.iload 5, 2) := by decide +kernel
theorem dX5_soothe_90 : decode cX5_soothe 90 = .ok (.iconst 0, 1) := by decide +kernel
theorem dX5_soothe_91 : decode cX5_soothe 91 = .ok (.invokevirtual 166, 3) := by decide +kernel
theorem dX5_soothe_94 : decode cX5_soothe 94 = .ok (.aload 6, 2) := by decide +kernel
theorem dX5_soothe_96 : decode cX5_soothe 96 = .ok (.bipush 30, 2) := by decide +kernel
theorem dX5_soothe_98 : decode cX5_soothe 98 = .ok (.invokevirtual 191, 3) := by decide +kernel
theorem dX5_soothe_101 : decode cX5_soothe 101 = .ok (.istore 7, 2) := by decide +kernel
theorem dX5_soothe_103 : decode cX5_soothe 103 = .ok (.iload 7, 2) := by decide +kernel
theorem dX5_soothe_105 : decode cX5_soothe 105 = .ok (.iload_n 2, 1) := by decide +kernel
theorem dX5_soothe_106 : decode cX5_soothe 106 = .ok (.if_icmp .ge 15, 3) := by decide +kernel
theorem dX5_soothe_109 : decode cX5_soothe 109 = .ok (.iload 7, 2) := by decide +kernel
theorem dX5_soothe_111 : decode cX5_soothe 111 = .ok (.istore_n 2, 1) := by decide +kernel
theorem dX5_soothe_112 : decode cX5_soothe 112 = .ok (.bipush 10, 2) := by decide +kernel
theorem dX5_soothe_114 : decode cX5_soothe 114 = .ok (.iload 4, 2) := by decide +kernel
theorem dX5_soothe_116 : decode cX5_soothe 116 = .ok (.imul, 1) := by decide +kernel
theorem dX5_soothe_117 : decode cX5_soothe 117 = .ok (.iload 5, 2) := by decide +kernel
theorem dX5_soothe_119 : decode cX5_soothe 119 = .ok (.iadd, 1) := by decide +kernel
theorem dX5_soothe_120 : decode cX5_soothe 120 = .ok (.istore_n 3, 1) := by decide +kernel
theorem dX5_soothe_121 : decode cX5_soothe 121 = .ok (.iinc 5 1, 3) := by decide +kernel
theorem dX5_soothe_124 : decode cX5_soothe 124 = .ok (.goto (-82), 3) := by decide +kernel
theorem dX5_soothe_127 : decode cX5_soothe 127 = .ok (.iinc 4 1, 3) := by decide +kernel
theorem dX5_soothe_130 : decode cX5_soothe 130 = .ok (.goto (-103), 3) := by decide +kernel
theorem dX5_soothe_133 : decode cX5_soothe 133 = .ok (.iload_n 3, 1) := by decide +kernel
theorem dX5_soothe_134 : decode cX5_soothe 134 = .ok (.iload_n 2, 1) := by decide +kernel
theorem dX5_soothe_135 : decode cX5_soothe 135 = .ok (.iload_n 1, 1) := by decide +kernel
theorem dX5_soothe_136 : decode cX5_soothe 136 = .ok (.invokestatic 194, 3) := by decide +kernel
theorem dX5_soothe_139 : decode cX5_soothe 139 = .ok (.ireturn, 1) := by decide +kernel
theorem dX5_holy_0 : decode cX5_holy 0 = .ok (.iload_n 1, 1) := by decide +kernel
theorem dX5_holy_1 : decode cX5_holy 1 = .ok (.iconst 0, 1) := by decide +kernel
theorem dX5_holy_2 : decode cX5_holy 2 = .ok (.bipush 60, 2) := by decide +kernel
theorem dX5_holy_4 : decode cX5_holy 4 = .ok (.invokestatic 156, 3) := by decide +kernel
theorem dX5_holy_7 : decode cX5_holy 7 = .ok (.ifCond .eq 12, 3) := by decide +kernel
theorem dX5_holy_10 : decode cX5_holy 10 = .ok (.iload_n 2, 1) := by decide +kernel
theorem dX5_holy_11 : decode cX5_holy 11 = .ok (.iconst 0, 1) := by decide +kernel
theorem dX5_holy_12 : decode cX5_holy 12 = .ok (.iconst 1, 1) := by decide +kernel
theorem dX5_holy_13 : decode cX5_holy 13 = .ok (.invokestatic 156, 3) := by decide +kernel
theorem dX5_holy_16 : decode cX5_holy 16 = .ok (.ifCond .ne 5, 3) := by decide +kernel
theorem dX5_holy_19 : decode cX5_holy 19 = .ok (.iconst (-1), 1) := by decide +kernel
theorem dX5_holy_20 : decode cX5_holy 20 = .ok (.ireturn, 1) := by decide +kernel
theorem dX5_holy_21 : decode cX5_holy 21 = .ok (.bipush 100, 2) := by decide +kernel
theorem dX5_holy_23 : decode cX5_holy 23 = .ok (.istore_n 3, 1) := by decide +kernel
theorem dX5_holy_24 : decode cX5_holy 24 = .ok (.bipush (-4), 2) := by decide +kernel
theorem dX5_holy_26 : decode cX5_holy 26 = .ok (.istore 4, 2) := by decide +kernel
theorem dX5_holy_28 : decode cX5_holy 28 = .ok (.iconst 0, 1) := by decide +kernel
theorem dX5_holy_29 : decode cX5_holy 29 = .ok (.istore 5, 2) := by decide +kernel
theorem dX5_holy_31 : decode cX5_holy 31 = .ok (.iload 5, 2) := by decide +kernel
theorem dX5_holy_33 : decode cX5_holy 33 = .ok (.bipush 7, 2) := by decide +kernel
theorem dX5_holy_35 : decode cX5_holy 35 = .ok (.if_icmp .ge 43, 3) := by decide +kernel
theorem dX5_holy_38 : decode cX5_holy 38 = .ok (.aload_n 0, 1) := by decide +kernel
theorem dX5_holy_39 : decode cX5_holy 39 = .ok (.invokevirtual 177, 3) := by decide +kernel
theorem dX5_holy_42 : decode cX5_holy 42 = .ok (.astore 6, 2) := by decide +kernel
theorem dX5_holy_44 : decode cX5_holy 44 = .ok (.aload 6, 2) := by decide +kernel
theorem dX5_holy_46 : decode cX5_holy 46 = .ok (.iload 5, 2) := by decide +kernel
theorem dX5_holy_48 : decode cX5_holy 48 = .ok (.putfield 101, 3) := by decide +kernel
theorem dX5_holy_51 : decode cX5_holy 51 = .ok (.aload 6, 2) := by decide +kernel
theorem dX5_holy_53 : decode cX5_holy 53 = .ok (.iload_n 1, 1) := by decide +kernel
theorem dX5_holy_54 : decode cX5_holy 54 = .ok (.invokevirtual 191, 3) := by decide +kernel
theorem dX5_holy_57 : decode cX5_holy 57 = .ok (.istore 7, 2) := by decide +kernel
theorem dX5_holy_59 : decode cX5_holy 59 = .ok (.iload 7, 2) := by decide +kernel
theorem dX5_holy_61 : decode cX5_holy 61 = .ok (.iload_n 3, 1) := by decide +kernel
theorem dX5_holy_62 : decode cX5_holy 62 = .ok (.if_icmp .ge 10, 3) := by decide +kernel
theorem dX5_holy_65 : decode cX5_holy 65 = .ok (.iload 7, 2) := by decide +kernel
theorem dX5_holy_67 : decode cX5_holy 67 = .ok (.istore_n 3, 1) := by decide +kernel
theorem dX5_holy_68 : decode cX5_holy 68 = .ok (.iload 5, 2) := by decide +kernel
theorem dX5_holy_70 : decode cX5_holy 70 = .ok (.istore 4, 2) := by decide +kernel
theorem dX5_holy_72 : decode cX5_holy 72 = .ok (.iinc 5 1, 3) := by decide +kernel
theorem dX5_holy_75 : decode cX5_holy 75 = .ok (.goto (-44), 3) := by decide +kernel
theorem dX5_holy_78 : decode cX5_holy 78 = .ok (.iload 4, 2) := by decide +kernel
theorem dX5_holy_80 : decode cX5_holy 80 = .ok (.iload_n 3, 1) := by decide +kernel
theorem dX5_holy_81 : decode cX5_holy 81 = .ok (.iload_n 2, 1) := by decide +kernel
theorem dX5_holy_82 : decode cX5_holy 82 = .ok (.invokestatic 194, 3) := by decide +kernel
theorem dX5_holy_85 : decode cX5_holy 85 = .ok (.ireturn, 1) := by decide +kernel
theorem dX5_kind_0 : decode cX5_kind 0 = .ok (.aload_n 0, 1) := by decide +kernel
theorem dX5_kind_1 : decode cX5_kind 1 = .ok (.iload_n 1, 1) := by decide +kernel
theorem dX5_kind_2 : decode cX5_kind 2 = .ok (.invokevirtual 111, 3) := by decide +kernel
theorem dX5_kind_5 : decode cX5_kind 5 = .ok (.ifCond .eq 22, 3) := by decide +kernel
theorem dX5_kind_8 : decode cX5_kind 8 = .ok (.iload_n 2, 1) := by decide +kernel
theorem dX5_kind_9 : decode cX5_kind 9 = .ok (.iconst 0, 1) := by decide +kernel
theorem dX5_kind_10 : decode cX5_kind 10 = .ok (.bipush 60, 2) := by decide +kernel
theorem dX5_kind_12 : decode cX5_kind 12 = .ok (.invokestatic 156, 3) := by decide +kernel
theorem dX5_kind_15 : decode cX5_kind 15 = .ok (.ifCond .eq 12, 3) := by decide +kernel
theorem dX5_kind_18 : decode cX5_kind 18 = .ok (.iload_n 3, 1) := by decide +kernel
theorem dX5_kind_19 : decode cX5_kind 19 = .ok (.iconst 0, 1) := by decide +kernel
theorem dX5_kind_20 : decode cX5_kind 20 = .ok (.iconst 1, 1) := by decide +kernel
theorem dX5_kind_21 : decode cX5_kind 21 = .ok (.invokestatic 156, 3) := by decide +kernel
theorem dX5_kind_24 : decode cX5_kind 24 = .ok (.ifCond .ne 5, 3) := by decide +kernel
theorem dX5_kind_27 : decode cX5_kind 27 = .ok (.iconst (-1), 1) := by decide +kernel
theorem dX5_kind_28 : decode cX5_kind 28 = .ok (.ireturn, 1) := by decide +kernel
theorem dX5_kind_29 : decode cX5_kind 29 = .ok (.bipush 100, 2) := by decide +kernel
theorem dX5_kind_31 : decode cX5_kind 31 = .ok (.istore 4, 2) := by decide +kernel
theorem dX5_kind_33 : decode cX5_kind 33 = .ok (.bipush (-4), 2) := by decide +kernel
theorem dX5_kind_35 : decode cX5_kind 35 = .ok (.istore 5, 2) := by decide +kernel
theorem dX5_kind_37 : decode cX5_kind 37 = .ok (.iconst 0, 1) := by decide +kernel
theorem dX5_kind_38 : decode cX5_kind 38 = .ok (.istore 6, 2) := by decide +kernel
theorem dX5_kind_40 : decode cX5_kind 40 = .ok (.iload 6, 2) := by decide +kernel
theorem dX5_kind_42 : decode cX5_kind 42 = .ok (.iconst 4, 1) := by decide +kernel
theorem dX5_kind_43 : decode cX5_kind 43 = .ok (.if_icmp .ge 47, 3) := by decide +kernel
theorem dX5_kind_46 : decode cX5_kind 46 = .ok (.aload_n 0, 1) := by decide +kernel
theorem dX5_kind_47 : decode cX5_kind 47 = .ok (.invokevirtual 177, 3) := by decide +kernel
theorem dX5_kind_50 : decode cX5_kind 50 = .ok (.astore 7, 2) := by decide +kernel
theorem dX5_kind_52 : decode cX5_kind 52 = .ok (.aload 7, 2) := by decide +kernel
theorem dX5_kind_54 : decode cX5_kind 54 = .ok (.getfield 115, 3) := by decide +kernel
theorem dX5_kind_57 : decode cX5_kind 57 = .ok (.iload_n 1, 1) := by decide +kernel
theorem dX5_kind_58 : decode cX5_kind 58 = .ok (.iload 6, 2) := by decide +kernel
theorem dX5_kind_60 : decode cX5_kind 60 = .ok (.iastore, 1) := by decide +kernel
theorem dX5_kind_61 : decode cX5_kind 61 = .ok (.aload 7, 2) := by decide +kernel
theorem dX5_kind_63 : decode cX5_kind 63 = .ok (.iload_n 2, 1) := by decide +kernel
theorem dX5_kind_64 : decode cX5_kind 64 = .ok (.invokevirtual 191, 3) := by decide +kernel
theorem dX5_kind_67 : decode cX5_kind 67 = .ok (.istore 8, 2) := by decide +kernel
theorem dX5_kind_69 : decode cX5_kind 69 = .ok (.iload 8, 2) := by decide +kernel
theorem dX5_kind_71 : decode cX5_kind 71 = .ok (.iload 4, 2) := by decide +kernel
theorem dX5_kind_73 : decode cX5_kind 73 = .ok (.if_icmp .ge 11, 3) := by decide +kernel
theorem dX5_kind_76 : decode cX5_kind 76 = .ok (.iload 8, 2) := by decide +kernel
theorem dX5_kind_78 : decode cX5_kind 78 = .ok (.istore 4, 2) := by decide +kernel
theorem dX5_kind_80 : decode cX5_kind 80 = .ok (.iload 6, 2) := by decide +kernel
theorem dX5_kind_82 : decode cX5_kind 82 = .ok (.istore 5, 2) := by decide +kernel
theorem dX5_kind_84 : decode cX5_kind 84 = .ok (.iinc 6 1, 3) := by decide +kernel
theorem dX5_kind_87 : decode cX5_kind 87 = .ok (.goto (-47), 3) := by decide +kernel
theorem dX5_kind_90 : decode cX5_kind 90 = .ok (.iload 5, 2) := by decide +kernel
theorem dX5_kind_92 : decode cX5_kind 92 = .ok (.iload 4, 2) := by decide +kernel
theorem dX5_kind_94 : decode cX5_kind 94 = .ok (.iload_n 3, 1) := by decide +kernel
theorem dX5_kind_95 : decode cX5_kind 95 = .ok (.invokestatic 194, 3) := by decide +kernel
theorem dX5_kind_98 : decode cX5_kind 98 = .ok (.ireturn, 1) := by decide +kernel
theorem dX5_slack_0 : decode cX5_slack 0 = .ok (.aload_n 0, 1) := by decide +kernel
theorem dX5_slack_1 : decode cX5_slack 1 = .ok (.iload_n 1, 1) := by decide +kernel
theorem dX5_slack_2 : decode cX5_slack 2 = .ok (.invokevirtual 144, 3) := by decide +kernel
theorem dX5_slack_5 : decode cX5_slack 5 = .ok (.ifCond .eq 23, 3) := by decide +kernel
theorem dX5_slack_8 : decode cX5_slack 8 = .ok (.iload_n 2, 1) := by decide +kernel
theorem dX5_slack_9 : decode cX5_slack 9 = .ok (.iconst 0, 1) := by decide +kernel
theorem dX5_slack_10 : decode cX5_slack 10 = .ok (.bipush 60, 2) := by decide +kernel
theorem dX5_slack_12 : decode cX5_slack 12 = .ok (.invokestatic 156, 3) := by decide +kernel
theorem dX5_slack_15 : decode cX5_slack 15 = .ok (.ifCond .eq 13, 3) := by decide +kernel
theorem dX5_slack_18 : decode cX5_slack 18 = .ok (.iload_n 3, 1) := by decide +kernel
theorem dX5_slack_19 : decode cX5_slack 19 = .ok (.iconst 0, 1) := by decide +kernel
theorem dX5_slack_20 : decode cX5_slack 20 = .ok (.bipush 99, 2) := by decide +kernel
theorem dX5_slack_22 : decode cX5_slack 22 = .ok (.invokestatic 156, 3) := by decide +kernel
theorem dX5_slack_25 : decode cX5_slack 25 = .ok (.ifCond .ne 5, 3) := by decide +kernel
theorem dX5_slack_28 : decode cX5_slack 28 = .ok (.iconst (-1), 1) := by decide +kernel
theorem dX5_slack_29 : decode cX5_slack 29 = .ok (.ireturn, 1) := by decide +kernel
theorem dX5_slack_30 : decode cX5_slack 30 = .ok (.bipush 30, 2) := by decide +kernel
theorem dX5_slack_32 : decode cX5_slack 32 = .ok (.istore 4, 2) := by decide +kernel
theorem dX5_slack_34 : decode cX5_slack 34 = .ok (.iload 4, 2) := by decide +kernel
theorem dX5_slack_36 : decode cX5_slack 36 = .ok (.iconst 1, 1) := by decide +kernel
theorem dX5_slack_37 : decode cX5_slack 37 = .ok (.if_icmp .lt 37, 3) := by decide +kernel
theorem dX5_slack_40 : decode cX5_slack 40 = .ok (.aload_n 0, 1) := by decide +kernel
theorem dX5_slack_41 : decode cX5_slack 41 = .ok (.invokevirtual 177, 3) := by decide +kernel
theorem dX5_slack_44 : decode cX5_slack 44 = .ok (.astore 5, 2) := by decide +kernel
theorem dX5_slack_46 : decode cX5_slack 46 = .ok (.aload 5, 2) := by decide +kernel
theorem dX5_slack_48 : decode cX5_slack 48 = .ok (.getfield 153, 3) := by decide +kernel
theorem dX5_slack_51 : decode cX5_slack 51 = .ok (.iload_n 1, 1) := by decide +kernel
theorem dX5_slack_52 : decode cX5_slack 52 = .ok (.iload 4, 2) := by decide +kernel
theorem dX5_slack_54 : decode cX5_slack 54 = .ok (.iastore, 1) := by decide +kernel
theorem dX5_slack_55 : decode cX5_slack 55 = .ok (.aload 5, 2) := by decide +kernel
theorem dX5_slack_57 : decode cX5_slack 57 = .ok (.iload_n 2, 1) := by decide +kernel
theorem dX5_slack_58 : decode cX5_slack 58 = .ok (.invokevirtual 191, 3) := by decide +kernel
theorem dX5_slack_61 : decode cX5_slack 61 = .ok (.iload_n 3, 1) := by decide +kernel
theorem dX5_slack_62 : decode cX5_slack 62 = .ok (.if_icmp .gt 6, 3) := by decide +kernel
theorem dX5_slack_65 : decode cX5_slack 65 = .ok (.iload 4, 2) := by decide +kernel
theorem dX5_slack_67 : decode cX5_slack 67 = .ok (.ireturn, 1) := by decide +kernel
theorem dX5_slack_68 : decode cX5_slack 68 = .ok (.iinc 4 (-1), 3) := by decide +kernel
theorem dX5_slack_71 : decode cX5_slack 71 = .ok (.goto (-37), 3) := by decide +kernel
theorem dX5_slack_74 : decode cX5_slack 74 = .ok (.bipush (-4), 2) := by decide +kernel
theorem dX5_slack_76 : decode cX5_slack 76 = .ok (.ireturn, 1) := by decide +kernel
theorem dX5_luck_0 : decode cX5_luck 0 = .ok (.iload_n 1, 1) := by decide +kernel
theorem dX5_luck_1 : decode cX5_luck 1 = .ok (.iload_n 2, 1) := by decide +kernel
theorem dX5_luck_2 : decode cX5_luck 2 = .ok (.iload 4, 2) := by decide +kernel
theorem dX5_luck_4 : decode cX5_luck 4 = .ok (.invokestatic 204, 3) := by decide +kernel
theorem dX5_luck_7 : decode cX5_luck 7 = .ok (.ifCond .eq 13, 3) := by decide +kernel
theorem dX5_luck_10 : decode cX5_luck 10 = .ok (.iload_n 3, 1) := by decide +kernel
theorem dX5_luck_11 : decode cX5_luck 11 = .ok (.iconst 0, 1) := by decide +kernel
theorem dX5_luck_12 : decode cX5_luck 12 = .ok (.bipush 99, 2) := by decide +kernel
theorem dX5_luck_14 : decode cX5_luck 14 = .ok (.invokestatic 156, 3) := by decide +kernel
theorem dX5_luck_17 : decode cX5_luck 17 = .ok (.ifCond .ne 7, 3) := by decide +kernel
theorem dX5_luck_20 : decode cX5_luck 20 = .ok (.ldc2_w 207, 3) := by decide +kernel
theorem dX5_luck_23 : decode cX5_luck 23 = .ok (.lreturn, 1) := by decide +kernel
theorem dX5_luck_24 : decode cX5_luck 24 = .ok (.aload_n 0, 1) := by decide +kernel
theorem dX5_luck_25 : decode cX5_luck 25 = .ok (.invokevirtual 177, 3) := by decide +kernel
theorem dX5_luck_28 : decode cX5_luck 28 = .ok (.aload_n 0, 1) := by decide +kernel
theorem dX5_luck_29 : decode cX5_luck 29 = .ok (.getfield 51, 3) := by decide +kernel
theorem dX5_luck_32 : decode cX5_luck 32 = .ok (.iload_n 2, 1) := by decide +kernel
theorem dX5_luck_33 : decode cX5_luck 33 = .ok (.iload_n 1, 1) := by decide +kernel
theorem dX5_luck_34 : decode cX5_luck 34 = .ok (.iload_n 3, 1) := by decide +kernel
theorem dX5_luck_35 : decode cX5_luck 35 = .ok (.invokestatic 209, 3) := by decide +kernel
theorem dX5_luck_38 : decode cX5_luck 38 = .ok (.iload_n 2, 1) := by decide +kernel
theorem dX5_luck_39 : decode cX5_luck 39 = .ok (.iload 4, 2) := by decide +kernel
theorem dX5_luck_41 : decode cX5_luck 41 = .ok (.invokestatic 213, 3) := by decide +kernel
theorem dX5_luck_44 : decode cX5_luck 44 = .ok (.lreturn, 1) := by decide +kernel
theorem dX5_mean_0 : decode cX5_mean 0 = .ok (.iload_n 1, 1) := by decide +kernel
theorem dX5_mean_1 : decode cX5_mean 1 = .ok (.iload_n 2, 1) := by decide +kernel
theorem dX5_mean_2 : decode cX5_mean 2 = .ok (.iload_n 3, 1) := by decide +kernel
theorem dX5_mean_3 : decode cX5_mean 3 = .ok (.invokestatic 204, 3) := by decide +kernel
theorem dX5_mean_6 : decode cX5_mean 6 = .ok (.ifCond .ne 7, 3) := by decide +kernel
theorem dX5_mean_9 : decode cX5_mean 9 = .ok (.ldc2_w 207, 3) := by decide +kernel
theorem dX5_mean_12 : decode cX5_mean 12 = .ok (.lreturn, 1) := by decide +kernel
theorem dX5_mean_13 : decode cX5_mean 13 = .ok (.aload_n 0, 1) := by decide +kernel
theorem dX5_mean_14 : decode cX5_mean 14 = .ok (.invokevirtual 177, 3) := by decide +kernel
theorem dX5_mean_17 : decode cX5_mean 17 = .ok (.aload_n 0, 1) := by decide +kernel
theorem dX5_mean_18 : decode cX5_mean 18 = .ok (.getfield 51, 3) := by decide +kernel
theorem dX5_mean_21 : decode cX5_mean 21 = .ok (.iload_n 2, 1) := by decide +kernel
theorem dX5_mean_22 : decode cX5_mean 22 = .ok (.iload_n 1, 1) := by decide +kernel
theorem dX5_mean_23 : decode cX5_mean 23 = .ok (.iconst (-1), 1) := by decide +kernel
theorem dX5_mean_24 : decode cX5_mean 24 = .ok (.invokestatic 209, 3) := by decide +kernel
theorem dX5_mean_27 : decode cX5_mean 27 = .ok (.iload_n 2, 1) := by decide +kernel
theorem dX5_mean_28 : decode cX5_mean 28 = .ok (.iload_n 3, 1) := by decide +kernel
theorem dX5_mean_29 : decode cX5_mean 29 = .ok (.invokestatic 213, 3) := by decide +kernel
theorem dX5_mean_32 : decode cX5_mean 32 = .ok (.lreturn, 1) := by decide +kernel
theorem dX5_see_0 : decode cX5_see 0 = .ok (.iload_n 1, 1) := by decide +kernel
theorem dX5_see_1 : decode cX5_see 1 = .ok (.iconst 0, 1) := by decide +kernel
theorem dX5_see_2 : decode cX5_see 2 = .ok (.bipush 20, 2) := by decide +kernel
theorem dX5_see_4 : decode cX5_see 4 = .ok (.invokestatic 156, 3) := by decide +kernel
theorem dX5_see_7 : decode cX5_see 7 = .ok (.ifCond .eq 21, 3) := by decide +kernel
theorem dX5_see_10 : decode cX5_see 10 = .ok (.aload_n 0, 1) := by decide +kernel
theorem dX5_see_11 : decode cX5_see 11 = .ok (.iload_n 2, 1) := by decide +kernel
theorem dX5_see_12 : decode cX5_see 12 = .ok (.invokevirtual 111, 3) := by decide +kernel
theorem dX5_see_15 : decode cX5_see 15 = .ok (.ifCond .eq 13, 3) := by decide +kernel
theorem dX5_see_18 : decode cX5_see 18 = .ok (.iload_n 3, 1) := by decide +kernel
theorem dX5_see_19 : decode cX5_see 19 = .ok (.iconst 0, 1) := by decide +kernel
theorem dX5_see_20 : decode cX5_see 20 = .ok (.bipush 99, 2) := by decide +kernel
theorem dX5_see_22 : decode cX5_see 22 = .ok (.invokestatic 156, 3) := by decide +kernel
theorem dX5_see_25 : decode cX5_see 25 = .ok (.ifCond .ne 5, 3) := by decide +kernel
theorem dX5_see_28 : decode cX5_see 28 = .ok (.iconst (-1), 1) := by decide +kernel
theorem dX5_see_29 : decode cX5_see 29 = .ok (.ireturn, 1) := by decide +kernel
theorem dX5_see_30 : decode cX5_see 30 = .ok (.aload_n 0, 1) := by decide +kernel
theorem dX5_see_31 : decode cX5_see 31 = .ok (.getfield 22, 3) := by decide +kernel
theorem dX5_see_34 : decode cX5_see 34 = .ok (.getfield 79, 3) := by decide +kernel
theorem dX5_see_37 : decode cX5_see 37 = .ok (.bipush 6, 2) := by decide +kernel
theorem dX5_see_39 : decode cX5_see 39 = .ok (.if_icmp .lt 6, 3) := by decide +kernel
theorem dX5_see_42 : decode cX5_see 42 = .ok (.bipush (-3), 2) := by decide +kernel
theorem dX5_see_44 : decode cX5_see 44 = .ok (.ireturn, 1) := by decide +kernel
theorem dX5_see_45 : decode cX5_see 45 = .ok (.aload_n 0, 1) := by decide +kernel
theorem dX5_see_46 : decode cX5_see 46 = .ok (.getfield 22, 3) := by decide +kernel
theorem dX5_see_49 : decode cX5_see 49 = .ok (.iload_n 1, 1) := by decide +kernel
theorem dX5_see_50 : decode cX5_see 50 = .ok (.iload_n 2, 1) := by decide +kernel
theorem dX5_see_51 : decode cX5_see 51 = .ok (.iload_n 3, 1) := by decide +kernel
theorem dX5_see_52 : decode cX5_see 52 = .ok (.invokevirtual 217, 3) := by decide +kernel
theorem dX5_see_55 : decode cX5_see 55 = .ok (.aload_n 0, 1) := by decide +kernel
theorem dX5_see_56 : decode cX5_see 56 = .ok (.getfield 22, 3) := by decide +kernel
theorem dX5_see_59 : decode cX5_see 59 = .ok (.getfield 79, 3) := by decide +kernel
theorem dX5_see_62 : decode cX5_see 62 = .ok (.ireturn, 1) := by decide +kernel
theorem dX5_forget_0 : decode cX5_forget 0 = .ok (.iload_n 1, 1) := by decide +kernel
theorem dX5_forget_1 : decode cX5_forget 1 = .ok (.ifCond .lt 14, 3) := by decide +kernel
theorem dX5_forget_4 : decode cX5_forget 4 = .ok (.iload_n 1, 1) := by decide +kernel
theorem dX5_forget_5 : decode cX5_forget 5 = .ok (.aload_n 0, 1) := by decide +kernel
theorem dX5_forget_6 : decode cX5_forget 6 = .ok (.getfield 22, 3) := by decide +kernel
theorem dX5_forget_9 : decode cX5_forget 9 = .ok (.getfield 79, 3) := by decide +kernel
theorem dX5_forget_12 : decode cX5_forget 12 = .ok (.if_icmp .le 5, 3) := by decide +kernel
theorem dX5_forget_15 : decode cX5_forget 15 = .ok (.iconst (-1), 1) := by decide +kernel
theorem dX5_forget_16 : decode cX5_forget 16 = .ok (.ireturn, 1) := by decide +kernel
theorem dX5_forget_17 : decode cX5_forget 17 = .ok (.aload_n 0, 1) := by decide +kernel
theorem dX5_forget_18 : decode cX5_forget 18 = .ok (.getfield 22, 3) := by decide +kernel
theorem dX5_forget_21 : decode cX5_forget 21 = .ok (.getfield 79, 3) := by decide +kernel
theorem dX5_forget_24 : decode cX5_forget 24 = .ok (.istore_n 2, 1) := by decide +kernel
theorem dX5_forget_25 : decode cX5_forget 25 = .ok (.aload_n 0, 1) := by decide +kernel
theorem dX5_forget_26 : decode cX5_forget 26 = .ok (.getfield 22, 3) := by decide +kernel
theorem dX5_forget_29 : decode cX5_forget 29 = .ok (.iload_n 1, 1) := by decide +kernel
theorem dX5_forget_30 : decode cX5_forget 30 = .ok (.putfield 79, 3) := by decide +kernel
theorem dX5_forget_33 : decode cX5_forget 33 = .ok (.iload_n 2, 1) := by decide +kernel
theorem dX5_forget_34 : decode cX5_forget 34 = .ok (.ireturn, 1) := by decide +kernel
theorem dX5_kinds_0 : decode cX5_kinds 0 = .ok (.aload_n 0, 1) := by decide +kernel
theorem dX5_kinds_1 : decode cX5_kinds 1 = .ok (.iload_n 1, 1) := by decide +kernel
theorem dX5_kinds_2 : decode cX5_kinds 2 = .ok (.invokevirtual 111, 3) := by decide +kernel
theorem dX5_kinds_5 : decode cX5_kinds 5 = .ok (.ifCond .eq 11, 3) := by decide +kernel
theorem dX5_kinds_8 : decode cX5_kinds 8 = .ok (.aload_n 0, 1) := by decide +kernel
theorem dX5_kinds_9 : decode cX5_kinds 9 = .ok (.iload_n 1, 1) := by decide +kernel
theorem dX5_kinds_10 : decode cX5_kinds 10 = .ok (.invokevirtual 220, 3) := by decide +kernel
theorem dX5_kinds_13 : decode cX5_kinds 13 = .ok (.goto 4, 3) := by decide +kernel
theorem dX5_kinds_16 : decode cX5_kinds 16 = .ok (.iconst (-1), 1) := by decide +kernel
theorem dX5_kinds_17 : decode cX5_kinds 17 = .ok (.ireturn, 1) := by decide +kernel
theorem dX5_sulks_0 : decode cX5_sulks 0 = .ok (.aload_n 0, 1) := by decide +kernel
theorem dX5_sulks_1 : decode cX5_sulks 1 = .ok (.iload_n 1, 1) := by decide +kernel
theorem dX5_sulks_2 : decode cX5_sulks 2 = .ok (.iload_n 2, 1) := by decide +kernel
theorem dX5_sulks_3 : decode cX5_sulks 3 = .ok (.invokevirtual 136, 3) := by decide +kernel
theorem dX5_sulks_6 : decode cX5_sulks 6 = .ok (.ifCond .ne 5, 3) := by decide +kernel
theorem dX5_sulks_9 : decode cX5_sulks 9 = .ok (.iconst (-1), 1) := by decide +kernel
theorem dX5_sulks_10 : decode cX5_sulks 10 = .ok (.ireturn, 1) := by decide +kernel
theorem dX5_sulks_11 : decode cX5_sulks 11 = .ok (.iconst 0, 1) := by decide +kernel
theorem dX5_sulks_12 : decode cX5_sulks 12 = .ok (.istore_n 3, 1) := by decide +kernel
theorem dX5_sulks_13 : decode cX5_sulks 13 = .ok (.iconst 0, 1) := by decide +kernel
theorem dX5_sulks_14 : decode cX5_sulks 14 = .ok (.istore 4, 2) := by decide +kernel
theorem dX5_sulks_16 : decode cX5_sulks 16 = .ok (.iload 4, 2) := by decide +kernel
theorem dX5_sulks_18 : decode cX5_sulks 18 = .ok (.iconst 3, 1) := by decide +kernel
theorem dX5_sulks_19 : decode cX5_sulks 19 = .ok (.if_icmp .gt 43, 3) := by decide +kernel
theorem dX5_sulks_22 : decode cX5_sulks 22 = .ok (.aload_n 0, 1) := by decide +kernel
theorem dX5_sulks_23 : decode cX5_sulks 23 = .ok (.invokevirtual 177, 3) := by decide +kernel
theorem dX5_sulks_26 : decode cX5_sulks 26 = .ok (.astore 5, 2) := by decide +kernel
theorem dX5_sulks_28 : decode cX5_sulks 28 = .ok (.aload 5, 2) := by decide +kernel
theorem dX5_sulks_30 : decode cX5_sulks 30 = .ok (.iload_n 1, 1) := by decide +kernel
theorem dX5_sulks_31 : decode cX5_sulks 31 = .ok (.iload_n 2, 1) := by decide +kernel
theorem dX5_sulks_32 : decode cX5_sulks 32 = .ok (.iload 4, 2) := by decide +kernel
theorem dX5_sulks_34 : decode cX5_sulks 34 = .ok (.invokevirtual 166, 3) := by decide +kernel
theorem dX5_sulks_37 : decode cX5_sulks 37 = .ok (.aload_n 0, 1) := by decide +kernel
theorem dX5_sulks_38 : decode cX5_sulks 38 = .ok (.getfield 22, 3) := by decide +kernel
theorem dX5_sulks_41 : decode cX5_sulks 41 = .ok (.aload 5, 2) := by decide +kernel
theorem dX5_sulks_43 : decode cX5_sulks 43 = .ok (.invokevirtual 223, 3) := by decide +kernel
theorem dX5_sulks_46 : decode cX5_sulks 46 = .ok (.ifCond .eq 10, 3) := by decide +kernel
theorem dX5_sulks_49 : decode cX5_sulks 49 = .ok (.iload_n 3, 1) := by decide +kernel
theorem dX5_sulks_50 : decode cX5_sulks 50 = .ok (.iconst 1, 1) := by decide +kernel
theorem dX5_sulks_51 : decode cX5_sulks 51 = .ok (.iload 4, 2) := by decide +kernel
theorem dX5_sulks_53 : decode cX5_sulks 53 = .ok (.ishl, 1) := by decide +kernel
theorem dX5_sulks_54 : decode cX5_sulks 54 = .ok (.ior, 1) := by decide +kernel
theorem dX5_sulks_55 : decode cX5_sulks 55 = .ok (.istore_n 3, 1) := by decide +kernel
theorem dX5_sulks_56 : decode cX5_sulks 56 = .ok (.iinc 4 1, 3) := by decide +kernel
theorem dX5_sulks_59 : decode cX5_sulks 59 = .ok (.goto (-43), 3) := by decide +kernel
theorem dX5_sulks_62 : decode cX5_sulks 62 = .ok (.iload_n 3, 1) := by decide +kernel
theorem dX5_sulks_63 : decode cX5_sulks 63 = .ok (.ireturn, 1) := by decide +kernel
theorem dX5_ask_0 : decode cX5_ask 0 = .ok (.aload_n 0, 1) := by decide +kernel
theorem dX5_ask_1 : decode cX5_ask 1 = .ok (.iload_n 1, 1) := by decide +kernel
theorem dX5_ask_2 : decode cX5_ask 2 = .ok (.invokevirtual 111, 3) := by decide +kernel
theorem dX5_ask_5 : decode cX5_ask 5 = .ok (.ifCond .eq 12, 3) := by decide +kernel
theorem dX5_ask_8 : decode cX5_ask 8 = .ok (.iload_n 2, 1) := by decide +kernel
theorem dX5_ask_9 : decode cX5_ask 9 = .ok (.iconst 0, 1) := by decide +kernel
theorem dX5_ask_10 : decode cX5_ask 10 = .ok (.iconst 1, 1) := by decide +kernel
theorem dX5_ask_11 : decode cX5_ask 11 = .ok (.invokestatic 156, 3) := by decide +kernel
theorem dX5_ask_14 : decode cX5_ask 14 = .ok (.ifCond .ne 5, 3) := by decide +kernel
theorem dX5_ask_17 : decode cX5_ask 17 = .ok (.iconst (-1), 1) := by decide +kernel
theorem dX5_ask_18 : decode cX5_ask 18 = .ok (.ireturn, 1) := by decide +kernel
theorem dX5_ask_19 : decode cX5_ask 19 = .ok (.aload_n 0, 1) := by decide +kernel
theorem dX5_ask_20 : decode cX5_ask 20 = .ok (.iload_n 1, 1) := by decide +kernel
theorem dX5_ask_21 : decode cX5_ask 21 = .ok (.aload_n 0, 1) := by decide +kernel
theorem dX5_ask_22 : decode cX5_ask 22 = .ok (.iload_n 1, 1) := by decide +kernel
theorem dX5_ask_23 : decode cX5_ask 23 = .ok (.invokevirtual 220, 3) := by decide +kernel
theorem dX5_ask_26 : decode cX5_ask 26 = .ok (.invokevirtual 227, 3) := by decide +kernel
theorem dX5_ask_29 : decode cX5_ask 29 = .ok (.istore_n 3, 1) := by decide +kernel
theorem dX5_ask_30 : decode cX5_ask 30 = .ok (.iload_n 3, 1) := by decide +kernel
theorem dX5_ask_31 : decode cX5_ask 31 = .ok (.istore 4, 2) := by decide +kernel
theorem dX5_ask_33 : decode cX5_ask 33 = .ok (.bipush (-4), 2) := by decide +kernel
theorem dX5_ask_35 : decode cX5_ask 35 = .ok (.istore 5, 2) := by decide +kernel
theorem dX5_ask_37 : decode cX5_ask 37 = .ok (.iconst 0, 1) := by decide +kernel
theorem dX5_ask_38 : decode cX5_ask 38 = .ok (.istore 6, 2) := by decide +kernel
theorem dX5_ask_40 : decode cX5_ask 40 = .ok (.iload 6, 2) := by decide +kernel
theorem dX5_ask_42 : decode cX5_ask 42 = .ok (.bipush 20, 2) := by decide +kernel
theorem dX5_ask_44 : decode cX5_ask 44 = .ok (.if_icmp .gt 65, 3) := by decide +kernel
theorem dX5_ask_47 : decode cX5_ask 47 = .ok (.iconst 0, 1) := by decide +kernel
theorem dX5_ask_48 : decode cX5_ask 48 = .ok (.istore 7, 2) := by decide +kernel
theorem dX5_ask_50 : decode cX5_ask 50 = .ok (.iload 7, 2) := by decide +kernel
theorem dX5_ask_52 : decode cX5_ask 52 = .ok (.aload_n 0, 1) := by decide +kernel
theorem dX5_ask_53 : decode cX5_ask 53 = .ok (.getfield 10, 3) := by decide +kernel
theorem dX5_ask_56 : decode cX5_ask 56 = .ok (.getfield 92, 3) := by decide +kernel
theorem dX5_ask_59 : decode cX5_ask 59 = .ok (.if_icmp .ge 44, 3) := by decide +kernel
theorem dX5_ask_62 : decode cX5_ask 62 = .ok (.aload_n 0, 1) := by decide +kernel
theorem dX5_ask_63 : decode cX5_ask 63 = .ok (.iload_n 3, 1) := by decide +kernel
theorem dX5_ask_64 : decode cX5_ask 64 = .ok (.iload 6, 2) := by decide +kernel
theorem dX5_ask_66 : decode cX5_ask 66 = .ok (.iconst 5, 1) := by decide +kernel
theorem dX5_ask_67 : decode cX5_ask 67 = .ok (.imul, 1) := by decide +kernel
theorem dX5_ask_68 : decode cX5_ask 68 = .ok (.iload 7, 2) := by decide +kernel
theorem dX5_ask_70 : decode cX5_ask 70 = .ok (.iadd, 1) := by decide +kernel
theorem dX5_ask_71 : decode cX5_ask 71 = .ok (.invokevirtual 230, 3) := by decide +kernel
theorem dX5_ask_74 : decode cX5_ask 74 = .ok (.istore 8, 2) := by decide +kernel
theorem dX5_ask_76 : decode cX5_ask 76 = .ok (.iload 8, 2) := by decide +kernel
theorem dX5_ask_78 : decode cX5_ask 78 = .ok (.iload 4, 2) := by decide +kernel
theorem dX5_ask_80 : decode cX5_ask 80 = .ok (.if_icmp .ge 17, 3) := by decide +kernel
theorem dX5_ask_83 : decode cX5_ask 83 = .ok (.iload 8, 2) := by decide +kernel
theorem dX5_ask_85 : decode cX5_ask 85 = .ok (.istore 4, 2) := by decide +kernel
theorem dX5_ask_87 : decode cX5_ask 87 = .ok (.bipush 10, 2) := by decide +kernel
theorem dX5_ask_89 : decode cX5_ask 89 = .ok (.iload 6, 2) := by decide +kernel
theorem dX5_ask_91 : decode cX5_ask 91 = .ok (.imul, 1) := by decide +kernel
theorem dX5_ask_92 : decode cX5_ask 92 = .ok (.iload 7, 2) := by decide +kernel
theorem dX5_ask_94 : decode cX5_ask 94 = .ok (.iadd, 1) := by decide +kernel
theorem dX5_ask_95 : decode cX5_ask 95 = .ok (.istore 5, 2) := by decide +kernel
theorem dX5_ask_97 : decode cX5_ask 97 = .ok (.iinc 7 1, 3) := by decide +kernel
theorem dX5_ask_100 : decode cX5_ask 100 = .ok (.goto (-50), 3) := by decide +kernel
theorem dX5_ask_103 : decode cX5_ask 103 = .ok (.iinc 6 1, 3) := by decide +kernel
theorem dX5_ask_106 : decode cX5_ask 106 = .ok (.goto (-66), 3) := by decide +kernel
theorem dX5_ask_109 : decode cX5_ask 109 = .ok (.iload 5, 2) := by decide +kernel
theorem dX5_ask_111 : decode cX5_ask 111 = .ok (.iload 4, 2) := by decide +kernel
theorem dX5_ask_113 : decode cX5_ask 113 = .ok (.iload_n 2, 1) := by decide +kernel
theorem dX5_ask_114 : decode cX5_ask 114 = .ok (.invokestatic 194, 3) := by decide +kernel
theorem dX5_ask_117 : decode cX5_ask 117 = .ok (.ireturn, 1) := by decide +kernel
theorem dX5_drift_0 : decode cX5_drift 0 = .ok (.iload_n 2, 1) := by decide +kernel
theorem dX5_drift_1 : decode cX5_drift 1 = .ok (.iconst 1, 1) := by decide +kernel
theorem dX5_drift_2 : decode cX5_drift 2 = .ok (.bipush 60, 2) := by decide +kernel
theorem dX5_drift_4 : decode cX5_drift 4 = .ok (.invokestatic 156, 3) := by decide +kernel
theorem dX5_drift_7 : decode cX5_drift 7 = .ok (.ifCond .eq 12, 3) := by decide +kernel
theorem dX5_drift_10 : decode cX5_drift 10 = .ok (.iload_n 3, 1) := by decide +kernel
theorem dX5_drift_11 : decode cX5_drift 11 = .ok (.iconst 0, 1) := by decide +kernel
theorem dX5_drift_12 : decode cX5_drift 12 = .ok (.iconst 1, 1) := by decide +kernel
theorem dX5_drift_13 : decode cX5_drift 13 = .ok (.invokestatic 156, 3) := by decide +kernel
theorem dX5_drift_16 : decode cX5_drift 16 = .ok (.ifCond .ne 5, 3) := by decide +kernel
theorem dX5_drift_19 : decode cX5_drift 19 = .ok (.iconst (-1), 1) := by decide +kernel
theorem dX5_drift_20 : decode cX5_drift 20 = .ok (.ireturn, 1) := by decide +kernel
theorem dX5_drift_21 : decode cX5_drift 21 = .ok (.aload_n 0, 1) := by decide +kernel
theorem dX5_drift_22 : decode cX5_drift 22 = .ok (.getfield 10, 3) := by decide +kernel
theorem dX5_drift_25 : decode cX5_drift 25 = .ok (.getfield 92, 3) := by decide +kernel
theorem dX5_drift_28 : decode cX5_drift 28 = .ok (.iconst 1, 1) := by decide +kernel
theorem dX5_drift_29 : decode cX5_drift 29 = .ok (.if_icmp .ge 6, 3) := by decide +kernel
theorem dX5_drift_32 : decode cX5_drift 32 = .ok (.bipush (-2), 2) := by decide +kernel
theorem dX5_drift_34 : decode cX5_drift 34 = .ok (.ireturn, 1) := by decide +kernel
theorem dX5_drift_35 : decode cX5_drift 35 = .ok (.aload_n 0, 1) := by decide +kernel
theorem dX5_drift_36 : decode cX5_drift 36 = .ok (.invokevirtual 177, 3) := by decide +kernel
theorem dX5_drift_39 : decode cX5_drift 39 = .ok (.astore 4, 2) := by decide +kernel
theorem dX5_drift_41 : decode cX5_drift 41 = .ok (.iload_n 1, 1) := by decide +kernel
theorem dX5_drift_42 : decode cX5_drift 42 = .ok (.istore 5, 2) := by decide +kernel
theorem dX5_drift_44 : decode cX5_drift 44 = .ok (.iconst 0, 1) := by decide +kernel
theorem dX5_drift_45 : decode cX5_drift 45 = .ok (.istore 6, 2) := by decide +kernel
theorem dX5_drift_47 : decode cX5_drift 47 = .ok (.iload 6, 2) := by decide +kernel
theorem dX5_drift_49 : decode cX5_drift 49 = .ok (.iload_n 2, 1) := by decide +kernel
theorem dX5_drift_50 : decode cX5_drift 50 = .ok (.if_icmp .ge 86, 3) := by decide +kernel
theorem dX5_drift_53 : decode cX5_drift 53 = .ok (.iload 5, 2) := by decide +kernel
theorem dX5_drift_55 : decode cX5_drift 55 = .ok (.ldc 233, 2) := by decide +kernel
theorem dX5_drift_57 : decode cX5_drift 57 = .ok (.imul, 1) := by decide +kernel
theorem dX5_drift_58 : decode cX5_drift 58 = .ok (.sipush 12345, 3) := by decide +kernel
theorem dX5_drift_61 : decode cX5_drift 61 = .ok (.iadd, 1) := by decide +kernel
theorem dX5_drift_62 : decode cX5_drift 62 = .ok (.istore 5, 2) := by decide +kernel
theorem dX5_drift_64 : decode cX5_drift 64 = .ok (.iload 5, 2) := by decide +kernel
theorem dX5_drift_66 : decode cX5_drift 66 = .ok (.bipush 16, 2) := by decide +kernel
theorem dX5_drift_68 : decode cX5_drift 68 = .ok (.iushr, 1) := by decide +kernel
theorem dX5_drift_69 : decode cX5_drift 69 = .ok (.sipush 32767, 3) := by decide +kernel
theorem dX5_drift_72 : decode cX5_drift 72 = .ok (.iand, 1) := by decide +kernel
theorem dX5_drift_73 : decode cX5_drift 73 = .ok (.istore 7, 2) := by decide +kernel
theorem dX5_drift_75 : decode cX5_drift 75 = .ok (.iload 7, 2) := by decide +kernel
theorem dX5_drift_77 : decode cX5_drift 77 = .ok (.aload_n 0, 1) := by decide +kernel
theorem dX5_drift_78 : decode cX5_drift 78 = .ok (.getfield 10, 3) := by decide +kernel
theorem dX5_drift_81 : decode cX5_drift 81 = .ok (.getfield 92, 3) := by decide +kernel
theorem dX5_drift_84 : decode cX5_drift 84 = .ok (.irem, 1) := by decide +kernel
theorem dX5_drift_85 : decode cX5_drift 85 = .ok (.istore 8, 2) := by decide +kernel
theorem dX5_drift_87 : decode cX5_drift 87 = .ok (.iload 7, 2) := by decide +kernel
theorem dX5_drift_89 : decode cX5_drift 89 = .ok (.bipush 8, 2) := by decide +kernel
theorem dX5_drift_91 : decode cX5_drift 91 = .ok (.idiv, 1) := by decide +kernel
theorem dX5_drift_92 : decode cX5_drift 92 = .ok (.aload_n 0, 1) := by decide +kernel
theorem dX5_drift_93 : decode cX5_drift 93 = .ok (.getfield 10, 3) := by decide +kernel
theorem dX5_drift_96 : decode cX5_drift 96 = .ok (.getfield 92, 3) := by decide +kernel
theorem dX5_drift_99 : decode cX5_drift 99 = .ok (.irem, 1) := by decide +kernel
theorem dX5_drift_100 : decode cX5_drift 100 = .ok (.istore 9, 2) := by decide +kernel
theorem dX5_drift_102 : decode cX5_drift 102 = .ok (.iload 8, 2) := by decide +kernel
theorem dX5_drift_104 : decode cX5_drift 104 = .ok (.iload 9, 2) := by decide +kernel
theorem dX5_drift_106 : decode cX5_drift 106 = .ok (.if_icmp .eq 19, 3) := by decide +kernel
theorem dX5_drift_109 : decode cX5_drift 109 = .ok (.aload 4, 2) := by decide +kernel
theorem dX5_drift_111 : decode cX5_drift 111 = .ok (.iload 8, 2) := by decide +kernel
theorem dX5_drift_113 : decode cX5_drift 113 = .ok (.iload 9, 2) := by decide +kernel
theorem dX5_drift_115 : decode cX5_drift 115 = .ok (.iload 7, 2) := by decide +kernel
theorem dX5_drift_117 : decode cX5_drift 117 = .ok (.bipush 64, 2) := by decide +kernel
theorem dX5_drift_119 : decode cX5_drift 119 = .ok (.idiv, 1) := by decide +kernel
theorem dX5_drift_120 : decode cX5_drift 120 = .ok (.iconst 4, 1) := by decide +kernel
theorem dX5_drift_121 : decode cX5_drift 121 = .ok (.irem, 1) := by decide +kernel
theorem dX5_drift_122 : decode cX5_drift 122 = .ok (.invokevirtual 166, 3) := by decide +kernel
theorem dX5_drift_125 : decode cX5_drift 125 = .ok (.aload 4, 2) := by decide +kernel
theorem dX5_drift_127 : decode cX5_drift 127 = .ok (.invokevirtual 181, 3) := by decide +kernel
theorem dX5_drift_130 : decode cX5_drift 130 = .ok (.iinc 6 1, 3) := by decide +kernel
theorem dX5_drift_133 : decode cX5_drift 133 = .ok (.goto (-86), 3) := by decide +kernel
theorem dX5_drift_136 : decode cX5_drift 136 = .ok (.iload_n 3, 1) := by decide +kernel
theorem dX5_drift_137 : decode cX5_drift 137 = .ok (.ifCond .ne 11, 3) := by decide +kernel
theorem dX5_drift_140 : decode cX5_drift 140 = .ok (.aload 4, 2) := by decide +kernel
theorem dX5_drift_142 : decode cX5_drift 142 = .ok (.invokevirtual 107, 3) := by decide +kernel
theorem dX5_drift_145 : decode cX5_drift 145 = .ok (.goto 16, 3) := by decide +kernel
theorem dX5_drift_148 : decode cX5_drift 148 = .ok (.aload 4, 2) := by decide +kernel
theorem dX5_drift_150 : decode cX5_drift 150 = .ok (.getfield 104, 3) := by decide +kernel
theorem dX5_drift_153 : decode cX5_drift 153 = .ok (.aload_n 0, 1) := by decide +kernel
theorem dX5_drift_154 : decode cX5_drift 154 = .ok (.getfield 10, 3) := by decide +kernel
theorem dX5_drift_157 : decode cX5_drift 157 = .ok (.getfield 104, 3) := by decide +kernel
theorem dX5_drift_160 : decode cX5_drift 160 = .ok (.isub, 1) := by decide +kernel
theorem dX5_drift_161 : decode cX5_drift 161 = .ok (.ireturn, 1) := by decide +kernel
theorem dX5_keep_0 : decode cX5_keep 0 = .ok (.iload_n 1, 1) := by decide +kernel
theorem dX5_keep_1 : decode cX5_keep 1 = .ok (.iconst 0, 1) := by decide +kernel
theorem dX5_keep_2 : decode cX5_keep 2 = .ok (.aload_n 0, 1) := by decide +kernel
theorem dX5_keep_3 : decode cX5_keep 3 = .ok (.getfield 29, 3) := by decide +kernel
theorem dX5_keep_6 : decode cX5_keep 6 = .ok (.arraylength, 1) := by decide +kernel
theorem dX5_keep_7 : decode cX5_keep 7 = .ok (.iconst 1, 1) := by decide +kernel
theorem dX5_keep_8 : decode cX5_keep 8 = .ok (.isub, 1) := by decide +kernel
theorem dX5_keep_9 : decode cX5_keep 9 = .ok (.invokestatic 156, 3) := by decide +kernel
theorem dX5_keep_12 : decode cX5_keep 12 = .ok (.ifCond .ne 5, 3) := by decide +kernel
theorem dX5_keep_15 : decode cX5_keep 15 = .ok (.iconst (-1), 1) := by decide +kernel
theorem dX5_keep_16 : decode cX5_keep 16 = .ok (.ireturn, 1) := by decide +kernel
theorem dX5_keep_17 : decode cX5_keep 17 = .ok (.aload_n 0, 1) := by decide +kernel
theorem dX5_keep_18 : decode cX5_keep 18 = .ok (.getfield 29, 3) := by decide +kernel
theorem dX5_keep_21 : decode cX5_keep 21 = .ok (.iload_n 1, 1) := by decide +kernel
theorem dX5_keep_22 : decode cX5_keep 22 = .ok (.aaload, 1) := by decide +kernel
theorem dX5_keep_23 : decode cX5_keep 23 = .ok (.getfield 82, 3) := by decide +kernel
theorem dX5_keep_26 : decode cX5_keep 26 = .ok (.ifCond .eq 7, 3) := by decide +kernel
theorem dX5_keep_29 : decode cX5_keep 29 = .ok (.iconst 1, 1) := by decide +kernel
theorem dX5_keep_30 : decode cX5_keep 30 = .ok (.goto 4, 3) := by decide +kernel
theorem dX5_keep_33 : decode cX5_keep 33 = .ok (.iconst 0, 1) := by decide +kernel
theorem dX5_keep_34 : decode cX5_keep 34 = .ok (.istore_n 2, 1) := by decide +kernel
theorem dX5_keep_35 : decode cX5_keep 35 = .ok (.aload_n 0, 1) := by decide +kernel
theorem dX5_keep_36 : decode cX5_keep 36 = .ok (.getfield 29, 3) := by decide +kernel
theorem dX5_keep_39 : decode cX5_keep 39 = .ok (.iload_n 1, 1) := by decide +kernel
theorem dX5_keep_40 : decode cX5_keep 40 = .ok (.aaload, 1) := by decide +kernel
theorem dX5_keep_41 : decode cX5_keep 41 = .ok (.iconst 1, 1) := by decide +kernel
theorem dX5_keep_42 : decode cX5_keep 42 = .ok (.putfield 82, 3) := by decide +kernel
theorem dX5_keep_45 : decode cX5_keep 45 = .ok (.aload_n 0, 1) := by decide +kernel
theorem dX5_keep_46 : decode cX5_keep 46 = .ok (.getfield 29, 3) := by decide +kernel
theorem dX5_keep_49 : decode cX5_keep 49 = .ok (.iload_n 1, 1) := by decide +kernel
theorem dX5_keep_50 : decode cX5_keep 50 = .ok (.aaload, 1) := by decide +kernel
theorem dX5_keep_51 : decode cX5_keep 51 = .ok (.getfield 234, 3) := by decide +kernel
theorem dX5_keep_54 : decode cX5_keep 54 = .ok (.aload_n 0, 1) := by decide +kernel
theorem dX5_keep_55 : decode cX5_keep 55 = .ok (.getfield 10, 3) := by decide +kernel
theorem dX5_keep_58 : decode cX5_keep 58 = .ok (.invokevirtual 75, 3) := by decide +kernel
theorem dX5_keep_61 : decode cX5_keep 61 = .ok (.aload_n 0, 1) := by decide +kernel
theorem dX5_keep_62 : decode cX5_keep 62 = .ok (.getfield 29, 3) := by decide +kernel
theorem dX5_keep_65 : decode cX5_keep 65 = .ok (.iload_n 1, 1) := by decide +kernel
theorem dX5_keep_66 : decode cX5_keep 66 = .ok (.aaload, 1) := by decide +kernel
theorem dX5_keep_67 : decode cX5_keep 67 = .ok (.getfield 237, 3) := by decide +kernel
theorem dX5_keep_70 : decode cX5_keep 70 = .ok (.aload_n 0, 1) := by decide +kernel
theorem dX5_keep_71 : decode cX5_keep 71 = .ok (.getfield 22, 3) := by decide +kernel
theorem dX5_keep_74 : decode cX5_keep 74 = .ok (.invokevirtual 238, 3) := by decide +kernel
theorem dX5_keep_77 : decode cX5_keep 77 = .ok (.iload_n 2, 1) := by decide +kernel
theorem dX5_keep_78 : decode cX5_keep 78 = .ok (.ireturn, 1) := by decide +kernel
theorem dX5_back_0 : decode cX5_back 0 = .ok (.iload_n 1, 1) := by decide +kernel
theorem dX5_back_1 : decode cX5_back 1 = .ok (.iconst 0, 1) := by decide +kernel
theorem dX5_back_2 : decode cX5_back 2 = .ok (.aload_n 0, 1) := by decide +kernel
theorem dX5_back_3 : decode cX5_back 3 = .ok (.getfield 29, 3) := by decide +kernel
theorem dX5_back_6 : decode cX5_back 6 = .ok (.arraylength, 1) := by decide +kernel
theorem dX5_back_7 : decode cX5_back 7 = .ok (.iconst 1, 1) := by decide +kernel
theorem dX5_back_8 : decode cX5_back 8 = .ok (.isub, 1) := by decide +kernel
theorem dX5_back_9 : decode cX5_back 9 = .ok (.invokestatic 156, 3) := by decide +kernel
theorem dX5_back_12 : decode cX5_back 12 = .ok (.ifCond .ne 5, 3) := by decide +kernel
theorem dX5_back_15 : decode cX5_back 15 = .ok (.iconst (-1), 1) := by decide +kernel
theorem dX5_back_16 : decode cX5_back 16 = .ok (.ireturn, 1) := by decide +kernel
theorem dX5_back_17 : decode cX5_back 17 = .ok (.aload_n 0, 1) := by decide +kernel
theorem dX5_back_18 : decode cX5_back 18 = .ok (.getfield 29, 3) := by decide +kernel
theorem dX5_back_21 : decode cX5_back 21 = .ok (.iload_n 1, 1) := by decide +kernel
theorem dX5_back_22 : decode cX5_back 22 = .ok (.aaload, 1) := by decide +kernel
theorem dX5_back_23 : decode cX5_back 23 = .ok (.getfield 82, 3) := by decide +kernel
theorem dX5_back_26 : decode cX5_back 26 = .ok (.ifCond .ne 6, 3) := by decide +kernel
theorem dX5_back_29 : decode cX5_back 29 = .ok (.bipush (-2), 2) := by decide +kernel
theorem dX5_back_31 : decode cX5_back 31 = .ok (.ireturn, 1) := by decide +kernel
theorem dX5_back_32 : decode cX5_back 32 = .ok (.aload_n 0, 1) := by decide +kernel
theorem dX5_back_33 : decode cX5_back 33 = .ok (.getfield 10, 3) := by decide +kernel
theorem dX5_back_36 : decode cX5_back 36 = .ok (.aload_n 0, 1) := by decide +kernel
theorem dX5_back_37 : decode cX5_back 37 = .ok (.getfield 29, 3) := by decide +kernel
theorem dX5_back_40 : decode cX5_back 40 = .ok (.iload_n 1, 1) := by decide +kernel
theorem dX5_back_41 : decode cX5_back 41 = .ok (.aaload, 1) := by decide +kernel
theorem dX5_back_42 : decode cX5_back 42 = .ok (.getfield 234, 3) := by decide +kernel
theorem dX5_back_45 : decode cX5_back 45 = .ok (.invokevirtual 75, 3) := by decide +kernel
theorem dX5_back_48 : decode cX5_back 48 = .ok (.aload_n 0, 1) := by decide +kernel
theorem dX5_back_49 : decode cX5_back 49 = .ok (.getfield 22, 3) := by decide +kernel
theorem dX5_back_52 : decode cX5_back 52 = .ok (.aload_n 0, 1) := by decide +kernel
theorem dX5_back_53 : decode cX5_back 53 = .ok (.getfield 29, 3) := by decide +kernel
theorem dX5_back_56 : decode cX5_back 56 = .ok (.iload_n 1, 1) := by decide +kernel
theorem dX5_back_57 : decode cX5_back 57 = .ok (.aaload, 1) := by decide +kernel
theorem dX5_back_58 : decode cX5_back 58 = .ok (.getfield 237, 3) := by decide +kernel
theorem dX5_back_61 : decode cX5_back 61 = .ok (.invokevirtual 238, 3) := by decide +kernel
theorem dX5_back_64 : decode cX5_back 64 = .ok (.aload_n 0, 1) := by decide +kernel
theorem dX5_back_65 : decode cX5_back 65 = .ok (.getfield 10, 3) := by decide +kernel
theorem dX5_back_68 : decode cX5_back 68 = .ok (.getfield 98, 3) := by decide +kernel
theorem dX5_back_71 : decode cX5_back 71 = .ok (.ireturn, 1) := by decide +kernel
theorem dX5_sheet_0 : decode cX5_sheet 0 = .ok (.iload_n 1, 1) := by decide +kernel
theorem dX5_sheet_1 : decode cX5_sheet 1 = .ok (.iconst 0, 1) := by decide +kernel
theorem dX5_sheet_2 : decode cX5_sheet 2 = .ok (.iconst 3, 1) := by decide +kernel
theorem dX5_sheet_3 : decode cX5_sheet 3 = .ok (.invokestatic 156, 3) := by decide +kernel
theorem dX5_sheet_6 : decode cX5_sheet 6 = .ok (.ifCond .eq 18, 3) := by decide +kernel
theorem dX5_sheet_9 : decode cX5_sheet 9 = .ok (.iload_n 2, 1) := by decide +kernel
theorem dX5_sheet_10 : decode cX5_sheet 10 = .ok (.iconst 0, 1) := by decide +kernel
theorem dX5_sheet_11 : decode cX5_sheet 11 = .ok (.iconst 2, 1) := by decide +kernel
theorem dX5_sheet_12 : decode cX5_sheet 12 = .ok (.invokestatic 156, 3) := by decide +kernel
theorem dX5_sheet_15 : decode cX5_sheet 15 = .ok (.ifCond .eq 9, 3) := by decide +kernel
theorem dX5_sheet_18 : decode cX5_sheet 18 = .ok (.iload_n 3, 1) := by decide +kernel
theorem dX5_sheet_19 : decode cX5_sheet 19 = .ok (.bipush 40, 2) := by decide +kernel
theorem dX5_sheet_21 : decode cX5_sheet 21 = .ok (.if_icmp .le 5, 3) := by decide +kernel
theorem dX5_sheet_24 : decode cX5_sheet 24 = .ok (.iconst (-1), 1) := by decide +kernel
theorem dX5_sheet_25 : decode cX5_sheet 25 = .ok (.ireturn, 1) := by decide +kernel
theorem dX5_sheet_26 : decode cX5_sheet 26 = .ok (.iload_n 3, 1) := by decide +kernel
theorem dX5_sheet_27 : decode cX5_sheet 27 = .ok (.ifCond .ge 6, 3) := by decide +kernel
theorem dX5_sheet_30 : decode cX5_sheet 30 = .ok (.bipush (-14), 2) := by decide +kernel
theorem dX5_sheet_32 : decode cX5_sheet 32 = .ok (.ireturn, 1) := by decide +kernel
theorem dX5_sheet_33 : decode cX5_sheet 33 = .ok (.aload_n 0, 1) := by decide +kernel
theorem dX5_sheet_34 : decode cX5_sheet 34 = .ok (.getfield 36, 3) := by decide +kernel
theorem dX5_sheet_37 : decode cX5_sheet 37 = .ok (.iload_n 1, 1) := by decide +kernel
theorem dX5_sheet_38 : decode cX5_sheet 38 = .ok (.aaload, 1) := by decide +kernel
theorem dX5_sheet_39 : decode cX5_sheet 39 = .ok (.iload_n 2, 1) := by decide +kernel
theorem dX5_sheet_40 : decode cX5_sheet 40 = .ok (.iload_n 3, 1) := by decide +kernel
theorem dX5_sheet_41 : decode cX5_sheet 41 = .ok (.invokevirtual 241, 3) := by decide +kernel
theorem dX5_sheet_44 : decode cX5_sheet 44 = .ok (.iconst 1, 1) := by decide +kernel
theorem dX5_sheet_45 : decode cX5_sheet 45 = .ok (.ireturn, 1) := by decide +kernel
theorem dX5_lay_0 : decode cX5_lay 0 = .ok (.iload_n 1, 1) := by decide +kernel
theorem dX5_lay_1 : decode cX5_lay 1 = .ok (.iconst 0, 1) := by decide +kernel
theorem dX5_lay_2 : decode cX5_lay 2 = .ok (.iconst 3, 1) := by decide +kernel
theorem dX5_lay_3 : decode cX5_lay 3 = .ok (.invokestatic 156, 3) := by decide +kernel
theorem dX5_lay_6 : decode cX5_lay 6 = .ok (.ifCond .ne 5, 3) := by decide +kernel
theorem dX5_lay_9 : decode cX5_lay 9 = .ok (.iconst (-1), 1) := by decide +kernel
theorem dX5_lay_10 : decode cX5_lay 10 = .ok (.ireturn, 1) := by decide +kernel
theorem dX5_lay_11 : decode cX5_lay 11 = .ok (.aload_n 0, 1) := by decide +kernel
theorem dX5_lay_12 : decode cX5_lay 12 = .ok (.getfield 36, 3) := by decide +kernel
theorem dX5_lay_15 : decode cX5_lay 15 = .ok (.iload_n 1, 1) := by decide +kernel
theorem dX5_lay_16 : decode cX5_lay 16 = .ok (.aaload, 1) := by decide +kernel
theorem dX5_lay_17 : decode cX5_lay 17 = .ok (.astore 4, 2) := by decide +kernel
theorem dX5_lay_19 : decode cX5_lay 19 = .ok (.aload 4, 2) := by decide +kernel
theorem dX5_lay_21 : decode cX5_lay 21 = .ok (.aload 4, 2) := by decide +kernel
theorem dX5_lay_23 : decode cX5_lay 23 = .ok (.getfield 245, 3) := by decide +kernel
theorem dX5_lay_26 : decode cX5_lay 26 = .ok (.iload_n 2, 1) := by decide +kernel
theorem dX5_lay_27 : decode cX5_lay 27 = .ok (.invokevirtual 248, 3) := by decide +kernel
theorem dX5_lay_30 : decode cX5_lay 30 = .ok (.istore 5, 2) := by decide +kernel
theorem dX5_lay_32 : decode cX5_lay 32 = .ok (.iload 5, 2) := by decide +kernel
theorem dX5_lay_34 : decode cX5_lay 34 = .ok (.ifCond .eq 9, 3) := by decide +kernel
theorem dX5_lay_37 : decode cX5_lay 37 = .ok (.bipush (-10), 2) := by decide +kernel
theorem dX5_lay_39 : decode cX5_lay 39 = .ok (.iload 5, 2) := by decide +kernel
theorem dX5_lay_41 : decode cX5_lay 41 = .ok (.isub, 1) := by decide +kernel
theorem dX5_lay_42 : decode cX5_lay 42 = .ok (.ireturn, 1) := by decide +kernel
theorem dX5_lay_43 : decode cX5_lay 43 = .ok (.aload 4, 2) := by decide +kernel
theorem dX5_lay_45 : decode cX5_lay 45 = .ok (.iload_n 2, 1) := by decide +kernel
theorem dX5_lay_46 : decode cX5_lay 46 = .ok (.iload_n 3, 1) := by decide +kernel
theorem dX5_lay_47 : decode cX5_lay 47 = .ok (.invokevirtual 251, 3) := by decide +kernel
theorem dX5_lay_50 : decode cX5_lay 50 = .ok (.iconst 1, 1) := by decide +kernel
theorem dX5_lay_51 : decode cX5_lay 51 = .ok (.ireturn, 1) := by decide +kernel
theorem dX5_read_0 : decode cX5_read 0 = .ok (.iload_n 1, 1) := by decide +kernel
theorem dX5_read_1 : decode cX5_read 1 = .ok (.iconst 0, 1) := by decide +kernel
theorem dX5_read_2 : decode cX5_read 2 = .ok (.iconst 3, 1) := by decide +kernel
theorem dX5_read_3 : decode cX5_read 3 = .ok (.invokestatic 156, 3) := by decide +kernel
theorem dX5_read_6 : decode cX5_read 6 = .ok (.ifCond .eq 23, 3) := by decide +kernel
theorem dX5_read_9 : decode cX5_read 9 = .ok (.iload_n 2, 1) := by decide +kernel
theorem dX5_read_10 : decode cX5_read 10 = .ok (.iconst 0, 1) := by decide +kernel
theorem dX5_read_11 : decode cX5_read 11 = .ok (.iconst 2, 1) := by decide +kernel
theorem dX5_read_12 : decode cX5_read 12 = .ok (.invokestatic 156, 3) := by decide +kernel
theorem dX5_read_15 : decode cX5_read 15 = .ok (.ifCond .eq 14, 3) := by decide +kernel
theorem dX5_read_18 : decode cX5_read 18 = .ok (.iload 4, 2) := by decide +kernel
theorem dX5_read_20 : decode cX5_read 20 = .ok (.iconst 0, 1) := by decide +kernel
theorem dX5_read_21 : decode cX5_read 21 = .ok (.bipush 13, 2) := by decide +kernel
theorem dX5_read_23 : decode cX5_read 23 = .ok (.invokestatic 156, 3) := by decide +kernel
theorem dX5_read_26 : decode cX5_read 26 = .ok (.ifCond .ne 5, 3) := by decide +kernel
theorem dX5_read_29 : decode cX5_read 29 = .ok (.iconst (-1), 1) := by decide +kernel
theorem dX5_read_30 : decode cX5_read 30 = .ok (.ireturn, 1) := by decide +kernel
theorem dX5_read_31 : decode cX5_read 31 = .ok (.aload_n 0, 1) := by decide +kernel
theorem dX5_read_32 : decode cX5_read 32 = .ok (.getfield 36, 3) := by decide +kernel
theorem dX5_read_35 : decode cX5_read 35 = .ok (.iload_n 1, 1) := by decide +kernel
theorem dX5_read_36 : decode cX5_read 36 = .ok (.aaload, 1) := by decide +kernel
theorem dX5_read_37 : decode cX5_read 37 = .ok (.astore 5, 2) := by decide +kernel
theorem dX5_read_39 : decode cX5_read 39 = .ok (.iconst 0, 1) := by decide +kernel
theorem dX5_read_40 : decode cX5_read 40 = .ok (.istore 6, 2) := by decide +kernel
theorem dX5_read_42 : decode cX5_read 42 = .ok (.iconst 0, 1) := by decide +kernel
theorem dX5_read_43 : decode cX5_read 43 = .ok (.istore 7, 2) := by decide +kernel
theorem dX5_read_45 : decode cX5_read 45 = .ok (.iconst 0, 1) := by decide +kernel
theorem dX5_read_46 : decode cX5_read 46 = .ok (.istore 8, 2) := by decide +kernel
theorem dX5_read_48 : decode cX5_read 48 = .ok (.iload 8, 2) := by decide +kernel
theorem dX5_read_50 : decode cX5_read 50 = .ok (.iload 4, 2) := by decide +kernel
theorem dX5_read_52 : decode cX5_read 52 = .ok (.if_icmp .ge 81, 3) := by decide +kernel
theorem dX5_read_55 : decode cX5_read 55 = .ok (.iload 7, 2) := by decide +kernel
theorem dX5_read_57 : decode cX5_read 57 = .ok (.ifCond .ne 76, 3) := by decide +kernel
theorem dX5_read_60 : decode cX5_read 60 = .ok (.iload_n 3, 1) := by decide +kernel
theorem dX5_read_61 : decode cX5_read 61 = .ok (.iconst 3, 1) := by decide +kernel
theorem dX5_read_62 : decode cX5_read 62 = .ok (.iload 8, 2) := by decide +kernel
theorem dX5_read_64 : decode cX5_read 64 = .ok (.imul, 1) := by decide +kernel
theorem dX5_read_65 : decode cX5_read 65 = .ok (.iadd, 1) := by decide +kernel
theorem dX5_read_66 : decode cX5_read 66 = .ok (.istore 9, 2) := by decide +kernel
theorem dX5_read_68 : decode cX5_read 68 = .ok (.aload 5, 2) := by decide +kernel
theorem dX5_read_70 : decode cX5_read 70 = .ok (.iload_n 2, 1) := by decide +kernel
theorem dX5_read_71 : decode cX5_read 71 = .ok (.iload 9, 2) := by decide +kernel
theorem dX5_read_73 : decode cX5_read 73 = .ok (.invokevirtual 254, 3) := by decide +kernel
theorem dX5_read_76 : decode cX5_read 76 = .ok (.istore 7, 2) := by decide +kernel
theorem dX5_read_78 : decode cX5_read 78 = .ok (.iload 7, 2) := by decide +kernel
theorem dX5_read_80 : decode cX5_read 80 = .ok (.ifCond .ne 47, 3) := by decide +kernel
theorem dX5_read_83 : decode cX5_read 83 = .ok (.aload_n 0, 1) := by decide +kernel
theorem dX5_read_84 : decode cX5_read 84 = .ok (.aload 5, 2) := by decide +kernel
theorem dX5_read_86 : decode cX5_read 86 = .ok (.getfield 257, 3) := by decide +kernel
theorem dX5_read_89 : decode cX5_read 89 = .ok (.iload 9, 2) := by decide +kernel
theorem dX5_read_91 : decode cX5_read 91 = .ok (.iaload, 1) := by decide +kernel
theorem dX5_read_92 : decode cX5_read 92 = .ok (.aload 5, 2) := by decide +kernel
theorem dX5_read_94 : decode cX5_read 94 = .ok (.getfield 257, 3) := by decide +kernel
theorem dX5_read_97 : decode cX5_read 97 = .ok (.iload 9, 2) := by decide +kernel
theorem dX5_read_99 : decode cX5_read 99 = .ok (.iconst 1, 1) := by decide +kernel
theorem dX5_read_100 : decode cX5_read 100 = .ok (.iadd, 1) := by decide +kernel
theorem dX5_read_101 : decode cX5_read 101 = .ok (.iaload, 1) := by decide +kernel
theorem dX5_read_102 : decode cX5_read 102 = .ok (.aload 5, 2) := by decide +kernel
theorem dX5_read_104 : decode cX5_read 104 = .ok (.getfield 257, 3) := by decide +kernel
theorem dX5_read_107 : decode cX5_read 107 = .ok (.iload 9, 2) := by decide +kernel
theorem dX5_read_109 : decode cX5_read 109 = .ok (.iconst 2, 1) := by decide +kernel
theorem dX5_read_110 : decode cX5_read 110 = .ok (.iadd, 1) := by decide +kernel
theorem dX5_read_111 : decode cX5_read 111 = .ok (.iaload, 1) := by decide +kernel
theorem dX5_read_112 : decode cX5_read 112 = .ok (.invokevirtual 163, 3) := by decide +kernel
theorem dX5_read_115 : decode cX5_read 115 = .ok (.ifCond .ne 9, 3) := by decide +kernel
theorem dX5_read_118 : decode cX5_read 118 = .ok (.bipush (-20), 2) := by decide +kernel
theorem dX5_read_120 : decode cX5_read 120 = .ok (.iload 8, 2) := by decide +kernel
theorem dX5_read_122 : decode cX5_read 122 = .ok (.isub, 1) := by decide +kernel
theorem dX5_read_123 : decode cX5_read 123 = .ok (.ireturn, 1) := by decide +kernel
theorem dX5_read_124 : decode cX5_read 124 = .ok (.iinc 6 1, 3) := by decide +kernel
theorem dX5_read_127 : decode cX5_read 127 = .ok (.iinc 8 1, 3) := by decide +kernel
theorem dX5_read_130 : decode cX5_read 130 = .ok (.goto (-82), 3) := by decide +kernel
theorem dX5_read_133 : decode cX5_read 133 = .ok (.iconst 0, 1) := by decide +kernel
theorem dX5_read_134 : decode cX5_read 134 = .ok (.istore 8, 2) := by decide +kernel
theorem dX5_read_136 : decode cX5_read 136 = .ok (.iload 8, 2) := by decide +kernel
theorem dX5_read_138 : decode cX5_read 138 = .ok (.iload 6, 2) := by decide +kernel
theorem dX5_read_140 : decode cX5_read 140 = .ok (.if_icmp .ge 52, 3) := by decide +kernel
theorem dX5_read_143 : decode cX5_read 143 = .ok (.iload_n 3, 1) := by decide +kernel
theorem dX5_read_144 : decode cX5_read 144 = .ok (.iconst 3, 1) := by decide +kernel
theorem dX5_read_145 : decode cX5_read 145 = .ok (.iload 8, 2) := by decide +kernel
theorem dX5_read_147 : decode cX5_read 147 = .ok (.imul, 1) := by decide +kernel
theorem dX5_read_148 : decode cX5_read 148 = .ok (.iadd, 1) := by decide +kernel
theorem dX5_read_149 : decode cX5_read 149 = .ok (.istore 9, 2) := by decide +kernel
theorem dX5_read_151 : decode cX5_read 151 = .ok (.aload_n 0, 1) := by decide +kernel
theorem dX5_read_152 : decode cX5_read 152 = .ok (.getfield 10, 3) := by decide +kernel
theorem dX5_read_155 : decode cX5_read 155 = .ok (.aload 5, 2) := by decide +kernel
theorem dX5_read_157 : decode cX5_read 157 = .ok (.getfield 257, 3) := by decide +kernel
theorem dX5_read_160 : decode cX5_read 160 = .ok (.iload 9, 2) := by decide +kernel
theorem dX5_read_162 : decode cX5_read 162 = .ok (.iaload, 1) := by decide +kernel
theorem dX5_read_163 : decode cX5_read 163 = .ok (.aload 5, 2) := by decide +kernel
theorem dX5_read_165 : decode cX5_read 165 = .ok (.getfield 257, 3) := by decide +kernel
theorem dX5_read_168 : decode cX5_read 168 = .ok (.iload 9, 2) := by decide +kernel
theorem dX5_read_170 : decode cX5_read 170 = .ok (.iconst 1, 1) := by decide +kernel
theorem dX5_read_171 : decode cX5_read 171 = .ok (.iadd, 1) := by decide +kernel
theorem dX5_read_172 : decode cX5_read 172 = .ok (.iaload, 1) := by decide +kernel
theorem dX5_read_173 : decode cX5_read 173 = .ok (.aload 5, 2) := by decide +kernel
theorem dX5_read_175 : decode cX5_read 175 = .ok (.getfield 257, 3) := by decide +kernel
theorem dX5_read_178 : decode cX5_read 178 = .ok (.iload 9, 2) := by decide +kernel
theorem dX5_read_180 : decode cX5_read 180 = .ok (.iconst 2, 1) := by decide +kernel
theorem dX5_read_181 : decode cX5_read 181 = .ok (.iadd, 1) := by decide +kernel
theorem dX5_read_182 : decode cX5_read 182 = .ok (.iaload, 1) := by decide +kernel
theorem dX5_read_183 : decode cX5_read 183 = .ok (.invokevirtual 166, 3) := by decide +kernel
theorem dX5_read_186 : decode cX5_read 186 = .ok (.iinc 8 1, 3) := by decide +kernel
theorem dX5_read_189 : decode cX5_read 189 = .ok (.goto (-53), 3) := by decide +kernel
theorem dX5_read_192 : decode cX5_read 192 = .ok (.aload_n 0, 1) := by decide +kernel
theorem dX5_read_193 : decode cX5_read 193 = .ok (.iload 7, 2) := by decide +kernel
theorem dX5_read_195 : decode cX5_read 195 = .ok (.putfield 54, 3) := by decide +kernel
theorem dX5_read_198 : decode cX5_read 198 = .ok (.iload 6, 2) := by decide +kernel
theorem dX5_read_200 : decode cX5_read 200 = .ok (.ireturn, 1) := by decide +kernel
theorem dX5_torn_0 : decode cX5_torn 0 = .ok (.aload_n 0, 1) := by decide +kernel
theorem dX5_torn_1 : decode cX5_torn 1 = .ok (.getfield 54, 3) := by decide +kernel
theorem dX5_torn_4 : decode cX5_torn 4 = .ok (.ireturn, 1) := by decide +kernel
theorem dX5_count_0 : decode cX5_count 0 = .ok (.iload_n 1, 1) := by decide +kernel
theorem dX5_count_1 : decode cX5_count 1 = .ok (.tableswitch 136 0 5 #[39, 47, 83, 91, 120, 128], 39) := by decide +kernel
theorem dX5_count_40 : decode cX5_count 40 = .ok (.aload_n 0, 1) := by decide +kernel
theorem dX5_count_41 : decode cX5_count 41 = .ok (.getfield 22, 3) := by decide +kernel
theorem dX5_count_44 : decode cX5_count 44 = .ok (.getfield 79, 3) := by decide +kernel
theorem dX5_count_47 : decode cX5_count 47 = .ok (.ireturn, 1) := by decide +kernel
theorem dX5_count_48 : decode cX5_count 48 = .ok (.aload_n 0, 1) := by decide +kernel
theorem dX5_count_49 : decode cX5_count 49 = .ok (.getfield 29, 3) := by decide +kernel
theorem dX5_count_52 : decode cX5_count 52 = .ok (.iconst 0, 1) := by decide +kernel
theorem dX5_count_53 : decode cX5_count 53 = .ok (.aaload, 1) := by decide +kernel
theorem dX5_count_54 : decode cX5_count 54 = .ok (.getfield 82, 3) := by decide +kernel
theorem dX5_count_57 : decode cX5_count 57 = .ok (.ifCond .eq 7, 3) := by decide +kernel
theorem dX5_count_60 : decode cX5_count 60 = .ok (.iconst 1, 1) := by decide +kernel
theorem dX5_count_61 : decode cX5_count 61 = .ok (.goto 4, 3) := by decide +kernel
theorem dX5_count_64 : decode cX5_count 64 = .ok (.iconst 0, 1) := by decide +kernel
theorem dX5_count_65 : decode cX5_count 65 = .ok (.aload_n 0, 1) := by decide +kernel
theorem dX5_count_66 : decode cX5_count 66 = .ok (.getfield 29, 3) := by decide +kernel
theorem dX5_count_69 : decode cX5_count 69 = .ok (.iconst 1, 1) := by decide +kernel
theorem dX5_count_70 : decode cX5_count 70 = .ok (.aaload, 1) := by decide +kernel
theorem dX5_count_71 : decode cX5_count 71 = .ok (.getfield 82, 3) := by decide +kernel
theorem dX5_count_74 : decode cX5_count 74 = .ok (.ifCond .eq 7, 3) := by decide +kernel
theorem dX5_count_77 : decode cX5_count 77 = .ok (.iconst 1, 1) := by decide +kernel
theorem dX5_count_78 : decode cX5_count 78 = .ok (.goto 4, 3) := by decide +kernel
theorem dX5_count_81 : decode cX5_count 81 = .ok (.iconst 0, 1) := by decide +kernel
theorem dX5_count_82 : decode cX5_count 82 = .ok (.iadd, 1) := by decide +kernel
theorem dX5_count_83 : decode cX5_count 83 = .ok (.ireturn, 1) := by decide +kernel
theorem dX5_count_84 : decode cX5_count 84 = .ok (.aload_n 0, 1) := by decide +kernel
theorem dX5_count_85 : decode cX5_count 85 = .ok (.getfield 43, 3) := by decide +kernel
theorem dX5_count_88 : decode cX5_count 88 = .ok (.getfield 58, 3) := by decide +kernel
theorem dX5_count_91 : decode cX5_count 91 = .ok (.ireturn, 1) := by decide +kernel
theorem dX5_count_92 : decode cX5_count 92 = .ok (.aload_n 0, 1) := by decide +kernel
theorem dX5_count_93 : decode cX5_count 93 = .ok (.getfield 36, 3) := by decide +kernel
theorem dX5_count_96 : decode cX5_count 96 = .ok (.iconst 0, 1) := by decide +kernel
theorem dX5_count_97 : decode cX5_count 97 = .ok (.aaload, 1) := by decide +kernel
theorem dX5_count_98 : decode cX5_count 98 = .ok (.getfield 245, 3) := by decide +kernel
theorem dX5_count_101 : decode cX5_count 101 = .ok (.bipush (-4), 2) := by decide +kernel
theorem dX5_count_103 : decode cX5_count 103 = .ok (.if_icmp .ne 8, 3) := by decide +kernel
theorem dX5_count_106 : decode cX5_count 106 = .ok (.bipush (-4), 2) := by decide +kernel
theorem dX5_count_108 : decode cX5_count 108 = .ok (.goto 12, 3) := by decide +kernel
theorem dX5_count_111 : decode cX5_count 111 = .ok (.aload_n 0, 1) := by decide +kernel
theorem dX5_count_112 : decode cX5_count 112 = .ok (.getfield 36, 3) := by decide +kernel
theorem dX5_count_115 : decode cX5_count 115 = .ok (.iconst 0, 1) := by decide +kernel
theorem dX5_count_116 : decode cX5_count 116 = .ok (.aaload, 1) := by decide +kernel
theorem dX5_count_117 : decode cX5_count 117 = .ok (.getfield 260, 3) := by decide +kernel
theorem dX5_count_120 : decode cX5_count 120 = .ok (.ireturn, 1) := by decide +kernel
theorem dX5_count_121 : decode cX5_count 121 = .ok (.aload_n 0, 1) := by decide +kernel
theorem dX5_count_122 : decode cX5_count 122 = .ok (.getfield 10, 3) := by decide +kernel
theorem dX5_count_125 : decode cX5_count 125 = .ok (.invokevirtual 263, 3) := by decide +kernel
theorem dX5_count_128 : decode cX5_count 128 = .ok (.ireturn, 1) := by decide +kernel
theorem dX5_count_129 : decode cX5_count 129 = .ok (.aload_n 0, 1) := by decide +kernel
theorem dX5_count_130 : decode cX5_count 130 = .ok (.getfield 10, 3) := by decide +kernel
theorem dX5_count_133 : decode cX5_count 133 = .ok (.invokevirtual 266, 3) := by decide +kernel
theorem dX5_count_136 : decode cX5_count 136 = .ok (.ireturn, 1) := by decide +kernel
theorem dX5_count_137 : decode cX5_count 137 = .ok (.iconst (-1), 1) := by decide +kernel
theorem dX5_count_138 : decode cX5_count 138 = .ok (.ireturn, 1) := by decide +kernel
theorem dX5_isWithin_0 : decode cX5_isWithin 0 = .ok (.iload_n 0, 1) := by decide +kernel
theorem dX5_isWithin_1 : decode cX5_isWithin 1 = .ok (.iload_n 1, 1) := by decide +kernel
theorem dX5_isWithin_2 : decode cX5_isWithin 2 = .ok (.if_icmp .lt 12, 3) := by decide +kernel
theorem dX5_isWithin_5 : decode cX5_isWithin 5 = .ok (.iload_n 0, 1) := by decide +kernel
theorem dX5_isWithin_6 : decode cX5_isWithin 6 = .ok (.iload_n 2, 1) := by decide +kernel
theorem dX5_isWithin_7 : decode cX5_isWithin 7 = .ok (.if_icmp .gt 7, 3) := by decide +kernel
theorem dX5_isWithin_10 : decode cX5_isWithin 10 = .ok (.iconst 1, 1) := by decide +kernel
theorem dX5_isWithin_11 : decode cX5_isWithin 11 = .ok (.goto 4, 3) := by decide +kernel
theorem dX5_isWithin_14 : decode cX5_isWithin 14 = .ok (.iconst 0, 1) := by decide +kernel
theorem dX5_isWithin_15 : decode cX5_isWithin 15 = .ok (.ireturn, 1) := by decide +kernel
theorem dX5_isIsle_0 : decode cX5_isIsle 0 = .ok (.iload_n 1, 1) := by decide +kernel
theorem dX5_isIsle_1 : decode cX5_isIsle 1 = .ok (.ifCond .lt 18, 3) := by decide +kernel
theorem dX5_isIsle_4 : decode cX5_isIsle 4 = .ok (.iload_n 1, 1) := by decide +kernel
theorem dX5_isIsle_5 : decode cX5_isIsle 5 = .ok (.aload_n 0, 1) := by decide +kernel
theorem dX5_isIsle_6 : decode cX5_isIsle 6 = .ok (.getfield 10, 3) := by decide +kernel
theorem dX5_isIsle_9 : decode cX5_isIsle 9 = .ok (.getfield 92, 3) := by decide +kernel
theorem dX5_isIsle_12 : decode cX5_isIsle 12 = .ok (.if_icmp .ge 7, 3) := by decide +kernel
theorem dX5_isIsle_15 : decode cX5_isIsle 15 = .ok (.iconst 1, 1) := by decide +kernel
theorem dX5_isIsle_16 : decode cX5_isIsle 16 = .ok (.goto 4, 3) := by decide +kernel
theorem dX5_isIsle_19 : decode cX5_isIsle 19 = .ok (.iconst 0, 1) := by decide +kernel
theorem dX5_isIsle_20 : decode cX5_isIsle 20 = .ok (.ireturn, 1) := by decide +kernel
theorem dX5_isRope_0 : decode cX5_isRope 0 = .ok (.iload_n 1, 1) := by decide +kernel
theorem dX5_isRope_1 : decode cX5_isRope 1 = .ok (.ifCond .lt 18, 3) := by decide +kernel
theorem dX5_isRope_4 : decode cX5_isRope 4 = .ok (.iload_n 1, 1) := by decide +kernel
theorem dX5_isRope_5 : decode cX5_isRope 5 = .ok (.aload_n 0, 1) := by decide +kernel
theorem dX5_isRope_6 : decode cX5_isRope 6 = .ok (.getfield 10, 3) := by decide +kernel
theorem dX5_isRope_9 : decode cX5_isRope 9 = .ok (.getfield 95, 3) := by decide +kernel
theorem dX5_isRope_12 : decode cX5_isRope 12 = .ok (.if_icmp .ge 7, 3) := by decide +kernel
theorem dX5_isRope_15 : decode cX5_isRope 15 = .ok (.iconst 1, 1) := by decide +kernel
theorem dX5_isRope_16 : decode cX5_isRope 16 = .ok (.goto 4, 3) := by decide +kernel
theorem dX5_isRope_19 : decode cX5_isRope 19 = .ok (.iconst 0, 1) := by decide +kernel
theorem dX5_isRope_20 : decode cX5_isRope 20 = .ok (.ireturn, 1) := by decide +kernel
theorem dX5_isPair_0 : decode cX5_isPair 0 = .ok (.aload_n 0, 1) := by decide +kernel
theorem dX5_isPair_1 : decode cX5_isPair 1 = .ok (.iload_n 1, 1) := by decide +kernel
theorem dX5_isPair_2 : decode cX5_isPair 2 = .ok (.invokevirtual 111, 3) := by decide +kernel
theorem dX5_isPair_5 : decode cX5_isPair 5 = .ok (.ifCond .eq 20, 3) := by decide +kernel
theorem dX5_isPair_8 : decode cX5_isPair 8 = .ok (.aload_n 0, 1) := by decide +kernel
theorem dX5_isPair_9 : decode cX5_isPair 9 = .ok (.iload_n 2, 1) := by decide +kernel
theorem dX5_isPair_10 : decode cX5_isPair 10 = .ok (.invokevirtual 111, 3) := by decide +kernel
theorem dX5_isPair_13 : decode cX5_isPair 13 = .ok (.ifCond .eq 12, 3) := by decide +kernel
theorem dX5_isPair_16 : decode cX5_isPair 16 = .ok (.iload_n 1, 1) := by decide +kernel
theorem dX5_isPair_17 : decode cX5_isPair 17 = .ok (.iload_n 2, 1) := by decide +kernel
theorem dX5_isPair_18 : decode cX5_isPair 18 = .ok (.if_icmp .eq 7, 3) := by decide +kernel
theorem dX5_isPair_21 : decode cX5_isPair 21 = .ok (.iconst 1, 1) := by decide +kernel
theorem dX5_isPair_22 : decode cX5_isPair 22 = .ok (.goto 4, 3) := by decide +kernel
theorem dX5_isPair_25 : decode cX5_isPair 25 = .ok (.iconst 0, 1) := by decide +kernel
theorem dX5_isPair_26 : decode cX5_isPair 26 = .ok (.ireturn, 1) := by decide +kernel
theorem dX5_isGrudge_0 : decode cX5_isGrudge 0 = .ok (.aload_n 0, 1) := by decide +kernel
theorem dX5_isGrudge_1 : decode cX5_isGrudge 1 = .ok (.iload_n 1, 1) := by decide +kernel
theorem dX5_isGrudge_2 : decode cX5_isGrudge 2 = .ok (.iload_n 2, 1) := by decide +kernel
theorem dX5_isGrudge_3 : decode cX5_isGrudge 3 = .ok (.invokevirtual 136, 3) := by decide +kernel
theorem dX5_isGrudge_6 : decode cX5_isGrudge 6 = .ok (.ifCond .eq 16, 3) := by decide +kernel
theorem dX5_isGrudge_9 : decode cX5_isGrudge 9 = .ok (.iload_n 3, 1) := by decide +kernel
theorem dX5_isGrudge_10 : decode cX5_isGrudge 10 = .ok (.iconst 0, 1) := by decide +kernel
theorem dX5_isGrudge_11 : decode cX5_isGrudge 11 = .ok (.iconst 3, 1) := by decide +kernel
theorem dX5_isGrudge_12 : decode cX5_isGrudge 12 = .ok (.invokestatic 156, 3) := by decide +kernel
theorem dX5_isGrudge_15 : decode cX5_isGrudge 15 = .ok (.ifCond .eq 7, 3) := by decide +kernel
theorem dX5_isGrudge_18 : decode cX5_isGrudge 18 = .ok (.iconst 1, 1) := by decide +kernel
theorem dX5_isGrudge_19 : decode cX5_isGrudge 19 = .ok (.goto 4, 3) := by decide +kernel
theorem dX5_isGrudge_22 : decode cX5_isGrudge 22 = .ok (.iconst 0, 1) := by decide +kernel
theorem dX5_isGrudge_23 : decode cX5_isGrudge 23 = .ok (.ireturn, 1) := by decide +kernel
theorem dX5_isStorms_0 : decode cX5_isStorms 0 = .ok (.iload_n 0, 1) := by decide +kernel
theorem dX5_isStorms_1 : decode cX5_isStorms 1 = .ok (.iconst 0, 1) := by decide +kernel
theorem dX5_isStorms_2 : decode cX5_isStorms 2 = .ok (.bipush 10, 2) := by decide +kernel
theorem dX5_isStorms_4 : decode cX5_isStorms 4 = .ok (.invokestatic 156, 3) := by decide +kernel
theorem dX5_isStorms_7 : decode cX5_isStorms 7 = .ok (.ifCond .eq 26, 3) := by decide +kernel
theorem dX5_isStorms_10 : decode cX5_isStorms 10 = .ok (.iload_n 1, 1) := by decide +kernel
theorem dX5_isStorms_11 : decode cX5_isStorms 11 = .ok (.iconst 0, 1) := by decide +kernel
theorem dX5_isStorms_12 : decode cX5_isStorms 12 = .ok (.bipush 8, 2) := by decide +kernel
theorem dX5_isStorms_14 : decode cX5_isStorms 14 = .ok (.invokestatic 156, 3) := by decide +kernel
theorem dX5_isStorms_17 : decode cX5_isStorms 17 = .ok (.ifCond .eq 16, 3) := by decide +kernel
theorem dX5_isStorms_20 : decode cX5_isStorms 20 = .ok (.iload_n 2, 1) := by decide +kernel
theorem dX5_isStorms_21 : decode cX5_isStorms 21 = .ok (.iconst 0, 1) := by decide +kernel
theorem dX5_isStorms_22 : decode cX5_isStorms 22 = .ok (.iconst 1, 1) := by decide +kernel
theorem dX5_isStorms_23 : decode cX5_isStorms 23 = .ok (.invokestatic 156, 3) := by decide +kernel
theorem dX5_isStorms_26 : decode cX5_isStorms 26 = .ok (.ifCond .eq 7, 3) := by decide +kernel
theorem dX5_isStorms_29 : decode cX5_isStorms 29 = .ok (.iconst 1, 1) := by decide +kernel
theorem dX5_isStorms_30 : decode cX5_isStorms 30 = .ok (.goto 4, 3) := by decide +kernel
theorem dX5_isStorms_33 : decode cX5_isStorms 33 = .ok (.iconst 0, 1) := by decide +kernel
theorem dX5_isStorms_34 : decode cX5_isStorms 34 = .ok (.ireturn, 1) := by decide +kernel
theorem dX5_asItIs_0 : decode cX5_asItIs 0 = .ok (.aload_n 0, 1) := by decide +kernel
theorem dX5_asItIs_1 : decode cX5_asItIs 1 = .ok (.getfield 16, 3) := by decide +kernel
theorem dX5_asItIs_4 : decode cX5_asItIs 4 = .ok (.aload_n 0, 1) := by decide +kernel
theorem dX5_asItIs_5 : decode cX5_asItIs 5 = .ok (.getfield 10, 3) := by decide +kernel
theorem dX5_asItIs_8 : decode cX5_asItIs 8 = .ok (.invokevirtual 75, 3) := by decide +kernel
theorem dX5_asItIs_11 : decode cX5_asItIs 11 = .ok (.aload_n 0, 1) := by decide +kernel
theorem dX5_asItIs_12 : decode cX5_asItIs 12 = .ok (.getfield 16, 3) := by decide +kernel
theorem dX5_asItIs_15 : decode cX5_asItIs 15 = .ok (.areturn, 1) := by decide +kernel
theorem dX5_advice_0 : decode cX5_advice 0 = .ok (.iload_n 0, 1) := by decide +kernel
theorem dX5_advice_1 : decode cX5_advice 1 = .ok (.bipush (-4), 2) := by decide +kernel
theorem dX5_advice_3 : decode cX5_advice 3 = .ok (.if_icmp .ne 6, 3) := by decide +kernel
theorem dX5_advice_6 : decode cX5_advice 6 = .ok (.bipush (-4), 2) := by decide +kernel
theorem dX5_advice_8 : decode cX5_advice 8 = .ok (.ireturn, 1) := by decide +kernel
theorem dX5_advice_9 : decode cX5_advice 9 = .ok (.iload_n 2, 1) := by decide +kernel
theorem dX5_advice_10 : decode cX5_advice 10 = .ok (.ifCond .ne 7, 3) := by decide +kernel
theorem dX5_advice_13 : decode cX5_advice 13 = .ok (.iload_n 0, 1) := by decide +kernel
theorem dX5_advice_14 : decode cX5_advice 14 = .ok (.goto 4, 3) := by decide +kernel
theorem dX5_advice_17 : decode cX5_advice 17 = .ok (.iload_n 1, 1) := by decide +kernel
theorem dX5_advice_18 : decode cX5_advice 18 = .ok (.ireturn, 1) := by decide +kernel
theorem dX5_kindsAsSeen_0 : decode cX5_kindsAsSeen 0 = .ok (.iconst 0, 1) := by decide +kernel
theorem dX5_kindsAsSeen_1 : decode cX5_kindsAsSeen 1 = .ok (.istore_n 2, 1) := by decide +kernel
theorem dX5_kindsAsSeen_2 : decode cX5_kindsAsSeen 2 = .ok (.iconst 0, 1) := by decide +kernel
theorem dX5_kindsAsSeen_3 : decode cX5_kindsAsSeen 3 = .ok (.istore_n 3, 1) := by decide +kernel
theorem dX5_kindsAsSeen_4 : decode cX5_kindsAsSeen 4 = .ok (.iload_n 3, 1) := by decide +kernel
theorem dX5_kindsAsSeen_5 : decode cX5_kindsAsSeen 5 = .ok (.iconst 4, 1) := by decide +kernel
theorem dX5_kindsAsSeen_6 : decode cX5_kindsAsSeen 6 = .ok (.if_icmp .ge 41, 3) := by decide +kernel
theorem dX5_kindsAsSeen_9 : decode cX5_kindsAsSeen 9 = .ok (.aload_n 0, 1) := by decide +kernel
theorem dX5_kindsAsSeen_10 : decode cX5_kindsAsSeen 10 = .ok (.invokevirtual 177, 3) := by decide +kernel
theorem dX5_kindsAsSeen_13 : decode cX5_kindsAsSeen 13 = .ok (.astore 4, 2) := by decide +kernel
theorem dX5_kindsAsSeen_15 : decode cX5_kindsAsSeen 15 = .ok (.aload 4, 2) := by decide +kernel
theorem dX5_kindsAsSeen_17 : decode cX5_kindsAsSeen 17 = .ok (.getfield 115, 3) := by decide +kernel
theorem dX5_kindsAsSeen_20 : decode cX5_kindsAsSeen 20 = .ok (.iload_n 1, 1) := by decide +kernel
theorem dX5_kindsAsSeen_21 : decode cX5_kindsAsSeen 21 = .ok (.iload_n 3, 1) := by decide +kernel
theorem dX5_kindsAsSeen_22 : decode cX5_kindsAsSeen 22 = .ok (.iastore, 1) := by decide +kernel
theorem dX5_kindsAsSeen_23 : decode cX5_kindsAsSeen 23 = .ok (.aload_n 0, 1) := by decide +kernel
theorem dX5_kindsAsSeen_24 : decode cX5_kindsAsSeen 24 = .ok (.getfield 22, 3) := by decide +kernel
theorem dX5_kindsAsSeen_27 : decode cX5_kindsAsSeen 27 = .ok (.aload 4, 2) := by decide +kernel
theorem dX5_kindsAsSeen_29 : decode cX5_kindsAsSeen 29 = .ok (.invokevirtual 223, 3) := by decide +kernel
theorem dX5_kindsAsSeen_32 : decode cX5_kindsAsSeen 32 = .ok (.ifCond .eq 9, 3) := by decide +kernel
theorem dX5_kindsAsSeen_35 : decode cX5_kindsAsSeen 35 = .ok (.iload_n 2, 1) := by decide +kernel
theorem dX5_kindsAsSeen_36 : decode cX5_kindsAsSeen 36 = .ok (.iconst 1, 1) := by decide +kernel
theorem dX5_kindsAsSeen_37 : decode cX5_kindsAsSeen 37 = .ok (.iload_n 3, 1) := by decide +kernel
theorem dX5_kindsAsSeen_38 : decode cX5_kindsAsSeen 38 = .ok (.ishl, 1) := by decide +kernel
theorem dX5_kindsAsSeen_39 : decode cX5_kindsAsSeen 39 = .ok (.ior, 1) := by decide +kernel
theorem dX5_kindsAsSeen_40 : decode cX5_kindsAsSeen 40 = .ok (.istore_n 2, 1) := by decide +kernel
theorem dX5_kindsAsSeen_41 : decode cX5_kindsAsSeen 41 = .ok (.iinc 3 1, 3) := by decide +kernel
theorem dX5_kindsAsSeen_44 : decode cX5_kindsAsSeen 44 = .ok (.goto (-40), 3) := by decide +kernel
theorem dX5_kindsAsSeen_47 : decode cX5_kindsAsSeen 47 = .ok (.iload_n 2, 1) := by decide +kernel
theorem dX5_kindsAsSeen_48 : decode cX5_kindsAsSeen 48 = .ok (.ireturn, 1) := by decide +kernel
theorem dX5_layCourses_0 : decode cX5_layCourses 0 = .ok (.iconst 0, 1) := by decide +kernel
theorem dX5_layCourses_1 : decode cX5_layCourses 1 = .ok (.istore_n 3, 1) := by decide +kernel
theorem dX5_layCourses_2 : decode cX5_layCourses 2 = .ok (.iconst 0, 1) := by decide +kernel
theorem dX5_layCourses_3 : decode cX5_layCourses 3 = .ok (.istore 4, 2) := by decide +kernel
theorem dX5_layCourses_5 : decode cX5_layCourses 5 = .ok (.iload 4, 2) := by decide +kernel
theorem dX5_layCourses_7 : decode cX5_layCourses 7 = .ok (.iconst 4, 1) := by decide +kernel
theorem dX5_layCourses_8 : decode cX5_layCourses 8 = .ok (.if_icmp .ge 87, 3) := by decide +kernel
theorem dX5_layCourses_11 : decode cX5_layCourses 11 = .ok (.iload_n 2, 1) := by decide +kernel
theorem dX5_layCourses_12 : decode cX5_layCourses 12 = .ok (.iload 4, 2) := by decide +kernel
theorem dX5_layCourses_14 : decode cX5_layCourses 14 = .ok (.ishr, 1) := by decide +kernel
theorem dX5_layCourses_15 : decode cX5_layCourses 15 = .ok (.iconst 1, 1) := by decide +kernel
theorem dX5_layCourses_16 : decode cX5_layCourses 16 = .ok (.iand, 1) := by decide +kernel
theorem dX5_layCourses_17 : decode cX5_layCourses 17 = .ok (.ifCond .ne 6, 3) := by decide +kernel
theorem dX5_layCourses_20 : decode cX5_layCourses 20 = .ok (.goto 69, 3) := by decide +kernel
theorem dX5_layCourses_23 : decode cX5_layCourses 23 = .ok (.aload_n 0, 1) := by decide +kernel
theorem dX5_layCourses_24 : decode cX5_layCourses 24 = .ok (.invokevirtual 177, 3) := by decide +kernel
theorem dX5_layCourses_27 : decode cX5_layCourses 27 = .ok (.astore 5, 2) := by decide +kernel
theorem dX5_layCourses_29 : decode cX5_layCourses 29 = .ok (.aload 5, 2) := by decide +kernel
theorem dX5_layCourses_31 : decode cX5_layCourses 31 = .ok (.getfield 115, 3) := by decide +kernel
theorem dX5_layCourses_34 : decode cX5_layCourses 34 = .ok (.iload_n 1, 1) := by decide +kernel
theorem dX5_layCourses_35 : decode cX5_layCourses 35 = .ok (.iload 4, 2) := by decide +kernel
theorem dX5_layCourses_37 : decode cX5_layCourses 37 = .ok (.iastore, 1) := by decide +kernel
theorem dX5_layCourses_38 : decode cX5_layCourses 38 = .ok (.iconst 0, 1) := by decide +kernel
theorem dX5_layCourses_39 : decode cX5_layCourses 39 = .ok (.istore 6, 2) := by decide +kernel
theorem dX5_layCourses_41 : decode cX5_layCourses 41 = .ok (.iload 6, 2) := by decide +kernel
theorem dX5_layCourses_43 : decode cX5_layCourses 43 = .ok (.bipush 20, 2) := by decide +kernel
theorem dX5_layCourses_45 : decode cX5_layCourses 45 = .ok (.if_icmp .gt 41, 3) := by decide +kernel
theorem dX5_layCourses_48 : decode cX5_layCourses 48 = .ok (.iload_n 3, 1) := by decide +kernel
theorem dX5_layCourses_49 : decode cX5_layCourses 49 = .ok (.bipush 21, 2) := by decide +kernel
theorem dX5_layCourses_51 : decode cX5_layCourses 51 = .ok (.imul, 1) := by decide +kernel
theorem dX5_layCourses_52 : decode cX5_layCourses 52 = .ok (.iload 6, 2) := by decide +kernel
theorem dX5_layCourses_54 : decode cX5_layCourses 54 = .ok (.iadd, 1) := by decide +kernel
theorem dX5_layCourses_55 : decode cX5_layCourses 55 = .ok (.iconst 5, 1) := by decide +kernel
theorem dX5_layCourses_56 : decode cX5_layCourses 56 = .ok (.imul, 1) := by decide +kernel
theorem dX5_layCourses_57 : decode cX5_layCourses 57 = .ok (.istore 7, 2) := by decide +kernel
theorem dX5_layCourses_59 : decode cX5_layCourses 59 = .ok (.aload 5, 2) := by decide +kernel
theorem dX5_layCourses_61 : decode cX5_layCourses 61 = .ok (.getfield 118, 3) := by decide +kernel
theorem dX5_layCourses_64 : decode cX5_layCourses 64 = .ok (.iconst 0, 1) := by decide +kernel
theorem dX5_layCourses_65 : decode cX5_layCourses 65 = .ok (.aload_n 0, 1) := by decide +kernel
theorem dX5_layCourses_66 : decode cX5_layCourses 66 = .ok (.getfield 47, 3) := by decide +kernel
theorem dX5_layCourses_69 : decode cX5_layCourses 69 = .ok (.iload 7, 2) := by decide +kernel
theorem dX5_layCourses_71 : decode cX5_layCourses 71 = .ok (.iconst 5, 1) := by decide +kernel
theorem dX5_layCourses_72 : decode cX5_layCourses 72 = .ok (.invokestatic 269, 3) := by decide +kernel
theorem dX5_layCourses_75 : decode cX5_layCourses 75 = .ok (.aload 5, 2) := by decide +kernel
theorem dX5_layCourses_77 : decode cX5_layCourses 77 = .ok (.invokevirtual 181, 3) := by decide +kernel
theorem dX5_layCourses_80 : decode cX5_layCourses 80 = .ok (.iinc 6 1, 3) := by decide +kernel
theorem dX5_layCourses_83 : decode cX5_layCourses 83 = .ok (.goto (-42), 3) := by decide +kernel
theorem dX5_layCourses_86 : decode cX5_layCourses 86 = .ok (.iinc 3 1, 3) := by decide +kernel
theorem dX5_layCourses_89 : decode cX5_layCourses 89 = .ok (.iinc 4 1, 3) := by decide +kernel
theorem dX5_layCourses_92 : decode cX5_layCourses 92 = .ok (.goto (-87), 3) := by decide +kernel
theorem dX5_layCourses_95 : decode cX5_layCourses 95 = .ok (.iload_n 3, 1) := by decide +kernel
theorem dX5_layCourses_96 : decode cX5_layCourses 96 = .ok (.ireturn, 1) := by decide +kernel
theorem dX5_mostLeft_0 : decode cX5_mostLeft 0 = .ok (.bipush 105, 2) := by decide +kernel
theorem dX5_mostLeft_2 : decode cX5_mostLeft 2 = .ok (.istore_n 3, 1) := by decide +kernel
theorem dX5_mostLeft_3 : decode cX5_mostLeft 3 = .ok (.iconst 0, 1) := by decide +kernel
theorem dX5_mostLeft_4 : decode cX5_mostLeft 4 = .ok (.istore 4, 2) := by decide +kernel
theorem dX5_mostLeft_6 : decode cX5_mostLeft 6 = .ok (.iconst 0, 1) := by decide +kernel
theorem dX5_mostLeft_7 : decode cX5_mostLeft 7 = .ok (.istore 5, 2) := by decide +kernel
theorem dX5_mostLeft_9 : decode cX5_mostLeft 9 = .ok (.iload 5, 2) := by decide +kernel
theorem dX5_mostLeft_11 : decode cX5_mostLeft 11 = .ok (.iload_n 1, 1) := by decide +kernel
theorem dX5_mostLeft_12 : decode cX5_mostLeft 12 = .ok (.if_icmp .ge 64, 3) := by decide +kernel
theorem dX5_mostLeft_15 : decode cX5_mostLeft 15 = .ok (.iconst 0, 1) := by decide +kernel
theorem dX5_mostLeft_16 : decode cX5_mostLeft 16 = .ok (.istore 6, 2) := by decide +kernel
theorem dX5_mostLeft_18 : decode cX5_mostLeft 18 = .ok (.iconst 0, 1) := by decide +kernel
theorem dX5_mostLeft_19 : decode cX5_mostLeft 19 = .ok (.istore 7, 2) := by decide +kernel
theorem dX5_mostLeft_21 : decode cX5_mostLeft 21 = .ok (.iload 7, 2) := by decide +kernel
theorem dX5_mostLeft_23 : decode cX5_mostLeft 23 = .ok (.iload_n 1, 1) := by decide +kernel
theorem dX5_mostLeft_24 : decode cX5_mostLeft 24 = .ok (.if_icmp .ge 37, 3) := by decide +kernel
theorem dX5_mostLeft_27 : decode cX5_mostLeft 27 = .ok (.aload_n 0, 1) := by decide +kernel
theorem dX5_mostLeft_28 : decode cX5_mostLeft 28 = .ok (.getfield 47, 3) := by decide +kernel
theorem dX5_mostLeft_31 : decode cX5_mostLeft 31 = .ok (.iload 5, 2) := by decide +kernel
theorem dX5_mostLeft_33 : decode cX5_mostLeft 33 = .ok (.iload_n 3, 1) := by decide +kernel
theorem dX5_mostLeft_34 : decode cX5_mostLeft 34 = .ok (.imul, 1) := by decide +kernel
theorem dX5_mostLeft_35 : decode cX5_mostLeft 35 = .ok (.iload_n 2, 1) := by decide +kernel
theorem dX5_mostLeft_36 : decode cX5_mostLeft 36 = .ok (.iadd, 1) := by decide +kernel
theorem dX5_mostLeft_37 : decode cX5_mostLeft 37 = .ok (.iaload, 1) := by decide +kernel
theorem dX5_mostLeft_38 : decode cX5_mostLeft 38 = .ok (.aload_n 0, 1) := by decide +kernel
theorem dX5_mostLeft_39 : decode cX5_mostLeft 39 = .ok (.getfield 47, 3) := by decide +kernel
theorem dX5_mostLeft_42 : decode cX5_mostLeft 42 = .ok (.iload 7, 2) := by decide +kernel
theorem dX5_mostLeft_44 : decode cX5_mostLeft 44 = .ok (.iload_n 3, 1) := by decide +kernel
theorem dX5_mostLeft_45 : decode cX5_mostLeft 45 = .ok (.imul, 1) := by decide +kernel
theorem dX5_mostLeft_46 : decode cX5_mostLeft 46 = .ok (.iload_n 2, 1) := by decide +kernel
theorem dX5_mostLeft_47 : decode cX5_mostLeft 47 = .ok (.iadd, 1) := by decide +kernel
theorem dX5_mostLeft_48 : decode cX5_mostLeft 48 = .ok (.iaload, 1) := by decide +kernel
theorem dX5_mostLeft_49 : decode cX5_mostLeft 49 = .ok (.if_icmp .ne 6, 3) := by decide +kernel
theorem dX5_mostLeft_52 : decode cX5_mostLeft 52 = .ok (.iinc 6 1, 3) := by decide +kernel
theorem dX5_mostLeft_55 : decode cX5_mostLeft 55 = .ok (.iinc 7 1, 3) := by decide +kernel
theorem dX5_mostLeft_58 : decode cX5_mostLeft 58 = .ok (.goto (-37), 3) := by decide +kernel
theorem dX5_mostLeft_61 : decode cX5_mostLeft 61 = .ok (.iload 4, 2) := by decide +kernel
theorem dX5_mostLeft_63 : decode cX5_mostLeft 63 = .ok (.iload 6, 2) := by decide +kernel
theorem dX5_mostLeft_65 : decode cX5_mostLeft 65 = .ok (.invokestatic 275, 3) := by decide +kernel
theorem dX5_mostLeft_68 : decode cX5_mostLeft 68 = .ok (.istore 4, 2) := by decide +kernel
theorem dX5_mostLeft_70 : decode cX5_mostLeft 70 = .ok (.iinc 5 1, 3) := by decide +kernel
theorem dX5_mostLeft_73 : decode cX5_mostLeft 73 = .ok (.goto (-64), 3) := by decide +kernel
theorem dX5_mostLeft_76 : decode cX5_mostLeft 76 = .ok (.iload 4, 2) := by decide +kernel
theorem dX5_mostLeft_78 : decode cX5_mostLeft 78 = .ok (.ireturn, 1) := by decide +kernel
theorem dX5_stormSum_0 : decode cX5_stormSum 0 = .ok (.iload_n 2, 1) := by decide +kernel
theorem dX5_stormSum_1 : decode cX5_stormSum 1 = .ok (.ifCond .le 9, 3) := by decide +kernel
theorem dX5_stormSum_4 : decode cX5_stormSum 4 = .ok (.iload_n 2, 1) := by decide +kernel
theorem dX5_stormSum_5 : decode cX5_stormSum 5 = .ok (.bipush 8, 2) := by decide +kernel
theorem dX5_stormSum_7 : decode cX5_stormSum 7 = .ok (.if_icmp .le 32, 3) := by decide +kernel
theorem dX5_stormSum_10 : decode cX5_stormSum 10 = .ok (.aload_n 0, 1) := by decide +kernel
theorem dX5_stormSum_11 : decode cX5_stormSum 11 = .ok (.invokevirtual 107, 3) := by decide +kernel
theorem dX5_stormSum_14 : decode cX5_stormSum 14 = .ok (.istore 5, 2) := by decide +kernel
theorem dX5_stormSum_16 : decode cX5_stormSum 16 = .ok (.iload 4, 2) := by decide +kernel
theorem dX5_stormSum_18 : decode cX5_stormSum 18 = .ok (.iconst (-1), 1) := by decide +kernel
theorem dX5_stormSum_19 : decode cX5_stormSum 19 = .ok (.if_icmp .ne 7, 3) := by decide +kernel
theorem dX5_stormSum_22 : decode cX5_stormSum 22 = .ok (.iload 5, 2) := by decide +kernel
theorem dX5_stormSum_24 : decode cX5_stormSum 24 = .ok (.i2l, 1) := by decide +kernel
theorem dX5_stormSum_25 : decode cX5_stormSum 25 = .ok (.lreturn, 1) := by decide +kernel
theorem dX5_stormSum_26 : decode cX5_stormSum 26 = .ok (.iload 5, 2) := by decide +kernel
theorem dX5_stormSum_28 : decode cX5_stormSum 28 = .ok (.iload 4, 2) := by decide +kernel
theorem dX5_stormSum_30 : decode cX5_stormSum 30 = .ok (.if_icmp .gt 7, 3) := by decide +kernel
theorem dX5_stormSum_33 : decode cX5_stormSum 33 = .ok (.lconst 1, 1) := by decide +kernel
theorem dX5_stormSum_34 : decode cX5_stormSum 34 = .ok (.goto 4, 3) := by decide +kernel
theorem dX5_stormSum_37 : decode cX5_stormSum 37 = .ok (.lconst 0, 1) := by decide +kernel
theorem dX5_stormSum_38 : decode cX5_stormSum 38 = .ok (.lreturn, 1) := by decide +kernel
theorem dX5_stormSum_39 : decode cX5_stormSum 39 = .ok (.lconst 0, 1) := by decide +kernel
theorem dX5_stormSum_40 : decode cX5_stormSum 40 = .ok (.lstore 5, 2) := by decide +kernel
theorem dX5_stormSum_42 : decode cX5_stormSum 42 = .ok (.iload_n 3, 1) := by decide +kernel
theorem dX5_stormSum_43 : decode cX5_stormSum 43 = .ok (.ifCond .le 42, 3) := by decide +kernel
theorem dX5_stormSum_46 : decode cX5_stormSum 46 = .ok (.aload_n 0, 1) := by decide +kernel
theorem dX5_stormSum_47 : decode cX5_stormSum 47 = .ok (.dup, 1) := by decide +kernel
theorem dX5_stormSum_48 : decode cX5_stormSum 48 = .ok (.getfield 98, 3) := by decide +kernel
theorem dX5_stormSum_51 : decode cX5_stormSum 51 = .ok (.iconst 1, 1) := by decide +kernel
theorem dX5_stormSum_52 : decode cX5_stormSum 52 = .ok (.iadd, 1) := by decide +kernel
theorem dX5_stormSum_53 : decode cX5_stormSum 53 = .ok (.putfield 98, 3) := by decide +kernel
theorem dX5_stormSum_56 : decode cX5_stormSum 56 = .ok (.lload 5, 2) := by decide +kernel
theorem dX5_stormSum_58 : decode cX5_stormSum 58 = .ok (.iload_n 3, 1) := by decide +kernel
theorem dX5_stormSum_59 : decode cX5_stormSum 59 = .ok (.i2l, 1) := by decide +kernel
theorem dX5_stormSum_60 : decode cX5_stormSum 60 = .ok (.aload_n 0, 1) := by decide +kernel
theorem dX5_stormSum_61 : decode cX5_stormSum 61 = .ok (.aload_n 1, 1) := by decide +kernel
theorem dX5_stormSum_62 : decode cX5_stormSum 62 = .ok (.iload_n 2, 1) := by decide +kernel
theorem dX5_stormSum_63 : decode cX5_stormSum 63 = .ok (.iconst 1, 1) := by decide +kernel
theorem dX5_stormSum_64 : decode cX5_stormSum 64 = .ok (.isub, 1) := by decide +kernel
theorem dX5_stormSum_65 : decode cX5_stormSum 65 = .ok (.iload_n 3, 1) := by decide +kernel
theorem dX5_stormSum_66 : decode cX5_stormSum 66 = .ok (.iload 4, 2) := by decide +kernel
theorem dX5_stormSum_68 : decode cX5_stormSum 68 = .ok (.invokestatic 209, 3) := by decide +kernel
theorem dX5_stormSum_71 : decode cX5_stormSum 71 = .ok (.lmul, 1) := by decide +kernel
theorem dX5_stormSum_72 : decode cX5_stormSum 72 = .ok (.ladd, 1) := by decide +kernel
theorem dX5_stormSum_73 : decode cX5_stormSum 73 = .ok (.lstore 5, 2) := by decide +kernel
theorem dX5_stormSum_75 : decode cX5_stormSum 75 = .ok (.aload_n 0, 1) := by decide +kernel
theorem dX5_stormSum_76 : decode cX5_stormSum 76 = .ok (.dup, 1) := by decide +kernel
theorem dX5_stormSum_77 : decode cX5_stormSum 77 = .ok (.getfield 98, 3) := by decide +kernel
theorem dX5_stormSum_80 : decode cX5_stormSum 80 = .ok (.iconst 1, 1) := by decide +kernel
theorem dX5_stormSum_81 : decode cX5_stormSum 81 = .ok (.isub, 1) := by decide +kernel
theorem dX5_stormSum_82 : decode cX5_stormSum 82 = .ok (.putfield 98, 3) := by decide +kernel
theorem dX5_stormSum_85 : decode cX5_stormSum 85 = .ok (.iload_n 3, 1) := by decide +kernel
theorem dX5_stormSum_86 : decode cX5_stormSum 86 = .ok (.bipush 10, 2) := by decide +kernel
theorem dX5_stormSum_88 : decode cX5_stormSum 88 = .ok (.if_icmp .ge 70, 3) := by decide +kernel
theorem dX5_stormSum_91 : decode cX5_stormSum 91 = .ok (.iload_n 2, 1) := by decide +kernel
theorem dX5_stormSum_92 : decode cX5_stormSum 92 = .ok (.iconst 1, 1) := by decide +kernel
theorem dX5_stormSum_93 : decode cX5_stormSum 93 = .ok (.isub, 1) := by decide +kernel
theorem dX5_stormSum_94 : decode cX5_stormSum 94 = .ok (.iconst 5, 1) := by decide +kernel
theorem dX5_stormSum_95 : decode cX5_stormSum 95 = .ok (.imul, 1) := by decide +kernel
theorem dX5_stormSum_96 : decode cX5_stormSum 96 = .ok (.istore 7, 2) := by decide +kernel
theorem dX5_stormSum_98 : decode cX5_stormSum 98 = .ok (.aload_n 0, 1) := by decide +kernel
theorem dX5_stormSum_99 : decode cX5_stormSum 99 = .ok (.getfield 118, 3) := by decide +kernel
theorem dX5_stormSum_102 : decode cX5_stormSum 102 = .ok (.iconst 0, 1) := by decide +kernel
theorem dX5_stormSum_103 : decode cX5_stormSum 103 = .ok (.aload_n 1, 1) := by decide +kernel
theorem dX5_stormSum_104 : decode cX5_stormSum 104 = .ok (.iload 7, 2) := by decide +kernel
theorem dX5_stormSum_106 : decode cX5_stormSum 106 = .ok (.iconst 5, 1) := by decide +kernel
theorem dX5_stormSum_107 : decode cX5_stormSum 107 = .ok (.invokestatic 269, 3) := by decide +kernel
theorem dX5_stormSum_110 : decode cX5_stormSum 110 = .ok (.aload_n 0, 1) := by decide +kernel
theorem dX5_stormSum_111 : decode cX5_stormSum 111 = .ok (.invokevirtual 181, 3) := by decide +kernel
theorem dX5_stormSum_114 : decode cX5_stormSum 114 = .ok (.lload 5, 2) := by decide +kernel
theorem dX5_stormSum_116 : decode cX5_stormSum 116 = .ok (.bipush 10, 2) := by decide +kernel
theorem dX5_stormSum_118 : decode cX5_stormSum 118 = .ok (.iload_n 3, 1) := by decide +kernel
theorem dX5_stormSum_119 : decode cX5_stormSum 119 = .ok (.isub, 1) := by decide +kernel
theorem dX5_stormSum_120 : decode cX5_stormSum 120 = .ok (.i2l, 1) := by decide +kernel
theorem dX5_stormSum_121 : decode cX5_stormSum 121 = .ok (.aload_n 0, 1) := by decide +kernel
theorem dX5_stormSum_122 : decode cX5_stormSum 122 = .ok (.aload_n 1, 1) := by decide +kernel
theorem dX5_stormSum_123 : decode cX5_stormSum 123 = .ok (.iload_n 2, 1) := by decide +kernel
theorem dX5_stormSum_124 : decode cX5_stormSum 124 = .ok (.iconst 1, 1) := by decide +kernel
theorem dX5_stormSum_125 : decode cX5_stormSum 125 = .ok (.isub, 1) := by decide +kernel
theorem dX5_stormSum_126 : decode cX5_stormSum 126 = .ok (.iload_n 3, 1) := by decide +kernel
theorem dX5_stormSum_127 : decode cX5_stormSum 127 = .ok (.iload 4, 2) := by decide +kernel
theorem dX5_stormSum_129 : decode cX5_stormSum 129 = .ok (.invokestatic 209, 3) := by decide +kernel
theorem dX5_stormSum_132 : decode cX5_stormSum 132 = .ok (.lmul, 1) := by decide +kernel
theorem dX5_stormSum_133 : decode cX5_stormSum 133 = .ok (.ladd, 1) := by decide +kernel
theorem dX5_stormSum_134 : decode cX5_stormSum 134 = .ok (.lstore 5, 2) := by decide +kernel
theorem dX5_stormSum_136 : decode cX5_stormSum 136 = .ok (.aload_n 0, 1) := by decide +kernel
theorem dX5_stormSum_137 : decode cX5_stormSum 137 = .ok (.dup, 1) := by decide +kernel
theorem dX5_stormSum_138 : decode cX5_stormSum 138 = .ok (.getfield 98, 3) := by decide +kernel
theorem dX5_stormSum_141 : decode cX5_stormSum 141 = .ok (.iconst 1, 1) := by decide +kernel
theorem dX5_stormSum_142 : decode cX5_stormSum 142 = .ok (.isub, 1) := by decide +kernel
theorem dX5_stormSum_143 : decode cX5_stormSum 143 = .ok (.putfield 98, 3) := by decide +kernel
theorem dX5_stormSum_146 : decode cX5_stormSum 146 = .ok (.aload_n 1, 1) := by decide +kernel
theorem dX5_stormSum_147 : decode cX5_stormSum 147 = .ok (.iload 7, 2) := by decide +kernel
theorem dX5_stormSum_149 : decode cX5_stormSum 149 = .ok (.aload_n 0, 1) := by decide +kernel
theorem dX5_stormSum_150 : decode cX5_stormSum 150 = .ok (.getfield 118, 3) := by decide +kernel
theorem dX5_stormSum_153 : decode cX5_stormSum 153 = .ok (.iconst 0, 1) := by decide +kernel
theorem dX5_stormSum_154 : decode cX5_stormSum 154 = .ok (.iconst 5, 1) := by decide +kernel
theorem dX5_stormSum_155 : decode cX5_stormSum 155 = .ok (.invokestatic 269, 3) := by decide +kernel
theorem dX5_stormSum_158 : decode cX5_stormSum 158 = .ok (.lload 5, 2) := by decide +kernel
theorem dX5_stormSum_160 : decode cX5_stormSum 160 = .ok (.lreturn, 1) := by decide +kernel
theorem dX5_fractionPart_0 : decode cX5_fractionPart 0 = .ok (.lconst 1, 1) := by decide +kernel
theorem dX5_fractionPart_1 : decode cX5_fractionPart 1 = .ok (.lstore 4, 2) := by decide +kernel
theorem dX5_fractionPart_3 : decode cX5_fractionPart 3 = .ok (.iconst 0, 1) := by decide +kernel
theorem dX5_fractionPart_4 : decode cX5_fractionPart 4 = .ok (.istore 6, 2) := by decide +kernel
theorem dX5_fractionPart_6 : decode cX5_fractionPart 6 = .ok (.iload 6, 2) := by decide +kernel
theorem dX5_fractionPart_8 : decode cX5_fractionPart 8 = .ok (.iload_n 2, 1) := by decide +kernel
theorem dX5_fractionPart_9 : decode cX5_fractionPart 9 = .ok (.if_icmp .ge 17, 3) := by decide +kernel
theorem dX5_fractionPart_12 : decode cX5_fractionPart 12 = .ok (.lload 4, 2) := by decide +kernel
theorem dX5_fractionPart_14 : decode cX5_fractionPart 14 = .ok (.ldc2_w 278, 3) := by decide +kernel
theorem dX5_fractionPart_17 : decode cX5_fractionPart 17 = .ok (.lmul, 1) := by decide +kernel
theorem dX5_fractionPart_18 : decode cX5_fractionPart 18 = .ok (.lstore 4, 2) := by decide +kernel
theorem dX5_fractionPart_20 : decode cX5_fractionPart 20 = .ok (.iinc 6 1, 3) := by decide +kernel
theorem dX5_fractionPart_23 : decode cX5_fractionPart 23 = .ok (.goto (-17), 3) := by decide +kernel
theorem dX5_fractionPart_26 : decode cX5_fractionPart 26 = .ok (.lload_n 0, 1) := by decide +kernel
theorem dX5_fractionPart_27 : decode cX5_fractionPart 27 = .ok (.lload 4, 2) := by decide +kernel
theorem dX5_fractionPart_29 : decode cX5_fractionPart 29 = .ok (.invokestatic 280, 3) := by decide +kernel
theorem dX5_fractionPart_32 : decode cX5_fractionPart 32 = .ok (.lstore 6, 2) := by decide +kernel
theorem dX5_fractionPart_34 : decode cX5_fractionPart 34 = .ok (.iload_n 3, 1) := by decide +kernel
theorem dX5_fractionPart_35 : decode cX5_fractionPart 35 = .ok (.ifCond .ne 7, 3) := by decide +kernel
theorem dX5_fractionPart_38 : decode cX5_fractionPart 38 = .ok (.lload_n 0, 1) := by decide +kernel
theorem dX5_fractionPart_39 : decode cX5_fractionPart 39 = .ok (.goto 5, 3) := by decide +kernel
theorem dX5_fractionPart_42 : decode cX5_fractionPart 42 = .ok (.lload 4, 2) := by decide +kernel
theorem dX5_fractionPart_44 : decode cX5_fractionPart 44 = .ok (.lload 6, 2) := by decide +kernel
theorem dX5_fractionPart_46 : decode cX5_fractionPart 46 = .ok (.ldiv, 1) := by decide +kernel
theorem dX5_fractionPart_47 : decode cX5_fractionPart 47 = .ok (.lreturn, 1) := by decide +kernel
theorem dX5_commonDivisor_0 : decode cX5_commonDivisor 0 = .ok (.lload_n 0, 1) := by decide +kernel
theorem dX5_commonDivisor_1 : decode cX5_commonDivisor 1 = .ok (.lstore 4, 2) := by decide +kernel
theorem dX5_commonDivisor_3 : decode cX5_commonDivisor 3 = .ok (.lload_n 2, 1) := by decide +kernel
theorem dX5_commonDivisor_4 : decode cX5_commonDivisor 4 = .ok (.lstore 6, 2) := by decide +kernel
theorem dX5_commonDivisor_6 : decode cX5_commonDivisor 6 = .ok (.iconst 0, 1) := by decide +kernel
theorem dX5_commonDivisor_7 : decode cX5_commonDivisor 7 = .ok (.istore 8, 2) := by decide +kernel
theorem dX5_commonDivisor_9 : decode cX5_commonDivisor 9 = .ok (.iload 8, 2) := by decide +kernel
theorem dX5_commonDivisor_11 : decode cX5_commonDivisor 11 = .ok (.sipush 200, 3) := by decide +kernel
theorem dX5_commonDivisor_14 : decode cX5_commonDivisor 14 = .ok (.if_icmp .ge 31, 3) := by decide +kernel
theorem dX5_commonDivisor_17 : decode cX5_commonDivisor 17 = .ok (.lload 6, 2) := by decide +kernel
theorem dX5_commonDivisor_19 : decode cX5_commonDivisor 19 = .ok (.lconst 0, 1) := by decide +kernel
theorem dX5_commonDivisor_20 : decode cX5_commonDivisor 20 = .ok (.lcmp, 1) := by decide +kernel
theorem dX5_commonDivisor_21 : decode cX5_commonDivisor 21 = .ok (.ifCond .eq 24, 3) := by decide +kernel
theorem dX5_commonDivisor_24 : decode cX5_commonDivisor 24 = .ok (.lload 4, 2) := by decide +kernel
theorem dX5_commonDivisor_26 : decode cX5_commonDivisor 26 = .ok (.lload 6, 2) := by decide +kernel
theorem dX5_commonDivisor_28 : decode cX5_commonDivisor 28 = .ok (.lrem, 1) := by decide +kernel
theorem dX5_commonDivisor_29 : decode cX5_commonDivisor 29 = .ok (.lstore 9, 2) := by decide +kernel
theorem dX5_commonDivisor_31 : decode cX5_commonDivisor 31 = .ok (.lload 6, 2) := by decide +kernel
theorem dX5_commonDivisor_33 : decode cX5_commonDivisor 33 = .ok (.lstore 4, 2) := by decide +kernel
theorem dX5_commonDivisor_35 : decode cX5_commonDivisor 35 = .ok (.lload 9, 2) := by decide +kernel
theorem dX5_commonDivisor_37 : decode cX5_commonDivisor 37 = .ok (.lstore 6, 2) := by decide +kernel
theorem dX5_commonDivisor_39 : decode cX5_commonDivisor 39 = .ok (.iinc 8 1, 3) := by decide +kernel
theorem dX5_commonDivisor_42 : decode cX5_commonDivisor 42 = .ok (.goto (-33), 3) := by decide +kernel
theorem dX5_commonDivisor_45 : decode cX5_commonDivisor 45 = .ok (.lconst 1, 1) := by decide +kernel
theorem dX5_commonDivisor_46 : decode cX5_commonDivisor 46 = .ok (.lload 4, 2) := by decide +kernel
theorem dX5_commonDivisor_48 : decode cX5_commonDivisor 48 = .ok (.invokestatic 284, 3) := by decide +kernel
theorem dX5_commonDivisor_51 : decode cX5_commonDivisor 51 = .ok (.lreturn, 1) := by decide +kernel
