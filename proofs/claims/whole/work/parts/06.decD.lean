theorem dX6_sulk_11 : decode cX6_sulk 11 = .ok (.lconst 0, 1) := by decide +kernel
theorem dX6_sulk_12 : decode cX6_sulk 12 = .ok (.ldc2_w 215, 3) := by decide +kernel
theorem dX6_sulk_15 : decode cX6_sulk 15 = .ok (.invokestatic 69, 3) := by decide +kernel
theorem dX6_sulk_18 : decode cX6_sulk 18 = .ok (.ifCond .eq 19, 3) := by decide +kernel
theorem dX6_sulk_21 : decode cX6_sulk 21 = .ok (.aload_n 0, 1) := by decide +kernel
theorem dX6_sulk_22 : decode cX6_sulk 22 = .ok (.bipush 10, 2) := by decide +kernel
theorem dX6_sulk_24 : decode cX6_sulk 24 = .ok (.iconst 5, 1) := by decide +kernel
theorem dX6_sulk_25 : decode cX6_sulk 25 = .ok (.iload_n 1, 1) := by decide +kernel
theorem dX6_sulk_26 : decode cX6_sulk 26 = .ok (.imul, 1) := by decide +kernel
theorem dX6_sulk_27 : decode cX6_sulk 27 = .ok (.iadd, 1) := by decide +kernel
theorem dX6_sulk_28 : decode cX6_sulk 28 = .ok (.iload_n 2, 1) := by decide +kernel
theorem dX6_sulk_29 : decode cX6_sulk 29 = .ok (.iadd, 1) := by decide +kernel
theorem dX6_sulk_30 : decode cX6_sulk 30 = .ok (.iload_n 3, 1) := by decide +kernel
theorem dX6_sulk_31 : decode cX6_sulk 31 = .ok (.invokevirtual 217, 3) := by decide +kernel
theorem dX6_sulk_34 : decode cX6_sulk 34 = .ok (.goto 4, 3) := by decide +kernel
theorem dX6_sulk_37 : decode cX6_sulk 37 = .ok (.iconst (-1), 1) := by decide +kernel
theorem dX6_sulk_38 : decode cX6_sulk 38 = .ok (.ireturn, 1) := by decide +kernel
theorem dX6_haul_0 : decode cX6_haul 0 = .ok (.aload_n 0, 1) := by decide +kernel
theorem dX6_haul_1 : decode cX6_haul 1 = .ok (.iload_n 1, 1) := by decide +kernel
theorem dX6_haul_2 : decode cX6_haul 2 = .ok (.invokevirtual 210, 3) := by decide +kernel
theorem dX6_haul_5 : decode cX6_haul 5 = .ok (.ifCond .eq 31, 3) := by decide +kernel
theorem dX6_haul_8 : decode cX6_haul 8 = .ok (.iload_n 2, 1) := by decide +kernel
theorem dX6_haul_9 : decode cX6_haul 9 = .ok (.i2l, 1) := by decide +kernel
theorem dX6_haul_10 : decode cX6_haul 10 = .ok (.lconst 1, 1) := by decide +kernel
theorem dX6_haul_11 : decode cX6_haul 11 = .ok (.ldc2_w 220, 3) := by decide +kernel
theorem dX6_haul_14 : decode cX6_haul 14 = .ok (.invokestatic 69, 3) := by decide +kernel
theorem dX6_haul_17 : decode cX6_haul 17 = .ok (.ifCond .eq 19, 3) := by decide +kernel
theorem dX6_haul_20 : decode cX6_haul 20 = .ok (.aload_n 0, 1) := by decide +kernel
theorem dX6_haul_21 : decode cX6_haul 21 = .ok (.bipush 35, 2) := by decide +kernel
theorem dX6_haul_23 : decode cX6_haul 23 = .ok (.iconst 3, 1) := by decide +kernel
theorem dX6_haul_24 : decode cX6_haul 24 = .ok (.iload_n 1, 1) := by decide +kernel
theorem dX6_haul_25 : decode cX6_haul 25 = .ok (.imul, 1) := by decide +kernel
theorem dX6_haul_26 : decode cX6_haul 26 = .ok (.iadd, 1) := by decide +kernel
theorem dX6_haul_27 : decode cX6_haul 27 = .ok (.iconst 2, 1) := by decide +kernel
theorem dX6_haul_28 : decode cX6_haul 28 = .ok (.iadd, 1) := by decide +kernel
theorem dX6_haul_29 : decode cX6_haul 29 = .ok (.iload_n 2, 1) := by decide +kernel
theorem dX6_haul_30 : decode cX6_haul 30 = .ok (.invokevirtual 217, 3) := by decide +kernel
theorem dX6_haul_33 : decode cX6_haul 33 = .ok (.goto 4, 3) := by decide +kernel
theorem dX6_haul_36 : decode cX6_haul 36 = .ok (.iconst (-1), 1) := by decide +kernel
theorem dX6_haul_37 : decode cX6_haul 37 = .ok (.ireturn, 1) := by decide +kernel
theorem dX6_ties_0 : decode cX6_ties 0 = .ok (.bipush 35, 2) := by decide +kernel
theorem dX6_ties_2 : decode cX6_ties 2 = .ok (.iconst 3, 1) := by decide +kernel
theorem dX6_ties_3 : decode cX6_ties 3 = .ok (.aload_n 0, 1) := by decide +kernel
theorem dX6_ties_4 : decode cX6_ties 4 = .ok (.getfield 13, 3) := by decide +kernel
theorem dX6_ties_7 : decode cX6_ties 7 = .ok (.bipush 53, 2) := by decide +kernel
theorem dX6_ties_9 : decode cX6_ties 9 = .ok (.iaload, 1) := by decide +kernel
theorem dX6_ties_10 : decode cX6_ties 10 = .ok (.imul, 1) := by decide +kernel
theorem dX6_ties_11 : decode cX6_ties 11 = .ok (.iadd, 1) := by decide +kernel
theorem dX6_ties_12 : decode cX6_ties 12 = .ok (.istore 4, 2) := by decide +kernel
theorem dX6_ties_14 : decode cX6_ties 14 = .ok (.aload_n 0, 1) := by decide +kernel
theorem dX6_ties_15 : decode cX6_ties 15 = .ok (.getfield 13, 3) := by decide +kernel
theorem dX6_ties_18 : decode cX6_ties 18 = .ok (.iload 4, 2) := by decide +kernel
theorem dX6_ties_20 : decode cX6_ties 20 = .ok (.iload_n 1, 1) := by decide +kernel
theorem dX6_ties_21 : decode cX6_ties 21 = .ok (.iastore, 1) := by decide +kernel
theorem dX6_ties_22 : decode cX6_ties 22 = .ok (.aload_n 0, 1) := by decide +kernel
theorem dX6_ties_23 : decode cX6_ties 23 = .ok (.getfield 13, 3) := by decide +kernel
theorem dX6_ties_26 : decode cX6_ties 26 = .ok (.iload 4, 2) := by decide +kernel
theorem dX6_ties_28 : decode cX6_ties 28 = .ok (.iconst 1, 1) := by decide +kernel
theorem dX6_ties_29 : decode cX6_ties 29 = .ok (.iadd, 1) := by decide +kernel
theorem dX6_ties_30 : decode cX6_ties 30 = .ok (.iload_n 2, 1) := by decide +kernel
theorem dX6_ties_31 : decode cX6_ties 31 = .ok (.iastore, 1) := by decide +kernel
theorem dX6_ties_32 : decode cX6_ties 32 = .ok (.aload_n 0, 1) := by decide +kernel
theorem dX6_ties_33 : decode cX6_ties 33 = .ok (.getfield 13, 3) := by decide +kernel
theorem dX6_ties_36 : decode cX6_ties 36 = .ok (.iload 4, 2) := by decide +kernel
theorem dX6_ties_38 : decode cX6_ties 38 = .ok (.iconst 2, 1) := by decide +kernel
theorem dX6_ties_39 : decode cX6_ties 39 = .ok (.iadd, 1) := by decide +kernel
theorem dX6_ties_40 : decode cX6_ties 40 = .ok (.iload_n 3, 1) := by decide +kernel
theorem dX6_ties_41 : decode cX6_ties 41 = .ok (.iastore, 1) := by decide +kernel
theorem dX6_ties_42 : decode cX6_ties 42 = .ok (.aload_n 0, 1) := by decide +kernel
theorem dX6_ties_43 : decode cX6_ties 43 = .ok (.getfield 13, 3) := by decide +kernel
theorem dX6_ties_46 : decode cX6_ties 46 = .ok (.bipush 53, 2) := by decide +kernel
theorem dX6_ties_48 : decode cX6_ties 48 = .ok (.dup2, 1) := by decide +kernel
theorem dX6_ties_49 : decode cX6_ties 49 = .ok (.iaload, 1) := by decide +kernel
theorem dX6_ties_50 : decode cX6_ties 50 = .ok (.iconst 1, 1) := by decide +kernel
theorem dX6_ties_51 : decode cX6_ties 51 = .ok (.iadd, 1) := by decide +kernel
theorem dX6_ties_52 : decode cX6_ties 52 = .ok (.iastore, 1) := by decide +kernel
theorem dX6_ties_53 : decode cX6_ties 53 = .ok (.return_, 1) := by decide +kernel
theorem dX6_wed_0 : decode cX6_wed 0 = .ok (.aload_n 0, 1) := by decide +kernel
theorem dX6_wed_1 : decode cX6_wed 1 = .ok (.iload_n 1, 1) := by decide +kernel
theorem dX6_wed_2 : decode cX6_wed 2 = .ok (.iload_n 2, 1) := by decide +kernel
theorem dX6_wed_3 : decode cX6_wed 3 = .ok (.invokevirtual 207, 3) := by decide +kernel
theorem dX6_wed_6 : decode cX6_wed 6 = .ok (.ifCond .eq 15, 3) := by decide +kernel
theorem dX6_wed_9 : decode cX6_wed 9 = .ok (.iload_n 3, 1) := by decide +kernel
theorem dX6_wed_10 : decode cX6_wed 10 = .ok (.i2l, 1) := by decide +kernel
theorem dX6_wed_11 : decode cX6_wed 11 = .ok (.lconst 1, 1) := by decide +kernel
theorem dX6_wed_12 : decode cX6_wed 12 = .ok (.ldc2_w 220, 3) := by decide +kernel
theorem dX6_wed_15 : decode cX6_wed 15 = .ok (.invokestatic 69, 3) := by decide +kernel
theorem dX6_wed_18 : decode cX6_wed 18 = .ok (.ifCond .ne 5, 3) := by decide +kernel
theorem dX6_wed_21 : decode cX6_wed 21 = .ok (.iconst (-1), 1) := by decide +kernel
theorem dX6_wed_22 : decode cX6_wed 22 = .ok (.ireturn, 1) := by decide +kernel
theorem dX6_wed_23 : decode cX6_wed 23 = .ok (.aload_n 0, 1) := by decide +kernel
theorem dX6_wed_24 : decode cX6_wed 24 = .ok (.getfield 7, 3) := by decide +kernel
theorem dX6_wed_27 : decode cX6_wed 27 = .ok (.bipush 53, 2) := by decide +kernel
theorem dX6_wed_29 : decode cX6_wed 29 = .ok (.iaload, 1) := by decide +kernel
theorem dX6_wed_30 : decode cX6_wed 30 = .ok (.bipush 6, 2) := by decide +kernel
theorem dX6_wed_32 : decode cX6_wed 32 = .ok (.if_icmp .ne 6, 3) := by decide +kernel
theorem dX6_wed_35 : decode cX6_wed 35 = .ok (.bipush (-3), 2) := by decide +kernel
theorem dX6_wed_37 : decode cX6_wed 37 = .ok (.ireturn, 1) := by decide +kernel
theorem dX6_wed_38 : decode cX6_wed 38 = .ok (.aload_n 0, 1) := by decide +kernel
theorem dX6_wed_39 : decode cX6_wed 39 = .ok (.invokevirtual 194, 3) := by decide +kernel
theorem dX6_wed_42 : decode cX6_wed 42 = .ok (.aload_n 0, 1) := by decide +kernel
theorem dX6_wed_43 : decode cX6_wed 43 = .ok (.iload_n 1, 1) := by decide +kernel
theorem dX6_wed_44 : decode cX6_wed 44 = .ok (.iload_n 2, 1) := by decide +kernel
theorem dX6_wed_45 : decode cX6_wed 45 = .ok (.iload_n 3, 1) := by decide +kernel
theorem dX6_wed_46 : decode cX6_wed 46 = .ok (.invokevirtual 222, 3) := by decide +kernel
theorem dX6_wed_49 : decode cX6_wed 49 = .ok (.aload_n 0, 1) := by decide +kernel
theorem dX6_wed_50 : decode cX6_wed 50 = .ok (.invokevirtual 226, 3) := by decide +kernel
theorem dX6_wed_53 : decode cX6_wed 53 = .ok (.aload_n 0, 1) := by decide +kernel
theorem dX6_wed_54 : decode cX6_wed 54 = .ok (.getfield 7, 3) := by decide +kernel
theorem dX6_wed_57 : decode cX6_wed 57 = .ok (.bipush 53, 2) := by decide +kernel
theorem dX6_wed_59 : decode cX6_wed 59 = .ok (.iaload, 1) := by decide +kernel
theorem dX6_wed_60 : decode cX6_wed 60 = .ok (.ireturn, 1) := by decide +kernel
theorem dX6_loose_0 : decode cX6_loose 0 = .ok (.iload_n 1, 1) := by decide +kernel
theorem dX6_loose_1 : decode cX6_loose 1 = .ok (.i2l, 1) := by decide +kernel
theorem dX6_loose_2 : decode cX6_loose 2 = .ok (.lconst 0, 1) := by decide +kernel
theorem dX6_loose_3 : decode cX6_loose 3 = .ok (.aload_n 0, 1) := by decide +kernel
theorem dX6_loose_4 : decode cX6_loose 4 = .ok (.getfield 7, 3) := by decide +kernel
theorem dX6_loose_7 : decode cX6_loose 7 = .ok (.bipush 53, 2) := by decide +kernel
theorem dX6_loose_9 : decode cX6_loose 9 = .ok (.iaload, 1) := by decide +kernel
theorem dX6_loose_10 : decode cX6_loose 10 = .ok (.i2l, 1) := by decide +kernel
theorem dX6_loose_11 : decode cX6_loose 11 = .ok (.invokestatic 69, 3) := by decide +kernel
theorem dX6_loose_14 : decode cX6_loose 14 = .ok (.ifCond .eq 13, 3) := by decide +kernel
theorem dX6_loose_17 : decode cX6_loose 17 = .ok (.aload_n 0, 1) := by decide +kernel
theorem dX6_loose_18 : decode cX6_loose 18 = .ok (.bipush 53, 2) := by decide +kernel
theorem dX6_loose_20 : decode cX6_loose 20 = .ok (.iload_n 1, 1) := by decide +kernel
theorem dX6_loose_21 : decode cX6_loose 21 = .ok (.invokevirtual 217, 3) := by decide +kernel
theorem dX6_loose_24 : decode cX6_loose 24 = .ok (.goto 4, 3) := by decide +kernel
theorem dX6_loose_27 : decode cX6_loose 27 = .ok (.iconst (-1), 1) := by decide +kernel
theorem dX6_loose_28 : decode cX6_loose 28 = .ok (.ireturn, 1) := by decide +kernel
theorem dX6_feast_0 : decode cX6_feast 0 = .ok (.iload_n 1, 1) := by decide +kernel
theorem dX6_feast_1 : decode cX6_feast 1 = .ok (.i2l, 1) := by decide +kernel
theorem dX6_feast_2 : decode cX6_feast 2 = .ok (.lconst 0, 1) := by decide +kernel
theorem dX6_feast_3 : decode cX6_feast 3 = .ok (.ldc2_w 229, 3) := by decide +kernel
theorem dX6_feast_6 : decode cX6_feast 6 = .ok (.invokestatic 69, 3) := by decide +kernel
theorem dX6_feast_9 : decode cX6_feast 9 = .ok (.ifCond .eq 13, 3) := by decide +kernel
theorem dX6_feast_12 : decode cX6_feast 12 = .ok (.aload_n 0, 1) := by decide +kernel
theorem dX6_feast_13 : decode cX6_feast 13 = .ok (.bipush 55, 2) := by decide +kernel
theorem dX6_feast_15 : decode cX6_feast 15 = .ok (.iload_n 1, 1) := by decide +kernel
theorem dX6_feast_16 : decode cX6_feast 16 = .ok (.invokevirtual 217, 3) := by decide +kernel
theorem dX6_feast_19 : decode cX6_feast 19 = .ok (.goto 4, 3) := by decide +kernel
theorem dX6_feast_22 : decode cX6_feast 22 = .ok (.iconst (-1), 1) := by decide +kernel
theorem dX6_feast_23 : decode cX6_feast 23 = .ok (.ireturn, 1) := by decide +kernel
theorem dX6_days_0 : decode cX6_days 0 = .ok (.iload_n 1, 1) := by decide +kernel
theorem dX6_days_1 : decode cX6_days 1 = .ok (.i2l, 1) := by decide +kernel
theorem dX6_days_2 : decode cX6_days 2 = .ok (.lconst 0, 1) := by decide +kernel
theorem dX6_days_3 : decode cX6_days 3 = .ok (.ldc2_w 220, 3) := by decide +kernel
theorem dX6_days_6 : decode cX6_days 6 = .ok (.invokestatic 69, 3) := by decide +kernel
theorem dX6_days_9 : decode cX6_days 9 = .ok (.ifCond .ne 5, 3) := by decide +kernel
theorem dX6_days_12 : decode cX6_days 12 = .ok (.iconst (-1), 1) := by decide +kernel
theorem dX6_days_13 : decode cX6_days 13 = .ok (.ireturn, 1) := by decide +kernel
theorem dX6_days_14 : decode cX6_days 14 = .ok (.aload_n 0, 1) := by decide +kernel
theorem dX6_days_15 : decode cX6_days 15 = .ok (.getfield 7, 3) := by decide +kernel
theorem dX6_days_18 : decode cX6_days 18 = .ok (.bipush 54, 2) := by decide +kernel
theorem dX6_days_20 : decode cX6_days 20 = .ok (.iaload, 1) := by decide +kernel
theorem dX6_days_21 : decode cX6_days 21 = .ok (.iload_n 1, 1) := by decide +kernel
theorem dX6_days_22 : decode cX6_days 22 = .ok (.iadd, 1) := by decide +kernel
theorem dX6_days_23 : decode cX6_days 23 = .ok (.sipush 999, 3) := by decide +kernel
theorem dX6_days_26 : decode cX6_days 26 = .ok (.if_icmp .le 6, 3) := by decide +kernel
theorem dX6_days_29 : decode cX6_days 29 = .ok (.bipush (-3), 2) := by decide +kernel
theorem dX6_days_31 : decode cX6_days 31 = .ok (.ireturn, 1) := by decide +kernel
theorem dX6_days_32 : decode cX6_days 32 = .ok (.aload_n 0, 1) := by decide +kernel
theorem dX6_days_33 : decode cX6_days 33 = .ok (.invokevirtual 194, 3) := by decide +kernel
theorem dX6_days_36 : decode cX6_days 36 = .ok (.aload_n 0, 1) := by decide +kernel
theorem dX6_days_37 : decode cX6_days 37 = .ok (.iload_n 1, 1) := by decide +kernel
theorem dX6_days_38 : decode cX6_days 38 = .ok (.invokevirtual 231, 3) := by decide +kernel
theorem dX6_days_41 : decode cX6_days 41 = .ok (.aload_n 0, 1) := by decide +kernel
theorem dX6_days_42 : decode cX6_days 42 = .ok (.invokevirtual 234, 3) := by decide +kernel
theorem dX6_days_45 : decode cX6_days 45 = .ok (.istore_n 2, 1) := by decide +kernel
theorem dX6_days_46 : decode cX6_days 46 = .ok (.aload_n 0, 1) := by decide +kernel
theorem dX6_days_47 : decode cX6_days 47 = .ok (.invokevirtual 226, 3) := by decide +kernel
theorem dX6_days_50 : decode cX6_days 50 = .ok (.iload_n 2, 1) := by decide +kernel
theorem dX6_days_51 : decode cX6_days 51 = .ok (.ireturn, 1) := by decide +kernel
theorem dX6_isFar_0 : decode cX6_isFar 0 = .ok (.iload_n 0, 1) := by decide +kernel
theorem dX6_isFar_1 : decode cX6_isFar 1 = .ok (.i2l, 1) := by decide +kernel
theorem dX6_isFar_2 : decode cX6_isFar 2 = .ok (.lconst 0, 1) := by decide +kernel
theorem dX6_isFar_3 : decode cX6_isFar 3 = .ok (.ldc2_w 237, 3) := by decide +kernel
theorem dX6_isFar_6 : decode cX6_isFar 6 = .ok (.invokestatic 69, 3) := by decide +kernel
theorem dX6_isFar_9 : decode cX6_isFar 9 = .ok (.ireturn, 1) := by decide +kernel
theorem dX6_runs_0 : decode cX6_runs 0 = .ok (.iload_n 1, 1) := by decide +kernel
theorem dX6_runs_1 : decode cX6_runs 1 = .ok (.invokestatic 239, 3) := by decide +kernel
theorem dX6_runs_4 : decode cX6_runs 4 = .ok (.ifCond .eq 15, 3) := by decide +kernel
theorem dX6_runs_7 : decode cX6_runs 7 = .ok (.iload_n 2, 1) := by decide +kernel
theorem dX6_runs_8 : decode cX6_runs 8 = .ok (.i2l, 1) := by decide +kernel
theorem dX6_runs_9 : decode cX6_runs 9 = .ok (.lconst 0, 1) := by decide +kernel
theorem dX6_runs_10 : decode cX6_runs 10 = .ok (.ldc2_w 215, 3) := by decide +kernel
theorem dX6_runs_13 : decode cX6_runs 13 = .ok (.invokestatic 69, 3) := by decide +kernel
theorem dX6_runs_16 : decode cX6_runs 16 = .ok (.ifCond .ne 5, 3) := by decide +kernel
theorem dX6_runs_19 : decode cX6_runs 19 = .ok (.iconst (-1), 1) := by decide +kernel
theorem dX6_runs_20 : decode cX6_runs 20 = .ok (.ireturn, 1) := by decide +kernel
theorem dX6_runs_21 : decode cX6_runs 21 = .ok (.aload_n 0, 1) := by decide +kernel
theorem dX6_runs_22 : decode cX6_runs 22 = .ok (.invokevirtual 194, 3) := by decide +kernel
theorem dX6_runs_25 : decode cX6_runs 25 = .ok (.aload_n 0, 1) := by decide +kernel
theorem dX6_runs_26 : decode cX6_runs 26 = .ok (.invokevirtual 197, 3) := by decide +kernel
theorem dX6_runs_29 : decode cX6_runs 29 = .ok (.istore_n 3, 1) := by decide +kernel
theorem dX6_runs_30 : decode cX6_runs 30 = .ok (.iconst 0, 1) := by decide +kernel
theorem dX6_runs_31 : decode cX6_runs 31 = .ok (.istore 4, 2) := by decide +kernel
theorem dX6_runs_33 : decode cX6_runs 33 = .ok (.iconst 0, 1) := by decide +kernel
theorem dX6_runs_34 : decode cX6_runs 34 = .ok (.istore 5, 2) := by decide +kernel
theorem dX6_runs_36 : decode cX6_runs 36 = .ok (.iload 5, 2) := by decide +kernel
theorem dX6_runs_38 : decode cX6_runs 38 = .ok (.iload_n 1, 1) := by decide +kernel
theorem dX6_runs_39 : decode cX6_runs 39 = .ok (.if_icmp .ge 23, 3) := by decide +kernel
theorem dX6_runs_42 : decode cX6_runs 42 = .ok (.aload_n 0, 1) := by decide +kernel
theorem dX6_runs_43 : decode cX6_runs 43 = .ok (.iconst 0, 1) := by decide +kernel
theorem dX6_runs_44 : decode cX6_runs 44 = .ok (.invokevirtual 190, 3) := by decide +kernel
theorem dX6_runs_47 : decode cX6_runs 47 = .ok (.iload_n 3, 1) := by decide +kernel
theorem dX6_runs_48 : decode cX6_runs 48 = .ok (.aload_n 0, 1) := by decide +kernel
theorem dX6_runs_49 : decode cX6_runs 49 = .ok (.invokevirtual 197, 3) := by decide +kernel
theorem dX6_runs_52 : decode cX6_runs 52 = .ok (.invokestatic 242, 3) := by decide +kernel
theorem dX6_runs_55 : decode cX6_runs 55 = .ok (.istore_n 3, 1) := by decide +kernel
theorem dX6_runs_56 : decode cX6_runs 56 = .ok (.iinc 5 1, 3) := by decide +kernel
theorem dX6_runs_59 : decode cX6_runs 59 = .ok (.goto (-23), 3) := by decide +kernel
theorem dX6_runs_62 : decode cX6_runs 62 = .ok (.iconst 0, 1) := by decide +kernel
theorem dX6_runs_63 : decode cX6_runs 63 = .ok (.istore 5, 2) := by decide +kernel
theorem dX6_runs_65 : decode cX6_runs 65 = .ok (.iload 5, 2) := by decide +kernel
theorem dX6_runs_67 : decode cX6_runs 67 = .ok (.aload_n 0, 1) := by decide +kernel
theorem dX6_runs_68 : decode cX6_runs 68 = .ok (.getfield 64, 3) := by decide +kernel
theorem dX6_runs_71 : decode cX6_runs 71 = .ok (.if_icmp .ge 42, 3) := by decide +kernel
theorem dX6_runs_74 : decode cX6_runs 74 = .ok (.iload 4, 2) := by decide +kernel
theorem dX6_runs_76 : decode cX6_runs 76 = .ok (.aload_n 0, 1) := by decide +kernel
theorem dX6_runs_77 : decode cX6_runs 77 = .ok (.iload 5, 2) := by decide +kernel
theorem dX6_runs_79 : decode cX6_runs 79 = .ok (.invokevirtual 156, 3) := by decide +kernel
theorem dX6_runs_82 : decode cX6_runs 82 = .ok (.aload_n 0, 1) := by decide +kernel
theorem dX6_runs_83 : decode cX6_runs 83 = .ok (.getfield 7, 3) := by decide +kernel
theorem dX6_runs_86 : decode cX6_runs 86 = .ok (.iconst 2, 1) := by decide +kernel
theorem dX6_runs_87 : decode cX6_runs 87 = .ok (.iload 5, 2) := by decide +kernel
theorem dX6_runs_89 : decode cX6_runs 89 = .ok (.imul, 1) := by decide +kernel
theorem dX6_runs_90 : decode cX6_runs 90 = .ok (.iconst 1, 1) := by decide +kernel
theorem dX6_runs_91 : decode cX6_runs 91 = .ok (.iadd, 1) := by decide +kernel
theorem dX6_runs_92 : decode cX6_runs 92 = .ok (.iaload, 1) := by decide +kernel
theorem dX6_runs_93 : decode cX6_runs 93 = .ok (.if_icmp .eq 7, 3) := by decide +kernel
theorem dX6_runs_96 : decode cX6_runs 96 = .ok (.iconst 1, 1) := by decide +kernel
theorem dX6_runs_97 : decode cX6_runs 97 = .ok (.goto 4, 3) := by decide +kernel
theorem dX6_runs_100 : decode cX6_runs 100 = .ok (.iconst 0, 1) := by decide +kernel
theorem dX6_runs_101 : decode cX6_runs 101 = .ok (.invokestatic 200, 3) := by decide +kernel
theorem dX6_runs_104 : decode cX6_runs 104 = .ok (.iadd, 1) := by decide +kernel
theorem dX6_runs_105 : decode cX6_runs 105 = .ok (.istore 4, 2) := by decide +kernel
theorem dX6_runs_107 : decode cX6_runs 107 = .ok (.iinc 5 1, 3) := by decide +kernel
theorem dX6_runs_110 : decode cX6_runs 110 = .ok (.goto (-45), 3) := by decide +kernel
theorem dX6_runs_113 : decode cX6_runs 113 = .ok (.iload_n 2, 1) := by decide +kernel
theorem dX6_runs_114 : decode cX6_runs 114 = .ok (.ifCond .ne 10, 3) := by decide +kernel
theorem dX6_runs_117 : decode cX6_runs 117 = .ok (.aload_n 0, 1) := by decide +kernel
theorem dX6_runs_118 : decode cX6_runs 118 = .ok (.invokevirtual 197, 3) := by decide +kernel
theorem dX6_runs_121 : decode cX6_runs 121 = .ok (.goto 26, 3) := by decide +kernel
theorem dX6_runs_124 : decode cX6_runs 124 = .ok (.iload_n 2, 1) := by decide +kernel
theorem dX6_runs_125 : decode cX6_runs 125 = .ok (.iconst 1, 1) := by decide +kernel
theorem dX6_runs_126 : decode cX6_runs 126 = .ok (.if_icmp .ne 10, 3) := by decide +kernel
theorem dX6_runs_129 : decode cX6_runs 129 = .ok (.aload_n 0, 1) := by decide +kernel
theorem dX6_runs_130 : decode cX6_runs 130 = .ok (.invokevirtual 234, 3) := by decide +kernel
theorem dX6_runs_133 : decode cX6_runs 133 = .ok (.goto 14, 3) := by decide +kernel
theorem dX6_runs_136 : decode cX6_runs 136 = .ok (.iload_n 2, 1) := by decide +kernel
theorem dX6_runs_137 : decode cX6_runs 137 = .ok (.iconst 2, 1) := by decide +kernel
theorem dX6_runs_138 : decode cX6_runs 138 = .ok (.if_icmp .ne 7, 3) := by decide +kernel
theorem dX6_runs_141 : decode cX6_runs 141 = .ok (.iload_n 3, 1) := by decide +kernel
theorem dX6_runs_142 : decode cX6_runs 142 = .ok (.goto 5, 3) := by decide +kernel
theorem dX6_runs_145 : decode cX6_runs 145 = .ok (.iload 4, 2) := by decide +kernel
theorem dX6_runs_147 : decode cX6_runs 147 = .ok (.ireturn, 1) := by decide +kernel
theorem dX6_ahead_0 : decode cX6_ahead 0 = .ok (.aload_n 0, 1) := by decide +kernel
theorem dX6_ahead_1 : decode cX6_ahead 1 = .ok (.iload_n 1, 1) := by decide +kernel
theorem dX6_ahead_2 : decode cX6_ahead 2 = .ok (.invokevirtual 151, 3) := by decide +kernel
theorem dX6_ahead_5 : decode cX6_ahead 5 = .ok (.ifCond .eq 10, 3) := by decide +kernel
theorem dX6_ahead_8 : decode cX6_ahead 8 = .ok (.iload_n 2, 1) := by decide +kernel
theorem dX6_ahead_9 : decode cX6_ahead 9 = .ok (.invokestatic 239, 3) := by decide +kernel
theorem dX6_ahead_12 : decode cX6_ahead 12 = .ok (.ifCond .ne 5, 3) := by decide +kernel
theorem dX6_ahead_15 : decode cX6_ahead 15 = .ok (.iconst (-1), 1) := by decide +kernel
theorem dX6_ahead_16 : decode cX6_ahead 16 = .ok (.ireturn, 1) := by decide +kernel
theorem dX6_ahead_17 : decode cX6_ahead 17 = .ok (.aload_n 0, 1) := by decide +kernel
theorem dX6_ahead_18 : decode cX6_ahead 18 = .ok (.invokevirtual 194, 3) := by decide +kernel
theorem dX6_ahead_21 : decode cX6_ahead 21 = .ok (.aload_n 0, 1) := by decide +kernel
theorem dX6_ahead_22 : decode cX6_ahead 22 = .ok (.iload_n 2, 1) := by decide +kernel
theorem dX6_ahead_23 : decode cX6_ahead 23 = .ok (.invokevirtual 231, 3) := by decide +kernel
theorem dX6_ahead_26 : decode cX6_ahead 26 = .ok (.aload_n 0, 1) := by decide +kernel
theorem dX6_ahead_27 : decode cX6_ahead 27 = .ok (.iload_n 1, 1) := by decide +kernel
theorem dX6_ahead_28 : decode cX6_ahead 28 = .ok (.invokevirtual 156, 3) := by decide +kernel
theorem dX6_ahead_31 : decode cX6_ahead 31 = .ok (.ireturn, 1) := by decide +kernel
theorem dX6_within_0 : decode cX6_within 0 = .ok (.iload_n 1, 1) := by decide +kernel
theorem dX6_within_1 : decode cX6_within 1 = .ok (.invokestatic 171, 3) := by decide +kernel
theorem dX6_within_4 : decode cX6_within 4 = .ok (.ifCond .ne 5, 3) := by decide +kernel
theorem dX6_within_7 : decode cX6_within 7 = .ok (.iconst (-1), 1) := by decide +kernel
theorem dX6_within_8 : decode cX6_within 8 = .ok (.ireturn, 1) := by decide +kernel
theorem dX6_within_9 : decode cX6_within 9 = .ok (.aload_n 0, 1) := by decide +kernel
theorem dX6_within_10 : decode cX6_within 10 = .ok (.invokevirtual 194, 3) := by decide +kernel
theorem dX6_within_13 : decode cX6_within 13 = .ok (.iconst 0, 1) := by decide +kernel
theorem dX6_within_14 : decode cX6_within 14 = .ok (.istore_n 2, 1) := by decide +kernel
theorem dX6_within_15 : decode cX6_within 15 = .ok (.iload_n 2, 1) := by decide +kernel
theorem dX6_within_16 : decode cX6_within 16 = .ok (.bipush 60, 2) := by decide +kernel
theorem dX6_within_18 : decode cX6_within 18 = .ok (.if_icmp .gt 24, 3) := by decide +kernel
theorem dX6_within_21 : decode cX6_within 21 = .ok (.aload_n 0, 1) := by decide +kernel
theorem dX6_within_22 : decode cX6_within 22 = .ok (.invokevirtual 197, 3) := by decide +kernel
theorem dX6_within_25 : decode cX6_within 25 = .ok (.iload_n 1, 1) := by decide +kernel
theorem dX6_within_26 : decode cX6_within 26 = .ok (.if_icmp .gt 5, 3) := by decide +kernel
theorem dX6_within_29 : decode cX6_within 29 = .ok (.iload_n 2, 1) := by decide +kernel
theorem dX6_within_30 : decode cX6_within 30 = .ok (.ireturn, 1) := by decide +kernel
theorem dX6_within_31 : decode cX6_within 31 = .ok (.aload_n 0, 1) := by decide +kernel
theorem dX6_within_32 : decode cX6_within 32 = .ok (.iconst 0, 1) := by decide +kernel
theorem dX6_within_33 : decode cX6_within 33 = .ok (.invokevirtual 190, 3) := by decide +kernel
theorem dX6_within_36 : decode cX6_within 36 = .ok (.iinc 2 1, 3) := by decide +kernel
theorem dX6_within_39 : decode cX6_within 39 = .ok (.goto (-24), 3) := by decide +kernel
theorem dX6_within_42 : decode cX6_within 42 = .ok (.bipush (-4), 2) := by decide +kernel
theorem dX6_within_44 : decode cX6_within 44 = .ok (.ireturn, 1) := by decide +kernel
theorem dX6_startsJudging_0 : decode cX6_startsJudging 0 = .ok (.aload_n 0, 1) := by decide +kernel
theorem dX6_startsJudging_1 : decode cX6_startsJudging 1 = .ok (.bipush (-4), 2) := by decide +kernel
theorem dX6_startsJudging_3 : decode cX6_startsJudging 3 = .ok (.putfield 245, 3) := by decide +kernel
theorem dX6_startsJudging_6 : decode cX6_startsJudging 6 = .ok (.aload_n 0, 1) := by decide +kernel
theorem dX6_startsJudging_7 : decode cX6_startsJudging 7 = .ok (.iload_n 1, 1) := by decide +kernel
theorem dX6_startsJudging_8 : decode cX6_startsJudging 8 = .ok (.putfield 248, 3) := by decide +kernel
theorem dX6_startsJudging_11 : decode cX6_startsJudging 11 = .ok (.return_, 1) := by decide +kernel
theorem dX6_judges_0 : decode cX6_judges 0 = .ok (.aload_n 0, 1) := by decide +kernel
theorem dX6_judges_1 : decode cX6_judges 1 = .ok (.iload_n 2, 1) := by decide +kernel
theorem dX6_judges_2 : decode cX6_judges 2 = .ok (.aload_n 0, 1) := by decide +kernel
theorem dX6_judges_3 : decode cX6_judges 3 = .ok (.getfield 248, 3) := by decide +kernel
theorem dX6_judges_6 : decode cX6_judges 6 = .ok (.if_icmp .ge 7, 3) := by decide +kernel
theorem dX6_judges_9 : decode cX6_judges 9 = .ok (.iload_n 1, 1) := by decide +kernel
theorem dX6_judges_10 : decode cX6_judges 10 = .ok (.goto 7, 3) := by decide +kernel
theorem dX6_judges_13 : decode cX6_judges 13 = .ok (.aload_n 0, 1) := by decide +kernel
theorem dX6_judges_14 : decode cX6_judges 14 = .ok (.getfield 245, 3) := by decide +kernel
theorem dX6_judges_17 : decode cX6_judges 17 = .ok (.putfield 245, 3) := by decide +kernel
theorem dX6_judges_20 : decode cX6_judges 20 = .ok (.aload_n 0, 1) := by decide +kernel
theorem dX6_judges_21 : decode cX6_judges 21 = .ok (.iload_n 2, 1) := by decide +kernel
theorem dX6_judges_22 : decode cX6_judges 22 = .ok (.aload_n 0, 1) := by decide +kernel
theorem dX6_judges_23 : decode cX6_judges 23 = .ok (.getfield 248, 3) := by decide +kernel
theorem dX6_judges_26 : decode cX6_judges 26 = .ok (.invokestatic 242, 3) := by decide +kernel
theorem dX6_judges_29 : decode cX6_judges 29 = .ok (.putfield 248, 3) := by decide +kernel
theorem dX6_judges_32 : decode cX6_judges 32 = .ok (.return_, 1) := by decide +kernel
theorem dX6_judged_0 : decode cX6_judged 0 = .ok (.aload_n 0, 1) := by decide +kernel
theorem dX6_judged_1 : decode cX6_judged 1 = .ok (.getfield 245, 3) := by decide +kernel
theorem dX6_judged_4 : decode cX6_judged 4 = .ok (.bipush (-4), 2) := by decide +kernel
theorem dX6_judged_6 : decode cX6_judged 6 = .ok (.if_icmp .ne 8, 3) := by decide +kernel
theorem dX6_judged_9 : decode cX6_judged 9 = .ok (.bipush (-4), 2) := by decide +kernel
theorem dX6_judged_11 : decode cX6_judged 11 = .ok (.goto 18, 3) := by decide +kernel
theorem dX6_judged_14 : decode cX6_judged 14 = .ok (.iload_n 1, 1) := by decide +kernel
theorem dX6_judged_15 : decode cX6_judged 15 = .ok (.ifCond .ne 10, 3) := by decide +kernel
theorem dX6_judged_18 : decode cX6_judged 18 = .ok (.aload_n 0, 1) := by decide +kernel
theorem dX6_judged_19 : decode cX6_judged 19 = .ok (.getfield 245, 3) := by decide +kernel
theorem dX6_judged_22 : decode cX6_judged 22 = .ok (.goto 7, 3) := by decide +kernel
theorem dX6_judged_25 : decode cX6_judged 25 = .ok (.aload_n 0, 1) := by decide +kernel
theorem dX6_judged_26 : decode cX6_judged 26 = .ok (.getfield 248, 3) := by decide +kernel
theorem dX6_judged_29 : decode cX6_judged 29 = .ok (.ireturn, 1) := by decide +kernel
theorem dX6_spreadBehind_0 : decode cX6_spreadBehind 0 = .ok (.aload_n 0, 1) := by decide +kernel
theorem dX6_spreadBehind_1 : decode cX6_spreadBehind 1 = .ok (.iload_n 1, 1) := by decide +kernel
theorem dX6_spreadBehind_2 : decode cX6_spreadBehind 2 = .ok (.invokevirtual 231, 3) := by decide +kernel
theorem dX6_spreadBehind_5 : decode cX6_spreadBehind 5 = .ok (.aload_n 0, 1) := by decide +kernel
theorem dX6_spreadBehind_6 : decode cX6_spreadBehind 6 = .ok (.invokevirtual 197, 3) := by decide +kernel
theorem dX6_spreadBehind_9 : decode cX6_spreadBehind 9 = .ok (.ireturn, 1) := by decide +kernel
theorem dX6_match_0 : decode cX6_match 0 = .ok (.iload_n 1, 1) := by decide +kernel
theorem dX6_match_1 : decode cX6_match 1 = .ok (.i2l, 1) := by decide +kernel
theorem dX6_match_2 : decode cX6_match 2 = .ok (.lconst 1, 1) := by decide +kernel
theorem dX6_match_3 : decode cX6_match 3 = .ok (.ldc2_w 220, 3) := by decide +kernel
theorem dX6_match_6 : decode cX6_match 6 = .ok (.invokestatic 69, 3) := by decide +kernel
theorem dX6_match_9 : decode cX6_match 9 = .ok (.ifCond .eq 10, 3) := by decide +kernel
theorem dX6_match_12 : decode cX6_match 12 = .ok (.iload_n 2, 1) := by decide +kernel
theorem dX6_match_13 : decode cX6_match 13 = .ok (.invokestatic 251, 3) := by decide +kernel
theorem dX6_match_16 : decode cX6_match 16 = .ok (.ifCond .ne 5, 3) := by decide +kernel
theorem dX6_match_19 : decode cX6_match 19 = .ok (.iconst (-1), 1) := by decide +kernel
theorem dX6_match_20 : decode cX6_match 20 = .ok (.ireturn, 1) := by decide +kernel
theorem dX6_match_21 : decode cX6_match 21 = .ok (.aload_n 0, 1) := by decide +kernel
theorem dX6_match_22 : decode cX6_match 22 = .ok (.getfield 7, 3) := by decide +kernel
theorem dX6_match_25 : decode cX6_match 25 = .ok (.bipush 53, 2) := by decide +kernel
theorem dX6_match_27 : decode cX6_match 27 = .ok (.iaload, 1) := by decide +kernel
theorem dX6_match_28 : decode cX6_match 28 = .ok (.bipush 6, 2) := by decide +kernel
theorem dX6_match_30 : decode cX6_match 30 = .ok (.if_icmp .ne 6, 3) := by decide +kernel
theorem dX6_match_33 : decode cX6_match 33 = .ok (.bipush (-3), 2) := by decide +kernel
theorem dX6_match_35 : decode cX6_match 35 = .ok (.ireturn, 1) := by decide +kernel
theorem dX6_match_36 : decode cX6_match 36 = .ok (.aload_n 0, 1) := by decide +kernel
theorem dX6_match_37 : decode cX6_match 37 = .ok (.invokevirtual 194, 3) := by decide +kernel
theorem dX6_match_40 : decode cX6_match 40 = .ok (.aload_n 0, 1) := by decide +kernel
theorem dX6_match_41 : decode cX6_match 41 = .ok (.aload_n 0, 1) := by decide +kernel
theorem dX6_match_42 : decode cX6_match 42 = .ok (.bipush 30, 2) := by decide +kernel
theorem dX6_match_44 : decode cX6_match 44 = .ok (.invokevirtual 254, 3) := by decide +kernel
theorem dX6_match_47 : decode cX6_match 47 = .ok (.invokevirtual 257, 3) := by decide +kernel
theorem dX6_match_50 : decode cX6_match 50 = .ok (.iconst 0, 1) := by decide +kernel
theorem dX6_match_51 : decode cX6_match 51 = .ok (.istore_n 3, 1) := by decide +kernel
theorem dX6_match_52 : decode cX6_match 52 = .ok (.iload_n 3, 1) := by decide +kernel
theorem dX6_match_53 : decode cX6_match 53 = .ok (.aload_n 0, 1) := by decide +kernel
theorem dX6_match_54 : decode cX6_match 54 = .ok (.getfield 64, 3) := by decide +kernel
theorem dX6_match_57 : decode cX6_match 57 = .ok (.if_icmp .ge 58, 3) := by decide +kernel
theorem dX6_match_60 : decode cX6_match 60 = .ok (.iload_n 3, 1) := by decide +kernel
theorem dX6_match_61 : decode cX6_match 61 = .ok (.iconst 1, 1) := by decide +kernel
theorem dX6_match_62 : decode cX6_match 62 = .ok (.iadd, 1) := by decide +kernel
theorem dX6_match_63 : decode cX6_match 63 = .ok (.istore 4, 2) := by decide +kernel
theorem dX6_match_65 : decode cX6_match 65 = .ok (.iload 4, 2) := by decide +kernel
theorem dX6_match_67 : decode cX6_match 67 = .ok (.aload_n 0, 1) := by decide +kernel
theorem dX6_match_68 : decode cX6_match 68 = .ok (.getfield 64, 3) := by decide +kernel
theorem dX6_match_71 : decode cX6_match 71 = .ok (.if_icmp .ge 38, 3) := by decide +kernel
theorem dX6_match_74 : decode cX6_match 74 = .ok (.aload_n 0, 1) := by decide +kernel
theorem dX6_match_75 : decode cX6_match 75 = .ok (.invokevirtual 194, 3) := by decide +kernel
theorem dX6_match_78 : decode cX6_match 78 = .ok (.aload_n 0, 1) := by decide +kernel
theorem dX6_match_79 : decode cX6_match 79 = .ok (.iload_n 3, 1) := by decide +kernel
theorem dX6_match_80 : decode cX6_match 80 = .ok (.iload 4, 2) := by decide +kernel
theorem dX6_match_82 : decode cX6_match 82 = .ok (.iload_n 1, 1) := by decide +kernel
theorem dX6_match_83 : decode cX6_match 83 = .ok (.invokevirtual 222, 3) := by decide +kernel
theorem dX6_match_86 : decode cX6_match 86 = .ok (.aload_n 0, 1) := by decide +kernel
theorem dX6_match_87 : decode cX6_match 87 = .ok (.bipush 10, 2) := by decide +kernel
theorem dX6_match_89 : decode cX6_match 89 = .ok (.iload_n 3, 1) := by decide +kernel
theorem dX6_match_90 : decode cX6_match 90 = .ok (.imul, 1) := by decide +kernel
theorem dX6_match_91 : decode cX6_match 91 = .ok (.iload 4, 2) := by decide +kernel
theorem dX6_match_93 : decode cX6_match 93 = .ok (.iadd, 1) := by decide +kernel
theorem dX6_match_94 : decode cX6_match 94 = .ok (.aload_n 0, 1) := by decide +kernel
theorem dX6_match_95 : decode cX6_match 95 = .ok (.bipush 30, 2) := by decide +kernel
theorem dX6_match_97 : decode cX6_match 97 = .ok (.invokevirtual 254, 3) := by decide +kernel
theorem dX6_match_100 : decode cX6_match 100 = .ok (.invokevirtual 260, 3) := by decide +kernel
theorem dX6_match_103 : decode cX6_match 103 = .ok (.iinc 4 1, 3) := by decide +kernel
theorem dX6_match_106 : decode cX6_match 106 = .ok (.goto (-41), 3) := by decide +kernel
theorem dX6_match_109 : decode cX6_match 109 = .ok (.iinc 3 1, 3) := by decide +kernel
theorem dX6_match_112 : decode cX6_match 112 = .ok (.goto (-60), 3) := by decide +kernel
theorem dX6_match_115 : decode cX6_match 115 = .ok (.aload_n 0, 1) := by decide +kernel
theorem dX6_match_116 : decode cX6_match 116 = .ok (.iload_n 2, 1) := by decide +kernel
theorem dX6_match_117 : decode cX6_match 117 = .ok (.invokevirtual 264, 3) := by decide +kernel
theorem dX6_match_120 : decode cX6_match 120 = .ok (.ireturn, 1) := by decide +kernel
theorem dX6_frays_0 : decode cX6_frays 0 = .ok (.bipush 35, 2) := by decide +kernel
theorem dX6_frays_2 : decode cX6_frays 2 = .ok (.iconst 3, 1) := by decide +kernel
theorem dX6_frays_3 : decode cX6_frays 3 = .ok (.iload_n 1, 1) := by decide +kernel
theorem dX6_frays_4 : decode cX6_frays 4 = .ok (.imul, 1) := by decide +kernel
theorem dX6_frays_5 : decode cX6_frays 5 = .ok (.iadd, 1) := by decide +kernel
theorem dX6_frays_6 : decode cX6_frays 6 = .ok (.istore_n 2, 1) := by decide +kernel
theorem dX6_frays_7 : decode cX6_frays 7 = .ok (.iload_n 2, 1) := by decide +kernel
theorem dX6_frays_8 : decode cX6_frays 8 = .ok (.bipush 50, 2) := by decide +kernel
theorem dX6_frays_10 : decode cX6_frays 10 = .ok (.if_icmp .ge 23, 3) := by decide +kernel
theorem dX6_frays_13 : decode cX6_frays 13 = .ok (.aload_n 0, 1) := by decide +kernel
theorem dX6_frays_14 : decode cX6_frays 14 = .ok (.getfield 13, 3) := by decide +kernel
theorem dX6_frays_17 : decode cX6_frays 17 = .ok (.iload_n 2, 1) := by decide +kernel
theorem dX6_frays_18 : decode cX6_frays 18 = .ok (.aload_n 0, 1) := by decide +kernel
theorem dX6_frays_19 : decode cX6_frays 19 = .ok (.getfield 13, 3) := by decide +kernel
theorem dX6_frays_22 : decode cX6_frays 22 = .ok (.iload_n 2, 1) := by decide +kernel
theorem dX6_frays_23 : decode cX6_frays 23 = .ok (.iconst 3, 1) := by decide +kernel
theorem dX6_frays_24 : decode cX6_frays 24 = .ok (.iadd, 1) := by decide +kernel
theorem dX6_frays_25 : decode cX6_frays 25 = .ok (.iaload, 1) := by decide +kernel
theorem dX6_frays_26 : decode cX6_frays 26 = .ok (.iastore, 1) := by decide +kernel
theorem dX6_frays_27 : decode cX6_frays 27 = .ok (.iinc 2 1, 3) := by decide +kernel
theorem dX6_frays_30 : decode cX6_frays 30 = .ok (.goto (-23), 3) := by decide +kernel
theorem dX6_frays_33 : decode cX6_frays 33 = .ok (.aload_n 0, 1) := by decide +kernel
theorem dX6_frays_34 : decode cX6_frays 34 = .ok (.getfield 13, 3) := by decide +kernel
theorem dX6_frays_37 : decode cX6_frays 37 = .ok (.bipush 53, 2) := by decide +kernel
theorem dX6_frays_39 : decode cX6_frays 39 = .ok (.dup2, 1) := by decide +kernel
theorem dX6_frays_40 : decode cX6_frays 40 = .ok (.iaload, 1) := by decide +kernel
theorem dX6_frays_41 : decode cX6_frays 41 = .ok (.iconst 1, 1) := by decide +kernel
theorem dX6_frays_42 : decode cX6_frays 42 = .ok (.isub, 1) := by decide +kernel
theorem dX6_frays_43 : decode cX6_frays 43 = .ok (.iastore, 1) := by decide +kernel
theorem dX6_frays_44 : decode cX6_frays 44 = .ok (.return_, 1) := by decide +kernel
theorem dX6_fray_0 : decode cX6_fray 0 = .ok (.iload_n 1, 1) := by decide +kernel
theorem dX6_fray_1 : decode cX6_fray 1 = .ok (.invokestatic 251, 3) := by decide +kernel
theorem dX6_fray_4 : decode cX6_fray 4 = .ok (.ifCond .ne 5, 3) := by decide +kernel
theorem dX6_fray_7 : decode cX6_fray 7 = .ok (.iconst (-1), 1) := by decide +kernel
theorem dX6_fray_8 : decode cX6_fray 8 = .ok (.ireturn, 1) := by decide +kernel
theorem dX6_fray_9 : decode cX6_fray 9 = .ok (.aload_n 0, 1) := by decide +kernel
theorem dX6_fray_10 : decode cX6_fray 10 = .ok (.invokevirtual 194, 3) := by decide +kernel
theorem dX6_fray_13 : decode cX6_fray 13 = .ok (.aload_n 0, 1) := by decide +kernel
theorem dX6_fray_14 : decode cX6_fray 14 = .ok (.bipush 30, 2) := by decide +kernel
theorem dX6_fray_16 : decode cX6_fray 16 = .ok (.invokevirtual 231, 3) := by decide +kernel
theorem dX6_fray_19 : decode cX6_fray 19 = .ok (.aload_n 0, 1) := by decide +kernel
theorem dX6_fray_20 : decode cX6_fray 20 = .ok (.aload_n 0, 1) := by decide +kernel
theorem dX6_fray_21 : decode cX6_fray 21 = .ok (.invokevirtual 234, 3) := by decide +kernel
theorem dX6_fray_24 : decode cX6_fray 24 = .ok (.invokevirtual 257, 3) := by decide +kernel
theorem dX6_fray_27 : decode cX6_fray 27 = .ok (.iconst 0, 1) := by decide +kernel
theorem dX6_fray_28 : decode cX6_fray 28 = .ok (.istore_n 2, 1) := by decide +kernel
theorem dX6_fray_29 : decode cX6_fray 29 = .ok (.iload_n 2, 1) := by decide +kernel
theorem dX6_fray_30 : decode cX6_fray 30 = .ok (.aload_n 0, 1) := by decide +kernel
theorem dX6_fray_31 : decode cX6_fray 31 = .ok (.getfield 7, 3) := by decide +kernel
theorem dX6_fray_34 : decode cX6_fray 34 = .ok (.bipush 53, 2) := by decide +kernel
theorem dX6_fray_36 : decode cX6_fray 36 = .ok (.iaload, 1) := by decide +kernel
theorem dX6_fray_37 : decode cX6_fray 37 = .ok (.if_icmp .ge 33, 3) := by decide +kernel
theorem dX6_fray_40 : decode cX6_fray 40 = .ok (.aload_n 0, 1) := by decide +kernel
theorem dX6_fray_41 : decode cX6_fray 41 = .ok (.invokevirtual 194, 3) := by decide +kernel
theorem dX6_fray_44 : decode cX6_fray 44 = .ok (.aload_n 0, 1) := by decide +kernel
theorem dX6_fray_45 : decode cX6_fray 45 = .ok (.iload_n 2, 1) := by decide +kernel
theorem dX6_fray_46 : decode cX6_fray 46 = .ok (.invokevirtual 267, 3) := by decide +kernel
theorem dX6_fray_49 : decode cX6_fray 49 = .ok (.aload_n 0, 1) := by decide +kernel
theorem dX6_fray_50 : decode cX6_fray 50 = .ok (.bipush 30, 2) := by decide +kernel
theorem dX6_fray_52 : decode cX6_fray 52 = .ok (.invokevirtual 231, 3) := by decide +kernel
theorem dX6_fray_55 : decode cX6_fray 55 = .ok (.aload_n 0, 1) := by decide +kernel
theorem dX6_fray_56 : decode cX6_fray 56 = .ok (.iload_n 2, 1) := by decide +kernel
theorem dX6_fray_57 : decode cX6_fray 57 = .ok (.aload_n 0, 1) := by decide +kernel
theorem dX6_fray_58 : decode cX6_fray 58 = .ok (.invokevirtual 234, 3) := by decide +kernel
theorem dX6_fray_61 : decode cX6_fray 61 = .ok (.invokevirtual 260, 3) := by decide +kernel
theorem dX6_fray_64 : decode cX6_fray 64 = .ok (.iinc 2 1, 3) := by decide +kernel
theorem dX6_fray_67 : decode cX6_fray 67 = .ok (.goto (-38), 3) := by decide +kernel
theorem dX6_fray_70 : decode cX6_fray 70 = .ok (.aload_n 0, 1) := by decide +kernel
theorem dX6_fray_71 : decode cX6_fray 71 = .ok (.iload_n 1, 1) := by decide +kernel
theorem dX6_fray_72 : decode cX6_fray 72 = .ok (.invokevirtual 264, 3) := by decide +kernel
theorem dX6_fray_75 : decode cX6_fray 75 = .ok (.ireturn, 1) := by decide +kernel
theorem dX6_soothe_0 : decode cX6_soothe 0 = .ok (.iload_n 1, 1) := by decide +kernel
theorem dX6_soothe_1 : decode cX6_soothe 1 = .ok (.invokestatic 251, 3) := by decide +kernel
theorem dX6_soothe_4 : decode cX6_soothe 4 = .ok (.ifCond .ne 5, 3) := by decide +kernel
theorem dX6_soothe_7 : decode cX6_soothe 7 = .ok (.iconst (-1), 1) := by decide +kernel
theorem dX6_soothe_8 : decode cX6_soothe 8 = .ok (.ireturn, 1) := by decide +kernel
theorem dX6_soothe_9 : decode cX6_soothe 9 = .ok (.aload_n 0, 1) := by decide +kernel
theorem dX6_soothe_10 : decode cX6_soothe 10 = .ok (.invokevirtual 194, 3) := by decide +kernel
theorem dX6_soothe_13 : decode cX6_soothe 13 = .ok (.aload_n 0, 1) := by decide +kernel
theorem dX6_soothe_14 : decode cX6_soothe 14 = .ok (.aload_n 0, 1) := by decide +kernel
theorem dX6_soothe_15 : decode cX6_soothe 15 = .ok (.bipush 30, 2) := by decide +kernel
theorem dX6_soothe_17 : decode cX6_soothe 17 = .ok (.invokevirtual 254, 3) := by decide +kernel
theorem dX6_soothe_20 : decode cX6_soothe 20 = .ok (.invokevirtual 257, 3) := by decide +kernel
theorem dX6_soothe_23 : decode cX6_soothe 23 = .ok (.iconst 0, 1) := by decide +kernel
theorem dX6_soothe_24 : decode cX6_soothe 24 = .ok (.istore_n 2, 1) := by decide +kernel
theorem dX6_soothe_25 : decode cX6_soothe 25 = .ok (.iload_n 2, 1) := by decide +kernel
theorem dX6_soothe_26 : decode cX6_soothe 26 = .ok (.aload_n 0, 1) := by decide +kernel
theorem dX6_soothe_27 : decode cX6_soothe 27 = .ok (.getfield 64, 3) := by decide +kernel
theorem dX6_soothe_30 : decode cX6_soothe 30 = .ok (.if_icmp .ge 64, 3) := by decide +kernel
theorem dX6_soothe_33 : decode cX6_soothe 33 = .ok (.iconst 0, 1) := by decide +kernel
theorem dX6_soothe_34 : decode cX6_soothe 34 = .ok (.istore_n 3, 1) := by decide +kernel
theorem dX6_soothe_35 : decode cX6_soothe 35 = .ok (.iload_n 3, 1) := by decide +kernel
theorem dX6_soothe_36 : decode cX6_soothe 36 = .ok (.aload_n 0, 1) := by decide +kernel
theorem dX6_soothe_37 : decode cX6_soothe 37 = .ok (.getfield 64, 3) := by decide +kernel
theorem dX6_soothe_40 : decode cX6_soothe 40 = .ok (.if_icmp .ge 48, 3) := by decide +kernel
theorem dX6_soothe_43 : decode cX6_soothe 43 = .ok (.iload_n 2, 1) := by decide +kernel
theorem dX6_soothe_44 : decode cX6_soothe 44 = .ok (.iload_n 3, 1) := by decide +kernel
theorem dX6_soothe_45 : decode cX6_soothe 45 = .ok (.if_icmp .eq 37, 3) := by decide +kernel
theorem dX6_soothe_48 : decode cX6_soothe 48 = .ok (.aload_n 0, 1) := by decide +kernel
theorem dX6_soothe_49 : decode cX6_soothe 49 = .ok (.invokevirtual 194, 3) := by decide +kernel
theorem dX6_soothe_52 : decode cX6_soothe 52 = .ok (.aload_n 0, 1) := by decide +kernel
theorem dX6_soothe_53 : decode cX6_soothe 53 = .ok (.getfield 13, 3) := by decide +kernel
theorem dX6_soothe_56 : decode cX6_soothe 56 = .ok (.bipush 10, 2) := by decide +kernel
theorem dX6_soothe_58 : decode cX6_soothe 58 = .ok (.iconst 5, 1) := by decide +kernel
theorem dX6_soothe_59 : decode cX6_soothe 59 = .ok (.iload_n 2, 1) := by decide +kernel
theorem dX6_soothe_60 : decode cX6_soothe 60 = .ok (.imul, 1) := by decide +kernel
theorem dX6_soothe_61 : decode cX6_soothe 61 = .ok (.iadd, 1) := by decide +kernel
theorem dX6_soothe_62 : decode cX6_soothe 62 = .ok (.iload_n 3, 1) := by decide +kernel
theorem dX6_soothe_63 : decode cX6_soothe 63 = .ok (.iadd, 1) := by decide +kernel
theorem dX6_soothe_64 : decode cX6_soothe 64 = .ok (.iconst 0, 1) := by decide +kernel
theorem dX6_soothe_65 : decode cX6_soothe 65 = .ok (.iastore, 1) := by decide +kernel
theorem dX6_soothe_66 : decode cX6_soothe 66 = .ok (.aload_n 0, 1) := by decide +kernel
theorem dX6_soothe_67 : decode cX6_soothe 67 = .ok (.bipush 10, 2) := by decide +kernel
theorem dX6_soothe_69 : decode cX6_soothe 69 = .ok (.iload_n 2, 1) := by decide +kernel
theorem dX6_soothe_70 : decode cX6_soothe 70 = .ok (.imul, 1) := by decide +kernel
theorem dX6_soothe_71 : decode cX6_soothe 71 = .ok (.iload_n 3, 1) := by decide +kernel
theorem dX6_soothe_72 : decode cX6_soothe 72 = .ok (.iadd, 1) := by decide +kernel
theorem dX6_soothe_73 : decode cX6_soothe 73 = .ok (.aload_n 0, 1) := by decide +kernel
theorem dX6_soothe_74 : decode cX6_soothe 74 = .ok (.bipush 30, 2) := by decide +kernel
theorem dX6_soothe_76 : decode cX6_soothe 76 = .ok (.invokevirtual 254, 3) := by decide +kernel
theorem dX6_soothe_79 : decode cX6_soothe 79 = .ok (.invokevirtual 260, 3) := by decide +kernel
theorem dX6_soothe_82 : decode cX6_soothe 82 = .ok (.iinc 3 1, 3) := by decide +kernel
theorem dX6_soothe_85 : decode cX6_soothe 85 = .ok (.goto (-50), 3) := by decide +kernel
theorem dX6_soothe_88 : decode cX6_soothe 88 = .ok (.iinc 2 1, 3) := by decide +kernel
theorem dX6_soothe_91 : decode cX6_soothe 91 = .ok (.goto (-66), 3) := by decide +kernel
theorem dX6_soothe_94 : decode cX6_soothe 94 = .ok (.aload_n 0, 1) := by decide +kernel
theorem dX6_soothe_95 : decode cX6_soothe 95 = .ok (.iload_n 1, 1) := by decide +kernel
theorem dX6_soothe_96 : decode cX6_soothe 96 = .ok (.invokevirtual 264, 3) := by decide +kernel
theorem dX6_soothe_99 : decode cX6_soothe 99 = .ok (.ireturn, 1) := by decide +kernel
theorem dX6_holy_0 : decode cX6_holy 0 = .ok (.iload_n 1, 1) := by decide +kernel
theorem dX6_holy_1 : decode cX6_holy 1 = .ok (.invokestatic 239, 3) := by decide +kernel
theorem dX6_holy_4 : decode cX6_holy 4 = .ok (.ifCond .eq 10, 3) := by decide +kernel
theorem dX6_holy_7 : decode cX6_holy 7 = .ok (.iload_n 2, 1) := by decide +kernel
theorem dX6_holy_8 : decode cX6_holy 8 = .ok (.invokestatic 251, 3) := by decide +kernel
theorem dX6_holy_11 : decode cX6_holy 11 = .ok (.ifCond .ne 5, 3) := by decide +kernel
theorem dX6_holy_14 : decode cX6_holy 14 = .ok (.iconst (-1), 1) := by decide +kernel
theorem dX6_holy_15 : decode cX6_holy 15 = .ok (.ireturn, 1) := by decide +kernel
theorem dX6_holy_16 : decode cX6_holy 16 = .ok (.aload_n 0, 1) := by decide +kernel
theorem dX6_holy_17 : decode cX6_holy 17 = .ok (.ldc_w 270, 3) := by decide +kernel
theorem dX6_holy_20 : decode cX6_holy 20 = .ok (.invokevirtual 257, 3) := by decide +kernel
theorem dX6_holy_23 : decode cX6_holy 23 = .ok (.iconst 0, 1) := by decide +kernel
theorem dX6_holy_24 : decode cX6_holy 24 = .ok (.istore_n 3, 1) := by decide +kernel
theorem dX6_holy_25 : decode cX6_holy 25 = .ok (.iload_n 3, 1) := by decide +kernel
theorem dX6_holy_26 : decode cX6_holy 26 = .ok (.bipush 7, 2) := by decide +kernel
theorem dX6_holy_28 : decode cX6_holy 28 = .ok (.if_icmp .ge 31, 3) := by decide +kernel
theorem dX6_holy_31 : decode cX6_holy 31 = .ok (.aload_n 0, 1) := by decide +kernel
theorem dX6_holy_32 : decode cX6_holy 32 = .ok (.invokevirtual 194, 3) := by decide +kernel
theorem dX6_holy_35 : decode cX6_holy 35 = .ok (.aload_n 0, 1) := by decide +kernel
theorem dX6_holy_36 : decode cX6_holy 36 = .ok (.getfield 13, 3) := by decide +kernel
theorem dX6_holy_39 : decode cX6_holy 39 = .ok (.bipush 55, 2) := by decide +kernel
theorem dX6_holy_41 : decode cX6_holy 41 = .ok (.iload_n 3, 1) := by decide +kernel
theorem dX6_holy_42 : decode cX6_holy 42 = .ok (.iastore, 1) := by decide +kernel
theorem dX6_holy_43 : decode cX6_holy 43 = .ok (.aload_n 0, 1) := by decide +kernel
theorem dX6_holy_44 : decode cX6_holy 44 = .ok (.iload_n 3, 1) := by decide +kernel
theorem dX6_holy_45 : decode cX6_holy 45 = .ok (.aload_n 0, 1) := by decide +kernel
theorem dX6_holy_46 : decode cX6_holy 46 = .ok (.iload_n 1, 1) := by decide +kernel
theorem dX6_holy_47 : decode cX6_holy 47 = .ok (.invokevirtual 254, 3) := by decide +kernel
theorem dX6_holy_50 : decode cX6_holy 50 = .ok (.invokevirtual 260, 3) := by decide +kernel
theorem dX6_holy_53 : decode cX6_holy 53 = .ok (.iinc 3 1, 3) := by decide +kernel
theorem dX6_holy_56 : decode cX6_holy 56 = .ok (.goto (-31), 3) := by decide +kernel
theorem dX6_holy_59 : decode cX6_holy 59 = .ok (.aload_n 0, 1) := by decide +kernel
theorem dX6_holy_60 : decode cX6_holy 60 = .ok (.iload_n 2, 1) := by decide +kernel
theorem dX6_holy_61 : decode cX6_holy 61 = .ok (.invokevirtual 264, 3) := by decide +kernel
theorem dX6_holy_64 : decode cX6_holy 64 = .ok (.ireturn, 1) := by decide +kernel
theorem dX6_kind_0 : decode cX6_kind 0 = .ok (.aload_n 0, 1) := by decide +kernel
theorem dX6_kind_1 : decode cX6_kind 1 = .ok (.iload_n 1, 1) := by decide +kernel
theorem dX6_kind_2 : decode cX6_kind 2 = .ok (.invokevirtual 151, 3) := by decide +kernel
theorem dX6_kind_5 : decode cX6_kind 5 = .ok (.ifCond .eq 17, 3) := by decide +kernel
theorem dX6_kind_8 : decode cX6_kind 8 = .ok (.iload_n 2, 1) := by decide +kernel
theorem dX6_kind_9 : decode cX6_kind 9 = .ok (.invokestatic 239, 3) := by decide +kernel
theorem dX6_kind_12 : decode cX6_kind 12 = .ok (.ifCond .eq 10, 3) := by decide +kernel
theorem dX6_kind_15 : decode cX6_kind 15 = .ok (.iload_n 3, 1) := by decide +kernel
theorem dX6_kind_16 : decode cX6_kind 16 = .ok (.invokestatic 251, 3) := by decide +kernel
theorem dX6_kind_19 : decode cX6_kind 19 = .ok (.ifCond .ne 5, 3) := by decide +kernel
theorem dX6_kind_22 : decode cX6_kind 22 = .ok (.iconst (-1), 1) := by decide +kernel
theorem dX6_kind_23 : decode cX6_kind 23 = .ok (.ireturn, 1) := by decide +kernel
theorem dX6_kind_24 : decode cX6_kind 24 = .ok (.aload_n 0, 1) := by decide +kernel
theorem dX6_kind_25 : decode cX6_kind 25 = .ok (.ldc_w 270, 3) := by decide +kernel
theorem dX6_kind_28 : decode cX6_kind 28 = .ok (.invokevirtual 257, 3) := by decide +kernel
theorem dX6_kind_31 : decode cX6_kind 31 = .ok (.iconst 0, 1) := by decide +kernel
theorem dX6_kind_32 : decode cX6_kind 32 = .ok (.istore 4, 2) := by decide +kernel
theorem dX6_kind_34 : decode cX6_kind 34 = .ok (.iload 4, 2) := by decide +kernel
theorem dX6_kind_36 : decode cX6_kind 36 = .ok (.iconst 4, 1) := by decide +kernel
theorem dX6_kind_37 : decode cX6_kind 37 = .ok (.if_icmp .ge 36, 3) := by decide +kernel
theorem dX6_kind_40 : decode cX6_kind 40 = .ok (.aload_n 0, 1) := by decide +kernel
theorem dX6_kind_41 : decode cX6_kind 41 = .ok (.invokevirtual 194, 3) := by decide +kernel
theorem dX6_kind_44 : decode cX6_kind 44 = .ok (.aload_n 0, 1) := by decide +kernel
theorem dX6_kind_45 : decode cX6_kind 45 = .ok (.getfield 13, 3) := by decide +kernel
theorem dX6_kind_48 : decode cX6_kind 48 = .ok (.iconst 2, 1) := by decide +kernel
theorem dX6_kind_49 : decode cX6_kind 49 = .ok (.iload_n 1, 1) := by decide +kernel
theorem dX6_kind_50 : decode cX6_kind 50 = .ok (.imul, 1) := by decide +kernel
theorem dX6_kind_51 : decode cX6_kind 51 = .ok (.iconst 0, 1) := by decide +kernel
theorem dX6_kind_52 : decode cX6_kind 52 = .ok (.iadd, 1) := by decide +kernel
theorem dX6_kind_53 : decode cX6_kind 53 = .ok (.iload 4, 2) := by decide +kernel
theorem dX6_kind_55 : decode cX6_kind 55 = .ok (.iastore, 1) := by decide +kernel
theorem dX6_kind_56 : decode cX6_kind 56 = .ok (.aload_n 0, 1) := by decide +kernel
theorem dX6_kind_57 : decode cX6_kind 57 = .ok (.iload 4, 2) := by decide +kernel
theorem dX6_kind_59 : decode cX6_kind 59 = .ok (.aload_n 0, 1) := by decide +kernel
theorem dX6_kind_60 : decode cX6_kind 60 = .ok (.iload_n 2, 1) := by decide +kernel
theorem dX6_kind_61 : decode cX6_kind 61 = .ok (.invokevirtual 254, 3) := by decide +kernel
theorem dX6_kind_64 : decode cX6_kind 64 = .ok (.invokevirtual 260, 3) := by decide +kernel
theorem dX6_kind_67 : decode cX6_kind 67 = .ok (.iinc 4 1, 3) := by decide +kernel
theorem dX6_kind_70 : decode cX6_kind 70 = .ok (.goto (-36), 3) := by decide +kernel
theorem dX6_kind_73 : decode cX6_kind 73 = .ok (.aload_n 0, 1) := by decide +kernel
theorem dX6_kind_74 : decode cX6_kind 74 = .ok (.iload_n 3, 1) := by decide +kernel
theorem dX6_kind_75 : decode cX6_kind 75 = .ok (.invokevirtual 264, 3) := by decide +kernel
theorem dX6_kind_78 : decode cX6_kind 78 = .ok (.ireturn, 1) := by decide +kernel
theorem dX6_slack_0 : decode cX6_slack 0 = .ok (.aload_n 0, 1) := by decide +kernel
theorem dX6_slack_1 : decode cX6_slack 1 = .ok (.iload_n 1, 1) := by decide +kernel
theorem dX6_slack_2 : decode cX6_slack 2 = .ok (.invokevirtual 210, 3) := by decide +kernel
theorem dX6_slack_5 : decode cX6_slack 5 = .ok (.ifCond .eq 17, 3) := by decide +kernel
theorem dX6_slack_8 : decode cX6_slack 8 = .ok (.iload_n 2, 1) := by decide +kernel
theorem dX6_slack_9 : decode cX6_slack 9 = .ok (.invokestatic 239, 3) := by decide +kernel
theorem dX6_slack_12 : decode cX6_slack 12 = .ok (.ifCond .eq 10, 3) := by decide +kernel
theorem dX6_slack_15 : decode cX6_slack 15 = .ok (.iload_n 3, 1) := by decide +kernel
theorem dX6_slack_16 : decode cX6_slack 16 = .ok (.invokestatic 171, 3) := by decide +kernel
theorem dX6_slack_19 : decode cX6_slack 19 = .ok (.ifCond .ne 5, 3) := by decide +kernel
theorem dX6_slack_22 : decode cX6_slack 22 = .ok (.iconst (-1), 1) := by decide +kernel
theorem dX6_slack_23 : decode cX6_slack 23 = .ok (.ireturn, 1) := by decide +kernel
theorem dX6_slack_24 : decode cX6_slack 24 = .ok (.bipush 30, 2) := by decide +kernel
theorem dX6_slack_26 : decode cX6_slack 26 = .ok (.istore 4, 2) := by decide +kernel
theorem dX6_slack_28 : decode cX6_slack 28 = .ok (.iload 4, 2) := by decide +kernel
theorem dX6_slack_30 : decode cX6_slack 30 = .ok (.ifCond .le 40, 3) := by decide +kernel
theorem dX6_slack_33 : decode cX6_slack 33 = .ok (.aload_n 0, 1) := by decide +kernel
theorem dX6_slack_34 : decode cX6_slack 34 = .ok (.invokevirtual 194, 3) := by decide +kernel
theorem dX6_slack_37 : decode cX6_slack 37 = .ok (.aload_n 0, 1) := by decide +kernel
theorem dX6_slack_38 : decode cX6_slack 38 = .ok (.getfield 13, 3) := by decide +kernel
theorem dX6_slack_41 : decode cX6_slack 41 = .ok (.bipush 35, 2) := by decide +kernel
theorem dX6_slack_43 : decode cX6_slack 43 = .ok (.iconst 3, 1) := by decide +kernel
theorem dX6_slack_44 : decode cX6_slack 44 = .ok (.iload_n 1, 1) := by decide +kernel
theorem dX6_slack_45 : decode cX6_slack 45 = .ok (.imul, 1) := by decide +kernel
theorem dX6_slack_46 : decode cX6_slack 46 = .ok (.iadd, 1) := by decide +kernel
theorem dX6_slack_47 : decode cX6_slack 47 = .ok (.iconst 2, 1) := by decide +kernel
theorem dX6_slack_48 : decode cX6_slack 48 = .ok (.iadd, 1) := by decide +kernel
theorem dX6_slack_49 : decode cX6_slack 49 = .ok (.iload 4, 2) := by decide +kernel
theorem dX6_slack_51 : decode cX6_slack 51 = .ok (.iastore, 1) := by decide +kernel
theorem dX6_slack_52 : decode cX6_slack 52 = .ok (.aload_n 0, 1) := by decide +kernel
theorem dX6_slack_53 : decode cX6_slack 53 = .ok (.iload_n 2, 1) := by decide +kernel
theorem dX6_slack_54 : decode cX6_slack 54 = .ok (.invokevirtual 254, 3) := by decide +kernel
theorem dX6_slack_57 : decode cX6_slack 57 = .ok (.iload_n 3, 1) := by decide +kernel
theorem dX6_slack_58 : decode cX6_slack 58 = .ok (.if_icmp .gt 6, 3) := by decide +kernel
theorem dX6_slack_61 : decode cX6_slack 61 = .ok (.iload 4, 2) := by decide +kernel
theorem dX6_slack_63 : decode cX6_slack 63 = .ok (.ireturn, 1) := by decide +kernel
theorem dX6_slack_64 : decode cX6_slack 64 = .ok (.iinc 4 (-1), 3) := by decide +kernel
theorem dX6_slack_67 : decode cX6_slack 67 = .ok (.goto (-39), 3) := by decide +kernel
theorem dX6_slack_70 : decode cX6_slack 70 = .ok (.bipush (-4), 2) := by decide +kernel
theorem dX6_slack_72 : decode cX6_slack 72 = .ok (.ireturn, 1) := by decide +kernel
theorem dX6_common_0 : decode cX6_common 0 = .ok (.lload_n 0, 1) := by decide +kernel
theorem dX6_common_1 : decode cX6_common 1 = .ok (.lstore 4, 2) := by decide +kernel
theorem dX6_common_3 : decode cX6_common 3 = .ok (.lload_n 2, 1) := by decide +kernel
theorem dX6_common_4 : decode cX6_common 4 = .ok (.lstore 6, 2) := by decide +kernel
theorem dX6_common_6 : decode cX6_common 6 = .ok (.lload 6, 2) := by decide +kernel
theorem dX6_common_8 : decode cX6_common 8 = .ok (.lconst 0, 1) := by decide +kernel
theorem dX6_common_9 : decode cX6_common 9 = .ok (.lcmp, 1) := by decide +kernel
theorem dX6_common_10 : decode cX6_common 10 = .ok (.ifCond .eq 21, 3) := by decide +kernel
theorem dX6_common_13 : decode cX6_common 13 = .ok (.lload 4, 2) := by decide +kernel
theorem dX6_common_15 : decode cX6_common 15 = .ok (.lload 6, 2) := by decide +kernel
theorem dX6_common_17 : decode cX6_common 17 = .ok (.lrem, 1) := by decide +kernel
theorem dX6_common_18 : decode cX6_common 18 = .ok (.lstore 8, 2) := by decide +kernel
theorem dX6_common_20 : decode cX6_common 20 = .ok (.lload 6, 2) := by decide +kernel
theorem dX6_common_22 : decode cX6_common 22 = .ok (.lstore 4, 2) := by decide +kernel
theorem dX6_common_24 : decode cX6_common 24 = .ok (.lload 8, 2) := by decide +kernel
theorem dX6_common_26 : decode cX6_common 26 = .ok (.lstore 6, 2) := by decide +kernel
theorem dX6_common_28 : decode cX6_common 28 = .ok (.goto (-22), 3) := by decide +kernel
theorem dX6_common_31 : decode cX6_common 31 = .ok (.lload 4, 2) := by decide +kernel
theorem dX6_common_33 : decode cX6_common 33 = .ok (.lreturn, 1) := by decide +kernel
theorem dX6_told_0 : decode cX6_told 0 = .ok (.lload_n 2, 1) := by decide +kernel
theorem dX6_told_1 : decode cX6_told 1 = .ok (.lload_n 0, 1) := by decide +kernel
theorem dX6_told_2 : decode cX6_told 2 = .ok (.invokestatic 271, 3) := by decide +kernel
theorem dX6_told_5 : decode cX6_told 5 = .ok (.lstore 5, 2) := by decide +kernel
theorem dX6_told_7 : decode cX6_told 7 = .ok (.iload 4, 2) := by decide +kernel
theorem dX6_told_9 : decode cX6_told 9 = .ok (.ifCond .ne 10, 3) := by decide +kernel
theorem dX6_told_12 : decode cX6_told 12 = .ok (.lload_n 0, 1) := by decide +kernel
theorem dX6_told_13 : decode cX6_told 13 = .ok (.lload 5, 2) := by decide +kernel
theorem dX6_told_15 : decode cX6_told 15 = .ok (.ldiv, 1) := by decide +kernel
theorem dX6_told_16 : decode cX6_told 16 = .ok (.goto 7, 3) := by decide +kernel
theorem dX6_told_19 : decode cX6_told 19 = .ok (.lload_n 2, 1) := by decide +kernel
theorem dX6_told_20 : decode cX6_told 20 = .ok (.lload 5, 2) := by decide +kernel
theorem dX6_told_22 : decode cX6_told 22 = .ok (.ldiv, 1) := by decide +kernel
theorem dX6_told_23 : decode cX6_told 23 = .ok (.lreturn, 1) := by decide +kernel
theorem dX6_findOdds_0 : decode cX6_findOdds 0 = .ok (.aload_n 0, 1) := by decide +kernel
theorem dX6_findOdds_1 : decode cX6_findOdds 1 = .ok (.lconst 0, 1) := by decide +kernel
theorem dX6_findOdds_2 : decode cX6_findOdds 2 = .ok (.putfield 275, 3) := by decide +kernel
theorem dX6_findOdds_5 : decode cX6_findOdds 5 = .ok (.aload_n 0, 1) := by decide +kernel
theorem dX6_findOdds_6 : decode cX6_findOdds 6 = .ok (.lconst 0, 1) := by decide +kernel
theorem dX6_findOdds_7 : decode cX6_findOdds 7 = .ok (.putfield 279, 3) := by decide +kernel
theorem dX6_findOdds_10 : decode cX6_findOdds 10 = .ok (.aload_n 0, 1) := by decide +kernel
theorem dX6_findOdds_11 : decode cX6_findOdds 11 = .ok (.lconst 1, 1) := by decide +kernel
theorem dX6_findOdds_12 : decode cX6_findOdds 12 = .ok (.putfield 282, 3) := by decide +kernel
theorem dX6_findOdds_15 : decode cX6_findOdds 15 = .ok (.iconst 0, 1) := by decide +kernel
theorem dX6_findOdds_16 : decode cX6_findOdds 16 = .ok (.istore 4, 2) := by decide +kernel
theorem dX6_findOdds_18 : decode cX6_findOdds 18 = .ok (.iload 4, 2) := by decide +kernel
theorem dX6_findOdds_20 : decode cX6_findOdds 20 = .ok (.iload_n 2, 1) := by decide +kernel
theorem dX6_findOdds_21 : decode cX6_findOdds 21 = .ok (.if_icmp .ge 21, 3) := by decide +kernel
theorem dX6_findOdds_24 : decode cX6_findOdds 24 = .ok (.aload_n 0, 1) := by decide +kernel
theorem dX6_findOdds_25 : decode cX6_findOdds 25 = .ok (.dup, 1) := by decide +kernel
theorem dX6_findOdds_26 : decode cX6_findOdds 26 = .ok (.getfield 282, 3) := by decide +kernel
theorem dX6_findOdds_29 : decode cX6_findOdds 29 = .ok (.ldc2_w 285, 3) := by decide +kernel
theorem dX6_findOdds_32 : decode cX6_findOdds 32 = .ok (.lmul, 1) := by decide +kernel
theorem dX6_findOdds_33 : decode cX6_findOdds 33 = .ok (.putfield 282, 3) := by decide +kernel
theorem dX6_findOdds_36 : decode cX6_findOdds 36 = .ok (.iinc 4 1, 3) := by decide +kernel
theorem dX6_findOdds_39 : decode cX6_findOdds 39 = .ok (.goto (-21), 3) := by decide +kernel
theorem dX6_findOdds_42 : decode cX6_findOdds 42 = .ok (.iconst 0, 1) := by decide +kernel
theorem dX6_findOdds_43 : decode cX6_findOdds 43 = .ok (.istore 4, 2) := by decide +kernel
theorem dX6_findOdds_45 : decode cX6_findOdds 45 = .ok (.iload 4, 2) := by decide +kernel
theorem dX6_findOdds_47 : decode cX6_findOdds 47 = .ok (.iconst 1, 1) := by decide +kernel
theorem dX6_findOdds_48 : decode cX6_findOdds 48 = .ok (.iload_n 2, 1) := by decide +kernel
theorem dX6_findOdds_49 : decode cX6_findOdds 49 = .ok (.ishl, 1) := by decide +kernel
theorem dX6_findOdds_50 : decode cX6_findOdds 50 = .ok (.if_icmp .ge 115, 3) := by decide +kernel
theorem dX6_findOdds_53 : decode cX6_findOdds 53 = .ok (.lconst 1, 1) := by decide +kernel
theorem dX6_findOdds_54 : decode cX6_findOdds 54 = .ok (.lstore 5, 2) := by decide +kernel
theorem dX6_findOdds_56 : decode cX6_findOdds 56 = .ok (.aload_n 0, 1) := by decide +kernel
theorem dX6_findOdds_57 : decode cX6_findOdds 57 = .ok (.invokevirtual 194, 3) := by decide +kernel
theorem dX6_findOdds_60 : decode cX6_findOdds 60 = .ok (.iconst 0, 1) := by decide +kernel
theorem dX6_findOdds_61 : decode cX6_findOdds 61 = .ok (.istore 7, 2) := by decide +kernel
theorem dX6_findOdds_63 : decode cX6_findOdds 63 = .ok (.iload 7, 2) := by decide +kernel
theorem dX6_findOdds_65 : decode cX6_findOdds 65 = .ok (.iload_n 2, 1) := by decide +kernel
theorem dX6_findOdds_66 : decode cX6_findOdds 66 = .ok (.if_icmp .ge 53, 3) := by decide +kernel
theorem dX6_findOdds_69 : decode cX6_findOdds 69 = .ok (.iload 4, 2) := by decide +kernel
theorem dX6_findOdds_71 : decode cX6_findOdds 71 = .ok (.iload 7, 2) := by decide +kernel
theorem dX6_findOdds_73 : decode cX6_findOdds 73 = .ok (.ishr, 1) := by decide +kernel
theorem dX6_findOdds_74 : decode cX6_findOdds 74 = .ok (.iconst 1, 1) := by decide +kernel
theorem dX6_findOdds_75 : decode cX6_findOdds 75 = .ok (.iand, 1) := by decide +kernel
theorem dX6_findOdds_76 : decode cX6_findOdds 76 = .ok (.iconst 1, 1) := by decide +kernel
theorem dX6_findOdds_77 : decode cX6_findOdds 77 = .ok (.if_icmp .ne 7, 3) := by decide +kernel
theorem dX6_findOdds_80 : decode cX6_findOdds 80 = .ok (.iconst 1, 1) := by decide +kernel
theorem dX6_findOdds_81 : decode cX6_findOdds 81 = .ok (.goto 4, 3) := by decide +kernel
theorem dX6_findOdds_84 : decode cX6_findOdds 84 = .ok (.iconst 0, 1) := by decide +kernel
theorem dX6_findOdds_85 : decode cX6_findOdds 85 = .ok (.istore 8, 2) := by decide +kernel
theorem dX6_findOdds_87 : decode cX6_findOdds 87 = .ok (.lload 5, 2) := by decide +kernel
theorem dX6_findOdds_89 : decode cX6_findOdds 89 = .ok (.iload 8, 2) := by decide +kernel
theorem dX6_findOdds_91 : decode cX6_findOdds 91 = .ok (.ifCond .eq 8, 3) := by decide +kernel
theorem dX6_findOdds_94 : decode cX6_findOdds 94 = .ok (.iload_n 1, 1) := by decide +kernel
theorem dX6_findOdds_95 : decode cX6_findOdds 95 = .ok (.i2l, 1) := by decide +kernel
theorem dX6_findOdds_96 : decode cX6_findOdds 96 = .ok (.goto 8, 3) := by decide +kernel
theorem dX6_findOdds_99 : decode cX6_findOdds 99 = .ok (.bipush 10, 2) := by decide +kernel
theorem dX6_findOdds_101 : decode cX6_findOdds 101 = .ok (.iload_n 1, 1) := by decide +kernel
theorem dX6_findOdds_102 : decode cX6_findOdds 102 = .ok (.isub, 1) := by decide +kernel
theorem dX6_findOdds_103 : decode cX6_findOdds 103 = .ok (.i2l, 1) := by decide +kernel
theorem dX6_findOdds_104 : decode cX6_findOdds 104 = .ok (.lmul, 1) := by decide +kernel
theorem dX6_findOdds_105 : decode cX6_findOdds 105 = .ok (.lstore 5, 2) := by decide +kernel
theorem dX6_findOdds_107 : decode cX6_findOdds 107 = .ok (.aload_n 0, 1) := by decide +kernel
theorem dX6_findOdds_108 : decode cX6_findOdds 108 = .ok (.iload 8, 2) := by decide +kernel
theorem dX6_findOdds_110 : decode cX6_findOdds 110 = .ok (.invokevirtual 190, 3) := by decide +kernel
theorem dX6_findOdds_113 : decode cX6_findOdds 113 = .ok (.iinc 7 1, 3) := by decide +kernel
theorem dX6_findOdds_116 : decode cX6_findOdds 116 = .ok (.goto (-53), 3) := by decide +kernel
theorem dX6_findOdds_119 : decode cX6_findOdds 119 = .ok (.aload_n 0, 1) := by decide +kernel
theorem dX6_findOdds_120 : decode cX6_findOdds 120 = .ok (.dup, 1) := by decide +kernel
theorem dX6_findOdds_121 : decode cX6_findOdds 121 = .ok (.getfield 275, 3) := by decide +kernel
theorem dX6_findOdds_124 : decode cX6_findOdds 124 = .ok (.aload_n 0, 1) := by decide +kernel
theorem dX6_findOdds_125 : decode cX6_findOdds 125 = .ok (.invokevirtual 197, 3) := by decide +kernel
theorem dX6_findOdds_128 : decode cX6_findOdds 128 = .ok (.iload_n 3, 1) := by decide +kernel
theorem dX6_findOdds_129 : decode cX6_findOdds 129 = .ok (.if_icmp .gt 8, 3) := by decide +kernel
theorem dX6_findOdds_132 : decode cX6_findOdds 132 = .ok (.lload 5, 2) := by decide +kernel
theorem dX6_findOdds_134 : decode cX6_findOdds 134 = .ok (.goto 4, 3) := by decide +kernel
theorem dX6_findOdds_137 : decode cX6_findOdds 137 = .ok (.lconst 0, 1) := by decide +kernel
theorem dX6_findOdds_138 : decode cX6_findOdds 138 = .ok (.ladd, 1) := by decide +kernel
theorem dX6_findOdds_139 : decode cX6_findOdds 139 = .ok (.putfield 275, 3) := by decide +kernel
theorem dX6_findOdds_142 : decode cX6_findOdds 142 = .ok (.aload_n 0, 1) := by decide +kernel
theorem dX6_findOdds_143 : decode cX6_findOdds 143 = .ok (.dup, 1) := by decide +kernel
theorem dX6_findOdds_144 : decode cX6_findOdds 144 = .ok (.getfield 279, 3) := by decide +kernel
theorem dX6_findOdds_147 : decode cX6_findOdds 147 = .ok (.lload 5, 2) := by decide +kernel
theorem dX6_findOdds_149 : decode cX6_findOdds 149 = .ok (.aload_n 0, 1) := by decide +kernel
theorem dX6_findOdds_150 : decode cX6_findOdds 150 = .ok (.invokevirtual 197, 3) := by decide +kernel
theorem dX6_findOdds_153 : decode cX6_findOdds 153 = .ok (.i2l, 1) := by decide +kernel
theorem dX6_findOdds_154 : decode cX6_findOdds 154 = .ok (.lmul, 1) := by decide +kernel
theorem dX6_findOdds_155 : decode cX6_findOdds 155 = .ok (.ladd, 1) := by decide +kernel
theorem dX6_findOdds_156 : decode cX6_findOdds 156 = .ok (.putfield 279, 3) := by decide +kernel
theorem dX6_findOdds_159 : decode cX6_findOdds 159 = .ok (.iinc 4 1, 3) := by decide +kernel
theorem dX6_findOdds_162 : decode cX6_findOdds 162 = .ok (.goto (-117), 3) := by decide +kernel
theorem dX6_findOdds_165 : decode cX6_findOdds 165 = .ok (.return_, 1) := by decide +kernel
theorem dX6_luck_0 : decode cX6_luck 0 = .ok (.iload_n 1, 1) := by decide +kernel
theorem dX6_luck_1 : decode cX6_luck 1 = .ok (.i2l, 1) := by decide +kernel
theorem dX6_luck_2 : decode cX6_luck 2 = .ok (.lconst 0, 1) := by decide +kernel
theorem dX6_luck_3 : decode cX6_luck 3 = .ok (.ldc2_w 285, 3) := by decide +kernel
theorem dX6_luck_6 : decode cX6_luck 6 = .ok (.invokestatic 69, 3) := by decide +kernel
theorem dX6_luck_9 : decode cX6_luck 9 = .ok (.ifCond .eq 30, 3) := by decide +kernel
theorem dX6_luck_12 : decode cX6_luck 12 = .ok (.iload_n 2, 1) := by decide +kernel
theorem dX6_luck_13 : decode cX6_luck 13 = .ok (.i2l, 1) := by decide +kernel
theorem dX6_luck_14 : decode cX6_luck 14 = .ok (.lconst 0, 1) := by decide +kernel
theorem dX6_luck_15 : decode cX6_luck 15 = .ok (.ldc2_w 287, 3) := by decide +kernel
theorem dX6_luck_18 : decode cX6_luck 18 = .ok (.invokestatic 69, 3) := by decide +kernel
theorem dX6_luck_21 : decode cX6_luck 21 = .ok (.ifCond .eq 18, 3) := by decide +kernel
theorem dX6_luck_24 : decode cX6_luck 24 = .ok (.iload_n 3, 1) := by decide +kernel
theorem dX6_luck_25 : decode cX6_luck 25 = .ok (.invokestatic 171, 3) := by decide +kernel
theorem dX6_luck_28 : decode cX6_luck 28 = .ok (.ifCond .eq 11, 3) := by decide +kernel
theorem dX6_luck_31 : decode cX6_luck 31 = .ok (.iload 4, 2) := by decide +kernel
theorem dX6_luck_33 : decode cX6_luck 33 = .ok (.invokestatic 251, 3) := by decide +kernel
theorem dX6_luck_36 : decode cX6_luck 36 = .ok (.ifCond .ne 7, 3) := by decide +kernel
theorem dX6_luck_39 : decode cX6_luck 39 = .ok (.ldc2_w 289, 3) := by decide +kernel
theorem dX6_luck_42 : decode cX6_luck 42 = .ok (.lreturn, 1) := by decide +kernel
theorem dX6_luck_43 : decode cX6_luck 43 = .ok (.aload_n 0, 1) := by decide +kernel
theorem dX6_luck_44 : decode cX6_luck 44 = .ok (.iload_n 1, 1) := by decide +kernel
theorem dX6_luck_45 : decode cX6_luck 45 = .ok (.iload_n 2, 1) := by decide +kernel
theorem dX6_luck_46 : decode cX6_luck 46 = .ok (.iload_n 3, 1) := by decide +kernel
theorem dX6_luck_47 : decode cX6_luck 47 = .ok (.invokevirtual 291, 3) := by decide +kernel
theorem dX6_luck_50 : decode cX6_luck 50 = .ok (.aload_n 0, 1) := by decide +kernel
theorem dX6_luck_51 : decode cX6_luck 51 = .ok (.getfield 275, 3) := by decide +kernel
theorem dX6_luck_54 : decode cX6_luck 54 = .ok (.aload_n 0, 1) := by decide +kernel
theorem dX6_luck_55 : decode cX6_luck 55 = .ok (.getfield 282, 3) := by decide +kernel
theorem dX6_luck_58 : decode cX6_luck 58 = .ok (.iload 4, 2) := by decide +kernel
theorem dX6_luck_60 : decode cX6_luck 60 = .ok (.invokestatic 294, 3) := by decide +kernel
theorem dX6_luck_63 : decode cX6_luck 63 = .ok (.lreturn, 1) := by decide +kernel
theorem dX6_mean_0 : decode cX6_mean 0 = .ok (.iload_n 1, 1) := by decide +kernel
theorem dX6_mean_1 : decode cX6_mean 1 = .ok (.i2l, 1) := by decide +kernel
theorem dX6_mean_2 : decode cX6_mean 2 = .ok (.lconst 0, 1) := by decide +kernel
theorem dX6_mean_3 : decode cX6_mean 3 = .ok (.ldc2_w 285, 3) := by decide +kernel
theorem dX6_mean_6 : decode cX6_mean 6 = .ok (.invokestatic 69, 3) := by decide +kernel
theorem dX6_mean_9 : decode cX6_mean 9 = .ok (.ifCond .eq 22, 3) := by decide +kernel
theorem dX6_mean_12 : decode cX6_mean 12 = .ok (.iload_n 2, 1) := by decide +kernel
theorem dX6_mean_13 : decode cX6_mean 13 = .ok (.i2l, 1) := by decide +kernel
theorem dX6_mean_14 : decode cX6_mean 14 = .ok (.lconst 0, 1) := by decide +kernel
theorem dX6_mean_15 : decode cX6_mean 15 = .ok (.ldc2_w 287, 3) := by decide +kernel
theorem dX6_mean_18 : decode cX6_mean 18 = .ok (.invokestatic 69, 3) := by decide +kernel
theorem dX6_mean_21 : decode cX6_mean 21 = .ok (.ifCond .eq 10, 3) := by decide +kernel
theorem dX6_mean_24 : decode cX6_mean 24 = .ok (.iload_n 3, 1) := by decide +kernel
theorem dX6_mean_25 : decode cX6_mean 25 = .ok (.invokestatic 251, 3) := by decide +kernel
theorem dX6_mean_28 : decode cX6_mean 28 = .ok (.ifCond .ne 7, 3) := by decide +kernel
theorem dX6_mean_31 : decode cX6_mean 31 = .ok (.ldc2_w 289, 3) := by decide +kernel
theorem dX6_mean_34 : decode cX6_mean 34 = .ok (.lreturn, 1) := by decide +kernel
theorem dX6_mean_35 : decode cX6_mean 35 = .ok (.aload_n 0, 1) := by decide +kernel
theorem dX6_mean_36 : decode cX6_mean 36 = .ok (.iload_n 1, 1) := by decide +kernel
theorem dX6_mean_37 : decode cX6_mean 37 = .ok (.iload_n 2, 1) := by decide +kernel
theorem dX6_mean_38 : decode cX6_mean 38 = .ok (.iconst 0, 1) := by decide +kernel
theorem dX6_mean_39 : decode cX6_mean 39 = .ok (.invokevirtual 291, 3) := by decide +kernel
theorem dX6_mean_42 : decode cX6_mean 42 = .ok (.aload_n 0, 1) := by decide +kernel
theorem dX6_mean_43 : decode cX6_mean 43 = .ok (.getfield 279, 3) := by decide +kernel
theorem dX6_mean_46 : decode cX6_mean 46 = .ok (.aload_n 0, 1) := by decide +kernel
theorem dX6_mean_47 : decode cX6_mean 47 = .ok (.getfield 282, 3) := by decide +kernel
theorem dX6_mean_50 : decode cX6_mean 50 = .ok (.iload_n 3, 1) := by decide +kernel
theorem dX6_mean_51 : decode cX6_mean 51 = .ok (.invokestatic 294, 3) := by decide +kernel
theorem dX6_mean_54 : decode cX6_mean 54 = .ok (.lreturn, 1) := by decide +kernel
theorem dX6_see_0 : decode cX6_see 0 = .ok (.iload_n 1, 1) := by decide +kernel
theorem dX6_see_1 : decode cX6_see 1 = .ok (.i2l, 1) := by decide +kernel
theorem dX6_see_2 : decode cX6_see 2 = .ok (.lconst 0, 1) := by decide +kernel
theorem dX6_see_3 : decode cX6_see 3 = .ok (.ldc2_w 298, 3) := by decide +kernel
theorem dX6_see_6 : decode cX6_see 6 = .ok (.invokestatic 69, 3) := by decide +kernel
theorem dX6_see_9 : decode cX6_see 9 = .ok (.ifCond .eq 18, 3) := by decide +kernel
theorem dX6_see_12 : decode cX6_see 12 = .ok (.aload_n 0, 1) := by decide +kernel
theorem dX6_see_13 : decode cX6_see 13 = .ok (.iload_n 2, 1) := by decide +kernel
theorem dX6_see_14 : decode cX6_see 14 = .ok (.invokevirtual 151, 3) := by decide +kernel
theorem dX6_see_17 : decode cX6_see 17 = .ok (.ifCond .eq 10, 3) := by decide +kernel
theorem dX6_see_20 : decode cX6_see 20 = .ok (.iload_n 3, 1) := by decide +kernel
theorem dX6_see_21 : decode cX6_see 21 = .ok (.invokestatic 171, 3) := by decide +kernel
theorem dX6_see_24 : decode cX6_see 24 = .ok (.ifCond .ne 5, 3) := by decide +kernel
theorem dX6_see_27 : decode cX6_see 27 = .ok (.iconst (-1), 1) := by decide +kernel
theorem dX6_see_28 : decode cX6_see 28 = .ok (.ireturn, 1) := by decide +kernel
theorem dX6_see_29 : decode cX6_see 29 = .ok (.aload_n 0, 1) := by decide +kernel
theorem dX6_see_30 : decode cX6_see 30 = .ok (.getfield 7, 3) := by decide +kernel
theorem dX6_see_33 : decode cX6_see 33 = .ok (.bipush 57, 2) := by decide +kernel
theorem dX6_see_35 : decode cX6_see 35 = .ok (.iaload, 1) := by decide +kernel
theorem dX6_see_36 : decode cX6_see 36 = .ok (.bipush 6, 2) := by decide +kernel
theorem dX6_see_38 : decode cX6_see 38 = .ok (.if_icmp .ne 6, 3) := by decide +kernel
theorem dX6_see_41 : decode cX6_see 41 = .ok (.bipush (-3), 2) := by decide +kernel
theorem dX6_see_43 : decode cX6_see 43 = .ok (.ireturn, 1) := by decide +kernel
theorem dX6_see_44 : decode cX6_see 44 = .ok (.bipush 58, 2) := by decide +kernel
theorem dX6_see_46 : decode cX6_see 46 = .ok (.iconst 3, 1) := by decide +kernel
theorem dX6_see_47 : decode cX6_see 47 = .ok (.aload_n 0, 1) := by decide +kernel
theorem dX6_see_48 : decode cX6_see 48 = .ok (.getfield 7, 3) := by decide +kernel
theorem dX6_see_51 : decode cX6_see 51 = .ok (.bipush 57, 2) := by decide +kernel
theorem dX6_see_53 : decode cX6_see 53 = .ok (.iaload, 1) := by decide +kernel
theorem dX6_see_54 : decode cX6_see 54 = .ok (.imul, 1) := by decide +kernel
theorem dX6_see_55 : decode cX6_see 55 = .ok (.iadd, 1) := by decide +kernel
theorem dX6_see_56 : decode cX6_see 56 = .ok (.istore 4, 2) := by decide +kernel
theorem dX6_see_58 : decode cX6_see 58 = .ok (.aload_n 0, 1) := by decide +kernel
theorem dX6_see_59 : decode cX6_see 59 = .ok (.getfield 7, 3) := by decide +kernel
theorem dX6_see_62 : decode cX6_see 62 = .ok (.iload 4, 2) := by decide +kernel
theorem dX6_see_64 : decode cX6_see 64 = .ok (.iload_n 1, 1) := by decide +kernel
theorem dX6_see_65 : decode cX6_see 65 = .ok (.iastore, 1) := by decide +kernel
theorem dX6_see_66 : decode cX6_see 66 = .ok (.aload_n 0, 1) := by decide +kernel
theorem dX6_see_67 : decode cX6_see 67 = .ok (.getfield 7, 3) := by decide +kernel
theorem dX6_see_70 : decode cX6_see 70 = .ok (.iload 4, 2) := by decide +kernel
theorem dX6_see_72 : decode cX6_see 72 = .ok (.iconst 1, 1) := by decide +kernel
theorem dX6_see_73 : decode cX6_see 73 = .ok (.iadd, 1) := by decide +kernel
theorem dX6_see_74 : decode cX6_see 74 = .ok (.iload_n 2, 1) := by decide +kernel
theorem dX6_see_75 : decode cX6_see 75 = .ok (.iastore, 1) := by decide +kernel
theorem dX6_see_76 : decode cX6_see 76 = .ok (.aload_n 0, 1) := by decide +kernel
theorem dX6_see_77 : decode cX6_see 77 = .ok (.getfield 7, 3) := by decide +kernel
theorem dX6_see_80 : decode cX6_see 80 = .ok (.iload 4, 2) := by decide +kernel
theorem dX6_see_82 : decode cX6_see 82 = .ok (.iconst 2, 1) := by decide +kernel
theorem dX6_see_83 : decode cX6_see 83 = .ok (.iadd, 1) := by decide +kernel
theorem dX6_see_84 : decode cX6_see 84 = .ok (.iload_n 3, 1) := by decide +kernel
theorem dX6_see_85 : decode cX6_see 85 = .ok (.iastore, 1) := by decide +kernel
theorem dX6_see_86 : decode cX6_see 86 = .ok (.aload_n 0, 1) := by decide +kernel
theorem dX6_see_87 : decode cX6_see 87 = .ok (.getfield 7, 3) := by decide +kernel
theorem dX6_see_90 : decode cX6_see 90 = .ok (.bipush 57, 2) := by decide +kernel
theorem dX6_see_92 : decode cX6_see 92 = .ok (.dup2, 1) := by decide +kernel
theorem dX6_see_93 : decode cX6_see 93 = .ok (.iaload, 1) := by decide +kernel
theorem dX6_see_94 : decode cX6_see 94 = .ok (.iconst 1, 1) := by decide +kernel
theorem dX6_see_95 : decode cX6_see 95 = .ok (.iadd, 1) := by decide +kernel
theorem dX6_see_96 : decode cX6_see 96 = .ok (.iastore, 1) := by decide +kernel
theorem dX6_see_97 : decode cX6_see 97 = .ok (.aload_n 0, 1) := by decide +kernel
theorem dX6_see_98 : decode cX6_see 98 = .ok (.getfield 7, 3) := by decide +kernel
theorem dX6_see_101 : decode cX6_see 101 = .ok (.bipush 57, 2) := by decide +kernel
theorem dX6_see_103 : decode cX6_see 103 = .ok (.iaload, 1) := by decide +kernel
theorem dX6_see_104 : decode cX6_see 104 = .ok (.ireturn, 1) := by decide +kernel
theorem dX6_forget_0 : decode cX6_forget 0 = .ok (.iload_n 1, 1) := by decide +kernel
theorem dX6_forget_1 : decode cX6_forget 1 = .ok (.i2l, 1) := by decide +kernel
theorem dX6_forget_2 : decode cX6_forget 2 = .ok (.lconst 0, 1) := by decide +kernel
theorem dX6_forget_3 : decode cX6_forget 3 = .ok (.aload_n 0, 1) := by decide +kernel
theorem dX6_forget_4 : decode cX6_forget 4 = .ok (.getfield 7, 3) := by decide +kernel
theorem dX6_forget_7 : decode cX6_forget 7 = .ok (.bipush 57, 2) := by decide +kernel
theorem dX6_forget_9 : decode cX6_forget 9 = .ok (.iaload, 1) := by decide +kernel
theorem dX6_forget_10 : decode cX6_forget 10 = .ok (.i2l, 1) := by decide +kernel
theorem dX6_forget_11 : decode cX6_forget 11 = .ok (.invokestatic 69, 3) := by decide +kernel
theorem dX6_forget_14 : decode cX6_forget 14 = .ok (.ifCond .eq 13, 3) := by decide +kernel
theorem dX6_forget_17 : decode cX6_forget 17 = .ok (.aload_n 0, 1) := by decide +kernel
theorem dX6_forget_18 : decode cX6_forget 18 = .ok (.bipush 57, 2) := by decide +kernel
theorem dX6_forget_20 : decode cX6_forget 20 = .ok (.iload_n 1, 1) := by decide +kernel
theorem dX6_forget_21 : decode cX6_forget 21 = .ok (.invokevirtual 217, 3) := by decide +kernel
theorem dX6_forget_24 : decode cX6_forget 24 = .ok (.goto 4, 3) := by decide +kernel
theorem dX6_forget_27 : decode cX6_forget 27 = .ok (.iconst (-1), 1) := by decide +kernel
theorem dX6_forget_28 : decode cX6_forget 28 = .ok (.ireturn, 1) := by decide +kernel
theorem dX6_isSoWith_0 : decode cX6_isSoWith 0 = .ok (.aload_n 0, 1) := by decide +kernel
theorem dX6_isSoWith_1 : decode cX6_isSoWith 1 = .ok (.invokevirtual 194, 3) := by decide +kernel
theorem dX6_isSoWith_4 : decode cX6_isSoWith 4 = .ok (.aload_n 0, 1) := by decide +kernel
theorem dX6_isSoWith_5 : decode cX6_isSoWith 5 = .ok (.getfield 13, 3) := by decide +kernel
theorem dX6_isSoWith_8 : decode cX6_isSoWith 8 = .ok (.iload_n 1, 1) := by decide +kernel
theorem dX6_isSoWith_9 : decode cX6_isSoWith 9 = .ok (.iload_n 2, 1) := by decide +kernel
theorem dX6_isSoWith_10 : decode cX6_isSoWith 10 = .ok (.iastore, 1) := by decide +kernel
theorem dX6_isSoWith_11 : decode cX6_isSoWith 11 = .ok (.iconst 0, 1) := by decide +kernel
theorem dX6_isSoWith_12 : decode cX6_isSoWith 12 = .ok (.istore_n 3, 1) := by decide +kernel
theorem dX6_isSoWith_13 : decode cX6_isSoWith 13 = .ok (.iload_n 3, 1) := by decide +kernel
theorem dX6_isSoWith_14 : decode cX6_isSoWith 14 = .ok (.bipush 20, 2) := by decide +kernel
theorem dX6_isSoWith_16 : decode cX6_isSoWith 16 = .ok (.if_icmp .gt 49, 3) := by decide +kernel
theorem dX6_isSoWith_19 : decode cX6_isSoWith 19 = .ok (.iconst 0, 1) := by decide +kernel
theorem dX6_isSoWith_20 : decode cX6_isSoWith 20 = .ok (.istore 4, 2) := by decide +kernel
theorem dX6_isSoWith_22 : decode cX6_isSoWith 22 = .ok (.iload 4, 2) := by decide +kernel
theorem dX6_isSoWith_24 : decode cX6_isSoWith 24 = .ok (.aload_n 0, 1) := by decide +kernel
theorem dX6_isSoWith_25 : decode cX6_isSoWith 25 = .ok (.getfield 64, 3) := by decide +kernel
theorem dX6_isSoWith_28 : decode cX6_isSoWith 28 = .ok (.if_icmp .ge 26, 3) := by decide +kernel
theorem dX6_isSoWith_31 : decode cX6_isSoWith 31 = .ok (.aload_n 0, 1) := by decide +kernel
theorem dX6_isSoWith_32 : decode cX6_isSoWith 32 = .ok (.getfield 26, 3) := by decide +kernel
theorem dX6_isSoWith_35 : decode cX6_isSoWith 35 = .ok (.iconst 5, 1) := by decide +kernel
theorem dX6_isSoWith_36 : decode cX6_isSoWith 36 = .ok (.iload_n 3, 1) := by decide +kernel
theorem dX6_isSoWith_37 : decode cX6_isSoWith 37 = .ok (.imul, 1) := by decide +kernel
theorem dX6_isSoWith_38 : decode cX6_isSoWith 38 = .ok (.iload 4, 2) := by decide +kernel
theorem dX6_isSoWith_40 : decode cX6_isSoWith 40 = .ok (.iadd, 1) := by decide +kernel
theorem dX6_isSoWith_41 : decode cX6_isSoWith 41 = .ok (.aload_n 0, 1) := by decide +kernel
theorem dX6_isSoWith_42 : decode cX6_isSoWith 42 = .ok (.iload 4, 2) := by decide +kernel
theorem dX6_isSoWith_44 : decode cX6_isSoWith 44 = .ok (.invokevirtual 156, 3) := by decide +kernel
theorem dX6_isSoWith_47 : decode cX6_isSoWith 47 = .ok (.iastore, 1) := by decide +kernel
theorem dX6_isSoWith_48 : decode cX6_isSoWith 48 = .ok (.iinc 4 1, 3) := by decide +kernel
theorem dX6_isSoWith_51 : decode cX6_isSoWith 51 = .ok (.goto (-29), 3) := by decide +kernel
theorem dX6_isSoWith_54 : decode cX6_isSoWith 54 = .ok (.aload_n 0, 1) := by decide +kernel
theorem dX6_isSoWith_55 : decode cX6_isSoWith 55 = .ok (.iconst 0, 1) := by decide +kernel
theorem dX6_isSoWith_56 : decode cX6_isSoWith 56 = .ok (.invokevirtual 190, 3) := by decide +kernel
theorem dX6_isSoWith_59 : decode cX6_isSoWith 59 = .ok (.iinc 3 1, 3) := by decide +kernel
theorem dX6_isSoWith_62 : decode cX6_isSoWith 62 = .ok (.goto (-49), 3) := by decide +kernel
theorem dX6_isSoWith_65 : decode cX6_isSoWith 65 = .ok (.iconst 1, 1) := by decide +kernel
theorem dX6_isSoWith_66 : decode cX6_isSoWith 66 = .ok (.istore_n 3, 1) := by decide +kernel
theorem dX6_isSoWith_67 : decode cX6_isSoWith 67 = .ok (.iconst 0, 1) := by decide +kernel
theorem dX6_isSoWith_68 : decode cX6_isSoWith 68 = .ok (.istore 4, 2) := by decide +kernel
theorem dX6_isSoWith_70 : decode cX6_isSoWith 70 = .ok (.iload 4, 2) := by decide +kernel
theorem dX6_isSoWith_72 : decode cX6_isSoWith 72 = .ok (.aload_n 0, 1) := by decide +kernel
theorem dX6_isSoWith_73 : decode cX6_isSoWith 73 = .ok (.getfield 7, 3) := by decide +kernel
theorem dX6_isSoWith_76 : decode cX6_isSoWith 76 = .ok (.bipush 57, 2) := by decide +kernel
theorem dX6_isSoWith_78 : decode cX6_isSoWith 78 = .ok (.iaload, 1) := by decide +kernel
theorem dX6_isSoWith_79 : decode cX6_isSoWith 79 = .ok (.if_icmp .ge 64, 3) := by decide +kernel
theorem dX6_isSoWith_82 : decode cX6_isSoWith 82 = .ok (.bipush 58, 2) := by decide +kernel
theorem dX6_isSoWith_84 : decode cX6_isSoWith 84 = .ok (.iconst 3, 1) := by decide +kernel
theorem dX6_isSoWith_85 : decode cX6_isSoWith 85 = .ok (.iload 4, 2) := by decide +kernel
theorem dX6_isSoWith_87 : decode cX6_isSoWith 87 = .ok (.imul, 1) := by decide +kernel
theorem dX6_isSoWith_88 : decode cX6_isSoWith 88 = .ok (.iadd, 1) := by decide +kernel
theorem dX6_isSoWith_89 : decode cX6_isSoWith 89 = .ok (.istore 5, 2) := by decide +kernel
theorem dX6_isSoWith_91 : decode cX6_isSoWith 91 = .ok (.iload_n 3, 1) := by decide +kernel
theorem dX6_isSoWith_92 : decode cX6_isSoWith 92 = .ok (.ifCond .eq 43, 3) := by decide +kernel
theorem dX6_isSoWith_95 : decode cX6_isSoWith 95 = .ok (.aload_n 0, 1) := by decide +kernel
theorem dX6_isSoWith_96 : decode cX6_isSoWith 96 = .ok (.getfield 26, 3) := by decide +kernel
theorem dX6_isSoWith_99 : decode cX6_isSoWith 99 = .ok (.iconst 5, 1) := by decide +kernel
theorem dX6_isSoWith_100 : decode cX6_isSoWith 100 = .ok (.aload_n 0, 1) := by decide +kernel
theorem dX6_isSoWith_101 : decode cX6_isSoWith 101 = .ok (.getfield 7, 3) := by decide +kernel
theorem dX6_isSoWith_104 : decode cX6_isSoWith 104 = .ok (.iload 5, 2) := by decide +kernel
theorem dX6_isSoWith_106 : decode cX6_isSoWith 106 = .ok (.iaload, 1) := by decide +kernel
theorem dX6_isSoWith_107 : decode cX6_isSoWith 107 = .ok (.imul, 1) := by decide +kernel
theorem dX6_isSoWith_108 : decode cX6_isSoWith 108 = .ok (.aload_n 0, 1) := by decide +kernel
theorem dX6_isSoWith_109 : decode cX6_isSoWith 109 = .ok (.getfield 7, 3) := by decide +kernel
theorem dX6_isSoWith_112 : decode cX6_isSoWith 112 = .ok (.iload 5, 2) := by decide +kernel
theorem dX6_isSoWith_114 : decode cX6_isSoWith 114 = .ok (.iconst 1, 1) := by decide +kernel
theorem dX6_isSoWith_115 : decode cX6_isSoWith 115 = .ok (.iadd, 1) := by decide +kernel
theorem dX6_isSoWith_116 : decode cX6_isSoWith 116 = .ok (.iaload, 1) := by decide +kernel
theorem dX6_isSoWith_117 : decode cX6_isSoWith 117 = .ok (.iadd, 1) := by decide +kernel
theorem dX6_isSoWith_118 : decode cX6_isSoWith 118 = .ok (.iaload, 1) := by decide +kernel
theorem dX6_isSoWith_119 : decode cX6_isSoWith 119 = .ok (.aload_n 0, 1) := by decide +kernel
theorem dX6_isSoWith_120 : decode cX6_isSoWith 120 = .ok (.getfield 7, 3) := by decide +kernel
theorem dX6_isSoWith_123 : decode cX6_isSoWith 123 = .ok (.iload 5, 2) := by decide +kernel
theorem dX6_isSoWith_125 : decode cX6_isSoWith 125 = .ok (.iconst 2, 1) := by decide +kernel
theorem dX6_isSoWith_126 : decode cX6_isSoWith 126 = .ok (.iadd, 1) := by decide +kernel
theorem dX6_isSoWith_127 : decode cX6_isSoWith 127 = .ok (.iaload, 1) := by decide +kernel
theorem dX6_isSoWith_128 : decode cX6_isSoWith 128 = .ok (.if_icmp .ne 7, 3) := by decide +kernel
theorem dX6_isSoWith_131 : decode cX6_isSoWith 131 = .ok (.iconst 1, 1) := by decide +kernel
theorem dX6_isSoWith_132 : decode cX6_isSoWith 132 = .ok (.goto 4, 3) := by decide +kernel
theorem dX6_isSoWith_135 : decode cX6_isSoWith 135 = .ok (.iconst 0, 1) := by decide +kernel
theorem dX6_isSoWith_136 : decode cX6_isSoWith 136 = .ok (.istore_n 3, 1) := by decide +kernel
theorem dX6_isSoWith_137 : decode cX6_isSoWith 137 = .ok (.iinc 4 1, 3) := by decide +kernel
theorem dX6_isSoWith_140 : decode cX6_isSoWith 140 = .ok (.goto (-70), 3) := by decide +kernel
theorem dX6_isSoWith_143 : decode cX6_isSoWith 143 = .ok (.iload_n 3, 1) := by decide +kernel
theorem dX6_isSoWith_144 : decode cX6_isSoWith 144 = .ok (.ireturn, 1) := by decide +kernel
theorem dX6_which_0 : decode cX6_which 0 = .ok (.iconst 0, 1) := by decide +kernel
theorem dX6_which_1 : decode cX6_which 1 = .ok (.istore_n 3, 1) := by decide +kernel
theorem dX6_which_2 : decode cX6_which 2 = .ok (.iconst 0, 1) := by decide +kernel
theorem dX6_which_3 : decode cX6_which 3 = .ok (.istore 4, 2) := by decide +kernel
theorem dX6_which_5 : decode cX6_which 5 = .ok (.iload 4, 2) := by decide +kernel
theorem dX6_which_7 : decode cX6_which 7 = .ok (.iload_n 2, 1) := by decide +kernel
theorem dX6_which_8 : decode cX6_which 8 = .ok (.if_icmp .gt 25, 3) := by decide +kernel
theorem dX6_which_11 : decode cX6_which 11 = .ok (.iload_n 3, 1) := by decide +kernel
theorem dX6_which_12 : decode cX6_which 12 = .ok (.aload_n 0, 1) := by decide +kernel
theorem dX6_which_13 : decode cX6_which 13 = .ok (.iload_n 1, 1) := by decide +kernel
theorem dX6_which_14 : decode cX6_which 14 = .ok (.iload 4, 2) := by decide +kernel
theorem dX6_which_16 : decode cX6_which 16 = .ok (.invokevirtual 300, 3) := by decide +kernel
theorem dX6_which_19 : decode cX6_which 19 = .ok (.invokestatic 200, 3) := by decide +kernel
theorem dX6_which_22 : decode cX6_which 22 = .ok (.iload 4, 2) := by decide +kernel
theorem dX6_which_24 : decode cX6_which 24 = .ok (.ishl, 1) := by decide +kernel
theorem dX6_which_25 : decode cX6_which 25 = .ok (.ior, 1) := by decide +kernel
theorem dX6_which_26 : decode cX6_which 26 = .ok (.istore_n 3, 1) := by decide +kernel
theorem dX6_which_27 : decode cX6_which 27 = .ok (.iinc 4 1, 3) := by decide +kernel
theorem dX6_which_30 : decode cX6_which 30 = .ok (.goto (-25), 3) := by decide +kernel
theorem dX6_which_33 : decode cX6_which 33 = .ok (.iload_n 3, 1) := by decide +kernel
theorem dX6_which_34 : decode cX6_which 34 = .ok (.ireturn, 1) := by decide +kernel
theorem dX6_kinds_0 : decode cX6_kinds 0 = .ok (.aload_n 0, 1) := by decide +kernel
theorem dX6_kinds_1 : decode cX6_kinds 1 = .ok (.iload_n 1, 1) := by decide +kernel
theorem dX6_kinds_2 : decode cX6_kinds 2 = .ok (.invokevirtual 151, 3) := by decide +kernel
theorem dX6_kinds_5 : decode cX6_kinds 5 = .ok (.ifCond .eq 16, 3) := by decide +kernel
theorem dX6_kinds_8 : decode cX6_kinds 8 = .ok (.aload_n 0, 1) := by decide +kernel
theorem dX6_kinds_9 : decode cX6_kinds 9 = .ok (.iconst 2, 1) := by decide +kernel
theorem dX6_kinds_10 : decode cX6_kinds 10 = .ok (.iload_n 1, 1) := by decide +kernel
theorem dX6_kinds_11 : decode cX6_kinds 11 = .ok (.imul, 1) := by decide +kernel
theorem dX6_kinds_12 : decode cX6_kinds 12 = .ok (.iconst 0, 1) := by decide +kernel
theorem dX6_kinds_13 : decode cX6_kinds 13 = .ok (.iadd, 1) := by decide +kernel
theorem dX6_kinds_14 : decode cX6_kinds 14 = .ok (.iconst 3, 1) := by decide +kernel
theorem dX6_kinds_15 : decode cX6_kinds 15 = .ok (.invokevirtual 303, 3) := by decide +kernel
theorem dX6_kinds_18 : decode cX6_kinds 18 = .ok (.goto 4, 3) := by decide +kernel
theorem dX6_kinds_21 : decode cX6_kinds 21 = .ok (.iconst (-1), 1) := by decide +kernel
theorem dX6_kinds_22 : decode cX6_kinds 22 = .ok (.ireturn, 1) := by decide +kernel
theorem dX6_sulks_0 : decode cX6_sulks 0 = .ok (.aload_n 0, 1) := by decide +kernel
theorem dX6_sulks_1 : decode cX6_sulks 1 = .ok (.iload_n 1, 1) := by decide +kernel
theorem dX6_sulks_2 : decode cX6_sulks 2 = .ok (.iload_n 2, 1) := by decide +kernel
theorem dX6_sulks_3 : decode cX6_sulks 3 = .ok (.invokevirtual 207, 3) := by decide +kernel
theorem dX6_sulks_6 : decode cX6_sulks 6 = .ok (.ifCond .eq 19, 3) := by decide +kernel
theorem dX6_sulks_9 : decode cX6_sulks 9 = .ok (.aload_n 0, 1) := by decide +kernel
theorem dX6_sulks_10 : decode cX6_sulks 10 = .ok (.bipush 10, 2) := by decide +kernel
theorem dX6_sulks_12 : decode cX6_sulks 12 = .ok (.iconst 5, 1) := by decide +kernel
theorem dX6_sulks_13 : decode cX6_sulks 13 = .ok (.iload_n 1, 1) := by decide +kernel
theorem dX6_sulks_14 : decode cX6_sulks 14 = .ok (.imul, 1) := by decide +kernel
theorem dX6_sulks_15 : decode cX6_sulks 15 = .ok (.iadd, 1) := by decide +kernel
theorem dX6_sulks_16 : decode cX6_sulks 16 = .ok (.iload_n 2, 1) := by decide +kernel
theorem dX6_sulks_17 : decode cX6_sulks 17 = .ok (.iadd, 1) := by decide +kernel
theorem dX6_sulks_18 : decode cX6_sulks 18 = .ok (.iconst 3, 1) := by decide +kernel
theorem dX6_sulks_19 : decode cX6_sulks 19 = .ok (.invokevirtual 303, 3) := by decide +kernel
theorem dX6_sulks_22 : decode cX6_sulks 22 = .ok (.goto 4, 3) := by decide +kernel
theorem dX6_sulks_25 : decode cX6_sulks 25 = .ok (.iconst (-1), 1) := by decide +kernel
theorem dX6_sulks_26 : decode cX6_sulks 26 = .ok (.ireturn, 1) := by decide +kernel
theorem dX6_ask_0 : decode cX6_ask 0 = .ok (.aload_n 0, 1) := by decide +kernel
theorem dX6_ask_1 : decode cX6_ask 1 = .ok (.iload_n 1, 1) := by decide +kernel
theorem dX6_ask_2 : decode cX6_ask 2 = .ok (.invokevirtual 151, 3) := by decide +kernel
theorem dX6_ask_5 : decode cX6_ask 5 = .ok (.ifCond .eq 10, 3) := by decide +kernel
theorem dX6_ask_8 : decode cX6_ask 8 = .ok (.iload_n 2, 1) := by decide +kernel
theorem dX6_ask_9 : decode cX6_ask 9 = .ok (.invokestatic 251, 3) := by decide +kernel
theorem dX6_ask_12 : decode cX6_ask 12 = .ok (.ifCond .ne 5, 3) := by decide +kernel
theorem dX6_ask_15 : decode cX6_ask 15 = .ok (.iconst (-1), 1) := by decide +kernel
theorem dX6_ask_16 : decode cX6_ask 16 = .ok (.ireturn, 1) := by decide +kernel
theorem dX6_ask_17 : decode cX6_ask 17 = .ok (.iconst 0, 1) := by decide +kernel
theorem dX6_ask_18 : decode cX6_ask 18 = .ok (.istore_n 3, 1) := by decide +kernel
theorem dX6_ask_19 : decode cX6_ask 19 = .ok (.iconst 0, 1) := by decide +kernel
theorem dX6_ask_20 : decode cX6_ask 20 = .ok (.istore 4, 2) := by decide +kernel
theorem dX6_ask_22 : decode cX6_ask 22 = .ok (.iload 4, 2) := by decide +kernel
theorem dX6_ask_24 : decode cX6_ask 24 = .ok (.iconst 4, 1) := by decide +kernel
theorem dX6_ask_25 : decode cX6_ask 25 = .ok (.if_icmp .ge 61, 3) := by decide +kernel
theorem dX6_ask_28 : decode cX6_ask 28 = .ok (.aload_n 0, 1) := by decide +kernel
theorem dX6_ask_29 : decode cX6_ask 29 = .ok (.iconst 2, 1) := by decide +kernel
theorem dX6_ask_30 : decode cX6_ask 30 = .ok (.iload_n 1, 1) := by decide +kernel
theorem dX6_ask_31 : decode cX6_ask 31 = .ok (.imul, 1) := by decide +kernel
theorem dX6_ask_32 : decode cX6_ask 32 = .ok (.iconst 0, 1) := by decide +kernel
theorem dX6_ask_33 : decode cX6_ask 33 = .ok (.iadd, 1) := by decide +kernel
theorem dX6_ask_34 : decode cX6_ask 34 = .ok (.iload 4, 2) := by decide +kernel
theorem dX6_ask_36 : decode cX6_ask 36 = .ok (.invokevirtual 300, 3) := by decide +kernel
theorem dX6_ask_39 : decode cX6_ask 39 = .ok (.ifCond .eq 41, 3) := by decide +kernel
theorem dX6_ask_42 : decode cX6_ask 42 = .ok (.iconst 0, 1) := by decide +kernel
theorem dX6_ask_43 : decode cX6_ask 43 = .ok (.istore 5, 2) := by decide +kernel
theorem dX6_ask_45 : decode cX6_ask 45 = .ok (.iload 5, 2) := by decide +kernel
theorem dX6_ask_47 : decode cX6_ask 47 = .ok (.bipush 105, 2) := by decide +kernel
theorem dX6_ask_49 : decode cX6_ask 49 = .ok (.if_icmp .ge 28, 3) := by decide +kernel
theorem dX6_ask_52 : decode cX6_ask 52 = .ok (.aload_n 0, 1) := by decide +kernel
theorem dX6_ask_53 : decode cX6_ask 53 = .ok (.getfield 29, 3) := by decide +kernel
theorem dX6_ask_56 : decode cX6_ask 56 = .ok (.bipush 105, 2) := by decide +kernel
theorem dX6_ask_58 : decode cX6_ask 58 = .ok (.iload_n 3, 1) := by decide +kernel
theorem dX6_ask_59 : decode cX6_ask 59 = .ok (.imul, 1) := by decide +kernel
theorem dX6_ask_60 : decode cX6_ask 60 = .ok (.iload 5, 2) := by decide +kernel
theorem dX6_ask_62 : decode cX6_ask 62 = .ok (.iadd, 1) := by decide +kernel
theorem dX6_ask_63 : decode cX6_ask 63 = .ok (.aload_n 0, 1) := by decide +kernel
theorem dX6_ask_64 : decode cX6_ask 64 = .ok (.getfield 26, 3) := by decide +kernel
theorem dX6_ask_67 : decode cX6_ask 67 = .ok (.iload 5, 2) := by decide +kernel
theorem dX6_ask_69 : decode cX6_ask 69 = .ok (.iaload, 1) := by decide +kernel
theorem dX6_ask_70 : decode cX6_ask 70 = .ok (.iastore, 1) := by decide +kernel
theorem dX6_ask_71 : decode cX6_ask 71 = .ok (.iinc 5 1, 3) := by decide +kernel
theorem dX6_ask_74 : decode cX6_ask 74 = .ok (.goto (-29), 3) := by decide +kernel
theorem dX6_ask_77 : decode cX6_ask 77 = .ok (.iinc 3 1, 3) := by decide +kernel
theorem dX6_ask_80 : decode cX6_ask 80 = .ok (.iinc 4 1, 3) := by decide +kernel
theorem dX6_ask_83 : decode cX6_ask 83 = .ok (.goto (-61), 3) := by decide +kernel
theorem dX6_ask_86 : decode cX6_ask 86 = .ok (.aload_n 0, 1) := by decide +kernel
theorem dX6_ask_87 : decode cX6_ask 87 = .ok (.iload_n 3, 1) := by decide +kernel
theorem dX6_ask_88 : decode cX6_ask 88 = .ok (.invokevirtual 257, 3) := by decide +kernel
theorem dX6_ask_91 : decode cX6_ask 91 = .ok (.iconst 0, 1) := by decide +kernel
theorem dX6_ask_92 : decode cX6_ask 92 = .ok (.istore 4, 2) := by decide +kernel
theorem dX6_ask_94 : decode cX6_ask 94 = .ok (.iload 4, 2) := by decide +kernel
theorem dX6_ask_96 : decode cX6_ask 96 = .ok (.bipush 105, 2) := by decide +kernel
theorem dX6_ask_98 : decode cX6_ask 98 = .ok (.if_icmp .ge 132, 3) := by decide +kernel
theorem dX6_ask_101 : decode cX6_ask 101 = .ok (.iconst 0, 1) := by decide +kernel
theorem dX6_ask_102 : decode cX6_ask 102 = .ok (.istore 5, 2) := by decide +kernel
theorem dX6_ask_104 : decode cX6_ask 104 = .ok (.iconst 0, 1) := by decide +kernel
theorem dX6_ask_105 : decode cX6_ask 105 = .ok (.istore 6, 2) := by decide +kernel
theorem dX6_ask_107 : decode cX6_ask 107 = .ok (.iload 6, 2) := by decide +kernel
theorem dX6_ask_109 : decode cX6_ask 109 = .ok (.iload_n 3, 1) := by decide +kernel
theorem dX6_ask_110 : decode cX6_ask 110 = .ok (.if_icmp .ge 85, 3) := by decide +kernel
theorem dX6_ask_113 : decode cX6_ask 113 = .ok (.iconst 0, 1) := by decide +kernel
theorem dX6_ask_114 : decode cX6_ask 114 = .ok (.istore 7, 2) := by decide +kernel
theorem dX6_ask_116 : decode cX6_ask 116 = .ok (.iconst 0, 1) := by decide +kernel
theorem dX6_ask_117 : decode cX6_ask 117 = .ok (.istore 8, 2) := by decide +kernel
theorem dX6_ask_119 : decode cX6_ask 119 = .ok (.iload 8, 2) := by decide +kernel
theorem dX6_ask_121 : decode cX6_ask 121 = .ok (.iload_n 3, 1) := by decide +kernel
theorem dX6_ask_122 : decode cX6_ask 122 = .ok (.if_icmp .ge 51, 3) := by decide +kernel
theorem dX6_ask_125 : decode cX6_ask 125 = .ok (.iload 7, 2) := by decide +kernel
theorem dX6_ask_127 : decode cX6_ask 127 = .ok (.aload_n 0, 1) := by decide +kernel
theorem dX6_ask_128 : decode cX6_ask 128 = .ok (.getfield 29, 3) := by decide +kernel
theorem dX6_ask_131 : decode cX6_ask 131 = .ok (.bipush 105, 2) := by decide +kernel
theorem dX6_ask_133 : decode cX6_ask 133 = .ok (.iload 6, 2) := by decide +kernel
theorem dX6_ask_135 : decode cX6_ask 135 = .ok (.imul, 1) := by decide +kernel
theorem dX6_ask_136 : decode cX6_ask 136 = .ok (.iload 4, 2) := by decide +kernel
theorem dX6_ask_138 : decode cX6_ask 138 = .ok (.iadd, 1) := by decide +kernel
theorem dX6_ask_139 : decode cX6_ask 139 = .ok (.iaload, 1) := by decide +kernel
theorem dX6_ask_140 : decode cX6_ask 140 = .ok (.aload_n 0, 1) := by decide +kernel
theorem dX6_ask_141 : decode cX6_ask 141 = .ok (.getfield 29, 3) := by decide +kernel
theorem dX6_ask_144 : decode cX6_ask 144 = .ok (.bipush 105, 2) := by decide +kernel
theorem dX6_ask_146 : decode cX6_ask 146 = .ok (.iload 8, 2) := by decide +kernel
theorem dX6_ask_148 : decode cX6_ask 148 = .ok (.imul, 1) := by decide +kernel
theorem dX6_ask_149 : decode cX6_ask 149 = .ok (.iload 4, 2) := by decide +kernel
theorem dX6_ask_151 : decode cX6_ask 151 = .ok (.iadd, 1) := by decide +kernel
theorem dX6_ask_152 : decode cX6_ask 152 = .ok (.iaload, 1) := by decide +kernel
theorem dX6_ask_153 : decode cX6_ask 153 = .ok (.if_icmp .ne 7, 3) := by decide +kernel
theorem dX6_ask_156 : decode cX6_ask 156 = .ok (.iconst 1, 1) := by decide +kernel
theorem dX6_ask_157 : decode cX6_ask 157 = .ok (.goto 4, 3) := by decide +kernel
theorem dX6_ask_160 : decode cX6_ask 160 = .ok (.iconst 0, 1) := by decide +kernel
theorem dX6_ask_161 : decode cX6_ask 161 = .ok (.invokestatic 200, 3) := by decide +kernel
theorem dX6_ask_164 : decode cX6_ask 164 = .ok (.iadd, 1) := by decide +kernel
theorem dX6_ask_165 : decode cX6_ask 165 = .ok (.istore 7, 2) := by decide +kernel
theorem dX6_ask_167 : decode cX6_ask 167 = .ok (.iinc 8 1, 3) := by decide +kernel
theorem dX6_ask_170 : decode cX6_ask 170 = .ok (.goto (-51), 3) := by decide +kernel
theorem dX6_ask_173 : decode cX6_ask 173 = .ok (.iload 7, 2) := by decide +kernel
theorem dX6_ask_175 : decode cX6_ask 175 = .ok (.iload 5, 2) := by decide +kernel
theorem dX6_ask_177 : decode cX6_ask 177 = .ok (.if_icmp .le 8, 3) := by decide +kernel
theorem dX6_ask_180 : decode cX6_ask 180 = .ok (.iload 7, 2) := by decide +kernel
theorem dX6_ask_182 : decode cX6_ask 182 = .ok (.goto 5, 3) := by decide +kernel
theorem dX6_ask_185 : decode cX6_ask 185 = .ok (.iload 5, 2) := by decide +kernel
theorem dX6_ask_187 : decode cX6_ask 187 = .ok (.istore 5, 2) := by decide +kernel
theorem dX6_ask_189 : decode cX6_ask 189 = .ok (.iinc 6 1, 3) := by decide +kernel
theorem dX6_ask_192 : decode cX6_ask 192 = .ok (.goto (-85), 3) := by decide +kernel
theorem dX6_ask_195 : decode cX6_ask 195 = .ok (.iload 4, 2) := by decide +kernel
theorem dX6_ask_197 : decode cX6_ask 197 = .ok (.iconst 5, 1) := by decide +kernel
theorem dX6_ask_198 : decode cX6_ask 198 = .ok (.irem, 1) := by decide +kernel
theorem dX6_ask_199 : decode cX6_ask 199 = .ok (.aload_n 0, 1) := by decide +kernel
theorem dX6_ask_200 : decode cX6_ask 200 = .ok (.getfield 64, 3) := by decide +kernel
theorem dX6_ask_203 : decode cX6_ask 203 = .ok (.if_icmp .ge 21, 3) := by decide +kernel
theorem dX6_ask_206 : decode cX6_ask 206 = .ok (.aload_n 0, 1) := by decide +kernel
theorem dX6_ask_207 : decode cX6_ask 207 = .ok (.bipush 10, 2) := by decide +kernel
theorem dX6_ask_209 : decode cX6_ask 209 = .ok (.iload 4, 2) := by decide +kernel
theorem dX6_ask_211 : decode cX6_ask 211 = .ok (.iconst 5, 1) := by decide +kernel
theorem dX6_ask_212 : decode cX6_ask 212 = .ok (.idiv, 1) := by decide +kernel
theorem dX6_ask_213 : decode cX6_ask 213 = .ok (.imul, 1) := by decide +kernel
theorem dX6_ask_214 : decode cX6_ask 214 = .ok (.iload 4, 2) := by decide +kernel
theorem dX6_ask_216 : decode cX6_ask 216 = .ok (.iconst 5, 1) := by decide +kernel
theorem dX6_ask_217 : decode cX6_ask 217 = .ok (.irem, 1) := by decide +kernel
theorem dX6_ask_218 : decode cX6_ask 218 = .ok (.iadd, 1) := by decide +kernel
theorem dX6_ask_219 : decode cX6_ask 219 = .ok (.iload 5, 2) := by decide +kernel
theorem dX6_ask_221 : decode cX6_ask 221 = .ok (.invokevirtual 260, 3) := by decide +kernel
theorem dX6_ask_224 : decode cX6_ask 224 = .ok (.iinc 4 1, 3) := by decide +kernel
theorem dX6_ask_227 : decode cX6_ask 227 = .ok (.goto (-133), 3) := by decide +kernel
theorem dX6_ask_230 : decode cX6_ask 230 = .ok (.aload_n 0, 1) := by decide +kernel
theorem dX6_ask_231 : decode cX6_ask 231 = .ok (.iload_n 2, 1) := by decide +kernel
theorem dX6_ask_232 : decode cX6_ask 232 = .ok (.invokevirtual 264, 3) := by decide +kernel
theorem dX6_ask_235 : decode cX6_ask 235 = .ok (.ireturn, 1) := by decide +kernel
theorem dX6_drift_0 : decode cX6_drift 0 = .ok (.iload_n 2, 1) := by decide +kernel
theorem dX6_drift_1 : decode cX6_drift 1 = .ok (.i2l, 1) := by decide +kernel
theorem dX6_drift_2 : decode cX6_drift 2 = .ok (.lconst 1, 1) := by decide +kernel
theorem dX6_drift_3 : decode cX6_drift 3 = .ok (.ldc2_w 237, 3) := by decide +kernel
theorem dX6_drift_6 : decode cX6_drift 6 = .ok (.invokestatic 69, 3) := by decide +kernel
theorem dX6_drift_9 : decode cX6_drift 9 = .ok (.ifCond .eq 10, 3) := by decide +kernel
theorem dX6_drift_12 : decode cX6_drift 12 = .ok (.iload_n 3, 1) := by decide +kernel
theorem dX6_drift_13 : decode cX6_drift 13 = .ok (.invokestatic 251, 3) := by decide +kernel
theorem dX6_drift_16 : decode cX6_drift 16 = .ok (.ifCond .ne 5, 3) := by decide +kernel
theorem dX6_drift_19 : decode cX6_drift 19 = .ok (.iconst (-1), 1) := by decide +kernel
theorem dX6_drift_20 : decode cX6_drift 20 = .ok (.ireturn, 1) := by decide +kernel
theorem dX6_drift_21 : decode cX6_drift 21 = .ok (.aload_n 0, 1) := by decide +kernel
theorem dX6_drift_22 : decode cX6_drift 22 = .ok (.getfield 64, 3) := by decide +kernel
theorem dX6_drift_25 : decode cX6_drift 25 = .ok (.ifCond .ne 6, 3) := by decide +kernel
theorem dX6_drift_28 : decode cX6_drift 28 = .ok (.bipush (-2), 2) := by decide +kernel
theorem dX6_drift_30 : decode cX6_drift 30 = .ok (.ireturn, 1) := by decide +kernel
theorem dX6_drift_31 : decode cX6_drift 31 = .ok (.iload_n 1, 1) := by decide +kernel
theorem dX6_drift_32 : decode cX6_drift 32 = .ok (.istore 4, 2) := by decide +kernel
theorem dX6_drift_34 : decode cX6_drift 34 = .ok (.aload_n 0, 1) := by decide +kernel
theorem dX6_drift_35 : decode cX6_drift 35 = .ok (.invokevirtual 194, 3) := by decide +kernel
theorem dX6_drift_38 : decode cX6_drift 38 = .ok (.iconst 0, 1) := by decide +kernel
theorem dX6_drift_39 : decode cX6_drift 39 = .ok (.istore 5, 2) := by decide +kernel
theorem dX6_drift_41 : decode cX6_drift 41 = .ok (.iload 5, 2) := by decide +kernel
theorem dX6_drift_43 : decode cX6_drift 43 = .ok (.iload_n 2, 1) := by decide +kernel
theorem dX6_drift_44 : decode cX6_drift 44 = .ok (.if_icmp .ge 87, 3) := by decide +kernel
theorem dX6_drift_47 : decode cX6_drift 47 = .ok (.iload 4, 2) := by decide +kernel
theorem dX6_drift_49 : decode cX6_drift 49 = .ok (.ldc_w 306, 3) := by decide +kernel
theorem dX6_drift_52 : decode cX6_drift 52 = .ok (.imul, 1) := by decide +kernel
theorem dX6_drift_53 : decode cX6_drift 53 = .ok (.sipush 12345, 3) := by decide +kernel
theorem dX6_drift_56 : decode cX6_drift 56 = .ok (.iadd, 1) := by decide +kernel
theorem dX6_drift_57 : decode cX6_drift 57 = .ok (.istore 4, 2) := by decide +kernel
theorem dX6_drift_59 : decode cX6_drift 59 = .ok (.iload 4, 2) := by decide +kernel
theorem dX6_drift_61 : decode cX6_drift 61 = .ok (.bipush 16, 2) := by decide +kernel
theorem dX6_drift_63 : decode cX6_drift 63 = .ok (.ishr, 1) := by decide +kernel
theorem dX6_drift_64 : decode cX6_drift 64 = .ok (.sipush 32767, 3) := by decide +kernel
theorem dX6_drift_67 : decode cX6_drift 67 = .ok (.iand, 1) := by decide +kernel
theorem dX6_drift_68 : decode cX6_drift 68 = .ok (.istore 6, 2) := by decide +kernel
theorem dX6_drift_70 : decode cX6_drift 70 = .ok (.iload 6, 2) := by decide +kernel
theorem dX6_drift_72 : decode cX6_drift 72 = .ok (.aload_n 0, 1) := by decide +kernel
theorem dX6_drift_73 : decode cX6_drift 73 = .ok (.getfield 64, 3) := by decide +kernel
theorem dX6_drift_76 : decode cX6_drift 76 = .ok (.irem, 1) := by decide +kernel
theorem dX6_drift_77 : decode cX6_drift 77 = .ok (.istore 7, 2) := by decide +kernel
theorem dX6_drift_79 : decode cX6_drift 79 = .ok (.iload 6, 2) := by decide +kernel
theorem dX6_drift_81 : decode cX6_drift 81 = .ok (.bipush 8, 2) := by decide +kernel
theorem dX6_drift_83 : decode cX6_drift 83 = .ok (.idiv, 1) := by decide +kernel
theorem dX6_drift_84 : decode cX6_drift 84 = .ok (.aload_n 0, 1) := by decide +kernel
theorem dX6_drift_85 : decode cX6_drift 85 = .ok (.getfield 64, 3) := by decide +kernel
theorem dX6_drift_88 : decode cX6_drift 88 = .ok (.irem, 1) := by decide +kernel
theorem dX6_drift_89 : decode cX6_drift 89 = .ok (.istore 8, 2) := by decide +kernel
theorem dX6_drift_91 : decode cX6_drift 91 = .ok (.iload 7, 2) := by decide +kernel
theorem dX6_drift_93 : decode cX6_drift 93 = .ok (.iload 8, 2) := by decide +kernel
theorem dX6_drift_95 : decode cX6_drift 95 = .ok (.if_icmp .eq 25, 3) := by decide +kernel
theorem dX6_drift_98 : decode cX6_drift 98 = .ok (.aload_n 0, 1) := by decide +kernel
theorem dX6_drift_99 : decode cX6_drift 99 = .ok (.getfield 13, 3) := by decide +kernel
theorem dX6_drift_102 : decode cX6_drift 102 = .ok (.bipush 10, 2) := by decide +kernel
theorem dX6_drift_104 : decode cX6_drift 104 = .ok (.iconst 5, 1) := by decide +kernel
theorem dX6_drift_105 : decode cX6_drift 105 = .ok (.iload 7, 2) := by decide +kernel
theorem dX6_drift_107 : decode cX6_drift 107 = .ok (.imul, 1) := by decide +kernel
theorem dX6_drift_108 : decode cX6_drift 108 = .ok (.iadd, 1) := by decide +kernel
theorem dX6_drift_109 : decode cX6_drift 109 = .ok (.iload 8, 2) := by decide +kernel
theorem dX6_drift_111 : decode cX6_drift 111 = .ok (.iadd, 1) := by decide +kernel
theorem dX6_drift_112 : decode cX6_drift 112 = .ok (.iload 6, 2) := by decide +kernel
theorem dX6_drift_114 : decode cX6_drift 114 = .ok (.bipush 64, 2) := by decide +kernel
theorem dX6_drift_116 : decode cX6_drift 116 = .ok (.idiv, 1) := by decide +kernel
theorem dX6_drift_117 : decode cX6_drift 117 = .ok (.iconst 4, 1) := by decide +kernel
theorem dX6_drift_118 : decode cX6_drift 118 = .ok (.irem, 1) := by decide +kernel
theorem dX6_drift_119 : decode cX6_drift 119 = .ok (.iastore, 1) := by decide +kernel
theorem dX6_drift_120 : decode cX6_drift 120 = .ok (.aload_n 0, 1) := by decide +kernel
theorem dX6_drift_121 : decode cX6_drift 121 = .ok (.iconst 0, 1) := by decide +kernel
theorem dX6_drift_122 : decode cX6_drift 122 = .ok (.invokevirtual 190, 3) := by decide +kernel
theorem dX6_drift_125 : decode cX6_drift 125 = .ok (.iinc 5 1, 3) := by decide +kernel
theorem dX6_drift_128 : decode cX6_drift 128 = .ok (.goto (-87), 3) := by decide +kernel
theorem dX6_drift_131 : decode cX6_drift 131 = .ok (.iload_n 3, 1) := by decide +kernel
theorem dX6_drift_132 : decode cX6_drift 132 = .ok (.ifCond .ne 10, 3) := by decide +kernel
theorem dX6_drift_135 : decode cX6_drift 135 = .ok (.aload_n 0, 1) := by decide +kernel
theorem dX6_drift_136 : decode cX6_drift 136 = .ok (.invokevirtual 197, 3) := by decide +kernel
theorem dX6_drift_139 : decode cX6_drift 139 = .ok (.goto 7, 3) := by decide +kernel
theorem dX6_drift_142 : decode cX6_drift 142 = .ok (.aload_n 0, 1) := by decide +kernel
theorem dX6_drift_143 : decode cX6_drift 143 = .ok (.invokevirtual 234, 3) := by decide +kernel
theorem dX6_drift_146 : decode cX6_drift 146 = .ok (.ireturn, 1) := by decide +kernel
theorem dX6_copies_0 : decode cX6_copies 0 = .ok (.iconst 0, 1) := by decide +kernel
theorem dX6_copies_1 : decode cX6_copies 1 = .ok (.istore_n 3, 1) := by decide +kernel
theorem dX6_copies_2 : decode cX6_copies 2 = .ok (.iload_n 3, 1) := by decide +kernel
theorem dX6_copies_3 : decode cX6_copies 3 = .ok (.bipush 76, 2) := by decide +kernel
theorem dX6_copies_5 : decode cX6_copies 5 = .ok (.if_icmp .ge 25, 3) := by decide +kernel
theorem dX6_copies_8 : decode cX6_copies 8 = .ok (.aload_n 0, 1) := by decide +kernel
theorem dX6_copies_9 : decode cX6_copies 9 = .ok (.getfield 7, 3) := by decide +kernel
theorem dX6_copies_12 : decode cX6_copies 12 = .ok (.iload_n 1, 1) := by decide +kernel
theorem dX6_copies_13 : decode cX6_copies 13 = .ok (.iload_n 3, 1) := by decide +kernel
theorem dX6_copies_14 : decode cX6_copies 14 = .ok (.iadd, 1) := by decide +kernel
theorem dX6_copies_15 : decode cX6_copies 15 = .ok (.aload_n 0, 1) := by decide +kernel
theorem dX6_copies_16 : decode cX6_copies 16 = .ok (.getfield 7, 3) := by decide +kernel
theorem dX6_copies_19 : decode cX6_copies 19 = .ok (.iload_n 2, 1) := by decide +kernel
theorem dX6_copies_20 : decode cX6_copies 20 = .ok (.iload_n 3, 1) := by decide +kernel
theorem dX6_copies_21 : decode cX6_copies 21 = .ok (.iadd, 1) := by decide +kernel
theorem dX6_copies_22 : decode cX6_copies 22 = .ok (.iaload, 1) := by decide +kernel
theorem dX6_copies_23 : decode cX6_copies 23 = .ok (.iastore, 1) := by decide +kernel
theorem dX6_copies_24 : decode cX6_copies 24 = .ok (.iinc 3 1, 3) := by decide +kernel
theorem dX6_copies_27 : decode cX6_copies 27 = .ok (.goto (-25), 3) := by decide +kernel
theorem dX6_copies_30 : decode cX6_copies 30 = .ok (.return_, 1) := by decide +kernel
theorem dX6_keep_0 : decode cX6_keep 0 = .ok (.iload_n 1, 1) := by decide +kernel
theorem dX6_keep_1 : decode cX6_keep 1 = .ok (.i2l, 1) := by decide +kernel
theorem dX6_keep_2 : decode cX6_keep 2 = .ok (.lconst 0, 1) := by decide +kernel
theorem dX6_keep_3 : decode cX6_keep 3 = .ok (.lconst 1, 1) := by decide +kernel
theorem dX6_keep_4 : decode cX6_keep 4 = .ok (.invokestatic 69, 3) := by decide +kernel
theorem dX6_keep_7 : decode cX6_keep 7 = .ok (.ifCond .ne 5, 3) := by decide +kernel
theorem dX6_keep_10 : decode cX6_keep 10 = .ok (.iconst (-1), 1) := by decide +kernel
theorem dX6_keep_11 : decode cX6_keep 11 = .ok (.ireturn, 1) := by decide +kernel
theorem dX6_keep_12 : decode cX6_keep 12 = .ok (.aload_n 0, 1) := by decide +kernel
theorem dX6_keep_13 : decode cX6_keep 13 = .ok (.getfield 16, 3) := by decide +kernel
theorem dX6_keep_16 : decode cX6_keep 16 = .ok (.iload_n 1, 1) := by decide +kernel
theorem dX6_keep_17 : decode cX6_keep 17 = .ok (.baload, 1) := by decide +kernel
theorem dX6_keep_18 : decode cX6_keep 18 = .ok (.invokestatic 200, 3) := by decide +kernel
theorem dX6_keep_21 : decode cX6_keep 21 = .ok (.istore_n 2, 1) := by decide +kernel
theorem dX6_keep_22 : decode cX6_keep 22 = .ok (.aload_n 0, 1) := by decide +kernel
theorem dX6_keep_23 : decode cX6_keep 23 = .ok (.getfield 16, 3) := by decide +kernel
theorem dX6_keep_26 : decode cX6_keep 26 = .ok (.iload_n 1, 1) := by decide +kernel
theorem dX6_keep_27 : decode cX6_keep 27 = .ok (.iconst 1, 1) := by decide +kernel
theorem dX6_keep_28 : decode cX6_keep 28 = .ok (.bastore, 1) := by decide +kernel
theorem dX6_keep_29 : decode cX6_keep 29 = .ok (.aload_n 0, 1) := by decide +kernel
theorem dX6_keep_30 : decode cX6_keep 30 = .ok (.bipush 76, 2) := by decide +kernel
theorem dX6_keep_32 : decode cX6_keep 32 = .ok (.iload_n 1, 1) := by decide +kernel
theorem dX6_keep_33 : decode cX6_keep 33 = .ok (.iconst 1, 1) := by decide +kernel
theorem dX6_keep_34 : decode cX6_keep 34 = .ok (.iadd, 1) := by decide +kernel
theorem dX6_keep_35 : decode cX6_keep 35 = .ok (.imul, 1) := by decide +kernel
theorem dX6_keep_36 : decode cX6_keep 36 = .ok (.iconst 0, 1) := by decide +kernel
theorem dX6_keep_37 : decode cX6_keep 37 = .ok (.invokevirtual 307, 3) := by decide +kernel
theorem dX6_keep_40 : decode cX6_keep 40 = .ok (.iload_n 2, 1) := by decide +kernel
theorem dX6_keep_41 : decode cX6_keep 41 = .ok (.ireturn, 1) := by decide +kernel
theorem dX6_back_0 : decode cX6_back 0 = .ok (.iload_n 1, 1) := by decide +kernel
theorem dX6_back_1 : decode cX6_back 1 = .ok (.i2l, 1) := by decide +kernel
theorem dX6_back_2 : decode cX6_back 2 = .ok (.lconst 0, 1) := by decide +kernel
theorem dX6_back_3 : decode cX6_back 3 = .ok (.lconst 1, 1) := by decide +kernel
theorem dX6_back_4 : decode cX6_back 4 = .ok (.invokestatic 69, 3) := by decide +kernel
theorem dX6_back_7 : decode cX6_back 7 = .ok (.ifCond .ne 5, 3) := by decide +kernel
theorem dX6_back_10 : decode cX6_back 10 = .ok (.iconst (-1), 1) := by decide +kernel
theorem dX6_back_11 : decode cX6_back 11 = .ok (.ireturn, 1) := by decide +kernel
theorem dX6_back_12 : decode cX6_back 12 = .ok (.aload_n 0, 1) := by decide +kernel
theorem dX6_back_13 : decode cX6_back 13 = .ok (.getfield 16, 3) := by decide +kernel
theorem dX6_back_16 : decode cX6_back 16 = .ok (.iload_n 1, 1) := by decide +kernel
theorem dX6_back_17 : decode cX6_back 17 = .ok (.baload, 1) := by decide +kernel
theorem dX6_back_18 : decode cX6_back 18 = .ok (.ifCond .ne 6, 3) := by decide +kernel
theorem dX6_back_21 : decode cX6_back 21 = .ok (.bipush (-2), 2) := by decide +kernel
theorem dX6_back_23 : decode cX6_back 23 = .ok (.ireturn, 1) := by decide +kernel
theorem dX6_back_24 : decode cX6_back 24 = .ok (.aload_n 0, 1) := by decide +kernel
theorem dX6_back_25 : decode cX6_back 25 = .ok (.iconst 0, 1) := by decide +kernel
theorem dX6_back_26 : decode cX6_back 26 = .ok (.bipush 76, 2) := by decide +kernel
theorem dX6_back_28 : decode cX6_back 28 = .ok (.iload_n 1, 1) := by decide +kernel
theorem dX6_back_29 : decode cX6_back 29 = .ok (.iconst 1, 1) := by decide +kernel
theorem dX6_back_30 : decode cX6_back 30 = .ok (.iadd, 1) := by decide +kernel
theorem dX6_back_31 : decode cX6_back 31 = .ok (.imul, 1) := by decide +kernel
theorem dX6_back_32 : decode cX6_back 32 = .ok (.invokevirtual 307, 3) := by decide +kernel
theorem dX6_back_35 : decode cX6_back 35 = .ok (.aload_n 0, 1) := by decide +kernel
theorem dX6_back_36 : decode cX6_back 36 = .ok (.getfield 7, 3) := by decide +kernel
theorem dX6_back_39 : decode cX6_back 39 = .ok (.bipush 54, 2) := by decide +kernel
theorem dX6_back_41 : decode cX6_back 41 = .ok (.iaload, 1) := by decide +kernel
theorem dX6_back_42 : decode cX6_back 42 = .ok (.ireturn, 1) := by decide +kernel
theorem dX6_isSheet_0 : decode cX6_isSheet 0 = .ok (.iload_n 0, 1) := by decide +kernel
theorem dX6_isSheet_1 : decode cX6_isSheet 1 = .ok (.i2l, 1) := by decide +kernel
theorem dX6_isSheet_2 : decode cX6_isSheet 2 = .ok (.lconst 0, 1) := by decide +kernel
theorem dX6_isSheet_3 : decode cX6_isSheet 3 = .ok (.ldc2_w 215, 3) := by decide +kernel
theorem dX6_isSheet_6 : decode cX6_isSheet 6 = .ok (.invokestatic 69, 3) := by decide +kernel
theorem dX6_isSheet_9 : decode cX6_isSheet 9 = .ok (.ifCond .eq 19, 3) := by decide +kernel
theorem dX6_isSheet_12 : decode cX6_isSheet 12 = .ok (.iload_n 1, 1) := by decide +kernel
theorem dX6_isSheet_13 : decode cX6_isSheet 13 = .ok (.i2l, 1) := by decide +kernel
theorem dX6_isSheet_14 : decode cX6_isSheet 14 = .ok (.lconst 0, 1) := by decide +kernel
theorem dX6_isSheet_15 : decode cX6_isSheet 15 = .ok (.ldc2_w 213, 3) := by decide +kernel
theorem dX6_isSheet_18 : decode cX6_isSheet 18 = .ok (.invokestatic 69, 3) := by decide +kernel
theorem dX6_isSheet_21 : decode cX6_isSheet 21 = .ok (.ifCond .eq 7, 3) := by decide +kernel
theorem dX6_isSheet_24 : decode cX6_isSheet 24 = .ok (.iconst 1, 1) := by decide +kernel
theorem dX6_isSheet_25 : decode cX6_isSheet 25 = .ok (.goto 4, 3) := by decide +kernel
theorem dX6_isSheet_28 : decode cX6_isSheet 28 = .ok (.iconst 0, 1) := by decide +kernel
theorem dX6_isSheet_29 : decode cX6_isSheet 29 = .ok (.ireturn, 1) := by decide +kernel
theorem dX6_sheet_0 : decode cX6_sheet 0 = .ok (.iload_n 1, 1) := by decide +kernel
theorem dX6_sheet_1 : decode cX6_sheet 1 = .ok (.iload_n 2, 1) := by decide +kernel
theorem dX6_sheet_2 : decode cX6_sheet 2 = .ok (.invokestatic 310, 3) := by decide +kernel
theorem dX6_sheet_5 : decode cX6_sheet 5 = .ok (.ifCond .eq 9, 3) := by decide +kernel
theorem dX6_sheet_8 : decode cX6_sheet 8 = .ok (.iload_n 3, 1) := by decide +kernel
theorem dX6_sheet_9 : decode cX6_sheet 9 = .ok (.bipush 40, 2) := by decide +kernel
theorem dX6_sheet_11 : decode cX6_sheet 11 = .ok (.if_icmp .le 5, 3) := by decide +kernel
theorem dX6_sheet_14 : decode cX6_sheet 14 = .ok (.iconst (-1), 1) := by decide +kernel
theorem dX6_sheet_15 : decode cX6_sheet 15 = .ok (.ireturn, 1) := by decide +kernel
theorem dX6_sheet_16 : decode cX6_sheet 16 = .ok (.iload_n 3, 1) := by decide +kernel
theorem dX6_sheet_17 : decode cX6_sheet 17 = .ok (.ifCond .ge 6, 3) := by decide +kernel
theorem dX6_sheet_20 : decode cX6_sheet 20 = .ok (.bipush (-14), 2) := by decide +kernel
theorem dX6_sheet_22 : decode cX6_sheet 22 = .ok (.ireturn, 1) := by decide +kernel
theorem dX6_sheet_23 : decode cX6_sheet 23 = .ok (.aload_n 0, 1) := by decide +kernel
theorem dX6_sheet_24 : decode cX6_sheet 24 = .ok (.getfield 32, 3) := by decide +kernel
theorem dX6_sheet_27 : decode cX6_sheet 27 = .ok (.iload_n 1, 1) := by decide +kernel
theorem dX6_sheet_28 : decode cX6_sheet 28 = .ok (.iload_n 2, 1) := by decide +kernel
theorem dX6_sheet_29 : decode cX6_sheet 29 = .ok (.iastore, 1) := by decide +kernel
theorem dX6_sheet_30 : decode cX6_sheet 30 = .ok (.aload_n 0, 1) := by decide +kernel
theorem dX6_sheet_31 : decode cX6_sheet 31 = .ok (.getfield 35, 3) := by decide +kernel
theorem dX6_sheet_34 : decode cX6_sheet 34 = .ok (.iload_n 1, 1) := by decide +kernel
theorem dX6_sheet_35 : decode cX6_sheet 35 = .ok (.iload_n 3, 1) := by decide +kernel
theorem dX6_sheet_36 : decode cX6_sheet 36 = .ok (.iastore, 1) := by decide +kernel
theorem dX6_sheet_37 : decode cX6_sheet 37 = .ok (.iconst 0, 1) := by decide +kernel
theorem dX6_sheet_38 : decode cX6_sheet 38 = .ok (.istore 4, 2) := by decide +kernel
theorem dX6_sheet_40 : decode cX6_sheet 40 = .ok (.iload 4, 2) := by decide +kernel
theorem dX6_sheet_42 : decode cX6_sheet 42 = .ok (.bipush 40, 2) := by decide +kernel
theorem dX6_sheet_44 : decode cX6_sheet 44 = .ok (.if_icmp .ge 22, 3) := by decide +kernel
theorem dX6_sheet_47 : decode cX6_sheet 47 = .ok (.aload_n 0, 1) := by decide +kernel
theorem dX6_sheet_48 : decode cX6_sheet 48 = .ok (.getfield 38, 3) := by decide +kernel
theorem dX6_sheet_51 : decode cX6_sheet 51 = .ok (.bipush 40, 2) := by decide +kernel
theorem dX6_sheet_53 : decode cX6_sheet 53 = .ok (.iload_n 1, 1) := by decide +kernel
theorem dX6_sheet_54 : decode cX6_sheet 54 = .ok (.imul, 1) := by decide +kernel
theorem dX6_sheet_55 : decode cX6_sheet 55 = .ok (.iload 4, 2) := by decide +kernel
theorem dX6_sheet_57 : decode cX6_sheet 57 = .ok (.iadd, 1) := by decide +kernel
theorem dX6_sheet_58 : decode cX6_sheet 58 = .ok (.iconst 0, 1) := by decide +kernel
theorem dX6_sheet_59 : decode cX6_sheet 59 = .ok (.iastore, 1) := by decide +kernel
theorem dX6_sheet_60 : decode cX6_sheet 60 = .ok (.iinc 4 1, 3) := by decide +kernel
theorem dX6_sheet_63 : decode cX6_sheet 63 = .ok (.goto (-23), 3) := by decide +kernel
theorem dX6_sheet_66 : decode cX6_sheet 66 = .ok (.iconst 1, 1) := by decide +kernel
theorem dX6_sheet_67 : decode cX6_sheet 67 = .ok (.ireturn, 1) := by decide +kernel
theorem dX6_lay_0 : decode cX6_lay 0 = .ok (.iload_n 1, 1) := by decide +kernel
theorem dX6_lay_1 : decode cX6_lay 1 = .ok (.iconst 0, 1) := by decide +kernel
theorem dX6_lay_2 : decode cX6_lay 2 = .ok (.invokestatic 310, 3) := by decide +kernel
theorem dX6_lay_5 : decode cX6_lay 5 = .ok (.ifCond .ne 5, 3) := by decide +kernel
theorem dX6_lay_8 : decode cX6_lay 8 = .ok (.iconst (-1), 1) := by decide +kernel
theorem dX6_lay_9 : decode cX6_lay 9 = .ok (.ireturn, 1) := by decide +kernel
theorem dX6_lay_10 : decode cX6_lay 10 = .ok (.aload_n 0, 1) := by decide +kernel
theorem dX6_lay_11 : decode cX6_lay 11 = .ok (.getfield 32, 3) := by decide +kernel
theorem dX6_lay_14 : decode cX6_lay 14 = .ok (.iload_n 1, 1) := by decide +kernel
theorem dX6_lay_15 : decode cX6_lay 15 = .ok (.iaload, 1) := by decide +kernel
theorem dX6_lay_16 : decode cX6_lay 16 = .ok (.bipush (-4), 2) := by decide +kernel
theorem dX6_lay_18 : decode cX6_lay 18 = .ok (.if_icmp .ne 6, 3) := by decide +kernel
theorem dX6_lay_21 : decode cX6_lay 21 = .ok (.bipush (-11), 2) := by decide +kernel
theorem dX6_lay_23 : decode cX6_lay 23 = .ok (.ireturn, 1) := by decide +kernel
theorem dX6_lay_24 : decode cX6_lay 24 = .ok (.iload_n 2, 1) := by decide +kernel
theorem dX6_lay_25 : decode cX6_lay 25 = .ok (.i2l, 1) := by decide +kernel
theorem dX6_lay_26 : decode cX6_lay 26 = .ok (.lconst 0, 1) := by decide +kernel
theorem dX6_lay_27 : decode cX6_lay 27 = .ok (.aload_n 0, 1) := by decide +kernel
theorem dX6_lay_28 : decode cX6_lay 28 = .ok (.getfield 35, 3) := by decide +kernel
theorem dX6_lay_31 : decode cX6_lay 31 = .ok (.iload_n 1, 1) := by decide +kernel
theorem dX6_lay_32 : decode cX6_lay 32 = .ok (.iaload, 1) := by decide +kernel
theorem dX6_lay_33 : decode cX6_lay 33 = .ok (.iconst 1, 1) := by decide +kernel
theorem dX6_lay_34 : decode cX6_lay 34 = .ok (.isub, 1) := by decide +kernel
theorem dX6_lay_35 : decode cX6_lay 35 = .ok (.i2l, 1) := by decide +kernel
theorem dX6_lay_36 : decode cX6_lay 36 = .ok (.invokestatic 69, 3) := by decide +kernel
theorem dX6_lay_39 : decode cX6_lay 39 = .ok (.ifCond .ne 6, 3) := by decide +kernel
theorem dX6_lay_42 : decode cX6_lay 42 = .ok (.bipush (-12), 2) := by decide +kernel
theorem dX6_lay_44 : decode cX6_lay 44 = .ok (.ireturn, 1) := by decide +kernel
theorem dX6_lay_45 : decode cX6_lay 45 = .ok (.aload_n 0, 1) := by decide +kernel
theorem dX6_lay_46 : decode cX6_lay 46 = .ok (.getfield 38, 3) := by decide +kernel
theorem dX6_lay_49 : decode cX6_lay 49 = .ok (.bipush 40, 2) := by decide +kernel
theorem dX6_lay_51 : decode cX6_lay 51 = .ok (.iload_n 1, 1) := by decide +kernel
theorem dX6_lay_52 : decode cX6_lay 52 = .ok (.imul, 1) := by decide +kernel
theorem dX6_lay_53 : decode cX6_lay 53 = .ok (.iload_n 2, 1) := by decide +kernel
theorem dX6_lay_54 : decode cX6_lay 54 = .ok (.iadd, 1) := by decide +kernel
theorem dX6_lay_55 : decode cX6_lay 55 = .ok (.aload_n 0, 1) := by decide +kernel
theorem dX6_lay_56 : decode cX6_lay 56 = .ok (.getfield 32, 3) := by decide +kernel
theorem dX6_lay_59 : decode cX6_lay 59 = .ok (.iload_n 1, 1) := by decide +kernel
theorem dX6_lay_60 : decode cX6_lay 60 = .ok (.iaload, 1) := by decide +kernel
theorem dX6_lay_61 : decode cX6_lay 61 = .ok (.ifCond .ne 8, 3) := by decide +kernel
theorem dX6_lay_64 : decode cX6_lay 64 = .ok (.iload_n 3, 1) := by decide +kernel
theorem dX6_lay_65 : decode cX6_lay 65 = .ok (.i2b, 1) := by decide +kernel
theorem dX6_lay_66 : decode cX6_lay 66 = .ok (.goto 19, 3) := by decide +kernel
theorem dX6_lay_69 : decode cX6_lay 69 = .ok (.aload_n 0, 1) := by decide +kernel
theorem dX6_lay_70 : decode cX6_lay 70 = .ok (.getfield 32, 3) := by decide +kernel
theorem dX6_lay_73 : decode cX6_lay 73 = .ok (.iload_n 1, 1) := by decide +kernel
theorem dX6_lay_74 : decode cX6_lay 74 = .ok (.iaload, 1) := by decide +kernel
theorem dX6_lay_75 : decode cX6_lay 75 = .ok (.iconst 1, 1) := by decide +kernel
theorem dX6_lay_76 : decode cX6_lay 76 = .ok (.if_icmp .ne 8, 3) := by decide +kernel
theorem dX6_lay_79 : decode cX6_lay 79 = .ok (.iload_n 3, 1) := by decide +kernel
theorem dX6_lay_80 : decode cX6_lay 80 = .ok (.i2s, 1) := by decide +kernel
theorem dX6_lay_81 : decode cX6_lay 81 = .ok (.goto 4, 3) := by decide +kernel
theorem dX6_lay_84 : decode cX6_lay 84 = .ok (.iload_n 3, 1) := by decide +kernel
theorem dX6_lay_85 : decode cX6_lay 85 = .ok (.iastore, 1) := by decide +kernel
theorem dX6_lay_86 : decode cX6_lay 86 = .ok (.iconst 1, 1) := by decide +kernel
theorem dX6_lay_87 : decode cX6_lay 87 = .ok (.ireturn, 1) := by decide +kernel
theorem dX6_read_0 : decode cX6_read 0 = .ok (.iload_n 1, 1) := by decide +kernel
theorem dX6_read_1 : decode cX6_read 1 = .ok (.iload_n 2, 1) := by decide +kernel
theorem dX6_read_2 : decode cX6_read 2 = .ok (.invokestatic 310, 3) := by decide +kernel
theorem dX6_read_5 : decode cX6_read 5 = .ok (.ifCond .eq 16, 3) := by decide +kernel
theorem dX6_read_8 : decode cX6_read 8 = .ok (.iload 4, 2) := by decide +kernel
theorem dX6_read_10 : decode cX6_read 10 = .ok (.i2l, 1) := by decide +kernel
theorem dX6_read_11 : decode cX6_read 11 = .ok (.lconst 0, 1) := by decide +kernel
theorem dX6_read_12 : decode cX6_read 12 = .ok (.ldc2_w 313, 3) := by decide +kernel
theorem dX6_read_15 : decode cX6_read 15 = .ok (.invokestatic 69, 3) := by decide +kernel
theorem dX6_read_18 : decode cX6_read 18 = .ok (.ifCond .ne 5, 3) := by decide +kernel
theorem dX6_read_21 : decode cX6_read 21 = .ok (.iconst (-1), 1) := by decide +kernel
theorem dX6_read_22 : decode cX6_read 22 = .ok (.ireturn, 1) := by decide +kernel
theorem dX6_read_23 : decode cX6_read 23 = .ok (.iconst 0, 1) := by decide +kernel
theorem dX6_read_24 : decode cX6_read 24 = .ok (.istore 5, 2) := by decide +kernel
theorem dX6_read_26 : decode cX6_read 26 = .ok (.iload 5, 2) := by decide +kernel
theorem dX6_read_28 : decode cX6_read 28 = .ok (.bipush 76, 2) := by decide +kernel
theorem dX6_read_30 : decode cX6_read 30 = .ok (.if_icmp .ge 23, 3) := by decide +kernel
theorem dX6_read_33 : decode cX6_read 33 = .ok (.aload_n 0, 1) := by decide +kernel
theorem dX6_read_34 : decode cX6_read 34 = .ok (.getfield 41, 3) := by decide +kernel
theorem dX6_read_37 : decode cX6_read 37 = .ok (.iload 5, 2) := by decide +kernel
theorem dX6_read_39 : decode cX6_read 39 = .ok (.aload_n 0, 1) := by decide +kernel
theorem dX6_read_40 : decode cX6_read 40 = .ok (.getfield 7, 3) := by decide +kernel
theorem dX6_read_43 : decode cX6_read 43 = .ok (.iload 5, 2) := by decide +kernel
theorem dX6_read_45 : decode cX6_read 45 = .ok (.iaload, 1) := by decide +kernel
theorem dX6_read_46 : decode cX6_read 46 = .ok (.iastore, 1) := by decide +kernel
theorem dX6_read_47 : decode cX6_read 47 = .ok (.iinc 5 1, 3) := by decide +kernel
theorem dX6_read_50 : decode cX6_read 50 = .ok (.goto (-24), 3) := by decide +kernel
theorem dX6_read_53 : decode cX6_read 53 = .ok (.iconst 0, 1) := by decide +kernel
theorem dX6_read_54 : decode cX6_read 54 = .ok (.istore 5, 2) := by decide +kernel
theorem dX6_read_56 : decode cX6_read 56 = .ok (.iconst 0, 1) := by decide +kernel
theorem dX6_read_57 : decode cX6_read 57 = .ok (.istore 6, 2) := by decide +kernel
theorem dX6_read_59 : decode cX6_read 59 = .ok (.iconst 0, 1) := by decide +kernel
theorem dX6_read_60 : decode cX6_read 60 = .ok (.istore 7, 2) := by decide +kernel
theorem dX6_read_62 : decode cX6_read 62 = .ok (.iload 7, 2) := by decide +kernel
theorem dX6_read_64 : decode cX6_read 64 = .ok (.iload 4, 2) := by decide +kernel
theorem dX6_read_66 : decode cX6_read 66 = .ok (.if_icmp .ge 193, 3) := by decide +kernel
theorem dX6_read_69 : decode cX6_read 69 = .ok (.iload 5, 2) := by decide +kernel
theorem dX6_read_71 : decode cX6_read 71 = .ok (.ifCond .ne 188, 3) := by decide +kernel
theorem dX6_read_74 : decode cX6_read 74 = .ok (.iconst 0, 1) := by decide +kernel
theorem dX6_read_75 : decode cX6_read 75 = .ok (.istore 8, 2) := by decide +kernel
theorem dX6_read_77 : decode cX6_read 77 = .ok (.iload 8, 2) := by decide +kernel
theorem dX6_read_79 : decode cX6_read 79 = .ok (.iconst 3, 1) := by decide +kernel
theorem dX6_read_80 : decode cX6_read 80 = .ok (.if_icmp .ge 84, 3) := by decide +kernel
theorem dX6_read_83 : decode cX6_read 83 = .ok (.iload 5, 2) := by decide +kernel
theorem dX6_read_85 : decode cX6_read 85 = .ok (.ifCond .ne 79, 3) := by decide +kernel
theorem dX6_read_88 : decode cX6_read 88 = .ok (.iload_n 3, 1) := by decide +kernel
theorem dX6_read_89 : decode cX6_read 89 = .ok (.i2l, 1) := by decide +kernel
theorem dX6_read_90 : decode cX6_read 90 = .ok (.iconst 3, 1) := by decide +kernel
theorem dX6_read_91 : decode cX6_read 91 = .ok (.iload 7, 2) := by decide +kernel
theorem dX6_read_93 : decode cX6_read 93 = .ok (.imul, 1) := by decide +kernel
theorem dX6_read_94 : decode cX6_read 94 = .ok (.i2l, 1) := by decide +kernel
theorem dX6_read_95 : decode cX6_read 95 = .ok (.ladd, 1) := by decide +kernel
theorem dX6_read_96 : decode cX6_read 96 = .ok (.iload 8, 2) := by decide +kernel
theorem dX6_read_98 : decode cX6_read 98 = .ok (.i2l, 1) := by decide +kernel
theorem dX6_read_99 : decode cX6_read 99 = .ok (.ladd, 1) := by decide +kernel
theorem dX6_read_100 : decode cX6_read 100 = .ok (.lstore 9, 2) := by decide +kernel
theorem dX6_read_102 : decode cX6_read 102 = .ok (.aload_n 0, 1) := by decide +kernel
theorem dX6_read_103 : decode cX6_read 103 = .ok (.getfield 32, 3) := by decide +kernel
theorem dX6_read_106 : decode cX6_read 106 = .ok (.iload_n 1, 1) := by decide +kernel
theorem dX6_read_107 : decode cX6_read 107 = .ok (.iaload, 1) := by decide +kernel
theorem dX6_read_108 : decode cX6_read 108 = .ok (.bipush (-4), 2) := by decide +kernel
theorem dX6_read_110 : decode cX6_read 110 = .ok (.if_icmp .ne 7, 3) := by decide +kernel
theorem dX6_read_113 : decode cX6_read 113 = .ok (.iconst 1, 1) := by decide +kernel
theorem dX6_read_114 : decode cX6_read 114 = .ok (.goto 42, 3) := by decide +kernel
theorem dX6_read_117 : decode cX6_read 117 = .ok (.aload_n 0, 1) := by decide +kernel
theorem dX6_read_118 : decode cX6_read 118 = .ok (.getfield 32, 3) := by decide +kernel
theorem dX6_read_121 : decode cX6_read 121 = .ok (.iload_n 1, 1) := by decide +kernel
theorem dX6_read_122 : decode cX6_read 122 = .ok (.iaload, 1) := by decide +kernel
theorem dX6_read_123 : decode cX6_read 123 = .ok (.iload_n 2, 1) := by decide +kernel
theorem dX6_read_124 : decode cX6_read 124 = .ok (.if_icmp .eq 7, 3) := by decide +kernel
theorem dX6_read_127 : decode cX6_read 127 = .ok (.iconst 3, 1) := by decide +kernel
theorem dX6_read_128 : decode cX6_read 128 = .ok (.goto 28, 3) := by decide +kernel
theorem dX6_read_131 : decode cX6_read 131 = .ok (.lload 9, 2) := by decide +kernel
theorem dX6_read_133 : decode cX6_read 133 = .ok (.lconst 0, 1) := by decide +kernel
theorem dX6_read_134 : decode cX6_read 134 = .ok (.lcmp, 1) := by decide +kernel
theorem dX6_read_135 : decode cX6_read 135 = .ok (.ifCond .lt 16, 3) := by decide +kernel
theorem dX6_read_138 : decode cX6_read 138 = .ok (.lload 9, 2) := by decide +kernel
theorem dX6_read_140 : decode cX6_read 140 = .ok (.aload_n 0, 1) := by decide +kernel
theorem dX6_read_141 : decode cX6_read 141 = .ok (.getfield 35, 3) := by decide +kernel
theorem dX6_read_144 : decode cX6_read 144 = .ok (.iload_n 1, 1) := by decide +kernel
theorem dX6_read_145 : decode cX6_read 145 = .ok (.iaload, 1) := by decide +kernel
theorem dX6_read_146 : decode cX6_read 146 = .ok (.i2l, 1) := by decide +kernel
theorem dX6_read_147 : decode cX6_read 147 = .ok (.lcmp, 1) := by decide +kernel
theorem dX6_read_148 : decode cX6_read 148 = .ok (.ifCond .lt 7, 3) := by decide +kernel
theorem dX6_read_151 : decode cX6_read 151 = .ok (.iconst 2, 1) := by decide +kernel
theorem dX6_read_152 : decode cX6_read 152 = .ok (.goto 4, 3) := by decide +kernel
theorem dX6_read_155 : decode cX6_read 155 = .ok (.iconst 0, 1) := by decide +kernel
theorem dX6_read_156 : decode cX6_read 156 = .ok (.istore 5, 2) := by decide +kernel
theorem dX6_read_158 : decode cX6_read 158 = .ok (.iinc 8 1, 3) := by decide +kernel
theorem dX6_read_161 : decode cX6_read 161 = .ok (.goto (-84), 3) := by decide +kernel
theorem dX6_read_164 : decode cX6_read 164 = .ok (.iload 5, 2) := by decide +kernel
theorem dX6_read_166 : decode cX6_read 166 = .ok (.ifCond .ne 87, 3) := by decide +kernel
theorem dX6_read_169 : decode cX6_read 169 = .ok (.bipush 40, 2) := by decide +kernel
theorem dX6_read_171 : decode cX6_read 171 = .ok (.iload_n 1, 1) := by decide +kernel
theorem dX6_read_172 : decode cX6_read 172 = .ok (.imul, 1) := by decide +kernel
theorem dX6_read_173 : decode cX6_read 173 = .ok (.iload_n 3, 1) := by decide +kernel
theorem dX6_read_174 : decode cX6_read 174 = .ok (.iadd, 1) := by decide +kernel
theorem dX6_read_175 : decode cX6_read 175 = .ok (.iconst 3, 1) := by decide +kernel
theorem dX6_read_176 : decode cX6_read 176 = .ok (.iload 7, 2) := by decide +kernel
theorem dX6_read_178 : decode cX6_read 178 = .ok (.imul, 1) := by decide +kernel
theorem dX6_read_179 : decode cX6_read 179 = .ok (.iadd, 1) := by decide +kernel
theorem dX6_read_180 : decode cX6_read 180 = .ok (.istore 8, 2) := by decide +kernel
theorem dX6_read_182 : decode cX6_read 182 = .ok (.aload_n 0, 1) := by decide +kernel
theorem dX6_read_183 : decode cX6_read 183 = .ok (.aload_n 0, 1) := by decide +kernel
theorem dX6_read_184 : decode cX6_read 184 = .ok (.getfield 38, 3) := by decide +kernel
theorem dX6_read_187 : decode cX6_read 187 = .ok (.iload 8, 2) := by decide +kernel
theorem dX6_read_189 : decode cX6_read 189 = .ok (.iaload, 1) := by decide +kernel
theorem dX6_read_190 : decode cX6_read 190 = .ok (.aload_n 0, 1) := by decide +kernel
theorem dX6_read_191 : decode cX6_read 191 = .ok (.getfield 38, 3) := by decide +kernel
theorem dX6_read_194 : decode cX6_read 194 = .ok (.iload 8, 2) := by decide +kernel
theorem dX6_read_196 : decode cX6_read 196 = .ok (.iconst 1, 1) := by decide +kernel
theorem dX6_read_197 : decode cX6_read 197 = .ok (.iadd, 1) := by decide +kernel
theorem dX6_read_198 : decode cX6_read 198 = .ok (.iaload, 1) := by decide +kernel
theorem dX6_read_199 : decode cX6_read 199 = .ok (.aload_n 0, 1) := by decide +kernel
theorem dX6_read_200 : decode cX6_read 200 = .ok (.getfield 38, 3) := by decide +kernel
theorem dX6_read_203 : decode cX6_read 203 = .ok (.iload 8, 2) := by decide +kernel
theorem dX6_read_205 : decode cX6_read 205 = .ok (.iconst 2, 1) := by decide +kernel
theorem dX6_read_206 : decode cX6_read 206 = .ok (.iadd, 1) := by decide +kernel
theorem dX6_read_207 : decode cX6_read 207 = .ok (.iaload, 1) := by decide +kernel
theorem dX6_read_208 : decode cX6_read 208 = .ok (.invokevirtual 315, 3) := by decide +kernel
theorem dX6_read_211 : decode cX6_read 211 = .ok (.ifCond .ge 39, 3) := by decide +kernel
theorem dX6_read_214 : decode cX6_read 214 = .ok (.iconst 0, 1) := by decide +kernel
theorem dX6_read_215 : decode cX6_read 215 = .ok (.istore 9, 2) := by decide +kernel
theorem dX6_read_217 : decode cX6_read 217 = .ok (.iload 9, 2) := by decide +kernel
theorem dX6_read_219 : decode cX6_read 219 = .ok (.bipush 76, 2) := by decide +kernel
theorem dX6_read_221 : decode cX6_read 221 = .ok (.if_icmp .ge 23, 3) := by decide +kernel
theorem dX6_read_224 : decode cX6_read 224 = .ok (.aload_n 0, 1) := by decide +kernel
theorem dX6_read_225 : decode cX6_read 225 = .ok (.getfield 7, 3) := by decide +kernel
theorem dX6_read_228 : decode cX6_read 228 = .ok (.iload 9, 2) := by decide +kernel
theorem dX6_read_230 : decode cX6_read 230 = .ok (.aload_n 0, 1) := by decide +kernel
theorem dX6_read_231 : decode cX6_read 231 = .ok (.getfield 41, 3) := by decide +kernel
theorem dX6_read_234 : decode cX6_read 234 = .ok (.iload 9, 2) := by decide +kernel
theorem dX6_read_236 : decode cX6_read 236 = .ok (.iaload, 1) := by decide +kernel
theorem dX6_read_237 : decode cX6_read 237 = .ok (.iastore, 1) := by decide +kernel
theorem dX6_read_238 : decode cX6_read 238 = .ok (.iinc 9 1, 3) := by decide +kernel
theorem dX6_read_241 : decode cX6_read 241 = .ok (.goto (-24), 3) := by decide +kernel
theorem dX6_read_244 : decode cX6_read 244 = .ok (.bipush (-20), 2) := by decide +kernel
theorem dX6_read_246 : decode cX6_read 246 = .ok (.iload 7, 2) := by decide +kernel
theorem dX6_read_248 : decode cX6_read 248 = .ok (.isub, 1) := by decide +kernel
theorem dX6_read_249 : decode cX6_read 249 = .ok (.ireturn, 1) := by decide +kernel
theorem dX6_read_250 : decode cX6_read 250 = .ok (.iinc 6 1, 3) := by decide +kernel
theorem dX6_read_253 : decode cX6_read 253 = .ok (.iinc 7 1, 3) := by decide +kernel
theorem dX6_read_256 : decode cX6_read 256 = .ok (.goto (-194), 3) := by decide +kernel
theorem dX6_read_259 : decode cX6_read 259 = .ok (.aload_n 0, 1) := by decide +kernel
theorem dX6_read_260 : decode cX6_read 260 = .ok (.iload 5, 2) := by decide +kernel
theorem dX6_read_262 : decode cX6_read 262 = .ok (.putfield 319, 3) := by decide +kernel
theorem dX6_read_265 : decode cX6_read 265 = .ok (.iload 6, 2) := by decide +kernel
theorem dX6_read_267 : decode cX6_read 267 = .ok (.ireturn, 1) := by decide +kernel
theorem dX6_torn_0 : decode cX6_torn 0 = .ok (.aload_n 0, 1) := by decide +kernel
theorem dX6_torn_1 : decode cX6_torn 1 = .ok (.getfield 319, 3) := by decide +kernel
theorem dX6_torn_4 : decode cX6_torn 4 = .ok (.ireturn, 1) := by decide +kernel
theorem dX6_count_0 : decode cX6_count 0 = .ok (.iconst 0, 1) := by decide +kernel
theorem dX6_count_1 : decode cX6_count 1 = .ok (.istore_n 2, 1) := by decide +kernel
theorem dX6_count_2 : decode cX6_count 2 = .ok (.iconst 0, 1) := by decide +kernel
theorem dX6_count_3 : decode cX6_count 3 = .ok (.istore_n 3, 1) := by decide +kernel
theorem dX6_count_4 : decode cX6_count 4 = .ok (.iconst 0, 1) := by decide +kernel
theorem dX6_count_5 : decode cX6_count 5 = .ok (.istore 4, 2) := by decide +kernel
theorem dX6_count_7 : decode cX6_count 7 = .ok (.iload 4, 2) := by decide +kernel
theorem dX6_count_9 : decode cX6_count 9 = .ok (.aload_n 0, 1) := by decide +kernel
theorem dX6_count_10 : decode cX6_count 10 = .ok (.getfield 7, 3) := by decide +kernel
theorem dX6_count_13 : decode cX6_count 13 = .ok (.bipush 53, 2) := by decide +kernel
theorem dX6_count_15 : decode cX6_count 15 = .ok (.iaload, 1) := by decide +kernel
theorem dX6_count_16 : decode cX6_count 16 = .ok (.if_icmp .ge 26, 3) := by decide +kernel
theorem dX6_count_19 : decode cX6_count 19 = .ok (.iload_n 2, 1) := by decide +kernel
theorem dX6_count_20 : decode cX6_count 20 = .ok (.aload_n 0, 1) := by decide +kernel
theorem dX6_count_21 : decode cX6_count 21 = .ok (.getfield 7, 3) := by decide +kernel
theorem dX6_count_24 : decode cX6_count 24 = .ok (.bipush 35, 2) := by decide +kernel
theorem dX6_count_26 : decode cX6_count 26 = .ok (.iconst 3, 1) := by decide +kernel
theorem dX6_count_27 : decode cX6_count 27 = .ok (.iload 4, 2) := by decide +kernel
theorem dX6_count_29 : decode cX6_count 29 = .ok (.imul, 1) := by decide +kernel
theorem dX6_count_30 : decode cX6_count 30 = .ok (.iadd, 1) := by decide +kernel
theorem dX6_count_31 : decode cX6_count 31 = .ok (.iconst 2, 1) := by decide +kernel
theorem dX6_count_32 : decode cX6_count 32 = .ok (.iadd, 1) := by decide +kernel
theorem dX6_count_33 : decode cX6_count 33 = .ok (.iaload, 1) := by decide +kernel
theorem dX6_count_34 : decode cX6_count 34 = .ok (.iadd, 1) := by decide +kernel
theorem dX6_count_35 : decode cX6_count 35 = .ok (.istore_n 2, 1) := by decide +kernel
theorem dX6_count_36 : decode cX6_count 36 = .ok (.iinc 4 1, 3) := by decide +kernel
theorem dX6_count_39 : decode cX6_count 39 = .ok (.goto (-32), 3) := by decide +kernel
theorem dX6_count_42 : decode cX6_count 42 = .ok (.iconst 0, 1) := by decide +kernel
theorem dX6_count_43 : decode cX6_count 43 = .ok (.istore 4, 2) := by decide +kernel
theorem dX6_count_45 : decode cX6_count 45 = .ok (.iload 4, 2) := by decide +kernel
theorem dX6_count_47 : decode cX6_count 47 = .ok (.bipush 25, 2) := by decide +kernel
theorem dX6_count_49 : decode cX6_count 49 = .ok (.if_icmp .ge 22, 3) := by decide +kernel
theorem dX6_count_52 : decode cX6_count 52 = .ok (.iload_n 3, 1) := by decide +kernel
theorem dX6_count_53 : decode cX6_count 53 = .ok (.aload_n 0, 1) := by decide +kernel
theorem dX6_count_54 : decode cX6_count 54 = .ok (.getfield 7, 3) := by decide +kernel
theorem dX6_count_57 : decode cX6_count 57 = .ok (.bipush 10, 2) := by decide +kernel
theorem dX6_count_59 : decode cX6_count 59 = .ok (.iload 4, 2) := by decide +kernel
theorem dX6_count_61 : decode cX6_count 61 = .ok (.iadd, 1) := by decide +kernel
theorem dX6_count_62 : decode cX6_count 62 = .ok (.iaload, 1) := by decide +kernel
theorem dX6_count_63 : decode cX6_count 63 = .ok (.iadd, 1) := by decide +kernel
theorem dX6_count_64 : decode cX6_count 64 = .ok (.istore_n 3, 1) := by decide +kernel
theorem dX6_count_65 : decode cX6_count 65 = .ok (.iinc 4 1, 3) := by decide +kernel
theorem dX6_count_68 : decode cX6_count 68 = .ok (.goto (-23), 3) := by decide +kernel
theorem dX6_count_71 : decode cX6_count 71 = .ok (.iload_n 1, 1) := by decide +kernel
theorem dX6_count_72 : decode cX6_count 72 = .ok (.tableswitch 100 0 5 #[40, 48, 68, 73, 96, 98], 40) := by decide +kernel
theorem dX6_count_112 : decode cX6_count 112 = .ok (.aload_n 0, 1) := by decide +kernel
theorem dX6_count_113 : decode cX6_count 113 = .ok (.getfield 7, 3) := by decide +kernel
theorem dX6_count_116 : decode cX6_count 116 = .ok (.bipush 57, 2) := by decide +kernel
theorem dX6_count_118 : decode cX6_count 118 = .ok (.iaload, 1) := by decide +kernel
theorem dX6_count_119 : decode cX6_count 119 = .ok (.ireturn, 1) := by decide +kernel
theorem dX6_count_120 : decode cX6_count 120 = .ok (.aload_n 0, 1) := by decide +kernel
theorem dX6_count_121 : decode cX6_count 121 = .ok (.getfield 16, 3) := by decide +kernel
theorem dX6_count_124 : decode cX6_count 124 = .ok (.iconst 0, 1) := by decide +kernel
theorem dX6_count_125 : decode cX6_count 125 = .ok (.baload, 1) := by decide +kernel
theorem dX6_count_126 : decode cX6_count 126 = .ok (.invokestatic 200, 3) := by decide +kernel
theorem dX6_count_129 : decode cX6_count 129 = .ok (.aload_n 0, 1) := by decide +kernel
theorem dX6_count_130 : decode cX6_count 130 = .ok (.getfield 16, 3) := by decide +kernel
theorem dX6_count_133 : decode cX6_count 133 = .ok (.iconst 1, 1) := by decide +kernel
theorem dX6_count_134 : decode cX6_count 134 = .ok (.baload, 1) := by decide +kernel
theorem dX6_count_135 : decode cX6_count 135 = .ok (.invokestatic 200, 3) := by decide +kernel
theorem dX6_count_138 : decode cX6_count 138 = .ok (.iadd, 1) := by decide +kernel
theorem dX6_count_139 : decode cX6_count 139 = .ok (.ireturn, 1) := by decide +kernel
theorem dX6_count_140 : decode cX6_count 140 = .ok (.aload_n 0, 1) := by decide +kernel
theorem dX6_count_141 : decode cX6_count 141 = .ok (.getfield 73, 3) := by decide +kernel
theorem dX6_count_144 : decode cX6_count 144 = .ok (.ireturn, 1) := by decide +kernel
theorem dX6_count_145 : decode cX6_count 145 = .ok (.aload_n 0, 1) := by decide +kernel
theorem dX6_count_146 : decode cX6_count 146 = .ok (.getfield 32, 3) := by decide +kernel
theorem dX6_count_149 : decode cX6_count 149 = .ok (.iconst 0, 1) := by decide +kernel
theorem dX6_count_150 : decode cX6_count 150 = .ok (.iaload, 1) := by decide +kernel
theorem dX6_count_151 : decode cX6_count 151 = .ok (.bipush (-4), 2) := by decide +kernel
theorem dX6_count_153 : decode cX6_count 153 = .ok (.if_icmp .ne 8, 3) := by decide +kernel
theorem dX6_count_156 : decode cX6_count 156 = .ok (.bipush (-4), 2) := by decide +kernel
theorem dX6_count_158 : decode cX6_count 158 = .ok (.goto 9, 3) := by decide +kernel
theorem dX6_count_161 : decode cX6_count 161 = .ok (.aload_n 0, 1) := by decide +kernel
theorem dX6_count_162 : decode cX6_count 162 = .ok (.getfield 35, 3) := by decide +kernel
theorem dX6_count_165 : decode cX6_count 165 = .ok (.iconst 0, 1) := by decide +kernel
theorem dX6_count_166 : decode cX6_count 166 = .ok (.iaload, 1) := by decide +kernel
theorem dX6_count_167 : decode cX6_count 167 = .ok (.ireturn, 1) := by decide +kernel
theorem dX6_count_168 : decode cX6_count 168 = .ok (.iload_n 2, 1) := by decide +kernel
theorem dX6_count_169 : decode cX6_count 169 = .ok (.ireturn, 1) := by decide +kernel
theorem dX6_count_170 : decode cX6_count 170 = .ok (.iload_n 3, 1) := by decide +kernel
theorem dX6_count_171 : decode cX6_count 171 = .ok (.ireturn, 1) := by decide +kernel
theorem dX6_count_172 : decode cX6_count 172 = .ok (.iconst (-1), 1) := by decide +kernel
theorem dX6_count_173 : decode cX6_count 173 = .ok (.ireturn, 1) := by decide +kernel
