theorem dX0_init_0 : decode cX0_init 0 = .ok (.aload_n 0, 1) := by decide +kernel
theorem dX0_init_1 : decode cX0_init 1 = .ok (.invokespecial 3, 3) := by decide +kernel
theorem dX0_init_4 : decode cX0_init 4 = .ok (.aload_n 0, 1) := by decide +kernel
theorem dX0_init_5 : decode cX0_init 5 = .ok (.iconst 0, 1) := by decide +kernel
theorem dX0_init_6 : decode cX0_init 6 = .ok (.putfield 9, 3) := by decide +kernel
theorem dX0_init_9 : decode cX0_init 9 = .ok (.aload_n 0, 1) := by decide +kernel
theorem dX0_init_10 : decode cX0_init 10 = .ok (.iconst 5, 1) := by decide +kernel
theorem dX0_init_11 : decode cX0_init 11 = .ok (.newarray .int, 2) := by decide +kernel
theorem dX0_init_13 : decode cX0_init 13 = .ok (.putfield 15, 3) := by decide +kernel
theorem dX0_init_16 : decode cX0_init 16 = .ok (.aload_n 0, 1) := by decide +kernel
theorem dX0_init_17 : decode cX0_init 17 = .ok (.iconst 5, 1) := by decide +kernel
theorem dX0_init_18 : decode cX0_init 18 = .ok (.newarray .int, 2) := by decide +kernel
theorem dX0_init_20 : decode cX0_init 20 = .ok (.putfield 19, 3) := by decide +kernel
theorem dX0_init_23 : decode cX0_init 23 = .ok (.aload_n 0, 1) := by decide +kernel
theorem dX0_init_24 : decode cX0_init 24 = .ok (.bipush 25, 2) := by decide +kernel
theorem dX0_init_26 : decode cX0_init 26 = .ok (.newarray .int, 2) := by decide +kernel
theorem dX0_init_28 : decode cX0_init 28 = .ok (.putfield 22, 3) := by decide +kernel
theorem dX0_init_31 : decode cX0_init 31 = .ok (.aload_n 0, 1) := by decide +kernel
theorem dX0_init_32 : decode cX0_init 32 = .ok (.iconst 0, 1) := by decide +kernel
theorem dX0_init_33 : decode cX0_init 33 = .ok (.putfield 25, 3) := by decide +kernel
theorem dX0_init_36 : decode cX0_init 36 = .ok (.aload_n 0, 1) := by decide +kernel
theorem dX0_init_37 : decode cX0_init 37 = .ok (.bipush 6, 2) := by decide +kernel
theorem dX0_init_39 : decode cX0_init 39 = .ok (.newarray .int, 2) := by decide +kernel
theorem dX0_init_41 : decode cX0_init 41 = .ok (.putfield 28, 3) := by decide +kernel
theorem dX0_init_44 : decode cX0_init 44 = .ok (.aload_n 0, 1) := by decide +kernel
theorem dX0_init_45 : decode cX0_init 45 = .ok (.bipush 6, 2) := by decide +kernel
theorem dX0_init_47 : decode cX0_init 47 = .ok (.newarray .int, 2) := by decide +kernel
theorem dX0_init_49 : decode cX0_init 49 = .ok (.putfield 31, 3) := by decide +kernel
theorem dX0_init_52 : decode cX0_init 52 = .ok (.aload_n 0, 1) := by decide +kernel
theorem dX0_init_53 : decode cX0_init 53 = .ok (.bipush 6, 2) := by decide +kernel
theorem dX0_init_55 : decode cX0_init 55 = .ok (.newarray .int, 2) := by decide +kernel
theorem dX0_init_57 : decode cX0_init 57 = .ok (.putfield 34, 3) := by decide +kernel
theorem dX0_init_60 : decode cX0_init 60 = .ok (.aload_n 0, 1) := by decide +kernel
theorem dX0_init_61 : decode cX0_init 61 = .ok (.iconst 0, 1) := by decide +kernel
theorem dX0_init_62 : decode cX0_init 62 = .ok (.putfield 37, 3) := by decide +kernel
theorem dX0_init_65 : decode cX0_init 65 = .ok (.aload_n 0, 1) := by decide +kernel
theorem dX0_init_66 : decode cX0_init 66 = .ok (.iconst 0, 1) := by decide +kernel
theorem dX0_init_67 : decode cX0_init 67 = .ok (.putfield 40, 3) := by decide +kernel
theorem dX0_init_70 : decode cX0_init 70 = .ok (.aload_n 0, 1) := by decide +kernel
theorem dX0_init_71 : decode cX0_init 71 = .ok (.iconst 0, 1) := by decide +kernel
theorem dX0_init_72 : decode cX0_init 72 = .ok (.putfield 43, 3) := by decide +kernel
theorem dX0_init_75 : decode cX0_init 75 = .ok (.return_, 1) := by decide +kernel
theorem dX0_clear_0 : decode cX0_clear 0 = .ok (.aload_n 0, 1) := by decide +kernel
theorem dX0_clear_1 : decode cX0_clear 1 = .ok (.iconst 0, 1) := by decide +kernel
theorem dX0_clear_2 : decode cX0_clear 2 = .ok (.putfield 9, 3) := by decide +kernel
theorem dX0_clear_5 : decode cX0_clear 5 = .ok (.aload_n 0, 1) := by decide +kernel
theorem dX0_clear_6 : decode cX0_clear 6 = .ok (.getfield 22, 3) := by decide +kernel
theorem dX0_clear_9 : decode cX0_clear 9 = .ok (.iconst 0, 1) := by decide +kernel
theorem dX0_clear_10 : decode cX0_clear 10 = .ok (.invokestatic 46, 3) := by decide +kernel
theorem dX0_clear_13 : decode cX0_clear 13 = .ok (.aload_n 0, 1) := by decide +kernel
theorem dX0_clear_14 : decode cX0_clear 14 = .ok (.iconst 0, 1) := by decide +kernel
theorem dX0_clear_15 : decode cX0_clear 15 = .ok (.putfield 25, 3) := by decide +kernel
theorem dX0_clear_18 : decode cX0_clear 18 = .ok (.aload_n 0, 1) := by decide +kernel
theorem dX0_clear_19 : decode cX0_clear 19 = .ok (.iconst 0, 1) := by decide +kernel
theorem dX0_clear_20 : decode cX0_clear 20 = .ok (.putfield 37, 3) := by decide +kernel
theorem dX0_clear_23 : decode cX0_clear 23 = .ok (.aload_n 0, 1) := by decide +kernel
theorem dX0_clear_24 : decode cX0_clear 24 = .ok (.iconst 0, 1) := by decide +kernel
theorem dX0_clear_25 : decode cX0_clear 25 = .ok (.putfield 40, 3) := by decide +kernel
theorem dX0_clear_28 : decode cX0_clear 28 = .ok (.aload_n 0, 1) := by decide +kernel
theorem dX0_clear_29 : decode cX0_clear 29 = .ok (.iconst 0, 1) := by decide +kernel
theorem dX0_clear_30 : decode cX0_clear 30 = .ok (.putfield 43, 3) := by decide +kernel
theorem dX0_clear_33 : decode cX0_clear 33 = .ok (.return_, 1) := by decide +kernel
theorem dX0_become_0 : decode cX0_become 0 = .ok (.aload_n 0, 1) := by decide +kernel
theorem dX0_become_1 : decode cX0_become 1 = .ok (.aload_n 1, 1) := by decide +kernel
theorem dX0_become_2 : decode cX0_become 2 = .ok (.getfield 9, 3) := by decide +kernel
theorem dX0_become_5 : decode cX0_become 5 = .ok (.putfield 9, 3) := by decide +kernel
theorem dX0_become_8 : decode cX0_become 8 = .ok (.aload_n 1, 1) := by decide +kernel
theorem dX0_become_9 : decode cX0_become 9 = .ok (.getfield 15, 3) := by decide +kernel
theorem dX0_become_12 : decode cX0_become 12 = .ok (.iconst 0, 1) := by decide +kernel
theorem dX0_become_13 : decode cX0_become 13 = .ok (.aload_n 0, 1) := by decide +kernel
theorem dX0_become_14 : decode cX0_become 14 = .ok (.getfield 15, 3) := by decide +kernel
theorem dX0_become_17 : decode cX0_become 17 = .ok (.iconst 0, 1) := by decide +kernel
theorem dX0_become_18 : decode cX0_become 18 = .ok (.iconst 5, 1) := by decide +kernel
theorem dX0_become_19 : decode cX0_become 19 = .ok (.invokestatic 52, 3) := by decide +kernel
theorem dX0_become_22 : decode cX0_become 22 = .ok (.aload_n 1, 1) := by decide +kernel
theorem dX0_become_23 : decode cX0_become 23 = .ok (.getfield 19, 3) := by decide +kernel
theorem dX0_become_26 : decode cX0_become 26 = .ok (.iconst 0, 1) := by decide +kernel
theorem dX0_become_27 : decode cX0_become 27 = .ok (.aload_n 0, 1) := by decide +kernel
theorem dX0_become_28 : decode cX0_become 28 = .ok (.getfield 19, 3) := by decide +kernel
theorem dX0_become_31 : decode cX0_become 31 = .ok (.iconst 0, 1) := by decide +kernel
theorem dX0_become_32 : decode cX0_become 32 = .ok (.iconst 5, 1) := by decide +kernel
theorem dX0_become_33 : decode cX0_become 33 = .ok (.invokestatic 52, 3) := by decide +kernel
theorem dX0_become_36 : decode cX0_become 36 = .ok (.aload_n 1, 1) := by decide +kernel
theorem dX0_become_37 : decode cX0_become 37 = .ok (.getfield 22, 3) := by decide +kernel
theorem dX0_become_40 : decode cX0_become 40 = .ok (.iconst 0, 1) := by decide +kernel
theorem dX0_become_41 : decode cX0_become 41 = .ok (.aload_n 0, 1) := by decide +kernel
theorem dX0_become_42 : decode cX0_become 42 = .ok (.getfield 22, 3) := by decide +kernel
theorem dX0_become_45 : decode cX0_become 45 = .ok (.iconst 0, 1) := by decide +kernel
theorem dX0_become_46 : decode cX0_become 46 = .ok (.bipush 25, 2) := by decide +kernel
theorem dX0_become_48 : decode cX0_become 48 = .ok (.invokestatic 52, 3) := by decide +kernel
theorem dX0_become_51 : decode cX0_become 51 = .ok (.aload_n 0, 1) := by decide +kernel
theorem dX0_become_52 : decode cX0_become 52 = .ok (.aload_n 1, 1) := by decide +kernel
theorem dX0_become_53 : decode cX0_become 53 = .ok (.getfield 25, 3) := by decide +kernel
theorem dX0_become_56 : decode cX0_become 56 = .ok (.putfield 25, 3) := by decide +kernel
theorem dX0_become_59 : decode cX0_become 59 = .ok (.aload_n 1, 1) := by decide +kernel
theorem dX0_become_60 : decode cX0_become 60 = .ok (.getfield 28, 3) := by decide +kernel
theorem dX0_become_63 : decode cX0_become 63 = .ok (.iconst 0, 1) := by decide +kernel
theorem dX0_become_64 : decode cX0_become 64 = .ok (.aload_n 0, 1) := by decide +kernel
theorem dX0_become_65 : decode cX0_become 65 = .ok (.getfield 28, 3) := by decide +kernel
theorem dX0_become_68 : decode cX0_become 68 = .ok (.iconst 0, 1) := by decide +kernel
theorem dX0_become_69 : decode cX0_become 69 = .ok (.bipush 6, 2) := by decide +kernel
theorem dX0_become_71 : decode cX0_become 71 = .ok (.invokestatic 52, 3) := by decide +kernel
theorem dX0_become_74 : decode cX0_become 74 = .ok (.aload_n 1, 1) := by decide +kernel
theorem dX0_become_75 : decode cX0_become 75 = .ok (.getfield 31, 3) := by decide +kernel
theorem dX0_become_78 : decode cX0_become 78 = .ok (.iconst 0, 1) := by decide +kernel
theorem dX0_become_79 : decode cX0_become 79 = .ok (.aload_n 0, 1) := by decide +kernel
theorem dX0_become_80 : decode cX0_become 80 = .ok (.getfield 31, 3) := by decide +kernel
theorem dX0_become_83 : decode cX0_become 83 = .ok (.iconst 0, 1) := by decide +kernel
theorem dX0_become_84 : decode cX0_become 84 = .ok (.bipush 6, 2) := by decide +kernel
theorem dX0_become_86 : decode cX0_become 86 = .ok (.invokestatic 52, 3) := by decide +kernel
theorem dX0_become_89 : decode cX0_become 89 = .ok (.aload_n 1, 1) := by decide +kernel
theorem dX0_become_90 : decode cX0_become 90 = .ok (.getfield 34, 3) := by decide +kernel
theorem dX0_become_93 : decode cX0_become 93 = .ok (.iconst 0, 1) := by decide +kernel
theorem dX0_become_94 : decode cX0_become 94 = .ok (.aload_n 0, 1) := by decide +kernel
theorem dX0_become_95 : decode cX0_become 95 = .ok (.getfield 34, 3) := by decide +kernel
theorem dX0_become_98 : decode cX0_become 98 = .ok (.iconst 0, 1) := by decide +kernel
theorem dX0_become_99 : decode cX0_become 99 = .ok (.bipush 6, 2) := by decide +kernel
theorem dX0_become_101 : decode cX0_become 101 = .ok (.invokestatic 52, 3) := by decide +kernel
theorem dX0_become_104 : decode cX0_become 104 = .ok (.aload_n 0, 1) := by decide +kernel
theorem dX0_become_105 : decode cX0_become 105 = .ok (.aload_n 1, 1) := by decide +kernel
theorem dX0_become_106 : decode cX0_become 106 = .ok (.getfield 37, 3) := by decide +kernel
theorem dX0_become_109 : decode cX0_become 109 = .ok (.putfield 37, 3) := by decide +kernel
theorem dX0_become_112 : decode cX0_become 112 = .ok (.aload_n 0, 1) := by decide +kernel
theorem dX0_become_113 : decode cX0_become 113 = .ok (.aload_n 1, 1) := by decide +kernel
theorem dX0_become_114 : decode cX0_become 114 = .ok (.getfield 40, 3) := by decide +kernel
theorem dX0_become_117 : decode cX0_become 117 = .ok (.putfield 40, 3) := by decide +kernel
theorem dX0_become_120 : decode cX0_become 120 = .ok (.aload_n 0, 1) := by decide +kernel
theorem dX0_become_121 : decode cX0_become 121 = .ok (.aload_n 1, 1) := by decide +kernel
theorem dX0_become_122 : decode cX0_become 122 = .ok (.getfield 43, 3) := by decide +kernel
theorem dX0_become_125 : decode cX0_become 125 = .ok (.putfield 43, 3) := by decide +kernel
theorem dX0_become_128 : decode cX0_become 128 = .ok (.return_, 1) := by decide +kernel
theorem dX0_addIsle_0 : decode cX0_addIsle 0 = .ok (.aload_n 0, 1) := by decide +kernel
theorem dX0_addIsle_1 : decode cX0_addIsle 1 = .ok (.getfield 9, 3) := by decide +kernel
theorem dX0_addIsle_4 : decode cX0_addIsle 4 = .ok (.iconst 5, 1) := by decide +kernel
theorem dX0_addIsle_5 : decode cX0_addIsle 5 = .ok (.if_icmp .ge 33, 3) := by decide +kernel
theorem dX0_addIsle_8 : decode cX0_addIsle 8 = .ok (.aload_n 0, 1) := by decide +kernel
theorem dX0_addIsle_9 : decode cX0_addIsle 9 = .ok (.getfield 15, 3) := by decide +kernel
theorem dX0_addIsle_12 : decode cX0_addIsle 12 = .ok (.aload_n 0, 1) := by decide +kernel
theorem dX0_addIsle_13 : decode cX0_addIsle 13 = .ok (.getfield 9, 3) := by decide +kernel
theorem dX0_addIsle_16 : decode cX0_addIsle 16 = .ok (.iload_n 1, 1) := by decide +kernel
theorem dX0_addIsle_17 : decode cX0_addIsle 17 = .ok (.iastore, 1) := by decide +kernel
theorem dX0_addIsle_18 : decode cX0_addIsle 18 = .ok (.aload_n 0, 1) := by decide +kernel
theorem dX0_addIsle_19 : decode cX0_addIsle 19 = .ok (.getfield 19, 3) := by decide +kernel
theorem dX0_addIsle_22 : decode cX0_addIsle 22 = .ok (.aload_n 0, 1) := by decide +kernel
theorem dX0_addIsle_23 : decode cX0_addIsle 23 = .ok (.getfield 9, 3) := by decide +kernel
theorem dX0_addIsle_26 : decode cX0_addIsle 26 = .ok (.iload_n 2, 1) := by decide +kernel
theorem dX0_addIsle_27 : decode cX0_addIsle 27 = .ok (.iastore, 1) := by decide +kernel
theorem dX0_addIsle_28 : decode cX0_addIsle 28 = .ok (.aload_n 0, 1) := by decide +kernel
theorem dX0_addIsle_29 : decode cX0_addIsle 29 = .ok (.dup, 1) := by decide +kernel
theorem dX0_addIsle_30 : decode cX0_addIsle 30 = .ok (.getfield 9, 3) := by decide +kernel
theorem dX0_addIsle_33 : decode cX0_addIsle 33 = .ok (.iconst 1, 1) := by decide +kernel
theorem dX0_addIsle_34 : decode cX0_addIsle 34 = .ok (.iadd, 1) := by decide +kernel
theorem dX0_addIsle_35 : decode cX0_addIsle 35 = .ok (.putfield 9, 3) := by decide +kernel
theorem dX0_addIsle_38 : decode cX0_addIsle 38 = .ok (.return_, 1) := by decide +kernel
theorem dX0_addRope_0 : decode cX0_addRope 0 = .ok (.aload_n 0, 1) := by decide +kernel
theorem dX0_addRope_1 : decode cX0_addRope 1 = .ok (.getfield 25, 3) := by decide +kernel
theorem dX0_addRope_4 : decode cX0_addRope 4 = .ok (.bipush 6, 2) := by decide +kernel
theorem dX0_addRope_6 : decode cX0_addRope 6 = .ok (.if_icmp .ge 43, 3) := by decide +kernel
theorem dX0_addRope_9 : decode cX0_addRope 9 = .ok (.aload_n 0, 1) := by decide +kernel
theorem dX0_addRope_10 : decode cX0_addRope 10 = .ok (.getfield 28, 3) := by decide +kernel
theorem dX0_addRope_13 : decode cX0_addRope 13 = .ok (.aload_n 0, 1) := by decide +kernel
theorem dX0_addRope_14 : decode cX0_addRope 14 = .ok (.getfield 25, 3) := by decide +kernel
theorem dX0_addRope_17 : decode cX0_addRope 17 = .ok (.iload_n 1, 1) := by decide +kernel
theorem dX0_addRope_18 : decode cX0_addRope 18 = .ok (.iastore, 1) := by decide +kernel
theorem dX0_addRope_19 : decode cX0_addRope 19 = .ok (.aload_n 0, 1) := by decide +kernel
theorem dX0_addRope_20 : decode cX0_addRope 20 = .ok (.getfield 31, 3) := by decide +kernel
theorem dX0_addRope_23 : decode cX0_addRope 23 = .ok (.aload_n 0, 1) := by decide +kernel
theorem dX0_addRope_24 : decode cX0_addRope 24 = .ok (.getfield 25, 3) := by decide +kernel
theorem dX0_addRope_27 : decode cX0_addRope 27 = .ok (.iload_n 2, 1) := by decide +kernel
theorem dX0_addRope_28 : decode cX0_addRope 28 = .ok (.iastore, 1) := by decide +kernel
theorem dX0_addRope_29 : decode cX0_addRope 29 = .ok (.aload_n 0, 1) := by decide +kernel
theorem dX0_addRope_30 : decode cX0_addRope 30 = .ok (.getfield 34, 3) := by decide +kernel
theorem dX0_addRope_33 : decode cX0_addRope 33 = .ok (.aload_n 0, 1) := by decide +kernel
theorem dX0_addRope_34 : decode cX0_addRope 34 = .ok (.getfield 25, 3) := by decide +kernel
theorem dX0_addRope_37 : decode cX0_addRope 37 = .ok (.iload_n 3, 1) := by decide +kernel
theorem dX0_addRope_38 : decode cX0_addRope 38 = .ok (.iastore, 1) := by decide +kernel
theorem dX0_addRope_39 : decode cX0_addRope 39 = .ok (.aload_n 0, 1) := by decide +kernel
theorem dX0_addRope_40 : decode cX0_addRope 40 = .ok (.dup, 1) := by decide +kernel
theorem dX0_addRope_41 : decode cX0_addRope 41 = .ok (.getfield 25, 3) := by decide +kernel
theorem dX0_addRope_44 : decode cX0_addRope 44 = .ok (.iconst 1, 1) := by decide +kernel
theorem dX0_addRope_45 : decode cX0_addRope 45 = .ok (.iadd, 1) := by decide +kernel
theorem dX0_addRope_46 : decode cX0_addRope 46 = .ok (.putfield 25, 3) := by decide +kernel
theorem dX0_addRope_49 : decode cX0_addRope 49 = .ok (.return_, 1) := by decide +kernel
theorem dX0_dropRope_0 : decode cX0_dropRope 0 = .ok (.iload_n 1, 1) := by decide +kernel
theorem dX0_dropRope_1 : decode cX0_dropRope 1 = .ok (.istore_n 2, 1) := by decide +kernel
theorem dX0_dropRope_2 : decode cX0_dropRope 2 = .ok (.iload_n 2, 1) := by decide +kernel
theorem dX0_dropRope_3 : decode cX0_dropRope 3 = .ok (.iconst 1, 1) := by decide +kernel
theorem dX0_dropRope_4 : decode cX0_dropRope 4 = .ok (.iadd, 1) := by decide +kernel
theorem dX0_dropRope_5 : decode cX0_dropRope 5 = .ok (.aload_n 0, 1) := by decide +kernel
theorem dX0_dropRope_6 : decode cX0_dropRope 6 = .ok (.getfield 25, 3) := by decide +kernel
theorem dX0_dropRope_9 : decode cX0_dropRope 9 = .ok (.if_icmp .ge 51, 3) := by decide +kernel
theorem dX0_dropRope_12 : decode cX0_dropRope 12 = .ok (.aload_n 0, 1) := by decide +kernel
theorem dX0_dropRope_13 : decode cX0_dropRope 13 = .ok (.getfield 28, 3) := by decide +kernel
theorem dX0_dropRope_16 : decode cX0_dropRope 16 = .ok (.iload_n 2, 1) := by decide +kernel
theorem dX0_dropRope_17 : decode cX0_dropRope 17 = .ok (.aload_n 0, 1) := by decide +kernel
theorem dX0_dropRope_18 : decode cX0_dropRope 18 = .ok (.getfield 28, 3) := by decide +kernel
theorem dX0_dropRope_21 : decode cX0_dropRope 21 = .ok (.iload_n 2, 1) := by decide +kernel
theorem dX0_dropRope_22 : decode cX0_dropRope 22 = .ok (.iconst 1, 1) := by decide +kernel
theorem dX0_dropRope_23 : decode cX0_dropRope 23 = .ok (.iadd, 1) := by decide +kernel
theorem dX0_dropRope_24 : decode cX0_dropRope 24 = .ok (.iaload, 1) := by decide +kernel
theorem dX0_dropRope_25 : decode cX0_dropRope 25 = .ok (.iastore, 1) := by decide +kernel
theorem dX0_dropRope_26 : decode cX0_dropRope 26 = .ok (.aload_n 0, 1) := by decide +kernel
theorem dX0_dropRope_27 : decode cX0_dropRope 27 = .ok (.getfield 31, 3) := by decide +kernel
theorem dX0_dropRope_30 : decode cX0_dropRope 30 = .ok (.iload_n 2, 1) := by decide +kernel
theorem dX0_dropRope_31 : decode cX0_dropRope 31 = .ok (.aload_n 0, 1) := by decide +kernel
theorem dX0_dropRope_32 : decode cX0_dropRope 32 = .ok (.getfield 31, 3) := by decide +kernel
theorem dX0_dropRope_35 : decode cX0_dropRope 35 = .ok (.iload_n 2, 1) := by decide +kernel
theorem dX0_dropRope_36 : decode cX0_dropRope 36 = .ok (.iconst 1, 1) := by decide +kernel
theorem dX0_dropRope_37 : decode cX0_dropRope 37 = .ok (.iadd, 1) := by decide +kernel
theorem dX0_dropRope_38 : decode cX0_dropRope 38 = .ok (.iaload, 1) := by decide +kernel
theorem dX0_dropRope_39 : decode cX0_dropRope 39 = .ok (.iastore, 1) := by decide +kernel
theorem dX0_dropRope_40 : decode cX0_dropRope 40 = .ok (.aload_n 0, 1) := by decide +kernel
theorem dX0_dropRope_41 : decode cX0_dropRope 41 = .ok (.getfield 34, 3) := by decide +kernel
theorem dX0_dropRope_44 : decode cX0_dropRope 44 = .ok (.iload_n 2, 1) := by decide +kernel
theorem dX0_dropRope_45 : decode cX0_dropRope 45 = .ok (.aload_n 0, 1) := by decide +kernel
theorem dX0_dropRope_46 : decode cX0_dropRope 46 = .ok (.getfield 34, 3) := by decide +kernel
theorem dX0_dropRope_49 : decode cX0_dropRope 49 = .ok (.iload_n 2, 1) := by decide +kernel
theorem dX0_dropRope_50 : decode cX0_dropRope 50 = .ok (.iconst 1, 1) := by decide +kernel
theorem dX0_dropRope_51 : decode cX0_dropRope 51 = .ok (.iadd, 1) := by decide +kernel
theorem dX0_dropRope_52 : decode cX0_dropRope 52 = .ok (.iaload, 1) := by decide +kernel
theorem dX0_dropRope_53 : decode cX0_dropRope 53 = .ok (.iastore, 1) := by decide +kernel
theorem dX0_dropRope_54 : decode cX0_dropRope 54 = .ok (.iinc 2 1, 3) := by decide +kernel
theorem dX0_dropRope_57 : decode cX0_dropRope 57 = .ok (.goto (-55), 3) := by decide +kernel
theorem dX0_dropRope_60 : decode cX0_dropRope 60 = .ok (.aload_n 0, 1) := by decide +kernel
theorem dX0_dropRope_61 : decode cX0_dropRope 61 = .ok (.dup, 1) := by decide +kernel
theorem dX0_dropRope_62 : decode cX0_dropRope 62 = .ok (.getfield 25, 3) := by decide +kernel
theorem dX0_dropRope_65 : decode cX0_dropRope 65 = .ok (.iconst 1, 1) := by decide +kernel
theorem dX0_dropRope_66 : decode cX0_dropRope 66 = .ok (.isub, 1) := by decide +kernel
theorem dX0_dropRope_67 : decode cX0_dropRope 67 = .ok (.putfield 25, 3) := by decide +kernel
theorem dX0_dropRope_70 : decode cX0_dropRope 70 = .ok (.return_, 1) := by decide +kernel
theorem dX0_grudge_0 : decode cX0_grudge 0 = .ok (.aload_n 0, 1) := by decide +kernel
theorem dX0_grudge_1 : decode cX0_grudge 1 = .ok (.getfield 22, 3) := by decide +kernel
theorem dX0_grudge_4 : decode cX0_grudge 4 = .ok (.iload_n 1, 1) := by decide +kernel
theorem dX0_grudge_5 : decode cX0_grudge 5 = .ok (.iconst 5, 1) := by decide +kernel
theorem dX0_grudge_6 : decode cX0_grudge 6 = .ok (.imul, 1) := by decide +kernel
theorem dX0_grudge_7 : decode cX0_grudge 7 = .ok (.iload_n 2, 1) := by decide +kernel
theorem dX0_grudge_8 : decode cX0_grudge 8 = .ok (.iadd, 1) := by decide +kernel
theorem dX0_grudge_9 : decode cX0_grudge 9 = .ok (.iaload, 1) := by decide +kernel
theorem dX0_grudge_10 : decode cX0_grudge 10 = .ok (.ireturn, 1) := by decide +kernel
theorem dX0_setGrudge_0 : decode cX0_setGrudge 0 = .ok (.aload_n 0, 1) := by decide +kernel
theorem dX0_setGrudge_1 : decode cX0_setGrudge 1 = .ok (.getfield 22, 3) := by decide +kernel
theorem dX0_setGrudge_4 : decode cX0_setGrudge 4 = .ok (.iload_n 1, 1) := by decide +kernel
theorem dX0_setGrudge_5 : decode cX0_setGrudge 5 = .ok (.iconst 5, 1) := by decide +kernel
theorem dX0_setGrudge_6 : decode cX0_setGrudge 6 = .ok (.imul, 1) := by decide +kernel
theorem dX0_setGrudge_7 : decode cX0_setGrudge 7 = .ok (.iload_n 2, 1) := by decide +kernel
theorem dX0_setGrudge_8 : decode cX0_setGrudge 8 = .ok (.iadd, 1) := by decide +kernel
theorem dX0_setGrudge_9 : decode cX0_setGrudge 9 = .ok (.iload_n 3, 1) := by decide +kernel
theorem dX0_setGrudge_10 : decode cX0_setGrudge 10 = .ok (.iastore, 1) := by decide +kernel
theorem dX0_setGrudge_11 : decode cX0_setGrudge 11 = .ok (.return_, 1) := by decide +kernel
theorem dX0_ropesOf_0 : decode cX0_ropesOf 0 = .ok (.iconst 0, 1) := by decide +kernel
theorem dX0_ropesOf_1 : decode cX0_ropesOf 1 = .ok (.istore_n 2, 1) := by decide +kernel
theorem dX0_ropesOf_2 : decode cX0_ropesOf 2 = .ok (.iconst 0, 1) := by decide +kernel
theorem dX0_ropesOf_3 : decode cX0_ropesOf 3 = .ok (.istore_n 3, 1) := by decide +kernel
theorem dX0_ropesOf_4 : decode cX0_ropesOf 4 = .ok (.iload_n 3, 1) := by decide +kernel
theorem dX0_ropesOf_5 : decode cX0_ropesOf 5 = .ok (.aload_n 0, 1) := by decide +kernel
theorem dX0_ropesOf_6 : decode cX0_ropesOf 6 = .ok (.getfield 25, 3) := by decide +kernel
theorem dX0_ropesOf_9 : decode cX0_ropesOf 9 = .ok (.if_icmp .ge 32, 3) := by decide +kernel
theorem dX0_ropesOf_12 : decode cX0_ropesOf 12 = .ok (.aload_n 0, 1) := by decide +kernel
theorem dX0_ropesOf_13 : decode cX0_ropesOf 13 = .ok (.getfield 28, 3) := by decide +kernel
theorem dX0_ropesOf_16 : decode cX0_ropesOf 16 = .ok (.iload_n 3, 1) := by decide +kernel
theorem dX0_ropesOf_17 : decode cX0_ropesOf 17 = .ok (.iaload, 1) := by decide +kernel
theorem dX0_ropesOf_18 : decode cX0_ropesOf 18 = .ok (.iload_n 1, 1) := by decide +kernel
theorem dX0_ropesOf_19 : decode cX0_ropesOf 19 = .ok (.if_icmp .eq 13, 3) := by decide +kernel
theorem dX0_ropesOf_22 : decode cX0_ropesOf 22 = .ok (.aload_n 0, 1) := by decide +kernel
theorem dX0_ropesOf_23 : decode cX0_ropesOf 23 = .ok (.getfield 31, 3) := by decide +kernel
theorem dX0_ropesOf_26 : decode cX0_ropesOf 26 = .ok (.iload_n 3, 1) := by decide +kernel
theorem dX0_ropesOf_27 : decode cX0_ropesOf 27 = .ok (.iaload, 1) := by decide +kernel
theorem dX0_ropesOf_28 : decode cX0_ropesOf 28 = .ok (.iload_n 1, 1) := by decide +kernel
theorem dX0_ropesOf_29 : decode cX0_ropesOf 29 = .ok (.if_icmp .ne 6, 3) := by decide +kernel
theorem dX0_ropesOf_32 : decode cX0_ropesOf 32 = .ok (.iinc 2 1, 3) := by decide +kernel
theorem dX0_ropesOf_35 : decode cX0_ropesOf 35 = .ok (.iinc 3 1, 3) := by decide +kernel
theorem dX0_ropesOf_38 : decode cX0_ropesOf 38 = .ok (.goto (-34), 3) := by decide +kernel
theorem dX0_ropesOf_41 : decode cX0_ropesOf 41 = .ok (.iload_n 2, 1) := by decide +kernel
theorem dX0_ropesOf_42 : decode cX0_ropesOf 42 = .ok (.ireturn, 1) := by decide +kernel
theorem dX0_lengthOfAll_0 : decode cX0_lengthOfAll 0 = .ok (.iconst 0, 1) := by decide +kernel
theorem dX0_lengthOfAll_1 : decode cX0_lengthOfAll 1 = .ok (.istore_n 1, 1) := by decide +kernel
theorem dX0_lengthOfAll_2 : decode cX0_lengthOfAll 2 = .ok (.iconst 0, 1) := by decide +kernel
theorem dX0_lengthOfAll_3 : decode cX0_lengthOfAll 3 = .ok (.istore_n 2, 1) := by decide +kernel
theorem dX0_lengthOfAll_4 : decode cX0_lengthOfAll 4 = .ok (.iload_n 2, 1) := by decide +kernel
theorem dX0_lengthOfAll_5 : decode cX0_lengthOfAll 5 = .ok (.aload_n 0, 1) := by decide +kernel
theorem dX0_lengthOfAll_6 : decode cX0_lengthOfAll 6 = .ok (.getfield 25, 3) := by decide +kernel
theorem dX0_lengthOfAll_9 : decode cX0_lengthOfAll 9 = .ok (.if_icmp .ge 18, 3) := by decide +kernel
theorem dX0_lengthOfAll_12 : decode cX0_lengthOfAll 12 = .ok (.iload_n 1, 1) := by decide +kernel
theorem dX0_lengthOfAll_13 : decode cX0_lengthOfAll 13 = .ok (.aload_n 0, 1) := by decide +kernel
theorem dX0_lengthOfAll_14 : decode cX0_lengthOfAll 14 = .ok (.getfield 34, 3) := by decide +kernel
theorem dX0_lengthOfAll_17 : decode cX0_lengthOfAll 17 = .ok (.iload_n 2, 1) := by decide +kernel
theorem dX0_lengthOfAll_18 : decode cX0_lengthOfAll 18 = .ok (.iaload, 1) := by decide +kernel
theorem dX0_lengthOfAll_19 : decode cX0_lengthOfAll 19 = .ok (.iadd, 1) := by decide +kernel
theorem dX0_lengthOfAll_20 : decode cX0_lengthOfAll 20 = .ok (.istore_n 1, 1) := by decide +kernel
theorem dX0_lengthOfAll_21 : decode cX0_lengthOfAll 21 = .ok (.iinc 2 1, 3) := by decide +kernel
theorem dX0_lengthOfAll_24 : decode cX0_lengthOfAll 24 = .ok (.goto (-20), 3) := by decide +kernel
theorem dX0_lengthOfAll_27 : decode cX0_lengthOfAll 27 = .ok (.iload_n 1, 1) := by decide +kernel
theorem dX0_lengthOfAll_28 : decode cX0_lengthOfAll 28 = .ok (.ireturn, 1) := by decide +kernel
theorem dX0_grudgeOfAll_0 : decode cX0_grudgeOfAll 0 = .ok (.iconst 0, 1) := by decide +kernel
theorem dX0_grudgeOfAll_1 : decode cX0_grudgeOfAll 1 = .ok (.istore_n 1, 1) := by decide +kernel
theorem dX0_grudgeOfAll_2 : decode cX0_grudgeOfAll 2 = .ok (.iconst 0, 1) := by decide +kernel
theorem dX0_grudgeOfAll_3 : decode cX0_grudgeOfAll 3 = .ok (.istore_n 2, 1) := by decide +kernel
theorem dX0_grudgeOfAll_4 : decode cX0_grudgeOfAll 4 = .ok (.iload_n 2, 1) := by decide +kernel
theorem dX0_grudgeOfAll_5 : decode cX0_grudgeOfAll 5 = .ok (.aload_n 0, 1) := by decide +kernel
theorem dX0_grudgeOfAll_6 : decode cX0_grudgeOfAll 6 = .ok (.getfield 9, 3) := by decide +kernel
theorem dX0_grudgeOfAll_9 : decode cX0_grudgeOfAll 9 = .ok (.if_icmp .ge 43, 3) := by decide +kernel
theorem dX0_grudgeOfAll_12 : decode cX0_grudgeOfAll 12 = .ok (.iconst 0, 1) := by decide +kernel
theorem dX0_grudgeOfAll_13 : decode cX0_grudgeOfAll 13 = .ok (.istore_n 3, 1) := by decide +kernel
theorem dX0_grudgeOfAll_14 : decode cX0_grudgeOfAll 14 = .ok (.iload_n 3, 1) := by decide +kernel
theorem dX0_grudgeOfAll_15 : decode cX0_grudgeOfAll 15 = .ok (.aload_n 0, 1) := by decide +kernel
theorem dX0_grudgeOfAll_16 : decode cX0_grudgeOfAll 16 = .ok (.getfield 9, 3) := by decide +kernel
theorem dX0_grudgeOfAll_19 : decode cX0_grudgeOfAll 19 = .ok (.if_icmp .ge 27, 3) := by decide +kernel
theorem dX0_grudgeOfAll_22 : decode cX0_grudgeOfAll 22 = .ok (.iload_n 1, 1) := by decide +kernel
theorem dX0_grudgeOfAll_23 : decode cX0_grudgeOfAll 23 = .ok (.iload_n 2, 1) := by decide +kernel
theorem dX0_grudgeOfAll_24 : decode cX0_grudgeOfAll 24 = .ok (.iload_n 3, 1) := by decide +kernel
theorem dX0_grudgeOfAll_25 : decode cX0_grudgeOfAll 25 = .ok (.if_icmp .ne 7, 3) := by decide +kernel
theorem dX0_grudgeOfAll_28 : decode cX0_grudgeOfAll 28 = .ok (.iconst 0, 1) := by decide +kernel
theorem dX0_grudgeOfAll_29 : decode cX0_grudgeOfAll 29 = .ok (.goto 9, 3) := by decide +kernel
theorem dX0_grudgeOfAll_32 : decode cX0_grudgeOfAll 32 = .ok (.aload_n 0, 1) := by decide +kernel
theorem dX0_grudgeOfAll_33 : decode cX0_grudgeOfAll 33 = .ok (.iload_n 2, 1) := by decide +kernel
theorem dX0_grudgeOfAll_34 : decode cX0_grudgeOfAll 34 = .ok (.iload_n 3, 1) := by decide +kernel
theorem dX0_grudgeOfAll_35 : decode cX0_grudgeOfAll 35 = .ok (.invokevirtual 58, 3) := by decide +kernel
theorem dX0_grudgeOfAll_38 : decode cX0_grudgeOfAll 38 = .ok (.iadd, 1) := by decide +kernel
theorem dX0_grudgeOfAll_39 : decode cX0_grudgeOfAll 39 = .ok (.istore_n 1, 1) := by decide +kernel
theorem dX0_grudgeOfAll_40 : decode cX0_grudgeOfAll 40 = .ok (.iinc 3 1, 3) := by decide +kernel
theorem dX0_grudgeOfAll_43 : decode cX0_grudgeOfAll 43 = .ok (.goto (-29), 3) := by decide +kernel
theorem dX0_grudgeOfAll_46 : decode cX0_grudgeOfAll 46 = .ok (.iinc 2 1, 3) := by decide +kernel
theorem dX0_grudgeOfAll_49 : decode cX0_grudgeOfAll 49 = .ok (.goto (-45), 3) := by decide +kernel
theorem dX0_grudgeOfAll_52 : decode cX0_grudgeOfAll 52 = .ok (.iload_n 1, 1) := by decide +kernel
theorem dX0_grudgeOfAll_53 : decode cX0_grudgeOfAll 53 = .ok (.ireturn, 1) := by decide +kernel
theorem dX0_spread_0 : decode cX0_spread 0 = .ok (.aload_n 0, 1) := by decide +kernel
theorem dX0_spread_1 : decode cX0_spread 1 = .ok (.getfield 9, 3) := by decide +kernel
theorem dX0_spread_4 : decode cX0_spread 4 = .ok (.iconst 2, 1) := by decide +kernel
theorem dX0_spread_5 : decode cX0_spread 5 = .ok (.if_icmp .ge 5, 3) := by decide +kernel
theorem dX0_spread_8 : decode cX0_spread 8 = .ok (.iconst 0, 1) := by decide +kernel
theorem dX0_spread_9 : decode cX0_spread 9 = .ok (.ireturn, 1) := by decide +kernel
theorem dX0_spread_10 : decode cX0_spread 10 = .ok (.aload_n 0, 1) := by decide +kernel
theorem dX0_spread_11 : decode cX0_spread 11 = .ok (.getfield 19, 3) := by decide +kernel
theorem dX0_spread_14 : decode cX0_spread 14 = .ok (.iconst 0, 1) := by decide +kernel
theorem dX0_spread_15 : decode cX0_spread 15 = .ok (.iaload, 1) := by decide +kernel
theorem dX0_spread_16 : decode cX0_spread 16 = .ok (.istore_n 1, 1) := by decide +kernel
theorem dX0_spread_17 : decode cX0_spread 17 = .ok (.aload_n 0, 1) := by decide +kernel
theorem dX0_spread_18 : decode cX0_spread 18 = .ok (.getfield 19, 3) := by decide +kernel
theorem dX0_spread_21 : decode cX0_spread 21 = .ok (.iconst 0, 1) := by decide +kernel
theorem dX0_spread_22 : decode cX0_spread 22 = .ok (.iaload, 1) := by decide +kernel
theorem dX0_spread_23 : decode cX0_spread 23 = .ok (.istore_n 2, 1) := by decide +kernel
theorem dX0_spread_24 : decode cX0_spread 24 = .ok (.iconst 1, 1) := by decide +kernel
theorem dX0_spread_25 : decode cX0_spread 25 = .ok (.istore_n 3, 1) := by decide +kernel
theorem dX0_spread_26 : decode cX0_spread 26 = .ok (.iload_n 3, 1) := by decide +kernel
theorem dX0_spread_27 : decode cX0_spread 27 = .ok (.aload_n 0, 1) := by decide +kernel
theorem dX0_spread_28 : decode cX0_spread 28 = .ok (.getfield 9, 3) := by decide +kernel
theorem dX0_spread_31 : decode cX0_spread 31 = .ok (.if_icmp .ge 31, 3) := by decide +kernel
theorem dX0_spread_34 : decode cX0_spread 34 = .ok (.iload_n 1, 1) := by decide +kernel
theorem dX0_spread_35 : decode cX0_spread 35 = .ok (.aload_n 0, 1) := by decide +kernel
theorem dX0_spread_36 : decode cX0_spread 36 = .ok (.getfield 19, 3) := by decide +kernel
theorem dX0_spread_39 : decode cX0_spread 39 = .ok (.iload_n 3, 1) := by decide +kernel
theorem dX0_spread_40 : decode cX0_spread 40 = .ok (.iaload, 1) := by decide +kernel
theorem dX0_spread_41 : decode cX0_spread 41 = .ok (.invokestatic 62, 3) := by decide +kernel
theorem dX0_spread_44 : decode cX0_spread 44 = .ok (.istore_n 1, 1) := by decide +kernel
theorem dX0_spread_45 : decode cX0_spread 45 = .ok (.iload_n 2, 1) := by decide +kernel
theorem dX0_spread_46 : decode cX0_spread 46 = .ok (.aload_n 0, 1) := by decide +kernel
theorem dX0_spread_47 : decode cX0_spread 47 = .ok (.getfield 19, 3) := by decide +kernel
theorem dX0_spread_50 : decode cX0_spread 50 = .ok (.iload_n 3, 1) := by decide +kernel
theorem dX0_spread_51 : decode cX0_spread 51 = .ok (.iaload, 1) := by decide +kernel
theorem dX0_spread_52 : decode cX0_spread 52 = .ok (.invokestatic 67, 3) := by decide +kernel
theorem dX0_spread_55 : decode cX0_spread 55 = .ok (.istore_n 2, 1) := by decide +kernel
theorem dX0_spread_56 : decode cX0_spread 56 = .ok (.iinc 3 1, 3) := by decide +kernel
theorem dX0_spread_59 : decode cX0_spread 59 = .ok (.goto (-33), 3) := by decide +kernel
theorem dX0_spread_62 : decode cX0_spread 62 = .ok (.iload_n 2, 1) := by decide +kernel
theorem dX0_spread_63 : decode cX0_spread 63 = .ok (.iload_n 1, 1) := by decide +kernel
theorem dX0_spread_64 : decode cX0_spread 64 = .ok (.isub, 1) := by decide +kernel
theorem dX0_spread_65 : decode cX0_spread 65 = .ok (.ireturn, 1) := by decide +kernel
theorem dX0_movedFrom_0 : decode cX0_movedFrom 0 = .ok (.iconst 0, 1) := by decide +kernel
theorem dX0_movedFrom_1 : decode cX0_movedFrom 1 = .ok (.istore_n 2, 1) := by decide +kernel
theorem dX0_movedFrom_2 : decode cX0_movedFrom 2 = .ok (.iconst 0, 1) := by decide +kernel
theorem dX0_movedFrom_3 : decode cX0_movedFrom 3 = .ok (.istore_n 3, 1) := by decide +kernel
theorem dX0_movedFrom_4 : decode cX0_movedFrom 4 = .ok (.iload_n 3, 1) := by decide +kernel
theorem dX0_movedFrom_5 : decode cX0_movedFrom 5 = .ok (.aload_n 0, 1) := by decide +kernel
theorem dX0_movedFrom_6 : decode cX0_movedFrom 6 = .ok (.getfield 9, 3) := by decide +kernel
theorem dX0_movedFrom_9 : decode cX0_movedFrom 9 = .ok (.if_icmp .ge 27, 3) := by decide +kernel
theorem dX0_movedFrom_12 : decode cX0_movedFrom 12 = .ok (.aload_n 0, 1) := by decide +kernel
theorem dX0_movedFrom_13 : decode cX0_movedFrom 13 = .ok (.getfield 19, 3) := by decide +kernel
theorem dX0_movedFrom_16 : decode cX0_movedFrom 16 = .ok (.iload_n 3, 1) := by decide +kernel
theorem dX0_movedFrom_17 : decode cX0_movedFrom 17 = .ok (.iaload, 1) := by decide +kernel
theorem dX0_movedFrom_18 : decode cX0_movedFrom 18 = .ok (.aload_n 1, 1) := by decide +kernel
theorem dX0_movedFrom_19 : decode cX0_movedFrom 19 = .ok (.getfield 19, 3) := by decide +kernel
theorem dX0_movedFrom_22 : decode cX0_movedFrom 22 = .ok (.iload_n 3, 1) := by decide +kernel
theorem dX0_movedFrom_23 : decode cX0_movedFrom 23 = .ok (.iaload, 1) := by decide +kernel
theorem dX0_movedFrom_24 : decode cX0_movedFrom 24 = .ok (.if_icmp .eq 6, 3) := by decide +kernel
theorem dX0_movedFrom_27 : decode cX0_movedFrom 27 = .ok (.iinc 2 1, 3) := by decide +kernel
theorem dX0_movedFrom_30 : decode cX0_movedFrom 30 = .ok (.iinc 3 1, 3) := by decide +kernel
theorem dX0_movedFrom_33 : decode cX0_movedFrom 33 = .ok (.goto (-29), 3) := by decide +kernel
theorem dX0_movedFrom_36 : decode cX0_movedFrom 36 = .ok (.iload_n 2, 1) := by decide +kernel
theorem dX0_movedFrom_37 : decode cX0_movedFrom 37 = .ok (.ireturn, 1) := by decide +kernel
theorem dX0_isTaken_0 : decode cX0_isTaken 0 = .ok (.iconst 0, 1) := by decide +kernel
theorem dX0_isTaken_1 : decode cX0_isTaken 1 = .ok (.istore_n 3, 1) := by decide +kernel
theorem dX0_isTaken_2 : decode cX0_isTaken 2 = .ok (.iload_n 3, 1) := by decide +kernel
theorem dX0_isTaken_3 : decode cX0_isTaken 3 = .ok (.aload_n 0, 1) := by decide +kernel
theorem dX0_isTaken_4 : decode cX0_isTaken 4 = .ok (.getfield 9, 3) := by decide +kernel
theorem dX0_isTaken_7 : decode cX0_isTaken 7 = .ok (.if_icmp .ge 26, 3) := by decide +kernel
theorem dX0_isTaken_10 : decode cX0_isTaken 10 = .ok (.iload_n 3, 1) := by decide +kernel
theorem dX0_isTaken_11 : decode cX0_isTaken 11 = .ok (.iload_n 2, 1) := by decide +kernel
theorem dX0_isTaken_12 : decode cX0_isTaken 12 = .ok (.if_icmp .eq 15, 3) := by decide +kernel
theorem dX0_isTaken_15 : decode cX0_isTaken 15 = .ok (.aload_n 0, 1) := by decide +kernel
theorem dX0_isTaken_16 : decode cX0_isTaken 16 = .ok (.getfield 19, 3) := by decide +kernel
theorem dX0_isTaken_19 : decode cX0_isTaken 19 = .ok (.iload_n 3, 1) := by decide +kernel
theorem dX0_isTaken_20 : decode cX0_isTaken 20 = .ok (.iaload, 1) := by decide +kernel
theorem dX0_isTaken_21 : decode cX0_isTaken 21 = .ok (.iload_n 1, 1) := by decide +kernel
theorem dX0_isTaken_22 : decode cX0_isTaken 22 = .ok (.if_icmp .ne 5, 3) := by decide +kernel
theorem dX0_isTaken_25 : decode cX0_isTaken 25 = .ok (.iconst 1, 1) := by decide +kernel
theorem dX0_isTaken_26 : decode cX0_isTaken 26 = .ok (.ireturn, 1) := by decide +kernel
theorem dX0_isTaken_27 : decode cX0_isTaken 27 = .ok (.iinc 3 1, 3) := by decide +kernel
theorem dX0_isTaken_30 : decode cX0_isTaken 30 = .ok (.goto (-28), 3) := by decide +kernel
theorem dX0_isTaken_33 : decode cX0_isTaken 33 = .ok (.iconst 0, 1) := by decide +kernel
theorem dX0_isTaken_34 : decode cX0_isTaken 34 = .ok (.ireturn, 1) := by decide +kernel
theorem dX0_nearestTo_0 : decode cX0_nearestTo 0 = .ok (.bipush (-4), 2) := by decide +kernel
theorem dX0_nearestTo_2 : decode cX0_nearestTo 2 = .ok (.istore_n 2, 1) := by decide +kernel
theorem dX0_nearestTo_3 : decode cX0_nearestTo 3 = .ok (.bipush 100, 2) := by decide +kernel
theorem dX0_nearestTo_5 : decode cX0_nearestTo 5 = .ok (.istore_n 3, 1) := by decide +kernel
theorem dX0_nearestTo_6 : decode cX0_nearestTo 6 = .ok (.iconst 0, 1) := by decide +kernel
theorem dX0_nearestTo_7 : decode cX0_nearestTo 7 = .ok (.istore 4, 2) := by decide +kernel
theorem dX0_nearestTo_9 : decode cX0_nearestTo 9 = .ok (.iload 4, 2) := by decide +kernel
theorem dX0_nearestTo_11 : decode cX0_nearestTo 11 = .ok (.aload_n 0, 1) := by decide +kernel
theorem dX0_nearestTo_12 : decode cX0_nearestTo 12 = .ok (.getfield 9, 3) := by decide +kernel
theorem dX0_nearestTo_15 : decode cX0_nearestTo 15 = .ok (.if_icmp .ge 46, 3) := by decide +kernel
theorem dX0_nearestTo_18 : decode cX0_nearestTo 18 = .ok (.aload_n 0, 1) := by decide +kernel
theorem dX0_nearestTo_19 : decode cX0_nearestTo 19 = .ok (.getfield 19, 3) := by decide +kernel
theorem dX0_nearestTo_22 : decode cX0_nearestTo 22 = .ok (.iload_n 1, 1) := by decide +kernel
theorem dX0_nearestTo_23 : decode cX0_nearestTo 23 = .ok (.iaload, 1) := by decide +kernel
theorem dX0_nearestTo_24 : decode cX0_nearestTo 24 = .ok (.aload_n 0, 1) := by decide +kernel
theorem dX0_nearestTo_25 : decode cX0_nearestTo 25 = .ok (.getfield 19, 3) := by decide +kernel
theorem dX0_nearestTo_28 : decode cX0_nearestTo 28 = .ok (.iload 4, 2) := by decide +kernel
theorem dX0_nearestTo_30 : decode cX0_nearestTo 30 = .ok (.iaload, 1) := by decide +kernel
theorem dX0_nearestTo_31 : decode cX0_nearestTo 31 = .ok (.isub, 1) := by decide +kernel
theorem dX0_nearestTo_32 : decode cX0_nearestTo 32 = .ok (.invokestatic 70, 3) := by decide +kernel
theorem dX0_nearestTo_35 : decode cX0_nearestTo 35 = .ok (.istore 5, 2) := by decide +kernel
theorem dX0_nearestTo_37 : decode cX0_nearestTo 37 = .ok (.iload 4, 2) := by decide +kernel
theorem dX0_nearestTo_39 : decode cX0_nearestTo 39 = .ok (.iload_n 1, 1) := by decide +kernel
theorem dX0_nearestTo_40 : decode cX0_nearestTo 40 = .ok (.if_icmp .eq 15, 3) := by decide +kernel
theorem dX0_nearestTo_43 : decode cX0_nearestTo 43 = .ok (.iload 5, 2) := by decide +kernel
theorem dX0_nearestTo_45 : decode cX0_nearestTo 45 = .ok (.iload_n 3, 1) := by decide +kernel
theorem dX0_nearestTo_46 : decode cX0_nearestTo 46 = .ok (.if_icmp .ge 9, 3) := by decide +kernel
theorem dX0_nearestTo_49 : decode cX0_nearestTo 49 = .ok (.iload 5, 2) := by decide +kernel
theorem dX0_nearestTo_51 : decode cX0_nearestTo 51 = .ok (.istore_n 3, 1) := by decide +kernel
theorem dX0_nearestTo_52 : decode cX0_nearestTo 52 = .ok (.iload 4, 2) := by decide +kernel
theorem dX0_nearestTo_54 : decode cX0_nearestTo 54 = .ok (.istore_n 2, 1) := by decide +kernel
theorem dX0_nearestTo_55 : decode cX0_nearestTo 55 = .ok (.iinc 4 1, 3) := by decide +kernel
theorem dX0_nearestTo_58 : decode cX0_nearestTo 58 = .ok (.goto (-49), 3) := by decide +kernel
theorem dX0_nearestTo_61 : decode cX0_nearestTo 61 = .ok (.iload_n 2, 1) := by decide +kernel
theorem dX0_nearestTo_62 : decode cX0_nearestTo 62 = .ok (.ireturn, 1) := by decide +kernel
theorem dX0_driftOf_0 : decode cX0_driftOf 0 = .ok (.iconst 0, 1) := by decide +kernel
theorem dX0_driftOf_1 : decode cX0_driftOf 1 = .ok (.istore_n 2, 1) := by decide +kernel
theorem dX0_driftOf_2 : decode cX0_driftOf 2 = .ok (.iconst 0, 1) := by decide +kernel
theorem dX0_driftOf_3 : decode cX0_driftOf 3 = .ok (.istore_n 3, 1) := by decide +kernel
theorem dX0_driftOf_4 : decode cX0_driftOf 4 = .ok (.iload_n 3, 1) := by decide +kernel
theorem dX0_driftOf_5 : decode cX0_driftOf 5 = .ok (.aload_n 0, 1) := by decide +kernel
theorem dX0_driftOf_6 : decode cX0_driftOf 6 = .ok (.getfield 9, 3) := by decide +kernel
theorem dX0_driftOf_9 : decode cX0_driftOf 9 = .ok (.if_icmp .ge 52, 3) := by decide +kernel
theorem dX0_driftOf_12 : decode cX0_driftOf 12 = .ok (.iload_n 3, 1) := by decide +kernel
theorem dX0_driftOf_13 : decode cX0_driftOf 13 = .ok (.iload_n 1, 1) := by decide +kernel
theorem dX0_driftOf_14 : decode cX0_driftOf 14 = .ok (.if_icmp .eq 41, 3) := by decide +kernel
theorem dX0_driftOf_17 : decode cX0_driftOf 17 = .ok (.aload_n 0, 1) := by decide +kernel
theorem dX0_driftOf_18 : decode cX0_driftOf 18 = .ok (.getfield 22, 3) := by decide +kernel
theorem dX0_driftOf_21 : decode cX0_driftOf 21 = .ok (.iload_n 1, 1) := by decide +kernel
theorem dX0_driftOf_22 : decode cX0_driftOf 22 = .ok (.iconst 5, 1) := by decide +kernel
theorem dX0_driftOf_23 : decode cX0_driftOf 23 = .ok (.imul, 1) := by decide +kernel
theorem dX0_driftOf_24 : decode cX0_driftOf 24 = .ok (.iload_n 3, 1) := by decide +kernel
theorem dX0_driftOf_25 : decode cX0_driftOf 25 = .ok (.iadd, 1) := by decide +kernel
theorem dX0_driftOf_26 : decode cX0_driftOf 26 = .ok (.iaload, 1) := by decide +kernel
theorem dX0_driftOf_27 : decode cX0_driftOf 27 = .ok (.istore 4, 2) := by decide +kernel
theorem dX0_driftOf_29 : decode cX0_driftOf 29 = .ok (.iload_n 2, 1) := by decide +kernel
theorem dX0_driftOf_30 : decode cX0_driftOf 30 = .ok (.aload_n 0, 1) := by decide +kernel
theorem dX0_driftOf_31 : decode cX0_driftOf 31 = .ok (.getfield 19, 3) := by decide +kernel
theorem dX0_driftOf_34 : decode cX0_driftOf 34 = .ok (.iload_n 1, 1) := by decide +kernel
theorem dX0_driftOf_35 : decode cX0_driftOf 35 = .ok (.iaload, 1) := by decide +kernel
theorem dX0_driftOf_36 : decode cX0_driftOf 36 = .ok (.aload_n 0, 1) := by decide +kernel
theorem dX0_driftOf_37 : decode cX0_driftOf 37 = .ok (.getfield 19, 3) := by decide +kernel
theorem dX0_driftOf_40 : decode cX0_driftOf 40 = .ok (.iload_n 3, 1) := by decide +kernel
theorem dX0_driftOf_41 : decode cX0_driftOf 41 = .ok (.iaload, 1) := by decide +kernel
theorem dX0_driftOf_42 : decode cX0_driftOf 42 = .ok (.if_icmp .le 8, 3) := by decide +kernel
theorem dX0_driftOf_45 : decode cX0_driftOf 45 = .ok (.iload 4, 2) := by decide +kernel
theorem dX0_driftOf_47 : decode cX0_driftOf 47 = .ok (.goto 6, 3) := by decide +kernel
theorem dX0_driftOf_50 : decode cX0_driftOf 50 = .ok (.iload 4, 2) := by decide +kernel
theorem dX0_driftOf_52 : decode cX0_driftOf 52 = .ok (.ineg, 1) := by decide +kernel
theorem dX0_driftOf_53 : decode cX0_driftOf 53 = .ok (.iadd, 1) := by decide +kernel
theorem dX0_driftOf_54 : decode cX0_driftOf 54 = .ok (.istore_n 2, 1) := by decide +kernel
theorem dX0_driftOf_55 : decode cX0_driftOf 55 = .ok (.iinc 3 1, 3) := by decide +kernel
theorem dX0_driftOf_58 : decode cX0_driftOf 58 = .ok (.goto (-54), 3) := by decide +kernel
theorem dX0_driftOf_61 : decode cX0_driftOf 61 = .ok (.aload_n 0, 1) := by decide +kernel
theorem dX0_driftOf_62 : decode cX0_driftOf 62 = .ok (.getfield 15, 3) := by decide +kernel
theorem dX0_driftOf_65 : decode cX0_driftOf 65 = .ok (.iload_n 1, 1) := by decide +kernel
theorem dX0_driftOf_66 : decode cX0_driftOf 66 = .ok (.iaload, 1) := by decide +kernel
theorem dX0_driftOf_67 : decode cX0_driftOf 67 = .ok (.tableswitch 42 1 3 #[25, 29, 33], 25) := by decide +kernel
theorem dX0_driftOf_92 : decode cX0_driftOf 92 = .ok (.iconst 2, 1) := by decide +kernel
theorem dX0_driftOf_93 : decode cX0_driftOf 93 = .ok (.iload_n 2, 1) := by decide +kernel
theorem dX0_driftOf_94 : decode cX0_driftOf 94 = .ok (.imul, 1) := by decide +kernel
theorem dX0_driftOf_95 : decode cX0_driftOf 95 = .ok (.ireturn, 1) := by decide +kernel
theorem dX0_driftOf_96 : decode cX0_driftOf 96 = .ok (.iload_n 2, 1) := by decide +kernel
theorem dX0_driftOf_97 : decode cX0_driftOf 97 = .ok (.iconst 2, 1) := by decide +kernel
theorem dX0_driftOf_98 : decode cX0_driftOf 98 = .ok (.idiv, 1) := by decide +kernel
theorem dX0_driftOf_99 : decode cX0_driftOf 99 = .ok (.ireturn, 1) := by decide +kernel
theorem dX0_driftOf_100 : decode cX0_driftOf 100 = .ok (.iconst 2, 1) := by decide +kernel
theorem dX0_driftOf_101 : decode cX0_driftOf 101 = .ok (.iload_n 2, 1) := by decide +kernel
theorem dX0_driftOf_102 : decode cX0_driftOf 102 = .ok (.imul, 1) := by decide +kernel
theorem dX0_driftOf_103 : decode cX0_driftOf 103 = .ok (.iload_n 2, 1) := by decide +kernel
theorem dX0_driftOf_104 : decode cX0_driftOf 104 = .ok (.invokestatic 74, 3) := by decide +kernel
theorem dX0_driftOf_107 : decode cX0_driftOf 107 = .ok (.isub, 1) := by decide +kernel
theorem dX0_driftOf_108 : decode cX0_driftOf 108 = .ok (.ireturn, 1) := by decide +kernel
theorem dX0_driftOf_109 : decode cX0_driftOf 109 = .ok (.iload_n 2, 1) := by decide +kernel
theorem dX0_driftOf_110 : decode cX0_driftOf 110 = .ok (.ireturn, 1) := by decide +kernel
theorem dX0_isHeld_0 : decode cX0_isHeld 0 = .ok (.iconst 0, 1) := by decide +kernel
theorem dX0_isHeld_1 : decode cX0_isHeld 1 = .ok (.istore_n 3, 1) := by decide +kernel
theorem dX0_isHeld_2 : decode cX0_isHeld 2 = .ok (.iload_n 3, 1) := by decide +kernel
theorem dX0_isHeld_3 : decode cX0_isHeld 3 = .ok (.aload_n 0, 1) := by decide +kernel
theorem dX0_isHeld_4 : decode cX0_isHeld 4 = .ok (.getfield 25, 3) := by decide +kernel
theorem dX0_isHeld_7 : decode cX0_isHeld 7 = .ok (.if_icmp .ge 100, 3) := by decide +kernel
theorem dX0_isHeld_10 : decode cX0_isHeld 10 = .ok (.aload_n 0, 1) := by decide +kernel
theorem dX0_isHeld_11 : decode cX0_isHeld 11 = .ok (.getfield 28, 3) := by decide +kernel
theorem dX0_isHeld_14 : decode cX0_isHeld 14 = .ok (.iload_n 3, 1) := by decide +kernel
theorem dX0_isHeld_15 : decode cX0_isHeld 15 = .ok (.iaload, 1) := by decide +kernel
theorem dX0_isHeld_16 : decode cX0_isHeld 16 = .ok (.iload_n 1, 1) := by decide +kernel
theorem dX0_isHeld_17 : decode cX0_isHeld 17 = .ok (.if_icmp .eq 13, 3) := by decide +kernel
theorem dX0_isHeld_20 : decode cX0_isHeld 20 = .ok (.aload_n 0, 1) := by decide +kernel
theorem dX0_isHeld_21 : decode cX0_isHeld 21 = .ok (.getfield 31, 3) := by decide +kernel
theorem dX0_isHeld_24 : decode cX0_isHeld 24 = .ok (.iload_n 3, 1) := by decide +kernel
theorem dX0_isHeld_25 : decode cX0_isHeld 25 = .ok (.iaload, 1) := by decide +kernel
theorem dX0_isHeld_26 : decode cX0_isHeld 26 = .ok (.iload_n 1, 1) := by decide +kernel
theorem dX0_isHeld_27 : decode cX0_isHeld 27 = .ok (.if_icmp .ne 74, 3) := by decide +kernel
theorem dX0_isHeld_30 : decode cX0_isHeld 30 = .ok (.aload_n 0, 1) := by decide +kernel
theorem dX0_isHeld_31 : decode cX0_isHeld 31 = .ok (.getfield 19, 3) := by decide +kernel
theorem dX0_isHeld_34 : decode cX0_isHeld 34 = .ok (.aload_n 0, 1) := by decide +kernel
theorem dX0_isHeld_35 : decode cX0_isHeld 35 = .ok (.getfield 28, 3) := by decide +kernel
theorem dX0_isHeld_38 : decode cX0_isHeld 38 = .ok (.iload_n 3, 1) := by decide +kernel
theorem dX0_isHeld_39 : decode cX0_isHeld 39 = .ok (.iaload, 1) := by decide +kernel
theorem dX0_isHeld_40 : decode cX0_isHeld 40 = .ok (.iload_n 1, 1) := by decide +kernel
theorem dX0_isHeld_41 : decode cX0_isHeld 41 = .ok (.if_icmp .ne 12, 3) := by decide +kernel
theorem dX0_isHeld_44 : decode cX0_isHeld 44 = .ok (.aload_n 0, 1) := by decide +kernel
theorem dX0_isHeld_45 : decode cX0_isHeld 45 = .ok (.getfield 31, 3) := by decide +kernel
theorem dX0_isHeld_48 : decode cX0_isHeld 48 = .ok (.iload_n 3, 1) := by decide +kernel
theorem dX0_isHeld_49 : decode cX0_isHeld 49 = .ok (.iaload, 1) := by decide +kernel
theorem dX0_isHeld_50 : decode cX0_isHeld 50 = .ok (.goto 9, 3) := by decide +kernel
theorem dX0_isHeld_53 : decode cX0_isHeld 53 = .ok (.aload_n 0, 1) := by decide +kernel
theorem dX0_isHeld_54 : decode cX0_isHeld 54 = .ok (.getfield 28, 3) := by decide +kernel
theorem dX0_isHeld_57 : decode cX0_isHeld 57 = .ok (.iload_n 3, 1) := by decide +kernel
theorem dX0_isHeld_58 : decode cX0_isHeld 58 = .ok (.iaload, 1) := by decide +kernel
theorem dX0_isHeld_59 : decode cX0_isHeld 59 = .ok (.iaload, 1) := by decide +kernel
theorem dX0_isHeld_60 : decode cX0_isHeld 60 = .ok (.istore 4, 2) := by decide +kernel
theorem dX0_isHeld_62 : decode cX0_isHeld 62 = .ok (.iload_n 2, 1) := by decide +kernel
theorem dX0_isHeld_63 : decode cX0_isHeld 63 = .ok (.iload 4, 2) := by decide +kernel
theorem dX0_isHeld_65 : decode cX0_isHeld 65 = .ok (.isub, 1) := by decide +kernel
theorem dX0_isHeld_66 : decode cX0_isHeld 66 = .ok (.invokestatic 70, 3) := by decide +kernel
theorem dX0_isHeld_69 : decode cX0_isHeld 69 = .ok (.istore 5, 2) := by decide +kernel
theorem dX0_isHeld_71 : decode cX0_isHeld 71 = .ok (.iload 5, 2) := by decide +kernel
theorem dX0_isHeld_73 : decode cX0_isHeld 73 = .ok (.aload_n 0, 1) := by decide +kernel
theorem dX0_isHeld_74 : decode cX0_isHeld 74 = .ok (.getfield 34, 3) := by decide +kernel
theorem dX0_isHeld_77 : decode cX0_isHeld 77 = .ok (.iload_n 3, 1) := by decide +kernel
theorem dX0_isHeld_78 : decode cX0_isHeld 78 = .ok (.iaload, 1) := by decide +kernel
theorem dX0_isHeld_79 : decode cX0_isHeld 79 = .ok (.if_icmp .le 22, 3) := by decide +kernel
theorem dX0_isHeld_82 : decode cX0_isHeld 82 = .ok (.iload 5, 2) := by decide +kernel
theorem dX0_isHeld_84 : decode cX0_isHeld 84 = .ok (.aload_n 0, 1) := by decide +kernel
theorem dX0_isHeld_85 : decode cX0_isHeld 85 = .ok (.getfield 19, 3) := by decide +kernel
theorem dX0_isHeld_88 : decode cX0_isHeld 88 = .ok (.iload_n 1, 1) := by decide +kernel
theorem dX0_isHeld_89 : decode cX0_isHeld 89 = .ok (.iaload, 1) := by decide +kernel
theorem dX0_isHeld_90 : decode cX0_isHeld 90 = .ok (.iload 4, 2) := by decide +kernel
theorem dX0_isHeld_92 : decode cX0_isHeld 92 = .ok (.isub, 1) := by decide +kernel
theorem dX0_isHeld_93 : decode cX0_isHeld 93 = .ok (.invokestatic 70, 3) := by decide +kernel
theorem dX0_isHeld_96 : decode cX0_isHeld 96 = .ok (.if_icmp .le 5, 3) := by decide +kernel
theorem dX0_isHeld_99 : decode cX0_isHeld 99 = .ok (.iconst 1, 1) := by decide +kernel
theorem dX0_isHeld_100 : decode cX0_isHeld 100 = .ok (.ireturn, 1) := by decide +kernel
theorem dX0_isHeld_101 : decode cX0_isHeld 101 = .ok (.iinc 3 1, 3) := by decide +kernel
theorem dX0_isHeld_104 : decode cX0_isHeld 104 = .ok (.goto (-102), 3) := by decide +kernel
theorem dX0_isHeld_107 : decode cX0_isHeld 107 = .ok (.iconst 0, 1) := by decide +kernel
theorem dX0_isHeld_108 : decode cX0_isHeld 108 = .ok (.ireturn, 1) := by decide +kernel
theorem dX0_passDay_0 : decode cX0_passDay 0 = .ok (.aload_n 0, 1) := by decide +kernel
theorem dX0_passDay_1 : decode cX0_passDay 1 = .ok (.getfield 40, 3) := by decide +kernel
theorem dX0_passDay_4 : decode cX0_passDay 4 = .ok (.bipush 7, 2) := by decide +kernel
theorem dX0_passDay_6 : decode cX0_passDay 6 = .ok (.irem, 1) := by decide +kernel
theorem dX0_passDay_7 : decode cX0_passDay 7 = .ok (.aload_n 0, 1) := by decide +kernel
theorem dX0_passDay_8 : decode cX0_passDay 8 = .ok (.getfield 37, 3) := by decide +kernel
theorem dX0_passDay_11 : decode cX0_passDay 11 = .ok (.if_icmp .ne 7, 3) := by decide +kernel
theorem dX0_passDay_14 : decode cX0_passDay 14 = .ok (.iconst 1, 1) := by decide +kernel
theorem dX0_passDay_15 : decode cX0_passDay 15 = .ok (.goto 4, 3) := by decide +kernel
theorem dX0_passDay_18 : decode cX0_passDay 18 = .ok (.iconst 0, 1) := by decide +kernel
theorem dX0_passDay_19 : decode cX0_passDay 19 = .ok (.istore_n 1, 1) := by decide +kernel
theorem dX0_passDay_20 : decode cX0_passDay 20 = .ok (.iconst 0, 1) := by decide +kernel
theorem dX0_passDay_21 : decode cX0_passDay 21 = .ok (.istore_n 2, 1) := by decide +kernel
theorem dX0_passDay_22 : decode cX0_passDay 22 = .ok (.iload_n 2, 1) := by decide +kernel
theorem dX0_passDay_23 : decode cX0_passDay 23 = .ok (.aload_n 0, 1) := by decide +kernel
theorem dX0_passDay_24 : decode cX0_passDay 24 = .ok (.getfield 9, 3) := by decide +kernel
theorem dX0_passDay_27 : decode cX0_passDay 27 = .ok (.if_icmp .ge 26, 3) := by decide +kernel
theorem dX0_passDay_30 : decode cX0_passDay 30 = .ok (.iload_n 1, 1) := by decide +kernel
theorem dX0_passDay_31 : decode cX0_passDay 31 = .ok (.ifCond .eq 11, 3) := by decide +kernel
theorem dX0_passDay_34 : decode cX0_passDay 34 = .ok (.aload_n 0, 1) := by decide +kernel
theorem dX0_passDay_35 : decode cX0_passDay 35 = .ok (.iload_n 2, 1) := by decide +kernel
theorem dX0_passDay_36 : decode cX0_passDay 36 = .ok (.invokevirtual 79, 3) := by decide +kernel
theorem dX0_passDay_39 : decode cX0_passDay 39 = .ok (.goto 8, 3) := by decide +kernel
theorem dX0_passDay_42 : decode cX0_passDay 42 = .ok (.aload_n 0, 1) := by decide +kernel
theorem dX0_passDay_43 : decode cX0_passDay 43 = .ok (.iload_n 2, 1) := by decide +kernel
theorem dX0_passDay_44 : decode cX0_passDay 44 = .ok (.invokevirtual 83, 3) := by decide +kernel
theorem dX0_passDay_47 : decode cX0_passDay 47 = .ok (.iinc 2 1, 3) := by decide +kernel
theorem dX0_passDay_50 : decode cX0_passDay 50 = .ok (.goto (-28), 3) := by decide +kernel
theorem dX0_passDay_53 : decode cX0_passDay 53 = .ok (.aload_n 0, 1) := by decide +kernel
theorem dX0_passDay_54 : decode cX0_passDay 54 = .ok (.dup, 1) := by decide +kernel
theorem dX0_passDay_55 : decode cX0_passDay 55 = .ok (.getfield 40, 3) := by decide +kernel
theorem dX0_passDay_58 : decode cX0_passDay 58 = .ok (.iconst 1, 1) := by decide +kernel
theorem dX0_passDay_59 : decode cX0_passDay 59 = .ok (.iadd, 1) := by decide +kernel
theorem dX0_passDay_60 : decode cX0_passDay 60 = .ok (.putfield 40, 3) := by decide +kernel
theorem dX0_passDay_63 : decode cX0_passDay 63 = .ok (.return_, 1) := by decide +kernel
theorem dX0_passDays_0 : decode cX0_passDays 0 = .ok (.iconst 0, 1) := by decide +kernel
theorem dX0_passDays_1 : decode cX0_passDays 1 = .ok (.istore_n 2, 1) := by decide +kernel
theorem dX0_passDays_2 : decode cX0_passDays 2 = .ok (.iload_n 2, 1) := by decide +kernel
theorem dX0_passDays_3 : decode cX0_passDays 3 = .ok (.iload_n 1, 1) := by decide +kernel
theorem dX0_passDays_4 : decode cX0_passDays 4 = .ok (.if_icmp .ge 13, 3) := by decide +kernel
theorem dX0_passDays_7 : decode cX0_passDays 7 = .ok (.aload_n 0, 1) := by decide +kernel
theorem dX0_passDays_8 : decode cX0_passDays 8 = .ok (.invokevirtual 86, 3) := by decide +kernel
theorem dX0_passDays_11 : decode cX0_passDays 11 = .ok (.iinc 2 1, 3) := by decide +kernel
theorem dX0_passDays_14 : decode cX0_passDays 14 = .ok (.goto (-12), 3) := by decide +kernel
theorem dX0_passDays_17 : decode cX0_passDays 17 = .ok (.return_, 1) := by decide +kernel
theorem dX0_spreadBehind_0 : decode cX0_spreadBehind 0 = .ok (.aload_n 0, 1) := by decide +kernel
theorem dX0_spreadBehind_1 : decode cX0_spreadBehind 1 = .ok (.iload_n 1, 1) := by decide +kernel
theorem dX0_spreadBehind_2 : decode cX0_spreadBehind 2 = .ok (.invokevirtual 89, 3) := by decide +kernel
theorem dX0_spreadBehind_5 : decode cX0_spreadBehind 5 = .ok (.aload_n 0, 1) := by decide +kernel
theorem dX0_spreadBehind_6 : decode cX0_spreadBehind 6 = .ok (.invokevirtual 92, 3) := by decide +kernel
theorem dX0_spreadBehind_9 : decode cX0_spreadBehind 9 = .ok (.ireturn, 1) := by decide +kernel
theorem dX0_bumpsIn_0 : decode cX0_bumpsIn 0 = .ok (.aload_n 0, 1) := by decide +kernel
theorem dX0_bumpsIn_1 : decode cX0_bumpsIn 1 = .ok (.getfield 43, 3) := by decide +kernel
theorem dX0_bumpsIn_4 : decode cX0_bumpsIn 4 = .ok (.istore_n 2, 1) := by decide +kernel
theorem dX0_bumpsIn_5 : decode cX0_bumpsIn 5 = .ok (.aload_n 0, 1) := by decide +kernel
theorem dX0_bumpsIn_6 : decode cX0_bumpsIn 6 = .ok (.iload_n 1, 1) := by decide +kernel
theorem dX0_bumpsIn_7 : decode cX0_bumpsIn 7 = .ok (.invokevirtual 89, 3) := by decide +kernel
theorem dX0_bumpsIn_10 : decode cX0_bumpsIn 10 = .ok (.aload_n 0, 1) := by decide +kernel
theorem dX0_bumpsIn_11 : decode cX0_bumpsIn 11 = .ok (.getfield 43, 3) := by decide +kernel
theorem dX0_bumpsIn_14 : decode cX0_bumpsIn 14 = .ok (.iload_n 2, 1) := by decide +kernel
theorem dX0_bumpsIn_15 : decode cX0_bumpsIn 15 = .ok (.isub, 1) := by decide +kernel
theorem dX0_bumpsIn_16 : decode cX0_bumpsIn 16 = .ok (.ireturn, 1) := by decide +kernel
theorem dX0_comeIn_0 : decode cX0_comeIn 0 = .ok (.aload_n 0, 1) := by decide +kernel
theorem dX0_comeIn_1 : decode cX0_comeIn 1 = .ok (.iload_n 1, 1) := by decide +kernel
theorem dX0_comeIn_2 : decode cX0_comeIn 2 = .ok (.invokevirtual 96, 3) := by decide +kernel
theorem dX0_comeIn_5 : decode cX0_comeIn 5 = .ok (.istore_n 2, 1) := by decide +kernel
theorem dX0_comeIn_6 : decode cX0_comeIn 6 = .ok (.iload_n 2, 1) := by decide +kernel
theorem dX0_comeIn_7 : decode cX0_comeIn 7 = .ok (.ifCond .ge 4, 3) := by decide +kernel
theorem dX0_comeIn_10 : decode cX0_comeIn 10 = .ok (.return_, 1) := by decide +kernel
theorem dX0_comeIn_11 : decode cX0_comeIn 11 = .ok (.aload_n 0, 1) := by decide +kernel
theorem dX0_comeIn_12 : decode cX0_comeIn 12 = .ok (.getfield 19, 3) := by decide +kernel
theorem dX0_comeIn_15 : decode cX0_comeIn 15 = .ok (.iload_n 2, 1) := by decide +kernel
theorem dX0_comeIn_16 : decode cX0_comeIn 16 = .ok (.iaload, 1) := by decide +kernel
theorem dX0_comeIn_17 : decode cX0_comeIn 17 = .ok (.aload_n 0, 1) := by decide +kernel
theorem dX0_comeIn_18 : decode cX0_comeIn 18 = .ok (.getfield 19, 3) := by decide +kernel
theorem dX0_comeIn_21 : decode cX0_comeIn 21 = .ok (.iload_n 1, 1) := by decide +kernel
theorem dX0_comeIn_22 : decode cX0_comeIn 22 = .ok (.iaload, 1) := by decide +kernel
theorem dX0_comeIn_23 : decode cX0_comeIn 23 = .ok (.isub, 1) := by decide +kernel
theorem dX0_comeIn_24 : decode cX0_comeIn 24 = .ok (.istore_n 3, 1) := by decide +kernel
theorem dX0_comeIn_25 : decode cX0_comeIn 25 = .ok (.aload_n 0, 1) := by decide +kernel
theorem dX0_comeIn_26 : decode cX0_comeIn 26 = .ok (.getfield 19, 3) := by decide +kernel
theorem dX0_comeIn_29 : decode cX0_comeIn 29 = .ok (.iload_n 1, 1) := by decide +kernel
theorem dX0_comeIn_30 : decode cX0_comeIn 30 = .ok (.iaload, 1) := by decide +kernel
theorem dX0_comeIn_31 : decode cX0_comeIn 31 = .ok (.iload_n 3, 1) := by decide +kernel
theorem dX0_comeIn_32 : decode cX0_comeIn 32 = .ok (.invokestatic 74, 3) := by decide +kernel
theorem dX0_comeIn_35 : decode cX0_comeIn 35 = .ok (.iadd, 1) := by decide +kernel
theorem dX0_comeIn_36 : decode cX0_comeIn 36 = .ok (.istore 4, 2) := by decide +kernel
theorem dX0_comeIn_38 : decode cX0_comeIn 38 = .ok (.iload_n 3, 1) := by decide +kernel
theorem dX0_comeIn_39 : decode cX0_comeIn 39 = .ok (.invokestatic 70, 3) := by decide +kernel
theorem dX0_comeIn_42 : decode cX0_comeIn 42 = .ok (.iconst 1, 1) := by decide +kernel
theorem dX0_comeIn_43 : decode cX0_comeIn 43 = .ok (.if_icmp .le 21, 3) := by decide +kernel
theorem dX0_comeIn_46 : decode cX0_comeIn 46 = .ok (.aload_n 0, 1) := by decide +kernel
theorem dX0_comeIn_47 : decode cX0_comeIn 47 = .ok (.iload_n 1, 1) := by decide +kernel
theorem dX0_comeIn_48 : decode cX0_comeIn 48 = .ok (.iload 4, 2) := by decide +kernel
theorem dX0_comeIn_50 : decode cX0_comeIn 50 = .ok (.invokevirtual 99, 3) := by decide +kernel
theorem dX0_comeIn_53 : decode cX0_comeIn 53 = .ok (.ifCond .ne 11, 3) := by decide +kernel
theorem dX0_comeIn_56 : decode cX0_comeIn 56 = .ok (.aload_n 0, 1) := by decide +kernel
theorem dX0_comeIn_57 : decode cX0_comeIn 57 = .ok (.getfield 19, 3) := by decide +kernel
theorem dX0_comeIn_60 : decode cX0_comeIn 60 = .ok (.iload_n 1, 1) := by decide +kernel
theorem dX0_comeIn_61 : decode cX0_comeIn 61 = .ok (.iload 4, 2) := by decide +kernel
theorem dX0_comeIn_63 : decode cX0_comeIn 63 = .ok (.iastore, 1) := by decide +kernel
theorem dX0_comeIn_64 : decode cX0_comeIn 64 = .ok (.return_, 1) := by decide +kernel
theorem dX0_driftOff_0 : decode cX0_driftOff 0 = .ok (.aload_n 0, 1) := by decide +kernel
theorem dX0_driftOff_1 : decode cX0_driftOff 1 = .ok (.iload_n 1, 1) := by decide +kernel
theorem dX0_driftOff_2 : decode cX0_driftOff 2 = .ok (.invokevirtual 103, 3) := by decide +kernel
theorem dX0_driftOff_5 : decode cX0_driftOff 5 = .ok (.istore_n 2, 1) := by decide +kernel
theorem dX0_driftOff_6 : decode cX0_driftOff 6 = .ok (.iload_n 2, 1) := by decide +kernel
theorem dX0_driftOff_7 : decode cX0_driftOff 7 = .ok (.invokestatic 74, 3) := by decide +kernel
theorem dX0_driftOff_10 : decode cX0_driftOff 10 = .ok (.istore_n 3, 1) := by decide +kernel
theorem dX0_driftOff_11 : decode cX0_driftOff 11 = .ok (.iload_n 2, 1) := by decide +kernel
theorem dX0_driftOff_12 : decode cX0_driftOff 12 = .ok (.invokestatic 70, 3) := by decide +kernel
theorem dX0_driftOff_15 : decode cX0_driftOff 15 = .ok (.istore 4, 2) := by decide +kernel
theorem dX0_driftOff_17 : decode cX0_driftOff 17 = .ok (.iload 4, 2) := by decide +kernel
theorem dX0_driftOff_19 : decode cX0_driftOff 19 = .ok (.ifCond .le 71, 3) := by decide +kernel
theorem dX0_driftOff_22 : decode cX0_driftOff 22 = .ok (.aload_n 0, 1) := by decide +kernel
theorem dX0_driftOff_23 : decode cX0_driftOff 23 = .ok (.getfield 19, 3) := by decide +kernel
theorem dX0_driftOff_26 : decode cX0_driftOff 26 = .ok (.iload_n 1, 1) := by decide +kernel
theorem dX0_driftOff_27 : decode cX0_driftOff 27 = .ok (.iaload, 1) := by decide +kernel
theorem dX0_driftOff_28 : decode cX0_driftOff 28 = .ok (.iload_n 3, 1) := by decide +kernel
theorem dX0_driftOff_29 : decode cX0_driftOff 29 = .ok (.iadd, 1) := by decide +kernel
theorem dX0_driftOff_30 : decode cX0_driftOff 30 = .ok (.istore 5, 2) := by decide +kernel
theorem dX0_driftOff_32 : decode cX0_driftOff 32 = .ok (.iload 5, 2) := by decide +kernel
theorem dX0_driftOff_34 : decode cX0_driftOff 34 = .ok (.ifCond .lt 20, 3) := by decide +kernel
theorem dX0_driftOff_37 : decode cX0_driftOff 37 = .ok (.iload 5, 2) := by decide +kernel
theorem dX0_driftOff_39 : decode cX0_driftOff 39 = .ok (.bipush 99, 2) := by decide +kernel
theorem dX0_driftOff_41 : decode cX0_driftOff 41 = .ok (.if_icmp .gt 13, 3) := by decide +kernel
theorem dX0_driftOff_44 : decode cX0_driftOff 44 = .ok (.aload_n 0, 1) := by decide +kernel
theorem dX0_driftOff_45 : decode cX0_driftOff 45 = .ok (.iload_n 1, 1) := by decide +kernel
theorem dX0_driftOff_46 : decode cX0_driftOff 46 = .ok (.iload 5, 2) := by decide +kernel
theorem dX0_driftOff_48 : decode cX0_driftOff 48 = .ok (.invokevirtual 99, 3) := by decide +kernel
theorem dX0_driftOff_51 : decode cX0_driftOff 51 = .ok (.ifCond .eq 4, 3) := by decide +kernel
theorem dX0_driftOff_54 : decode cX0_driftOff 54 = .ok (.return_, 1) := by decide +kernel
theorem dX0_driftOff_55 : decode cX0_driftOff 55 = .ok (.aload_n 0, 1) := by decide +kernel
theorem dX0_driftOff_56 : decode cX0_driftOff 56 = .ok (.iload 5, 2) := by decide +kernel
theorem dX0_driftOff_58 : decode cX0_driftOff 58 = .ok (.iload_n 1, 1) := by decide +kernel
theorem dX0_driftOff_59 : decode cX0_driftOff 59 = .ok (.invokevirtual 106, 3) := by decide +kernel
theorem dX0_driftOff_62 : decode cX0_driftOff 62 = .ok (.ifCond .eq 14, 3) := by decide +kernel
theorem dX0_driftOff_65 : decode cX0_driftOff 65 = .ok (.aload_n 0, 1) := by decide +kernel
theorem dX0_driftOff_66 : decode cX0_driftOff 66 = .ok (.dup, 1) := by decide +kernel
theorem dX0_driftOff_67 : decode cX0_driftOff 67 = .ok (.getfield 43, 3) := by decide +kernel
theorem dX0_driftOff_70 : decode cX0_driftOff 70 = .ok (.iconst 1, 1) := by decide +kernel
theorem dX0_driftOff_71 : decode cX0_driftOff 71 = .ok (.iadd, 1) := by decide +kernel
theorem dX0_driftOff_72 : decode cX0_driftOff 72 = .ok (.putfield 43, 3) := by decide +kernel
theorem dX0_driftOff_75 : decode cX0_driftOff 75 = .ok (.return_, 1) := by decide +kernel
theorem dX0_driftOff_76 : decode cX0_driftOff 76 = .ok (.aload_n 0, 1) := by decide +kernel
theorem dX0_driftOff_77 : decode cX0_driftOff 77 = .ok (.getfield 19, 3) := by decide +kernel
theorem dX0_driftOff_80 : decode cX0_driftOff 80 = .ok (.iload_n 1, 1) := by decide +kernel
theorem dX0_driftOff_81 : decode cX0_driftOff 81 = .ok (.iload 5, 2) := by decide +kernel
theorem dX0_driftOff_83 : decode cX0_driftOff 83 = .ok (.iastore, 1) := by decide +kernel
theorem dX0_driftOff_84 : decode cX0_driftOff 84 = .ok (.iinc 4 (-1), 3) := by decide +kernel
theorem dX0_driftOff_87 : decode cX0_driftOff 87 = .ok (.goto (-70), 3) := by decide +kernel
theorem dX0_driftOff_90 : decode cX0_driftOff 90 = .ok (.return_, 1) := by decide +kernel
theorem dX1_init_0 : decode cX1_init 0 = .ok (.aload_n 0, 1) := by decide +kernel
theorem dX1_init_1 : decode cX1_init 1 = .ok (.invokespecial 1, 3) := by decide +kernel
theorem dX1_init_4 : decode cX1_init 4 = .ok (.aload_n 0, 1) := by decide +kernel
theorem dX1_init_5 : decode cX1_init 5 = .ok (.iconst 0, 1) := by decide +kernel
theorem dX1_init_6 : decode cX1_init 6 = .ok (.putfield 7, 3) := by decide +kernel
theorem dX1_init_9 : decode cX1_init 9 = .ok (.aload_n 0, 1) := by decide +kernel
theorem dX1_init_10 : decode cX1_init 10 = .ok (.new 13, 3) := by decide +kernel
theorem dX1_init_13 : decode cX1_init 13 = .ok (.dup, 1) := by decide +kernel
theorem dX1_init_14 : decode cX1_init 14 = .ok (.invokespecial 15, 3) := by decide +kernel
theorem dX1_init_17 : decode cX1_init 17 = .ok (.putfield 16, 3) := by decide +kernel
theorem dX1_init_20 : decode cX1_init 20 = .ok (.aload_n 0, 1) := by decide +kernel
theorem dX1_init_21 : decode cX1_init 21 = .ok (.new 20, 3) := by decide +kernel
theorem dX1_init_24 : decode cX1_init 24 = .ok (.dup, 1) := by decide +kernel
theorem dX1_init_25 : decode cX1_init 25 = .ok (.invokespecial 22, 3) := by decide +kernel
theorem dX1_init_28 : decode cX1_init 28 = .ok (.putfield 23, 3) := by decide +kernel
theorem dX1_init_31 : decode cX1_init 31 = .ok (.return_, 1) := by decide +kernel
theorem dX2_init_0 : decode cX2_init 0 = .ok (.aload_n 0, 1) := by decide +kernel
theorem dX2_init_1 : decode cX2_init 1 = .ok (.invokespecial 3, 3) := by decide +kernel
theorem dX2_init_4 : decode cX2_init 4 = .ok (.aload_n 0, 1) := by decide +kernel
theorem dX2_init_5 : decode cX2_init 5 = .ok (.sipush 160, 3) := by decide +kernel
theorem dX2_init_8 : decode cX2_init 8 = .ok (.newarray .byte, 2) := by decide +kernel
theorem dX2_init_10 : decode cX2_init 10 = .ok (.putfield 9, 3) := by decide +kernel
theorem dX2_init_13 : decode cX2_init 13 = .ok (.aload_n 0, 1) := by decide +kernel
theorem dX2_init_14 : decode cX2_init 14 = .ok (.iconst 0, 1) := by decide +kernel
theorem dX2_init_15 : decode cX2_init 15 = .ok (.putfield 15, 3) := by decide +kernel
theorem dX2_init_18 : decode cX2_init 18 = .ok (.aload_n 0, 1) := by decide +kernel
theorem dX2_init_19 : decode cX2_init 19 = .ok (.new 19, 3) := by decide +kernel
theorem dX2_init_22 : decode cX2_init 22 = .ok (.dup, 1) := by decide +kernel
theorem dX2_init_23 : decode cX2_init 23 = .ok (.invokespecial 21, 3) := by decide +kernel
theorem dX2_init_26 : decode cX2_init 26 = .ok (.putfield 22, 3) := by decide +kernel
theorem dX2_init_29 : decode cX2_init 29 = .ok (.aload_n 0, 1) := by decide +kernel
theorem dX2_init_30 : decode cX2_init 30 = .ok (.iconst 0, 1) := by decide +kernel
theorem dX2_init_31 : decode cX2_init 31 = .ok (.putfield 26, 3) := by decide +kernel
theorem dX2_init_34 : decode cX2_init 34 = .ok (.aload_n 0, 1) := by decide +kernel
theorem dX2_init_35 : decode cX2_init 35 = .ok (.iconst 0, 1) := by decide +kernel
theorem dX2_init_36 : decode cX2_init 36 = .ok (.putfield 29, 3) := by decide +kernel
theorem dX2_init_39 : decode cX2_init 39 = .ok (.aload_n 0, 1) := by decide +kernel
theorem dX2_init_40 : decode cX2_init 40 = .ok (.iconst 0, 1) := by decide +kernel
theorem dX2_init_41 : decode cX2_init 41 = .ok (.putfield 32, 3) := by decide +kernel
theorem dX2_init_44 : decode cX2_init 44 = .ok (.aload_n 0, 1) := by decide +kernel
theorem dX2_init_45 : decode cX2_init 45 = .ok (.bipush 25, 2) := by decide +kernel
theorem dX2_init_47 : decode cX2_init 47 = .ok (.newarray .boolean, 2) := by decide +kernel
theorem dX2_init_49 : decode cX2_init 49 = .ok (.putfield 35, 3) := by decide +kernel
theorem dX2_init_52 : decode cX2_init 52 = .ok (.aload_n 0, 1) := by decide +kernel
theorem dX2_init_53 : decode cX2_init 53 = .ok (.iconst 0, 1) := by decide +kernel
theorem dX2_init_54 : decode cX2_init 54 = .ok (.putfield 39, 3) := by decide +kernel
theorem dX2_init_57 : decode cX2_init 57 = .ok (.aload_n 0, 1) := by decide +kernel
theorem dX2_init_58 : decode cX2_init 58 = .ok (.iconst (-1), 1) := by decide +kernel
theorem dX2_init_59 : decode cX2_init 59 = .ok (.putfield 43, 3) := by decide +kernel
theorem dX2_init_62 : decode cX2_init 62 = .ok (.aload_n 0, 1) := by decide +kernel
theorem dX2_init_63 : decode cX2_init 63 = .ok (.iconst 0, 1) := by decide +kernel
theorem dX2_init_64 : decode cX2_init 64 = .ok (.putfield 46, 3) := by decide +kernel
theorem dX2_init_67 : decode cX2_init 67 = .ok (.aload_n 0, 1) := by decide +kernel
theorem dX2_init_68 : decode cX2_init 68 = .ok (.iconst 0, 1) := by decide +kernel
theorem dX2_init_69 : decode cX2_init 69 = .ok (.putfield 49, 3) := by decide +kernel
theorem dX2_init_72 : decode cX2_init 72 = .ok (.aload_n 0, 1) := by decide +kernel
theorem dX2_init_73 : decode cX2_init 73 = .ok (.iconst 0, 1) := by decide +kernel
theorem dX2_init_74 : decode cX2_init 74 = .ok (.putfield 52, 3) := by decide +kernel
theorem dX2_init_77 : decode cX2_init 77 = .ok (.aload_n 0, 1) := by decide +kernel
theorem dX2_init_78 : decode cX2_init 78 = .ok (.iconst 0, 1) := by decide +kernel
theorem dX2_init_79 : decode cX2_init 79 = .ok (.putfield 55, 3) := by decide +kernel
theorem dX2_init_82 : decode cX2_init 82 = .ok (.aload_n 0, 1) := by decide +kernel
theorem dX2_init_83 : decode cX2_init 83 = .ok (.iconst 0, 1) := by decide +kernel
theorem dX2_init_84 : decode cX2_init 84 = .ok (.putfield 58, 3) := by decide +kernel
theorem dX2_init_87 : decode cX2_init 87 = .ok (.aload_n 0, 1) := by decide +kernel
theorem dX2_init_88 : decode cX2_init 88 = .ok (.iconst 0, 1) := by decide +kernel
theorem dX2_init_89 : decode cX2_init 89 = .ok (.putfield 61, 3) := by decide +kernel
theorem dX2_init_92 : decode cX2_init 92 = .ok (.return_, 1) := by decide +kernel
theorem dX2_takeText_0 : decode cX2_takeText 0 = .ok (.aload_n 0, 1) := by decide +kernel
theorem dX2_takeText_1 : decode cX2_takeText 1 = .ok (.invokevirtual 64, 3) := by decide +kernel
theorem dX2_takeText_4 : decode cX2_takeText 4 = .ok (.iconst 0, 1) := by decide +kernel
theorem dX2_takeText_5 : decode cX2_takeText 5 = .ok (.istore_n 1, 1) := by decide +kernel
theorem dX2_takeText_6 : decode cX2_takeText 6 = .ok (.iload_n 1, 1) := by decide +kernel
theorem dX2_takeText_7 : decode cX2_takeText 7 = .ok (.sipush 160, 3) := by decide +kernel
theorem dX2_takeText_10 : decode cX2_takeText 10 = .ok (.if_icmp .gt 90, 3) := by decide +kernel
theorem dX2_takeText_13 : decode cX2_takeText 13 = .ok (.aload_n 0, 1) := by decide +kernel
theorem dX2_takeText_14 : decode cX2_takeText 14 = .ok (.invokevirtual 67, 3) := by decide +kernel
theorem dX2_takeText_17 : decode cX2_takeText 17 = .ok (.ifCond .ne 5, 3) := by decide +kernel
theorem dX2_takeText_20 : decode cX2_takeText 20 = .ok (.iconst 0, 1) := by decide +kernel
theorem dX2_takeText_21 : decode cX2_takeText 21 = .ok (.ireturn, 1) := by decide +kernel
theorem dX2_takeText_22 : decode cX2_takeText 22 = .ok (.aload_n 0, 1) := by decide +kernel
theorem dX2_takeText_23 : decode cX2_takeText 23 = .ok (.getfield 49, 3) := by decide +kernel
theorem dX2_takeText_26 : decode cX2_takeText 26 = .ok (.ifCond .ne 32, 3) := by decide +kernel
theorem dX2_takeText_29 : decode cX2_takeText 29 = .ok (.aload_n 0, 1) := by decide +kernel
theorem dX2_takeText_30 : decode cX2_takeText 30 = .ok (.getfield 43, 3) := by decide +kernel
theorem dX2_takeText_33 : decode cX2_takeText 33 = .ok (.aload_n 0, 1) := by decide +kernel
theorem dX2_takeText_34 : decode cX2_takeText 34 = .ok (.getfield 22, 3) := by decide +kernel
theorem dX2_takeText_37 : decode cX2_takeText 37 = .ok (.getfield 71, 3) := by decide +kernel
theorem dX2_takeText_40 : decode cX2_takeText 40 = .ok (.if_icmp .lt 12, 3) := by decide +kernel
theorem dX2_takeText_43 : decode cX2_takeText 43 = .ok (.aload_n 0, 1) := by decide +kernel
theorem dX2_takeText_44 : decode cX2_takeText 44 = .ok (.bipush 6, 2) := by decide +kernel
theorem dX2_takeText_46 : decode cX2_takeText 46 = .ok (.invokevirtual 74, 3) := by decide +kernel
theorem dX2_takeText_49 : decode cX2_takeText 49 = .ok (.ifCond .eq 7, 3) := by decide +kernel
theorem dX2_takeText_52 : decode cX2_takeText 52 = .ok (.iconst 1, 1) := by decide +kernel
theorem dX2_takeText_53 : decode cX2_takeText 53 = .ok (.goto 4, 3) := by decide +kernel
theorem dX2_takeText_56 : decode cX2_takeText 56 = .ok (.iconst 0, 1) := by decide +kernel
theorem dX2_takeText_57 : decode cX2_takeText 57 = .ok (.ireturn, 1) := by decide +kernel
theorem dX2_takeText_58 : decode cX2_takeText 58 = .ok (.aload_n 0, 1) := by decide +kernel
theorem dX2_takeText_59 : decode cX2_takeText 59 = .ok (.aload_n 0, 1) := by decide +kernel
theorem dX2_takeText_60 : decode cX2_takeText 60 = .ok (.getfield 49, 3) := by decide +kernel
theorem dX2_takeText_63 : decode cX2_takeText 63 = .ok (.iconst 1, 1) := by decide +kernel
theorem dX2_takeText_64 : decode cX2_takeText 64 = .ok (.if_icmp .ne 10, 3) := by decide +kernel
theorem dX2_takeText_67 : decode cX2_takeText 67 = .ok (.aload_n 0, 1) := by decide +kernel
theorem dX2_takeText_68 : decode cX2_takeText 68 = .ok (.invokevirtual 78, 3) := by decide +kernel
theorem dX2_takeText_71 : decode cX2_takeText 71 = .ok (.goto 5, 3) := by decide +kernel
theorem dX2_takeText_74 : decode cX2_takeText 74 = .ok (.bipush (-4), 2) := by decide +kernel
theorem dX2_takeText_76 : decode cX2_takeText 76 = .ok (.invokevirtual 82, 3) := by decide +kernel
theorem dX2_takeText_79 : decode cX2_takeText 79 = .ok (.ifCond .ne 5, 3) := by decide +kernel
theorem dX2_takeText_82 : decode cX2_takeText 82 = .ok (.iconst 0, 1) := by decide +kernel
theorem dX2_takeText_83 : decode cX2_takeText 83 = .ok (.ireturn, 1) := by decide +kernel
theorem dX2_takeText_84 : decode cX2_takeText 84 = .ok (.aload_n 0, 1) := by decide +kernel
theorem dX2_takeText_85 : decode cX2_takeText 85 = .ok (.dup, 1) := by decide +kernel
theorem dX2_takeText_86 : decode cX2_takeText 86 = .ok (.getfield 26, 3) := by decide +kernel
theorem dX2_takeText_89 : decode cX2_takeText 89 = .ok (.iconst 1, 1) := by decide +kernel
theorem dX2_takeText_90 : decode cX2_takeText 90 = .ok (.iadd, 1) := by decide +kernel
theorem dX2_takeText_91 : decode cX2_takeText 91 = .ok (.putfield 26, 3) := by decide +kernel
theorem dX2_takeText_94 : decode cX2_takeText 94 = .ok (.iinc 1 1, 3) := by decide +kernel
theorem dX2_takeText_97 : decode cX2_takeText 97 = .ok (.goto (-91), 3) := by decide +kernel
theorem dX2_takeText_100 : decode cX2_takeText 100 = .ok (.aload_n 0, 1) := by decide +kernel
theorem dX2_takeText_101 : decode cX2_takeText 101 = .ok (.iconst 2, 1) := by decide +kernel
theorem dX2_takeText_102 : decode cX2_takeText 102 = .ok (.invokevirtual 74, 3) := by decide +kernel
theorem dX2_takeText_105 : decode cX2_takeText 105 = .ok (.ireturn, 1) := by decide +kernel
theorem dX2_startOver_0 : decode cX2_startOver 0 = .ok (.aload_n 0, 1) := by decide +kernel
theorem dX2_startOver_1 : decode cX2_startOver 1 = .ok (.getfield 22, 3) := by decide +kernel
theorem dX2_startOver_4 : decode cX2_startOver 4 = .ok (.invokevirtual 85, 3) := by decide +kernel
theorem dX2_startOver_7 : decode cX2_startOver 7 = .ok (.aload_n 0, 1) := by decide +kernel
theorem dX2_startOver_8 : decode cX2_startOver 8 = .ok (.iconst 0, 1) := by decide +kernel
theorem dX2_startOver_9 : decode cX2_startOver 9 = .ok (.putfield 26, 3) := by decide +kernel
theorem dX2_startOver_12 : decode cX2_startOver 12 = .ok (.aload_n 0, 1) := by decide +kernel
theorem dX2_startOver_13 : decode cX2_startOver 13 = .ok (.iconst 0, 1) := by decide +kernel
theorem dX2_startOver_14 : decode cX2_startOver 14 = .ok (.putfield 29, 3) := by decide +kernel
theorem dX2_startOver_17 : decode cX2_startOver 17 = .ok (.aload_n 0, 1) := by decide +kernel
theorem dX2_startOver_18 : decode cX2_startOver 18 = .ok (.iconst 0, 1) := by decide +kernel
theorem dX2_startOver_19 : decode cX2_startOver 19 = .ok (.putfield 32, 3) := by decide +kernel
theorem dX2_startOver_22 : decode cX2_startOver 22 = .ok (.iconst 0, 1) := by decide +kernel
theorem dX2_startOver_23 : decode cX2_startOver 23 = .ok (.istore_n 1, 1) := by decide +kernel
theorem dX2_startOver_24 : decode cX2_startOver 24 = .ok (.iload_n 1, 1) := by decide +kernel
theorem dX2_startOver_25 : decode cX2_startOver 25 = .ok (.aload_n 0, 1) := by decide +kernel
theorem dX2_startOver_26 : decode cX2_startOver 26 = .ok (.getfield 35, 3) := by decide +kernel
theorem dX2_startOver_29 : decode cX2_startOver 29 = .ok (.arraylength, 1) := by decide +kernel
theorem dX2_startOver_30 : decode cX2_startOver 30 = .ok (.if_icmp .ge 16, 3) := by decide +kernel
theorem dX2_startOver_33 : decode cX2_startOver 33 = .ok (.aload_n 0, 1) := by decide +kernel
theorem dX2_startOver_34 : decode cX2_startOver 34 = .ok (.getfield 35, 3) := by decide +kernel
theorem dX2_startOver_37 : decode cX2_startOver 37 = .ok (.iload_n 1, 1) := by decide +kernel
theorem dX2_startOver_38 : decode cX2_startOver 38 = .ok (.iconst 0, 1) := by decide +kernel
theorem dX2_startOver_39 : decode cX2_startOver 39 = .ok (.bastore, 1) := by decide +kernel
theorem dX2_startOver_40 : decode cX2_startOver 40 = .ok (.iinc 1 1, 3) := by decide +kernel
theorem dX2_startOver_43 : decode cX2_startOver 43 = .ok (.goto (-19), 3) := by decide +kernel
theorem dX2_startOver_46 : decode cX2_startOver 46 = .ok (.aload_n 0, 1) := by decide +kernel
theorem dX2_startOver_47 : decode cX2_startOver 47 = .ok (.iconst 0, 1) := by decide +kernel
theorem dX2_startOver_48 : decode cX2_startOver 48 = .ok (.putfield 39, 3) := by decide +kernel
theorem dX2_startOver_51 : decode cX2_startOver 51 = .ok (.aload_n 0, 1) := by decide +kernel
theorem dX2_startOver_52 : decode cX2_startOver 52 = .ok (.iconst (-1), 1) := by decide +kernel
theorem dX2_startOver_53 : decode cX2_startOver 53 = .ok (.putfield 43, 3) := by decide +kernel
theorem dX2_startOver_56 : decode cX2_startOver 56 = .ok (.aload_n 0, 1) := by decide +kernel
theorem dX2_startOver_57 : decode cX2_startOver 57 = .ok (.iconst 0, 1) := by decide +kernel
theorem dX2_startOver_58 : decode cX2_startOver 58 = .ok (.putfield 46, 3) := by decide +kernel
theorem dX2_startOver_61 : decode cX2_startOver 61 = .ok (.return_, 1) := by decide +kernel
theorem dX2_fail_0 : decode cX2_fail 0 = .ok (.aload_n 0, 1) := by decide +kernel
theorem dX2_fail_1 : decode cX2_fail 1 = .ok (.iload_n 1, 1) := by decide +kernel
theorem dX2_fail_2 : decode cX2_fail 2 = .ok (.putfield 29, 3) := by decide +kernel
theorem dX2_fail_5 : decode cX2_fail 5 = .ok (.aload_n 0, 1) := by decide +kernel
theorem dX2_fail_6 : decode cX2_fail 6 = .ok (.aload_n 0, 1) := by decide +kernel
theorem dX2_fail_7 : decode cX2_fail 7 = .ok (.getfield 52, 3) := by decide +kernel
theorem dX2_fail_10 : decode cX2_fail 10 = .ok (.putfield 32, 3) := by decide +kernel
theorem dX2_fail_13 : decode cX2_fail 13 = .ok (.iconst 0, 1) := by decide +kernel
theorem dX2_fail_14 : decode cX2_fail 14 = .ok (.ireturn, 1) := by decide +kernel
theorem dX2_lineNamed_0 : decode cX2_lineNamed 0 = .ok (.aload_n 0, 1) := by decide +kernel
theorem dX2_lineNamed_1 : decode cX2_lineNamed 1 = .ok (.ldc 88, 2) := by decide +kernel
theorem dX2_lineNamed_3 : decode cX2_lineNamed 3 = .ok (.invokevirtual 90, 3) := by decide +kernel
theorem dX2_lineNamed_6 : decode cX2_lineNamed 6 = .ok (.ifCond .eq 5, 3) := by decide +kernel
theorem dX2_lineNamed_9 : decode cX2_lineNamed 9 = .ok (.iconst 0, 1) := by decide +kernel
theorem dX2_lineNamed_10 : decode cX2_lineNamed 10 = .ok (.ireturn, 1) := by decide +kernel
theorem dX2_lineNamed_11 : decode cX2_lineNamed 11 = .ok (.aload_n 0, 1) := by decide +kernel
theorem dX2_lineNamed_12 : decode cX2_lineNamed 12 = .ok (.ldc 94, 2) := by decide +kernel
theorem dX2_lineNamed_14 : decode cX2_lineNamed 14 = .ok (.invokevirtual 90, 3) := by decide +kernel
theorem dX2_lineNamed_17 : decode cX2_lineNamed 17 = .ok (.ifCond .eq 5, 3) := by decide +kernel
theorem dX2_lineNamed_20 : decode cX2_lineNamed 20 = .ok (.iconst 1, 1) := by decide +kernel
theorem dX2_lineNamed_21 : decode cX2_lineNamed 21 = .ok (.ireturn, 1) := by decide +kernel
theorem dX2_lineNamed_22 : decode cX2_lineNamed 22 = .ok (.aload_n 0, 1) := by decide +kernel
theorem dX2_lineNamed_23 : decode cX2_lineNamed 23 = .ok (.ldc 96, 2) := by decide +kernel
theorem dX2_lineNamed_25 : decode cX2_lineNamed 25 = .ok (.invokevirtual 90, 3) := by decide +kernel
theorem dX2_lineNamed_28 : decode cX2_lineNamed 28 = .ok (.ifCond .eq 5, 3) := by decide +kernel
theorem dX2_lineNamed_31 : decode cX2_lineNamed 31 = .ok (.iconst 2, 1) := by decide +kernel
theorem dX2_lineNamed_32 : decode cX2_lineNamed 32 = .ok (.ireturn, 1) := by decide +kernel
theorem dX2_lineNamed_33 : decode cX2_lineNamed 33 = .ok (.aload_n 0, 1) := by decide +kernel
theorem dX2_lineNamed_34 : decode cX2_lineNamed 34 = .ok (.ldc 98, 2) := by decide +kernel
theorem dX2_lineNamed_36 : decode cX2_lineNamed 36 = .ok (.invokevirtual 90, 3) := by decide +kernel
theorem dX2_lineNamed_39 : decode cX2_lineNamed 39 = .ok (.ifCond .eq 5, 3) := by decide +kernel
theorem dX2_lineNamed_42 : decode cX2_lineNamed 42 = .ok (.iconst 3, 1) := by decide +kernel
theorem dX2_lineNamed_43 : decode cX2_lineNamed 43 = .ok (.ireturn, 1) := by decide +kernel
theorem dX2_lineNamed_44 : decode cX2_lineNamed 44 = .ok (.aload_n 0, 1) := by decide +kernel
theorem dX2_lineNamed_45 : decode cX2_lineNamed 45 = .ok (.ldc 100, 2) := by decide +kernel
theorem dX2_lineNamed_47 : decode cX2_lineNamed 47 = .ok (.invokevirtual 90, 3) := by decide +kernel
theorem dX2_lineNamed_50 : decode cX2_lineNamed 50 = .ok (.ifCond .eq 6, 3) := by decide +kernel
theorem dX2_lineNamed_53 : decode cX2_lineNamed 53 = .ok (.bipush 10, 2) := by decide +kernel
theorem dX2_lineNamed_55 : decode cX2_lineNamed 55 = .ok (.ireturn, 1) := by decide +kernel
theorem dX2_lineNamed_56 : decode cX2_lineNamed 56 = .ok (.aload_n 0, 1) := by decide +kernel
theorem dX2_lineNamed_57 : decode cX2_lineNamed 57 = .ok (.ldc 102, 2) := by decide +kernel
theorem dX2_lineNamed_59 : decode cX2_lineNamed 59 = .ok (.invokevirtual 90, 3) := by decide +kernel
theorem dX2_lineNamed_62 : decode cX2_lineNamed 62 = .ok (.ifCond .eq 6, 3) := by decide +kernel
theorem dX2_lineNamed_65 : decode cX2_lineNamed 65 = .ok (.bipush 11, 2) := by decide +kernel
theorem dX2_lineNamed_67 : decode cX2_lineNamed 67 = .ok (.ireturn, 1) := by decide +kernel
theorem dX2_lineNamed_68 : decode cX2_lineNamed 68 = .ok (.aload_n 0, 1) := by decide +kernel
theorem dX2_lineNamed_69 : decode cX2_lineNamed 69 = .ok (.ldc 104, 2) := by decide +kernel
theorem dX2_lineNamed_71 : decode cX2_lineNamed 71 = .ok (.invokevirtual 90, 3) := by decide +kernel
theorem dX2_lineNamed_74 : decode cX2_lineNamed 74 = .ok (.ifCond .eq 8, 3) := by decide +kernel
theorem dX2_lineNamed_77 : decode cX2_lineNamed 77 = .ok (.bipush 12, 2) := by decide +kernel
theorem dX2_lineNamed_79 : decode cX2_lineNamed 79 = .ok (.goto 5, 3) := by decide +kernel
theorem dX2_lineNamed_82 : decode cX2_lineNamed 82 = .ok (.bipush (-4), 2) := by decide +kernel
theorem dX2_lineNamed_84 : decode cX2_lineNamed 84 = .ok (.ireturn, 1) := by decide +kernel
theorem dX2_isNamed_0 : decode cX2_isNamed 0 = .ok (.aload_n 0, 1) := by decide +kernel
theorem dX2_isNamed_1 : decode cX2_isNamed 1 = .ok (.getfield 46, 3) := by decide +kernel
theorem dX2_isNamed_4 : decode cX2_isNamed 4 = .ok (.aload_n 0, 1) := by decide +kernel
theorem dX2_isNamed_5 : decode cX2_isNamed 5 = .ok (.getfield 52, 3) := by decide +kernel
theorem dX2_isNamed_8 : decode cX2_isNamed 8 = .ok (.isub, 1) := by decide +kernel
theorem dX2_isNamed_9 : decode cX2_isNamed 9 = .ok (.aload_n 1, 1) := by decide +kernel
theorem dX2_isNamed_10 : decode cX2_isNamed 10 = .ok (.invokevirtual 106, 3) := by decide +kernel
theorem dX2_isNamed_13 : decode cX2_isNamed 13 = .ok (.if_icmp .eq 5, 3) := by decide +kernel
theorem dX2_isNamed_16 : decode cX2_isNamed 16 = .ok (.iconst 0, 1) := by decide +kernel
theorem dX2_isNamed_17 : decode cX2_isNamed 17 = .ok (.ireturn, 1) := by decide +kernel
theorem dX2_isNamed_18 : decode cX2_isNamed 18 = .ok (.iconst 0, 1) := by decide +kernel
theorem dX2_isNamed_19 : decode cX2_isNamed 19 = .ok (.istore_n 2, 1) := by decide +kernel
theorem dX2_isNamed_20 : decode cX2_isNamed 20 = .ok (.iload_n 2, 1) := by decide +kernel
theorem dX2_isNamed_21 : decode cX2_isNamed 21 = .ok (.aload_n 1, 1) := by decide +kernel
theorem dX2_isNamed_22 : decode cX2_isNamed 22 = .ok (.invokevirtual 106, 3) := by decide +kernel
theorem dX2_isNamed_25 : decode cX2_isNamed 25 = .ok (.if_icmp .ge 30, 3) := by decide +kernel
theorem dX2_isNamed_28 : decode cX2_isNamed 28 = .ok (.aload_n 0, 1) := by decide +kernel
theorem dX2_isNamed_29 : decode cX2_isNamed 29 = .ok (.getfield 9, 3) := by decide +kernel
theorem dX2_isNamed_32 : decode cX2_isNamed 32 = .ok (.aload_n 0, 1) := by decide +kernel
theorem dX2_isNamed_33 : decode cX2_isNamed 33 = .ok (.getfield 52, 3) := by decide +kernel
theorem dX2_isNamed_36 : decode cX2_isNamed 36 = .ok (.iload_n 2, 1) := by decide +kernel
theorem dX2_isNamed_37 : decode cX2_isNamed 37 = .ok (.iadd, 1) := by decide +kernel
theorem dX2_isNamed_38 : decode cX2_isNamed 38 = .ok (.baload, 1) := by decide +kernel
theorem dX2_isNamed_39 : decode cX2_isNamed 39 = .ok (.aload_n 1, 1) := by decide +kernel
theorem dX2_isNamed_40 : decode cX2_isNamed 40 = .ok (.iload_n 2, 1) := by decide +kernel
theorem dX2_isNamed_41 : decode cX2_isNamed 41 = .ok (.invokevirtual 110, 3) := by decide +kernel
theorem dX2_isNamed_44 : decode cX2_isNamed 44 = .ok (.if_icmp .eq 5, 3) := by decide +kernel
theorem dX2_isNamed_47 : decode cX2_isNamed 47 = .ok (.iconst 0, 1) := by decide +kernel
theorem dX2_isNamed_48 : decode cX2_isNamed 48 = .ok (.ireturn, 1) := by decide +kernel
theorem dX2_isNamed_49 : decode cX2_isNamed 49 = .ok (.iinc 2 1, 3) := by decide +kernel
theorem dX2_isNamed_52 : decode cX2_isNamed 52 = .ok (.goto (-32), 3) := by decide +kernel
theorem dX2_isNamed_55 : decode cX2_isNamed 55 = .ok (.iconst 1, 1) := by decide +kernel
theorem dX2_isNamed_56 : decode cX2_isNamed 56 = .ok (.ireturn, 1) := by decide +kernel
theorem dX2_takeLine_0 : decode cX2_takeLine 0 = .ok (.iload_n 1, 1) := by decide +kernel
theorem dX2_takeLine_1 : decode cX2_takeLine 1 = .ok (.lookupswitch 129 #[(-4, 43), (10, 49), (11, 69), (12, 109)], 43) := by decide +kernel
theorem dX2_takeLine_44 : decode cX2_takeLine 44 = .ok (.aload_n 0, 1) := by decide +kernel
theorem dX2_takeLine_45 : decode cX2_takeLine 45 = .ok (.iconst 2, 1) := by decide +kernel
theorem dX2_takeLine_46 : decode cX2_takeLine 46 = .ok (.invokevirtual 74, 3) := by decide +kernel
theorem dX2_takeLine_49 : decode cX2_takeLine 49 = .ok (.ireturn, 1) := by decide +kernel
theorem dX2_takeLine_50 : decode cX2_takeLine 50 = .ok (.aload_n 0, 1) := by decide +kernel
theorem dX2_takeLine_51 : decode cX2_takeLine 51 = .ok (.invokevirtual 114, 3) := by decide +kernel
theorem dX2_takeLine_54 : decode cX2_takeLine 54 = .ok (.ifCond .eq 14, 3) := by decide +kernel
theorem dX2_takeLine_57 : decode cX2_takeLine 57 = .ok (.aload_n 0, 1) := by decide +kernel
theorem dX2_takeLine_58 : decode cX2_takeLine 58 = .ok (.invokevirtual 117, 3) := by decide +kernel
theorem dX2_takeLine_61 : decode cX2_takeLine 61 = .ok (.ifCond .eq 7, 3) := by decide +kernel
theorem dX2_takeLine_64 : decode cX2_takeLine 64 = .ok (.iconst 1, 1) := by decide +kernel
theorem dX2_takeLine_65 : decode cX2_takeLine 65 = .ok (.goto 4, 3) := by decide +kernel
theorem dX2_takeLine_68 : decode cX2_takeLine 68 = .ok (.iconst 0, 1) := by decide +kernel
theorem dX2_takeLine_69 : decode cX2_takeLine 69 = .ok (.ireturn, 1) := by decide +kernel
theorem dX2_takeLine_70 : decode cX2_takeLine 70 = .ok (.aload_n 0, 1) := by decide +kernel
theorem dX2_takeLine_71 : decode cX2_takeLine 71 = .ok (.getfield 22, 3) := by decide +kernel
theorem dX2_takeLine_74 : decode cX2_takeLine 74 = .ok (.getfield 120, 3) := by decide +kernel
theorem dX2_takeLine_77 : decode cX2_takeLine 77 = .ok (.bipush 6, 2) := by decide +kernel
theorem dX2_takeLine_79 : decode cX2_takeLine 79 = .ok (.if_icmp .ge 25, 3) := by decide +kernel
theorem dX2_takeLine_82 : decode cX2_takeLine 82 = .ok (.aload_n 0, 1) := by decide +kernel
theorem dX2_takeLine_83 : decode cX2_takeLine 83 = .ok (.invokevirtual 114, 3) := by decide +kernel
theorem dX2_takeLine_86 : decode cX2_takeLine 86 = .ok (.ifCond .eq 14, 3) := by decide +kernel
theorem dX2_takeLine_89 : decode cX2_takeLine 89 = .ok (.aload_n 0, 1) := by decide +kernel
theorem dX2_takeLine_90 : decode cX2_takeLine 90 = .ok (.invokevirtual 123, 3) := by decide +kernel
theorem dX2_takeLine_93 : decode cX2_takeLine 93 = .ok (.ifCond .eq 7, 3) := by decide +kernel
theorem dX2_takeLine_96 : decode cX2_takeLine 96 = .ok (.iconst 1, 1) := by decide +kernel
theorem dX2_takeLine_97 : decode cX2_takeLine 97 = .ok (.goto 12, 3) := by decide +kernel
theorem dX2_takeLine_100 : decode cX2_takeLine 100 = .ok (.iconst 0, 1) := by decide +kernel
theorem dX2_takeLine_101 : decode cX2_takeLine 101 = .ok (.goto 8, 3) := by decide +kernel
theorem dX2_takeLine_104 : decode cX2_takeLine 104 = .ok (.aload_n 0, 1) := by decide +kernel
theorem dX2_takeLine_105 : decode cX2_takeLine 105 = .ok (.iconst 5, 1) := by decide +kernel
theorem dX2_takeLine_106 : decode cX2_takeLine 106 = .ok (.invokevirtual 74, 3) := by decide +kernel
theorem dX2_takeLine_109 : decode cX2_takeLine 109 = .ok (.ireturn, 1) := by decide +kernel
theorem dX2_takeLine_110 : decode cX2_takeLine 110 = .ok (.aload_n 0, 1) := by decide +kernel
theorem dX2_takeLine_111 : decode cX2_takeLine 111 = .ok (.getfield 39, 3) := by decide +kernel
theorem dX2_takeLine_114 : decode cX2_takeLine 114 = .ok (.ifCond .eq 11, 3) := by decide +kernel
theorem dX2_takeLine_117 : decode cX2_takeLine 117 = .ok (.aload_n 0, 1) := by decide +kernel
theorem dX2_takeLine_118 : decode cX2_takeLine 118 = .ok (.iconst 4, 1) := by decide +kernel
theorem dX2_takeLine_119 : decode cX2_takeLine 119 = .ok (.invokevirtual 74, 3) := by decide +kernel
theorem dX2_takeLine_122 : decode cX2_takeLine 122 = .ok (.goto 7, 3) := by decide +kernel
theorem dX2_takeLine_125 : decode cX2_takeLine 125 = .ok (.aload_n 0, 1) := by decide +kernel
theorem dX2_takeLine_126 : decode cX2_takeLine 126 = .ok (.invokevirtual 126, 3) := by decide +kernel
theorem dX2_takeLine_129 : decode cX2_takeLine 129 = .ok (.ireturn, 1) := by decide +kernel
theorem dX2_takeLine_130 : decode cX2_takeLine 130 = .ok (.aload_n 0, 1) := by decide +kernel
theorem dX2_takeLine_131 : decode cX2_takeLine 131 = .ok (.getfield 22, 3) := by decide +kernel
theorem dX2_takeLine_134 : decode cX2_takeLine 134 = .ok (.getfield 71, 3) := by decide +kernel
theorem dX2_takeLine_137 : decode cX2_takeLine 137 = .ok (.iconst 5, 1) := by decide +kernel
theorem dX2_takeLine_138 : decode cX2_takeLine 138 = .ok (.if_icmp .ge 11, 3) := by decide +kernel
theorem dX2_takeLine_141 : decode cX2_takeLine 141 = .ok (.aload_n 0, 1) := by decide +kernel
theorem dX2_takeLine_142 : decode cX2_takeLine 142 = .ok (.iload_n 1, 1) := by decide +kernel
theorem dX2_takeLine_143 : decode cX2_takeLine 143 = .ok (.invokevirtual 129, 3) := by decide +kernel
theorem dX2_takeLine_146 : decode cX2_takeLine 146 = .ok (.goto 8, 3) := by decide +kernel
theorem dX2_takeLine_149 : decode cX2_takeLine 149 = .ok (.aload_n 0, 1) := by decide +kernel
theorem dX2_takeLine_150 : decode cX2_takeLine 150 = .ok (.iconst 5, 1) := by decide +kernel
theorem dX2_takeLine_151 : decode cX2_takeLine 151 = .ok (.invokevirtual 74, 3) := by decide +kernel
theorem dX2_takeLine_154 : decode cX2_takeLine 154 = .ok (.ireturn, 1) := by decide +kernel
theorem dX2_takeIsle_0 : decode cX2_takeIsle 0 = .ok (.aload_n 0, 1) := by decide +kernel
theorem dX2_takeIsle_1 : decode cX2_takeIsle 1 = .ok (.iconst 0, 1) := by decide +kernel
theorem dX2_takeIsle_2 : decode cX2_takeIsle 2 = .ok (.bipush 99, 2) := by decide +kernel
theorem dX2_takeIsle_4 : decode cX2_takeIsle 4 = .ok (.invokevirtual 132, 3) := by decide +kernel
theorem dX2_takeIsle_7 : decode cX2_takeIsle 7 = .ok (.ifCond .ne 5, 3) := by decide +kernel
theorem dX2_takeIsle_10 : decode cX2_takeIsle 10 = .ok (.iconst 0, 1) := by decide +kernel
theorem dX2_takeIsle_11 : decode cX2_takeIsle 11 = .ok (.ireturn, 1) := by decide +kernel
theorem dX2_takeIsle_12 : decode cX2_takeIsle 12 = .ok (.aload_n 0, 1) := by decide +kernel
theorem dX2_takeIsle_13 : decode cX2_takeIsle 13 = .ok (.getfield 22, 3) := by decide +kernel
theorem dX2_takeIsle_16 : decode cX2_takeIsle 16 = .ok (.aload_n 0, 1) := by decide +kernel
theorem dX2_takeIsle_17 : decode cX2_takeIsle 17 = .ok (.getfield 55, 3) := by decide +kernel
theorem dX2_takeIsle_20 : decode cX2_takeIsle 20 = .ok (.bipush (-4), 2) := by decide +kernel
theorem dX2_takeIsle_22 : decode cX2_takeIsle 22 = .ok (.invokevirtual 136, 3) := by decide +kernel
theorem dX2_takeIsle_25 : decode cX2_takeIsle 25 = .ok (.ifCond .eq 9, 3) := by decide +kernel
theorem dX2_takeIsle_28 : decode cX2_takeIsle 28 = .ok (.aload_n 0, 1) := by decide +kernel
theorem dX2_takeIsle_29 : decode cX2_takeIsle 29 = .ok (.iconst 4, 1) := by decide +kernel
theorem dX2_takeIsle_30 : decode cX2_takeIsle 30 = .ok (.invokevirtual 74, 3) := by decide +kernel
theorem dX2_takeIsle_33 : decode cX2_takeIsle 33 = .ok (.ireturn, 1) := by decide +kernel
theorem dX2_takeIsle_34 : decode cX2_takeIsle 34 = .ok (.aload_n 0, 1) := by decide +kernel
theorem dX2_takeIsle_35 : decode cX2_takeIsle 35 = .ok (.getfield 22, 3) := by decide +kernel
theorem dX2_takeIsle_38 : decode cX2_takeIsle 38 = .ok (.iload_n 1, 1) := by decide +kernel
theorem dX2_takeIsle_39 : decode cX2_takeIsle 39 = .ok (.aload_n 0, 1) := by decide +kernel
theorem dX2_takeIsle_40 : decode cX2_takeIsle 40 = .ok (.getfield 55, 3) := by decide +kernel
theorem dX2_takeIsle_43 : decode cX2_takeIsle 43 = .ok (.invokevirtual 139, 3) := by decide +kernel
theorem dX2_takeIsle_46 : decode cX2_takeIsle 46 = .ok (.aload_n 0, 1) := by decide +kernel
theorem dX2_takeIsle_47 : decode cX2_takeIsle 47 = .ok (.invokevirtual 143, 3) := by decide +kernel
theorem dX2_takeIsle_50 : decode cX2_takeIsle 50 = .ok (.ireturn, 1) := by decide +kernel
theorem dX2_takePair_0 : decode cX2_takePair 0 = .ok (.aload_n 0, 1) := by decide +kernel
theorem dX2_takePair_1 : decode cX2_takePair 1 = .ok (.iconst 0, 1) := by decide +kernel
theorem dX2_takePair_2 : decode cX2_takePair 2 = .ok (.iconst 4, 1) := by decide +kernel
theorem dX2_takePair_3 : decode cX2_takePair 3 = .ok (.invokevirtual 132, 3) := by decide +kernel
theorem dX2_takePair_6 : decode cX2_takePair 6 = .ok (.ifCond .ne 5, 3) := by decide +kernel
theorem dX2_takePair_9 : decode cX2_takePair 9 = .ok (.iconst 0, 1) := by decide +kernel
theorem dX2_takePair_10 : decode cX2_takePair 10 = .ok (.ireturn, 1) := by decide +kernel
theorem dX2_takePair_11 : decode cX2_takePair 11 = .ok (.aload_n 0, 1) := by decide +kernel
theorem dX2_takePair_12 : decode cX2_takePair 12 = .ok (.aload_n 0, 1) := by decide +kernel
theorem dX2_takePair_13 : decode cX2_takePair 13 = .ok (.getfield 55, 3) := by decide +kernel
theorem dX2_takePair_16 : decode cX2_takePair 16 = .ok (.putfield 58, 3) := by decide +kernel
theorem dX2_takePair_19 : decode cX2_takePair 19 = .ok (.aload_n 0, 1) := by decide +kernel
theorem dX2_takePair_20 : decode cX2_takePair 20 = .ok (.iconst 0, 1) := by decide +kernel
theorem dX2_takePair_21 : decode cX2_takePair 21 = .ok (.iconst 4, 1) := by decide +kernel
theorem dX2_takePair_22 : decode cX2_takePair 22 = .ok (.invokevirtual 132, 3) := by decide +kernel
theorem dX2_takePair_25 : decode cX2_takePair 25 = .ok (.ifCond .ne 5, 3) := by decide +kernel
theorem dX2_takePair_28 : decode cX2_takePair 28 = .ok (.iconst 0, 1) := by decide +kernel
theorem dX2_takePair_29 : decode cX2_takePair 29 = .ok (.ireturn, 1) := by decide +kernel
theorem dX2_takePair_30 : decode cX2_takePair 30 = .ok (.aload_n 0, 1) := by decide +kernel
theorem dX2_takePair_31 : decode cX2_takePair 31 = .ok (.aload_n 0, 1) := by decide +kernel
theorem dX2_takePair_32 : decode cX2_takePair 32 = .ok (.getfield 55, 3) := by decide +kernel
theorem dX2_takePair_35 : decode cX2_takePair 35 = .ok (.putfield 61, 3) := by decide +kernel
theorem dX2_takePair_38 : decode cX2_takePair 38 = .ok (.aload_n 0, 1) := by decide +kernel
theorem dX2_takePair_39 : decode cX2_takePair 39 = .ok (.aload_n 0, 1) := by decide +kernel
theorem dX2_takePair_40 : decode cX2_takePair 40 = .ok (.getfield 43, 3) := by decide +kernel
theorem dX2_takePair_43 : decode cX2_takePair 43 = .ok (.aload_n 0, 1) := by decide +kernel
theorem dX2_takePair_44 : decode cX2_takePair 44 = .ok (.getfield 58, 3) := by decide +kernel
theorem dX2_takePair_47 : decode cX2_takePair 47 = .ok (.aload_n 0, 1) := by decide +kernel
theorem dX2_takePair_48 : decode cX2_takePair 48 = .ok (.getfield 61, 3) := by decide +kernel
theorem dX2_takePair_51 : decode cX2_takePair 51 = .ok (.invokestatic 146, 3) := by decide +kernel
theorem dX2_takePair_54 : decode cX2_takePair 54 = .ok (.invokestatic 146, 3) := by decide +kernel
theorem dX2_takePair_57 : decode cX2_takePair 57 = .ok (.putfield 43, 3) := by decide +kernel
theorem dX2_takePair_60 : decode cX2_takePair 60 = .ok (.aload_n 0, 1) := by decide +kernel
theorem dX2_takePair_61 : decode cX2_takePair 61 = .ok (.getfield 58, 3) := by decide +kernel
theorem dX2_takePair_64 : decode cX2_takePair 64 = .ok (.aload_n 0, 1) := by decide +kernel
theorem dX2_takePair_65 : decode cX2_takePair 65 = .ok (.getfield 61, 3) := by decide +kernel
theorem dX2_takePair_68 : decode cX2_takePair 68 = .ok (.if_icmp .ne 11, 3) := by decide +kernel
theorem dX2_takePair_71 : decode cX2_takePair 71 = .ok (.aload_n 0, 1) := by decide +kernel
theorem dX2_takePair_72 : decode cX2_takePair 72 = .ok (.iconst 3, 1) := by decide +kernel
theorem dX2_takePair_73 : decode cX2_takePair 73 = .ok (.invokevirtual 74, 3) := by decide +kernel
theorem dX2_takePair_76 : decode cX2_takePair 76 = .ok (.ifCond .eq 7, 3) := by decide +kernel
theorem dX2_takePair_79 : decode cX2_takePair 79 = .ok (.iconst 1, 1) := by decide +kernel
theorem dX2_takePair_80 : decode cX2_takePair 80 = .ok (.goto 4, 3) := by decide +kernel
theorem dX2_takePair_83 : decode cX2_takePair 83 = .ok (.iconst 0, 1) := by decide +kernel
theorem dX2_takePair_84 : decode cX2_takePair 84 = .ok (.ireturn, 1) := by decide +kernel
theorem dX2_takeGrudge_0 : decode cX2_takeGrudge 0 = .ok (.aload_n 0, 1) := by decide +kernel
theorem dX2_takeGrudge_1 : decode cX2_takeGrudge 1 = .ok (.getfield 35, 3) := by decide +kernel
theorem dX2_takeGrudge_4 : decode cX2_takeGrudge 4 = .ok (.aload_n 0, 1) := by decide +kernel
theorem dX2_takeGrudge_5 : decode cX2_takeGrudge 5 = .ok (.getfield 58, 3) := by decide +kernel
theorem dX2_takeGrudge_8 : decode cX2_takeGrudge 8 = .ok (.iconst 5, 1) := by decide +kernel
theorem dX2_takeGrudge_9 : decode cX2_takeGrudge 9 = .ok (.imul, 1) := by decide +kernel
theorem dX2_takeGrudge_10 : decode cX2_takeGrudge 10 = .ok (.aload_n 0, 1) := by decide +kernel
theorem dX2_takeGrudge_11 : decode cX2_takeGrudge 11 = .ok (.getfield 61, 3) := by decide +kernel
theorem dX2_takeGrudge_14 : decode cX2_takeGrudge 14 = .ok (.iadd, 1) := by decide +kernel
theorem dX2_takeGrudge_15 : decode cX2_takeGrudge 15 = .ok (.baload, 1) := by decide +kernel
theorem dX2_takeGrudge_16 : decode cX2_takeGrudge 16 = .ok (.ifCond .eq 9, 3) := by decide +kernel
theorem dX2_takeGrudge_19 : decode cX2_takeGrudge 19 = .ok (.aload_n 0, 1) := by decide +kernel
theorem dX2_takeGrudge_20 : decode cX2_takeGrudge 20 = .ok (.iconst 4, 1) := by decide +kernel
theorem dX2_takeGrudge_21 : decode cX2_takeGrudge 21 = .ok (.invokevirtual 74, 3) := by decide +kernel
theorem dX2_takeGrudge_24 : decode cX2_takeGrudge 24 = .ok (.ireturn, 1) := by decide +kernel
theorem dX2_takeGrudge_25 : decode cX2_takeGrudge 25 = .ok (.aload_n 0, 1) := by decide +kernel
theorem dX2_takeGrudge_26 : decode cX2_takeGrudge 26 = .ok (.iconst 0, 1) := by decide +kernel
theorem dX2_takeGrudge_27 : decode cX2_takeGrudge 27 = .ok (.iconst 3, 1) := by decide +kernel
theorem dX2_takeGrudge_28 : decode cX2_takeGrudge 28 = .ok (.invokevirtual 132, 3) := by decide +kernel
theorem dX2_takeGrudge_31 : decode cX2_takeGrudge 31 = .ok (.ifCond .ne 5, 3) := by decide +kernel
theorem dX2_takeGrudge_34 : decode cX2_takeGrudge 34 = .ok (.iconst 0, 1) := by decide +kernel
theorem dX2_takeGrudge_35 : decode cX2_takeGrudge 35 = .ok (.ireturn, 1) := by decide +kernel
theorem dX2_takeGrudge_36 : decode cX2_takeGrudge 36 = .ok (.aload_n 0, 1) := by decide +kernel
theorem dX2_takeGrudge_37 : decode cX2_takeGrudge 37 = .ok (.getfield 35, 3) := by decide +kernel
theorem dX2_takeGrudge_40 : decode cX2_takeGrudge 40 = .ok (.aload_n 0, 1) := by decide +kernel
theorem dX2_takeGrudge_41 : decode cX2_takeGrudge 41 = .ok (.getfield 58, 3) := by decide +kernel
theorem dX2_takeGrudge_44 : decode cX2_takeGrudge 44 = .ok (.iconst 5, 1) := by decide +kernel
theorem dX2_takeGrudge_45 : decode cX2_takeGrudge 45 = .ok (.imul, 1) := by decide +kernel
theorem dX2_takeGrudge_46 : decode cX2_takeGrudge 46 = .ok (.aload_n 0, 1) := by decide +kernel
theorem dX2_takeGrudge_47 : decode cX2_takeGrudge 47 = .ok (.getfield 61, 3) := by decide +kernel
theorem dX2_takeGrudge_50 : decode cX2_takeGrudge 50 = .ok (.iadd, 1) := by decide +kernel
theorem dX2_takeGrudge_51 : decode cX2_takeGrudge 51 = .ok (.iconst 1, 1) := by decide +kernel
theorem dX2_takeGrudge_52 : decode cX2_takeGrudge 52 = .ok (.bastore, 1) := by decide +kernel
theorem dX2_takeGrudge_53 : decode cX2_takeGrudge 53 = .ok (.aload_n 0, 1) := by decide +kernel
theorem dX2_takeGrudge_54 : decode cX2_takeGrudge 54 = .ok (.getfield 22, 3) := by decide +kernel
theorem dX2_takeGrudge_57 : decode cX2_takeGrudge 57 = .ok (.aload_n 0, 1) := by decide +kernel
theorem dX2_takeGrudge_58 : decode cX2_takeGrudge 58 = .ok (.getfield 58, 3) := by decide +kernel
theorem dX2_takeGrudge_61 : decode cX2_takeGrudge 61 = .ok (.aload_n 0, 1) := by decide +kernel
theorem dX2_takeGrudge_62 : decode cX2_takeGrudge 62 = .ok (.getfield 61, 3) := by decide +kernel
theorem dX2_takeGrudge_65 : decode cX2_takeGrudge 65 = .ok (.aload_n 0, 1) := by decide +kernel
theorem dX2_takeGrudge_66 : decode cX2_takeGrudge 66 = .ok (.getfield 55, 3) := by decide +kernel
theorem dX2_takeGrudge_69 : decode cX2_takeGrudge 69 = .ok (.invokevirtual 152, 3) := by decide +kernel
theorem dX2_takeGrudge_72 : decode cX2_takeGrudge 72 = .ok (.aload_n 0, 1) := by decide +kernel
theorem dX2_takeGrudge_73 : decode cX2_takeGrudge 73 = .ok (.invokevirtual 143, 3) := by decide +kernel
theorem dX2_takeGrudge_76 : decode cX2_takeGrudge 76 = .ok (.ireturn, 1) := by decide +kernel
theorem dX2_takeRope_0 : decode cX2_takeRope 0 = .ok (.aload_n 0, 1) := by decide +kernel
theorem dX2_takeRope_1 : decode cX2_takeRope 1 = .ok (.iconst 1, 1) := by decide +kernel
theorem dX2_takeRope_2 : decode cX2_takeRope 2 = .ok (.bipush 30, 2) := by decide +kernel
theorem dX2_takeRope_4 : decode cX2_takeRope 4 = .ok (.invokevirtual 132, 3) := by decide +kernel
theorem dX2_takeRope_7 : decode cX2_takeRope 7 = .ok (.ifCond .ne 5, 3) := by decide +kernel
theorem dX2_takeRope_10 : decode cX2_takeRope 10 = .ok (.iconst 0, 1) := by decide +kernel
theorem dX2_takeRope_11 : decode cX2_takeRope 11 = .ok (.ireturn, 1) := by decide +kernel
theorem dX2_takeRope_12 : decode cX2_takeRope 12 = .ok (.aload_n 0, 1) := by decide +kernel
theorem dX2_takeRope_13 : decode cX2_takeRope 13 = .ok (.getfield 22, 3) := by decide +kernel
theorem dX2_takeRope_16 : decode cX2_takeRope 16 = .ok (.aload_n 0, 1) := by decide +kernel
theorem dX2_takeRope_17 : decode cX2_takeRope 17 = .ok (.getfield 58, 3) := by decide +kernel
theorem dX2_takeRope_20 : decode cX2_takeRope 20 = .ok (.aload_n 0, 1) := by decide +kernel
theorem dX2_takeRope_21 : decode cX2_takeRope 21 = .ok (.getfield 61, 3) := by decide +kernel
theorem dX2_takeRope_24 : decode cX2_takeRope 24 = .ok (.aload_n 0, 1) := by decide +kernel
theorem dX2_takeRope_25 : decode cX2_takeRope 25 = .ok (.getfield 55, 3) := by decide +kernel
theorem dX2_takeRope_28 : decode cX2_takeRope 28 = .ok (.invokevirtual 156, 3) := by decide +kernel
theorem dX2_takeRope_31 : decode cX2_takeRope 31 = .ok (.aload_n 0, 1) := by decide +kernel
theorem dX2_takeRope_32 : decode cX2_takeRope 32 = .ok (.invokevirtual 143, 3) := by decide +kernel
theorem dX2_takeRope_35 : decode cX2_takeRope 35 = .ok (.ireturn, 1) := by decide +kernel
theorem dX2_takeFeast_0 : decode cX2_takeFeast 0 = .ok (.aload_n 0, 1) := by decide +kernel
theorem dX2_takeFeast_1 : decode cX2_takeFeast 1 = .ok (.iconst 0, 1) := by decide +kernel
theorem dX2_takeFeast_2 : decode cX2_takeFeast 2 = .ok (.bipush 6, 2) := by decide +kernel
theorem dX2_takeFeast_4 : decode cX2_takeFeast 4 = .ok (.invokevirtual 132, 3) := by decide +kernel
theorem dX2_takeFeast_7 : decode cX2_takeFeast 7 = .ok (.ifCond .ne 5, 3) := by decide +kernel
theorem dX2_takeFeast_10 : decode cX2_takeFeast 10 = .ok (.iconst 0, 1) := by decide +kernel
theorem dX2_takeFeast_11 : decode cX2_takeFeast 11 = .ok (.ireturn, 1) := by decide +kernel
theorem dX2_takeFeast_12 : decode cX2_takeFeast 12 = .ok (.aload_n 0, 1) := by decide +kernel
theorem dX2_takeFeast_13 : decode cX2_takeFeast 13 = .ok (.iconst 1, 1) := by decide +kernel
theorem dX2_takeFeast_14 : decode cX2_takeFeast 14 = .ok (.putfield 39, 3) := by decide +kernel
theorem dX2_takeFeast_17 : decode cX2_takeFeast 17 = .ok (.aload_n 0, 1) := by decide +kernel
theorem dX2_takeFeast_18 : decode cX2_takeFeast 18 = .ok (.getfield 22, 3) := by decide +kernel
theorem dX2_takeFeast_21 : decode cX2_takeFeast 21 = .ok (.aload_n 0, 1) := by decide +kernel
theorem dX2_takeFeast_22 : decode cX2_takeFeast 22 = .ok (.getfield 55, 3) := by decide +kernel
theorem dX2_takeFeast_25 : decode cX2_takeFeast 25 = .ok (.putfield 159, 3) := by decide +kernel
theorem dX2_takeFeast_28 : decode cX2_takeFeast 28 = .ok (.aload_n 0, 1) := by decide +kernel
theorem dX2_takeFeast_29 : decode cX2_takeFeast 29 = .ok (.invokevirtual 143, 3) := by decide +kernel
theorem dX2_takeFeast_32 : decode cX2_takeFeast 32 = .ok (.ireturn, 1) := by decide +kernel
theorem dX2_takeNumber_0 : decode cX2_takeNumber 0 = .ok (.aload_n 0, 1) := by decide +kernel
theorem dX2_takeNumber_1 : decode cX2_takeNumber 1 = .ok (.invokevirtual 67, 3) := by decide +kernel
theorem dX2_takeNumber_4 : decode cX2_takeNumber 4 = .ok (.ifCond .ne 5, 3) := by decide +kernel
theorem dX2_takeNumber_7 : decode cX2_takeNumber 7 = .ok (.iconst 0, 1) := by decide +kernel
theorem dX2_takeNumber_8 : decode cX2_takeNumber 8 = .ok (.ireturn, 1) := by decide +kernel
theorem dX2_takeNumber_9 : decode cX2_takeNumber 9 = .ok (.aload_n 0, 1) := by decide +kernel
theorem dX2_takeNumber_10 : decode cX2_takeNumber 10 = .ok (.getfield 49, 3) := by decide +kernel
theorem dX2_takeNumber_13 : decode cX2_takeNumber 13 = .ok (.iconst 2, 1) := by decide +kernel
theorem dX2_takeNumber_14 : decode cX2_takeNumber 14 = .ok (.if_icmp .eq 9, 3) := by decide +kernel
theorem dX2_takeNumber_17 : decode cX2_takeNumber 17 = .ok (.aload_n 0, 1) := by decide +kernel
theorem dX2_takeNumber_18 : decode cX2_takeNumber 18 = .ok (.iconst 2, 1) := by decide +kernel
theorem dX2_takeNumber_19 : decode cX2_takeNumber 19 = .ok (.invokevirtual 74, 3) := by decide +kernel
theorem dX2_takeNumber_22 : decode cX2_takeNumber 22 = .ok (.ireturn, 1) := by decide +kernel
theorem dX2_takeNumber_23 : decode cX2_takeNumber 23 = .ok (.aload_n 0, 1) := by decide +kernel
theorem dX2_takeNumber_24 : decode cX2_takeNumber 24 = .ok (.getfield 55, 3) := by decide +kernel
theorem dX2_takeNumber_27 : decode cX2_takeNumber 27 = .ok (.iload_n 1, 1) := by decide +kernel
theorem dX2_takeNumber_28 : decode cX2_takeNumber 28 = .ok (.iload_n 2, 1) := by decide +kernel
theorem dX2_takeNumber_29 : decode cX2_takeNumber 29 = .ok (.invokestatic 162, 3) := by decide +kernel
theorem dX2_takeNumber_32 : decode cX2_takeNumber 32 = .ok (.ifCond .ne 11, 3) := by decide +kernel
theorem dX2_takeNumber_35 : decode cX2_takeNumber 35 = .ok (.aload_n 0, 1) := by decide +kernel
theorem dX2_takeNumber_36 : decode cX2_takeNumber 36 = .ok (.iconst 3, 1) := by decide +kernel
theorem dX2_takeNumber_37 : decode cX2_takeNumber 37 = .ok (.invokevirtual 74, 3) := by decide +kernel
theorem dX2_takeNumber_40 : decode cX2_takeNumber 40 = .ok (.ifCond .eq 7, 3) := by decide +kernel
theorem dX2_takeNumber_43 : decode cX2_takeNumber 43 = .ok (.iconst 1, 1) := by decide +kernel
theorem dX2_takeNumber_44 : decode cX2_takeNumber 44 = .ok (.goto 4, 3) := by decide +kernel
theorem dX2_takeNumber_47 : decode cX2_takeNumber 47 = .ok (.iconst 0, 1) := by decide +kernel
theorem dX2_takeNumber_48 : decode cX2_takeNumber 48 = .ok (.ireturn, 1) := by decide +kernel
theorem dX2_takeStop_0 : decode cX2_takeStop 0 = .ok (.aload_n 0, 1) := by decide +kernel
theorem dX2_takeStop_1 : decode cX2_takeStop 1 = .ok (.invokevirtual 67, 3) := by decide +kernel
theorem dX2_takeStop_4 : decode cX2_takeStop 4 = .ok (.ifCond .eq 23, 3) := by decide +kernel
theorem dX2_takeStop_7 : decode cX2_takeStop 7 = .ok (.aload_n 0, 1) := by decide +kernel
theorem dX2_takeStop_8 : decode cX2_takeStop 8 = .ok (.getfield 49, 3) := by decide +kernel
theorem dX2_takeStop_11 : decode cX2_takeStop 11 = .ok (.iconst 3, 1) := by decide +kernel
theorem dX2_takeStop_12 : decode cX2_takeStop 12 = .ok (.if_icmp .eq 11, 3) := by decide +kernel
theorem dX2_takeStop_15 : decode cX2_takeStop 15 = .ok (.aload_n 0, 1) := by decide +kernel
theorem dX2_takeStop_16 : decode cX2_takeStop 16 = .ok (.iconst 2, 1) := by decide +kernel
theorem dX2_takeStop_17 : decode cX2_takeStop 17 = .ok (.invokevirtual 74, 3) := by decide +kernel
theorem dX2_takeStop_20 : decode cX2_takeStop 20 = .ok (.ifCond .eq 7, 3) := by decide +kernel
theorem dX2_takeStop_23 : decode cX2_takeStop 23 = .ok (.iconst 1, 1) := by decide +kernel
theorem dX2_takeStop_24 : decode cX2_takeStop 24 = .ok (.goto 4, 3) := by decide +kernel
theorem dX2_takeStop_27 : decode cX2_takeStop 27 = .ok (.iconst 0, 1) := by decide +kernel
theorem dX2_takeStop_28 : decode cX2_takeStop 28 = .ok (.ireturn, 1) := by decide +kernel
theorem dX2_takeToken_0 : decode cX2_takeToken 0 = .ok (.aload_n 0, 1) := by decide +kernel
theorem dX2_takeToken_1 : decode cX2_takeToken 1 = .ok (.bipush 32, 2) := by decide +kernel
theorem dX2_takeToken_3 : decode cX2_takeToken 3 = .ok (.bipush 32, 2) := by decide +kernel
theorem dX2_takeToken_5 : decode cX2_takeToken 5 = .ok (.invokevirtual 166, 3) := by decide +kernel
theorem dX2_takeToken_8 : decode cX2_takeToken 8 = .ok (.pop, 1) := by decide +kernel
theorem dX2_takeToken_9 : decode cX2_takeToken 9 = .ok (.aload_n 0, 1) := by decide +kernel
theorem dX2_takeToken_10 : decode cX2_takeToken 10 = .ok (.aload_n 0, 1) := by decide +kernel
theorem dX2_takeToken_11 : decode cX2_takeToken 11 = .ok (.getfield 46, 3) := by decide +kernel
theorem dX2_takeToken_14 : decode cX2_takeToken 14 = .ok (.putfield 52, 3) := by decide +kernel
theorem dX2_takeToken_17 : decode cX2_takeToken 17 = .ok (.aload_n 0, 1) := by decide +kernel
theorem dX2_takeToken_18 : decode cX2_takeToken 18 = .ok (.getfield 46, 3) := by decide +kernel
theorem dX2_takeToken_21 : decode cX2_takeToken 21 = .ok (.aload_n 0, 1) := by decide +kernel
theorem dX2_takeToken_22 : decode cX2_takeToken 22 = .ok (.getfield 15, 3) := by decide +kernel
theorem dX2_takeToken_25 : decode cX2_takeToken 25 = .ok (.if_icmp .lt 10, 3) := by decide +kernel
theorem dX2_takeToken_28 : decode cX2_takeToken 28 = .ok (.aload_n 0, 1) := by decide +kernel
theorem dX2_takeToken_29 : decode cX2_takeToken 29 = .ok (.iconst 0, 1) := by decide +kernel
theorem dX2_takeToken_30 : decode cX2_takeToken 30 = .ok (.putfield 49, 3) := by decide +kernel
theorem dX2_takeToken_33 : decode cX2_takeToken 33 = .ok (.iconst 1, 1) := by decide +kernel
theorem dX2_takeToken_34 : decode cX2_takeToken 34 = .ok (.ireturn, 1) := by decide +kernel
theorem dX2_takeToken_35 : decode cX2_takeToken 35 = .ok (.aload_n 0, 1) := by decide +kernel
theorem dX2_takeToken_36 : decode cX2_takeToken 36 = .ok (.getfield 9, 3) := by decide +kernel
theorem dX2_takeToken_39 : decode cX2_takeToken 39 = .ok (.aload_n 0, 1) := by decide +kernel
theorem dX2_takeToken_40 : decode cX2_takeToken 40 = .ok (.getfield 46, 3) := by decide +kernel
theorem dX2_takeToken_43 : decode cX2_takeToken 43 = .ok (.baload, 1) := by decide +kernel
theorem dX2_takeToken_44 : decode cX2_takeToken 44 = .ok (.bipush 59, 2) := by decide +kernel
theorem dX2_takeToken_46 : decode cX2_takeToken 46 = .ok (.if_icmp .ne 20, 3) := by decide +kernel
theorem dX2_takeToken_49 : decode cX2_takeToken 49 = .ok (.aload_n 0, 1) := by decide +kernel
theorem dX2_takeToken_50 : decode cX2_takeToken 50 = .ok (.dup, 1) := by decide +kernel
theorem dX2_takeToken_51 : decode cX2_takeToken 51 = .ok (.getfield 46, 3) := by decide +kernel
theorem dX2_takeToken_54 : decode cX2_takeToken 54 = .ok (.iconst 1, 1) := by decide +kernel
theorem dX2_takeToken_55 : decode cX2_takeToken 55 = .ok (.iadd, 1) := by decide +kernel
theorem dX2_takeToken_56 : decode cX2_takeToken 56 = .ok (.putfield 46, 3) := by decide +kernel
theorem dX2_takeToken_59 : decode cX2_takeToken 59 = .ok (.aload_n 0, 1) := by decide +kernel
theorem dX2_takeToken_60 : decode cX2_takeToken 60 = .ok (.iconst 3, 1) := by decide +kernel
theorem dX2_takeToken_61 : decode cX2_takeToken 61 = .ok (.putfield 49, 3) := by decide +kernel
theorem dX2_takeToken_64 : decode cX2_takeToken 64 = .ok (.iconst 1, 1) := by decide +kernel
theorem dX2_takeToken_65 : decode cX2_takeToken 65 = .ok (.ireturn, 1) := by decide +kernel
theorem dX2_takeToken_66 : decode cX2_takeToken 66 = .ok (.aload_n 0, 1) := by decide +kernel
theorem dX2_takeToken_67 : decode cX2_takeToken 67 = .ok (.bipush 97, 2) := by decide +kernel
theorem dX2_takeToken_69 : decode cX2_takeToken 69 = .ok (.bipush 122, 2) := by decide +kernel
theorem dX2_takeToken_71 : decode cX2_takeToken 71 = .ok (.invokevirtual 166, 3) := by decide +kernel
theorem dX2_takeToken_74 : decode cX2_takeToken 74 = .ok (.ifCond .le 10, 3) := by decide +kernel
theorem dX2_takeToken_77 : decode cX2_takeToken 77 = .ok (.aload_n 0, 1) := by decide +kernel
theorem dX2_takeToken_78 : decode cX2_takeToken 78 = .ok (.iconst 1, 1) := by decide +kernel
theorem dX2_takeToken_79 : decode cX2_takeToken 79 = .ok (.putfield 49, 3) := by decide +kernel
theorem dX2_takeToken_82 : decode cX2_takeToken 82 = .ok (.iconst 1, 1) := by decide +kernel
theorem dX2_takeToken_83 : decode cX2_takeToken 83 = .ok (.ireturn, 1) := by decide +kernel
theorem dX2_takeToken_84 : decode cX2_takeToken 84 = .ok (.aload_n 0, 1) := by decide +kernel
theorem dX2_takeToken_85 : decode cX2_takeToken 85 = .ok (.bipush 48, 2) := by decide +kernel
theorem dX2_takeToken_87 : decode cX2_takeToken 87 = .ok (.bipush 57, 2) := by decide +kernel
theorem dX2_takeToken_89 : decode cX2_takeToken 89 = .ok (.invokevirtual 166, 3) := by decide +kernel
theorem dX2_takeToken_92 : decode cX2_takeToken 92 = .ok (.istore_n 1, 1) := by decide +kernel
theorem dX2_takeToken_93 : decode cX2_takeToken 93 = .ok (.iload_n 1, 1) := by decide +kernel
theorem dX2_takeToken_94 : decode cX2_takeToken 94 = .ok (.iconst 1, 1) := by decide +kernel
theorem dX2_takeToken_95 : decode cX2_takeToken 95 = .ok (.if_icmp .lt 8, 3) := by decide +kernel
theorem dX2_takeToken_98 : decode cX2_takeToken 98 = .ok (.iload_n 1, 1) := by decide +kernel
theorem dX2_takeToken_99 : decode cX2_takeToken 99 = .ok (.iconst 2, 1) := by decide +kernel
theorem dX2_takeToken_100 : decode cX2_takeToken 100 = .ok (.if_icmp .le 9, 3) := by decide +kernel
theorem dX2_takeToken_103 : decode cX2_takeToken 103 = .ok (.aload_n 0, 1) := by decide +kernel
theorem dX2_takeToken_104 : decode cX2_takeToken 104 = .ok (.iconst 1, 1) := by decide +kernel
theorem dX2_takeToken_105 : decode cX2_takeToken 105 = .ok (.invokevirtual 74, 3) := by decide +kernel
theorem dX2_takeToken_108 : decode cX2_takeToken 108 = .ok (.ireturn, 1) := by decide +kernel
theorem dX2_takeToken_109 : decode cX2_takeToken 109 = .ok (.aload_n 0, 1) := by decide +kernel
theorem dX2_takeToken_110 : decode cX2_takeToken 110 = .ok (.iconst 2, 1) := by decide +kernel
theorem dX2_takeToken_111 : decode cX2_takeToken 111 = .ok (.putfield 49, 3) := by decide +kernel
theorem dX2_takeToken_114 : decode cX2_takeToken 114 = .ok (.aload_n 0, 1) := by decide +kernel
theorem dX2_takeToken_115 : decode cX2_takeToken 115 = .ok (.aload_n 0, 1) := by decide +kernel
theorem dX2_takeToken_116 : decode cX2_takeToken 116 = .ok (.getfield 9, 3) := by decide +kernel
theorem dX2_takeToken_119 : decode cX2_takeToken 119 = .ok (.aload_n 0, 1) := by decide +kernel
theorem dX2_takeToken_120 : decode cX2_takeToken 120 = .ok (.getfield 46, 3) := by decide +kernel
theorem dX2_takeToken_123 : decode cX2_takeToken 123 = .ok (.iconst 1, 1) := by decide +kernel
theorem dX2_takeToken_124 : decode cX2_takeToken 124 = .ok (.isub, 1) := by decide +kernel
theorem dX2_takeToken_125 : decode cX2_takeToken 125 = .ok (.baload, 1) := by decide +kernel
theorem dX2_takeToken_126 : decode cX2_takeToken 126 = .ok (.bipush 48, 2) := by decide +kernel
theorem dX2_takeToken_128 : decode cX2_takeToken 128 = .ok (.isub, 1) := by decide +kernel
theorem dX2_takeToken_129 : decode cX2_takeToken 129 = .ok (.iload_n 1, 1) := by decide +kernel
theorem dX2_takeToken_130 : decode cX2_takeToken 130 = .ok (.iconst 2, 1) := by decide +kernel
theorem dX2_takeToken_131 : decode cX2_takeToken 131 = .ok (.if_icmp .ne 21, 3) := by decide +kernel
theorem dX2_takeToken_134 : decode cX2_takeToken 134 = .ok (.bipush 10, 2) := by decide +kernel
theorem dX2_takeToken_136 : decode cX2_takeToken 136 = .ok (.aload_n 0, 1) := by decide +kernel
theorem dX2_takeToken_137 : decode cX2_takeToken 137 = .ok (.getfield 9, 3) := by decide +kernel
theorem dX2_takeToken_140 : decode cX2_takeToken 140 = .ok (.aload_n 0, 1) := by decide +kernel
theorem dX2_takeToken_141 : decode cX2_takeToken 141 = .ok (.getfield 52, 3) := by decide +kernel
theorem dX2_takeToken_144 : decode cX2_takeToken 144 = .ok (.baload, 1) := by decide +kernel
theorem dX2_takeToken_145 : decode cX2_takeToken 145 = .ok (.bipush 48, 2) := by decide +kernel
theorem dX2_takeToken_147 : decode cX2_takeToken 147 = .ok (.isub, 1) := by decide +kernel
theorem dX2_takeToken_148 : decode cX2_takeToken 148 = .ok (.imul, 1) := by decide +kernel
theorem dX2_takeToken_149 : decode cX2_takeToken 149 = .ok (.goto 4, 3) := by decide +kernel
theorem dX2_takeToken_152 : decode cX2_takeToken 152 = .ok (.iconst 0, 1) := by decide +kernel
theorem dX2_takeToken_153 : decode cX2_takeToken 153 = .ok (.iadd, 1) := by decide +kernel
theorem dX2_takeToken_154 : decode cX2_takeToken 154 = .ok (.putfield 55, 3) := by decide +kernel
theorem dX2_takeToken_157 : decode cX2_takeToken 157 = .ok (.iconst 1, 1) := by decide +kernel
theorem dX2_takeToken_158 : decode cX2_takeToken 158 = .ok (.ireturn, 1) := by decide +kernel
theorem dX2_pass_0 : decode cX2_pass 0 = .ok (.aload_n 0, 1) := by decide +kernel
theorem dX2_pass_1 : decode cX2_pass 1 = .ok (.getfield 46, 3) := by decide +kernel
theorem dX2_pass_4 : decode cX2_pass 4 = .ok (.istore_n 3, 1) := by decide +kernel
theorem dX2_pass_5 : decode cX2_pass 5 = .ok (.aload_n 0, 1) := by decide +kernel
theorem dX2_pass_6 : decode cX2_pass 6 = .ok (.getfield 46, 3) := by decide +kernel
theorem dX2_pass_9 : decode cX2_pass 9 = .ok (.aload_n 0, 1) := by decide +kernel
theorem dX2_pass_10 : decode cX2_pass 10 = .ok (.getfield 15, 3) := by decide +kernel
theorem dX2_pass_13 : decode cX2_pass 13 = .ok (.if_icmp .ge 42, 3) := by decide +kernel
theorem dX2_pass_16 : decode cX2_pass 16 = .ok (.aload_n 0, 1) := by decide +kernel
theorem dX2_pass_17 : decode cX2_pass 17 = .ok (.getfield 9, 3) := by decide +kernel
theorem dX2_pass_20 : decode cX2_pass 20 = .ok (.aload_n 0, 1) := by decide +kernel
theorem dX2_pass_21 : decode cX2_pass 21 = .ok (.getfield 46, 3) := by decide +kernel
theorem dX2_pass_24 : decode cX2_pass 24 = .ok (.baload, 1) := by decide +kernel
theorem dX2_pass_25 : decode cX2_pass 25 = .ok (.iload_n 1, 1) := by decide +kernel
theorem dX2_pass_26 : decode cX2_pass 26 = .ok (.if_icmp .lt 29, 3) := by decide +kernel
theorem dX2_pass_29 : decode cX2_pass 29 = .ok (.aload_n 0, 1) := by decide +kernel
theorem dX2_pass_30 : decode cX2_pass 30 = .ok (.getfield 9, 3) := by decide +kernel
theorem dX2_pass_33 : decode cX2_pass 33 = .ok (.aload_n 0, 1) := by decide +kernel
theorem dX2_pass_34 : decode cX2_pass 34 = .ok (.getfield 46, 3) := by decide +kernel
theorem dX2_pass_37 : decode cX2_pass 37 = .ok (.baload, 1) := by decide +kernel
theorem dX2_pass_38 : decode cX2_pass 38 = .ok (.iload_n 2, 1) := by decide +kernel
theorem dX2_pass_39 : decode cX2_pass 39 = .ok (.if_icmp .gt 16, 3) := by decide +kernel
theorem dX2_pass_42 : decode cX2_pass 42 = .ok (.aload_n 0, 1) := by decide +kernel
theorem dX2_pass_43 : decode cX2_pass 43 = .ok (.dup, 1) := by decide +kernel
theorem dX2_pass_44 : decode cX2_pass 44 = .ok (.getfield 46, 3) := by decide +kernel
theorem dX2_pass_47 : decode cX2_pass 47 = .ok (.iconst 1, 1) := by decide +kernel
theorem dX2_pass_48 : decode cX2_pass 48 = .ok (.iadd, 1) := by decide +kernel
theorem dX2_pass_49 : decode cX2_pass 49 = .ok (.putfield 46, 3) := by decide +kernel
theorem dX2_pass_52 : decode cX2_pass 52 = .ok (.goto (-47), 3) := by decide +kernel
theorem dX2_pass_55 : decode cX2_pass 55 = .ok (.aload_n 0, 1) := by decide +kernel
theorem dX2_pass_56 : decode cX2_pass 56 = .ok (.getfield 46, 3) := by decide +kernel
theorem dX2_pass_59 : decode cX2_pass 59 = .ok (.iload_n 3, 1) := by decide +kernel
theorem dX2_pass_60 : decode cX2_pass 60 = .ok (.isub, 1) := by decide +kernel
theorem dX2_pass_61 : decode cX2_pass 61 = .ok (.ireturn, 1) := by decide +kernel
theorem dX3_init_0 : decode cX3_init 0 = .ok (.aload_n 0, 1) := by decide +kernel
theorem dX3_init_1 : decode cX3_init 1 = .ok (.invokespecial 3, 3) := by decide +kernel
theorem dX3_init_4 : decode cX3_init 4 = .ok (.aload_n 0, 1) := by decide +kernel
theorem dX3_init_5 : decode cX3_init 5 = .ok (.bipush (-4), 2) := by decide +kernel
theorem dX3_init_7 : decode cX3_init 7 = .ok (.putfield 9, 3) := by decide +kernel
theorem dX3_init_10 : decode cX3_init 10 = .ok (.aload_n 0, 1) := by decide +kernel
theorem dX3_init_11 : decode cX3_init 11 = .ok (.iconst 0, 1) := by decide +kernel
theorem dX3_init_12 : decode cX3_init 12 = .ok (.putfield 15, 3) := by decide +kernel
theorem dX3_init_15 : decode cX3_init 15 = .ok (.aload_n 0, 1) := by decide +kernel
theorem dX3_init_16 : decode cX3_init 16 = .ok (.bipush 40, 2) := by decide +kernel
theorem dX3_init_18 : decode cX3_init 18 = .ok (.newarray .int, 2) := by decide +kernel
theorem dX3_init_20 : decode cX3_init 20 = .ok (.putfield 18, 3) := by decide +kernel
theorem dX3_init_23 : decode cX3_init 23 = .ok (.return_, 1) := by decide +kernel
theorem dX3_renew_0 : decode cX3_renew 0 = .ok (.aload_n 0, 1) := by decide +kernel
theorem dX3_renew_1 : decode cX3_renew 1 = .ok (.iload_n 1, 1) := by decide +kernel
theorem dX3_renew_2 : decode cX3_renew 2 = .ok (.putfield 9, 3) := by decide +kernel
theorem dX3_renew_5 : decode cX3_renew 5 = .ok (.aload_n 0, 1) := by decide +kernel
theorem dX3_renew_6 : decode cX3_renew 6 = .ok (.iload_n 2, 1) := by decide +kernel
theorem dX3_renew_7 : decode cX3_renew 7 = .ok (.putfield 15, 3) := by decide +kernel
theorem dX3_renew_10 : decode cX3_renew 10 = .ok (.aload_n 0, 1) := by decide +kernel
theorem dX3_renew_11 : decode cX3_renew 11 = .ok (.getfield 18, 3) := by decide +kernel
theorem dX3_renew_14 : decode cX3_renew 14 = .ok (.iconst 0, 1) := by decide +kernel
theorem dX3_renew_15 : decode cX3_renew 15 = .ok (.invokestatic 22, 3) := by decide +kernel
theorem dX3_renew_18 : decode cX3_renew 18 = .ok (.return_, 1) := by decide +kernel
theorem dX3_faultAt_0 : decode cX3_faultAt 0 = .ok (.aload_n 0, 1) := by decide +kernel
theorem dX3_faultAt_1 : decode cX3_faultAt 1 = .ok (.getfield 9, 3) := by decide +kernel
theorem dX3_faultAt_4 : decode cX3_faultAt 4 = .ok (.bipush (-4), 2) := by decide +kernel
theorem dX3_faultAt_6 : decode cX3_faultAt 6 = .ok (.if_icmp .ne 5, 3) := by decide +kernel
theorem dX3_faultAt_9 : decode cX3_faultAt 9 = .ok (.iconst 1, 1) := by decide +kernel
theorem dX3_faultAt_10 : decode cX3_faultAt 10 = .ok (.ireturn, 1) := by decide +kernel
theorem dX3_faultAt_11 : decode cX3_faultAt 11 = .ok (.aload_n 0, 1) := by decide +kernel
theorem dX3_faultAt_12 : decode cX3_faultAt 12 = .ok (.getfield 9, 3) := by decide +kernel
theorem dX3_faultAt_15 : decode cX3_faultAt 15 = .ok (.iload_n 1, 1) := by decide +kernel
theorem dX3_faultAt_16 : decode cX3_faultAt 16 = .ok (.if_icmp .eq 5, 3) := by decide +kernel
theorem dX3_faultAt_19 : decode cX3_faultAt 19 = .ok (.iconst 3, 1) := by decide +kernel
theorem dX3_faultAt_20 : decode cX3_faultAt 20 = .ok (.ireturn, 1) := by decide +kernel
theorem dX3_faultAt_21 : decode cX3_faultAt 21 = .ok (.iload_n 2, 1) := by decide +kernel
theorem dX3_faultAt_22 : decode cX3_faultAt 22 = .ok (.ifCond .lt 11, 3) := by decide +kernel
theorem dX3_faultAt_25 : decode cX3_faultAt 25 = .ok (.iload_n 2, 1) := by decide +kernel
theorem dX3_faultAt_26 : decode cX3_faultAt 26 = .ok (.aload_n 0, 1) := by decide +kernel
theorem dX3_faultAt_27 : decode cX3_faultAt 27 = .ok (.getfield 15, 3) := by decide +kernel
theorem dX3_faultAt_30 : decode cX3_faultAt 30 = .ok (.if_icmp .lt 7, 3) := by decide +kernel
theorem dX3_faultAt_33 : decode cX3_faultAt 33 = .ok (.iconst 2, 1) := by decide +kernel
theorem dX3_faultAt_34 : decode cX3_faultAt 34 = .ok (.goto 4, 3) := by decide +kernel
theorem dX3_faultAt_37 : decode cX3_faultAt 37 = .ok (.iconst 0, 1) := by decide +kernel
theorem dX3_faultAt_38 : decode cX3_faultAt 38 = .ok (.ireturn, 1) := by decide +kernel
theorem dX3_faultInThree_0 : decode cX3_faultInThree 0 = .ok (.iconst 0, 1) := by decide +kernel
theorem dX3_faultInThree_1 : decode cX3_faultInThree 1 = .ok (.istore_n 3, 1) := by decide +kernel
theorem dX3_faultInThree_2 : decode cX3_faultInThree 2 = .ok (.iconst 0, 1) := by decide +kernel
theorem dX3_faultInThree_3 : decode cX3_faultInThree 3 = .ok (.istore 4, 2) := by decide +kernel
theorem dX3_faultInThree_5 : decode cX3_faultInThree 5 = .ok (.iload 4, 2) := by decide +kernel
theorem dX3_faultInThree_7 : decode cX3_faultInThree 7 = .ok (.iconst 3, 1) := by decide +kernel
theorem dX3_faultInThree_8 : decode cX3_faultInThree 8 = .ok (.if_icmp .ge 23, 3) := by decide +kernel
theorem dX3_faultInThree_11 : decode cX3_faultInThree 11 = .ok (.iload_n 3, 1) := by decide +kernel
theorem dX3_faultInThree_12 : decode cX3_faultInThree 12 = .ok (.ifCond .ne 19, 3) := by decide +kernel
theorem dX3_faultInThree_15 : decode cX3_faultInThree 15 = .ok (.aload_n 0, 1) := by decide +kernel
theorem dX3_faultInThree_16 : decode cX3_faultInThree 16 = .ok (.iload_n 1, 1) := by decide +kernel
theorem dX3_faultInThree_17 : decode cX3_faultInThree 17 = .ok (.iload_n 2, 1) := by decide +kernel
theorem dX3_faultInThree_18 : decode cX3_faultInThree 18 = .ok (.iload 4, 2) := by decide +kernel
theorem dX3_faultInThree_20 : decode cX3_faultInThree 20 = .ok (.iadd, 1) := by decide +kernel
theorem dX3_faultInThree_21 : decode cX3_faultInThree 21 = .ok (.invokevirtual 28, 3) := by decide +kernel
theorem dX3_faultInThree_24 : decode cX3_faultInThree 24 = .ok (.istore_n 3, 1) := by decide +kernel
theorem dX3_faultInThree_25 : decode cX3_faultInThree 25 = .ok (.iinc 4 1, 3) := by decide +kernel
theorem dX3_faultInThree_28 : decode cX3_faultInThree 28 = .ok (.goto (-23), 3) := by decide +kernel
theorem dX3_faultInThree_31 : decode cX3_faultInThree 31 = .ok (.iload_n 3, 1) := by decide +kernel
theorem dX3_faultInThree_32 : decode cX3_faultInThree 32 = .ok (.ireturn, 1) := by decide +kernel
theorem dX3_put_0 : decode cX3_put 0 = .ok (.aload_n 0, 1) := by decide +kernel
theorem dX3_put_1 : decode cX3_put 1 = .ok (.getfield 9, 3) := by decide +kernel
theorem dX3_put_4 : decode cX3_put 4 = .ok (.ifCond .ne 14, 3) := by decide +kernel
theorem dX3_put_7 : decode cX3_put 7 = .ok (.aload_n 0, 1) := by decide +kernel
theorem dX3_put_8 : decode cX3_put 8 = .ok (.getfield 18, 3) := by decide +kernel
theorem dX3_put_11 : decode cX3_put 11 = .ok (.iload_n 1, 1) := by decide +kernel
theorem dX3_put_12 : decode cX3_put 12 = .ok (.iload_n 2, 1) := by decide +kernel
theorem dX3_put_13 : decode cX3_put 13 = .ok (.i2b, 1) := by decide +kernel
theorem dX3_put_14 : decode cX3_put 14 = .ok (.iastore, 1) := by decide +kernel
theorem dX3_put_15 : decode cX3_put 15 = .ok (.goto 29, 3) := by decide +kernel
theorem dX3_put_18 : decode cX3_put 18 = .ok (.aload_n 0, 1) := by decide +kernel
theorem dX3_put_19 : decode cX3_put 19 = .ok (.getfield 9, 3) := by decide +kernel
theorem dX3_put_22 : decode cX3_put 22 = .ok (.iconst 1, 1) := by decide +kernel
theorem dX3_put_23 : decode cX3_put 23 = .ok (.if_icmp .ne 14, 3) := by decide +kernel
theorem dX3_put_26 : decode cX3_put 26 = .ok (.aload_n 0, 1) := by decide +kernel
theorem dX3_put_27 : decode cX3_put 27 = .ok (.getfield 18, 3) := by decide +kernel
theorem dX3_put_30 : decode cX3_put 30 = .ok (.iload_n 1, 1) := by decide +kernel
theorem dX3_put_31 : decode cX3_put 31 = .ok (.iload_n 2, 1) := by decide +kernel
theorem dX3_put_32 : decode cX3_put 32 = .ok (.i2s, 1) := by decide +kernel
theorem dX3_put_33 : decode cX3_put 33 = .ok (.iastore, 1) := by decide +kernel
theorem dX3_put_34 : decode cX3_put 34 = .ok (.goto 10, 3) := by decide +kernel
theorem dX3_put_37 : decode cX3_put 37 = .ok (.aload_n 0, 1) := by decide +kernel
theorem dX3_put_38 : decode cX3_put 38 = .ok (.getfield 18, 3) := by decide +kernel
theorem dX3_put_41 : decode cX3_put 41 = .ok (.iload_n 1, 1) := by decide +kernel
theorem dX3_put_42 : decode cX3_put 42 = .ok (.iload_n 2, 1) := by decide +kernel
theorem dX3_put_43 : decode cX3_put 43 = .ok (.iastore, 1) := by decide +kernel
theorem dX3_put_44 : decode cX3_put 44 = .ok (.return_, 1) := by decide +kernel
theorem dX4_init_0 : decode cX4_init 0 = .ok (.aload_n 0, 1) := by decide +kernel
theorem dX4_init_1 : decode cX4_init 1 = .ok (.invokespecial 3, 3) := by decide +kernel
theorem dX4_init_4 : decode cX4_init 4 = .ok (.aload_n 0, 1) := by decide +kernel
theorem dX4_init_5 : decode cX4_init 5 = .ok (.iconst 0, 1) := by decide +kernel
theorem dX4_init_6 : decode cX4_init 6 = .ok (.putfield 9, 3) := by decide +kernel
theorem dX4_init_9 : decode cX4_init 9 = .ok (.aload_n 0, 1) := by decide +kernel
theorem dX4_init_10 : decode cX4_init 10 = .ok (.bipush 6, 2) := by decide +kernel
theorem dX4_init_12 : decode cX4_init 12 = .ok (.newarray .int, 2) := by decide +kernel
theorem dX4_init_14 : decode cX4_init 14 = .ok (.putfield 15, 3) := by decide +kernel
theorem dX4_init_17 : decode cX4_init 17 = .ok (.aload_n 0, 1) := by decide +kernel
theorem dX4_init_18 : decode cX4_init 18 = .ok (.bipush 6, 2) := by decide +kernel
theorem dX4_init_20 : decode cX4_init 20 = .ok (.newarray .int, 2) := by decide +kernel
theorem dX4_init_22 : decode cX4_init 22 = .ok (.putfield 19, 3) := by decide +kernel
theorem dX4_init_25 : decode cX4_init 25 = .ok (.aload_n 0, 1) := by decide +kernel
theorem dX4_init_26 : decode cX4_init 26 = .ok (.bipush 6, 2) := by decide +kernel
theorem dX4_init_28 : decode cX4_init 28 = .ok (.newarray .int, 2) := by decide +kernel
theorem dX4_init_30 : decode cX4_init 30 = .ok (.putfield 22, 3) := by decide +kernel
theorem dX4_init_33 : decode cX4_init 33 = .ok (.return_, 1) := by decide +kernel
theorem dX4_become_0 : decode cX4_become 0 = .ok (.aload_n 0, 1) := by decide +kernel
theorem dX4_become_1 : decode cX4_become 1 = .ok (.aload_n 1, 1) := by decide +kernel
theorem dX4_become_2 : decode cX4_become 2 = .ok (.getfield 9, 3) := by decide +kernel
theorem dX4_become_5 : decode cX4_become 5 = .ok (.putfield 9, 3) := by decide +kernel
theorem dX4_become_8 : decode cX4_become 8 = .ok (.aload_n 1, 1) := by decide +kernel
theorem dX4_become_9 : decode cX4_become 9 = .ok (.getfield 15, 3) := by decide +kernel
theorem dX4_become_12 : decode cX4_become 12 = .ok (.iconst 0, 1) := by decide +kernel
theorem dX4_become_13 : decode cX4_become 13 = .ok (.aload_n 0, 1) := by decide +kernel
theorem dX4_become_14 : decode cX4_become 14 = .ok (.getfield 15, 3) := by decide +kernel
theorem dX4_become_17 : decode cX4_become 17 = .ok (.iconst 0, 1) := by decide +kernel
theorem dX4_become_18 : decode cX4_become 18 = .ok (.bipush 6, 2) := by decide +kernel
theorem dX4_become_20 : decode cX4_become 20 = .ok (.invokestatic 25, 3) := by decide +kernel
theorem dX4_become_23 : decode cX4_become 23 = .ok (.aload_n 1, 1) := by decide +kernel
theorem dX4_become_24 : decode cX4_become 24 = .ok (.getfield 19, 3) := by decide +kernel
theorem dX4_become_27 : decode cX4_become 27 = .ok (.iconst 0, 1) := by decide +kernel
theorem dX4_become_28 : decode cX4_become 28 = .ok (.aload_n 0, 1) := by decide +kernel
theorem dX4_become_29 : decode cX4_become 29 = .ok (.getfield 19, 3) := by decide +kernel
theorem dX4_become_32 : decode cX4_become 32 = .ok (.iconst 0, 1) := by decide +kernel
theorem dX4_become_33 : decode cX4_become 33 = .ok (.bipush 6, 2) := by decide +kernel
theorem dX4_become_35 : decode cX4_become 35 = .ok (.invokestatic 25, 3) := by decide +kernel
theorem dX4_become_38 : decode cX4_become 38 = .ok (.aload_n 1, 1) := by decide +kernel
theorem dX4_become_39 : decode cX4_become 39 = .ok (.getfield 22, 3) := by decide +kernel
theorem dX4_become_42 : decode cX4_become 42 = .ok (.iconst 0, 1) := by decide +kernel
theorem dX4_become_43 : decode cX4_become 43 = .ok (.aload_n 0, 1) := by decide +kernel
theorem dX4_become_44 : decode cX4_become 44 = .ok (.getfield 22, 3) := by decide +kernel
theorem dX4_become_47 : decode cX4_become 47 = .ok (.iconst 0, 1) := by decide +kernel
theorem dX4_become_48 : decode cX4_become 48 = .ok (.bipush 6, 2) := by decide +kernel
theorem dX4_become_50 : decode cX4_become 50 = .ok (.invokestatic 25, 3) := by decide +kernel
theorem dX4_become_53 : decode cX4_become 53 = .ok (.return_, 1) := by decide +kernel
theorem dX4_add_0 : decode cX4_add 0 = .ok (.aload_n 0, 1) := by decide +kernel
theorem dX4_add_1 : decode cX4_add 1 = .ok (.getfield 9, 3) := by decide +kernel
theorem dX4_add_4 : decode cX4_add 4 = .ok (.bipush 6, 2) := by decide +kernel
theorem dX4_add_6 : decode cX4_add 6 = .ok (.if_icmp .ge 43, 3) := by decide +kernel
theorem dX4_add_9 : decode cX4_add 9 = .ok (.aload_n 0, 1) := by decide +kernel
theorem dX4_add_10 : decode cX4_add 10 = .ok (.getfield 15, 3) := by decide +kernel
theorem dX4_add_13 : decode cX4_add 13 = .ok (.aload_n 0, 1) := by decide +kernel
theorem dX4_add_14 : decode cX4_add 14 = .ok (.getfield 9, 3) := by decide +kernel
theorem dX4_add_17 : decode cX4_add 17 = .ok (.iload_n 1, 1) := by decide +kernel
theorem dX4_add_18 : decode cX4_add 18 = .ok (.iastore, 1) := by decide +kernel
theorem dX4_add_19 : decode cX4_add 19 = .ok (.aload_n 0, 1) := by decide +kernel
theorem dX4_add_20 : decode cX4_add 20 = .ok (.getfield 19, 3) := by decide +kernel
theorem dX4_add_23 : decode cX4_add 23 = .ok (.aload_n 0, 1) := by decide +kernel
theorem dX4_add_24 : decode cX4_add 24 = .ok (.getfield 9, 3) := by decide +kernel
theorem dX4_add_27 : decode cX4_add 27 = .ok (.iload_n 2, 1) := by decide +kernel
theorem dX4_add_28 : decode cX4_add 28 = .ok (.iastore, 1) := by decide +kernel
theorem dX4_add_29 : decode cX4_add 29 = .ok (.aload_n 0, 1) := by decide +kernel
theorem dX4_add_30 : decode cX4_add 30 = .ok (.getfield 22, 3) := by decide +kernel
theorem dX4_add_33 : decode cX4_add 33 = .ok (.aload_n 0, 1) := by decide +kernel
theorem dX4_add_34 : decode cX4_add 34 = .ok (.getfield 9, 3) := by decide +kernel
theorem dX4_add_37 : decode cX4_add 37 = .ok (.iload_n 3, 1) := by decide +kernel
theorem dX4_add_38 : decode cX4_add 38 = .ok (.iastore, 1) := by decide +kernel
theorem dX4_add_39 : decode cX4_add 39 = .ok (.aload_n 0, 1) := by decide +kernel
theorem dX4_add_40 : decode cX4_add 40 = .ok (.dup, 1) := by decide +kernel
theorem dX4_add_41 : decode cX4_add 41 = .ok (.getfield 9, 3) := by decide +kernel
theorem dX4_add_44 : decode cX4_add 44 = .ok (.iconst 1, 1) := by decide +kernel
theorem dX4_add_45 : decode cX4_add 45 = .ok (.iadd, 1) := by decide +kernel
theorem dX4_add_46 : decode cX4_add 46 = .ok (.putfield 9, 3) := by decide +kernel
theorem dX4_add_49 : decode cX4_add 49 = .ok (.return_, 1) := by decide +kernel
theorem dX4_agreeWith_0 : decode cX4_agreeWith 0 = .ok (.iconst 0, 1) := by decide +kernel
theorem dX4_agreeWith_1 : decode cX4_agreeWith 1 = .ok (.istore_n 2, 1) := by decide +kernel
theorem dX4_agreeWith_2 : decode cX4_agreeWith 2 = .ok (.iconst 0, 1) := by decide +kernel
theorem dX4_agreeWith_3 : decode cX4_agreeWith 3 = .ok (.istore_n 3, 1) := by decide +kernel
theorem dX4_agreeWith_4 : decode cX4_agreeWith 4 = .ok (.iload_n 3, 1) := by decide +kernel
theorem dX4_agreeWith_5 : decode cX4_agreeWith 5 = .ok (.aload_n 0, 1) := by decide +kernel
theorem dX4_agreeWith_6 : decode cX4_agreeWith 6 = .ok (.getfield 9, 3) := by decide +kernel
theorem dX4_agreeWith_9 : decode cX4_agreeWith 9 = .ok (.if_icmp .ge 20, 3) := by decide +kernel
theorem dX4_agreeWith_12 : decode cX4_agreeWith 12 = .ok (.iload_n 2, 1) := by decide +kernel
theorem dX4_agreeWith_13 : decode cX4_agreeWith 13 = .ok (.aload_n 0, 1) := by decide +kernel
theorem dX4_agreeWith_14 : decode cX4_agreeWith 14 = .ok (.getfield 15, 3) := by decide +kernel
theorem dX4_agreeWith_17 : decode cX4_agreeWith 17 = .ok (.iload_n 3, 1) := by decide +kernel
theorem dX4_agreeWith_18 : decode cX4_agreeWith 18 = .ok (.iaload, 1) := by decide +kernel
theorem dX4_agreeWith_19 : decode cX4_agreeWith 19 = .ok (.invokestatic 31, 3) := by decide +kernel
theorem dX4_agreeWith_22 : decode cX4_agreeWith 22 = .ok (.istore_n 2, 1) := by decide +kernel
theorem dX4_agreeWith_23 : decode cX4_agreeWith 23 = .ok (.iinc 3 1, 3) := by decide +kernel
theorem dX4_agreeWith_26 : decode cX4_agreeWith 26 = .ok (.goto (-22), 3) := by decide +kernel
theorem dX4_agreeWith_29 : decode cX4_agreeWith 29 = .ok (.iconst 0, 1) := by decide +kernel
theorem dX4_agreeWith_30 : decode cX4_agreeWith 30 = .ok (.istore_n 3, 1) := by decide +kernel
theorem dX4_agreeWith_31 : decode cX4_agreeWith 31 = .ok (.iload_n 3, 1) := by decide +kernel
theorem dX4_agreeWith_32 : decode cX4_agreeWith 32 = .ok (.iload_n 2, 1) := by decide +kernel
theorem dX4_agreeWith_33 : decode cX4_agreeWith 33 = .ok (.if_icmp .gt 28, 3) := by decide +kernel
theorem dX4_agreeWith_36 : decode cX4_agreeWith 36 = .ok (.iload_n 3, 1) := by decide +kernel
theorem dX4_agreeWith_37 : decode cX4_agreeWith 37 = .ok (.ifCond .le 7, 3) := by decide +kernel
theorem dX4_agreeWith_40 : decode cX4_agreeWith 40 = .ok (.aload_n 1, 1) := by decide +kernel
theorem dX4_agreeWith_41 : decode cX4_agreeWith 41 = .ok (.invokevirtual 37, 3) := by decide +kernel
theorem dX4_agreeWith_44 : decode cX4_agreeWith 44 = .ok (.aload_n 0, 1) := by decide +kernel
theorem dX4_agreeWith_45 : decode cX4_agreeWith 45 = .ok (.iload_n 3, 1) := by decide +kernel
theorem dX4_agreeWith_46 : decode cX4_agreeWith 46 = .ok (.aload_n 1, 1) := by decide +kernel
theorem dX4_agreeWith_47 : decode cX4_agreeWith 47 = .ok (.invokevirtual 42, 3) := by decide +kernel
theorem dX4_agreeWith_50 : decode cX4_agreeWith 50 = .ok (.ifCond .ne 5, 3) := by decide +kernel
theorem dX4_agreeWith_53 : decode cX4_agreeWith 53 = .ok (.iconst 0, 1) := by decide +kernel
theorem dX4_agreeWith_54 : decode cX4_agreeWith 54 = .ok (.ireturn, 1) := by decide +kernel
theorem dX4_agreeWith_55 : decode cX4_agreeWith 55 = .ok (.iinc 3 1, 3) := by decide +kernel
theorem dX4_agreeWith_58 : decode cX4_agreeWith 58 = .ok (.goto (-27), 3) := by decide +kernel
theorem dX4_agreeWith_61 : decode cX4_agreeWith 61 = .ok (.iconst 1, 1) := by decide +kernel
theorem dX4_agreeWith_62 : decode cX4_agreeWith 62 = .ok (.ireturn, 1) := by decide +kernel
theorem dX4_agreeBehind_0 : decode cX4_agreeBehind 0 = .ok (.iconst 0, 1) := by decide +kernel
theorem dX4_agreeBehind_1 : decode cX4_agreeBehind 1 = .ok (.istore_n 3, 1) := by decide +kernel
theorem dX4_agreeBehind_2 : decode cX4_agreeBehind 2 = .ok (.iload_n 3, 1) := by decide +kernel
theorem dX4_agreeBehind_3 : decode cX4_agreeBehind 3 = .ok (.aload_n 0, 1) := by decide +kernel
theorem dX4_agreeBehind_4 : decode cX4_agreeBehind 4 = .ok (.getfield 9, 3) := by decide +kernel
theorem dX4_agreeBehind_7 : decode cX4_agreeBehind 7 = .ok (.if_icmp .ge 41, 3) := by decide +kernel
theorem dX4_agreeBehind_10 : decode cX4_agreeBehind 10 = .ok (.aload_n 0, 1) := by decide +kernel
theorem dX4_agreeBehind_11 : decode cX4_agreeBehind 11 = .ok (.getfield 15, 3) := by decide +kernel
theorem dX4_agreeBehind_14 : decode cX4_agreeBehind 14 = .ok (.iload_n 3, 1) := by decide +kernel
theorem dX4_agreeBehind_15 : decode cX4_agreeBehind 15 = .ok (.iaload, 1) := by decide +kernel
theorem dX4_agreeBehind_16 : decode cX4_agreeBehind 16 = .ok (.iload_n 1, 1) := by decide +kernel
theorem dX4_agreeBehind_17 : decode cX4_agreeBehind 17 = .ok (.if_icmp .ne 25, 3) := by decide +kernel
theorem dX4_agreeBehind_20 : decode cX4_agreeBehind 20 = .ok (.aload_n 2, 1) := by decide +kernel
theorem dX4_agreeBehind_21 : decode cX4_agreeBehind 21 = .ok (.getfield 46, 3) := by decide +kernel
theorem dX4_agreeBehind_24 : decode cX4_agreeBehind 24 = .ok (.aload_n 0, 1) := by decide +kernel
theorem dX4_agreeBehind_25 : decode cX4_agreeBehind 25 = .ok (.getfield 19, 3) := by decide +kernel
theorem dX4_agreeBehind_28 : decode cX4_agreeBehind 28 = .ok (.iload_n 3, 1) := by decide +kernel
theorem dX4_agreeBehind_29 : decode cX4_agreeBehind 29 = .ok (.iaload, 1) := by decide +kernel
theorem dX4_agreeBehind_30 : decode cX4_agreeBehind 30 = .ok (.iaload, 1) := by decide +kernel
theorem dX4_agreeBehind_31 : decode cX4_agreeBehind 31 = .ok (.aload_n 0, 1) := by decide +kernel
theorem dX4_agreeBehind_32 : decode cX4_agreeBehind 32 = .ok (.getfield 22, 3) := by decide +kernel
theorem dX4_agreeBehind_35 : decode cX4_agreeBehind 35 = .ok (.iload_n 3, 1) := by decide +kernel
theorem dX4_agreeBehind_36 : decode cX4_agreeBehind 36 = .ok (.iaload, 1) := by decide +kernel
theorem dX4_agreeBehind_37 : decode cX4_agreeBehind 37 = .ok (.if_icmp .eq 5, 3) := by decide +kernel
theorem dX4_agreeBehind_40 : decode cX4_agreeBehind 40 = .ok (.iconst 0, 1) := by decide +kernel
theorem dX4_agreeBehind_41 : decode cX4_agreeBehind 41 = .ok (.ireturn, 1) := by decide +kernel
theorem dX4_agreeBehind_42 : decode cX4_agreeBehind 42 = .ok (.iinc 3 1, 3) := by decide +kernel
theorem dX4_agreeBehind_45 : decode cX4_agreeBehind 45 = .ok (.goto (-43), 3) := by decide +kernel
theorem dX4_agreeBehind_48 : decode cX4_agreeBehind 48 = .ok (.iconst 1, 1) := by decide +kernel
theorem dX4_agreeBehind_49 : decode cX4_agreeBehind 49 = .ok (.ireturn, 1) := by decide +kernel
theorem dJ0_length_8abf5_0 : decode cJ0_length_8abf5 0 = .ok (.aload_n 0, 1) := by decide +kernel
theorem dJ0_length_8abf5_1 : decode cJ0_length_8abf5 1 = .ok (.getfield 9, 3) := by decide +kernel
theorem dJ0_length_8abf5_4 : decode cJ0_length_8abf5 4 = .ok (.arraylength, 1) := by decide +kernel
theorem dJ0_length_8abf5_5 : decode cJ0_length_8abf5 5 = .ok (.aload_n 0, 1) := by decide +kernel
theorem dJ0_length_8abf5_6 : decode cJ0_length_8abf5 6 = .ok (.invokevirtual 335, 3) := by decide +kernel
theorem dJ0_length_8abf5_9 : decode cJ0_length_8abf5 9 = .ok (.ishr, 1) := by decide +kernel
theorem dJ0_length_8abf5_10 : decode cJ0_length_8abf5 10 = .ok (.ireturn, 1) := by decide +kernel
theorem dJ0_charAt_5068e_0 : decode cJ0_charAt_5068e 0 = .ok (.aload_n 0, 1) := by decide +kernel
theorem dJ0_charAt_5068e_1 : decode cJ0_charAt_5068e 1 = .ok (.invokevirtual 492, 3) := by decide +kernel
theorem dJ0_charAt_5068e_4 : decode cJ0_charAt_5068e 4 = .ok (.ifCond .eq 12, 3) := by decide +kernel
theorem dJ0_charAt_5068e_7 : decode cJ0_charAt_5068e 7 = .ok (.aload_n 0, 1) := by decide +kernel
theorem dJ0_charAt_5068e_8 : decode cJ0_charAt_5068e 8 = .ok (.getfield 9, 3) := by decide +kernel
theorem dJ0_charAt_5068e_11 : decode cJ0_charAt_5068e 11 = .ok (.iload_n 1, 1) := by decide +kernel
theorem dJ0_charAt_5068e_12 : decode cJ0_charAt_5068e 12 = .ok (.invokestatic 495, 3) := by decide +kernel
theorem dJ0_charAt_5068e_15 : decode cJ0_charAt_5068e 15 = .ok (.ireturn, 1) := by decide +kernel
theorem dJ0_charAt_5068e_16 : decode cJ0_charAt_5068e 16 = .ok (.aload_n 0, 1) := by decide +kernel
theorem dJ0_charAt_5068e_17 : decode cJ0_charAt_5068e 17 = .ok (.getfield 9, 3) := by decide +kernel
theorem dJ0_charAt_5068e_20 : decode cJ0_charAt_5068e 20 = .ok (.iload_n 1, 1) := by decide +kernel
theorem dJ0_charAt_5068e_21 : decode cJ0_charAt_5068e 21 = .ok (.invokestatic 498, 3) := by decide +kernel
theorem dJ0_charAt_5068e_24 : decode cJ0_charAt_5068e 24 = .ok (.ireturn, 1) := by decide +kernel
theorem dJ0_coder_7d493_0 : decode cJ0_coder_7d493 0 = .ok (.getstatic 38, 3) := by decide +kernel
theorem dJ0_coder_7d493_3 : decode cJ0_coder_7d493 3 = .ok (.ifCond .eq 10, 3) := by decide +kernel
theorem dJ0_coder_7d493_6 : decode cJ0_coder_7d493 6 = .ok (.aload_n 0, 1) := by decide +kernel
theorem dJ0_coder_7d493_7 : decode cJ0_coder_7d493 7 = .ok (.getfield 15, 3) := by decide +kernel
theorem dJ0_coder_7d493_10 : decode cJ0_coder_7d493 10 = .ok (.goto 4, 3) := by decide +kernel
theorem dJ0_coder_7d493_13 : decode cJ0_coder_7d493 13 = .ok (.iconst 1, 1) := by decide +kernel
theorem dJ0_coder_7d493_14 : decode cJ0_coder_7d493 14 = .ok (.ireturn, 1) := by decide +kernel
theorem dJ0_isLatin1_aae02_0 : decode cJ0_isLatin1_aae02 0 = .ok (.getstatic 38, 3) := by decide +kernel
theorem dJ0_isLatin1_aae02_3 : decode cJ0_isLatin1_aae02 3 = .ok (.ifCond .eq 14, 3) := by decide +kernel
theorem dJ0_isLatin1_aae02_6 : decode cJ0_isLatin1_aae02 6 = .ok (.aload_n 0, 1) := by decide +kernel
theorem dJ0_isLatin1_aae02_7 : decode cJ0_isLatin1_aae02 7 = .ok (.getfield 15, 3) := by decide +kernel
theorem dJ0_isLatin1_aae02_10 : decode cJ0_isLatin1_aae02 10 = .ok (.ifCond .ne 7, 3) := by decide +kernel
theorem dJ0_isLatin1_aae02_13 : decode cJ0_isLatin1_aae02 13 = .ok (.iconst 1, 1) := by decide +kernel
theorem dJ0_isLatin1_aae02_14 : decode cJ0_isLatin1_aae02 14 = .ok (.goto 4, 3) := by decide +kernel
theorem dJ0_isLatin1_aae02_17 : decode cJ0_isLatin1_aae02 17 = .ok (.iconst 0, 1) := by decide +kernel
theorem dJ0_isLatin1_aae02_18 : decode cJ0_isLatin1_aae02 18 = .ok (.ireturn, 1) := by decide +kernel
theorem dJ0_checkIndex_df160_0 : decode cJ0_checkIndex_df160 0 = .ok (.iload_n 0, 1) := by decide +kernel
theorem dJ0_checkIndex_df160_1 : decode cJ0_checkIndex_df160 1 = .ok (.iload_n 1, 1) := by decide +kernel
theorem dJ0_checkIndex_df160_2 : decode cJ0_checkIndex_df160 2 = .ok (.getstatic 1053, 3) := by decide +kernel
theorem dJ0_checkIndex_df160_5 : decode cJ0_checkIndex_df160 5 = .ok (.invokestatic 1059, 3) := by decide +kernel
theorem dJ0_checkIndex_df160_8 : decode cJ0_checkIndex_df160 8 = .ok (.pop, 1) := by decide +kernel
theorem dJ0_checkIndex_df160_9 : decode cJ0_checkIndex_df160 9 = .ok (.return_, 1) := by decide +kernel
theorem dJ1_charAt_3b067_0 : decode cJ1_charAt_3b067 0 = .ok (.iload_n 1, 1) := by decide +kernel
theorem dJ1_charAt_3b067_1 : decode cJ1_charAt_3b067 1 = .ok (.aload_n 0, 1) := by decide +kernel
theorem dJ1_charAt_3b067_2 : decode cJ1_charAt_3b067 2 = .ok (.arraylength, 1) := by decide +kernel
theorem dJ1_charAt_3b067_3 : decode cJ1_charAt_3b067 3 = .ok (.invokestatic 9, 3) := by decide +kernel
theorem dJ1_charAt_3b067_6 : decode cJ1_charAt_3b067 6 = .ok (.aload_n 0, 1) := by decide +kernel
theorem dJ1_charAt_3b067_7 : decode cJ1_charAt_3b067 7 = .ok (.iload_n 1, 1) := by decide +kernel
theorem dJ1_charAt_3b067_8 : decode cJ1_charAt_3b067 8 = .ok (.baload, 1) := by decide +kernel
theorem dJ1_charAt_3b067_9 : decode cJ1_charAt_3b067 9 = .ok (.sipush 255, 3) := by decide +kernel
theorem dJ1_charAt_3b067_12 : decode cJ1_charAt_3b067 12 = .ok (.iand, 1) := by decide +kernel
theorem dJ1_charAt_3b067_13 : decode cJ1_charAt_3b067 13 = .ok (.i2c, 1) := by decide +kernel
theorem dJ1_charAt_3b067_14 : decode cJ1_charAt_3b067 14 = .ok (.ireturn, 1) := by decide +kernel
theorem dJ2_getChar_3b067_0 : decode cJ2_getChar_3b067 0 = .ok (.getstatic 44, 3) := by decide +kernel
theorem dJ2_getChar_3b067_3 : decode cJ2_getChar_3b067 3 = .ok (.ifCond .ne 25, 3) := by decide +kernel
theorem dJ2_getChar_3b067_6 : decode cJ2_getChar_3b067 6 = .ok (.iload_n 1, 1) := by decide +kernel
theorem dJ2_getChar_3b067_7 : decode cJ2_getChar_3b067 7 = .ok (.ifCond .lt 11, 3) := by decide +kernel
theorem dJ2_getChar_3b067_10 : decode cJ2_getChar_3b067 10 = .ok (.iload_n 1, 1) := by decide +kernel
theorem dJ2_getChar_3b067_11 : decode cJ2_getChar_3b067 11 = .ok (.aload_n 0, 1) := by decide +kernel
theorem dJ2_getChar_3b067_12 : decode cJ2_getChar_3b067 12 = .ok (.invokestatic 48, 3) := by decide +kernel
theorem dJ2_getChar_3b067_15 : decode cJ2_getChar_3b067 15 = .ok (.if_icmp .lt 13, 3) := by decide +kernel
theorem dJ2_getChar_3b067_18 : decode cJ2_getChar_3b067 18 = .ok (.new 52, 3) := by decide +kernel
theorem dJ2_getChar_3b067_21 : decode cJ2_getChar_3b067 21 = .ok (.dup, 1) := by decide +kernel
theorem dJ2_getChar_3b067_22 : decode cJ2_getChar_3b067 22 = .ok (.ldc 54, 2) := by decide +kernel
theorem dJ2_getChar_3b067_24 : decode cJ2_getChar_3b067 24 = .ok (.invokespecial 56, 3) := by decide +kernel
theorem dJ2_getChar_3b067_27 : decode cJ2_getChar_3b067 27 = .ok (.athrow, 1) := by decide +kernel
theorem dJ2_getChar_3b067_28 : decode cJ2_getChar_3b067 28 = .ok (.iload_n 1, 1) := by decide +kernel
theorem dJ2_getChar_3b067_29 : decode cJ2_getChar_3b067 29 = .ok (.iconst 1, 1) := by decide +kernel
theorem dJ2_getChar_3b067_30 : decode cJ2_getChar_3b067 30 = .ok (.ishl, 1) := by decide +kernel
theorem dJ2_getChar_3b067_31 : decode cJ2_getChar_3b067 31 = .ok (.istore_n 1, 1) := by decide +kernel
theorem dJ2_getChar_3b067_32 : decode cJ2_getChar_3b067 32 = .ok (.aload_n 0, 1) := by decide +kernel
theorem dJ2_getChar_3b067_33 : decode cJ2_getChar_3b067 33 = .ok (.iload_n 1, 1) := by decide +kernel
theorem dJ2_getChar_3b067_34 : decode cJ2_getChar_3b067 34 = .ok (.iinc 1 1, 3) := by decide +kernel
theorem dJ2_getChar_3b067_37 : decode cJ2_getChar_3b067 37 = .ok (.baload, 1) := by decide +kernel
theorem dJ2_getChar_3b067_38 : decode cJ2_getChar_3b067 38 = .ok (.sipush 255, 3) := by decide +kernel
theorem dJ2_getChar_3b067_41 : decode cJ2_getChar_3b067 41 = .ok (.iand, 1) := by decide +kernel
theorem dJ2_getChar_3b067_42 : decode cJ2_getChar_3b067 42 = .ok (.getstatic 59, 3) := by decide +kernel
theorem dJ2_getChar_3b067_45 : decode cJ2_getChar_3b067 45 = .ok (.ishl, 1) := by decide +kernel
theorem dJ2_getChar_3b067_46 : decode cJ2_getChar_3b067 46 = .ok (.aload_n 0, 1) := by decide +kernel
theorem dJ2_getChar_3b067_47 : decode cJ2_getChar_3b067 47 = .ok (.iload_n 1, 1) := by decide +kernel
theorem dJ2_getChar_3b067_48 : decode cJ2_getChar_3b067 48 = .ok (.baload, 1) := by decide +kernel
theorem dJ2_getChar_3b067_49 : decode cJ2_getChar_3b067 49 = .ok (.sipush 255, 3) := by decide +kernel
theorem dJ2_getChar_3b067_52 : decode cJ2_getChar_3b067 52 = .ok (.iand, 1) := by decide +kernel
theorem dJ2_getChar_3b067_53 : decode cJ2_getChar_3b067 53 = .ok (.getstatic 63, 3) := by decide +kernel
theorem dJ2_getChar_3b067_56 : decode cJ2_getChar_3b067 56 = .ok (.ishl, 1) := by decide +kernel
theorem dJ2_getChar_3b067_57 : decode cJ2_getChar_3b067 57 = .ok (.ior, 1) := by decide +kernel
theorem dJ2_getChar_3b067_58 : decode cJ2_getChar_3b067 58 = .ok (.i2c, 1) := by decide +kernel
theorem dJ2_getChar_3b067_59 : decode cJ2_getChar_3b067 59 = .ok (.ireturn, 1) := by decide +kernel
theorem dJ2_length_9d52b_0 : decode cJ2_length_9d52b 0 = .ok (.aload_n 0, 1) := by decide +kernel
theorem dJ2_length_9d52b_1 : decode cJ2_length_9d52b 1 = .ok (.arraylength, 1) := by decide +kernel
theorem dJ2_length_9d52b_2 : decode cJ2_length_9d52b 2 = .ok (.iconst 1, 1) := by decide +kernel
theorem dJ2_length_9d52b_3 : decode cJ2_length_9d52b 3 = .ok (.ishr, 1) := by decide +kernel
theorem dJ2_length_9d52b_4 : decode cJ2_length_9d52b 4 = .ok (.ireturn, 1) := by decide +kernel
theorem dJ2_charAt_3b067_0 : decode cJ2_charAt_3b067 0 = .ok (.iload_n 1, 1) := by decide +kernel
theorem dJ2_charAt_3b067_1 : decode cJ2_charAt_3b067 1 = .ok (.aload_n 0, 1) := by decide +kernel
theorem dJ2_charAt_3b067_2 : decode cJ2_charAt_3b067 2 = .ok (.invokestatic 67, 3) := by decide +kernel
theorem dJ2_charAt_3b067_5 : decode cJ2_charAt_3b067 5 = .ok (.aload_n 0, 1) := by decide +kernel
theorem dJ2_charAt_3b067_6 : decode cJ2_charAt_3b067 6 = .ok (.iload_n 1, 1) := by decide +kernel
theorem dJ2_charAt_3b067_7 : decode cJ2_charAt_3b067 7 = .ok (.invokestatic 71, 3) := by decide +kernel
theorem dJ2_charAt_3b067_10 : decode cJ2_charAt_3b067 10 = .ok (.ireturn, 1) := by decide +kernel
theorem dJ2_checkIndex_2214a_0 : decode cJ2_checkIndex_2214a 0 = .ok (.iload_n 0, 1) := by decide +kernel
theorem dJ2_checkIndex_2214a_1 : decode cJ2_checkIndex_2214a 1 = .ok (.aload_n 1, 1) := by decide +kernel
theorem dJ2_checkIndex_2214a_2 : decode cJ2_checkIndex_2214a 2 = .ok (.invokestatic 48, 3) := by decide +kernel
theorem dJ2_checkIndex_2214a_5 : decode cJ2_checkIndex_2214a 5 = .ok (.invokestatic 414, 3) := by decide +kernel
theorem dJ2_checkIndex_2214a_8 : decode cJ2_checkIndex_2214a 8 = .ok (.return_, 1) := by decide +kernel
theorem dJ3_checkIndex_8e157_0 : decode cJ3_checkIndex_8e157 0 = .ok (.iload_n 0, 1) := by decide +kernel
theorem dJ3_checkIndex_8e157_1 : decode cJ3_checkIndex_8e157 1 = .ok (.ifCond .lt 8, 3) := by decide +kernel
theorem dJ3_checkIndex_8e157_4 : decode cJ3_checkIndex_8e157 4 = .ok (.iload_n 0, 1) := by decide +kernel
theorem dJ3_checkIndex_8e157_5 : decode cJ3_checkIndex_8e157 5 = .ok (.iload_n 1, 1) := by decide +kernel
theorem dJ3_checkIndex_8e157_6 : decode cJ3_checkIndex_8e157 6 = .ok (.if_icmp .lt 10, 3) := by decide +kernel
theorem dJ3_checkIndex_8e157_9 : decode cJ3_checkIndex_8e157 9 = .ok (.aload_n 2, 1) := by decide +kernel
theorem dJ3_checkIndex_8e157_10 : decode cJ3_checkIndex_8e157 10 = .ok (.iload_n 0, 1) := by decide +kernel
theorem dJ3_checkIndex_8e157_11 : decode cJ3_checkIndex_8e157 11 = .ok (.iload_n 1, 1) := by decide +kernel
theorem dJ3_checkIndex_8e157_12 : decode cJ3_checkIndex_8e157 12 = .ok (.invokestatic 95, 3) := by decide +kernel
theorem dJ3_checkIndex_8e157_15 : decode cJ3_checkIndex_8e157 15 = .ok (.athrow, 1) := by decide +kernel
theorem dJ3_checkIndex_8e157_16 : decode cJ3_checkIndex_8e157 16 = .ok (.iload_n 0, 1) := by decide +kernel
theorem dJ3_checkIndex_8e157_17 : decode cJ3_checkIndex_8e157 17 = .ok (.ireturn, 1) := by decide +kernel
theorem dJ6_signum_0f7a4_0 : decode cJ6_signum_0f7a4 0 = .ok (.iload_n 0, 1) := by decide +kernel
theorem dJ6_signum_0f7a4_1 : decode cJ6_signum_0f7a4 1 = .ok (.bipush 31, 2) := by decide +kernel
theorem dJ6_signum_0f7a4_3 : decode cJ6_signum_0f7a4 3 = .ok (.ishr, 1) := by decide +kernel
theorem dJ6_signum_0f7a4_4 : decode cJ6_signum_0f7a4 4 = .ok (.iload_n 0, 1) := by decide +kernel
theorem dJ6_signum_0f7a4_5 : decode cJ6_signum_0f7a4 5 = .ok (.ineg, 1) := by decide +kernel
theorem dJ6_signum_0f7a4_6 : decode cJ6_signum_0f7a4 6 = .ok (.bipush 31, 2) := by decide +kernel
theorem dJ6_signum_0f7a4_8 : decode cJ6_signum_0f7a4 8 = .ok (.iushr, 1) := by decide +kernel
theorem dJ6_signum_0f7a4_9 : decode cJ6_signum_0f7a4 9 = .ok (.ior, 1) := by decide +kernel
theorem dJ6_signum_0f7a4_10 : decode cJ6_signum_0f7a4 10 = .ok (.ireturn, 1) := by decide +kernel
theorem dJ7_fill_53178_0 : decode cJ7_fill_53178 0 = .ok (.iconst 0, 1) := by decide +kernel
theorem dJ7_fill_53178_1 : decode cJ7_fill_53178 1 = .ok (.istore_n 2, 1) := by decide +kernel
theorem dJ7_fill_53178_2 : decode cJ7_fill_53178 2 = .ok (.aload_n 0, 1) := by decide +kernel
theorem dJ7_fill_53178_3 : decode cJ7_fill_53178 3 = .ok (.arraylength, 1) := by decide +kernel
theorem dJ7_fill_53178_4 : decode cJ7_fill_53178 4 = .ok (.istore_n 3, 1) := by decide +kernel
theorem dJ7_fill_53178_5 : decode cJ7_fill_53178 5 = .ok (.iload_n 2, 1) := by decide +kernel
theorem dJ7_fill_53178_6 : decode cJ7_fill_53178 6 = .ok (.iload_n 3, 1) := by decide +kernel
theorem dJ7_fill_53178_7 : decode cJ7_fill_53178 7 = .ok (.if_icmp .ge 13, 3) := by decide +kernel
theorem dJ7_fill_53178_10 : decode cJ7_fill_53178 10 = .ok (.aload_n 0, 1) := by decide +kernel
theorem dJ7_fill_53178_11 : decode cJ7_fill_53178 11 = .ok (.iload_n 2, 1) := by decide +kernel
theorem dJ7_fill_53178_12 : decode cJ7_fill_53178 12 = .ok (.iload_n 1, 1) := by decide +kernel
theorem dJ7_fill_53178_13 : decode cJ7_fill_53178 13 = .ok (.iastore, 1) := by decide +kernel
theorem dJ7_fill_53178_14 : decode cJ7_fill_53178 14 = .ok (.iinc 2 1, 3) := by decide +kernel
theorem dJ7_fill_53178_17 : decode cJ7_fill_53178 17 = .ok (.goto (-12), 3) := by decide +kernel
theorem dJ7_fill_53178_20 : decode cJ7_fill_53178 20 = .ok (.return_, 1) := by decide +kernel
theorem dJ9_abs_0f7a4_0 : decode cJ9_abs_0f7a4 0 = .ok (.iload_n 0, 1) := by decide +kernel
theorem dJ9_abs_0f7a4_1 : decode cJ9_abs_0f7a4 1 = .ok (.ifCond .ge 8, 3) := by decide +kernel
theorem dJ9_abs_0f7a4_4 : decode cJ9_abs_0f7a4 4 = .ok (.iload_n 0, 1) := by decide +kernel
theorem dJ9_abs_0f7a4_5 : decode cJ9_abs_0f7a4 5 = .ok (.ineg, 1) := by decide +kernel
theorem dJ9_abs_0f7a4_6 : decode cJ9_abs_0f7a4 6 = .ok (.goto 4, 3) := by decide +kernel
theorem dJ9_abs_0f7a4_9 : decode cJ9_abs_0f7a4 9 = .ok (.iload_n 0, 1) := by decide +kernel
theorem dJ9_abs_0f7a4_10 : decode cJ9_abs_0f7a4 10 = .ok (.ireturn, 1) := by decide +kernel
theorem dJ9_max_7cf53_0 : decode cJ9_max_7cf53 0 = .ok (.iload_n 0, 1) := by decide +kernel
theorem dJ9_max_7cf53_1 : decode cJ9_max_7cf53 1 = .ok (.iload_n 1, 1) := by decide +kernel
theorem dJ9_max_7cf53_2 : decode cJ9_max_7cf53 2 = .ok (.if_icmp .lt 7, 3) := by decide +kernel
theorem dJ9_max_7cf53_5 : decode cJ9_max_7cf53 5 = .ok (.iload_n 0, 1) := by decide +kernel
theorem dJ9_max_7cf53_6 : decode cJ9_max_7cf53 6 = .ok (.goto 4, 3) := by decide +kernel
theorem dJ9_max_7cf53_9 : decode cJ9_max_7cf53 9 = .ok (.iload_n 1, 1) := by decide +kernel
theorem dJ9_max_7cf53_10 : decode cJ9_max_7cf53 10 = .ok (.ireturn, 1) := by decide +kernel
theorem dJ9_max_f86c9_0 : decode cJ9_max_f86c9 0 = .ok (.lload_n 0, 1) := by decide +kernel
theorem dJ9_max_f86c9_1 : decode cJ9_max_f86c9 1 = .ok (.lload_n 2, 1) := by decide +kernel
theorem dJ9_max_f86c9_2 : decode cJ9_max_f86c9 2 = .ok (.lcmp, 1) := by decide +kernel
theorem dJ9_max_f86c9_3 : decode cJ9_max_f86c9 3 = .ok (.ifCond .lt 7, 3) := by decide +kernel
theorem dJ9_max_f86c9_6 : decode cJ9_max_f86c9 6 = .ok (.lload_n 0, 1) := by decide +kernel
theorem dJ9_max_f86c9_7 : decode cJ9_max_f86c9 7 = .ok (.goto 4, 3) := by decide +kernel
theorem dJ9_max_f86c9_10 : decode cJ9_max_f86c9 10 = .ok (.lload_n 2, 1) := by decide +kernel
theorem dJ9_max_f86c9_11 : decode cJ9_max_f86c9 11 = .ok (.lreturn, 1) := by decide +kernel
theorem dJ9_min_7cf53_0 : decode cJ9_min_7cf53 0 = .ok (.iload_n 0, 1) := by decide +kernel
theorem dJ9_min_7cf53_1 : decode cJ9_min_7cf53 1 = .ok (.iload_n 1, 1) := by decide +kernel
theorem dJ9_min_7cf53_2 : decode cJ9_min_7cf53 2 = .ok (.if_icmp .gt 7, 3) := by decide +kernel
theorem dJ9_min_7cf53_5 : decode cJ9_min_7cf53 5 = .ok (.iload_n 0, 1) := by decide +kernel
theorem dJ9_min_7cf53_6 : decode cJ9_min_7cf53 6 = .ok (.goto 4, 3) := by decide +kernel
theorem dJ9_min_7cf53_9 : decode cJ9_min_7cf53 9 = .ok (.iload_n 1, 1) := by decide +kernel
theorem dJ9_min_7cf53_10 : decode cJ9_min_7cf53 10 = .ok (.ireturn, 1) := by decide +kernel
