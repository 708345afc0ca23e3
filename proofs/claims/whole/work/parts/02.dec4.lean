theorem dX5_init_0 : decode cX5_init 0 = .ok (.aload_n 0, 1) := by decide +kernel
theorem dX5_init_1 : decode cX5_init 1 = .ok (.invokespecial 1, 3) := by decide +kernel
theorem dX5_init_4 : decode cX5_init 4 = .ok (.aload_n 0, 1) := by decide +kernel
theorem dX5_init_5 : decode cX5_init 5 = .ok (.sipush 130, 3) := by decide +kernel
theorem dX5_init_8 : decode cX5_init 8 = .ok (.newarray .int, 2) := by decide +kernel
theorem dX5_init_10 : decode cX5_init 10 = .ok (.putfield 7, 3) := by decide +kernel
theorem dX5_init_13 : decode cX5_init 13 = .ok (.aload_n 0, 1) := by decide +kernel
theorem dX5_init_14 : decode cX5_init 14 = .ok (.sipush 390, 3) := by decide +kernel
theorem dX5_init_17 : decode cX5_init 17 = .ok (.newarray .int, 2) := by decide +kernel
theorem dX5_init_19 : decode cX5_init 19 = .ok (.putfield 13, 3) := by decide +kernel
theorem dX5_init_22 : decode cX5_init 22 = .ok (.aload_n 0, 1) := by decide +kernel
theorem dX5_init_23 : decode cX5_init 23 = .ok (.sipush 130, 3) := by decide +kernel
theorem dX5_init_26 : decode cX5_init 26 = .ok (.newarray .int, 2) := by decide +kernel
theorem dX5_init_28 : decode cX5_init 28 = .ok (.putfield 16, 3) := by decide +kernel
theorem dX5_init_31 : decode cX5_init 31 = .ok (.aload_n 0, 1) := by decide +kernel
theorem dX5_init_32 : decode cX5_init 32 = .ok (.iconst 2, 1) := by decide +kernel
theorem dX5_init_33 : decode cX5_init 33 = .ok (.newarray .boolean, 2) := by decide +kernel
theorem dX5_init_35 : decode cX5_init 35 = .ok (.putfield 19, 3) := by decide +kernel
theorem dX5_init_38 : decode cX5_init 38 = .ok (.aload_n 0, 1) := by decide +kernel
theorem dX5_init_39 : decode cX5_init 39 = .ok (.bipush 60, 2) := by decide +kernel
theorem dX5_init_41 : decode cX5_init 41 = .ok (.newarray .int, 2) := by decide +kernel
theorem dX5_init_43 : decode cX5_init 43 = .ok (.putfield 23, 3) := by decide +kernel
theorem dX5_init_46 : decode cX5_init 46 = .ok (.aload_n 0, 1) := by decide +kernel
theorem dX5_init_47 : decode cX5_init 47 = .ok (.getfield 7, 3) := by decide +kernel
theorem dX5_init_50 : decode cX5_init 50 = .ok (.iconst 0, 1) := by decide +kernel
theorem dX5_init_51 : decode cX5_init 51 = .ok (.bipush 70, 2) := by decide +kernel
theorem dX5_init_53 : decode cX5_init 53 = .ok (.iastore, 1) := by decide +kernel
theorem dX5_init_54 : decode cX5_init 54 = .ok (.aload_n 0, 1) := by decide +kernel
theorem dX5_init_55 : decode cX5_init 55 = .ok (.getfield 7, 3) := by decide +kernel
theorem dX5_init_58 : decode cX5_init 58 = .ok (.iconst 1, 1) := by decide +kernel
theorem dX5_init_59 : decode cX5_init 59 = .ok (.bipush 30, 2) := by decide +kernel
theorem dX5_init_61 : decode cX5_init 61 = .ok (.iastore, 1) := by decide +kernel
theorem dX5_init_62 : decode cX5_init 62 = .ok (.aload_n 0, 1) := by decide +kernel
theorem dX5_init_63 : decode cX5_init 63 = .ok (.getfield 7, 3) := by decide +kernel
theorem dX5_init_66 : decode cX5_init 66 = .ok (.iconst 2, 1) := by decide +kernel
theorem dX5_init_67 : decode cX5_init 67 = .ok (.bipush 10, 2) := by decide +kernel
theorem dX5_init_69 : decode cX5_init 69 = .ok (.iastore, 1) := by decide +kernel
theorem dX5_init_70 : decode cX5_init 70 = .ok (.aload_n 0, 1) := by decide +kernel
theorem dX5_init_71 : decode cX5_init 71 = .ok (.getfield 7, 3) := by decide +kernel
theorem dX5_init_74 : decode cX5_init 74 = .ok (.iconst 3, 1) := by decide +kernel
theorem dX5_init_75 : decode cX5_init 75 = .ok (.bipush 28, 2) := by decide +kernel
theorem dX5_init_77 : decode cX5_init 77 = .ok (.iastore, 1) := by decide +kernel
theorem dX5_init_78 : decode cX5_init 78 = .ok (.aload_n 0, 1) := by decide +kernel
theorem dX5_init_79 : decode cX5_init 79 = .ok (.getfield 7, 3) := by decide +kernel
theorem dX5_init_82 : decode cX5_init 82 = .ok (.iconst 4, 1) := by decide +kernel
theorem dX5_init_83 : decode cX5_init 83 = .ok (.iconst 3, 1) := by decide +kernel
theorem dX5_init_84 : decode cX5_init 84 = .ok (.iastore, 1) := by decide +kernel
theorem dX5_init_85 : decode cX5_init 85 = .ok (.aload_n 0, 1) := by decide +kernel
theorem dX5_init_86 : decode cX5_init 86 = .ok (.getfield 7, 3) := by decide +kernel
theorem dX5_init_89 : decode cX5_init 89 = .ok (.iconst 5, 1) := by decide +kernel
theorem dX5_init_90 : decode cX5_init 90 = .ok (.bipush 20, 2) := by decide +kernel
theorem dX5_init_92 : decode cX5_init 92 = .ok (.iastore, 1) := by decide +kernel
theorem dX5_init_93 : decode cX5_init 93 = .ok (.aload_n 0, 1) := by decide +kernel
theorem dX5_init_94 : decode cX5_init 94 = .ok (.getfield 7, 3) := by decide +kernel
theorem dX5_init_97 : decode cX5_init 97 = .ok (.bipush 8, 2) := by decide +kernel
theorem dX5_init_99 : decode cX5_init 99 = .ok (.bipush 50, 2) := by decide +kernel
theorem dX5_init_101 : decode cX5_init 101 = .ok (.iastore, 1) := by decide +kernel
theorem dX5_init_102 : decode cX5_init 102 = .ok (.aload_n 0, 1) := by decide +kernel
theorem dX5_init_103 : decode cX5_init 103 = .ok (.getfield 7, 3) := by decide +kernel
theorem dX5_init_106 : decode cX5_init 106 = .ok (.bipush 9, 2) := by decide +kernel
theorem dX5_init_108 : decode cX5_init 108 = .ok (.iconst (-1), 1) := by decide +kernel
theorem dX5_init_109 : decode cX5_init 109 = .ok (.iastore, 1) := by decide +kernel
theorem dX5_init_110 : decode cX5_init 110 = .ok (.aload_n 0, 1) := by decide +kernel
theorem dX5_init_111 : decode cX5_init 111 = .ok (.getfield 7, 3) := by decide +kernel
theorem dX5_init_114 : decode cX5_init 114 = .ok (.bipush 11, 2) := by decide +kernel
theorem dX5_init_116 : decode cX5_init 116 = .ok (.sipush 1000, 3) := by decide +kernel
theorem dX5_init_119 : decode cX5_init 119 = .ok (.iastore, 1) := by decide +kernel
theorem dX5_init_120 : decode cX5_init 120 = .ok (.return_, 1) := by decide +kernel
theorem dX5_in_0 : decode cX5_in 0 = .ok (.iload_n 0, 1) := by decide +kernel
theorem dX5_in_1 : decode cX5_in 1 = .ok (.iload_n 1, 1) := by decide +kernel
theorem dX5_in_2 : decode cX5_in 2 = .ok (.if_icmp .lt 12, 3) := by decide +kernel
theorem dX5_in_5 : decode cX5_in 5 = .ok (.iload_n 0, 1) := by decide +kernel
theorem dX5_in_6 : decode cX5_in 6 = .ok (.iload_n 2, 1) := by decide +kernel
theorem dX5_in_7 : decode cX5_in 7 = .ok (.if_icmp .gt 7, 3) := by decide +kernel
theorem dX5_in_10 : decode cX5_in 10 = .ok (.iconst 1, 1) := by decide +kernel
theorem dX5_in_11 : decode cX5_in 11 = .ok (.goto 4, 3) := by decide +kernel
theorem dX5_in_14 : decode cX5_in 14 = .ok (.iconst 0, 1) := by decide +kernel
theorem dX5_in_15 : decode cX5_in 15 = .ok (.ireturn, 1) := by decide +kernel
theorem dX5_less_0 : decode cX5_less 0 = .ok (.iload_n 0, 1) := by decide +kernel
theorem dX5_less_1 : decode cX5_less 1 = .ok (.iload_n 1, 1) := by decide +kernel
theorem dX5_less_2 : decode cX5_less 2 = .ok (.if_icmp .ge 7, 3) := by decide +kernel
theorem dX5_less_5 : decode cX5_less 5 = .ok (.iload_n 0, 1) := by decide +kernel
theorem dX5_less_6 : decode cX5_less 6 = .ok (.goto 4, 3) := by decide +kernel
theorem dX5_less_9 : decode cX5_less 9 = .ok (.iload_n 1, 1) := by decide +kernel
theorem dX5_less_10 : decode cX5_less 10 = .ok (.ireturn, 1) := by decide +kernel
theorem dX5_at_0 : decode cX5_at 0 = .ok (.iload_n 0, 1) := by decide +kernel
theorem dX5_at_1 : decode cX5_at 1 = .ok (.bipush 17, 2) := by decide +kernel
theorem dX5_at_3 : decode cX5_at 3 = .ok (.iadd, 1) := by decide +kernel
theorem dX5_at_4 : decode cX5_at 4 = .ok (.bipush 6, 2) := by decide +kernel
theorem dX5_at_6 : decode cX5_at 6 = .ok (.iload_n 1, 1) := by decide +kernel
theorem dX5_at_7 : decode cX5_at 7 = .ok (.imul, 1) := by decide +kernel
theorem dX5_at_8 : decode cX5_at 8 = .ok (.iadd, 1) := by decide +kernel
theorem dX5_at_9 : decode cX5_at 9 = .ok (.ireturn, 1) := by decide +kernel
theorem dX5_isPerson_0 : decode cX5_isPerson 0 = .ok (.iload_n 1, 1) := by decide +kernel
theorem dX5_isPerson_1 : decode cX5_isPerson 1 = .ok (.iconst 0, 1) := by decide +kernel
theorem dX5_isPerson_2 : decode cX5_isPerson 2 = .ok (.aload_n 0, 1) := by decide +kernel
theorem dX5_isPerson_3 : decode cX5_isPerson 3 = .ok (.getfield 7, 3) := by decide +kernel
theorem dX5_isPerson_6 : decode cX5_isPerson 6 = .ok (.bipush 7, 2) := by decide +kernel
theorem dX5_isPerson_8 : decode cX5_isPerson 8 = .ok (.iaload, 1) := by decide +kernel
theorem dX5_isPerson_9 : decode cX5_isPerson 9 = .ok (.iconst 1, 1) := by decide +kernel
theorem dX5_isPerson_10 : decode cX5_isPerson 10 = .ok (.isub, 1) := by decide +kernel
theorem dX5_isPerson_11 : decode cX5_isPerson 11 = .ok (.invokestatic 26, 3) := by decide +kernel
theorem dX5_isPerson_14 : decode cX5_isPerson 14 = .ok (.ireturn, 1) := by decide +kernel
theorem dX5_remembers_0 : decode cX5_remembers 0 = .ok (.aload_n 0, 1) := by decide +kernel
theorem dX5_remembers_1 : decode cX5_remembers 1 = .ok (.getfield 30, 3) := by decide +kernel
theorem dX5_remembers_4 : decode cX5_remembers 4 = .ok (.bipush 6, 2) := by decide +kernel
theorem dX5_remembers_6 : decode cX5_remembers 6 = .ok (.if_icmp .ne 43, 3) := by decide +kernel
theorem dX5_remembers_9 : decode cX5_remembers 9 = .ok (.iconst 0, 1) := by decide +kernel
theorem dX5_remembers_10 : decode cX5_remembers 10 = .ok (.istore_n 1, 1) := by decide +kernel
theorem dX5_remembers_11 : decode cX5_remembers 11 = .ok (.iload_n 1, 1) := by decide +kernel
theorem dX5_remembers_12 : decode cX5_remembers 12 = .ok (.sipush 325, 3) := by decide +kernel
theorem dX5_remembers_15 : decode cX5_remembers 15 = .ok (.if_icmp .ge 24, 3) := by decide +kernel
theorem dX5_remembers_18 : decode cX5_remembers 18 = .ok (.aload_n 0, 1) := by decide +kernel
theorem dX5_remembers_19 : decode cX5_remembers 19 = .ok (.getfield 13, 3) := by decide +kernel
theorem dX5_remembers_22 : decode cX5_remembers 22 = .ok (.iload_n 1, 1) := by decide +kernel
theorem dX5_remembers_23 : decode cX5_remembers 23 = .ok (.aload_n 0, 1) := by decide +kernel
theorem dX5_remembers_24 : decode cX5_remembers 24 = .ok (.getfield 13, 3) := by decide +kernel
theorem dX5_remembers_27 : decode cX5_remembers 27 = .ok (.bipush 65, 2) := by decide +kernel
theorem dX5_remembers_29 : decode cX5_remembers 29 = .ok (.iload_n 1, 1) := by decide +kernel
theorem dX5_remembers_30 : decode cX5_remembers 30 = .ok (.iadd, 1) := by decide +kernel
theorem dX5_remembers_31 : decode cX5_remembers 31 = .ok (.iaload, 1) := by decide +kernel
theorem dX5_remembers_32 : decode cX5_remembers 32 = .ok (.iastore, 1) := by decide +kernel
theorem dX5_remembers_33 : decode cX5_remembers 33 = .ok (.iinc 1 1, 3) := by decide +kernel
theorem dX5_remembers_36 : decode cX5_remembers 36 = .ok (.goto (-25), 3) := by decide +kernel
theorem dX5_remembers_39 : decode cX5_remembers 39 = .ok (.aload_n 0, 1) := by decide +kernel
theorem dX5_remembers_40 : decode cX5_remembers 40 = .ok (.dup, 1) := by decide +kernel
theorem dX5_remembers_41 : decode cX5_remembers 41 = .ok (.getfield 30, 3) := by decide +kernel
theorem dX5_remembers_44 : decode cX5_remembers 44 = .ok (.iconst 1, 1) := by decide +kernel
theorem dX5_remembers_45 : decode cX5_remembers 45 = .ok (.isub, 1) := by decide +kernel
theorem dX5_remembers_46 : decode cX5_remembers 46 = .ok (.putfield 30, 3) := by decide +kernel
theorem dX5_remembers_49 : decode cX5_remembers 49 = .ok (.iconst 0, 1) := by decide +kernel
theorem dX5_remembers_50 : decode cX5_remembers 50 = .ok (.istore_n 1, 1) := by decide +kernel
theorem dX5_remembers_51 : decode cX5_remembers 51 = .ok (.iload_n 1, 1) := by decide +kernel
theorem dX5_remembers_52 : decode cX5_remembers 52 = .ok (.bipush 65, 2) := by decide +kernel
theorem dX5_remembers_54 : decode cX5_remembers 54 = .ok (.if_icmp .ge 29, 3) := by decide +kernel
theorem dX5_remembers_57 : decode cX5_remembers 57 = .ok (.aload_n 0, 1) := by decide +kernel
theorem dX5_remembers_58 : decode cX5_remembers 58 = .ok (.getfield 13, 3) := by decide +kernel
theorem dX5_remembers_61 : decode cX5_remembers 61 = .ok (.bipush 65, 2) := by decide +kernel
theorem dX5_remembers_63 : decode cX5_remembers 63 = .ok (.aload_n 0, 1) := by decide +kernel
theorem dX5_remembers_64 : decode cX5_remembers 64 = .ok (.getfield 30, 3) := by decide +kernel
theorem dX5_remembers_67 : decode cX5_remembers 67 = .ok (.imul, 1) := by decide +kernel
theorem dX5_remembers_68 : decode cX5_remembers 68 = .ok (.iload_n 1, 1) := by decide +kernel
theorem dX5_remembers_69 : decode cX5_remembers 69 = .ok (.iadd, 1) := by decide +kernel
theorem dX5_remembers_70 : decode cX5_remembers 70 = .ok (.aload_n 0, 1) := by decide +kernel
theorem dX5_remembers_71 : decode cX5_remembers 71 = .ok (.getfield 7, 3) := by decide +kernel
theorem dX5_remembers_74 : decode cX5_remembers 74 = .ok (.iload_n 1, 1) := by decide +kernel
theorem dX5_remembers_75 : decode cX5_remembers 75 = .ok (.iaload, 1) := by decide +kernel
theorem dX5_remembers_76 : decode cX5_remembers 76 = .ok (.iastore, 1) := by decide +kernel
theorem dX5_remembers_77 : decode cX5_remembers 77 = .ok (.iinc 1 1, 3) := by decide +kernel
theorem dX5_remembers_80 : decode cX5_remembers 80 = .ok (.goto (-29), 3) := by decide +kernel
theorem dX5_remembers_83 : decode cX5_remembers 83 = .ok (.aload_n 0, 1) := by decide +kernel
theorem dX5_remembers_84 : decode cX5_remembers 84 = .ok (.dup, 1) := by decide +kernel
theorem dX5_remembers_85 : decode cX5_remembers 85 = .ok (.getfield 30, 3) := by decide +kernel
theorem dX5_remembers_88 : decode cX5_remembers 88 = .ok (.iconst 1, 1) := by decide +kernel
theorem dX5_remembers_89 : decode cX5_remembers 89 = .ok (.iadd, 1) := by decide +kernel
theorem dX5_remembers_90 : decode cX5_remembers 90 = .ok (.putfield 30, 3) := by decide +kernel
theorem dX5_remembers_93 : decode cX5_remembers 93 = .ok (.return_, 1) := by decide +kernel
theorem dX5_copies_0 : decode cX5_copies 0 = .ok (.iconst 0, 1) := by decide +kernel
theorem dX5_copies_1 : decode cX5_copies 1 = .ok (.istore_n 1, 1) := by decide +kernel
theorem dX5_copies_2 : decode cX5_copies 2 = .ok (.iload_n 1, 1) := by decide +kernel
theorem dX5_copies_3 : decode cX5_copies 3 = .ok (.bipush 65, 2) := by decide +kernel
theorem dX5_copies_5 : decode cX5_copies 5 = .ok (.if_icmp .ge 24, 3) := by decide +kernel
theorem dX5_copies_8 : decode cX5_copies 8 = .ok (.aload_n 0, 1) := by decide +kernel
theorem dX5_copies_9 : decode cX5_copies 9 = .ok (.getfield 7, 3) := by decide +kernel
theorem dX5_copies_12 : decode cX5_copies 12 = .ok (.bipush 65, 2) := by decide +kernel
theorem dX5_copies_14 : decode cX5_copies 14 = .ok (.iload_n 1, 1) := by decide +kernel
theorem dX5_copies_15 : decode cX5_copies 15 = .ok (.iadd, 1) := by decide +kernel
theorem dX5_copies_16 : decode cX5_copies 16 = .ok (.aload_n 0, 1) := by decide +kernel
theorem dX5_copies_17 : decode cX5_copies 17 = .ok (.getfield 7, 3) := by decide +kernel
theorem dX5_copies_20 : decode cX5_copies 20 = .ok (.iload_n 1, 1) := by decide +kernel
theorem dX5_copies_21 : decode cX5_copies 21 = .ok (.iaload, 1) := by decide +kernel
theorem dX5_copies_22 : decode cX5_copies 22 = .ok (.iastore, 1) := by decide +kernel
theorem dX5_copies_23 : decode cX5_copies 23 = .ok (.iinc 1 1, 3) := by decide +kernel
theorem dX5_copies_26 : decode cX5_copies 26 = .ok (.goto (-24), 3) := by decide +kernel
theorem dX5_copies_29 : decode cX5_copies 29 = .ok (.return_, 1) := by decide +kernel
theorem dX5_isBarred_0 : decode cX5_isBarred 0 = .ok (.aload_n 0, 1) := by decide +kernel
theorem dX5_isBarred_1 : decode cX5_isBarred 1 = .ok (.getfield 7, 3) := by decide +kernel
theorem dX5_isBarred_4 : decode cX5_isBarred 4 = .ok (.iload_n 1, 1) := by decide +kernel
theorem dX5_isBarred_5 : decode cX5_isBarred 5 = .ok (.iload_n 2, 1) := by decide +kernel
theorem dX5_isBarred_6 : decode cX5_isBarred 6 = .ok (.invokestatic 34, 3) := by decide +kernel
theorem dX5_isBarred_9 : decode cX5_isBarred 9 = .ok (.iconst 2, 1) := by decide +kernel
theorem dX5_isBarred_10 : decode cX5_isBarred 10 = .ok (.iadd, 1) := by decide +kernel
theorem dX5_isBarred_11 : decode cX5_isBarred 11 = .ok (.iaload, 1) := by decide +kernel
theorem dX5_isBarred_12 : decode cX5_isBarred 12 = .ok (.aload_n 0, 1) := by decide +kernel
theorem dX5_isBarred_13 : decode cX5_isBarred 13 = .ok (.getfield 7, 3) := by decide +kernel
theorem dX5_isBarred_16 : decode cX5_isBarred 16 = .ok (.iload_n 1, 1) := by decide +kernel
theorem dX5_isBarred_17 : decode cX5_isBarred 17 = .ok (.iconst 4, 1) := by decide +kernel
theorem dX5_isBarred_18 : decode cX5_isBarred 18 = .ok (.iadd, 1) := by decide +kernel
theorem dX5_isBarred_19 : decode cX5_isBarred 19 = .ok (.iaload, 1) := by decide +kernel
theorem dX5_isBarred_20 : decode cX5_isBarred 20 = .ok (.if_icmp .lt 7, 3) := by decide +kernel
theorem dX5_isBarred_23 : decode cX5_isBarred 23 = .ok (.iconst 1, 1) := by decide +kernel
theorem dX5_isBarred_24 : decode cX5_isBarred 24 = .ok (.goto 4, 3) := by decide +kernel
theorem dX5_isBarred_27 : decode cX5_isBarred 27 = .ok (.iconst 0, 1) := by decide +kernel
theorem dX5_isBarred_28 : decode cX5_isBarred 28 = .ok (.ireturn, 1) := by decide +kernel
theorem dX5_score_0 : decode cX5_score 0 = .ok (.aload_n 0, 1) := by decide +kernel
theorem dX5_score_1 : decode cX5_score 1 = .ok (.getfield 7, 3) := by decide +kernel
theorem dX5_score_4 : decode cX5_score 4 = .ok (.iload_n 1, 1) := by decide +kernel
theorem dX5_score_5 : decode cX5_score 5 = .ok (.bipush 8, 2) := by decide +kernel
theorem dX5_score_7 : decode cX5_score 7 = .ok (.iadd, 1) := by decide +kernel
theorem dX5_score_8 : decode cX5_score 8 = .ok (.iaload, 1) := by decide +kernel
theorem dX5_score_9 : decode cX5_score 9 = .ok (.iconst 5, 1) := by decide +kernel
theorem dX5_score_10 : decode cX5_score 10 = .ok (.aload_n 0, 1) := by decide +kernel
theorem dX5_score_11 : decode cX5_score 11 = .ok (.getfield 7, 3) := by decide +kernel
theorem dX5_score_14 : decode cX5_score 14 = .ok (.iload_n 1, 1) := by decide +kernel
theorem dX5_score_15 : decode cX5_score 15 = .ok (.iload_n 2, 1) := by decide +kernel
theorem dX5_score_16 : decode cX5_score 16 = .ok (.invokestatic 34, 3) := by decide +kernel
theorem dX5_score_19 : decode cX5_score 19 = .ok (.iconst 0, 1) := by decide +kernel
theorem dX5_score_20 : decode cX5_score 20 = .ok (.iadd, 1) := by decide +kernel
theorem dX5_score_21 : decode cX5_score 21 = .ok (.iaload, 1) := by decide +kernel
theorem dX5_score_22 : decode cX5_score 22 = .ok (.imul, 1) := by decide +kernel
theorem dX5_score_23 : decode cX5_score 23 = .ok (.iadd, 1) := by decide +kernel
theorem dX5_score_24 : decode cX5_score 24 = .ok (.bipush 10, 2) := by decide +kernel
theorem dX5_score_26 : decode cX5_score 26 = .ok (.aload_n 0, 1) := by decide +kernel
theorem dX5_score_27 : decode cX5_score 27 = .ok (.getfield 7, 3) := by decide +kernel
theorem dX5_score_30 : decode cX5_score 30 = .ok (.iload_n 1, 1) := by decide +kernel
theorem dX5_score_31 : decode cX5_score 31 = .ok (.iload_n 2, 1) := by decide +kernel
theorem dX5_score_32 : decode cX5_score 32 = .ok (.invokestatic 34, 3) := by decide +kernel
theorem dX5_score_35 : decode cX5_score 35 = .ok (.iconst 2, 1) := by decide +kernel
theorem dX5_score_36 : decode cX5_score 36 = .ok (.iadd, 1) := by decide +kernel
theorem dX5_score_37 : decode cX5_score 37 = .ok (.iaload, 1) := by decide +kernel
theorem dX5_score_38 : decode cX5_score 38 = .ok (.imul, 1) := by decide +kernel
theorem dX5_score_39 : decode cX5_score 39 = .ok (.isub, 1) := by decide +kernel
theorem dX5_score_40 : decode cX5_score 40 = .ok (.ireturn, 1) := by decide +kernel
theorem dX5_scratches_0 : decode cX5_scratches 0 = .ok (.aload_n 0, 1) := by decide +kernel
theorem dX5_scratches_1 : decode cX5_scratches 1 = .ok (.getfield 7, 3) := by decide +kernel
theorem dX5_scratches_4 : decode cX5_scratches 4 = .ok (.iload_n 1, 1) := by decide +kernel
theorem dX5_scratches_5 : decode cX5_scratches 5 = .ok (.iload_n 2, 1) := by decide +kernel
theorem dX5_scratches_6 : decode cX5_scratches 6 = .ok (.invokestatic 34, 3) := by decide +kernel
theorem dX5_scratches_9 : decode cX5_scratches 9 = .ok (.iconst 2, 1) := by decide +kernel
theorem dX5_scratches_10 : decode cX5_scratches 10 = .ok (.iadd, 1) := by decide +kernel
theorem dX5_scratches_11 : decode cX5_scratches 11 = .ok (.dup2, 1) := by decide +kernel
theorem dX5_scratches_12 : decode cX5_scratches 12 = .ok (.iaload, 1) := by decide +kernel
theorem dX5_scratches_13 : decode cX5_scratches 13 = .ok (.iconst 1, 1) := by decide +kernel
theorem dX5_scratches_14 : decode cX5_scratches 14 = .ok (.iadd, 1) := by decide +kernel
theorem dX5_scratches_15 : decode cX5_scratches 15 = .ok (.iastore, 1) := by decide +kernel
theorem dX5_scratches_16 : decode cX5_scratches 16 = .ok (.aload_n 0, 1) := by decide +kernel
theorem dX5_scratches_17 : decode cX5_scratches 17 = .ok (.getfield 7, 3) := by decide +kernel
theorem dX5_scratches_20 : decode cX5_scratches 20 = .ok (.iload_n 1, 1) := by decide +kernel
theorem dX5_scratches_21 : decode cX5_scratches 21 = .ok (.bipush 12, 2) := by decide +kernel
theorem dX5_scratches_23 : decode cX5_scratches 23 = .ok (.iadd, 1) := by decide +kernel
theorem dX5_scratches_24 : decode cX5_scratches 24 = .ok (.dup2, 1) := by decide +kernel
theorem dX5_scratches_25 : decode cX5_scratches 25 = .ok (.iaload, 1) := by decide +kernel
theorem dX5_scratches_26 : decode cX5_scratches 26 = .ok (.iconst 1, 1) := by decide +kernel
theorem dX5_scratches_27 : decode cX5_scratches 27 = .ok (.iadd, 1) := by decide +kernel
theorem dX5_scratches_28 : decode cX5_scratches 28 = .ok (.iastore, 1) := by decide +kernel
theorem dX5_scratches_29 : decode cX5_scratches 29 = .ok (.return_, 1) := by decide +kernel
theorem dX5_behind_0 : decode cX5_behind 0 = .ok (.iload_n 2, 1) := by decide +kernel
theorem dX5_behind_1 : decode cX5_behind 1 = .ok (.iconst 1, 1) := by decide +kernel
theorem dX5_behind_2 : decode cX5_behind 2 = .ok (.iadd, 1) := by decide +kernel
theorem dX5_behind_3 : decode cX5_behind 3 = .ok (.aload_n 0, 1) := by decide +kernel
theorem dX5_behind_4 : decode cX5_behind 4 = .ok (.getfield 7, 3) := by decide +kernel
theorem dX5_behind_7 : decode cX5_behind 7 = .ok (.iload_n 1, 1) := by decide +kernel
theorem dX5_behind_8 : decode cX5_behind 8 = .ok (.bipush 7, 2) := by decide +kernel
theorem dX5_behind_10 : decode cX5_behind 10 = .ok (.iadd, 1) := by decide +kernel
theorem dX5_behind_11 : decode cX5_behind 11 = .ok (.iaload, 1) := by decide +kernel
theorem dX5_behind_12 : decode cX5_behind 12 = .ok (.if_icmp .ge 9, 3) := by decide +kernel
theorem dX5_behind_15 : decode cX5_behind 15 = .ok (.iload_n 2, 1) := by decide +kernel
theorem dX5_behind_16 : decode cX5_behind 16 = .ok (.iconst 1, 1) := by decide +kernel
theorem dX5_behind_17 : decode cX5_behind 17 = .ok (.iadd, 1) := by decide +kernel
theorem dX5_behind_18 : decode cX5_behind 18 = .ok (.goto 4, 3) := by decide +kernel
theorem dX5_behind_21 : decode cX5_behind 21 = .ok (.iconst 0, 1) := by decide +kernel
theorem dX5_behind_22 : decode cX5_behind 22 = .ok (.ireturn, 1) := by decide +kernel
theorem dX5_hand_0 : decode cX5_hand 0 = .ok (.iconst 0, 1) := by decide +kernel
theorem dX5_hand_1 : decode cX5_hand 1 = .ok (.istore_n 2, 1) := by decide +kernel
theorem dX5_hand_2 : decode cX5_hand 2 = .ok (.iload_n 2, 1) := by decide +kernel
theorem dX5_hand_3 : decode cX5_hand 3 = .ok (.aload_n 0, 1) := by decide +kernel
theorem dX5_hand_4 : decode cX5_hand 4 = .ok (.getfield 7, 3) := by decide +kernel
theorem dX5_hand_7 : decode cX5_hand 7 = .ok (.iload_n 1, 1) := by decide +kernel
theorem dX5_hand_8 : decode cX5_hand 8 = .ok (.bipush 7, 2) := by decide +kernel
theorem dX5_hand_10 : decode cX5_hand 10 = .ok (.iadd, 1) := by decide +kernel
theorem dX5_hand_11 : decode cX5_hand 11 = .ok (.iaload, 1) := by decide +kernel
theorem dX5_hand_12 : decode cX5_hand 12 = .ok (.if_icmp .ge 42, 3) := by decide +kernel
theorem dX5_hand_15 : decode cX5_hand 15 = .ok (.aload_n 0, 1) := by decide +kernel
theorem dX5_hand_16 : decode cX5_hand 16 = .ok (.getfield 7, 3) := by decide +kernel
theorem dX5_hand_19 : decode cX5_hand 19 = .ok (.iload_n 1, 1) := by decide +kernel
theorem dX5_hand_20 : decode cX5_hand 20 = .ok (.bipush 10, 2) := by decide +kernel
theorem dX5_hand_22 : decode cX5_hand 22 = .ok (.iadd, 1) := by decide +kernel
theorem dX5_hand_23 : decode cX5_hand 23 = .ok (.iaload, 1) := by decide +kernel
theorem dX5_hand_24 : decode cX5_hand 24 = .ok (.iload_n 2, 1) := by decide +kernel
theorem dX5_hand_25 : decode cX5_hand 25 = .ok (.iadd, 1) := by decide +kernel
theorem dX5_hand_26 : decode cX5_hand 26 = .ok (.aload_n 0, 1) := by decide +kernel
theorem dX5_hand_27 : decode cX5_hand 27 = .ok (.getfield 7, 3) := by decide +kernel
theorem dX5_hand_30 : decode cX5_hand 30 = .ok (.iload_n 1, 1) := by decide +kernel
theorem dX5_hand_31 : decode cX5_hand 31 = .ok (.bipush 7, 2) := by decide +kernel
theorem dX5_hand_33 : decode cX5_hand 33 = .ok (.iadd, 1) := by decide +kernel
theorem dX5_hand_34 : decode cX5_hand 34 = .ok (.iaload, 1) := by decide +kernel
theorem dX5_hand_35 : decode cX5_hand 35 = .ok (.irem, 1) := by decide +kernel
theorem dX5_hand_36 : decode cX5_hand 36 = .ok (.istore_n 3, 1) := by decide +kernel
theorem dX5_hand_37 : decode cX5_hand 37 = .ok (.aload_n 0, 1) := by decide +kernel
theorem dX5_hand_38 : decode cX5_hand 38 = .ok (.iload_n 1, 1) := by decide +kernel
theorem dX5_hand_39 : decode cX5_hand 39 = .ok (.iload_n 3, 1) := by decide +kernel
theorem dX5_hand_40 : decode cX5_hand 40 = .ok (.invokevirtual 38, 3) := by decide +kernel
theorem dX5_hand_43 : decode cX5_hand 43 = .ok (.ifCond .ne 5, 3) := by decide +kernel
theorem dX5_hand_46 : decode cX5_hand 46 = .ok (.iload_n 3, 1) := by decide +kernel
theorem dX5_hand_47 : decode cX5_hand 47 = .ok (.ireturn, 1) := by decide +kernel
theorem dX5_hand_48 : decode cX5_hand 48 = .ok (.iinc 2 1, 3) := by decide +kernel
theorem dX5_hand_51 : decode cX5_hand 51 = .ok (.goto (-49), 3) := by decide +kernel
theorem dX5_hand_54 : decode cX5_hand 54 = .ok (.bipush (-6), 2) := by decide +kernel
theorem dX5_hand_56 : decode cX5_hand 56 = .ok (.ireturn, 1) := by decide +kernel
theorem dX5_purrs_0 : decode cX5_purrs 0 = .ok (.aload_n 0, 1) := by decide +kernel
theorem dX5_purrs_1 : decode cX5_purrs 1 = .ok (.getfield 7, 3) := by decide +kernel
theorem dX5_purrs_4 : decode cX5_purrs 4 = .ok (.iload_n 1, 1) := by decide +kernel
theorem dX5_purrs_5 : decode cX5_purrs 5 = .ok (.bipush 9, 2) := by decide +kernel
theorem dX5_purrs_7 : decode cX5_purrs 7 = .ok (.iadd, 1) := by decide +kernel
theorem dX5_purrs_8 : decode cX5_purrs 8 = .ok (.iaload, 1) := by decide +kernel
theorem dX5_purrs_9 : decode cX5_purrs 9 = .ok (.ifCond .lt 8, 3) := by decide +kernel
theorem dX5_purrs_12 : decode cX5_purrs 12 = .ok (.bipush (-6), 2) := by decide +kernel
theorem dX5_purrs_14 : decode cX5_purrs 14 = .ok (.goto 8, 3) := by decide +kernel
theorem dX5_purrs_17 : decode cX5_purrs 17 = .ok (.aload_n 0, 1) := by decide +kernel
theorem dX5_purrs_18 : decode cX5_purrs 18 = .ok (.iload_n 1, 1) := by decide +kernel
theorem dX5_purrs_19 : decode cX5_purrs 19 = .ok (.invokevirtual 42, 3) := by decide +kernel
theorem dX5_purrs_22 : decode cX5_purrs 22 = .ok (.istore_n 2, 1) := by decide +kernel
theorem dX5_purrs_23 : decode cX5_purrs 23 = .ok (.iload_n 2, 1) := by decide +kernel
theorem dX5_purrs_24 : decode cX5_purrs 24 = .ok (.bipush (-6), 2) := by decide +kernel
theorem dX5_purrs_26 : decode cX5_purrs 26 = .ok (.if_icmp .ne 5, 3) := by decide +kernel
theorem dX5_purrs_29 : decode cX5_purrs 29 = .ok (.iconst 0, 1) := by decide +kernel
theorem dX5_purrs_30 : decode cX5_purrs 30 = .ok (.ireturn, 1) := by decide +kernel
theorem dX5_purrs_31 : decode cX5_purrs 31 = .ok (.aload_n 0, 1) := by decide +kernel
theorem dX5_purrs_32 : decode cX5_purrs 32 = .ok (.iload_n 1, 1) := by decide +kernel
theorem dX5_purrs_33 : decode cX5_purrs 33 = .ok (.iload_n 2, 1) := by decide +kernel
theorem dX5_purrs_34 : decode cX5_purrs 34 = .ok (.invokevirtual 46, 3) := by decide +kernel
theorem dX5_purrs_37 : decode cX5_purrs 37 = .ok (.aload_n 0, 1) := by decide +kernel
theorem dX5_purrs_38 : decode cX5_purrs 38 = .ok (.getfield 7, 3) := by decide +kernel
theorem dX5_purrs_41 : decode cX5_purrs 41 = .ok (.iload_n 1, 1) := by decide +kernel
theorem dX5_purrs_42 : decode cX5_purrs 42 = .ok (.iconst 0, 1) := by decide +kernel
theorem dX5_purrs_43 : decode cX5_purrs 43 = .ok (.iadd, 1) := by decide +kernel
theorem dX5_purrs_44 : decode cX5_purrs 44 = .ok (.iaload, 1) := by decide +kernel
theorem dX5_purrs_45 : decode cX5_purrs 45 = .ok (.if_icmp .lt 44, 3) := by decide +kernel
theorem dX5_purrs_48 : decode cX5_purrs 48 = .ok (.aload_n 0, 1) := by decide +kernel
theorem dX5_purrs_49 : decode cX5_purrs 49 = .ok (.getfield 7, 3) := by decide +kernel
theorem dX5_purrs_52 : decode cX5_purrs 52 = .ok (.iload_n 1, 1) := by decide +kernel
theorem dX5_purrs_53 : decode cX5_purrs 53 = .ok (.bipush 9, 2) := by decide +kernel
theorem dX5_purrs_55 : decode cX5_purrs 55 = .ok (.iadd, 1) := by decide +kernel
theorem dX5_purrs_56 : decode cX5_purrs 56 = .ok (.iload_n 2, 1) := by decide +kernel
theorem dX5_purrs_57 : decode cX5_purrs 57 = .ok (.iastore, 1) := by decide +kernel
theorem dX5_purrs_58 : decode cX5_purrs 58 = .ok (.aload_n 0, 1) := by decide +kernel
theorem dX5_purrs_59 : decode cX5_purrs 59 = .ok (.getfield 7, 3) := by decide +kernel
theorem dX5_purrs_62 : decode cX5_purrs 62 = .ok (.iload_n 1, 1) := by decide +kernel
theorem dX5_purrs_63 : decode cX5_purrs 63 = .ok (.iload_n 2, 1) := by decide +kernel
theorem dX5_purrs_64 : decode cX5_purrs 64 = .ok (.invokestatic 34, 3) := by decide +kernel
theorem dX5_purrs_67 : decode cX5_purrs 67 = .ok (.iconst 4, 1) := by decide +kernel
theorem dX5_purrs_68 : decode cX5_purrs 68 = .ok (.iadd, 1) := by decide +kernel
theorem dX5_purrs_69 : decode cX5_purrs 69 = .ok (.dup2, 1) := by decide +kernel
theorem dX5_purrs_70 : decode cX5_purrs 70 = .ok (.iaload, 1) := by decide +kernel
theorem dX5_purrs_71 : decode cX5_purrs 71 = .ok (.iconst 1, 1) := by decide +kernel
theorem dX5_purrs_72 : decode cX5_purrs 72 = .ok (.iadd, 1) := by decide +kernel
theorem dX5_purrs_73 : decode cX5_purrs 73 = .ok (.iastore, 1) := by decide +kernel
theorem dX5_purrs_74 : decode cX5_purrs 74 = .ok (.aload_n 0, 1) := by decide +kernel
theorem dX5_purrs_75 : decode cX5_purrs 75 = .ok (.getfield 7, 3) := by decide +kernel
theorem dX5_purrs_78 : decode cX5_purrs 78 = .ok (.iload_n 1, 1) := by decide +kernel
theorem dX5_purrs_79 : decode cX5_purrs 79 = .ok (.bipush 13, 2) := by decide +kernel
theorem dX5_purrs_81 : decode cX5_purrs 81 = .ok (.iadd, 1) := by decide +kernel
theorem dX5_purrs_82 : decode cX5_purrs 82 = .ok (.dup2, 1) := by decide +kernel
theorem dX5_purrs_83 : decode cX5_purrs 83 = .ok (.iaload, 1) := by decide +kernel
theorem dX5_purrs_84 : decode cX5_purrs 84 = .ok (.iconst 1, 1) := by decide +kernel
theorem dX5_purrs_85 : decode cX5_purrs 85 = .ok (.iadd, 1) := by decide +kernel
theorem dX5_purrs_86 : decode cX5_purrs 86 = .ok (.iastore, 1) := by decide +kernel
theorem dX5_purrs_87 : decode cX5_purrs 87 = .ok (.iconst 1, 1) := by decide +kernel
theorem dX5_purrs_88 : decode cX5_purrs 88 = .ok (.ireturn, 1) := by decide +kernel
theorem dX5_purrs_89 : decode cX5_purrs 89 = .ok (.aload_n 0, 1) := by decide +kernel
theorem dX5_purrs_90 : decode cX5_purrs 90 = .ok (.iload_n 1, 1) := by decide +kernel
theorem dX5_purrs_91 : decode cX5_purrs 91 = .ok (.iload_n 2, 1) := by decide +kernel
theorem dX5_purrs_92 : decode cX5_purrs 92 = .ok (.invokevirtual 49, 3) := by decide +kernel
theorem dX5_purrs_95 : decode cX5_purrs 95 = .ok (.aload_n 0, 1) := by decide +kernel
theorem dX5_purrs_96 : decode cX5_purrs 96 = .ok (.getfield 7, 3) := by decide +kernel
theorem dX5_purrs_99 : decode cX5_purrs 99 = .ok (.iload_n 1, 1) := by decide +kernel
theorem dX5_purrs_100 : decode cX5_purrs 100 = .ok (.bipush 8, 2) := by decide +kernel
theorem dX5_purrs_102 : decode cX5_purrs 102 = .ok (.iadd, 1) := by decide +kernel
theorem dX5_purrs_103 : decode cX5_purrs 103 = .ok (.aload_n 0, 1) := by decide +kernel
theorem dX5_purrs_104 : decode cX5_purrs 104 = .ok (.getfield 7, 3) := by decide +kernel
theorem dX5_purrs_107 : decode cX5_purrs 107 = .ok (.iload_n 1, 1) := by decide +kernel
theorem dX5_purrs_108 : decode cX5_purrs 108 = .ok (.bipush 8, 2) := by decide +kernel
theorem dX5_purrs_110 : decode cX5_purrs 110 = .ok (.iadd, 1) := by decide +kernel
theorem dX5_purrs_111 : decode cX5_purrs 111 = .ok (.iaload, 1) := by decide +kernel
theorem dX5_purrs_112 : decode cX5_purrs 112 = .ok (.iconst 3, 1) := by decide +kernel
theorem dX5_purrs_113 : decode cX5_purrs 113 = .ok (.if_icmp .ge 7, 3) := by decide +kernel
theorem dX5_purrs_116 : decode cX5_purrs 116 = .ok (.iconst 0, 1) := by decide +kernel
theorem dX5_purrs_117 : decode cX5_purrs 117 = .ok (.goto 14, 3) := by decide +kernel
theorem dX5_purrs_120 : decode cX5_purrs 120 = .ok (.aload_n 0, 1) := by decide +kernel
theorem dX5_purrs_121 : decode cX5_purrs 121 = .ok (.getfield 7, 3) := by decide +kernel
theorem dX5_purrs_124 : decode cX5_purrs 124 = .ok (.iload_n 1, 1) := by decide +kernel
theorem dX5_purrs_125 : decode cX5_purrs 125 = .ok (.bipush 8, 2) := by decide +kernel
theorem dX5_purrs_127 : decode cX5_purrs 127 = .ok (.iadd, 1) := by decide +kernel
theorem dX5_purrs_128 : decode cX5_purrs 128 = .ok (.iaload, 1) := by decide +kernel
theorem dX5_purrs_129 : decode cX5_purrs 129 = .ok (.iconst 3, 1) := by decide +kernel
theorem dX5_purrs_130 : decode cX5_purrs 130 = .ok (.isub, 1) := by decide +kernel
theorem dX5_purrs_131 : decode cX5_purrs 131 = .ok (.iastore, 1) := by decide +kernel
theorem dX5_purrs_132 : decode cX5_purrs 132 = .ok (.aload_n 0, 1) := by decide +kernel
theorem dX5_purrs_133 : decode cX5_purrs 133 = .ok (.getfield 7, 3) := by decide +kernel
theorem dX5_purrs_136 : decode cX5_purrs 136 = .ok (.iload_n 1, 1) := by decide +kernel
theorem dX5_purrs_137 : decode cX5_purrs 137 = .ok (.bipush 10, 2) := by decide +kernel
theorem dX5_purrs_139 : decode cX5_purrs 139 = .ok (.iadd, 1) := by decide +kernel
theorem dX5_purrs_140 : decode cX5_purrs 140 = .ok (.aload_n 0, 1) := by decide +kernel
theorem dX5_purrs_141 : decode cX5_purrs 141 = .ok (.iload_n 1, 1) := by decide +kernel
theorem dX5_purrs_142 : decode cX5_purrs 142 = .ok (.iload_n 2, 1) := by decide +kernel
theorem dX5_purrs_143 : decode cX5_purrs 143 = .ok (.invokevirtual 53, 3) := by decide +kernel
theorem dX5_purrs_146 : decode cX5_purrs 146 = .ok (.iastore, 1) := by decide +kernel
theorem dX5_purrs_147 : decode cX5_purrs 147 = .ok (.iconst 0, 1) := by decide +kernel
theorem dX5_purrs_148 : decode cX5_purrs 148 = .ok (.ireturn, 1) := by decide +kernel
theorem dX5_deposes_0 : decode cX5_deposes 0 = .ok (.aload_n 0, 1) := by decide +kernel
theorem dX5_deposes_1 : decode cX5_deposes 1 = .ok (.getfield 7, 3) := by decide +kernel
theorem dX5_deposes_4 : decode cX5_deposes 4 = .ok (.iload_n 1, 1) := by decide +kernel
theorem dX5_deposes_5 : decode cX5_deposes 5 = .ok (.bipush 9, 2) := by decide +kernel
theorem dX5_deposes_7 : decode cX5_deposes 7 = .ok (.iadd, 1) := by decide +kernel
theorem dX5_deposes_8 : decode cX5_deposes 8 = .ok (.iconst (-1), 1) := by decide +kernel
theorem dX5_deposes_9 : decode cX5_deposes 9 = .ok (.iastore, 1) := by decide +kernel
theorem dX5_deposes_10 : decode cX5_deposes 10 = .ok (.aload_n 0, 1) := by decide +kernel
theorem dX5_deposes_11 : decode cX5_deposes 11 = .ok (.getfield 7, 3) := by decide +kernel
theorem dX5_deposes_14 : decode cX5_deposes 14 = .ok (.iload_n 1, 1) := by decide +kernel
theorem dX5_deposes_15 : decode cX5_deposes 15 = .ok (.bipush 10, 2) := by decide +kernel
theorem dX5_deposes_17 : decode cX5_deposes 17 = .ok (.iadd, 1) := by decide +kernel
theorem dX5_deposes_18 : decode cX5_deposes 18 = .ok (.iload_n 2, 1) := by decide +kernel
theorem dX5_deposes_19 : decode cX5_deposes 19 = .ok (.iastore, 1) := by decide +kernel
theorem dX5_deposes_20 : decode cX5_deposes 20 = .ok (.aload_n 0, 1) := by decide +kernel
theorem dX5_deposes_21 : decode cX5_deposes 21 = .ok (.getfield 7, 3) := by decide +kernel
theorem dX5_deposes_24 : decode cX5_deposes 24 = .ok (.iload_n 1, 1) := by decide +kernel
theorem dX5_deposes_25 : decode cX5_deposes 25 = .ok (.bipush 14, 2) := by decide +kernel
theorem dX5_deposes_27 : decode cX5_deposes 27 = .ok (.iadd, 1) := by decide +kernel
theorem dX5_deposes_28 : decode cX5_deposes 28 = .ok (.dup2, 1) := by decide +kernel
theorem dX5_deposes_29 : decode cX5_deposes 29 = .ok (.iaload, 1) := by decide +kernel
theorem dX5_deposes_30 : decode cX5_deposes 30 = .ok (.iconst 1, 1) := by decide +kernel
theorem dX5_deposes_31 : decode cX5_deposes 31 = .ok (.iadd, 1) := by decide +kernel
theorem dX5_deposes_32 : decode cX5_deposes 32 = .ok (.iastore, 1) := by decide +kernel
theorem dX5_deposes_33 : decode cX5_deposes 33 = .ok (.return_, 1) := by decide +kernel
theorem dX5_pays_0 : decode cX5_pays 0 = .ok (.aload_n 0, 1) := by decide +kernel
theorem dX5_pays_1 : decode cX5_pays 1 = .ok (.getfield 7, 3) := by decide +kernel
theorem dX5_pays_4 : decode cX5_pays 4 = .ok (.iload_n 1, 1) := by decide +kernel
theorem dX5_pays_5 : decode cX5_pays 5 = .ok (.bipush 9, 2) := by decide +kernel
theorem dX5_pays_7 : decode cX5_pays 7 = .ok (.iadd, 1) := by decide +kernel
theorem dX5_pays_8 : decode cX5_pays 8 = .ok (.iaload, 1) := by decide +kernel
theorem dX5_pays_9 : decode cX5_pays 9 = .ok (.istore_n 2, 1) := by decide +kernel
theorem dX5_pays_10 : decode cX5_pays 10 = .ok (.iload_n 2, 1) := by decide +kernel
theorem dX5_pays_11 : decode cX5_pays 11 = .ok (.ifCond .ge 16, 3) := by decide +kernel
theorem dX5_pays_14 : decode cX5_pays 14 = .ok (.aload_n 0, 1) := by decide +kernel
theorem dX5_pays_15 : decode cX5_pays 15 = .ok (.getfield 7, 3) := by decide +kernel
theorem dX5_pays_18 : decode cX5_pays 18 = .ok (.iload_n 1, 1) := by decide +kernel
theorem dX5_pays_19 : decode cX5_pays 19 = .ok (.iconst 1, 1) := by decide +kernel
theorem dX5_pays_20 : decode cX5_pays 20 = .ok (.iadd, 1) := by decide +kernel
theorem dX5_pays_21 : decode cX5_pays 21 = .ok (.iaload, 1) := by decide +kernel
theorem dX5_pays_22 : decode cX5_pays 22 = .ok (.iconst 2, 1) := by decide +kernel
theorem dX5_pays_23 : decode cX5_pays 23 = .ok (.idiv, 1) := by decide +kernel
theorem dX5_pays_24 : decode cX5_pays 24 = .ok (.goto 11, 3) := by decide +kernel
theorem dX5_pays_27 : decode cX5_pays 27 = .ok (.aload_n 0, 1) := by decide +kernel
theorem dX5_pays_28 : decode cX5_pays 28 = .ok (.getfield 7, 3) := by decide +kernel
theorem dX5_pays_31 : decode cX5_pays 31 = .ok (.iload_n 1, 1) := by decide +kernel
theorem dX5_pays_32 : decode cX5_pays 32 = .ok (.iconst 1, 1) := by decide +kernel
theorem dX5_pays_33 : decode cX5_pays 33 = .ok (.iadd, 1) := by decide +kernel
theorem dX5_pays_34 : decode cX5_pays 34 = .ok (.iaload, 1) := by decide +kernel
theorem dX5_pays_35 : decode cX5_pays 35 = .ok (.aload_n 0, 1) := by decide +kernel
theorem dX5_pays_36 : decode cX5_pays 36 = .ok (.getfield 7, 3) := by decide +kernel
theorem dX5_pays_39 : decode cX5_pays 39 = .ok (.iload_n 1, 1) := by decide +kernel
theorem dX5_pays_40 : decode cX5_pays 40 = .ok (.bipush 11, 2) := by decide +kernel
theorem dX5_pays_42 : decode cX5_pays 42 = .ok (.iadd, 1) := by decide +kernel
theorem dX5_pays_43 : decode cX5_pays 43 = .ok (.iaload, 1) := by decide +kernel
theorem dX5_pays_44 : decode cX5_pays 44 = .ok (.invokestatic 56, 3) := by decide +kernel
theorem dX5_pays_47 : decode cX5_pays 47 = .ok (.istore_n 3, 1) := by decide +kernel
theorem dX5_pays_48 : decode cX5_pays 48 = .ok (.iload_n 2, 1) := by decide +kernel
theorem dX5_pays_49 : decode cX5_pays 49 = .ok (.ifCond .ge 7, 3) := by decide +kernel
theorem dX5_pays_52 : decode cX5_pays 52 = .ok (.iload_n 3, 1) := by decide +kernel
theorem dX5_pays_53 : decode cX5_pays 53 = .ok (.goto 20, 3) := by decide +kernel
theorem dX5_pays_56 : decode cX5_pays 56 = .ok (.iload_n 3, 1) := by decide +kernel
theorem dX5_pays_57 : decode cX5_pays 57 = .ok (.aload_n 0, 1) := by decide +kernel
theorem dX5_pays_58 : decode cX5_pays 58 = .ok (.getfield 7, 3) := by decide +kernel
theorem dX5_pays_61 : decode cX5_pays 61 = .ok (.iload_n 1, 1) := by decide +kernel
theorem dX5_pays_62 : decode cX5_pays 62 = .ok (.iload_n 2, 1) := by decide +kernel
theorem dX5_pays_63 : decode cX5_pays 63 = .ok (.invokestatic 34, 3) := by decide +kernel
theorem dX5_pays_66 : decode cX5_pays 66 = .ok (.iconst 1, 1) := by decide +kernel
theorem dX5_pays_67 : decode cX5_pays 67 = .ok (.iadd, 1) := by decide +kernel
theorem dX5_pays_68 : decode cX5_pays 68 = .ok (.iaload, 1) := by decide +kernel
theorem dX5_pays_69 : decode cX5_pays 69 = .ok (.imul, 1) := by decide +kernel
theorem dX5_pays_70 : decode cX5_pays 70 = .ok (.bipush 100, 2) := by decide +kernel
theorem dX5_pays_72 : decode cX5_pays 72 = .ok (.idiv, 1) := by decide +kernel
theorem dX5_pays_73 : decode cX5_pays 73 = .ok (.istore 4, 2) := by decide +kernel
theorem dX5_pays_75 : decode cX5_pays 75 = .ok (.aload_n 0, 1) := by decide +kernel
theorem dX5_pays_76 : decode cX5_pays 76 = .ok (.getfield 7, 3) := by decide +kernel
theorem dX5_pays_79 : decode cX5_pays 79 = .ok (.iload_n 1, 1) := by decide +kernel
theorem dX5_pays_80 : decode cX5_pays 80 = .ok (.bipush 11, 2) := by decide +kernel
theorem dX5_pays_82 : decode cX5_pays 82 = .ok (.iadd, 1) := by decide +kernel
theorem dX5_pays_83 : decode cX5_pays 83 = .ok (.dup2, 1) := by decide +kernel
theorem dX5_pays_84 : decode cX5_pays 84 = .ok (.iaload, 1) := by decide +kernel
theorem dX5_pays_85 : decode cX5_pays 85 = .ok (.iload_n 3, 1) := by decide +kernel
theorem dX5_pays_86 : decode cX5_pays 86 = .ok (.isub, 1) := by decide +kernel
theorem dX5_pays_87 : decode cX5_pays 87 = .ok (.iastore, 1) := by decide +kernel
theorem dX5_pays_88 : decode cX5_pays 88 = .ok (.aload_n 0, 1) := by decide +kernel
theorem dX5_pays_89 : decode cX5_pays 89 = .ok (.getfield 7, 3) := by decide +kernel
theorem dX5_pays_92 : decode cX5_pays 92 = .ok (.iload_n 1, 1) := by decide +kernel
theorem dX5_pays_93 : decode cX5_pays 93 = .ok (.bipush 15, 2) := by decide +kernel
theorem dX5_pays_95 : decode cX5_pays 95 = .ok (.iadd, 1) := by decide +kernel
theorem dX5_pays_96 : decode cX5_pays 96 = .ok (.dup2, 1) := by decide +kernel
theorem dX5_pays_97 : decode cX5_pays 97 = .ok (.iaload, 1) := by decide +kernel
theorem dX5_pays_98 : decode cX5_pays 98 = .ok (.iload 4, 2) := by decide +kernel
theorem dX5_pays_100 : decode cX5_pays 100 = .ok (.iadd, 1) := by decide +kernel
theorem dX5_pays_101 : decode cX5_pays 101 = .ok (.iastore, 1) := by decide +kernel
theorem dX5_pays_102 : decode cX5_pays 102 = .ok (.iload_n 2, 1) := by decide +kernel
theorem dX5_pays_103 : decode cX5_pays 103 = .ok (.ifCond .lt 76, 3) := by decide +kernel
theorem dX5_pays_106 : decode cX5_pays 106 = .ok (.aload_n 0, 1) := by decide +kernel
theorem dX5_pays_107 : decode cX5_pays 107 = .ok (.getfield 7, 3) := by decide +kernel
theorem dX5_pays_110 : decode cX5_pays 110 = .ok (.iload_n 1, 1) := by decide +kernel
theorem dX5_pays_111 : decode cX5_pays 111 = .ok (.iload_n 2, 1) := by decide +kernel
theorem dX5_pays_112 : decode cX5_pays 112 = .ok (.invokestatic 34, 3) := by decide +kernel
theorem dX5_pays_115 : decode cX5_pays 115 = .ok (.iconst 3, 1) := by decide +kernel
theorem dX5_pays_116 : decode cX5_pays 116 = .ok (.iadd, 1) := by decide +kernel
theorem dX5_pays_117 : decode cX5_pays 117 = .ok (.dup2, 1) := by decide +kernel
theorem dX5_pays_118 : decode cX5_pays 118 = .ok (.iaload, 1) := by decide +kernel
theorem dX5_pays_119 : decode cX5_pays 119 = .ok (.iload_n 3, 1) := by decide +kernel
theorem dX5_pays_120 : decode cX5_pays 120 = .ok (.iload 4, 2) := by decide +kernel
theorem dX5_pays_122 : decode cX5_pays 122 = .ok (.isub, 1) := by decide +kernel
theorem dX5_pays_123 : decode cX5_pays 123 = .ok (.iadd, 1) := by decide +kernel
theorem dX5_pays_124 : decode cX5_pays 124 = .ok (.iastore, 1) := by decide +kernel
theorem dX5_pays_125 : decode cX5_pays 125 = .ok (.aload_n 0, 1) := by decide +kernel
theorem dX5_pays_126 : decode cX5_pays 126 = .ok (.getfield 7, 3) := by decide +kernel
theorem dX5_pays_129 : decode cX5_pays 129 = .ok (.iload_n 1, 1) := by decide +kernel
theorem dX5_pays_130 : decode cX5_pays 130 = .ok (.bipush 8, 2) := by decide +kernel
theorem dX5_pays_132 : decode cX5_pays 132 = .ok (.iadd, 1) := by decide +kernel
theorem dX5_pays_133 : decode cX5_pays 133 = .ok (.aload_n 0, 1) := by decide +kernel
theorem dX5_pays_134 : decode cX5_pays 134 = .ok (.getfield 7, 3) := by decide +kernel
theorem dX5_pays_137 : decode cX5_pays 137 = .ok (.iload_n 1, 1) := by decide +kernel
theorem dX5_pays_138 : decode cX5_pays 138 = .ok (.bipush 8, 2) := by decide +kernel
theorem dX5_pays_140 : decode cX5_pays 140 = .ok (.iadd, 1) := by decide +kernel
theorem dX5_pays_141 : decode cX5_pays 141 = .ok (.iaload, 1) := by decide +kernel
theorem dX5_pays_142 : decode cX5_pays 142 = .ok (.iload 4, 2) := by decide +kernel
theorem dX5_pays_144 : decode cX5_pays 144 = .ok (.iconst 2, 1) := by decide +kernel
theorem dX5_pays_145 : decode cX5_pays 145 = .ok (.idiv, 1) := by decide +kernel
theorem dX5_pays_146 : decode cX5_pays 146 = .ok (.iadd, 1) := by decide +kernel
theorem dX5_pays_147 : decode cX5_pays 147 = .ok (.bipush 99, 2) := by decide +kernel
theorem dX5_pays_149 : decode cX5_pays 149 = .ok (.invokestatic 56, 3) := by decide +kernel
theorem dX5_pays_152 : decode cX5_pays 152 = .ok (.iastore, 1) := by decide +kernel
theorem dX5_pays_153 : decode cX5_pays 153 = .ok (.aload_n 0, 1) := by decide +kernel
theorem dX5_pays_154 : decode cX5_pays 154 = .ok (.getfield 7, 3) := by decide +kernel
theorem dX5_pays_157 : decode cX5_pays 157 = .ok (.iload_n 1, 1) := by decide +kernel
theorem dX5_pays_158 : decode cX5_pays 158 = .ok (.bipush 8, 2) := by decide +kernel
theorem dX5_pays_160 : decode cX5_pays 160 = .ok (.iadd, 1) := by decide +kernel
theorem dX5_pays_161 : decode cX5_pays 161 = .ok (.iaload, 1) := by decide +kernel
theorem dX5_pays_162 : decode cX5_pays 162 = .ok (.aload_n 0, 1) := by decide +kernel
theorem dX5_pays_163 : decode cX5_pays 163 = .ok (.getfield 7, 3) := by decide +kernel
theorem dX5_pays_166 : decode cX5_pays 166 = .ok (.iload_n 1, 1) := by decide +kernel
theorem dX5_pays_167 : decode cX5_pays 167 = .ok (.iconst 5, 1) := by decide +kernel
theorem dX5_pays_168 : decode cX5_pays 168 = .ok (.iadd, 1) := by decide +kernel
theorem dX5_pays_169 : decode cX5_pays 169 = .ok (.iaload, 1) := by decide +kernel
theorem dX5_pays_170 : decode cX5_pays 170 = .ok (.if_icmp .ge 9, 3) := by decide +kernel
theorem dX5_pays_173 : decode cX5_pays 173 = .ok (.aload_n 0, 1) := by decide +kernel
theorem dX5_pays_174 : decode cX5_pays 174 = .ok (.iload_n 1, 1) := by decide +kernel
theorem dX5_pays_175 : decode cX5_pays 175 = .ok (.iconst 0, 1) := by decide +kernel
theorem dX5_pays_176 : decode cX5_pays 176 = .ok (.invokevirtual 59, 3) := by decide +kernel
theorem dX5_pays_179 : decode cX5_pays 179 = .ok (.return_, 1) := by decide +kernel
theorem dX5_passesOne_0 : decode cX5_passesOne 0 = .ok (.aload_n 0, 1) := by decide +kernel
theorem dX5_passesOne_1 : decode cX5_passesOne 1 = .ok (.getfield 7, 3) := by decide +kernel
theorem dX5_passesOne_4 : decode cX5_passesOne 4 = .ok (.iload_n 1, 1) := by decide +kernel
theorem dX5_passesOne_5 : decode cX5_passesOne 5 = .ok (.bipush 6, 2) := by decide +kernel
theorem dX5_passesOne_7 : decode cX5_passesOne 7 = .ok (.iadd, 1) := by decide +kernel
theorem dX5_passesOne_8 : decode cX5_passesOne 8 = .ok (.dup2, 1) := by decide +kernel
theorem dX5_passesOne_9 : decode cX5_passesOne 9 = .ok (.iaload, 1) := by decide +kernel
theorem dX5_passesOne_10 : decode cX5_passesOne 10 = .ok (.iconst 1, 1) := by decide +kernel
theorem dX5_passesOne_11 : decode cX5_passesOne 11 = .ok (.iadd, 1) := by decide +kernel
theorem dX5_passesOne_12 : decode cX5_passesOne 12 = .ok (.iastore, 1) := by decide +kernel
theorem dX5_passesOne_13 : decode cX5_passesOne 13 = .ok (.aload_n 0, 1) := by decide +kernel
theorem dX5_passesOne_14 : decode cX5_passesOne 14 = .ok (.iload_n 1, 1) := by decide +kernel
theorem dX5_passesOne_15 : decode cX5_passesOne 15 = .ok (.invokevirtual 62, 3) := by decide +kernel
theorem dX5_passesOne_18 : decode cX5_passesOne 18 = .ok (.istore_n 2, 1) := by decide +kernel
theorem dX5_passesOne_19 : decode cX5_passesOne 19 = .ok (.aload_n 0, 1) := by decide +kernel
theorem dX5_passesOne_20 : decode cX5_passesOne 20 = .ok (.getfield 7, 3) := by decide +kernel
theorem dX5_passesOne_23 : decode cX5_passesOne 23 = .ok (.iload_n 1, 1) := by decide +kernel
theorem dX5_passesOne_24 : decode cX5_passesOne 24 = .ok (.bipush 6, 2) := by decide +kernel
theorem dX5_passesOne_26 : decode cX5_passesOne 26 = .ok (.iadd, 1) := by decide +kernel
theorem dX5_passesOne_27 : decode cX5_passesOne 27 = .ok (.iaload, 1) := by decide +kernel
theorem dX5_passesOne_28 : decode cX5_passesOne 28 = .ok (.aload_n 0, 1) := by decide +kernel
theorem dX5_passesOne_29 : decode cX5_passesOne 29 = .ok (.getfield 7, 3) := by decide +kernel
theorem dX5_passesOne_32 : decode cX5_passesOne 32 = .ok (.iload_n 1, 1) := by decide +kernel
theorem dX5_passesOne_33 : decode cX5_passesOne 33 = .ok (.iconst 3, 1) := by decide +kernel
theorem dX5_passesOne_34 : decode cX5_passesOne 34 = .ok (.iadd, 1) := by decide +kernel
theorem dX5_passesOne_35 : decode cX5_passesOne 35 = .ok (.iaload, 1) := by decide +kernel
theorem dX5_passesOne_36 : decode cX5_passesOne 36 = .ok (.irem, 1) := by decide +kernel
theorem dX5_passesOne_37 : decode cX5_passesOne 37 = .ok (.ifCond .ne 8, 3) := by decide +kernel
theorem dX5_passesOne_40 : decode cX5_passesOne 40 = .ok (.aload_n 0, 1) := by decide +kernel
theorem dX5_passesOne_41 : decode cX5_passesOne 41 = .ok (.iload_n 1, 1) := by decide +kernel
theorem dX5_passesOne_42 : decode cX5_passesOne 42 = .ok (.invokevirtual 66, 3) := by decide +kernel
theorem dX5_passesOne_45 : decode cX5_passesOne 45 = .ok (.aload_n 0, 1) := by decide +kernel
theorem dX5_passesOne_46 : decode cX5_passesOne 46 = .ok (.getfield 7, 3) := by decide +kernel
theorem dX5_passesOne_49 : decode cX5_passesOne 49 = .ok (.iload_n 1, 1) := by decide +kernel
theorem dX5_passesOne_50 : decode cX5_passesOne 50 = .ok (.bipush 8, 2) := by decide +kernel
theorem dX5_passesOne_52 : decode cX5_passesOne 52 = .ok (.iadd, 1) := by decide +kernel
theorem dX5_passesOne_53 : decode cX5_passesOne 53 = .ok (.dup2, 1) := by decide +kernel
theorem dX5_passesOne_54 : decode cX5_passesOne 54 = .ok (.iaload, 1) := by decide +kernel
theorem dX5_passesOne_55 : decode cX5_passesOne 55 = .ok (.aload_n 0, 1) := by decide +kernel
theorem dX5_passesOne_56 : decode cX5_passesOne 56 = .ok (.getfield 7, 3) := by decide +kernel
theorem dX5_passesOne_59 : decode cX5_passesOne 59 = .ok (.iload_n 1, 1) := by decide +kernel
theorem dX5_passesOne_60 : decode cX5_passesOne 60 = .ok (.bipush 8, 2) := by decide +kernel
theorem dX5_passesOne_62 : decode cX5_passesOne 62 = .ok (.iadd, 1) := by decide +kernel
theorem dX5_passesOne_63 : decode cX5_passesOne 63 = .ok (.iaload, 1) := by decide +kernel
theorem dX5_passesOne_64 : decode cX5_passesOne 64 = .ok (.bipush 50, 2) := by decide +kernel
theorem dX5_passesOne_66 : decode cX5_passesOne 66 = .ok (.if_icmp .ge 7, 3) := by decide +kernel
theorem dX5_passesOne_69 : decode cX5_passesOne 69 = .ok (.iconst 1, 1) := by decide +kernel
theorem dX5_passesOne_70 : decode cX5_passesOne 70 = .ok (.goto 22, 3) := by decide +kernel
theorem dX5_passesOne_73 : decode cX5_passesOne 73 = .ok (.aload_n 0, 1) := by decide +kernel
theorem dX5_passesOne_74 : decode cX5_passesOne 74 = .ok (.getfield 7, 3) := by decide +kernel
theorem dX5_passesOne_77 : decode cX5_passesOne 77 = .ok (.iload_n 1, 1) := by decide +kernel
theorem dX5_passesOne_78 : decode cX5_passesOne 78 = .ok (.bipush 8, 2) := by decide +kernel
theorem dX5_passesOne_80 : decode cX5_passesOne 80 = .ok (.iadd, 1) := by decide +kernel
theorem dX5_passesOne_81 : decode cX5_passesOne 81 = .ok (.iaload, 1) := by decide +kernel
theorem dX5_passesOne_82 : decode cX5_passesOne 82 = .ok (.bipush 50, 2) := by decide +kernel
theorem dX5_passesOne_84 : decode cX5_passesOne 84 = .ok (.if_icmp .le 7, 3) := by decide +kernel
theorem dX5_passesOne_87 : decode cX5_passesOne 87 = .ok (.iconst (-1), 1) := by decide +kernel
theorem dX5_passesOne_88 : decode cX5_passesOne 88 = .ok (.goto 4, 3) := by decide +kernel
theorem dX5_passesOne_91 : decode cX5_passesOne 91 = .ok (.iconst 0, 1) := by decide +kernel
theorem dX5_passesOne_92 : decode cX5_passesOne 92 = .ok (.iadd, 1) := by decide +kernel
theorem dX5_passesOne_93 : decode cX5_passesOne 93 = .ok (.iastore, 1) := by decide +kernel
theorem dX5_passesOne_94 : decode cX5_passesOne 94 = .ok (.aload_n 0, 1) := by decide +kernel
theorem dX5_passesOne_95 : decode cX5_passesOne 95 = .ok (.getfield 7, 3) := by decide +kernel
theorem dX5_passesOne_98 : decode cX5_passesOne 98 = .ok (.iload_n 1, 1) := by decide +kernel
theorem dX5_passesOne_99 : decode cX5_passesOne 99 = .ok (.bipush 9, 2) := by decide +kernel
theorem dX5_passesOne_101 : decode cX5_passesOne 101 = .ok (.iadd, 1) := by decide +kernel
theorem dX5_passesOne_102 : decode cX5_passesOne 102 = .ok (.iaload, 1) := by decide +kernel
theorem dX5_passesOne_103 : decode cX5_passesOne 103 = .ok (.ifCond .lt 27, 3) := by decide +kernel
theorem dX5_passesOne_106 : decode cX5_passesOne 106 = .ok (.aload_n 0, 1) := by decide +kernel
theorem dX5_passesOne_107 : decode cX5_passesOne 107 = .ok (.getfield 7, 3) := by decide +kernel
theorem dX5_passesOne_110 : decode cX5_passesOne 110 = .ok (.iload_n 1, 1) := by decide +kernel
theorem dX5_passesOne_111 : decode cX5_passesOne 111 = .ok (.aload_n 0, 1) := by decide +kernel
theorem dX5_passesOne_112 : decode cX5_passesOne 112 = .ok (.getfield 7, 3) := by decide +kernel
theorem dX5_passesOne_115 : decode cX5_passesOne 115 = .ok (.iload_n 1, 1) := by decide +kernel
theorem dX5_passesOne_116 : decode cX5_passesOne 116 = .ok (.bipush 9, 2) := by decide +kernel
theorem dX5_passesOne_118 : decode cX5_passesOne 118 = .ok (.iadd, 1) := by decide +kernel
theorem dX5_passesOne_119 : decode cX5_passesOne 119 = .ok (.iaload, 1) := by decide +kernel
theorem dX5_passesOne_120 : decode cX5_passesOne 120 = .ok (.invokestatic 34, 3) := by decide +kernel
theorem dX5_passesOne_123 : decode cX5_passesOne 123 = .ok (.iconst 5, 1) := by decide +kernel
theorem dX5_passesOne_124 : decode cX5_passesOne 124 = .ok (.iadd, 1) := by decide +kernel
theorem dX5_passesOne_125 : decode cX5_passesOne 125 = .ok (.dup2, 1) := by decide +kernel
theorem dX5_passesOne_126 : decode cX5_passesOne 126 = .ok (.iaload, 1) := by decide +kernel
theorem dX5_passesOne_127 : decode cX5_passesOne 127 = .ok (.iconst 1, 1) := by decide +kernel
theorem dX5_passesOne_128 : decode cX5_passesOne 128 = .ok (.iadd, 1) := by decide +kernel
theorem dX5_passesOne_129 : decode cX5_passesOne 129 = .ok (.iastore, 1) := by decide +kernel
theorem dX5_passesOne_130 : decode cX5_passesOne 130 = .ok (.iload_n 2, 1) := by decide +kernel
theorem dX5_passesOne_131 : decode cX5_passesOne 131 = .ok (.ireturn, 1) := by decide +kernel
theorem dX5_passes_0 : decode cX5_passes 0 = .ok (.iconst 0, 1) := by decide +kernel
theorem dX5_passes_1 : decode cX5_passes 1 = .ok (.istore_n 3, 1) := by decide +kernel
theorem dX5_passes_2 : decode cX5_passes 2 = .ok (.iconst 0, 1) := by decide +kernel
theorem dX5_passes_3 : decode cX5_passes 3 = .ok (.istore 4, 2) := by decide +kernel
theorem dX5_passes_5 : decode cX5_passes 5 = .ok (.iload 4, 2) := by decide +kernel
theorem dX5_passes_7 : decode cX5_passes 7 = .ok (.iload_n 2, 1) := by decide +kernel
theorem dX5_passes_8 : decode cX5_passes 8 = .ok (.if_icmp .ge 25, 3) := by decide +kernel
theorem dX5_passes_11 : decode cX5_passes 11 = .ok (.iload_n 3, 1) := by decide +kernel
theorem dX5_passes_12 : decode cX5_passes 12 = .ok (.aload_n 0, 1) := by decide +kernel
theorem dX5_passes_13 : decode cX5_passes 13 = .ok (.iload_n 1, 1) := by decide +kernel
theorem dX5_passes_14 : decode cX5_passes 14 = .ok (.invokevirtual 70, 3) := by decide +kernel
theorem dX5_passes_17 : decode cX5_passes 17 = .ok (.ifCond .eq 7, 3) := by decide +kernel
theorem dX5_passes_20 : decode cX5_passes 20 = .ok (.iconst 1, 1) := by decide +kernel
theorem dX5_passes_21 : decode cX5_passes 21 = .ok (.goto 4, 3) := by decide +kernel
theorem dX5_passes_24 : decode cX5_passes 24 = .ok (.iconst 0, 1) := by decide +kernel
theorem dX5_passes_25 : decode cX5_passes 25 = .ok (.iadd, 1) := by decide +kernel
theorem dX5_passes_26 : decode cX5_passes 26 = .ok (.istore_n 3, 1) := by decide +kernel
theorem dX5_passes_27 : decode cX5_passes 27 = .ok (.iinc 4 1, 3) := by decide +kernel
theorem dX5_passes_30 : decode cX5_passes 30 = .ok (.goto (-25), 3) := by decide +kernel
theorem dX5_passes_33 : decode cX5_passes 33 = .ok (.iload_n 3, 1) := by decide +kernel
theorem dX5_passes_34 : decode cX5_passes 34 = .ok (.ireturn, 1) := by decide +kernel
theorem dX5_moved_0 : decode cX5_moved 0 = .ok (.iload_n 0, 1) := by decide +kernel
theorem dX5_moved_1 : decode cX5_moved 1 = .ok (.iload_n 1, 1) := by decide +kernel
theorem dX5_moved_2 : decode cX5_moved 2 = .ok (.if_icmp .ne 5, 3) := by decide +kernel
theorem dX5_moved_5 : decode cX5_moved 5 = .ok (.iload_n 2, 1) := by decide +kernel
theorem dX5_moved_6 : decode cX5_moved 6 = .ok (.ireturn, 1) := by decide +kernel
theorem dX5_moved_7 : decode cX5_moved 7 = .ok (.iload_n 0, 1) := by decide +kernel
theorem dX5_moved_8 : decode cX5_moved 8 = .ok (.iload_n 1, 1) := by decide +kernel
theorem dX5_moved_9 : decode cX5_moved 9 = .ok (.if_icmp .le 14, 3) := by decide +kernel
theorem dX5_moved_12 : decode cX5_moved 12 = .ok (.iload_n 0, 1) := by decide +kernel
theorem dX5_moved_13 : decode cX5_moved 13 = .ok (.iload_n 2, 1) := by decide +kernel
theorem dX5_moved_14 : decode cX5_moved 14 = .ok (.if_icmp .gt 9, 3) := by decide +kernel
theorem dX5_moved_17 : decode cX5_moved 17 = .ok (.iload_n 0, 1) := by decide +kernel
theorem dX5_moved_18 : decode cX5_moved 18 = .ok (.iconst 1, 1) := by decide +kernel
theorem dX5_moved_19 : decode cX5_moved 19 = .ok (.isub, 1) := by decide +kernel
theorem dX5_moved_20 : decode cX5_moved 20 = .ok (.goto 20, 3) := by decide +kernel
theorem dX5_moved_23 : decode cX5_moved 23 = .ok (.iload_n 0, 1) := by decide +kernel
theorem dX5_moved_24 : decode cX5_moved 24 = .ok (.iload_n 1, 1) := by decide +kernel
theorem dX5_moved_25 : decode cX5_moved 25 = .ok (.if_icmp .ge 14, 3) := by decide +kernel
theorem dX5_moved_28 : decode cX5_moved 28 = .ok (.iload_n 0, 1) := by decide +kernel
theorem dX5_moved_29 : decode cX5_moved 29 = .ok (.iload_n 2, 1) := by decide +kernel
theorem dX5_moved_30 : decode cX5_moved 30 = .ok (.if_icmp .lt 9, 3) := by decide +kernel
theorem dX5_moved_33 : decode cX5_moved 33 = .ok (.iload_n 0, 1) := by decide +kernel
theorem dX5_moved_34 : decode cX5_moved 34 = .ok (.iconst 1, 1) := by decide +kernel
theorem dX5_moved_35 : decode cX5_moved 35 = .ok (.iadd, 1) := by decide +kernel
theorem dX5_moved_36 : decode cX5_moved 36 = .ok (.goto 4, 3) := by decide +kernel
theorem dX5_moved_39 : decode cX5_moved 39 = .ok (.iload_n 0, 1) := by decide +kernel
theorem dX5_moved_40 : decode cX5_moved 40 = .ok (.ireturn, 1) := by decide +kernel
theorem dX5_changesPlaces_0 : decode cX5_changesPlaces 0 = .ok (.iconst 0, 1) := by decide +kernel
theorem dX5_changesPlaces_1 : decode cX5_changesPlaces 1 = .ok (.istore 4, 2) := by decide +kernel
theorem dX5_changesPlaces_3 : decode cX5_changesPlaces 3 = .ok (.iload 4, 2) := by decide +kernel
theorem dX5_changesPlaces_5 : decode cX5_changesPlaces 5 = .ok (.bipush 6, 2) := by decide +kernel
theorem dX5_changesPlaces_7 : decode cX5_changesPlaces 7 = .ok (.if_icmp .ge 65, 3) := by decide +kernel
theorem dX5_changesPlaces_10 : decode cX5_changesPlaces 10 = .ok (.aload_n 0, 1) := by decide +kernel
theorem dX5_changesPlaces_11 : decode cX5_changesPlaces 11 = .ok (.getfield 7, 3) := by decide +kernel
theorem dX5_changesPlaces_14 : decode cX5_changesPlaces 14 = .ok (.iload_n 1, 1) := by decide +kernel
theorem dX5_changesPlaces_15 : decode cX5_changesPlaces 15 = .ok (.iload_n 2, 1) := by decide +kernel
theorem dX5_changesPlaces_16 : decode cX5_changesPlaces 16 = .ok (.invokestatic 34, 3) := by decide +kernel
theorem dX5_changesPlaces_19 : decode cX5_changesPlaces 19 = .ok (.iload 4, 2) := by decide +kernel
theorem dX5_changesPlaces_21 : decode cX5_changesPlaces 21 = .ok (.iadd, 1) := by decide +kernel
theorem dX5_changesPlaces_22 : decode cX5_changesPlaces 22 = .ok (.iaload, 1) := by decide +kernel
theorem dX5_changesPlaces_23 : decode cX5_changesPlaces 23 = .ok (.istore 5, 2) := by decide +kernel
theorem dX5_changesPlaces_25 : decode cX5_changesPlaces 25 = .ok (.aload_n 0, 1) := by decide +kernel
theorem dX5_changesPlaces_26 : decode cX5_changesPlaces 26 = .ok (.getfield 7, 3) := by decide +kernel
theorem dX5_changesPlaces_29 : decode cX5_changesPlaces 29 = .ok (.iload_n 1, 1) := by decide +kernel
theorem dX5_changesPlaces_30 : decode cX5_changesPlaces 30 = .ok (.iload_n 2, 1) := by decide +kernel
theorem dX5_changesPlaces_31 : decode cX5_changesPlaces 31 = .ok (.invokestatic 34, 3) := by decide +kernel
theorem dX5_changesPlaces_34 : decode cX5_changesPlaces 34 = .ok (.iload 4, 2) := by decide +kernel
theorem dX5_changesPlaces_36 : decode cX5_changesPlaces 36 = .ok (.iadd, 1) := by decide +kernel
theorem dX5_changesPlaces_37 : decode cX5_changesPlaces 37 = .ok (.aload_n 0, 1) := by decide +kernel
theorem dX5_changesPlaces_38 : decode cX5_changesPlaces 38 = .ok (.getfield 7, 3) := by decide +kernel
theorem dX5_changesPlaces_41 : decode cX5_changesPlaces 41 = .ok (.iload_n 1, 1) := by decide +kernel
theorem dX5_changesPlaces_42 : decode cX5_changesPlaces 42 = .ok (.iload_n 3, 1) := by decide +kernel
theorem dX5_changesPlaces_43 : decode cX5_changesPlaces 43 = .ok (.invokestatic 34, 3) := by decide +kernel
theorem dX5_changesPlaces_46 : decode cX5_changesPlaces 46 = .ok (.iload 4, 2) := by decide +kernel
theorem dX5_changesPlaces_48 : decode cX5_changesPlaces 48 = .ok (.iadd, 1) := by decide +kernel
theorem dX5_changesPlaces_49 : decode cX5_changesPlaces 49 = .ok (.iaload, 1) := by decide +kernel
theorem dX5_changesPlaces_50 : decode cX5_changesPlaces 50 = .ok (.iastore, 1) := by decide +kernel
theorem dX5_changesPlaces_51 : decode cX5_changesPlaces 51 = .ok (.aload_n 0, 1) := by decide +kernel
theorem dX5_changesPlaces_52 : decode cX5_changesPlaces 52 = .ok (.getfield 7, 3) := by decide +kernel
theorem dX5_changesPlaces_55 : decode cX5_changesPlaces 55 = .ok (.iload_n 1, 1) := by decide +kernel
theorem dX5_changesPlaces_56 : decode cX5_changesPlaces 56 = .ok (.iload_n 3, 1) := by decide +kernel
theorem dX5_changesPlaces_57 : decode cX5_changesPlaces 57 = .ok (.invokestatic 34, 3) := by decide +kernel
theorem dX5_changesPlaces_60 : decode cX5_changesPlaces 60 = .ok (.iload 4, 2) := by decide +kernel
theorem dX5_changesPlaces_62 : decode cX5_changesPlaces 62 = .ok (.iadd, 1) := by decide +kernel
theorem dX5_changesPlaces_63 : decode cX5_changesPlaces 63 = .ok (.iload 5, 2) := by decide +kernel
theorem dX5_changesPlaces_65 : decode cX5_changesPlaces 65 = .ok (.iastore, 1) := by decide +kernel
theorem dX5_changesPlaces_66 : decode cX5_changesPlaces 66 = .ok (.iinc 4 1, 3) := by decide +kernel
theorem dX5_changesPlaces_69 : decode cX5_changesPlaces 69 = .ok (.goto (-66), 3) := by decide +kernel
theorem dX5_changesPlaces_72 : decode cX5_changesPlaces 72 = .ok (.return_, 1) := by decide +kernel
theorem dX5_moves_0 : decode cX5_moves 0 = .ok (.iload_n 3, 1) := by decide +kernel
theorem dX5_moves_1 : decode cX5_moves 1 = .ok (.iload_n 2, 1) := by decide +kernel
theorem dX5_moves_2 : decode cX5_moves 2 = .ok (.if_icmp .le 7, 3) := by decide +kernel
theorem dX5_moves_5 : decode cX5_moves 5 = .ok (.iconst 1, 1) := by decide +kernel
theorem dX5_moves_6 : decode cX5_moves 6 = .ok (.goto 4, 3) := by decide +kernel
theorem dX5_moves_9 : decode cX5_moves 9 = .ok (.iconst (-1), 1) := by decide +kernel
theorem dX5_moves_10 : decode cX5_moves 10 = .ok (.istore 4, 2) := by decide +kernel
theorem dX5_moves_12 : decode cX5_moves 12 = .ok (.iload_n 2, 1) := by decide +kernel
theorem dX5_moves_13 : decode cX5_moves 13 = .ok (.istore 5, 2) := by decide +kernel
theorem dX5_moves_15 : decode cX5_moves 15 = .ok (.iload 5, 2) := by decide +kernel
theorem dX5_moves_17 : decode cX5_moves 17 = .ok (.iload_n 3, 1) := by decide +kernel
theorem dX5_moves_18 : decode cX5_moves 18 = .ok (.if_icmp .eq 25, 3) := by decide +kernel
theorem dX5_moves_21 : decode cX5_moves 21 = .ok (.aload_n 0, 1) := by decide +kernel
theorem dX5_moves_22 : decode cX5_moves 22 = .ok (.iload_n 1, 1) := by decide +kernel
theorem dX5_moves_23 : decode cX5_moves 23 = .ok (.iload 5, 2) := by decide +kernel
theorem dX5_moves_25 : decode cX5_moves 25 = .ok (.iload 5, 2) := by decide +kernel
theorem dX5_moves_27 : decode cX5_moves 27 = .ok (.iload 4, 2) := by decide +kernel
theorem dX5_moves_29 : decode cX5_moves 29 = .ok (.iadd, 1) := by decide +kernel
theorem dX5_moves_30 : decode cX5_moves 30 = .ok (.invokevirtual 73, 3) := by decide +kernel
theorem dX5_moves_33 : decode cX5_moves 33 = .ok (.iload 5, 2) := by decide +kernel
theorem dX5_moves_35 : decode cX5_moves 35 = .ok (.iload 4, 2) := by decide +kernel
theorem dX5_moves_37 : decode cX5_moves 37 = .ok (.iadd, 1) := by decide +kernel
theorem dX5_moves_38 : decode cX5_moves 38 = .ok (.istore 5, 2) := by decide +kernel
theorem dX5_moves_40 : decode cX5_moves 40 = .ok (.goto (-25), 3) := by decide +kernel
theorem dX5_moves_43 : decode cX5_moves 43 = .ok (.aload_n 0, 1) := by decide +kernel
theorem dX5_moves_44 : decode cX5_moves 44 = .ok (.getfield 7, 3) := by decide +kernel
theorem dX5_moves_47 : decode cX5_moves 47 = .ok (.iload_n 1, 1) := by decide +kernel
theorem dX5_moves_48 : decode cX5_moves 48 = .ok (.bipush 9, 2) := by decide +kernel
theorem dX5_moves_50 : decode cX5_moves 50 = .ok (.iadd, 1) := by decide +kernel
theorem dX5_moves_51 : decode cX5_moves 51 = .ok (.aload_n 0, 1) := by decide +kernel
theorem dX5_moves_52 : decode cX5_moves 52 = .ok (.getfield 7, 3) := by decide +kernel
theorem dX5_moves_55 : decode cX5_moves 55 = .ok (.iload_n 1, 1) := by decide +kernel
theorem dX5_moves_56 : decode cX5_moves 56 = .ok (.bipush 9, 2) := by decide +kernel
theorem dX5_moves_58 : decode cX5_moves 58 = .ok (.iadd, 1) := by decide +kernel
theorem dX5_moves_59 : decode cX5_moves 59 = .ok (.iaload, 1) := by decide +kernel
theorem dX5_moves_60 : decode cX5_moves 60 = .ok (.ifCond .ge 7, 3) := by decide +kernel
theorem dX5_moves_63 : decode cX5_moves 63 = .ok (.iconst (-1), 1) := by decide +kernel
theorem dX5_moves_64 : decode cX5_moves 64 = .ok (.goto 17, 3) := by decide +kernel
theorem dX5_moves_67 : decode cX5_moves 67 = .ok (.aload_n 0, 1) := by decide +kernel
theorem dX5_moves_68 : decode cX5_moves 68 = .ok (.getfield 7, 3) := by decide +kernel
theorem dX5_moves_71 : decode cX5_moves 71 = .ok (.iload_n 1, 1) := by decide +kernel
theorem dX5_moves_72 : decode cX5_moves 72 = .ok (.bipush 9, 2) := by decide +kernel
theorem dX5_moves_74 : decode cX5_moves 74 = .ok (.iadd, 1) := by decide +kernel
theorem dX5_moves_75 : decode cX5_moves 75 = .ok (.iaload, 1) := by decide +kernel
theorem dX5_moves_76 : decode cX5_moves 76 = .ok (.iload_n 2, 1) := by decide +kernel
theorem dX5_moves_77 : decode cX5_moves 77 = .ok (.iload_n 3, 1) := by decide +kernel
theorem dX5_moves_78 : decode cX5_moves 78 = .ok (.invokestatic 77, 3) := by decide +kernel
theorem dX5_moves_81 : decode cX5_moves 81 = .ok (.iastore, 1) := by decide +kernel
theorem dX5_moves_82 : decode cX5_moves 82 = .ok (.aload_n 0, 1) := by decide +kernel
theorem dX5_moves_83 : decode cX5_moves 83 = .ok (.getfield 7, 3) := by decide +kernel
theorem dX5_moves_86 : decode cX5_moves 86 = .ok (.iload_n 1, 1) := by decide +kernel
theorem dX5_moves_87 : decode cX5_moves 87 = .ok (.bipush 10, 2) := by decide +kernel
theorem dX5_moves_89 : decode cX5_moves 89 = .ok (.iadd, 1) := by decide +kernel
theorem dX5_moves_90 : decode cX5_moves 90 = .ok (.aload_n 0, 1) := by decide +kernel
theorem dX5_moves_91 : decode cX5_moves 91 = .ok (.getfield 7, 3) := by decide +kernel
theorem dX5_moves_94 : decode cX5_moves 94 = .ok (.iload_n 1, 1) := by decide +kernel
theorem dX5_moves_95 : decode cX5_moves 95 = .ok (.bipush 10, 2) := by decide +kernel
theorem dX5_moves_97 : decode cX5_moves 97 = .ok (.iadd, 1) := by decide +kernel
theorem dX5_moves_98 : decode cX5_moves 98 = .ok (.iaload, 1) := by decide +kernel
theorem dX5_moves_99 : decode cX5_moves 99 = .ok (.iload_n 2, 1) := by decide +kernel
theorem dX5_moves_100 : decode cX5_moves 100 = .ok (.iload_n 3, 1) := by decide +kernel
theorem dX5_moves_101 : decode cX5_moves 101 = .ok (.invokestatic 77, 3) := by decide +kernel
theorem dX5_moves_104 : decode cX5_moves 104 = .ok (.iastore, 1) := by decide +kernel
theorem dX5_moves_105 : decode cX5_moves 105 = .ok (.return_, 1) := by decide +kernel
theorem dX5_lowOf_0 : decode cX5_lowOf 0 = .ok (.iload_n 0, 1) := by decide +kernel
theorem dX5_lowOf_1 : decode cX5_lowOf 1 = .ok (.ifCond .eq 8, 3) := by decide +kernel
theorem dX5_lowOf_4 : decode cX5_lowOf 4 = .ok (.iload_n 0, 1) := by decide +kernel
theorem dX5_lowOf_5 : decode cX5_lowOf 5 = .ok (.iconst 4, 1) := by decide +kernel
theorem dX5_lowOf_6 : decode cX5_lowOf 6 = .ok (.if_icmp .ne 7, 3) := by decide +kernel
theorem dX5_lowOf_9 : decode cX5_lowOf 9 = .ok (.iconst 1, 1) := by decide +kernel
theorem dX5_lowOf_10 : decode cX5_lowOf 10 = .ok (.goto 13, 3) := by decide +kernel
theorem dX5_lowOf_13 : decode cX5_lowOf 13 = .ok (.iload_n 0, 1) := by decide +kernel
theorem dX5_lowOf_14 : decode cX5_lowOf 14 = .ok (.iconst 3, 1) := by decide +kernel
theorem dX5_lowOf_15 : decode cX5_lowOf 15 = .ok (.if_icmp .ne 7, 3) := by decide +kernel
theorem dX5_lowOf_18 : decode cX5_lowOf 18 = .ok (.iconst 5, 1) := by decide +kernel
theorem dX5_lowOf_19 : decode cX5_lowOf 19 = .ok (.goto 4, 3) := by decide +kernel
theorem dX5_lowOf_22 : decode cX5_lowOf 22 = .ok (.iconst 0, 1) := by decide +kernel
theorem dX5_lowOf_23 : decode cX5_lowOf 23 = .ok (.ireturn, 1) := by decide +kernel
theorem dX5_highOf_0 : decode cX5_highOf 0 = .ok (.iload_n 0, 1) := by decide +kernel
theorem dX5_highOf_1 : decode cX5_highOf 1 = .ok (.tableswitch 43 2 5 #[31, 34, 37, 40], 31) := by decide +kernel
theorem dX5_highOf_32 : decode cX5_highOf 32 = .ok (.bipush 99, 2) := by decide +kernel
theorem dX5_highOf_34 : decode cX5_highOf 34 = .ok (.ireturn, 1) := by decide +kernel
theorem dX5_highOf_35 : decode cX5_highOf 35 = .ok (.bipush 40, 2) := by decide +kernel
theorem dX5_highOf_37 : decode cX5_highOf 37 = .ok (.ireturn, 1) := by decide +kernel
theorem dX5_highOf_38 : decode cX5_highOf 38 = .ok (.bipush 9, 2) := by decide +kernel
theorem dX5_highOf_40 : decode cX5_highOf 40 = .ok (.ireturn, 1) := by decide +kernel
theorem dX5_highOf_41 : decode cX5_highOf 41 = .ok (.bipush 60, 2) := by decide +kernel
theorem dX5_highOf_43 : decode cX5_highOf 43 = .ok (.ireturn, 1) := by decide +kernel
theorem dX5_highOf_44 : decode cX5_highOf 44 = .ok (.sipush 200, 3) := by decide +kernel
theorem dX5_highOf_47 : decode cX5_highOf 47 = .ok (.ireturn, 1) := by decide +kernel
theorem dX5_set_0 : decode cX5_set 0 = .ok (.iload_n 1, 1) := by decide +kernel
theorem dX5_set_1 : decode cX5_set 1 = .ok (.iconst 0, 1) := by decide +kernel
theorem dX5_set_2 : decode cX5_set 2 = .ok (.iconst 5, 1) := by decide +kernel
theorem dX5_set_3 : decode cX5_set 3 = .ok (.invokestatic 26, 3) := by decide +kernel
theorem dX5_set_6 : decode cX5_set 6 = .ok (.ifCond .eq 18, 3) := by decide +kernel
theorem dX5_set_9 : decode cX5_set 9 = .ok (.iload_n 2, 1) := by decide +kernel
theorem dX5_set_10 : decode cX5_set 10 = .ok (.iload_n 1, 1) := by decide +kernel
theorem dX5_set_11 : decode cX5_set 11 = .ok (.invokestatic 81, 3) := by decide +kernel
theorem dX5_set_14 : decode cX5_set 14 = .ok (.iload_n 1, 1) := by decide +kernel
theorem dX5_set_15 : decode cX5_set 15 = .ok (.invokestatic 84, 3) := by decide +kernel
theorem dX5_set_18 : decode cX5_set 18 = .ok (.invokestatic 26, 3) := by decide +kernel
theorem dX5_set_21 : decode cX5_set 21 = .ok (.ifCond .ne 6, 3) := by decide +kernel
theorem dX5_set_24 : decode cX5_set 24 = .ok (.bipush (-2), 2) := by decide +kernel
theorem dX5_set_26 : decode cX5_set 26 = .ok (.ireturn, 1) := by decide +kernel
theorem dX5_set_27 : decode cX5_set 27 = .ok (.aload_n 0, 1) := by decide +kernel
theorem dX5_set_28 : decode cX5_set 28 = .ok (.invokevirtual 87, 3) := by decide +kernel
theorem dX5_set_31 : decode cX5_set 31 = .ok (.aload_n 0, 1) := by decide +kernel
theorem dX5_set_32 : decode cX5_set 32 = .ok (.getfield 7, 3) := by decide +kernel
theorem dX5_set_35 : decode cX5_set 35 = .ok (.iload_n 1, 1) := by decide +kernel
theorem dX5_set_36 : decode cX5_set 36 = .ok (.iaload, 1) := by decide +kernel
theorem dX5_set_37 : decode cX5_set 37 = .ok (.istore_n 3, 1) := by decide +kernel
theorem dX5_set_38 : decode cX5_set 38 = .ok (.aload_n 0, 1) := by decide +kernel
theorem dX5_set_39 : decode cX5_set 39 = .ok (.getfield 7, 3) := by decide +kernel
theorem dX5_set_42 : decode cX5_set 42 = .ok (.iload_n 1, 1) := by decide +kernel
theorem dX5_set_43 : decode cX5_set 43 = .ok (.iload_n 2, 1) := by decide +kernel
theorem dX5_set_44 : decode cX5_set 44 = .ok (.iastore, 1) := by decide +kernel
theorem dX5_set_45 : decode cX5_set 45 = .ok (.iload_n 3, 1) := by decide +kernel
theorem dX5_set_46 : decode cX5_set 46 = .ok (.ireturn, 1) := by decide +kernel
theorem dX5_comes_0 : decode cX5_comes 0 = .ok (.iconst 0, 1) := by decide +kernel
theorem dX5_comes_1 : decode cX5_comes 1 = .ok (.aload_n 0, 1) := by decide +kernel
theorem dX5_comes_2 : decode cX5_comes 2 = .ok (.getfield 7, 3) := by decide +kernel
theorem dX5_comes_5 : decode cX5_comes 5 = .ok (.bipush 7, 2) := by decide +kernel
theorem dX5_comes_7 : decode cX5_comes 7 = .ok (.iaload, 1) := by decide +kernel
theorem dX5_comes_8 : decode cX5_comes 8 = .ok (.invokestatic 34, 3) := by decide +kernel
theorem dX5_comes_11 : decode cX5_comes 11 = .ok (.istore_n 3, 1) := by decide +kernel
theorem dX5_comes_12 : decode cX5_comes 12 = .ok (.iconst 0, 1) := by decide +kernel
theorem dX5_comes_13 : decode cX5_comes 13 = .ok (.istore 4, 2) := by decide +kernel
theorem dX5_comes_15 : decode cX5_comes 15 = .ok (.iload 4, 2) := by decide +kernel
theorem dX5_comes_17 : decode cX5_comes 17 = .ok (.bipush 6, 2) := by decide +kernel
theorem dX5_comes_19 : decode cX5_comes 19 = .ok (.if_icmp .ge 19, 3) := by decide +kernel
theorem dX5_comes_22 : decode cX5_comes 22 = .ok (.aload_n 0, 1) := by decide +kernel
theorem dX5_comes_23 : decode cX5_comes 23 = .ok (.getfield 7, 3) := by decide +kernel
theorem dX5_comes_26 : decode cX5_comes 26 = .ok (.iload_n 3, 1) := by decide +kernel
theorem dX5_comes_27 : decode cX5_comes 27 = .ok (.iload 4, 2) := by decide +kernel
theorem dX5_comes_29 : decode cX5_comes 29 = .ok (.iadd, 1) := by decide +kernel
theorem dX5_comes_30 : decode cX5_comes 30 = .ok (.iconst 0, 1) := by decide +kernel
theorem dX5_comes_31 : decode cX5_comes 31 = .ok (.iastore, 1) := by decide +kernel
theorem dX5_comes_32 : decode cX5_comes 32 = .ok (.iinc 4 1, 3) := by decide +kernel
theorem dX5_comes_35 : decode cX5_comes 35 = .ok (.goto (-20), 3) := by decide +kernel
theorem dX5_comes_38 : decode cX5_comes 38 = .ok (.aload_n 0, 1) := by decide +kernel
theorem dX5_comes_39 : decode cX5_comes 39 = .ok (.getfield 7, 3) := by decide +kernel
theorem dX5_comes_42 : decode cX5_comes 42 = .ok (.iload_n 3, 1) := by decide +kernel
theorem dX5_comes_43 : decode cX5_comes 43 = .ok (.iconst 0, 1) := by decide +kernel
theorem dX5_comes_44 : decode cX5_comes 44 = .ok (.iadd, 1) := by decide +kernel
theorem dX5_comes_45 : decode cX5_comes 45 = .ok (.iload_n 1, 1) := by decide +kernel
theorem dX5_comes_46 : decode cX5_comes 46 = .ok (.iastore, 1) := by decide +kernel
theorem dX5_comes_47 : decode cX5_comes 47 = .ok (.aload_n 0, 1) := by decide +kernel
theorem dX5_comes_48 : decode cX5_comes 48 = .ok (.getfield 7, 3) := by decide +kernel
theorem dX5_comes_51 : decode cX5_comes 51 = .ok (.iload_n 3, 1) := by decide +kernel
theorem dX5_comes_52 : decode cX5_comes 52 = .ok (.iconst 1, 1) := by decide +kernel
theorem dX5_comes_53 : decode cX5_comes 53 = .ok (.iadd, 1) := by decide +kernel
theorem dX5_comes_54 : decode cX5_comes 54 = .ok (.iload_n 2, 1) := by decide +kernel
theorem dX5_comes_55 : decode cX5_comes 55 = .ok (.iastore, 1) := by decide +kernel
theorem dX5_comes_56 : decode cX5_comes 56 = .ok (.aload_n 0, 1) := by decide +kernel
theorem dX5_comes_57 : decode cX5_comes 57 = .ok (.getfield 7, 3) := by decide +kernel
theorem dX5_comes_60 : decode cX5_comes 60 = .ok (.bipush 7, 2) := by decide +kernel
theorem dX5_comes_62 : decode cX5_comes 62 = .ok (.dup2, 1) := by decide +kernel
theorem dX5_comes_63 : decode cX5_comes 63 = .ok (.iaload, 1) := by decide +kernel
theorem dX5_comes_64 : decode cX5_comes 64 = .ok (.iconst 1, 1) := by decide +kernel
theorem dX5_comes_65 : decode cX5_comes 65 = .ok (.iadd, 1) := by decide +kernel
theorem dX5_comes_66 : decode cX5_comes 66 = .ok (.iastore, 1) := by decide +kernel
theorem dX5_comes_67 : decode cX5_comes 67 = .ok (.return_, 1) := by decide +kernel
theorem dX5_add_0 : decode cX5_add 0 = .ok (.iload_n 1, 1) := by decide +kernel
theorem dX5_add_1 : decode cX5_add 1 = .ok (.iconst 1, 1) := by decide +kernel
theorem dX5_add_2 : decode cX5_add 2 = .ok (.bipush 9, 2) := by decide +kernel
theorem dX5_add_4 : decode cX5_add 4 = .ok (.invokestatic 26, 3) := by decide +kernel
theorem dX5_add_7 : decode cX5_add 7 = .ok (.ifCond .eq 13, 3) := by decide +kernel
theorem dX5_add_10 : decode cX5_add 10 = .ok (.iload_n 2, 1) := by decide +kernel
theorem dX5_add_11 : decode cX5_add 11 = .ok (.iconst 0, 1) := by decide +kernel
theorem dX5_add_12 : decode cX5_add 12 = .ok (.bipush 100, 2) := by decide +kernel
theorem dX5_add_14 : decode cX5_add 14 = .ok (.invokestatic 26, 3) := by decide +kernel
theorem dX5_add_17 : decode cX5_add 17 = .ok (.ifCond .ne 6, 3) := by decide +kernel
theorem dX5_add_20 : decode cX5_add 20 = .ok (.bipush (-2), 2) := by decide +kernel
theorem dX5_add_22 : decode cX5_add 22 = .ok (.ireturn, 1) := by decide +kernel
theorem dX5_add_23 : decode cX5_add 23 = .ok (.aload_n 0, 1) := by decide +kernel
theorem dX5_add_24 : decode cX5_add 24 = .ok (.getfield 7, 3) := by decide +kernel
theorem dX5_add_27 : decode cX5_add 27 = .ok (.bipush 7, 2) := by decide +kernel
theorem dX5_add_29 : decode cX5_add 29 = .ok (.iaload, 1) := by decide +kernel
theorem dX5_add_30 : decode cX5_add 30 = .ok (.bipush 8, 2) := by decide +kernel
theorem dX5_add_32 : decode cX5_add 32 = .ok (.if_icmp .ne 6, 3) := by decide +kernel
theorem dX5_add_35 : decode cX5_add 35 = .ok (.bipush (-4), 2) := by decide +kernel
theorem dX5_add_37 : decode cX5_add 37 = .ok (.ireturn, 1) := by decide +kernel
theorem dX5_add_38 : decode cX5_add 38 = .ok (.aload_n 0, 1) := by decide +kernel
theorem dX5_add_39 : decode cX5_add 39 = .ok (.invokevirtual 87, 3) := by decide +kernel
theorem dX5_add_42 : decode cX5_add 42 = .ok (.aload_n 0, 1) := by decide +kernel
theorem dX5_add_43 : decode cX5_add 43 = .ok (.iload_n 1, 1) := by decide +kernel
theorem dX5_add_44 : decode cX5_add 44 = .ok (.iload_n 2, 1) := by decide +kernel
theorem dX5_add_45 : decode cX5_add 45 = .ok (.invokevirtual 90, 3) := by decide +kernel
theorem dX5_add_48 : decode cX5_add 48 = .ok (.aload_n 0, 1) := by decide +kernel
theorem dX5_add_49 : decode cX5_add 49 = .ok (.getfield 7, 3) := by decide +kernel
theorem dX5_add_52 : decode cX5_add 52 = .ok (.bipush 7, 2) := by decide +kernel
theorem dX5_add_54 : decode cX5_add 54 = .ok (.iaload, 1) := by decide +kernel
theorem dX5_add_55 : decode cX5_add 55 = .ok (.iconst 1, 1) := by decide +kernel
theorem dX5_add_56 : decode cX5_add 56 = .ok (.isub, 1) := by decide +kernel
theorem dX5_add_57 : decode cX5_add 57 = .ok (.ireturn, 1) := by decide +kernel
theorem dX5_move_0 : decode cX5_move 0 = .ok (.aload_n 0, 1) := by decide +kernel
theorem dX5_move_1 : decode cX5_move 1 = .ok (.iload_n 1, 1) := by decide +kernel
theorem dX5_move_2 : decode cX5_move 2 = .ok (.invokevirtual 93, 3) := by decide +kernel
theorem dX5_move_5 : decode cX5_move 5 = .ok (.ifCond .eq 11, 3) := by decide +kernel
theorem dX5_move_8 : decode cX5_move 8 = .ok (.aload_n 0, 1) := by decide +kernel
theorem dX5_move_9 : decode cX5_move 9 = .ok (.iload_n 2, 1) := by decide +kernel
theorem dX5_move_10 : decode cX5_move 10 = .ok (.invokevirtual 93, 3) := by decide +kernel
theorem dX5_move_13 : decode cX5_move 13 = .ok (.ifCond .ne 5, 3) := by decide +kernel
theorem dX5_move_16 : decode cX5_move 16 = .ok (.iconst (-1), 1) := by decide +kernel
theorem dX5_move_17 : decode cX5_move 17 = .ok (.ireturn, 1) := by decide +kernel
theorem dX5_move_18 : decode cX5_move 18 = .ok (.aload_n 0, 1) := by decide +kernel
theorem dX5_move_19 : decode cX5_move 19 = .ok (.invokevirtual 87, 3) := by decide +kernel
theorem dX5_move_22 : decode cX5_move 22 = .ok (.aload_n 0, 1) := by decide +kernel
theorem dX5_move_23 : decode cX5_move 23 = .ok (.iconst 0, 1) := by decide +kernel
theorem dX5_move_24 : decode cX5_move 24 = .ok (.iload_n 1, 1) := by decide +kernel
theorem dX5_move_25 : decode cX5_move 25 = .ok (.iload_n 2, 1) := by decide +kernel
theorem dX5_move_26 : decode cX5_move 26 = .ok (.invokevirtual 96, 3) := by decide +kernel
theorem dX5_move_29 : decode cX5_move 29 = .ok (.iload_n 1, 1) := by decide +kernel
theorem dX5_move_30 : decode cX5_move 30 = .ok (.iload_n 2, 1) := by decide +kernel
theorem dX5_move_31 : decode cX5_move 31 = .ok (.if_icmp .ge 9, 3) := by decide +kernel
theorem dX5_move_34 : decode cX5_move 34 = .ok (.iload_n 2, 1) := by decide +kernel
theorem dX5_move_35 : decode cX5_move 35 = .ok (.iload_n 1, 1) := by decide +kernel
theorem dX5_move_36 : decode cX5_move 36 = .ok (.isub, 1) := by decide +kernel
theorem dX5_move_37 : decode cX5_move 37 = .ok (.goto 6, 3) := by decide +kernel
theorem dX5_move_40 : decode cX5_move 40 = .ok (.iload_n 1, 1) := by decide +kernel
theorem dX5_move_41 : decode cX5_move 41 = .ok (.iload_n 2, 1) := by decide +kernel
theorem dX5_move_42 : decode cX5_move 42 = .ok (.isub, 1) := by decide +kernel
theorem dX5_move_43 : decode cX5_move 43 = .ok (.istore_n 3, 1) := by decide +kernel
theorem dX5_move_44 : decode cX5_move 44 = .ok (.iload_n 3, 1) := by decide +kernel
theorem dX5_move_45 : decode cX5_move 45 = .ok (.ifCond .ne 7, 3) := by decide +kernel
theorem dX5_move_48 : decode cX5_move 48 = .ok (.iconst 0, 1) := by decide +kernel
theorem dX5_move_49 : decode cX5_move 49 = .ok (.goto 6, 3) := by decide +kernel
theorem dX5_move_52 : decode cX5_move 52 = .ok (.iload_n 3, 1) := by decide +kernel
theorem dX5_move_53 : decode cX5_move 53 = .ok (.iconst 1, 1) := by decide +kernel
theorem dX5_move_54 : decode cX5_move 54 = .ok (.iadd, 1) := by decide +kernel
theorem dX5_move_55 : decode cX5_move 55 = .ok (.ireturn, 1) := by decide +kernel
theorem dX5_stepDown_0 : decode cX5_stepDown 0 = .ok (.aload_n 0, 1) := by decide +kernel
theorem dX5_stepDown_1 : decode cX5_stepDown 1 = .ok (.getfield 7, 3) := by decide +kernel
theorem dX5_stepDown_4 : decode cX5_stepDown 4 = .ok (.bipush 9, 2) := by decide +kernel
theorem dX5_stepDown_6 : decode cX5_stepDown 6 = .ok (.iaload, 1) := by decide +kernel
theorem dX5_stepDown_7 : decode cX5_stepDown 7 = .ok (.istore_n 1, 1) := by decide +kernel
theorem dX5_stepDown_8 : decode cX5_stepDown 8 = .ok (.iload_n 1, 1) := by decide +kernel
theorem dX5_stepDown_9 : decode cX5_stepDown 9 = .ok (.ifCond .ge 6, 3) := by decide +kernel
theorem dX5_stepDown_12 : decode cX5_stepDown 12 = .ok (.bipush (-5), 2) := by decide +kernel
theorem dX5_stepDown_14 : decode cX5_stepDown 14 = .ok (.ireturn, 1) := by decide +kernel
theorem dX5_stepDown_15 : decode cX5_stepDown 15 = .ok (.aload_n 0, 1) := by decide +kernel
theorem dX5_stepDown_16 : decode cX5_stepDown 16 = .ok (.invokevirtual 87, 3) := by decide +kernel
theorem dX5_stepDown_19 : decode cX5_stepDown 19 = .ok (.aload_n 0, 1) := by decide +kernel
theorem dX5_stepDown_20 : decode cX5_stepDown 20 = .ok (.getfield 7, 3) := by decide +kernel
theorem dX5_stepDown_23 : decode cX5_stepDown 23 = .ok (.bipush 9, 2) := by decide +kernel
theorem dX5_stepDown_25 : decode cX5_stepDown 25 = .ok (.iconst (-1), 1) := by decide +kernel
theorem dX5_stepDown_26 : decode cX5_stepDown 26 = .ok (.iastore, 1) := by decide +kernel
theorem dX5_stepDown_27 : decode cX5_stepDown 27 = .ok (.aload_n 0, 1) := by decide +kernel
theorem dX5_stepDown_28 : decode cX5_stepDown 28 = .ok (.getfield 7, 3) := by decide +kernel
theorem dX5_stepDown_31 : decode cX5_stepDown 31 = .ok (.bipush 10, 2) := by decide +kernel
theorem dX5_stepDown_33 : decode cX5_stepDown 33 = .ok (.aload_n 0, 1) := by decide +kernel
theorem dX5_stepDown_34 : decode cX5_stepDown 34 = .ok (.iconst 0, 1) := by decide +kernel
theorem dX5_stepDown_35 : decode cX5_stepDown 35 = .ok (.iload_n 1, 1) := by decide +kernel
theorem dX5_stepDown_36 : decode cX5_stepDown 36 = .ok (.invokevirtual 53, 3) := by decide +kernel
theorem dX5_stepDown_39 : decode cX5_stepDown 39 = .ok (.iastore, 1) := by decide +kernel
theorem dX5_stepDown_40 : decode cX5_stepDown 40 = .ok (.iload_n 1, 1) := by decide +kernel
theorem dX5_stepDown_41 : decode cX5_stepDown 41 = .ok (.ireturn, 1) := by decide +kernel
theorem dX5_canAppeal_0 : decode cX5_canAppeal 0 = .ok (.aload_n 0, 1) := by decide +kernel
theorem dX5_canAppeal_1 : decode cX5_canAppeal 1 = .ok (.getfield 7, 3) := by decide +kernel
theorem dX5_canAppeal_4 : decode cX5_canAppeal 4 = .ok (.bipush 9, 2) := by decide +kernel
theorem dX5_canAppeal_6 : decode cX5_canAppeal 6 = .ok (.iaload, 1) := by decide +kernel
theorem dX5_canAppeal_7 : decode cX5_canAppeal 7 = .ok (.ifCond .lt 27, 3) := by decide +kernel
theorem dX5_canAppeal_10 : decode cX5_canAppeal 10 = .ok (.aload_n 0, 1) := by decide +kernel
theorem dX5_canAppeal_11 : decode cX5_canAppeal 11 = .ok (.getfield 7, 3) := by decide +kernel
theorem dX5_canAppeal_14 : decode cX5_canAppeal 14 = .ok (.bipush 9, 2) := by decide +kernel
theorem dX5_canAppeal_16 : decode cX5_canAppeal 16 = .ok (.iaload, 1) := by decide +kernel
theorem dX5_canAppeal_17 : decode cX5_canAppeal 17 = .ok (.iload_n 1, 1) := by decide +kernel
theorem dX5_canAppeal_18 : decode cX5_canAppeal 18 = .ok (.if_icmp .eq 16, 3) := by decide +kernel
theorem dX5_canAppeal_21 : decode cX5_canAppeal 21 = .ok (.aload_n 0, 1) := by decide +kernel
theorem dX5_canAppeal_22 : decode cX5_canAppeal 22 = .ok (.iconst 0, 1) := by decide +kernel
theorem dX5_canAppeal_23 : decode cX5_canAppeal 23 = .ok (.iload_n 1, 1) := by decide +kernel
theorem dX5_canAppeal_24 : decode cX5_canAppeal 24 = .ok (.invokevirtual 38, 3) := by decide +kernel
theorem dX5_canAppeal_27 : decode cX5_canAppeal 27 = .ok (.ifCond .ne 7, 3) := by decide +kernel
theorem dX5_canAppeal_30 : decode cX5_canAppeal 30 = .ok (.iconst 1, 1) := by decide +kernel
theorem dX5_canAppeal_31 : decode cX5_canAppeal 31 = .ok (.goto 4, 3) := by decide +kernel
theorem dX5_canAppeal_34 : decode cX5_canAppeal 34 = .ok (.iconst 0, 1) := by decide +kernel
theorem dX5_canAppeal_35 : decode cX5_canAppeal 35 = .ok (.istore_n 2, 1) := by decide +kernel
theorem dX5_canAppeal_36 : decode cX5_canAppeal 36 = .ok (.iload_n 2, 1) := by decide +kernel
