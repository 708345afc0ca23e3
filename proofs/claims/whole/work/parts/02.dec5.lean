theorem dX5_canAppeal_37 : decode cX5_canAppeal 37 = .ok (.ifCond .eq 28, 3) := by decide +kernel
theorem dX5_canAppeal_40 : decode cX5_canAppeal 40 = .ok (.aload_n 0, 1) := by decide +kernel
theorem dX5_canAppeal_41 : decode cX5_canAppeal 41 = .ok (.getfield 7, 3) := by decide +kernel
theorem dX5_canAppeal_44 : decode cX5_canAppeal 44 = .ok (.iconst 0, 1) := by decide +kernel
theorem dX5_canAppeal_45 : decode cX5_canAppeal 45 = .ok (.iload_n 1, 1) := by decide +kernel
theorem dX5_canAppeal_46 : decode cX5_canAppeal 46 = .ok (.invokestatic 34, 3) := by decide +kernel
theorem dX5_canAppeal_49 : decode cX5_canAppeal 49 = .ok (.iconst 3, 1) := by decide +kernel
theorem dX5_canAppeal_50 : decode cX5_canAppeal 50 = .ok (.iadd, 1) := by decide +kernel
theorem dX5_canAppeal_51 : decode cX5_canAppeal 51 = .ok (.iaload, 1) := by decide +kernel
theorem dX5_canAppeal_52 : decode cX5_canAppeal 52 = .ok (.aload_n 0, 1) := by decide +kernel
theorem dX5_canAppeal_53 : decode cX5_canAppeal 53 = .ok (.getfield 7, 3) := by decide +kernel
theorem dX5_canAppeal_56 : decode cX5_canAppeal 56 = .ok (.iconst 2, 1) := by decide +kernel
theorem dX5_canAppeal_57 : decode cX5_canAppeal 57 = .ok (.iaload, 1) := by decide +kernel
theorem dX5_canAppeal_58 : decode cX5_canAppeal 58 = .ok (.if_icmp .lt 7, 3) := by decide +kernel
theorem dX5_canAppeal_61 : decode cX5_canAppeal 61 = .ok (.iconst 1, 1) := by decide +kernel
theorem dX5_canAppeal_62 : decode cX5_canAppeal 62 = .ok (.goto 4, 3) := by decide +kernel
theorem dX5_canAppeal_65 : decode cX5_canAppeal 65 = .ok (.iconst 0, 1) := by decide +kernel
theorem dX5_canAppeal_66 : decode cX5_canAppeal 66 = .ok (.ireturn, 1) := by decide +kernel
theorem dX5_appeal_0 : decode cX5_appeal 0 = .ok (.aload_n 0, 1) := by decide +kernel
theorem dX5_appeal_1 : decode cX5_appeal 1 = .ok (.iload_n 1, 1) := by decide +kernel
theorem dX5_appeal_2 : decode cX5_appeal 2 = .ok (.invokevirtual 93, 3) := by decide +kernel
theorem dX5_appeal_5 : decode cX5_appeal 5 = .ok (.ifCond .ne 5, 3) := by decide +kernel
theorem dX5_appeal_8 : decode cX5_appeal 8 = .ok (.iconst (-1), 1) := by decide +kernel
theorem dX5_appeal_9 : decode cX5_appeal 9 = .ok (.ireturn, 1) := by decide +kernel
theorem dX5_appeal_10 : decode cX5_appeal 10 = .ok (.aload_n 0, 1) := by decide +kernel
theorem dX5_appeal_11 : decode cX5_appeal 11 = .ok (.iload_n 1, 1) := by decide +kernel
theorem dX5_appeal_12 : decode cX5_appeal 12 = .ok (.invokevirtual 99, 3) := by decide +kernel
theorem dX5_appeal_15 : decode cX5_appeal 15 = .ok (.ifCond .ne 6, 3) := by decide +kernel
theorem dX5_appeal_18 : decode cX5_appeal 18 = .ok (.bipush (-5), 2) := by decide +kernel
theorem dX5_appeal_20 : decode cX5_appeal 20 = .ok (.ireturn, 1) := by decide +kernel
theorem dX5_appeal_21 : decode cX5_appeal 21 = .ok (.aload_n 0, 1) := by decide +kernel
theorem dX5_appeal_22 : decode cX5_appeal 22 = .ok (.invokevirtual 87, 3) := by decide +kernel
theorem dX5_appeal_25 : decode cX5_appeal 25 = .ok (.aload_n 0, 1) := by decide +kernel
theorem dX5_appeal_26 : decode cX5_appeal 26 = .ok (.getfield 7, 3) := by decide +kernel
theorem dX5_appeal_29 : decode cX5_appeal 29 = .ok (.iconst 0, 1) := by decide +kernel
theorem dX5_appeal_30 : decode cX5_appeal 30 = .ok (.iload_n 1, 1) := by decide +kernel
theorem dX5_appeal_31 : decode cX5_appeal 31 = .ok (.invokestatic 34, 3) := by decide +kernel
theorem dX5_appeal_34 : decode cX5_appeal 34 = .ok (.iconst 3, 1) := by decide +kernel
theorem dX5_appeal_35 : decode cX5_appeal 35 = .ok (.iadd, 1) := by decide +kernel
theorem dX5_appeal_36 : decode cX5_appeal 36 = .ok (.dup2, 1) := by decide +kernel
theorem dX5_appeal_37 : decode cX5_appeal 37 = .ok (.iaload, 1) := by decide +kernel
theorem dX5_appeal_38 : decode cX5_appeal 38 = .ok (.aload_n 0, 1) := by decide +kernel
theorem dX5_appeal_39 : decode cX5_appeal 39 = .ok (.getfield 7, 3) := by decide +kernel
theorem dX5_appeal_42 : decode cX5_appeal 42 = .ok (.iconst 2, 1) := by decide +kernel
theorem dX5_appeal_43 : decode cX5_appeal 43 = .ok (.iaload, 1) := by decide +kernel
theorem dX5_appeal_44 : decode cX5_appeal 44 = .ok (.isub, 1) := by decide +kernel
theorem dX5_appeal_45 : decode cX5_appeal 45 = .ok (.iastore, 1) := by decide +kernel
theorem dX5_appeal_46 : decode cX5_appeal 46 = .ok (.aload_n 0, 1) := by decide +kernel
theorem dX5_appeal_47 : decode cX5_appeal 47 = .ok (.getfield 7, 3) := by decide +kernel
theorem dX5_appeal_50 : decode cX5_appeal 50 = .ok (.bipush 11, 2) := by decide +kernel
theorem dX5_appeal_52 : decode cX5_appeal 52 = .ok (.dup2, 1) := by decide +kernel
theorem dX5_appeal_53 : decode cX5_appeal 53 = .ok (.iaload, 1) := by decide +kernel
theorem dX5_appeal_54 : decode cX5_appeal 54 = .ok (.aload_n 0, 1) := by decide +kernel
theorem dX5_appeal_55 : decode cX5_appeal 55 = .ok (.getfield 7, 3) := by decide +kernel
theorem dX5_appeal_58 : decode cX5_appeal 58 = .ok (.iconst 2, 1) := by decide +kernel
theorem dX5_appeal_59 : decode cX5_appeal 59 = .ok (.iaload, 1) := by decide +kernel
theorem dX5_appeal_60 : decode cX5_appeal 60 = .ok (.iadd, 1) := by decide +kernel
theorem dX5_appeal_61 : decode cX5_appeal 61 = .ok (.iastore, 1) := by decide +kernel
theorem dX5_appeal_62 : decode cX5_appeal 62 = .ok (.aload_n 0, 1) := by decide +kernel
theorem dX5_appeal_63 : decode cX5_appeal 63 = .ok (.iconst 0, 1) := by decide +kernel
theorem dX5_appeal_64 : decode cX5_appeal 64 = .ok (.iload_n 1, 1) := by decide +kernel
theorem dX5_appeal_65 : decode cX5_appeal 65 = .ok (.invokevirtual 46, 3) := by decide +kernel
theorem dX5_appeal_68 : decode cX5_appeal 68 = .ok (.aload_n 0, 1) := by decide +kernel
theorem dX5_appeal_69 : decode cX5_appeal 69 = .ok (.iconst 0, 1) := by decide +kernel
theorem dX5_appeal_70 : decode cX5_appeal 70 = .ok (.aload_n 0, 1) := by decide +kernel
theorem dX5_appeal_71 : decode cX5_appeal 71 = .ok (.getfield 7, 3) := by decide +kernel
theorem dX5_appeal_74 : decode cX5_appeal 74 = .ok (.bipush 9, 2) := by decide +kernel
theorem dX5_appeal_76 : decode cX5_appeal 76 = .ok (.iaload, 1) := by decide +kernel
theorem dX5_appeal_77 : decode cX5_appeal 77 = .ok (.invokevirtual 46, 3) := by decide +kernel
theorem dX5_appeal_80 : decode cX5_appeal 80 = .ok (.if_icmp .le 11, 3) := by decide +kernel
theorem dX5_appeal_83 : decode cX5_appeal 83 = .ok (.aload_n 0, 1) := by decide +kernel
theorem dX5_appeal_84 : decode cX5_appeal 84 = .ok (.iconst 0, 1) := by decide +kernel
theorem dX5_appeal_85 : decode cX5_appeal 85 = .ok (.iload_n 1, 1) := by decide +kernel
theorem dX5_appeal_86 : decode cX5_appeal 86 = .ok (.invokevirtual 59, 3) := by decide +kernel
theorem dX5_appeal_89 : decode cX5_appeal 89 = .ok (.iconst 1, 1) := by decide +kernel
theorem dX5_appeal_90 : decode cX5_appeal 90 = .ok (.ireturn, 1) := by decide +kernel
theorem dX5_appeal_91 : decode cX5_appeal 91 = .ok (.aload_n 0, 1) := by decide +kernel
theorem dX5_appeal_92 : decode cX5_appeal 92 = .ok (.iconst 0, 1) := by decide +kernel
theorem dX5_appeal_93 : decode cX5_appeal 93 = .ok (.iload_n 1, 1) := by decide +kernel
theorem dX5_appeal_94 : decode cX5_appeal 94 = .ok (.invokevirtual 49, 3) := by decide +kernel
theorem dX5_appeal_97 : decode cX5_appeal 97 = .ok (.iconst 0, 1) := by decide +kernel
theorem dX5_appeal_98 : decode cX5_appeal 98 = .ok (.ireturn, 1) := by decide +kernel
theorem dX5_give_0 : decode cX5_give 0 = .ok (.iload_n 1, 1) := by decide +kernel
theorem dX5_give_1 : decode cX5_give 1 = .ok (.iconst 1, 1) := by decide +kernel
theorem dX5_give_2 : decode cX5_give 2 = .ok (.sipush 9999, 3) := by decide +kernel
theorem dX5_give_5 : decode cX5_give 5 = .ok (.invokestatic 26, 3) := by decide +kernel
theorem dX5_give_8 : decode cX5_give 8 = .ok (.ifCond .ne 6, 3) := by decide +kernel
theorem dX5_give_11 : decode cX5_give 11 = .ok (.bipush (-2), 2) := by decide +kernel
theorem dX5_give_13 : decode cX5_give 13 = .ok (.ireturn, 1) := by decide +kernel
theorem dX5_give_14 : decode cX5_give 14 = .ok (.aload_n 0, 1) := by decide +kernel
theorem dX5_give_15 : decode cX5_give 15 = .ok (.getfield 7, 3) := by decide +kernel
theorem dX5_give_18 : decode cX5_give 18 = .ok (.bipush 11, 2) := by decide +kernel
theorem dX5_give_20 : decode cX5_give 20 = .ok (.iaload, 1) := by decide +kernel
theorem dX5_give_21 : decode cX5_give 21 = .ok (.iload_n 1, 1) := by decide +kernel
theorem dX5_give_22 : decode cX5_give 22 = .ok (.iadd, 1) := by decide +kernel
theorem dX5_give_23 : decode cX5_give 23 = .ok (.ldc 102, 2) := by decide +kernel
theorem dX5_give_25 : decode cX5_give 25 = .ok (.if_icmp .le 6, 3) := by decide +kernel
theorem dX5_give_28 : decode cX5_give 28 = .ok (.bipush (-4), 2) := by decide +kernel
theorem dX5_give_30 : decode cX5_give 30 = .ok (.ireturn, 1) := by decide +kernel
theorem dX5_give_31 : decode cX5_give 31 = .ok (.aload_n 0, 1) := by decide +kernel
theorem dX5_give_32 : decode cX5_give 32 = .ok (.invokevirtual 87, 3) := by decide +kernel
theorem dX5_give_35 : decode cX5_give 35 = .ok (.aload_n 0, 1) := by decide +kernel
theorem dX5_give_36 : decode cX5_give 36 = .ok (.getfield 7, 3) := by decide +kernel
theorem dX5_give_39 : decode cX5_give 39 = .ok (.bipush 11, 2) := by decide +kernel
theorem dX5_give_41 : decode cX5_give 41 = .ok (.dup2, 1) := by decide +kernel
theorem dX5_give_42 : decode cX5_give 42 = .ok (.iaload, 1) := by decide +kernel
theorem dX5_give_43 : decode cX5_give 43 = .ok (.iload_n 1, 1) := by decide +kernel
theorem dX5_give_44 : decode cX5_give 44 = .ok (.iadd, 1) := by decide +kernel
theorem dX5_give_45 : decode cX5_give 45 = .ok (.iastore, 1) := by decide +kernel
theorem dX5_give_46 : decode cX5_give 46 = .ok (.aload_n 0, 1) := by decide +kernel
theorem dX5_give_47 : decode cX5_give 47 = .ok (.getfield 7, 3) := by decide +kernel
theorem dX5_give_50 : decode cX5_give 50 = .ok (.bipush 16, 2) := by decide +kernel
theorem dX5_give_52 : decode cX5_give 52 = .ok (.dup2, 1) := by decide +kernel
theorem dX5_give_53 : decode cX5_give 53 = .ok (.iaload, 1) := by decide +kernel
theorem dX5_give_54 : decode cX5_give 54 = .ok (.iload_n 1, 1) := by decide +kernel
theorem dX5_give_55 : decode cX5_give 55 = .ok (.iadd, 1) := by decide +kernel
theorem dX5_give_56 : decode cX5_give 56 = .ok (.iastore, 1) := by decide +kernel
theorem dX5_give_57 : decode cX5_give 57 = .ok (.aload_n 0, 1) := by decide +kernel
theorem dX5_give_58 : decode cX5_give 58 = .ok (.getfield 7, 3) := by decide +kernel
theorem dX5_give_61 : decode cX5_give 61 = .ok (.bipush 11, 2) := by decide +kernel
theorem dX5_give_63 : decode cX5_give 63 = .ok (.iaload, 1) := by decide +kernel
theorem dX5_give_64 : decode cX5_give 64 = .ok (.ireturn, 1) := by decide +kernel
theorem dX5_pass_0 : decode cX5_pass 0 = .ok (.iload_n 1, 1) := by decide +kernel
theorem dX5_pass_1 : decode cX5_pass 1 = .ok (.iconst 1, 1) := by decide +kernel
theorem dX5_pass_2 : decode cX5_pass 2 = .ok (.bipush 99, 2) := by decide +kernel
theorem dX5_pass_4 : decode cX5_pass 4 = .ok (.invokestatic 26, 3) := by decide +kernel
theorem dX5_pass_7 : decode cX5_pass 7 = .ok (.ifCond .ne 6, 3) := by decide +kernel
theorem dX5_pass_10 : decode cX5_pass 10 = .ok (.bipush (-2), 2) := by decide +kernel
theorem dX5_pass_12 : decode cX5_pass 12 = .ok (.ireturn, 1) := by decide +kernel
theorem dX5_pass_13 : decode cX5_pass 13 = .ok (.aload_n 0, 1) := by decide +kernel
theorem dX5_pass_14 : decode cX5_pass 14 = .ok (.getfield 7, 3) := by decide +kernel
theorem dX5_pass_17 : decode cX5_pass 17 = .ok (.bipush 6, 2) := by decide +kernel
theorem dX5_pass_19 : decode cX5_pass 19 = .ok (.iaload, 1) := by decide +kernel
theorem dX5_pass_20 : decode cX5_pass 20 = .ok (.iload_n 1, 1) := by decide +kernel
theorem dX5_pass_21 : decode cX5_pass 21 = .ok (.iadd, 1) := by decide +kernel
theorem dX5_pass_22 : decode cX5_pass 22 = .ok (.sipush 9999, 3) := by decide +kernel
theorem dX5_pass_25 : decode cX5_pass 25 = .ok (.if_icmp .le 6, 3) := by decide +kernel
theorem dX5_pass_28 : decode cX5_pass 28 = .ok (.bipush (-4), 2) := by decide +kernel
theorem dX5_pass_30 : decode cX5_pass 30 = .ok (.ireturn, 1) := by decide +kernel
theorem dX5_pass_31 : decode cX5_pass 31 = .ok (.aload_n 0, 1) := by decide +kernel
theorem dX5_pass_32 : decode cX5_pass 32 = .ok (.invokevirtual 87, 3) := by decide +kernel
theorem dX5_pass_35 : decode cX5_pass 35 = .ok (.aload_n 0, 1) := by decide +kernel
theorem dX5_pass_36 : decode cX5_pass 36 = .ok (.iconst 0, 1) := by decide +kernel
theorem dX5_pass_37 : decode cX5_pass 37 = .ok (.iload_n 1, 1) := by decide +kernel
theorem dX5_pass_38 : decode cX5_pass 38 = .ok (.invokevirtual 103, 3) := by decide +kernel
theorem dX5_pass_41 : decode cX5_pass 41 = .ok (.ireturn, 1) := by decide +kernel
theorem dX5_person_0 : decode cX5_person 0 = .ok (.aload_n 0, 1) := by decide +kernel
theorem dX5_person_1 : decode cX5_person 1 = .ok (.iload_n 1, 1) := by decide +kernel
theorem dX5_person_2 : decode cX5_person 2 = .ok (.invokevirtual 93, 3) := by decide +kernel
theorem dX5_person_5 : decode cX5_person 5 = .ok (.ifCond .ne 5, 3) := by decide +kernel
theorem dX5_person_8 : decode cX5_person 8 = .ok (.iconst (-1), 1) := by decide +kernel
theorem dX5_person_9 : decode cX5_person 9 = .ok (.ireturn, 1) := by decide +kernel
theorem dX5_person_10 : decode cX5_person 10 = .ok (.iload_n 2, 1) := by decide +kernel
theorem dX5_person_11 : decode cX5_person 11 = .ok (.tableswitch 117 0 8 #[49, 49, 49, 49, 62, 77, 88, 88, 103], 49) := by decide +kernel
theorem dX5_person_60 : decode cX5_person 60 = .ok (.aload_n 0, 1) := by decide +kernel
theorem dX5_person_61 : decode cX5_person 61 = .ok (.getfield 7, 3) := by decide +kernel
theorem dX5_person_64 : decode cX5_person 64 = .ok (.iconst 0, 1) := by decide +kernel
theorem dX5_person_65 : decode cX5_person 65 = .ok (.iload_n 1, 1) := by decide +kernel
theorem dX5_person_66 : decode cX5_person 66 = .ok (.invokestatic 34, 3) := by decide +kernel
theorem dX5_person_69 : decode cX5_person 69 = .ok (.iload_n 2, 1) := by decide +kernel
theorem dX5_person_70 : decode cX5_person 70 = .ok (.iadd, 1) := by decide +kernel
theorem dX5_person_71 : decode cX5_person 71 = .ok (.iaload, 1) := by decide +kernel
theorem dX5_person_72 : decode cX5_person 72 = .ok (.ireturn, 1) := by decide +kernel
theorem dX5_person_73 : decode cX5_person 73 = .ok (.aload_n 0, 1) := by decide +kernel
theorem dX5_person_74 : decode cX5_person 74 = .ok (.iconst 0, 1) := by decide +kernel
theorem dX5_person_75 : decode cX5_person 75 = .ok (.iload_n 1, 1) := by decide +kernel
theorem dX5_person_76 : decode cX5_person 76 = .ok (.invokevirtual 38, 3) := by decide +kernel
theorem dX5_person_79 : decode cX5_person 79 = .ok (.ifCond .eq 7, 3) := by decide +kernel
theorem dX5_person_82 : decode cX5_person 82 = .ok (.iconst 1, 1) := by decide +kernel
theorem dX5_person_83 : decode cX5_person 83 = .ok (.goto 4, 3) := by decide +kernel
theorem dX5_person_86 : decode cX5_person 86 = .ok (.iconst 0, 1) := by decide +kernel
theorem dX5_person_87 : decode cX5_person 87 = .ok (.ireturn, 1) := by decide +kernel
theorem dX5_person_88 : decode cX5_person 88 = .ok (.aload_n 0, 1) := by decide +kernel
theorem dX5_person_89 : decode cX5_person 89 = .ok (.iconst 0, 1) := by decide +kernel
theorem dX5_person_90 : decode cX5_person 90 = .ok (.iload_n 1, 1) := by decide +kernel
theorem dX5_person_91 : decode cX5_person 91 = .ok (.invokevirtual 46, 3) := by decide +kernel
theorem dX5_person_94 : decode cX5_person 94 = .ok (.sipush 1000, 3) := by decide +kernel
theorem dX5_person_97 : decode cX5_person 97 = .ok (.iadd, 1) := by decide +kernel
theorem dX5_person_98 : decode cX5_person 98 = .ok (.ireturn, 1) := by decide +kernel
theorem dX5_person_99 : decode cX5_person 99 = .ok (.aload_n 0, 1) := by decide +kernel
theorem dX5_person_100 : decode cX5_person 100 = .ok (.getfield 7, 3) := by decide +kernel
theorem dX5_person_103 : decode cX5_person 103 = .ok (.iconst 0, 1) := by decide +kernel
theorem dX5_person_104 : decode cX5_person 104 = .ok (.iload_n 1, 1) := by decide +kernel
theorem dX5_person_105 : decode cX5_person 105 = .ok (.invokestatic 34, 3) := by decide +kernel
theorem dX5_person_108 : decode cX5_person 108 = .ok (.iload_n 2, 1) := by decide +kernel
theorem dX5_person_109 : decode cX5_person 109 = .ok (.iadd, 1) := by decide +kernel
theorem dX5_person_110 : decode cX5_person 110 = .ok (.iconst 2, 1) := by decide +kernel
theorem dX5_person_111 : decode cX5_person 111 = .ok (.isub, 1) := by decide +kernel
theorem dX5_person_112 : decode cX5_person 112 = .ok (.iaload, 1) := by decide +kernel
theorem dX5_person_113 : decode cX5_person 113 = .ok (.ireturn, 1) := by decide +kernel
theorem dX5_person_114 : decode cX5_person 114 = .ok (.aload_n 0, 1) := by decide +kernel
theorem dX5_person_115 : decode cX5_person 115 = .ok (.iload_n 1, 1) := by decide +kernel
theorem dX5_person_116 : decode cX5_person 116 = .ok (.invokevirtual 99, 3) := by decide +kernel
theorem dX5_person_119 : decode cX5_person 119 = .ok (.ifCond .eq 7, 3) := by decide +kernel
theorem dX5_person_122 : decode cX5_person 122 = .ok (.iconst 1, 1) := by decide +kernel
theorem dX5_person_123 : decode cX5_person 123 = .ok (.goto 4, 3) := by decide +kernel
theorem dX5_person_126 : decode cX5_person 126 = .ok (.iconst 0, 1) := by decide +kernel
theorem dX5_person_127 : decode cX5_person 127 = .ok (.ireturn, 1) := by decide +kernel
theorem dX5_person_128 : decode cX5_person 128 = .ok (.bipush (-2), 2) := by decide +kernel
theorem dX5_person_130 : decode cX5_person 130 = .ok (.ireturn, 1) := by decide +kernel
theorem dX5_ofAll_0 : decode cX5_ofAll 0 = .ok (.iconst 0, 1) := by decide +kernel
theorem dX5_ofAll_1 : decode cX5_ofAll 1 = .ok (.istore_n 2, 1) := by decide +kernel
theorem dX5_ofAll_2 : decode cX5_ofAll 2 = .ok (.iconst 0, 1) := by decide +kernel
theorem dX5_ofAll_3 : decode cX5_ofAll 3 = .ok (.istore_n 3, 1) := by decide +kernel
theorem dX5_ofAll_4 : decode cX5_ofAll 4 = .ok (.iload_n 3, 1) := by decide +kernel
theorem dX5_ofAll_5 : decode cX5_ofAll 5 = .ok (.aload_n 0, 1) := by decide +kernel
theorem dX5_ofAll_6 : decode cX5_ofAll 6 = .ok (.getfield 7, 3) := by decide +kernel
theorem dX5_ofAll_9 : decode cX5_ofAll 9 = .ok (.bipush 7, 2) := by decide +kernel
theorem dX5_ofAll_11 : decode cX5_ofAll 11 = .ok (.iaload, 1) := by decide +kernel
theorem dX5_ofAll_12 : decode cX5_ofAll 12 = .ok (.if_icmp .ge 47, 3) := by decide +kernel
theorem dX5_ofAll_15 : decode cX5_ofAll 15 = .ok (.iload_n 2, 1) := by decide +kernel
theorem dX5_ofAll_16 : decode cX5_ofAll 16 = .ok (.iload_n 1, 1) := by decide +kernel
theorem dX5_ofAll_17 : decode cX5_ofAll 17 = .ok (.bipush 17, 2) := by decide +kernel
theorem dX5_ofAll_19 : decode cX5_ofAll 19 = .ok (.if_icmp .ne 18, 3) := by decide +kernel
theorem dX5_ofAll_22 : decode cX5_ofAll 22 = .ok (.aload_n 0, 1) := by decide +kernel
theorem dX5_ofAll_23 : decode cX5_ofAll 23 = .ok (.getfield 7, 3) := by decide +kernel
theorem dX5_ofAll_26 : decode cX5_ofAll 26 = .ok (.iconst 0, 1) := by decide +kernel
theorem dX5_ofAll_27 : decode cX5_ofAll 27 = .ok (.iload_n 3, 1) := by decide +kernel
theorem dX5_ofAll_28 : decode cX5_ofAll 28 = .ok (.invokestatic 34, 3) := by decide +kernel
theorem dX5_ofAll_31 : decode cX5_ofAll 31 = .ok (.iconst 3, 1) := by decide +kernel
theorem dX5_ofAll_32 : decode cX5_ofAll 32 = .ok (.iadd, 1) := by decide +kernel
theorem dX5_ofAll_33 : decode cX5_ofAll 33 = .ok (.iaload, 1) := by decide +kernel
theorem dX5_ofAll_34 : decode cX5_ofAll 34 = .ok (.goto 17, 3) := by decide +kernel
theorem dX5_ofAll_37 : decode cX5_ofAll 37 = .ok (.aload_n 0, 1) := by decide +kernel
theorem dX5_ofAll_38 : decode cX5_ofAll 38 = .ok (.iconst 0, 1) := by decide +kernel
theorem dX5_ofAll_39 : decode cX5_ofAll 39 = .ok (.iload_n 3, 1) := by decide +kernel
theorem dX5_ofAll_40 : decode cX5_ofAll 40 = .ok (.invokevirtual 38, 3) := by decide +kernel
theorem dX5_ofAll_43 : decode cX5_ofAll 43 = .ok (.ifCond .eq 7, 3) := by decide +kernel
theorem dX5_ofAll_46 : decode cX5_ofAll 46 = .ok (.iconst 1, 1) := by decide +kernel
theorem dX5_ofAll_47 : decode cX5_ofAll 47 = .ok (.goto 4, 3) := by decide +kernel
theorem dX5_ofAll_50 : decode cX5_ofAll 50 = .ok (.iconst 0, 1) := by decide +kernel
theorem dX5_ofAll_51 : decode cX5_ofAll 51 = .ok (.iadd, 1) := by decide +kernel
theorem dX5_ofAll_52 : decode cX5_ofAll 52 = .ok (.istore_n 2, 1) := by decide +kernel
theorem dX5_ofAll_53 : decode cX5_ofAll 53 = .ok (.iinc 3 1, 3) := by decide +kernel
theorem dX5_ofAll_56 : decode cX5_ofAll 56 = .ok (.goto (-52), 3) := by decide +kernel
theorem dX5_ofAll_59 : decode cX5_ofAll 59 = .ok (.iload_n 2, 1) := by decide +kernel
theorem dX5_ofAll_60 : decode cX5_ofAll 60 = .ok (.ireturn, 1) := by decide +kernel
theorem dX5_count_0 : decode cX5_count 0 = .ok (.iload_n 1, 1) := by decide +kernel
theorem dX5_count_1 : decode cX5_count 1 = .ok (.tableswitch 142 9 20 #[63, 86, 142, 109, 115, 115, 115, 115, 109, 124, 132, 137], 63) := by decide +kernel
theorem dX5_count_64 : decode cX5_count 64 = .ok (.aload_n 0, 1) := by decide +kernel
theorem dX5_count_65 : decode cX5_count 65 = .ok (.getfield 7, 3) := by decide +kernel
theorem dX5_count_68 : decode cX5_count 68 = .ok (.bipush 9, 2) := by decide +kernel
theorem dX5_count_70 : decode cX5_count 70 = .ok (.iaload, 1) := by decide +kernel
theorem dX5_count_71 : decode cX5_count 71 = .ok (.ifCond .ge 8, 3) := by decide +kernel
theorem dX5_count_74 : decode cX5_count 74 = .ok (.bipush (-6), 2) := by decide +kernel
theorem dX5_count_76 : decode cX5_count 76 = .ok (.goto 10, 3) := by decide +kernel
theorem dX5_count_79 : decode cX5_count 79 = .ok (.aload_n 0, 1) := by decide +kernel
theorem dX5_count_80 : decode cX5_count 80 = .ok (.getfield 7, 3) := by decide +kernel
theorem dX5_count_83 : decode cX5_count 83 = .ok (.bipush 9, 2) := by decide +kernel
theorem dX5_count_85 : decode cX5_count 85 = .ok (.iaload, 1) := by decide +kernel
theorem dX5_count_86 : decode cX5_count 86 = .ok (.ireturn, 1) := by decide +kernel
theorem dX5_count_87 : decode cX5_count 87 = .ok (.aload_n 0, 1) := by decide +kernel
theorem dX5_count_88 : decode cX5_count 88 = .ok (.getfield 7, 3) := by decide +kernel
theorem dX5_count_91 : decode cX5_count 91 = .ok (.bipush 9, 2) := by decide +kernel
theorem dX5_count_93 : decode cX5_count 93 = .ok (.iaload, 1) := by decide +kernel
theorem dX5_count_94 : decode cX5_count 94 = .ok (.ifCond .ge 13, 3) := by decide +kernel
theorem dX5_count_97 : decode cX5_count 97 = .ok (.aload_n 0, 1) := by decide +kernel
theorem dX5_count_98 : decode cX5_count 98 = .ok (.getfield 7, 3) := by decide +kernel
theorem dX5_count_101 : decode cX5_count 101 = .ok (.bipush 10, 2) := by decide +kernel
theorem dX5_count_103 : decode cX5_count 103 = .ok (.iaload, 1) := by decide +kernel
theorem dX5_count_104 : decode cX5_count 104 = .ok (.goto 5, 3) := by decide +kernel
theorem dX5_count_107 : decode cX5_count 107 = .ok (.bipush (-6), 2) := by decide +kernel
theorem dX5_count_109 : decode cX5_count 109 = .ok (.ireturn, 1) := by decide +kernel
theorem dX5_count_110 : decode cX5_count 110 = .ok (.aload_n 0, 1) := by decide +kernel
theorem dX5_count_111 : decode cX5_count 111 = .ok (.iload_n 1, 1) := by decide +kernel
theorem dX5_count_112 : decode cX5_count 112 = .ok (.invokevirtual 106, 3) := by decide +kernel
theorem dX5_count_115 : decode cX5_count 115 = .ok (.ireturn, 1) := by decide +kernel
theorem dX5_count_116 : decode cX5_count 116 = .ok (.aload_n 0, 1) := by decide +kernel
theorem dX5_count_117 : decode cX5_count 117 = .ok (.getfield 7, 3) := by decide +kernel
theorem dX5_count_120 : decode cX5_count 120 = .ok (.iload_n 1, 1) := by decide +kernel
theorem dX5_count_121 : decode cX5_count 121 = .ok (.iconst 1, 1) := by decide +kernel
theorem dX5_count_122 : decode cX5_count 122 = .ok (.isub, 1) := by decide +kernel
theorem dX5_count_123 : decode cX5_count 123 = .ok (.iaload, 1) := by decide +kernel
theorem dX5_count_124 : decode cX5_count 124 = .ok (.ireturn, 1) := by decide +kernel
theorem dX5_count_125 : decode cX5_count 125 = .ok (.aload_n 0, 1) := by decide +kernel
theorem dX5_count_126 : decode cX5_count 126 = .ok (.getfield 7, 3) := by decide +kernel
theorem dX5_count_129 : decode cX5_count 129 = .ok (.bipush 16, 2) := by decide +kernel
theorem dX5_count_131 : decode cX5_count 131 = .ok (.iaload, 1) := by decide +kernel
theorem dX5_count_132 : decode cX5_count 132 = .ok (.ireturn, 1) := by decide +kernel
theorem dX5_count_133 : decode cX5_count 133 = .ok (.aload_n 0, 1) := by decide +kernel
theorem dX5_count_134 : decode cX5_count 134 = .ok (.getfield 109, 3) := by decide +kernel
theorem dX5_count_137 : decode cX5_count 137 = .ok (.ireturn, 1) := by decide +kernel
theorem dX5_count_138 : decode cX5_count 138 = .ok (.aload_n 0, 1) := by decide +kernel
theorem dX5_count_139 : decode cX5_count 139 = .ok (.getfield 30, 3) := by decide +kernel
theorem dX5_count_142 : decode cX5_count 142 = .ok (.ireturn, 1) := by decide +kernel
theorem dX5_count_143 : decode cX5_count 143 = .ok (.iload_n 1, 1) := by decide +kernel
theorem dX5_count_144 : decode cX5_count 144 = .ok (.iconst 0, 1) := by decide +kernel
theorem dX5_count_145 : decode cX5_count 145 = .ok (.bipush 11, 2) := by decide +kernel
theorem dX5_count_147 : decode cX5_count 147 = .ok (.invokestatic 26, 3) := by decide +kernel
theorem dX5_count_150 : decode cX5_count 150 = .ok (.ifCond .eq 12, 3) := by decide +kernel
theorem dX5_count_153 : decode cX5_count 153 = .ok (.aload_n 0, 1) := by decide +kernel
theorem dX5_count_154 : decode cX5_count 154 = .ok (.getfield 7, 3) := by decide +kernel
theorem dX5_count_157 : decode cX5_count 157 = .ok (.iload_n 1, 1) := by decide +kernel
theorem dX5_count_158 : decode cX5_count 158 = .ok (.iaload, 1) := by decide +kernel
theorem dX5_count_159 : decode cX5_count 159 = .ok (.goto 5, 3) := by decide +kernel
theorem dX5_count_162 : decode cX5_count 162 = .ok (.bipush (-2), 2) := by decide +kernel
theorem dX5_count_164 : decode cX5_count 164 = .ok (.ireturn, 1) := by decide +kernel
theorem dX5_next_0 : decode cX5_next 0 = .ok (.iload_n 1, 1) := by decide +kernel
theorem dX5_next_1 : decode cX5_next 1 = .ok (.iconst 0, 1) := by decide +kernel
theorem dX5_next_2 : decode cX5_next 2 = .ok (.iconst 1, 1) := by decide +kernel
theorem dX5_next_3 : decode cX5_next 3 = .ok (.invokestatic 26, 3) := by decide +kernel
theorem dX5_next_6 : decode cX5_next 6 = .ok (.ifCond .ne 6, 3) := by decide +kernel
theorem dX5_next_9 : decode cX5_next 9 = .ok (.bipush (-2), 2) := by decide +kernel
theorem dX5_next_11 : decode cX5_next 11 = .ok (.ireturn, 1) := by decide +kernel
theorem dX5_next_12 : decode cX5_next 12 = .ok (.aload_n 0, 1) := by decide +kernel
theorem dX5_next_13 : decode cX5_next 13 = .ok (.invokevirtual 112, 3) := by decide +kernel
theorem dX5_next_16 : decode cX5_next 16 = .ok (.iconst 1, 1) := by decide +kernel
theorem dX5_next_17 : decode cX5_next 17 = .ok (.istore_n 2, 1) := by decide +kernel
theorem dX5_next_18 : decode cX5_next 18 = .ok (.iload_n 2, 1) := by decide +kernel
theorem dX5_next_19 : decode cX5_next 19 = .ok (.sipush 500, 3) := by decide +kernel
theorem dX5_next_22 : decode cX5_next 22 = .ok (.if_icmp .gt 75, 3) := by decide +kernel
theorem dX5_next_25 : decode cX5_next 25 = .ok (.aload_n 0, 1) := by decide +kernel
theorem dX5_next_26 : decode cX5_next 26 = .ok (.getfield 7, 3) := by decide +kernel
theorem dX5_next_29 : decode cX5_next 29 = .ok (.bipush 78, 2) := by decide +kernel
theorem dX5_next_31 : decode cX5_next 31 = .ok (.iaload, 1) := by decide +kernel
theorem dX5_next_32 : decode cX5_next 32 = .ok (.istore_n 3, 1) := by decide +kernel
theorem dX5_next_33 : decode cX5_next 33 = .ok (.aload_n 0, 1) := by decide +kernel
theorem dX5_next_34 : decode cX5_next 34 = .ok (.getfield 7, 3) := by decide +kernel
theorem dX5_next_37 : decode cX5_next 37 = .ok (.bipush 74, 2) := by decide +kernel
theorem dX5_next_39 : decode cX5_next 39 = .ok (.iaload, 1) := by decide +kernel
theorem dX5_next_40 : decode cX5_next 40 = .ok (.ifCond .lt 8, 3) := by decide +kernel
theorem dX5_next_43 : decode cX5_next 43 = .ok (.bipush (-6), 2) := by decide +kernel
theorem dX5_next_45 : decode cX5_next 45 = .ok (.goto 9, 3) := by decide +kernel
theorem dX5_next_48 : decode cX5_next 48 = .ok (.aload_n 0, 1) := by decide +kernel
theorem dX5_next_49 : decode cX5_next 49 = .ok (.bipush 65, 2) := by decide +kernel
theorem dX5_next_51 : decode cX5_next 51 = .ok (.invokevirtual 42, 3) := by decide +kernel
theorem dX5_next_54 : decode cX5_next 54 = .ok (.istore 4, 2) := by decide +kernel
theorem dX5_next_56 : decode cX5_next 56 = .ok (.aload_n 0, 1) := by decide +kernel
theorem dX5_next_57 : decode cX5_next 57 = .ok (.bipush 65, 2) := by decide +kernel
theorem dX5_next_59 : decode cX5_next 59 = .ok (.invokevirtual 70, 3) := by decide +kernel
theorem dX5_next_62 : decode cX5_next 62 = .ok (.istore 5, 2) := by decide +kernel
theorem dX5_next_64 : decode cX5_next 64 = .ok (.iload 5, 2) := by decide +kernel
theorem dX5_next_66 : decode cX5_next 66 = .ok (.ifCond .eq 25, 3) := by decide +kernel
theorem dX5_next_69 : decode cX5_next 69 = .ok (.aload_n 0, 1) := by decide +kernel
theorem dX5_next_70 : decode cX5_next 70 = .ok (.getfield 7, 3) := by decide +kernel
theorem dX5_next_73 : decode cX5_next 73 = .ok (.bipush 78, 2) := by decide +kernel
theorem dX5_next_75 : decode cX5_next 75 = .ok (.iaload, 1) := by decide +kernel
theorem dX5_next_76 : decode cX5_next 76 = .ok (.iload_n 3, 1) := by decide +kernel
theorem dX5_next_77 : decode cX5_next 77 = .ok (.if_icmp .le 14, 3) := by decide +kernel
theorem dX5_next_80 : decode cX5_next 80 = .ok (.iload_n 1, 1) := by decide +kernel
theorem dX5_next_81 : decode cX5_next 81 = .ok (.ifCond .ne 8, 3) := by decide +kernel
theorem dX5_next_84 : decode cX5_next 84 = .ok (.iload 4, 2) := by decide +kernel
theorem dX5_next_86 : decode cX5_next 86 = .ok (.goto 4, 3) := by decide +kernel
theorem dX5_next_89 : decode cX5_next 89 = .ok (.iload_n 2, 1) := by decide +kernel
theorem dX5_next_90 : decode cX5_next 90 = .ok (.ireturn, 1) := by decide +kernel
theorem dX5_next_91 : decode cX5_next 91 = .ok (.iinc 2 1, 3) := by decide +kernel
theorem dX5_next_94 : decode cX5_next 94 = .ok (.goto (-76), 3) := by decide +kernel
theorem dX5_next_97 : decode cX5_next 97 = .ok (.bipush (-6), 2) := by decide +kernel
theorem dX5_next_99 : decode cX5_next 99 = .ok (.ireturn, 1) := by decide +kernel
theorem dX5_untilEmpty_0 : decode cX5_untilEmpty 0 = .ok (.aload_n 0, 1) := by decide +kernel
theorem dX5_untilEmpty_1 : decode cX5_untilEmpty 1 = .ok (.invokevirtual 112, 3) := by decide +kernel
theorem dX5_untilEmpty_4 : decode cX5_untilEmpty 4 = .ok (.iconst 0, 1) := by decide +kernel
theorem dX5_untilEmpty_5 : decode cX5_untilEmpty 5 = .ok (.istore_n 1, 1) := by decide +kernel
theorem dX5_untilEmpty_6 : decode cX5_untilEmpty 6 = .ok (.iload_n 1, 1) := by decide +kernel
theorem dX5_untilEmpty_7 : decode cX5_untilEmpty 7 = .ok (.sipush 2000, 3) := by decide +kernel
theorem dX5_untilEmpty_10 : decode cX5_untilEmpty 10 = .ok (.if_icmp .gt 28, 3) := by decide +kernel
theorem dX5_untilEmpty_13 : decode cX5_untilEmpty 13 = .ok (.aload_n 0, 1) := by decide +kernel
theorem dX5_untilEmpty_14 : decode cX5_untilEmpty 14 = .ok (.getfield 7, 3) := by decide +kernel
theorem dX5_untilEmpty_17 : decode cX5_untilEmpty 17 = .ok (.bipush 76, 2) := by decide +kernel
theorem dX5_untilEmpty_19 : decode cX5_untilEmpty 19 = .ok (.iaload, 1) := by decide +kernel
theorem dX5_untilEmpty_20 : decode cX5_untilEmpty 20 = .ok (.ifCond .ne 5, 3) := by decide +kernel
theorem dX5_untilEmpty_23 : decode cX5_untilEmpty 23 = .ok (.iload_n 1, 1) := by decide +kernel
theorem dX5_untilEmpty_24 : decode cX5_untilEmpty 24 = .ok (.ireturn, 1) := by decide +kernel
theorem dX5_untilEmpty_25 : decode cX5_untilEmpty 25 = .ok (.aload_n 0, 1) := by decide +kernel
theorem dX5_untilEmpty_26 : decode cX5_untilEmpty 26 = .ok (.bipush 65, 2) := by decide +kernel
theorem dX5_untilEmpty_28 : decode cX5_untilEmpty 28 = .ok (.invokevirtual 70, 3) := by decide +kernel
theorem dX5_untilEmpty_31 : decode cX5_untilEmpty 31 = .ok (.istore_n 2, 1) := by decide +kernel
theorem dX5_untilEmpty_32 : decode cX5_untilEmpty 32 = .ok (.iinc 1 1, 3) := by decide +kernel
theorem dX5_untilEmpty_35 : decode cX5_untilEmpty 35 = .ok (.goto (-29), 3) := by decide +kernel
theorem dX5_untilEmpty_38 : decode cX5_untilEmpty 38 = .ok (.bipush (-6), 2) := by decide +kernel
theorem dX5_untilEmpty_40 : decode cX5_untilEmpty 40 = .ok (.ireturn, 1) := by decide +kernel
theorem dX5_ifPassed_0 : decode cX5_ifPassed 0 = .ok (.iload_n 1, 1) := by decide +kernel
theorem dX5_ifPassed_1 : decode cX5_ifPassed 1 = .ok (.iconst 1, 1) := by decide +kernel
theorem dX5_ifPassed_2 : decode cX5_ifPassed 2 = .ok (.sipush 500, 3) := by decide +kernel
theorem dX5_ifPassed_5 : decode cX5_ifPassed 5 = .ok (.invokestatic 26, 3) := by decide +kernel
theorem dX5_ifPassed_8 : decode cX5_ifPassed 8 = .ok (.ifCond .eq 12, 3) := by decide +kernel
theorem dX5_ifPassed_11 : decode cX5_ifPassed 11 = .ok (.iload_n 2, 1) := by decide +kernel
theorem dX5_ifPassed_12 : decode cX5_ifPassed 12 = .ok (.iconst 0, 1) := by decide +kernel
theorem dX5_ifPassed_13 : decode cX5_ifPassed 13 = .ok (.iconst 4, 1) := by decide +kernel
theorem dX5_ifPassed_14 : decode cX5_ifPassed 14 = .ok (.invokestatic 26, 3) := by decide +kernel
theorem dX5_ifPassed_17 : decode cX5_ifPassed 17 = .ok (.ifCond .ne 6, 3) := by decide +kernel
theorem dX5_ifPassed_20 : decode cX5_ifPassed 20 = .ok (.bipush (-2), 2) := by decide +kernel
theorem dX5_ifPassed_22 : decode cX5_ifPassed 22 = .ok (.ireturn, 1) := by decide +kernel
theorem dX5_ifPassed_23 : decode cX5_ifPassed 23 = .ok (.aload_n 0, 1) := by decide +kernel
theorem dX5_ifPassed_24 : decode cX5_ifPassed 24 = .ok (.invokevirtual 112, 3) := by decide +kernel
theorem dX5_ifPassed_27 : decode cX5_ifPassed 27 = .ok (.aload_n 0, 1) := by decide +kernel
theorem dX5_ifPassed_28 : decode cX5_ifPassed 28 = .ok (.bipush 65, 2) := by decide +kernel
theorem dX5_ifPassed_30 : decode cX5_ifPassed 30 = .ok (.iload_n 1, 1) := by decide +kernel
theorem dX5_ifPassed_31 : decode cX5_ifPassed 31 = .ok (.invokevirtual 103, 3) := by decide +kernel
theorem dX5_ifPassed_34 : decode cX5_ifPassed 34 = .ok (.istore_n 3, 1) := by decide +kernel
theorem dX5_ifPassed_35 : decode cX5_ifPassed 35 = .ok (.iload_n 2, 1) := by decide +kernel
theorem dX5_ifPassed_36 : decode cX5_ifPassed 36 = .ok (.tableswitch 74 0 3 #[32, 34, 50, 66], 32) := by decide +kernel
theorem dX5_ifPassed_68 : decode cX5_ifPassed 68 = .ok (.iload_n 3, 1) := by decide +kernel
theorem dX5_ifPassed_69 : decode cX5_ifPassed 69 = .ok (.ireturn, 1) := by decide +kernel
theorem dX5_ifPassed_70 : decode cX5_ifPassed 70 = .ok (.aload_n 0, 1) := by decide +kernel
theorem dX5_ifPassed_71 : decode cX5_ifPassed 71 = .ok (.getfield 7, 3) := by decide +kernel
theorem dX5_ifPassed_74 : decode cX5_ifPassed 74 = .ok (.bipush 77, 2) := by decide +kernel
theorem dX5_ifPassed_76 : decode cX5_ifPassed 76 = .ok (.iaload, 1) := by decide +kernel
theorem dX5_ifPassed_77 : decode cX5_ifPassed 77 = .ok (.aload_n 0, 1) := by decide +kernel
theorem dX5_ifPassed_78 : decode cX5_ifPassed 78 = .ok (.getfield 7, 3) := by decide +kernel
theorem dX5_ifPassed_81 : decode cX5_ifPassed 81 = .ok (.bipush 12, 2) := by decide +kernel
theorem dX5_ifPassed_83 : decode cX5_ifPassed 83 = .ok (.iaload, 1) := by decide +kernel
theorem dX5_ifPassed_84 : decode cX5_ifPassed 84 = .ok (.isub, 1) := by decide +kernel
theorem dX5_ifPassed_85 : decode cX5_ifPassed 85 = .ok (.ireturn, 1) := by decide +kernel
theorem dX5_ifPassed_86 : decode cX5_ifPassed 86 = .ok (.aload_n 0, 1) := by decide +kernel
theorem dX5_ifPassed_87 : decode cX5_ifPassed 87 = .ok (.getfield 7, 3) := by decide +kernel
theorem dX5_ifPassed_90 : decode cX5_ifPassed 90 = .ok (.bipush 80, 2) := by decide +kernel
theorem dX5_ifPassed_92 : decode cX5_ifPassed 92 = .ok (.iaload, 1) := by decide +kernel
theorem dX5_ifPassed_93 : decode cX5_ifPassed 93 = .ok (.aload_n 0, 1) := by decide +kernel
theorem dX5_ifPassed_94 : decode cX5_ifPassed 94 = .ok (.getfield 7, 3) := by decide +kernel
theorem dX5_ifPassed_97 : decode cX5_ifPassed 97 = .ok (.bipush 15, 2) := by decide +kernel
theorem dX5_ifPassed_99 : decode cX5_ifPassed 99 = .ok (.iaload, 1) := by decide +kernel
theorem dX5_ifPassed_100 : decode cX5_ifPassed 100 = .ok (.isub, 1) := by decide +kernel
theorem dX5_ifPassed_101 : decode cX5_ifPassed 101 = .ok (.ireturn, 1) := by decide +kernel
theorem dX5_ifPassed_102 : decode cX5_ifPassed 102 = .ok (.aload_n 0, 1) := by decide +kernel
theorem dX5_ifPassed_103 : decode cX5_ifPassed 103 = .ok (.getfield 7, 3) := by decide +kernel
theorem dX5_ifPassed_106 : decode cX5_ifPassed 106 = .ok (.bipush 73, 2) := by decide +kernel
theorem dX5_ifPassed_108 : decode cX5_ifPassed 108 = .ok (.iaload, 1) := by decide +kernel
theorem dX5_ifPassed_109 : decode cX5_ifPassed 109 = .ok (.ireturn, 1) := by decide +kernel
theorem dX5_ifPassed_110 : decode cX5_ifPassed 110 = .ok (.aload_n 0, 1) := by decide +kernel
theorem dX5_ifPassed_111 : decode cX5_ifPassed 111 = .ok (.getfield 7, 3) := by decide +kernel
theorem dX5_ifPassed_114 : decode cX5_ifPassed 114 = .ok (.bipush 74, 2) := by decide +kernel
theorem dX5_ifPassed_116 : decode cX5_ifPassed 116 = .ok (.iaload, 1) := by decide +kernel
theorem dX5_ifPassed_117 : decode cX5_ifPassed 117 = .ok (.ifCond .ge 8, 3) := by decide +kernel
theorem dX5_ifPassed_120 : decode cX5_ifPassed 120 = .ok (.bipush (-6), 2) := by decide +kernel
theorem dX5_ifPassed_122 : decode cX5_ifPassed 122 = .ok (.goto 10, 3) := by decide +kernel
theorem dX5_ifPassed_125 : decode cX5_ifPassed 125 = .ok (.aload_n 0, 1) := by decide +kernel
theorem dX5_ifPassed_126 : decode cX5_ifPassed 126 = .ok (.getfield 7, 3) := by decide +kernel
theorem dX5_ifPassed_129 : decode cX5_ifPassed 129 = .ok (.bipush 74, 2) := by decide +kernel
theorem dX5_ifPassed_131 : decode cX5_ifPassed 131 = .ok (.iaload, 1) := by decide +kernel
theorem dX5_ifPassed_132 : decode cX5_ifPassed 132 = .ok (.ireturn, 1) := by decide +kernel
theorem dX5_bestPlace_0 : decode cX5_bestPlace 0 = .ok (.aload_n 0, 1) := by decide +kernel
theorem dX5_bestPlace_1 : decode cX5_bestPlace 1 = .ok (.iload_n 1, 1) := by decide +kernel
theorem dX5_bestPlace_2 : decode cX5_bestPlace 2 = .ok (.invokevirtual 93, 3) := by decide +kernel
theorem dX5_bestPlace_5 : decode cX5_bestPlace 5 = .ok (.ifCond .ne 5, 3) := by decide +kernel
theorem dX5_bestPlace_8 : decode cX5_bestPlace 8 = .ok (.iconst (-1), 1) := by decide +kernel
theorem dX5_bestPlace_9 : decode cX5_bestPlace 9 = .ok (.ireturn, 1) := by decide +kernel
theorem dX5_bestPlace_10 : decode cX5_bestPlace 10 = .ok (.iload_n 2, 1) := by decide +kernel
theorem dX5_bestPlace_11 : decode cX5_bestPlace 11 = .ok (.iconst 0, 1) := by decide +kernel
theorem dX5_bestPlace_12 : decode cX5_bestPlace 12 = .ok (.iconst 1, 1) := by decide +kernel
theorem dX5_bestPlace_13 : decode cX5_bestPlace 13 = .ok (.invokestatic 26, 3) := by decide +kernel
theorem dX5_bestPlace_16 : decode cX5_bestPlace 16 = .ok (.ifCond .ne 6, 3) := by decide +kernel
theorem dX5_bestPlace_19 : decode cX5_bestPlace 19 = .ok (.bipush (-2), 2) := by decide +kernel
theorem dX5_bestPlace_21 : decode cX5_bestPlace 21 = .ok (.ireturn, 1) := by decide +kernel
theorem dX5_bestPlace_22 : decode cX5_bestPlace 22 = .ok (.iconst 0, 1) := by decide +kernel
theorem dX5_bestPlace_23 : decode cX5_bestPlace 23 = .ok (.istore_n 3, 1) := by decide +kernel
theorem dX5_bestPlace_24 : decode cX5_bestPlace 24 = .ok (.iconst (-1), 1) := by decide +kernel
theorem dX5_bestPlace_25 : decode cX5_bestPlace 25 = .ok (.istore 4, 2) := by decide +kernel
theorem dX5_bestPlace_27 : decode cX5_bestPlace 27 = .ok (.iconst 0, 1) := by decide +kernel
theorem dX5_bestPlace_28 : decode cX5_bestPlace 28 = .ok (.istore 5, 2) := by decide +kernel
theorem dX5_bestPlace_30 : decode cX5_bestPlace 30 = .ok (.iload 5, 2) := by decide +kernel
theorem dX5_bestPlace_32 : decode cX5_bestPlace 32 = .ok (.aload_n 0, 1) := by decide +kernel
theorem dX5_bestPlace_33 : decode cX5_bestPlace 33 = .ok (.getfield 7, 3) := by decide +kernel
theorem dX5_bestPlace_36 : decode cX5_bestPlace 36 = .ok (.bipush 7, 2) := by decide +kernel
theorem dX5_bestPlace_38 : decode cX5_bestPlace 38 = .ok (.iaload, 1) := by decide +kernel
theorem dX5_bestPlace_39 : decode cX5_bestPlace 39 = .ok (.if_icmp .ge 97, 3) := by decide +kernel
theorem dX5_bestPlace_42 : decode cX5_bestPlace 42 = .ok (.aload_n 0, 1) := by decide +kernel
theorem dX5_bestPlace_43 : decode cX5_bestPlace 43 = .ok (.invokevirtual 112, 3) := by decide +kernel
theorem dX5_bestPlace_46 : decode cX5_bestPlace 46 = .ok (.aload_n 0, 1) := by decide +kernel
theorem dX5_bestPlace_47 : decode cX5_bestPlace 47 = .ok (.bipush 65, 2) := by decide +kernel
theorem dX5_bestPlace_49 : decode cX5_bestPlace 49 = .ok (.iload_n 1, 1) := by decide +kernel
theorem dX5_bestPlace_50 : decode cX5_bestPlace 50 = .ok (.iload 5, 2) := by decide +kernel
theorem dX5_bestPlace_52 : decode cX5_bestPlace 52 = .ok (.invokevirtual 96, 3) := by decide +kernel
theorem dX5_bestPlace_55 : decode cX5_bestPlace 55 = .ok (.aload_n 0, 1) := by decide +kernel
theorem dX5_bestPlace_56 : decode cX5_bestPlace 56 = .ok (.getfield 7, 3) := by decide +kernel
theorem dX5_bestPlace_59 : decode cX5_bestPlace 59 = .ok (.bipush 65, 2) := by decide +kernel
theorem dX5_bestPlace_61 : decode cX5_bestPlace 61 = .ok (.iload 5, 2) := by decide +kernel
theorem dX5_bestPlace_63 : decode cX5_bestPlace 63 = .ok (.invokestatic 34, 3) := by decide +kernel
theorem dX5_bestPlace_66 : decode cX5_bestPlace 66 = .ok (.iconst 5, 1) := by decide +kernel
theorem dX5_bestPlace_67 : decode cX5_bestPlace 67 = .ok (.iadd, 1) := by decide +kernel
theorem dX5_bestPlace_68 : decode cX5_bestPlace 68 = .ok (.iaload, 1) := by decide +kernel
theorem dX5_bestPlace_69 : decode cX5_bestPlace 69 = .ok (.istore 6, 2) := by decide +kernel
theorem dX5_bestPlace_71 : decode cX5_bestPlace 71 = .ok (.aload_n 0, 1) := by decide +kernel
theorem dX5_bestPlace_72 : decode cX5_bestPlace 72 = .ok (.bipush 65, 2) := by decide +kernel
theorem dX5_bestPlace_74 : decode cX5_bestPlace 74 = .ok (.bipush 100, 2) := by decide +kernel
theorem dX5_bestPlace_76 : decode cX5_bestPlace 76 = .ok (.invokevirtual 103, 3) := by decide +kernel
theorem dX5_bestPlace_79 : decode cX5_bestPlace 79 = .ok (.istore 7, 2) := by decide +kernel
theorem dX5_bestPlace_81 : decode cX5_bestPlace 81 = .ok (.aload_n 0, 1) := by decide +kernel
theorem dX5_bestPlace_82 : decode cX5_bestPlace 82 = .ok (.getfield 7, 3) := by decide +kernel
theorem dX5_bestPlace_85 : decode cX5_bestPlace 85 = .ok (.bipush 65, 2) := by decide +kernel
theorem dX5_bestPlace_87 : decode cX5_bestPlace 87 = .ok (.iload 5, 2) := by decide +kernel
theorem dX5_bestPlace_89 : decode cX5_bestPlace 89 = .ok (.invokestatic 34, 3) := by decide +kernel
theorem dX5_bestPlace_92 : decode cX5_bestPlace 92 = .ok (.iconst 5, 1) := by decide +kernel
theorem dX5_bestPlace_93 : decode cX5_bestPlace 93 = .ok (.iadd, 1) := by decide +kernel
theorem dX5_bestPlace_94 : decode cX5_bestPlace 94 = .ok (.iaload, 1) := by decide +kernel
theorem dX5_bestPlace_95 : decode cX5_bestPlace 95 = .ok (.iload 6, 2) := by decide +kernel
theorem dX5_bestPlace_97 : decode cX5_bestPlace 97 = .ok (.isub, 1) := by decide +kernel
theorem dX5_bestPlace_98 : decode cX5_bestPlace 98 = .ok (.istore 8, 2) := by decide +kernel
theorem dX5_bestPlace_100 : decode cX5_bestPlace 100 = .ok (.iload 8, 2) := by decide +kernel
theorem dX5_bestPlace_102 : decode cX5_bestPlace 102 = .ok (.iload 4, 2) := by decide +kernel
theorem dX5_bestPlace_104 : decode cX5_bestPlace 104 = .ok (.if_icmp .le 8, 3) := by decide +kernel
theorem dX5_bestPlace_107 : decode cX5_bestPlace 107 = .ok (.iload 5, 2) := by decide +kernel
theorem dX5_bestPlace_109 : decode cX5_bestPlace 109 = .ok (.goto 4, 3) := by decide +kernel
theorem dX5_bestPlace_112 : decode cX5_bestPlace 112 = .ok (.iload_n 3, 1) := by decide +kernel
theorem dX5_bestPlace_113 : decode cX5_bestPlace 113 = .ok (.istore_n 3, 1) := by decide +kernel
theorem dX5_bestPlace_114 : decode cX5_bestPlace 114 = .ok (.iload 8, 2) := by decide +kernel
theorem dX5_bestPlace_116 : decode cX5_bestPlace 116 = .ok (.iload 4, 2) := by decide +kernel
theorem dX5_bestPlace_118 : decode cX5_bestPlace 118 = .ok (.if_icmp .le 8, 3) := by decide +kernel
theorem dX5_bestPlace_121 : decode cX5_bestPlace 121 = .ok (.iload 8, 2) := by decide +kernel
theorem dX5_bestPlace_123 : decode cX5_bestPlace 123 = .ok (.goto 5, 3) := by decide +kernel
theorem dX5_bestPlace_126 : decode cX5_bestPlace 126 = .ok (.iload 4, 2) := by decide +kernel
theorem dX5_bestPlace_128 : decode cX5_bestPlace 128 = .ok (.istore 4, 2) := by decide +kernel
theorem dX5_bestPlace_130 : decode cX5_bestPlace 130 = .ok (.iinc 5 1, 3) := by decide +kernel
theorem dX5_bestPlace_133 : decode cX5_bestPlace 133 = .ok (.goto (-103), 3) := by decide +kernel
theorem dX5_bestPlace_136 : decode cX5_bestPlace 136 = .ok (.iload_n 2, 1) := by decide +kernel
theorem dX5_bestPlace_137 : decode cX5_bestPlace 137 = .ok (.ifCond .ne 7, 3) := by decide +kernel
theorem dX5_bestPlace_140 : decode cX5_bestPlace 140 = .ok (.iload_n 3, 1) := by decide +kernel
theorem dX5_bestPlace_141 : decode cX5_bestPlace 141 = .ok (.goto 5, 3) := by decide +kernel
theorem dX5_bestPlace_144 : decode cX5_bestPlace 144 = .ok (.iload 4, 2) := by decide +kernel
theorem dX5_bestPlace_146 : decode cX5_bestPlace 146 = .ok (.ireturn, 1) := by decide +kernel
theorem dX5_put_0 : decode cX5_put 0 = .ok (.iconst 0, 1) := by decide +kernel
theorem dX5_put_1 : decode cX5_put 1 = .ok (.istore_n 3, 1) := by decide +kernel
theorem dX5_put_2 : decode cX5_put 2 = .ok (.iconst 1, 1) := by decide +kernel
theorem dX5_put_3 : decode cX5_put 3 = .ok (.istore 4, 2) := by decide +kernel
theorem dX5_put_5 : decode cX5_put 5 = .ok (.iconst 0, 1) := by decide +kernel
theorem dX5_put_6 : decode cX5_put 6 = .ok (.istore 5, 2) := by decide +kernel
theorem dX5_put_8 : decode cX5_put 8 = .ok (.iconst 0, 1) := by decide +kernel
theorem dX5_put_9 : decode cX5_put 9 = .ok (.istore 6, 2) := by decide +kernel
theorem dX5_put_11 : decode cX5_put 11 = .ok (.iload 6, 2) := by decide +kernel
theorem dX5_put_13 : decode cX5_put 13 = .ok (.bipush 8, 2) := by decide +kernel
theorem dX5_put_15 : decode cX5_put 15 = .ok (.if_icmp .ge 90, 3) := by decide +kernel
theorem dX5_put_18 : decode cX5_put 18 = .ok (.lload_n 1, 1) := by decide +kernel
theorem dX5_put_19 : decode cX5_put 19 = .ok (.bipush 8, 2) := by decide +kernel
theorem dX5_put_21 : decode cX5_put 21 = .ok (.iload 6, 2) := by decide +kernel
theorem dX5_put_23 : decode cX5_put 23 = .ok (.imul, 1) := by decide +kernel
theorem dX5_put_24 : decode cX5_put 24 = .ok (.lshr, 1) := by decide +kernel
theorem dX5_put_25 : decode cX5_put 25 = .ok (.ldc2_w 115, 3) := by decide +kernel
theorem dX5_put_28 : decode cX5_put 28 = .ok (.land, 1) := by decide +kernel
theorem dX5_put_29 : decode cX5_put 29 = .ok (.l2i, 1) := by decide +kernel
theorem dX5_put_30 : decode cX5_put 30 = .ok (.istore 7, 2) := by decide +kernel
theorem dX5_put_32 : decode cX5_put 32 = .ok (.iload 5, 2) := by decide +kernel
theorem dX5_put_34 : decode cX5_put 34 = .ok (.ifCond .ne 8, 3) := by decide +kernel
theorem dX5_put_37 : decode cX5_put 37 = .ok (.iload 7, 2) := by decide +kernel
theorem dX5_put_39 : decode cX5_put 39 = .ok (.ifCond .ne 7, 3) := by decide +kernel
theorem dX5_put_42 : decode cX5_put 42 = .ok (.iconst 1, 1) := by decide +kernel
theorem dX5_put_43 : decode cX5_put 43 = .ok (.goto 4, 3) := by decide +kernel
theorem dX5_put_46 : decode cX5_put 46 = .ok (.iconst 0, 1) := by decide +kernel
theorem dX5_put_47 : decode cX5_put 47 = .ok (.istore 5, 2) := by decide +kernel
theorem dX5_put_49 : decode cX5_put 49 = .ok (.iload 4, 2) := by decide +kernel
theorem dX5_put_51 : decode cX5_put 51 = .ok (.ifCond .eq 32, 3) := by decide +kernel
theorem dX5_put_54 : decode cX5_put 54 = .ok (.iload 5, 2) := by decide +kernel
theorem dX5_put_56 : decode cX5_put 56 = .ok (.ifCond .eq 11, 3) := by decide +kernel
theorem dX5_put_59 : decode cX5_put 59 = .ok (.iload 7, 2) := by decide +kernel
theorem dX5_put_61 : decode cX5_put 61 = .ok (.ifCond .ne 22, 3) := by decide +kernel
theorem dX5_put_64 : decode cX5_put 64 = .ok (.goto 15, 3) := by decide +kernel
theorem dX5_put_67 : decode cX5_put 67 = .ok (.iload 7, 2) := by decide +kernel
theorem dX5_put_69 : decode cX5_put 69 = .ok (.bipush 33, 2) := by decide +kernel
theorem dX5_put_71 : decode cX5_put 71 = .ok (.bipush 126, 2) := by decide +kernel
theorem dX5_put_73 : decode cX5_put 73 = .ok (.invokestatic 26, 3) := by decide +kernel
theorem dX5_put_76 : decode cX5_put 76 = .ok (.ifCond .eq 7, 3) := by decide +kernel
theorem dX5_put_79 : decode cX5_put 79 = .ok (.iconst 1, 1) := by decide +kernel
theorem dX5_put_80 : decode cX5_put 80 = .ok (.goto 4, 3) := by decide +kernel
theorem dX5_put_83 : decode cX5_put 83 = .ok (.iconst 0, 1) := by decide +kernel
theorem dX5_put_84 : decode cX5_put 84 = .ok (.istore 4, 2) := by decide +kernel
theorem dX5_put_86 : decode cX5_put 86 = .ok (.iload_n 3, 1) := by decide +kernel
theorem dX5_put_87 : decode cX5_put 87 = .ok (.iload 5, 2) := by decide +kernel
theorem dX5_put_89 : decode cX5_put 89 = .ok (.ifCond .eq 7, 3) := by decide +kernel
theorem dX5_put_92 : decode cX5_put 92 = .ok (.iconst 0, 1) := by decide +kernel
theorem dX5_put_93 : decode cX5_put 93 = .ok (.goto 4, 3) := by decide +kernel
theorem dX5_put_96 : decode cX5_put 96 = .ok (.iconst 1, 1) := by decide +kernel
theorem dX5_put_97 : decode cX5_put 97 = .ok (.iadd, 1) := by decide +kernel
theorem dX5_put_98 : decode cX5_put 98 = .ok (.istore_n 3, 1) := by decide +kernel
theorem dX5_put_99 : decode cX5_put 99 = .ok (.iinc 6 1, 3) := by decide +kernel
theorem dX5_put_102 : decode cX5_put 102 = .ok (.goto (-91), 3) := by decide +kernel
theorem dX5_put_105 : decode cX5_put 105 = .ok (.iload 4, 2) := by decide +kernel
theorem dX5_put_107 : decode cX5_put 107 = .ok (.ifCond .eq 7, 3) := by decide +kernel
theorem dX5_put_110 : decode cX5_put 110 = .ok (.iload_n 3, 1) := by decide +kernel
theorem dX5_put_111 : decode cX5_put 111 = .ok (.ifCond .ne 6, 3) := by decide +kernel
theorem dX5_put_114 : decode cX5_put 114 = .ok (.bipush (-2), 2) := by decide +kernel
theorem dX5_put_116 : decode cX5_put 116 = .ok (.ireturn, 1) := by decide +kernel
theorem dX5_put_117 : decode cX5_put 117 = .ok (.aload_n 0, 1) := by decide +kernel
theorem dX5_put_118 : decode cX5_put 118 = .ok (.getfield 109, 3) := by decide +kernel
theorem dX5_put_121 : decode cX5_put 121 = .ok (.iload_n 3, 1) := by decide +kernel
theorem dX5_put_122 : decode cX5_put 122 = .ok (.iadd, 1) := by decide +kernel
theorem dX5_put_123 : decode cX5_put 123 = .ok (.bipush 60, 2) := by decide +kernel
theorem dX5_put_125 : decode cX5_put 125 = .ok (.if_icmp .le 6, 3) := by decide +kernel
theorem dX5_put_128 : decode cX5_put 128 = .ok (.bipush (-4), 2) := by decide +kernel
theorem dX5_put_130 : decode cX5_put 130 = .ok (.ireturn, 1) := by decide +kernel
theorem dX5_put_131 : decode cX5_put 131 = .ok (.iload_n 3, 1) := by decide +kernel
theorem dX5_put_132 : decode cX5_put 132 = .ok (.iconst 1, 1) := by decide +kernel
theorem dX5_put_133 : decode cX5_put 133 = .ok (.isub, 1) := by decide +kernel
theorem dX5_put_134 : decode cX5_put 134 = .ok (.istore 6, 2) := by decide +kernel
theorem dX5_put_136 : decode cX5_put 136 = .ok (.iload 6, 2) := by decide +kernel
theorem dX5_put_138 : decode cX5_put 138 = .ok (.ifCond .lt 40, 3) := by decide +kernel
theorem dX5_put_141 : decode cX5_put 141 = .ok (.aload_n 0, 1) := by decide +kernel
theorem dX5_put_142 : decode cX5_put 142 = .ok (.getfield 23, 3) := by decide +kernel
theorem dX5_put_145 : decode cX5_put 145 = .ok (.aload_n 0, 1) := by decide +kernel
theorem dX5_put_146 : decode cX5_put 146 = .ok (.getfield 109, 3) := by decide +kernel
theorem dX5_put_149 : decode cX5_put 149 = .ok (.lload_n 1, 1) := by decide +kernel
theorem dX5_put_150 : decode cX5_put 150 = .ok (.bipush 8, 2) := by decide +kernel
theorem dX5_put_152 : decode cX5_put 152 = .ok (.iload 6, 2) := by decide +kernel
theorem dX5_put_154 : decode cX5_put 154 = .ok (.imul, 1) := by decide +kernel
theorem dX5_put_155 : decode cX5_put 155 = .ok (.lshr, 1) := by decide +kernel
theorem dX5_put_156 : decode cX5_put 156 = .ok (.ldc2_w 115, 3) := by decide +kernel
theorem dX5_put_159 : decode cX5_put 159 = .ok (.land, 1) := by decide +kernel
theorem dX5_put_160 : decode cX5_put 160 = .ok (.l2i, 1) := by decide +kernel
theorem dX5_put_161 : decode cX5_put 161 = .ok (.iastore, 1) := by decide +kernel
theorem dX5_put_162 : decode cX5_put 162 = .ok (.aload_n 0, 1) := by decide +kernel
theorem dX5_put_163 : decode cX5_put 163 = .ok (.dup, 1) := by decide +kernel
theorem dX5_put_164 : decode cX5_put 164 = .ok (.getfield 109, 3) := by decide +kernel
theorem dX5_put_167 : decode cX5_put 167 = .ok (.iconst 1, 1) := by decide +kernel
theorem dX5_put_168 : decode cX5_put 168 = .ok (.iadd, 1) := by decide +kernel
theorem dX5_put_169 : decode cX5_put 169 = .ok (.putfield 109, 3) := by decide +kernel
theorem dX5_put_172 : decode cX5_put 172 = .ok (.iinc 6 (-1), 3) := by decide +kernel
theorem dX5_put_175 : decode cX5_put 175 = .ok (.goto (-39), 3) := by decide +kernel
theorem dX5_put_178 : decode cX5_put 178 = .ok (.aload_n 0, 1) := by decide +kernel
theorem dX5_put_179 : decode cX5_put 179 = .ok (.getfield 109, 3) := by decide +kernel
theorem dX5_put_182 : decode cX5_put 182 = .ok (.ireturn, 1) := by decide +kernel
theorem dX5_wipe_0 : decode cX5_wipe 0 = .ok (.aload_n 0, 1) := by decide +kernel
theorem dX5_wipe_1 : decode cX5_wipe 1 = .ok (.getfield 109, 3) := by decide +kernel
theorem dX5_wipe_4 : decode cX5_wipe 4 = .ok (.istore_n 1, 1) := by decide +kernel
theorem dX5_wipe_5 : decode cX5_wipe 5 = .ok (.aload_n 0, 1) := by decide +kernel
theorem dX5_wipe_6 : decode cX5_wipe 6 = .ok (.iconst 0, 1) := by decide +kernel
theorem dX5_wipe_7 : decode cX5_wipe 7 = .ok (.putfield 109, 3) := by decide +kernel
theorem dX5_wipe_10 : decode cX5_wipe 10 = .ok (.iload_n 1, 1) := by decide +kernel
theorem dX5_wipe_11 : decode cX5_wipe 11 = .ok (.ireturn, 1) := by decide +kernel
theorem dX5_sign_0 : decode cX5_sign 0 = .ok (.iload_n 1, 1) := by decide +kernel
theorem dX5_sign_1 : decode cX5_sign 1 = .ok (.aload_n 0, 1) := by decide +kernel
theorem dX5_sign_2 : decode cX5_sign 2 = .ok (.getfield 109, 3) := by decide +kernel
theorem dX5_sign_5 : decode cX5_sign 5 = .ok (.if_icmp .ge 12, 3) := by decide +kernel
theorem dX5_sign_8 : decode cX5_sign 8 = .ok (.aload_n 0, 1) := by decide +kernel
theorem dX5_sign_9 : decode cX5_sign 9 = .ok (.getfield 23, 3) := by decide +kernel
theorem dX5_sign_12 : decode cX5_sign 12 = .ok (.iload_n 1, 1) := by decide +kernel
theorem dX5_sign_13 : decode cX5_sign 13 = .ok (.iaload, 1) := by decide +kernel
theorem dX5_sign_14 : decode cX5_sign 14 = .ok (.goto 4, 3) := by decide +kernel
theorem dX5_sign_17 : decode cX5_sign 17 = .ok (.iconst (-1), 1) := by decide +kernel
theorem dX5_sign_18 : decode cX5_sign 18 = .ok (.ireturn, 1) := by decide +kernel
theorem dX5_digit_0 : decode cX5_digit 0 = .ok (.aload_n 0, 1) := by decide +kernel
theorem dX5_digit_1 : decode cX5_digit 1 = .ok (.iload_n 1, 1) := by decide +kernel
theorem dX5_digit_2 : decode cX5_digit 2 = .ok (.invokevirtual 117, 3) := by decide +kernel
theorem dX5_digit_5 : decode cX5_digit 5 = .ok (.bipush 48, 2) := by decide +kernel
theorem dX5_digit_7 : decode cX5_digit 7 = .ok (.bipush 57, 2) := by decide +kernel
theorem dX5_digit_9 : decode cX5_digit 9 = .ok (.invokestatic 26, 3) := by decide +kernel
theorem dX5_digit_12 : decode cX5_digit 12 = .ok (.ifCond .eq 14, 3) := by decide +kernel
theorem dX5_digit_15 : decode cX5_digit 15 = .ok (.aload_n 0, 1) := by decide +kernel
theorem dX5_digit_16 : decode cX5_digit 16 = .ok (.iload_n 1, 1) := by decide +kernel
theorem dX5_digit_17 : decode cX5_digit 17 = .ok (.invokevirtual 117, 3) := by decide +kernel
theorem dX5_digit_20 : decode cX5_digit 20 = .ok (.bipush 48, 2) := by decide +kernel
theorem dX5_digit_22 : decode cX5_digit 22 = .ok (.isub, 1) := by decide +kernel
theorem dX5_digit_23 : decode cX5_digit 23 = .ok (.goto 4, 3) := by decide +kernel
theorem dX5_digit_26 : decode cX5_digit 26 = .ok (.iconst (-1), 1) := by decide +kernel
theorem dX5_digit_27 : decode cX5_digit 27 = .ok (.ireturn, 1) := by decide +kernel
theorem dX5_shareEnd_0 : decode cX5_shareEnd 0 = .ok (.aload_n 0, 1) := by decide +kernel
theorem dX5_shareEnd_1 : decode cX5_shareEnd 1 = .ok (.iload_n 1, 1) := by decide +kernel
theorem dX5_shareEnd_2 : decode cX5_shareEnd 2 = .ok (.invokevirtual 120, 3) := by decide +kernel
theorem dX5_shareEnd_5 : decode cX5_shareEnd 5 = .ok (.ifCond .ge 7, 3) := by decide +kernel
theorem dX5_shareEnd_8 : decode cX5_shareEnd 8 = .ok (.iconst (-1), 1) := by decide +kernel
theorem dX5_shareEnd_9 : decode cX5_shareEnd 9 = .ok (.iload_n 1, 1) := by decide +kernel
theorem dX5_shareEnd_10 : decode cX5_shareEnd 10 = .ok (.isub, 1) := by decide +kernel
theorem dX5_shareEnd_11 : decode cX5_shareEnd 11 = .ok (.ireturn, 1) := by decide +kernel
theorem dX5_shareEnd_12 : decode cX5_shareEnd 12 = .ok (.aload_n 0, 1) := by decide +kernel
theorem dX5_shareEnd_13 : decode cX5_shareEnd 13 = .ok (.iload_n 1, 1) := by decide +kernel
theorem dX5_shareEnd_14 : decode cX5_shareEnd 14 = .ok (.invokevirtual 120, 3) := by decide +kernel
theorem dX5_shareEnd_17 : decode cX5_shareEnd 17 = .ok (.ifCond .eq 13, 3) := by decide +kernel
theorem dX5_shareEnd_20 : decode cX5_shareEnd 20 = .ok (.aload_n 0, 1) := by decide +kernel
theorem dX5_shareEnd_21 : decode cX5_shareEnd 21 = .ok (.iload_n 1, 1) := by decide +kernel
theorem dX5_shareEnd_22 : decode cX5_shareEnd 22 = .ok (.iconst 1, 1) := by decide +kernel
theorem dX5_shareEnd_23 : decode cX5_shareEnd 23 = .ok (.iadd, 1) := by decide +kernel
theorem dX5_shareEnd_24 : decode cX5_shareEnd 24 = .ok (.invokevirtual 120, 3) := by decide +kernel
theorem dX5_shareEnd_27 : decode cX5_shareEnd 27 = .ok (.ifCond .ge 7, 3) := by decide +kernel
theorem dX5_shareEnd_30 : decode cX5_shareEnd 30 = .ok (.iload_n 1, 1) := by decide +kernel
theorem dX5_shareEnd_31 : decode cX5_shareEnd 31 = .ok (.iconst 1, 1) := by decide +kernel
theorem dX5_shareEnd_32 : decode cX5_shareEnd 32 = .ok (.iadd, 1) := by decide +kernel
theorem dX5_shareEnd_33 : decode cX5_shareEnd 33 = .ok (.ireturn, 1) := by decide +kernel
theorem dX5_shareEnd_34 : decode cX5_shareEnd 34 = .ok (.aload_n 0, 1) := by decide +kernel
theorem dX5_shareEnd_35 : decode cX5_shareEnd 35 = .ok (.iload_n 1, 1) := by decide +kernel
theorem dX5_shareEnd_36 : decode cX5_shareEnd 36 = .ok (.invokevirtual 120, 3) := by decide +kernel
theorem dX5_shareEnd_39 : decode cX5_shareEnd 39 = .ok (.iconst 1, 1) := by decide +kernel
theorem dX5_shareEnd_40 : decode cX5_shareEnd 40 = .ok (.if_icmp .ne 27, 3) := by decide +kernel
theorem dX5_shareEnd_43 : decode cX5_shareEnd 43 = .ok (.aload_n 0, 1) := by decide +kernel
theorem dX5_shareEnd_44 : decode cX5_shareEnd 44 = .ok (.iload_n 1, 1) := by decide +kernel
theorem dX5_shareEnd_45 : decode cX5_shareEnd 45 = .ok (.iconst 1, 1) := by decide +kernel
theorem dX5_shareEnd_46 : decode cX5_shareEnd 46 = .ok (.iadd, 1) := by decide +kernel
theorem dX5_shareEnd_47 : decode cX5_shareEnd 47 = .ok (.invokevirtual 120, 3) := by decide +kernel
theorem dX5_shareEnd_50 : decode cX5_shareEnd 50 = .ok (.ifCond .ne 17, 3) := by decide +kernel
theorem dX5_shareEnd_53 : decode cX5_shareEnd 53 = .ok (.aload_n 0, 1) := by decide +kernel
theorem dX5_shareEnd_54 : decode cX5_shareEnd 54 = .ok (.iload_n 1, 1) := by decide +kernel
theorem dX5_shareEnd_55 : decode cX5_shareEnd 55 = .ok (.iconst 2, 1) := by decide +kernel
theorem dX5_shareEnd_56 : decode cX5_shareEnd 56 = .ok (.iadd, 1) := by decide +kernel
theorem dX5_shareEnd_57 : decode cX5_shareEnd 57 = .ok (.invokevirtual 120, 3) := by decide +kernel
theorem dX5_shareEnd_60 : decode cX5_shareEnd 60 = .ok (.ifCond .ne 7, 3) := by decide +kernel
theorem dX5_shareEnd_63 : decode cX5_shareEnd 63 = .ok (.iconst 1, 1) := by decide +kernel
theorem dX5_shareEnd_64 : decode cX5_shareEnd 64 = .ok (.goto 4, 3) := by decide +kernel
theorem dX5_shareEnd_67 : decode cX5_shareEnd 67 = .ok (.iconst 0, 1) := by decide +kernel
theorem dX5_shareEnd_68 : decode cX5_shareEnd 68 = .ok (.istore_n 2, 1) := by decide +kernel
theorem dX5_shareEnd_69 : decode cX5_shareEnd 69 = .ok (.iload_n 2, 1) := by decide +kernel
theorem dX5_shareEnd_70 : decode cX5_shareEnd 70 = .ok (.ifCond .eq 9, 3) := by decide +kernel
theorem dX5_shareEnd_73 : decode cX5_shareEnd 73 = .ok (.iload_n 1, 1) := by decide +kernel
theorem dX5_shareEnd_74 : decode cX5_shareEnd 74 = .ok (.iconst 3, 1) := by decide +kernel
theorem dX5_shareEnd_75 : decode cX5_shareEnd 75 = .ok (.iadd, 1) := by decide +kernel
theorem dX5_shareEnd_76 : decode cX5_shareEnd 76 = .ok (.goto 6, 3) := by decide +kernel
theorem dX5_shareEnd_79 : decode cX5_shareEnd 79 = .ok (.iload_n 1, 1) := by decide +kernel
theorem dX5_shareEnd_80 : decode cX5_shareEnd 80 = .ok (.iconst 2, 1) := by decide +kernel
theorem dX5_shareEnd_81 : decode cX5_shareEnd 81 = .ok (.iadd, 1) := by decide +kernel
theorem dX5_shareEnd_82 : decode cX5_shareEnd 82 = .ok (.ireturn, 1) := by decide +kernel
theorem dX5_shareAt_0 : decode cX5_shareAt 0 = .ok (.iconst 0, 1) := by decide +kernel
theorem dX5_shareAt_1 : decode cX5_shareAt 1 = .ok (.istore_n 2, 1) := by decide +kernel
theorem dX5_shareAt_2 : decode cX5_shareAt 2 = .ok (.iload_n 1, 1) := by decide +kernel
theorem dX5_shareAt_3 : decode cX5_shareAt 3 = .ok (.istore_n 3, 1) := by decide +kernel
theorem dX5_shareAt_4 : decode cX5_shareAt 4 = .ok (.iload_n 3, 1) := by decide +kernel
theorem dX5_shareAt_5 : decode cX5_shareAt 5 = .ok (.aload_n 0, 1) := by decide +kernel
theorem dX5_shareAt_6 : decode cX5_shareAt 6 = .ok (.iload_n 1, 1) := by decide +kernel
theorem dX5_shareAt_7 : decode cX5_shareAt 7 = .ok (.invokevirtual 123, 3) := by decide +kernel
theorem dX5_shareAt_10 : decode cX5_shareAt 10 = .ok (.if_icmp .ge 20, 3) := by decide +kernel
theorem dX5_shareAt_13 : decode cX5_shareAt 13 = .ok (.bipush 10, 2) := by decide +kernel
theorem dX5_shareAt_15 : decode cX5_shareAt 15 = .ok (.iload_n 2, 1) := by decide +kernel
theorem dX5_shareAt_16 : decode cX5_shareAt 16 = .ok (.imul, 1) := by decide +kernel
theorem dX5_shareAt_17 : decode cX5_shareAt 17 = .ok (.aload_n 0, 1) := by decide +kernel
theorem dX5_shareAt_18 : decode cX5_shareAt 18 = .ok (.iload_n 3, 1) := by decide +kernel
theorem dX5_shareAt_19 : decode cX5_shareAt 19 = .ok (.invokevirtual 120, 3) := by decide +kernel
theorem dX5_shareAt_22 : decode cX5_shareAt 22 = .ok (.iadd, 1) := by decide +kernel
theorem dX5_shareAt_23 : decode cX5_shareAt 23 = .ok (.istore_n 2, 1) := by decide +kernel
theorem dX5_shareAt_24 : decode cX5_shareAt 24 = .ok (.iinc 3 1, 3) := by decide +kernel
theorem dX5_shareAt_27 : decode cX5_shareAt 27 = .ok (.goto (-23), 3) := by decide +kernel
theorem dX5_shareAt_30 : decode cX5_shareAt 30 = .ok (.iload_n 2, 1) := by decide +kernel
theorem dX5_shareAt_31 : decode cX5_shareAt 31 = .ok (.ireturn, 1) := by decide +kernel
theorem dX5_personEnd_0 : decode cX5_personEnd 0 = .ok (.aload_n 0, 1) := by decide +kernel
theorem dX5_personEnd_1 : decode cX5_personEnd 1 = .ok (.iload_n 1, 1) := by decide +kernel
theorem dX5_personEnd_2 : decode cX5_personEnd 2 = .ok (.invokevirtual 120, 3) := by decide +kernel
theorem dX5_personEnd_5 : decode cX5_personEnd 5 = .ok (.iconst 1, 1) := by decide +kernel
theorem dX5_personEnd_6 : decode cX5_personEnd 6 = .ok (.if_icmp .ge 7, 3) := by decide +kernel
theorem dX5_personEnd_9 : decode cX5_personEnd 9 = .ok (.iconst (-1), 1) := by decide +kernel
theorem dX5_personEnd_10 : decode cX5_personEnd 10 = .ok (.iload_n 1, 1) := by decide +kernel
theorem dX5_personEnd_11 : decode cX5_personEnd 11 = .ok (.isub, 1) := by decide +kernel
theorem dX5_personEnd_12 : decode cX5_personEnd 12 = .ok (.ireturn, 1) := by decide +kernel
theorem dX5_personEnd_13 : decode cX5_personEnd 13 = .ok (.aload_n 0, 1) := by decide +kernel
theorem dX5_personEnd_14 : decode cX5_personEnd 14 = .ok (.iload_n 1, 1) := by decide +kernel
theorem dX5_personEnd_15 : decode cX5_personEnd 15 = .ok (.iconst 1, 1) := by decide +kernel
theorem dX5_personEnd_16 : decode cX5_personEnd 16 = .ok (.iadd, 1) := by decide +kernel
theorem dX5_personEnd_17 : decode cX5_personEnd 17 = .ok (.invokevirtual 117, 3) := by decide +kernel
theorem dX5_personEnd_20 : decode cX5_personEnd 20 = .ok (.bipush 102, 2) := by decide +kernel
theorem dX5_personEnd_22 : decode cX5_personEnd 22 = .ok (.if_icmp .ne 13, 3) := by decide +kernel
theorem dX5_personEnd_25 : decode cX5_personEnd 25 = .ok (.aload_n 0, 1) := by decide +kernel
theorem dX5_personEnd_26 : decode cX5_personEnd 26 = .ok (.iload_n 1, 1) := by decide +kernel
theorem dX5_personEnd_27 : decode cX5_personEnd 27 = .ok (.iconst 2, 1) := by decide +kernel
theorem dX5_personEnd_28 : decode cX5_personEnd 28 = .ok (.iadd, 1) := by decide +kernel
theorem dX5_personEnd_29 : decode cX5_personEnd 29 = .ok (.invokevirtual 123, 3) := by decide +kernel
theorem dX5_personEnd_32 : decode cX5_personEnd 32 = .ok (.goto 7, 3) := by decide +kernel
theorem dX5_personEnd_35 : decode cX5_personEnd 35 = .ok (.bipush (-2), 2) := by decide +kernel
theorem dX5_personEnd_37 : decode cX5_personEnd 37 = .ok (.iload_n 1, 1) := by decide +kernel
theorem dX5_personEnd_38 : decode cX5_personEnd 38 = .ok (.isub, 1) := by decide +kernel
theorem dX5_personEnd_39 : decode cX5_personEnd 39 = .ok (.ireturn, 1) := by decide +kernel
theorem dX5_fault_0 : decode cX5_fault 0 = .ok (.iconst 0, 1) := by decide +kernel
theorem dX5_fault_1 : decode cX5_fault 1 = .ok (.istore_n 1, 1) := by decide +kernel
theorem dX5_fault_2 : decode cX5_fault 2 = .ok (.iconst 0, 1) := by decide +kernel
theorem dX5_fault_3 : decode cX5_fault 3 = .ok (.istore_n 2, 1) := by decide +kernel
theorem dX5_fault_4 : decode cX5_fault 4 = .ok (.iload_n 2, 1) := by decide +kernel
theorem dX5_fault_5 : decode cX5_fault 5 = .ok (.bipush 60, 2) := by decide +kernel
theorem dX5_fault_7 : decode cX5_fault 7 = .ok (.if_icmp .ge 50, 3) := by decide +kernel
theorem dX5_fault_10 : decode cX5_fault 10 = .ok (.aload_n 0, 1) := by decide +kernel
theorem dX5_fault_11 : decode cX5_fault 11 = .ok (.iload_n 1, 1) := by decide +kernel
theorem dX5_fault_12 : decode cX5_fault 12 = .ok (.invokevirtual 126, 3) := by decide +kernel
theorem dX5_fault_15 : decode cX5_fault 15 = .ok (.istore_n 3, 1) := by decide +kernel
theorem dX5_fault_16 : decode cX5_fault 16 = .ok (.iload_n 3, 1) := by decide +kernel
theorem dX5_fault_17 : decode cX5_fault 17 = .ok (.ifCond .ge 7, 3) := by decide +kernel
theorem dX5_fault_20 : decode cX5_fault 20 = .ok (.iconst (-1), 1) := by decide +kernel
theorem dX5_fault_21 : decode cX5_fault 21 = .ok (.iload_n 3, 1) := by decide +kernel
theorem dX5_fault_22 : decode cX5_fault 22 = .ok (.isub, 1) := by decide +kernel
theorem dX5_fault_23 : decode cX5_fault 23 = .ok (.ireturn, 1) := by decide +kernel
theorem dX5_fault_24 : decode cX5_fault 24 = .ok (.iload_n 3, 1) := by decide +kernel
theorem dX5_fault_25 : decode cX5_fault 25 = .ok (.aload_n 0, 1) := by decide +kernel
theorem dX5_fault_26 : decode cX5_fault 26 = .ok (.getfield 109, 3) := by decide +kernel
theorem dX5_fault_29 : decode cX5_fault 29 = .ok (.if_icmp .ne 6, 3) := by decide +kernel
theorem dX5_fault_32 : decode cX5_fault 32 = .ok (.bipush (-6), 2) := by decide +kernel
theorem dX5_fault_34 : decode cX5_fault 34 = .ok (.ireturn, 1) := by decide +kernel
theorem dX5_fault_35 : decode cX5_fault 35 = .ok (.aload_n 0, 1) := by decide +kernel
theorem dX5_fault_36 : decode cX5_fault 36 = .ok (.iload_n 3, 1) := by decide +kernel
theorem dX5_fault_37 : decode cX5_fault 37 = .ok (.invokevirtual 117, 3) := by decide +kernel
theorem dX5_fault_40 : decode cX5_fault 40 = .ok (.bipush 44, 2) := by decide +kernel
theorem dX5_fault_42 : decode cX5_fault 42 = .ok (.if_icmp .eq 5, 3) := by decide +kernel
theorem dX5_fault_45 : decode cX5_fault 45 = .ok (.iload_n 3, 1) := by decide +kernel
theorem dX5_fault_46 : decode cX5_fault 46 = .ok (.ireturn, 1) := by decide +kernel
theorem dX5_fault_47 : decode cX5_fault 47 = .ok (.iload_n 3, 1) := by decide +kernel
theorem dX5_fault_48 : decode cX5_fault 48 = .ok (.iconst 1, 1) := by decide +kernel
theorem dX5_fault_49 : decode cX5_fault 49 = .ok (.iadd, 1) := by decide +kernel
theorem dX5_fault_50 : decode cX5_fault 50 = .ok (.istore_n 1, 1) := by decide +kernel
theorem dX5_fault_51 : decode cX5_fault 51 = .ok (.iinc 2 1, 3) := by decide +kernel
theorem dX5_fault_54 : decode cX5_fault 54 = .ok (.goto (-50), 3) := by decide +kernel
theorem dX5_fault_57 : decode cX5_fault 57 = .ok (.bipush (-6), 2) := by decide +kernel
theorem dX5_fault_59 : decode cX5_fault 59 = .ok (.ireturn, 1) := by decide +kernel
theorem dX5_peopleOfPad_0 : decode cX5_peopleOfPad 0 = .ok (.iconst 0, 1) := by decide +kernel
theorem dX5_peopleOfPad_1 : decode cX5_peopleOfPad 1 = .ok (.istore_n 1, 1) := by decide +kernel
theorem dX5_peopleOfPad_2 : decode cX5_peopleOfPad 2 = .ok (.iconst 0, 1) := by decide +kernel
theorem dX5_peopleOfPad_3 : decode cX5_peopleOfPad 3 = .ok (.istore_n 2, 1) := by decide +kernel
theorem dX5_peopleOfPad_4 : decode cX5_peopleOfPad 4 = .ok (.iload_n 2, 1) := by decide +kernel
theorem dX5_peopleOfPad_5 : decode cX5_peopleOfPad 5 = .ok (.aload_n 0, 1) := by decide +kernel
theorem dX5_peopleOfPad_6 : decode cX5_peopleOfPad 6 = .ok (.getfield 109, 3) := by decide +kernel
theorem dX5_peopleOfPad_9 : decode cX5_peopleOfPad 9 = .ok (.if_icmp .ge 17, 3) := by decide +kernel
theorem dX5_peopleOfPad_12 : decode cX5_peopleOfPad 12 = .ok (.iinc 1 1, 3) := by decide +kernel
theorem dX5_peopleOfPad_15 : decode cX5_peopleOfPad 15 = .ok (.aload_n 0, 1) := by decide +kernel
theorem dX5_peopleOfPad_16 : decode cX5_peopleOfPad 16 = .ok (.iload_n 2, 1) := by decide +kernel
theorem dX5_peopleOfPad_17 : decode cX5_peopleOfPad 17 = .ok (.invokevirtual 126, 3) := by decide +kernel
theorem dX5_peopleOfPad_20 : decode cX5_peopleOfPad 20 = .ok (.iconst 1, 1) := by decide +kernel
theorem dX5_peopleOfPad_21 : decode cX5_peopleOfPad 21 = .ok (.iadd, 1) := by decide +kernel
theorem dX5_peopleOfPad_22 : decode cX5_peopleOfPad 22 = .ok (.istore_n 2, 1) := by decide +kernel
theorem dX5_peopleOfPad_23 : decode cX5_peopleOfPad 23 = .ok (.goto (-19), 3) := by decide +kernel
theorem dX5_peopleOfPad_26 : decode cX5_peopleOfPad 26 = .ok (.iload_n 1, 1) := by decide +kernel
theorem dX5_peopleOfPad_27 : decode cX5_peopleOfPad 27 = .ok (.ireturn, 1) := by decide +kernel
theorem dX5_read_0 : decode cX5_read 0 = .ok (.aload_n 0, 1) := by decide +kernel
theorem dX5_read_1 : decode cX5_read 1 = .ok (.invokevirtual 129, 3) := by decide +kernel
theorem dX5_read_4 : decode cX5_read 4 = .ok (.bipush (-6), 2) := by decide +kernel
theorem dX5_read_6 : decode cX5_read 6 = .ok (.if_icmp .eq 6, 3) := by decide +kernel
theorem dX5_read_9 : decode cX5_read 9 = .ok (.bipush (-3), 2) := by decide +kernel
theorem dX5_read_11 : decode cX5_read 11 = .ok (.ireturn, 1) := by decide +kernel
theorem dX5_read_12 : decode cX5_read 12 = .ok (.aload_n 0, 1) := by decide +kernel
theorem dX5_read_13 : decode cX5_read 13 = .ok (.getfield 7, 3) := by decide +kernel
theorem dX5_read_16 : decode cX5_read 16 = .ok (.bipush 7, 2) := by decide +kernel
theorem dX5_read_18 : decode cX5_read 18 = .ok (.iaload, 1) := by decide +kernel
theorem dX5_read_19 : decode cX5_read 19 = .ok (.aload_n 0, 1) := by decide +kernel
theorem dX5_read_20 : decode cX5_read 20 = .ok (.invokevirtual 133, 3) := by decide +kernel
theorem dX5_read_23 : decode cX5_read 23 = .ok (.iadd, 1) := by decide +kernel
theorem dX5_read_24 : decode cX5_read 24 = .ok (.bipush 8, 2) := by decide +kernel
theorem dX5_read_26 : decode cX5_read 26 = .ok (.if_icmp .le 6, 3) := by decide +kernel
theorem dX5_read_29 : decode cX5_read 29 = .ok (.bipush (-4), 2) := by decide +kernel
theorem dX5_read_31 : decode cX5_read 31 = .ok (.ireturn, 1) := by decide +kernel
theorem dX5_read_32 : decode cX5_read 32 = .ok (.aload_n 0, 1) := by decide +kernel
theorem dX5_read_33 : decode cX5_read 33 = .ok (.invokevirtual 87, 3) := by decide +kernel
theorem dX5_read_36 : decode cX5_read 36 = .ok (.iconst 0, 1) := by decide +kernel
theorem dX5_read_37 : decode cX5_read 37 = .ok (.istore_n 1, 1) := by decide +kernel
theorem dX5_read_38 : decode cX5_read 38 = .ok (.iload_n 1, 1) := by decide +kernel
theorem dX5_read_39 : decode cX5_read 39 = .ok (.aload_n 0, 1) := by decide +kernel
theorem dX5_read_40 : decode cX5_read 40 = .ok (.getfield 109, 3) := by decide +kernel
theorem dX5_read_43 : decode cX5_read 43 = .ok (.if_icmp .ge 30, 3) := by decide +kernel
theorem dX5_read_46 : decode cX5_read 46 = .ok (.aload_n 0, 1) := by decide +kernel
theorem dX5_read_47 : decode cX5_read 47 = .ok (.aload_n 0, 1) := by decide +kernel
theorem dX5_read_48 : decode cX5_read 48 = .ok (.iload_n 1, 1) := by decide +kernel
theorem dX5_read_49 : decode cX5_read 49 = .ok (.invokevirtual 120, 3) := by decide +kernel
theorem dX5_read_52 : decode cX5_read 52 = .ok (.aload_n 0, 1) := by decide +kernel
theorem dX5_read_53 : decode cX5_read 53 = .ok (.iload_n 1, 1) := by decide +kernel
theorem dX5_read_54 : decode cX5_read 54 = .ok (.iconst 2, 1) := by decide +kernel
theorem dX5_read_55 : decode cX5_read 55 = .ok (.iadd, 1) := by decide +kernel
theorem dX5_read_56 : decode cX5_read 56 = .ok (.invokevirtual 136, 3) := by decide +kernel
theorem dX5_read_59 : decode cX5_read 59 = .ok (.invokevirtual 90, 3) := by decide +kernel
theorem dX5_read_62 : decode cX5_read 62 = .ok (.aload_n 0, 1) := by decide +kernel
theorem dX5_read_63 : decode cX5_read 63 = .ok (.iload_n 1, 1) := by decide +kernel
theorem dX5_read_64 : decode cX5_read 64 = .ok (.invokevirtual 126, 3) := by decide +kernel
theorem dX5_read_67 : decode cX5_read 67 = .ok (.iconst 1, 1) := by decide +kernel
theorem dX5_read_68 : decode cX5_read 68 = .ok (.iadd, 1) := by decide +kernel
theorem dX5_read_69 : decode cX5_read 69 = .ok (.istore_n 1, 1) := by decide +kernel
theorem dX5_read_70 : decode cX5_read 70 = .ok (.goto (-32), 3) := by decide +kernel
theorem dX5_read_73 : decode cX5_read 73 = .ok (.aload_n 0, 1) := by decide +kernel
theorem dX5_read_74 : decode cX5_read 74 = .ok (.iconst 0, 1) := by decide +kernel
theorem dX5_read_75 : decode cX5_read 75 = .ok (.putfield 109, 3) := by decide +kernel
theorem dX5_read_78 : decode cX5_read 78 = .ok (.aload_n 0, 1) := by decide +kernel
theorem dX5_read_79 : decode cX5_read 79 = .ok (.getfield 7, 3) := by decide +kernel
theorem dX5_read_82 : decode cX5_read 82 = .ok (.bipush 7, 2) := by decide +kernel
theorem dX5_read_84 : decode cX5_read 84 = .ok (.iaload, 1) := by decide +kernel
theorem dX5_read_85 : decode cX5_read 85 = .ok (.ireturn, 1) := by decide +kernel
theorem dX5_undo_0 : decode cX5_undo 0 = .ok (.aload_n 0, 1) := by decide +kernel
theorem dX5_undo_1 : decode cX5_undo 1 = .ok (.getfield 30, 3) := by decide +kernel
theorem dX5_undo_4 : decode cX5_undo 4 = .ok (.ifCond .ne 6, 3) := by decide +kernel
theorem dX5_undo_7 : decode cX5_undo 7 = .ok (.bipush (-5), 2) := by decide +kernel
theorem dX5_undo_9 : decode cX5_undo 9 = .ok (.ireturn, 1) := by decide +kernel
theorem dX5_undo_10 : decode cX5_undo 10 = .ok (.aload_n 0, 1) := by decide +kernel
theorem dX5_undo_11 : decode cX5_undo 11 = .ok (.dup, 1) := by decide +kernel
theorem dX5_undo_12 : decode cX5_undo 12 = .ok (.getfield 30, 3) := by decide +kernel
theorem dX5_undo_15 : decode cX5_undo 15 = .ok (.iconst 1, 1) := by decide +kernel
theorem dX5_undo_16 : decode cX5_undo 16 = .ok (.isub, 1) := by decide +kernel
theorem dX5_undo_17 : decode cX5_undo 17 = .ok (.putfield 30, 3) := by decide +kernel
theorem dX5_undo_20 : decode cX5_undo 20 = .ok (.iconst 0, 1) := by decide +kernel
theorem dX5_undo_21 : decode cX5_undo 21 = .ok (.istore_n 1, 1) := by decide +kernel
theorem dX5_undo_22 : decode cX5_undo 22 = .ok (.iload_n 1, 1) := by decide +kernel
theorem dX5_undo_23 : decode cX5_undo 23 = .ok (.bipush 65, 2) := by decide +kernel
theorem dX5_undo_25 : decode cX5_undo 25 = .ok (.if_icmp .ge 29, 3) := by decide +kernel
theorem dX5_undo_28 : decode cX5_undo 28 = .ok (.aload_n 0, 1) := by decide +kernel
theorem dX5_undo_29 : decode cX5_undo 29 = .ok (.getfield 7, 3) := by decide +kernel
theorem dX5_undo_32 : decode cX5_undo 32 = .ok (.iload_n 1, 1) := by decide +kernel
theorem dX5_undo_33 : decode cX5_undo 33 = .ok (.aload_n 0, 1) := by decide +kernel
theorem dX5_undo_34 : decode cX5_undo 34 = .ok (.getfield 13, 3) := by decide +kernel
theorem dX5_undo_37 : decode cX5_undo 37 = .ok (.bipush 65, 2) := by decide +kernel
theorem dX5_undo_39 : decode cX5_undo 39 = .ok (.aload_n 0, 1) := by decide +kernel
theorem dX5_undo_40 : decode cX5_undo 40 = .ok (.getfield 30, 3) := by decide +kernel
theorem dX5_undo_43 : decode cX5_undo 43 = .ok (.imul, 1) := by decide +kernel
theorem dX5_undo_44 : decode cX5_undo 44 = .ok (.iload_n 1, 1) := by decide +kernel
theorem dX5_undo_45 : decode cX5_undo 45 = .ok (.iadd, 1) := by decide +kernel
theorem dX5_undo_46 : decode cX5_undo 46 = .ok (.iaload, 1) := by decide +kernel
theorem dX5_undo_47 : decode cX5_undo 47 = .ok (.iastore, 1) := by decide +kernel
theorem dX5_undo_48 : decode cX5_undo 48 = .ok (.iinc 1 1, 3) := by decide +kernel
theorem dX5_undo_51 : decode cX5_undo 51 = .ok (.goto (-29), 3) := by decide +kernel
theorem dX5_undo_54 : decode cX5_undo 54 = .ok (.aload_n 0, 1) := by decide +kernel
theorem dX5_undo_55 : decode cX5_undo 55 = .ok (.getfield 30, 3) := by decide +kernel
theorem dX5_undo_58 : decode cX5_undo 58 = .ok (.ireturn, 1) := by decide +kernel
theorem dX5_save_0 : decode cX5_save 0 = .ok (.iload_n 1, 1) := by decide +kernel
theorem dX5_save_1 : decode cX5_save 1 = .ok (.iconst 0, 1) := by decide +kernel
theorem dX5_save_2 : decode cX5_save 2 = .ok (.iconst 1, 1) := by decide +kernel
theorem dX5_save_3 : decode cX5_save 3 = .ok (.invokestatic 26, 3) := by decide +kernel
theorem dX5_save_6 : decode cX5_save 6 = .ok (.ifCond .ne 6, 3) := by decide +kernel
theorem dX5_save_9 : decode cX5_save 9 = .ok (.bipush (-2), 2) := by decide +kernel
theorem dX5_save_11 : decode cX5_save 11 = .ok (.ireturn, 1) := by decide +kernel
theorem dX5_save_12 : decode cX5_save 12 = .ok (.iconst 0, 1) := by decide +kernel
theorem dX5_save_13 : decode cX5_save 13 = .ok (.istore_n 2, 1) := by decide +kernel
theorem dX5_save_14 : decode cX5_save 14 = .ok (.iload_n 2, 1) := by decide +kernel
theorem dX5_save_15 : decode cX5_save 15 = .ok (.bipush 65, 2) := by decide +kernel
theorem dX5_save_17 : decode cX5_save 17 = .ok (.if_icmp .ge 26, 3) := by decide +kernel
theorem dX5_save_20 : decode cX5_save 20 = .ok (.aload_n 0, 1) := by decide +kernel
theorem dX5_save_21 : decode cX5_save 21 = .ok (.getfield 16, 3) := by decide +kernel
theorem dX5_save_24 : decode cX5_save 24 = .ok (.bipush 65, 2) := by decide +kernel
theorem dX5_save_26 : decode cX5_save 26 = .ok (.iload_n 1, 1) := by decide +kernel
theorem dX5_save_27 : decode cX5_save 27 = .ok (.imul, 1) := by decide +kernel
theorem dX5_save_28 : decode cX5_save 28 = .ok (.iload_n 2, 1) := by decide +kernel
theorem dX5_save_29 : decode cX5_save 29 = .ok (.iadd, 1) := by decide +kernel
theorem dX5_save_30 : decode cX5_save 30 = .ok (.aload_n 0, 1) := by decide +kernel
theorem dX5_save_31 : decode cX5_save 31 = .ok (.getfield 7, 3) := by decide +kernel
theorem dX5_save_34 : decode cX5_save 34 = .ok (.iload_n 2, 1) := by decide +kernel
theorem dX5_save_35 : decode cX5_save 35 = .ok (.iaload, 1) := by decide +kernel
theorem dX5_save_36 : decode cX5_save 36 = .ok (.iastore, 1) := by decide +kernel
theorem dX5_save_37 : decode cX5_save 37 = .ok (.iinc 2 1, 3) := by decide +kernel
theorem dX5_save_40 : decode cX5_save 40 = .ok (.goto (-26), 3) := by decide +kernel
theorem dX5_save_43 : decode cX5_save 43 = .ok (.aload_n 0, 1) := by decide +kernel
theorem dX5_save_44 : decode cX5_save 44 = .ok (.getfield 19, 3) := by decide +kernel
theorem dX5_save_47 : decode cX5_save 47 = .ok (.iload_n 1, 1) := by decide +kernel
theorem dX5_save_48 : decode cX5_save 48 = .ok (.iconst 1, 1) := by decide +kernel
theorem dX5_save_49 : decode cX5_save 49 = .ok (.bastore, 1) := by decide +kernel
theorem dX5_save_50 : decode cX5_save 50 = .ok (.aload_n 0, 1) := by decide +kernel
theorem dX5_save_51 : decode cX5_save 51 = .ok (.getfield 7, 3) := by decide +kernel
theorem dX5_save_54 : decode cX5_save 54 = .ok (.bipush 6, 2) := by decide +kernel
theorem dX5_save_56 : decode cX5_save 56 = .ok (.iaload, 1) := by decide +kernel
theorem dX5_save_57 : decode cX5_save 57 = .ok (.ireturn, 1) := by decide +kernel
theorem dX5_restore_0 : decode cX5_restore 0 = .ok (.iload_n 1, 1) := by decide +kernel
theorem dX5_restore_1 : decode cX5_restore 1 = .ok (.iconst 0, 1) := by decide +kernel
theorem dX5_restore_2 : decode cX5_restore 2 = .ok (.iconst 1, 1) := by decide +kernel
theorem dX5_restore_3 : decode cX5_restore 3 = .ok (.invokestatic 26, 3) := by decide +kernel
theorem dX5_restore_6 : decode cX5_restore 6 = .ok (.ifCond .ne 6, 3) := by decide +kernel
theorem dX5_restore_9 : decode cX5_restore 9 = .ok (.bipush (-2), 2) := by decide +kernel
theorem dX5_restore_11 : decode cX5_restore 11 = .ok (.ireturn, 1) := by decide +kernel
theorem dX5_restore_12 : decode cX5_restore 12 = .ok (.aload_n 0, 1) := by decide +kernel
theorem dX5_restore_13 : decode cX5_restore 13 = .ok (.getfield 19, 3) := by decide +kernel
theorem dX5_restore_16 : decode cX5_restore 16 = .ok (.iload_n 1, 1) := by decide +kernel
theorem dX5_restore_17 : decode cX5_restore 17 = .ok (.baload, 1) := by decide +kernel
theorem dX5_restore_18 : decode cX5_restore 18 = .ok (.ifCond .ne 6, 3) := by decide +kernel
theorem dX5_restore_21 : decode cX5_restore 21 = .ok (.bipush (-5), 2) := by decide +kernel
theorem dX5_restore_23 : decode cX5_restore 23 = .ok (.ireturn, 1) := by decide +kernel
theorem dX5_restore_24 : decode cX5_restore 24 = .ok (.aload_n 0, 1) := by decide +kernel
theorem dX5_restore_25 : decode cX5_restore 25 = .ok (.invokevirtual 87, 3) := by decide +kernel
theorem dX5_restore_28 : decode cX5_restore 28 = .ok (.iconst 0, 1) := by decide +kernel
theorem dX5_restore_29 : decode cX5_restore 29 = .ok (.istore_n 2, 1) := by decide +kernel
theorem dX5_restore_30 : decode cX5_restore 30 = .ok (.iload_n 2, 1) := by decide +kernel
theorem dX5_restore_31 : decode cX5_restore 31 = .ok (.bipush 65, 2) := by decide +kernel
theorem dX5_restore_33 : decode cX5_restore 33 = .ok (.if_icmp .ge 26, 3) := by decide +kernel
theorem dX5_restore_36 : decode cX5_restore 36 = .ok (.aload_n 0, 1) := by decide +kernel
theorem dX5_restore_37 : decode cX5_restore 37 = .ok (.getfield 7, 3) := by decide +kernel
theorem dX5_restore_40 : decode cX5_restore 40 = .ok (.iload_n 2, 1) := by decide +kernel
theorem dX5_restore_41 : decode cX5_restore 41 = .ok (.aload_n 0, 1) := by decide +kernel
theorem dX5_restore_42 : decode cX5_restore 42 = .ok (.getfield 16, 3) := by decide +kernel
theorem dX5_restore_45 : decode cX5_restore 45 = .ok (.bipush 65, 2) := by decide +kernel
theorem dX5_restore_47 : decode cX5_restore 47 = .ok (.iload_n 1, 1) := by decide +kernel
theorem dX5_restore_48 : decode cX5_restore 48 = .ok (.imul, 1) := by decide +kernel
theorem dX5_restore_49 : decode cX5_restore 49 = .ok (.iload_n 2, 1) := by decide +kernel
theorem dX5_restore_50 : decode cX5_restore 50 = .ok (.iadd, 1) := by decide +kernel
theorem dX5_restore_51 : decode cX5_restore 51 = .ok (.iaload, 1) := by decide +kernel
theorem dX5_restore_52 : decode cX5_restore 52 = .ok (.iastore, 1) := by decide +kernel
theorem dX5_restore_53 : decode cX5_restore 53 = .ok (.iinc 2 1, 3) := by decide +kernel
theorem dX5_restore_56 : decode cX5_restore 56 = .ok (.goto (-26), 3) := by decide +kernel
theorem dX5_restore_59 : decode cX5_restore 59 = .ok (.aload_n 0, 1) := by decide +kernel
theorem dX5_restore_60 : decode cX5_restore 60 = .ok (.getfield 7, 3) := by decide +kernel
theorem dX5_restore_63 : decode cX5_restore 63 = .ok (.bipush 6, 2) := by decide +kernel
theorem dX5_restore_65 : decode cX5_restore 65 = .ok (.iaload, 1) := by decide +kernel
theorem dX5_restore_66 : decode cX5_restore 66 = .ok (.ireturn, 1) := by decide +kernel
