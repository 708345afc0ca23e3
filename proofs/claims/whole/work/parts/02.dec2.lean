theorem dX3_nextHand_36 : decode cX3_nextHand 36 = .ok (.iload_n 1, 1) := by decide +kernel
theorem dX3_nextHand_37 : decode cX3_nextHand 37 = .ok (.invokevirtual 139, 3) := by decide +kernel
theorem dX3_nextHand_40 : decode cX3_nextHand 40 = .ok (.istore_n 1, 1) := by decide +kernel
theorem dX3_nextHand_41 : decode cX3_nextHand 41 = .ok (.iinc 2 1, 3) := by decide +kernel
theorem dX3_nextHand_44 : decode cX3_nextHand 44 = .ok (.goto (-37), 3) := by decide +kernel
theorem dX3_nextHand_47 : decode cX3_nextHand 47 = .ok (.bipush (-6), 2) := by decide +kernel
theorem dX3_nextHand_49 : decode cX3_nextHand 49 = .ok (.ireturn, 1) := by decide +kernel
theorem dX3_endMonth_0 : decode cX3_endMonth 0 = .ok (.aload_n 0, 1) := by decide +kernel
theorem dX3_endMonth_1 : decode cX3_endMonth 1 = .ok (.aload_n 0, 1) := by decide +kernel
theorem dX3_endMonth_2 : decode cX3_endMonth 2 = .ok (.getfield 36, 3) := by decide +kernel
theorem dX3_endMonth_5 : decode cX3_endMonth 5 = .ok (.invokevirtual 70, 3) := by decide +kernel
theorem dX3_endMonth_8 : decode cX3_endMonth 8 = .ok (.astore_n 1, 1) := by decide +kernel
theorem dX3_endMonth_9 : decode cX3_endMonth 9 = .ok (.aload_n 1, 1) := by decide +kernel
theorem dX3_endMonth_10 : decode cX3_endMonth 10 = .ok (.ifnonnull 25, 3) := by decide +kernel
theorem dX3_endMonth_13 : decode cX3_endMonth 13 = .ok (.aload_n 0, 1) := by decide +kernel
theorem dX3_endMonth_14 : decode cX3_endMonth 14 = .ok (.dup, 1) := by decide +kernel
theorem dX3_endMonth_15 : decode cX3_endMonth 15 = .ok (.getfield 57, 3) := by decide +kernel
theorem dX3_endMonth_18 : decode cX3_endMonth 18 = .ok (.aload_n 0, 1) := by decide +kernel
theorem dX3_endMonth_19 : decode cX3_endMonth 19 = .ok (.aload_n 0, 1) := by decide +kernel
theorem dX3_endMonth_20 : decode cX3_endMonth 20 = .ok (.getfield 18, 3) := by decide +kernel
theorem dX3_endMonth_23 : decode cX3_endMonth 23 = .ok (.iconst 1, 1) := by decide +kernel
theorem dX3_endMonth_24 : decode cX3_endMonth 24 = .ok (.iaload, 1) := by decide +kernel
theorem dX3_endMonth_25 : decode cX3_endMonth 25 = .ok (.iconst 2, 1) := by decide +kernel
theorem dX3_endMonth_26 : decode cX3_endMonth 26 = .ok (.idiv, 1) := by decide +kernel
theorem dX3_endMonth_27 : decode cX3_endMonth 27 = .ok (.invokevirtual 143, 3) := by decide +kernel
theorem dX3_endMonth_30 : decode cX3_endMonth 30 = .ok (.iadd, 1) := by decide +kernel
theorem dX3_endMonth_31 : decode cX3_endMonth 31 = .ok (.putfield 57, 3) := by decide +kernel
theorem dX3_endMonth_34 : decode cX3_endMonth 34 = .ok (.return_, 1) := by decide +kernel
theorem dX3_endMonth_35 : decode cX3_endMonth 35 = .ok (.aload_n 0, 1) := by decide +kernel
theorem dX3_endMonth_36 : decode cX3_endMonth 36 = .ok (.aload_n 0, 1) := by decide +kernel
theorem dX3_endMonth_37 : decode cX3_endMonth 37 = .ok (.getfield 18, 3) := by decide +kernel
theorem dX3_endMonth_40 : decode cX3_endMonth 40 = .ok (.iconst 1, 1) := by decide +kernel
theorem dX3_endMonth_41 : decode cX3_endMonth 41 = .ok (.iaload, 1) := by decide +kernel
theorem dX3_endMonth_42 : decode cX3_endMonth 42 = .ok (.invokevirtual 143, 3) := by decide +kernel
theorem dX3_endMonth_45 : decode cX3_endMonth 45 = .ok (.istore_n 2, 1) := by decide +kernel
theorem dX3_endMonth_46 : decode cX3_endMonth 46 = .ok (.iload_n 2, 1) := by decide +kernel
theorem dX3_endMonth_47 : decode cX3_endMonth 47 = .ok (.aload_n 1, 1) := by decide +kernel
theorem dX3_endMonth_48 : decode cX3_endMonth 48 = .ok (.getfield 146, 3) := by decide +kernel
theorem dX3_endMonth_51 : decode cX3_endMonth 51 = .ok (.imul, 1) := by decide +kernel
theorem dX3_endMonth_52 : decode cX3_endMonth 52 = .ok (.bipush 100, 2) := by decide +kernel
theorem dX3_endMonth_54 : decode cX3_endMonth 54 = .ok (.idiv, 1) := by decide +kernel
theorem dX3_endMonth_55 : decode cX3_endMonth 55 = .ok (.istore_n 3, 1) := by decide +kernel
theorem dX3_endMonth_56 : decode cX3_endMonth 56 = .ok (.aload_n 0, 1) := by decide +kernel
theorem dX3_endMonth_57 : decode cX3_endMonth 57 = .ok (.dup, 1) := by decide +kernel
theorem dX3_endMonth_58 : decode cX3_endMonth 58 = .ok (.getfield 57, 3) := by decide +kernel
theorem dX3_endMonth_61 : decode cX3_endMonth 61 = .ok (.iload_n 3, 1) := by decide +kernel
theorem dX3_endMonth_62 : decode cX3_endMonth 62 = .ok (.iadd, 1) := by decide +kernel
theorem dX3_endMonth_63 : decode cX3_endMonth 63 = .ok (.putfield 57, 3) := by decide +kernel
theorem dX3_endMonth_66 : decode cX3_endMonth 66 = .ok (.aload_n 1, 1) := by decide +kernel
theorem dX3_endMonth_67 : decode cX3_endMonth 67 = .ok (.dup, 1) := by decide +kernel
theorem dX3_endMonth_68 : decode cX3_endMonth 68 = .ok (.getfield 86, 3) := by decide +kernel
theorem dX3_endMonth_71 : decode cX3_endMonth 71 = .ok (.iload_n 2, 1) := by decide +kernel
theorem dX3_endMonth_72 : decode cX3_endMonth 72 = .ok (.iload_n 3, 1) := by decide +kernel
theorem dX3_endMonth_73 : decode cX3_endMonth 73 = .ok (.isub, 1) := by decide +kernel
theorem dX3_endMonth_74 : decode cX3_endMonth 74 = .ok (.iadd, 1) := by decide +kernel
theorem dX3_endMonth_75 : decode cX3_endMonth 75 = .ok (.putfield 86, 3) := by decide +kernel
theorem dX3_endMonth_78 : decode cX3_endMonth 78 = .ok (.aload_n 0, 1) := by decide +kernel
theorem dX3_endMonth_79 : decode cX3_endMonth 79 = .ok (.bipush 99, 2) := by decide +kernel
theorem dX3_endMonth_81 : decode cX3_endMonth 81 = .ok (.aload_n 0, 1) := by decide +kernel
theorem dX3_endMonth_82 : decode cX3_endMonth 82 = .ok (.getfield 33, 3) := by decide +kernel
theorem dX3_endMonth_85 : decode cX3_endMonth 85 = .ok (.iload_n 3, 1) := by decide +kernel
theorem dX3_endMonth_86 : decode cX3_endMonth 86 = .ok (.iconst 2, 1) := by decide +kernel
theorem dX3_endMonth_87 : decode cX3_endMonth 87 = .ok (.idiv, 1) := by decide +kernel
theorem dX3_endMonth_88 : decode cX3_endMonth 88 = .ok (.iadd, 1) := by decide +kernel
theorem dX3_endMonth_89 : decode cX3_endMonth 89 = .ok (.invokestatic 149, 3) := by decide +kernel
theorem dX3_endMonth_92 : decode cX3_endMonth 92 = .ok (.putfield 33, 3) := by decide +kernel
theorem dX3_endMonth_95 : decode cX3_endMonth 95 = .ok (.aload_n 0, 1) := by decide +kernel
theorem dX3_endMonth_96 : decode cX3_endMonth 96 = .ok (.getfield 33, 3) := by decide +kernel
theorem dX3_endMonth_99 : decode cX3_endMonth 99 = .ok (.aload_n 0, 1) := by decide +kernel
theorem dX3_endMonth_100 : decode cX3_endMonth 100 = .ok (.getfield 18, 3) := by decide +kernel
theorem dX3_endMonth_103 : decode cX3_endMonth 103 = .ok (.iconst 5, 1) := by decide +kernel
theorem dX3_endMonth_104 : decode cX3_endMonth 104 = .ok (.iaload, 1) := by decide +kernel
theorem dX3_endMonth_105 : decode cX3_endMonth 105 = .ok (.if_icmp .ge 8, 3) := by decide +kernel
theorem dX3_endMonth_108 : decode cX3_endMonth 108 = .ok (.aload_n 0, 1) := by decide +kernel
theorem dX3_endMonth_109 : decode cX3_endMonth 109 = .ok (.iconst 0, 1) := by decide +kernel
theorem dX3_endMonth_110 : decode cX3_endMonth 110 = .ok (.invokevirtual 105, 3) := by decide +kernel
theorem dX3_endMonth_113 : decode cX3_endMonth 113 = .ok (.return_, 1) := by decide +kernel
theorem dX3_draw_0 : decode cX3_draw 0 = .ok (.iload_n 1, 1) := by decide +kernel
theorem dX3_draw_1 : decode cX3_draw 1 = .ok (.aload_n 0, 1) := by decide +kernel
theorem dX3_draw_2 : decode cX3_draw 2 = .ok (.getfield 42, 3) := by decide +kernel
theorem dX3_draw_5 : decode cX3_draw 5 = .ok (.invokestatic 149, 3) := by decide +kernel
theorem dX3_draw_8 : decode cX3_draw 8 = .ok (.istore_n 2, 1) := by decide +kernel
theorem dX3_draw_9 : decode cX3_draw 9 = .ok (.aload_n 0, 1) := by decide +kernel
theorem dX3_draw_10 : decode cX3_draw 10 = .ok (.dup, 1) := by decide +kernel
theorem dX3_draw_11 : decode cX3_draw 11 = .ok (.getfield 42, 3) := by decide +kernel
theorem dX3_draw_14 : decode cX3_draw 14 = .ok (.iload_n 2, 1) := by decide +kernel
theorem dX3_draw_15 : decode cX3_draw 15 = .ok (.isub, 1) := by decide +kernel
theorem dX3_draw_16 : decode cX3_draw 16 = .ok (.putfield 42, 3) := by decide +kernel
theorem dX3_draw_19 : decode cX3_draw 19 = .ok (.iload_n 2, 1) := by decide +kernel
theorem dX3_draw_20 : decode cX3_draw 20 = .ok (.ireturn, 1) := by decide +kernel
