theorem dX4_init_0 : decode cX4_init 0 = .ok (.aload_n 0, 1) := by decide +kernel
theorem dX4_init_1 : decode cX4_init 1 = .ok (.invokespecial 1, 3) := by decide +kernel
theorem dX4_init_4 : decode cX4_init 4 = .ok (.aload_n 0, 1) := by decide +kernel
theorem dX4_init_5 : decode cX4_init 5 = .ok (.new 7, 3) := by decide +kernel
theorem dX4_init_8 : decode cX4_init 8 = .ok (.dup, 1) := by decide +kernel
theorem dX4_init_9 : decode cX4_init 9 = .ok (.invokespecial 9, 3) := by decide +kernel
theorem dX4_init_12 : decode cX4_init 12 = .ok (.putfield 10, 3) := by decide +kernel
theorem dX4_init_15 : decode cX4_init 15 = .ok (.aload_n 0, 1) := by decide +kernel
theorem dX4_init_16 : decode cX4_init 16 = .ok (.new 7, 3) := by decide +kernel
theorem dX4_init_19 : decode cX4_init 19 = .ok (.dup, 1) := by decide +kernel
theorem dX4_init_20 : decode cX4_init 20 = .ok (.invokespecial 9, 3) := by decide +kernel
theorem dX4_init_23 : decode cX4_init 23 = .ok (.putfield 16, 3) := by decide +kernel
theorem dX4_init_26 : decode cX4_init 26 = .ok (.aload_n 0, 1) := by decide +kernel
theorem dX4_init_27 : decode cX4_init 27 = .ok (.new 19, 3) := by decide +kernel
theorem dX4_init_30 : decode cX4_init 30 = .ok (.dup, 1) := by decide +kernel
theorem dX4_init_31 : decode cX4_init 31 = .ok (.invokespecial 21, 3) := by decide +kernel
theorem dX4_init_34 : decode cX4_init 34 = .ok (.putfield 22, 3) := by decide +kernel
theorem dX4_init_37 : decode cX4_init 37 = .ok (.aload_n 0, 1) := by decide +kernel
theorem dX4_init_38 : decode cX4_init 38 = .ok (.iconst 2, 1) := by decide +kernel
theorem dX4_init_39 : decode cX4_init 39 = .ok (.anewarray 7, 3) := by decide +kernel
theorem dX4_init_42 : decode cX4_init 42 = .ok (.putfield 26, 3) := by decide +kernel
theorem dX4_init_45 : decode cX4_init 45 = .ok (.aload_n 0, 1) := by decide +kernel
theorem dX4_init_46 : decode cX4_init 46 = .ok (.new 30, 3) := by decide +kernel
theorem dX4_init_49 : decode cX4_init 49 = .ok (.dup, 1) := by decide +kernel
theorem dX4_init_50 : decode cX4_init 50 = .ok (.invokespecial 32, 3) := by decide +kernel
theorem dX4_init_53 : decode cX4_init 53 = .ok (.putfield 33, 3) := by decide +kernel
theorem dX4_init_56 : decode cX4_init 56 = .ok (.return_, 1) := by decide +kernel
theorem dX4_set_0 : decode cX4_set 0 = .ok (.iload_n 1, 1) := by decide +kernel
theorem dX4_set_1 : decode cX4_set 1 = .ok (.invokestatic 37, 3) := by decide +kernel
theorem dX4_set_4 : decode cX4_set 4 = .ok (.ifCond .ne 6, 3) := by decide +kernel
theorem dX4_set_7 : decode cX4_set 7 = .ok (.bipush (-2), 2) := by decide +kernel
theorem dX4_set_9 : decode cX4_set 9 = .ok (.ireturn, 1) := by decide +kernel
theorem dX4_set_10 : decode cX4_set 10 = .ok (.iload_n 2, 1) := by decide +kernel
theorem dX4_set_11 : decode cX4_set 11 = .ok (.getstatic 41, 3) := by decide +kernel
theorem dX4_set_14 : decode cX4_set 14 = .ok (.iload_n 1, 1) := by decide +kernel
theorem dX4_set_15 : decode cX4_set 15 = .ok (.iaload, 1) := by decide +kernel
theorem dX4_set_16 : decode cX4_set 16 = .ok (.if_icmp .lt 12, 3) := by decide +kernel
theorem dX4_set_19 : decode cX4_set 19 = .ok (.iload_n 2, 1) := by decide +kernel
theorem dX4_set_20 : decode cX4_set 20 = .ok (.getstatic 45, 3) := by decide +kernel
theorem dX4_set_23 : decode cX4_set 23 = .ok (.iload_n 1, 1) := by decide +kernel
theorem dX4_set_24 : decode cX4_set 24 = .ok (.iaload, 1) := by decide +kernel
theorem dX4_set_25 : decode cX4_set 25 = .ok (.if_icmp .le 6, 3) := by decide +kernel
theorem dX4_set_28 : decode cX4_set 28 = .ok (.bipush (-2), 2) := by decide +kernel
theorem dX4_set_30 : decode cX4_set 30 = .ok (.ireturn, 1) := by decide +kernel
theorem dX4_set_31 : decode cX4_set 31 = .ok (.aload_n 0, 1) := by decide +kernel
theorem dX4_set_32 : decode cX4_set 32 = .ok (.getfield 22, 3) := by decide +kernel
theorem dX4_set_35 : decode cX4_set 35 = .ok (.aload_n 0, 1) := by decide +kernel
theorem dX4_set_36 : decode cX4_set 36 = .ok (.getfield 10, 3) := by decide +kernel
theorem dX4_set_39 : decode cX4_set 39 = .ok (.invokevirtual 48, 3) := by decide +kernel
theorem dX4_set_42 : decode cX4_set 42 = .ok (.aload_n 0, 1) := by decide +kernel
theorem dX4_set_43 : decode cX4_set 43 = .ok (.getfield 10, 3) := by decide +kernel
theorem dX4_set_46 : decode cX4_set 46 = .ok (.getfield 52, 3) := by decide +kernel
theorem dX4_set_49 : decode cX4_set 49 = .ok (.iload_n 1, 1) := by decide +kernel
theorem dX4_set_50 : decode cX4_set 50 = .ok (.iaload, 1) := by decide +kernel
theorem dX4_set_51 : decode cX4_set 51 = .ok (.istore_n 3, 1) := by decide +kernel
theorem dX4_set_52 : decode cX4_set 52 = .ok (.aload_n 0, 1) := by decide +kernel
theorem dX4_set_53 : decode cX4_set 53 = .ok (.getfield 10, 3) := by decide +kernel
theorem dX4_set_56 : decode cX4_set 56 = .ok (.getfield 52, 3) := by decide +kernel
theorem dX4_set_59 : decode cX4_set 59 = .ok (.iload_n 1, 1) := by decide +kernel
theorem dX4_set_60 : decode cX4_set 60 = .ok (.iload_n 2, 1) := by decide +kernel
theorem dX4_set_61 : decode cX4_set 61 = .ok (.iastore, 1) := by decide +kernel
theorem dX4_set_62 : decode cX4_set 62 = .ok (.iload_n 3, 1) := by decide +kernel
theorem dX4_set_63 : decode cX4_set 63 = .ok (.ireturn, 1) := by decide +kernel
theorem dX4_add_0 : decode cX4_add 0 = .ok (.iload_n 1, 1) := by decide +kernel
theorem dX4_add_1 : decode cX4_add 1 = .ok (.iconst 1, 1) := by decide +kernel
theorem dX4_add_2 : decode cX4_add 2 = .ok (.if_icmp .lt 19, 3) := by decide +kernel
theorem dX4_add_5 : decode cX4_add 5 = .ok (.iload_n 1, 1) := by decide +kernel
theorem dX4_add_6 : decode cX4_add 6 = .ok (.bipush 9, 2) := by decide +kernel
theorem dX4_add_8 : decode cX4_add 8 = .ok (.if_icmp .gt 13, 3) := by decide +kernel
theorem dX4_add_11 : decode cX4_add 11 = .ok (.iload_n 2, 1) := by decide +kernel
theorem dX4_add_12 : decode cX4_add 12 = .ok (.ifCond .lt 9, 3) := by decide +kernel
theorem dX4_add_15 : decode cX4_add 15 = .ok (.iload_n 2, 1) := by decide +kernel
theorem dX4_add_16 : decode cX4_add 16 = .ok (.bipush 100, 2) := by decide +kernel
theorem dX4_add_18 : decode cX4_add 18 = .ok (.if_icmp .le 6, 3) := by decide +kernel
theorem dX4_add_21 : decode cX4_add 21 = .ok (.bipush (-2), 2) := by decide +kernel
theorem dX4_add_23 : decode cX4_add 23 = .ok (.ireturn, 1) := by decide +kernel
theorem dX4_add_24 : decode cX4_add 24 = .ok (.aload_n 0, 1) := by decide +kernel
theorem dX4_add_25 : decode cX4_add 25 = .ok (.getfield 10, 3) := by decide +kernel
theorem dX4_add_28 : decode cX4_add 28 = .ok (.getfield 55, 3) := by decide +kernel
theorem dX4_add_31 : decode cX4_add 31 = .ok (.bipush 8, 2) := by decide +kernel
theorem dX4_add_33 : decode cX4_add 33 = .ok (.if_icmp .lt 6, 3) := by decide +kernel
theorem dX4_add_36 : decode cX4_add 36 = .ok (.bipush (-4), 2) := by decide +kernel
theorem dX4_add_38 : decode cX4_add 38 = .ok (.ireturn, 1) := by decide +kernel
theorem dX4_add_39 : decode cX4_add 39 = .ok (.aload_n 0, 1) := by decide +kernel
theorem dX4_add_40 : decode cX4_add 40 = .ok (.getfield 22, 3) := by decide +kernel
theorem dX4_add_43 : decode cX4_add 43 = .ok (.aload_n 0, 1) := by decide +kernel
theorem dX4_add_44 : decode cX4_add 44 = .ok (.getfield 10, 3) := by decide +kernel
theorem dX4_add_47 : decode cX4_add 47 = .ok (.invokevirtual 48, 3) := by decide +kernel
theorem dX4_add_50 : decode cX4_add 50 = .ok (.aload_n 0, 1) := by decide +kernel
theorem dX4_add_51 : decode cX4_add 51 = .ok (.getfield 10, 3) := by decide +kernel
theorem dX4_add_54 : decode cX4_add 54 = .ok (.iload_n 1, 1) := by decide +kernel
theorem dX4_add_55 : decode cX4_add 55 = .ok (.iload_n 2, 1) := by decide +kernel
theorem dX4_add_56 : decode cX4_add 56 = .ok (.invokevirtual 59, 3) := by decide +kernel
theorem dX4_add_59 : decode cX4_add 59 = .ok (.aload_n 0, 1) := by decide +kernel
theorem dX4_add_60 : decode cX4_add 60 = .ok (.getfield 10, 3) := by decide +kernel
theorem dX4_add_63 : decode cX4_add 63 = .ok (.getfield 55, 3) := by decide +kernel
theorem dX4_add_66 : decode cX4_add 66 = .ok (.iconst 1, 1) := by decide +kernel
theorem dX4_add_67 : decode cX4_add 67 = .ok (.isub, 1) := by decide +kernel
theorem dX4_add_68 : decode cX4_add 68 = .ok (.ireturn, 1) := by decide +kernel
theorem dX4_move_0 : decode cX4_move 0 = .ok (.aload_n 0, 1) := by decide +kernel
theorem dX4_move_1 : decode cX4_move 1 = .ok (.getfield 10, 3) := by decide +kernel
theorem dX4_move_4 : decode cX4_move 4 = .ok (.iload_n 1, 1) := by decide +kernel
theorem dX4_move_5 : decode cX4_move 5 = .ok (.invokevirtual 76, 3) := by decide +kernel
theorem dX4_move_8 : decode cX4_move 8 = .ok (.ifnull 14, 3) := by decide +kernel
theorem dX4_move_11 : decode cX4_move 11 = .ok (.aload_n 0, 1) := by decide +kernel
theorem dX4_move_12 : decode cX4_move 12 = .ok (.getfield 10, 3) := by decide +kernel
theorem dX4_move_15 : decode cX4_move 15 = .ok (.iload_n 2, 1) := by decide +kernel
theorem dX4_move_16 : decode cX4_move 16 = .ok (.invokevirtual 76, 3) := by decide +kernel
theorem dX4_move_19 : decode cX4_move 19 = .ok (.ifnonnull 5, 3) := by decide +kernel
theorem dX4_move_22 : decode cX4_move 22 = .ok (.iconst (-1), 1) := by decide +kernel
theorem dX4_move_23 : decode cX4_move 23 = .ok (.ireturn, 1) := by decide +kernel
theorem dX4_move_24 : decode cX4_move 24 = .ok (.aload_n 0, 1) := by decide +kernel
theorem dX4_move_25 : decode cX4_move 25 = .ok (.getfield 22, 3) := by decide +kernel
theorem dX4_move_28 : decode cX4_move 28 = .ok (.aload_n 0, 1) := by decide +kernel
theorem dX4_move_29 : decode cX4_move 29 = .ok (.getfield 10, 3) := by decide +kernel
theorem dX4_move_32 : decode cX4_move 32 = .ok (.invokevirtual 48, 3) := by decide +kernel
theorem dX4_move_35 : decode cX4_move 35 = .ok (.aload_n 0, 1) := by decide +kernel
theorem dX4_move_36 : decode cX4_move 36 = .ok (.getfield 10, 3) := by decide +kernel
theorem dX4_move_39 : decode cX4_move 39 = .ok (.iload_n 1, 1) := by decide +kernel
theorem dX4_move_40 : decode cX4_move 40 = .ok (.iload_n 2, 1) := by decide +kernel
theorem dX4_move_41 : decode cX4_move 41 = .ok (.invokevirtual 80, 3) := by decide +kernel
theorem dX4_move_44 : decode cX4_move 44 = .ok (.iload_n 1, 1) := by decide +kernel
theorem dX4_move_45 : decode cX4_move 45 = .ok (.iload_n 2, 1) := by decide +kernel
theorem dX4_move_46 : decode cX4_move 46 = .ok (.if_icmp .ne 7, 3) := by decide +kernel
theorem dX4_move_49 : decode cX4_move 49 = .ok (.iconst 0, 1) := by decide +kernel
theorem dX4_move_50 : decode cX4_move 50 = .ok (.goto 11, 3) := by decide +kernel
theorem dX4_move_53 : decode cX4_move 53 = .ok (.iload_n 1, 1) := by decide +kernel
theorem dX4_move_54 : decode cX4_move 54 = .ok (.iload_n 2, 1) := by decide +kernel
theorem dX4_move_55 : decode cX4_move 55 = .ok (.isub, 1) := by decide +kernel
theorem dX4_move_56 : decode cX4_move 56 = .ok (.invokestatic 83, 3) := by decide +kernel
theorem dX4_move_59 : decode cX4_move 59 = .ok (.iconst 1, 1) := by decide +kernel
theorem dX4_move_60 : decode cX4_move 60 = .ok (.iadd, 1) := by decide +kernel
theorem dX4_move_61 : decode cX4_move 61 = .ok (.ireturn, 1) := by decide +kernel
theorem dX4_stepDown_0 : decode cX4_stepDown 0 = .ok (.aload_n 0, 1) := by decide +kernel
theorem dX4_stepDown_1 : decode cX4_stepDown 1 = .ok (.getfield 10, 3) := by decide +kernel
theorem dX4_stepDown_4 : decode cX4_stepDown 4 = .ok (.getfield 89, 3) := by decide +kernel
theorem dX4_stepDown_7 : decode cX4_stepDown 7 = .ok (.istore_n 1, 1) := by decide +kernel
theorem dX4_stepDown_8 : decode cX4_stepDown 8 = .ok (.iload_n 1, 1) := by decide +kernel
theorem dX4_stepDown_9 : decode cX4_stepDown 9 = .ok (.bipush (-6), 2) := by decide +kernel
theorem dX4_stepDown_11 : decode cX4_stepDown 11 = .ok (.if_icmp .ne 6, 3) := by decide +kernel
theorem dX4_stepDown_14 : decode cX4_stepDown 14 = .ok (.bipush (-5), 2) := by decide +kernel
theorem dX4_stepDown_16 : decode cX4_stepDown 16 = .ok (.ireturn, 1) := by decide +kernel
theorem dX4_stepDown_17 : decode cX4_stepDown 17 = .ok (.aload_n 0, 1) := by decide +kernel
theorem dX4_stepDown_18 : decode cX4_stepDown 18 = .ok (.getfield 22, 3) := by decide +kernel
theorem dX4_stepDown_21 : decode cX4_stepDown 21 = .ok (.aload_n 0, 1) := by decide +kernel
theorem dX4_stepDown_22 : decode cX4_stepDown 22 = .ok (.getfield 10, 3) := by decide +kernel
theorem dX4_stepDown_25 : decode cX4_stepDown 25 = .ok (.invokevirtual 48, 3) := by decide +kernel
theorem dX4_stepDown_28 : decode cX4_stepDown 28 = .ok (.aload_n 0, 1) := by decide +kernel
theorem dX4_stepDown_29 : decode cX4_stepDown 29 = .ok (.getfield 10, 3) := by decide +kernel
theorem dX4_stepDown_32 : decode cX4_stepDown 32 = .ok (.aload_n 0, 1) := by decide +kernel
theorem dX4_stepDown_33 : decode cX4_stepDown 33 = .ok (.getfield 10, 3) := by decide +kernel
theorem dX4_stepDown_36 : decode cX4_stepDown 36 = .ok (.iload_n 1, 1) := by decide +kernel
theorem dX4_stepDown_37 : decode cX4_stepDown 37 = .ok (.invokevirtual 92, 3) := by decide +kernel
theorem dX4_stepDown_40 : decode cX4_stepDown 40 = .ok (.invokevirtual 95, 3) := by decide +kernel
theorem dX4_stepDown_43 : decode cX4_stepDown 43 = .ok (.iload_n 1, 1) := by decide +kernel
theorem dX4_stepDown_44 : decode cX4_stepDown 44 = .ok (.ireturn, 1) := by decide +kernel
theorem dX4_appeal_0 : decode cX4_appeal 0 = .ok (.aload_n 0, 1) := by decide +kernel
theorem dX4_appeal_1 : decode cX4_appeal 1 = .ok (.getfield 10, 3) := by decide +kernel
theorem dX4_appeal_4 : decode cX4_appeal 4 = .ok (.iload_n 1, 1) := by decide +kernel
theorem dX4_appeal_5 : decode cX4_appeal 5 = .ok (.invokevirtual 76, 3) := by decide +kernel
theorem dX4_appeal_8 : decode cX4_appeal 8 = .ok (.ifnonnull 5, 3) := by decide +kernel
theorem dX4_appeal_11 : decode cX4_appeal 11 = .ok (.iconst (-1), 1) := by decide +kernel
theorem dX4_appeal_12 : decode cX4_appeal 12 = .ok (.ireturn, 1) := by decide +kernel
theorem dX4_appeal_13 : decode cX4_appeal 13 = .ok (.aload_n 0, 1) := by decide +kernel
theorem dX4_appeal_14 : decode cX4_appeal 14 = .ok (.getfield 10, 3) := by decide +kernel
theorem dX4_appeal_17 : decode cX4_appeal 17 = .ok (.iload_n 1, 1) := by decide +kernel
theorem dX4_appeal_18 : decode cX4_appeal 18 = .ok (.invokevirtual 99, 3) := by decide +kernel
theorem dX4_appeal_21 : decode cX4_appeal 21 = .ok (.ifCond .ne 6, 3) := by decide +kernel
theorem dX4_appeal_24 : decode cX4_appeal 24 = .ok (.bipush (-5), 2) := by decide +kernel
theorem dX4_appeal_26 : decode cX4_appeal 26 = .ok (.ireturn, 1) := by decide +kernel
theorem dX4_appeal_27 : decode cX4_appeal 27 = .ok (.aload_n 0, 1) := by decide +kernel
theorem dX4_appeal_28 : decode cX4_appeal 28 = .ok (.getfield 22, 3) := by decide +kernel
theorem dX4_appeal_31 : decode cX4_appeal 31 = .ok (.aload_n 0, 1) := by decide +kernel
theorem dX4_appeal_32 : decode cX4_appeal 32 = .ok (.getfield 10, 3) := by decide +kernel
theorem dX4_appeal_35 : decode cX4_appeal 35 = .ok (.invokevirtual 48, 3) := by decide +kernel
theorem dX4_appeal_38 : decode cX4_appeal 38 = .ok (.aload_n 0, 1) := by decide +kernel
theorem dX4_appeal_39 : decode cX4_appeal 39 = .ok (.getfield 10, 3) := by decide +kernel
theorem dX4_appeal_42 : decode cX4_appeal 42 = .ok (.iload_n 1, 1) := by decide +kernel
theorem dX4_appeal_43 : decode cX4_appeal 43 = .ok (.invokevirtual 102, 3) := by decide +kernel
theorem dX4_appeal_46 : decode cX4_appeal 46 = .ok (.ifCond .eq 7, 3) := by decide +kernel
theorem dX4_appeal_49 : decode cX4_appeal 49 = .ok (.iconst 1, 1) := by decide +kernel
theorem dX4_appeal_50 : decode cX4_appeal 50 = .ok (.goto 4, 3) := by decide +kernel
theorem dX4_appeal_53 : decode cX4_appeal 53 = .ok (.iconst 0, 1) := by decide +kernel
theorem dX4_appeal_54 : decode cX4_appeal 54 = .ok (.ireturn, 1) := by decide +kernel
theorem dX4_give_0 : decode cX4_give 0 = .ok (.iload_n 1, 1) := by decide +kernel
theorem dX4_give_1 : decode cX4_give 1 = .ok (.iconst 1, 1) := by decide +kernel
theorem dX4_give_2 : decode cX4_give 2 = .ok (.if_icmp .lt 10, 3) := by decide +kernel
theorem dX4_give_5 : decode cX4_give 5 = .ok (.iload_n 1, 1) := by decide +kernel
theorem dX4_give_6 : decode cX4_give 6 = .ok (.sipush 9999, 3) := by decide +kernel
theorem dX4_give_9 : decode cX4_give 9 = .ok (.if_icmp .le 6, 3) := by decide +kernel
theorem dX4_give_12 : decode cX4_give 12 = .ok (.bipush (-2), 2) := by decide +kernel
theorem dX4_give_14 : decode cX4_give 14 = .ok (.ireturn, 1) := by decide +kernel
theorem dX4_give_15 : decode cX4_give 15 = .ok (.aload_n 0, 1) := by decide +kernel
theorem dX4_give_16 : decode cX4_give 16 = .ok (.getfield 10, 3) := by decide +kernel
theorem dX4_give_19 : decode cX4_give 19 = .ok (.getfield 105, 3) := by decide +kernel
theorem dX4_give_22 : decode cX4_give 22 = .ok (.iload_n 1, 1) := by decide +kernel
theorem dX4_give_23 : decode cX4_give 23 = .ok (.iadd, 1) := by decide +kernel
theorem dX4_give_24 : decode cX4_give 24 = .ok (.ldc 108, 2) := by decide +kernel
theorem dX4_give_26 : decode cX4_give 26 = .ok (.if_icmp .le 6, 3) := by decide +kernel
theorem dX4_give_29 : decode cX4_give 29 = .ok (.bipush (-4), 2) := by decide +kernel
theorem dX4_give_31 : decode cX4_give 31 = .ok (.ireturn, 1) := by decide +kernel
theorem dX4_give_32 : decode cX4_give 32 = .ok (.aload_n 0, 1) := by decide +kernel
theorem dX4_give_33 : decode cX4_give 33 = .ok (.getfield 22, 3) := by decide +kernel
theorem dX4_give_36 : decode cX4_give 36 = .ok (.aload_n 0, 1) := by decide +kernel
theorem dX4_give_37 : decode cX4_give 37 = .ok (.getfield 10, 3) := by decide +kernel
theorem dX4_give_40 : decode cX4_give 40 = .ok (.invokevirtual 48, 3) := by decide +kernel
theorem dX4_give_43 : decode cX4_give 43 = .ok (.aload_n 0, 1) := by decide +kernel
theorem dX4_give_44 : decode cX4_give 44 = .ok (.getfield 10, 3) := by decide +kernel
theorem dX4_give_47 : decode cX4_give 47 = .ok (.dup, 1) := by decide +kernel
theorem dX4_give_48 : decode cX4_give 48 = .ok (.getfield 105, 3) := by decide +kernel
theorem dX4_give_51 : decode cX4_give 51 = .ok (.iload_n 1, 1) := by decide +kernel
theorem dX4_give_52 : decode cX4_give 52 = .ok (.iadd, 1) := by decide +kernel
theorem dX4_give_53 : decode cX4_give 53 = .ok (.putfield 105, 3) := by decide +kernel
theorem dX4_give_56 : decode cX4_give 56 = .ok (.aload_n 0, 1) := by decide +kernel
theorem dX4_give_57 : decode cX4_give 57 = .ok (.getfield 10, 3) := by decide +kernel
theorem dX4_give_60 : decode cX4_give 60 = .ok (.dup, 1) := by decide +kernel
theorem dX4_give_61 : decode cX4_give 61 = .ok (.getfield 109, 3) := by decide +kernel
theorem dX4_give_64 : decode cX4_give 64 = .ok (.iload_n 1, 1) := by decide +kernel
theorem dX4_give_65 : decode cX4_give 65 = .ok (.iadd, 1) := by decide +kernel
theorem dX4_give_66 : decode cX4_give 66 = .ok (.putfield 109, 3) := by decide +kernel
theorem dX4_give_69 : decode cX4_give 69 = .ok (.aload_n 0, 1) := by decide +kernel
theorem dX4_give_70 : decode cX4_give 70 = .ok (.getfield 10, 3) := by decide +kernel
theorem dX4_give_73 : decode cX4_give 73 = .ok (.getfield 105, 3) := by decide +kernel
theorem dX4_give_76 : decode cX4_give 76 = .ok (.ireturn, 1) := by decide +kernel
theorem dX4_pass_0 : decode cX4_pass 0 = .ok (.iload_n 1, 1) := by decide +kernel
theorem dX4_pass_1 : decode cX4_pass 1 = .ok (.iconst 1, 1) := by decide +kernel
theorem dX4_pass_2 : decode cX4_pass 2 = .ok (.if_icmp .lt 9, 3) := by decide +kernel
theorem dX4_pass_5 : decode cX4_pass 5 = .ok (.iload_n 1, 1) := by decide +kernel
theorem dX4_pass_6 : decode cX4_pass 6 = .ok (.bipush 99, 2) := by decide +kernel
theorem dX4_pass_8 : decode cX4_pass 8 = .ok (.if_icmp .le 6, 3) := by decide +kernel
theorem dX4_pass_11 : decode cX4_pass 11 = .ok (.bipush (-2), 2) := by decide +kernel
theorem dX4_pass_13 : decode cX4_pass 13 = .ok (.ireturn, 1) := by decide +kernel
theorem dX4_pass_14 : decode cX4_pass 14 = .ok (.aload_n 0, 1) := by decide +kernel
theorem dX4_pass_15 : decode cX4_pass 15 = .ok (.getfield 10, 3) := by decide +kernel
theorem dX4_pass_18 : decode cX4_pass 18 = .ok (.getfield 112, 3) := by decide +kernel
theorem dX4_pass_21 : decode cX4_pass 21 = .ok (.iload_n 1, 1) := by decide +kernel
theorem dX4_pass_22 : decode cX4_pass 22 = .ok (.iadd, 1) := by decide +kernel
theorem dX4_pass_23 : decode cX4_pass 23 = .ok (.sipush 9999, 3) := by decide +kernel
theorem dX4_pass_26 : decode cX4_pass 26 = .ok (.if_icmp .le 6, 3) := by decide +kernel
theorem dX4_pass_29 : decode cX4_pass 29 = .ok (.bipush (-4), 2) := by decide +kernel
theorem dX4_pass_31 : decode cX4_pass 31 = .ok (.ireturn, 1) := by decide +kernel
theorem dX4_pass_32 : decode cX4_pass 32 = .ok (.aload_n 0, 1) := by decide +kernel
theorem dX4_pass_33 : decode cX4_pass 33 = .ok (.getfield 22, 3) := by decide +kernel
theorem dX4_pass_36 : decode cX4_pass 36 = .ok (.aload_n 0, 1) := by decide +kernel
theorem dX4_pass_37 : decode cX4_pass 37 = .ok (.getfield 10, 3) := by decide +kernel
theorem dX4_pass_40 : decode cX4_pass 40 = .ok (.invokevirtual 48, 3) := by decide +kernel
theorem dX4_pass_43 : decode cX4_pass 43 = .ok (.aload_n 0, 1) := by decide +kernel
theorem dX4_pass_44 : decode cX4_pass 44 = .ok (.getfield 10, 3) := by decide +kernel
theorem dX4_pass_47 : decode cX4_pass 47 = .ok (.getfield 115, 3) := by decide +kernel
theorem dX4_pass_50 : decode cX4_pass 50 = .ok (.istore_n 2, 1) := by decide +kernel
theorem dX4_pass_51 : decode cX4_pass 51 = .ok (.aload_n 0, 1) := by decide +kernel
theorem dX4_pass_52 : decode cX4_pass 52 = .ok (.getfield 10, 3) := by decide +kernel
theorem dX4_pass_55 : decode cX4_pass 55 = .ok (.iload_n 1, 1) := by decide +kernel
theorem dX4_pass_56 : decode cX4_pass 56 = .ok (.invokevirtual 118, 3) := by decide +kernel
theorem dX4_pass_59 : decode cX4_pass 59 = .ok (.aload_n 0, 1) := by decide +kernel
theorem dX4_pass_60 : decode cX4_pass 60 = .ok (.getfield 10, 3) := by decide +kernel
theorem dX4_pass_63 : decode cX4_pass 63 = .ok (.getfield 115, 3) := by decide +kernel
theorem dX4_pass_66 : decode cX4_pass 66 = .ok (.iload_n 2, 1) := by decide +kernel
theorem dX4_pass_67 : decode cX4_pass 67 = .ok (.isub, 1) := by decide +kernel
theorem dX4_pass_68 : decode cX4_pass 68 = .ok (.ireturn, 1) := by decide +kernel
theorem dX4_person_0 : decode cX4_person 0 = .ok (.aload_n 0, 1) := by decide +kernel
theorem dX4_person_1 : decode cX4_person 1 = .ok (.getfield 10, 3) := by decide +kernel
theorem dX4_person_4 : decode cX4_person 4 = .ok (.iload_n 1, 1) := by decide +kernel
theorem dX4_person_5 : decode cX4_person 5 = .ok (.invokevirtual 76, 3) := by decide +kernel
theorem dX4_person_8 : decode cX4_person 8 = .ok (.astore_n 3, 1) := by decide +kernel
theorem dX4_person_9 : decode cX4_person 9 = .ok (.aload_n 3, 1) := by decide +kernel
theorem dX4_person_10 : decode cX4_person 10 = .ok (.ifnonnull 5, 3) := by decide +kernel
theorem dX4_person_13 : decode cX4_person 13 = .ok (.iconst (-1), 1) := by decide +kernel
theorem dX4_person_14 : decode cX4_person 14 = .ok (.ireturn, 1) := by decide +kernel
theorem dX4_person_15 : decode cX4_person 15 = .ok (.iload_n 2, 1) := by decide +kernel
theorem dX4_person_16 : decode cX4_person 16 = .ok (.tableswitch 129 0 8 #[52, 57, 62, 67, 72, 89, 102, 107, 112], 52) := by decide +kernel
theorem dX4_person_68 : decode cX4_person 68 = .ok (.aload_n 3, 1) := by decide +kernel
theorem dX4_person_69 : decode cX4_person 69 = .ok (.getfield 121, 3) := by decide +kernel
theorem dX4_person_72 : decode cX4_person 72 = .ok (.ireturn, 1) := by decide +kernel
theorem dX4_person_73 : decode cX4_person 73 = .ok (.aload_n 3, 1) := by decide +kernel
theorem dX4_person_74 : decode cX4_person 74 = .ok (.getfield 126, 3) := by decide +kernel
theorem dX4_person_77 : decode cX4_person 77 = .ok (.ireturn, 1) := by decide +kernel
theorem dX4_person_78 : decode cX4_person 78 = .ok (.aload_n 3, 1) := by decide +kernel
theorem dX4_person_79 : decode cX4_person 79 = .ok (.getfield 129, 3) := by decide +kernel
theorem dX4_person_82 : decode cX4_person 82 = .ok (.ireturn, 1) := by decide +kernel
theorem dX4_person_83 : decode cX4_person 83 = .ok (.aload_n 3, 1) := by decide +kernel
theorem dX4_person_84 : decode cX4_person 84 = .ok (.getfield 132, 3) := by decide +kernel
theorem dX4_person_87 : decode cX4_person 87 = .ok (.ireturn, 1) := by decide +kernel
theorem dX4_person_88 : decode cX4_person 88 = .ok (.aload_n 0, 1) := by decide +kernel
theorem dX4_person_89 : decode cX4_person 89 = .ok (.getfield 10, 3) := by decide +kernel
theorem dX4_person_92 : decode cX4_person 92 = .ok (.aload_n 3, 1) := by decide +kernel
theorem dX4_person_93 : decode cX4_person 93 = .ok (.invokevirtual 135, 3) := by decide +kernel
theorem dX4_person_96 : decode cX4_person 96 = .ok (.ifCond .eq 7, 3) := by decide +kernel
theorem dX4_person_99 : decode cX4_person 99 = .ok (.iconst 1, 1) := by decide +kernel
theorem dX4_person_100 : decode cX4_person 100 = .ok (.goto 4, 3) := by decide +kernel
theorem dX4_person_103 : decode cX4_person 103 = .ok (.iconst 0, 1) := by decide +kernel
theorem dX4_person_104 : decode cX4_person 104 = .ok (.ireturn, 1) := by decide +kernel
theorem dX4_person_105 : decode cX4_person 105 = .ok (.aload_n 0, 1) := by decide +kernel
theorem dX4_person_106 : decode cX4_person 106 = .ok (.getfield 10, 3) := by decide +kernel
theorem dX4_person_109 : decode cX4_person 109 = .ok (.aload_n 3, 1) := by decide +kernel
theorem dX4_person_110 : decode cX4_person 110 = .ok (.invokevirtual 139, 3) := by decide +kernel
theorem dX4_person_113 : decode cX4_person 113 = .ok (.sipush 1000, 3) := by decide +kernel
theorem dX4_person_116 : decode cX4_person 116 = .ok (.iadd, 1) := by decide +kernel
theorem dX4_person_117 : decode cX4_person 117 = .ok (.ireturn, 1) := by decide +kernel
theorem dX4_person_118 : decode cX4_person 118 = .ok (.aload_n 3, 1) := by decide +kernel
theorem dX4_person_119 : decode cX4_person 119 = .ok (.getfield 143, 3) := by decide +kernel
theorem dX4_person_122 : decode cX4_person 122 = .ok (.ireturn, 1) := by decide +kernel
theorem dX4_person_123 : decode cX4_person 123 = .ok (.aload_n 3, 1) := by decide +kernel
theorem dX4_person_124 : decode cX4_person 124 = .ok (.getfield 144, 3) := by decide +kernel
theorem dX4_person_127 : decode cX4_person 127 = .ok (.ireturn, 1) := by decide +kernel
theorem dX4_person_128 : decode cX4_person 128 = .ok (.aload_n 0, 1) := by decide +kernel
theorem dX4_person_129 : decode cX4_person 129 = .ok (.getfield 10, 3) := by decide +kernel
theorem dX4_person_132 : decode cX4_person 132 = .ok (.iload_n 1, 1) := by decide +kernel
theorem dX4_person_133 : decode cX4_person 133 = .ok (.invokevirtual 99, 3) := by decide +kernel
theorem dX4_person_136 : decode cX4_person 136 = .ok (.ifCond .eq 7, 3) := by decide +kernel
theorem dX4_person_139 : decode cX4_person 139 = .ok (.iconst 1, 1) := by decide +kernel
theorem dX4_person_140 : decode cX4_person 140 = .ok (.goto 4, 3) := by decide +kernel
theorem dX4_person_143 : decode cX4_person 143 = .ok (.iconst 0, 1) := by decide +kernel
theorem dX4_person_144 : decode cX4_person 144 = .ok (.ireturn, 1) := by decide +kernel
theorem dX4_person_145 : decode cX4_person 145 = .ok (.bipush (-2), 2) := by decide +kernel
theorem dX4_person_147 : decode cX4_person 147 = .ok (.ireturn, 1) := by decide +kernel
theorem dX4_count_0 : decode cX4_count 0 = .ok (.iload_n 1, 1) := by decide +kernel
theorem dX4_count_1 : decode cX4_count 1 = .ok (.invokestatic 37, 3) := by decide +kernel
theorem dX4_count_4 : decode cX4_count 4 = .ok (.ifCond .eq 13, 3) := by decide +kernel
theorem dX4_count_7 : decode cX4_count 7 = .ok (.aload_n 0, 1) := by decide +kernel
theorem dX4_count_8 : decode cX4_count 8 = .ok (.getfield 10, 3) := by decide +kernel
theorem dX4_count_11 : decode cX4_count 11 = .ok (.getfield 52, 3) := by decide +kernel
theorem dX4_count_14 : decode cX4_count 14 = .ok (.iload_n 1, 1) := by decide +kernel
theorem dX4_count_15 : decode cX4_count 15 = .ok (.iaload, 1) := by decide +kernel
theorem dX4_count_16 : decode cX4_count 16 = .ok (.ireturn, 1) := by decide +kernel
theorem dX4_count_17 : decode cX4_count 17 = .ok (.iload_n 1, 1) := by decide +kernel
theorem dX4_count_18 : decode cX4_count 18 = .ok (.tableswitch 211 6 20 #[74, 82, 90, 98, 106, 131, 139, 147, 155, 163, 171, 179, 187, 195, 203], 74) := by decide +kernel
theorem dX4_count_92 : decode cX4_count 92 = .ok (.aload_n 0, 1) := by decide +kernel
theorem dX4_count_93 : decode cX4_count 93 = .ok (.getfield 10, 3) := by decide +kernel
theorem dX4_count_96 : decode cX4_count 96 = .ok (.getfield 112, 3) := by decide +kernel
theorem dX4_count_99 : decode cX4_count 99 = .ok (.ireturn, 1) := by decide +kernel
theorem dX4_count_100 : decode cX4_count 100 = .ok (.aload_n 0, 1) := by decide +kernel
theorem dX4_count_101 : decode cX4_count 101 = .ok (.getfield 10, 3) := by decide +kernel
theorem dX4_count_104 : decode cX4_count 104 = .ok (.getfield 55, 3) := by decide +kernel
theorem dX4_count_107 : decode cX4_count 107 = .ok (.ireturn, 1) := by decide +kernel
theorem dX4_count_108 : decode cX4_count 108 = .ok (.aload_n 0, 1) := by decide +kernel
theorem dX4_count_109 : decode cX4_count 109 = .ok (.getfield 10, 3) := by decide +kernel
theorem dX4_count_112 : decode cX4_count 112 = .ok (.getfield 147, 3) := by decide +kernel
theorem dX4_count_115 : decode cX4_count 115 = .ok (.ireturn, 1) := by decide +kernel
theorem dX4_count_116 : decode cX4_count 116 = .ok (.aload_n 0, 1) := by decide +kernel
theorem dX4_count_117 : decode cX4_count 117 = .ok (.getfield 10, 3) := by decide +kernel
theorem dX4_count_120 : decode cX4_count 120 = .ok (.getfield 89, 3) := by decide +kernel
theorem dX4_count_123 : decode cX4_count 123 = .ok (.ireturn, 1) := by decide +kernel
theorem dX4_count_124 : decode cX4_count 124 = .ok (.aload_n 0, 1) := by decide +kernel
theorem dX4_count_125 : decode cX4_count 125 = .ok (.getfield 10, 3) := by decide +kernel
theorem dX4_count_128 : decode cX4_count 128 = .ok (.getfield 89, 3) := by decide +kernel
theorem dX4_count_131 : decode cX4_count 131 = .ok (.bipush (-6), 2) := by decide +kernel
theorem dX4_count_133 : decode cX4_count 133 = .ok (.if_icmp .ne 13, 3) := by decide +kernel
theorem dX4_count_136 : decode cX4_count 136 = .ok (.aload_n 0, 1) := by decide +kernel
theorem dX4_count_137 : decode cX4_count 137 = .ok (.getfield 10, 3) := by decide +kernel
theorem dX4_count_140 : decode cX4_count 140 = .ok (.getfield 150, 3) := by decide +kernel
theorem dX4_count_143 : decode cX4_count 143 = .ok (.goto 5, 3) := by decide +kernel
theorem dX4_count_146 : decode cX4_count 146 = .ok (.bipush (-6), 2) := by decide +kernel
theorem dX4_count_148 : decode cX4_count 148 = .ok (.ireturn, 1) := by decide +kernel
theorem dX4_count_149 : decode cX4_count 149 = .ok (.aload_n 0, 1) := by decide +kernel
theorem dX4_count_150 : decode cX4_count 150 = .ok (.getfield 10, 3) := by decide +kernel
theorem dX4_count_153 : decode cX4_count 153 = .ok (.getfield 105, 3) := by decide +kernel
theorem dX4_count_156 : decode cX4_count 156 = .ok (.ireturn, 1) := by decide +kernel
theorem dX4_count_157 : decode cX4_count 157 = .ok (.aload_n 0, 1) := by decide +kernel
theorem dX4_count_158 : decode cX4_count 158 = .ok (.getfield 10, 3) := by decide +kernel
theorem dX4_count_161 : decode cX4_count 161 = .ok (.invokevirtual 153, 3) := by decide +kernel
theorem dX4_count_164 : decode cX4_count 164 = .ok (.ireturn, 1) := by decide +kernel
theorem dX4_count_165 : decode cX4_count 165 = .ok (.aload_n 0, 1) := by decide +kernel
theorem dX4_count_166 : decode cX4_count 166 = .ok (.getfield 10, 3) := by decide +kernel
theorem dX4_count_169 : decode cX4_count 169 = .ok (.getfield 156, 3) := by decide +kernel
theorem dX4_count_172 : decode cX4_count 172 = .ok (.ireturn, 1) := by decide +kernel
theorem dX4_count_173 : decode cX4_count 173 = .ok (.aload_n 0, 1) := by decide +kernel
theorem dX4_count_174 : decode cX4_count 174 = .ok (.getfield 10, 3) := by decide +kernel
theorem dX4_count_177 : decode cX4_count 177 = .ok (.getfield 115, 3) := by decide +kernel
theorem dX4_count_180 : decode cX4_count 180 = .ok (.ireturn, 1) := by decide +kernel
theorem dX4_count_181 : decode cX4_count 181 = .ok (.aload_n 0, 1) := by decide +kernel
theorem dX4_count_182 : decode cX4_count 182 = .ok (.getfield 10, 3) := by decide +kernel
theorem dX4_count_185 : decode cX4_count 185 = .ok (.getfield 157, 3) := by decide +kernel
theorem dX4_count_188 : decode cX4_count 188 = .ok (.ireturn, 1) := by decide +kernel
theorem dX4_count_189 : decode cX4_count 189 = .ok (.aload_n 0, 1) := by decide +kernel
theorem dX4_count_190 : decode cX4_count 190 = .ok (.getfield 10, 3) := by decide +kernel
theorem dX4_count_193 : decode cX4_count 193 = .ok (.getfield 160, 3) := by decide +kernel
theorem dX4_count_196 : decode cX4_count 196 = .ok (.ireturn, 1) := by decide +kernel
theorem dX4_count_197 : decode cX4_count 197 = .ok (.aload_n 0, 1) := by decide +kernel
theorem dX4_count_198 : decode cX4_count 198 = .ok (.getfield 10, 3) := by decide +kernel
theorem dX4_count_201 : decode cX4_count 201 = .ok (.invokevirtual 163, 3) := by decide +kernel
theorem dX4_count_204 : decode cX4_count 204 = .ok (.ireturn, 1) := by decide +kernel
theorem dX4_count_205 : decode cX4_count 205 = .ok (.aload_n 0, 1) := by decide +kernel
theorem dX4_count_206 : decode cX4_count 206 = .ok (.getfield 10, 3) := by decide +kernel
theorem dX4_count_209 : decode cX4_count 209 = .ok (.getfield 109, 3) := by decide +kernel
theorem dX4_count_212 : decode cX4_count 212 = .ok (.ireturn, 1) := by decide +kernel
theorem dX4_count_213 : decode cX4_count 213 = .ok (.aload_n 0, 1) := by decide +kernel
theorem dX4_count_214 : decode cX4_count 214 = .ok (.getfield 33, 3) := by decide +kernel
theorem dX4_count_217 : decode cX4_count 217 = .ok (.getfield 73, 3) := by decide +kernel
theorem dX4_count_220 : decode cX4_count 220 = .ok (.ireturn, 1) := by decide +kernel
theorem dX4_count_221 : decode cX4_count 221 = .ok (.aload_n 0, 1) := by decide +kernel
theorem dX4_count_222 : decode cX4_count 222 = .ok (.getfield 22, 3) := by decide +kernel
theorem dX4_count_225 : decode cX4_count 225 = .ok (.getfield 166, 3) := by decide +kernel
theorem dX4_count_228 : decode cX4_count 228 = .ok (.ireturn, 1) := by decide +kernel
theorem dX4_count_229 : decode cX4_count 229 = .ok (.bipush (-2), 2) := by decide +kernel
theorem dX4_count_231 : decode cX4_count 231 = .ok (.ireturn, 1) := by decide +kernel
theorem dX4_next_0 : decode cX4_next 0 = .ok (.iload_n 1, 1) := by decide +kernel
theorem dX4_next_1 : decode cX4_next 1 = .ok (.ifCond .eq 11, 3) := by decide +kernel
theorem dX4_next_4 : decode cX4_next 4 = .ok (.iload_n 1, 1) := by decide +kernel
theorem dX4_next_5 : decode cX4_next 5 = .ok (.iconst 1, 1) := by decide +kernel
theorem dX4_next_6 : decode cX4_next 6 = .ok (.if_icmp .eq 6, 3) := by decide +kernel
theorem dX4_next_9 : decode cX4_next 9 = .ok (.bipush (-2), 2) := by decide +kernel
theorem dX4_next_11 : decode cX4_next 11 = .ok (.ireturn, 1) := by decide +kernel
theorem dX4_next_12 : decode cX4_next 12 = .ok (.aload_n 0, 1) := by decide +kernel
theorem dX4_next_13 : decode cX4_next 13 = .ok (.getfield 16, 3) := by decide +kernel
theorem dX4_next_16 : decode cX4_next 16 = .ok (.aload_n 0, 1) := by decide +kernel
theorem dX4_next_17 : decode cX4_next 17 = .ok (.getfield 10, 3) := by decide +kernel
theorem dX4_next_20 : decode cX4_next 20 = .ok (.invokevirtual 167, 3) := by decide +kernel
theorem dX4_next_23 : decode cX4_next 23 = .ok (.iconst 1, 1) := by decide +kernel
theorem dX4_next_24 : decode cX4_next 24 = .ok (.istore_n 2, 1) := by decide +kernel
theorem dX4_next_25 : decode cX4_next 25 = .ok (.iload_n 2, 1) := by decide +kernel
theorem dX4_next_26 : decode cX4_next 26 = .ok (.sipush 500, 3) := by decide +kernel
theorem dX4_next_29 : decode cX4_next 29 = .ok (.if_icmp .gt 33, 3) := by decide +kernel
theorem dX4_next_32 : decode cX4_next 32 = .ok (.aload_n 0, 1) := by decide +kernel
theorem dX4_next_33 : decode cX4_next 33 = .ok (.getfield 16, 3) := by decide +kernel
theorem dX4_next_36 : decode cX4_next 36 = .ok (.invokevirtual 170, 3) := by decide +kernel
theorem dX4_next_39 : decode cX4_next 39 = .ok (.istore_n 3, 1) := by decide +kernel
theorem dX4_next_40 : decode cX4_next 40 = .ok (.iload_n 3, 1) := by decide +kernel
theorem dX4_next_41 : decode cX4_next 41 = .ok (.bipush (-6), 2) := by decide +kernel
theorem dX4_next_43 : decode cX4_next 43 = .ok (.if_icmp .eq 13, 3) := by decide +kernel
theorem dX4_next_46 : decode cX4_next 46 = .ok (.iload_n 1, 1) := by decide +kernel
theorem dX4_next_47 : decode cX4_next 47 = .ok (.ifCond .ne 7, 3) := by decide +kernel
theorem dX4_next_50 : decode cX4_next 50 = .ok (.iload_n 3, 1) := by decide +kernel
theorem dX4_next_51 : decode cX4_next 51 = .ok (.goto 4, 3) := by decide +kernel
theorem dX4_next_54 : decode cX4_next 54 = .ok (.iload_n 2, 1) := by decide +kernel
theorem dX4_next_55 : decode cX4_next 55 = .ok (.ireturn, 1) := by decide +kernel
theorem dX4_next_56 : decode cX4_next 56 = .ok (.iinc 2 1, 3) := by decide +kernel
theorem dX4_next_59 : decode cX4_next 59 = .ok (.goto (-34), 3) := by decide +kernel
theorem dX4_next_62 : decode cX4_next 62 = .ok (.bipush (-6), 2) := by decide +kernel
theorem dX4_next_64 : decode cX4_next 64 = .ok (.ireturn, 1) := by decide +kernel
theorem dX4_untilEmpty_0 : decode cX4_untilEmpty 0 = .ok (.aload_n 0, 1) := by decide +kernel
theorem dX4_untilEmpty_1 : decode cX4_untilEmpty 1 = .ok (.getfield 16, 3) := by decide +kernel
theorem dX4_untilEmpty_4 : decode cX4_untilEmpty 4 = .ok (.aload_n 0, 1) := by decide +kernel
theorem dX4_untilEmpty_5 : decode cX4_untilEmpty 5 = .ok (.getfield 10, 3) := by decide +kernel
theorem dX4_untilEmpty_8 : decode cX4_untilEmpty 8 = .ok (.invokevirtual 167, 3) := by decide +kernel
theorem dX4_untilEmpty_11 : decode cX4_untilEmpty 11 = .ok (.iconst 0, 1) := by decide +kernel
theorem dX4_untilEmpty_12 : decode cX4_untilEmpty 12 = .ok (.istore_n 1, 1) := by decide +kernel
theorem dX4_untilEmpty_13 : decode cX4_untilEmpty 13 = .ok (.iload_n 1, 1) := by decide +kernel
theorem dX4_untilEmpty_14 : decode cX4_untilEmpty 14 = .ok (.sipush 2000, 3) := by decide +kernel
theorem dX4_untilEmpty_17 : decode cX4_untilEmpty 17 = .ok (.if_icmp .gt 29, 3) := by decide +kernel
theorem dX4_untilEmpty_20 : decode cX4_untilEmpty 20 = .ok (.aload_n 0, 1) := by decide +kernel
theorem dX4_untilEmpty_21 : decode cX4_untilEmpty 21 = .ok (.getfield 16, 3) := by decide +kernel
theorem dX4_untilEmpty_24 : decode cX4_untilEmpty 24 = .ok (.getfield 105, 3) := by decide +kernel
theorem dX4_untilEmpty_27 : decode cX4_untilEmpty 27 = .ok (.ifCond .ne 5, 3) := by decide +kernel
theorem dX4_untilEmpty_30 : decode cX4_untilEmpty 30 = .ok (.iload_n 1, 1) := by decide +kernel
theorem dX4_untilEmpty_31 : decode cX4_untilEmpty 31 = .ok (.ireturn, 1) := by decide +kernel
theorem dX4_untilEmpty_32 : decode cX4_untilEmpty 32 = .ok (.aload_n 0, 1) := by decide +kernel
theorem dX4_untilEmpty_33 : decode cX4_untilEmpty 33 = .ok (.getfield 16, 3) := by decide +kernel
theorem dX4_untilEmpty_36 : decode cX4_untilEmpty 36 = .ok (.invokevirtual 170, 3) := by decide +kernel
theorem dX4_untilEmpty_39 : decode cX4_untilEmpty 39 = .ok (.pop, 1) := by decide +kernel
theorem dX4_untilEmpty_40 : decode cX4_untilEmpty 40 = .ok (.iinc 1 1, 3) := by decide +kernel
theorem dX4_untilEmpty_43 : decode cX4_untilEmpty 43 = .ok (.goto (-30), 3) := by decide +kernel
theorem dX4_untilEmpty_46 : decode cX4_untilEmpty 46 = .ok (.bipush (-6), 2) := by decide +kernel
theorem dX4_untilEmpty_48 : decode cX4_untilEmpty 48 = .ok (.ireturn, 1) := by decide +kernel
theorem dX4_ifPassed_0 : decode cX4_ifPassed 0 = .ok (.iload_n 1, 1) := by decide +kernel
theorem dX4_ifPassed_1 : decode cX4_ifPassed 1 = .ok (.iconst 1, 1) := by decide +kernel
theorem dX4_ifPassed_2 : decode cX4_ifPassed 2 = .ok (.if_icmp .lt 19, 3) := by decide +kernel
theorem dX4_ifPassed_5 : decode cX4_ifPassed 5 = .ok (.iload_n 1, 1) := by decide +kernel
theorem dX4_ifPassed_6 : decode cX4_ifPassed 6 = .ok (.sipush 500, 3) := by decide +kernel
theorem dX4_ifPassed_9 : decode cX4_ifPassed 9 = .ok (.if_icmp .gt 12, 3) := by decide +kernel
theorem dX4_ifPassed_12 : decode cX4_ifPassed 12 = .ok (.iload_n 2, 1) := by decide +kernel
theorem dX4_ifPassed_13 : decode cX4_ifPassed 13 = .ok (.ifCond .lt 8, 3) := by decide +kernel
theorem dX4_ifPassed_16 : decode cX4_ifPassed 16 = .ok (.iload_n 2, 1) := by decide +kernel
theorem dX4_ifPassed_17 : decode cX4_ifPassed 17 = .ok (.iconst 4, 1) := by decide +kernel
theorem dX4_ifPassed_18 : decode cX4_ifPassed 18 = .ok (.if_icmp .le 6, 3) := by decide +kernel
theorem dX4_ifPassed_21 : decode cX4_ifPassed 21 = .ok (.bipush (-2), 2) := by decide +kernel
theorem dX4_ifPassed_23 : decode cX4_ifPassed 23 = .ok (.ireturn, 1) := by decide +kernel
theorem dX4_ifPassed_24 : decode cX4_ifPassed 24 = .ok (.aload_n 0, 1) := by decide +kernel
theorem dX4_ifPassed_25 : decode cX4_ifPassed 25 = .ok (.getfield 16, 3) := by decide +kernel
theorem dX4_ifPassed_28 : decode cX4_ifPassed 28 = .ok (.aload_n 0, 1) := by decide +kernel
theorem dX4_ifPassed_29 : decode cX4_ifPassed 29 = .ok (.getfield 10, 3) := by decide +kernel
theorem dX4_ifPassed_32 : decode cX4_ifPassed 32 = .ok (.invokevirtual 167, 3) := by decide +kernel
theorem dX4_ifPassed_35 : decode cX4_ifPassed 35 = .ok (.aload_n 0, 1) := by decide +kernel
theorem dX4_ifPassed_36 : decode cX4_ifPassed 36 = .ok (.getfield 16, 3) := by decide +kernel
theorem dX4_ifPassed_39 : decode cX4_ifPassed 39 = .ok (.iload_n 1, 1) := by decide +kernel
theorem dX4_ifPassed_40 : decode cX4_ifPassed 40 = .ok (.invokevirtual 118, 3) := by decide +kernel
theorem dX4_ifPassed_43 : decode cX4_ifPassed 43 = .ok (.iload_n 2, 1) := by decide +kernel
theorem dX4_ifPassed_44 : decode cX4_ifPassed 44 = .ok (.tableswitch 88 0 3 #[32, 48, 64, 80], 32) := by decide +kernel
theorem dX4_ifPassed_76 : decode cX4_ifPassed 76 = .ok (.aload_n 0, 1) := by decide +kernel
theorem dX4_ifPassed_77 : decode cX4_ifPassed 77 = .ok (.getfield 16, 3) := by decide +kernel
theorem dX4_ifPassed_80 : decode cX4_ifPassed 80 = .ok (.getfield 115, 3) := by decide +kernel
theorem dX4_ifPassed_83 : decode cX4_ifPassed 83 = .ok (.aload_n 0, 1) := by decide +kernel
theorem dX4_ifPassed_84 : decode cX4_ifPassed 84 = .ok (.getfield 10, 3) := by decide +kernel
theorem dX4_ifPassed_87 : decode cX4_ifPassed 87 = .ok (.getfield 115, 3) := by decide +kernel
theorem dX4_ifPassed_90 : decode cX4_ifPassed 90 = .ok (.isub, 1) := by decide +kernel
theorem dX4_ifPassed_91 : decode cX4_ifPassed 91 = .ok (.ireturn, 1) := by decide +kernel
theorem dX4_ifPassed_92 : decode cX4_ifPassed 92 = .ok (.aload_n 0, 1) := by decide +kernel
theorem dX4_ifPassed_93 : decode cX4_ifPassed 93 = .ok (.getfield 16, 3) := by decide +kernel
theorem dX4_ifPassed_96 : decode cX4_ifPassed 96 = .ok (.getfield 156, 3) := by decide +kernel
theorem dX4_ifPassed_99 : decode cX4_ifPassed 99 = .ok (.aload_n 0, 1) := by decide +kernel
theorem dX4_ifPassed_100 : decode cX4_ifPassed 100 = .ok (.getfield 10, 3) := by decide +kernel
theorem dX4_ifPassed_103 : decode cX4_ifPassed 103 = .ok (.getfield 156, 3) := by decide +kernel
theorem dX4_ifPassed_106 : decode cX4_ifPassed 106 = .ok (.isub, 1) := by decide +kernel
theorem dX4_ifPassed_107 : decode cX4_ifPassed 107 = .ok (.ireturn, 1) := by decide +kernel
theorem dX4_ifPassed_108 : decode cX4_ifPassed 108 = .ok (.aload_n 0, 1) := by decide +kernel
theorem dX4_ifPassed_109 : decode cX4_ifPassed 109 = .ok (.getfield 16, 3) := by decide +kernel
theorem dX4_ifPassed_112 : decode cX4_ifPassed 112 = .ok (.getfield 160, 3) := by decide +kernel
theorem dX4_ifPassed_115 : decode cX4_ifPassed 115 = .ok (.aload_n 0, 1) := by decide +kernel
theorem dX4_ifPassed_116 : decode cX4_ifPassed 116 = .ok (.getfield 10, 3) := by decide +kernel
theorem dX4_ifPassed_119 : decode cX4_ifPassed 119 = .ok (.getfield 160, 3) := by decide +kernel
theorem dX4_ifPassed_122 : decode cX4_ifPassed 122 = .ok (.isub, 1) := by decide +kernel
theorem dX4_ifPassed_123 : decode cX4_ifPassed 123 = .ok (.ireturn, 1) := by decide +kernel
theorem dX4_ifPassed_124 : decode cX4_ifPassed 124 = .ok (.aload_n 0, 1) := by decide +kernel
theorem dX4_ifPassed_125 : decode cX4_ifPassed 125 = .ok (.getfield 16, 3) := by decide +kernel
theorem dX4_ifPassed_128 : decode cX4_ifPassed 128 = .ok (.getfield 147, 3) := by decide +kernel
theorem dX4_ifPassed_131 : decode cX4_ifPassed 131 = .ok (.ireturn, 1) := by decide +kernel
theorem dX4_ifPassed_132 : decode cX4_ifPassed 132 = .ok (.aload_n 0, 1) := by decide +kernel
theorem dX4_ifPassed_133 : decode cX4_ifPassed 133 = .ok (.getfield 16, 3) := by decide +kernel
theorem dX4_ifPassed_136 : decode cX4_ifPassed 136 = .ok (.getfield 89, 3) := by decide +kernel
theorem dX4_ifPassed_139 : decode cX4_ifPassed 139 = .ok (.ireturn, 1) := by decide +kernel
theorem dX4_bestPlace_0 : decode cX4_bestPlace 0 = .ok (.aload_n 0, 1) := by decide +kernel
theorem dX4_bestPlace_1 : decode cX4_bestPlace 1 = .ok (.getfield 10, 3) := by decide +kernel
theorem dX4_bestPlace_4 : decode cX4_bestPlace 4 = .ok (.iload_n 1, 1) := by decide +kernel
theorem dX4_bestPlace_5 : decode cX4_bestPlace 5 = .ok (.invokevirtual 76, 3) := by decide +kernel
theorem dX4_bestPlace_8 : decode cX4_bestPlace 8 = .ok (.ifnonnull 5, 3) := by decide +kernel
theorem dX4_bestPlace_11 : decode cX4_bestPlace 11 = .ok (.iconst (-1), 1) := by decide +kernel
theorem dX4_bestPlace_12 : decode cX4_bestPlace 12 = .ok (.ireturn, 1) := by decide +kernel
theorem dX4_bestPlace_13 : decode cX4_bestPlace 13 = .ok (.iload_n 2, 1) := by decide +kernel
theorem dX4_bestPlace_14 : decode cX4_bestPlace 14 = .ok (.ifCond .eq 11, 3) := by decide +kernel
theorem dX4_bestPlace_17 : decode cX4_bestPlace 17 = .ok (.iload_n 2, 1) := by decide +kernel
theorem dX4_bestPlace_18 : decode cX4_bestPlace 18 = .ok (.iconst 1, 1) := by decide +kernel
theorem dX4_bestPlace_19 : decode cX4_bestPlace 19 = .ok (.if_icmp .eq 6, 3) := by decide +kernel
theorem dX4_bestPlace_22 : decode cX4_bestPlace 22 = .ok (.bipush (-2), 2) := by decide +kernel
theorem dX4_bestPlace_24 : decode cX4_bestPlace 24 = .ok (.ireturn, 1) := by decide +kernel
theorem dX4_bestPlace_25 : decode cX4_bestPlace 25 = .ok (.iconst 0, 1) := by decide +kernel
theorem dX4_bestPlace_26 : decode cX4_bestPlace 26 = .ok (.istore_n 3, 1) := by decide +kernel
theorem dX4_bestPlace_27 : decode cX4_bestPlace 27 = .ok (.iconst (-1), 1) := by decide +kernel
theorem dX4_bestPlace_28 : decode cX4_bestPlace 28 = .ok (.istore 4, 2) := by decide +kernel
theorem dX4_bestPlace_30 : decode cX4_bestPlace 30 = .ok (.iconst 0, 1) := by decide +kernel
theorem dX4_bestPlace_31 : decode cX4_bestPlace 31 = .ok (.istore 5, 2) := by decide +kernel
theorem dX4_bestPlace_33 : decode cX4_bestPlace 33 = .ok (.iload 5, 2) := by decide +kernel
theorem dX4_bestPlace_35 : decode cX4_bestPlace 35 = .ok (.aload_n 0, 1) := by decide +kernel
theorem dX4_bestPlace_36 : decode cX4_bestPlace 36 = .ok (.getfield 10, 3) := by decide +kernel
theorem dX4_bestPlace_39 : decode cX4_bestPlace 39 = .ok (.getfield 55, 3) := by decide +kernel
theorem dX4_bestPlace_42 : decode cX4_bestPlace 42 = .ok (.if_icmp .ge 32, 3) := by decide +kernel
theorem dX4_bestPlace_45 : decode cX4_bestPlace 45 = .ok (.aload_n 0, 1) := by decide +kernel
theorem dX4_bestPlace_46 : decode cX4_bestPlace 46 = .ok (.iload_n 1, 1) := by decide +kernel
theorem dX4_bestPlace_47 : decode cX4_bestPlace 47 = .ok (.iload 5, 2) := by decide +kernel
theorem dX4_bestPlace_49 : decode cX4_bestPlace 49 = .ok (.invokevirtual 173, 3) := by decide +kernel
theorem dX4_bestPlace_52 : decode cX4_bestPlace 52 = .ok (.istore 6, 2) := by decide +kernel
theorem dX4_bestPlace_54 : decode cX4_bestPlace 54 = .ok (.iload 6, 2) := by decide +kernel
theorem dX4_bestPlace_56 : decode cX4_bestPlace 56 = .ok (.iload 4, 2) := by decide +kernel
theorem dX4_bestPlace_58 : decode cX4_bestPlace 58 = .ok (.if_icmp .le 10, 3) := by decide +kernel
theorem dX4_bestPlace_61 : decode cX4_bestPlace 61 = .ok (.iload 5, 2) := by decide +kernel
theorem dX4_bestPlace_63 : decode cX4_bestPlace 63 = .ok (.istore_n 3, 1) := by decide +kernel
theorem dX4_bestPlace_64 : decode cX4_bestPlace 64 = .ok (.iload 6, 2) := by decide +kernel
theorem dX4_bestPlace_66 : decode cX4_bestPlace 66 = .ok (.istore 4, 2) := by decide +kernel
theorem dX4_bestPlace_68 : decode cX4_bestPlace 68 = .ok (.iinc 5 1, 3) := by decide +kernel
theorem dX4_bestPlace_71 : decode cX4_bestPlace 71 = .ok (.goto (-38), 3) := by decide +kernel
theorem dX4_bestPlace_74 : decode cX4_bestPlace 74 = .ok (.iload_n 2, 1) := by decide +kernel
theorem dX4_bestPlace_75 : decode cX4_bestPlace 75 = .ok (.ifCond .ne 7, 3) := by decide +kernel
theorem dX4_bestPlace_78 : decode cX4_bestPlace 78 = .ok (.iload_n 3, 1) := by decide +kernel
theorem dX4_bestPlace_79 : decode cX4_bestPlace 79 = .ok (.goto 5, 3) := by decide +kernel
theorem dX4_bestPlace_82 : decode cX4_bestPlace 82 = .ok (.iload 4, 2) := by decide +kernel
theorem dX4_bestPlace_84 : decode cX4_bestPlace 84 = .ok (.ireturn, 1) := by decide +kernel
theorem dX4_undo_0 : decode cX4_undo 0 = .ok (.aload_n 0, 1) := by decide +kernel
theorem dX4_undo_1 : decode cX4_undo 1 = .ok (.getfield 22, 3) := by decide +kernel
theorem dX4_undo_4 : decode cX4_undo 4 = .ok (.getfield 166, 3) := by decide +kernel
theorem dX4_undo_7 : decode cX4_undo 7 = .ok (.ifCond .ne 6, 3) := by decide +kernel
theorem dX4_undo_10 : decode cX4_undo 10 = .ok (.bipush (-5), 2) := by decide +kernel
theorem dX4_undo_12 : decode cX4_undo 12 = .ok (.ireturn, 1) := by decide +kernel
theorem dX4_undo_13 : decode cX4_undo 13 = .ok (.aload_n 0, 1) := by decide +kernel
theorem dX4_undo_14 : decode cX4_undo 14 = .ok (.getfield 22, 3) := by decide +kernel
theorem dX4_undo_17 : decode cX4_undo 17 = .ok (.aload_n 0, 1) := by decide +kernel
theorem dX4_undo_18 : decode cX4_undo 18 = .ok (.getfield 10, 3) := by decide +kernel
theorem dX4_undo_21 : decode cX4_undo 21 = .ok (.invokevirtual 187, 3) := by decide +kernel
theorem dX4_undo_24 : decode cX4_undo 24 = .ok (.aload_n 0, 1) := by decide +kernel
theorem dX4_undo_25 : decode cX4_undo 25 = .ok (.getfield 22, 3) := by decide +kernel
theorem dX4_undo_28 : decode cX4_undo 28 = .ok (.getfield 166, 3) := by decide +kernel
theorem dX4_undo_31 : decode cX4_undo 31 = .ok (.ireturn, 1) := by decide +kernel
theorem dX4_save_0 : decode cX4_save 0 = .ok (.iload_n 1, 1) := by decide +kernel
theorem dX4_save_1 : decode cX4_save 1 = .ok (.invokestatic 190, 3) := by decide +kernel
theorem dX4_save_4 : decode cX4_save 4 = .ok (.ifCond .ne 6, 3) := by decide +kernel
theorem dX4_save_7 : decode cX4_save 7 = .ok (.bipush (-2), 2) := by decide +kernel
theorem dX4_save_9 : decode cX4_save 9 = .ok (.ireturn, 1) := by decide +kernel
theorem dX4_save_10 : decode cX4_save 10 = .ok (.aload_n 0, 1) := by decide +kernel
theorem dX4_save_11 : decode cX4_save 11 = .ok (.getfield 26, 3) := by decide +kernel
theorem dX4_save_14 : decode cX4_save 14 = .ok (.iload_n 1, 1) := by decide +kernel
theorem dX4_save_15 : decode cX4_save 15 = .ok (.aaload, 1) := by decide +kernel
theorem dX4_save_16 : decode cX4_save 16 = .ok (.ifnonnull 16, 3) := by decide +kernel
theorem dX4_save_19 : decode cX4_save 19 = .ok (.aload_n 0, 1) := by decide +kernel
theorem dX4_save_20 : decode cX4_save 20 = .ok (.getfield 26, 3) := by decide +kernel
theorem dX4_save_23 : decode cX4_save 23 = .ok (.iload_n 1, 1) := by decide +kernel
theorem dX4_save_24 : decode cX4_save 24 = .ok (.new 7, 3) := by decide +kernel
theorem dX4_save_27 : decode cX4_save 27 = .ok (.dup, 1) := by decide +kernel
theorem dX4_save_28 : decode cX4_save 28 = .ok (.invokespecial 9, 3) := by decide +kernel
theorem dX4_save_31 : decode cX4_save 31 = .ok (.aastore, 1) := by decide +kernel
theorem dX4_save_32 : decode cX4_save 32 = .ok (.aload_n 0, 1) := by decide +kernel
theorem dX4_save_33 : decode cX4_save 33 = .ok (.getfield 26, 3) := by decide +kernel
theorem dX4_save_36 : decode cX4_save 36 = .ok (.iload_n 1, 1) := by decide +kernel
theorem dX4_save_37 : decode cX4_save 37 = .ok (.aaload, 1) := by decide +kernel
theorem dX4_save_38 : decode cX4_save 38 = .ok (.aload_n 0, 1) := by decide +kernel
theorem dX4_save_39 : decode cX4_save 39 = .ok (.getfield 10, 3) := by decide +kernel
theorem dX4_save_42 : decode cX4_save 42 = .ok (.invokevirtual 167, 3) := by decide +kernel
theorem dX4_save_45 : decode cX4_save 45 = .ok (.aload_n 0, 1) := by decide +kernel
theorem dX4_save_46 : decode cX4_save 46 = .ok (.getfield 10, 3) := by decide +kernel
theorem dX4_save_49 : decode cX4_save 49 = .ok (.getfield 112, 3) := by decide +kernel
theorem dX4_save_52 : decode cX4_save 52 = .ok (.ireturn, 1) := by decide +kernel
theorem dX4_restore_0 : decode cX4_restore 0 = .ok (.iload_n 1, 1) := by decide +kernel
theorem dX4_restore_1 : decode cX4_restore 1 = .ok (.invokestatic 190, 3) := by decide +kernel
theorem dX4_restore_4 : decode cX4_restore 4 = .ok (.ifCond .ne 6, 3) := by decide +kernel
theorem dX4_restore_7 : decode cX4_restore 7 = .ok (.bipush (-2), 2) := by decide +kernel
theorem dX4_restore_9 : decode cX4_restore 9 = .ok (.ireturn, 1) := by decide +kernel
theorem dX4_restore_10 : decode cX4_restore 10 = .ok (.aload_n 0, 1) := by decide +kernel
theorem dX4_restore_11 : decode cX4_restore 11 = .ok (.getfield 26, 3) := by decide +kernel
theorem dX4_restore_14 : decode cX4_restore 14 = .ok (.iload_n 1, 1) := by decide +kernel
theorem dX4_restore_15 : decode cX4_restore 15 = .ok (.aaload, 1) := by decide +kernel
theorem dX4_restore_16 : decode cX4_restore 16 = .ok (.astore_n 2, 1) := by decide +kernel
theorem dX4_restore_17 : decode cX4_restore 17 = .ok (.aload_n 2, 1) := by decide +kernel
theorem dX4_restore_18 : decode cX4_restore 18 = .ok (.ifnonnull 6, 3) := by decide +kernel
theorem dX4_restore_21 : decode cX4_restore 21 = .ok (.bipush (-5), 2) := by decide +kernel
theorem dX4_restore_23 : decode cX4_restore 23 = .ok (.ireturn, 1) := by decide +kernel
theorem dX4_restore_24 : decode cX4_restore 24 = .ok (.aload_n 0, 1) := by decide +kernel
theorem dX4_restore_25 : decode cX4_restore 25 = .ok (.getfield 22, 3) := by decide +kernel
theorem dX4_restore_28 : decode cX4_restore 28 = .ok (.aload_n 0, 1) := by decide +kernel
theorem dX4_restore_29 : decode cX4_restore 29 = .ok (.getfield 10, 3) := by decide +kernel
theorem dX4_restore_32 : decode cX4_restore 32 = .ok (.invokevirtual 48, 3) := by decide +kernel
theorem dX4_restore_35 : decode cX4_restore 35 = .ok (.aload_n 0, 1) := by decide +kernel
theorem dX4_restore_36 : decode cX4_restore 36 = .ok (.getfield 10, 3) := by decide +kernel
theorem dX4_restore_39 : decode cX4_restore 39 = .ok (.aload_n 2, 1) := by decide +kernel
theorem dX4_restore_40 : decode cX4_restore 40 = .ok (.invokevirtual 167, 3) := by decide +kernel
theorem dX4_restore_43 : decode cX4_restore 43 = .ok (.aload_n 0, 1) := by decide +kernel
theorem dX4_restore_44 : decode cX4_restore 44 = .ok (.getfield 10, 3) := by decide +kernel
theorem dX4_restore_47 : decode cX4_restore 47 = .ok (.getfield 112, 3) := by decide +kernel
theorem dX4_restore_50 : decode cX4_restore 50 = .ok (.ireturn, 1) := by decide +kernel
theorem dX4_isSetting_0 : decode cX4_isSetting 0 = .ok (.iload_n 0, 1) := by decide +kernel
theorem dX4_isSetting_1 : decode cX4_isSetting 1 = .ok (.ifCond .lt 15, 3) := by decide +kernel
theorem dX4_isSetting_4 : decode cX4_isSetting 4 = .ok (.iload_n 0, 1) := by decide +kernel
theorem dX4_isSetting_5 : decode cX4_isSetting 5 = .ok (.getstatic 193, 3) := by decide +kernel
theorem dX4_isSetting_8 : decode cX4_isSetting 8 = .ok (.arraylength, 1) := by decide +kernel
theorem dX4_isSetting_9 : decode cX4_isSetting 9 = .ok (.if_icmp .ge 7, 3) := by decide +kernel
theorem dX4_isSetting_12 : decode cX4_isSetting 12 = .ok (.iconst 1, 1) := by decide +kernel
theorem dX4_isSetting_13 : decode cX4_isSetting 13 = .ok (.goto 4, 3) := by decide +kernel
theorem dX4_isSetting_16 : decode cX4_isSetting 16 = .ok (.iconst 0, 1) := by decide +kernel
theorem dX4_isSetting_17 : decode cX4_isSetting 17 = .ok (.ireturn, 1) := by decide +kernel
theorem dX4_isSlot_0 : decode cX4_isSlot 0 = .ok (.iload_n 0, 1) := by decide +kernel
theorem dX4_isSlot_1 : decode cX4_isSlot 1 = .ok (.ifCond .lt 12, 3) := by decide +kernel
theorem dX4_isSlot_4 : decode cX4_isSlot 4 = .ok (.iload_n 0, 1) := by decide +kernel
theorem dX4_isSlot_5 : decode cX4_isSlot 5 = .ok (.iconst 2, 1) := by decide +kernel
theorem dX4_isSlot_6 : decode cX4_isSlot 6 = .ok (.if_icmp .ge 7, 3) := by decide +kernel
theorem dX4_isSlot_9 : decode cX4_isSlot 9 = .ok (.iconst 1, 1) := by decide +kernel
theorem dX4_isSlot_10 : decode cX4_isSlot 10 = .ok (.goto 4, 3) := by decide +kernel
theorem dX4_isSlot_13 : decode cX4_isSlot 13 = .ok (.iconst 0, 1) := by decide +kernel
theorem dX4_isSlot_14 : decode cX4_isSlot 14 = .ok (.ireturn, 1) := by decide +kernel
theorem dX4_daysAsGuardianIfMoved_0 : decode cX4_daysAsGuardianIfMoved 0 = .ok (.aload_n 0, 1) := by decide +kernel
theorem dX4_daysAsGuardianIfMoved_1 : decode cX4_daysAsGuardianIfMoved 1 = .ok (.getfield 16, 3) := by decide +kernel
theorem dX4_daysAsGuardianIfMoved_4 : decode cX4_daysAsGuardianIfMoved 4 = .ok (.aload_n 0, 1) := by decide +kernel
theorem dX4_daysAsGuardianIfMoved_5 : decode cX4_daysAsGuardianIfMoved 5 = .ok (.getfield 10, 3) := by decide +kernel
theorem dX4_daysAsGuardianIfMoved_8 : decode cX4_daysAsGuardianIfMoved 8 = .ok (.invokevirtual 167, 3) := by decide +kernel
theorem dX4_daysAsGuardianIfMoved_11 : decode cX4_daysAsGuardianIfMoved 11 = .ok (.aload_n 0, 1) := by decide +kernel
theorem dX4_daysAsGuardianIfMoved_12 : decode cX4_daysAsGuardianIfMoved 12 = .ok (.getfield 16, 3) := by decide +kernel
theorem dX4_daysAsGuardianIfMoved_15 : decode cX4_daysAsGuardianIfMoved 15 = .ok (.iload_n 1, 1) := by decide +kernel
theorem dX4_daysAsGuardianIfMoved_16 : decode cX4_daysAsGuardianIfMoved 16 = .ok (.iload_n 2, 1) := by decide +kernel
theorem dX4_daysAsGuardianIfMoved_17 : decode cX4_daysAsGuardianIfMoved 17 = .ok (.invokevirtual 80, 3) := by decide +kernel
theorem dX4_daysAsGuardianIfMoved_20 : decode cX4_daysAsGuardianIfMoved 20 = .ok (.aload_n 0, 1) := by decide +kernel
theorem dX4_daysAsGuardianIfMoved_21 : decode cX4_daysAsGuardianIfMoved 21 = .ok (.getfield 16, 3) := by decide +kernel
theorem dX4_daysAsGuardianIfMoved_24 : decode cX4_daysAsGuardianIfMoved 24 = .ok (.iload_n 2, 1) := by decide +kernel
theorem dX4_daysAsGuardianIfMoved_25 : decode cX4_daysAsGuardianIfMoved 25 = .ok (.invokevirtual 76, 3) := by decide +kernel
theorem dX4_daysAsGuardianIfMoved_28 : decode cX4_daysAsGuardianIfMoved 28 = .ok (.astore_n 3, 1) := by decide +kernel
theorem dX4_daysAsGuardianIfMoved_29 : decode cX4_daysAsGuardianIfMoved 29 = .ok (.aload_n 3, 1) := by decide +kernel
theorem dX4_daysAsGuardianIfMoved_30 : decode cX4_daysAsGuardianIfMoved 30 = .ok (.ifnonnull 5, 3) := by decide +kernel
theorem dX4_daysAsGuardianIfMoved_33 : decode cX4_daysAsGuardianIfMoved 33 = .ok (.iconst 0, 1) := by decide +kernel
theorem dX4_daysAsGuardianIfMoved_34 : decode cX4_daysAsGuardianIfMoved 34 = .ok (.ireturn, 1) := by decide +kernel
theorem dX4_daysAsGuardianIfMoved_35 : decode cX4_daysAsGuardianIfMoved 35 = .ok (.aload_n 3, 1) := by decide +kernel
theorem dX4_daysAsGuardianIfMoved_36 : decode cX4_daysAsGuardianIfMoved 36 = .ok (.getfield 144, 3) := by decide +kernel
theorem dX4_daysAsGuardianIfMoved_39 : decode cX4_daysAsGuardianIfMoved 39 = .ok (.istore 4, 2) := by decide +kernel
theorem dX4_daysAsGuardianIfMoved_41 : decode cX4_daysAsGuardianIfMoved 41 = .ok (.aload_n 0, 1) := by decide +kernel
theorem dX4_daysAsGuardianIfMoved_42 : decode cX4_daysAsGuardianIfMoved 42 = .ok (.getfield 16, 3) := by decide +kernel
theorem dX4_daysAsGuardianIfMoved_45 : decode cX4_daysAsGuardianIfMoved 45 = .ok (.bipush 100, 2) := by decide +kernel
theorem dX4_daysAsGuardianIfMoved_47 : decode cX4_daysAsGuardianIfMoved 47 = .ok (.invokevirtual 118, 3) := by decide +kernel
theorem dX4_daysAsGuardianIfMoved_50 : decode cX4_daysAsGuardianIfMoved 50 = .ok (.aload_n 3, 1) := by decide +kernel
theorem dX4_daysAsGuardianIfMoved_51 : decode cX4_daysAsGuardianIfMoved 51 = .ok (.getfield 144, 3) := by decide +kernel
theorem dX4_daysAsGuardianIfMoved_54 : decode cX4_daysAsGuardianIfMoved 54 = .ok (.iload 4, 2) := by decide +kernel
theorem dX4_daysAsGuardianIfMoved_56 : decode cX4_daysAsGuardianIfMoved 56 = .ok (.isub, 1) := by decide +kernel
theorem dX4_daysAsGuardianIfMoved_57 : decode cX4_daysAsGuardianIfMoved 57 = .ok (.ireturn, 1) := by decide +kernel
