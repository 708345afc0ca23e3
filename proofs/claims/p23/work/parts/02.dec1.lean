theorem dX0_init_0 : decode cX0_init 0 = .ok (.aload_n 0, 1) := by decide +kernel
theorem dX0_init_1 : decode cX0_init 1 = .ok (.invokespecial 3, 3) := by decide +kernel
theorem dX0_init_4 : decode cX0_init 4 = .ok (.aload_n 0, 1) := by decide +kernel
theorem dX0_init_5 : decode cX0_init 5 = .ok (.bipush 6, 2) := by decide +kernel
theorem dX0_init_7 : decode cX0_init 7 = .ok (.anewarray 9, 3) := by decide +kernel
theorem dX0_init_10 : decode cX0_init 10 = .ok (.putfield 11, 3) := by decide +kernel
theorem dX0_init_13 : decode cX0_init 13 = .ok (.aload_n 0, 1) := by decide +kernel
theorem dX0_init_14 : decode cX0_init 14 = .ok (.iconst 0, 1) := by decide +kernel
theorem dX0_init_15 : decode cX0_init 15 = .ok (.putfield 17, 3) := by decide +kernel
theorem dX0_init_18 : decode cX0_init 18 = .ok (.iconst 0, 1) := by decide +kernel
theorem dX0_init_19 : decode cX0_init 19 = .ok (.istore_n 1, 1) := by decide +kernel
theorem dX0_init_20 : decode cX0_init 20 = .ok (.iload_n 1, 1) := by decide +kernel
theorem dX0_init_21 : decode cX0_init 21 = .ok (.bipush 6, 2) := by decide +kernel
theorem dX0_init_23 : decode cX0_init 23 = .ok (.if_icmp .ge 22, 3) := by decide +kernel
theorem dX0_init_26 : decode cX0_init 26 = .ok (.aload_n 0, 1) := by decide +kernel
theorem dX0_init_27 : decode cX0_init 27 = .ok (.getfield 11, 3) := by decide +kernel
theorem dX0_init_30 : decode cX0_init 30 = .ok (.iload_n 1, 1) := by decide +kernel
theorem dX0_init_31 : decode cX0_init 31 = .ok (.new 9, 3) := by decide +kernel
theorem dX0_init_34 : decode cX0_init 34 = .ok (.dup, 1) := by decide +kernel
theorem dX0_init_35 : decode cX0_init 35 = .ok (.invokespecial 21, 3) := by decide +kernel
theorem dX0_init_38 : decode cX0_init 38 = .ok (.aastore, 1) := by decide +kernel
theorem dX0_init_39 : decode cX0_init 39 = .ok (.iinc 1 1, 3) := by decide +kernel
theorem dX0_init_42 : decode cX0_init 42 = .ok (.goto (-22), 3) := by decide +kernel
theorem dX0_init_45 : decode cX0_init 45 = .ok (.return_, 1) := by decide +kernel
theorem dX0_record_0 : decode cX0_record 0 = .ok (.aload_n 0, 1) := by decide +kernel
theorem dX0_record_1 : decode cX0_record 1 = .ok (.getfield 17, 3) := by decide +kernel
theorem dX0_record_4 : decode cX0_record 4 = .ok (.bipush 6, 2) := by decide +kernel
theorem dX0_record_6 : decode cX0_record 6 = .ok (.if_icmp .lt 7, 3) := by decide +kernel
theorem dX0_record_9 : decode cX0_record 9 = .ok (.aload_n 0, 1) := by decide +kernel
theorem dX0_record_10 : decode cX0_record 10 = .ok (.invokevirtual 22, 3) := by decide +kernel
theorem dX0_record_13 : decode cX0_record 13 = .ok (.aload_n 0, 1) := by decide +kernel
theorem dX0_record_14 : decode cX0_record 14 = .ok (.getfield 17, 3) := by decide +kernel
theorem dX0_record_17 : decode cX0_record 17 = .ok (.ifCond .lt 47, 3) := by decide +kernel
theorem dX0_record_20 : decode cX0_record 20 = .ok (.aload_n 0, 1) := by decide +kernel
theorem dX0_record_21 : decode cX0_record 21 = .ok (.getfield 17, 3) := by decide +kernel
theorem dX0_record_24 : decode cX0_record 24 = .ok (.bipush 6, 2) := by decide +kernel
theorem dX0_record_26 : decode cX0_record 26 = .ok (.if_icmp .ge 38, 3) := by decide +kernel
theorem dX0_record_29 : decode cX0_record 29 = .ok (.aload_n 0, 1) := by decide +kernel
theorem dX0_record_30 : decode cX0_record 30 = .ok (.getfield 11, 3) := by decide +kernel
theorem dX0_record_33 : decode cX0_record 33 = .ok (.aload_n 0, 1) := by decide +kernel
theorem dX0_record_34 : decode cX0_record 34 = .ok (.getfield 17, 3) := by decide +kernel
theorem dX0_record_37 : decode cX0_record 37 = .ok (.aaload, 1) := by decide +kernel
theorem dX0_record_38 : decode cX0_record 38 = .ok (.ifnull 26, 3) := by decide +kernel
theorem dX0_record_41 : decode cX0_record 41 = .ok (.aload_n 0, 1) := by decide +kernel
theorem dX0_record_42 : decode cX0_record 42 = .ok (.getfield 11, 3) := by decide +kernel
theorem dX0_record_45 : decode cX0_record 45 = .ok (.aload_n 0, 1) := by decide +kernel
theorem dX0_record_46 : decode cX0_record 46 = .ok (.getfield 17, 3) := by decide +kernel
theorem dX0_record_49 : decode cX0_record 49 = .ok (.aaload, 1) := by decide +kernel
theorem dX0_record_50 : decode cX0_record 50 = .ok (.aload_n 1, 1) := by decide +kernel
theorem dX0_record_51 : decode cX0_record 51 = .ok (.invokevirtual 25, 3) := by decide +kernel
theorem dX0_record_54 : decode cX0_record 54 = .ok (.aload_n 0, 1) := by decide +kernel
theorem dX0_record_55 : decode cX0_record 55 = .ok (.dup, 1) := by decide +kernel
theorem dX0_record_56 : decode cX0_record 56 = .ok (.getfield 17, 3) := by decide +kernel
theorem dX0_record_59 : decode cX0_record 59 = .ok (.iconst 1, 1) := by decide +kernel
theorem dX0_record_60 : decode cX0_record 60 = .ok (.iadd, 1) := by decide +kernel
theorem dX0_record_61 : decode cX0_record 61 = .ok (.putfield 17, 3) := by decide +kernel
theorem dX0_record_64 : decode cX0_record 64 = .ok (.return_, 1) := by decide +kernel
theorem dX0_dropOldest_0 : decode cX0_dropOldest 0 = .ok (.aload_n 0, 1) := by decide +kernel
theorem dX0_dropOldest_1 : decode cX0_dropOldest 1 = .ok (.getfield 11, 3) := by decide +kernel
theorem dX0_dropOldest_4 : decode cX0_dropOldest 4 = .ok (.iconst 0, 1) := by decide +kernel
theorem dX0_dropOldest_5 : decode cX0_dropOldest 5 = .ok (.aaload, 1) := by decide +kernel
theorem dX0_dropOldest_6 : decode cX0_dropOldest 6 = .ok (.astore_n 1, 1) := by decide +kernel
theorem dX0_dropOldest_7 : decode cX0_dropOldest 7 = .ok (.iconst 1, 1) := by decide +kernel
theorem dX0_dropOldest_8 : decode cX0_dropOldest 8 = .ok (.istore_n 2, 1) := by decide +kernel
theorem dX0_dropOldest_9 : decode cX0_dropOldest 9 = .ok (.iload_n 2, 1) := by decide +kernel
theorem dX0_dropOldest_10 : decode cX0_dropOldest 10 = .ok (.bipush 6, 2) := by decide +kernel
theorem dX0_dropOldest_12 : decode cX0_dropOldest 12 = .ok (.if_icmp .ge 23, 3) := by decide +kernel
theorem dX0_dropOldest_15 : decode cX0_dropOldest 15 = .ok (.aload_n 0, 1) := by decide +kernel
theorem dX0_dropOldest_16 : decode cX0_dropOldest 16 = .ok (.getfield 11, 3) := by decide +kernel
theorem dX0_dropOldest_19 : decode cX0_dropOldest 19 = .ok (.iload_n 2, 1) := by decide +kernel
theorem dX0_dropOldest_20 : decode cX0_dropOldest 20 = .ok (.iconst 1, 1) := by decide +kernel
theorem dX0_dropOldest_21 : decode cX0_dropOldest 21 = .ok (.isub, 1) := by decide +kernel
theorem dX0_dropOldest_22 : decode cX0_dropOldest 22 = .ok (.aload_n 0, 1) := by decide +kernel
theorem dX0_dropOldest_23 : decode cX0_dropOldest 23 = .ok (.getfield 11, 3) := by decide +kernel
theorem dX0_dropOldest_26 : decode cX0_dropOldest 26 = .ok (.iload_n 2, 1) := by decide +kernel
theorem dX0_dropOldest_27 : decode cX0_dropOldest 27 = .ok (.aaload, 1) := by decide +kernel
theorem dX0_dropOldest_28 : decode cX0_dropOldest 28 = .ok (.aastore, 1) := by decide +kernel
theorem dX0_dropOldest_29 : decode cX0_dropOldest 29 = .ok (.iinc 2 1, 3) := by decide +kernel
theorem dX0_dropOldest_32 : decode cX0_dropOldest 32 = .ok (.goto (-23), 3) := by decide +kernel
theorem dX0_dropOldest_35 : decode cX0_dropOldest 35 = .ok (.aload_n 0, 1) := by decide +kernel
theorem dX0_dropOldest_36 : decode cX0_dropOldest 36 = .ok (.getfield 11, 3) := by decide +kernel
theorem dX0_dropOldest_39 : decode cX0_dropOldest 39 = .ok (.iconst 5, 1) := by decide +kernel
theorem dX0_dropOldest_40 : decode cX0_dropOldest 40 = .ok (.aload_n 1, 1) := by decide +kernel
theorem dX0_dropOldest_41 : decode cX0_dropOldest 41 = .ok (.aastore, 1) := by decide +kernel
theorem dX0_dropOldest_42 : decode cX0_dropOldest 42 = .ok (.aload_n 0, 1) := by decide +kernel
theorem dX0_dropOldest_43 : decode cX0_dropOldest 43 = .ok (.iconst 5, 1) := by decide +kernel
theorem dX0_dropOldest_44 : decode cX0_dropOldest 44 = .ok (.putfield 17, 3) := by decide +kernel
theorem dX0_dropOldest_47 : decode cX0_dropOldest 47 = .ok (.return_, 1) := by decide +kernel
theorem dX0_takeBack_0 : decode cX0_takeBack 0 = .ok (.aload_n 0, 1) := by decide +kernel
theorem dX0_takeBack_1 : decode cX0_takeBack 1 = .ok (.getfield 17, 3) := by decide +kernel
theorem dX0_takeBack_4 : decode cX0_takeBack 4 = .ok (.iconst 1, 1) := by decide +kernel
theorem dX0_takeBack_5 : decode cX0_takeBack 5 = .ok (.if_icmp .lt 26, 3) := by decide +kernel
theorem dX0_takeBack_8 : decode cX0_takeBack 8 = .ok (.aload_n 0, 1) := by decide +kernel
theorem dX0_takeBack_9 : decode cX0_takeBack 9 = .ok (.getfield 17, 3) := by decide +kernel
theorem dX0_takeBack_12 : decode cX0_takeBack 12 = .ok (.bipush 6, 2) := by decide +kernel
theorem dX0_takeBack_14 : decode cX0_takeBack 14 = .ok (.if_icmp .gt 17, 3) := by decide +kernel
theorem dX0_takeBack_17 : decode cX0_takeBack 17 = .ok (.aload_n 0, 1) := by decide +kernel
theorem dX0_takeBack_18 : decode cX0_takeBack 18 = .ok (.getfield 11, 3) := by decide +kernel
theorem dX0_takeBack_21 : decode cX0_takeBack 21 = .ok (.aload_n 0, 1) := by decide +kernel
theorem dX0_takeBack_22 : decode cX0_takeBack 22 = .ok (.getfield 17, 3) := by decide +kernel
theorem dX0_takeBack_25 : decode cX0_takeBack 25 = .ok (.iconst 1, 1) := by decide +kernel
theorem dX0_takeBack_26 : decode cX0_takeBack 26 = .ok (.isub, 1) := by decide +kernel
theorem dX0_takeBack_27 : decode cX0_takeBack 27 = .ok (.aaload, 1) := by decide +kernel
theorem dX0_takeBack_28 : decode cX0_takeBack 28 = .ok (.ifnonnull 4, 3) := by decide +kernel
theorem dX0_takeBack_31 : decode cX0_takeBack 31 = .ok (.return_, 1) := by decide +kernel
theorem dX0_takeBack_32 : decode cX0_takeBack 32 = .ok (.aload_n 0, 1) := by decide +kernel
theorem dX0_takeBack_33 : decode cX0_takeBack 33 = .ok (.dup, 1) := by decide +kernel
theorem dX0_takeBack_34 : decode cX0_takeBack 34 = .ok (.getfield 17, 3) := by decide +kernel
theorem dX0_takeBack_37 : decode cX0_takeBack 37 = .ok (.iconst 1, 1) := by decide +kernel
theorem dX0_takeBack_38 : decode cX0_takeBack 38 = .ok (.isub, 1) := by decide +kernel
theorem dX0_takeBack_39 : decode cX0_takeBack 39 = .ok (.putfield 17, 3) := by decide +kernel
theorem dX0_takeBack_42 : decode cX0_takeBack 42 = .ok (.aload_n 1, 1) := by decide +kernel
theorem dX0_takeBack_43 : decode cX0_takeBack 43 = .ok (.aload_n 0, 1) := by decide +kernel
theorem dX0_takeBack_44 : decode cX0_takeBack 44 = .ok (.getfield 11, 3) := by decide +kernel
theorem dX0_takeBack_47 : decode cX0_takeBack 47 = .ok (.aload_n 0, 1) := by decide +kernel
theorem dX0_takeBack_48 : decode cX0_takeBack 48 = .ok (.getfield 17, 3) := by decide +kernel
theorem dX0_takeBack_51 : decode cX0_takeBack 51 = .ok (.aaload, 1) := by decide +kernel
theorem dX0_takeBack_52 : decode cX0_takeBack 52 = .ok (.invokevirtual 25, 3) := by decide +kernel
theorem dX0_takeBack_55 : decode cX0_takeBack 55 = .ok (.return_, 1) := by decide +kernel
theorem dX1_init_0 : decode cX1_init 0 = .ok (.aload_n 0, 1) := by decide +kernel
theorem dX1_init_1 : decode cX1_init 1 = .ok (.invokespecial 3, 3) := by decide +kernel
theorem dX1_init_4 : decode cX1_init 4 = .ok (.aload_n 0, 1) := by decide +kernel
theorem dX1_init_5 : decode cX1_init 5 = .ok (.bipush 60, 2) := by decide +kernel
theorem dX1_init_7 : decode cX1_init 7 = .ok (.newarray .char, 2) := by decide +kernel
theorem dX1_init_9 : decode cX1_init 9 = .ok (.putfield 9, 3) := by decide +kernel
theorem dX1_init_12 : decode cX1_init 12 = .ok (.aload_n 0, 1) := by decide +kernel
theorem dX1_init_13 : decode cX1_init 13 = .ok (.iconst 0, 1) := by decide +kernel
theorem dX1_init_14 : decode cX1_init 14 = .ok (.putfield 15, 3) := by decide +kernel
theorem dX1_init_17 : decode cX1_init 17 = .ok (.return_, 1) := by decide +kernel
theorem dX2_init_0 : decode cX2_init 0 = .ok (.aload_n 0, 1) := by decide +kernel
theorem dX2_init_1 : decode cX2_init 1 = .ok (.invokespecial 1, 3) := by decide +kernel
theorem dX2_init_4 : decode cX2_init 4 = .ok (.return_, 1) := by decide +kernel
theorem dX2_copyFrom_0 : decode cX2_copyFrom 0 = .ok (.aload_n 0, 1) := by decide +kernel
theorem dX2_copyFrom_1 : decode cX2_copyFrom 1 = .ok (.aload_n 1, 1) := by decide +kernel
theorem dX2_copyFrom_2 : decode cX2_copyFrom 2 = .ok (.getfield 7, 3) := by decide +kernel
theorem dX2_copyFrom_5 : decode cX2_copyFrom 5 = .ok (.putfield 7, 3) := by decide +kernel
theorem dX2_copyFrom_8 : decode cX2_copyFrom 8 = .ok (.aload_n 0, 1) := by decide +kernel
theorem dX2_copyFrom_9 : decode cX2_copyFrom 9 = .ok (.aload_n 1, 1) := by decide +kernel
theorem dX2_copyFrom_10 : decode cX2_copyFrom 10 = .ok (.getfield 13, 3) := by decide +kernel
theorem dX2_copyFrom_13 : decode cX2_copyFrom 13 = .ok (.putfield 13, 3) := by decide +kernel
theorem dX2_copyFrom_16 : decode cX2_copyFrom 16 = .ok (.aload_n 0, 1) := by decide +kernel
theorem dX2_copyFrom_17 : decode cX2_copyFrom 17 = .ok (.aload_n 1, 1) := by decide +kernel
theorem dX2_copyFrom_18 : decode cX2_copyFrom 18 = .ok (.getfield 16, 3) := by decide +kernel
theorem dX2_copyFrom_21 : decode cX2_copyFrom 21 = .ok (.putfield 16, 3) := by decide +kernel
theorem dX2_copyFrom_24 : decode cX2_copyFrom 24 = .ok (.aload_n 0, 1) := by decide +kernel
theorem dX2_copyFrom_25 : decode cX2_copyFrom 25 = .ok (.aload_n 1, 1) := by decide +kernel
theorem dX2_copyFrom_26 : decode cX2_copyFrom 26 = .ok (.getfield 19, 3) := by decide +kernel
theorem dX2_copyFrom_29 : decode cX2_copyFrom 29 = .ok (.putfield 19, 3) := by decide +kernel
theorem dX2_copyFrom_32 : decode cX2_copyFrom 32 = .ok (.aload_n 0, 1) := by decide +kernel
theorem dX2_copyFrom_33 : decode cX2_copyFrom 33 = .ok (.aload_n 1, 1) := by decide +kernel
theorem dX2_copyFrom_34 : decode cX2_copyFrom 34 = .ok (.getfield 22, 3) := by decide +kernel
theorem dX2_copyFrom_37 : decode cX2_copyFrom 37 = .ok (.putfield 22, 3) := by decide +kernel
theorem dX2_copyFrom_40 : decode cX2_copyFrom 40 = .ok (.aload_n 0, 1) := by decide +kernel
theorem dX2_copyFrom_41 : decode cX2_copyFrom 41 = .ok (.aload_n 1, 1) := by decide +kernel
theorem dX2_copyFrom_42 : decode cX2_copyFrom 42 = .ok (.getfield 25, 3) := by decide +kernel
theorem dX2_copyFrom_45 : decode cX2_copyFrom 45 = .ok (.putfield 25, 3) := by decide +kernel
theorem dX2_copyFrom_48 : decode cX2_copyFrom 48 = .ok (.return_, 1) := by decide +kernel
theorem dX2_begin_0 : decode cX2_begin 0 = .ok (.aload_n 0, 1) := by decide +kernel
theorem dX2_begin_1 : decode cX2_begin 1 = .ok (.iload_n 1, 1) := by decide +kernel
theorem dX2_begin_2 : decode cX2_begin 2 = .ok (.putfield 7, 3) := by decide +kernel
theorem dX2_begin_5 : decode cX2_begin 5 = .ok (.aload_n 0, 1) := by decide +kernel
theorem dX2_begin_6 : decode cX2_begin 6 = .ok (.iload_n 2, 1) := by decide +kernel
theorem dX2_begin_7 : decode cX2_begin 7 = .ok (.putfield 13, 3) := by decide +kernel
theorem dX2_begin_10 : decode cX2_begin 10 = .ok (.aload_n 0, 1) := by decide +kernel
theorem dX2_begin_11 : decode cX2_begin 11 = .ok (.iconst 0, 1) := by decide +kernel
theorem dX2_begin_12 : decode cX2_begin 12 = .ok (.putfield 16, 3) := by decide +kernel
theorem dX2_begin_15 : decode cX2_begin 15 = .ok (.aload_n 0, 1) := by decide +kernel
theorem dX2_begin_16 : decode cX2_begin 16 = .ok (.iconst 0, 1) := by decide +kernel
theorem dX2_begin_17 : decode cX2_begin 17 = .ok (.putfield 19, 3) := by decide +kernel
theorem dX2_begin_20 : decode cX2_begin 20 = .ok (.aload_n 0, 1) := by decide +kernel
theorem dX2_begin_21 : decode cX2_begin 21 = .ok (.iconst 0, 1) := by decide +kernel
theorem dX2_begin_22 : decode cX2_begin 22 = .ok (.putfield 22, 3) := by decide +kernel
theorem dX2_begin_25 : decode cX2_begin 25 = .ok (.aload_n 0, 1) := by decide +kernel
theorem dX2_begin_26 : decode cX2_begin 26 = .ok (.iconst 0, 1) := by decide +kernel
theorem dX2_begin_27 : decode cX2_begin 27 = .ok (.putfield 25, 3) := by decide +kernel
theorem dX2_begin_30 : decode cX2_begin 30 = .ok (.return_, 1) := by decide +kernel
theorem dX3_init_0 : decode cX3_init 0 = .ok (.aload_n 0, 1) := by decide +kernel
theorem dX3_init_1 : decode cX3_init 1 = .ok (.invokespecial 3, 3) := by decide +kernel
theorem dX3_init_4 : decode cX3_init 4 = .ok (.aload_n 0, 1) := by decide +kernel
theorem dX3_init_5 : decode cX3_init 5 = .ok (.getstatic 9, 3) := by decide +kernel
theorem dX3_init_8 : decode cX3_init 8 = .ok (.invokevirtual 13, 3) := by decide +kernel
theorem dX3_init_11 : decode cX3_init 11 = .ok (.checkcast 14, 3) := by decide +kernel
theorem dX3_init_14 : decode cX3_init 14 = .ok (.putfield 18, 3) := by decide +kernel
theorem dX3_init_17 : decode cX3_init 17 = .ok (.aload_n 0, 1) := by decide +kernel
theorem dX3_init_18 : decode cX3_init 18 = .ok (.bipush 8, 2) := by decide +kernel
theorem dX3_init_20 : decode cX3_init 20 = .ok (.anewarray 23, 3) := by decide +kernel
theorem dX3_init_23 : decode cX3_init 23 = .ok (.putfield 25, 3) := by decide +kernel
theorem dX3_init_26 : decode cX3_init 26 = .ok (.aload_n 0, 1) := by decide +kernel
theorem dX3_init_27 : decode cX3_init 27 = .ok (.iconst 0, 1) := by decide +kernel
theorem dX3_init_28 : decode cX3_init 28 = .ok (.putfield 29, 3) := by decide +kernel
theorem dX3_init_31 : decode cX3_init 31 = .ok (.aload_n 0, 1) := by decide +kernel
theorem dX3_init_32 : decode cX3_init 32 = .ok (.bipush 50, 2) := by decide +kernel
theorem dX3_init_34 : decode cX3_init 34 = .ok (.putfield 33, 3) := by decide +kernel
theorem dX3_init_37 : decode cX3_init 37 = .ok (.aload_n 0, 1) := by decide +kernel
theorem dX3_init_38 : decode cX3_init 38 = .ok (.bipush (-6), 2) := by decide +kernel
theorem dX3_init_40 : decode cX3_init 40 = .ok (.putfield 36, 3) := by decide +kernel
theorem dX3_init_43 : decode cX3_init 43 = .ok (.aload_n 0, 1) := by decide +kernel
theorem dX3_init_44 : decode cX3_init 44 = .ok (.iconst 0, 1) := by decide +kernel
theorem dX3_init_45 : decode cX3_init 45 = .ok (.putfield 39, 3) := by decide +kernel
theorem dX3_init_48 : decode cX3_init 48 = .ok (.aload_n 0, 1) := by decide +kernel
theorem dX3_init_49 : decode cX3_init 49 = .ok (.sipush 1000, 3) := by decide +kernel
theorem dX3_init_52 : decode cX3_init 52 = .ok (.putfield 42, 3) := by decide +kernel
theorem dX3_init_55 : decode cX3_init 55 = .ok (.aload_n 0, 1) := by decide +kernel
theorem dX3_init_56 : decode cX3_init 56 = .ok (.iconst 0, 1) := by decide +kernel
theorem dX3_init_57 : decode cX3_init 57 = .ok (.putfield 45, 3) := by decide +kernel
theorem dX3_init_60 : decode cX3_init 60 = .ok (.aload_n 0, 1) := by decide +kernel
theorem dX3_init_61 : decode cX3_init 61 = .ok (.iconst 0, 1) := by decide +kernel
theorem dX3_init_62 : decode cX3_init 62 = .ok (.putfield 48, 3) := by decide +kernel
theorem dX3_init_65 : decode cX3_init 65 = .ok (.aload_n 0, 1) := by decide +kernel
theorem dX3_init_66 : decode cX3_init 66 = .ok (.iconst 0, 1) := by decide +kernel
theorem dX3_init_67 : decode cX3_init 67 = .ok (.putfield 51, 3) := by decide +kernel
theorem dX3_init_70 : decode cX3_init 70 = .ok (.aload_n 0, 1) := by decide +kernel
theorem dX3_init_71 : decode cX3_init 71 = .ok (.iconst 0, 1) := by decide +kernel
theorem dX3_init_72 : decode cX3_init 72 = .ok (.putfield 54, 3) := by decide +kernel
theorem dX3_init_75 : decode cX3_init 75 = .ok (.aload_n 0, 1) := by decide +kernel
theorem dX3_init_76 : decode cX3_init 76 = .ok (.iconst 0, 1) := by decide +kernel
theorem dX3_init_77 : decode cX3_init 77 = .ok (.putfield 57, 3) := by decide +kernel
theorem dX3_init_80 : decode cX3_init 80 = .ok (.aload_n 0, 1) := by decide +kernel
theorem dX3_init_81 : decode cX3_init 81 = .ok (.iconst 0, 1) := by decide +kernel
theorem dX3_init_82 : decode cX3_init 82 = .ok (.putfield 60, 3) := by decide +kernel
theorem dX3_init_85 : decode cX3_init 85 = .ok (.iconst 0, 1) := by decide +kernel
theorem dX3_init_86 : decode cX3_init 86 = .ok (.istore_n 1, 1) := by decide +kernel
theorem dX3_init_87 : decode cX3_init 87 = .ok (.iload_n 1, 1) := by decide +kernel
theorem dX3_init_88 : decode cX3_init 88 = .ok (.bipush 8, 2) := by decide +kernel
theorem dX3_init_90 : decode cX3_init 90 = .ok (.if_icmp .ge 22, 3) := by decide +kernel
theorem dX3_init_93 : decode cX3_init 93 = .ok (.aload_n 0, 1) := by decide +kernel
theorem dX3_init_94 : decode cX3_init 94 = .ok (.getfield 25, 3) := by decide +kernel
theorem dX3_init_97 : decode cX3_init 97 = .ok (.iload_n 1, 1) := by decide +kernel
theorem dX3_init_98 : decode cX3_init 98 = .ok (.new 23, 3) := by decide +kernel
theorem dX3_init_101 : decode cX3_init 101 = .ok (.dup, 1) := by decide +kernel
theorem dX3_init_102 : decode cX3_init 102 = .ok (.invokespecial 63, 3) := by decide +kernel
theorem dX3_init_105 : decode cX3_init 105 = .ok (.aastore, 1) := by decide +kernel
theorem dX3_init_106 : decode cX3_init 106 = .ok (.iinc 1 1, 3) := by decide +kernel
theorem dX3_init_109 : decode cX3_init 109 = .ok (.goto (-22), 3) := by decide +kernel
theorem dX3_init_112 : decode cX3_init 112 = .ok (.return_, 1) := by decide +kernel
theorem dX3_copyFrom_0 : decode cX3_copyFrom 0 = .ok (.aload_n 1, 1) := by decide +kernel
theorem dX3_copyFrom_1 : decode cX3_copyFrom 1 = .ok (.getfield 18, 3) := by decide +kernel
theorem dX3_copyFrom_4 : decode cX3_copyFrom 4 = .ok (.iconst 0, 1) := by decide +kernel
theorem dX3_copyFrom_5 : decode cX3_copyFrom 5 = .ok (.aload_n 0, 1) := by decide +kernel
theorem dX3_copyFrom_6 : decode cX3_copyFrom 6 = .ok (.getfield 18, 3) := by decide +kernel
theorem dX3_copyFrom_9 : decode cX3_copyFrom 9 = .ok (.iconst 0, 1) := by decide +kernel
theorem dX3_copyFrom_10 : decode cX3_copyFrom 10 = .ok (.getstatic 9, 3) := by decide +kernel
theorem dX3_copyFrom_13 : decode cX3_copyFrom 13 = .ok (.arraylength, 1) := by decide +kernel
theorem dX3_copyFrom_14 : decode cX3_copyFrom 14 = .ok (.invokestatic 64, 3) := by decide +kernel
theorem dX3_copyFrom_17 : decode cX3_copyFrom 17 = .ok (.aload_n 0, 1) := by decide +kernel
theorem dX3_copyFrom_18 : decode cX3_copyFrom 18 = .ok (.aload_n 1, 1) := by decide +kernel
theorem dX3_copyFrom_19 : decode cX3_copyFrom 19 = .ok (.getfield 29, 3) := by decide +kernel
theorem dX3_copyFrom_22 : decode cX3_copyFrom 22 = .ok (.putfield 29, 3) := by decide +kernel
theorem dX3_copyFrom_25 : decode cX3_copyFrom 25 = .ok (.iconst 0, 1) := by decide +kernel
theorem dX3_copyFrom_26 : decode cX3_copyFrom 26 = .ok (.istore_n 2, 1) := by decide +kernel
theorem dX3_copyFrom_27 : decode cX3_copyFrom 27 = .ok (.iload_n 2, 1) := by decide +kernel
theorem dX3_copyFrom_28 : decode cX3_copyFrom 28 = .ok (.bipush 8, 2) := by decide +kernel
theorem dX3_copyFrom_30 : decode cX3_copyFrom 30 = .ok (.if_icmp .ge 37, 3) := by decide +kernel
theorem dX3_copyFrom_33 : decode cX3_copyFrom 33 = .ok (.aload_n 0, 1) := by decide +kernel
theorem dX3_copyFrom_34 : decode cX3_copyFrom 34 = .ok (.iload_n 2, 1) := by decide +kernel
theorem dX3_copyFrom_35 : decode cX3_copyFrom 35 = .ok (.invokevirtual 70, 3) := by decide +kernel
theorem dX3_copyFrom_38 : decode cX3_copyFrom 38 = .ok (.astore_n 3, 1) := by decide +kernel
theorem dX3_copyFrom_39 : decode cX3_copyFrom 39 = .ok (.aload_n 1, 1) := by decide +kernel
theorem dX3_copyFrom_40 : decode cX3_copyFrom 40 = .ok (.iload_n 2, 1) := by decide +kernel
theorem dX3_copyFrom_41 : decode cX3_copyFrom 41 = .ok (.invokevirtual 70, 3) := by decide +kernel
theorem dX3_copyFrom_44 : decode cX3_copyFrom 44 = .ok (.astore 4, 2) := by decide +kernel
theorem dX3_copyFrom_46 : decode cX3_copyFrom 46 = .ok (.aload_n 3, 1) := by decide +kernel
theorem dX3_copyFrom_47 : decode cX3_copyFrom 47 = .ok (.ifnull 14, 3) := by decide +kernel
theorem dX3_copyFrom_50 : decode cX3_copyFrom 50 = .ok (.aload 4, 2) := by decide +kernel
theorem dX3_copyFrom_52 : decode cX3_copyFrom 52 = .ok (.ifnull 9, 3) := by decide +kernel
theorem dX3_copyFrom_55 : decode cX3_copyFrom 55 = .ok (.aload_n 3, 1) := by decide +kernel
theorem dX3_copyFrom_56 : decode cX3_copyFrom 56 = .ok (.aload 4, 2) := by decide +kernel
theorem dX3_copyFrom_58 : decode cX3_copyFrom 58 = .ok (.invokevirtual 74, 3) := by decide +kernel
theorem dX3_copyFrom_61 : decode cX3_copyFrom 61 = .ok (.iinc 2 1, 3) := by decide +kernel
theorem dX3_copyFrom_64 : decode cX3_copyFrom 64 = .ok (.goto (-37), 3) := by decide +kernel
theorem dX3_copyFrom_67 : decode cX3_copyFrom 67 = .ok (.aload_n 0, 1) := by decide +kernel
theorem dX3_copyFrom_68 : decode cX3_copyFrom 68 = .ok (.aload_n 1, 1) := by decide +kernel
theorem dX3_copyFrom_69 : decode cX3_copyFrom 69 = .ok (.getfield 33, 3) := by decide +kernel
theorem dX3_copyFrom_72 : decode cX3_copyFrom 72 = .ok (.putfield 33, 3) := by decide +kernel
theorem dX3_copyFrom_75 : decode cX3_copyFrom 75 = .ok (.aload_n 0, 1) := by decide +kernel
theorem dX3_copyFrom_76 : decode cX3_copyFrom 76 = .ok (.aload_n 1, 1) := by decide +kernel
theorem dX3_copyFrom_77 : decode cX3_copyFrom 77 = .ok (.getfield 36, 3) := by decide +kernel
theorem dX3_copyFrom_80 : decode cX3_copyFrom 80 = .ok (.putfield 36, 3) := by decide +kernel
theorem dX3_copyFrom_83 : decode cX3_copyFrom 83 = .ok (.aload_n 0, 1) := by decide +kernel
theorem dX3_copyFrom_84 : decode cX3_copyFrom 84 = .ok (.aload_n 1, 1) := by decide +kernel
theorem dX3_copyFrom_85 : decode cX3_copyFrom 85 = .ok (.getfield 39, 3) := by decide +kernel
theorem dX3_copyFrom_88 : decode cX3_copyFrom 88 = .ok (.putfield 39, 3) := by decide +kernel
theorem dX3_copyFrom_91 : decode cX3_copyFrom 91 = .ok (.aload_n 0, 1) := by decide +kernel
theorem dX3_copyFrom_92 : decode cX3_copyFrom 92 = .ok (.aload_n 1, 1) := by decide +kernel
theorem dX3_copyFrom_93 : decode cX3_copyFrom 93 = .ok (.getfield 42, 3) := by decide +kernel
theorem dX3_copyFrom_96 : decode cX3_copyFrom 96 = .ok (.putfield 42, 3) := by decide +kernel
theorem dX3_copyFrom_99 : decode cX3_copyFrom 99 = .ok (.aload_n 0, 1) := by decide +kernel
theorem dX3_copyFrom_100 : decode cX3_copyFrom 100 = .ok (.aload_n 1, 1) := by decide +kernel
theorem dX3_copyFrom_101 : decode cX3_copyFrom 101 = .ok (.getfield 45, 3) := by decide +kernel
theorem dX3_copyFrom_104 : decode cX3_copyFrom 104 = .ok (.putfield 45, 3) := by decide +kernel
theorem dX3_copyFrom_107 : decode cX3_copyFrom 107 = .ok (.aload_n 0, 1) := by decide +kernel
theorem dX3_copyFrom_108 : decode cX3_copyFrom 108 = .ok (.aload_n 1, 1) := by decide +kernel
theorem dX3_copyFrom_109 : decode cX3_copyFrom 109 = .ok (.getfield 48, 3) := by decide +kernel
theorem dX3_copyFrom_112 : decode cX3_copyFrom 112 = .ok (.putfield 48, 3) := by decide +kernel
theorem dX3_copyFrom_115 : decode cX3_copyFrom 115 = .ok (.aload_n 0, 1) := by decide +kernel
theorem dX3_copyFrom_116 : decode cX3_copyFrom 116 = .ok (.aload_n 1, 1) := by decide +kernel
theorem dX3_copyFrom_117 : decode cX3_copyFrom 117 = .ok (.getfield 51, 3) := by decide +kernel
theorem dX3_copyFrom_120 : decode cX3_copyFrom 120 = .ok (.putfield 51, 3) := by decide +kernel
theorem dX3_copyFrom_123 : decode cX3_copyFrom 123 = .ok (.aload_n 0, 1) := by decide +kernel
theorem dX3_copyFrom_124 : decode cX3_copyFrom 124 = .ok (.aload_n 1, 1) := by decide +kernel
theorem dX3_copyFrom_125 : decode cX3_copyFrom 125 = .ok (.getfield 54, 3) := by decide +kernel
theorem dX3_copyFrom_128 : decode cX3_copyFrom 128 = .ok (.putfield 54, 3) := by decide +kernel
theorem dX3_copyFrom_131 : decode cX3_copyFrom 131 = .ok (.aload_n 0, 1) := by decide +kernel
theorem dX3_copyFrom_132 : decode cX3_copyFrom 132 = .ok (.aload_n 1, 1) := by decide +kernel
theorem dX3_copyFrom_133 : decode cX3_copyFrom 133 = .ok (.getfield 57, 3) := by decide +kernel
theorem dX3_copyFrom_136 : decode cX3_copyFrom 136 = .ok (.putfield 57, 3) := by decide +kernel
theorem dX3_copyFrom_139 : decode cX3_copyFrom 139 = .ok (.aload_n 0, 1) := by decide +kernel
theorem dX3_copyFrom_140 : decode cX3_copyFrom 140 = .ok (.aload_n 1, 1) := by decide +kernel
theorem dX3_copyFrom_141 : decode cX3_copyFrom 141 = .ok (.getfield 60, 3) := by decide +kernel
theorem dX3_copyFrom_144 : decode cX3_copyFrom 144 = .ok (.putfield 60, 3) := by decide +kernel
theorem dX3_copyFrom_147 : decode cX3_copyFrom 147 = .ok (.return_, 1) := by decide +kernel
theorem dX3_at_0 : decode cX3_at 0 = .ok (.iload_n 1, 1) := by decide +kernel
theorem dX3_at_1 : decode cX3_at 1 = .ok (.ifCond .lt 26, 3) := by decide +kernel
theorem dX3_at_4 : decode cX3_at 4 = .ok (.iload_n 1, 1) := by decide +kernel
theorem dX3_at_5 : decode cX3_at 5 = .ok (.aload_n 0, 1) := by decide +kernel
theorem dX3_at_6 : decode cX3_at 6 = .ok (.getfield 29, 3) := by decide +kernel
theorem dX3_at_9 : decode cX3_at 9 = .ok (.if_icmp .ge 18, 3) := by decide +kernel
theorem dX3_at_12 : decode cX3_at 12 = .ok (.iload_n 1, 1) := by decide +kernel
theorem dX3_at_13 : decode cX3_at 13 = .ok (.bipush 8, 2) := by decide +kernel
theorem dX3_at_15 : decode cX3_at 15 = .ok (.if_icmp .ge 12, 3) := by decide +kernel
theorem dX3_at_18 : decode cX3_at 18 = .ok (.aload_n 0, 1) := by decide +kernel
theorem dX3_at_19 : decode cX3_at 19 = .ok (.getfield 25, 3) := by decide +kernel
theorem dX3_at_22 : decode cX3_at 22 = .ok (.iload_n 1, 1) := by decide +kernel
theorem dX3_at_23 : decode cX3_at 23 = .ok (.aaload, 1) := by decide +kernel
theorem dX3_at_24 : decode cX3_at 24 = .ok (.goto 4, 3) := by decide +kernel
theorem dX3_at_27 : decode cX3_at 27 = .ok (.aconst_null, 1) := by decide +kernel
theorem dX3_at_28 : decode cX3_at 28 = .ok (.areturn, 1) := by decide +kernel
theorem dX3_behind_0 : decode cX3_behind 0 = .ok (.iload_n 1, 1) := by decide +kernel
theorem dX3_behind_1 : decode cX3_behind 1 = .ok (.iconst 1, 1) := by decide +kernel
theorem dX3_behind_2 : decode cX3_behind 2 = .ok (.iadd, 1) := by decide +kernel
theorem dX3_behind_3 : decode cX3_behind 3 = .ok (.aload_n 0, 1) := by decide +kernel
theorem dX3_behind_4 : decode cX3_behind 4 = .ok (.getfield 29, 3) := by decide +kernel
theorem dX3_behind_7 : decode cX3_behind 7 = .ok (.if_icmp .ge 9, 3) := by decide +kernel
theorem dX3_behind_10 : decode cX3_behind 10 = .ok (.iload_n 1, 1) := by decide +kernel
theorem dX3_behind_11 : decode cX3_behind 11 = .ok (.iconst 1, 1) := by decide +kernel
theorem dX3_behind_12 : decode cX3_behind 12 = .ok (.iadd, 1) := by decide +kernel
theorem dX3_behind_13 : decode cX3_behind 13 = .ok (.goto 4, 3) := by decide +kernel
theorem dX3_behind_16 : decode cX3_behind 16 = .ok (.iconst 0, 1) := by decide +kernel
theorem dX3_behind_17 : decode cX3_behind 17 = .ok (.ireturn, 1) := by decide +kernel
theorem dX3_isBarred_0 : decode cX3_isBarred 0 = .ok (.aload_n 1, 1) := by decide +kernel
theorem dX3_isBarred_1 : decode cX3_isBarred 1 = .ok (.getfield 78, 3) := by decide +kernel
theorem dX3_isBarred_4 : decode cX3_isBarred 4 = .ok (.aload_n 0, 1) := by decide +kernel
theorem dX3_isBarred_5 : decode cX3_isBarred 5 = .ok (.getfield 18, 3) := by decide +kernel
theorem dX3_isBarred_8 : decode cX3_isBarred 8 = .ok (.iconst 4, 1) := by decide +kernel
theorem dX3_isBarred_9 : decode cX3_isBarred 9 = .ok (.iaload, 1) := by decide +kernel
theorem dX3_isBarred_10 : decode cX3_isBarred 10 = .ok (.if_icmp .lt 7, 3) := by decide +kernel
theorem dX3_isBarred_13 : decode cX3_isBarred 13 = .ok (.iconst 1, 1) := by decide +kernel
theorem dX3_isBarred_14 : decode cX3_isBarred 14 = .ok (.goto 4, 3) := by decide +kernel
theorem dX3_isBarred_17 : decode cX3_isBarred 17 = .ok (.iconst 0, 1) := by decide +kernel
theorem dX3_isBarred_18 : decode cX3_isBarred 18 = .ok (.ireturn, 1) := by decide +kernel
theorem dX3_score_0 : decode cX3_score 0 = .ok (.aload_n 0, 1) := by decide +kernel
theorem dX3_score_1 : decode cX3_score 1 = .ok (.getfield 33, 3) := by decide +kernel
theorem dX3_score_4 : decode cX3_score 4 = .ok (.iconst 5, 1) := by decide +kernel
theorem dX3_score_5 : decode cX3_score 5 = .ok (.aload_n 1, 1) := by decide +kernel
theorem dX3_score_6 : decode cX3_score 6 = .ok (.getfield 79, 3) := by decide +kernel
theorem dX3_score_9 : decode cX3_score 9 = .ok (.imul, 1) := by decide +kernel
theorem dX3_score_10 : decode cX3_score 10 = .ok (.iadd, 1) := by decide +kernel
theorem dX3_score_11 : decode cX3_score 11 = .ok (.bipush 10, 2) := by decide +kernel
theorem dX3_score_13 : decode cX3_score 13 = .ok (.aload_n 1, 1) := by decide +kernel
theorem dX3_score_14 : decode cX3_score 14 = .ok (.getfield 78, 3) := by decide +kernel
theorem dX3_score_17 : decode cX3_score 17 = .ok (.imul, 1) := by decide +kernel
theorem dX3_score_18 : decode cX3_score 18 = .ok (.isub, 1) := by decide +kernel
theorem dX3_score_19 : decode cX3_score 19 = .ok (.ireturn, 1) := by decide +kernel
theorem dX3_barredPeople_0 : decode cX3_barredPeople 0 = .ok (.iconst 0, 1) := by decide +kernel
theorem dX3_barredPeople_1 : decode cX3_barredPeople 1 = .ok (.istore_n 1, 1) := by decide +kernel
theorem dX3_barredPeople_2 : decode cX3_barredPeople 2 = .ok (.iconst 0, 1) := by decide +kernel
theorem dX3_barredPeople_3 : decode cX3_barredPeople 3 = .ok (.istore_n 2, 1) := by decide +kernel
theorem dX3_barredPeople_4 : decode cX3_barredPeople 4 = .ok (.iload_n 2, 1) := by decide +kernel
theorem dX3_barredPeople_5 : decode cX3_barredPeople 5 = .ok (.aload_n 0, 1) := by decide +kernel
theorem dX3_barredPeople_6 : decode cX3_barredPeople 6 = .ok (.getfield 29, 3) := by decide +kernel
theorem dX3_barredPeople_9 : decode cX3_barredPeople 9 = .ok (.if_icmp .ge 30, 3) := by decide +kernel
theorem dX3_barredPeople_12 : decode cX3_barredPeople 12 = .ok (.aload_n 0, 1) := by decide +kernel
theorem dX3_barredPeople_13 : decode cX3_barredPeople 13 = .ok (.iload_n 2, 1) := by decide +kernel
theorem dX3_barredPeople_14 : decode cX3_barredPeople 14 = .ok (.invokevirtual 70, 3) := by decide +kernel
theorem dX3_barredPeople_17 : decode cX3_barredPeople 17 = .ok (.astore_n 3, 1) := by decide +kernel
theorem dX3_barredPeople_18 : decode cX3_barredPeople 18 = .ok (.aload_n 3, 1) := by decide +kernel
theorem dX3_barredPeople_19 : decode cX3_barredPeople 19 = .ok (.ifnull 14, 3) := by decide +kernel
theorem dX3_barredPeople_22 : decode cX3_barredPeople 22 = .ok (.aload_n 0, 1) := by decide +kernel
theorem dX3_barredPeople_23 : decode cX3_barredPeople 23 = .ok (.aload_n 3, 1) := by decide +kernel
theorem dX3_barredPeople_24 : decode cX3_barredPeople 24 = .ok (.invokevirtual 82, 3) := by decide +kernel
theorem dX3_barredPeople_27 : decode cX3_barredPeople 27 = .ok (.ifCond .eq 6, 3) := by decide +kernel
theorem dX3_barredPeople_30 : decode cX3_barredPeople 30 = .ok (.iinc 1 1, 3) := by decide +kernel
theorem dX3_barredPeople_33 : decode cX3_barredPeople 33 = .ok (.iinc 2 1, 3) := by decide +kernel
theorem dX3_barredPeople_36 : decode cX3_barredPeople 36 = .ok (.goto (-32), 3) := by decide +kernel
theorem dX3_barredPeople_39 : decode cX3_barredPeople 39 = .ok (.iload_n 1, 1) := by decide +kernel
theorem dX3_barredPeople_40 : decode cX3_barredPeople 40 = .ok (.ireturn, 1) := by decide +kernel
theorem dX3_allPurses_0 : decode cX3_allPurses 0 = .ok (.iconst 0, 1) := by decide +kernel
theorem dX3_allPurses_1 : decode cX3_allPurses 1 = .ok (.istore_n 1, 1) := by decide +kernel
theorem dX3_allPurses_2 : decode cX3_allPurses 2 = .ok (.iconst 0, 1) := by decide +kernel
theorem dX3_allPurses_3 : decode cX3_allPurses 3 = .ok (.istore_n 2, 1) := by decide +kernel
theorem dX3_allPurses_4 : decode cX3_allPurses 4 = .ok (.iload_n 2, 1) := by decide +kernel
theorem dX3_allPurses_5 : decode cX3_allPurses 5 = .ok (.aload_n 0, 1) := by decide +kernel
theorem dX3_allPurses_6 : decode cX3_allPurses 6 = .ok (.getfield 29, 3) := by decide +kernel
theorem dX3_allPurses_9 : decode cX3_allPurses 9 = .ok (.if_icmp .ge 26, 3) := by decide +kernel
theorem dX3_allPurses_12 : decode cX3_allPurses 12 = .ok (.aload_n 0, 1) := by decide +kernel
theorem dX3_allPurses_13 : decode cX3_allPurses 13 = .ok (.iload_n 2, 1) := by decide +kernel
theorem dX3_allPurses_14 : decode cX3_allPurses 14 = .ok (.invokevirtual 70, 3) := by decide +kernel
theorem dX3_allPurses_17 : decode cX3_allPurses 17 = .ok (.astore_n 3, 1) := by decide +kernel
theorem dX3_allPurses_18 : decode cX3_allPurses 18 = .ok (.aload_n 3, 1) := by decide +kernel
theorem dX3_allPurses_19 : decode cX3_allPurses 19 = .ok (.ifnull 10, 3) := by decide +kernel
theorem dX3_allPurses_22 : decode cX3_allPurses 22 = .ok (.iload_n 1, 1) := by decide +kernel
theorem dX3_allPurses_23 : decode cX3_allPurses 23 = .ok (.aload_n 3, 1) := by decide +kernel
theorem dX3_allPurses_24 : decode cX3_allPurses 24 = .ok (.getfield 86, 3) := by decide +kernel
theorem dX3_allPurses_27 : decode cX3_allPurses 27 = .ok (.iadd, 1) := by decide +kernel
theorem dX3_allPurses_28 : decode cX3_allPurses 28 = .ok (.istore_n 1, 1) := by decide +kernel
theorem dX3_allPurses_29 : decode cX3_allPurses 29 = .ok (.iinc 2 1, 3) := by decide +kernel
theorem dX3_allPurses_32 : decode cX3_allPurses 32 = .ok (.goto (-28), 3) := by decide +kernel
theorem dX3_allPurses_35 : decode cX3_allPurses 35 = .ok (.iload_n 1, 1) := by decide +kernel
theorem dX3_allPurses_36 : decode cX3_allPurses 36 = .ok (.ireturn, 1) := by decide +kernel
theorem dX3_admit_0 : decode cX3_admit 0 = .ok (.aload_n 0, 1) := by decide +kernel
theorem dX3_admit_1 : decode cX3_admit 1 = .ok (.getfield 29, 3) := by decide +kernel
theorem dX3_admit_4 : decode cX3_admit 4 = .ok (.bipush 8, 2) := by decide +kernel
theorem dX3_admit_6 : decode cX3_admit 6 = .ok (.if_icmp .lt 4, 3) := by decide +kernel
theorem dX3_admit_9 : decode cX3_admit 9 = .ok (.return_, 1) := by decide +kernel
theorem dX3_admit_10 : decode cX3_admit 10 = .ok (.aload_n 0, 1) := by decide +kernel
theorem dX3_admit_11 : decode cX3_admit 11 = .ok (.dup, 1) := by decide +kernel
theorem dX3_admit_12 : decode cX3_admit 12 = .ok (.getfield 29, 3) := by decide +kernel
theorem dX3_admit_15 : decode cX3_admit 15 = .ok (.iconst 1, 1) := by decide +kernel
theorem dX3_admit_16 : decode cX3_admit 16 = .ok (.iadd, 1) := by decide +kernel
theorem dX3_admit_17 : decode cX3_admit 17 = .ok (.putfield 29, 3) := by decide +kernel
theorem dX3_admit_20 : decode cX3_admit 20 = .ok (.aload_n 0, 1) := by decide +kernel
theorem dX3_admit_21 : decode cX3_admit 21 = .ok (.aload_n 0, 1) := by decide +kernel
theorem dX3_admit_22 : decode cX3_admit 22 = .ok (.getfield 29, 3) := by decide +kernel
theorem dX3_admit_25 : decode cX3_admit 25 = .ok (.iconst 1, 1) := by decide +kernel
theorem dX3_admit_26 : decode cX3_admit 26 = .ok (.isub, 1) := by decide +kernel
theorem dX3_admit_27 : decode cX3_admit 27 = .ok (.invokevirtual 70, 3) := by decide +kernel
theorem dX3_admit_30 : decode cX3_admit 30 = .ok (.astore_n 3, 1) := by decide +kernel
theorem dX3_admit_31 : decode cX3_admit 31 = .ok (.aload_n 3, 1) := by decide +kernel
theorem dX3_admit_32 : decode cX3_admit 32 = .ok (.ifnull 9, 3) := by decide +kernel
theorem dX3_admit_35 : decode cX3_admit 35 = .ok (.aload_n 3, 1) := by decide +kernel
theorem dX3_admit_36 : decode cX3_admit 36 = .ok (.iload_n 1, 1) := by decide +kernel
theorem dX3_admit_37 : decode cX3_admit 37 = .ok (.iload_n 2, 1) := by decide +kernel
theorem dX3_admit_38 : decode cX3_admit 38 = .ok (.invokevirtual 89, 3) := by decide +kernel
theorem dX3_admit_41 : decode cX3_admit 41 = .ok (.return_, 1) := by decide +kernel
theorem dX3_relocate_0 : decode cX3_relocate 0 = .ok (.aload_n 0, 1) := by decide +kernel
theorem dX3_relocate_1 : decode cX3_relocate 1 = .ok (.iload_n 1, 1) := by decide +kernel
theorem dX3_relocate_2 : decode cX3_relocate 2 = .ok (.invokevirtual 70, 3) := by decide +kernel
theorem dX3_relocate_5 : decode cX3_relocate 5 = .ok (.astore_n 3, 1) := by decide +kernel
theorem dX3_relocate_6 : decode cX3_relocate 6 = .ok (.aload_n 3, 1) := by decide +kernel
theorem dX3_relocate_7 : decode cX3_relocate 7 = .ok (.ifnull 11, 3) := by decide +kernel
theorem dX3_relocate_10 : decode cX3_relocate 10 = .ok (.aload_n 0, 1) := by decide +kernel
theorem dX3_relocate_11 : decode cX3_relocate 11 = .ok (.iload_n 2, 1) := by decide +kernel
theorem dX3_relocate_12 : decode cX3_relocate 12 = .ok (.invokevirtual 70, 3) := by decide +kernel
theorem dX3_relocate_15 : decode cX3_relocate 15 = .ok (.ifnonnull 4, 3) := by decide +kernel
theorem dX3_relocate_18 : decode cX3_relocate 18 = .ok (.return_, 1) := by decide +kernel
theorem dX3_relocate_19 : decode cX3_relocate 19 = .ok (.iload_n 1, 1) := by decide +kernel
theorem dX3_relocate_20 : decode cX3_relocate 20 = .ok (.istore 4, 2) := by decide +kernel
theorem dX3_relocate_22 : decode cX3_relocate 22 = .ok (.iload 4, 2) := by decide +kernel
theorem dX3_relocate_24 : decode cX3_relocate 24 = .ok (.iload_n 2, 1) := by decide +kernel
theorem dX3_relocate_25 : decode cX3_relocate 25 = .ok (.if_icmp .ge 25, 3) := by decide +kernel
theorem dX3_relocate_28 : decode cX3_relocate 28 = .ok (.aload_n 0, 1) := by decide +kernel
theorem dX3_relocate_29 : decode cX3_relocate 29 = .ok (.getfield 25, 3) := by decide +kernel
theorem dX3_relocate_32 : decode cX3_relocate 32 = .ok (.iload 4, 2) := by decide +kernel
theorem dX3_relocate_34 : decode cX3_relocate 34 = .ok (.aload_n 0, 1) := by decide +kernel
theorem dX3_relocate_35 : decode cX3_relocate 35 = .ok (.getfield 25, 3) := by decide +kernel
theorem dX3_relocate_38 : decode cX3_relocate 38 = .ok (.iload 4, 2) := by decide +kernel
theorem dX3_relocate_40 : decode cX3_relocate 40 = .ok (.iconst 1, 1) := by decide +kernel
theorem dX3_relocate_41 : decode cX3_relocate 41 = .ok (.iadd, 1) := by decide +kernel
theorem dX3_relocate_42 : decode cX3_relocate 42 = .ok (.aaload, 1) := by decide +kernel
theorem dX3_relocate_43 : decode cX3_relocate 43 = .ok (.aastore, 1) := by decide +kernel
theorem dX3_relocate_44 : decode cX3_relocate 44 = .ok (.iinc 4 1, 3) := by decide +kernel
theorem dX3_relocate_47 : decode cX3_relocate 47 = .ok (.goto (-25), 3) := by decide +kernel
theorem dX3_relocate_50 : decode cX3_relocate 50 = .ok (.iload_n 1, 1) := by decide +kernel
theorem dX3_relocate_51 : decode cX3_relocate 51 = .ok (.istore 4, 2) := by decide +kernel
theorem dX3_relocate_53 : decode cX3_relocate 53 = .ok (.iload 4, 2) := by decide +kernel
theorem dX3_relocate_55 : decode cX3_relocate 55 = .ok (.iload_n 2, 1) := by decide +kernel
theorem dX3_relocate_56 : decode cX3_relocate 56 = .ok (.if_icmp .le 25, 3) := by decide +kernel
theorem dX3_relocate_59 : decode cX3_relocate 59 = .ok (.aload_n 0, 1) := by decide +kernel
theorem dX3_relocate_60 : decode cX3_relocate 60 = .ok (.getfield 25, 3) := by decide +kernel
theorem dX3_relocate_63 : decode cX3_relocate 63 = .ok (.iload 4, 2) := by decide +kernel
theorem dX3_relocate_65 : decode cX3_relocate 65 = .ok (.aload_n 0, 1) := by decide +kernel
theorem dX3_relocate_66 : decode cX3_relocate 66 = .ok (.getfield 25, 3) := by decide +kernel
theorem dX3_relocate_69 : decode cX3_relocate 69 = .ok (.iload 4, 2) := by decide +kernel
theorem dX3_relocate_71 : decode cX3_relocate 71 = .ok (.iconst 1, 1) := by decide +kernel
theorem dX3_relocate_72 : decode cX3_relocate 72 = .ok (.isub, 1) := by decide +kernel
theorem dX3_relocate_73 : decode cX3_relocate 73 = .ok (.aaload, 1) := by decide +kernel
theorem dX3_relocate_74 : decode cX3_relocate 74 = .ok (.aastore, 1) := by decide +kernel
theorem dX3_relocate_75 : decode cX3_relocate 75 = .ok (.iinc 4 (-1), 3) := by decide +kernel
theorem dX3_relocate_78 : decode cX3_relocate 78 = .ok (.goto (-25), 3) := by decide +kernel
theorem dX3_relocate_81 : decode cX3_relocate 81 = .ok (.aload_n 0, 1) := by decide +kernel
theorem dX3_relocate_82 : decode cX3_relocate 82 = .ok (.getfield 25, 3) := by decide +kernel
theorem dX3_relocate_85 : decode cX3_relocate 85 = .ok (.iload_n 2, 1) := by decide +kernel
theorem dX3_relocate_86 : decode cX3_relocate 86 = .ok (.aload_n 3, 1) := by decide +kernel
theorem dX3_relocate_87 : decode cX3_relocate 87 = .ok (.aastore, 1) := by decide +kernel
theorem dX3_relocate_88 : decode cX3_relocate 88 = .ok (.aload_n 0, 1) := by decide +kernel
theorem dX3_relocate_89 : decode cX3_relocate 89 = .ok (.aload_n 0, 1) := by decide +kernel
theorem dX3_relocate_90 : decode cX3_relocate 90 = .ok (.aload_n 0, 1) := by decide +kernel
theorem dX3_relocate_91 : decode cX3_relocate 91 = .ok (.getfield 36, 3) := by decide +kernel
theorem dX3_relocate_94 : decode cX3_relocate 94 = .ok (.iload_n 1, 1) := by decide +kernel
theorem dX3_relocate_95 : decode cX3_relocate 95 = .ok (.iload_n 2, 1) := by decide +kernel
theorem dX3_relocate_96 : decode cX3_relocate 96 = .ok (.invokevirtual 93, 3) := by decide +kernel
theorem dX3_relocate_99 : decode cX3_relocate 99 = .ok (.putfield 36, 3) := by decide +kernel
theorem dX3_relocate_102 : decode cX3_relocate 102 = .ok (.aload_n 0, 1) := by decide +kernel
theorem dX3_relocate_103 : decode cX3_relocate 103 = .ok (.aload_n 0, 1) := by decide +kernel
theorem dX3_relocate_104 : decode cX3_relocate 104 = .ok (.aload_n 0, 1) := by decide +kernel
theorem dX3_relocate_105 : decode cX3_relocate 105 = .ok (.getfield 39, 3) := by decide +kernel
theorem dX3_relocate_108 : decode cX3_relocate 108 = .ok (.iload_n 1, 1) := by decide +kernel
theorem dX3_relocate_109 : decode cX3_relocate 109 = .ok (.iload_n 2, 1) := by decide +kernel
theorem dX3_relocate_110 : decode cX3_relocate 110 = .ok (.invokevirtual 93, 3) := by decide +kernel
theorem dX3_relocate_113 : decode cX3_relocate 113 = .ok (.putfield 39, 3) := by decide +kernel
theorem dX3_relocate_116 : decode cX3_relocate 116 = .ok (.return_, 1) := by decide +kernel
theorem dX3_placeAfterMove_0 : decode cX3_placeAfterMove 0 = .ok (.iload_n 1, 1) := by decide +kernel
theorem dX3_placeAfterMove_1 : decode cX3_placeAfterMove 1 = .ok (.iload_n 2, 1) := by decide +kernel
theorem dX3_placeAfterMove_2 : decode cX3_placeAfterMove 2 = .ok (.if_icmp .ne 5, 3) := by decide +kernel
theorem dX3_placeAfterMove_5 : decode cX3_placeAfterMove 5 = .ok (.iload_n 3, 1) := by decide +kernel
theorem dX3_placeAfterMove_6 : decode cX3_placeAfterMove 6 = .ok (.ireturn, 1) := by decide +kernel
theorem dX3_placeAfterMove_7 : decode cX3_placeAfterMove 7 = .ok (.iload_n 1, 1) := by decide +kernel
theorem dX3_placeAfterMove_8 : decode cX3_placeAfterMove 8 = .ok (.iload_n 2, 1) := by decide +kernel
theorem dX3_placeAfterMove_9 : decode cX3_placeAfterMove 9 = .ok (.if_icmp .le 12, 3) := by decide +kernel
theorem dX3_placeAfterMove_12 : decode cX3_placeAfterMove 12 = .ok (.iload_n 1, 1) := by decide +kernel
theorem dX3_placeAfterMove_13 : decode cX3_placeAfterMove 13 = .ok (.iload_n 3, 1) := by decide +kernel
theorem dX3_placeAfterMove_14 : decode cX3_placeAfterMove 14 = .ok (.if_icmp .gt 7, 3) := by decide +kernel
theorem dX3_placeAfterMove_17 : decode cX3_placeAfterMove 17 = .ok (.iload_n 1, 1) := by decide +kernel
theorem dX3_placeAfterMove_18 : decode cX3_placeAfterMove 18 = .ok (.iconst 1, 1) := by decide +kernel
theorem dX3_placeAfterMove_19 : decode cX3_placeAfterMove 19 = .ok (.isub, 1) := by decide +kernel
theorem dX3_placeAfterMove_20 : decode cX3_placeAfterMove 20 = .ok (.ireturn, 1) := by decide +kernel
theorem dX3_placeAfterMove_21 : decode cX3_placeAfterMove 21 = .ok (.iload_n 1, 1) := by decide +kernel
theorem dX3_placeAfterMove_22 : decode cX3_placeAfterMove 22 = .ok (.iload_n 2, 1) := by decide +kernel
theorem dX3_placeAfterMove_23 : decode cX3_placeAfterMove 23 = .ok (.if_icmp .ge 12, 3) := by decide +kernel
theorem dX3_placeAfterMove_26 : decode cX3_placeAfterMove 26 = .ok (.iload_n 1, 1) := by decide +kernel
theorem dX3_placeAfterMove_27 : decode cX3_placeAfterMove 27 = .ok (.iload_n 3, 1) := by decide +kernel
theorem dX3_placeAfterMove_28 : decode cX3_placeAfterMove 28 = .ok (.if_icmp .lt 7, 3) := by decide +kernel
theorem dX3_placeAfterMove_31 : decode cX3_placeAfterMove 31 = .ok (.iload_n 1, 1) := by decide +kernel
theorem dX3_placeAfterMove_32 : decode cX3_placeAfterMove 32 = .ok (.iconst 1, 1) := by decide +kernel
theorem dX3_placeAfterMove_33 : decode cX3_placeAfterMove 33 = .ok (.iadd, 1) := by decide +kernel
theorem dX3_placeAfterMove_34 : decode cX3_placeAfterMove 34 = .ok (.ireturn, 1) := by decide +kernel
theorem dX3_placeAfterMove_35 : decode cX3_placeAfterMove 35 = .ok (.iload_n 1, 1) := by decide +kernel
theorem dX3_placeAfterMove_36 : decode cX3_placeAfterMove 36 = .ok (.ireturn, 1) := by decide +kernel
theorem dX3_leaveWithoutGuardian_0 : decode cX3_leaveWithoutGuardian 0 = .ok (.aload_n 0, 1) := by decide +kernel
theorem dX3_leaveWithoutGuardian_1 : decode cX3_leaveWithoutGuardian 1 = .ok (.bipush (-6), 2) := by decide +kernel
theorem dX3_leaveWithoutGuardian_3 : decode cX3_leaveWithoutGuardian 3 = .ok (.putfield 36, 3) := by decide +kernel
theorem dX3_leaveWithoutGuardian_6 : decode cX3_leaveWithoutGuardian 6 = .ok (.aload_n 0, 1) := by decide +kernel
theorem dX3_leaveWithoutGuardian_7 : decode cX3_leaveWithoutGuardian 7 = .ok (.iload_n 1, 1) := by decide +kernel
theorem dX3_leaveWithoutGuardian_8 : decode cX3_leaveWithoutGuardian 8 = .ok (.putfield 39, 3) := by decide +kernel
theorem dX3_leaveWithoutGuardian_11 : decode cX3_leaveWithoutGuardian 11 = .ok (.return_, 1) := by decide +kernel
theorem dX3_depose_0 : decode cX3_depose 0 = .ok (.aload_n 0, 1) := by decide +kernel
theorem dX3_depose_1 : decode cX3_depose 1 = .ok (.iload_n 1, 1) := by decide +kernel
theorem dX3_depose_2 : decode cX3_depose 2 = .ok (.invokevirtual 97, 3) := by decide +kernel
theorem dX3_depose_5 : decode cX3_depose 5 = .ok (.aload_n 0, 1) := by decide +kernel
theorem dX3_depose_6 : decode cX3_depose 6 = .ok (.dup, 1) := by decide +kernel
theorem dX3_depose_7 : decode cX3_depose 7 = .ok (.getfield 54, 3) := by decide +kernel
theorem dX3_depose_10 : decode cX3_depose 10 = .ok (.iconst 1, 1) := by decide +kernel
theorem dX3_depose_11 : decode cX3_depose 11 = .ok (.iadd, 1) := by decide +kernel
theorem dX3_depose_12 : decode cX3_depose 12 = .ok (.putfield 54, 3) := by decide +kernel
theorem dX3_depose_15 : decode cX3_depose 15 = .ok (.return_, 1) := by decide +kernel
theorem dX3_scratch_0 : decode cX3_scratch 0 = .ok (.aload_n 1, 1) := by decide +kernel
theorem dX3_scratch_1 : decode cX3_scratch 1 = .ok (.dup, 1) := by decide +kernel
theorem dX3_scratch_2 : decode cX3_scratch 2 = .ok (.getfield 78, 3) := by decide +kernel
theorem dX3_scratch_5 : decode cX3_scratch 5 = .ok (.iconst 1, 1) := by decide +kernel
theorem dX3_scratch_6 : decode cX3_scratch 6 = .ok (.iadd, 1) := by decide +kernel
theorem dX3_scratch_7 : decode cX3_scratch 7 = .ok (.putfield 78, 3) := by decide +kernel
theorem dX3_scratch_10 : decode cX3_scratch 10 = .ok (.aload_n 0, 1) := by decide +kernel
theorem dX3_scratch_11 : decode cX3_scratch 11 = .ok (.dup, 1) := by decide +kernel
theorem dX3_scratch_12 : decode cX3_scratch 12 = .ok (.getfield 48, 3) := by decide +kernel
theorem dX3_scratch_15 : decode cX3_scratch 15 = .ok (.iconst 1, 1) := by decide +kernel
theorem dX3_scratch_16 : decode cX3_scratch 16 = .ok (.iadd, 1) := by decide +kernel
theorem dX3_scratch_17 : decode cX3_scratch 17 = .ok (.putfield 48, 3) := by decide +kernel
theorem dX3_scratch_20 : decode cX3_scratch 20 = .ok (.return_, 1) := by decide +kernel
theorem dX3_mayAppeal_0 : decode cX3_mayAppeal 0 = .ok (.aload_n 0, 1) := by decide +kernel
theorem dX3_mayAppeal_1 : decode cX3_mayAppeal 1 = .ok (.iload_n 1, 1) := by decide +kernel
theorem dX3_mayAppeal_2 : decode cX3_mayAppeal 2 = .ok (.invokevirtual 70, 3) := by decide +kernel
theorem dX3_mayAppeal_5 : decode cX3_mayAppeal 5 = .ok (.astore_n 2, 1) := by decide +kernel
theorem dX3_mayAppeal_6 : decode cX3_mayAppeal 6 = .ok (.aload_n 2, 1) := by decide +kernel
theorem dX3_mayAppeal_7 : decode cX3_mayAppeal 7 = .ok (.ifnull 45, 3) := by decide +kernel
theorem dX3_mayAppeal_10 : decode cX3_mayAppeal 10 = .ok (.aload_n 0, 1) := by decide +kernel
theorem dX3_mayAppeal_11 : decode cX3_mayAppeal 11 = .ok (.getfield 36, 3) := by decide +kernel
theorem dX3_mayAppeal_14 : decode cX3_mayAppeal 14 = .ok (.bipush (-6), 2) := by decide +kernel
theorem dX3_mayAppeal_16 : decode cX3_mayAppeal 16 = .ok (.if_icmp .eq 36, 3) := by decide +kernel
theorem dX3_mayAppeal_19 : decode cX3_mayAppeal 19 = .ok (.iload_n 1, 1) := by decide +kernel
theorem dX3_mayAppeal_20 : decode cX3_mayAppeal 20 = .ok (.aload_n 0, 1) := by decide +kernel
theorem dX3_mayAppeal_21 : decode cX3_mayAppeal 21 = .ok (.getfield 36, 3) := by decide +kernel
theorem dX3_mayAppeal_24 : decode cX3_mayAppeal 24 = .ok (.if_icmp .eq 28, 3) := by decide +kernel
theorem dX3_mayAppeal_27 : decode cX3_mayAppeal 27 = .ok (.aload_n 0, 1) := by decide +kernel
theorem dX3_mayAppeal_28 : decode cX3_mayAppeal 28 = .ok (.aload_n 2, 1) := by decide +kernel
theorem dX3_mayAppeal_29 : decode cX3_mayAppeal 29 = .ok (.invokevirtual 82, 3) := by decide +kernel
theorem dX3_mayAppeal_32 : decode cX3_mayAppeal 32 = .ok (.ifCond .ne 20, 3) := by decide +kernel
theorem dX3_mayAppeal_35 : decode cX3_mayAppeal 35 = .ok (.aload_n 2, 1) := by decide +kernel
theorem dX3_mayAppeal_36 : decode cX3_mayAppeal 36 = .ok (.getfield 86, 3) := by decide +kernel
theorem dX3_mayAppeal_39 : decode cX3_mayAppeal 39 = .ok (.aload_n 0, 1) := by decide +kernel
theorem dX3_mayAppeal_40 : decode cX3_mayAppeal 40 = .ok (.getfield 18, 3) := by decide +kernel
theorem dX3_mayAppeal_43 : decode cX3_mayAppeal 43 = .ok (.iconst 2, 1) := by decide +kernel
theorem dX3_mayAppeal_44 : decode cX3_mayAppeal 44 = .ok (.iaload, 1) := by decide +kernel
theorem dX3_mayAppeal_45 : decode cX3_mayAppeal 45 = .ok (.if_icmp .lt 7, 3) := by decide +kernel
theorem dX3_mayAppeal_48 : decode cX3_mayAppeal 48 = .ok (.iconst 1, 1) := by decide +kernel
theorem dX3_mayAppeal_49 : decode cX3_mayAppeal 49 = .ok (.goto 4, 3) := by decide +kernel
theorem dX3_mayAppeal_52 : decode cX3_mayAppeal 52 = .ok (.iconst 0, 1) := by decide +kernel
theorem dX3_mayAppeal_53 : decode cX3_mayAppeal 53 = .ok (.ireturn, 1) := by decide +kernel
theorem dX3_hearAppeal_0 : decode cX3_hearAppeal 0 = .ok (.aload_n 0, 1) := by decide +kernel
theorem dX3_hearAppeal_1 : decode cX3_hearAppeal 1 = .ok (.iload_n 1, 1) := by decide +kernel
theorem dX3_hearAppeal_2 : decode cX3_hearAppeal 2 = .ok (.invokevirtual 70, 3) := by decide +kernel
theorem dX3_hearAppeal_5 : decode cX3_hearAppeal 5 = .ok (.astore_n 2, 1) := by decide +kernel
theorem dX3_hearAppeal_6 : decode cX3_hearAppeal 6 = .ok (.aload_n 0, 1) := by decide +kernel
theorem dX3_hearAppeal_7 : decode cX3_hearAppeal 7 = .ok (.aload_n 0, 1) := by decide +kernel
theorem dX3_hearAppeal_8 : decode cX3_hearAppeal 8 = .ok (.getfield 36, 3) := by decide +kernel
theorem dX3_hearAppeal_11 : decode cX3_hearAppeal 11 = .ok (.invokevirtual 70, 3) := by decide +kernel
theorem dX3_hearAppeal_14 : decode cX3_hearAppeal 14 = .ok (.astore_n 3, 1) := by decide +kernel
theorem dX3_hearAppeal_15 : decode cX3_hearAppeal 15 = .ok (.aload_n 2, 1) := by decide +kernel
theorem dX3_hearAppeal_16 : decode cX3_hearAppeal 16 = .ok (.ifnull 7, 3) := by decide +kernel
theorem dX3_hearAppeal_19 : decode cX3_hearAppeal 19 = .ok (.aload_n 3, 1) := by decide +kernel
theorem dX3_hearAppeal_20 : decode cX3_hearAppeal 20 = .ok (.ifnonnull 5, 3) := by decide +kernel
theorem dX3_hearAppeal_23 : decode cX3_hearAppeal 23 = .ok (.iconst 0, 1) := by decide +kernel
theorem dX3_hearAppeal_24 : decode cX3_hearAppeal 24 = .ok (.ireturn, 1) := by decide +kernel
theorem dX3_hearAppeal_25 : decode cX3_hearAppeal 25 = .ok (.aload_n 2, 1) := by decide +kernel
theorem dX3_hearAppeal_26 : decode cX3_hearAppeal 26 = .ok (.dup, 1) := by decide +kernel
theorem dX3_hearAppeal_27 : decode cX3_hearAppeal 27 = .ok (.getfield 86, 3) := by decide +kernel
theorem dX3_hearAppeal_30 : decode cX3_hearAppeal 30 = .ok (.aload_n 0, 1) := by decide +kernel
theorem dX3_hearAppeal_31 : decode cX3_hearAppeal 31 = .ok (.getfield 18, 3) := by decide +kernel
theorem dX3_hearAppeal_34 : decode cX3_hearAppeal 34 = .ok (.iconst 2, 1) := by decide +kernel
theorem dX3_hearAppeal_35 : decode cX3_hearAppeal 35 = .ok (.iaload, 1) := by decide +kernel
theorem dX3_hearAppeal_36 : decode cX3_hearAppeal 36 = .ok (.isub, 1) := by decide +kernel
theorem dX3_hearAppeal_37 : decode cX3_hearAppeal 37 = .ok (.putfield 86, 3) := by decide +kernel
theorem dX3_hearAppeal_40 : decode cX3_hearAppeal 40 = .ok (.aload_n 0, 1) := by decide +kernel
theorem dX3_hearAppeal_41 : decode cX3_hearAppeal 41 = .ok (.dup, 1) := by decide +kernel
theorem dX3_hearAppeal_42 : decode cX3_hearAppeal 42 = .ok (.getfield 42, 3) := by decide +kernel
theorem dX3_hearAppeal_45 : decode cX3_hearAppeal 45 = .ok (.aload_n 0, 1) := by decide +kernel
theorem dX3_hearAppeal_46 : decode cX3_hearAppeal 46 = .ok (.getfield 18, 3) := by decide +kernel
theorem dX3_hearAppeal_49 : decode cX3_hearAppeal 49 = .ok (.iconst 2, 1) := by decide +kernel
theorem dX3_hearAppeal_50 : decode cX3_hearAppeal 50 = .ok (.iaload, 1) := by decide +kernel
theorem dX3_hearAppeal_51 : decode cX3_hearAppeal 51 = .ok (.iadd, 1) := by decide +kernel
theorem dX3_hearAppeal_52 : decode cX3_hearAppeal 52 = .ok (.putfield 42, 3) := by decide +kernel
theorem dX3_hearAppeal_55 : decode cX3_hearAppeal 55 = .ok (.aload_n 0, 1) := by decide +kernel
theorem dX3_hearAppeal_56 : decode cX3_hearAppeal 56 = .ok (.aload_n 2, 1) := by decide +kernel
theorem dX3_hearAppeal_57 : decode cX3_hearAppeal 57 = .ok (.invokevirtual 101, 3) := by decide +kernel
theorem dX3_hearAppeal_60 : decode cX3_hearAppeal 60 = .ok (.aload_n 0, 1) := by decide +kernel
theorem dX3_hearAppeal_61 : decode cX3_hearAppeal 61 = .ok (.aload_n 3, 1) := by decide +kernel
theorem dX3_hearAppeal_62 : decode cX3_hearAppeal 62 = .ok (.invokevirtual 101, 3) := by decide +kernel
theorem dX3_hearAppeal_65 : decode cX3_hearAppeal 65 = .ok (.if_icmp .le 10, 3) := by decide +kernel
theorem dX3_hearAppeal_68 : decode cX3_hearAppeal 68 = .ok (.aload_n 0, 1) := by decide +kernel
theorem dX3_hearAppeal_69 : decode cX3_hearAppeal 69 = .ok (.iload_n 1, 1) := by decide +kernel
theorem dX3_hearAppeal_70 : decode cX3_hearAppeal 70 = .ok (.invokevirtual 105, 3) := by decide +kernel
theorem dX3_hearAppeal_73 : decode cX3_hearAppeal 73 = .ok (.iconst 1, 1) := by decide +kernel
theorem dX3_hearAppeal_74 : decode cX3_hearAppeal 74 = .ok (.ireturn, 1) := by decide +kernel
theorem dX3_hearAppeal_75 : decode cX3_hearAppeal 75 = .ok (.aload_n 0, 1) := by decide +kernel
theorem dX3_hearAppeal_76 : decode cX3_hearAppeal 76 = .ok (.aload_n 2, 1) := by decide +kernel
theorem dX3_hearAppeal_77 : decode cX3_hearAppeal 77 = .ok (.invokevirtual 108, 3) := by decide +kernel
theorem dX3_hearAppeal_80 : decode cX3_hearAppeal 80 = .ok (.iconst 0, 1) := by decide +kernel
theorem dX3_hearAppeal_81 : decode cX3_hearAppeal 81 = .ok (.ireturn, 1) := by decide +kernel
theorem dX3_liveDays_0 : decode cX3_liveDays 0 = .ok (.iconst 0, 1) := by decide +kernel
theorem dX3_liveDays_1 : decode cX3_liveDays 1 = .ok (.istore_n 2, 1) := by decide +kernel
theorem dX3_liveDays_2 : decode cX3_liveDays 2 = .ok (.iload_n 2, 1) := by decide +kernel
theorem dX3_liveDays_3 : decode cX3_liveDays 3 = .ok (.iload_n 1, 1) := by decide +kernel
theorem dX3_liveDays_4 : decode cX3_liveDays 4 = .ok (.if_icmp .ge 14, 3) := by decide +kernel
theorem dX3_liveDays_7 : decode cX3_liveDays 7 = .ok (.aload_n 0, 1) := by decide +kernel
theorem dX3_liveDays_8 : decode cX3_liveDays 8 = .ok (.invokevirtual 111, 3) := by decide +kernel
theorem dX3_liveDays_11 : decode cX3_liveDays 11 = .ok (.pop, 1) := by decide +kernel
theorem dX3_liveDays_12 : decode cX3_liveDays 12 = .ok (.iinc 2 1, 3) := by decide +kernel
theorem dX3_liveDays_15 : decode cX3_liveDays 15 = .ok (.goto (-13), 3) := by decide +kernel
theorem dX3_liveDays_18 : decode cX3_liveDays 18 = .ok (.return_, 1) := by decide +kernel
theorem dX3_liveDay_0 : decode cX3_liveDay 0 = .ok (.aload_n 0, 1) := by decide +kernel
theorem dX3_liveDay_1 : decode cX3_liveDay 1 = .ok (.dup, 1) := by decide +kernel
theorem dX3_liveDay_2 : decode cX3_liveDay 2 = .ok (.getfield 45, 3) := by decide +kernel
theorem dX3_liveDay_5 : decode cX3_liveDay 5 = .ok (.iconst 1, 1) := by decide +kernel
theorem dX3_liveDay_6 : decode cX3_liveDay 6 = .ok (.iadd, 1) := by decide +kernel
theorem dX3_liveDay_7 : decode cX3_liveDay 7 = .ok (.putfield 45, 3) := by decide +kernel
theorem dX3_liveDay_10 : decode cX3_liveDay 10 = .ok (.aload_n 0, 1) := by decide +kernel
theorem dX3_liveDay_11 : decode cX3_liveDay 11 = .ok (.getfield 36, 3) := by decide +kernel
theorem dX3_liveDay_14 : decode cX3_liveDay 14 = .ok (.bipush (-6), 2) := by decide +kernel
theorem dX3_liveDay_16 : decode cX3_liveDay 16 = .ok (.if_icmp .ne 10, 3) := by decide +kernel
theorem dX3_liveDay_19 : decode cX3_liveDay 19 = .ok (.aload_n 0, 1) := by decide +kernel
theorem dX3_liveDay_20 : decode cX3_liveDay 20 = .ok (.invokevirtual 115, 3) := by decide +kernel
theorem dX3_liveDay_23 : decode cX3_liveDay 23 = .ok (.goto 5, 3) := by decide +kernel
theorem dX3_liveDay_26 : decode cX3_liveDay 26 = .ok (.bipush (-6), 2) := by decide +kernel
theorem dX3_liveDay_28 : decode cX3_liveDay 28 = .ok (.istore_n 1, 1) := by decide +kernel
theorem dX3_liveDay_29 : decode cX3_liveDay 29 = .ok (.aload_n 0, 1) := by decide +kernel
theorem dX3_liveDay_30 : decode cX3_liveDay 30 = .ok (.getfield 18, 3) := by decide +kernel
theorem dX3_liveDay_33 : decode cX3_liveDay 33 = .ok (.iconst 3, 1) := by decide +kernel
theorem dX3_liveDay_34 : decode cX3_liveDay 34 = .ok (.iaload, 1) := by decide +kernel
theorem dX3_liveDay_35 : decode cX3_liveDay 35 = .ok (.istore_n 2, 1) := by decide +kernel
theorem dX3_liveDay_36 : decode cX3_liveDay 36 = .ok (.iload_n 2, 1) := by decide +kernel
theorem dX3_liveDay_37 : decode cX3_liveDay 37 = .ok (.ifCond .le 16, 3) := by decide +kernel
theorem dX3_liveDay_40 : decode cX3_liveDay 40 = .ok (.aload_n 0, 1) := by decide +kernel
theorem dX3_liveDay_41 : decode cX3_liveDay 41 = .ok (.getfield 45, 3) := by decide +kernel
theorem dX3_liveDay_44 : decode cX3_liveDay 44 = .ok (.iload_n 2, 1) := by decide +kernel
theorem dX3_liveDay_45 : decode cX3_liveDay 45 = .ok (.irem, 1) := by decide +kernel
theorem dX3_liveDay_46 : decode cX3_liveDay 46 = .ok (.ifCond .ne 7, 3) := by decide +kernel
theorem dX3_liveDay_49 : decode cX3_liveDay 49 = .ok (.aload_n 0, 1) := by decide +kernel
theorem dX3_liveDay_50 : decode cX3_liveDay 50 = .ok (.invokevirtual 118, 3) := by decide +kernel
theorem dX3_liveDay_53 : decode cX3_liveDay 53 = .ok (.aload_n 0, 1) := by decide +kernel
theorem dX3_liveDay_54 : decode cX3_liveDay 54 = .ok (.dup, 1) := by decide +kernel
theorem dX3_liveDay_55 : decode cX3_liveDay 55 = .ok (.getfield 33, 3) := by decide +kernel
theorem dX3_liveDay_58 : decode cX3_liveDay 58 = .ok (.bipush 50, 2) := by decide +kernel
theorem dX3_liveDay_60 : decode cX3_liveDay 60 = .ok (.aload_n 0, 1) := by decide +kernel
theorem dX3_liveDay_61 : decode cX3_liveDay 61 = .ok (.getfield 33, 3) := by decide +kernel
theorem dX3_liveDay_64 : decode cX3_liveDay 64 = .ok (.invokestatic 121, 3) := by decide +kernel
theorem dX3_liveDay_67 : decode cX3_liveDay 67 = .ok (.iadd, 1) := by decide +kernel
theorem dX3_liveDay_68 : decode cX3_liveDay 68 = .ok (.putfield 33, 3) := by decide +kernel
theorem dX3_liveDay_71 : decode cX3_liveDay 71 = .ok (.aload_n 0, 1) := by decide +kernel
theorem dX3_liveDay_72 : decode cX3_liveDay 72 = .ok (.aload_n 0, 1) := by decide +kernel
theorem dX3_liveDay_73 : decode cX3_liveDay 73 = .ok (.getfield 36, 3) := by decide +kernel
theorem dX3_liveDay_76 : decode cX3_liveDay 76 = .ok (.invokevirtual 70, 3) := by decide +kernel
theorem dX3_liveDay_79 : decode cX3_liveDay 79 = .ok (.astore_n 3, 1) := by decide +kernel
theorem dX3_liveDay_80 : decode cX3_liveDay 80 = .ok (.aload_n 3, 1) := by decide +kernel
theorem dX3_liveDay_81 : decode cX3_liveDay 81 = .ok (.ifnull 13, 3) := by decide +kernel
theorem dX3_liveDay_84 : decode cX3_liveDay 84 = .ok (.aload_n 3, 1) := by decide +kernel
theorem dX3_liveDay_85 : decode cX3_liveDay 85 = .ok (.dup, 1) := by decide +kernel
theorem dX3_liveDay_86 : decode cX3_liveDay 86 = .ok (.getfield 127, 3) := by decide +kernel
theorem dX3_liveDay_89 : decode cX3_liveDay 89 = .ok (.iconst 1, 1) := by decide +kernel
theorem dX3_liveDay_90 : decode cX3_liveDay 90 = .ok (.iadd, 1) := by decide +kernel
theorem dX3_liveDay_91 : decode cX3_liveDay 91 = .ok (.putfield 127, 3) := by decide +kernel
theorem dX3_liveDay_94 : decode cX3_liveDay 94 = .ok (.iload_n 1, 1) := by decide +kernel
theorem dX3_liveDay_95 : decode cX3_liveDay 95 = .ok (.ireturn, 1) := by decide +kernel
theorem dX3_holdOutHand_0 : decode cX3_holdOutHand 0 = .ok (.aload_n 0, 1) := by decide +kernel
theorem dX3_holdOutHand_1 : decode cX3_holdOutHand 1 = .ok (.invokevirtual 130, 3) := by decide +kernel
theorem dX3_holdOutHand_4 : decode cX3_holdOutHand 4 = .ok (.istore_n 1, 1) := by decide +kernel
theorem dX3_holdOutHand_5 : decode cX3_holdOutHand 5 = .ok (.aload_n 0, 1) := by decide +kernel
theorem dX3_holdOutHand_6 : decode cX3_holdOutHand 6 = .ok (.iload_n 1, 1) := by decide +kernel
theorem dX3_holdOutHand_7 : decode cX3_holdOutHand 7 = .ok (.invokevirtual 70, 3) := by decide +kernel
theorem dX3_holdOutHand_10 : decode cX3_holdOutHand 10 = .ok (.astore_n 2, 1) := by decide +kernel
theorem dX3_holdOutHand_11 : decode cX3_holdOutHand 11 = .ok (.aload_n 2, 1) := by decide +kernel
theorem dX3_holdOutHand_12 : decode cX3_holdOutHand 12 = .ok (.ifnonnull 6, 3) := by decide +kernel
theorem dX3_holdOutHand_15 : decode cX3_holdOutHand 15 = .ok (.bipush (-6), 2) := by decide +kernel
theorem dX3_holdOutHand_17 : decode cX3_holdOutHand 17 = .ok (.ireturn, 1) := by decide +kernel
theorem dX3_holdOutHand_18 : decode cX3_holdOutHand 18 = .ok (.aload_n 0, 1) := by decide +kernel
theorem dX3_holdOutHand_19 : decode cX3_holdOutHand 19 = .ok (.aload_n 2, 1) := by decide +kernel
theorem dX3_holdOutHand_20 : decode cX3_holdOutHand 20 = .ok (.invokevirtual 101, 3) := by decide +kernel
theorem dX3_holdOutHand_23 : decode cX3_holdOutHand 23 = .ok (.aload_n 0, 1) := by decide +kernel
theorem dX3_holdOutHand_24 : decode cX3_holdOutHand 24 = .ok (.getfield 18, 3) := by decide +kernel
theorem dX3_holdOutHand_27 : decode cX3_holdOutHand 27 = .ok (.iconst 0, 1) := by decide +kernel
theorem dX3_holdOutHand_28 : decode cX3_holdOutHand 28 = .ok (.iaload, 1) := by decide +kernel
theorem dX3_holdOutHand_29 : decode cX3_holdOutHand 29 = .ok (.if_icmp .lt 30, 3) := by decide +kernel
theorem dX3_holdOutHand_32 : decode cX3_holdOutHand 32 = .ok (.aload_n 0, 1) := by decide +kernel
theorem dX3_holdOutHand_33 : decode cX3_holdOutHand 33 = .ok (.iload_n 1, 1) := by decide +kernel
theorem dX3_holdOutHand_34 : decode cX3_holdOutHand 34 = .ok (.putfield 36, 3) := by decide +kernel
theorem dX3_holdOutHand_37 : decode cX3_holdOutHand 37 = .ok (.aload_n 2, 1) := by decide +kernel
theorem dX3_holdOutHand_38 : decode cX3_holdOutHand 38 = .ok (.dup, 1) := by decide +kernel
theorem dX3_holdOutHand_39 : decode cX3_holdOutHand 39 = .ok (.getfield 133, 3) := by decide +kernel
theorem dX3_holdOutHand_42 : decode cX3_holdOutHand 42 = .ok (.iconst 1, 1) := by decide +kernel
theorem dX3_holdOutHand_43 : decode cX3_holdOutHand 43 = .ok (.iadd, 1) := by decide +kernel
theorem dX3_holdOutHand_44 : decode cX3_holdOutHand 44 = .ok (.putfield 133, 3) := by decide +kernel
theorem dX3_holdOutHand_47 : decode cX3_holdOutHand 47 = .ok (.aload_n 0, 1) := by decide +kernel
theorem dX3_holdOutHand_48 : decode cX3_holdOutHand 48 = .ok (.dup, 1) := by decide +kernel
theorem dX3_holdOutHand_49 : decode cX3_holdOutHand 49 = .ok (.getfield 51, 3) := by decide +kernel
theorem dX3_holdOutHand_52 : decode cX3_holdOutHand 52 = .ok (.iconst 1, 1) := by decide +kernel
theorem dX3_holdOutHand_53 : decode cX3_holdOutHand 53 = .ok (.iadd, 1) := by decide +kernel
theorem dX3_holdOutHand_54 : decode cX3_holdOutHand 54 = .ok (.putfield 51, 3) := by decide +kernel
theorem dX3_holdOutHand_57 : decode cX3_holdOutHand 57 = .ok (.iload_n 1, 1) := by decide +kernel
theorem dX3_holdOutHand_58 : decode cX3_holdOutHand 58 = .ok (.ireturn, 1) := by decide +kernel
theorem dX3_holdOutHand_59 : decode cX3_holdOutHand 59 = .ok (.aload_n 0, 1) := by decide +kernel
theorem dX3_holdOutHand_60 : decode cX3_holdOutHand 60 = .ok (.aload_n 2, 1) := by decide +kernel
theorem dX3_holdOutHand_61 : decode cX3_holdOutHand 61 = .ok (.invokevirtual 108, 3) := by decide +kernel
theorem dX3_holdOutHand_64 : decode cX3_holdOutHand 64 = .ok (.aload_n 0, 1) := by decide +kernel
theorem dX3_holdOutHand_65 : decode cX3_holdOutHand 65 = .ok (.iconst 0, 1) := by decide +kernel
theorem dX3_holdOutHand_66 : decode cX3_holdOutHand 66 = .ok (.aload_n 0, 1) := by decide +kernel
theorem dX3_holdOutHand_67 : decode cX3_holdOutHand 67 = .ok (.getfield 33, 3) := by decide +kernel
theorem dX3_holdOutHand_70 : decode cX3_holdOutHand 70 = .ok (.iconst 3, 1) := by decide +kernel
theorem dX3_holdOutHand_71 : decode cX3_holdOutHand 71 = .ok (.isub, 1) := by decide +kernel
theorem dX3_holdOutHand_72 : decode cX3_holdOutHand 72 = .ok (.invokestatic 134, 3) := by decide +kernel
theorem dX3_holdOutHand_75 : decode cX3_holdOutHand 75 = .ok (.putfield 33, 3) := by decide +kernel
theorem dX3_holdOutHand_78 : decode cX3_holdOutHand 78 = .ok (.aload_n 0, 1) := by decide +kernel
theorem dX3_holdOutHand_79 : decode cX3_holdOutHand 79 = .ok (.aload_n 0, 1) := by decide +kernel
theorem dX3_holdOutHand_80 : decode cX3_holdOutHand 80 = .ok (.iload_n 1, 1) := by decide +kernel
theorem dX3_holdOutHand_81 : decode cX3_holdOutHand 81 = .ok (.invokevirtual 139, 3) := by decide +kernel
theorem dX3_holdOutHand_84 : decode cX3_holdOutHand 84 = .ok (.putfield 39, 3) := by decide +kernel
theorem dX3_holdOutHand_87 : decode cX3_holdOutHand 87 = .ok (.bipush (-6), 2) := by decide +kernel
theorem dX3_holdOutHand_89 : decode cX3_holdOutHand 89 = .ok (.ireturn, 1) := by decide +kernel
theorem dX3_nextHand_0 : decode cX3_nextHand 0 = .ok (.aload_n 0, 1) := by decide +kernel
theorem dX3_nextHand_1 : decode cX3_nextHand 1 = .ok (.getfield 39, 3) := by decide +kernel
theorem dX3_nextHand_4 : decode cX3_nextHand 4 = .ok (.istore_n 1, 1) := by decide +kernel
theorem dX3_nextHand_5 : decode cX3_nextHand 5 = .ok (.iconst 0, 1) := by decide +kernel
theorem dX3_nextHand_6 : decode cX3_nextHand 6 = .ok (.istore_n 2, 1) := by decide +kernel
theorem dX3_nextHand_7 : decode cX3_nextHand 7 = .ok (.iload_n 2, 1) := by decide +kernel
theorem dX3_nextHand_8 : decode cX3_nextHand 8 = .ok (.aload_n 0, 1) := by decide +kernel
theorem dX3_nextHand_9 : decode cX3_nextHand 9 = .ok (.getfield 29, 3) := by decide +kernel
theorem dX3_nextHand_12 : decode cX3_nextHand 12 = .ok (.if_icmp .ge 35, 3) := by decide +kernel
theorem dX3_nextHand_15 : decode cX3_nextHand 15 = .ok (.aload_n 0, 1) := by decide +kernel
theorem dX3_nextHand_16 : decode cX3_nextHand 16 = .ok (.iload_n 1, 1) := by decide +kernel
theorem dX3_nextHand_17 : decode cX3_nextHand 17 = .ok (.invokevirtual 70, 3) := by decide +kernel
theorem dX3_nextHand_20 : decode cX3_nextHand 20 = .ok (.astore_n 3, 1) := by decide +kernel
theorem dX3_nextHand_21 : decode cX3_nextHand 21 = .ok (.aload_n 3, 1) := by decide +kernel
theorem dX3_nextHand_22 : decode cX3_nextHand 22 = .ok (.ifnull 13, 3) := by decide +kernel
theorem dX3_nextHand_25 : decode cX3_nextHand 25 = .ok (.aload_n 0, 1) := by decide +kernel
theorem dX3_nextHand_26 : decode cX3_nextHand 26 = .ok (.aload_n 3, 1) := by decide +kernel
theorem dX3_nextHand_27 : decode cX3_nextHand 27 = .ok (.invokevirtual 82, 3) := by decide +kernel
theorem dX3_nextHand_30 : decode cX3_nextHand 30 = .ok (.ifCond .ne 5, 3) := by decide +kernel
theorem dX3_nextHand_33 : decode cX3_nextHand 33 = .ok (.iload_n 1, 1) := by decide +kernel
theorem dX3_nextHand_34 : decode cX3_nextHand 34 = .ok (.ireturn, 1) := by decide +kernel
theorem dX3_nextHand_35 : decode cX3_nextHand 35 = .ok (.aload_n 0, 1) := by decide +kernel
theorem dX3_nextHand_36 : decode cX3_nextHand 36 = .ok (.iload_n 1, 1) := by decide +kernel
theorem dX3_nextHand_37 : decode cX3_nextHand 37 = .ok (.invokevirtual 139, 3) := by decide +kernel
theorem dX3_nextHand_40 : decode cX3_nextHand 40 = .ok (.istore_n 1, 1) := by decide +kernel
theorem dX3_nextHand_41 : decode cX3_nextHand 41 = .ok (.iinc 2 1, 3) := by decide +kernel
theorem dX3_nextHand_44 : decode cX3_nextHand 44 = .ok (.goto (-37), 3) := by decide +kernel
theorem dX3_nextHand_47 : decode cX3_nextHand 47 = .ok (.bipush (-6), 2) := by decide +kernel
theorem dX3_nextHand_49 : decode cX3_nextHand 49 = .ok (.ireturn, 1) := by decide +kernel
theorem dX3_endMonth_0 : decode cX3_endMonth 0 = .ok (.aload_n 0, 1) := by decide +kernel
theorem dX3_endMonth_1 : decode cX3_endMonth 1 = .ok (.aload_n 0, 1) := by decide +kernel
theorem dX3_endMonth_2 : decode cX3_endMonth 2 = .ok (.getfield 36, 3) := by decide +kernel
theorem dX3_endMonth_5 : decode cX3_endMonth 5 = .ok (.invokevirtual 70, 3) := by decide +kernel
theorem dX3_endMonth_8 : decode cX3_endMonth 8 = .ok (.astore_n 1, 1) := by decide +kernel
theorem dX3_endMonth_9 : decode cX3_endMonth 9 = .ok (.aload_n 1, 1) := by decide +kernel
theorem dX3_endMonth_10 : decode cX3_endMonth 10 = .ok (.ifnonnull 25, 3) := by decide +kernel
theorem dX3_endMonth_13 : decode cX3_endMonth 13 = .ok (.aload_n 0, 1) := by decide +kernel
theorem dX3_endMonth_14 : decode cX3_endMonth 14 = .ok (.dup, 1) := by decide +kernel
theorem dX3_endMonth_15 : decode cX3_endMonth 15 = .ok (.getfield 57, 3) := by decide +kernel
theorem dX3_endMonth_18 : decode cX3_endMonth 18 = .ok (.aload_n 0, 1) := by decide +kernel
theorem dX3_endMonth_19 : decode cX3_endMonth 19 = .ok (.aload_n 0, 1) := by decide +kernel
theorem dX3_endMonth_20 : decode cX3_endMonth 20 = .ok (.getfield 18, 3) := by decide +kernel
theorem dX3_endMonth_23 : decode cX3_endMonth 23 = .ok (.iconst 1, 1) := by decide +kernel
theorem dX3_endMonth_24 : decode cX3_endMonth 24 = .ok (.iaload, 1) := by decide +kernel
theorem dX3_endMonth_25 : decode cX3_endMonth 25 = .ok (.iconst 2, 1) := by decide +kernel
theorem dX3_endMonth_26 : decode cX3_endMonth 26 = .ok (.idiv, 1) := by decide +kernel
theorem dX3_endMonth_27 : decode cX3_endMonth 27 = .ok (.invokevirtual 143, 3) := by decide +kernel
theorem dX3_endMonth_30 : decode cX3_endMonth 30 = .ok (.iadd, 1) := by decide +kernel
theorem dX3_endMonth_31 : decode cX3_endMonth 31 = .ok (.putfield 57, 3) := by decide +kernel
theorem dX3_endMonth_34 : decode cX3_endMonth 34 = .ok (.return_, 1) := by decide +kernel
theorem dX3_endMonth_35 : decode cX3_endMonth 35 = .ok (.aload_n 0, 1) := by decide +kernel
theorem dX3_endMonth_36 : decode cX3_endMonth 36 = .ok (.aload_n 0, 1) := by decide +kernel
theorem dX3_endMonth_37 : decode cX3_endMonth 37 = .ok (.getfield 18, 3) := by decide +kernel
theorem dX3_endMonth_40 : decode cX3_endMonth 40 = .ok (.iconst 1, 1) := by decide +kernel
theorem dX3_endMonth_41 : decode cX3_endMonth 41 = .ok (.iaload, 1) := by decide +kernel
theorem dX3_endMonth_42 : decode cX3_endMonth 42 = .ok (.invokevirtual 143, 3) := by decide +kernel
theorem dX3_endMonth_45 : decode cX3_endMonth 45 = .ok (.istore_n 2, 1) := by decide +kernel
theorem dX3_endMonth_46 : decode cX3_endMonth 46 = .ok (.iload_n 2, 1) := by decide +kernel
theorem dX3_endMonth_47 : decode cX3_endMonth 47 = .ok (.aload_n 1, 1) := by decide +kernel
theorem dX3_endMonth_48 : decode cX3_endMonth 48 = .ok (.getfield 146, 3) := by decide +kernel
theorem dX3_endMonth_51 : decode cX3_endMonth 51 = .ok (.imul, 1) := by decide +kernel
theorem dX3_endMonth_52 : decode cX3_endMonth 52 = .ok (.bipush 100, 2) := by decide +kernel
theorem dX3_endMonth_54 : decode cX3_endMonth 54 = .ok (.idiv, 1) := by decide +kernel
theorem dX3_endMonth_55 : decode cX3_endMonth 55 = .ok (.istore_n 3, 1) := by decide +kernel
theorem dX3_endMonth_56 : decode cX3_endMonth 56 = .ok (.aload_n 0, 1) := by decide +kernel
theorem dX3_endMonth_57 : decode cX3_endMonth 57 = .ok (.dup, 1) := by decide +kernel
theorem dX3_endMonth_58 : decode cX3_endMonth 58 = .ok (.getfield 57, 3) := by decide +kernel
theorem dX3_endMonth_61 : decode cX3_endMonth 61 = .ok (.iload_n 3, 1) := by decide +kernel
theorem dX3_endMonth_62 : decode cX3_endMonth 62 = .ok (.iadd, 1) := by decide +kernel
theorem dX3_endMonth_63 : decode cX3_endMonth 63 = .ok (.putfield 57, 3) := by decide +kernel
theorem dX3_endMonth_66 : decode cX3_endMonth 66 = .ok (.aload_n 1, 1) := by decide +kernel
theorem dX3_endMonth_67 : decode cX3_endMonth 67 = .ok (.dup, 1) := by decide +kernel
theorem dX3_endMonth_68 : decode cX3_endMonth 68 = .ok (.getfield 86, 3) := by decide +kernel
theorem dX3_endMonth_71 : decode cX3_endMonth 71 = .ok (.iload_n 2, 1) := by decide +kernel
theorem dX3_endMonth_72 : decode cX3_endMonth 72 = .ok (.iload_n 3, 1) := by decide +kernel
theorem dX3_endMonth_73 : decode cX3_endMonth 73 = .ok (.isub, 1) := by decide +kernel
theorem dX3_endMonth_74 : decode cX3_endMonth 74 = .ok (.iadd, 1) := by decide +kernel
theorem dX3_endMonth_75 : decode cX3_endMonth 75 = .ok (.putfield 86, 3) := by decide +kernel
theorem dX3_endMonth_78 : decode cX3_endMonth 78 = .ok (.aload_n 0, 1) := by decide +kernel
theorem dX3_endMonth_79 : decode cX3_endMonth 79 = .ok (.bipush 99, 2) := by decide +kernel
theorem dX3_endMonth_81 : decode cX3_endMonth 81 = .ok (.aload_n 0, 1) := by decide +kernel
theorem dX3_endMonth_82 : decode cX3_endMonth 82 = .ok (.getfield 33, 3) := by decide +kernel
theorem dX3_endMonth_85 : decode cX3_endMonth 85 = .ok (.iload_n 3, 1) := by decide +kernel
theorem dX3_endMonth_86 : decode cX3_endMonth 86 = .ok (.iconst 2, 1) := by decide +kernel
theorem dX3_endMonth_87 : decode cX3_endMonth 87 = .ok (.idiv, 1) := by decide +kernel
theorem dX3_endMonth_88 : decode cX3_endMonth 88 = .ok (.iadd, 1) := by decide +kernel
theorem dX3_endMonth_89 : decode cX3_endMonth 89 = .ok (.invokestatic 149, 3) := by decide +kernel
theorem dX3_endMonth_92 : decode cX3_endMonth 92 = .ok (.putfield 33, 3) := by decide +kernel
theorem dX3_endMonth_95 : decode cX3_endMonth 95 = .ok (.aload_n 0, 1) := by decide +kernel
theorem dX3_endMonth_96 : decode cX3_endMonth 96 = .ok (.getfield 33, 3) := by decide +kernel
theorem dX3_endMonth_99 : decode cX3_endMonth 99 = .ok (.aload_n 0, 1) := by decide +kernel
theorem dX3_endMonth_100 : decode cX3_endMonth 100 = .ok (.getfield 18, 3) := by decide +kernel
theorem dX3_endMonth_103 : decode cX3_endMonth 103 = .ok (.iconst 5, 1) := by decide +kernel
theorem dX3_endMonth_104 : decode cX3_endMonth 104 = .ok (.iaload, 1) := by decide +kernel
theorem dX3_endMonth_105 : decode cX3_endMonth 105 = .ok (.if_icmp .ge 8, 3) := by decide +kernel
theorem dX3_endMonth_108 : decode cX3_endMonth 108 = .ok (.aload_n 0, 1) := by decide +kernel
theorem dX3_endMonth_109 : decode cX3_endMonth 109 = .ok (.iconst 0, 1) := by decide +kernel
theorem dX3_endMonth_110 : decode cX3_endMonth 110 = .ok (.invokevirtual 105, 3) := by decide +kernel
theorem dX3_endMonth_113 : decode cX3_endMonth 113 = .ok (.return_, 1) := by decide +kernel
theorem dX3_draw_0 : decode cX3_draw 0 = .ok (.iload_n 1, 1) := by decide +kernel
theorem dX3_draw_1 : decode cX3_draw 1 = .ok (.aload_n 0, 1) := by decide +kernel
theorem dX3_draw_2 : decode cX3_draw 2 = .ok (.getfield 42, 3) := by decide +kernel
theorem dX3_draw_5 : decode cX3_draw 5 = .ok (.invokestatic 149, 3) := by decide +kernel
theorem dX3_draw_8 : decode cX3_draw 8 = .ok (.istore_n 2, 1) := by decide +kernel
theorem dX3_draw_9 : decode cX3_draw 9 = .ok (.aload_n 0, 1) := by decide +kernel
theorem dX3_draw_10 : decode cX3_draw 10 = .ok (.dup, 1) := by decide +kernel
theorem dX3_draw_11 : decode cX3_draw 11 = .ok (.getfield 42, 3) := by decide +kernel
theorem dX3_draw_14 : decode cX3_draw 14 = .ok (.iload_n 2, 1) := by decide +kernel
theorem dX3_draw_15 : decode cX3_draw 15 = .ok (.isub, 1) := by decide +kernel
theorem dX3_draw_16 : decode cX3_draw 16 = .ok (.putfield 42, 3) := by decide +kernel
theorem dX3_draw_19 : decode cX3_draw 19 = .ok (.iload_n 2, 1) := by decide +kernel
theorem dX3_draw_20 : decode cX3_draw 20 = .ok (.ireturn, 1) := by decide +kernel
