theorem dX1_init_0 : decode cX1_init 0 = .ok (.aload_n 0, 1) := by decide +kernel
theorem dX1_init_1 : decode cX1_init 1 = .ok (.invokespecial 3, 3) := by decide +kernel
theorem dX1_init_4 : decode cX1_init 4 = .ok (.aload_n 0, 1) := by decide +kernel
theorem dX1_init_5 : decode cX1_init 5 = .ok (.iconst 4, 1) := by decide +kernel
theorem dX1_init_6 : decode cX1_init 6 = .ok (.anewarray 9, 3) := by decide +kernel
theorem dX1_init_9 : decode cX1_init 9 = .ok (.putfield 11, 3) := by decide +kernel
theorem dX1_init_12 : decode cX1_init 12 = .ok (.aload_n 0, 1) := by decide +kernel
theorem dX1_init_13 : decode cX1_init 13 = .ok (.iconst 0, 1) := by decide +kernel
theorem dX1_init_14 : decode cX1_init 14 = .ok (.putfield 17, 3) := by decide +kernel
theorem dX1_init_17 : decode cX1_init 17 = .ok (.iconst 0, 1) := by decide +kernel
theorem dX1_init_18 : decode cX1_init 18 = .ok (.istore_n 2, 1) := by decide +kernel
theorem dX1_init_19 : decode cX1_init 19 = .ok (.iload_n 2, 1) := by decide +kernel
theorem dX1_init_20 : decode cX1_init 20 = .ok (.iconst 4, 1) := by decide +kernel
theorem dX1_init_21 : decode cX1_init 21 = .ok (.if_icmp .ge 23, 3) := by decide +kernel
theorem dX1_init_24 : decode cX1_init 24 = .ok (.aload_n 0, 1) := by decide +kernel
theorem dX1_init_25 : decode cX1_init 25 = .ok (.getfield 11, 3) := by decide +kernel
theorem dX1_init_28 : decode cX1_init 28 = .ok (.iload_n 2, 1) := by decide +kernel
theorem dX1_init_29 : decode cX1_init 29 = .ok (.new 9, 3) := by decide +kernel
theorem dX1_init_32 : decode cX1_init 32 = .ok (.dup, 1) := by decide +kernel
theorem dX1_init_33 : decode cX1_init 33 = .ok (.aload_n 1, 1) := by decide +kernel
theorem dX1_init_34 : decode cX1_init 34 = .ok (.invokespecial 21, 3) := by decide +kernel
theorem dX1_init_37 : decode cX1_init 37 = .ok (.aastore, 1) := by decide +kernel
theorem dX1_init_38 : decode cX1_init 38 = .ok (.iinc 2 1, 3) := by decide +kernel
theorem dX1_init_41 : decode cX1_init 41 = .ok (.goto (-22), 3) := by decide +kernel
theorem dX1_init_44 : decode cX1_init 44 = .ok (.return_, 1) := by decide +kernel
theorem dX1_record_0 : decode cX1_record 0 = .ok (.aload_n 0, 1) := by decide +kernel
theorem dX1_record_1 : decode cX1_record 1 = .ok (.getfield 17, 3) := by decide +kernel
theorem dX1_record_4 : decode cX1_record 4 = .ok (.iconst 4, 1) := by decide +kernel
theorem dX1_record_5 : decode cX1_record 5 = .ok (.if_icmp .lt 7, 3) := by decide +kernel
theorem dX1_record_8 : decode cX1_record 8 = .ok (.aload_n 0, 1) := by decide +kernel
theorem dX1_record_9 : decode cX1_record 9 = .ok (.invokevirtual 24, 3) := by decide +kernel
theorem dX1_record_12 : decode cX1_record 12 = .ok (.aload_n 0, 1) := by decide +kernel
theorem dX1_record_13 : decode cX1_record 13 = .ok (.getfield 11, 3) := by decide +kernel
theorem dX1_record_16 : decode cX1_record 16 = .ok (.aload_n 0, 1) := by decide +kernel
theorem dX1_record_17 : decode cX1_record 17 = .ok (.getfield 17, 3) := by decide +kernel
theorem dX1_record_20 : decode cX1_record 20 = .ok (.aaload, 1) := by decide +kernel
theorem dX1_record_21 : decode cX1_record 21 = .ok (.aload_n 1, 1) := by decide +kernel
theorem dX1_record_22 : decode cX1_record 22 = .ok (.invokevirtual 27, 3) := by decide +kernel
theorem dX1_record_25 : decode cX1_record 25 = .ok (.aload_n 0, 1) := by decide +kernel
theorem dX1_record_26 : decode cX1_record 26 = .ok (.dup, 1) := by decide +kernel
theorem dX1_record_27 : decode cX1_record 27 = .ok (.getfield 17, 3) := by decide +kernel
theorem dX1_record_30 : decode cX1_record 30 = .ok (.iconst 1, 1) := by decide +kernel
theorem dX1_record_31 : decode cX1_record 31 = .ok (.iadd, 1) := by decide +kernel
theorem dX1_record_32 : decode cX1_record 32 = .ok (.putfield 17, 3) := by decide +kernel
theorem dX1_record_35 : decode cX1_record 35 = .ok (.return_, 1) := by decide +kernel
theorem dX1_dropOldest_0 : decode cX1_dropOldest 0 = .ok (.aload_n 0, 1) := by decide +kernel
theorem dX1_dropOldest_1 : decode cX1_dropOldest 1 = .ok (.getfield 11, 3) := by decide +kernel
theorem dX1_dropOldest_4 : decode cX1_dropOldest 4 = .ok (.iconst 0, 1) := by decide +kernel
theorem dX1_dropOldest_5 : decode cX1_dropOldest 5 = .ok (.aaload, 1) := by decide +kernel
theorem dX1_dropOldest_6 : decode cX1_dropOldest 6 = .ok (.astore_n 1, 1) := by decide +kernel
theorem dX1_dropOldest_7 : decode cX1_dropOldest 7 = .ok (.iconst 1, 1) := by decide +kernel
theorem dX1_dropOldest_8 : decode cX1_dropOldest 8 = .ok (.istore_n 2, 1) := by decide +kernel
theorem dX1_dropOldest_9 : decode cX1_dropOldest 9 = .ok (.iload_n 2, 1) := by decide +kernel
theorem dX1_dropOldest_10 : decode cX1_dropOldest 10 = .ok (.iconst 4, 1) := by decide +kernel
theorem dX1_dropOldest_11 : decode cX1_dropOldest 11 = .ok (.if_icmp .ge 23, 3) := by decide +kernel
theorem dX1_dropOldest_14 : decode cX1_dropOldest 14 = .ok (.aload_n 0, 1) := by decide +kernel
theorem dX1_dropOldest_15 : decode cX1_dropOldest 15 = .ok (.getfield 11, 3) := by decide +kernel
theorem dX1_dropOldest_18 : decode cX1_dropOldest 18 = .ok (.iload_n 2, 1) := by decide +kernel
theorem dX1_dropOldest_19 : decode cX1_dropOldest 19 = .ok (.iconst 1, 1) := by decide +kernel
theorem dX1_dropOldest_20 : decode cX1_dropOldest 20 = .ok (.isub, 1) := by decide +kernel
theorem dX1_dropOldest_21 : decode cX1_dropOldest 21 = .ok (.aload_n 0, 1) := by decide +kernel
theorem dX1_dropOldest_22 : decode cX1_dropOldest 22 = .ok (.getfield 11, 3) := by decide +kernel
theorem dX1_dropOldest_25 : decode cX1_dropOldest 25 = .ok (.iload_n 2, 1) := by decide +kernel
theorem dX1_dropOldest_26 : decode cX1_dropOldest 26 = .ok (.aaload, 1) := by decide +kernel
theorem dX1_dropOldest_27 : decode cX1_dropOldest 27 = .ok (.aastore, 1) := by decide +kernel
theorem dX1_dropOldest_28 : decode cX1_dropOldest 28 = .ok (.iinc 2 1, 3) := by decide +kernel
theorem dX1_dropOldest_31 : decode cX1_dropOldest 31 = .ok (.goto (-22), 3) := by decide +kernel
theorem dX1_dropOldest_34 : decode cX1_dropOldest 34 = .ok (.aload_n 0, 1) := by decide +kernel
theorem dX1_dropOldest_35 : decode cX1_dropOldest 35 = .ok (.getfield 11, 3) := by decide +kernel
theorem dX1_dropOldest_38 : decode cX1_dropOldest 38 = .ok (.iconst 3, 1) := by decide +kernel
theorem dX1_dropOldest_39 : decode cX1_dropOldest 39 = .ok (.aload_n 1, 1) := by decide +kernel
theorem dX1_dropOldest_40 : decode cX1_dropOldest 40 = .ok (.aastore, 1) := by decide +kernel
theorem dX1_dropOldest_41 : decode cX1_dropOldest 41 = .ok (.aload_n 0, 1) := by decide +kernel
theorem dX1_dropOldest_42 : decode cX1_dropOldest 42 = .ok (.iconst 3, 1) := by decide +kernel
theorem dX1_dropOldest_43 : decode cX1_dropOldest 43 = .ok (.putfield 17, 3) := by decide +kernel
theorem dX1_dropOldest_46 : decode cX1_dropOldest 46 = .ok (.return_, 1) := by decide +kernel
theorem dX1_takeBack_0 : decode cX1_takeBack 0 = .ok (.aload_n 0, 1) := by decide +kernel
theorem dX1_takeBack_1 : decode cX1_takeBack 1 = .ok (.getfield 17, 3) := by decide +kernel
theorem dX1_takeBack_4 : decode cX1_takeBack 4 = .ok (.iconst 1, 1) := by decide +kernel
theorem dX1_takeBack_5 : decode cX1_takeBack 5 = .ok (.if_icmp .lt 11, 3) := by decide +kernel
theorem dX1_takeBack_8 : decode cX1_takeBack 8 = .ok (.aload_n 0, 1) := by decide +kernel
theorem dX1_takeBack_9 : decode cX1_takeBack 9 = .ok (.getfield 17, 3) := by decide +kernel
theorem dX1_takeBack_12 : decode cX1_takeBack 12 = .ok (.iconst 4, 1) := by decide +kernel
theorem dX1_takeBack_13 : decode cX1_takeBack 13 = .ok (.if_icmp .le 6, 3) := by decide +kernel
theorem dX1_takeBack_16 : decode cX1_takeBack 16 = .ok (.bipush (-5), 2) := by decide +kernel
theorem dX1_takeBack_18 : decode cX1_takeBack 18 = .ok (.ireturn, 1) := by decide +kernel
theorem dX1_takeBack_19 : decode cX1_takeBack 19 = .ok (.aload_n 0, 1) := by decide +kernel
theorem dX1_takeBack_20 : decode cX1_takeBack 20 = .ok (.dup, 1) := by decide +kernel
theorem dX1_takeBack_21 : decode cX1_takeBack 21 = .ok (.getfield 17, 3) := by decide +kernel
theorem dX1_takeBack_24 : decode cX1_takeBack 24 = .ok (.iconst 1, 1) := by decide +kernel
theorem dX1_takeBack_25 : decode cX1_takeBack 25 = .ok (.isub, 1) := by decide +kernel
theorem dX1_takeBack_26 : decode cX1_takeBack 26 = .ok (.putfield 17, 3) := by decide +kernel
theorem dX1_takeBack_29 : decode cX1_takeBack 29 = .ok (.aload_n 1, 1) := by decide +kernel
theorem dX1_takeBack_30 : decode cX1_takeBack 30 = .ok (.aload_n 0, 1) := by decide +kernel
theorem dX1_takeBack_31 : decode cX1_takeBack 31 = .ok (.getfield 11, 3) := by decide +kernel
theorem dX1_takeBack_34 : decode cX1_takeBack 34 = .ok (.aload_n 0, 1) := by decide +kernel
theorem dX1_takeBack_35 : decode cX1_takeBack 35 = .ok (.getfield 17, 3) := by decide +kernel
theorem dX1_takeBack_38 : decode cX1_takeBack 38 = .ok (.aaload, 1) := by decide +kernel
theorem dX1_takeBack_39 : decode cX1_takeBack 39 = .ok (.invokevirtual 27, 3) := by decide +kernel
theorem dX1_takeBack_42 : decode cX1_takeBack 42 = .ok (.aload_n 0, 1) := by decide +kernel
theorem dX1_takeBack_43 : decode cX1_takeBack 43 = .ok (.getfield 17, 3) := by decide +kernel
theorem dX1_takeBack_46 : decode cX1_takeBack 46 = .ok (.ireturn, 1) := by decide +kernel
theorem dX2_init_0 : decode cX2_init 0 = .ok (.aload_n 0, 1) := by decide +kernel
theorem dX2_init_1 : decode cX2_init 1 = .ok (.invokespecial 3, 3) := by decide +kernel
theorem dX2_init_4 : decode cX2_init 4 = .ok (.aload_n 0, 1) := by decide +kernel
theorem dX2_init_5 : decode cX2_init 5 = .ok (.iconst 0, 1) := by decide +kernel
theorem dX2_init_6 : decode cX2_init 6 = .ok (.putfield 9, 3) := by decide +kernel
theorem dX2_init_9 : decode cX2_init 9 = .ok (.aload_n 0, 1) := by decide +kernel
theorem dX2_init_10 : decode cX2_init 10 = .ok (.iconst 0, 1) := by decide +kernel
theorem dX2_init_11 : decode cX2_init 11 = .ok (.putfield 15, 3) := by decide +kernel
theorem dX2_init_14 : decode cX2_init 14 = .ok (.aload_n 0, 1) := by decide +kernel
theorem dX2_init_15 : decode cX2_init 15 = .ok (.iconst 3, 1) := by decide +kernel
theorem dX2_init_16 : decode cX2_init 16 = .ok (.putfield 18, 3) := by decide +kernel
theorem dX2_init_19 : decode cX2_init 19 = .ok (.aload_n 0, 1) := by decide +kernel
theorem dX2_init_20 : decode cX2_init 20 = .ok (.iconst 0, 1) := by decide +kernel
theorem dX2_init_21 : decode cX2_init 21 = .ok (.putfield 21, 3) := by decide +kernel
theorem dX2_init_24 : decode cX2_init 24 = .ok (.aload_n 0, 1) := by decide +kernel
theorem dX2_init_25 : decode cX2_init 25 = .ok (.iconst 0, 1) := by decide +kernel
theorem dX2_init_26 : decode cX2_init 26 = .ok (.putfield 24, 3) := by decide +kernel
theorem dX2_init_29 : decode cX2_init 29 = .ok (.return_, 1) := by decide +kernel
theorem dX2_copyFrom_0 : decode cX2_copyFrom 0 = .ok (.aload_n 0, 1) := by decide +kernel
theorem dX2_copyFrom_1 : decode cX2_copyFrom 1 = .ok (.aload_n 1, 1) := by decide +kernel
theorem dX2_copyFrom_2 : decode cX2_copyFrom 2 = .ok (.getfield 9, 3) := by decide +kernel
theorem dX2_copyFrom_5 : decode cX2_copyFrom 5 = .ok (.putfield 9, 3) := by decide +kernel
theorem dX2_copyFrom_8 : decode cX2_copyFrom 8 = .ok (.aload_n 0, 1) := by decide +kernel
theorem dX2_copyFrom_9 : decode cX2_copyFrom 9 = .ok (.aload_n 1, 1) := by decide +kernel
theorem dX2_copyFrom_10 : decode cX2_copyFrom 10 = .ok (.getfield 15, 3) := by decide +kernel
theorem dX2_copyFrom_13 : decode cX2_copyFrom 13 = .ok (.putfield 15, 3) := by decide +kernel
theorem dX2_copyFrom_16 : decode cX2_copyFrom 16 = .ok (.aload_n 0, 1) := by decide +kernel
theorem dX2_copyFrom_17 : decode cX2_copyFrom 17 = .ok (.aload_n 1, 1) := by decide +kernel
theorem dX2_copyFrom_18 : decode cX2_copyFrom 18 = .ok (.getfield 18, 3) := by decide +kernel
theorem dX2_copyFrom_21 : decode cX2_copyFrom 21 = .ok (.putfield 18, 3) := by decide +kernel
theorem dX2_copyFrom_24 : decode cX2_copyFrom 24 = .ok (.aload_n 0, 1) := by decide +kernel
theorem dX2_copyFrom_25 : decode cX2_copyFrom 25 = .ok (.aload_n 1, 1) := by decide +kernel
theorem dX2_copyFrom_26 : decode cX2_copyFrom 26 = .ok (.getfield 21, 3) := by decide +kernel
theorem dX2_copyFrom_29 : decode cX2_copyFrom 29 = .ok (.putfield 21, 3) := by decide +kernel
theorem dX2_copyFrom_32 : decode cX2_copyFrom 32 = .ok (.aload_n 0, 1) := by decide +kernel
theorem dX2_copyFrom_33 : decode cX2_copyFrom 33 = .ok (.aload_n 1, 1) := by decide +kernel
theorem dX2_copyFrom_34 : decode cX2_copyFrom 34 = .ok (.getfield 24, 3) := by decide +kernel
theorem dX2_copyFrom_37 : decode cX2_copyFrom 37 = .ok (.putfield 24, 3) := by decide +kernel
theorem dX2_copyFrom_40 : decode cX2_copyFrom 40 = .ok (.return_, 1) := by decide +kernel
theorem dX2_told_0 : decode cX2_told 0 = .ok (.iload_n 1, 1) := by decide +kernel
theorem dX2_told_1 : decode cX2_told 1 = .ok (.tableswitch 60 0 4 #[35, 40, 45, 50, 55], 35) := by decide +kernel
theorem dX2_told_36 : decode cX2_told 36 = .ok (.aload_n 0, 1) := by decide +kernel
theorem dX2_told_37 : decode cX2_told 37 = .ok (.getfield 9, 3) := by decide +kernel
theorem dX2_told_40 : decode cX2_told 40 = .ok (.ireturn, 1) := by decide +kernel
theorem dX2_told_41 : decode cX2_told 41 = .ok (.aload_n 0, 1) := by decide +kernel
theorem dX2_told_42 : decode cX2_told 42 = .ok (.getfield 15, 3) := by decide +kernel
theorem dX2_told_45 : decode cX2_told 45 = .ok (.ireturn, 1) := by decide +kernel
theorem dX2_told_46 : decode cX2_told 46 = .ok (.aload_n 0, 1) := by decide +kernel
theorem dX2_told_47 : decode cX2_told 47 = .ok (.getfield 18, 3) := by decide +kernel
theorem dX2_told_50 : decode cX2_told 50 = .ok (.ireturn, 1) := by decide +kernel
theorem dX2_told_51 : decode cX2_told 51 = .ok (.aload_n 0, 1) := by decide +kernel
theorem dX2_told_52 : decode cX2_told 52 = .ok (.getfield 21, 3) := by decide +kernel
theorem dX2_told_55 : decode cX2_told 55 = .ok (.ireturn, 1) := by decide +kernel
theorem dX2_told_56 : decode cX2_told 56 = .ok (.aload_n 0, 1) := by decide +kernel
theorem dX2_told_57 : decode cX2_told 57 = .ok (.getfield 24, 3) := by decide +kernel
theorem dX2_told_60 : decode cX2_told 60 = .ok (.ireturn, 1) := by decide +kernel
theorem dX2_told_61 : decode cX2_told 61 = .ok (.bipush (-2), 2) := by decide +kernel
theorem dX2_told_63 : decode cX2_told 63 = .ok (.ireturn, 1) := by decide +kernel
theorem dX2_oweWreck_0 : decode cX2_oweWreck 0 = .ok (.aload_n 0, 1) := by decide +kernel
theorem dX2_oweWreck_1 : decode cX2_oweWreck 1 = .ok (.dup, 1) := by decide +kernel
theorem dX2_oweWreck_2 : decode cX2_oweWreck 2 = .ok (.getfield 15, 3) := by decide +kernel
theorem dX2_oweWreck_5 : decode cX2_oweWreck 5 = .ok (.iload_n 1, 1) := by decide +kernel
theorem dX2_oweWreck_6 : decode cX2_oweWreck 6 = .ok (.iadd, 1) := by decide +kernel
theorem dX2_oweWreck_7 : decode cX2_oweWreck 7 = .ok (.putfield 15, 3) := by decide +kernel
theorem dX2_oweWreck_10 : decode cX2_oweWreck 10 = .ok (.aload_n 0, 1) := by decide +kernel
theorem dX2_oweWreck_11 : decode cX2_oweWreck 11 = .ok (.dup, 1) := by decide +kernel
theorem dX2_oweWreck_12 : decode cX2_oweWreck 12 = .ok (.getfield 21, 3) := by decide +kernel
theorem dX2_oweWreck_15 : decode cX2_oweWreck 15 = .ok (.iconst 1, 1) := by decide +kernel
theorem dX2_oweWreck_16 : decode cX2_oweWreck 16 = .ok (.iadd, 1) := by decide +kernel
theorem dX2_oweWreck_17 : decode cX2_oweWreck 17 = .ok (.putfield 21, 3) := by decide +kernel
theorem dX2_oweWreck_20 : decode cX2_oweWreck 20 = .ok (.return_, 1) := by decide +kernel
theorem dX2_earn_0 : decode cX2_earn 0 = .ok (.aload_n 0, 1) := by decide +kernel
theorem dX2_earn_1 : decode cX2_earn 1 = .ok (.dup, 1) := by decide +kernel
theorem dX2_earn_2 : decode cX2_earn 2 = .ok (.getfield 9, 3) := by decide +kernel
theorem dX2_earn_5 : decode cX2_earn 5 = .ok (.iload_n 1, 1) := by decide +kernel
theorem dX2_earn_6 : decode cX2_earn 6 = .ok (.iadd, 1) := by decide +kernel
theorem dX2_earn_7 : decode cX2_earn 7 = .ok (.putfield 9, 3) := by decide +kernel
theorem dX2_earn_10 : decode cX2_earn 10 = .ok (.aload_n 0, 1) := by decide +kernel
theorem dX2_earn_11 : decode cX2_earn 11 = .ok (.getfield 9, 3) := by decide +kernel
theorem dX2_earn_14 : decode cX2_earn 14 = .ok (.aload_n 0, 1) := by decide +kernel
theorem dX2_earn_15 : decode cX2_earn 15 = .ok (.getfield 15, 3) := by decide +kernel
theorem dX2_earn_18 : decode cX2_earn 18 = .ok (.invokestatic 27, 3) := by decide +kernel
theorem dX2_earn_21 : decode cX2_earn 21 = .ok (.istore_n 2, 1) := by decide +kernel
theorem dX2_earn_22 : decode cX2_earn 22 = .ok (.aload_n 0, 1) := by decide +kernel
theorem dX2_earn_23 : decode cX2_earn 23 = .ok (.dup, 1) := by decide +kernel
theorem dX2_earn_24 : decode cX2_earn 24 = .ok (.getfield 9, 3) := by decide +kernel
theorem dX2_earn_27 : decode cX2_earn 27 = .ok (.iload_n 2, 1) := by decide +kernel
theorem dX2_earn_28 : decode cX2_earn 28 = .ok (.isub, 1) := by decide +kernel
theorem dX2_earn_29 : decode cX2_earn 29 = .ok (.putfield 9, 3) := by decide +kernel
theorem dX2_earn_32 : decode cX2_earn 32 = .ok (.aload_n 0, 1) := by decide +kernel
theorem dX2_earn_33 : decode cX2_earn 33 = .ok (.dup, 1) := by decide +kernel
theorem dX2_earn_34 : decode cX2_earn 34 = .ok (.getfield 15, 3) := by decide +kernel
theorem dX2_earn_37 : decode cX2_earn 37 = .ok (.iload_n 2, 1) := by decide +kernel
theorem dX2_earn_38 : decode cX2_earn 38 = .ok (.isub, 1) := by decide +kernel
theorem dX2_earn_39 : decode cX2_earn 39 = .ok (.putfield 15, 3) := by decide +kernel
theorem dX2_earn_42 : decode cX2_earn 42 = .ok (.aload_n 0, 1) := by decide +kernel
theorem dX2_earn_43 : decode cX2_earn 43 = .ok (.dup, 1) := by decide +kernel
theorem dX2_earn_44 : decode cX2_earn 44 = .ok (.getfield 24, 3) := by decide +kernel
theorem dX2_earn_47 : decode cX2_earn 47 = .ok (.iload_n 2, 1) := by decide +kernel
theorem dX2_earn_48 : decode cX2_earn 48 = .ok (.iadd, 1) := by decide +kernel
theorem dX2_earn_49 : decode cX2_earn 49 = .ok (.putfield 24, 3) := by decide +kernel
theorem dX2_earn_52 : decode cX2_earn 52 = .ok (.return_, 1) := by decide +kernel
theorem dX3_init_0 : decode cX3_init 0 = .ok (.aload_n 0, 1) := by decide +kernel
theorem dX3_init_1 : decode cX3_init 1 = .ok (.invokespecial 3, 3) := by decide +kernel
theorem dX3_init_4 : decode cX3_init 4 = .ok (.aload_n 0, 1) := by decide +kernel
theorem dX3_init_5 : decode cX3_init 5 = .ok (.iconst 1, 1) := by decide +kernel
theorem dX3_init_6 : decode cX3_init 6 = .ok (.putfield 9, 3) := by decide +kernel
theorem dX3_init_9 : decode cX3_init 9 = .ok (.aload_n 0, 1) := by decide +kernel
theorem dX3_init_10 : decode cX3_init 10 = .ok (.iconst 5, 1) := by decide +kernel
theorem dX3_init_11 : decode cX3_init 11 = .ok (.putfield 15, 3) := by decide +kernel
theorem dX3_init_14 : decode cX3_init 14 = .ok (.aload_n 0, 1) := by decide +kernel
theorem dX3_init_15 : decode cX3_init 15 = .ok (.iconst 0, 1) := by decide +kernel
theorem dX3_init_16 : decode cX3_init 16 = .ok (.putfield 18, 3) := by decide +kernel
theorem dX3_init_19 : decode cX3_init 19 = .ok (.aload_n 0, 1) := by decide +kernel
theorem dX3_init_20 : decode cX3_init 20 = .ok (.iconst 0, 1) := by decide +kernel
theorem dX3_init_21 : decode cX3_init 21 = .ok (.putfield 21, 3) := by decide +kernel
theorem dX3_init_24 : decode cX3_init 24 = .ok (.aload_n 0, 1) := by decide +kernel
theorem dX3_init_25 : decode cX3_init 25 = .ok (.getstatic 24, 3) := by decide +kernel
theorem dX3_init_28 : decode cX3_init 28 = .ok (.iload_n 1, 1) := by decide +kernel
theorem dX3_init_29 : decode cX3_init 29 = .ok (.iaload, 1) := by decide +kernel
theorem dX3_init_30 : decode cX3_init 30 = .ok (.putfield 28, 3) := by decide +kernel
theorem dX3_init_33 : decode cX3_init 33 = .ok (.aload_n 0, 1) := by decide +kernel
theorem dX3_init_34 : decode cX3_init 34 = .ok (.aload_n 2, 1) := by decide +kernel
theorem dX3_init_35 : decode cX3_init 35 = .ok (.getfield 31, 3) := by decide +kernel
theorem dX3_init_38 : decode cX3_init 38 = .ok (.iload_n 1, 1) := by decide +kernel
theorem dX3_init_39 : decode cX3_init 39 = .ok (.aaload, 1) := by decide +kernel
theorem dX3_init_40 : decode cX3_init 40 = .ok (.putfield 37, 3) := by decide +kernel
theorem dX3_init_43 : decode cX3_init 43 = .ok (.aload_n 0, 1) := by decide +kernel
theorem dX3_init_44 : decode cX3_init 44 = .ok (.aload_n 2, 1) := by decide +kernel
theorem dX3_init_45 : decode cX3_init 45 = .ok (.getfield 39, 3) := by decide +kernel
theorem dX3_init_48 : decode cX3_init 48 = .ok (.iload_n 1, 1) := by decide +kernel
theorem dX3_init_49 : decode cX3_init 49 = .ok (.aaload, 1) := by decide +kernel
theorem dX3_init_50 : decode cX3_init 50 = .ok (.putfield 42, 3) := by decide +kernel
theorem dX3_init_53 : decode cX3_init 53 = .ok (.aload_n 0, 1) := by decide +kernel
theorem dX3_init_54 : decode cX3_init 54 = .ok (.iload_n 1, 1) := by decide +kernel
theorem dX3_init_55 : decode cX3_init 55 = .ok (.putfield 44, 3) := by decide +kernel
theorem dX3_init_58 : decode cX3_init 58 = .ok (.return_, 1) := by decide +kernel
theorem dX3_copyFrom_0 : decode cX3_copyFrom 0 = .ok (.aload_n 0, 1) := by decide +kernel
theorem dX3_copyFrom_1 : decode cX3_copyFrom 1 = .ok (.aload_n 1, 1) := by decide +kernel
theorem dX3_copyFrom_2 : decode cX3_copyFrom 2 = .ok (.getfield 44, 3) := by decide +kernel
theorem dX3_copyFrom_5 : decode cX3_copyFrom 5 = .ok (.putfield 44, 3) := by decide +kernel
theorem dX3_copyFrom_8 : decode cX3_copyFrom 8 = .ok (.aload_n 0, 1) := by decide +kernel
theorem dX3_copyFrom_9 : decode cX3_copyFrom 9 = .ok (.aload_n 1, 1) := by decide +kernel
theorem dX3_copyFrom_10 : decode cX3_copyFrom 10 = .ok (.getfield 9, 3) := by decide +kernel
theorem dX3_copyFrom_13 : decode cX3_copyFrom 13 = .ok (.putfield 9, 3) := by decide +kernel
theorem dX3_copyFrom_16 : decode cX3_copyFrom 16 = .ok (.aload_n 0, 1) := by decide +kernel
theorem dX3_copyFrom_17 : decode cX3_copyFrom 17 = .ok (.aload_n 1, 1) := by decide +kernel
theorem dX3_copyFrom_18 : decode cX3_copyFrom 18 = .ok (.getfield 15, 3) := by decide +kernel
theorem dX3_copyFrom_21 : decode cX3_copyFrom 21 = .ok (.putfield 15, 3) := by decide +kernel
theorem dX3_copyFrom_24 : decode cX3_copyFrom 24 = .ok (.aload_n 0, 1) := by decide +kernel
theorem dX3_copyFrom_25 : decode cX3_copyFrom 25 = .ok (.aload_n 1, 1) := by decide +kernel
theorem dX3_copyFrom_26 : decode cX3_copyFrom 26 = .ok (.getfield 18, 3) := by decide +kernel
theorem dX3_copyFrom_29 : decode cX3_copyFrom 29 = .ok (.putfield 18, 3) := by decide +kernel
theorem dX3_copyFrom_32 : decode cX3_copyFrom 32 = .ok (.aload_n 0, 1) := by decide +kernel
theorem dX3_copyFrom_33 : decode cX3_copyFrom 33 = .ok (.aload_n 1, 1) := by decide +kernel
theorem dX3_copyFrom_34 : decode cX3_copyFrom 34 = .ok (.getfield 21, 3) := by decide +kernel
theorem dX3_copyFrom_37 : decode cX3_copyFrom 37 = .ok (.putfield 21, 3) := by decide +kernel
theorem dX3_copyFrom_40 : decode cX3_copyFrom 40 = .ok (.return_, 1) := by decide +kernel
theorem dX3_told_0 : decode cX3_told 0 = .ok (.iload_n 1, 1) := by decide +kernel
theorem dX3_told_1 : decode cX3_told 1 = .ok (.tableswitch 80 0 6 #[43, 48, 53, 58, 63, 68, 74], 43) := by decide +kernel
theorem dX3_told_44 : decode cX3_told 44 = .ok (.aload_n 0, 1) := by decide +kernel
theorem dX3_told_45 : decode cX3_told 45 = .ok (.getfield 44, 3) := by decide +kernel
theorem dX3_told_48 : decode cX3_told 48 = .ok (.ireturn, 1) := by decide +kernel
theorem dX3_told_49 : decode cX3_told 49 = .ok (.aload_n 0, 1) := by decide +kernel
theorem dX3_told_50 : decode cX3_told 50 = .ok (.getfield 9, 3) := by decide +kernel
theorem dX3_told_53 : decode cX3_told 53 = .ok (.ireturn, 1) := by decide +kernel
theorem dX3_told_54 : decode cX3_told 54 = .ok (.aload_n 0, 1) := by decide +kernel
theorem dX3_told_55 : decode cX3_told 55 = .ok (.getfield 15, 3) := by decide +kernel
theorem dX3_told_58 : decode cX3_told 58 = .ok (.ireturn, 1) := by decide +kernel
theorem dX3_told_59 : decode cX3_told 59 = .ok (.aload_n 0, 1) := by decide +kernel
theorem dX3_told_60 : decode cX3_told 60 = .ok (.getfield 18, 3) := by decide +kernel
theorem dX3_told_63 : decode cX3_told 63 = .ok (.ireturn, 1) := by decide +kernel
theorem dX3_told_64 : decode cX3_told 64 = .ok (.aload_n 0, 1) := by decide +kernel
theorem dX3_told_65 : decode cX3_told 65 = .ok (.getfield 21, 3) := by decide +kernel
theorem dX3_told_68 : decode cX3_told 68 = .ok (.ireturn, 1) := by decide +kernel
theorem dX3_told_69 : decode cX3_told 69 = .ok (.aload_n 0, 1) := by decide +kernel
theorem dX3_told_70 : decode cX3_told 70 = .ok (.iload_n 2, 1) := by decide +kernel
theorem dX3_told_71 : decode cX3_told 71 = .ok (.invokevirtual 47, 3) := by decide +kernel
theorem dX3_told_74 : decode cX3_told 74 = .ok (.ireturn, 1) := by decide +kernel
theorem dX3_told_75 : decode cX3_told 75 = .ok (.aload_n 0, 1) := by decide +kernel
theorem dX3_told_76 : decode cX3_told 76 = .ok (.iload_n 2, 1) := by decide +kernel
theorem dX3_told_77 : decode cX3_told 77 = .ok (.invokevirtual 51, 3) := by decide +kernel
theorem dX3_told_80 : decode cX3_told 80 = .ok (.ireturn, 1) := by decide +kernel
theorem dX3_told_81 : decode cX3_told 81 = .ok (.bipush (-2), 2) := by decide +kernel
theorem dX3_told_83 : decode cX3_told 83 = .ok (.ireturn, 1) := by decide +kernel
theorem dX3_set_0 : decode cX3_set 0 = .ok (.iload_n 1, 1) := by decide +kernel
theorem dX3_set_1 : decode cX3_set 1 = .ok (.tableswitch 51 0 2 #[27, 35, 43], 27) := by decide +kernel
theorem dX3_set_28 : decode cX3_set 28 = .ok (.aload_n 0, 1) := by decide +kernel
theorem dX3_set_29 : decode cX3_set 29 = .ok (.iload_n 2, 1) := by decide +kernel
theorem dX3_set_30 : decode cX3_set 30 = .ok (.putfield 44, 3) := by decide +kernel
theorem dX3_set_33 : decode cX3_set 33 = .ok (.goto 24, 3) := by decide +kernel
theorem dX3_set_36 : decode cX3_set 36 = .ok (.aload_n 0, 1) := by decide +kernel
theorem dX3_set_37 : decode cX3_set 37 = .ok (.iload_n 2, 1) := by decide +kernel
theorem dX3_set_38 : decode cX3_set 38 = .ok (.putfield 9, 3) := by decide +kernel
theorem dX3_set_41 : decode cX3_set 41 = .ok (.goto 16, 3) := by decide +kernel
theorem dX3_set_44 : decode cX3_set 44 = .ok (.aload_n 0, 1) := by decide +kernel
theorem dX3_set_45 : decode cX3_set 45 = .ok (.iload_n 2, 1) := by decide +kernel
theorem dX3_set_46 : decode cX3_set 46 = .ok (.putfield 15, 3) := by decide +kernel
theorem dX3_set_49 : decode cX3_set 49 = .ok (.goto 8, 3) := by decide +kernel
theorem dX3_set_52 : decode cX3_set 52 = .ok (.aload_n 0, 1) := by decide +kernel
theorem dX3_set_53 : decode cX3_set 53 = .ok (.iload_n 2, 1) := by decide +kernel
theorem dX3_set_54 : decode cX3_set 54 = .ok (.putfield 18, 3) := by decide +kernel
theorem dX3_set_57 : decode cX3_set 57 = .ok (.return_, 1) := by decide +kernel
theorem dX3_turnDark_0 : decode cX3_turnDark 0 = .ok (.aload_n 0, 1) := by decide +kernel
theorem dX3_turnDark_1 : decode cX3_turnDark 1 = .ok (.dup, 1) := by decide +kernel
theorem dX3_turnDark_2 : decode cX3_turnDark 2 = .ok (.getfield 18, 3) := by decide +kernel
theorem dX3_turnDark_5 : decode cX3_turnDark 5 = .ok (.iconst 1, 1) := by decide +kernel
theorem dX3_turnDark_6 : decode cX3_turnDark 6 = .ok (.iload_n 1, 1) := by decide +kernel
theorem dX3_turnDark_7 : decode cX3_turnDark 7 = .ok (.ishl, 1) := by decide +kernel
theorem dX3_turnDark_8 : decode cX3_turnDark 8 = .ok (.ixor, 1) := by decide +kernel
theorem dX3_turnDark_9 : decode cX3_turnDark 9 = .ok (.putfield 18, 3) := by decide +kernel
theorem dX3_turnDark_12 : decode cX3_turnDark 12 = .ok (.return_, 1) := by decide +kernel
theorem dX3_layCard_0 : decode cX3_layCard 0 = .ok (.aload_n 0, 1) := by decide +kernel
theorem dX3_layCard_1 : decode cX3_layCard 1 = .ok (.aload_n 0, 1) := by decide +kernel
theorem dX3_layCard_2 : decode cX3_layCard 2 = .ok (.getfield 21, 3) := by decide +kernel
theorem dX3_layCard_5 : decode cX3_layCard 5 = .ok (.iconst 3, 1) := by decide +kernel
theorem dX3_layCard_6 : decode cX3_layCard 6 = .ok (.iadd, 1) := by decide +kernel
theorem dX3_layCard_7 : decode cX3_layCard 7 = .ok (.bipush 9, 2) := by decide +kernel
theorem dX3_layCard_9 : decode cX3_layCard 9 = .ok (.invokestatic 54, 3) := by decide +kernel
theorem dX3_layCard_12 : decode cX3_layCard 12 = .ok (.putfield 21, 3) := by decide +kernel
theorem dX3_layCard_15 : decode cX3_layCard 15 = .ok (.return_, 1) := by decide +kernel
theorem dX3_thinFog_0 : decode cX3_thinFog 0 = .ok (.aload_n 0, 1) := by decide +kernel
theorem dX3_thinFog_1 : decode cX3_thinFog 1 = .ok (.getfield 21, 3) := by decide +kernel
theorem dX3_thinFog_4 : decode cX3_thinFog 4 = .ok (.ifCond .le 13, 3) := by decide +kernel
theorem dX3_thinFog_7 : decode cX3_thinFog 7 = .ok (.aload_n 0, 1) := by decide +kernel
theorem dX3_thinFog_8 : decode cX3_thinFog 8 = .ok (.dup, 1) := by decide +kernel
theorem dX3_thinFog_9 : decode cX3_thinFog 9 = .ok (.getfield 21, 3) := by decide +kernel
theorem dX3_thinFog_12 : decode cX3_thinFog 12 = .ok (.iconst 1, 1) := by decide +kernel
theorem dX3_thinFog_13 : decode cX3_thinFog 13 = .ok (.isub, 1) := by decide +kernel
theorem dX3_thinFog_14 : decode cX3_thinFog 14 = .ok (.putfield 21, 3) := by decide +kernel
theorem dX3_thinFog_17 : decode cX3_thinFog 17 = .ok (.return_, 1) := by decide +kernel
theorem dX3_beamWind_0 : decode cX3_beamWind 0 = .ok (.aload_n 0, 1) := by decide +kernel
theorem dX3_beamWind_1 : decode cX3_beamWind 1 = .ok (.getfield 44, 3) := by decide +kernel
theorem dX3_beamWind_4 : decode cX3_beamWind 4 = .ok (.iload_n 1, 1) := by decide +kernel
theorem dX3_beamWind_5 : decode cX3_beamWind 5 = .ok (.aload_n 0, 1) := by decide +kernel
theorem dX3_beamWind_6 : decode cX3_beamWind 6 = .ok (.getfield 9, 3) := by decide +kernel
theorem dX3_beamWind_9 : decode cX3_beamWind 9 = .ok (.imul, 1) := by decide +kernel
theorem dX3_beamWind_10 : decode cX3_beamWind 10 = .ok (.iadd, 1) := by decide +kernel
theorem dX3_beamWind_11 : decode cX3_beamWind 11 = .ok (.bipush 8, 2) := by decide +kernel
theorem dX3_beamWind_13 : decode cX3_beamWind 13 = .ok (.irem, 1) := by decide +kernel
theorem dX3_beamWind_14 : decode cX3_beamWind 14 = .ok (.ireturn, 1) := by decide +kernel
theorem dX3_isDark_0 : decode cX3_isDark 0 = .ok (.aload_n 0, 1) := by decide +kernel
theorem dX3_isDark_1 : decode cX3_isDark 1 = .ok (.getfield 18, 3) := by decide +kernel
theorem dX3_isDark_4 : decode cX3_isDark 4 = .ok (.iload_n 1, 1) := by decide +kernel
theorem dX3_isDark_5 : decode cX3_isDark 5 = .ok (.ishr, 1) := by decide +kernel
theorem dX3_isDark_6 : decode cX3_isDark 6 = .ok (.iconst 1, 1) := by decide +kernel
theorem dX3_isDark_7 : decode cX3_isDark 7 = .ok (.iand, 1) := by decide +kernel
theorem dX3_isDark_8 : decode cX3_isDark 8 = .ok (.ifCond .eq 7, 3) := by decide +kernel
theorem dX3_isDark_11 : decode cX3_isDark 11 = .ok (.iconst 1, 1) := by decide +kernel
theorem dX3_isDark_12 : decode cX3_isDark 12 = .ok (.goto 4, 3) := by decide +kernel
theorem dX3_isDark_15 : decode cX3_isDark 15 = .ok (.iconst 0, 1) := by decide +kernel
theorem dX3_isDark_16 : decode cX3_isDark 16 = .ok (.ireturn, 1) := by decide +kernel
theorem dX3_reach_0 : decode cX3_reach 0 = .ok (.aload_n 0, 1) := by decide +kernel
theorem dX3_reach_1 : decode cX3_reach 1 = .ok (.getfield 21, 3) := by decide +kernel
theorem dX3_reach_4 : decode cX3_reach 4 = .ok (.iload_n 1, 1) := by decide +kernel
theorem dX3_reach_5 : decode cX3_reach 5 = .ok (.if_icmp .le 17, 3) := by decide +kernel
theorem dX3_reach_8 : decode cX3_reach 8 = .ok (.aload_n 0, 1) := by decide +kernel
theorem dX3_reach_9 : decode cX3_reach 9 = .ok (.getfield 15, 3) := by decide +kernel
theorem dX3_reach_12 : decode cX3_reach 12 = .ok (.aload_n 0, 1) := by decide +kernel
theorem dX3_reach_13 : decode cX3_reach 13 = .ok (.getfield 21, 3) := by decide +kernel
theorem dX3_reach_16 : decode cX3_reach 16 = .ok (.iload_n 1, 1) := by decide +kernel
theorem dX3_reach_17 : decode cX3_reach 17 = .ok (.isub, 1) := by decide +kernel
theorem dX3_reach_18 : decode cX3_reach 18 = .ok (.isub, 1) := by decide +kernel
theorem dX3_reach_19 : decode cX3_reach 19 = .ok (.goto 7, 3) := by decide +kernel
theorem dX3_reach_22 : decode cX3_reach 22 = .ok (.aload_n 0, 1) := by decide +kernel
theorem dX3_reach_23 : decode cX3_reach 23 = .ok (.getfield 15, 3) := by decide +kernel
theorem dX3_reach_26 : decode cX3_reach 26 = .ok (.ireturn, 1) := by decide +kernel
theorem dX3_lightsCell_0 : decode cX3_lightsCell 0 = .ok (.iload_n 1, 1) := by decide +kernel
theorem dX3_lightsCell_1 : decode cX3_lightsCell 1 = .ok (.aload_n 0, 1) := by decide +kernel
theorem dX3_lightsCell_2 : decode cX3_lightsCell 2 = .ok (.getfield 28, 3) := by decide +kernel
theorem dX3_lightsCell_5 : decode cX3_lightsCell 5 = .ok (.if_icmp .ne 5, 3) := by decide +kernel
theorem dX3_lightsCell_8 : decode cX3_lightsCell 8 = .ok (.iconst 1, 1) := by decide +kernel
theorem dX3_lightsCell_9 : decode cX3_lightsCell 9 = .ok (.ireturn, 1) := by decide +kernel
theorem dX3_lightsCell_10 : decode cX3_lightsCell 10 = .ok (.iload_n 1, 1) := by decide +kernel
theorem dX3_lightsCell_11 : decode cX3_lightsCell 11 = .ok (.invokestatic 60, 3) := by decide +kernel
theorem dX3_lightsCell_14 : decode cX3_lightsCell 14 = .ok (.ifCond .ne 5, 3) := by decide +kernel
theorem dX3_lightsCell_17 : decode cX3_lightsCell 17 = .ok (.iconst 0, 1) := by decide +kernel
theorem dX3_lightsCell_18 : decode cX3_lightsCell 18 = .ok (.ireturn, 1) := by decide +kernel
theorem dX3_lightsCell_19 : decode cX3_lightsCell 19 = .ok (.aload_n 0, 1) := by decide +kernel
theorem dX3_lightsCell_20 : decode cX3_lightsCell 20 = .ok (.getfield 37, 3) := by decide +kernel
theorem dX3_lightsCell_23 : decode cX3_lightsCell 23 = .ok (.iload_n 1, 1) := by decide +kernel
theorem dX3_lightsCell_24 : decode cX3_lightsCell 24 = .ok (.iaload, 1) := by decide +kernel
theorem dX3_lightsCell_25 : decode cX3_lightsCell 25 = .ok (.istore 4, 2) := by decide +kernel
theorem dX3_lightsCell_27 : decode cX3_lightsCell 27 = .ok (.iload 4, 2) := by decide +kernel
theorem dX3_lightsCell_29 : decode cX3_lightsCell 29 = .ok (.aload_n 0, 1) := by decide +kernel
theorem dX3_lightsCell_30 : decode cX3_lightsCell 30 = .ok (.iload_n 2, 1) := by decide +kernel
theorem dX3_lightsCell_31 : decode cX3_lightsCell 31 = .ok (.invokevirtual 47, 3) := by decide +kernel
theorem dX3_lightsCell_34 : decode cX3_lightsCell 34 = .ok (.if_icmp .ne 30, 3) := by decide +kernel
theorem dX3_lightsCell_37 : decode cX3_lightsCell 37 = .ok (.aload_n 0, 1) := by decide +kernel
theorem dX3_lightsCell_38 : decode cX3_lightsCell 38 = .ok (.getfield 42, 3) := by decide +kernel
theorem dX3_lightsCell_41 : decode cX3_lightsCell 41 = .ok (.iload_n 1, 1) := by decide +kernel
theorem dX3_lightsCell_42 : decode cX3_lightsCell 42 = .ok (.iaload, 1) := by decide +kernel
theorem dX3_lightsCell_43 : decode cX3_lightsCell 43 = .ok (.aload_n 0, 1) := by decide +kernel
theorem dX3_lightsCell_44 : decode cX3_lightsCell 44 = .ok (.iload_n 3, 1) := by decide +kernel
theorem dX3_lightsCell_45 : decode cX3_lightsCell 45 = .ok (.invokevirtual 64, 3) := by decide +kernel
theorem dX3_lightsCell_48 : decode cX3_lightsCell 48 = .ok (.if_icmp .gt 16, 3) := by decide +kernel
theorem dX3_lightsCell_51 : decode cX3_lightsCell 51 = .ok (.aload_n 0, 1) := by decide +kernel
theorem dX3_lightsCell_52 : decode cX3_lightsCell 52 = .ok (.iload 4, 2) := by decide +kernel
theorem dX3_lightsCell_54 : decode cX3_lightsCell 54 = .ok (.invokevirtual 67, 3) := by decide +kernel
theorem dX3_lightsCell_57 : decode cX3_lightsCell 57 = .ok (.ifCond .ne 7, 3) := by decide +kernel
theorem dX3_lightsCell_60 : decode cX3_lightsCell 60 = .ok (.iconst 1, 1) := by decide +kernel
theorem dX3_lightsCell_61 : decode cX3_lightsCell 61 = .ok (.goto 4, 3) := by decide +kernel
theorem dX3_lightsCell_64 : decode cX3_lightsCell 64 = .ok (.iconst 0, 1) := by decide +kernel
theorem dX3_lightsCell_65 : decode cX3_lightsCell 65 = .ok (.ireturn, 1) := by decide +kernel
theorem dX3_meetsOnWalk_0 : decode cX3_meetsOnWalk 0 = .ok (.iload_n 1, 1) := by decide +kernel
theorem dX3_meetsOnWalk_1 : decode cX3_meetsOnWalk 1 = .ok (.aload_n 0, 1) := by decide +kernel
theorem dX3_meetsOnWalk_2 : decode cX3_meetsOnWalk 2 = .ok (.getfield 28, 3) := by decide +kernel
theorem dX3_meetsOnWalk_5 : decode cX3_meetsOnWalk 5 = .ok (.if_icmp .ne 5, 3) := by decide +kernel
theorem dX3_meetsOnWalk_8 : decode cX3_meetsOnWalk 8 = .ok (.iconst 1, 1) := by decide +kernel
theorem dX3_meetsOnWalk_9 : decode cX3_meetsOnWalk 9 = .ok (.ireturn, 1) := by decide +kernel
theorem dX3_meetsOnWalk_10 : decode cX3_meetsOnWalk 10 = .ok (.aload_n 0, 1) := by decide +kernel
theorem dX3_meetsOnWalk_11 : decode cX3_meetsOnWalk 11 = .ok (.iload_n 2, 1) := by decide +kernel
theorem dX3_meetsOnWalk_12 : decode cX3_meetsOnWalk 12 = .ok (.invokevirtual 47, 3) := by decide +kernel
theorem dX3_meetsOnWalk_15 : decode cX3_meetsOnWalk 15 = .ok (.istore_n 3, 1) := by decide +kernel
theorem dX3_meetsOnWalk_16 : decode cX3_meetsOnWalk 16 = .ok (.aload_n 0, 1) := by decide +kernel
theorem dX3_meetsOnWalk_17 : decode cX3_meetsOnWalk 17 = .ok (.iload_n 3, 1) := by decide +kernel
theorem dX3_meetsOnWalk_18 : decode cX3_meetsOnWalk 18 = .ok (.invokevirtual 67, 3) := by decide +kernel
theorem dX3_meetsOnWalk_21 : decode cX3_meetsOnWalk 21 = .ok (.ifCond .eq 5, 3) := by decide +kernel
theorem dX3_meetsOnWalk_24 : decode cX3_meetsOnWalk 24 = .ok (.iconst 0, 1) := by decide +kernel
theorem dX3_meetsOnWalk_25 : decode cX3_meetsOnWalk 25 = .ok (.ireturn, 1) := by decide +kernel
theorem dX3_meetsOnWalk_26 : decode cX3_meetsOnWalk 26 = .ok (.aload_n 0, 1) := by decide +kernel
theorem dX3_meetsOnWalk_27 : decode cX3_meetsOnWalk 27 = .ok (.iconst 0, 1) := by decide +kernel
theorem dX3_meetsOnWalk_28 : decode cX3_meetsOnWalk 28 = .ok (.invokevirtual 64, 3) := by decide +kernel
theorem dX3_meetsOnWalk_31 : decode cX3_meetsOnWalk 31 = .ok (.istore 4, 2) := by decide +kernel
theorem dX3_meetsOnWalk_33 : decode cX3_meetsOnWalk 33 = .ok (.iconst 1, 1) := by decide +kernel
theorem dX3_meetsOnWalk_34 : decode cX3_meetsOnWalk 34 = .ok (.istore 5, 2) := by decide +kernel
theorem dX3_meetsOnWalk_36 : decode cX3_meetsOnWalk 36 = .ok (.iload 5, 2) := by decide +kernel
theorem dX3_meetsOnWalk_38 : decode cX3_meetsOnWalk 38 = .ok (.iload 4, 2) := by decide +kernel
theorem dX3_meetsOnWalk_40 : decode cX3_meetsOnWalk 40 = .ok (.if_icmp .gt 73, 3) := by decide +kernel
theorem dX3_meetsOnWalk_43 : decode cX3_meetsOnWalk 43 = .ok (.iload_n 3, 1) := by decide +kernel
theorem dX3_meetsOnWalk_44 : decode cX3_meetsOnWalk 44 = .ok (.iload 5, 2) := by decide +kernel
theorem dX3_meetsOnWalk_46 : decode cX3_meetsOnWalk 46 = .ok (.imul, 1) := by decide +kernel
theorem dX3_meetsOnWalk_47 : decode cX3_meetsOnWalk 47 = .ok (.istore 6, 2) := by decide +kernel
theorem dX3_meetsOnWalk_49 : decode cX3_meetsOnWalk 49 = .ok (.iload_n 3, 1) := by decide +kernel
theorem dX3_meetsOnWalk_50 : decode cX3_meetsOnWalk 50 = .ok (.iconst 2, 1) := by decide +kernel
theorem dX3_meetsOnWalk_51 : decode cX3_meetsOnWalk 51 = .ok (.irem, 1) := by decide +kernel
theorem dX3_meetsOnWalk_52 : decode cX3_meetsOnWalk 52 = .ok (.ifCond .ne 10, 3) := by decide +kernel
theorem dX3_meetsOnWalk_55 : decode cX3_meetsOnWalk 55 = .ok (.iload 5, 2) := by decide +kernel
theorem dX3_meetsOnWalk_57 : decode cX3_meetsOnWalk 57 = .ok (.iconst 2, 1) := by decide +kernel
theorem dX3_meetsOnWalk_58 : decode cX3_meetsOnWalk 58 = .ok (.idiv, 1) := by decide +kernel
theorem dX3_meetsOnWalk_59 : decode cX3_meetsOnWalk 59 = .ok (.goto 9, 3) := by decide +kernel
theorem dX3_meetsOnWalk_62 : decode cX3_meetsOnWalk 62 = .ok (.iload 5, 2) := by decide +kernel
theorem dX3_meetsOnWalk_64 : decode cX3_meetsOnWalk 64 = .ok (.iconst 1, 1) := by decide +kernel
theorem dX3_meetsOnWalk_65 : decode cX3_meetsOnWalk 65 = .ok (.isub, 1) := by decide +kernel
theorem dX3_meetsOnWalk_66 : decode cX3_meetsOnWalk 66 = .ok (.iconst 2, 1) := by decide +kernel
theorem dX3_meetsOnWalk_67 : decode cX3_meetsOnWalk 67 = .ok (.idiv, 1) := by decide +kernel
theorem dX3_meetsOnWalk_68 : decode cX3_meetsOnWalk 68 = .ok (.istore 7, 2) := by decide +kernel
theorem dX3_meetsOnWalk_70 : decode cX3_meetsOnWalk 70 = .ok (.iload 6, 2) := by decide +kernel
theorem dX3_meetsOnWalk_72 : decode cX3_meetsOnWalk 72 = .ok (.iload 7, 2) := by decide +kernel
theorem dX3_meetsOnWalk_74 : decode cX3_meetsOnWalk 74 = .ok (.isub, 1) := by decide +kernel
theorem dX3_meetsOnWalk_75 : decode cX3_meetsOnWalk 75 = .ok (.istore 8, 2) := by decide +kernel
theorem dX3_meetsOnWalk_77 : decode cX3_meetsOnWalk 77 = .ok (.iload 8, 2) := by decide +kernel
theorem dX3_meetsOnWalk_79 : decode cX3_meetsOnWalk 79 = .ok (.iload 6, 2) := by decide +kernel
theorem dX3_meetsOnWalk_81 : decode cX3_meetsOnWalk 81 = .ok (.iload 7, 2) := by decide +kernel
theorem dX3_meetsOnWalk_83 : decode cX3_meetsOnWalk 83 = .ok (.iadd, 1) := by decide +kernel
theorem dX3_meetsOnWalk_84 : decode cX3_meetsOnWalk 84 = .ok (.if_icmp .gt 23, 3) := by decide +kernel
theorem dX3_meetsOnWalk_87 : decode cX3_meetsOnWalk 87 = .ok (.aload_n 0, 1) := by decide +kernel
theorem dX3_meetsOnWalk_88 : decode cX3_meetsOnWalk 88 = .ok (.iload 5, 2) := by decide +kernel
theorem dX3_meetsOnWalk_90 : decode cX3_meetsOnWalk 90 = .ok (.iload 8, 2) := by decide +kernel
theorem dX3_meetsOnWalk_92 : decode cX3_meetsOnWalk 92 = .ok (.invokevirtual 70, 3) := by decide +kernel
theorem dX3_meetsOnWalk_95 : decode cX3_meetsOnWalk 95 = .ok (.iload_n 1, 1) := by decide +kernel
theorem dX3_meetsOnWalk_96 : decode cX3_meetsOnWalk 96 = .ok (.if_icmp .ne 5, 3) := by decide +kernel
theorem dX3_meetsOnWalk_99 : decode cX3_meetsOnWalk 99 = .ok (.iconst 1, 1) := by decide +kernel
theorem dX3_meetsOnWalk_100 : decode cX3_meetsOnWalk 100 = .ok (.ireturn, 1) := by decide +kernel
theorem dX3_meetsOnWalk_101 : decode cX3_meetsOnWalk 101 = .ok (.iinc 8 1, 3) := by decide +kernel
theorem dX3_meetsOnWalk_104 : decode cX3_meetsOnWalk 104 = .ok (.goto (-27), 3) := by decide +kernel
theorem dX3_meetsOnWalk_107 : decode cX3_meetsOnWalk 107 = .ok (.iinc 5 1, 3) := by decide +kernel
theorem dX3_meetsOnWalk_110 : decode cX3_meetsOnWalk 110 = .ok (.goto (-74), 3) := by decide +kernel
theorem dX3_meetsOnWalk_113 : decode cX3_meetsOnWalk 113 = .ok (.iconst 0, 1) := by decide +kernel
theorem dX3_meetsOnWalk_114 : decode cX3_meetsOnWalk 114 = .ok (.ireturn, 1) := by decide +kernel
theorem dX3_cellOnRing_0 : decode cX3_cellOnRing 0 = .ok (.aload_n 0, 1) := by decide +kernel
theorem dX3_cellOnRing_1 : decode cX3_cellOnRing 1 = .ok (.getfield 28, 3) := by decide +kernel
theorem dX3_cellOnRing_4 : decode cX3_cellOnRing 4 = .ok (.bipush 10, 2) := by decide +kernel
theorem dX3_cellOnRing_6 : decode cX3_cellOnRing 6 = .ok (.irem, 1) := by decide +kernel
theorem dX3_cellOnRing_7 : decode cX3_cellOnRing 7 = .ok (.iload_n 1, 1) := by decide +kernel
theorem dX3_cellOnRing_8 : decode cX3_cellOnRing 8 = .ok (.iload_n 2, 1) := by decide +kernel
theorem dX3_cellOnRing_9 : decode cX3_cellOnRing 9 = .ok (.invokestatic 73, 3) := by decide +kernel
theorem dX3_cellOnRing_12 : decode cX3_cellOnRing 12 = .ok (.iadd, 1) := by decide +kernel
theorem dX3_cellOnRing_13 : decode cX3_cellOnRing 13 = .ok (.istore_n 3, 1) := by decide +kernel
theorem dX3_cellOnRing_14 : decode cX3_cellOnRing 14 = .ok (.aload_n 0, 1) := by decide +kernel
theorem dX3_cellOnRing_15 : decode cX3_cellOnRing 15 = .ok (.getfield 28, 3) := by decide +kernel
theorem dX3_cellOnRing_18 : decode cX3_cellOnRing 18 = .ok (.bipush 10, 2) := by decide +kernel
theorem dX3_cellOnRing_20 : decode cX3_cellOnRing 20 = .ok (.idiv, 1) := by decide +kernel
theorem dX3_cellOnRing_21 : decode cX3_cellOnRing 21 = .ok (.iload_n 1, 1) := by decide +kernel
theorem dX3_cellOnRing_22 : decode cX3_cellOnRing 22 = .ok (.iload_n 2, 1) := by decide +kernel
theorem dX3_cellOnRing_23 : decode cX3_cellOnRing 23 = .ok (.iconst 2, 1) := by decide +kernel
theorem dX3_cellOnRing_24 : decode cX3_cellOnRing 24 = .ok (.iload_n 1, 1) := by decide +kernel
theorem dX3_cellOnRing_25 : decode cX3_cellOnRing 25 = .ok (.imul, 1) := by decide +kernel
theorem dX3_cellOnRing_26 : decode cX3_cellOnRing 26 = .ok (.isub, 1) := by decide +kernel
theorem dX3_cellOnRing_27 : decode cX3_cellOnRing 27 = .ok (.invokestatic 73, 3) := by decide +kernel
theorem dX3_cellOnRing_30 : decode cX3_cellOnRing 30 = .ok (.iadd, 1) := by decide +kernel
theorem dX3_cellOnRing_31 : decode cX3_cellOnRing 31 = .ok (.istore 4, 2) := by decide +kernel
theorem dX3_cellOnRing_33 : decode cX3_cellOnRing 33 = .ok (.iload_n 3, 1) := by decide +kernel
theorem dX3_cellOnRing_34 : decode cX3_cellOnRing 34 = .ok (.ifCond .lt 21, 3) := by decide +kernel
theorem dX3_cellOnRing_37 : decode cX3_cellOnRing 37 = .ok (.iload_n 3, 1) := by decide +kernel
theorem dX3_cellOnRing_38 : decode cX3_cellOnRing 38 = .ok (.bipush 10, 2) := by decide +kernel
theorem dX3_cellOnRing_40 : decode cX3_cellOnRing 40 = .ok (.if_icmp .ge 15, 3) := by decide +kernel
theorem dX3_cellOnRing_43 : decode cX3_cellOnRing 43 = .ok (.iload 4, 2) := by decide +kernel
theorem dX3_cellOnRing_45 : decode cX3_cellOnRing 45 = .ok (.ifCond .lt 10, 3) := by decide +kernel
theorem dX3_cellOnRing_48 : decode cX3_cellOnRing 48 = .ok (.iload 4, 2) := by decide +kernel
theorem dX3_cellOnRing_50 : decode cX3_cellOnRing 50 = .ok (.bipush 10, 2) := by decide +kernel
theorem dX3_cellOnRing_52 : decode cX3_cellOnRing 52 = .ok (.if_icmp .lt 6, 3) := by decide +kernel
theorem dX3_cellOnRing_55 : decode cX3_cellOnRing 55 = .ok (.bipush (-5), 2) := by decide +kernel
theorem dX3_cellOnRing_57 : decode cX3_cellOnRing 57 = .ok (.ireturn, 1) := by decide +kernel
theorem dX3_cellOnRing_58 : decode cX3_cellOnRing 58 = .ok (.bipush 10, 2) := by decide +kernel
theorem dX3_cellOnRing_60 : decode cX3_cellOnRing 60 = .ok (.iload 4, 2) := by decide +kernel
theorem dX3_cellOnRing_62 : decode cX3_cellOnRing 62 = .ok (.imul, 1) := by decide +kernel
theorem dX3_cellOnRing_63 : decode cX3_cellOnRing 63 = .ok (.iload_n 3, 1) := by decide +kernel
theorem dX3_cellOnRing_64 : decode cX3_cellOnRing 64 = .ok (.iadd, 1) := by decide +kernel
theorem dX3_cellOnRing_65 : decode cX3_cellOnRing 65 = .ok (.ireturn, 1) := by decide +kernel
theorem dX3_eastOnRing_0 : decode cX3_eastOnRing 0 = .ok (.iload_n 0, 1) := by decide +kernel
theorem dX3_eastOnRing_1 : decode cX3_eastOnRing 1 = .ok (.iconst 1, 1) := by decide +kernel
theorem dX3_eastOnRing_2 : decode cX3_eastOnRing 2 = .ok (.if_icmp .ge 5, 3) := by decide +kernel
theorem dX3_eastOnRing_5 : decode cX3_eastOnRing 5 = .ok (.iconst 0, 1) := by decide +kernel
theorem dX3_eastOnRing_6 : decode cX3_eastOnRing 6 = .ok (.ireturn, 1) := by decide +kernel
theorem dX3_eastOnRing_7 : decode cX3_eastOnRing 7 = .ok (.iload_n 1, 1) := by decide +kernel
theorem dX3_eastOnRing_8 : decode cX3_eastOnRing 8 = .ok (.bipush 8, 2) := by decide +kernel
theorem dX3_eastOnRing_10 : decode cX3_eastOnRing 10 = .ok (.iload_n 0, 1) := by decide +kernel
theorem dX3_eastOnRing_11 : decode cX3_eastOnRing 11 = .ok (.imul, 1) := by decide +kernel
theorem dX3_eastOnRing_12 : decode cX3_eastOnRing 12 = .ok (.invokestatic 76, 3) := by decide +kernel
theorem dX3_eastOnRing_15 : decode cX3_eastOnRing 15 = .ok (.iconst 4, 1) := by decide +kernel
theorem dX3_eastOnRing_16 : decode cX3_eastOnRing 16 = .ok (.iload_n 0, 1) := by decide +kernel
theorem dX3_eastOnRing_17 : decode cX3_eastOnRing 17 = .ok (.imul, 1) := by decide +kernel
theorem dX3_eastOnRing_18 : decode cX3_eastOnRing 18 = .ok (.isub, 1) := by decide +kernel
theorem dX3_eastOnRing_19 : decode cX3_eastOnRing 19 = .ok (.invokestatic 79, 3) := by decide +kernel
theorem dX3_eastOnRing_22 : decode cX3_eastOnRing 22 = .ok (.istore_n 2, 1) := by decide +kernel
theorem dX3_eastOnRing_23 : decode cX3_eastOnRing 23 = .ok (.iload_n 0, 1) := by decide +kernel
theorem dX3_eastOnRing_24 : decode cX3_eastOnRing 24 = .ok (.ineg, 1) := by decide +kernel
theorem dX3_eastOnRing_25 : decode cX3_eastOnRing 25 = .ok (.iload_n 0, 1) := by decide +kernel
theorem dX3_eastOnRing_26 : decode cX3_eastOnRing 26 = .ok (.iload_n 2, 1) := by decide +kernel
theorem dX3_eastOnRing_27 : decode cX3_eastOnRing 27 = .ok (.iconst 2, 1) := by decide +kernel
theorem dX3_eastOnRing_28 : decode cX3_eastOnRing 28 = .ok (.iload_n 0, 1) := by decide +kernel
theorem dX3_eastOnRing_29 : decode cX3_eastOnRing 29 = .ok (.imul, 1) := by decide +kernel
theorem dX3_eastOnRing_30 : decode cX3_eastOnRing 30 = .ok (.isub, 1) := by decide +kernel
theorem dX3_eastOnRing_31 : decode cX3_eastOnRing 31 = .ok (.invokestatic 54, 3) := by decide +kernel
theorem dX3_eastOnRing_34 : decode cX3_eastOnRing 34 = .ok (.invokestatic 82, 3) := by decide +kernel
theorem dX3_eastOnRing_37 : decode cX3_eastOnRing 37 = .ok (.ireturn, 1) := by decide +kernel
theorem dX3_litCells_0 : decode cX3_litCells 0 = .ok (.iconst 0, 1) := by decide +kernel
theorem dX3_litCells_1 : decode cX3_litCells 1 = .ok (.istore_n 2, 1) := by decide +kernel
theorem dX3_litCells_2 : decode cX3_litCells 2 = .ok (.iconst 0, 1) := by decide +kernel
theorem dX3_litCells_3 : decode cX3_litCells 3 = .ok (.istore_n 3, 1) := by decide +kernel
theorem dX3_litCells_4 : decode cX3_litCells 4 = .ok (.iload_n 3, 1) := by decide +kernel
theorem dX3_litCells_5 : decode cX3_litCells 5 = .ok (.bipush 100, 2) := by decide +kernel
theorem dX3_litCells_7 : decode cX3_litCells 7 = .ok (.if_icmp .ge 22, 3) := by decide +kernel
theorem dX3_litCells_10 : decode cX3_litCells 10 = .ok (.aload_n 0, 1) := by decide +kernel
theorem dX3_litCells_11 : decode cX3_litCells 11 = .ok (.iload_n 3, 1) := by decide +kernel
theorem dX3_litCells_12 : decode cX3_litCells 12 = .ok (.iload_n 1, 1) := by decide +kernel
theorem dX3_litCells_13 : decode cX3_litCells 13 = .ok (.iconst 0, 1) := by decide +kernel
theorem dX3_litCells_14 : decode cX3_litCells 14 = .ok (.invokevirtual 85, 3) := by decide +kernel
theorem dX3_litCells_17 : decode cX3_litCells 17 = .ok (.ifCond .eq 6, 3) := by decide +kernel
theorem dX3_litCells_20 : decode cX3_litCells 20 = .ok (.iinc 2 1, 3) := by decide +kernel
theorem dX3_litCells_23 : decode cX3_litCells 23 = .ok (.iinc 3 1, 3) := by decide +kernel
theorem dX3_litCells_26 : decode cX3_litCells 26 = .ok (.goto (-22), 3) := by decide +kernel
theorem dX3_litCells_29 : decode cX3_litCells 29 = .ok (.iload_n 2, 1) := by decide +kernel
theorem dX3_litCells_30 : decode cX3_litCells 30 = .ok (.ireturn, 1) := by decide +kernel
theorem dX3_whyDark_0 : decode cX3_whyDark 0 = .ok (.iload_n 1, 1) := by decide +kernel
theorem dX3_whyDark_1 : decode cX3_whyDark 1 = .ok (.aload_n 0, 1) := by decide +kernel
theorem dX3_whyDark_2 : decode cX3_whyDark 2 = .ok (.getfield 28, 3) := by decide +kernel
theorem dX3_whyDark_5 : decode cX3_whyDark 5 = .ok (.if_icmp .eq 10, 3) := by decide +kernel
theorem dX3_whyDark_8 : decode cX3_whyDark 8 = .ok (.iload_n 1, 1) := by decide +kernel
theorem dX3_whyDark_9 : decode cX3_whyDark 9 = .ok (.invokestatic 60, 3) := by decide +kernel
theorem dX3_whyDark_12 : decode cX3_whyDark 12 = .ok (.ifCond .ne 5, 3) := by decide +kernel
theorem dX3_whyDark_15 : decode cX3_whyDark 15 = .ok (.iconst 0, 1) := by decide +kernel
theorem dX3_whyDark_16 : decode cX3_whyDark 16 = .ok (.ireturn, 1) := by decide +kernel
theorem dX3_whyDark_17 : decode cX3_whyDark 17 = .ok (.aload_n 0, 1) := by decide +kernel
theorem dX3_whyDark_18 : decode cX3_whyDark 18 = .ok (.getfield 37, 3) := by decide +kernel
theorem dX3_whyDark_21 : decode cX3_whyDark 21 = .ok (.iload_n 1, 1) := by decide +kernel
theorem dX3_whyDark_22 : decode cX3_whyDark 22 = .ok (.iaload, 1) := by decide +kernel
theorem dX3_whyDark_23 : decode cX3_whyDark 23 = .ok (.istore_n 3, 1) := by decide +kernel
theorem dX3_whyDark_24 : decode cX3_whyDark 24 = .ok (.aload_n 0, 1) := by decide +kernel
theorem dX3_whyDark_25 : decode cX3_whyDark 25 = .ok (.getfield 42, 3) := by decide +kernel
theorem dX3_whyDark_28 : decode cX3_whyDark 28 = .ok (.iload_n 1, 1) := by decide +kernel
theorem dX3_whyDark_29 : decode cX3_whyDark 29 = .ok (.iaload, 1) := by decide +kernel
theorem dX3_whyDark_30 : decode cX3_whyDark 30 = .ok (.istore 4, 2) := by decide +kernel
theorem dX3_whyDark_32 : decode cX3_whyDark 32 = .ok (.aload_n 0, 1) := by decide +kernel
theorem dX3_whyDark_33 : decode cX3_whyDark 33 = .ok (.iload_n 3, 1) := by decide +kernel
theorem dX3_whyDark_34 : decode cX3_whyDark 34 = .ok (.invokevirtual 67, 3) := by decide +kernel
theorem dX3_whyDark_37 : decode cX3_whyDark 37 = .ok (.ifCond .eq 5, 3) := by decide +kernel
theorem dX3_whyDark_40 : decode cX3_whyDark 40 = .ok (.iconst 1, 1) := by decide +kernel
theorem dX3_whyDark_41 : decode cX3_whyDark 41 = .ok (.ireturn, 1) := by decide +kernel
theorem dX3_whyDark_42 : decode cX3_whyDark 42 = .ok (.iload 4, 2) := by decide +kernel
theorem dX3_whyDark_44 : decode cX3_whyDark 44 = .ok (.aload_n 0, 1) := by decide +kernel
theorem dX3_whyDark_45 : decode cX3_whyDark 45 = .ok (.getfield 15, 3) := by decide +kernel
theorem dX3_whyDark_48 : decode cX3_whyDark 48 = .ok (.if_icmp .le 5, 3) := by decide +kernel
theorem dX3_whyDark_51 : decode cX3_whyDark 51 = .ok (.iconst 2, 1) := by decide +kernel
theorem dX3_whyDark_52 : decode cX3_whyDark 52 = .ok (.ireturn, 1) := by decide +kernel
theorem dX3_whyDark_53 : decode cX3_whyDark 53 = .ok (.iload 4, 2) := by decide +kernel
theorem dX3_whyDark_55 : decode cX3_whyDark 55 = .ok (.aload_n 0, 1) := by decide +kernel
theorem dX3_whyDark_56 : decode cX3_whyDark 56 = .ok (.iconst 0, 1) := by decide +kernel
theorem dX3_whyDark_57 : decode cX3_whyDark 57 = .ok (.invokevirtual 64, 3) := by decide +kernel
theorem dX3_whyDark_60 : decode cX3_whyDark 60 = .ok (.if_icmp .le 5, 3) := by decide +kernel
theorem dX3_whyDark_63 : decode cX3_whyDark 63 = .ok (.iconst 3, 1) := by decide +kernel
theorem dX3_whyDark_64 : decode cX3_whyDark 64 = .ok (.ireturn, 1) := by decide +kernel
theorem dX3_whyDark_65 : decode cX3_whyDark 65 = .ok (.iload_n 3, 1) := by decide +kernel
theorem dX3_whyDark_66 : decode cX3_whyDark 66 = .ok (.aload_n 0, 1) := by decide +kernel
theorem dX3_whyDark_67 : decode cX3_whyDark 67 = .ok (.iload_n 2, 1) := by decide +kernel
theorem dX3_whyDark_68 : decode cX3_whyDark 68 = .ok (.invokevirtual 47, 3) := by decide +kernel
theorem dX3_whyDark_71 : decode cX3_whyDark 71 = .ok (.if_icmp .ne 7, 3) := by decide +kernel
theorem dX3_whyDark_74 : decode cX3_whyDark 74 = .ok (.iconst 0, 1) := by decide +kernel
theorem dX3_whyDark_75 : decode cX3_whyDark 75 = .ok (.goto 4, 3) := by decide +kernel
theorem dX3_whyDark_78 : decode cX3_whyDark 78 = .ok (.iconst 4, 1) := by decide +kernel
theorem dX3_whyDark_79 : decode cX3_whyDark 79 = .ok (.ireturn, 1) := by decide +kernel
theorem dX4_init_0 : decode cX4_init 0 = .ok (.aload_n 0, 1) := by decide +kernel
theorem dX4_init_1 : decode cX4_init 1 = .ok (.invokespecial 1, 3) := by decide +kernel
theorem dX4_init_4 : decode cX4_init 4 = .ok (.aload_n 0, 1) := by decide +kernel
theorem dX4_init_5 : decode cX4_init 5 = .ok (.bipush 32, 2) := by decide +kernel
theorem dX4_init_7 : decode cX4_init 7 = .ok (.putfield 7, 3) := by decide +kernel
theorem dX4_init_10 : decode cX4_init 10 = .ok (.aload_n 0, 1) := by decide +kernel
theorem dX4_init_11 : decode cX4_init 11 = .ok (.iconst 0, 1) := by decide +kernel
theorem dX4_init_12 : decode cX4_init 12 = .ok (.putfield 13, 3) := by decide +kernel
theorem dX4_init_15 : decode cX4_init 15 = .ok (.aload_n 0, 1) := by decide +kernel
theorem dX4_init_16 : decode cX4_init 16 = .ok (.iconst 0, 1) := by decide +kernel
theorem dX4_init_17 : decode cX4_init 17 = .ok (.putfield 17, 3) := by decide +kernel
theorem dX4_init_20 : decode cX4_init 20 = .ok (.aload_n 0, 1) := by decide +kernel
theorem dX4_init_21 : decode cX4_init 21 = .ok (.iconst 0, 1) := by decide +kernel
theorem dX4_init_22 : decode cX4_init 22 = .ok (.putfield 20, 3) := by decide +kernel
theorem dX4_init_25 : decode cX4_init 25 = .ok (.aload_n 0, 1) := by decide +kernel
theorem dX4_init_26 : decode cX4_init 26 = .ok (.iconst 0, 1) := by decide +kernel
theorem dX4_init_27 : decode cX4_init 27 = .ok (.putfield 23, 3) := by decide +kernel
theorem dX4_init_30 : decode cX4_init 30 = .ok (.return_, 1) := by decide +kernel
