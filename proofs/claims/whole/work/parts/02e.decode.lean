theorem dX1_init_0 : decode cX1_init 0 = .ok (.aload_n 0, 1) := by decide +kernel
theorem dX1_init_1 : decode cX1_init 1 = .ok (.invokespecial 3, 3) := by decide +kernel
theorem dX1_init_4 : decode cX1_init 4 = .ok (.aload_n 0, 1) := by decide +kernel
theorem dX1_init_5 : decode cX1_init 5 = .ok (.iconst 4, 1) := by decide +kernel
theorem dX1_init_6 : decode cX1_init 6 = .ok (.anewarray 9, 3) := by decide +kernel
theorem dX1_init_9 : decode cX1_init 9 = .ok (.putfield 11, 3) := by decide +kernel
theorem dX1_init_12 : decode cX1_init 12 = .ok (.aload_n 0, 1) := by decide +kernel
theorem dX1_init_13 : decode cX1_init 13 = .ok (.iconst 0, 1) := by decide +kernel
theorem dX1_init_14 : decode cX1_init 14 = .ok (.putfield 17, 3) := by decide +kernel
theorem dX1_init_17 : decode cX1_init 17 = .ok (.iconst 0, 1) := by decide +kernel
theorem dX1_init_18 : decode cX1_init 18 = .ok (.istore_n 2, 1) := by decide +kernel
theorem dX1_init_19 : decode cX1_init 19 = .ok (.iload_n 2, 1) := by decide +kernel
theorem dX1_init_20 : decode cX1_init 20 = .ok (.iconst 4, 1) := by decide +kernel
theorem dX1_init_21 : decode cX1_init 21 = .ok (.if_icmp .ge 23, 3) := by decide +kernel
theorem dX1_init_24 : decode cX1_init 24 = .ok (.aload_n 0, 1) := by decide +kernel
theorem dX1_init_25 : decode cX1_init 25 = .ok (.getfield 11, 3) := by decide +kernel
theorem dX1_init_28 : decode cX1_init 28 = .ok (.iload_n 2, 1) := by decide +kernel
theorem dX1_init_29 : decode cX1_init 29 = .ok (.new 9, 3) := by decide +kernel
theorem dX1_init_32 : decode cX1_init 32 = .ok (.dup, 1) := by decide +kernel
theorem dX1_init_33 : decode cX1_init 33 = .ok (.aload_n 1, 1) := by decide +kernel
theorem dX1_init_34 : decode cX1_init 34 = .ok (.invokespecial 21, 3) := by decide +kernel
theorem dX1_init_37 : decode cX1_init 37 = .ok (.aastore, 1) := by decide +kernel
theorem dX1_init_38 : decode cX1_init 38 = .ok (.iinc 2 1, 3) := by decide +kernel
theorem dX1_init_41 : decode cX1_init 41 = .ok (.goto (-22), 3) := by decide +kernel
theorem dX1_init_44 : decode cX1_init 44 = .ok (.return_, 1) := by decide +kernel
theorem dX1_record_0 : decode cX1_record 0 = .ok (.aload_n 0, 1) := by decide +kernel
theorem dX1_record_1 : decode cX1_record 1 = .ok (.getfield 17, 3) := by decide +kernel
theorem dX1_record_4 : decode cX1_record 4 = .ok (.iconst 4, 1) := by decide +kernel
theorem dX1_record_5 : decode cX1_record 5 = .ok (.if_icmp .lt 7, 3) := by decide +kernel
theorem dX1_record_8 : decode cX1_record 8 = .ok (.aload_n 0, 1) := by decide +kernel
theorem dX1_record_9 : decode cX1_record 9 = .ok (.invokevirtual 24, 3) := by decide +kernel
theorem dX1_record_12 : decode cX1_record 12 = .ok (.aload_n 0, 1) := by decide +kernel
theorem dX1_record_13 : decode cX1_record 13 = .ok (.getfield 11, 3) := by decide +kernel
theorem dX1_record_16 : decode cX1_record 16 = .ok (.aload_n 0, 1) := by decide +kernel
theorem dX1_record_17 : decode cX1_record 17 = .ok (.getfield 17, 3) := by decide +kernel
theorem dX1_record_20 : decode cX1_record 20 = .ok (.aaload, 1) := by decide +kernel
theorem dX1_record_21 : decode cX1_record 21 = .ok (.aload_n 1, 1) := by decide +kernel
theorem dX1_record_22 : decode cX1_record 22 = .ok (.invokevirtual 27, 3) := by decide +kernel
theorem dX1_record_25 : decode cX1_record 25 = .ok (.aload_n 0, 1) := by decide +kernel
theorem dX1_record_26 : decode cX1_record 26 = .ok (.dup, 1) := by decide +kernel
theorem dX1_record_27 : decode cX1_record 27 = .ok (.getfield 17, 3) := by decide +kernel
theorem dX1_record_30 : decode cX1_record 30 = .ok (.iconst 1, 1) := by decide +kernel
theorem dX1_record_31 : decode cX1_record 31 = .ok (.iadd, 1) := by decide +kernel
theorem dX1_record_32 : decode cX1_record 32 = .ok (.putfield 17, 3) := by decide +kernel
theorem dX1_record_35 : decode cX1_record 35 = .ok (.return_, 1) := by decide +kernel
theorem dX1_dropOldest_0 : decode cX1_dropOldest 0 = .ok (.aload_n 0, 1) := by decide +kernel
theorem dX1_dropOldest_1 : decode cX1_dropOldest 1 = .ok (.getfield 11, 3) := by decide +kernel
theorem dX1_dropOldest_4 : decode cX1_dropOldest 4 = .ok (.iconst 0, 1) := by decide +kernel
theorem dX1_dropOldest_5 : decode cX1_dropOldest 5 = .ok (.aaload, 1) := by decide +kernel
theorem dX1_dropOldest_6 : decode cX1_dropOldest 6 = .ok (.astore_n 1, 1) := by decide +kernel
theorem dX1_dropOldest_7 : decode cX1_dropOldest 7 = .ok (.iconst 1, 1) := by decide +kernel
theorem dX1_dropOldest_8 : decode cX1_dropOldest 8 = .ok (.istore_n 2, 1) := by decide +kernel
theorem dX1_dropOldest_9 : decode cX1_dropOldest 9 = .ok (.iload_n 2, 1) := by decide +kernel
theorem dX1_dropOldest_10 : decode cX1_dropOldest 10 = .ok (.iconst 4, 1) := by decide +kernel
theorem dX1_dropOldest_11 : decode cX1_dropOldest 11 = .ok (.if_icmp .ge 23, 3) := by decide +kernel
theorem dX1_dropOldest_14 : decode cX1_dropOldest 14 = .ok (.aload_n 0, 1) := by decide +kernel
theorem dX1_dropOldest_15 : decode cX1_dropOldest 15 = .ok (.getfield 11, 3) := by decide +kernel
theorem dX1_dropOldest_18 : decode cX1_dropOldest 18 = .ok (.iload_n 2, 1) := by decide +kernel
theorem dX1_dropOldest_19 : decode cX1_dropOldest 19 = .ok (.iconst 1, 1) := by decide +kernel
theorem dX1_dropOldest_20 : decode cX1_dropOldest 20 = .ok (.isub, 1) := by decide +kernel
theorem dX1_dropOldest_21 : decode cX1_dropOldest 21 = .ok (.aload_n 0, 1) := by decide +kernel
theorem dX1_dropOldest_22 : decode cX1_dropOldest 22 = .ok (.getfield 11, 3) := by decide +kernel
theorem dX1_dropOldest_25 : decode cX1_dropOldest 25 = .ok (.iload_n 2, 1) := by decide +kernel
theorem dX1_dropOldest_26 : decode cX1_dropOldest 26 = .ok (.aaload, 1) := by decide +kernel
theorem dX1_dropOldest_27 : decode cX1_dropOldest 27 = .ok (.aastore, 1) := by decide +kernel
theorem dX1_dropOldest_28 : decode cX1_dropOldest 28 = .ok (.iinc 2 1, 3) := by decide +kernel
theorem dX1_dropOldest_31 : decode cX1_dropOldest 31 = .ok (.goto (-22), 3) := by decide +kernel
theorem dX1_dropOldest_34 : decode cX1_dropOldest 34 = .ok (.aload_n 0, 1) := by decide +kernel
theorem dX1_dropOldest_35 : decode cX1_dropOldest 35 = .ok (.getfield 11, 3) := by decide +kernel
theorem dX1_dropOldest_38 : decode cX1_dropOldest 38 = .ok (.iconst 3, 1) := by decide +kernel
theorem dX1_dropOldest_39 : decode cX1_dropOldest 39 = .ok (.aload_n 1, 1) := by decide +kernel
theorem dX1_dropOldest_40 : decode cX1_dropOldest 40 = .ok (.aastore, 1) := by decide +kernel
theorem dX1_dropOldest_41 : decode cX1_dropOldest 41 = .ok (.aload_n 0, 1) := by decide +kernel
theorem dX1_dropOldest_42 : decode cX1_dropOldest 42 = .ok (.iconst 3, 1) := by decide +kernel
theorem dX1_dropOldest_43 : decode cX1_dropOldest 43 = .ok (.putfield 17, 3) := by decide +kernel
theorem dX1_dropOldest_46 : decode cX1_dropOldest 46 = .ok (.return_, 1) := by decide +kernel
theorem dX1_takeBack_0 : decode cX1_takeBack 0 = .ok (.aload_n 0, 1) := by decide +kernel
theorem dX1_takeBack_1 : decode cX1_takeBack 1 = .ok (.getfield 17, 3) := by decide +kernel
theorem dX1_takeBack_4 : decode cX1_takeBack 4 = .ok (.iconst 1, 1) := by decide +kernel
theorem dX1_takeBack_5 : decode cX1_takeBack 5 = .ok (.if_icmp .lt 11, 3) := by decide +kernel
theorem dX1_takeBack_8 : decode cX1_takeBack 8 = .ok (.aload_n 0, 1) := by decide +kernel
theorem dX1_takeBack_9 : decode cX1_takeBack 9 = .ok (.getfield 17, 3) := by decide +kernel
theorem dX1_takeBack_12 : decode cX1_takeBack 12 = .ok (.iconst 4, 1) := by decide +kernel
theorem dX1_takeBack_13 : decode cX1_takeBack 13 = .ok (.if_icmp .le 6, 3) := by decide +kernel
theorem dX1_takeBack_16 : decode cX1_takeBack 16 = .ok (.bipush (-5), 2) := by decide +kernel
theorem dX1_takeBack_18 : decode cX1_takeBack 18 = .ok (.ireturn, 1) := by decide +kernel
theorem dX1_takeBack_19 : decode cX1_takeBack 19 = .ok (.aload_n 0, 1) := by decide +kernel
theorem dX1_takeBack_20 : decode cX1_takeBack 20 = .ok (.dup, 1) := by decide +kernel
theorem dX1_takeBack_21 : decode cX1_takeBack 21 = .ok (.getfield 17, 3) := by decide +kernel
theorem dX1_takeBack_24 : decode cX1_takeBack 24 = .ok (.iconst 1, 1) := by decide +kernel
theorem dX1_takeBack_25 : decode cX1_takeBack 25 = .ok (.isub, 1) := by decide +kernel
theorem dX1_takeBack_26 : decode cX1_takeBack 26 = .ok (.putfield 17, 3) := by decide +kernel
theorem dX1_takeBack_29 : decode cX1_takeBack 29 = .ok (.aload_n 1, 1) := by decide +kernel
theorem dX1_takeBack_30 : decode cX1_takeBack 30 = .ok (.aload_n 0, 1) := by decide +kernel
theorem dX1_takeBack_31 : decode cX1_takeBack 31 = .ok (.getfield 11, 3) := by decide +kernel
theorem dX1_takeBack_34 : decode cX1_takeBack 34 = .ok (.aload_n 0, 1) := by decide +kernel
theorem dX1_takeBack_35 : decode cX1_takeBack 35 = .ok (.getfield 17, 3) := by decide +kernel
theorem dX1_takeBack_38 : decode cX1_takeBack 38 = .ok (.aaload, 1) := by decide +kernel
theorem dX1_takeBack_39 : decode cX1_takeBack 39 = .ok (.invokevirtual 27, 3) := by decide +kernel
theorem dX1_takeBack_42 : decode cX1_takeBack 42 = .ok (.aload_n 0, 1) := by decide +kernel
theorem dX1_takeBack_43 : decode cX1_takeBack 43 = .ok (.getfield 17, 3) := by decide +kernel
theorem dX1_takeBack_46 : decode cX1_takeBack 46 = .ok (.ireturn, 1) := by decide +kernel
theorem dX2_init_0 : decode cX2_init 0 = .ok (.aload_n 0, 1) := by decide +kernel
theorem dX2_init_1 : decode cX2_init 1 = .ok (.invokespecial 3, 3) := by decide +kernel
theorem dX2_init_4 : decode cX2_init 4 = .ok (.aload_n 0, 1) := by decide +kernel
theorem dX2_init_5 : decode cX2_init 5 = .ok (.iconst 0, 1) := by decide +kernel
theorem dX2_init_6 : decode cX2_init 6 = .ok (.putfield 9, 3) := by decide +kernel
theorem dX2_init_9 : decode cX2_init 9 = .ok (.aload_n 0, 1) := by decide +kernel
theorem dX2_init_10 : decode cX2_init 10 = .ok (.iconst 0, 1) := by decide +kernel
theorem dX2_init_11 : decode cX2_init 11 = .ok (.putfield 15, 3) := by decide +kernel
theorem dX2_init_14 : decode cX2_init 14 = .ok (.aload_n 0, 1) := by decide +kernel
theorem dX2_init_15 : decode cX2_init 15 = .ok (.iconst 3, 1) := by decide +kernel
theorem dX2_init_16 : decode cX2_init 16 = .ok (.putfield 18, 3) := by decide +kernel
theorem dX2_init_19 : decode cX2_init 19 = .ok (.aload_n 0, 1) := by decide +kernel
theorem dX2_init_20 : decode cX2_init 20 = .ok (.iconst 0, 1) := by decide +kernel
theorem dX2_init_21 : decode cX2_init 21 = .ok (.putfield 21, 3) := by decide +kernel
theorem dX2_init_24 : decode cX2_init 24 = .ok (.aload_n 0, 1) := by decide +kernel
theorem dX2_init_25 : decode cX2_init 25 = .ok (.iconst 0, 1) := by decide +kernel
theorem dX2_init_26 : decode cX2_init 26 = .ok (.putfield 24, 3) := by decide +kernel
theorem dX2_init_29 : decode cX2_init 29 = .ok (.return_, 1) := by decide +kernel
theorem dX2_copyFrom_0 : decode cX2_copyFrom 0 = .ok (.aload_n 0, 1) := by decide +kernel
theorem dX2_copyFrom_1 : decode cX2_copyFrom 1 = .ok (.aload_n 1, 1) := by decide +kernel
theorem dX2_copyFrom_2 : decode cX2_copyFrom 2 = .ok (.getfield 9, 3) := by decide +kernel
theorem dX2_copyFrom_5 : decode cX2_copyFrom 5 = .ok (.putfield 9, 3) := by decide +kernel
theorem dX2_copyFrom_8 : decode cX2_copyFrom 8 = .ok (.aload_n 0, 1) := by decide +kernel
theorem dX2_copyFrom_9 : decode cX2_copyFrom 9 = .ok (.aload_n 1, 1) := by decide +kernel
theorem dX2_copyFrom_10 : decode cX2_copyFrom 10 = .ok (.getfield 15, 3) := by decide +kernel
theorem dX2_copyFrom_13 : decode cX2_copyFrom 13 = .ok (.putfield 15, 3) := by decide +kernel
theorem dX2_copyFrom_16 : decode cX2_copyFrom 16 = .ok (.aload_n 0, 1) := by decide +kernel
theorem dX2_copyFrom_17 : decode cX2_copyFrom 17 = .ok (.aload_n 1, 1) := by decide +kernel
theorem dX2_copyFrom_18 : decode cX2_copyFrom 18 = .ok (.getfield 18, 3) := by decide +kernel
theorem dX2_copyFrom_21 : decode cX2_copyFrom 21 = .ok (.putfield 18, 3) := by decide +kernel
theorem dX2_copyFrom_24 : decode cX2_copyFrom 24 = .ok (.aload_n 0, 1) := by decide +kernel
theorem dX2_copyFrom_25 : decode cX2_copyFrom 25 = .ok (.aload_n 1, 1) := by decide +kernel
theorem dX2_copyFrom_26 : decode cX2_copyFrom 26 = .ok (.getfield 21, 3) := by decide +kernel
theorem dX2_copyFrom_29 : decode cX2_copyFrom 29 = .ok (.putfield 21, 3) := by decide +kernel
theorem dX2_copyFrom_32 : decode cX2_copyFrom 32 = .ok (.aload_n 0, 1) := by decide +kernel
theorem dX2_copyFrom_33 : decode cX2_copyFrom 33 = .ok (.aload_n 1, 1) := by decide +kernel
theorem dX2_copyFrom_34 : decode cX2_copyFrom 34 = .ok (.getfield 24, 3) := by decide +kernel
theorem dX2_copyFrom_37 : decode cX2_copyFrom 37 = .ok (.putfield 24, 3) := by decide +kernel
theorem dX2_copyFrom_40 : decode cX2_copyFrom 40 = .ok (.return_, 1) := by decide +kernel
theorem dX2_told_0 : decode cX2_told 0 = .ok (.iload_n 1, 1) := by decide +kernel
theorem dX2_told_1 : decode cX2_told 1 = .ok (.tableswitch 60 0 4 #[35, 40, 45, 50, 55], 35) := by decide +kernel
theorem dX2_told_36 : decode cX2_told 36 = .ok (.aload_n 0, 1) := by decide +kernel
theorem dX2_told_37 : decode cX2_told 37 = .ok (.getfield 9, 3) := by decide +kernel
theorem dX2_told_40 : decode cX2_told 40 = .ok (.ireturn, 1) := by decide +kernel
theorem dX2_told_41 : decode cX2_told 41 = .ok (.aload_n 0, 1) := by decide +kernel
theorem dX2_told_42 : decode cX2_told 42 = .ok (.getfield 15, 3) := by decide +kernel
theorem dX2_told_45 : decode cX2_told 45 = .ok (.ireturn, 1) := by decide +kernel
theorem dX2_told_46 : decode cX2_told 46 = .ok (.aload_n 0, 1) := by decide +kernel
theorem dX2_told_47 : decode cX2_told 47 = .ok (.getfield 18, 3) := by decide +kernel
theorem dX2_told_50 : decode cX2_told 50 = .ok (.ireturn, 1) := by decide +kernel
theorem dX2_told_51 : decode cX2_told 51 = .ok (.aload_n 0, 1) := by decide +kernel
theorem dX2_told_52 : decode cX2_told 52 = .ok (.getfield 21, 3) := by decide +kernel
theorem dX2_told_55 : decode cX2_told 55 = .ok (.ireturn, 1) := by decide +kernel
theorem dX2_told_56 : decode cX2_told 56 = .ok (.aload_n 0, 1) := by decide +kernel
theorem dX2_told_57 : decode cX2_told 57 = .ok (.getfield 24, 3) := by decide +kernel
theorem dX2_told_60 : decode cX2_told 60 = .ok (.ireturn, 1) := by decide +kernel
theorem dX2_told_61 : decode cX2_told 61 = .ok (.bipush (-2), 2) := by decide +kernel
theorem dX2_told_63 : decode cX2_told 63 = .ok (.ireturn, 1) := by decide +kernel
theorem dX2_oweWreck_0 : decode cX2_oweWreck 0 = .ok (.aload_n 0, 1) := by decide +kernel
theorem dX2_oweWreck_1 : decode cX2_oweWreck 1 = .ok (.dup, 1) := by decide +kernel
theorem dX2_oweWreck_2 : decode cX2_oweWreck 2 = .ok (.getfield 15, 3) := by decide +kernel
theorem dX2_oweWreck_5 : decode cX2_oweWreck 5 = .ok (.iload_n 1, 1) := by decide +kernel
theorem dX2_oweWreck_6 : decode cX2_oweWreck 6 = .ok (.iadd, 1) := by decide +kernel
theorem dX2_oweWreck_7 : decode cX2_oweWreck 7 = .ok (.putfield 15, 3) := by decide +kernel
theorem dX2_oweWreck_10 : decode cX2_oweWreck 10 = .ok (.aload_n 0, 1) := by decide +kernel
theorem dX2_oweWreck_11 : decode cX2_oweWreck 11 = .ok (.dup, 1) := by decide +kernel
theorem dX2_oweWreck_12 : decode cX2_oweWreck 12 = .ok (.getfield 21, 3) := by decide +kernel
theorem dX2_oweWreck_15 : decode cX2_oweWreck 15 = .ok (.iconst 1, 1) := by decide +kernel
theorem dX2_oweWreck_16 : decode cX2_oweWreck 16 = .ok (.iadd, 1) := by decide +kernel
theorem dX2_oweWreck_17 : decode cX2_oweWreck 17 = .ok (.putfield 21, 3) := by decide +kernel
theorem dX2_oweWreck_20 : decode cX2_oweWreck 20 = .ok (.return_, 1) := by decide +kernel
theorem dX2_earn_0 : decode cX2_earn 0 = .ok (.aload_n 0, 1) := by decide +kernel
theorem dX2_earn_1 : decode cX2_earn 1 = .ok (.dup, 1) := by decide +kernel
theorem dX2_earn_2 : decode cX2_earn 2 = .ok (.getfield 9, 3) := by decide +kernel
theorem dX2_earn_5 : decode cX2_earn 5 = .ok (.iload_n 1, 1) := by decide +kernel
theorem dX2_earn_6 : decode cX2_earn 6 = .ok (.iadd, 1) := by decide +kernel
theorem dX2_earn_7 : decode cX2_earn 7 = .ok (.putfield 9, 3) := by decide +kernel
theorem dX2_earn_10 : decode cX2_earn 10 = .ok (.aload_n 0, 1) := by decide +kernel
theorem dX2_earn_11 : decode cX2_earn 11 = .ok (.getfield 9, 3) := by decide +kernel
theorem dX2_earn_14 : decode cX2_earn 14 = .ok (.aload_n 0, 1) := by decide +kernel
theorem dX2_earn_15 : decode cX2_earn 15 = .ok (.getfield 15, 3) := by decide +kernel
theorem dX2_earn_18 : decode cX2_earn 18 = .ok (.invokestatic 27, 3) := by decide +kernel
theorem dX2_earn_21 : decode cX2_earn 21 = .ok (.istore_n 2, 1) := by decide +kernel
theorem dX2_earn_22 : decode cX2_earn 22 = .ok (.aload_n 0, 1) := by decide +kernel
theorem dX2_earn_23 : decode cX2_earn 23 = .ok (.dup, 1) := by decide +kernel
theorem dX2_earn_24 : decode cX2_earn 24 = .ok (.getfield 9, 3) := by decide +kernel
theorem dX2_earn_27 : decode cX2_earn 27 = .ok (.iload_n 2, 1) := by decide +kernel
theorem dX2_earn_28 : decode cX2_earn 28 = .ok (.isub, 1) := by decide +kernel
theorem dX2_earn_29 : decode cX2_earn 29 = .ok (.putfield 9, 3) := by decide +kernel
theorem dX2_earn_32 : decode cX2_earn 32 = .ok (.aload_n 0, 1) := by decide +kernel
theorem dX2_earn_33 : decode cX2_earn 33 = .ok (.dup, 1) := by decide +kernel
theorem dX2_earn_34 : decode cX2_earn 34 = .ok (.getfield 15, 3) := by decide +kernel
theorem dX2_earn_37 : decode cX2_earn 37 = .ok (.iload_n 2, 1) := by decide +kernel
theorem dX2_earn_38 : decode cX2_earn 38 = .ok (.isub, 1) := by decide +kernel
theorem dX2_earn_39 : decode cX2_earn 39 = .ok (.putfield 15, 3) := by decide +kernel
theorem dX2_earn_42 : decode cX2_earn 42 = .ok (.aload_n 0, 1) := by decide +kernel
theorem dX2_earn_43 : decode cX2_earn 43 = .ok (.dup, 1) := by decide +kernel
theorem dX2_earn_44 : decode cX2_earn 44 = .ok (.getfield 24, 3) := by decide +kernel
theorem dX2_earn_47 : decode cX2_earn 47 = .ok (.iload_n 2, 1) := by decide +kernel
theorem dX2_earn_48 : decode cX2_earn 48 = .ok (.iadd, 1) := by decide +kernel
theorem dX2_earn_49 : decode cX2_earn 49 = .ok (.putfield 24, 3) := by decide +kernel
theorem dX2_earn_52 : decode cX2_earn 52 = .ok (.return_, 1) := by decide +kernel
theorem dX3_init_0 : decode cX3_init 0 = .ok (.aload_n 0, 1) := by decide +kernel
theorem dX3_init_1 : decode cX3_init 1 = .ok (.invokespecial 3, 3) := by decide +kernel
theorem dX3_init_4 : decode cX3_init 4 = .ok (.aload_n 0, 1) := by decide +kernel
theorem dX3_init_5 : decode cX3_init 5 = .ok (.iconst 1, 1) := by decide +kernel
theorem dX3_init_6 : decode cX3_init 6 = .ok (.putfield 9, 3) := by decide +kernel
theorem dX3_init_9 : decode cX3_init 9 = .ok (.aload_n 0, 1) := by decide +kernel
theorem dX3_init_10 : decode cX3_init 10 = .ok (.iconst 5, 1) := by decide +kernel
theorem dX3_init_11 : decode cX3_init 11 = .ok (.putfield 15, 3) := by decide +kernel
theorem dX3_init_14 : decode cX3_init 14 = .ok (.aload_n 0, 1) := by decide +kernel
theorem dX3_init_15 : decode cX3_init 15 = .ok (.iconst 0, 1) := by decide +kernel
theorem dX3_init_16 : decode cX3_init 16 = .ok (.putfield 18, 3) := by decide +kernel
theorem dX3_init_19 : decode cX3_init 19 = .ok (.aload_n 0, 1) := by decide +kernel
theorem dX3_init_20 : decode cX3_init 20 = .ok (.iconst 0, 1) := by decide +kernel
theorem dX3_init_21 : decode cX3_init 21 = .ok (.putfield 21, 3) := by decide +kernel
theorem dX3_init_24 : decode cX3_init 24 = .ok (.aload_n 0, 1) := by decide +kernel
theorem dX3_init_25 : decode cX3_init 25 = .ok (.getstatic 24, 3) := by decide +kernel
theorem dX3_init_28 : decode cX3_init 28 = .ok (.iload_n 1, 1) := by decide +kernel
theorem dX3_init_29 : decode cX3_init 29 = .ok (.iaload, 1) := by decide +kernel
theorem dX3_init_30 : decode cX3_init 30 = .ok (.putfield 28, 3) := by decide +kernel
theorem dX3_init_33 : decode cX3_init 33 = .ok (.aload_n 0, 1) := by decide +kernel
theorem dX3_init_34 : decode cX3_init 34 = .ok (.aload_n 2, 1) := by decide +kernel
theorem dX3_init_35 : decode cX3_init 35 = .ok (.getfield 31, 3) := by decide +kernel
theorem dX3_init_38 : decode cX3_init 38 = .ok (.iload_n 1, 1) := by decide +kernel
theorem dX3_init_39 : decode cX3_init 39 = .ok (.aaload, 1) := by decide +kernel
theorem dX3_init_40 : decode cX3_init 40 = .ok (.putfield 37, 3) := by decide +kernel
theorem dX3_init_43 : decode cX3_init 43 = .ok (.aload_n 0, 1) := by decide +kernel
theorem dX3_init_44 : decode cX3_init 44 = .ok (.aload_n 2, 1) := by decide +kernel
theorem dX3_init_45 : decode cX3_init 45 = .ok (.getfield 39, 3) := by decide +kernel
theorem dX3_init_48 : decode cX3_init 48 = .ok (.iload_n 1, 1) := by decide +kernel
theorem dX3_init_49 : decode cX3_init 49 = .ok (.aaload, 1) := by decide +kernel
theorem dX3_init_50 : decode cX3_init 50 = .ok (.putfield 42, 3) := by decide +kernel
theorem dX3_init_53 : decode cX3_init 53 = .ok (.aload_n 0, 1) := by decide +kernel
theorem dX3_init_54 : decode cX3_init 54 = .ok (.iload_n 1, 1) := by decide +kernel
theorem dX3_init_55 : decode cX3_init 55 = .ok (.putfield 44, 3) := by decide +kernel
theorem dX3_init_58 : decode cX3_init 58 = .ok (.return_, 1) := by decide +kernel
theorem dX3_copyFrom_0 : decode cX3_copyFrom 0 = .ok (.aload_n 0, 1) := by decide +kernel
theorem dX3_copyFrom_1 : decode cX3_copyFrom 1 = .ok (.aload_n 1, 1) := by decide +kernel
theorem dX3_copyFrom_2 : decode cX3_copyFrom 2 = .ok (.getfield 44, 3) := by decide +kernel
theorem dX3_copyFrom_5 : decode cX3_copyFrom 5 = .ok (.putfield 44, 3) := by decide +kernel
theorem dX3_copyFrom_8 : decode cX3_copyFrom 8 = .ok (.aload_n 0, 1) := by decide +kernel
theorem dX3_copyFrom_9 : decode cX3_copyFrom 9 = .ok (.aload_n 1, 1) := by decide +kernel
theorem dX3_copyFrom_10 : decode cX3_copyFrom 10 = .ok (.getfield 9, 3) := by decide +kernel
theorem dX3_copyFrom_13 : decode cX3_copyFrom 13 = .ok (.putfield 9, 3) := by decide +kernel
theorem dX3_copyFrom_16 : decode cX3_copyFrom 16 = .ok (.aload_n 0, 1) := by decide +kernel
theorem dX3_copyFrom_17 : decode cX3_copyFrom 17 = .ok (.aload_n 1, 1) := by decide +kernel
theorem dX3_copyFrom_18 : decode cX3_copyFrom 18 = .ok (.getfield 15, 3) := by decide +kernel
theorem dX3_copyFrom_21 : decode cX3_copyFrom 21 = .ok (.putfield 15, 3) := by decide +kernel
theorem dX3_copyFrom_24 : decode cX3_copyFrom 24 = .ok (.aload_n 0, 1) := by decide +kernel
theorem dX3_copyFrom_25 : decode cX3_copyFrom 25 = .ok (.aload_n 1, 1) := by decide +kernel
theorem dX3_copyFrom_26 : decode cX3_copyFrom 26 = .ok (.getfield 18, 3) := by decide +kernel
theorem dX3_copyFrom_29 : decode cX3_copyFrom 29 = .ok (.putfield 18, 3) := by decide +kernel
theorem dX3_copyFrom_32 : decode cX3_copyFrom 32 = .ok (.aload_n 0, 1) := by decide +kernel
theorem dX3_copyFrom_33 : decode cX3_copyFrom 33 = .ok (.aload_n 1, 1) := by decide +kernel
theorem dX3_copyFrom_34 : decode cX3_copyFrom 34 = .ok (.getfield 21, 3) := by decide +kernel
theorem dX3_copyFrom_37 : decode cX3_copyFrom 37 = .ok (.putfield 21, 3) := by decide +kernel
theorem dX3_copyFrom_40 : decode cX3_copyFrom 40 = .ok (.return_, 1) := by decide +kernel
theorem dX3_told_0 : decode cX3_told 0 = .ok (.iload_n 1, 1) := by decide +kernel
theorem dX3_told_1 : decode cX3_told 1 = .ok (.tableswitch 80 0 6 #[43, 48, 53, 58, 63, 68, 74], 43) := by decide +kernel
theorem dX3_told_44 : decode cX3_told 44 = .ok (.aload_n 0, 1) := by decide +kernel
theorem dX3_told_45 : decode cX3_told 45 = .ok (.getfield 44, 3) := by decide +kernel
theorem dX3_told_48 : decode cX3_told 48 = .ok (.ireturn, 1) := by decide +kernel
theorem dX3_told_49 : decode cX3_told 49 = .ok (.aload_n 0, 1) := by decide +kernel
theorem dX3_told_50 : decode cX3_told 50 = .ok (.getfield 9, 3) := by decide +kernel
theorem dX3_told_53 : decode cX3_told 53 = .ok (.ireturn, 1) := by decide +kernel
theorem dX3_told_54 : decode cX3_told 54 = .ok (.aload_n 0, 1) := by decide +kernel
theorem dX3_told_55 : decode cX3_told 55 = .ok (.getfield 15, 3) := by decide +kernel
theorem dX3_told_58 : decode cX3_told 58 = .ok (.ireturn, 1) := by decide +kernel
theorem dX3_told_59 : decode cX3_told 59 = .ok (.aload_n 0, 1) := by decide +kernel
theorem dX3_told_60 : decode cX3_told 60 = .ok (.getfield 18, 3) := by decide +kernel
theorem dX3_told_63 : decode cX3_told 63 = .ok (.ireturn, 1) := by decide +kernel
theorem dX3_told_64 : decode cX3_told 64 = .ok (.aload_n 0, 1) := by decide +kernel
theorem dX3_told_65 : decode cX3_told 65 = .ok (.getfield 21, 3) := by decide +kernel
theorem dX3_told_68 : decode cX3_told 68 = .ok (.ireturn, 1) := by decide +kernel
theorem dX3_told_69 : decode cX3_told 69 = .ok (.aload_n 0, 1) := by decide +kernel
theorem dX3_told_70 : decode cX3_told 70 = .ok (.iload_n 2, 1) := by decide +kernel
theorem dX3_told_71 : decode cX3_told 71 = .ok (.invokevirtual 47, 3) := by decide +kernel
theorem dX3_told_74 : decode cX3_told 74 = .ok (.ireturn, 1) := by decide +kernel
theorem dX3_told_75 : decode cX3_told 75 = .ok (.aload_n 0, 1) := by decide +kernel
theorem dX3_told_76 : decode cX3_told 76 = .ok (.iload_n 2, 1) := by decide +kernel
theorem dX3_told_77 : decode cX3_told 77 = .ok (.invokevirtual 51, 3) := by decide +kernel
theorem dX3_told_80 : decode cX3_told 80 = .ok (.ireturn, 1) := by decide +kernel
theorem dX3_told_81 : decode cX3_told 81 = .ok (.bipush (-2), 2) := by decide +kernel
theorem dX3_told_83 : decode cX3_told 83 = .ok (.ireturn, 1) := by decide +kernel
theorem dX3_set_0 : decode cX3_set 0 = .ok (.iload_n 1, 1) := by decide +kernel
theorem dX3_set_1 : decode cX3_set 1 = .ok (.tableswitch 51 0 2 #[27, 35, 43], 27) := by decide +kernel
theorem dX3_set_28 : decode cX3_set 28 = .ok (.aload_n 0, 1) := by decide +kernel
theorem dX3_set_29 : decode cX3_set 29 = .ok (.iload_n 2, 1) := by decide +kernel
theorem dX3_set_30 : decode cX3_set 30 = .ok (.putfield 44, 3) := by decide +kernel
theorem dX3_set_33 : decode cX3_set 33 = .ok (.goto 24, 3) := by decide +kernel
theorem dX3_set_36 : decode cX3_set 36 = .ok (.aload_n 0, 1) := by decide +kernel
theorem dX3_set_37 : decode cX3_set 37 = .ok (.iload_n 2, 1) := by decide +kernel
theorem dX3_set_38 : decode cX3_set 38 = .ok (.putfield 9, 3) := by decide +kernel
theorem dX3_set_41 : decode cX3_set 41 = .ok (.goto 16, 3) := by decide +kernel
theorem dX3_set_44 : decode cX3_set 44 = .ok (.aload_n 0, 1) := by decide +kernel
theorem dX3_set_45 : decode cX3_set 45 = .ok (.iload_n 2, 1) := by decide +kernel
theorem dX3_set_46 : decode cX3_set 46 = .ok (.putfield 15, 3) := by decide +kernel
theorem dX3_set_49 : decode cX3_set 49 = .ok (.goto 8, 3) := by decide +kernel
theorem dX3_set_52 : decode cX3_set 52 = .ok (.aload_n 0, 1) := by decide +kernel
theorem dX3_set_53 : decode cX3_set 53 = .ok (.iload_n 2, 1) := by decide +kernel
theorem dX3_set_54 : decode cX3_set 54 = .ok (.putfield 18, 3) := by decide +kernel
theorem dX3_set_57 : decode cX3_set 57 = .ok (.return_, 1) := by decide +kernel
theorem dX3_turnDark_0 : decode cX3_turnDark 0 = .ok (.aload_n 0, 1) := by decide +kernel
theorem dX3_turnDark_1 : decode cX3_turnDark 1 = .ok (.dup, 1) := by decide +kernel
theorem dX3_turnDark_2 : decode cX3_turnDark 2 = .ok (.getfield 18, 3) := by decide +kernel
theorem dX3_turnDark_5 : decode cX3_turnDark 5 = .ok (.iconst 1, 1) := by decide +kernel
theorem dX3_turnDark_6 : decode cX3_turnDark 6 = .ok (.iload_n 1, 1) := by decide +kernel
theorem dX3_turnDark_7 : decode cX3_turnDark 7 = .ok (.ishl, 1) := by decide +kernel
theorem dX3_turnDark_8 : decode cX3_turnDark 8 = .ok (.ixor, 1) := by decide +kernel
theorem dX3_turnDark_9 : decode cX3_turnDark 9 = .ok (.putfield 18, 3) := by decide +kernel
theorem dX3_turnDark_12 : decode cX3_turnDark 12 = .ok (.return_, 1) := by decide +kernel
theorem dX3_layCard_0 : decode cX3_layCard 0 = .ok (.aload_n 0, 1) := by decide +kernel
theorem dX3_layCard_1 : decode cX3_layCard 1 = .ok (.aload_n 0, 1) := by decide +kernel
theorem dX3_layCard_2 : decode cX3_layCard 2 = .ok (.getfield 21, 3) := by decide +kernel
theorem dX3_layCard_5 : decode cX3_layCard 5 = .ok (.iconst 3, 1) := by decide +kernel
theorem dX3_layCard_6 : decode cX3_layCard 6 = .ok (.iadd, 1) := by decide +kernel
theorem dX3_layCard_7 : decode cX3_layCard 7 = .ok (.bipush 9, 2) := by decide +kernel
theorem dX3_layCard_9 : decode cX3_layCard 9 = .ok (.invokestatic 54, 3) := by decide +kernel
theorem dX3_layCard_12 : decode cX3_layCard 12 = .ok (.putfield 21, 3) := by decide +kernel
theorem dX3_layCard_15 : decode cX3_layCard 15 = .ok (.return_, 1) := by decide +kernel
theorem dX3_thinFog_0 : decode cX3_thinFog 0 = .ok (.aload_n 0, 1) := by decide +kernel
theorem dX3_thinFog_1 : decode cX3_thinFog 1 = .ok (.getfield 21, 3) := by decide +kernel
theorem dX3_thinFog_4 : decode cX3_thinFog 4 = .ok (.ifCond .le 13, 3) := by decide +kernel
theorem dX3_thinFog_7 : decode cX3_thinFog 7 = .ok (.aload_n 0, 1) := by decide +kernel
theorem dX3_thinFog_8 : decode cX3_thinFog 8 = .ok (.dup, 1) := by decide +kernel
theorem dX3_thinFog_9 : decode cX3_thinFog 9 = .ok (.getfield 21, 3) := by decide +kernel
theorem dX3_thinFog_12 : decode cX3_thinFog 12 = .ok (.iconst 1, 1) := by decide +kernel
theorem dX3_thinFog_13 : decode cX3_thinFog 13 = .ok (.isub, 1) := by decide +kernel
theorem dX3_thinFog_14 : decode cX3_thinFog 14 = .ok (.putfield 21, 3) := by decide +kernel
theorem dX3_thinFog_17 : decode cX3_thinFog 17 = .ok (.return_, 1) := by decide +kernel
theorem dX3_beamWind_0 : decode cX3_beamWind 0 = .ok (.aload_n 0, 1) := by decide +kernel
theorem dX3_beamWind_1 : decode cX3_beamWind 1 = .ok (.getfield 44, 3) := by decide +kernel
theorem dX3_beamWind_4 : decode cX3_beamWind 4 = .ok (.iload_n 1, 1) := by decide +kernel
theorem dX3_beamWind_5 : decode cX3_beamWind 5 = .ok (.aload_n 0, 1) := by decide +kernel
theorem dX3_beamWind_6 : decode cX3_beamWind 6 = .ok (.getfield 9, 3) := by decide +kernel
theorem dX3_beamWind_9 : decode cX3_beamWind 9 = .ok (.imul, 1) := by decide +kernel
theorem dX3_beamWind_10 : decode cX3_beamWind 10 = .ok (.iadd, 1) := by decide +kernel
theorem dX3_beamWind_11 : decode cX3_beamWind 11 = .ok (.bipush 8, 2) := by decide +kernel
theorem dX3_beamWind_13 : decode cX3_beamWind 13 = .ok (.irem, 1) := by decide +kernel
theorem dX3_beamWind_14 : decode cX3_beamWind 14 = .ok (.ireturn, 1) := by decide +kernel
theorem dX3_isDark_0 : decode cX3_isDark 0 = .ok (.aload_n 0, 1) := by decide +kernel
theorem dX3_isDark_1 : decode cX3_isDark 1 = .ok (.getfield 18, 3) := by decide +kernel
theorem dX3_isDark_4 : decode cX3_isDark 4 = .ok (.iload_n 1, 1) := by decide +kernel
theorem dX3_isDark_5 : decode cX3_isDark 5 = .ok (.ishr, 1) := by decide +kernel
theorem dX3_isDark_6 : decode cX3_isDark 6 = .ok (.iconst 1, 1) := by decide +kernel
theorem dX3_isDark_7 : decode cX3_isDark 7 = .ok (.iand, 1) := by decide +kernel
theorem dX3_isDark_8 : decode cX3_isDark 8 = .ok (.ifCond .eq 7, 3) := by decide +kernel
theorem dX3_isDark_11 : decode cX3_isDark 11 = .ok (.iconst 1, 1) := by decide +kernel
theorem dX3_isDark_12 : decode cX3_isDark 12 = .ok (.goto 4, 3) := by decide +kernel
theorem dX3_isDark_15 : decode cX3_isDark 15 = .ok (.iconst 0, 1) := by decide +kernel
theorem dX3_isDark_16 : decode cX3_isDark 16 = .ok (.ireturn, 1) := by decide +kernel
theorem dX3_reach_0 : decode cX3_reach 0 = .ok (.aload_n 0, 1) := by decide +kernel
theorem dX3_reach_1 : decode cX3_reach 1 = .ok (.getfield 21, 3) := by decide +kernel
theorem dX3_reach_4 : decode cX3_reach 4 = .ok (.iload_n 1, 1) := by decide +kernel
theorem dX3_reach_5 : decode cX3_reach 5 = .ok (.if_icmp .le 17, 3) := by decide +kernel
theorem dX3_reach_8 : decode cX3_reach 8 = .ok (.aload_n 0, 1) := by decide +kernel
theorem dX3_reach_9 : decode cX3_reach 9 = .ok (.getfield 15, 3) := by decide +kernel
theorem dX3_reach_12 : decode cX3_reach 12 = .ok (.aload_n 0, 1) := by decide +kernel
theorem dX3_reach_13 : decode cX3_reach 13 = .ok (.getfield 21, 3) := by decide +kernel
theorem dX3_reach_16 : decode cX3_reach 16 = .ok (.iload_n 1, 1) := by decide +kernel
theorem dX3_reach_17 : decode cX3_reach 17 = .ok (.isub, 1) := by decide +kernel
theorem dX3_reach_18 : decode cX3_reach 18 = .ok (.isub, 1) := by decide +kernel
theorem dX3_reach_19 : decode cX3_reach 19 = .ok (.goto 7, 3) := by decide +kernel
theorem dX3_reach_22 : decode cX3_reach 22 = .ok (.aload_n 0, 1) := by decide +kernel
theorem dX3_reach_23 : decode cX3_reach 23 = .ok (.getfield 15, 3) := by decide +kernel
theorem dX3_reach_26 : decode cX3_reach 26 = .ok (.ireturn, 1) := by decide +kernel
theorem dX3_lightsCell_0 : decode cX3_lightsCell 0 = .ok (.iload_n 1, 1) := by decide +kernel
theorem dX3_lightsCell_1 : decode cX3_lightsCell 1 = .ok (.aload_n 0, 1) := by decide +kernel
theorem dX3_lightsCell_2 : decode cX3_lightsCell 2 = .ok (.getfield 28, 3) := by decide +kernel
theorem dX3_lightsCell_5 : decode cX3_lightsCell 5 = .ok (.if_icmp .ne 5, 3) := by decide +kernel
theorem dX3_lightsCell_8 : decode cX3_lightsCell 8 = .ok (.iconst 1, 1) := by decide +kernel
theorem dX3_lightsCell_9 : decode cX3_lightsCell 9 = .ok (.ireturn, 1) := by decide +kernel
theorem dX3_lightsCell_10 : decode cX3_lightsCell 10 = .ok (.iload_n 1, 1) := by decide +kernel
theorem dX3_lightsCell_11 : decode cX3_lightsCell 11 = .ok (.invokestatic 60, 3) := by decide +kernel
theorem dX3_lightsCell_14 : decode cX3_lightsCell 14 = .ok (.ifCond .ne 5, 3) := by decide +kernel
theorem dX3_lightsCell_17 : decode cX3_lightsCell 17 = .ok (.iconst 0, 1) := by decide +kernel
theorem dX3_lightsCell_18 : decode cX3_lightsCell 18 = .ok (.ireturn, 1) := by decide +kernel
theorem dX3_lightsCell_19 : decode cX3_lightsCell 19 = .ok (.aload_n 0, 1) := by decide +kernel
theorem dX3_lightsCell_20 : decode cX3_lightsCell 20 = .ok (.getfield 37, 3) := by decide +kernel
theorem dX3_lightsCell_23 : decode cX3_lightsCell 23 = .ok (.iload_n 1, 1) := by decide +kernel
theorem dX3_lightsCell_24 : decode cX3_lightsCell 24 = .ok (.iaload, 1) := by decide +kernel
theorem dX3_lightsCell_25 : decode cX3_lightsCell 25 = .ok (.istore 4, 2) := by decide +kernel
theorem dX3_lightsCell_27 : decode cX3_lightsCell 27 = .ok (.iload 4, 2) := by decide +kernel
theorem dX3_lightsCell_29 : decode cX3_lightsCell 29 = .ok (.aload_n 0, 1) := by decide +kernel
theorem dX3_lightsCell_30 : decode cX3_lightsCell 30 = .ok (.iload_n 2, 1) := by decide +kernel
theorem dX3_lightsCell_31 : decode cX3_lightsCell 31 = .ok (.invokevirtual 47, 3) := by decide +kernel
theorem dX3_lightsCell_34 : decode cX3_lightsCell 34 = .ok (.if_icmp .ne 30, 3) := by decide +kernel
theorem dX3_lightsCell_37 : decode cX3_lightsCell 37 = .ok (.aload_n 0, 1) := by decide +kernel
theorem dX3_lightsCell_38 : decode cX3_lightsCell 38 = .ok (.getfield 42, 3) := by decide +kernel
theorem dX3_lightsCell_41 : decode cX3_lightsCell 41 = .ok (.iload_n 1, 1) := by decide +kernel
theorem dX3_lightsCell_42 : decode cX3_lightsCell 42 = .ok (.iaload, 1) := by decide +kernel
theorem dX3_lightsCell_43 : decode cX3_lightsCell 43 = .ok (.aload_n 0, 1) := by decide +kernel
theorem dX3_lightsCell_44 : decode cX3_lightsCell 44 = .ok (.iload_n 3, 1) := by decide +kernel
theorem dX3_lightsCell_45 : decode cX3_lightsCell 45 = .ok (.invokevirtual 64, 3) := by decide +kernel
theorem dX3_lightsCell_48 : decode cX3_lightsCell 48 = .ok (.if_icmp .gt 16, 3) := by decide +kernel
theorem dX3_lightsCell_51 : decode cX3_lightsCell 51 = .ok (.aload_n 0, 1) := by decide +kernel
theorem dX3_lightsCell_52 : decode cX3_lightsCell 52 = .ok (.iload 4, 2) := by decide +kernel
theorem dX3_lightsCell_54 : decode cX3_lightsCell 54 = .ok (.invokevirtual 67, 3) := by decide +kernel
theorem dX3_lightsCell_57 : decode cX3_lightsCell 57 = .ok (.ifCond .ne 7, 3) := by decide +kernel
theorem dX3_lightsCell_60 : decode cX3_lightsCell 60 = .ok (.iconst 1, 1) := by decide +kernel
theorem dX3_lightsCell_61 : decode cX3_lightsCell 61 = .ok (.goto 4, 3) := by decide +kernel
theorem dX3_lightsCell_64 : decode cX3_lightsCell 64 = .ok (.iconst 0, 1) := by decide +kernel
theorem dX3_lightsCell_65 : decode cX3_lightsCell 65 = .ok (.ireturn, 1) := by decide +kernel
theorem dX3_meetsOnWalk_0 : decode cX3_meetsOnWalk 0 = .ok (.iload_n 1, 1) := by decide +kernel
theorem dX3_meetsOnWalk_1 : decode cX3_meetsOnWalk 1 = .ok (.aload_n 0, 1) := by decide +kernel
theorem dX3_meetsOnWalk_2 : decode cX3_meetsOnWalk 2 = .ok (.getfield 28, 3) := by decide +kernel
theorem dX3_meetsOnWalk_5 : decode cX3_meetsOnWalk 5 = .ok (.if_icmp .ne 5, 3) := by decide +kernel
theorem dX3_meetsOnWalk_8 : decode cX3_meetsOnWalk 8 = .ok (.iconst 1, 1) := by decide +kernel
theorem dX3_meetsOnWalk_9 : decode cX3_meetsOnWalk 9 = .ok (.ireturn, 1) := by decide +kernel
theorem dX3_meetsOnWalk_10 : decode cX3_meetsOnWalk 10 = .ok (.aload_n 0, 1) := by decide +kernel
theorem dX3_meetsOnWalk_11 : decode cX3_meetsOnWalk 11 = .ok (.iload_n 2, 1) := by decide +kernel
theorem dX3_meetsOnWalk_12 : decode cX3_meetsOnWalk 12 = .ok (.invokevirtual 47, 3) := by decide +kernel
theorem dX3_meetsOnWalk_15 : decode cX3_meetsOnWalk 15 = .ok (.istore_n 3, 1) := by decide +kernel
theorem dX3_meetsOnWalk_16 : decode cX3_meetsOnWalk 16 = .ok (.aload_n 0, 1) := by decide +kernel
theorem dX3_meetsOnWalk_17 : decode cX3_meetsOnWalk 17 = .ok (.iload_n 3, 1) := by decide +kernel
theorem dX3_meetsOnWalk_18 : decode cX3_meetsOnWalk 18 = .ok (.invokevirtual 67, 3) := by decide +kernel
theorem dX3_meetsOnWalk_21 : decode cX3_meetsOnWalk 21 = .ok (.ifCond .eq 5, 3) := by decide +kernel
theorem dX3_meetsOnWalk_24 : decode cX3_meetsOnWalk 24 = .ok (.iconst 0, 1) := by decide +kernel
theorem dX3_meetsOnWalk_25 : decode cX3_meetsOnWalk 25 = .ok (.ireturn, 1) := by decide +kernel
theorem dX3_meetsOnWalk_26 : decode cX3_meetsOnWalk 26 = .ok (.aload_n 0, 1) := by decide +kernel
theorem dX3_meetsOnWalk_27 : decode cX3_meetsOnWalk 27 = .ok (.iconst 0, 1) := by decide +kernel
theorem dX3_meetsOnWalk_28 : decode cX3_meetsOnWalk 28 = .ok (.invokevirtual 64, 3) := by decide +kernel
theorem dX3_meetsOnWalk_31 : decode cX3_meetsOnWalk 31 = .ok (.istore 4, 2) := by decide +kernel
theorem dX3_meetsOnWalk_33 : decode cX3_meetsOnWalk 33 = .ok (.iconst 1, 1) := by decide +kernel
theorem dX3_meetsOnWalk_34 : decode cX3_meetsOnWalk 34 = .ok (.istore 5, 2) := by decide +kernel
theorem dX3_meetsOnWalk_36 : decode cX3_meetsOnWalk 36 = .ok (.iload 5, 2) := by decide +kernel
theorem dX3_meetsOnWalk_38 : decode cX3_meetsOnWalk 38 = .ok (.iload 4, 2) := by decide +kernel
theorem dX3_meetsOnWalk_40 : decode cX3_meetsOnWalk 40 = .ok (.if_icmp .gt 73, 3) := by decide +kernel
theorem dX3_meetsOnWalk_43 : decode cX3_meetsOnWalk 43 = .ok (.iload_n 3, 1) := by decide +kernel
theorem dX3_meetsOnWalk_44 : decode cX3_meetsOnWalk 44 = .ok (.iload 5, 2) := by decide +kernel
theorem dX3_meetsOnWalk_46 : decode cX3_meetsOnWalk 46 = .ok (.imul, 1) := by decide +kernel
theorem dX3_meetsOnWalk_47 : decode cX3_meetsOnWalk 47 = .ok (.istore 6, 2) := by decide +kernel
theorem dX3_meetsOnWalk_49 : decode cX3_meetsOnWalk 49 = .ok (.iload_n 3, 1) := by decide +kernel
theorem dX3_meetsOnWalk_50 : decode cX3_meetsOnWalk 50 = .ok (.iconst 2, 1) := by decide +kernel
theorem dX3_meetsOnWalk_51 : decode cX3_meetsOnWalk 51 = .ok (.irem, 1) := by decide +kernel
theorem dX3_meetsOnWalk_52 : decode cX3_meetsOnWalk 52 = .ok (.ifCond .ne 10, 3) := by decide +kernel
theorem dX3_meetsOnWalk_55 : decode cX3_meetsOnWalk 55 = .ok (.iload 5, 2) := by decide +kernel
theorem dX3_meetsOnWalk_57 : decode cX3_meetsOnWalk 57 = .ok (.iconst 2, 1) := by decide +kernel
theorem dX3_meetsOnWalk_58 : decode cX3_meetsOnWalk 58 = .ok (.idiv, 1) := by decide +kernel
theorem dX3_meetsOnWalk_59 : decode cX3_meetsOnWalk 59 = .ok (.goto 9, 3) := by decide +kernel
theorem dX3_meetsOnWalk_62 : decode cX3_meetsOnWalk 62 = .ok (.iload 5, 2) := by decide +kernel
theorem dX3_meetsOnWalk_64 : decode cX3_meetsOnWalk 64 = .ok (.iconst 1, 1) := by decide +kernel
theorem dX3_meetsOnWalk_65 : decode cX3_meetsOnWalk 65 = .ok (.isub, 1) := by decide +kernel
theorem dX3_meetsOnWalk_66 : decode cX3_meetsOnWalk 66 = .ok (.iconst 2, 1) := by decide +kernel
theorem dX3_meetsOnWalk_67 : decode cX3_meetsOnWalk 67 = .ok (.idiv, 1) := by decide +kernel
theorem dX3_meetsOnWalk_68 : decode cX3_meetsOnWalk 68 = .ok (.istore 7, 2) := by decide +kernel
theorem dX3_meetsOnWalk_70 : decode cX3_meetsOnWalk 70 = .ok (.iload 6, 2) := by decide +kernel
theorem dX3_meetsOnWalk_72 : decode cX3_meetsOnWalk 72 = .ok (.iload 7, 2) := by decide +kernel
theorem dX3_meetsOnWalk_74 : decode cX3_meetsOnWalk 74 = .ok (.isub, 1) := by decide +kernel
theorem dX3_meetsOnWalk_75 : decode cX3_meetsOnWalk 75 = .ok (.istore 8, 2) := by decide +kernel
theorem dX3_meetsOnWalk_77 : decode cX3_meetsOnWalk 77 = .ok (.iload 8, 2) := by decide +kernel
theorem dX3_meetsOnWalk_79 : decode cX3_meetsOnWalk 79 = .ok (.iload 6, 2) := by decide +kernel
theorem dX3_meetsOnWalk_81 : decode cX3_meetsOnWalk 81 = .ok (.iload 7, 2) := by decide +kernel
theorem dX3_meetsOnWalk_83 : decode cX3_meetsOnWalk 83 = .ok (.iadd, 1) := by decide +kernel
theorem dX3_meetsOnWalk_84 : decode cX3_meetsOnWalk 84 = .ok (.if_icmp .gt 23, 3) := by decide +kernel
theorem dX3_meetsOnWalk_87 : decode cX3_meetsOnWalk 87 = .ok (.aload_n 0, 1) := by decide +kernel
theorem dX3_meetsOnWalk_88 : decode cX3_meetsOnWalk 88 = .ok (.iload 5, 2) := by decide +kernel
theorem dX3_meetsOnWalk_90 : decode cX3_meetsOnWalk 90 = .ok (.iload 8, 2) := by decide +kernel
theorem dX3_meetsOnWalk_92 : decode cX3_meetsOnWalk 92 = .ok (.invokevirtual 70, 3) := by decide +kernel
theorem dX3_meetsOnWalk_95 : decode cX3_meetsOnWalk 95 = .ok (.iload_n 1, 1) := by decide +kernel
theorem dX3_meetsOnWalk_96 : decode cX3_meetsOnWalk 96 = .ok (.if_icmp .ne 5, 3) := by decide +kernel
theorem dX3_meetsOnWalk_99 : decode cX3_meetsOnWalk 99 = .ok (.iconst 1, 1) := by decide +kernel
theorem dX3_meetsOnWalk_100 : decode cX3_meetsOnWalk 100 = .ok (.ireturn, 1) := by decide +kernel
theorem dX3_meetsOnWalk_101 : decode cX3_meetsOnWalk 101 = .ok (.iinc 8 1, 3) := by decide +kernel
theorem dX3_meetsOnWalk_104 : decode cX3_meetsOnWalk 104 = .ok (.goto (-27), 3) := by decide +kernel
theorem dX3_meetsOnWalk_107 : decode cX3_meetsOnWalk 107 = .ok (.iinc 5 1, 3) := by decide +kernel
theorem dX3_meetsOnWalk_110 : decode cX3_meetsOnWalk 110 = .ok (.goto (-74), 3) := by decide +kernel
theorem dX3_meetsOnWalk_113 : decode cX3_meetsOnWalk 113 = .ok (.iconst 0, 1) := by decide +kernel
theorem dX3_meetsOnWalk_114 : decode cX3_meetsOnWalk 114 = .ok (.ireturn, 1) := by decide +kernel
theorem dX3_cellOnRing_0 : decode cX3_cellOnRing 0 = .ok (.aload_n 0, 1) := by decide +kernel
theorem dX3_cellOnRing_1 : decode cX3_cellOnRing 1 = .ok (.getfield 28, 3) := by decide +kernel
theorem dX3_cellOnRing_4 : decode cX3_cellOnRing 4 = .ok (.bipush 10, 2) := by decide +kernel
theorem dX3_cellOnRing_6 : decode cX3_cellOnRing 6 = .ok (.irem, 1) := by decide +kernel
theorem dX3_cellOnRing_7 : decode cX3_cellOnRing 7 = .ok (.iload_n 1, 1) := by decide +kernel
theorem dX3_cellOnRing_8 : decode cX3_cellOnRing 8 = .ok (.iload_n 2, 1) := by decide +kernel
theorem dX3_cellOnRing_9 : decode cX3_cellOnRing 9 = .ok (.invokestatic 73, 3) := by decide +kernel
theorem dX3_cellOnRing_12 : decode cX3_cellOnRing 12 = .ok (.iadd, 1) := by decide +kernel
theorem dX3_cellOnRing_13 : decode cX3_cellOnRing 13 = .ok (.istore_n 3, 1) := by decide +kernel
theorem dX3_cellOnRing_14 : decode cX3_cellOnRing 14 = .ok (.aload_n 0, 1) := by decide +kernel
theorem dX3_cellOnRing_15 : decode cX3_cellOnRing 15 = .ok (.getfield 28, 3) := by decide +kernel
theorem dX3_cellOnRing_18 : decode cX3_cellOnRing 18 = .ok (.bipush 10, 2) := by decide +kernel
theorem dX3_cellOnRing_20 : decode cX3_cellOnRing 20 = .ok (.idiv, 1) := by decide +kernel
theorem dX3_cellOnRing_21 : decode cX3_cellOnRing 21 = .ok (.iload_n 1, 1) := by decide +kernel
theorem dX3_cellOnRing_22 : decode cX3_cellOnRing 22 = .ok (.iload_n 2, 1) := by decide +kernel
theorem dX3_cellOnRing_23 : decode cX3_cellOnRing 23 = .ok (.iconst 2, 1) := by decide +kernel
theorem dX3_cellOnRing_24 : decode cX3_cellOnRing 24 = .ok (.iload_n 1, 1) := by decide +kernel
theorem dX3_cellOnRing_25 : decode cX3_cellOnRing 25 = .ok (.imul, 1) := by decide +kernel
theorem dX3_cellOnRing_26 : decode cX3_cellOnRing 26 = .ok (.isub, 1) := by decide +kernel
theorem dX3_cellOnRing_27 : decode cX3_cellOnRing 27 = .ok (.invokestatic 73, 3) := by decide +kernel
theorem dX3_cellOnRing_30 : decode cX3_cellOnRing 30 = .ok (.iadd, 1) := by decide +kernel
theorem dX3_cellOnRing_31 : decode cX3_cellOnRing 31 = .ok (.istore 4, 2) := by decide +kernel
theorem dX3_cellOnRing_33 : decode cX3_cellOnRing 33 = .ok (.iload_n 3, 1) := by decide +kernel
theorem dX3_cellOnRing_34 : decode cX3_cellOnRing 34 = .ok (.ifCond .lt 21, 3) := by decide +kernel
theorem dX3_cellOnRing_37 : decode cX3_cellOnRing 37 = .ok (.iload_n 3, 1) := by decide +kernel
theorem dX3_cellOnRing_38 : decode cX3_cellOnRing 38 = .ok (.bipush 10, 2) := by decide +kernel
theorem dX3_cellOnRing_40 : decode cX3_cellOnRing 40 = .ok (.if_icmp .ge 15, 3) := by decide +kernel
theorem dX3_cellOnRing_43 : decode cX3_cellOnRing 43 = .ok (.iload 4, 2) := by decide +kernel
theorem dX3_cellOnRing_45 : decode cX3_cellOnRing 45 = .ok (.ifCond .lt 10, 3) := by decide +kernel
theorem dX3_cellOnRing_48 : decode cX3_cellOnRing 48 = .ok (.iload 4, 2) := by decide +kernel
theorem dX3_cellOnRing_50 : decode cX3_cellOnRing 50 = .ok (.bipush 10, 2) := by decide +kernel
theorem dX3_cellOnRing_52 : decode cX3_cellOnRing 52 = .ok (.if_icmp .lt 6, 3) := by decide +kernel
theorem dX3_cellOnRing_55 : decode cX3_cellOnRing 55 = .ok (.bipush (-5), 2) := by decide +kernel
theorem dX3_cellOnRing_57 : decode cX3_cellOnRing 57 = .ok (.ireturn, 1) := by decide +kernel
theorem dX3_cellOnRing_58 : decode cX3_cellOnRing 58 = .ok (.bipush 10, 2) := by decide +kernel
theorem dX3_cellOnRing_60 : decode cX3_cellOnRing 60 = .ok (.iload 4, 2) := by decide +kernel
theorem dX3_cellOnRing_62 : decode cX3_cellOnRing 62 = .ok (.imul, 1) := by decide +kernel
theorem dX3_cellOnRing_63 : decode cX3_cellOnRing 63 = .ok (.iload_n 3, 1) := by decide +kernel
theorem dX3_cellOnRing_64 : decode cX3_cellOnRing 64 = .ok (.iadd, 1) := by decide +kernel
theorem dX3_cellOnRing_65 : decode cX3_cellOnRing 65 = .ok (.ireturn, 1) := by decide +kernel
theorem dX3_eastOnRing_0 : decode cX3_eastOnRing 0 = .ok (.iload_n 0, 1) := by decide +kernel
theorem dX3_eastOnRing_1 : decode cX3_eastOnRing 1 = .ok (.iconst 1, 1) := by decide +kernel
theorem dX3_eastOnRing_2 : decode cX3_eastOnRing 2 = .ok (.if_icmp .ge 5, 3) := by decide +kernel
theorem dX3_eastOnRing_5 : decode cX3_eastOnRing 5 = .ok (.iconst 0, 1) := by decide +kernel
theorem dX3_eastOnRing_6 : decode cX3_eastOnRing 6 = .ok (.ireturn, 1) := by decide +kernel
theorem dX3_eastOnRing_7 : decode cX3_eastOnRing 7 = .ok (.iload_n 1, 1) := by decide +kernel
theorem dX3_eastOnRing_8 : decode cX3_eastOnRing 8 = .ok (.bipush 8, 2) := by decide +kernel
theorem dX3_eastOnRing_10 : decode cX3_eastOnRing 10 = .ok (.iload_n 0, 1) := by decide +kernel
theorem dX3_eastOnRing_11 : decode cX3_eastOnRing 11 = .ok (.imul, 1) := by decide +kernel
theorem dX3_eastOnRing_12 : decode cX3_eastOnRing 12 = .ok (.invokestatic 76, 3) := by decide +kernel
theorem dX3_eastOnRing_15 : decode cX3_eastOnRing 15 = .ok (.iconst 4, 1) := by decide +kernel
theorem dX3_eastOnRing_16 : decode cX3_eastOnRing 16 = .ok (.iload_n 0, 1) := by decide +kernel
theorem dX3_eastOnRing_17 : decode cX3_eastOnRing 17 = .ok (.imul, 1) := by decide +kernel
theorem dX3_eastOnRing_18 : decode cX3_eastOnRing 18 = .ok (.isub, 1) := by decide +kernel
theorem dX3_eastOnRing_19 : decode cX3_eastOnRing 19 = .ok (.invokestatic 79, 3) := by decide +kernel
theorem dX3_eastOnRing_22 : decode cX3_eastOnRing 22 = .ok (.istore_n 2, 1) := by decide +kernel
theorem dX3_eastOnRing_23 : decode cX3_eastOnRing 23 = .ok (.iload_n 0, 1) := by decide +kernel
theorem dX3_eastOnRing_24 : decode cX3_eastOnRing 24 = .ok (.ineg, 1) := by decide +kernel
theorem dX3_eastOnRing_25 : decode cX3_eastOnRing 25 = .ok (.iload_n 0, 1) := by decide +kernel
theorem dX3_eastOnRing_26 : decode cX3_eastOnRing 26 = .ok (.iload_n 2, 1) := by decide +kernel
theorem dX3_eastOnRing_27 : decode cX3_eastOnRing 27 = .ok (.iconst 2, 1) := by decide +kernel
theorem dX3_eastOnRing_28 : decode cX3_eastOnRing 28 = .ok (.iload_n 0, 1) := by decide +kernel
theorem dX3_eastOnRing_29 : decode cX3_eastOnRing 29 = .ok (.imul, 1) := by decide +kernel
theorem dX3_eastOnRing_30 : decode cX3_eastOnRing 30 = .ok (.isub, 1) := by decide +kernel
theorem dX3_eastOnRing_31 : decode cX3_eastOnRing 31 = .ok (.invokestatic 54, 3) := by decide +kernel
theorem dX3_eastOnRing_34 : decode cX3_eastOnRing 34 = .ok (.invokestatic 82, 3) := by decide +kernel
theorem dX3_eastOnRing_37 : decode cX3_eastOnRing 37 = .ok (.ireturn, 1) := by decide +kernel
theorem dX3_litCells_0 : decode cX3_litCells 0 = .ok (.iconst 0, 1) := by decide +kernel
theorem dX3_litCells_1 : decode cX3_litCells 1 = .ok (.istore_n 2, 1) := by decide +kernel
theorem dX3_litCells_2 : decode cX3_litCells 2 = .ok (.iconst 0, 1) := by decide +kernel
theorem dX3_litCells_3 : decode cX3_litCells 3 = .ok (.istore_n 3, 1) := by decide +kernel
theorem dX3_litCells_4 : decode cX3_litCells 4 = .ok (.iload_n 3, 1) := by decide +kernel
theorem dX3_litCells_5 : decode cX3_litCells 5 = .ok (.bipush 100, 2) := by decide +kernel
theorem dX3_litCells_7 : decode cX3_litCells 7 = .ok (.if_icmp .ge 22, 3) := by decide +kernel
theorem dX3_litCells_10 : decode cX3_litCells 10 = .ok (.aload_n 0, 1) := by decide +kernel
theorem dX3_litCells_11 : decode cX3_litCells 11 = .ok (.iload_n 3, 1) := by decide +kernel
theorem dX3_litCells_12 : decode cX3_litCells 12 = .ok (.iload_n 1, 1) := by decide +kernel
theorem dX3_litCells_13 : decode cX3_litCells 13 = .ok (.iconst 0, 1) := by decide +kernel
theorem dX3_litCells_14 : decode cX3_litCells 14 = .ok (.invokevirtual 85, 3) := by decide +kernel
theorem dX3_litCells_17 : decode cX3_litCells 17 = .ok (.ifCond .eq 6, 3) := by decide +kernel
theorem dX3_litCells_20 : decode cX3_litCells 20 = .ok (.iinc 2 1, 3) := by decide +kernel
theorem dX3_litCells_23 : decode cX3_litCells 23 = .ok (.iinc 3 1, 3) := by decide +kernel
theorem dX3_litCells_26 : decode cX3_litCells 26 = .ok (.goto (-22), 3) := by decide +kernel
theorem dX3_litCells_29 : decode cX3_litCells 29 = .ok (.iload_n 2, 1) := by decide +kernel
theorem dX3_litCells_30 : decode cX3_litCells 30 = .ok (.ireturn, 1) := by decide +kernel
theorem dX3_whyDark_0 : decode cX3_whyDark 0 = .ok (.iload_n 1, 1) := by decide +kernel
theorem dX3_whyDark_1 : decode cX3_whyDark 1 = .ok (.aload_n 0, 1) := by decide +kernel
theorem dX3_whyDark_2 : decode cX3_whyDark 2 = .ok (.getfield 28, 3) := by decide +kernel
theorem dX3_whyDark_5 : decode cX3_whyDark 5 = .ok (.if_icmp .eq 10, 3) := by decide +kernel
theorem dX3_whyDark_8 : decode cX3_whyDark 8 = .ok (.iload_n 1, 1) := by decide +kernel
theorem dX3_whyDark_9 : decode cX3_whyDark 9 = .ok (.invokestatic 60, 3) := by decide +kernel
theorem dX3_whyDark_12 : decode cX3_whyDark 12 = .ok (.ifCond .ne 5, 3) := by decide +kernel
theorem dX3_whyDark_15 : decode cX3_whyDark 15 = .ok (.iconst 0, 1) := by decide +kernel
theorem dX3_whyDark_16 : decode cX3_whyDark 16 = .ok (.ireturn, 1) := by decide +kernel
theorem dX3_whyDark_17 : decode cX3_whyDark 17 = .ok (.aload_n 0, 1) := by decide +kernel
theorem dX3_whyDark_18 : decode cX3_whyDark 18 = .ok (.getfield 37, 3) := by decide +kernel
theorem dX3_whyDark_21 : decode cX3_whyDark 21 = .ok (.iload_n 1, 1) := by decide +kernel
theorem dX3_whyDark_22 : decode cX3_whyDark 22 = .ok (.iaload, 1) := by decide +kernel
theorem dX3_whyDark_23 : decode cX3_whyDark 23 = .ok (.istore_n 3, 1) := by decide +kernel
theorem dX3_whyDark_24 : decode cX3_whyDark 24 = .ok (.aload_n 0, 1) := by decide +kernel
theorem dX3_whyDark_25 : decode cX3_whyDark 25 = .ok (.getfield 42, 3) := by decide +kernel
theorem dX3_whyDark_28 : decode cX3_whyDark 28 = .ok (.iload_n 1, 1) := by decide +kernel
theorem dX3_whyDark_29 : decode cX3_whyDark 29 = .ok (.iaload, 1) := by decide +kernel
theorem dX3_whyDark_30 : decode cX3_whyDark 30 = .ok (.istore 4, 2) := by decide +kernel
theorem dX3_whyDark_32 : decode cX3_whyDark 32 = .ok (.aload_n 0, 1) := by decide +kernel
theorem dX3_whyDark_33 : decode cX3_whyDark 33 = .ok (.iload_n 3, 1) := by decide +kernel
theorem dX3_whyDark_34 : decode cX3_whyDark 34 = .ok (.invokevirtual 67, 3) := by decide +kernel
theorem dX3_whyDark_37 : decode cX3_whyDark 37 = .ok (.ifCond .eq 5, 3) := by decide +kernel
theorem dX3_whyDark_40 : decode cX3_whyDark 40 = .ok (.iconst 1, 1) := by decide +kernel
theorem dX3_whyDark_41 : decode cX3_whyDark 41 = .ok (.ireturn, 1) := by decide +kernel
theorem dX3_whyDark_42 : decode cX3_whyDark 42 = .ok (.iload 4, 2) := by decide +kernel
theorem dX3_whyDark_44 : decode cX3_whyDark 44 = .ok (.aload_n 0, 1) := by decide +kernel
theorem dX3_whyDark_45 : decode cX3_whyDark 45 = .ok (.getfield 15, 3) := by decide +kernel
theorem dX3_whyDark_48 : decode cX3_whyDark 48 = .ok (.if_icmp .le 5, 3) := by decide +kernel
theorem dX3_whyDark_51 : decode cX3_whyDark 51 = .ok (.iconst 2, 1) := by decide +kernel
theorem dX3_whyDark_52 : decode cX3_whyDark 52 = .ok (.ireturn, 1) := by decide +kernel
theorem dX3_whyDark_53 : decode cX3_whyDark 53 = .ok (.iload 4, 2) := by decide +kernel
theorem dX3_whyDark_55 : decode cX3_whyDark 55 = .ok (.aload_n 0, 1) := by decide +kernel
theorem dX3_whyDark_56 : decode cX3_whyDark 56 = .ok (.iconst 0, 1) := by decide +kernel
theorem dX3_whyDark_57 : decode cX3_whyDark 57 = .ok (.invokevirtual 64, 3) := by decide +kernel
theorem dX3_whyDark_60 : decode cX3_whyDark 60 = .ok (.if_icmp .le 5, 3) := by decide +kernel
theorem dX3_whyDark_63 : decode cX3_whyDark 63 = .ok (.iconst 3, 1) := by decide +kernel
theorem dX3_whyDark_64 : decode cX3_whyDark 64 = .ok (.ireturn, 1) := by decide +kernel
theorem dX3_whyDark_65 : decode cX3_whyDark 65 = .ok (.iload_n 3, 1) := by decide +kernel
theorem dX3_whyDark_66 : decode cX3_whyDark 66 = .ok (.aload_n 0, 1) := by decide +kernel
theorem dX3_whyDark_67 : decode cX3_whyDark 67 = .ok (.iload_n 2, 1) := by decide +kernel
theorem dX3_whyDark_68 : decode cX3_whyDark 68 = .ok (.invokevirtual 47, 3) := by decide +kernel
theorem dX3_whyDark_71 : decode cX3_whyDark 71 = .ok (.if_icmp .ne 7, 3) := by decide +kernel
theorem dX3_whyDark_74 : decode cX3_whyDark 74 = .ok (.iconst 0, 1) := by decide +kernel
theorem dX3_whyDark_75 : decode cX3_whyDark 75 = .ok (.goto 4, 3) := by decide +kernel
theorem dX3_whyDark_78 : decode cX3_whyDark 78 = .ok (.iconst 4, 1) := by decide +kernel
theorem dX3_whyDark_79 : decode cX3_whyDark 79 = .ok (.ireturn, 1) := by decide +kernel
theorem dX4_init_0 : decode cX4_init 0 = .ok (.aload_n 0, 1) := by decide +kernel
theorem dX4_init_1 : decode cX4_init 1 = .ok (.invokespecial 1, 3) := by decide +kernel
theorem dX4_init_4 : decode cX4_init 4 = .ok (.aload_n 0, 1) := by decide +kernel
theorem dX4_init_5 : decode cX4_init 5 = .ok (.bipush 32, 2) := by decide +kernel
theorem dX4_init_7 : decode cX4_init 7 = .ok (.putfield 7, 3) := by decide +kernel
theorem dX4_init_10 : decode cX4_init 10 = .ok (.aload_n 0, 1) := by decide +kernel
theorem dX4_init_11 : decode cX4_init 11 = .ok (.iconst 0, 1) := by decide +kernel
theorem dX4_init_12 : decode cX4_init 12 = .ok (.putfield 13, 3) := by decide +kernel
theorem dX4_init_15 : decode cX4_init 15 = .ok (.aload_n 0, 1) := by decide +kernel
theorem dX4_init_16 : decode cX4_init 16 = .ok (.iconst 0, 1) := by decide +kernel
theorem dX4_init_17 : decode cX4_init 17 = .ok (.putfield 17, 3) := by decide +kernel
theorem dX4_init_20 : decode cX4_init 20 = .ok (.aload_n 0, 1) := by decide +kernel
theorem dX4_init_21 : decode cX4_init 21 = .ok (.iconst 0, 1) := by decide +kernel
theorem dX4_init_22 : decode cX4_init 22 = .ok (.putfield 20, 3) := by decide +kernel
theorem dX4_init_25 : decode cX4_init 25 = .ok (.aload_n 0, 1) := by decide +kernel
theorem dX4_init_26 : decode cX4_init 26 = .ok (.iconst 0, 1) := by decide +kernel
theorem dX4_init_27 : decode cX4_init 27 = .ok (.putfield 23, 3) := by decide +kernel
theorem dX4_init_30 : decode cX4_init 30 = .ok (.return_, 1) := by decide +kernel
theorem dL_law_0 : decode cL_law 0 = .ok (.new 7, 3) := by decide +kernel
theorem dL_law_3 : decode cL_law 3 = .ok (.dup, 1) := by decide +kernel
theorem dL_law_4 : decode cL_law 4 = .ok (.invokespecial 9, 3) := by decide +kernel
theorem dL_law_7 : decode cL_law 7 = .ok (.astore_n 1, 1) := by decide +kernel
theorem dL_law_8 : decode cL_law 8 = .ok (.new 10, 3) := by decide +kernel
theorem dL_law_11 : decode cL_law 11 = .ok (.dup, 1) := by decide +kernel
theorem dL_law_12 : decode cL_law 12 = .ok (.invokespecial 12, 3) := by decide +kernel
theorem dL_law_15 : decode cL_law 15 = .ok (.astore_n 2, 1) := by decide +kernel
theorem dL_law_16 : decode cL_law 16 = .ok (.iconst 0, 1) := by decide +kernel
theorem dL_law_17 : decode cL_law 17 = .ok (.istore_n 3, 1) := by decide +kernel
theorem dL_law_18 : decode cL_law 18 = .ok (.iload_n 3, 1) := by decide +kernel
theorem dL_law_19 : decode cL_law 19 = .ok (.aload_n 0, 1) := by decide +kernel
theorem dL_law_20 : decode cL_law 20 = .ok (.arraylength, 1) := by decide +kernel
theorem dL_law_21 : decode cL_law 21 = .ok (.iconst 5, 1) := by decide +kernel
theorem dL_law_22 : decode cL_law 22 = .ok (.isub, 1) := by decide +kernel
theorem dL_law_23 : decode cL_law 23 = .ok (.if_icmp .gt 781, 3) := by decide +kernel
theorem dL_law_26 : decode cL_law 26 = .ok (.aload_n 0, 1) := by decide +kernel
theorem dL_law_27 : decode cL_law 27 = .ok (.iload_n 3, 1) := by decide +kernel
theorem dL_law_28 : decode cL_law 28 = .ok (.iaload, 1) := by decide +kernel
theorem dL_law_29 : decode cL_law 29 = .ok (.bipush 31, 2) := by decide +kernel
theorem dL_law_31 : decode cL_law 31 = .ok (.iand, 1) := by decide +kernel
theorem dL_law_32 : decode cL_law 32 = .ok (.tableswitch 766 0 23 #[112, 135, 178, 221, 234, 267, 290, 313, 338, 351, 364, 377, 390, 403, 436, 469, 502, 535, 588, 621, 644, 697, 720, 743], 112) := by decide +kernel
theorem dL_law_144 : decode cL_law 144 = .ok (.aload_n 1, 1) := by decide +kernel
theorem dL_law_145 : decode cL_law 145 = .ok (.aload_n 0, 1) := by decide +kernel
theorem dL_law_146 : decode cL_law 146 = .ok (.iload_n 3, 1) := by decide +kernel
theorem dL_law_147 : decode cL_law 147 = .ok (.iconst 1, 1) := by decide +kernel
theorem dL_law_148 : decode cL_law 148 = .ok (.iadd, 1) := by decide +kernel
theorem dL_law_149 : decode cL_law 149 = .ok (.iaload, 1) := by decide +kernel
theorem dL_law_150 : decode cL_law 150 = .ok (.invokevirtual 13, 3) := by decide +kernel
theorem dL_law_153 : decode cL_law 153 = .ok (.aload_n 2, 1) := by decide +kernel
theorem dL_law_154 : decode cL_law 154 = .ok (.aload_n 0, 1) := by decide +kernel
theorem dL_law_155 : decode cL_law 155 = .ok (.iload_n 3, 1) := by decide +kernel
theorem dL_law_156 : decode cL_law 156 = .ok (.iconst 1, 1) := by decide +kernel
theorem dL_law_157 : decode cL_law 157 = .ok (.iadd, 1) := by decide +kernel
theorem dL_law_158 : decode cL_law 158 = .ok (.iaload, 1) := by decide +kernel
theorem dL_law_159 : decode cL_law 159 = .ok (.invokevirtual 17, 3) := by decide +kernel
theorem dL_law_162 : decode cL_law 162 = .ok (.if_icmp .eq 636, 3) := by decide +kernel
theorem dL_law_165 : decode cL_law 165 = .ok (.iconst 0, 1) := by decide +kernel
theorem dL_law_166 : decode cL_law 166 = .ok (.ireturn, 1) := by decide +kernel
theorem dL_law_167 : decode cL_law 167 = .ok (.aload_n 1, 1) := by decide +kernel
theorem dL_law_168 : decode cL_law 168 = .ok (.aload_n 0, 1) := by decide +kernel
theorem dL_law_169 : decode cL_law 169 = .ok (.iload_n 3, 1) := by decide +kernel
theorem dL_law_170 : decode cL_law 170 = .ok (.iconst 1, 1) := by decide +kernel
theorem dL_law_171 : decode cL_law 171 = .ok (.iadd, 1) := by decide +kernel
theorem dL_law_172 : decode cL_law 172 = .ok (.iaload, 1) := by decide +kernel
theorem dL_law_173 : decode cL_law 173 = .ok (.aload_n 0, 1) := by decide +kernel
theorem dL_law_174 : decode cL_law 174 = .ok (.iload_n 3, 1) := by decide +kernel
theorem dL_law_175 : decode cL_law 175 = .ok (.iconst 2, 1) := by decide +kernel
theorem dL_law_176 : decode cL_law 176 = .ok (.iadd, 1) := by decide +kernel
theorem dL_law_177 : decode cL_law 177 = .ok (.iaload, 1) := by decide +kernel
theorem dL_law_178 : decode cL_law 178 = .ok (.aload_n 0, 1) := by decide +kernel
theorem dL_law_179 : decode cL_law 179 = .ok (.iload_n 3, 1) := by decide +kernel
theorem dL_law_180 : decode cL_law 180 = .ok (.iconst 3, 1) := by decide +kernel
theorem dL_law_181 : decode cL_law 181 = .ok (.iadd, 1) := by decide +kernel
theorem dL_law_182 : decode cL_law 182 = .ok (.iaload, 1) := by decide +kernel
theorem dL_law_183 : decode cL_law 183 = .ok (.invokevirtual 18, 3) := by decide +kernel
theorem dL_law_186 : decode cL_law 186 = .ok (.aload_n 2, 1) := by decide +kernel
theorem dL_law_187 : decode cL_law 187 = .ok (.aload_n 0, 1) := by decide +kernel
theorem dL_law_188 : decode cL_law 188 = .ok (.iload_n 3, 1) := by decide +kernel
theorem dL_law_189 : decode cL_law 189 = .ok (.iconst 1, 1) := by decide +kernel
theorem dL_law_190 : decode cL_law 190 = .ok (.iadd, 1) := by decide +kernel
theorem dL_law_191 : decode cL_law 191 = .ok (.iaload, 1) := by decide +kernel
theorem dL_law_192 : decode cL_law 192 = .ok (.aload_n 0, 1) := by decide +kernel
theorem dL_law_193 : decode cL_law 193 = .ok (.iload_n 3, 1) := by decide +kernel
theorem dL_law_194 : decode cL_law 194 = .ok (.iconst 2, 1) := by decide +kernel
theorem dL_law_195 : decode cL_law 195 = .ok (.iadd, 1) := by decide +kernel
theorem dL_law_196 : decode cL_law 196 = .ok (.iaload, 1) := by decide +kernel
theorem dL_law_197 : decode cL_law 197 = .ok (.aload_n 0, 1) := by decide +kernel
theorem dL_law_198 : decode cL_law 198 = .ok (.iload_n 3, 1) := by decide +kernel
theorem dL_law_199 : decode cL_law 199 = .ok (.iconst 3, 1) := by decide +kernel
theorem dL_law_200 : decode cL_law 200 = .ok (.iadd, 1) := by decide +kernel
theorem dL_law_201 : decode cL_law 201 = .ok (.iaload, 1) := by decide +kernel
theorem dL_law_202 : decode cL_law 202 = .ok (.invokevirtual 22, 3) := by decide +kernel
theorem dL_law_205 : decode cL_law 205 = .ok (.if_icmp .eq 593, 3) := by decide +kernel
theorem dL_law_208 : decode cL_law 208 = .ok (.iconst 0, 1) := by decide +kernel
theorem dL_law_209 : decode cL_law 209 = .ok (.ireturn, 1) := by decide +kernel
theorem dL_law_210 : decode cL_law 210 = .ok (.aload_n 1, 1) := by decide +kernel
theorem dL_law_211 : decode cL_law 211 = .ok (.aload_n 0, 1) := by decide +kernel
theorem dL_law_212 : decode cL_law 212 = .ok (.iload_n 3, 1) := by decide +kernel
theorem dL_law_213 : decode cL_law 213 = .ok (.iconst 1, 1) := by decide +kernel
theorem dL_law_214 : decode cL_law 214 = .ok (.iadd, 1) := by decide +kernel
theorem dL_law_215 : decode cL_law 215 = .ok (.iaload, 1) := by decide +kernel
theorem dL_law_216 : decode cL_law 216 = .ok (.aload_n 0, 1) := by decide +kernel
theorem dL_law_217 : decode cL_law 217 = .ok (.iload_n 3, 1) := by decide +kernel
theorem dL_law_218 : decode cL_law 218 = .ok (.iconst 2, 1) := by decide +kernel
theorem dL_law_219 : decode cL_law 219 = .ok (.iadd, 1) := by decide +kernel
theorem dL_law_220 : decode cL_law 220 = .ok (.iaload, 1) := by decide +kernel
theorem dL_law_221 : decode cL_law 221 = .ok (.aload_n 0, 1) := by decide +kernel
theorem dL_law_222 : decode cL_law 222 = .ok (.iload_n 3, 1) := by decide +kernel
theorem dL_law_223 : decode cL_law 223 = .ok (.iconst 3, 1) := by decide +kernel
theorem dL_law_224 : decode cL_law 224 = .ok (.iadd, 1) := by decide +kernel
theorem dL_law_225 : decode cL_law 225 = .ok (.iaload, 1) := by decide +kernel
theorem dL_law_226 : decode cL_law 226 = .ok (.invokevirtual 23, 3) := by decide +kernel
theorem dL_law_229 : decode cL_law 229 = .ok (.aload_n 2, 1) := by decide +kernel
theorem dL_law_230 : decode cL_law 230 = .ok (.aload_n 0, 1) := by decide +kernel
theorem dL_law_231 : decode cL_law 231 = .ok (.iload_n 3, 1) := by decide +kernel
theorem dL_law_232 : decode cL_law 232 = .ok (.iconst 1, 1) := by decide +kernel
theorem dL_law_233 : decode cL_law 233 = .ok (.iadd, 1) := by decide +kernel
theorem dL_law_234 : decode cL_law 234 = .ok (.iaload, 1) := by decide +kernel
theorem dL_law_235 : decode cL_law 235 = .ok (.aload_n 0, 1) := by decide +kernel
theorem dL_law_236 : decode cL_law 236 = .ok (.iload_n 3, 1) := by decide +kernel
theorem dL_law_237 : decode cL_law 237 = .ok (.iconst 2, 1) := by decide +kernel
theorem dL_law_238 : decode cL_law 238 = .ok (.iadd, 1) := by decide +kernel
theorem dL_law_239 : decode cL_law 239 = .ok (.iaload, 1) := by decide +kernel
theorem dL_law_240 : decode cL_law 240 = .ok (.aload_n 0, 1) := by decide +kernel
theorem dL_law_241 : decode cL_law 241 = .ok (.iload_n 3, 1) := by decide +kernel
theorem dL_law_242 : decode cL_law 242 = .ok (.iconst 3, 1) := by decide +kernel
theorem dL_law_243 : decode cL_law 243 = .ok (.iadd, 1) := by decide +kernel
theorem dL_law_244 : decode cL_law 244 = .ok (.iaload, 1) := by decide +kernel
theorem dL_law_245 : decode cL_law 245 = .ok (.invokevirtual 26, 3) := by decide +kernel
theorem dL_law_248 : decode cL_law 248 = .ok (.if_icmp .eq 550, 3) := by decide +kernel
theorem dL_law_251 : decode cL_law 251 = .ok (.iconst 0, 1) := by decide +kernel
theorem dL_law_252 : decode cL_law 252 = .ok (.ireturn, 1) := by decide +kernel
theorem dL_law_253 : decode cL_law 253 = .ok (.aload_n 1, 1) := by decide +kernel
theorem dL_law_254 : decode cL_law 254 = .ok (.invokevirtual 27, 3) := by decide +kernel
theorem dL_law_257 : decode cL_law 257 = .ok (.aload_n 2, 1) := by decide +kernel
theorem dL_law_258 : decode cL_law 258 = .ok (.invokevirtual 31, 3) := by decide +kernel
theorem dL_law_261 : decode cL_law 261 = .ok (.if_icmp .eq 537, 3) := by decide +kernel
theorem dL_law_264 : decode cL_law 264 = .ok (.iconst 0, 1) := by decide +kernel
theorem dL_law_265 : decode cL_law 265 = .ok (.ireturn, 1) := by decide +kernel
theorem dL_law_266 : decode cL_law 266 = .ok (.aload_n 1, 1) := by decide +kernel
theorem dL_law_267 : decode cL_law 267 = .ok (.aload_n 0, 1) := by decide +kernel
theorem dL_law_268 : decode cL_law 268 = .ok (.iload_n 3, 1) := by decide +kernel
theorem dL_law_269 : decode cL_law 269 = .ok (.iconst 1, 1) := by decide +kernel
theorem dL_law_270 : decode cL_law 270 = .ok (.iadd, 1) := by decide +kernel
theorem dL_law_271 : decode cL_law 271 = .ok (.iaload, 1) := by decide +kernel
theorem dL_law_272 : decode cL_law 272 = .ok (.aload_n 0, 1) := by decide +kernel
theorem dL_law_273 : decode cL_law 273 = .ok (.iload_n 3, 1) := by decide +kernel
theorem dL_law_274 : decode cL_law 274 = .ok (.iconst 2, 1) := by decide +kernel
theorem dL_law_275 : decode cL_law 275 = .ok (.iadd, 1) := by decide +kernel
theorem dL_law_276 : decode cL_law 276 = .ok (.iaload, 1) := by decide +kernel
theorem dL_law_277 : decode cL_law 277 = .ok (.invokevirtual 32, 3) := by decide +kernel
theorem dL_law_280 : decode cL_law 280 = .ok (.aload_n 2, 1) := by decide +kernel
theorem dL_law_281 : decode cL_law 281 = .ok (.aload_n 0, 1) := by decide +kernel
theorem dL_law_282 : decode cL_law 282 = .ok (.iload_n 3, 1) := by decide +kernel
theorem dL_law_283 : decode cL_law 283 = .ok (.iconst 1, 1) := by decide +kernel
theorem dL_law_284 : decode cL_law 284 = .ok (.iadd, 1) := by decide +kernel
theorem dL_law_285 : decode cL_law 285 = .ok (.iaload, 1) := by decide +kernel
theorem dL_law_286 : decode cL_law 286 = .ok (.aload_n 0, 1) := by decide +kernel
theorem dL_law_287 : decode cL_law 287 = .ok (.iload_n 3, 1) := by decide +kernel
theorem dL_law_288 : decode cL_law 288 = .ok (.iconst 2, 1) := by decide +kernel
theorem dL_law_289 : decode cL_law 289 = .ok (.iadd, 1) := by decide +kernel
theorem dL_law_290 : decode cL_law 290 = .ok (.iaload, 1) := by decide +kernel
theorem dL_law_291 : decode cL_law 291 = .ok (.invokevirtual 36, 3) := by decide +kernel
theorem dL_law_294 : decode cL_law 294 = .ok (.if_icmp .eq 504, 3) := by decide +kernel
theorem dL_law_297 : decode cL_law 297 = .ok (.iconst 0, 1) := by decide +kernel
theorem dL_law_298 : decode cL_law 298 = .ok (.ireturn, 1) := by decide +kernel
theorem dL_law_299 : decode cL_law 299 = .ok (.aload_n 1, 1) := by decide +kernel
theorem dL_law_300 : decode cL_law 300 = .ok (.aload_n 0, 1) := by decide +kernel
theorem dL_law_301 : decode cL_law 301 = .ok (.iload_n 3, 1) := by decide +kernel
theorem dL_law_302 : decode cL_law 302 = .ok (.iconst 1, 1) := by decide +kernel
theorem dL_law_303 : decode cL_law 303 = .ok (.iadd, 1) := by decide +kernel
theorem dL_law_304 : decode cL_law 304 = .ok (.iaload, 1) := by decide +kernel
theorem dL_law_305 : decode cL_law 305 = .ok (.invokevirtual 37, 3) := by decide +kernel
theorem dL_law_308 : decode cL_law 308 = .ok (.aload_n 2, 1) := by decide +kernel
theorem dL_law_309 : decode cL_law 309 = .ok (.aload_n 0, 1) := by decide +kernel
theorem dL_law_310 : decode cL_law 310 = .ok (.iload_n 3, 1) := by decide +kernel
theorem dL_law_311 : decode cL_law 311 = .ok (.iconst 1, 1) := by decide +kernel
theorem dL_law_312 : decode cL_law 312 = .ok (.iadd, 1) := by decide +kernel
theorem dL_law_313 : decode cL_law 313 = .ok (.iaload, 1) := by decide +kernel
theorem dL_law_314 : decode cL_law 314 = .ok (.invokevirtual 40, 3) := by decide +kernel
theorem dL_law_317 : decode cL_law 317 = .ok (.if_icmp .eq 481, 3) := by decide +kernel
theorem dL_law_320 : decode cL_law 320 = .ok (.iconst 0, 1) := by decide +kernel
theorem dL_law_321 : decode cL_law 321 = .ok (.ireturn, 1) := by decide +kernel
theorem dL_law_322 : decode cL_law 322 = .ok (.aload_n 1, 1) := by decide +kernel
theorem dL_law_323 : decode cL_law 323 = .ok (.aload_n 0, 1) := by decide +kernel
theorem dL_law_324 : decode cL_law 324 = .ok (.iload_n 3, 1) := by decide +kernel
theorem dL_law_325 : decode cL_law 325 = .ok (.iconst 1, 1) := by decide +kernel
theorem dL_law_326 : decode cL_law 326 = .ok (.iadd, 1) := by decide +kernel
theorem dL_law_327 : decode cL_law 327 = .ok (.iaload, 1) := by decide +kernel
theorem dL_law_328 : decode cL_law 328 = .ok (.invokevirtual 41, 3) := by decide +kernel
theorem dL_law_331 : decode cL_law 331 = .ok (.aload_n 2, 1) := by decide +kernel
theorem dL_law_332 : decode cL_law 332 = .ok (.aload_n 0, 1) := by decide +kernel
theorem dL_law_333 : decode cL_law 333 = .ok (.iload_n 3, 1) := by decide +kernel
theorem dL_law_334 : decode cL_law 334 = .ok (.iconst 1, 1) := by decide +kernel
theorem dL_law_335 : decode cL_law 335 = .ok (.iadd, 1) := by decide +kernel
theorem dL_law_336 : decode cL_law 336 = .ok (.iaload, 1) := by decide +kernel
theorem dL_law_337 : decode cL_law 337 = .ok (.invokevirtual 44, 3) := by decide +kernel
theorem dL_law_340 : decode cL_law 340 = .ok (.if_icmp .eq 458, 3) := by decide +kernel
theorem dL_law_343 : decode cL_law 343 = .ok (.iconst 0, 1) := by decide +kernel
theorem dL_law_344 : decode cL_law 344 = .ok (.ireturn, 1) := by decide +kernel
theorem dL_law_345 : decode cL_law 345 = .ok (.aload_n 1, 1) := by decide +kernel
theorem dL_law_346 : decode cL_law 346 = .ok (.aload_n 0, 1) := by decide +kernel
theorem dL_law_347 : decode cL_law 347 = .ok (.iload_n 3, 1) := by decide +kernel
theorem dL_law_348 : decode cL_law 348 = .ok (.iconst 1, 1) := by decide +kernel
theorem dL_law_349 : decode cL_law 349 = .ok (.iadd, 1) := by decide +kernel
theorem dL_law_350 : decode cL_law 350 = .ok (.iaload, 1) := by decide +kernel
theorem dL_law_351 : decode cL_law 351 = .ok (.i2c, 1) := by decide +kernel
theorem dL_law_352 : decode cL_law 352 = .ok (.invokevirtual 45, 3) := by decide +kernel
theorem dL_law_355 : decode cL_law 355 = .ok (.aload_n 2, 1) := by decide +kernel
theorem dL_law_356 : decode cL_law 356 = .ok (.aload_n 0, 1) := by decide +kernel
theorem dL_law_357 : decode cL_law 357 = .ok (.iload_n 3, 1) := by decide +kernel
theorem dL_law_358 : decode cL_law 358 = .ok (.iconst 1, 1) := by decide +kernel
theorem dL_law_359 : decode cL_law 359 = .ok (.iadd, 1) := by decide +kernel
theorem dL_law_360 : decode cL_law 360 = .ok (.iaload, 1) := by decide +kernel
theorem dL_law_361 : decode cL_law 361 = .ok (.i2c, 1) := by decide +kernel
theorem dL_law_362 : decode cL_law 362 = .ok (.invokevirtual 49, 3) := by decide +kernel
theorem dL_law_365 : decode cL_law 365 = .ok (.if_icmp .eq 433, 3) := by decide +kernel
theorem dL_law_368 : decode cL_law 368 = .ok (.iconst 0, 1) := by decide +kernel
theorem dL_law_369 : decode cL_law 369 = .ok (.ireturn, 1) := by decide +kernel
theorem dL_law_370 : decode cL_law 370 = .ok (.aload_n 1, 1) := by decide +kernel
theorem dL_law_371 : decode cL_law 371 = .ok (.invokevirtual 50, 3) := by decide +kernel
theorem dL_law_374 : decode cL_law 374 = .ok (.aload_n 2, 1) := by decide +kernel
theorem dL_law_375 : decode cL_law 375 = .ok (.invokevirtual 53, 3) := by decide +kernel
theorem dL_law_378 : decode cL_law 378 = .ok (.if_icmp .eq 420, 3) := by decide +kernel
theorem dL_law_381 : decode cL_law 381 = .ok (.iconst 0, 1) := by decide +kernel
theorem dL_law_382 : decode cL_law 382 = .ok (.ireturn, 1) := by decide +kernel
theorem dL_law_383 : decode cL_law 383 = .ok (.aload_n 1, 1) := by decide +kernel
theorem dL_law_384 : decode cL_law 384 = .ok (.invokevirtual 54, 3) := by decide +kernel
theorem dL_law_387 : decode cL_law 387 = .ok (.aload_n 2, 1) := by decide +kernel
theorem dL_law_388 : decode cL_law 388 = .ok (.invokevirtual 57, 3) := by decide +kernel
theorem dL_law_391 : decode cL_law 391 = .ok (.if_icmp .eq 407, 3) := by decide +kernel
theorem dL_law_394 : decode cL_law 394 = .ok (.iconst 0, 1) := by decide +kernel
theorem dL_law_395 : decode cL_law 395 = .ok (.ireturn, 1) := by decide +kernel
theorem dL_law_396 : decode cL_law 396 = .ok (.aload_n 1, 1) := by decide +kernel
theorem dL_law_397 : decode cL_law 397 = .ok (.invokevirtual 58, 3) := by decide +kernel
theorem dL_law_400 : decode cL_law 400 = .ok (.aload_n 2, 1) := by decide +kernel
theorem dL_law_401 : decode cL_law 401 = .ok (.invokevirtual 61, 3) := by decide +kernel
theorem dL_law_404 : decode cL_law 404 = .ok (.if_icmp .eq 394, 3) := by decide +kernel
theorem dL_law_407 : decode cL_law 407 = .ok (.iconst 0, 1) := by decide +kernel
theorem dL_law_408 : decode cL_law 408 = .ok (.ireturn, 1) := by decide +kernel
theorem dL_law_409 : decode cL_law 409 = .ok (.aload_n 1, 1) := by decide +kernel
theorem dL_law_410 : decode cL_law 410 = .ok (.invokevirtual 62, 3) := by decide +kernel
theorem dL_law_413 : decode cL_law 413 = .ok (.aload_n 2, 1) := by decide +kernel
theorem dL_law_414 : decode cL_law 414 = .ok (.invokevirtual 65, 3) := by decide +kernel
theorem dL_law_417 : decode cL_law 417 = .ok (.if_icmp .eq 381, 3) := by decide +kernel
theorem dL_law_420 : decode cL_law 420 = .ok (.iconst 0, 1) := by decide +kernel
theorem dL_law_421 : decode cL_law 421 = .ok (.ireturn, 1) := by decide +kernel
theorem dL_law_422 : decode cL_law 422 = .ok (.aload_n 1, 1) := by decide +kernel
theorem dL_law_423 : decode cL_law 423 = .ok (.invokevirtual 66, 3) := by decide +kernel
theorem dL_law_426 : decode cL_law 426 = .ok (.aload_n 2, 1) := by decide +kernel
theorem dL_law_427 : decode cL_law 427 = .ok (.invokevirtual 69, 3) := by decide +kernel
theorem dL_law_430 : decode cL_law 430 = .ok (.if_icmp .eq 368, 3) := by decide +kernel
theorem dL_law_433 : decode cL_law 433 = .ok (.iconst 0, 1) := by decide +kernel
theorem dL_law_434 : decode cL_law 434 = .ok (.ireturn, 1) := by decide +kernel
theorem dL_law_435 : decode cL_law 435 = .ok (.aload_n 1, 1) := by decide +kernel
theorem dL_law_436 : decode cL_law 436 = .ok (.aload_n 0, 1) := by decide +kernel
theorem dL_law_437 : decode cL_law 437 = .ok (.iload_n 3, 1) := by decide +kernel
theorem dL_law_438 : decode cL_law 438 = .ok (.iconst 1, 1) := by decide +kernel
theorem dL_law_439 : decode cL_law 439 = .ok (.iadd, 1) := by decide +kernel
theorem dL_law_440 : decode cL_law 440 = .ok (.iaload, 1) := by decide +kernel
theorem dL_law_441 : decode cL_law 441 = .ok (.aload_n 0, 1) := by decide +kernel
theorem dL_law_442 : decode cL_law 442 = .ok (.iload_n 3, 1) := by decide +kernel
theorem dL_law_443 : decode cL_law 443 = .ok (.iconst 2, 1) := by decide +kernel
theorem dL_law_444 : decode cL_law 444 = .ok (.iadd, 1) := by decide +kernel
theorem dL_law_445 : decode cL_law 445 = .ok (.iaload, 1) := by decide +kernel
theorem dL_law_446 : decode cL_law 446 = .ok (.invokevirtual 70, 3) := by decide +kernel
theorem dL_law_449 : decode cL_law 449 = .ok (.aload_n 2, 1) := by decide +kernel
theorem dL_law_450 : decode cL_law 450 = .ok (.aload_n 0, 1) := by decide +kernel
theorem dL_law_451 : decode cL_law 451 = .ok (.iload_n 3, 1) := by decide +kernel
theorem dL_law_452 : decode cL_law 452 = .ok (.iconst 1, 1) := by decide +kernel
theorem dL_law_453 : decode cL_law 453 = .ok (.iadd, 1) := by decide +kernel
theorem dL_law_454 : decode cL_law 454 = .ok (.iaload, 1) := by decide +kernel
theorem dL_law_455 : decode cL_law 455 = .ok (.aload_n 0, 1) := by decide +kernel
theorem dL_law_456 : decode cL_law 456 = .ok (.iload_n 3, 1) := by decide +kernel
theorem dL_law_457 : decode cL_law 457 = .ok (.iconst 2, 1) := by decide +kernel
theorem dL_law_458 : decode cL_law 458 = .ok (.iadd, 1) := by decide +kernel
theorem dL_law_459 : decode cL_law 459 = .ok (.iaload, 1) := by decide +kernel
theorem dL_law_460 : decode cL_law 460 = .ok (.invokevirtual 73, 3) := by decide +kernel
theorem dL_law_463 : decode cL_law 463 = .ok (.if_icmp .eq 335, 3) := by decide +kernel
theorem dL_law_466 : decode cL_law 466 = .ok (.iconst 0, 1) := by decide +kernel
theorem dL_law_467 : decode cL_law 467 = .ok (.ireturn, 1) := by decide +kernel
theorem dL_law_468 : decode cL_law 468 = .ok (.aload_n 1, 1) := by decide +kernel
theorem dL_law_469 : decode cL_law 469 = .ok (.aload_n 0, 1) := by decide +kernel
theorem dL_law_470 : decode cL_law 470 = .ok (.iload_n 3, 1) := by decide +kernel
theorem dL_law_471 : decode cL_law 471 = .ok (.iconst 1, 1) := by decide +kernel
theorem dL_law_472 : decode cL_law 472 = .ok (.iadd, 1) := by decide +kernel
theorem dL_law_473 : decode cL_law 473 = .ok (.iaload, 1) := by decide +kernel
theorem dL_law_474 : decode cL_law 474 = .ok (.aload_n 0, 1) := by decide +kernel
theorem dL_law_475 : decode cL_law 475 = .ok (.iload_n 3, 1) := by decide +kernel
theorem dL_law_476 : decode cL_law 476 = .ok (.iconst 2, 1) := by decide +kernel
theorem dL_law_477 : decode cL_law 477 = .ok (.iadd, 1) := by decide +kernel
theorem dL_law_478 : decode cL_law 478 = .ok (.iaload, 1) := by decide +kernel
theorem dL_law_479 : decode cL_law 479 = .ok (.invokevirtual 74, 3) := by decide +kernel
theorem dL_law_482 : decode cL_law 482 = .ok (.aload_n 2, 1) := by decide +kernel
theorem dL_law_483 : decode cL_law 483 = .ok (.aload_n 0, 1) := by decide +kernel
theorem dL_law_484 : decode cL_law 484 = .ok (.iload_n 3, 1) := by decide +kernel
theorem dL_law_485 : decode cL_law 485 = .ok (.iconst 1, 1) := by decide +kernel
theorem dL_law_486 : decode cL_law 486 = .ok (.iadd, 1) := by decide +kernel
theorem dL_law_487 : decode cL_law 487 = .ok (.iaload, 1) := by decide +kernel
theorem dL_law_488 : decode cL_law 488 = .ok (.aload_n 0, 1) := by decide +kernel
theorem dL_law_489 : decode cL_law 489 = .ok (.iload_n 3, 1) := by decide +kernel
theorem dL_law_490 : decode cL_law 490 = .ok (.iconst 2, 1) := by decide +kernel
theorem dL_law_491 : decode cL_law 491 = .ok (.iadd, 1) := by decide +kernel
theorem dL_law_492 : decode cL_law 492 = .ok (.iaload, 1) := by decide +kernel
theorem dL_law_493 : decode cL_law 493 = .ok (.invokevirtual 77, 3) := by decide +kernel
theorem dL_law_496 : decode cL_law 496 = .ok (.if_icmp .eq 302, 3) := by decide +kernel
theorem dL_law_499 : decode cL_law 499 = .ok (.iconst 0, 1) := by decide +kernel
theorem dL_law_500 : decode cL_law 500 = .ok (.ireturn, 1) := by decide +kernel
theorem dL_law_501 : decode cL_law 501 = .ok (.aload_n 1, 1) := by decide +kernel
theorem dL_law_502 : decode cL_law 502 = .ok (.aload_n 0, 1) := by decide +kernel
theorem dL_law_503 : decode cL_law 503 = .ok (.iload_n 3, 1) := by decide +kernel
theorem dL_law_504 : decode cL_law 504 = .ok (.iconst 1, 1) := by decide +kernel
theorem dL_law_505 : decode cL_law 505 = .ok (.iadd, 1) := by decide +kernel
theorem dL_law_506 : decode cL_law 506 = .ok (.iaload, 1) := by decide +kernel
theorem dL_law_507 : decode cL_law 507 = .ok (.aload_n 0, 1) := by decide +kernel
theorem dL_law_508 : decode cL_law 508 = .ok (.iload_n 3, 1) := by decide +kernel
theorem dL_law_509 : decode cL_law 509 = .ok (.iconst 2, 1) := by decide +kernel
theorem dL_law_510 : decode cL_law 510 = .ok (.iadd, 1) := by decide +kernel
theorem dL_law_511 : decode cL_law 511 = .ok (.iaload, 1) := by decide +kernel
theorem dL_law_512 : decode cL_law 512 = .ok (.invokevirtual 78, 3) := by decide +kernel
theorem dL_law_515 : decode cL_law 515 = .ok (.aload_n 2, 1) := by decide +kernel
theorem dL_law_516 : decode cL_law 516 = .ok (.aload_n 0, 1) := by decide +kernel
theorem dL_law_517 : decode cL_law 517 = .ok (.iload_n 3, 1) := by decide +kernel
theorem dL_law_518 : decode cL_law 518 = .ok (.iconst 1, 1) := by decide +kernel
theorem dL_law_519 : decode cL_law 519 = .ok (.iadd, 1) := by decide +kernel
theorem dL_law_520 : decode cL_law 520 = .ok (.iaload, 1) := by decide +kernel
theorem dL_law_521 : decode cL_law 521 = .ok (.aload_n 0, 1) := by decide +kernel
theorem dL_law_522 : decode cL_law 522 = .ok (.iload_n 3, 1) := by decide +kernel
theorem dL_law_523 : decode cL_law 523 = .ok (.iconst 2, 1) := by decide +kernel
theorem dL_law_524 : decode cL_law 524 = .ok (.iadd, 1) := by decide +kernel
theorem dL_law_525 : decode cL_law 525 = .ok (.iaload, 1) := by decide +kernel
theorem dL_law_526 : decode cL_law 526 = .ok (.invokevirtual 81, 3) := by decide +kernel
theorem dL_law_529 : decode cL_law 529 = .ok (.if_icmp .eq 269, 3) := by decide +kernel
theorem dL_law_532 : decode cL_law 532 = .ok (.iconst 0, 1) := by decide +kernel
theorem dL_law_533 : decode cL_law 533 = .ok (.ireturn, 1) := by decide +kernel
theorem dL_law_534 : decode cL_law 534 = .ok (.aload_n 1, 1) := by decide +kernel
theorem dL_law_535 : decode cL_law 535 = .ok (.aload_n 0, 1) := by decide +kernel
theorem dL_law_536 : decode cL_law 536 = .ok (.iload_n 3, 1) := by decide +kernel
theorem dL_law_537 : decode cL_law 537 = .ok (.iconst 1, 1) := by decide +kernel
theorem dL_law_538 : decode cL_law 538 = .ok (.iadd, 1) := by decide +kernel
theorem dL_law_539 : decode cL_law 539 = .ok (.iaload, 1) := by decide +kernel
theorem dL_law_540 : decode cL_law 540 = .ok (.aload_n 0, 1) := by decide +kernel
theorem dL_law_541 : decode cL_law 541 = .ok (.iload_n 3, 1) := by decide +kernel
theorem dL_law_542 : decode cL_law 542 = .ok (.iconst 2, 1) := by decide +kernel
theorem dL_law_543 : decode cL_law 543 = .ok (.iadd, 1) := by decide +kernel
theorem dL_law_544 : decode cL_law 544 = .ok (.iaload, 1) := by decide +kernel
theorem dL_law_545 : decode cL_law 545 = .ok (.invokevirtual 82, 3) := by decide +kernel
theorem dL_law_548 : decode cL_law 548 = .ok (.aload_n 2, 1) := by decide +kernel
theorem dL_law_549 : decode cL_law 549 = .ok (.aload_n 0, 1) := by decide +kernel
theorem dL_law_550 : decode cL_law 550 = .ok (.iload_n 3, 1) := by decide +kernel
theorem dL_law_551 : decode cL_law 551 = .ok (.iconst 1, 1) := by decide +kernel
theorem dL_law_552 : decode cL_law 552 = .ok (.iadd, 1) := by decide +kernel
theorem dL_law_553 : decode cL_law 553 = .ok (.iaload, 1) := by decide +kernel
theorem dL_law_554 : decode cL_law 554 = .ok (.aload_n 0, 1) := by decide +kernel
theorem dL_law_555 : decode cL_law 555 = .ok (.iload_n 3, 1) := by decide +kernel
theorem dL_law_556 : decode cL_law 556 = .ok (.iconst 2, 1) := by decide +kernel
theorem dL_law_557 : decode cL_law 557 = .ok (.iadd, 1) := by decide +kernel
theorem dL_law_558 : decode cL_law 558 = .ok (.iaload, 1) := by decide +kernel
theorem dL_law_559 : decode cL_law 559 = .ok (.invokevirtual 85, 3) := by decide +kernel
theorem dL_law_562 : decode cL_law 562 = .ok (.if_icmp .eq 236, 3) := by decide +kernel
theorem dL_law_565 : decode cL_law 565 = .ok (.iconst 0, 1) := by decide +kernel
theorem dL_law_566 : decode cL_law 566 = .ok (.ireturn, 1) := by decide +kernel
theorem dL_law_567 : decode cL_law 567 = .ok (.aload_n 1, 1) := by decide +kernel
theorem dL_law_568 : decode cL_law 568 = .ok (.aload_n 0, 1) := by decide +kernel
theorem dL_law_569 : decode cL_law 569 = .ok (.iload_n 3, 1) := by decide +kernel
theorem dL_law_570 : decode cL_law 570 = .ok (.iconst 1, 1) := by decide +kernel
theorem dL_law_571 : decode cL_law 571 = .ok (.iadd, 1) := by decide +kernel
theorem dL_law_572 : decode cL_law 572 = .ok (.iaload, 1) := by decide +kernel
theorem dL_law_573 : decode cL_law 573 = .ok (.aload_n 0, 1) := by decide +kernel
theorem dL_law_574 : decode cL_law 574 = .ok (.iload_n 3, 1) := by decide +kernel
theorem dL_law_575 : decode cL_law 575 = .ok (.iconst 2, 1) := by decide +kernel
theorem dL_law_576 : decode cL_law 576 = .ok (.iadd, 1) := by decide +kernel
theorem dL_law_577 : decode cL_law 577 = .ok (.iaload, 1) := by decide +kernel
theorem dL_law_578 : decode cL_law 578 = .ok (.aload_n 0, 1) := by decide +kernel
theorem dL_law_579 : decode cL_law 579 = .ok (.iload_n 3, 1) := by decide +kernel
theorem dL_law_580 : decode cL_law 580 = .ok (.iconst 3, 1) := by decide +kernel
theorem dL_law_581 : decode cL_law 581 = .ok (.iadd, 1) := by decide +kernel
theorem dL_law_582 : decode cL_law 582 = .ok (.iaload, 1) := by decide +kernel
theorem dL_law_583 : decode cL_law 583 = .ok (.aload_n 0, 1) := by decide +kernel
theorem dL_law_584 : decode cL_law 584 = .ok (.iload_n 3, 1) := by decide +kernel
theorem dL_law_585 : decode cL_law 585 = .ok (.iconst 4, 1) := by decide +kernel
theorem dL_law_586 : decode cL_law 586 = .ok (.iadd, 1) := by decide +kernel
theorem dL_law_587 : decode cL_law 587 = .ok (.iaload, 1) := by decide +kernel
theorem dL_law_588 : decode cL_law 588 = .ok (.invokevirtual 86, 3) := by decide +kernel
theorem dL_law_591 : decode cL_law 591 = .ok (.aload_n 2, 1) := by decide +kernel
theorem dL_law_592 : decode cL_law 592 = .ok (.aload_n 0, 1) := by decide +kernel
theorem dL_law_593 : decode cL_law 593 = .ok (.iload_n 3, 1) := by decide +kernel
theorem dL_law_594 : decode cL_law 594 = .ok (.iconst 1, 1) := by decide +kernel
theorem dL_law_595 : decode cL_law 595 = .ok (.iadd, 1) := by decide +kernel
theorem dL_law_596 : decode cL_law 596 = .ok (.iaload, 1) := by decide +kernel
theorem dL_law_597 : decode cL_law 597 = .ok (.aload_n 0, 1) := by decide +kernel
theorem dL_law_598 : decode cL_law 598 = .ok (.iload_n 3, 1) := by decide +kernel
theorem dL_law_599 : decode cL_law 599 = .ok (.iconst 2, 1) := by decide +kernel
theorem dL_law_600 : decode cL_law 600 = .ok (.iadd, 1) := by decide +kernel
theorem dL_law_601 : decode cL_law 601 = .ok (.iaload, 1) := by decide +kernel
theorem dL_law_602 : decode cL_law 602 = .ok (.aload_n 0, 1) := by decide +kernel
theorem dL_law_603 : decode cL_law 603 = .ok (.iload_n 3, 1) := by decide +kernel
theorem dL_law_604 : decode cL_law 604 = .ok (.iconst 3, 1) := by decide +kernel
theorem dL_law_605 : decode cL_law 605 = .ok (.iadd, 1) := by decide +kernel
theorem dL_law_606 : decode cL_law 606 = .ok (.iaload, 1) := by decide +kernel
theorem dL_law_607 : decode cL_law 607 = .ok (.aload_n 0, 1) := by decide +kernel
theorem dL_law_608 : decode cL_law 608 = .ok (.iload_n 3, 1) := by decide +kernel
theorem dL_law_609 : decode cL_law 609 = .ok (.iconst 4, 1) := by decide +kernel
theorem dL_law_610 : decode cL_law 610 = .ok (.iadd, 1) := by decide +kernel
theorem dL_law_611 : decode cL_law 611 = .ok (.iaload, 1) := by decide +kernel
theorem dL_law_612 : decode cL_law 612 = .ok (.invokevirtual 90, 3) := by decide +kernel
theorem dL_law_615 : decode cL_law 615 = .ok (.if_icmp .eq 183, 3) := by decide +kernel
theorem dL_law_618 : decode cL_law 618 = .ok (.iconst 0, 1) := by decide +kernel
theorem dL_law_619 : decode cL_law 619 = .ok (.ireturn, 1) := by decide +kernel
theorem dL_law_620 : decode cL_law 620 = .ok (.aload_n 1, 1) := by decide +kernel
theorem dL_law_621 : decode cL_law 621 = .ok (.aload_n 0, 1) := by decide +kernel
theorem dL_law_622 : decode cL_law 622 = .ok (.iload_n 3, 1) := by decide +kernel
theorem dL_law_623 : decode cL_law 623 = .ok (.iconst 1, 1) := by decide +kernel
theorem dL_law_624 : decode cL_law 624 = .ok (.iadd, 1) := by decide +kernel
theorem dL_law_625 : decode cL_law 625 = .ok (.iaload, 1) := by decide +kernel
theorem dL_law_626 : decode cL_law 626 = .ok (.aload_n 0, 1) := by decide +kernel
theorem dL_law_627 : decode cL_law 627 = .ok (.iload_n 3, 1) := by decide +kernel
theorem dL_law_628 : decode cL_law 628 = .ok (.iconst 2, 1) := by decide +kernel
theorem dL_law_629 : decode cL_law 629 = .ok (.iadd, 1) := by decide +kernel
theorem dL_law_630 : decode cL_law 630 = .ok (.iaload, 1) := by decide +kernel
theorem dL_law_631 : decode cL_law 631 = .ok (.invokevirtual 91, 3) := by decide +kernel
theorem dL_law_634 : decode cL_law 634 = .ok (.aload_n 2, 1) := by decide +kernel
theorem dL_law_635 : decode cL_law 635 = .ok (.aload_n 0, 1) := by decide +kernel
theorem dL_law_636 : decode cL_law 636 = .ok (.iload_n 3, 1) := by decide +kernel
theorem dL_law_637 : decode cL_law 637 = .ok (.iconst 1, 1) := by decide +kernel
theorem dL_law_638 : decode cL_law 638 = .ok (.iadd, 1) := by decide +kernel
theorem dL_law_639 : decode cL_law 639 = .ok (.iaload, 1) := by decide +kernel
theorem dL_law_640 : decode cL_law 640 = .ok (.aload_n 0, 1) := by decide +kernel
theorem dL_law_641 : decode cL_law 641 = .ok (.iload_n 3, 1) := by decide +kernel
theorem dL_law_642 : decode cL_law 642 = .ok (.iconst 2, 1) := by decide +kernel
theorem dL_law_643 : decode cL_law 643 = .ok (.iadd, 1) := by decide +kernel
theorem dL_law_644 : decode cL_law 644 = .ok (.iaload, 1) := by decide +kernel
theorem dL_law_645 : decode cL_law 645 = .ok (.invokevirtual 94, 3) := by decide +kernel
theorem dL_law_648 : decode cL_law 648 = .ok (.if_icmp .eq 150, 3) := by decide +kernel
theorem dL_law_651 : decode cL_law 651 = .ok (.iconst 0, 1) := by decide +kernel
theorem dL_law_652 : decode cL_law 652 = .ok (.ireturn, 1) := by decide +kernel
theorem dL_law_653 : decode cL_law 653 = .ok (.aload_n 1, 1) := by decide +kernel
theorem dL_law_654 : decode cL_law 654 = .ok (.aload_n 0, 1) := by decide +kernel
theorem dL_law_655 : decode cL_law 655 = .ok (.iload_n 3, 1) := by decide +kernel
theorem dL_law_656 : decode cL_law 656 = .ok (.iconst 1, 1) := by decide +kernel
theorem dL_law_657 : decode cL_law 657 = .ok (.iadd, 1) := by decide +kernel
theorem dL_law_658 : decode cL_law 658 = .ok (.iaload, 1) := by decide +kernel
theorem dL_law_659 : decode cL_law 659 = .ok (.invokevirtual 95, 3) := by decide +kernel
theorem dL_law_662 : decode cL_law 662 = .ok (.aload_n 2, 1) := by decide +kernel
theorem dL_law_663 : decode cL_law 663 = .ok (.aload_n 0, 1) := by decide +kernel
theorem dL_law_664 : decode cL_law 664 = .ok (.iload_n 3, 1) := by decide +kernel
theorem dL_law_665 : decode cL_law 665 = .ok (.iconst 1, 1) := by decide +kernel
theorem dL_law_666 : decode cL_law 666 = .ok (.iadd, 1) := by decide +kernel
theorem dL_law_667 : decode cL_law 667 = .ok (.iaload, 1) := by decide +kernel
theorem dL_law_668 : decode cL_law 668 = .ok (.invokevirtual 98, 3) := by decide +kernel
theorem dL_law_671 : decode cL_law 671 = .ok (.if_icmp .eq 127, 3) := by decide +kernel
theorem dL_law_674 : decode cL_law 674 = .ok (.iconst 0, 1) := by decide +kernel
theorem dL_law_675 : decode cL_law 675 = .ok (.ireturn, 1) := by decide +kernel
theorem dL_law_676 : decode cL_law 676 = .ok (.aload_n 1, 1) := by decide +kernel
theorem dL_law_677 : decode cL_law 677 = .ok (.aload_n 0, 1) := by decide +kernel
theorem dL_law_678 : decode cL_law 678 = .ok (.iload_n 3, 1) := by decide +kernel
theorem dL_law_679 : decode cL_law 679 = .ok (.iconst 1, 1) := by decide +kernel
theorem dL_law_680 : decode cL_law 680 = .ok (.iadd, 1) := by decide +kernel
theorem dL_law_681 : decode cL_law 681 = .ok (.iaload, 1) := by decide +kernel
theorem dL_law_682 : decode cL_law 682 = .ok (.invokevirtual 99, 3) := by decide +kernel
theorem dL_law_685 : decode cL_law 685 = .ok (.f2d, 1) := by decide +kernel
theorem dL_law_686 : decode cL_law 686 = .ok (.dstore 4, 2) := by decide +kernel
theorem dL_law_688 : decode cL_law 688 = .ok (.aload_n 2, 1) := by decide +kernel
theorem dL_law_689 : decode cL_law 689 = .ok (.aload_n 0, 1) := by decide +kernel
theorem dL_law_690 : decode cL_law 690 = .ok (.iload_n 3, 1) := by decide +kernel
theorem dL_law_691 : decode cL_law 691 = .ok (.iconst 1, 1) := by decide +kernel
theorem dL_law_692 : decode cL_law 692 = .ok (.iadd, 1) := by decide +kernel
theorem dL_law_693 : decode cL_law 693 = .ok (.iaload, 1) := by decide +kernel
theorem dL_law_694 : decode cL_law 694 = .ok (.invokevirtual 103, 3) := by decide +kernel
theorem dL_law_697 : decode cL_law 697 = .ok (.f2d, 1) := by decide +kernel
theorem dL_law_698 : decode cL_law 698 = .ok (.dstore 6, 2) := by decide +kernel
theorem dL_law_700 : decode cL_law 700 = .ok (.dload 4, 2) := by decide +kernel
theorem dL_law_702 : decode cL_law 702 = .ok (.dload 6, 2) := by decide +kernel
theorem dL_law_704 : decode cL_law 704 = .ok (.dcmp .l, 1) := by decide +kernel
theorem dL_law_705 : decode cL_law 705 = .ok (.ifCond .eq 21, 3) := by decide +kernel
theorem dL_law_708 : decode cL_law 708 = .ok (.dload 4, 2) := by decide +kernel
theorem dL_law_710 : decode cL_law 710 = .ok (.dload 4, 2) := by decide +kernel
theorem dL_law_712 : decode cL_law 712 = .ok (.dcmp .l, 1) := by decide +kernel
theorem dL_law_713 : decode cL_law 713 = .ok (.ifCond .eq 11, 3) := by decide +kernel
theorem dL_law_716 : decode cL_law 716 = .ok (.dload 6, 2) := by decide +kernel
theorem dL_law_718 : decode cL_law 718 = .ok (.dload 6, 2) := by decide +kernel
theorem dL_law_720 : decode cL_law 720 = .ok (.dcmp .l, 1) := by decide +kernel
theorem dL_law_721 : decode cL_law 721 = .ok (.ifCond .ne 5, 3) := by decide +kernel
theorem dL_law_724 : decode cL_law 724 = .ok (.iconst 0, 1) := by decide +kernel
theorem dL_law_725 : decode cL_law 725 = .ok (.ireturn, 1) := by decide +kernel
theorem dL_law_726 : decode cL_law 726 = .ok (.goto 72, 3) := by decide +kernel
theorem dL_law_729 : decode cL_law 729 = .ok (.aload_n 1, 1) := by decide +kernel
theorem dL_law_730 : decode cL_law 730 = .ok (.aload_n 0, 1) := by decide +kernel
theorem dL_law_731 : decode cL_law 731 = .ok (.iload_n 3, 1) := by decide +kernel
theorem dL_law_732 : decode cL_law 732 = .ok (.iconst 1, 1) := by decide +kernel
theorem dL_law_733 : decode cL_law 733 = .ok (.iadd, 1) := by decide +kernel
theorem dL_law_734 : decode cL_law 734 = .ok (.iaload, 1) := by decide +kernel
theorem dL_law_735 : decode cL_law 735 = .ok (.invokevirtual 104, 3) := by decide +kernel
theorem dL_law_738 : decode cL_law 738 = .ok (.aload_n 2, 1) := by decide +kernel
theorem dL_law_739 : decode cL_law 739 = .ok (.aload_n 0, 1) := by decide +kernel
theorem dL_law_740 : decode cL_law 740 = .ok (.iload_n 3, 1) := by decide +kernel
theorem dL_law_741 : decode cL_law 741 = .ok (.iconst 1, 1) := by decide +kernel
theorem dL_law_742 : decode cL_law 742 = .ok (.iadd, 1) := by decide +kernel
theorem dL_law_743 : decode cL_law 743 = .ok (.iaload, 1) := by decide +kernel
theorem dL_law_744 : decode cL_law 744 = .ok (.invokevirtual 107, 3) := by decide +kernel
theorem dL_law_747 : decode cL_law 747 = .ok (.if_icmp .eq 51, 3) := by decide +kernel
theorem dL_law_750 : decode cL_law 750 = .ok (.iconst 0, 1) := by decide +kernel
theorem dL_law_751 : decode cL_law 751 = .ok (.ireturn, 1) := by decide +kernel
theorem dL_law_752 : decode cL_law 752 = .ok (.aload_n 1, 1) := by decide +kernel
theorem dL_law_753 : decode cL_law 753 = .ok (.aload_n 0, 1) := by decide +kernel
theorem dL_law_754 : decode cL_law 754 = .ok (.iload_n 3, 1) := by decide +kernel
theorem dL_law_755 : decode cL_law 755 = .ok (.iconst 1, 1) := by decide +kernel
theorem dL_law_756 : decode cL_law 756 = .ok (.iadd, 1) := by decide +kernel
theorem dL_law_757 : decode cL_law 757 = .ok (.iaload, 1) := by decide +kernel
theorem dL_law_758 : decode cL_law 758 = .ok (.invokevirtual 108, 3) := by decide +kernel
theorem dL_law_761 : decode cL_law 761 = .ok (.aload_n 2, 1) := by decide +kernel
theorem dL_law_762 : decode cL_law 762 = .ok (.aload_n 0, 1) := by decide +kernel
theorem dL_law_763 : decode cL_law 763 = .ok (.iload_n 3, 1) := by decide +kernel
theorem dL_law_764 : decode cL_law 764 = .ok (.iconst 1, 1) := by decide +kernel
theorem dL_law_765 : decode cL_law 765 = .ok (.iadd, 1) := by decide +kernel
theorem dL_law_766 : decode cL_law 766 = .ok (.iaload, 1) := by decide +kernel
theorem dL_law_767 : decode cL_law 767 = .ok (.invokevirtual 111, 3) := by decide +kernel
theorem dL_law_770 : decode cL_law 770 = .ok (.if_icmp .eq 28, 3) := by decide +kernel
theorem dL_law_773 : decode cL_law 773 = .ok (.iconst 0, 1) := by decide +kernel
theorem dL_law_774 : decode cL_law 774 = .ok (.ireturn, 1) := by decide +kernel
theorem dL_law_775 : decode cL_law 775 = .ok (.aload_n 1, 1) := by decide +kernel
theorem dL_law_776 : decode cL_law 776 = .ok (.aload_n 0, 1) := by decide +kernel
theorem dL_law_777 : decode cL_law 777 = .ok (.iload_n 3, 1) := by decide +kernel
theorem dL_law_778 : decode cL_law 778 = .ok (.iconst 1, 1) := by decide +kernel
theorem dL_law_779 : decode cL_law 779 = .ok (.iadd, 1) := by decide +kernel
theorem dL_law_780 : decode cL_law 780 = .ok (.iaload, 1) := by decide +kernel
theorem dL_law_781 : decode cL_law 781 = .ok (.invokevirtual 112, 3) := by decide +kernel
theorem dL_law_784 : decode cL_law 784 = .ok (.aload_n 2, 1) := by decide +kernel
theorem dL_law_785 : decode cL_law 785 = .ok (.aload_n 0, 1) := by decide +kernel
theorem dL_law_786 : decode cL_law 786 = .ok (.iload_n 3, 1) := by decide +kernel
theorem dL_law_787 : decode cL_law 787 = .ok (.iconst 1, 1) := by decide +kernel
theorem dL_law_788 : decode cL_law 788 = .ok (.iadd, 1) := by decide +kernel
theorem dL_law_789 : decode cL_law 789 = .ok (.iaload, 1) := by decide +kernel
theorem dL_law_790 : decode cL_law 790 = .ok (.invokevirtual 115, 3) := by decide +kernel
theorem dL_law_793 : decode cL_law 793 = .ok (.if_icmp .eq 5, 3) := by decide +kernel
theorem dL_law_796 : decode cL_law 796 = .ok (.iconst 0, 1) := by decide +kernel
theorem dL_law_797 : decode cL_law 797 = .ok (.ireturn, 1) := by decide +kernel
theorem dL_law_798 : decode cL_law 798 = .ok (.iinc 3 5, 3) := by decide +kernel
theorem dL_law_801 : decode cL_law 801 = .ok (.goto (-783), 3) := by decide +kernel
theorem dL_law_804 : decode cL_law 804 = .ok (.iconst 1, 1) := by decide +kernel
theorem dL_law_805 : decode cL_law 805 = .ok (.ireturn, 1) := by decide +kernel
