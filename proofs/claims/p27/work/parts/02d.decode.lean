theorem dX6_init_0 : decode cX6_init 0 = .ok (.aload_n 0, 1) := by decide +kernel
theorem dX6_init_1 : decode cX6_init 1 = .ok (.invokespecial 3, 3) := by decide +kernel
theorem dX6_init_4 : decode cX6_init 4 = .ok (.aload_n 0, 1) := by decide +kernel
theorem dX6_init_5 : decode cX6_init 5 = .ok (.bipush 10, 2) := by decide +kernel
theorem dX6_init_7 : decode cX6_init 7 = .ok (.newarray .int, 2) := by decide +kernel
theorem dX6_init_9 : decode cX6_init 9 = .ok (.putfield 9, 3) := by decide +kernel
theorem dX6_init_12 : decode cX6_init 12 = .ok (.aload_n 0, 1) := by decide +kernel
theorem dX6_init_13 : decode cX6_init 13 = .ok (.iconst 4, 1) := by decide +kernel
theorem dX6_init_14 : decode cX6_init 14 = .ok (.anewarray 15, 3) := by decide +kernel
theorem dX6_init_17 : decode cX6_init 17 = .ok (.putfield 17, 3) := by decide +kernel
theorem dX6_init_20 : decode cX6_init 20 = .ok (.aload_n 0, 1) := by decide +kernel
theorem dX6_init_21 : decode cX6_init 21 = .ok (.iconst 4, 1) := by decide +kernel
theorem dX6_init_22 : decode cX6_init 22 = .ok (.anewarray 21, 3) := by decide +kernel
theorem dX6_init_25 : decode cX6_init 25 = .ok (.putfield 23, 3) := by decide +kernel
theorem dX6_init_28 : decode cX6_init 28 = .ok (.aload_n 0, 1) := by decide +kernel
theorem dX6_init_29 : decode cX6_init 29 = .ok (.bipush 8, 2) := by decide +kernel
theorem dX6_init_31 : decode cX6_init 31 = .ok (.anewarray 27, 3) := by decide +kernel
theorem dX6_init_34 : decode cX6_init 34 = .ok (.putfield 29, 3) := by decide +kernel
theorem dX6_init_37 : decode cX6_init 37 = .ok (.aload_n 0, 1) := by decide +kernel
theorem dX6_init_38 : decode cX6_init 38 = .ok (.iconst 0, 1) := by decide +kernel
theorem dX6_init_39 : decode cX6_init 39 = .ok (.putfield 33, 3) := by decide +kernel
theorem dX6_init_42 : decode cX6_init 42 = .ok (.aload_n 0, 1) := by decide +kernel
theorem dX6_init_43 : decode cX6_init 43 = .ok (.iconst 2, 1) := by decide +kernel
theorem dX6_init_44 : decode cX6_init 44 = .ok (.putfield 37, 3) := by decide +kernel
theorem dX6_init_47 : decode cX6_init 47 = .ok (.aload_n 0, 1) := by decide +kernel
theorem dX6_init_48 : decode cX6_init 48 = .ok (.iconst 0, 1) := by decide +kernel
theorem dX6_init_49 : decode cX6_init 49 = .ok (.putfield 40, 3) := by decide +kernel
theorem dX6_init_52 : decode cX6_init 52 = .ok (.aload_n 0, 1) := by decide +kernel
theorem dX6_init_53 : decode cX6_init 53 = .ok (.aload_n 1, 1) := by decide +kernel
theorem dX6_init_54 : decode cX6_init 54 = .ok (.putfield 43, 3) := by decide +kernel
theorem dX6_init_57 : decode cX6_init 57 = .ok (.iconst 0, 1) := by decide +kernel
theorem dX6_init_58 : decode cX6_init 58 = .ok (.istore_n 2, 1) := by decide +kernel
theorem dX6_init_59 : decode cX6_init 59 = .ok (.iload_n 2, 1) := by decide +kernel
theorem dX6_init_60 : decode cX6_init 60 = .ok (.iconst 4, 1) := by decide +kernel
theorem dX6_init_61 : decode cX6_init 61 = .ok (.if_icmp .ge 37, 3) := by decide +kernel
theorem dX6_init_64 : decode cX6_init 64 = .ok (.aload_n 0, 1) := by decide +kernel
theorem dX6_init_65 : decode cX6_init 65 = .ok (.getfield 17, 3) := by decide +kernel
theorem dX6_init_68 : decode cX6_init 68 = .ok (.iload_n 2, 1) := by decide +kernel
theorem dX6_init_69 : decode cX6_init 69 = .ok (.new 15, 3) := by decide +kernel
theorem dX6_init_72 : decode cX6_init 72 = .ok (.dup, 1) := by decide +kernel
theorem dX6_init_73 : decode cX6_init 73 = .ok (.iload_n 2, 1) := by decide +kernel
theorem dX6_init_74 : decode cX6_init 74 = .ok (.aload_n 1, 1) := by decide +kernel
theorem dX6_init_75 : decode cX6_init 75 = .ok (.invokespecial 47, 3) := by decide +kernel
theorem dX6_init_78 : decode cX6_init 78 = .ok (.aastore, 1) := by decide +kernel
theorem dX6_init_79 : decode cX6_init 79 = .ok (.aload_n 0, 1) := by decide +kernel
theorem dX6_init_80 : decode cX6_init 80 = .ok (.getfield 23, 3) := by decide +kernel
theorem dX6_init_83 : decode cX6_init 83 = .ok (.iload_n 2, 1) := by decide +kernel
theorem dX6_init_84 : decode cX6_init 84 = .ok (.new 21, 3) := by decide +kernel
theorem dX6_init_87 : decode cX6_init 87 = .ok (.dup, 1) := by decide +kernel
theorem dX6_init_88 : decode cX6_init 88 = .ok (.invokespecial 50, 3) := by decide +kernel
theorem dX6_init_91 : decode cX6_init 91 = .ok (.aastore, 1) := by decide +kernel
theorem dX6_init_92 : decode cX6_init 92 = .ok (.iinc 2 1, 3) := by decide +kernel
theorem dX6_init_95 : decode cX6_init 95 = .ok (.goto (-36), 3) := by decide +kernel
theorem dX6_init_98 : decode cX6_init 98 = .ok (.iconst 0, 1) := by decide +kernel
theorem dX6_init_99 : decode cX6_init 99 = .ok (.istore_n 2, 1) := by decide +kernel
theorem dX6_init_100 : decode cX6_init 100 = .ok (.iload_n 2, 1) := by decide +kernel
theorem dX6_init_101 : decode cX6_init 101 = .ok (.bipush 8, 2) := by decide +kernel
theorem dX6_init_103 : decode cX6_init 103 = .ok (.if_icmp .ge 22, 3) := by decide +kernel
theorem dX6_init_106 : decode cX6_init 106 = .ok (.aload_n 0, 1) := by decide +kernel
theorem dX6_init_107 : decode cX6_init 107 = .ok (.getfield 29, 3) := by decide +kernel
theorem dX6_init_110 : decode cX6_init 110 = .ok (.iload_n 2, 1) := by decide +kernel
theorem dX6_init_111 : decode cX6_init 111 = .ok (.new 27, 3) := by decide +kernel
theorem dX6_init_114 : decode cX6_init 114 = .ok (.dup, 1) := by decide +kernel
theorem dX6_init_115 : decode cX6_init 115 = .ok (.invokespecial 51, 3) := by decide +kernel
theorem dX6_init_118 : decode cX6_init 118 = .ok (.aastore, 1) := by decide +kernel
theorem dX6_init_119 : decode cX6_init 119 = .ok (.iinc 2 1, 3) := by decide +kernel
theorem dX6_init_122 : decode cX6_init 122 = .ok (.goto (-22), 3) := by decide +kernel
theorem dX6_init_125 : decode cX6_init 125 = .ok (.return_, 1) := by decide +kernel
theorem dX6_copyFrom_0 : decode cX6_copyFrom 0 = .ok (.aload_n 1, 1) := by decide +kernel
theorem dX6_copyFrom_1 : decode cX6_copyFrom 1 = .ok (.getfield 9, 3) := by decide +kernel
theorem dX6_copyFrom_4 : decode cX6_copyFrom 4 = .ok (.iconst 0, 1) := by decide +kernel
theorem dX6_copyFrom_5 : decode cX6_copyFrom 5 = .ok (.aload_n 0, 1) := by decide +kernel
theorem dX6_copyFrom_6 : decode cX6_copyFrom 6 = .ok (.getfield 9, 3) := by decide +kernel
theorem dX6_copyFrom_9 : decode cX6_copyFrom 9 = .ok (.iconst 0, 1) := by decide +kernel
theorem dX6_copyFrom_10 : decode cX6_copyFrom 10 = .ok (.bipush 10, 2) := by decide +kernel
theorem dX6_copyFrom_12 : decode cX6_copyFrom 12 = .ok (.invokestatic 52, 3) := by decide +kernel
theorem dX6_copyFrom_15 : decode cX6_copyFrom 15 = .ok (.iconst 0, 1) := by decide +kernel
theorem dX6_copyFrom_16 : decode cX6_copyFrom 16 = .ok (.istore_n 2, 1) := by decide +kernel
theorem dX6_copyFrom_17 : decode cX6_copyFrom 17 = .ok (.iload_n 2, 1) := by decide +kernel
theorem dX6_copyFrom_18 : decode cX6_copyFrom 18 = .ok (.iconst 4, 1) := by decide +kernel
theorem dX6_copyFrom_19 : decode cX6_copyFrom 19 = .ok (.if_icmp .ge 39, 3) := by decide +kernel
theorem dX6_copyFrom_22 : decode cX6_copyFrom 22 = .ok (.aload_n 0, 1) := by decide +kernel
theorem dX6_copyFrom_23 : decode cX6_copyFrom 23 = .ok (.getfield 17, 3) := by decide +kernel
theorem dX6_copyFrom_26 : decode cX6_copyFrom 26 = .ok (.iload_n 2, 1) := by decide +kernel
theorem dX6_copyFrom_27 : decode cX6_copyFrom 27 = .ok (.aaload, 1) := by decide +kernel
theorem dX6_copyFrom_28 : decode cX6_copyFrom 28 = .ok (.aload_n 1, 1) := by decide +kernel
theorem dX6_copyFrom_29 : decode cX6_copyFrom 29 = .ok (.getfield 17, 3) := by decide +kernel
theorem dX6_copyFrom_32 : decode cX6_copyFrom 32 = .ok (.iload_n 2, 1) := by decide +kernel
theorem dX6_copyFrom_33 : decode cX6_copyFrom 33 = .ok (.aaload, 1) := by decide +kernel
theorem dX6_copyFrom_34 : decode cX6_copyFrom 34 = .ok (.invokevirtual 58, 3) := by decide +kernel
theorem dX6_copyFrom_37 : decode cX6_copyFrom 37 = .ok (.aload_n 0, 1) := by decide +kernel
theorem dX6_copyFrom_38 : decode cX6_copyFrom 38 = .ok (.getfield 23, 3) := by decide +kernel
theorem dX6_copyFrom_41 : decode cX6_copyFrom 41 = .ok (.iload_n 2, 1) := by decide +kernel
theorem dX6_copyFrom_42 : decode cX6_copyFrom 42 = .ok (.aaload, 1) := by decide +kernel
theorem dX6_copyFrom_43 : decode cX6_copyFrom 43 = .ok (.aload_n 1, 1) := by decide +kernel
theorem dX6_copyFrom_44 : decode cX6_copyFrom 44 = .ok (.getfield 23, 3) := by decide +kernel
theorem dX6_copyFrom_47 : decode cX6_copyFrom 47 = .ok (.iload_n 2, 1) := by decide +kernel
theorem dX6_copyFrom_48 : decode cX6_copyFrom 48 = .ok (.aaload, 1) := by decide +kernel
theorem dX6_copyFrom_49 : decode cX6_copyFrom 49 = .ok (.invokevirtual 62, 3) := by decide +kernel
theorem dX6_copyFrom_52 : decode cX6_copyFrom 52 = .ok (.iinc 2 1, 3) := by decide +kernel
theorem dX6_copyFrom_55 : decode cX6_copyFrom 55 = .ok (.goto (-38), 3) := by decide +kernel
theorem dX6_copyFrom_58 : decode cX6_copyFrom 58 = .ok (.iconst 0, 1) := by decide +kernel
theorem dX6_copyFrom_59 : decode cX6_copyFrom 59 = .ok (.istore_n 2, 1) := by decide +kernel
theorem dX6_copyFrom_60 : decode cX6_copyFrom 60 = .ok (.iload_n 2, 1) := by decide +kernel
theorem dX6_copyFrom_61 : decode cX6_copyFrom 61 = .ok (.bipush 8, 2) := by decide +kernel
theorem dX6_copyFrom_63 : decode cX6_copyFrom 63 = .ok (.if_icmp .ge 24, 3) := by decide +kernel
theorem dX6_copyFrom_66 : decode cX6_copyFrom 66 = .ok (.aload_n 0, 1) := by decide +kernel
theorem dX6_copyFrom_67 : decode cX6_copyFrom 67 = .ok (.getfield 29, 3) := by decide +kernel
theorem dX6_copyFrom_70 : decode cX6_copyFrom 70 = .ok (.iload_n 2, 1) := by decide +kernel
theorem dX6_copyFrom_71 : decode cX6_copyFrom 71 = .ok (.aaload, 1) := by decide +kernel
theorem dX6_copyFrom_72 : decode cX6_copyFrom 72 = .ok (.aload_n 1, 1) := by decide +kernel
theorem dX6_copyFrom_73 : decode cX6_copyFrom 73 = .ok (.getfield 29, 3) := by decide +kernel
theorem dX6_copyFrom_76 : decode cX6_copyFrom 76 = .ok (.iload_n 2, 1) := by decide +kernel
theorem dX6_copyFrom_77 : decode cX6_copyFrom 77 = .ok (.aaload, 1) := by decide +kernel
theorem dX6_copyFrom_78 : decode cX6_copyFrom 78 = .ok (.invokevirtual 65, 3) := by decide +kernel
theorem dX6_copyFrom_81 : decode cX6_copyFrom 81 = .ok (.iinc 2 1, 3) := by decide +kernel
theorem dX6_copyFrom_84 : decode cX6_copyFrom 84 = .ok (.goto (-24), 3) := by decide +kernel
theorem dX6_copyFrom_87 : decode cX6_copyFrom 87 = .ok (.aload_n 0, 1) := by decide +kernel
theorem dX6_copyFrom_88 : decode cX6_copyFrom 88 = .ok (.aload_n 1, 1) := by decide +kernel
theorem dX6_copyFrom_89 : decode cX6_copyFrom 89 = .ok (.getfield 33, 3) := by decide +kernel
theorem dX6_copyFrom_92 : decode cX6_copyFrom 92 = .ok (.putfield 33, 3) := by decide +kernel
theorem dX6_copyFrom_95 : decode cX6_copyFrom 95 = .ok (.aload_n 0, 1) := by decide +kernel
theorem dX6_copyFrom_96 : decode cX6_copyFrom 96 = .ok (.aload_n 1, 1) := by decide +kernel
theorem dX6_copyFrom_97 : decode cX6_copyFrom 97 = .ok (.getfield 37, 3) := by decide +kernel
theorem dX6_copyFrom_100 : decode cX6_copyFrom 100 = .ok (.putfield 37, 3) := by decide +kernel
theorem dX6_copyFrom_103 : decode cX6_copyFrom 103 = .ok (.aload_n 0, 1) := by decide +kernel
theorem dX6_copyFrom_104 : decode cX6_copyFrom 104 = .ok (.aload_n 1, 1) := by decide +kernel
theorem dX6_copyFrom_105 : decode cX6_copyFrom 105 = .ok (.getfield 40, 3) := by decide +kernel
theorem dX6_copyFrom_108 : decode cX6_copyFrom 108 = .ok (.putfield 40, 3) := by decide +kernel
theorem dX6_copyFrom_111 : decode cX6_copyFrom 111 = .ok (.return_, 1) := by decide +kernel
theorem dX6_hasRock_0 : decode cX6_hasRock 0 = .ok (.iload_n 1, 1) := by decide +kernel
theorem dX6_hasRock_1 : decode cX6_hasRock 1 = .ok (.invokestatic 68, 3) := by decide +kernel
theorem dX6_hasRock_4 : decode cX6_hasRock 4 = .ok (.ifCond .eq 26, 3) := by decide +kernel
theorem dX6_hasRock_7 : decode cX6_hasRock 7 = .ok (.aload_n 0, 1) := by decide +kernel
theorem dX6_hasRock_8 : decode cX6_hasRock 8 = .ok (.getfield 9, 3) := by decide +kernel
theorem dX6_hasRock_11 : decode cX6_hasRock 11 = .ok (.iload_n 1, 1) := by decide +kernel
theorem dX6_hasRock_12 : decode cX6_hasRock 12 = .ok (.bipush 10, 2) := by decide +kernel
theorem dX6_hasRock_14 : decode cX6_hasRock 14 = .ok (.idiv, 1) := by decide +kernel
theorem dX6_hasRock_15 : decode cX6_hasRock 15 = .ok (.iaload, 1) := by decide +kernel
theorem dX6_hasRock_16 : decode cX6_hasRock 16 = .ok (.iload_n 1, 1) := by decide +kernel
theorem dX6_hasRock_17 : decode cX6_hasRock 17 = .ok (.bipush 10, 2) := by decide +kernel
theorem dX6_hasRock_19 : decode cX6_hasRock 19 = .ok (.irem, 1) := by decide +kernel
theorem dX6_hasRock_20 : decode cX6_hasRock 20 = .ok (.ishr, 1) := by decide +kernel
theorem dX6_hasRock_21 : decode cX6_hasRock 21 = .ok (.iconst 1, 1) := by decide +kernel
theorem dX6_hasRock_22 : decode cX6_hasRock 22 = .ok (.iand, 1) := by decide +kernel
theorem dX6_hasRock_23 : decode cX6_hasRock 23 = .ok (.ifCond .eq 7, 3) := by decide +kernel
theorem dX6_hasRock_26 : decode cX6_hasRock 26 = .ok (.iconst 1, 1) := by decide +kernel
theorem dX6_hasRock_27 : decode cX6_hasRock 27 = .ok (.goto 4, 3) := by decide +kernel
theorem dX6_hasRock_30 : decode cX6_hasRock 30 = .ok (.iconst 0, 1) := by decide +kernel
theorem dX6_hasRock_31 : decode cX6_hasRock 31 = .ok (.ireturn, 1) := by decide +kernel
theorem dX6_rocks_0 : decode cX6_rocks 0 = .ok (.iconst 0, 1) := by decide +kernel
theorem dX6_rocks_1 : decode cX6_rocks 1 = .ok (.istore_n 1, 1) := by decide +kernel
theorem dX6_rocks_2 : decode cX6_rocks 2 = .ok (.aload_n 0, 1) := by decide +kernel
theorem dX6_rocks_3 : decode cX6_rocks 3 = .ok (.getfield 9, 3) := by decide +kernel
theorem dX6_rocks_6 : decode cX6_rocks 6 = .ok (.astore_n 2, 1) := by decide +kernel
theorem dX6_rocks_7 : decode cX6_rocks 7 = .ok (.aload_n 2, 1) := by decide +kernel
theorem dX6_rocks_8 : decode cX6_rocks 8 = .ok (.arraylength, 1) := by decide +kernel
theorem dX6_rocks_9 : decode cX6_rocks 9 = .ok (.istore_n 3, 1) := by decide +kernel
theorem dX6_rocks_10 : decode cX6_rocks 10 = .ok (.iconst 0, 1) := by decide +kernel
theorem dX6_rocks_11 : decode cX6_rocks 11 = .ok (.istore 4, 2) := by decide +kernel
theorem dX6_rocks_13 : decode cX6_rocks 13 = .ok (.iload 4, 2) := by decide +kernel
theorem dX6_rocks_15 : decode cX6_rocks 15 = .ok (.iload_n 3, 1) := by decide +kernel
theorem dX6_rocks_16 : decode cX6_rocks 16 = .ok (.if_icmp .ge 23, 3) := by decide +kernel
theorem dX6_rocks_19 : decode cX6_rocks 19 = .ok (.aload_n 2, 1) := by decide +kernel
theorem dX6_rocks_20 : decode cX6_rocks 20 = .ok (.iload 4, 2) := by decide +kernel
theorem dX6_rocks_22 : decode cX6_rocks 22 = .ok (.iaload, 1) := by decide +kernel
theorem dX6_rocks_23 : decode cX6_rocks 23 = .ok (.istore 5, 2) := by decide +kernel
theorem dX6_rocks_25 : decode cX6_rocks 25 = .ok (.iload_n 1, 1) := by decide +kernel
theorem dX6_rocks_26 : decode cX6_rocks 26 = .ok (.iload 5, 2) := by decide +kernel
theorem dX6_rocks_28 : decode cX6_rocks 28 = .ok (.invokestatic 72, 3) := by decide +kernel
theorem dX6_rocks_31 : decode cX6_rocks 31 = .ok (.iadd, 1) := by decide +kernel
theorem dX6_rocks_32 : decode cX6_rocks 32 = .ok (.istore_n 1, 1) := by decide +kernel
theorem dX6_rocks_33 : decode cX6_rocks 33 = .ok (.iinc 4 1, 3) := by decide +kernel
theorem dX6_rocks_36 : decode cX6_rocks 36 = .ok (.goto (-23), 3) := by decide +kernel
theorem dX6_rocks_39 : decode cX6_rocks 39 = .ok (.iload_n 1, 1) := by decide +kernel
theorem dX6_rocks_40 : decode cX6_rocks 40 = .ok (.ireturn, 1) := by decide +kernel
theorem dX6_rockError_0 : decode cX6_rockError 0 = .ok (.iload_n 1, 1) := by decide +kernel
theorem dX6_rockError_1 : decode cX6_rockError 1 = .ok (.invokestatic 68, 3) := by decide +kernel
theorem dX6_rockError_4 : decode cX6_rockError 4 = .ok (.ifCond .ne 5, 3) := by decide +kernel
theorem dX6_rockError_7 : decode cX6_rockError 7 = .ok (.iconst (-1), 1) := by decide +kernel
theorem dX6_rockError_8 : decode cX6_rockError 8 = .ok (.ireturn, 1) := by decide +kernel
theorem dX6_rockError_9 : decode cX6_rockError 9 = .ok (.getstatic 78, 3) := by decide +kernel
theorem dX6_rockError_12 : decode cX6_rockError 12 = .ok (.astore_n 2, 1) := by decide +kernel
theorem dX6_rockError_13 : decode cX6_rockError 13 = .ok (.aload_n 2, 1) := by decide +kernel
theorem dX6_rockError_14 : decode cX6_rockError 14 = .ok (.arraylength, 1) := by decide +kernel
theorem dX6_rockError_15 : decode cX6_rockError 15 = .ok (.istore_n 3, 1) := by decide +kernel
theorem dX6_rockError_16 : decode cX6_rockError 16 = .ok (.iconst 0, 1) := by decide +kernel
theorem dX6_rockError_17 : decode cX6_rockError 17 = .ok (.istore 4, 2) := by decide +kernel
theorem dX6_rockError_19 : decode cX6_rockError 19 = .ok (.iload 4, 2) := by decide +kernel
theorem dX6_rockError_21 : decode cX6_rockError 21 = .ok (.iload_n 3, 1) := by decide +kernel
theorem dX6_rockError_22 : decode cX6_rockError 22 = .ok (.if_icmp .ge 24, 3) := by decide +kernel
theorem dX6_rockError_25 : decode cX6_rockError 25 = .ok (.aload_n 2, 1) := by decide +kernel
theorem dX6_rockError_26 : decode cX6_rockError 26 = .ok (.iload 4, 2) := by decide +kernel
theorem dX6_rockError_28 : decode cX6_rockError 28 = .ok (.iaload, 1) := by decide +kernel
theorem dX6_rockError_29 : decode cX6_rockError 29 = .ok (.istore 5, 2) := by decide +kernel
theorem dX6_rockError_31 : decode cX6_rockError 31 = .ok (.iload_n 1, 1) := by decide +kernel
theorem dX6_rockError_32 : decode cX6_rockError 32 = .ok (.iload 5, 2) := by decide +kernel
theorem dX6_rockError_34 : decode cX6_rockError 34 = .ok (.if_icmp .ne 6, 3) := by decide +kernel
theorem dX6_rockError_37 : decode cX6_rockError 37 = .ok (.bipush (-4), 2) := by decide +kernel
theorem dX6_rockError_39 : decode cX6_rockError 39 = .ok (.ireturn, 1) := by decide +kernel
theorem dX6_rockError_40 : decode cX6_rockError 40 = .ok (.iinc 4 1, 3) := by decide +kernel
theorem dX6_rockError_43 : decode cX6_rockError 43 = .ok (.goto (-24), 3) := by decide +kernel
theorem dX6_rockError_46 : decode cX6_rockError 46 = .ok (.iconst 0, 1) := by decide +kernel
theorem dX6_rockError_47 : decode cX6_rockError 47 = .ok (.ireturn, 1) := by decide +kernel
theorem dX6_turnRock_0 : decode cX6_turnRock 0 = .ok (.iload_n 1, 1) := by decide +kernel
theorem dX6_turnRock_1 : decode cX6_turnRock 1 = .ok (.invokestatic 68, 3) := by decide +kernel
theorem dX6_turnRock_4 : decode cX6_turnRock 4 = .ok (.ifCond .eq 21, 3) := by decide +kernel
theorem dX6_turnRock_7 : decode cX6_turnRock 7 = .ok (.aload_n 0, 1) := by decide +kernel
theorem dX6_turnRock_8 : decode cX6_turnRock 8 = .ok (.getfield 9, 3) := by decide +kernel
theorem dX6_turnRock_11 : decode cX6_turnRock 11 = .ok (.iload_n 1, 1) := by decide +kernel
theorem dX6_turnRock_12 : decode cX6_turnRock 12 = .ok (.bipush 10, 2) := by decide +kernel
theorem dX6_turnRock_14 : decode cX6_turnRock 14 = .ok (.idiv, 1) := by decide +kernel
theorem dX6_turnRock_15 : decode cX6_turnRock 15 = .ok (.dup2, 1) := by decide +kernel
theorem dX6_turnRock_16 : decode cX6_turnRock 16 = .ok (.iaload, 1) := by decide +kernel
theorem dX6_turnRock_17 : decode cX6_turnRock 17 = .ok (.iconst 1, 1) := by decide +kernel
theorem dX6_turnRock_18 : decode cX6_turnRock 18 = .ok (.iload_n 1, 1) := by decide +kernel
theorem dX6_turnRock_19 : decode cX6_turnRock 19 = .ok (.bipush 10, 2) := by decide +kernel
theorem dX6_turnRock_21 : decode cX6_turnRock 21 = .ok (.irem, 1) := by decide +kernel
theorem dX6_turnRock_22 : decode cX6_turnRock 22 = .ok (.ishl, 1) := by decide +kernel
theorem dX6_turnRock_23 : decode cX6_turnRock 23 = .ok (.ixor, 1) := by decide +kernel
theorem dX6_turnRock_24 : decode cX6_turnRock 24 = .ok (.iastore, 1) := by decide +kernel
theorem dX6_turnRock_25 : decode cX6_turnRock 25 = .ok (.return_, 1) := by decide +kernel
theorem dX6_shipError_0 : decode cX6_shipError 0 = .ok (.iload_n 2, 1) := by decide +kernel
theorem dX6_shipError_1 : decode cX6_shipError 1 = .ok (.invokestatic 68, 3) := by decide +kernel
theorem dX6_shipError_4 : decode cX6_shipError 4 = .ok (.ifCond .eq 10, 3) := by decide +kernel
theorem dX6_shipError_7 : decode cX6_shipError 7 = .ok (.iload_n 3, 1) := by decide +kernel
theorem dX6_shipError_8 : decode cX6_shipError 8 = .ok (.invokestatic 68, 3) := by decide +kernel
theorem dX6_shipError_11 : decode cX6_shipError 11 = .ok (.ifCond .ne 5, 3) := by decide +kernel
theorem dX6_shipError_14 : decode cX6_shipError 14 = .ok (.iconst (-1), 1) := by decide +kernel
theorem dX6_shipError_15 : decode cX6_shipError 15 = .ok (.ireturn, 1) := by decide +kernel
theorem dX6_shipError_16 : decode cX6_shipError 16 = .ok (.iload_n 1, 1) := by decide +kernel
theorem dX6_shipError_17 : decode cX6_shipError 17 = .ok (.iconst 1, 1) := by decide +kernel
theorem dX6_shipError_18 : decode cX6_shipError 18 = .ok (.if_icmp .lt 9, 3) := by decide +kernel
theorem dX6_shipError_21 : decode cX6_shipError 21 = .ok (.iload_n 1, 1) := by decide +kernel
theorem dX6_shipError_22 : decode cX6_shipError 22 = .ok (.bipush 99, 2) := by decide +kernel
theorem dX6_shipError_24 : decode cX6_shipError 24 = .ok (.if_icmp .le 6, 3) := by decide +kernel
theorem dX6_shipError_27 : decode cX6_shipError 27 = .ok (.bipush (-2), 2) := by decide +kernel
theorem dX6_shipError_29 : decode cX6_shipError 29 = .ok (.ireturn, 1) := by decide +kernel
theorem dX6_shipError_30 : decode cX6_shipError 30 = .ok (.iload_n 2, 1) := by decide +kernel
theorem dX6_shipError_31 : decode cX6_shipError 31 = .ok (.iload_n 3, 1) := by decide +kernel
theorem dX6_shipError_32 : decode cX6_shipError 32 = .ok (.if_icmp .eq 29, 3) := by decide +kernel
theorem dX6_shipError_35 : decode cX6_shipError 35 = .ok (.aload_n 0, 1) := by decide +kernel
theorem dX6_shipError_36 : decode cX6_shipError 36 = .ok (.iload_n 2, 1) := by decide +kernel
theorem dX6_shipError_37 : decode cX6_shipError 37 = .ok (.invokevirtual 81, 3) := by decide +kernel
theorem dX6_shipError_40 : decode cX6_shipError 40 = .ok (.ifCond .ne 21, 3) := by decide +kernel
theorem dX6_shipError_43 : decode cX6_shipError 43 = .ok (.aload_n 0, 1) := by decide +kernel
theorem dX6_shipError_44 : decode cX6_shipError 44 = .ok (.iload_n 3, 1) := by decide +kernel
theorem dX6_shipError_45 : decode cX6_shipError 45 = .ok (.invokevirtual 81, 3) := by decide +kernel
theorem dX6_shipError_48 : decode cX6_shipError 48 = .ok (.ifCond .ne 13, 3) := by decide +kernel
theorem dX6_shipError_51 : decode cX6_shipError 51 = .ok (.aload_n 0, 1) := by decide +kernel
theorem dX6_shipError_52 : decode cX6_shipError 52 = .ok (.iload_n 2, 1) := by decide +kernel
theorem dX6_shipError_53 : decode cX6_shipError 53 = .ok (.invokevirtual 84, 3) := by decide +kernel
theorem dX6_shipError_56 : decode cX6_shipError 56 = .ok (.bipush (-5), 2) := by decide +kernel
theorem dX6_shipError_58 : decode cX6_shipError 58 = .ok (.if_icmp .eq 6, 3) := by decide +kernel
theorem dX6_shipError_61 : decode cX6_shipError 61 = .ok (.bipush (-4), 2) := by decide +kernel
theorem dX6_shipError_63 : decode cX6_shipError 63 = .ok (.ireturn, 1) := by decide +kernel
theorem dX6_shipError_64 : decode cX6_shipError 64 = .ok (.aload_n 0, 1) := by decide +kernel
theorem dX6_shipError_65 : decode cX6_shipError 65 = .ok (.getfield 33, 3) := by decide +kernel
theorem dX6_shipError_68 : decode cX6_shipError 68 = .ok (.bipush 8, 2) := by decide +kernel
theorem dX6_shipError_70 : decode cX6_shipError 70 = .ok (.if_icmp .ge 7, 3) := by decide +kernel
theorem dX6_shipError_73 : decode cX6_shipError 73 = .ok (.iconst 0, 1) := by decide +kernel
theorem dX6_shipError_74 : decode cX6_shipError 74 = .ok (.goto 5, 3) := by decide +kernel
theorem dX6_shipError_77 : decode cX6_shipError 77 = .ok (.bipush (-3), 2) := by decide +kernel
theorem dX6_shipError_79 : decode cX6_shipError 79 = .ok (.ireturn, 1) := by decide +kernel
theorem dX6_addShip_0 : decode cX6_addShip 0 = .ok (.aload_n 0, 1) := by decide +kernel
theorem dX6_addShip_1 : decode cX6_addShip 1 = .ok (.getfield 33, 3) := by decide +kernel
theorem dX6_addShip_4 : decode cX6_addShip 4 = .ok (.istore 4, 2) := by decide +kernel
theorem dX6_addShip_6 : decode cX6_addShip 6 = .ok (.iload 4, 2) := by decide +kernel
theorem dX6_addShip_8 : decode cX6_addShip 8 = .ok (.invokestatic 87, 3) := by decide +kernel
theorem dX6_addShip_11 : decode cX6_addShip 11 = .ok (.ifCond .ne 6, 3) := by decide +kernel
theorem dX6_addShip_14 : decode cX6_addShip 14 = .ok (.bipush (-3), 2) := by decide +kernel
theorem dX6_addShip_16 : decode cX6_addShip 16 = .ok (.ireturn, 1) := by decide +kernel
theorem dX6_addShip_17 : decode cX6_addShip 17 = .ok (.aload_n 0, 1) := by decide +kernel
theorem dX6_addShip_18 : decode cX6_addShip 18 = .ok (.getfield 29, 3) := by decide +kernel
theorem dX6_addShip_21 : decode cX6_addShip 21 = .ok (.iload 4, 2) := by decide +kernel
theorem dX6_addShip_23 : decode cX6_addShip 23 = .ok (.aaload, 1) := by decide +kernel
theorem dX6_addShip_24 : decode cX6_addShip 24 = .ok (.iload_n 1, 1) := by decide +kernel
theorem dX6_addShip_25 : decode cX6_addShip 25 = .ok (.iload_n 2, 1) := by decide +kernel
theorem dX6_addShip_26 : decode cX6_addShip 26 = .ok (.iload_n 3, 1) := by decide +kernel
theorem dX6_addShip_27 : decode cX6_addShip 27 = .ok (.invokevirtual 90, 3) := by decide +kernel
theorem dX6_addShip_30 : decode cX6_addShip 30 = .ok (.aload_n 0, 1) := by decide +kernel
theorem dX6_addShip_31 : decode cX6_addShip 31 = .ok (.dup, 1) := by decide +kernel
theorem dX6_addShip_32 : decode cX6_addShip 32 = .ok (.getfield 33, 3) := by decide +kernel
theorem dX6_addShip_35 : decode cX6_addShip 35 = .ok (.iconst 1, 1) := by decide +kernel
theorem dX6_addShip_36 : decode cX6_addShip 36 = .ok (.iadd, 1) := by decide +kernel
theorem dX6_addShip_37 : decode cX6_addShip 37 = .ok (.putfield 33, 3) := by decide +kernel
theorem dX6_addShip_40 : decode cX6_addShip 40 = .ok (.iload 4, 2) := by decide +kernel
theorem dX6_addShip_42 : decode cX6_addShip 42 = .ok (.ireturn, 1) := by decide +kernel
theorem dX6_shipAtSeaIn_0 : decode cX6_shipAtSeaIn 0 = .ok (.iconst 0, 1) := by decide +kernel
theorem dX6_shipAtSeaIn_1 : decode cX6_shipAtSeaIn 1 = .ok (.istore_n 2, 1) := by decide +kernel
theorem dX6_shipAtSeaIn_2 : decode cX6_shipAtSeaIn 2 = .ok (.iload_n 2, 1) := by decide +kernel
theorem dX6_shipAtSeaIn_3 : decode cX6_shipAtSeaIn 3 = .ok (.bipush 8, 2) := by decide +kernel
theorem dX6_shipAtSeaIn_5 : decode cX6_shipAtSeaIn 5 = .ok (.if_icmp .ge 24, 3) := by decide +kernel
theorem dX6_shipAtSeaIn_8 : decode cX6_shipAtSeaIn 8 = .ok (.aload_n 0, 1) := by decide +kernel
theorem dX6_shipAtSeaIn_9 : decode cX6_shipAtSeaIn 9 = .ok (.getfield 29, 3) := by decide +kernel
theorem dX6_shipAtSeaIn_12 : decode cX6_shipAtSeaIn 12 = .ok (.iload_n 2, 1) := by decide +kernel
theorem dX6_shipAtSeaIn_13 : decode cX6_shipAtSeaIn 13 = .ok (.aaload, 1) := by decide +kernel
theorem dX6_shipAtSeaIn_14 : decode cX6_shipAtSeaIn 14 = .ok (.iload_n 1, 1) := by decide +kernel
theorem dX6_shipAtSeaIn_15 : decode cX6_shipAtSeaIn 15 = .ok (.invokevirtual 94, 3) := by decide +kernel
theorem dX6_shipAtSeaIn_18 : decode cX6_shipAtSeaIn 18 = .ok (.ifCond .eq 5, 3) := by decide +kernel
theorem dX6_shipAtSeaIn_21 : decode cX6_shipAtSeaIn 21 = .ok (.iload_n 2, 1) := by decide +kernel
theorem dX6_shipAtSeaIn_22 : decode cX6_shipAtSeaIn 22 = .ok (.ireturn, 1) := by decide +kernel
theorem dX6_shipAtSeaIn_23 : decode cX6_shipAtSeaIn 23 = .ok (.iinc 2 1, 3) := by decide +kernel
theorem dX6_shipAtSeaIn_26 : decode cX6_shipAtSeaIn 26 = .ok (.goto (-24), 3) := by decide +kernel
theorem dX6_shipAtSeaIn_29 : decode cX6_shipAtSeaIn 29 = .ok (.bipush (-5), 2) := by decide +kernel
theorem dX6_shipAtSeaIn_31 : decode cX6_shipAtSeaIn 31 = .ok (.ireturn, 1) := by decide +kernel
theorem dX6_shipsThatAre_0 : decode cX6_shipsThatAre 0 = .ok (.iconst 0, 1) := by decide +kernel
theorem dX6_shipsThatAre_1 : decode cX6_shipsThatAre 1 = .ok (.istore_n 2, 1) := by decide +kernel
theorem dX6_shipsThatAre_2 : decode cX6_shipsThatAre 2 = .ok (.aload_n 0, 1) := by decide +kernel
theorem dX6_shipsThatAre_3 : decode cX6_shipsThatAre 3 = .ok (.getfield 29, 3) := by decide +kernel
theorem dX6_shipsThatAre_6 : decode cX6_shipsThatAre 6 = .ok (.astore_n 3, 1) := by decide +kernel
theorem dX6_shipsThatAre_7 : decode cX6_shipsThatAre 7 = .ok (.aload_n 3, 1) := by decide +kernel
theorem dX6_shipsThatAre_8 : decode cX6_shipsThatAre 8 = .ok (.arraylength, 1) := by decide +kernel
theorem dX6_shipsThatAre_9 : decode cX6_shipsThatAre 9 = .ok (.istore 4, 2) := by decide +kernel
theorem dX6_shipsThatAre_11 : decode cX6_shipsThatAre 11 = .ok (.iconst 0, 1) := by decide +kernel
theorem dX6_shipsThatAre_12 : decode cX6_shipsThatAre 12 = .ok (.istore 5, 2) := by decide +kernel
theorem dX6_shipsThatAre_14 : decode cX6_shipsThatAre 14 = .ok (.iload 5, 2) := by decide +kernel
theorem dX6_shipsThatAre_16 : decode cX6_shipsThatAre 16 = .ok (.iload 4, 2) := by decide +kernel
theorem dX6_shipsThatAre_18 : decode cX6_shipsThatAre 18 = .ok (.if_icmp .ge 27, 3) := by decide +kernel
theorem dX6_shipsThatAre_21 : decode cX6_shipsThatAre 21 = .ok (.aload_n 3, 1) := by decide +kernel
theorem dX6_shipsThatAre_22 : decode cX6_shipsThatAre 22 = .ok (.iload 5, 2) := by decide +kernel
theorem dX6_shipsThatAre_24 : decode cX6_shipsThatAre 24 = .ok (.aaload, 1) := by decide +kernel
theorem dX6_shipsThatAre_25 : decode cX6_shipsThatAre 25 = .ok (.astore 6, 2) := by decide +kernel
theorem dX6_shipsThatAre_27 : decode cX6_shipsThatAre 27 = .ok (.aload 6, 2) := by decide +kernel
theorem dX6_shipsThatAre_29 : decode cX6_shipsThatAre 29 = .ok (.getfield 97, 3) := by decide +kernel
theorem dX6_shipsThatAre_32 : decode cX6_shipsThatAre 32 = .ok (.iload_n 1, 1) := by decide +kernel
theorem dX6_shipsThatAre_33 : decode cX6_shipsThatAre 33 = .ok (.if_icmp .ne 6, 3) := by decide +kernel
theorem dX6_shipsThatAre_36 : decode cX6_shipsThatAre 36 = .ok (.iinc 2 1, 3) := by decide +kernel
theorem dX6_shipsThatAre_39 : decode cX6_shipsThatAre 39 = .ok (.iinc 5 1, 3) := by decide +kernel
theorem dX6_shipsThatAre_42 : decode cX6_shipsThatAre 42 = .ok (.goto (-28), 3) := by decide +kernel
theorem dX6_shipsThatAre_45 : decode cX6_shipsThatAre 45 = .ok (.iload_n 2, 1) := by decide +kernel
theorem dX6_shipsThatAre_46 : decode cX6_shipsThatAre 46 = .ok (.ireturn, 1) := by decide +kernel
theorem dX6_worthHome_0 : decode cX6_worthHome 0 = .ok (.iconst 0, 1) := by decide +kernel
theorem dX6_worthHome_1 : decode cX6_worthHome 1 = .ok (.istore_n 1, 1) := by decide +kernel
theorem dX6_worthHome_2 : decode cX6_worthHome 2 = .ok (.aload_n 0, 1) := by decide +kernel
theorem dX6_worthHome_3 : decode cX6_worthHome 3 = .ok (.getfield 29, 3) := by decide +kernel
theorem dX6_worthHome_6 : decode cX6_worthHome 6 = .ok (.astore_n 2, 1) := by decide +kernel
theorem dX6_worthHome_7 : decode cX6_worthHome 7 = .ok (.aload_n 2, 1) := by decide +kernel
theorem dX6_worthHome_8 : decode cX6_worthHome 8 = .ok (.arraylength, 1) := by decide +kernel
theorem dX6_worthHome_9 : decode cX6_worthHome 9 = .ok (.istore_n 3, 1) := by decide +kernel
theorem dX6_worthHome_10 : decode cX6_worthHome 10 = .ok (.iconst 0, 1) := by decide +kernel
theorem dX6_worthHome_11 : decode cX6_worthHome 11 = .ok (.istore 4, 2) := by decide +kernel
theorem dX6_worthHome_13 : decode cX6_worthHome 13 = .ok (.iload 4, 2) := by decide +kernel
theorem dX6_worthHome_15 : decode cX6_worthHome 15 = .ok (.iload_n 3, 1) := by decide +kernel
theorem dX6_worthHome_16 : decode cX6_worthHome 16 = .ok (.if_icmp .ge 32, 3) := by decide +kernel
theorem dX6_worthHome_19 : decode cX6_worthHome 19 = .ok (.aload_n 2, 1) := by decide +kernel
theorem dX6_worthHome_20 : decode cX6_worthHome 20 = .ok (.iload 4, 2) := by decide +kernel
theorem dX6_worthHome_22 : decode cX6_worthHome 22 = .ok (.aaload, 1) := by decide +kernel
theorem dX6_worthHome_23 : decode cX6_worthHome 23 = .ok (.astore 5, 2) := by decide +kernel
theorem dX6_worthHome_25 : decode cX6_worthHome 25 = .ok (.aload 5, 2) := by decide +kernel
theorem dX6_worthHome_27 : decode cX6_worthHome 27 = .ok (.getfield 97, 3) := by decide +kernel
theorem dX6_worthHome_30 : decode cX6_worthHome 30 = .ok (.iconst 1, 1) := by decide +kernel
theorem dX6_worthHome_31 : decode cX6_worthHome 31 = .ok (.if_icmp .ne 11, 3) := by decide +kernel
theorem dX6_worthHome_34 : decode cX6_worthHome 34 = .ok (.iload_n 1, 1) := by decide +kernel
theorem dX6_worthHome_35 : decode cX6_worthHome 35 = .ok (.aload 5, 2) := by decide +kernel
theorem dX6_worthHome_37 : decode cX6_worthHome 37 = .ok (.getfield 100, 3) := by decide +kernel
theorem dX6_worthHome_40 : decode cX6_worthHome 40 = .ok (.iadd, 1) := by decide +kernel
theorem dX6_worthHome_41 : decode cX6_worthHome 41 = .ok (.istore_n 1, 1) := by decide +kernel
theorem dX6_worthHome_42 : decode cX6_worthHome 42 = .ok (.iinc 4 1, 3) := by decide +kernel
theorem dX6_worthHome_45 : decode cX6_worthHome 45 = .ok (.goto (-32), 3) := by decide +kernel
theorem dX6_worthHome_48 : decode cX6_worthHome 48 = .ok (.iload_n 1, 1) := by decide +kernel
theorem dX6_worthHome_49 : decode cX6_worthHome 49 = .ok (.ireturn, 1) := by decide +kernel
theorem dX6_placeOf_0 : decode cX6_placeOf 0 = .ok (.iload_n 1, 1) := by decide +kernel
theorem dX6_placeOf_1 : decode cX6_placeOf 1 = .ok (.invokestatic 87, 3) := by decide +kernel
theorem dX6_placeOf_4 : decode cX6_placeOf 4 = .ok (.ifCond .eq 15, 3) := by decide +kernel
theorem dX6_placeOf_7 : decode cX6_placeOf 7 = .ok (.aload_n 0, 1) := by decide +kernel
theorem dX6_placeOf_8 : decode cX6_placeOf 8 = .ok (.getfield 29, 3) := by decide +kernel
theorem dX6_placeOf_11 : decode cX6_placeOf 11 = .ok (.iload_n 1, 1) := by decide +kernel
theorem dX6_placeOf_12 : decode cX6_placeOf 12 = .ok (.aaload, 1) := by decide +kernel
theorem dX6_placeOf_13 : decode cX6_placeOf 13 = .ok (.getfield 97, 3) := by decide +kernel
theorem dX6_placeOf_16 : decode cX6_placeOf 16 = .ok (.ifCond .eq 6, 3) := by decide +kernel
theorem dX6_placeOf_19 : decode cX6_placeOf 19 = .ok (.bipush (-5), 2) := by decide +kernel
theorem dX6_placeOf_21 : decode cX6_placeOf 21 = .ok (.ireturn, 1) := by decide +kernel
theorem dX6_placeOf_22 : decode cX6_placeOf 22 = .ok (.aload_n 0, 1) := by decide +kernel
theorem dX6_placeOf_23 : decode cX6_placeOf 23 = .ok (.getfield 29, 3) := by decide +kernel
theorem dX6_placeOf_26 : decode cX6_placeOf 26 = .ok (.iload_n 1, 1) := by decide +kernel
theorem dX6_placeOf_27 : decode cX6_placeOf 27 = .ok (.aaload, 1) := by decide +kernel
theorem dX6_placeOf_28 : decode cX6_placeOf 28 = .ok (.getfield 100, 3) := by decide +kernel
theorem dX6_placeOf_31 : decode cX6_placeOf 31 = .ok (.istore_n 2, 1) := by decide +kernel
theorem dX6_placeOf_32 : decode cX6_placeOf 32 = .ok (.iconst 0, 1) := by decide +kernel
theorem dX6_placeOf_33 : decode cX6_placeOf 33 = .ok (.istore_n 3, 1) := by decide +kernel
theorem dX6_placeOf_34 : decode cX6_placeOf 34 = .ok (.iconst 0, 1) := by decide +kernel
theorem dX6_placeOf_35 : decode cX6_placeOf 35 = .ok (.istore 4, 2) := by decide +kernel
theorem dX6_placeOf_37 : decode cX6_placeOf 37 = .ok (.iload 4, 2) := by decide +kernel
theorem dX6_placeOf_39 : decode cX6_placeOf 39 = .ok (.bipush 8, 2) := by decide +kernel
theorem dX6_placeOf_41 : decode cX6_placeOf 41 = .ok (.if_icmp .ge 71, 3) := by decide +kernel
theorem dX6_placeOf_44 : decode cX6_placeOf 44 = .ok (.aload_n 0, 1) := by decide +kernel
theorem dX6_placeOf_45 : decode cX6_placeOf 45 = .ok (.getfield 29, 3) := by decide +kernel
theorem dX6_placeOf_48 : decode cX6_placeOf 48 = .ok (.iload 4, 2) := by decide +kernel
theorem dX6_placeOf_50 : decode cX6_placeOf 50 = .ok (.aaload, 1) := by decide +kernel
theorem dX6_placeOf_51 : decode cX6_placeOf 51 = .ok (.getfield 100, 3) := by decide +kernel
theorem dX6_placeOf_54 : decode cX6_placeOf 54 = .ok (.iload_n 2, 1) := by decide +kernel
theorem dX6_placeOf_55 : decode cX6_placeOf 55 = .ok (.if_icmp .gt 23, 3) := by decide +kernel
theorem dX6_placeOf_58 : decode cX6_placeOf 58 = .ok (.aload_n 0, 1) := by decide +kernel
theorem dX6_placeOf_59 : decode cX6_placeOf 59 = .ok (.getfield 29, 3) := by decide +kernel
theorem dX6_placeOf_62 : decode cX6_placeOf 62 = .ok (.iload 4, 2) := by decide +kernel
theorem dX6_placeOf_64 : decode cX6_placeOf 64 = .ok (.aaload, 1) := by decide +kernel
theorem dX6_placeOf_65 : decode cX6_placeOf 65 = .ok (.getfield 100, 3) := by decide +kernel
theorem dX6_placeOf_68 : decode cX6_placeOf 68 = .ok (.iload_n 2, 1) := by decide +kernel
theorem dX6_placeOf_69 : decode cX6_placeOf 69 = .ok (.if_icmp .ne 13, 3) := by decide +kernel
theorem dX6_placeOf_72 : decode cX6_placeOf 72 = .ok (.iload 4, 2) := by decide +kernel
theorem dX6_placeOf_74 : decode cX6_placeOf 74 = .ok (.iload_n 1, 1) := by decide +kernel
theorem dX6_placeOf_75 : decode cX6_placeOf 75 = .ok (.if_icmp .ge 7, 3) := by decide +kernel
theorem dX6_placeOf_78 : decode cX6_placeOf 78 = .ok (.iconst 1, 1) := by decide +kernel
theorem dX6_placeOf_79 : decode cX6_placeOf 79 = .ok (.goto 4, 3) := by decide +kernel
theorem dX6_placeOf_82 : decode cX6_placeOf 82 = .ok (.iconst 0, 1) := by decide +kernel
theorem dX6_placeOf_83 : decode cX6_placeOf 83 = .ok (.istore 5, 2) := by decide +kernel
theorem dX6_placeOf_85 : decode cX6_placeOf 85 = .ok (.aload_n 0, 1) := by decide +kernel
theorem dX6_placeOf_86 : decode cX6_placeOf 86 = .ok (.getfield 29, 3) := by decide +kernel
theorem dX6_placeOf_89 : decode cX6_placeOf 89 = .ok (.iload 4, 2) := by decide +kernel
theorem dX6_placeOf_91 : decode cX6_placeOf 91 = .ok (.aaload, 1) := by decide +kernel
theorem dX6_placeOf_92 : decode cX6_placeOf 92 = .ok (.getfield 97, 3) := by decide +kernel
theorem dX6_placeOf_95 : decode cX6_placeOf 95 = .ok (.ifCond .ne 11, 3) := by decide +kernel
theorem dX6_placeOf_98 : decode cX6_placeOf 98 = .ok (.iload 5, 2) := by decide +kernel
theorem dX6_placeOf_100 : decode cX6_placeOf 100 = .ok (.ifCond .eq 6, 3) := by decide +kernel
theorem dX6_placeOf_103 : decode cX6_placeOf 103 = .ok (.iinc 3 1, 3) := by decide +kernel
theorem dX6_placeOf_106 : decode cX6_placeOf 106 = .ok (.iinc 4 1, 3) := by decide +kernel
theorem dX6_placeOf_109 : decode cX6_placeOf 109 = .ok (.goto (-72), 3) := by decide +kernel
theorem dX6_placeOf_112 : decode cX6_placeOf 112 = .ok (.iload_n 3, 1) := by decide +kernel
theorem dX6_placeOf_113 : decode cX6_placeOf 113 = .ok (.ireturn, 1) := by decide +kernel
theorem dX6_canLayCard_0 : decode cX6_canLayCard 0 = .ok (.iload_n 1, 1) := by decide +kernel
theorem dX6_canLayCard_1 : decode cX6_canLayCard 1 = .ok (.iload_n 2, 1) := by decide +kernel
theorem dX6_canLayCard_2 : decode cX6_canLayCard 2 = .ok (.if_icmp .eq 33, 3) := by decide +kernel
theorem dX6_canLayCard_5 : decode cX6_canLayCard 5 = .ok (.aload_n 0, 1) := by decide +kernel
theorem dX6_canLayCard_6 : decode cX6_canLayCard 6 = .ok (.getfield 23, 3) := by decide +kernel
theorem dX6_canLayCard_9 : decode cX6_canLayCard 9 = .ok (.iload_n 1, 1) := by decide +kernel
theorem dX6_canLayCard_10 : decode cX6_canLayCard 10 = .ok (.aaload, 1) := by decide +kernel
theorem dX6_canLayCard_11 : decode cX6_canLayCard 11 = .ok (.getfield 103, 3) := by decide +kernel
theorem dX6_canLayCard_14 : decode cX6_canLayCard 14 = .ok (.ifCond .le 21, 3) := by decide +kernel
theorem dX6_canLayCard_17 : decode cX6_canLayCard 17 = .ok (.aload_n 0, 1) := by decide +kernel
theorem dX6_canLayCard_18 : decode cX6_canLayCard 18 = .ok (.getfield 17, 3) := by decide +kernel
theorem dX6_canLayCard_21 : decode cX6_canLayCard 21 = .ok (.iload_n 2, 1) := by decide +kernel
theorem dX6_canLayCard_22 : decode cX6_canLayCard 22 = .ok (.aaload, 1) := by decide +kernel
theorem dX6_canLayCard_23 : decode cX6_canLayCard 23 = .ok (.getfield 106, 3) := by decide +kernel
theorem dX6_canLayCard_26 : decode cX6_canLayCard 26 = .ok (.bipush 9, 2) := by decide +kernel
theorem dX6_canLayCard_28 : decode cX6_canLayCard 28 = .ok (.if_icmp .ge 7, 3) := by decide +kernel
theorem dX6_canLayCard_31 : decode cX6_canLayCard 31 = .ok (.iconst 1, 1) := by decide +kernel
theorem dX6_canLayCard_32 : decode cX6_canLayCard 32 = .ok (.goto 4, 3) := by decide +kernel
theorem dX6_canLayCard_35 : decode cX6_canLayCard 35 = .ok (.iconst 0, 1) := by decide +kernel
theorem dX6_canLayCard_36 : decode cX6_canLayCard 36 = .ok (.ireturn, 1) := by decide +kernel
theorem dX6_debts_0 : decode cX6_debts 0 = .ok (.iconst 0, 1) := by decide +kernel
theorem dX6_debts_1 : decode cX6_debts 1 = .ok (.istore_n 1, 1) := by decide +kernel
theorem dX6_debts_2 : decode cX6_debts 2 = .ok (.aload_n 0, 1) := by decide +kernel
theorem dX6_debts_3 : decode cX6_debts 3 = .ok (.getfield 23, 3) := by decide +kernel
theorem dX6_debts_6 : decode cX6_debts 6 = .ok (.astore_n 2, 1) := by decide +kernel
theorem dX6_debts_7 : decode cX6_debts 7 = .ok (.aload_n 2, 1) := by decide +kernel
theorem dX6_debts_8 : decode cX6_debts 8 = .ok (.arraylength, 1) := by decide +kernel
theorem dX6_debts_9 : decode cX6_debts 9 = .ok (.istore_n 3, 1) := by decide +kernel
theorem dX6_debts_10 : decode cX6_debts 10 = .ok (.iconst 0, 1) := by decide +kernel
theorem dX6_debts_11 : decode cX6_debts 11 = .ok (.istore 4, 2) := by decide +kernel
theorem dX6_debts_13 : decode cX6_debts 13 = .ok (.iload 4, 2) := by decide +kernel
theorem dX6_debts_15 : decode cX6_debts 15 = .ok (.iload_n 3, 1) := by decide +kernel
theorem dX6_debts_16 : decode cX6_debts 16 = .ok (.if_icmp .ge 23, 3) := by decide +kernel
theorem dX6_debts_19 : decode cX6_debts 19 = .ok (.aload_n 2, 1) := by decide +kernel
theorem dX6_debts_20 : decode cX6_debts 20 = .ok (.iload 4, 2) := by decide +kernel
theorem dX6_debts_22 : decode cX6_debts 22 = .ok (.aaload, 1) := by decide +kernel
theorem dX6_debts_23 : decode cX6_debts 23 = .ok (.astore 5, 2) := by decide +kernel
theorem dX6_debts_25 : decode cX6_debts 25 = .ok (.iload_n 1, 1) := by decide +kernel
theorem dX6_debts_26 : decode cX6_debts 26 = .ok (.aload 5, 2) := by decide +kernel
theorem dX6_debts_28 : decode cX6_debts 28 = .ok (.getfield 109, 3) := by decide +kernel
theorem dX6_debts_31 : decode cX6_debts 31 = .ok (.iadd, 1) := by decide +kernel
theorem dX6_debts_32 : decode cX6_debts 32 = .ok (.istore_n 1, 1) := by decide +kernel
theorem dX6_debts_33 : decode cX6_debts 33 = .ok (.iinc 4 1, 3) := by decide +kernel
theorem dX6_debts_36 : decode cX6_debts 36 = .ok (.goto (-23), 3) := by decide +kernel
theorem dX6_debts_39 : decode cX6_debts 39 = .ok (.iload_n 1, 1) := by decide +kernel
theorem dX6_debts_40 : decode cX6_debts 40 = .ok (.ireturn, 1) := by decide +kernel
theorem dX6_paid_0 : decode cX6_paid 0 = .ok (.iconst 0, 1) := by decide +kernel
theorem dX6_paid_1 : decode cX6_paid 1 = .ok (.istore_n 1, 1) := by decide +kernel
theorem dX6_paid_2 : decode cX6_paid 2 = .ok (.aload_n 0, 1) := by decide +kernel
theorem dX6_paid_3 : decode cX6_paid 3 = .ok (.getfield 23, 3) := by decide +kernel
theorem dX6_paid_6 : decode cX6_paid 6 = .ok (.astore_n 2, 1) := by decide +kernel
theorem dX6_paid_7 : decode cX6_paid 7 = .ok (.aload_n 2, 1) := by decide +kernel
theorem dX6_paid_8 : decode cX6_paid 8 = .ok (.arraylength, 1) := by decide +kernel
theorem dX6_paid_9 : decode cX6_paid 9 = .ok (.istore_n 3, 1) := by decide +kernel
theorem dX6_paid_10 : decode cX6_paid 10 = .ok (.iconst 0, 1) := by decide +kernel
theorem dX6_paid_11 : decode cX6_paid 11 = .ok (.istore 4, 2) := by decide +kernel
theorem dX6_paid_13 : decode cX6_paid 13 = .ok (.iload 4, 2) := by decide +kernel
theorem dX6_paid_15 : decode cX6_paid 15 = .ok (.iload_n 3, 1) := by decide +kernel
theorem dX6_paid_16 : decode cX6_paid 16 = .ok (.if_icmp .ge 23, 3) := by decide +kernel
theorem dX6_paid_19 : decode cX6_paid 19 = .ok (.aload_n 2, 1) := by decide +kernel
theorem dX6_paid_20 : decode cX6_paid 20 = .ok (.iload 4, 2) := by decide +kernel
theorem dX6_paid_22 : decode cX6_paid 22 = .ok (.aaload, 1) := by decide +kernel
theorem dX6_paid_23 : decode cX6_paid 23 = .ok (.astore 5, 2) := by decide +kernel
theorem dX6_paid_25 : decode cX6_paid 25 = .ok (.iload_n 1, 1) := by decide +kernel
theorem dX6_paid_26 : decode cX6_paid 26 = .ok (.aload 5, 2) := by decide +kernel
theorem dX6_paid_28 : decode cX6_paid 28 = .ok (.getfield 112, 3) := by decide +kernel
theorem dX6_paid_31 : decode cX6_paid 31 = .ok (.iadd, 1) := by decide +kernel
theorem dX6_paid_32 : decode cX6_paid 32 = .ok (.istore_n 1, 1) := by decide +kernel
theorem dX6_paid_33 : decode cX6_paid 33 = .ok (.iinc 4 1, 3) := by decide +kernel
theorem dX6_paid_36 : decode cX6_paid 36 = .ok (.goto (-23), 3) := by decide +kernel
theorem dX6_paid_39 : decode cX6_paid 39 = .ok (.iload_n 1, 1) := by decide +kernel
theorem dX6_paid_40 : decode cX6_paid 40 = .ok (.ireturn, 1) := by decide +kernel
theorem dX6_litBy_0 : decode cX6_litBy 0 = .ok (.iconst 0, 1) := by decide +kernel
theorem dX6_litBy_1 : decode cX6_litBy 1 = .ok (.istore 4, 2) := by decide +kernel
theorem dX6_litBy_3 : decode cX6_litBy 3 = .ok (.iconst 0, 1) := by decide +kernel
theorem dX6_litBy_4 : decode cX6_litBy 4 = .ok (.istore 5, 2) := by decide +kernel
theorem dX6_litBy_6 : decode cX6_litBy 6 = .ok (.iload 5, 2) := by decide +kernel
theorem dX6_litBy_8 : decode cX6_litBy 8 = .ok (.iconst 4, 1) := by decide +kernel
theorem dX6_litBy_9 : decode cX6_litBy 9 = .ok (.if_icmp .ge 34, 3) := by decide +kernel
theorem dX6_litBy_12 : decode cX6_litBy 12 = .ok (.aload_n 0, 1) := by decide +kernel
theorem dX6_litBy_13 : decode cX6_litBy 13 = .ok (.getfield 17, 3) := by decide +kernel
theorem dX6_litBy_16 : decode cX6_litBy 16 = .ok (.iload 5, 2) := by decide +kernel
theorem dX6_litBy_18 : decode cX6_litBy 18 = .ok (.aaload, 1) := by decide +kernel
theorem dX6_litBy_19 : decode cX6_litBy 19 = .ok (.iload_n 1, 1) := by decide +kernel
theorem dX6_litBy_20 : decode cX6_litBy 20 = .ok (.iload_n 2, 1) := by decide +kernel
theorem dX6_litBy_21 : decode cX6_litBy 21 = .ok (.iload_n 3, 1) := by decide +kernel
theorem dX6_litBy_22 : decode cX6_litBy 22 = .ok (.invokevirtual 115, 3) := by decide +kernel
theorem dX6_litBy_25 : decode cX6_litBy 25 = .ok (.ifCond .eq 12, 3) := by decide +kernel
theorem dX6_litBy_28 : decode cX6_litBy 28 = .ok (.iload 4, 2) := by decide +kernel
theorem dX6_litBy_30 : decode cX6_litBy 30 = .ok (.iconst 1, 1) := by decide +kernel
theorem dX6_litBy_31 : decode cX6_litBy 31 = .ok (.iload 5, 2) := by decide +kernel
theorem dX6_litBy_33 : decode cX6_litBy 33 = .ok (.ishl, 1) := by decide +kernel
theorem dX6_litBy_34 : decode cX6_litBy 34 = .ok (.ior, 1) := by decide +kernel
theorem dX6_litBy_35 : decode cX6_litBy 35 = .ok (.istore 4, 2) := by decide +kernel
theorem dX6_litBy_37 : decode cX6_litBy 37 = .ok (.iinc 5 1, 3) := by decide +kernel
theorem dX6_litBy_40 : decode cX6_litBy 40 = .ok (.goto (-34), 3) := by decide +kernel
theorem dX6_litBy_43 : decode cX6_litBy 43 = .ok (.iload 4, 2) := by decide +kernel
theorem dX6_litBy_45 : decode cX6_litBy 45 = .ok (.ireturn, 1) := by decide +kernel
theorem dX6_litCells_0 : decode cX6_litCells 0 = .ok (.iconst 0, 1) := by decide +kernel
theorem dX6_litCells_1 : decode cX6_litCells 1 = .ok (.istore_n 2, 1) := by decide +kernel
theorem dX6_litCells_2 : decode cX6_litCells 2 = .ok (.iconst 0, 1) := by decide +kernel
theorem dX6_litCells_3 : decode cX6_litCells 3 = .ok (.istore_n 3, 1) := by decide +kernel
theorem dX6_litCells_4 : decode cX6_litCells 4 = .ok (.iload_n 3, 1) := by decide +kernel
theorem dX6_litCells_5 : decode cX6_litCells 5 = .ok (.bipush 100, 2) := by decide +kernel
theorem dX6_litCells_7 : decode cX6_litCells 7 = .ok (.if_icmp .ge 37, 3) := by decide +kernel
theorem dX6_litCells_10 : decode cX6_litCells 10 = .ok (.iload_n 1, 1) := by decide +kernel
theorem dX6_litCells_11 : decode cX6_litCells 11 = .ok (.ifCond .eq 11, 3) := by decide +kernel
theorem dX6_litCells_14 : decode cX6_litCells 14 = .ok (.aload_n 0, 1) := by decide +kernel
theorem dX6_litCells_15 : decode cX6_litCells 15 = .ok (.iload_n 3, 1) := by decide +kernel
theorem dX6_litCells_16 : decode cX6_litCells 16 = .ok (.invokevirtual 81, 3) := by decide +kernel
theorem dX6_litCells_19 : decode cX6_litCells 19 = .ok (.ifCond .eq 19, 3) := by decide +kernel
theorem dX6_litCells_22 : decode cX6_litCells 22 = .ok (.aload_n 0, 1) := by decide +kernel
theorem dX6_litCells_23 : decode cX6_litCells 23 = .ok (.iload_n 3, 1) := by decide +kernel
theorem dX6_litCells_24 : decode cX6_litCells 24 = .ok (.aload_n 0, 1) := by decide +kernel
theorem dX6_litCells_25 : decode cX6_litCells 25 = .ok (.getfield 40, 3) := by decide +kernel
theorem dX6_litCells_28 : decode cX6_litCells 28 = .ok (.iconst 0, 1) := by decide +kernel
theorem dX6_litCells_29 : decode cX6_litCells 29 = .ok (.invokevirtual 119, 3) := by decide +kernel
theorem dX6_litCells_32 : decode cX6_litCells 32 = .ok (.ifCond .eq 6, 3) := by decide +kernel
theorem dX6_litCells_35 : decode cX6_litCells 35 = .ok (.iinc 2 1, 3) := by decide +kernel
theorem dX6_litCells_38 : decode cX6_litCells 38 = .ok (.iinc 3 1, 3) := by decide +kernel
theorem dX6_litCells_41 : decode cX6_litCells 41 = .ok (.goto (-37), 3) := by decide +kernel
theorem dX6_litCells_44 : decode cX6_litCells 44 = .ok (.iload_n 2, 1) := by decide +kernel
theorem dX6_litCells_45 : decode cX6_litCells 45 = .ok (.ireturn, 1) := by decide +kernel
theorem dX6_passError_0 : decode cX6_passError 0 = .ok (.iload_n 1, 1) := by decide +kernel
theorem dX6_passError_1 : decode cX6_passError 1 = .ok (.iconst 1, 1) := by decide +kernel
theorem dX6_passError_2 : decode cX6_passError 2 = .ok (.if_icmp .lt 9, 3) := by decide +kernel
theorem dX6_passError_5 : decode cX6_passError 5 = .ok (.iload_n 1, 1) := by decide +kernel
theorem dX6_passError_6 : decode cX6_passError 6 = .ok (.bipush 20, 2) := by decide +kernel
theorem dX6_passError_8 : decode cX6_passError 8 = .ok (.if_icmp .le 6, 3) := by decide +kernel
theorem dX6_passError_11 : decode cX6_passError 11 = .ok (.bipush (-2), 2) := by decide +kernel
theorem dX6_passError_13 : decode cX6_passError 13 = .ok (.ireturn, 1) := by decide +kernel
theorem dX6_passError_14 : decode cX6_passError 14 = .ok (.aload_n 0, 1) := by decide +kernel
theorem dX6_passError_15 : decode cX6_passError 15 = .ok (.getfield 40, 3) := by decide +kernel
theorem dX6_passError_18 : decode cX6_passError 18 = .ok (.iload_n 1, 1) := by decide +kernel
theorem dX6_passError_19 : decode cX6_passError 19 = .ok (.iadd, 1) := by decide +kernel
theorem dX6_passError_20 : decode cX6_passError 20 = .ok (.sipush 9999, 3) := by decide +kernel
theorem dX6_passError_23 : decode cX6_passError 23 = .ok (.if_icmp .le 8, 3) := by decide +kernel
theorem dX6_passError_26 : decode cX6_passError 26 = .ok (.bipush (-3), 2) := by decide +kernel
theorem dX6_passError_28 : decode cX6_passError 28 = .ok (.goto 4, 3) := by decide +kernel
theorem dX6_passError_31 : decode cX6_passError 31 = .ok (.iconst 0, 1) := by decide +kernel
theorem dX6_passError_32 : decode cX6_passError 32 = .ok (.ireturn, 1) := by decide +kernel
theorem dX6_passHours_0 : decode cX6_passHours 0 = .ok (.iconst 0, 1) := by decide +kernel
theorem dX6_passHours_1 : decode cX6_passHours 1 = .ok (.istore_n 2, 1) := by decide +kernel
theorem dX6_passHours_2 : decode cX6_passHours 2 = .ok (.iconst 0, 1) := by decide +kernel
theorem dX6_passHours_3 : decode cX6_passHours 3 = .ok (.istore_n 3, 1) := by decide +kernel
theorem dX6_passHours_4 : decode cX6_passHours 4 = .ok (.iload_n 3, 1) := by decide +kernel
theorem dX6_passHours_5 : decode cX6_passHours 5 = .ok (.iload_n 1, 1) := by decide +kernel
theorem dX6_passHours_6 : decode cX6_passHours 6 = .ok (.if_icmp .ge 171, 3) := by decide +kernel
theorem dX6_passHours_9 : decode cX6_passHours 9 = .ok (.aload_n 0, 1) := by decide +kernel
theorem dX6_passHours_10 : decode cX6_passHours 10 = .ok (.getfield 29, 3) := by decide +kernel
theorem dX6_passHours_13 : decode cX6_passHours 13 = .ok (.astore 4, 2) := by decide +kernel
theorem dX6_passHours_15 : decode cX6_passHours 15 = .ok (.aload 4, 2) := by decide +kernel
theorem dX6_passHours_17 : decode cX6_passHours 17 = .ok (.arraylength, 1) := by decide +kernel
theorem dX6_passHours_18 : decode cX6_passHours 18 = .ok (.istore 5, 2) := by decide +kernel
theorem dX6_passHours_20 : decode cX6_passHours 20 = .ok (.iconst 0, 1) := by decide +kernel
theorem dX6_passHours_21 : decode cX6_passHours 21 = .ok (.istore 6, 2) := by decide +kernel
theorem dX6_passHours_23 : decode cX6_passHours 23 = .ok (.iload 6, 2) := by decide +kernel
theorem dX6_passHours_25 : decode cX6_passHours 25 = .ok (.iload 5, 2) := by decide +kernel
theorem dX6_passHours_27 : decode cX6_passHours 27 = .ok (.if_icmp .ge 22, 3) := by decide +kernel
theorem dX6_passHours_30 : decode cX6_passHours 30 = .ok (.aload 4, 2) := by decide +kernel
theorem dX6_passHours_32 : decode cX6_passHours 32 = .ok (.iload 6, 2) := by decide +kernel
theorem dX6_passHours_34 : decode cX6_passHours 34 = .ok (.aaload, 1) := by decide +kernel
theorem dX6_passHours_35 : decode cX6_passHours 35 = .ok (.astore 7, 2) := by decide +kernel
theorem dX6_passHours_37 : decode cX6_passHours 37 = .ok (.aload 7, 2) := by decide +kernel
theorem dX6_passHours_39 : decode cX6_passHours 39 = .ok (.iconst 0, 1) := by decide +kernel
theorem dX6_passHours_40 : decode cX6_passHours 40 = .ok (.putfield 123, 3) := by decide +kernel
theorem dX6_passHours_43 : decode cX6_passHours 43 = .ok (.iinc 6 1, 3) := by decide +kernel
theorem dX6_passHours_46 : decode cX6_passHours 46 = .ok (.goto (-23), 3) := by decide +kernel
theorem dX6_passHours_49 : decode cX6_passHours 49 = .ok (.iconst 0, 1) := by decide +kernel
theorem dX6_passHours_50 : decode cX6_passHours 50 = .ok (.istore 4, 2) := by decide +kernel
theorem dX6_passHours_52 : decode cX6_passHours 52 = .ok (.iload 4, 2) := by decide +kernel
theorem dX6_passHours_54 : decode cX6_passHours 54 = .ok (.bipush 8, 2) := by decide +kernel
theorem dX6_passHours_56 : decode cX6_passHours 56 = .ok (.if_icmp .ge 23, 3) := by decide +kernel
theorem dX6_passHours_59 : decode cX6_passHours 59 = .ok (.aload_n 0, 1) := by decide +kernel
theorem dX6_passHours_60 : decode cX6_passHours 60 = .ok (.aload_n 0, 1) := by decide +kernel
theorem dX6_passHours_61 : decode cX6_passHours 61 = .ok (.invokevirtual 127, 3) := by decide +kernel
theorem dX6_passHours_64 : decode cX6_passHours 64 = .ok (.invokevirtual 131, 3) := by decide +kernel
theorem dX6_passHours_67 : decode cX6_passHours 67 = .ok (.ifCond .eq 6, 3) := by decide +kernel
theorem dX6_passHours_70 : decode cX6_passHours 70 = .ok (.iinc 2 1, 3) := by decide +kernel
theorem dX6_passHours_73 : decode cX6_passHours 73 = .ok (.iinc 4 1, 3) := by decide +kernel
theorem dX6_passHours_76 : decode cX6_passHours 76 = .ok (.goto (-24), 3) := by decide +kernel
theorem dX6_passHours_79 : decode cX6_passHours 79 = .ok (.aload_n 0, 1) := by decide +kernel
theorem dX6_passHours_80 : decode cX6_passHours 80 = .ok (.getfield 23, 3) := by decide +kernel
theorem dX6_passHours_83 : decode cX6_passHours 83 = .ok (.astore 4, 2) := by decide +kernel
theorem dX6_passHours_85 : decode cX6_passHours 85 = .ok (.aload 4, 2) := by decide +kernel
theorem dX6_passHours_87 : decode cX6_passHours 87 = .ok (.arraylength, 1) := by decide +kernel
theorem dX6_passHours_88 : decode cX6_passHours 88 = .ok (.istore 5, 2) := by decide +kernel
theorem dX6_passHours_90 : decode cX6_passHours 90 = .ok (.iconst 0, 1) := by decide +kernel
theorem dX6_passHours_91 : decode cX6_passHours 91 = .ok (.istore 6, 2) := by decide +kernel
theorem dX6_passHours_93 : decode cX6_passHours 93 = .ok (.iload 6, 2) := by decide +kernel
theorem dX6_passHours_95 : decode cX6_passHours 95 = .ok (.iload 5, 2) := by decide +kernel
theorem dX6_passHours_97 : decode cX6_passHours 97 = .ok (.if_icmp .ge 25, 3) := by decide +kernel
theorem dX6_passHours_100 : decode cX6_passHours 100 = .ok (.aload 4, 2) := by decide +kernel
theorem dX6_passHours_102 : decode cX6_passHours 102 = .ok (.iload 6, 2) := by decide +kernel
theorem dX6_passHours_104 : decode cX6_passHours 104 = .ok (.aaload, 1) := by decide +kernel
theorem dX6_passHours_105 : decode cX6_passHours 105 = .ok (.astore 7, 2) := by decide +kernel
theorem dX6_passHours_107 : decode cX6_passHours 107 = .ok (.aload 7, 2) := by decide +kernel
theorem dX6_passHours_109 : decode cX6_passHours 109 = .ok (.aload_n 0, 1) := by decide +kernel
theorem dX6_passHours_110 : decode cX6_passHours 110 = .ok (.getfield 37, 3) := by decide +kernel
theorem dX6_passHours_113 : decode cX6_passHours 113 = .ok (.invokevirtual 135, 3) := by decide +kernel
theorem dX6_passHours_116 : decode cX6_passHours 116 = .ok (.iinc 6 1, 3) := by decide +kernel
theorem dX6_passHours_119 : decode cX6_passHours 119 = .ok (.goto (-26), 3) := by decide +kernel
theorem dX6_passHours_122 : decode cX6_passHours 122 = .ok (.aload_n 0, 1) := by decide +kernel
theorem dX6_passHours_123 : decode cX6_passHours 123 = .ok (.getfield 17, 3) := by decide +kernel
theorem dX6_passHours_126 : decode cX6_passHours 126 = .ok (.astore 4, 2) := by decide +kernel
theorem dX6_passHours_128 : decode cX6_passHours 128 = .ok (.aload 4, 2) := by decide +kernel
theorem dX6_passHours_130 : decode cX6_passHours 130 = .ok (.arraylength, 1) := by decide +kernel
theorem dX6_passHours_131 : decode cX6_passHours 131 = .ok (.istore 5, 2) := by decide +kernel
theorem dX6_passHours_133 : decode cX6_passHours 133 = .ok (.iconst 0, 1) := by decide +kernel
theorem dX6_passHours_134 : decode cX6_passHours 134 = .ok (.istore 6, 2) := by decide +kernel
theorem dX6_passHours_136 : decode cX6_passHours 136 = .ok (.iload 6, 2) := by decide +kernel
theorem dX6_passHours_138 : decode cX6_passHours 138 = .ok (.iload 5, 2) := by decide +kernel
theorem dX6_passHours_140 : decode cX6_passHours 140 = .ok (.if_icmp .ge 21, 3) := by decide +kernel
theorem dX6_passHours_143 : decode cX6_passHours 143 = .ok (.aload 4, 2) := by decide +kernel
theorem dX6_passHours_145 : decode cX6_passHours 145 = .ok (.iload 6, 2) := by decide +kernel
theorem dX6_passHours_147 : decode cX6_passHours 147 = .ok (.aaload, 1) := by decide +kernel
theorem dX6_passHours_148 : decode cX6_passHours 148 = .ok (.astore 7, 2) := by decide +kernel
theorem dX6_passHours_150 : decode cX6_passHours 150 = .ok (.aload 7, 2) := by decide +kernel
theorem dX6_passHours_152 : decode cX6_passHours 152 = .ok (.invokevirtual 139, 3) := by decide +kernel
theorem dX6_passHours_155 : decode cX6_passHours 155 = .ok (.iinc 6 1, 3) := by decide +kernel
theorem dX6_passHours_158 : decode cX6_passHours 158 = .ok (.goto (-22), 3) := by decide +kernel
theorem dX6_passHours_161 : decode cX6_passHours 161 = .ok (.aload_n 0, 1) := by decide +kernel
theorem dX6_passHours_162 : decode cX6_passHours 162 = .ok (.dup, 1) := by decide +kernel
theorem dX6_passHours_163 : decode cX6_passHours 163 = .ok (.getfield 40, 3) := by decide +kernel
theorem dX6_passHours_166 : decode cX6_passHours 166 = .ok (.iconst 1, 1) := by decide +kernel
theorem dX6_passHours_167 : decode cX6_passHours 167 = .ok (.iadd, 1) := by decide +kernel
theorem dX6_passHours_168 : decode cX6_passHours 168 = .ok (.putfield 40, 3) := by decide +kernel
theorem dX6_passHours_171 : decode cX6_passHours 171 = .ok (.iinc 3 1, 3) := by decide +kernel
theorem dX6_passHours_174 : decode cX6_passHours 174 = .ok (.goto (-170), 3) := by decide +kernel
theorem dX6_passHours_177 : decode cX6_passHours 177 = .ok (.iload_n 2, 1) := by decide +kernel
theorem dX6_passHours_178 : decode cX6_passHours 178 = .ok (.ireturn, 1) := by decide +kernel
theorem dX6_nextToGo_0 : decode cX6_nextToGo 0 = .ok (.aconst_null, 1) := by decide +kernel
theorem dX6_nextToGo_1 : decode cX6_nextToGo 1 = .ok (.astore_n 1, 1) := by decide +kernel
theorem dX6_nextToGo_2 : decode cX6_nextToGo 2 = .ok (.aload_n 0, 1) := by decide +kernel
theorem dX6_nextToGo_3 : decode cX6_nextToGo 3 = .ok (.getfield 29, 3) := by decide +kernel
theorem dX6_nextToGo_6 : decode cX6_nextToGo 6 = .ok (.astore_n 2, 1) := by decide +kernel
theorem dX6_nextToGo_7 : decode cX6_nextToGo 7 = .ok (.aload_n 2, 1) := by decide +kernel
theorem dX6_nextToGo_8 : decode cX6_nextToGo 8 = .ok (.arraylength, 1) := by decide +kernel
theorem dX6_nextToGo_9 : decode cX6_nextToGo 9 = .ok (.istore_n 3, 1) := by decide +kernel
theorem dX6_nextToGo_10 : decode cX6_nextToGo 10 = .ok (.iconst 0, 1) := by decide +kernel
theorem dX6_nextToGo_11 : decode cX6_nextToGo 11 = .ok (.istore 4, 2) := by decide +kernel
theorem dX6_nextToGo_13 : decode cX6_nextToGo 13 = .ok (.iload 4, 2) := by decide +kernel
theorem dX6_nextToGo_15 : decode cX6_nextToGo 15 = .ok (.iload_n 3, 1) := by decide +kernel
theorem dX6_nextToGo_16 : decode cX6_nextToGo 16 = .ok (.if_icmp .ge 62, 3) := by decide +kernel
theorem dX6_nextToGo_19 : decode cX6_nextToGo 19 = .ok (.aload_n 2, 1) := by decide +kernel
theorem dX6_nextToGo_20 : decode cX6_nextToGo 20 = .ok (.iload 4, 2) := by decide +kernel
theorem dX6_nextToGo_22 : decode cX6_nextToGo 22 = .ok (.aaload, 1) := by decide +kernel
theorem dX6_nextToGo_23 : decode cX6_nextToGo 23 = .ok (.astore 5, 2) := by decide +kernel
theorem dX6_nextToGo_25 : decode cX6_nextToGo 25 = .ok (.aload 5, 2) := by decide +kernel
theorem dX6_nextToGo_27 : decode cX6_nextToGo 27 = .ok (.getfield 97, 3) := by decide +kernel
theorem dX6_nextToGo_30 : decode cX6_nextToGo 30 = .ok (.ifCond .ne 15, 3) := by decide +kernel
theorem dX6_nextToGo_33 : decode cX6_nextToGo 33 = .ok (.aload 5, 2) := by decide +kernel
theorem dX6_nextToGo_35 : decode cX6_nextToGo 35 = .ok (.getfield 123, 3) := by decide +kernel
theorem dX6_nextToGo_38 : decode cX6_nextToGo 38 = .ok (.ifCond .ne 7, 3) := by decide +kernel
theorem dX6_nextToGo_41 : decode cX6_nextToGo 41 = .ok (.iconst 1, 1) := by decide +kernel
theorem dX6_nextToGo_42 : decode cX6_nextToGo 42 = .ok (.goto 4, 3) := by decide +kernel
theorem dX6_nextToGo_45 : decode cX6_nextToGo 45 = .ok (.iconst 0, 1) := by decide +kernel
theorem dX6_nextToGo_46 : decode cX6_nextToGo 46 = .ok (.istore 6, 2) := by decide +kernel
theorem dX6_nextToGo_48 : decode cX6_nextToGo 48 = .ok (.iload 6, 2) := by decide +kernel
theorem dX6_nextToGo_50 : decode cX6_nextToGo 50 = .ok (.ifCond .eq 22, 3) := by decide +kernel
theorem dX6_nextToGo_53 : decode cX6_nextToGo 53 = .ok (.aload_n 1, 1) := by decide +kernel
theorem dX6_nextToGo_54 : decode cX6_nextToGo 54 = .ok (.ifnull 15, 3) := by decide +kernel
theorem dX6_nextToGo_57 : decode cX6_nextToGo 57 = .ok (.aload 5, 2) := by decide +kernel
theorem dX6_nextToGo_59 : decode cX6_nextToGo 59 = .ok (.getfield 100, 3) := by decide +kernel
theorem dX6_nextToGo_62 : decode cX6_nextToGo 62 = .ok (.aload_n 1, 1) := by decide +kernel
theorem dX6_nextToGo_63 : decode cX6_nextToGo 63 = .ok (.getfield 100, 3) := by decide +kernel
theorem dX6_nextToGo_66 : decode cX6_nextToGo 66 = .ok (.if_icmp .le 6, 3) := by decide +kernel
theorem dX6_nextToGo_69 : decode cX6_nextToGo 69 = .ok (.aload 5, 2) := by decide +kernel
theorem dX6_nextToGo_71 : decode cX6_nextToGo 71 = .ok (.astore_n 1, 1) := by decide +kernel
theorem dX6_nextToGo_72 : decode cX6_nextToGo 72 = .ok (.iinc 4 1, 3) := by decide +kernel
theorem dX6_nextToGo_75 : decode cX6_nextToGo 75 = .ok (.goto (-62), 3) := by decide +kernel
theorem dX6_nextToGo_78 : decode cX6_nextToGo 78 = .ok (.aload_n 1, 1) := by decide +kernel
theorem dX6_nextToGo_79 : decode cX6_nextToGo 79 = .ok (.areturn, 1) := by decide +kernel
theorem dX6_goesToWreck_0 : decode cX6_goesToWreck 0 = .ok (.aload_n 1, 1) := by decide +kernel
theorem dX6_goesToWreck_1 : decode cX6_goesToWreck 1 = .ok (.ifnonnull 5, 3) := by decide +kernel
theorem dX6_goesToWreck_4 : decode cX6_goesToWreck 4 = .ok (.iconst 0, 1) := by decide +kernel
theorem dX6_goesToWreck_5 : decode cX6_goesToWreck 5 = .ok (.ireturn, 1) := by decide +kernel
theorem dX6_goesToWreck_6 : decode cX6_goesToWreck 6 = .ok (.aload_n 1, 1) := by decide +kernel
theorem dX6_goesToWreck_7 : decode cX6_goesToWreck 7 = .ok (.iconst 1, 1) := by decide +kernel
theorem dX6_goesToWreck_8 : decode cX6_goesToWreck 8 = .ok (.putfield 123, 3) := by decide +kernel
theorem dX6_goesToWreck_11 : decode cX6_goesToWreck 11 = .ok (.aload_n 1, 1) := by decide +kernel
theorem dX6_goesToWreck_12 : decode cX6_goesToWreck 12 = .ok (.invokevirtual 142, 3) := by decide +kernel
theorem dX6_goesToWreck_15 : decode cX6_goesToWreck 15 = .ok (.istore_n 2, 1) := by decide +kernel
theorem dX6_goesToWreck_16 : decode cX6_goesToWreck 16 = .ok (.aload_n 0, 1) := by decide +kernel
theorem dX6_goesToWreck_17 : decode cX6_goesToWreck 17 = .ok (.iload_n 2, 1) := by decide +kernel
theorem dX6_goesToWreck_18 : decode cX6_goesToWreck 18 = .ok (.invokevirtual 81, 3) := by decide +kernel
theorem dX6_goesToWreck_21 : decode cX6_goesToWreck 21 = .ok (.istore_n 3, 1) := by decide +kernel
theorem dX6_goesToWreck_22 : decode cX6_goesToWreck 22 = .ok (.aload_n 0, 1) := by decide +kernel
theorem dX6_goesToWreck_23 : decode cX6_goesToWreck 23 = .ok (.iload_n 2, 1) := by decide +kernel
theorem dX6_goesToWreck_24 : decode cX6_goesToWreck 24 = .ok (.invokevirtual 84, 3) := by decide +kernel
theorem dX6_goesToWreck_27 : decode cX6_goesToWreck 27 = .ok (.bipush (-5), 2) := by decide +kernel
theorem dX6_goesToWreck_29 : decode cX6_goesToWreck 29 = .ok (.if_icmp .ne 20, 3) := by decide +kernel
theorem dX6_goesToWreck_32 : decode cX6_goesToWreck 32 = .ok (.iload_n 3, 1) := by decide +kernel
theorem dX6_goesToWreck_33 : decode cX6_goesToWreck 33 = .ok (.ifCond .eq 28, 3) := by decide +kernel
theorem dX6_goesToWreck_36 : decode cX6_goesToWreck 36 = .ok (.aload_n 0, 1) := by decide +kernel
theorem dX6_goesToWreck_37 : decode cX6_goesToWreck 37 = .ok (.iload_n 2, 1) := by decide +kernel
theorem dX6_goesToWreck_38 : decode cX6_goesToWreck 38 = .ok (.aload_n 0, 1) := by decide +kernel
theorem dX6_goesToWreck_39 : decode cX6_goesToWreck 39 = .ok (.getfield 40, 3) := by decide +kernel
theorem dX6_goesToWreck_42 : decode cX6_goesToWreck 42 = .ok (.iconst 0, 1) := by decide +kernel
theorem dX6_goesToWreck_43 : decode cX6_goesToWreck 43 = .ok (.invokevirtual 119, 3) := by decide +kernel
theorem dX6_goesToWreck_46 : decode cX6_goesToWreck 46 = .ok (.ifCond .eq 15, 3) := by decide +kernel
theorem dX6_goesToWreck_49 : decode cX6_goesToWreck 49 = .ok (.aload_n 1, 1) := by decide +kernel
theorem dX6_goesToWreck_50 : decode cX6_goesToWreck 50 = .ok (.dup, 1) := by decide +kernel
theorem dX6_goesToWreck_51 : decode cX6_goesToWreck 51 = .ok (.getfield 146, 3) := by decide +kernel
theorem dX6_goesToWreck_54 : decode cX6_goesToWreck 54 = .ok (.iconst 1, 1) := by decide +kernel
theorem dX6_goesToWreck_55 : decode cX6_goesToWreck 55 = .ok (.iadd, 1) := by decide +kernel
theorem dX6_goesToWreck_56 : decode cX6_goesToWreck 56 = .ok (.putfield 146, 3) := by decide +kernel
theorem dX6_goesToWreck_59 : decode cX6_goesToWreck 59 = .ok (.iconst 0, 1) := by decide +kernel
theorem dX6_goesToWreck_60 : decode cX6_goesToWreck 60 = .ok (.ireturn, 1) := by decide +kernel
theorem dX6_goesToWreck_61 : decode cX6_goesToWreck 61 = .ok (.iload_n 3, 1) := by decide +kernel
theorem dX6_goesToWreck_62 : decode cX6_goesToWreck 62 = .ok (.ifCond .eq 19, 3) := by decide +kernel
theorem dX6_goesToWreck_65 : decode cX6_goesToWreck 65 = .ok (.aload_n 1, 1) := by decide +kernel
theorem dX6_goesToWreck_66 : decode cX6_goesToWreck 66 = .ok (.iload_n 2, 1) := by decide +kernel
theorem dX6_goesToWreck_67 : decode cX6_goesToWreck 67 = .ok (.invokevirtual 149, 3) := by decide +kernel
theorem dX6_goesToWreck_70 : decode cX6_goesToWreck 70 = .ok (.aload_n 0, 1) := by decide +kernel
theorem dX6_goesToWreck_71 : decode cX6_goesToWreck 71 = .ok (.iload_n 2, 1) := by decide +kernel
theorem dX6_goesToWreck_72 : decode cX6_goesToWreck 72 = .ok (.aload_n 1, 1) := by decide +kernel
theorem dX6_goesToWreck_73 : decode cX6_goesToWreck 73 = .ok (.getfield 100, 3) := by decide +kernel
theorem dX6_goesToWreck_76 : decode cX6_goesToWreck 76 = .ok (.invokevirtual 152, 3) := by decide +kernel
theorem dX6_goesToWreck_79 : decode cX6_goesToWreck 79 = .ok (.iconst 1, 1) := by decide +kernel
theorem dX6_goesToWreck_80 : decode cX6_goesToWreck 80 = .ok (.ireturn, 1) := by decide +kernel
theorem dX6_goesToWreck_81 : decode cX6_goesToWreck 81 = .ok (.aload_n 1, 1) := by decide +kernel
theorem dX6_goesToWreck_82 : decode cX6_goesToWreck 82 = .ok (.iload_n 2, 1) := by decide +kernel
theorem dX6_goesToWreck_83 : decode cX6_goesToWreck 83 = .ok (.invokevirtual 156, 3) := by decide +kernel
theorem dX6_goesToWreck_86 : decode cX6_goesToWreck 86 = .ok (.iconst 0, 1) := by decide +kernel
theorem dX6_goesToWreck_87 : decode cX6_goesToWreck 87 = .ok (.ireturn, 1) := by decide +kernel
theorem dX6_oweWreck_0 : decode cX6_oweWreck 0 = .ok (.iload_n 1, 1) := by decide +kernel
theorem dX6_oweWreck_1 : decode cX6_oweWreck 1 = .ok (.invokestatic 68, 3) := by decide +kernel
theorem dX6_oweWreck_4 : decode cX6_oweWreck 4 = .ok (.ifCond .eq 15, 3) := by decide +kernel
theorem dX6_oweWreck_7 : decode cX6_oweWreck 7 = .ok (.aload_n 0, 1) := by decide +kernel
theorem dX6_oweWreck_8 : decode cX6_oweWreck 8 = .ok (.getfield 43, 3) := by decide +kernel
theorem dX6_oweWreck_11 : decode cX6_oweWreck 11 = .ok (.getfield 159, 3) := by decide +kernel
theorem dX6_oweWreck_14 : decode cX6_oweWreck 14 = .ok (.iload_n 1, 1) := by decide +kernel
theorem dX6_oweWreck_15 : decode cX6_oweWreck 15 = .ok (.iaload, 1) := by decide +kernel
theorem dX6_oweWreck_16 : decode cX6_oweWreck 16 = .ok (.goto 5, 3) := by decide +kernel
theorem dX6_oweWreck_19 : decode cX6_oweWreck 19 = .ok (.bipush (-5), 2) := by decide +kernel
theorem dX6_oweWreck_21 : decode cX6_oweWreck 21 = .ok (.istore_n 3, 1) := by decide +kernel
theorem dX6_oweWreck_22 : decode cX6_oweWreck 22 = .ok (.iload_n 3, 1) := by decide +kernel
theorem dX6_oweWreck_23 : decode cX6_oweWreck 23 = .ok (.invokestatic 164, 3) := by decide +kernel
theorem dX6_oweWreck_26 : decode cX6_oweWreck 26 = .ok (.ifCond .eq 13, 3) := by decide +kernel
theorem dX6_oweWreck_29 : decode cX6_oweWreck 29 = .ok (.aload_n 0, 1) := by decide +kernel
theorem dX6_oweWreck_30 : decode cX6_oweWreck 30 = .ok (.getfield 23, 3) := by decide +kernel
theorem dX6_oweWreck_33 : decode cX6_oweWreck 33 = .ok (.iload_n 3, 1) := by decide +kernel
theorem dX6_oweWreck_34 : decode cX6_oweWreck 34 = .ok (.aaload, 1) := by decide +kernel
theorem dX6_oweWreck_35 : decode cX6_oweWreck 35 = .ok (.iload_n 2, 1) := by decide +kernel
theorem dX6_oweWreck_36 : decode cX6_oweWreck 36 = .ok (.invokevirtual 167, 3) := by decide +kernel
theorem dX6_oweWreck_39 : decode cX6_oweWreck 39 = .ok (.return_, 1) := by decide +kernel
theorem dX6_doPart_0 : decode cX6_doPart 0 = .ok (.iconst 0, 1) := by decide +kernel
theorem dX6_doPart_1 : decode cX6_doPart 1 = .ok (.istore_n 2, 1) := by decide +kernel
theorem dX6_doPart_2 : decode cX6_doPart 2 = .ok (.aload_n 1, 1) := by decide +kernel
theorem dX6_doPart_3 : decode cX6_doPart 3 = .ok (.getfield 169, 3) := by decide +kernel
theorem dX6_doPart_6 : decode cX6_doPart 6 = .ok (.bipush 114, 2) := by decide +kernel
theorem dX6_doPart_8 : decode cX6_doPart 8 = .ok (.if_icmp .ne 27, 3) := by decide +kernel
theorem dX6_doPart_11 : decode cX6_doPart 11 = .ok (.aload_n 0, 1) := by decide +kernel
theorem dX6_doPart_12 : decode cX6_doPart 12 = .ok (.aload_n 1, 1) := by decide +kernel
theorem dX6_doPart_13 : decode cX6_doPart 13 = .ok (.getfield 175, 3) := by decide +kernel
theorem dX6_doPart_16 : decode cX6_doPart 16 = .ok (.invokevirtual 178, 3) := by decide +kernel
theorem dX6_doPart_19 : decode cX6_doPart 19 = .ok (.istore_n 2, 1) := by decide +kernel
theorem dX6_doPart_20 : decode cX6_doPart 20 = .ok (.iload_n 2, 1) := by decide +kernel
theorem dX6_doPart_21 : decode cX6_doPart 21 = .ok (.ifCond .ne 133, 3) := by decide +kernel
theorem dX6_doPart_24 : decode cX6_doPart 24 = .ok (.aload_n 0, 1) := by decide +kernel
theorem dX6_doPart_25 : decode cX6_doPart 25 = .ok (.aload_n 1, 1) := by decide +kernel
theorem dX6_doPart_26 : decode cX6_doPart 26 = .ok (.getfield 175, 3) := by decide +kernel
theorem dX6_doPart_29 : decode cX6_doPart 29 = .ok (.invokevirtual 181, 3) := by decide +kernel
theorem dX6_doPart_32 : decode cX6_doPart 32 = .ok (.goto 122, 3) := by decide +kernel
theorem dX6_doPart_35 : decode cX6_doPart 35 = .ok (.aload_n 1, 1) := by decide +kernel
theorem dX6_doPart_36 : decode cX6_doPart 36 = .ok (.getfield 169, 3) := by decide +kernel
theorem dX6_doPart_39 : decode cX6_doPart 39 = .ok (.bipush 115, 2) := by decide +kernel
theorem dX6_doPart_41 : decode cX6_doPart 41 = .ok (.if_icmp .ne 44, 3) := by decide +kernel
theorem dX6_doPart_44 : decode cX6_doPart 44 = .ok (.aload_n 0, 1) := by decide +kernel
theorem dX6_doPart_45 : decode cX6_doPart 45 = .ok (.aload_n 1, 1) := by decide +kernel
theorem dX6_doPart_46 : decode cX6_doPart 46 = .ok (.getfield 184, 3) := by decide +kernel
theorem dX6_doPart_49 : decode cX6_doPart 49 = .ok (.aload_n 1, 1) := by decide +kernel
theorem dX6_doPart_50 : decode cX6_doPart 50 = .ok (.getfield 175, 3) := by decide +kernel
theorem dX6_doPart_53 : decode cX6_doPart 53 = .ok (.aload_n 1, 1) := by decide +kernel
theorem dX6_doPart_54 : decode cX6_doPart 54 = .ok (.getfield 187, 3) := by decide +kernel
theorem dX6_doPart_57 : decode cX6_doPart 57 = .ok (.invokevirtual 190, 3) := by decide +kernel
theorem dX6_doPart_60 : decode cX6_doPart 60 = .ok (.istore_n 2, 1) := by decide +kernel
theorem dX6_doPart_61 : decode cX6_doPart 61 = .ok (.iload_n 2, 1) := by decide +kernel
theorem dX6_doPart_62 : decode cX6_doPart 62 = .ok (.ifCond .ne 92, 3) := by decide +kernel
theorem dX6_doPart_65 : decode cX6_doPart 65 = .ok (.aload_n 0, 1) := by decide +kernel
theorem dX6_doPart_66 : decode cX6_doPart 66 = .ok (.aload_n 1, 1) := by decide +kernel
theorem dX6_doPart_67 : decode cX6_doPart 67 = .ok (.getfield 184, 3) := by decide +kernel
theorem dX6_doPart_70 : decode cX6_doPart 70 = .ok (.aload_n 1, 1) := by decide +kernel
theorem dX6_doPart_71 : decode cX6_doPart 71 = .ok (.getfield 175, 3) := by decide +kernel
theorem dX6_doPart_74 : decode cX6_doPart 74 = .ok (.aload_n 1, 1) := by decide +kernel
theorem dX6_doPart_75 : decode cX6_doPart 75 = .ok (.getfield 187, 3) := by decide +kernel
theorem dX6_doPart_78 : decode cX6_doPart 78 = .ok (.invokevirtual 193, 3) := by decide +kernel
theorem dX6_doPart_81 : decode cX6_doPart 81 = .ok (.pop, 1) := by decide +kernel
theorem dX6_doPart_82 : decode cX6_doPart 82 = .ok (.goto 72, 3) := by decide +kernel
theorem dX6_doPart_85 : decode cX6_doPart 85 = .ok (.aload_n 1, 1) := by decide +kernel
theorem dX6_doPart_86 : decode cX6_doPart 86 = .ok (.getfield 169, 3) := by decide +kernel
theorem dX6_doPart_89 : decode cX6_doPart 89 = .ok (.bipush 100, 2) := by decide +kernel
theorem dX6_doPart_91 : decode cX6_doPart 91 = .ok (.if_icmp .ne 32, 3) := by decide +kernel
theorem dX6_doPart_94 : decode cX6_doPart 94 = .ok (.aload_n 1, 1) := by decide +kernel
theorem dX6_doPart_95 : decode cX6_doPart 95 = .ok (.getfield 184, 3) := by decide +kernel
theorem dX6_doPart_98 : decode cX6_doPart 98 = .ok (.invokestatic 164, 3) := by decide +kernel
theorem dX6_doPart_101 : decode cX6_doPart 101 = .ok (.ifCond .eq 22, 3) := by decide +kernel
theorem dX6_doPart_104 : decode cX6_doPart 104 = .ok (.aload_n 0, 1) := by decide +kernel
theorem dX6_doPart_105 : decode cX6_doPart 105 = .ok (.getfield 17, 3) := by decide +kernel
theorem dX6_doPart_108 : decode cX6_doPart 108 = .ok (.aload_n 1, 1) := by decide +kernel
theorem dX6_doPart_109 : decode cX6_doPart 109 = .ok (.getfield 184, 3) := by decide +kernel
theorem dX6_doPart_112 : decode cX6_doPart 112 = .ok (.aaload, 1) := by decide +kernel
theorem dX6_doPart_113 : decode cX6_doPart 113 = .ok (.aload_n 1, 1) := by decide +kernel
theorem dX6_doPart_114 : decode cX6_doPart 114 = .ok (.getfield 196, 3) := by decide +kernel
theorem dX6_doPart_117 : decode cX6_doPart 117 = .ok (.invokevirtual 199, 3) := by decide +kernel
theorem dX6_doPart_120 : decode cX6_doPart 120 = .ok (.goto 34, 3) := by decide +kernel
theorem dX6_doPart_123 : decode cX6_doPart 123 = .ok (.aload_n 1, 1) := by decide +kernel
theorem dX6_doPart_124 : decode cX6_doPart 124 = .ok (.getfield 169, 3) := by decide +kernel
theorem dX6_doPart_127 : decode cX6_doPart 127 = .ok (.bipush 104, 2) := by decide +kernel
theorem dX6_doPart_129 : decode cX6_doPart 129 = .ok (.if_icmp .ne 25, 3) := by decide +kernel
theorem dX6_doPart_132 : decode cX6_doPart 132 = .ok (.aload_n 0, 1) := by decide +kernel
theorem dX6_doPart_133 : decode cX6_doPart 133 = .ok (.aload_n 1, 1) := by decide +kernel
theorem dX6_doPart_134 : decode cX6_doPart 134 = .ok (.getfield 184, 3) := by decide +kernel
theorem dX6_doPart_137 : decode cX6_doPart 137 = .ok (.invokevirtual 202, 3) := by decide +kernel
theorem dX6_doPart_140 : decode cX6_doPart 140 = .ok (.istore_n 2, 1) := by decide +kernel
theorem dX6_doPart_141 : decode cX6_doPart 141 = .ok (.iload_n 2, 1) := by decide +kernel
theorem dX6_doPart_142 : decode cX6_doPart 142 = .ok (.ifCond .ne 12, 3) := by decide +kernel
theorem dX6_doPart_145 : decode cX6_doPart 145 = .ok (.aload_n 0, 1) := by decide +kernel
theorem dX6_doPart_146 : decode cX6_doPart 146 = .ok (.aload_n 1, 1) := by decide +kernel
theorem dX6_doPart_147 : decode cX6_doPart 147 = .ok (.getfield 184, 3) := by decide +kernel
theorem dX6_doPart_150 : decode cX6_doPart 150 = .ok (.invokevirtual 205, 3) := by decide +kernel
theorem dX6_doPart_153 : decode cX6_doPart 153 = .ok (.pop, 1) := by decide +kernel
theorem dX6_doPart_154 : decode cX6_doPart 154 = .ok (.iload_n 2, 1) := by decide +kernel
theorem dX6_doPart_155 : decode cX6_doPart 155 = .ok (.ireturn, 1) := by decide +kernel
theorem dX5_init_0 : decode cX5_init 0 = .ok (.aload_n 0, 1) := by decide +kernel
theorem dX5_init_1 : decode cX5_init 1 = .ok (.invokespecial 3, 3) := by decide +kernel
theorem dX5_init_4 : decode cX5_init 4 = .ok (.aload_n 0, 1) := by decide +kernel
theorem dX5_init_5 : decode cX5_init 5 = .ok (.iconst 0, 1) := by decide +kernel
theorem dX5_init_6 : decode cX5_init 6 = .ok (.putfield 9, 3) := by decide +kernel
theorem dX5_init_9 : decode cX5_init 9 = .ok (.aload_n 0, 1) := by decide +kernel
theorem dX5_init_10 : decode cX5_init 10 = .ok (.iconst 0, 1) := by decide +kernel
theorem dX5_init_11 : decode cX5_init 11 = .ok (.putfield 15, 3) := by decide +kernel
theorem dX5_init_14 : decode cX5_init 14 = .ok (.aload_n 0, 1) := by decide +kernel
theorem dX5_init_15 : decode cX5_init 15 = .ok (.iconst 0, 1) := by decide +kernel
theorem dX5_init_16 : decode cX5_init 16 = .ok (.putfield 18, 3) := by decide +kernel
theorem dX5_init_19 : decode cX5_init 19 = .ok (.aload_n 0, 1) := by decide +kernel
theorem dX5_init_20 : decode cX5_init 20 = .ok (.iconst (-1), 1) := by decide +kernel
theorem dX5_init_21 : decode cX5_init 21 = .ok (.putfield 21, 3) := by decide +kernel
theorem dX5_init_24 : decode cX5_init 24 = .ok (.aload_n 0, 1) := by decide +kernel
theorem dX5_init_25 : decode cX5_init 25 = .ok (.iconst 0, 1) := by decide +kernel
theorem dX5_init_26 : decode cX5_init 26 = .ok (.putfield 24, 3) := by decide +kernel
theorem dX5_init_29 : decode cX5_init 29 = .ok (.aload_n 0, 1) := by decide +kernel
theorem dX5_init_30 : decode cX5_init 30 = .ok (.iconst 0, 1) := by decide +kernel
theorem dX5_init_31 : decode cX5_init 31 = .ok (.putfield 27, 3) := by decide +kernel
theorem dX5_init_34 : decode cX5_init 34 = .ok (.return_, 1) := by decide +kernel
theorem dX5_copyFrom_0 : decode cX5_copyFrom 0 = .ok (.aload_n 0, 1) := by decide +kernel
theorem dX5_copyFrom_1 : decode cX5_copyFrom 1 = .ok (.aload_n 1, 1) := by decide +kernel
theorem dX5_copyFrom_2 : decode cX5_copyFrom 2 = .ok (.getfield 9, 3) := by decide +kernel
theorem dX5_copyFrom_5 : decode cX5_copyFrom 5 = .ok (.putfield 9, 3) := by decide +kernel
theorem dX5_copyFrom_8 : decode cX5_copyFrom 8 = .ok (.aload_n 0, 1) := by decide +kernel
theorem dX5_copyFrom_9 : decode cX5_copyFrom 9 = .ok (.aload_n 1, 1) := by decide +kernel
theorem dX5_copyFrom_10 : decode cX5_copyFrom 10 = .ok (.getfield 15, 3) := by decide +kernel
theorem dX5_copyFrom_13 : decode cX5_copyFrom 13 = .ok (.putfield 15, 3) := by decide +kernel
theorem dX5_copyFrom_16 : decode cX5_copyFrom 16 = .ok (.aload_n 0, 1) := by decide +kernel
theorem dX5_copyFrom_17 : decode cX5_copyFrom 17 = .ok (.aload_n 1, 1) := by decide +kernel
theorem dX5_copyFrom_18 : decode cX5_copyFrom 18 = .ok (.getfield 18, 3) := by decide +kernel
theorem dX5_copyFrom_21 : decode cX5_copyFrom 21 = .ok (.putfield 18, 3) := by decide +kernel
theorem dX5_copyFrom_24 : decode cX5_copyFrom 24 = .ok (.aload_n 0, 1) := by decide +kernel
theorem dX5_copyFrom_25 : decode cX5_copyFrom 25 = .ok (.aload_n 1, 1) := by decide +kernel
theorem dX5_copyFrom_26 : decode cX5_copyFrom 26 = .ok (.getfield 21, 3) := by decide +kernel
theorem dX5_copyFrom_29 : decode cX5_copyFrom 29 = .ok (.putfield 21, 3) := by decide +kernel
theorem dX5_copyFrom_32 : decode cX5_copyFrom 32 = .ok (.aload_n 0, 1) := by decide +kernel
theorem dX5_copyFrom_33 : decode cX5_copyFrom 33 = .ok (.aload_n 1, 1) := by decide +kernel
theorem dX5_copyFrom_34 : decode cX5_copyFrom 34 = .ok (.getfield 24, 3) := by decide +kernel
theorem dX5_copyFrom_37 : decode cX5_copyFrom 37 = .ok (.putfield 24, 3) := by decide +kernel
theorem dX5_copyFrom_40 : decode cX5_copyFrom 40 = .ok (.return_, 1) := by decide +kernel
theorem dX5_begin_0 : decode cX5_begin 0 = .ok (.aload_n 0, 1) := by decide +kernel
theorem dX5_begin_1 : decode cX5_begin 1 = .ok (.iload_n 1, 1) := by decide +kernel
theorem dX5_begin_2 : decode cX5_begin 2 = .ok (.putfield 9, 3) := by decide +kernel
theorem dX5_begin_5 : decode cX5_begin 5 = .ok (.aload_n 0, 1) := by decide +kernel
theorem dX5_begin_6 : decode cX5_begin 6 = .ok (.iload_n 2, 1) := by decide +kernel
theorem dX5_begin_7 : decode cX5_begin 7 = .ok (.putfield 15, 3) := by decide +kernel
theorem dX5_begin_10 : decode cX5_begin 10 = .ok (.aload_n 0, 1) := by decide +kernel
theorem dX5_begin_11 : decode cX5_begin 11 = .ok (.iload_n 3, 1) := by decide +kernel
theorem dX5_begin_12 : decode cX5_begin 12 = .ok (.putfield 18, 3) := by decide +kernel
theorem dX5_begin_15 : decode cX5_begin 15 = .ok (.aload_n 0, 1) := by decide +kernel
theorem dX5_begin_16 : decode cX5_begin 16 = .ok (.iconst 0, 1) := by decide +kernel
theorem dX5_begin_17 : decode cX5_begin 17 = .ok (.putfield 21, 3) := by decide +kernel
theorem dX5_begin_20 : decode cX5_begin 20 = .ok (.aload_n 0, 1) := by decide +kernel
theorem dX5_begin_21 : decode cX5_begin 21 = .ok (.iconst 0, 1) := by decide +kernel
theorem dX5_begin_22 : decode cX5_begin 22 = .ok (.putfield 24, 3) := by decide +kernel
theorem dX5_begin_25 : decode cX5_begin 25 = .ok (.return_, 1) := by decide +kernel
theorem dX5_told_0 : decode cX5_told 0 = .ok (.iload_n 1, 1) := by decide +kernel
theorem dX5_told_1 : decode cX5_told 1 = .ok (.tableswitch 76 0 5 #[39, 44, 49, 54, 59, 64], 39) := by decide +kernel
theorem dX5_told_40 : decode cX5_told 40 = .ok (.aload_n 0, 1) := by decide +kernel
theorem dX5_told_41 : decode cX5_told 41 = .ok (.getfield 9, 3) := by decide +kernel
theorem dX5_told_44 : decode cX5_told 44 = .ok (.ireturn, 1) := by decide +kernel
theorem dX5_told_45 : decode cX5_told 45 = .ok (.aload_n 0, 1) := by decide +kernel
theorem dX5_told_46 : decode cX5_told 46 = .ok (.getfield 15, 3) := by decide +kernel
theorem dX5_told_49 : decode cX5_told 49 = .ok (.ireturn, 1) := by decide +kernel
theorem dX5_told_50 : decode cX5_told 50 = .ok (.aload_n 0, 1) := by decide +kernel
theorem dX5_told_51 : decode cX5_told 51 = .ok (.getfield 18, 3) := by decide +kernel
theorem dX5_told_54 : decode cX5_told 54 = .ok (.ireturn, 1) := by decide +kernel
theorem dX5_told_55 : decode cX5_told 55 = .ok (.aload_n 0, 1) := by decide +kernel
theorem dX5_told_56 : decode cX5_told 56 = .ok (.getfield 21, 3) := by decide +kernel
theorem dX5_told_59 : decode cX5_told 59 = .ok (.ireturn, 1) := by decide +kernel
theorem dX5_told_60 : decode cX5_told 60 = .ok (.aload_n 0, 1) := by decide +kernel
theorem dX5_told_61 : decode cX5_told 61 = .ok (.getfield 24, 3) := by decide +kernel
theorem dX5_told_64 : decode cX5_told 64 = .ok (.ireturn, 1) := by decide +kernel
theorem dX5_told_65 : decode cX5_told 65 = .ok (.aload_n 0, 1) := by decide +kernel
theorem dX5_told_66 : decode cX5_told 66 = .ok (.getfield 15, 3) := by decide +kernel
theorem dX5_told_69 : decode cX5_told 69 = .ok (.aload_n 0, 1) := by decide +kernel
theorem dX5_told_70 : decode cX5_told 70 = .ok (.getfield 18, 3) := by decide +kernel
theorem dX5_told_73 : decode cX5_told 73 = .ok (.invokestatic 31, 3) := by decide +kernel
theorem dX5_told_76 : decode cX5_told 76 = .ok (.ireturn, 1) := by decide +kernel
theorem dX5_told_77 : decode cX5_told 77 = .ok (.bipush (-2), 2) := by decide +kernel
theorem dX5_told_79 : decode cX5_told 79 = .ok (.ireturn, 1) := by decide +kernel
theorem dX5_isAtSeaIn_0 : decode cX5_isAtSeaIn 0 = .ok (.aload_n 0, 1) := by decide +kernel
theorem dX5_isAtSeaIn_1 : decode cX5_isAtSeaIn 1 = .ok (.getfield 21, 3) := by decide +kernel
theorem dX5_isAtSeaIn_4 : decode cX5_isAtSeaIn 4 = .ok (.ifCond .ne 15, 3) := by decide +kernel
theorem dX5_isAtSeaIn_7 : decode cX5_isAtSeaIn 7 = .ok (.aload_n 0, 1) := by decide +kernel
theorem dX5_isAtSeaIn_8 : decode cX5_isAtSeaIn 8 = .ok (.getfield 15, 3) := by decide +kernel
theorem dX5_isAtSeaIn_11 : decode cX5_isAtSeaIn 11 = .ok (.iload_n 1, 1) := by decide +kernel
theorem dX5_isAtSeaIn_12 : decode cX5_isAtSeaIn 12 = .ok (.if_icmp .ne 7, 3) := by decide +kernel
theorem dX5_isAtSeaIn_15 : decode cX5_isAtSeaIn 15 = .ok (.iconst 1, 1) := by decide +kernel
theorem dX5_isAtSeaIn_16 : decode cX5_isAtSeaIn 16 = .ok (.goto 4, 3) := by decide +kernel
theorem dX5_isAtSeaIn_19 : decode cX5_isAtSeaIn 19 = .ok (.iconst 0, 1) := by decide +kernel
theorem dX5_isAtSeaIn_20 : decode cX5_isAtSeaIn 20 = .ok (.ireturn, 1) := by decide +kernel
theorem dX5_nextCell_0 : decode cX5_nextCell 0 = .ok (.aload_n 0, 1) := by decide +kernel
theorem dX5_nextCell_1 : decode cX5_nextCell 1 = .ok (.getfield 18, 3) := by decide +kernel
theorem dX5_nextCell_4 : decode cX5_nextCell 4 = .ok (.bipush 10, 2) := by decide +kernel
theorem dX5_nextCell_6 : decode cX5_nextCell 6 = .ok (.irem, 1) := by decide +kernel
theorem dX5_nextCell_7 : decode cX5_nextCell 7 = .ok (.aload_n 0, 1) := by decide +kernel
theorem dX5_nextCell_8 : decode cX5_nextCell 8 = .ok (.getfield 15, 3) := by decide +kernel
theorem dX5_nextCell_11 : decode cX5_nextCell 11 = .ok (.bipush 10, 2) := by decide +kernel
theorem dX5_nextCell_13 : decode cX5_nextCell 13 = .ok (.irem, 1) := by decide +kernel
theorem dX5_nextCell_14 : decode cX5_nextCell 14 = .ok (.invokestatic 35, 3) := by decide +kernel
theorem dX5_nextCell_17 : decode cX5_nextCell 17 = .ok (.istore_n 1, 1) := by decide +kernel
theorem dX5_nextCell_18 : decode cX5_nextCell 18 = .ok (.aload_n 0, 1) := by decide +kernel
theorem dX5_nextCell_19 : decode cX5_nextCell 19 = .ok (.getfield 18, 3) := by decide +kernel
theorem dX5_nextCell_22 : decode cX5_nextCell 22 = .ok (.bipush 10, 2) := by decide +kernel
theorem dX5_nextCell_24 : decode cX5_nextCell 24 = .ok (.idiv, 1) := by decide +kernel
theorem dX5_nextCell_25 : decode cX5_nextCell 25 = .ok (.aload_n 0, 1) := by decide +kernel
theorem dX5_nextCell_26 : decode cX5_nextCell 26 = .ok (.getfield 15, 3) := by decide +kernel
theorem dX5_nextCell_29 : decode cX5_nextCell 29 = .ok (.bipush 10, 2) := by decide +kernel
theorem dX5_nextCell_31 : decode cX5_nextCell 31 = .ok (.idiv, 1) := by decide +kernel
theorem dX5_nextCell_32 : decode cX5_nextCell 32 = .ok (.invokestatic 35, 3) := by decide +kernel
theorem dX5_nextCell_35 : decode cX5_nextCell 35 = .ok (.istore_n 2, 1) := by decide +kernel
theorem dX5_nextCell_36 : decode cX5_nextCell 36 = .ok (.aload_n 0, 1) := by decide +kernel
theorem dX5_nextCell_37 : decode cX5_nextCell 37 = .ok (.getfield 15, 3) := by decide +kernel
theorem dX5_nextCell_40 : decode cX5_nextCell 40 = .ok (.iload_n 1, 1) := by decide +kernel
theorem dX5_nextCell_41 : decode cX5_nextCell 41 = .ok (.iadd, 1) := by decide +kernel
theorem dX5_nextCell_42 : decode cX5_nextCell 42 = .ok (.bipush 10, 2) := by decide +kernel
theorem dX5_nextCell_44 : decode cX5_nextCell 44 = .ok (.iload_n 2, 1) := by decide +kernel
theorem dX5_nextCell_45 : decode cX5_nextCell 45 = .ok (.imul, 1) := by decide +kernel
theorem dX5_nextCell_46 : decode cX5_nextCell 46 = .ok (.iadd, 1) := by decide +kernel
theorem dX5_nextCell_47 : decode cX5_nextCell 47 = .ok (.ireturn, 1) := by decide +kernel
theorem dX5_comeTo_0 : decode cX5_comeTo 0 = .ok (.aload_n 0, 1) := by decide +kernel
theorem dX5_comeTo_1 : decode cX5_comeTo 1 = .ok (.iload_n 1, 1) := by decide +kernel
theorem dX5_comeTo_2 : decode cX5_comeTo 2 = .ok (.putfield 15, 3) := by decide +kernel
theorem dX5_comeTo_5 : decode cX5_comeTo 5 = .ok (.aload_n 0, 1) := by decide +kernel
theorem dX5_comeTo_6 : decode cX5_comeTo 6 = .ok (.getfield 15, 3) := by decide +kernel
theorem dX5_comeTo_9 : decode cX5_comeTo 9 = .ok (.aload_n 0, 1) := by decide +kernel
theorem dX5_comeTo_10 : decode cX5_comeTo 10 = .ok (.getfield 18, 3) := by decide +kernel
theorem dX5_comeTo_13 : decode cX5_comeTo 13 = .ok (.if_icmp .ne 8, 3) := by decide +kernel
theorem dX5_comeTo_16 : decode cX5_comeTo 16 = .ok (.aload_n 0, 1) := by decide +kernel
theorem dX5_comeTo_17 : decode cX5_comeTo 17 = .ok (.iconst 1, 1) := by decide +kernel
theorem dX5_comeTo_18 : decode cX5_comeTo 18 = .ok (.putfield 21, 3) := by decide +kernel
theorem dX5_comeTo_21 : decode cX5_comeTo 21 = .ok (.return_, 1) := by decide +kernel
theorem dX5_breakIn_0 : decode cX5_breakIn 0 = .ok (.aload_n 0, 1) := by decide +kernel
theorem dX5_breakIn_1 : decode cX5_breakIn 1 = .ok (.iload_n 1, 1) := by decide +kernel
theorem dX5_breakIn_2 : decode cX5_breakIn 2 = .ok (.putfield 15, 3) := by decide +kernel
theorem dX5_breakIn_5 : decode cX5_breakIn 5 = .ok (.aload_n 0, 1) := by decide +kernel
theorem dX5_breakIn_6 : decode cX5_breakIn 6 = .ok (.iconst 2, 1) := by decide +kernel
theorem dX5_breakIn_7 : decode cX5_breakIn 7 = .ok (.putfield 21, 3) := by decide +kernel
theorem dX5_breakIn_10 : decode cX5_breakIn 10 = .ok (.return_, 1) := by decide +kernel
theorem dX0_init_0 : decode cX0_init 0 = .ok (.aload_n 0, 1) := by decide +kernel
theorem dX0_init_1 : decode cX0_init 1 = .ok (.invokespecial 3, 3) := by decide +kernel
theorem dX0_init_4 : decode cX0_init 4 = .ok (.aload_n 0, 1) := by decide +kernel
theorem dX0_init_5 : decode cX0_init 5 = .ok (.iconst 4, 1) := by decide +kernel
theorem dX0_init_6 : decode cX0_init 6 = .ok (.bipush 100, 2) := by decide +kernel
theorem dX0_init_8 : decode cX0_init 8 = .ok (.multianewarray 9 2, 4) := by decide +kernel
theorem dX0_init_12 : decode cX0_init 12 = .ok (.putfield 11, 3) := by decide +kernel
theorem dX0_init_15 : decode cX0_init 15 = .ok (.aload_n 0, 1) := by decide +kernel
theorem dX0_init_16 : decode cX0_init 16 = .ok (.iconst 4, 1) := by decide +kernel
theorem dX0_init_17 : decode cX0_init 17 = .ok (.bipush 100, 2) := by decide +kernel
theorem dX0_init_19 : decode cX0_init 19 = .ok (.multianewarray 9 2, 4) := by decide +kernel
theorem dX0_init_23 : decode cX0_init 23 = .ok (.putfield 16, 3) := by decide +kernel
theorem dX0_init_26 : decode cX0_init 26 = .ok (.aload_n 0, 1) := by decide +kernel
theorem dX0_init_27 : decode cX0_init 27 = .ok (.bipush 100, 2) := by decide +kernel
theorem dX0_init_29 : decode cX0_init 29 = .ok (.newarray .int, 2) := by decide +kernel
theorem dX0_init_31 : decode cX0_init 31 = .ok (.putfield 19, 3) := by decide +kernel
theorem dX0_init_34 : decode cX0_init 34 = .ok (.iconst 0, 1) := by decide +kernel
theorem dX0_init_35 : decode cX0_init 35 = .ok (.istore_n 1, 1) := by decide +kernel
theorem dX0_init_36 : decode cX0_init 36 = .ok (.iload_n 1, 1) := by decide +kernel
theorem dX0_init_37 : decode cX0_init 37 = .ok (.bipush 100, 2) := by decide +kernel
theorem dX0_init_39 : decode cX0_init 39 = .ok (.if_icmp .ge 97, 3) := by decide +kernel
theorem dX0_init_42 : decode cX0_init 42 = .ok (.bipush 10, 2) := by decide +kernel
theorem dX0_init_44 : decode cX0_init 44 = .ok (.istore_n 2, 1) := by decide +kernel
theorem dX0_init_45 : decode cX0_init 45 = .ok (.iconst 0, 1) := by decide +kernel
theorem dX0_init_46 : decode cX0_init 46 = .ok (.istore_n 3, 1) := by decide +kernel
theorem dX0_init_47 : decode cX0_init 47 = .ok (.iload_n 3, 1) := by decide +kernel
theorem dX0_init_48 : decode cX0_init 48 = .ok (.iconst 4, 1) := by decide +kernel
theorem dX0_init_49 : decode cX0_init 49 = .ok (.if_icmp .ge 81, 3) := by decide +kernel
theorem dX0_init_52 : decode cX0_init 52 = .ok (.getstatic 23, 3) := by decide +kernel
theorem dX0_init_55 : decode cX0_init 55 = .ok (.iload_n 3, 1) := by decide +kernel
theorem dX0_init_56 : decode cX0_init 56 = .ok (.iaload, 1) := by decide +kernel
theorem dX0_init_57 : decode cX0_init 57 = .ok (.istore 4, 2) := by decide +kernel
theorem dX0_init_59 : decode cX0_init 59 = .ok (.iload 4, 2) := by decide +kernel
theorem dX0_init_61 : decode cX0_init 61 = .ok (.iload_n 1, 1) := by decide +kernel
theorem dX0_init_62 : decode cX0_init 62 = .ok (.invokestatic 26, 3) := by decide +kernel
theorem dX0_init_65 : decode cX0_init 65 = .ok (.istore 5, 2) := by decide +kernel
theorem dX0_init_67 : decode cX0_init 67 = .ok (.aload_n 0, 1) := by decide +kernel
theorem dX0_init_68 : decode cX0_init 68 = .ok (.getfield 11, 3) := by decide +kernel
theorem dX0_init_71 : decode cX0_init 71 = .ok (.iload_n 3, 1) := by decide +kernel
theorem dX0_init_72 : decode cX0_init 72 = .ok (.aaload, 1) := by decide +kernel
theorem dX0_init_73 : decode cX0_init 73 = .ok (.iload_n 1, 1) := by decide +kernel
theorem dX0_init_74 : decode cX0_init 74 = .ok (.iload_n 1, 1) := by decide +kernel
theorem dX0_init_75 : decode cX0_init 75 = .ok (.bipush 10, 2) := by decide +kernel
theorem dX0_init_77 : decode cX0_init 77 = .ok (.irem, 1) := by decide +kernel
theorem dX0_init_78 : decode cX0_init 78 = .ok (.iload 4, 2) := by decide +kernel
theorem dX0_init_80 : decode cX0_init 80 = .ok (.bipush 10, 2) := by decide +kernel
theorem dX0_init_82 : decode cX0_init 82 = .ok (.irem, 1) := by decide +kernel
theorem dX0_init_83 : decode cX0_init 83 = .ok (.isub, 1) := by decide +kernel
theorem dX0_init_84 : decode cX0_init 84 = .ok (.iload_n 1, 1) := by decide +kernel
theorem dX0_init_85 : decode cX0_init 85 = .ok (.bipush 10, 2) := by decide +kernel
theorem dX0_init_87 : decode cX0_init 87 = .ok (.idiv, 1) := by decide +kernel
theorem dX0_init_88 : decode cX0_init 88 = .ok (.iload 4, 2) := by decide +kernel
theorem dX0_init_90 : decode cX0_init 90 = .ok (.bipush 10, 2) := by decide +kernel
theorem dX0_init_92 : decode cX0_init 92 = .ok (.idiv, 1) := by decide +kernel
theorem dX0_init_93 : decode cX0_init 93 = .ok (.isub, 1) := by decide +kernel
theorem dX0_init_94 : decode cX0_init 94 = .ok (.invokestatic 30, 3) := by decide +kernel
theorem dX0_init_97 : decode cX0_init 97 = .ok (.iastore, 1) := by decide +kernel
theorem dX0_init_98 : decode cX0_init 98 = .ok (.aload_n 0, 1) := by decide +kernel
theorem dX0_init_99 : decode cX0_init 99 = .ok (.getfield 16, 3) := by decide +kernel
theorem dX0_init_102 : decode cX0_init 102 = .ok (.iload_n 3, 1) := by decide +kernel
theorem dX0_init_103 : decode cX0_init 103 = .ok (.aaload, 1) := by decide +kernel
theorem dX0_init_104 : decode cX0_init 104 = .ok (.iload_n 1, 1) := by decide +kernel
theorem dX0_init_105 : decode cX0_init 105 = .ok (.iload 5, 2) := by decide +kernel
theorem dX0_init_107 : decode cX0_init 107 = .ok (.iastore, 1) := by decide +kernel
theorem dX0_init_108 : decode cX0_init 108 = .ok (.iload 5, 2) := by decide +kernel
theorem dX0_init_110 : decode cX0_init 110 = .ok (.iload_n 2, 1) := by decide +kernel
theorem dX0_init_111 : decode cX0_init 111 = .ok (.if_icmp .ge 13, 3) := by decide +kernel
theorem dX0_init_114 : decode cX0_init 114 = .ok (.iload 5, 2) := by decide +kernel
theorem dX0_init_116 : decode cX0_init 116 = .ok (.istore_n 2, 1) := by decide +kernel
theorem dX0_init_117 : decode cX0_init 117 = .ok (.aload_n 0, 1) := by decide +kernel
theorem dX0_init_118 : decode cX0_init 118 = .ok (.getfield 19, 3) := by decide +kernel
theorem dX0_init_121 : decode cX0_init 121 = .ok (.iload_n 1, 1) := by decide +kernel
theorem dX0_init_122 : decode cX0_init 122 = .ok (.iload_n 3, 1) := by decide +kernel
theorem dX0_init_123 : decode cX0_init 123 = .ok (.iastore, 1) := by decide +kernel
theorem dX0_init_124 : decode cX0_init 124 = .ok (.iinc 3 1, 3) := by decide +kernel
theorem dX0_init_127 : decode cX0_init 127 = .ok (.goto (-80), 3) := by decide +kernel
theorem dX0_init_130 : decode cX0_init 130 = .ok (.iinc 1 1, 3) := by decide +kernel
theorem dX0_init_133 : decode cX0_init 133 = .ok (.goto (-97), 3) := by decide +kernel
theorem dX0_init_136 : decode cX0_init 136 = .ok (.return_, 1) := by decide +kernel
theorem dX0_windOf_0 : decode cX0_windOf 0 = .ok (.iload_n 0, 1) := by decide +kernel
theorem dX0_windOf_1 : decode cX0_windOf 1 = .ok (.invokestatic 33, 3) := by decide +kernel
theorem dX0_windOf_4 : decode cX0_windOf 4 = .ok (.istore_n 2, 1) := by decide +kernel
theorem dX0_windOf_5 : decode cX0_windOf 5 = .ok (.iload_n 1, 1) := by decide +kernel
theorem dX0_windOf_6 : decode cX0_windOf 6 = .ok (.invokestatic 33, 3) := by decide +kernel
theorem dX0_windOf_9 : decode cX0_windOf 9 = .ok (.istore_n 3, 1) := by decide +kernel
theorem dX0_windOf_10 : decode cX0_windOf 10 = .ok (.iload_n 2, 1) := by decide +kernel
theorem dX0_windOf_11 : decode cX0_windOf 11 = .ok (.ifCond .ne 9, 3) := by decide +kernel
theorem dX0_windOf_14 : decode cX0_windOf 14 = .ok (.iload_n 3, 1) := by decide +kernel
theorem dX0_windOf_15 : decode cX0_windOf 15 = .ok (.ifCond .ne 5, 3) := by decide +kernel
theorem dX0_windOf_18 : decode cX0_windOf 18 = .ok (.iconst (-1), 1) := by decide +kernel
theorem dX0_windOf_19 : decode cX0_windOf 19 = .ok (.ireturn, 1) := by decide +kernel
theorem dX0_windOf_20 : decode cX0_windOf 20 = .ok (.iconst 2, 1) := by decide +kernel
theorem dX0_windOf_21 : decode cX0_windOf 21 = .ok (.iload_n 3, 1) := by decide +kernel
theorem dX0_windOf_22 : decode cX0_windOf 22 = .ok (.imul, 1) := by decide +kernel
theorem dX0_windOf_23 : decode cX0_windOf 23 = .ok (.iload_n 2, 1) := by decide +kernel
theorem dX0_windOf_24 : decode cX0_windOf 24 = .ok (.if_icmp .gt 13, 3) := by decide +kernel
theorem dX0_windOf_27 : decode cX0_windOf 27 = .ok (.iload_n 0, 1) := by decide +kernel
theorem dX0_windOf_28 : decode cX0_windOf 28 = .ok (.ifCond .le 7, 3) := by decide +kernel
theorem dX0_windOf_31 : decode cX0_windOf 31 = .ok (.iconst 0, 1) := by decide +kernel
theorem dX0_windOf_32 : decode cX0_windOf 32 = .ok (.goto 4, 3) := by decide +kernel
theorem dX0_windOf_35 : decode cX0_windOf 35 = .ok (.iconst 4, 1) := by decide +kernel
theorem dX0_windOf_36 : decode cX0_windOf 36 = .ok (.ireturn, 1) := by decide +kernel
theorem dX0_windOf_37 : decode cX0_windOf 37 = .ok (.iconst 2, 1) := by decide +kernel
theorem dX0_windOf_38 : decode cX0_windOf 38 = .ok (.iload_n 2, 1) := by decide +kernel
theorem dX0_windOf_39 : decode cX0_windOf 39 = .ok (.imul, 1) := by decide +kernel
theorem dX0_windOf_40 : decode cX0_windOf 40 = .ok (.iload_n 3, 1) := by decide +kernel
theorem dX0_windOf_41 : decode cX0_windOf 41 = .ok (.if_icmp .gt 14, 3) := by decide +kernel
theorem dX0_windOf_44 : decode cX0_windOf 44 = .ok (.iload_n 1, 1) := by decide +kernel
theorem dX0_windOf_45 : decode cX0_windOf 45 = .ok (.ifCond .le 7, 3) := by decide +kernel
theorem dX0_windOf_48 : decode cX0_windOf 48 = .ok (.iconst 2, 1) := by decide +kernel
theorem dX0_windOf_49 : decode cX0_windOf 49 = .ok (.goto 5, 3) := by decide +kernel
theorem dX0_windOf_52 : decode cX0_windOf 52 = .ok (.bipush 6, 2) := by decide +kernel
theorem dX0_windOf_54 : decode cX0_windOf 54 = .ok (.ireturn, 1) := by decide +kernel
theorem dX0_windOf_55 : decode cX0_windOf 55 = .ok (.iload_n 1, 1) := by decide +kernel
theorem dX0_windOf_56 : decode cX0_windOf 56 = .ok (.ifCond .le 13, 3) := by decide +kernel
theorem dX0_windOf_59 : decode cX0_windOf 59 = .ok (.iload_n 0, 1) := by decide +kernel
theorem dX0_windOf_60 : decode cX0_windOf 60 = .ok (.ifCond .le 7, 3) := by decide +kernel
theorem dX0_windOf_63 : decode cX0_windOf 63 = .ok (.iconst 1, 1) := by decide +kernel
theorem dX0_windOf_64 : decode cX0_windOf 64 = .ok (.goto 4, 3) := by decide +kernel
theorem dX0_windOf_67 : decode cX0_windOf 67 = .ok (.iconst 3, 1) := by decide +kernel
theorem dX0_windOf_68 : decode cX0_windOf 68 = .ok (.ireturn, 1) := by decide +kernel
theorem dX0_windOf_69 : decode cX0_windOf 69 = .ok (.iload_n 0, 1) := by decide +kernel
theorem dX0_windOf_70 : decode cX0_windOf 70 = .ok (.ifCond .le 8, 3) := by decide +kernel
theorem dX0_windOf_73 : decode cX0_windOf 73 = .ok (.bipush 7, 2) := by decide +kernel
theorem dX0_windOf_75 : decode cX0_windOf 75 = .ok (.goto 4, 3) := by decide +kernel
theorem dX0_windOf_78 : decode cX0_windOf 78 = .ok (.iconst 5, 1) := by decide +kernel
theorem dX0_windOf_79 : decode cX0_windOf 79 = .ok (.ireturn, 1) := by decide +kernel
