theorem dX9_init_0 : decode cX9_init 0 = .ok (.aload_n 0, 1) := by decide +kernel
theorem dX9_init_1 : decode cX9_init 1 = .ok (.invokespecial 1, 3) := by decide +kernel
theorem dX9_init_4 : decode cX9_init 4 = .ok (.aload_n 0, 1) := by decide +kernel
theorem dX9_init_5 : decode cX9_init 5 = .ok (.sipush 183, 3) := by decide +kernel
theorem dX9_init_8 : decode cX9_init 8 = .ok (.newarray .int, 2) := by decide +kernel
theorem dX9_init_10 : decode cX9_init 10 = .ok (.putfield 7, 3) := by decide +kernel
theorem dX9_init_13 : decode cX9_init 13 = .ok (.aload_n 0, 1) := by decide +kernel
theorem dX9_init_14 : decode cX9_init 14 = .ok (.sipush 183, 3) := by decide +kernel
theorem dX9_init_17 : decode cX9_init 17 = .ok (.newarray .int, 2) := by decide +kernel
theorem dX9_init_19 : decode cX9_init 19 = .ok (.putfield 13, 3) := by decide +kernel
theorem dX9_init_22 : decode cX9_init 22 = .ok (.aload_n 0, 1) := by decide +kernel
theorem dX9_init_23 : decode cX9_init 23 = .ok (.sipush 732, 3) := by decide +kernel
theorem dX9_init_26 : decode cX9_init 26 = .ok (.newarray .int, 2) := by decide +kernel
theorem dX9_init_28 : decode cX9_init 28 = .ok (.putfield 16, 3) := by decide +kernel
theorem dX9_init_31 : decode cX9_init 31 = .ok (.aload_n 0, 1) := by decide +kernel
theorem dX9_init_32 : decode cX9_init 32 = .ok (.sipush 183, 3) := by decide +kernel
theorem dX9_init_35 : decode cX9_init 35 = .ok (.newarray .int, 2) := by decide +kernel
theorem dX9_init_37 : decode cX9_init 37 = .ok (.putfield 19, 3) := by decide +kernel
theorem dX9_init_40 : decode cX9_init 40 = .ok (.aload_n 0, 1) := by decide +kernel
theorem dX9_init_41 : decode cX9_init 41 = .ok (.bipush 60, 2) := by decide +kernel
theorem dX9_init_43 : decode cX9_init 43 = .ok (.newarray .char, 2) := by decide +kernel
theorem dX9_init_45 : decode cX9_init 45 = .ok (.putfield 22, 3) := by decide +kernel
theorem dX9_init_48 : decode cX9_init 48 = .ok (.aload_n 0, 1) := by decide +kernel
theorem dX9_init_49 : decode cX9_init 49 = .ok (.bipush 8, 2) := by decide +kernel
theorem dX9_init_51 : decode cX9_init 51 = .ok (.newarray .int, 2) := by decide +kernel
theorem dX9_init_53 : decode cX9_init 53 = .ok (.putfield 26, 3) := by decide +kernel
theorem dX9_init_56 : decode cX9_init 56 = .ok (.iconst 0, 1) := by decide +kernel
theorem dX9_init_57 : decode cX9_init 57 = .ok (.istore_n 1, 1) := by decide +kernel
theorem dX9_init_58 : decode cX9_init 58 = .ok (.iload_n 1, 1) := by decide +kernel
theorem dX9_init_59 : decode cX9_init 59 = .ok (.iconst 4, 1) := by decide +kernel
theorem dX9_init_60 : decode cX9_init 60 = .ok (.if_icmp .ge 53, 3) := by decide +kernel
theorem dX9_init_63 : decode cX9_init 63 = .ok (.aload_n 0, 1) := by decide +kernel
theorem dX9_init_64 : decode cX9_init 64 = .ok (.getfield 7, 3) := by decide +kernel
theorem dX9_init_67 : decode cX9_init 67 = .ok (.iload_n 1, 1) := by decide +kernel
theorem dX9_init_68 : decode cX9_init 68 = .ok (.iconst 0, 1) := by decide +kernel
theorem dX9_init_69 : decode cX9_init 69 = .ok (.invokestatic 29, 3) := by decide +kernel
theorem dX9_init_72 : decode cX9_init 72 = .ok (.iload_n 1, 1) := by decide +kernel
theorem dX9_init_73 : decode cX9_init 73 = .ok (.iastore, 1) := by decide +kernel
theorem dX9_init_74 : decode cX9_init 74 = .ok (.aload_n 0, 1) := by decide +kernel
theorem dX9_init_75 : decode cX9_init 75 = .ok (.getfield 7, 3) := by decide +kernel
theorem dX9_init_78 : decode cX9_init 78 = .ok (.iload_n 1, 1) := by decide +kernel
theorem dX9_init_79 : decode cX9_init 79 = .ok (.iconst 1, 1) := by decide +kernel
theorem dX9_init_80 : decode cX9_init 80 = .ok (.invokestatic 29, 3) := by decide +kernel
theorem dX9_init_83 : decode cX9_init 83 = .ok (.iconst 1, 1) := by decide +kernel
theorem dX9_init_84 : decode cX9_init 84 = .ok (.iastore, 1) := by decide +kernel
theorem dX9_init_85 : decode cX9_init 85 = .ok (.aload_n 0, 1) := by decide +kernel
theorem dX9_init_86 : decode cX9_init 86 = .ok (.getfield 7, 3) := by decide +kernel
theorem dX9_init_89 : decode cX9_init 89 = .ok (.iload_n 1, 1) := by decide +kernel
theorem dX9_init_90 : decode cX9_init 90 = .ok (.iconst 2, 1) := by decide +kernel
theorem dX9_init_91 : decode cX9_init 91 = .ok (.invokestatic 29, 3) := by decide +kernel
theorem dX9_init_94 : decode cX9_init 94 = .ok (.iconst 5, 1) := by decide +kernel
theorem dX9_init_95 : decode cX9_init 95 = .ok (.iastore, 1) := by decide +kernel
theorem dX9_init_96 : decode cX9_init 96 = .ok (.aload_n 0, 1) := by decide +kernel
theorem dX9_init_97 : decode cX9_init 97 = .ok (.getfield 7, 3) := by decide +kernel
theorem dX9_init_100 : decode cX9_init 100 = .ok (.iload_n 1, 1) := by decide +kernel
theorem dX9_init_101 : decode cX9_init 101 = .ok (.iconst 2, 1) := by decide +kernel
theorem dX9_init_102 : decode cX9_init 102 = .ok (.invokestatic 33, 3) := by decide +kernel
theorem dX9_init_105 : decode cX9_init 105 = .ok (.iconst 3, 1) := by decide +kernel
theorem dX9_init_106 : decode cX9_init 106 = .ok (.iastore, 1) := by decide +kernel
theorem dX9_init_107 : decode cX9_init 107 = .ok (.iinc 1 1, 3) := by decide +kernel
theorem dX9_init_110 : decode cX9_init 110 = .ok (.goto (-52), 3) := by decide +kernel
theorem dX9_init_113 : decode cX9_init 113 = .ok (.aload_n 0, 1) := by decide +kernel
theorem dX9_init_114 : decode cX9_init 114 = .ok (.getfield 7, 3) := by decide +kernel
theorem dX9_init_117 : decode cX9_init 117 = .ok (.sipush 182, 3) := by decide +kernel
theorem dX9_init_120 : decode cX9_init 120 = .ok (.iconst 2, 1) := by decide +kernel
theorem dX9_init_121 : decode cX9_init 121 = .ok (.iastore, 1) := by decide +kernel
theorem dX9_init_122 : decode cX9_init 122 = .ok (.return_, 1) := by decide +kernel
theorem dX9_in_0 : decode cX9_in 0 = .ok (.iload_n 0, 1) := by decide +kernel
theorem dX9_in_1 : decode cX9_in 1 = .ok (.iload_n 1, 1) := by decide +kernel
theorem dX9_in_2 : decode cX9_in 2 = .ok (.if_icmp .lt 12, 3) := by decide +kernel
theorem dX9_in_5 : decode cX9_in 5 = .ok (.iload_n 0, 1) := by decide +kernel
theorem dX9_in_6 : decode cX9_in 6 = .ok (.iload_n 2, 1) := by decide +kernel
theorem dX9_in_7 : decode cX9_in 7 = .ok (.if_icmp .gt 7, 3) := by decide +kernel
theorem dX9_in_10 : decode cX9_in 10 = .ok (.iconst 1, 1) := by decide +kernel
theorem dX9_in_11 : decode cX9_in 11 = .ok (.goto 4, 3) := by decide +kernel
theorem dX9_in_14 : decode cX9_in 14 = .ok (.iconst 0, 1) := by decide +kernel
theorem dX9_in_15 : decode cX9_in 15 = .ok (.ireturn, 1) := by decide +kernel
theorem dX9_isCell_0 : decode cX9_isCell 0 = .ok (.iload_n 0, 1) := by decide +kernel
theorem dX9_isCell_1 : decode cX9_isCell 1 = .ok (.iconst 0, 1) := by decide +kernel
theorem dX9_isCell_2 : decode cX9_isCell 2 = .ok (.bipush 99, 2) := by decide +kernel
theorem dX9_isCell_4 : decode cX9_isCell 4 = .ok (.invokestatic 36, 3) := by decide +kernel
theorem dX9_isCell_7 : decode cX9_isCell 7 = .ok (.ireturn, 1) := by decide +kernel
theorem dX9_isLight_0 : decode cX9_isLight 0 = .ok (.iload_n 0, 1) := by decide +kernel
theorem dX9_isLight_1 : decode cX9_isLight 1 = .ok (.iconst 0, 1) := by decide +kernel
theorem dX9_isLight_2 : decode cX9_isLight 2 = .ok (.iconst 3, 1) := by decide +kernel
theorem dX9_isLight_3 : decode cX9_isLight 3 = .ok (.invokestatic 36, 3) := by decide +kernel
theorem dX9_isLight_6 : decode cX9_isLight 6 = .ok (.ireturn, 1) := by decide +kernel
theorem dX9_isShip_0 : decode cX9_isShip 0 = .ok (.iload_n 1, 1) := by decide +kernel
theorem dX9_isShip_1 : decode cX9_isShip 1 = .ok (.iconst 0, 1) := by decide +kernel
theorem dX9_isShip_2 : decode cX9_isShip 2 = .ok (.aload_n 0, 1) := by decide +kernel
theorem dX9_isShip_3 : decode cX9_isShip 3 = .ok (.getfield 7, 3) := by decide +kernel
theorem dX9_isShip_6 : decode cX9_isShip 6 = .ok (.sipush 180, 3) := by decide +kernel
theorem dX9_isShip_9 : decode cX9_isShip 9 = .ok (.iaload, 1) := by decide +kernel
theorem dX9_isShip_10 : decode cX9_isShip 10 = .ok (.iconst 1, 1) := by decide +kernel
theorem dX9_isShip_11 : decode cX9_isShip 11 = .ok (.isub, 1) := by decide +kernel
theorem dX9_isShip_12 : decode cX9_isShip 12 = .ok (.invokestatic 36, 3) := by decide +kernel
theorem dX9_isShip_15 : decode cX9_isShip 15 = .ok (.ireturn, 1) := by decide +kernel
theorem dX9_ofL_0 : decode cX9_ofL 0 = .ok (.bipush 100, 2) := by decide +kernel
theorem dX9_ofL_2 : decode cX9_ofL 2 = .ok (.iconst 5, 1) := by decide +kernel
theorem dX9_ofL_3 : decode cX9_ofL 3 = .ok (.iload_n 0, 1) := by decide +kernel
theorem dX9_ofL_4 : decode cX9_ofL 4 = .ok (.imul, 1) := by decide +kernel
theorem dX9_ofL_5 : decode cX9_ofL 5 = .ok (.iadd, 1) := by decide +kernel
theorem dX9_ofL_6 : decode cX9_ofL 6 = .ok (.iload_n 1, 1) := by decide +kernel
theorem dX9_ofL_7 : decode cX9_ofL 7 = .ok (.iadd, 1) := by decide +kernel
theorem dX9_ofL_8 : decode cX9_ofL 8 = .ok (.ireturn, 1) := by decide +kernel
theorem dX9_ofK_0 : decode cX9_ofK 0 = .ok (.bipush 120, 2) := by decide +kernel
theorem dX9_ofK_2 : decode cX9_ofK 2 = .ok (.iconst 5, 1) := by decide +kernel
theorem dX9_ofK_3 : decode cX9_ofK 3 = .ok (.iload_n 0, 1) := by decide +kernel
theorem dX9_ofK_4 : decode cX9_ofK 4 = .ok (.imul, 1) := by decide +kernel
theorem dX9_ofK_5 : decode cX9_ofK 5 = .ok (.iadd, 1) := by decide +kernel
theorem dX9_ofK_6 : decode cX9_ofK 6 = .ok (.iload_n 1, 1) := by decide +kernel
theorem dX9_ofK_7 : decode cX9_ofK 7 = .ok (.iadd, 1) := by decide +kernel
theorem dX9_ofK_8 : decode cX9_ofK 8 = .ok (.ireturn, 1) := by decide +kernel
theorem dX9_ofS_0 : decode cX9_ofS 0 = .ok (.sipush 140, 3) := by decide +kernel
theorem dX9_ofS_3 : decode cX9_ofS 3 = .ok (.iconst 5, 1) := by decide +kernel
theorem dX9_ofS_4 : decode cX9_ofS 4 = .ok (.iload_n 0, 1) := by decide +kernel
theorem dX9_ofS_5 : decode cX9_ofS 5 = .ok (.imul, 1) := by decide +kernel
theorem dX9_ofS_6 : decode cX9_ofS 6 = .ok (.iadd, 1) := by decide +kernel
theorem dX9_ofS_7 : decode cX9_ofS 7 = .ok (.iload_n 1, 1) := by decide +kernel
theorem dX9_ofS_8 : decode cX9_ofS 8 = .ok (.iadd, 1) := by decide +kernel
theorem dX9_ofS_9 : decode cX9_ofS 9 = .ok (.ireturn, 1) := by decide +kernel
theorem dX9_records_0 : decode cX9_records 0 = .ok (.aload_n 0, 1) := by decide +kernel
theorem dX9_records_1 : decode cX9_records 1 = .ok (.getfield 40, 3) := by decide +kernel
theorem dX9_records_4 : decode cX9_records 4 = .ok (.iconst 4, 1) := by decide +kernel
theorem dX9_records_5 : decode cX9_records 5 = .ok (.if_icmp .ne 44, 3) := by decide +kernel
theorem dX9_records_8 : decode cX9_records 8 = .ok (.iconst 0, 1) := by decide +kernel
theorem dX9_records_9 : decode cX9_records 9 = .ok (.istore_n 1, 1) := by decide +kernel
theorem dX9_records_10 : decode cX9_records 10 = .ok (.iload_n 1, 1) := by decide +kernel
theorem dX9_records_11 : decode cX9_records 11 = .ok (.sipush 549, 3) := by decide +kernel
theorem dX9_records_14 : decode cX9_records 14 = .ok (.if_icmp .ge 25, 3) := by decide +kernel
theorem dX9_records_17 : decode cX9_records 17 = .ok (.aload_n 0, 1) := by decide +kernel
theorem dX9_records_18 : decode cX9_records 18 = .ok (.getfield 16, 3) := by decide +kernel
theorem dX9_records_21 : decode cX9_records 21 = .ok (.iload_n 1, 1) := by decide +kernel
theorem dX9_records_22 : decode cX9_records 22 = .ok (.aload_n 0, 1) := by decide +kernel
theorem dX9_records_23 : decode cX9_records 23 = .ok (.getfield 16, 3) := by decide +kernel
theorem dX9_records_26 : decode cX9_records 26 = .ok (.sipush 183, 3) := by decide +kernel
theorem dX9_records_29 : decode cX9_records 29 = .ok (.iload_n 1, 1) := by decide +kernel
theorem dX9_records_30 : decode cX9_records 30 = .ok (.iadd, 1) := by decide +kernel
theorem dX9_records_31 : decode cX9_records 31 = .ok (.iaload, 1) := by decide +kernel
theorem dX9_records_32 : decode cX9_records 32 = .ok (.iastore, 1) := by decide +kernel
theorem dX9_records_33 : decode cX9_records 33 = .ok (.iinc 1 1, 3) := by decide +kernel
theorem dX9_records_36 : decode cX9_records 36 = .ok (.goto (-26), 3) := by decide +kernel
theorem dX9_records_39 : decode cX9_records 39 = .ok (.aload_n 0, 1) := by decide +kernel
theorem dX9_records_40 : decode cX9_records 40 = .ok (.dup, 1) := by decide +kernel
theorem dX9_records_41 : decode cX9_records 41 = .ok (.getfield 40, 3) := by decide +kernel
theorem dX9_records_44 : decode cX9_records 44 = .ok (.iconst 1, 1) := by decide +kernel
theorem dX9_records_45 : decode cX9_records 45 = .ok (.isub, 1) := by decide +kernel
theorem dX9_records_46 : decode cX9_records 46 = .ok (.putfield 40, 3) := by decide +kernel
theorem dX9_records_49 : decode cX9_records 49 = .ok (.iconst 0, 1) := by decide +kernel
theorem dX9_records_50 : decode cX9_records 50 = .ok (.istore_n 1, 1) := by decide +kernel
theorem dX9_records_51 : decode cX9_records 51 = .ok (.iload_n 1, 1) := by decide +kernel
theorem dX9_records_52 : decode cX9_records 52 = .ok (.sipush 183, 3) := by decide +kernel
theorem dX9_records_55 : decode cX9_records 55 = .ok (.if_icmp .ge 30, 3) := by decide +kernel
theorem dX9_records_58 : decode cX9_records 58 = .ok (.aload_n 0, 1) := by decide +kernel
theorem dX9_records_59 : decode cX9_records 59 = .ok (.getfield 16, 3) := by decide +kernel
theorem dX9_records_62 : decode cX9_records 62 = .ok (.sipush 183, 3) := by decide +kernel
theorem dX9_records_65 : decode cX9_records 65 = .ok (.aload_n 0, 1) := by decide +kernel
theorem dX9_records_66 : decode cX9_records 66 = .ok (.getfield 40, 3) := by decide +kernel
theorem dX9_records_69 : decode cX9_records 69 = .ok (.imul, 1) := by decide +kernel
theorem dX9_records_70 : decode cX9_records 70 = .ok (.iload_n 1, 1) := by decide +kernel
theorem dX9_records_71 : decode cX9_records 71 = .ok (.iadd, 1) := by decide +kernel
theorem dX9_records_72 : decode cX9_records 72 = .ok (.aload_n 0, 1) := by decide +kernel
theorem dX9_records_73 : decode cX9_records 73 = .ok (.getfield 7, 3) := by decide +kernel
theorem dX9_records_76 : decode cX9_records 76 = .ok (.iload_n 1, 1) := by decide +kernel
theorem dX9_records_77 : decode cX9_records 77 = .ok (.iaload, 1) := by decide +kernel
theorem dX9_records_78 : decode cX9_records 78 = .ok (.iastore, 1) := by decide +kernel
theorem dX9_records_79 : decode cX9_records 79 = .ok (.iinc 1 1, 3) := by decide +kernel
theorem dX9_records_82 : decode cX9_records 82 = .ok (.goto (-31), 3) := by decide +kernel
theorem dX9_records_85 : decode cX9_records 85 = .ok (.aload_n 0, 1) := by decide +kernel
theorem dX9_records_86 : decode cX9_records 86 = .ok (.dup, 1) := by decide +kernel
theorem dX9_records_87 : decode cX9_records 87 = .ok (.getfield 40, 3) := by decide +kernel
theorem dX9_records_90 : decode cX9_records 90 = .ok (.iconst 1, 1) := by decide +kernel
theorem dX9_records_91 : decode cX9_records 91 = .ok (.iadd, 1) := by decide +kernel
theorem dX9_records_92 : decode cX9_records 92 = .ok (.putfield 40, 3) := by decide +kernel
theorem dX9_records_95 : decode cX9_records 95 = .ok (.return_, 1) := by decide +kernel
theorem dX9_putAside_0 : decode cX9_putAside 0 = .ok (.iconst 0, 1) := by decide +kernel
theorem dX9_putAside_1 : decode cX9_putAside 1 = .ok (.istore_n 1, 1) := by decide +kernel
theorem dX9_putAside_2 : decode cX9_putAside 2 = .ok (.iload_n 1, 1) := by decide +kernel
theorem dX9_putAside_3 : decode cX9_putAside 3 = .ok (.sipush 183, 3) := by decide +kernel
theorem dX9_putAside_6 : decode cX9_putAside 6 = .ok (.if_icmp .ge 21, 3) := by decide +kernel
theorem dX9_putAside_9 : decode cX9_putAside 9 = .ok (.aload_n 0, 1) := by decide +kernel
theorem dX9_putAside_10 : decode cX9_putAside 10 = .ok (.getfield 13, 3) := by decide +kernel
theorem dX9_putAside_13 : decode cX9_putAside 13 = .ok (.iload_n 1, 1) := by decide +kernel
theorem dX9_putAside_14 : decode cX9_putAside 14 = .ok (.aload_n 0, 1) := by decide +kernel
theorem dX9_putAside_15 : decode cX9_putAside 15 = .ok (.getfield 7, 3) := by decide +kernel
theorem dX9_putAside_18 : decode cX9_putAside 18 = .ok (.iload_n 1, 1) := by decide +kernel
theorem dX9_putAside_19 : decode cX9_putAside 19 = .ok (.iaload, 1) := by decide +kernel
theorem dX9_putAside_20 : decode cX9_putAside 20 = .ok (.iastore, 1) := by decide +kernel
theorem dX9_putAside_21 : decode cX9_putAside 21 = .ok (.iinc 1 1, 3) := by decide +kernel
theorem dX9_putAside_24 : decode cX9_putAside 24 = .ok (.goto (-22), 3) := by decide +kernel
theorem dX9_putAside_27 : decode cX9_putAside 27 = .ok (.return_, 1) := by decide +kernel
theorem dX9_putBack_0 : decode cX9_putBack 0 = .ok (.iconst 0, 1) := by decide +kernel
theorem dX9_putBack_1 : decode cX9_putBack 1 = .ok (.istore_n 1, 1) := by decide +kernel
theorem dX9_putBack_2 : decode cX9_putBack 2 = .ok (.iload_n 1, 1) := by decide +kernel
theorem dX9_putBack_3 : decode cX9_putBack 3 = .ok (.sipush 183, 3) := by decide +kernel
theorem dX9_putBack_6 : decode cX9_putBack 6 = .ok (.if_icmp .ge 21, 3) := by decide +kernel
theorem dX9_putBack_9 : decode cX9_putBack 9 = .ok (.aload_n 0, 1) := by decide +kernel
theorem dX9_putBack_10 : decode cX9_putBack 10 = .ok (.getfield 7, 3) := by decide +kernel
theorem dX9_putBack_13 : decode cX9_putBack 13 = .ok (.iload_n 1, 1) := by decide +kernel
theorem dX9_putBack_14 : decode cX9_putBack 14 = .ok (.aload_n 0, 1) := by decide +kernel
theorem dX9_putBack_15 : decode cX9_putBack 15 = .ok (.getfield 13, 3) := by decide +kernel
theorem dX9_putBack_18 : decode cX9_putBack 18 = .ok (.iload_n 1, 1) := by decide +kernel
theorem dX9_putBack_19 : decode cX9_putBack 19 = .ok (.iaload, 1) := by decide +kernel
theorem dX9_putBack_20 : decode cX9_putBack 20 = .ok (.iastore, 1) := by decide +kernel
theorem dX9_putBack_21 : decode cX9_putBack 21 = .ok (.iinc 1 1, 3) := by decide +kernel
theorem dX9_putBack_24 : decode cX9_putBack 24 = .ok (.goto (-22), 3) := by decide +kernel
theorem dX9_putBack_27 : decode cX9_putBack 27 = .ok (.return_, 1) := by decide +kernel
theorem dX9_home_0 : decode cX9_home 0 = .ok (.iload_n 0, 1) := by decide +kernel
theorem dX9_home_1 : decode cX9_home 1 = .ok (.ifCond .ne 8, 3) := by decide +kernel
theorem dX9_home_4 : decode cX9_home 4 = .ok (.bipush 22, 2) := by decide +kernel
theorem dX9_home_6 : decode cX9_home 6 = .ok (.goto 25, 3) := by decide +kernel
theorem dX9_home_9 : decode cX9_home 9 = .ok (.iload_n 0, 1) := by decide +kernel
theorem dX9_home_10 : decode cX9_home 10 = .ok (.iconst 1, 1) := by decide +kernel
theorem dX9_home_11 : decode cX9_home 11 = .ok (.if_icmp .ne 8, 3) := by decide +kernel
theorem dX9_home_14 : decode cX9_home 14 = .ok (.bipush 27, 2) := by decide +kernel
theorem dX9_home_16 : decode cX9_home 16 = .ok (.goto 15, 3) := by decide +kernel
theorem dX9_home_19 : decode cX9_home 19 = .ok (.iload_n 0, 1) := by decide +kernel
theorem dX9_home_20 : decode cX9_home 20 = .ok (.iconst 2, 1) := by decide +kernel
theorem dX9_home_21 : decode cX9_home 21 = .ok (.if_icmp .ne 8, 3) := by decide +kernel
theorem dX9_home_24 : decode cX9_home 24 = .ok (.bipush 72, 2) := by decide +kernel
theorem dX9_home_26 : decode cX9_home 26 = .ok (.goto 5, 3) := by decide +kernel
theorem dX9_home_29 : decode cX9_home 29 = .ok (.bipush 77, 2) := by decide +kernel
theorem dX9_home_31 : decode cX9_home 31 = .ok (.ireturn, 1) := by decide +kernel
theorem dX9_isHome_0 : decode cX9_isHome 0 = .ok (.iload_n 0, 1) := by decide +kernel
theorem dX9_isHome_1 : decode cX9_isHome 1 = .ok (.bipush 22, 2) := by decide +kernel
theorem dX9_isHome_3 : decode cX9_isHome 3 = .ok (.if_icmp .eq 21, 3) := by decide +kernel
theorem dX9_isHome_6 : decode cX9_isHome 6 = .ok (.iload_n 0, 1) := by decide +kernel
theorem dX9_isHome_7 : decode cX9_isHome 7 = .ok (.bipush 27, 2) := by decide +kernel
theorem dX9_isHome_9 : decode cX9_isHome 9 = .ok (.if_icmp .eq 15, 3) := by decide +kernel
theorem dX9_isHome_12 : decode cX9_isHome 12 = .ok (.iload_n 0, 1) := by decide +kernel
theorem dX9_isHome_13 : decode cX9_isHome 13 = .ok (.bipush 72, 2) := by decide +kernel
theorem dX9_isHome_15 : decode cX9_isHome 15 = .ok (.if_icmp .eq 9, 3) := by decide +kernel
theorem dX9_isHome_18 : decode cX9_isHome 18 = .ok (.iload_n 0, 1) := by decide +kernel
theorem dX9_isHome_19 : decode cX9_isHome 19 = .ok (.bipush 77, 2) := by decide +kernel
theorem dX9_isHome_21 : decode cX9_isHome 21 = .ok (.if_icmp .ne 7, 3) := by decide +kernel
theorem dX9_isHome_24 : decode cX9_isHome 24 = .ok (.iconst 1, 1) := by decide +kernel
theorem dX9_isHome_25 : decode cX9_isHome 25 = .ok (.goto 4, 3) := by decide +kernel
theorem dX9_isHome_28 : decode cX9_isHome 28 = .ok (.iconst 0, 1) := by decide +kernel
theorem dX9_isHome_29 : decode cX9_isHome 29 = .ok (.ireturn, 1) := by decide +kernel
theorem dX9_size_0 : decode cX9_size 0 = .ok (.iload_n 0, 1) := by decide +kernel
theorem dX9_size_1 : decode cX9_size 1 = .ok (.ifCond .ge 8, 3) := by decide +kernel
theorem dX9_size_4 : decode cX9_size 4 = .ok (.iload_n 0, 1) := by decide +kernel
theorem dX9_size_5 : decode cX9_size 5 = .ok (.ineg, 1) := by decide +kernel
theorem dX9_size_6 : decode cX9_size 6 = .ok (.goto 4, 3) := by decide +kernel
theorem dX9_size_9 : decode cX9_size 9 = .ok (.iload_n 0, 1) := by decide +kernel
theorem dX9_size_10 : decode cX9_size 10 = .ok (.ireturn, 1) := by decide +kernel
theorem dX9_east_0 : decode cX9_east 0 = .ok (.iload_n 1, 1) := by decide +kernel
theorem dX9_east_1 : decode cX9_east 1 = .ok (.bipush 10, 2) := by decide +kernel
theorem dX9_east_3 : decode cX9_east 3 = .ok (.irem, 1) := by decide +kernel
theorem dX9_east_4 : decode cX9_east 4 = .ok (.iload_n 0, 1) := by decide +kernel
theorem dX9_east_5 : decode cX9_east 5 = .ok (.bipush 10, 2) := by decide +kernel
theorem dX9_east_7 : decode cX9_east 7 = .ok (.irem, 1) := by decide +kernel
theorem dX9_east_8 : decode cX9_east 8 = .ok (.isub, 1) := by decide +kernel
theorem dX9_east_9 : decode cX9_east 9 = .ok (.ireturn, 1) := by decide +kernel
theorem dX9_south_0 : decode cX9_south 0 = .ok (.iload_n 1, 1) := by decide +kernel
theorem dX9_south_1 : decode cX9_south 1 = .ok (.bipush 10, 2) := by decide +kernel
theorem dX9_south_3 : decode cX9_south 3 = .ok (.idiv, 1) := by decide +kernel
theorem dX9_south_4 : decode cX9_south 4 = .ok (.iload_n 0, 1) := by decide +kernel
theorem dX9_south_5 : decode cX9_south 5 = .ok (.bipush 10, 2) := by decide +kernel
theorem dX9_south_7 : decode cX9_south 7 = .ok (.idiv, 1) := by decide +kernel
theorem dX9_south_8 : decode cX9_south 8 = .ok (.isub, 1) := by decide +kernel
theorem dX9_south_9 : decode cX9_south 9 = .ok (.ireturn, 1) := by decide +kernel
theorem dX9_distance_0 : decode cX9_distance 0 = .ok (.iload_n 0, 1) := by decide +kernel
theorem dX9_distance_1 : decode cX9_distance 1 = .ok (.iload_n 1, 1) := by decide +kernel
theorem dX9_distance_2 : decode cX9_distance 2 = .ok (.invokestatic 44, 3) := by decide +kernel
theorem dX9_distance_5 : decode cX9_distance 5 = .ok (.invokestatic 47, 3) := by decide +kernel
theorem dX9_distance_8 : decode cX9_distance 8 = .ok (.istore_n 2, 1) := by decide +kernel
theorem dX9_distance_9 : decode cX9_distance 9 = .ok (.iload_n 0, 1) := by decide +kernel
theorem dX9_distance_10 : decode cX9_distance 10 = .ok (.iload_n 1, 1) := by decide +kernel
theorem dX9_distance_11 : decode cX9_distance 11 = .ok (.invokestatic 51, 3) := by decide +kernel
theorem dX9_distance_14 : decode cX9_distance 14 = .ok (.invokestatic 47, 3) := by decide +kernel
theorem dX9_distance_17 : decode cX9_distance 17 = .ok (.istore_n 3, 1) := by decide +kernel
theorem dX9_distance_18 : decode cX9_distance 18 = .ok (.iload_n 2, 1) := by decide +kernel
theorem dX9_distance_19 : decode cX9_distance 19 = .ok (.iload_n 3, 1) := by decide +kernel
theorem dX9_distance_20 : decode cX9_distance 20 = .ok (.if_icmp .le 7, 3) := by decide +kernel
theorem dX9_distance_23 : decode cX9_distance 23 = .ok (.iload_n 2, 1) := by decide +kernel
theorem dX9_distance_24 : decode cX9_distance 24 = .ok (.goto 4, 3) := by decide +kernel
theorem dX9_distance_27 : decode cX9_distance 27 = .ok (.iload_n 3, 1) := by decide +kernel
theorem dX9_distance_28 : decode cX9_distance 28 = .ok (.ireturn, 1) := by decide +kernel
theorem dX9_wind_0 : decode cX9_wind 0 = .ok (.iload_n 0, 1) := by decide +kernel
theorem dX9_wind_1 : decode cX9_wind 1 = .ok (.invokestatic 54, 3) := by decide +kernel
theorem dX9_wind_4 : decode cX9_wind 4 = .ok (.iload_n 1, 1) := by decide +kernel
theorem dX9_wind_5 : decode cX9_wind 5 = .ok (.invokestatic 44, 3) := by decide +kernel
theorem dX9_wind_8 : decode cX9_wind 8 = .ok (.istore_n 2, 1) := by decide +kernel
theorem dX9_wind_9 : decode cX9_wind 9 = .ok (.iload_n 0, 1) := by decide +kernel
theorem dX9_wind_10 : decode cX9_wind 10 = .ok (.invokestatic 54, 3) := by decide +kernel
theorem dX9_wind_13 : decode cX9_wind 13 = .ok (.iload_n 1, 1) := by decide +kernel
theorem dX9_wind_14 : decode cX9_wind 14 = .ok (.invokestatic 51, 3) := by decide +kernel
theorem dX9_wind_17 : decode cX9_wind 17 = .ok (.istore_n 3, 1) := by decide +kernel
theorem dX9_wind_18 : decode cX9_wind 18 = .ok (.iload_n 2, 1) := by decide +kernel
theorem dX9_wind_19 : decode cX9_wind 19 = .ok (.ifCond .ne 10, 3) := by decide +kernel
theorem dX9_wind_22 : decode cX9_wind 22 = .ok (.iload_n 3, 1) := by decide +kernel
theorem dX9_wind_23 : decode cX9_wind 23 = .ok (.ifCond .ne 6, 3) := by decide +kernel
theorem dX9_wind_26 : decode cX9_wind 26 = .ok (.bipush (-5), 2) := by decide +kernel
theorem dX9_wind_28 : decode cX9_wind 28 = .ok (.ireturn, 1) := by decide +kernel
theorem dX9_wind_29 : decode cX9_wind 29 = .ok (.iconst 2, 1) := by decide +kernel
theorem dX9_wind_30 : decode cX9_wind 30 = .ok (.iload_n 3, 1) := by decide +kernel
theorem dX9_wind_31 : decode cX9_wind 31 = .ok (.invokestatic 47, 3) := by decide +kernel
theorem dX9_wind_34 : decode cX9_wind 34 = .ok (.imul, 1) := by decide +kernel
theorem dX9_wind_35 : decode cX9_wind 35 = .ok (.iload_n 2, 1) := by decide +kernel
theorem dX9_wind_36 : decode cX9_wind 36 = .ok (.invokestatic 47, 3) := by decide +kernel
theorem dX9_wind_39 : decode cX9_wind 39 = .ok (.if_icmp .gt 13, 3) := by decide +kernel
theorem dX9_wind_42 : decode cX9_wind 42 = .ok (.iload_n 2, 1) := by decide +kernel
theorem dX9_wind_43 : decode cX9_wind 43 = .ok (.ifCond .le 7, 3) := by decide +kernel
theorem dX9_wind_46 : decode cX9_wind 46 = .ok (.iconst 0, 1) := by decide +kernel
theorem dX9_wind_47 : decode cX9_wind 47 = .ok (.goto 4, 3) := by decide +kernel
theorem dX9_wind_50 : decode cX9_wind 50 = .ok (.iconst 4, 1) := by decide +kernel
theorem dX9_wind_51 : decode cX9_wind 51 = .ok (.ireturn, 1) := by decide +kernel
theorem dX9_wind_52 : decode cX9_wind 52 = .ok (.iconst 2, 1) := by decide +kernel
theorem dX9_wind_53 : decode cX9_wind 53 = .ok (.iload_n 2, 1) := by decide +kernel
theorem dX9_wind_54 : decode cX9_wind 54 = .ok (.invokestatic 47, 3) := by decide +kernel
theorem dX9_wind_57 : decode cX9_wind 57 = .ok (.imul, 1) := by decide +kernel
theorem dX9_wind_58 : decode cX9_wind 58 = .ok (.iload_n 3, 1) := by decide +kernel
theorem dX9_wind_59 : decode cX9_wind 59 = .ok (.invokestatic 47, 3) := by decide +kernel
theorem dX9_wind_62 : decode cX9_wind 62 = .ok (.if_icmp .gt 14, 3) := by decide +kernel
theorem dX9_wind_65 : decode cX9_wind 65 = .ok (.iload_n 3, 1) := by decide +kernel
theorem dX9_wind_66 : decode cX9_wind 66 = .ok (.ifCond .le 7, 3) := by decide +kernel
theorem dX9_wind_69 : decode cX9_wind 69 = .ok (.iconst 2, 1) := by decide +kernel
theorem dX9_wind_70 : decode cX9_wind 70 = .ok (.goto 5, 3) := by decide +kernel
theorem dX9_wind_73 : decode cX9_wind 73 = .ok (.bipush 6, 2) := by decide +kernel
theorem dX9_wind_75 : decode cX9_wind 75 = .ok (.ireturn, 1) := by decide +kernel
theorem dX9_wind_76 : decode cX9_wind 76 = .ok (.iload_n 3, 1) := by decide +kernel
theorem dX9_wind_77 : decode cX9_wind 77 = .ok (.ifCond .le 15, 3) := by decide +kernel
theorem dX9_wind_80 : decode cX9_wind 80 = .ok (.iload_n 2, 1) := by decide +kernel
theorem dX9_wind_81 : decode cX9_wind 81 = .ok (.ifCond .le 7, 3) := by decide +kernel
theorem dX9_wind_84 : decode cX9_wind 84 = .ok (.iconst 1, 1) := by decide +kernel
theorem dX9_wind_85 : decode cX9_wind 85 = .ok (.goto 17, 3) := by decide +kernel
theorem dX9_wind_88 : decode cX9_wind 88 = .ok (.iconst 3, 1) := by decide +kernel
theorem dX9_wind_89 : decode cX9_wind 89 = .ok (.goto 13, 3) := by decide +kernel
theorem dX9_wind_92 : decode cX9_wind 92 = .ok (.iload_n 2, 1) := by decide +kernel
theorem dX9_wind_93 : decode cX9_wind 93 = .ok (.ifCond .le 8, 3) := by decide +kernel
theorem dX9_wind_96 : decode cX9_wind 96 = .ok (.bipush 7, 2) := by decide +kernel
theorem dX9_wind_98 : decode cX9_wind 98 = .ok (.goto 4, 3) := by decide +kernel
theorem dX9_wind_101 : decode cX9_wind 101 = .ok (.iconst 5, 1) := by decide +kernel
theorem dX9_wind_102 : decode cX9_wind 102 = .ok (.ireturn, 1) := by decide +kernel
theorem dX9_beam_0 : decode cX9_beam 0 = .ok (.aload_n 0, 1) := by decide +kernel
theorem dX9_beam_1 : decode cX9_beam 1 = .ok (.getfield 7, 3) := by decide +kernel
theorem dX9_beam_4 : decode cX9_beam 4 = .ok (.iload_n 1, 1) := by decide +kernel
theorem dX9_beam_5 : decode cX9_beam 5 = .ok (.iconst 0, 1) := by decide +kernel
theorem dX9_beam_6 : decode cX9_beam 6 = .ok (.invokestatic 29, 3) := by decide +kernel
theorem dX9_beam_9 : decode cX9_beam 9 = .ok (.iaload, 1) := by decide +kernel
theorem dX9_beam_10 : decode cX9_beam 10 = .ok (.iload_n 2, 1) := by decide +kernel
theorem dX9_beam_11 : decode cX9_beam 11 = .ok (.aload_n 0, 1) := by decide +kernel
theorem dX9_beam_12 : decode cX9_beam 12 = .ok (.getfield 7, 3) := by decide +kernel
theorem dX9_beam_15 : decode cX9_beam 15 = .ok (.iload_n 1, 1) := by decide +kernel
theorem dX9_beam_16 : decode cX9_beam 16 = .ok (.iconst 1, 1) := by decide +kernel
theorem dX9_beam_17 : decode cX9_beam 17 = .ok (.invokestatic 29, 3) := by decide +kernel
theorem dX9_beam_20 : decode cX9_beam 20 = .ok (.iaload, 1) := by decide +kernel
theorem dX9_beam_21 : decode cX9_beam 21 = .ok (.imul, 1) := by decide +kernel
theorem dX9_beam_22 : decode cX9_beam 22 = .ok (.iadd, 1) := by decide +kernel
theorem dX9_beam_23 : decode cX9_beam 23 = .ok (.bipush 8, 2) := by decide +kernel
theorem dX9_beam_25 : decode cX9_beam 25 = .ok (.irem, 1) := by decide +kernel
theorem dX9_beam_26 : decode cX9_beam 26 = .ok (.ireturn, 1) := by decide +kernel
theorem dX9_isDark_0 : decode cX9_isDark 0 = .ok (.aload_n 0, 1) := by decide +kernel
theorem dX9_isDark_1 : decode cX9_isDark 1 = .ok (.getfield 7, 3) := by decide +kernel
theorem dX9_isDark_4 : decode cX9_isDark 4 = .ok (.iload_n 1, 1) := by decide +kernel
theorem dX9_isDark_5 : decode cX9_isDark 5 = .ok (.iconst 3, 1) := by decide +kernel
theorem dX9_isDark_6 : decode cX9_isDark 6 = .ok (.invokestatic 29, 3) := by decide +kernel
theorem dX9_isDark_9 : decode cX9_isDark 9 = .ok (.iaload, 1) := by decide +kernel
theorem dX9_isDark_10 : decode cX9_isDark 10 = .ok (.iload_n 2, 1) := by decide +kernel
theorem dX9_isDark_11 : decode cX9_isDark 11 = .ok (.ishr, 1) := by decide +kernel
theorem dX9_isDark_12 : decode cX9_isDark 12 = .ok (.iconst 1, 1) := by decide +kernel
theorem dX9_isDark_13 : decode cX9_isDark 13 = .ok (.iand, 1) := by decide +kernel
theorem dX9_isDark_14 : decode cX9_isDark 14 = .ok (.iconst 1, 1) := by decide +kernel
theorem dX9_isDark_15 : decode cX9_isDark 15 = .ok (.if_icmp .ne 7, 3) := by decide +kernel
theorem dX9_isDark_18 : decode cX9_isDark 18 = .ok (.iconst 1, 1) := by decide +kernel
theorem dX9_isDark_19 : decode cX9_isDark 19 = .ok (.goto 4, 3) := by decide +kernel
theorem dX9_isDark_22 : decode cX9_isDark 22 = .ok (.iconst 0, 1) := by decide +kernel
theorem dX9_isDark_23 : decode cX9_isDark 23 = .ok (.ireturn, 1) := by decide +kernel
theorem dX9_lights_0 : decode cX9_lights 0 = .ok (.iload_n 1, 1) := by decide +kernel
theorem dX9_lights_1 : decode cX9_lights 1 = .ok (.iload_n 2, 1) := by decide +kernel
theorem dX9_lights_2 : decode cX9_lights 2 = .ok (.invokestatic 57, 3) := by decide +kernel
theorem dX9_lights_5 : decode cX9_lights 5 = .ok (.istore 5, 2) := by decide +kernel
theorem dX9_lights_7 : decode cX9_lights 7 = .ok (.iload 5, 2) := by decide +kernel
theorem dX9_lights_9 : decode cX9_lights 9 = .ok (.bipush (-5), 2) := by decide +kernel
theorem dX9_lights_11 : decode cX9_lights 11 = .ok (.if_icmp .eq 48, 3) := by decide +kernel
theorem dX9_lights_14 : decode cX9_lights 14 = .ok (.iload 5, 2) := by decide +kernel
theorem dX9_lights_16 : decode cX9_lights 16 = .ok (.aload_n 0, 1) := by decide +kernel
theorem dX9_lights_17 : decode cX9_lights 17 = .ok (.iload_n 1, 1) := by decide +kernel
theorem dX9_lights_18 : decode cX9_lights 18 = .ok (.iload_n 3, 1) := by decide +kernel
theorem dX9_lights_19 : decode cX9_lights 19 = .ok (.invokevirtual 60, 3) := by decide +kernel
theorem dX9_lights_22 : decode cX9_lights 22 = .ok (.if_icmp .ne 41, 3) := by decide +kernel
theorem dX9_lights_25 : decode cX9_lights 25 = .ok (.aload_n 0, 1) := by decide +kernel
theorem dX9_lights_26 : decode cX9_lights 26 = .ok (.iload_n 1, 1) := by decide +kernel
theorem dX9_lights_27 : decode cX9_lights 27 = .ok (.iload 5, 2) := by decide +kernel
theorem dX9_lights_29 : decode cX9_lights 29 = .ok (.invokevirtual 63, 3) := by decide +kernel
theorem dX9_lights_32 : decode cX9_lights 32 = .ok (.ifCond .ne 31, 3) := by decide +kernel
theorem dX9_lights_35 : decode cX9_lights 35 = .ok (.iload_n 1, 1) := by decide +kernel
theorem dX9_lights_36 : decode cX9_lights 36 = .ok (.invokestatic 54, 3) := by decide +kernel
theorem dX9_lights_39 : decode cX9_lights 39 = .ok (.iload_n 2, 1) := by decide +kernel
theorem dX9_lights_40 : decode cX9_lights 40 = .ok (.invokestatic 67, 3) := by decide +kernel
theorem dX9_lights_43 : decode cX9_lights 43 = .ok (.aload_n 0, 1) := by decide +kernel
theorem dX9_lights_44 : decode cX9_lights 44 = .ok (.getfield 7, 3) := by decide +kernel
theorem dX9_lights_47 : decode cX9_lights 47 = .ok (.iload_n 1, 1) := by decide +kernel
theorem dX9_lights_48 : decode cX9_lights 48 = .ok (.iconst 2, 1) := by decide +kernel
theorem dX9_lights_49 : decode cX9_lights 49 = .ok (.invokestatic 29, 3) := by decide +kernel
theorem dX9_lights_52 : decode cX9_lights 52 = .ok (.iaload, 1) := by decide +kernel
theorem dX9_lights_53 : decode cX9_lights 53 = .ok (.iload 4, 2) := by decide +kernel
theorem dX9_lights_55 : decode cX9_lights 55 = .ok (.isub, 1) := by decide +kernel
theorem dX9_lights_56 : decode cX9_lights 56 = .ok (.if_icmp .gt 7, 3) := by decide +kernel
theorem dX9_lights_59 : decode cX9_lights 59 = .ok (.iconst 1, 1) := by decide +kernel
theorem dX9_lights_60 : decode cX9_lights 60 = .ok (.goto 4, 3) := by decide +kernel
theorem dX9_lights_63 : decode cX9_lights 63 = .ok (.iconst 0, 1) := by decide +kernel
theorem dX9_lights_64 : decode cX9_lights 64 = .ok (.ireturn, 1) := by decide +kernel
theorem dX9_litBy_0 : decode cX9_litBy 0 = .ok (.aload_n 0, 1) := by decide +kernel
theorem dX9_litBy_1 : decode cX9_litBy 1 = .ok (.iload_n 1, 1) := by decide +kernel
theorem dX9_litBy_2 : decode cX9_litBy 2 = .ok (.iload_n 2, 1) := by decide +kernel
theorem dX9_litBy_3 : decode cX9_litBy 3 = .ok (.aload_n 0, 1) := by decide +kernel
theorem dX9_litBy_4 : decode cX9_litBy 4 = .ok (.getfield 7, 3) := by decide +kernel
theorem dX9_litBy_7 : decode cX9_litBy 7 = .ok (.sipush 181, 3) := by decide +kernel
theorem dX9_litBy_10 : decode cX9_litBy 10 = .ok (.iaload, 1) := by decide +kernel
theorem dX9_litBy_11 : decode cX9_litBy 11 = .ok (.aload_n 0, 1) := by decide +kernel
theorem dX9_litBy_12 : decode cX9_litBy 12 = .ok (.getfield 7, 3) := by decide +kernel
theorem dX9_litBy_15 : decode cX9_litBy 15 = .ok (.iload_n 1, 1) := by decide +kernel
theorem dX9_litBy_16 : decode cX9_litBy 16 = .ok (.iconst 4, 1) := by decide +kernel
theorem dX9_litBy_17 : decode cX9_litBy 17 = .ok (.invokestatic 29, 3) := by decide +kernel
theorem dX9_litBy_20 : decode cX9_litBy 20 = .ok (.iaload, 1) := by decide +kernel
theorem dX9_litBy_21 : decode cX9_litBy 21 = .ok (.invokevirtual 70, 3) := by decide +kernel
theorem dX9_litBy_24 : decode cX9_litBy 24 = .ok (.ireturn, 1) := by decide +kernel
theorem dX9_lightsOn_0 : decode cX9_lightsOn 0 = .ok (.iconst 0, 1) := by decide +kernel
theorem dX9_lightsOn_1 : decode cX9_lightsOn 1 = .ok (.istore_n 2, 1) := by decide +kernel
theorem dX9_lightsOn_2 : decode cX9_lightsOn 2 = .ok (.iconst 0, 1) := by decide +kernel
theorem dX9_lightsOn_3 : decode cX9_lightsOn 3 = .ok (.istore_n 3, 1) := by decide +kernel
theorem dX9_lightsOn_4 : decode cX9_lightsOn 4 = .ok (.iload_n 3, 1) := by decide +kernel
theorem dX9_lightsOn_5 : decode cX9_lightsOn 5 = .ok (.iconst 4, 1) := by decide +kernel
theorem dX9_lightsOn_6 : decode cX9_lightsOn 6 = .ok (.if_icmp .ge 28, 3) := by decide +kernel
theorem dX9_lightsOn_9 : decode cX9_lightsOn 9 = .ok (.iload_n 2, 1) := by decide +kernel
theorem dX9_lightsOn_10 : decode cX9_lightsOn 10 = .ok (.aload_n 0, 1) := by decide +kernel
theorem dX9_lightsOn_11 : decode cX9_lightsOn 11 = .ok (.iload_n 3, 1) := by decide +kernel
theorem dX9_lightsOn_12 : decode cX9_lightsOn 12 = .ok (.iload_n 1, 1) := by decide +kernel
theorem dX9_lightsOn_13 : decode cX9_lightsOn 13 = .ok (.invokevirtual 74, 3) := by decide +kernel
theorem dX9_lightsOn_16 : decode cX9_lightsOn 16 = .ok (.ifCond .eq 9, 3) := by decide +kernel
theorem dX9_lightsOn_19 : decode cX9_lightsOn 19 = .ok (.iconst 1, 1) := by decide +kernel
theorem dX9_lightsOn_20 : decode cX9_lightsOn 20 = .ok (.iload_n 3, 1) := by decide +kernel
theorem dX9_lightsOn_21 : decode cX9_lightsOn 21 = .ok (.ishl, 1) := by decide +kernel
theorem dX9_lightsOn_22 : decode cX9_lightsOn 22 = .ok (.goto 4, 3) := by decide +kernel
theorem dX9_lightsOn_25 : decode cX9_lightsOn 25 = .ok (.iconst 0, 1) := by decide +kernel
theorem dX9_lightsOn_26 : decode cX9_lightsOn 26 = .ok (.ior, 1) := by decide +kernel
theorem dX9_lightsOn_27 : decode cX9_lightsOn 27 = .ok (.istore_n 2, 1) := by decide +kernel
theorem dX9_lightsOn_28 : decode cX9_lightsOn 28 = .ok (.iinc 3 1, 3) := by decide +kernel
theorem dX9_lightsOn_31 : decode cX9_lightsOn 31 = .ok (.goto (-27), 3) := by decide +kernel
theorem dX9_lightsOn_34 : decode cX9_lightsOn 34 = .ok (.iload_n 2, 1) := by decide +kernel
theorem dX9_lightsOn_35 : decode cX9_lightsOn 35 = .ok (.ireturn, 1) := by decide +kernel
theorem dX9_nearest_0 : decode cX9_nearest 0 = .ok (.iconst 0, 1) := by decide +kernel
theorem dX9_nearest_1 : decode cX9_nearest 1 = .ok (.istore_n 1, 1) := by decide +kernel
theorem dX9_nearest_2 : decode cX9_nearest 2 = .ok (.iconst 1, 1) := by decide +kernel
theorem dX9_nearest_3 : decode cX9_nearest 3 = .ok (.istore_n 2, 1) := by decide +kernel
theorem dX9_nearest_4 : decode cX9_nearest 4 = .ok (.iload_n 2, 1) := by decide +kernel
theorem dX9_nearest_5 : decode cX9_nearest 5 = .ok (.iconst 4, 1) := by decide +kernel
theorem dX9_nearest_6 : decode cX9_nearest 6 = .ok (.if_icmp .ge 34, 3) := by decide +kernel
theorem dX9_nearest_9 : decode cX9_nearest 9 = .ok (.iload_n 2, 1) := by decide +kernel
theorem dX9_nearest_10 : decode cX9_nearest 10 = .ok (.invokestatic 54, 3) := by decide +kernel
theorem dX9_nearest_13 : decode cX9_nearest 13 = .ok (.iload_n 0, 1) := by decide +kernel
theorem dX9_nearest_14 : decode cX9_nearest 14 = .ok (.invokestatic 67, 3) := by decide +kernel
theorem dX9_nearest_17 : decode cX9_nearest 17 = .ok (.iload_n 1, 1) := by decide +kernel
theorem dX9_nearest_18 : decode cX9_nearest 18 = .ok (.invokestatic 54, 3) := by decide +kernel
theorem dX9_nearest_21 : decode cX9_nearest 21 = .ok (.iload_n 0, 1) := by decide +kernel
theorem dX9_nearest_22 : decode cX9_nearest 22 = .ok (.invokestatic 67, 3) := by decide +kernel
theorem dX9_nearest_25 : decode cX9_nearest 25 = .ok (.if_icmp .ge 7, 3) := by decide +kernel
theorem dX9_nearest_28 : decode cX9_nearest 28 = .ok (.iload_n 2, 1) := by decide +kernel
theorem dX9_nearest_29 : decode cX9_nearest 29 = .ok (.goto 4, 3) := by decide +kernel
theorem dX9_nearest_32 : decode cX9_nearest 32 = .ok (.iload_n 1, 1) := by decide +kernel
theorem dX9_nearest_33 : decode cX9_nearest 33 = .ok (.istore_n 1, 1) := by decide +kernel
theorem dX9_nearest_34 : decode cX9_nearest 34 = .ok (.iinc 2 1, 3) := by decide +kernel
theorem dX9_nearest_37 : decode cX9_nearest 37 = .ok (.goto (-33), 3) := by decide +kernel
theorem dX9_nearest_40 : decode cX9_nearest 40 = .ok (.iload_n 1, 1) := by decide +kernel
theorem dX9_nearest_41 : decode cX9_nearest 41 = .ok (.ireturn, 1) := by decide +kernel
theorem dX9_rocks_0 : decode cX9_rocks 0 = .ok (.iconst 0, 1) := by decide +kernel
theorem dX9_rocks_1 : decode cX9_rocks 1 = .ok (.istore_n 1, 1) := by decide +kernel
theorem dX9_rocks_2 : decode cX9_rocks 2 = .ok (.iconst 0, 1) := by decide +kernel
theorem dX9_rocks_3 : decode cX9_rocks 3 = .ok (.istore_n 2, 1) := by decide +kernel
theorem dX9_rocks_4 : decode cX9_rocks 4 = .ok (.iload_n 2, 1) := by decide +kernel
theorem dX9_rocks_5 : decode cX9_rocks 5 = .ok (.bipush 100, 2) := by decide +kernel
theorem dX9_rocks_7 : decode cX9_rocks 7 = .ok (.if_icmp .ge 20, 3) := by decide +kernel
theorem dX9_rocks_10 : decode cX9_rocks 10 = .ok (.iload_n 1, 1) := by decide +kernel
theorem dX9_rocks_11 : decode cX9_rocks 11 = .ok (.aload_n 0, 1) := by decide +kernel
theorem dX9_rocks_12 : decode cX9_rocks 12 = .ok (.getfield 7, 3) := by decide +kernel
theorem dX9_rocks_15 : decode cX9_rocks 15 = .ok (.iconst 0, 1) := by decide +kernel
theorem dX9_rocks_16 : decode cX9_rocks 16 = .ok (.iload_n 2, 1) := by decide +kernel
theorem dX9_rocks_17 : decode cX9_rocks 17 = .ok (.iadd, 1) := by decide +kernel
theorem dX9_rocks_18 : decode cX9_rocks 18 = .ok (.iaload, 1) := by decide +kernel
theorem dX9_rocks_19 : decode cX9_rocks 19 = .ok (.iadd, 1) := by decide +kernel
theorem dX9_rocks_20 : decode cX9_rocks 20 = .ok (.istore_n 1, 1) := by decide +kernel
theorem dX9_rocks_21 : decode cX9_rocks 21 = .ok (.iinc 2 1, 3) := by decide +kernel
theorem dX9_rocks_24 : decode cX9_rocks 24 = .ok (.goto (-20), 3) := by decide +kernel
theorem dX9_rocks_27 : decode cX9_rocks 27 = .ok (.iload_n 1, 1) := by decide +kernel
theorem dX9_rocks_28 : decode cX9_rocks 28 = .ok (.ireturn, 1) := by decide +kernel
theorem dX9_barRock_0 : decode cX9_barRock 0 = .ok (.iload_n 0, 1) := by decide +kernel
theorem dX9_barRock_1 : decode cX9_barRock 1 = .ok (.invokestatic 77, 3) := by decide +kernel
theorem dX9_barRock_4 : decode cX9_barRock 4 = .ok (.ifCond .ne 7, 3) := by decide +kernel
theorem dX9_barRock_7 : decode cX9_barRock 7 = .ok (.iconst (-1), 1) := by decide +kernel
theorem dX9_barRock_8 : decode cX9_barRock 8 = .ok (.goto 16, 3) := by decide +kernel
theorem dX9_barRock_11 : decode cX9_barRock 11 = .ok (.iload_n 0, 1) := by decide +kernel
theorem dX9_barRock_12 : decode cX9_barRock 12 = .ok (.invokestatic 81, 3) := by decide +kernel
theorem dX9_barRock_15 : decode cX9_barRock 15 = .ok (.ifCond .eq 8, 3) := by decide +kernel
theorem dX9_barRock_18 : decode cX9_barRock 18 = .ok (.bipush (-4), 2) := by decide +kernel
theorem dX9_barRock_20 : decode cX9_barRock 20 = .ok (.goto 4, 3) := by decide +kernel
theorem dX9_barRock_23 : decode cX9_barRock 23 = .ok (.iconst 0, 1) := by decide +kernel
theorem dX9_barRock_24 : decode cX9_barRock 24 = .ok (.ireturn, 1) := by decide +kernel
theorem dX9_rock_0 : decode cX9_rock 0 = .ok (.iload_n 1, 1) := by decide +kernel
theorem dX9_rock_1 : decode cX9_rock 1 = .ok (.invokestatic 84, 3) := by decide +kernel
theorem dX9_rock_4 : decode cX9_rock 4 = .ok (.istore_n 2, 1) := by decide +kernel
theorem dX9_rock_5 : decode cX9_rock 5 = .ok (.iload_n 2, 1) := by decide +kernel
theorem dX9_rock_6 : decode cX9_rock 6 = .ok (.ifCond .ge 5, 3) := by decide +kernel
theorem dX9_rock_9 : decode cX9_rock 9 = .ok (.iload_n 2, 1) := by decide +kernel
theorem dX9_rock_10 : decode cX9_rock 10 = .ok (.ireturn, 1) := by decide +kernel
theorem dX9_rock_11 : decode cX9_rock 11 = .ok (.aload_n 0, 1) := by decide +kernel
theorem dX9_rock_12 : decode cX9_rock 12 = .ok (.invokevirtual 87, 3) := by decide +kernel
theorem dX9_rock_15 : decode cX9_rock 15 = .ok (.aload_n 0, 1) := by decide +kernel
theorem dX9_rock_16 : decode cX9_rock 16 = .ok (.getfield 7, 3) := by decide +kernel
theorem dX9_rock_19 : decode cX9_rock 19 = .ok (.iconst 0, 1) := by decide +kernel
theorem dX9_rock_20 : decode cX9_rock 20 = .ok (.iload_n 1, 1) := by decide +kernel
theorem dX9_rock_21 : decode cX9_rock 21 = .ok (.iadd, 1) := by decide +kernel
theorem dX9_rock_22 : decode cX9_rock 22 = .ok (.iconst 1, 1) := by decide +kernel
theorem dX9_rock_23 : decode cX9_rock 23 = .ok (.aload_n 0, 1) := by decide +kernel
theorem dX9_rock_24 : decode cX9_rock 24 = .ok (.getfield 7, 3) := by decide +kernel
theorem dX9_rock_27 : decode cX9_rock 27 = .ok (.iconst 0, 1) := by decide +kernel
theorem dX9_rock_28 : decode cX9_rock 28 = .ok (.iload_n 1, 1) := by decide +kernel
theorem dX9_rock_29 : decode cX9_rock 29 = .ok (.iadd, 1) := by decide +kernel
theorem dX9_rock_30 : decode cX9_rock 30 = .ok (.iaload, 1) := by decide +kernel
theorem dX9_rock_31 : decode cX9_rock 31 = .ok (.isub, 1) := by decide +kernel
theorem dX9_rock_32 : decode cX9_rock 32 = .ok (.iastore, 1) := by decide +kernel
theorem dX9_rock_33 : decode cX9_rock 33 = .ok (.aload_n 0, 1) := by decide +kernel
theorem dX9_rock_34 : decode cX9_rock 34 = .ok (.invokevirtual 90, 3) := by decide +kernel
theorem dX9_rock_37 : decode cX9_rock 37 = .ok (.ireturn, 1) := by decide +kernel
theorem dX9_fits_0 : decode cX9_fits 0 = .ok (.iload_n 0, 1) := by decide +kernel
theorem dX9_fits_1 : decode cX9_fits 1 = .ok (.ifCond .ne 13, 3) := by decide +kernel
theorem dX9_fits_4 : decode cX9_fits 4 = .ok (.iload_n 1, 1) := by decide +kernel
theorem dX9_fits_5 : decode cX9_fits 5 = .ok (.iconst 0, 1) := by decide +kernel
theorem dX9_fits_6 : decode cX9_fits 6 = .ok (.bipush 7, 2) := by decide +kernel
theorem dX9_fits_8 : decode cX9_fits 8 = .ok (.invokestatic 36, 3) := by decide +kernel
theorem dX9_fits_11 : decode cX9_fits 11 = .ok (.goto 53, 3) := by decide +kernel
theorem dX9_fits_14 : decode cX9_fits 14 = .ok (.iload_n 0, 1) := by decide +kernel
theorem dX9_fits_15 : decode cX9_fits 15 = .ok (.iconst 1, 1) := by decide +kernel
theorem dX9_fits_16 : decode cX9_fits 16 = .ok (.if_icmp .ne 12, 3) := by decide +kernel
theorem dX9_fits_19 : decode cX9_fits 19 = .ok (.iload_n 1, 1) := by decide +kernel
theorem dX9_fits_20 : decode cX9_fits 20 = .ok (.iconst 1, 1) := by decide +kernel
theorem dX9_fits_21 : decode cX9_fits 21 = .ok (.iconst 3, 1) := by decide +kernel
theorem dX9_fits_22 : decode cX9_fits 22 = .ok (.invokestatic 36, 3) := by decide +kernel
theorem dX9_fits_25 : decode cX9_fits 25 = .ok (.goto 39, 3) := by decide +kernel
theorem dX9_fits_28 : decode cX9_fits 28 = .ok (.iload_n 0, 1) := by decide +kernel
theorem dX9_fits_29 : decode cX9_fits 29 = .ok (.iconst 2, 1) := by decide +kernel
theorem dX9_fits_30 : decode cX9_fits 30 = .ok (.if_icmp .ne 13, 3) := by decide +kernel
theorem dX9_fits_33 : decode cX9_fits 33 = .ok (.iload_n 1, 1) := by decide +kernel
theorem dX9_fits_34 : decode cX9_fits 34 = .ok (.iconst 1, 1) := by decide +kernel
theorem dX9_fits_35 : decode cX9_fits 35 = .ok (.bipush 9, 2) := by decide +kernel
theorem dX9_fits_37 : decode cX9_fits 37 = .ok (.invokestatic 36, 3) := by decide +kernel
theorem dX9_fits_40 : decode cX9_fits 40 = .ok (.goto 24, 3) := by decide +kernel
theorem dX9_fits_43 : decode cX9_fits 43 = .ok (.iload_n 0, 1) := by decide +kernel
theorem dX9_fits_44 : decode cX9_fits 44 = .ok (.iconst 3, 1) := by decide +kernel
theorem dX9_fits_45 : decode cX9_fits 45 = .ok (.if_icmp .ne 18, 3) := by decide +kernel
theorem dX9_fits_48 : decode cX9_fits 48 = .ok (.iload_n 1, 1) := by decide +kernel
theorem dX9_fits_49 : decode cX9_fits 49 = .ok (.iconst 0, 1) := by decide +kernel
theorem dX9_fits_50 : decode cX9_fits 50 = .ok (.sipush 255, 3) := by decide +kernel
theorem dX9_fits_53 : decode cX9_fits 53 = .ok (.invokestatic 36, 3) := by decide +kernel
theorem dX9_fits_56 : decode cX9_fits 56 = .ok (.ifCond .eq 7, 3) := by decide +kernel
theorem dX9_fits_59 : decode cX9_fits 59 = .ok (.iconst 1, 1) := by decide +kernel
theorem dX9_fits_60 : decode cX9_fits 60 = .ok (.goto 4, 3) := by decide +kernel
theorem dX9_fits_63 : decode cX9_fits 63 = .ok (.iconst 0, 1) := by decide +kernel
theorem dX9_fits_64 : decode cX9_fits 64 = .ok (.ireturn, 1) := by decide +kernel
theorem dX9_light_0 : decode cX9_light 0 = .ok (.iload_n 1, 1) := by decide +kernel
theorem dX9_light_1 : decode cX9_light 1 = .ok (.invokestatic 94, 3) := by decide +kernel
theorem dX9_light_4 : decode cX9_light 4 = .ok (.ifCond .ne 5, 3) := by decide +kernel
theorem dX9_light_7 : decode cX9_light 7 = .ok (.iconst (-1), 1) := by decide +kernel
theorem dX9_light_8 : decode cX9_light 8 = .ok (.ireturn, 1) := by decide +kernel
theorem dX9_light_9 : decode cX9_light 9 = .ok (.iload_n 2, 1) := by decide +kernel
theorem dX9_light_10 : decode cX9_light 10 = .ok (.iload_n 3, 1) := by decide +kernel
theorem dX9_light_11 : decode cX9_light 11 = .ok (.invokestatic 97, 3) := by decide +kernel
theorem dX9_light_14 : decode cX9_light 14 = .ok (.ifCond .ne 6, 3) := by decide +kernel
theorem dX9_light_17 : decode cX9_light 17 = .ok (.bipush (-2), 2) := by decide +kernel
theorem dX9_light_19 : decode cX9_light 19 = .ok (.ireturn, 1) := by decide +kernel
theorem dX9_light_20 : decode cX9_light 20 = .ok (.aload_n 0, 1) := by decide +kernel
theorem dX9_light_21 : decode cX9_light 21 = .ok (.getfield 7, 3) := by decide +kernel
theorem dX9_light_24 : decode cX9_light 24 = .ok (.iload_n 1, 1) := by decide +kernel
theorem dX9_light_25 : decode cX9_light 25 = .ok (.iload_n 2, 1) := by decide +kernel
theorem dX9_light_26 : decode cX9_light 26 = .ok (.invokestatic 29, 3) := by decide +kernel
theorem dX9_light_29 : decode cX9_light 29 = .ok (.iaload, 1) := by decide +kernel
theorem dX9_light_30 : decode cX9_light 30 = .ok (.istore 4, 2) := by decide +kernel
theorem dX9_light_32 : decode cX9_light 32 = .ok (.iload 4, 2) := by decide +kernel
theorem dX9_light_34 : decode cX9_light 34 = .ok (.iload_n 3, 1) := by decide +kernel
theorem dX9_light_35 : decode cX9_light 35 = .ok (.if_icmp .ne 6, 3) := by decide +kernel
theorem dX9_light_38 : decode cX9_light 38 = .ok (.bipush (-5), 2) := by decide +kernel
theorem dX9_light_40 : decode cX9_light 40 = .ok (.ireturn, 1) := by decide +kernel
theorem dX9_light_41 : decode cX9_light 41 = .ok (.aload_n 0, 1) := by decide +kernel
theorem dX9_light_42 : decode cX9_light 42 = .ok (.invokevirtual 87, 3) := by decide +kernel
theorem dX9_light_45 : decode cX9_light 45 = .ok (.aload_n 0, 1) := by decide +kernel
theorem dX9_light_46 : decode cX9_light 46 = .ok (.getfield 7, 3) := by decide +kernel
theorem dX9_light_49 : decode cX9_light 49 = .ok (.iload_n 1, 1) := by decide +kernel
theorem dX9_light_50 : decode cX9_light 50 = .ok (.iload_n 2, 1) := by decide +kernel
theorem dX9_light_51 : decode cX9_light 51 = .ok (.invokestatic 29, 3) := by decide +kernel
theorem dX9_light_54 : decode cX9_light 54 = .ok (.iload_n 3, 1) := by decide +kernel
theorem dX9_light_55 : decode cX9_light 55 = .ok (.iastore, 1) := by decide +kernel
theorem dX9_light_56 : decode cX9_light 56 = .ok (.iload 4, 2) := by decide +kernel
theorem dX9_light_58 : decode cX9_light 58 = .ok (.ireturn, 1) := by decide +kernel
theorem dX9_shipIn_0 : decode cX9_shipIn 0 = .ok (.iconst 0, 1) := by decide +kernel
theorem dX9_shipIn_1 : decode cX9_shipIn 1 = .ok (.istore_n 2, 1) := by decide +kernel
theorem dX9_shipIn_2 : decode cX9_shipIn 2 = .ok (.iload_n 2, 1) := by decide +kernel
theorem dX9_shipIn_3 : decode cX9_shipIn 3 = .ok (.aload_n 0, 1) := by decide +kernel
theorem dX9_shipIn_4 : decode cX9_shipIn 4 = .ok (.getfield 7, 3) := by decide +kernel
theorem dX9_shipIn_7 : decode cX9_shipIn 7 = .ok (.sipush 180, 3) := by decide +kernel
theorem dX9_shipIn_10 : decode cX9_shipIn 10 = .ok (.iaload, 1) := by decide +kernel
theorem dX9_shipIn_11 : decode cX9_shipIn 11 = .ok (.if_icmp .ge 38, 3) := by decide +kernel
theorem dX9_shipIn_14 : decode cX9_shipIn 14 = .ok (.aload_n 0, 1) := by decide +kernel
theorem dX9_shipIn_15 : decode cX9_shipIn 15 = .ok (.getfield 7, 3) := by decide +kernel
theorem dX9_shipIn_18 : decode cX9_shipIn 18 = .ok (.iload_n 2, 1) := by decide +kernel
theorem dX9_shipIn_19 : decode cX9_shipIn 19 = .ok (.iconst 3, 1) := by decide +kernel
theorem dX9_shipIn_20 : decode cX9_shipIn 20 = .ok (.invokestatic 100, 3) := by decide +kernel
theorem dX9_shipIn_23 : decode cX9_shipIn 23 = .ok (.iaload, 1) := by decide +kernel
theorem dX9_shipIn_24 : decode cX9_shipIn 24 = .ok (.ifCond .ne 19, 3) := by decide +kernel
theorem dX9_shipIn_27 : decode cX9_shipIn 27 = .ok (.aload_n 0, 1) := by decide +kernel
theorem dX9_shipIn_28 : decode cX9_shipIn 28 = .ok (.getfield 7, 3) := by decide +kernel
theorem dX9_shipIn_31 : decode cX9_shipIn 31 = .ok (.iload_n 2, 1) := by decide +kernel
theorem dX9_shipIn_32 : decode cX9_shipIn 32 = .ok (.iconst 1, 1) := by decide +kernel
theorem dX9_shipIn_33 : decode cX9_shipIn 33 = .ok (.invokestatic 100, 3) := by decide +kernel
theorem dX9_shipIn_36 : decode cX9_shipIn 36 = .ok (.iaload, 1) := by decide +kernel
theorem dX9_shipIn_37 : decode cX9_shipIn 37 = .ok (.iload_n 1, 1) := by decide +kernel
theorem dX9_shipIn_38 : decode cX9_shipIn 38 = .ok (.if_icmp .ne 5, 3) := by decide +kernel
theorem dX9_shipIn_41 : decode cX9_shipIn 41 = .ok (.iload_n 2, 1) := by decide +kernel
theorem dX9_shipIn_42 : decode cX9_shipIn 42 = .ok (.ireturn, 1) := by decide +kernel
theorem dX9_shipIn_43 : decode cX9_shipIn 43 = .ok (.iinc 2 1, 3) := by decide +kernel
theorem dX9_shipIn_46 : decode cX9_shipIn 46 = .ok (.goto (-44), 3) := by decide +kernel
theorem dX9_shipIn_49 : decode cX9_shipIn 49 = .ok (.bipush (-5), 2) := by decide +kernel
theorem dX9_shipIn_51 : decode cX9_shipIn 51 = .ok (.ireturn, 1) := by decide +kernel
theorem dX9_barShip_0 : decode cX9_barShip 0 = .ok (.iload_n 2, 1) := by decide +kernel
theorem dX9_barShip_1 : decode cX9_barShip 1 = .ok (.invokestatic 77, 3) := by decide +kernel
theorem dX9_barShip_4 : decode cX9_barShip 4 = .ok (.ifCond .eq 10, 3) := by decide +kernel
theorem dX9_barShip_7 : decode cX9_barShip 7 = .ok (.iload_n 3, 1) := by decide +kernel
theorem dX9_barShip_8 : decode cX9_barShip 8 = .ok (.invokestatic 77, 3) := by decide +kernel
theorem dX9_barShip_11 : decode cX9_barShip 11 = .ok (.ifCond .ne 5, 3) := by decide +kernel
theorem dX9_barShip_14 : decode cX9_barShip 14 = .ok (.iconst (-1), 1) := by decide +kernel
theorem dX9_barShip_15 : decode cX9_barShip 15 = .ok (.ireturn, 1) := by decide +kernel
theorem dX9_barShip_16 : decode cX9_barShip 16 = .ok (.iload_n 1, 1) := by decide +kernel
theorem dX9_barShip_17 : decode cX9_barShip 17 = .ok (.iconst 1, 1) := by decide +kernel
theorem dX9_barShip_18 : decode cX9_barShip 18 = .ok (.bipush 99, 2) := by decide +kernel
theorem dX9_barShip_20 : decode cX9_barShip 20 = .ok (.invokestatic 36, 3) := by decide +kernel
theorem dX9_barShip_23 : decode cX9_barShip 23 = .ok (.ifCond .ne 6, 3) := by decide +kernel
theorem dX9_barShip_26 : decode cX9_barShip 26 = .ok (.bipush (-2), 2) := by decide +kernel
theorem dX9_barShip_28 : decode cX9_barShip 28 = .ok (.ireturn, 1) := by decide +kernel
theorem dX9_barShip_29 : decode cX9_barShip 29 = .ok (.iload_n 2, 1) := by decide +kernel
theorem dX9_barShip_30 : decode cX9_barShip 30 = .ok (.iload_n 3, 1) := by decide +kernel
theorem dX9_barShip_31 : decode cX9_barShip 31 = .ok (.if_icmp .eq 39, 3) := by decide +kernel
theorem dX9_barShip_34 : decode cX9_barShip 34 = .ok (.aload_n 0, 1) := by decide +kernel
theorem dX9_barShip_35 : decode cX9_barShip 35 = .ok (.getfield 7, 3) := by decide +kernel
theorem dX9_barShip_38 : decode cX9_barShip 38 = .ok (.iconst 0, 1) := by decide +kernel
theorem dX9_barShip_39 : decode cX9_barShip 39 = .ok (.iload_n 2, 1) := by decide +kernel
theorem dX9_barShip_40 : decode cX9_barShip 40 = .ok (.iadd, 1) := by decide +kernel
theorem dX9_barShip_41 : decode cX9_barShip 41 = .ok (.iaload, 1) := by decide +kernel
theorem dX9_barShip_42 : decode cX9_barShip 42 = .ok (.ifCond .ne 28, 3) := by decide +kernel
theorem dX9_barShip_45 : decode cX9_barShip 45 = .ok (.aload_n 0, 1) := by decide +kernel
theorem dX9_barShip_46 : decode cX9_barShip 46 = .ok (.getfield 7, 3) := by decide +kernel
theorem dX9_barShip_49 : decode cX9_barShip 49 = .ok (.iconst 0, 1) := by decide +kernel
theorem dX9_barShip_50 : decode cX9_barShip 50 = .ok (.iload_n 3, 1) := by decide +kernel
theorem dX9_barShip_51 : decode cX9_barShip 51 = .ok (.iadd, 1) := by decide +kernel
theorem dX9_barShip_52 : decode cX9_barShip 52 = .ok (.iaload, 1) := by decide +kernel
theorem dX9_barShip_53 : decode cX9_barShip 53 = .ok (.ifCond .ne 17, 3) := by decide +kernel
theorem dX9_barShip_56 : decode cX9_barShip 56 = .ok (.aload_n 0, 1) := by decide +kernel
theorem dX9_barShip_57 : decode cX9_barShip 57 = .ok (.iload_n 2, 1) := by decide +kernel
theorem dX9_barShip_58 : decode cX9_barShip 58 = .ok (.invokevirtual 103, 3) := by decide +kernel
theorem dX9_barShip_61 : decode cX9_barShip 61 = .ok (.bipush (-5), 2) := by decide +kernel
theorem dX9_barShip_63 : decode cX9_barShip 63 = .ok (.if_icmp .ne 7, 3) := by decide +kernel
theorem dX9_barShip_66 : decode cX9_barShip 66 = .ok (.iconst 1, 1) := by decide +kernel
theorem dX9_barShip_67 : decode cX9_barShip 67 = .ok (.goto 4, 3) := by decide +kernel
theorem dX9_barShip_70 : decode cX9_barShip 70 = .ok (.iconst 0, 1) := by decide +kernel
theorem dX9_barShip_71 : decode cX9_barShip 71 = .ok (.istore 4, 2) := by decide +kernel
theorem dX9_barShip_73 : decode cX9_barShip 73 = .ok (.iload 4, 2) := by decide +kernel
theorem dX9_barShip_75 : decode cX9_barShip 75 = .ok (.ifCond .ne 8, 3) := by decide +kernel
theorem dX9_barShip_78 : decode cX9_barShip 78 = .ok (.bipush (-4), 2) := by decide +kernel
theorem dX9_barShip_80 : decode cX9_barShip 80 = .ok (.goto 22, 3) := by decide +kernel
theorem dX9_barShip_83 : decode cX9_barShip 83 = .ok (.aload_n 0, 1) := by decide +kernel
theorem dX9_barShip_84 : decode cX9_barShip 84 = .ok (.getfield 7, 3) := by decide +kernel
theorem dX9_barShip_87 : decode cX9_barShip 87 = .ok (.sipush 180, 3) := by decide +kernel
theorem dX9_barShip_90 : decode cX9_barShip 90 = .ok (.iaload, 1) := by decide +kernel
theorem dX9_barShip_91 : decode cX9_barShip 91 = .ok (.bipush 8, 2) := by decide +kernel
theorem dX9_barShip_93 : decode cX9_barShip 93 = .ok (.if_icmp .ne 8, 3) := by decide +kernel
theorem dX9_barShip_96 : decode cX9_barShip 96 = .ok (.bipush (-3), 2) := by decide +kernel
theorem dX9_barShip_98 : decode cX9_barShip 98 = .ok (.goto 4, 3) := by decide +kernel
theorem dX9_barShip_101 : decode cX9_barShip 101 = .ok (.iconst 0, 1) := by decide +kernel
theorem dX9_barShip_102 : decode cX9_barShip 102 = .ok (.ireturn, 1) := by decide +kernel
theorem dX9_comes_0 : decode cX9_comes 0 = .ok (.aload_n 0, 1) := by decide +kernel
theorem dX9_comes_1 : decode cX9_comes 1 = .ok (.getfield 7, 3) := by decide +kernel
theorem dX9_comes_4 : decode cX9_comes 4 = .ok (.sipush 180, 3) := by decide +kernel
theorem dX9_comes_7 : decode cX9_comes 7 = .ok (.iaload, 1) := by decide +kernel
theorem dX9_comes_8 : decode cX9_comes 8 = .ok (.istore 4, 2) := by decide +kernel
theorem dX9_comes_10 : decode cX9_comes 10 = .ok (.aload_n 0, 1) := by decide +kernel
theorem dX9_comes_11 : decode cX9_comes 11 = .ok (.getfield 7, 3) := by decide +kernel
theorem dX9_comes_14 : decode cX9_comes 14 = .ok (.iload 4, 2) := by decide +kernel
theorem dX9_comes_16 : decode cX9_comes 16 = .ok (.iconst 0, 1) := by decide +kernel
theorem dX9_comes_17 : decode cX9_comes 17 = .ok (.invokestatic 100, 3) := by decide +kernel
theorem dX9_comes_20 : decode cX9_comes 20 = .ok (.iload_n 1, 1) := by decide +kernel
theorem dX9_comes_21 : decode cX9_comes 21 = .ok (.iastore, 1) := by decide +kernel
theorem dX9_comes_22 : decode cX9_comes 22 = .ok (.aload_n 0, 1) := by decide +kernel
theorem dX9_comes_23 : decode cX9_comes 23 = .ok (.getfield 7, 3) := by decide +kernel
theorem dX9_comes_26 : decode cX9_comes 26 = .ok (.iload 4, 2) := by decide +kernel
theorem dX9_comes_28 : decode cX9_comes 28 = .ok (.iconst 1, 1) := by decide +kernel
theorem dX9_comes_29 : decode cX9_comes 29 = .ok (.invokestatic 100, 3) := by decide +kernel
theorem dX9_comes_32 : decode cX9_comes 32 = .ok (.iload_n 2, 1) := by decide +kernel
theorem dX9_comes_33 : decode cX9_comes 33 = .ok (.iastore, 1) := by decide +kernel
theorem dX9_comes_34 : decode cX9_comes 34 = .ok (.aload_n 0, 1) := by decide +kernel
theorem dX9_comes_35 : decode cX9_comes 35 = .ok (.getfield 7, 3) := by decide +kernel
theorem dX9_comes_38 : decode cX9_comes 38 = .ok (.iload 4, 2) := by decide +kernel
theorem dX9_comes_40 : decode cX9_comes 40 = .ok (.iconst 2, 1) := by decide +kernel
theorem dX9_comes_41 : decode cX9_comes 41 = .ok (.invokestatic 100, 3) := by decide +kernel
theorem dX9_comes_44 : decode cX9_comes 44 = .ok (.iload_n 3, 1) := by decide +kernel
theorem dX9_comes_45 : decode cX9_comes 45 = .ok (.iastore, 1) := by decide +kernel
theorem dX9_comes_46 : decode cX9_comes 46 = .ok (.aload_n 0, 1) := by decide +kernel
theorem dX9_comes_47 : decode cX9_comes 47 = .ok (.getfield 7, 3) := by decide +kernel
theorem dX9_comes_50 : decode cX9_comes 50 = .ok (.iload 4, 2) := by decide +kernel
theorem dX9_comes_52 : decode cX9_comes 52 = .ok (.iconst 3, 1) := by decide +kernel
theorem dX9_comes_53 : decode cX9_comes 53 = .ok (.invokestatic 100, 3) := by decide +kernel
theorem dX9_comes_56 : decode cX9_comes 56 = .ok (.iconst 0, 1) := by decide +kernel
theorem dX9_comes_57 : decode cX9_comes 57 = .ok (.iastore, 1) := by decide +kernel
theorem dX9_comes_58 : decode cX9_comes 58 = .ok (.aload_n 0, 1) := by decide +kernel
theorem dX9_comes_59 : decode cX9_comes 59 = .ok (.getfield 7, 3) := by decide +kernel
theorem dX9_comes_62 : decode cX9_comes 62 = .ok (.iload 4, 2) := by decide +kernel
theorem dX9_comes_64 : decode cX9_comes 64 = .ok (.iconst 4, 1) := by decide +kernel
theorem dX9_comes_65 : decode cX9_comes 65 = .ok (.invokestatic 100, 3) := by decide +kernel
theorem dX9_comes_68 : decode cX9_comes 68 = .ok (.iconst 0, 1) := by decide +kernel
theorem dX9_comes_69 : decode cX9_comes 69 = .ok (.iastore, 1) := by decide +kernel
theorem dX9_comes_70 : decode cX9_comes 70 = .ok (.aload_n 0, 1) := by decide +kernel
theorem dX9_comes_71 : decode cX9_comes 71 = .ok (.getfield 7, 3) := by decide +kernel
theorem dX9_comes_74 : decode cX9_comes 74 = .ok (.sipush 180, 3) := by decide +kernel
theorem dX9_comes_77 : decode cX9_comes 77 = .ok (.dup2, 1) := by decide +kernel
theorem dX9_comes_78 : decode cX9_comes 78 = .ok (.iaload, 1) := by decide +kernel
theorem dX9_comes_79 : decode cX9_comes 79 = .ok (.iconst 1, 1) := by decide +kernel
theorem dX9_comes_80 : decode cX9_comes 80 = .ok (.iadd, 1) := by decide +kernel
theorem dX9_comes_81 : decode cX9_comes 81 = .ok (.iastore, 1) := by decide +kernel
theorem dX9_comes_82 : decode cX9_comes 82 = .ok (.iload 4, 2) := by decide +kernel
theorem dX9_comes_84 : decode cX9_comes 84 = .ok (.ireturn, 1) := by decide +kernel
theorem dX9_ship_0 : decode cX9_ship 0 = .ok (.aload_n 0, 1) := by decide +kernel
theorem dX9_ship_1 : decode cX9_ship 1 = .ok (.iload_n 1, 1) := by decide +kernel
theorem dX9_ship_2 : decode cX9_ship 2 = .ok (.iload_n 2, 1) := by decide +kernel
theorem dX9_ship_3 : decode cX9_ship 3 = .ok (.iload_n 3, 1) := by decide +kernel
theorem dX9_ship_4 : decode cX9_ship 4 = .ok (.invokevirtual 106, 3) := by decide +kernel
theorem dX9_ship_7 : decode cX9_ship 7 = .ok (.istore 4, 2) := by decide +kernel
theorem dX9_ship_9 : decode cX9_ship 9 = .ok (.iload 4, 2) := by decide +kernel
theorem dX9_ship_11 : decode cX9_ship 11 = .ok (.ifCond .ge 6, 3) := by decide +kernel
theorem dX9_ship_14 : decode cX9_ship 14 = .ok (.iload 4, 2) := by decide +kernel
theorem dX9_ship_16 : decode cX9_ship 16 = .ok (.ireturn, 1) := by decide +kernel
theorem dX9_ship_17 : decode cX9_ship 17 = .ok (.aload_n 0, 1) := by decide +kernel
theorem dX9_ship_18 : decode cX9_ship 18 = .ok (.invokevirtual 87, 3) := by decide +kernel
theorem dX9_ship_21 : decode cX9_ship 21 = .ok (.aload_n 0, 1) := by decide +kernel
theorem dX9_ship_22 : decode cX9_ship 22 = .ok (.iload_n 1, 1) := by decide +kernel
theorem dX9_ship_23 : decode cX9_ship 23 = .ok (.iload_n 2, 1) := by decide +kernel
theorem dX9_ship_24 : decode cX9_ship 24 = .ok (.iload_n 3, 1) := by decide +kernel
theorem dX9_ship_25 : decode cX9_ship 25 = .ok (.invokevirtual 110, 3) := by decide +kernel
theorem dX9_ship_28 : decode cX9_ship 28 = .ok (.ireturn, 1) := by decide +kernel
theorem dX9_rank_0 : decode cX9_rank 0 = .ok (.iconst 0, 1) := by decide +kernel
theorem dX9_rank_1 : decode cX9_rank 1 = .ok (.istore_n 2, 1) := by decide +kernel
theorem dX9_rank_2 : decode cX9_rank 2 = .ok (.iconst 0, 1) := by decide +kernel
theorem dX9_rank_3 : decode cX9_rank 3 = .ok (.istore_n 3, 1) := by decide +kernel
theorem dX9_rank_4 : decode cX9_rank 4 = .ok (.iload_n 3, 1) := by decide +kernel
theorem dX9_rank_5 : decode cX9_rank 5 = .ok (.aload_n 0, 1) := by decide +kernel
theorem dX9_rank_6 : decode cX9_rank 6 = .ok (.getfield 7, 3) := by decide +kernel
theorem dX9_rank_9 : decode cX9_rank 9 = .ok (.sipush 180, 3) := by decide +kernel
theorem dX9_rank_12 : decode cX9_rank 12 = .ok (.iaload, 1) := by decide +kernel
theorem dX9_rank_13 : decode cX9_rank 13 = .ok (.if_icmp .ge 68, 3) := by decide +kernel
theorem dX9_rank_16 : decode cX9_rank 16 = .ok (.aload_n 0, 1) := by decide +kernel
theorem dX9_rank_17 : decode cX9_rank 17 = .ok (.getfield 7, 3) := by decide +kernel
theorem dX9_rank_20 : decode cX9_rank 20 = .ok (.iload_n 3, 1) := by decide +kernel
theorem dX9_rank_21 : decode cX9_rank 21 = .ok (.iconst 0, 1) := by decide +kernel
theorem dX9_rank_22 : decode cX9_rank 22 = .ok (.invokestatic 100, 3) := by decide +kernel
theorem dX9_rank_25 : decode cX9_rank 25 = .ok (.iaload, 1) := by decide +kernel
theorem dX9_rank_26 : decode cX9_rank 26 = .ok (.aload_n 0, 1) := by decide +kernel
theorem dX9_rank_27 : decode cX9_rank 27 = .ok (.getfield 7, 3) := by decide +kernel
theorem dX9_rank_30 : decode cX9_rank 30 = .ok (.iload_n 1, 1) := by decide +kernel
theorem dX9_rank_31 : decode cX9_rank 31 = .ok (.iconst 0, 1) := by decide +kernel
theorem dX9_rank_32 : decode cX9_rank 32 = .ok (.invokestatic 100, 3) := by decide +kernel
theorem dX9_rank_35 : decode cX9_rank 35 = .ok (.iaload, 1) := by decide +kernel
theorem dX9_rank_36 : decode cX9_rank 36 = .ok (.isub, 1) := by decide +kernel
theorem dX9_rank_37 : decode cX9_rank 37 = .ok (.istore 4, 2) := by decide +kernel
theorem dX9_rank_39 : decode cX9_rank 39 = .ok (.iload_n 2, 1) := by decide +kernel
theorem dX9_rank_40 : decode cX9_rank 40 = .ok (.aload_n 0, 1) := by decide +kernel
theorem dX9_rank_41 : decode cX9_rank 41 = .ok (.getfield 7, 3) := by decide +kernel
theorem dX9_rank_44 : decode cX9_rank 44 = .ok (.iload_n 3, 1) := by decide +kernel
theorem dX9_rank_45 : decode cX9_rank 45 = .ok (.iconst 3, 1) := by decide +kernel
theorem dX9_rank_46 : decode cX9_rank 46 = .ok (.invokestatic 100, 3) := by decide +kernel
theorem dX9_rank_49 : decode cX9_rank 49 = .ok (.iaload, 1) := by decide +kernel
theorem dX9_rank_50 : decode cX9_rank 50 = .ok (.ifCond .ne 22, 3) := by decide +kernel
theorem dX9_rank_53 : decode cX9_rank 53 = .ok (.iload 4, 2) := by decide +kernel
theorem dX9_rank_55 : decode cX9_rank 55 = .ok (.ifCond .gt 13, 3) := by decide +kernel
theorem dX9_rank_58 : decode cX9_rank 58 = .ok (.iload 4, 2) := by decide +kernel
theorem dX9_rank_60 : decode cX9_rank 60 = .ok (.ifCond .ne 12, 3) := by decide +kernel
theorem dX9_rank_63 : decode cX9_rank 63 = .ok (.iload_n 3, 1) := by decide +kernel
theorem dX9_rank_64 : decode cX9_rank 64 = .ok (.iload_n 1, 1) := by decide +kernel
theorem dX9_rank_65 : decode cX9_rank 65 = .ok (.if_icmp .ge 7, 3) := by decide +kernel
theorem dX9_rank_68 : decode cX9_rank 68 = .ok (.iconst 1, 1) := by decide +kernel
theorem dX9_rank_69 : decode cX9_rank 69 = .ok (.goto 4, 3) := by decide +kernel
theorem dX9_rank_72 : decode cX9_rank 72 = .ok (.iconst 0, 1) := by decide +kernel
theorem dX9_rank_73 : decode cX9_rank 73 = .ok (.iadd, 1) := by decide +kernel
theorem dX9_rank_74 : decode cX9_rank 74 = .ok (.istore_n 2, 1) := by decide +kernel
theorem dX9_rank_75 : decode cX9_rank 75 = .ok (.iinc 3 1, 3) := by decide +kernel
theorem dX9_rank_78 : decode cX9_rank 78 = .ok (.goto (-74), 3) := by decide +kernel
theorem dX9_rank_81 : decode cX9_rank 81 = .ok (.iload_n 2, 1) := by decide +kernel
theorem dX9_rank_82 : decode cX9_rank 82 = .ok (.ireturn, 1) := by decide +kernel
theorem dX9_towards_0 : decode cX9_towards 0 = .ok (.iload_n 1, 1) := by decide +kernel
theorem dX9_towards_1 : decode cX9_towards 1 = .ok (.iload_n 0, 1) := by decide +kernel
theorem dX9_towards_2 : decode cX9_towards 2 = .ok (.if_icmp .le 7, 3) := by decide +kernel
theorem dX9_towards_5 : decode cX9_towards 5 = .ok (.iconst 1, 1) := by decide +kernel
theorem dX9_towards_6 : decode cX9_towards 6 = .ok (.goto 13, 3) := by decide +kernel
theorem dX9_towards_9 : decode cX9_towards 9 = .ok (.iload_n 1, 1) := by decide +kernel
theorem dX9_towards_10 : decode cX9_towards 10 = .ok (.iload_n 0, 1) := by decide +kernel
theorem dX9_towards_11 : decode cX9_towards 11 = .ok (.if_icmp .ge 7, 3) := by decide +kernel
theorem dX9_towards_14 : decode cX9_towards 14 = .ok (.iconst (-1), 1) := by decide +kernel
theorem dX9_towards_15 : decode cX9_towards 15 = .ok (.goto 4, 3) := by decide +kernel
theorem dX9_towards_18 : decode cX9_towards 18 = .ok (.iconst 0, 1) := by decide +kernel
theorem dX9_towards_19 : decode cX9_towards 19 = .ok (.ireturn, 1) := by decide +kernel
theorem dX9_goes_0 : decode cX9_goes 0 = .ok (.aload_n 0, 1) := by decide +kernel
theorem dX9_goes_1 : decode cX9_goes 1 = .ok (.getfield 7, 3) := by decide +kernel
theorem dX9_goes_4 : decode cX9_goes 4 = .ok (.iload_n 1, 1) := by decide +kernel
theorem dX9_goes_5 : decode cX9_goes 5 = .ok (.iconst 1, 1) := by decide +kernel
theorem dX9_goes_6 : decode cX9_goes 6 = .ok (.invokestatic 100, 3) := by decide +kernel
theorem dX9_goes_9 : decode cX9_goes 9 = .ok (.iaload, 1) := by decide +kernel
theorem dX9_goes_10 : decode cX9_goes 10 = .ok (.istore_n 2, 1) := by decide +kernel
theorem dX9_goes_11 : decode cX9_goes 11 = .ok (.aload_n 0, 1) := by decide +kernel
theorem dX9_goes_12 : decode cX9_goes 12 = .ok (.getfield 7, 3) := by decide +kernel
theorem dX9_goes_15 : decode cX9_goes 15 = .ok (.iload_n 1, 1) := by decide +kernel
theorem dX9_goes_16 : decode cX9_goes 16 = .ok (.iconst 2, 1) := by decide +kernel
theorem dX9_goes_17 : decode cX9_goes 17 = .ok (.invokestatic 100, 3) := by decide +kernel
theorem dX9_goes_20 : decode cX9_goes 20 = .ok (.iaload, 1) := by decide +kernel
theorem dX9_goes_21 : decode cX9_goes 21 = .ok (.istore_n 3, 1) := by decide +kernel
theorem dX9_goes_22 : decode cX9_goes 22 = .ok (.iload_n 2, 1) := by decide +kernel
theorem dX9_goes_23 : decode cX9_goes 23 = .ok (.iload_n 2, 1) := by decide +kernel
theorem dX9_goes_24 : decode cX9_goes 24 = .ok (.bipush 10, 2) := by decide +kernel
theorem dX9_goes_26 : decode cX9_goes 26 = .ok (.irem, 1) := by decide +kernel
theorem dX9_goes_27 : decode cX9_goes 27 = .ok (.iload_n 3, 1) := by decide +kernel
theorem dX9_goes_28 : decode cX9_goes 28 = .ok (.bipush 10, 2) := by decide +kernel
theorem dX9_goes_30 : decode cX9_goes 30 = .ok (.irem, 1) := by decide +kernel
theorem dX9_goes_31 : decode cX9_goes 31 = .ok (.invokestatic 113, 3) := by decide +kernel
theorem dX9_goes_34 : decode cX9_goes 34 = .ok (.iadd, 1) := by decide +kernel
theorem dX9_goes_35 : decode cX9_goes 35 = .ok (.bipush 10, 2) := by decide +kernel
theorem dX9_goes_37 : decode cX9_goes 37 = .ok (.iload_n 2, 1) := by decide +kernel
theorem dX9_goes_38 : decode cX9_goes 38 = .ok (.bipush 10, 2) := by decide +kernel
theorem dX9_goes_40 : decode cX9_goes 40 = .ok (.idiv, 1) := by decide +kernel
theorem dX9_goes_41 : decode cX9_goes 41 = .ok (.iload_n 3, 1) := by decide +kernel
theorem dX9_goes_42 : decode cX9_goes 42 = .ok (.bipush 10, 2) := by decide +kernel
theorem dX9_goes_44 : decode cX9_goes 44 = .ok (.idiv, 1) := by decide +kernel
theorem dX9_goes_45 : decode cX9_goes 45 = .ok (.invokestatic 113, 3) := by decide +kernel
theorem dX9_goes_48 : decode cX9_goes 48 = .ok (.imul, 1) := by decide +kernel
theorem dX9_goes_49 : decode cX9_goes 49 = .ok (.iadd, 1) := by decide +kernel
theorem dX9_goes_50 : decode cX9_goes 50 = .ok (.istore 4, 2) := by decide +kernel
theorem dX9_goes_52 : decode cX9_goes 52 = .ok (.aload_n 0, 1) := by decide +kernel
theorem dX9_goes_53 : decode cX9_goes 53 = .ok (.iload 4, 2) := by decide +kernel
theorem dX9_goes_55 : decode cX9_goes 55 = .ok (.invokevirtual 103, 3) := by decide +kernel
theorem dX9_goes_58 : decode cX9_goes 58 = .ok (.istore 5, 2) := by decide +kernel
theorem dX9_goes_60 : decode cX9_goes 60 = .ok (.iload 5, 2) := by decide +kernel
theorem dX9_goes_62 : decode cX9_goes 62 = .ok (.bipush (-5), 2) := by decide +kernel
theorem dX9_goes_64 : decode cX9_goes 64 = .ok (.if_icmp .ne 25, 3) := by decide +kernel
theorem dX9_goes_67 : decode cX9_goes 67 = .ok (.aload_n 0, 1) := by decide +kernel
theorem dX9_goes_68 : decode cX9_goes 68 = .ok (.getfield 7, 3) := by decide +kernel
theorem dX9_goes_71 : decode cX9_goes 71 = .ok (.iconst 0, 1) := by decide +kernel
theorem dX9_goes_72 : decode cX9_goes 72 = .ok (.iload 4, 2) := by decide +kernel
theorem dX9_goes_74 : decode cX9_goes 74 = .ok (.iadd, 1) := by decide +kernel
theorem dX9_goes_75 : decode cX9_goes 75 = .ok (.iaload, 1) := by decide +kernel
theorem dX9_goes_76 : decode cX9_goes 76 = .ok (.iconst 1, 1) := by decide +kernel
theorem dX9_goes_77 : decode cX9_goes 77 = .ok (.if_icmp .ne 29, 3) := by decide +kernel
theorem dX9_goes_80 : decode cX9_goes 80 = .ok (.aload_n 0, 1) := by decide +kernel
theorem dX9_goes_81 : decode cX9_goes 81 = .ok (.iload 4, 2) := by decide +kernel
theorem dX9_goes_83 : decode cX9_goes 83 = .ok (.invokevirtual 116, 3) := by decide +kernel
theorem dX9_goes_86 : decode cX9_goes 86 = .ok (.ifCond .eq 20, 3) := by decide +kernel
theorem dX9_goes_89 : decode cX9_goes 89 = .ok (.aload_n 0, 1) := by decide +kernel
theorem dX9_goes_90 : decode cX9_goes 90 = .ok (.getfield 7, 3) := by decide +kernel
theorem dX9_goes_93 : decode cX9_goes 93 = .ok (.iload_n 1, 1) := by decide +kernel
theorem dX9_goes_94 : decode cX9_goes 94 = .ok (.iconst 4, 1) := by decide +kernel
theorem dX9_goes_95 : decode cX9_goes 95 = .ok (.invokestatic 100, 3) := by decide +kernel
theorem dX9_goes_98 : decode cX9_goes 98 = .ok (.dup2, 1) := by decide +kernel
theorem dX9_goes_99 : decode cX9_goes 99 = .ok (.iaload, 1) := by decide +kernel
theorem dX9_goes_100 : decode cX9_goes 100 = .ok (.iconst 1, 1) := by decide +kernel
theorem dX9_goes_101 : decode cX9_goes 101 = .ok (.iadd, 1) := by decide +kernel
theorem dX9_goes_102 : decode cX9_goes 102 = .ok (.iastore, 1) := by decide +kernel
theorem dX9_goes_103 : decode cX9_goes 103 = .ok (.goto 121, 3) := by decide +kernel
theorem dX9_goes_106 : decode cX9_goes 106 = .ok (.aload_n 0, 1) := by decide +kernel
theorem dX9_goes_107 : decode cX9_goes 107 = .ok (.getfield 7, 3) := by decide +kernel
theorem dX9_goes_110 : decode cX9_goes 110 = .ok (.iconst 0, 1) := by decide +kernel
theorem dX9_goes_111 : decode cX9_goes 111 = .ok (.iload 4, 2) := by decide +kernel
theorem dX9_goes_113 : decode cX9_goes 113 = .ok (.iadd, 1) := by decide +kernel
theorem dX9_goes_114 : decode cX9_goes 114 = .ok (.iaload, 1) := by decide +kernel
theorem dX9_goes_115 : decode cX9_goes 115 = .ok (.iconst 1, 1) := by decide +kernel
theorem dX9_goes_116 : decode cX9_goes 116 = .ok (.if_icmp .ne 75, 3) := by decide +kernel
theorem dX9_goes_119 : decode cX9_goes 119 = .ok (.aload_n 0, 1) := by decide +kernel
theorem dX9_goes_120 : decode cX9_goes 120 = .ok (.getfield 7, 3) := by decide +kernel
theorem dX9_goes_123 : decode cX9_goes 123 = .ok (.iload_n 1, 1) := by decide +kernel
theorem dX9_goes_124 : decode cX9_goes 124 = .ok (.iconst 1, 1) := by decide +kernel
theorem dX9_goes_125 : decode cX9_goes 125 = .ok (.invokestatic 100, 3) := by decide +kernel
theorem dX9_goes_128 : decode cX9_goes 128 = .ok (.iload 4, 2) := by decide +kernel
theorem dX9_goes_130 : decode cX9_goes 130 = .ok (.iastore, 1) := by decide +kernel
theorem dX9_goes_131 : decode cX9_goes 131 = .ok (.aload_n 0, 1) := by decide +kernel
theorem dX9_goes_132 : decode cX9_goes 132 = .ok (.getfield 7, 3) := by decide +kernel
theorem dX9_goes_135 : decode cX9_goes 135 = .ok (.iload_n 1, 1) := by decide +kernel
theorem dX9_goes_136 : decode cX9_goes 136 = .ok (.iconst 3, 1) := by decide +kernel
theorem dX9_goes_137 : decode cX9_goes 137 = .ok (.invokestatic 100, 3) := by decide +kernel
theorem dX9_goes_140 : decode cX9_goes 140 = .ok (.iconst 2, 1) := by decide +kernel
theorem dX9_goes_141 : decode cX9_goes 141 = .ok (.iastore, 1) := by decide +kernel
theorem dX9_goes_142 : decode cX9_goes 142 = .ok (.iload 4, 2) := by decide +kernel
theorem dX9_goes_144 : decode cX9_goes 144 = .ok (.invokestatic 119, 3) := by decide +kernel
theorem dX9_goes_147 : decode cX9_goes 147 = .ok (.istore 6, 2) := by decide +kernel
theorem dX9_goes_149 : decode cX9_goes 149 = .ok (.aload_n 0, 1) := by decide +kernel
theorem dX9_goes_150 : decode cX9_goes 150 = .ok (.getfield 7, 3) := by decide +kernel
theorem dX9_goes_153 : decode cX9_goes 153 = .ok (.iload 6, 2) := by decide +kernel
theorem dX9_goes_155 : decode cX9_goes 155 = .ok (.iconst 1, 1) := by decide +kernel
theorem dX9_goes_156 : decode cX9_goes 156 = .ok (.invokestatic 33, 3) := by decide +kernel
theorem dX9_goes_159 : decode cX9_goes 159 = .ok (.dup2, 1) := by decide +kernel
theorem dX9_goes_160 : decode cX9_goes 160 = .ok (.iaload, 1) := by decide +kernel
theorem dX9_goes_161 : decode cX9_goes 161 = .ok (.aload_n 0, 1) := by decide +kernel
theorem dX9_goes_162 : decode cX9_goes 162 = .ok (.getfield 7, 3) := by decide +kernel
theorem dX9_goes_165 : decode cX9_goes 165 = .ok (.iload_n 1, 1) := by decide +kernel
theorem dX9_goes_166 : decode cX9_goes 166 = .ok (.iconst 0, 1) := by decide +kernel
theorem dX9_goes_167 : decode cX9_goes 167 = .ok (.invokestatic 100, 3) := by decide +kernel
theorem dX9_goes_170 : decode cX9_goes 170 = .ok (.iaload, 1) := by decide +kernel
theorem dX9_goes_171 : decode cX9_goes 171 = .ok (.iadd, 1) := by decide +kernel
theorem dX9_goes_172 : decode cX9_goes 172 = .ok (.iastore, 1) := by decide +kernel
theorem dX9_goes_173 : decode cX9_goes 173 = .ok (.aload_n 0, 1) := by decide +kernel
theorem dX9_goes_174 : decode cX9_goes 174 = .ok (.getfield 7, 3) := by decide +kernel
theorem dX9_goes_177 : decode cX9_goes 177 = .ok (.iload 6, 2) := by decide +kernel
theorem dX9_goes_179 : decode cX9_goes 179 = .ok (.iconst 3, 1) := by decide +kernel
theorem dX9_goes_180 : decode cX9_goes 180 = .ok (.invokestatic 33, 3) := by decide +kernel
theorem dX9_goes_183 : decode cX9_goes 183 = .ok (.dup2, 1) := by decide +kernel
theorem dX9_goes_184 : decode cX9_goes 184 = .ok (.iaload, 1) := by decide +kernel
theorem dX9_goes_185 : decode cX9_goes 185 = .ok (.iconst 1, 1) := by decide +kernel
theorem dX9_goes_186 : decode cX9_goes 186 = .ok (.iadd, 1) := by decide +kernel
theorem dX9_goes_187 : decode cX9_goes 187 = .ok (.iastore, 1) := by decide +kernel
theorem dX9_goes_188 : decode cX9_goes 188 = .ok (.goto 36, 3) := by decide +kernel
theorem dX9_goes_191 : decode cX9_goes 191 = .ok (.aload_n 0, 1) := by decide +kernel
theorem dX9_goes_192 : decode cX9_goes 192 = .ok (.getfield 7, 3) := by decide +kernel
theorem dX9_goes_195 : decode cX9_goes 195 = .ok (.iload_n 1, 1) := by decide +kernel
theorem dX9_goes_196 : decode cX9_goes 196 = .ok (.iconst 1, 1) := by decide +kernel
theorem dX9_goes_197 : decode cX9_goes 197 = .ok (.invokestatic 100, 3) := by decide +kernel
theorem dX9_goes_200 : decode cX9_goes 200 = .ok (.iload 4, 2) := by decide +kernel
theorem dX9_goes_202 : decode cX9_goes 202 = .ok (.iastore, 1) := by decide +kernel
theorem dX9_goes_203 : decode cX9_goes 203 = .ok (.aload_n 0, 1) := by decide +kernel
theorem dX9_goes_204 : decode cX9_goes 204 = .ok (.getfield 7, 3) := by decide +kernel
theorem dX9_goes_207 : decode cX9_goes 207 = .ok (.iload_n 1, 1) := by decide +kernel
theorem dX9_goes_208 : decode cX9_goes 208 = .ok (.iconst 3, 1) := by decide +kernel
theorem dX9_goes_209 : decode cX9_goes 209 = .ok (.invokestatic 100, 3) := by decide +kernel
theorem dX9_goes_212 : decode cX9_goes 212 = .ok (.iload 4, 2) := by decide +kernel
theorem dX9_goes_214 : decode cX9_goes 214 = .ok (.iload_n 3, 1) := by decide +kernel
theorem dX9_goes_215 : decode cX9_goes 215 = .ok (.if_icmp .ne 7, 3) := by decide +kernel
theorem dX9_goes_218 : decode cX9_goes 218 = .ok (.iconst 1, 1) := by decide +kernel
theorem dX9_goes_219 : decode cX9_goes 219 = .ok (.goto 4, 3) := by decide +kernel
theorem dX9_goes_222 : decode cX9_goes 222 = .ok (.iconst 0, 1) := by decide +kernel
theorem dX9_goes_223 : decode cX9_goes 223 = .ok (.iastore, 1) := by decide +kernel
theorem dX9_goes_224 : decode cX9_goes 224 = .ok (.return_, 1) := by decide +kernel
theorem dX9_hour_0 : decode cX9_hour 0 = .ok (.iconst 0, 1) := by decide +kernel
theorem dX9_hour_1 : decode cX9_hour 1 = .ok (.istore_n 1, 1) := by decide +kernel
theorem dX9_hour_2 : decode cX9_hour 2 = .ok (.iconst 0, 1) := by decide +kernel
theorem dX9_hour_3 : decode cX9_hour 3 = .ok (.istore_n 2, 1) := by decide +kernel
theorem dX9_hour_4 : decode cX9_hour 4 = .ok (.iload_n 2, 1) := by decide +kernel
theorem dX9_hour_5 : decode cX9_hour 5 = .ok (.aload_n 0, 1) := by decide +kernel
theorem dX9_hour_6 : decode cX9_hour 6 = .ok (.getfield 7, 3) := by decide +kernel
theorem dX9_hour_9 : decode cX9_hour 9 = .ok (.sipush 180, 3) := by decide +kernel
theorem dX9_hour_12 : decode cX9_hour 12 = .ok (.iaload, 1) := by decide +kernel
theorem dX9_hour_13 : decode cX9_hour 13 = .ok (.if_icmp .ge 36, 3) := by decide +kernel
theorem dX9_hour_16 : decode cX9_hour 16 = .ok (.aload_n 0, 1) := by decide +kernel
theorem dX9_hour_17 : decode cX9_hour 17 = .ok (.getfield 7, 3) := by decide +kernel
theorem dX9_hour_20 : decode cX9_hour 20 = .ok (.iload_n 2, 1) := by decide +kernel
theorem dX9_hour_21 : decode cX9_hour 21 = .ok (.iconst 3, 1) := by decide +kernel
theorem dX9_hour_22 : decode cX9_hour 22 = .ok (.invokestatic 100, 3) := by decide +kernel
theorem dX9_hour_25 : decode cX9_hour 25 = .ok (.iaload, 1) := by decide +kernel
theorem dX9_hour_26 : decode cX9_hour 26 = .ok (.ifCond .ne 17, 3) := by decide +kernel
theorem dX9_hour_29 : decode cX9_hour 29 = .ok (.aload_n 0, 1) := by decide +kernel
theorem dX9_hour_30 : decode cX9_hour 30 = .ok (.getfield 26, 3) := by decide +kernel
theorem dX9_hour_33 : decode cX9_hour 33 = .ok (.aload_n 0, 1) := by decide +kernel
theorem dX9_hour_34 : decode cX9_hour 34 = .ok (.iload_n 2, 1) := by decide +kernel
theorem dX9_hour_35 : decode cX9_hour 35 = .ok (.invokevirtual 122, 3) := by decide +kernel
theorem dX9_hour_38 : decode cX9_hour 38 = .ok (.iload_n 2, 1) := by decide +kernel
theorem dX9_hour_39 : decode cX9_hour 39 = .ok (.iastore, 1) := by decide +kernel
theorem dX9_hour_40 : decode cX9_hour 40 = .ok (.iinc 1 1, 3) := by decide +kernel
theorem dX9_hour_43 : decode cX9_hour 43 = .ok (.iinc 2 1, 3) := by decide +kernel
theorem dX9_hour_46 : decode cX9_hour 46 = .ok (.goto (-42), 3) := by decide +kernel
theorem dX9_hour_49 : decode cX9_hour 49 = .ok (.iconst 0, 1) := by decide +kernel
theorem dX9_hour_50 : decode cX9_hour 50 = .ok (.istore_n 2, 1) := by decide +kernel
theorem dX9_hour_51 : decode cX9_hour 51 = .ok (.iload_n 2, 1) := by decide +kernel
theorem dX9_hour_52 : decode cX9_hour 52 = .ok (.iload_n 1, 1) := by decide +kernel
theorem dX9_hour_53 : decode cX9_hour 53 = .ok (.if_icmp .ge 19, 3) := by decide +kernel
theorem dX9_hour_56 : decode cX9_hour 56 = .ok (.aload_n 0, 1) := by decide +kernel
theorem dX9_hour_57 : decode cX9_hour 57 = .ok (.aload_n 0, 1) := by decide +kernel
theorem dX9_hour_58 : decode cX9_hour 58 = .ok (.getfield 26, 3) := by decide +kernel
theorem dX9_hour_61 : decode cX9_hour 61 = .ok (.iload_n 2, 1) := by decide +kernel
theorem dX9_hour_62 : decode cX9_hour 62 = .ok (.iaload, 1) := by decide +kernel
theorem dX9_hour_63 : decode cX9_hour 63 = .ok (.invokevirtual 125, 3) := by decide +kernel
theorem dX9_hour_66 : decode cX9_hour 66 = .ok (.iinc 2 1, 3) := by decide +kernel
theorem dX9_hour_69 : decode cX9_hour 69 = .ok (.goto (-18), 3) := by decide +kernel
theorem dX9_hour_72 : decode cX9_hour 72 = .ok (.iconst 0, 1) := by decide +kernel
theorem dX9_hour_73 : decode cX9_hour 73 = .ok (.istore_n 2, 1) := by decide +kernel
theorem dX9_hour_74 : decode cX9_hour 74 = .ok (.iload_n 2, 1) := by decide +kernel
theorem dX9_hour_75 : decode cX9_hour 75 = .ok (.iconst 4, 1) := by decide +kernel
theorem dX9_hour_76 : decode cX9_hour 76 = .ok (.if_icmp .ge 134, 3) := by decide +kernel
theorem dX9_hour_79 : decode cX9_hour 79 = .ok (.aload_n 0, 1) := by decide +kernel
theorem dX9_hour_80 : decode cX9_hour 80 = .ok (.getfield 7, 3) := by decide +kernel
theorem dX9_hour_83 : decode cX9_hour 83 = .ok (.iload_n 2, 1) := by decide +kernel
theorem dX9_hour_84 : decode cX9_hour 84 = .ok (.iconst 0, 1) := by decide +kernel
theorem dX9_hour_85 : decode cX9_hour 85 = .ok (.invokestatic 33, 3) := by decide +kernel
theorem dX9_hour_88 : decode cX9_hour 88 = .ok (.iaload, 1) := by decide +kernel
theorem dX9_hour_89 : decode cX9_hour 89 = .ok (.aload_n 0, 1) := by decide +kernel
theorem dX9_hour_90 : decode cX9_hour 90 = .ok (.getfield 7, 3) := by decide +kernel
theorem dX9_hour_93 : decode cX9_hour 93 = .ok (.sipush 182, 3) := by decide +kernel
theorem dX9_hour_96 : decode cX9_hour 96 = .ok (.iaload, 1) := by decide +kernel
theorem dX9_hour_97 : decode cX9_hour 97 = .ok (.iadd, 1) := by decide +kernel
theorem dX9_hour_98 : decode cX9_hour 98 = .ok (.istore_n 3, 1) := by decide +kernel
theorem dX9_hour_99 : decode cX9_hour 99 = .ok (.iload_n 3, 1) := by decide +kernel
theorem dX9_hour_100 : decode cX9_hour 100 = .ok (.aload_n 0, 1) := by decide +kernel
theorem dX9_hour_101 : decode cX9_hour 101 = .ok (.getfield 7, 3) := by decide +kernel
theorem dX9_hour_104 : decode cX9_hour 104 = .ok (.iload_n 2, 1) := by decide +kernel
theorem dX9_hour_105 : decode cX9_hour 105 = .ok (.iconst 1, 1) := by decide +kernel
theorem dX9_hour_106 : decode cX9_hour 106 = .ok (.invokestatic 33, 3) := by decide +kernel
theorem dX9_hour_109 : decode cX9_hour 109 = .ok (.iaload, 1) := by decide +kernel
theorem dX9_hour_110 : decode cX9_hour 110 = .ok (.if_icmp .ge 7, 3) := by decide +kernel
theorem dX9_hour_113 : decode cX9_hour 113 = .ok (.iload_n 3, 1) := by decide +kernel
theorem dX9_hour_114 : decode cX9_hour 114 = .ok (.goto 13, 3) := by decide +kernel
theorem dX9_hour_117 : decode cX9_hour 117 = .ok (.aload_n 0, 1) := by decide +kernel
theorem dX9_hour_118 : decode cX9_hour 118 = .ok (.getfield 7, 3) := by decide +kernel
theorem dX9_hour_121 : decode cX9_hour 121 = .ok (.iload_n 2, 1) := by decide +kernel
theorem dX9_hour_122 : decode cX9_hour 122 = .ok (.iconst 1, 1) := by decide +kernel
theorem dX9_hour_123 : decode cX9_hour 123 = .ok (.invokestatic 33, 3) := by decide +kernel
theorem dX9_hour_126 : decode cX9_hour 126 = .ok (.iaload, 1) := by decide +kernel
theorem dX9_hour_127 : decode cX9_hour 127 = .ok (.istore 4, 2) := by decide +kernel
theorem dX9_hour_129 : decode cX9_hour 129 = .ok (.aload_n 0, 1) := by decide +kernel
theorem dX9_hour_130 : decode cX9_hour 130 = .ok (.getfield 7, 3) := by decide +kernel
theorem dX9_hour_133 : decode cX9_hour 133 = .ok (.iload_n 2, 1) := by decide +kernel
theorem dX9_hour_134 : decode cX9_hour 134 = .ok (.iconst 0, 1) := by decide +kernel
theorem dX9_hour_135 : decode cX9_hour 135 = .ok (.invokestatic 33, 3) := by decide +kernel
theorem dX9_hour_138 : decode cX9_hour 138 = .ok (.iload_n 3, 1) := by decide +kernel
theorem dX9_hour_139 : decode cX9_hour 139 = .ok (.iload 4, 2) := by decide +kernel
theorem dX9_hour_141 : decode cX9_hour 141 = .ok (.isub, 1) := by decide +kernel
theorem dX9_hour_142 : decode cX9_hour 142 = .ok (.iastore, 1) := by decide +kernel
theorem dX9_hour_143 : decode cX9_hour 143 = .ok (.aload_n 0, 1) := by decide +kernel
theorem dX9_hour_144 : decode cX9_hour 144 = .ok (.getfield 7, 3) := by decide +kernel
theorem dX9_hour_147 : decode cX9_hour 147 = .ok (.iload_n 2, 1) := by decide +kernel
theorem dX9_hour_148 : decode cX9_hour 148 = .ok (.iconst 1, 1) := by decide +kernel
theorem dX9_hour_149 : decode cX9_hour 149 = .ok (.invokestatic 33, 3) := by decide +kernel
theorem dX9_hour_152 : decode cX9_hour 152 = .ok (.dup2, 1) := by decide +kernel
theorem dX9_hour_153 : decode cX9_hour 153 = .ok (.iaload, 1) := by decide +kernel
theorem dX9_hour_154 : decode cX9_hour 154 = .ok (.iload 4, 2) := by decide +kernel
theorem dX9_hour_156 : decode cX9_hour 156 = .ok (.isub, 1) := by decide +kernel
theorem dX9_hour_157 : decode cX9_hour 157 = .ok (.iastore, 1) := by decide +kernel
theorem dX9_hour_158 : decode cX9_hour 158 = .ok (.aload_n 0, 1) := by decide +kernel
theorem dX9_hour_159 : decode cX9_hour 159 = .ok (.getfield 7, 3) := by decide +kernel
theorem dX9_hour_162 : decode cX9_hour 162 = .ok (.iload_n 2, 1) := by decide +kernel
theorem dX9_hour_163 : decode cX9_hour 163 = .ok (.iconst 4, 1) := by decide +kernel
theorem dX9_hour_164 : decode cX9_hour 164 = .ok (.invokestatic 33, 3) := by decide +kernel
theorem dX9_hour_167 : decode cX9_hour 167 = .ok (.dup2, 1) := by decide +kernel
theorem dX9_hour_168 : decode cX9_hour 168 = .ok (.iaload, 1) := by decide +kernel
theorem dX9_hour_169 : decode cX9_hour 169 = .ok (.iload 4, 2) := by decide +kernel
theorem dX9_hour_171 : decode cX9_hour 171 = .ok (.iadd, 1) := by decide +kernel
theorem dX9_hour_172 : decode cX9_hour 172 = .ok (.iastore, 1) := by decide +kernel
theorem dX9_hour_173 : decode cX9_hour 173 = .ok (.aload_n 0, 1) := by decide +kernel
theorem dX9_hour_174 : decode cX9_hour 174 = .ok (.getfield 7, 3) := by decide +kernel
theorem dX9_hour_177 : decode cX9_hour 177 = .ok (.iload_n 2, 1) := by decide +kernel
theorem dX9_hour_178 : decode cX9_hour 178 = .ok (.iconst 4, 1) := by decide +kernel
theorem dX9_hour_179 : decode cX9_hour 179 = .ok (.invokestatic 29, 3) := by decide +kernel
theorem dX9_hour_182 : decode cX9_hour 182 = .ok (.dup2, 1) := by decide +kernel
theorem dX9_hour_183 : decode cX9_hour 183 = .ok (.iaload, 1) := by decide +kernel
theorem dX9_hour_184 : decode cX9_hour 184 = .ok (.aload_n 0, 1) := by decide +kernel
theorem dX9_hour_185 : decode cX9_hour 185 = .ok (.getfield 7, 3) := by decide +kernel
theorem dX9_hour_188 : decode cX9_hour 188 = .ok (.iload_n 2, 1) := by decide +kernel
theorem dX9_hour_189 : decode cX9_hour 189 = .ok (.iconst 4, 1) := by decide +kernel
theorem dX9_hour_190 : decode cX9_hour 190 = .ok (.invokestatic 29, 3) := by decide +kernel
theorem dX9_hour_193 : decode cX9_hour 193 = .ok (.iaload, 1) := by decide +kernel
theorem dX9_hour_194 : decode cX9_hour 194 = .ok (.ifCond .le 7, 3) := by decide +kernel
theorem dX9_hour_197 : decode cX9_hour 197 = .ok (.iconst 1, 1) := by decide +kernel
theorem dX9_hour_198 : decode cX9_hour 198 = .ok (.goto 4, 3) := by decide +kernel
theorem dX9_hour_201 : decode cX9_hour 201 = .ok (.iconst 0, 1) := by decide +kernel
theorem dX9_hour_202 : decode cX9_hour 202 = .ok (.isub, 1) := by decide +kernel
theorem dX9_hour_203 : decode cX9_hour 203 = .ok (.iastore, 1) := by decide +kernel
theorem dX9_hour_204 : decode cX9_hour 204 = .ok (.iinc 2 1, 3) := by decide +kernel
theorem dX9_hour_207 : decode cX9_hour 207 = .ok (.goto (-133), 3) := by decide +kernel
theorem dX9_hour_210 : decode cX9_hour 210 = .ok (.aload_n 0, 1) := by decide +kernel
theorem dX9_hour_211 : decode cX9_hour 211 = .ok (.getfield 7, 3) := by decide +kernel
theorem dX9_hour_214 : decode cX9_hour 214 = .ok (.sipush 181, 3) := by decide +kernel
theorem dX9_hour_217 : decode cX9_hour 217 = .ok (.dup2, 1) := by decide +kernel
theorem dX9_hour_218 : decode cX9_hour 218 = .ok (.iaload, 1) := by decide +kernel
theorem dX9_hour_219 : decode cX9_hour 219 = .ok (.iconst 1, 1) := by decide +kernel
theorem dX9_hour_220 : decode cX9_hour 220 = .ok (.iadd, 1) := by decide +kernel
theorem dX9_hour_221 : decode cX9_hour 221 = .ok (.iastore, 1) := by decide +kernel
theorem dX9_hour_222 : decode cX9_hour 222 = .ok (.return_, 1) := by decide +kernel
theorem dX9_shipsIn_0 : decode cX9_shipsIn 0 = .ok (.iconst 0, 1) := by decide +kernel
theorem dX9_shipsIn_1 : decode cX9_shipsIn 1 = .ok (.istore_n 2, 1) := by decide +kernel
theorem dX9_shipsIn_2 : decode cX9_shipsIn 2 = .ok (.iconst 0, 1) := by decide +kernel
theorem dX9_shipsIn_3 : decode cX9_shipsIn 3 = .ok (.istore_n 3, 1) := by decide +kernel
theorem dX9_shipsIn_4 : decode cX9_shipsIn 4 = .ok (.iload_n 3, 1) := by decide +kernel
theorem dX9_shipsIn_5 : decode cX9_shipsIn 5 = .ok (.aload_n 0, 1) := by decide +kernel
theorem dX9_shipsIn_6 : decode cX9_shipsIn 6 = .ok (.getfield 7, 3) := by decide +kernel
theorem dX9_shipsIn_9 : decode cX9_shipsIn 9 = .ok (.sipush 180, 3) := by decide +kernel
theorem dX9_shipsIn_12 : decode cX9_shipsIn 12 = .ok (.iaload, 1) := by decide +kernel
theorem dX9_shipsIn_13 : decode cX9_shipsIn 13 = .ok (.if_icmp .ge 33, 3) := by decide +kernel
theorem dX9_shipsIn_16 : decode cX9_shipsIn 16 = .ok (.iload_n 2, 1) := by decide +kernel
theorem dX9_shipsIn_17 : decode cX9_shipsIn 17 = .ok (.aload_n 0, 1) := by decide +kernel
theorem dX9_shipsIn_18 : decode cX9_shipsIn 18 = .ok (.getfield 7, 3) := by decide +kernel
theorem dX9_shipsIn_21 : decode cX9_shipsIn 21 = .ok (.iload_n 3, 1) := by decide +kernel
theorem dX9_shipsIn_22 : decode cX9_shipsIn 22 = .ok (.iconst 3, 1) := by decide +kernel
theorem dX9_shipsIn_23 : decode cX9_shipsIn 23 = .ok (.invokestatic 100, 3) := by decide +kernel
theorem dX9_shipsIn_26 : decode cX9_shipsIn 26 = .ok (.iaload, 1) := by decide +kernel
theorem dX9_shipsIn_27 : decode cX9_shipsIn 27 = .ok (.iload_n 1, 1) := by decide +kernel
theorem dX9_shipsIn_28 : decode cX9_shipsIn 28 = .ok (.if_icmp .ne 9, 3) := by decide +kernel
theorem dX9_shipsIn_31 : decode cX9_shipsIn 31 = .ok (.iconst 1, 1) := by decide +kernel
theorem dX9_shipsIn_32 : decode cX9_shipsIn 32 = .ok (.iload_n 3, 1) := by decide +kernel
theorem dX9_shipsIn_33 : decode cX9_shipsIn 33 = .ok (.ishl, 1) := by decide +kernel
theorem dX9_shipsIn_34 : decode cX9_shipsIn 34 = .ok (.goto 4, 3) := by decide +kernel
theorem dX9_shipsIn_37 : decode cX9_shipsIn 37 = .ok (.iconst 0, 1) := by decide +kernel
theorem dX9_shipsIn_38 : decode cX9_shipsIn 38 = .ok (.ior, 1) := by decide +kernel
theorem dX9_shipsIn_39 : decode cX9_shipsIn 39 = .ok (.istore_n 2, 1) := by decide +kernel
theorem dX9_shipsIn_40 : decode cX9_shipsIn 40 = .ok (.iinc 3 1, 3) := by decide +kernel
theorem dX9_shipsIn_43 : decode cX9_shipsIn 43 = .ok (.goto (-39), 3) := by decide +kernel
theorem dX9_shipsIn_46 : decode cX9_shipsIn 46 = .ok (.iload_n 2, 1) := by decide +kernel
theorem dX9_shipsIn_47 : decode cX9_shipsIn 47 = .ok (.ireturn, 1) := by decide +kernel
theorem dX9_many_0 : decode cX9_many 0 = .ok (.iconst 0, 1) := by decide +kernel
theorem dX9_many_1 : decode cX9_many 1 = .ok (.istore_n 1, 1) := by decide +kernel
theorem dX9_many_2 : decode cX9_many 2 = .ok (.iload_n 0, 1) := by decide +kernel
theorem dX9_many_3 : decode cX9_many 3 = .ok (.istore_n 2, 1) := by decide +kernel
theorem dX9_many_4 : decode cX9_many 4 = .ok (.iload_n 2, 1) := by decide +kernel
theorem dX9_many_5 : decode cX9_many 5 = .ok (.ifCond .le 16, 3) := by decide +kernel
theorem dX9_many_8 : decode cX9_many 8 = .ok (.iload_n 1, 1) := by decide +kernel
theorem dX9_many_9 : decode cX9_many 9 = .ok (.iload_n 2, 1) := by decide +kernel
theorem dX9_many_10 : decode cX9_many 10 = .ok (.iconst 1, 1) := by decide +kernel
theorem dX9_many_11 : decode cX9_many 11 = .ok (.iand, 1) := by decide +kernel
theorem dX9_many_12 : decode cX9_many 12 = .ok (.iadd, 1) := by decide +kernel
theorem dX9_many_13 : decode cX9_many 13 = .ok (.istore_n 1, 1) := by decide +kernel
theorem dX9_many_14 : decode cX9_many 14 = .ok (.iload_n 2, 1) := by decide +kernel
theorem dX9_many_15 : decode cX9_many 15 = .ok (.iconst 1, 1) := by decide +kernel
theorem dX9_many_16 : decode cX9_many 16 = .ok (.ishr, 1) := by decide +kernel
theorem dX9_many_17 : decode cX9_many 17 = .ok (.istore_n 2, 1) := by decide +kernel
theorem dX9_many_18 : decode cX9_many 18 = .ok (.goto (-14), 3) := by decide +kernel
theorem dX9_many_21 : decode cX9_many 21 = .ok (.iload_n 1, 1) := by decide +kernel
theorem dX9_many_22 : decode cX9_many 22 = .ok (.ireturn, 1) := by decide +kernel
theorem dX9_passes_0 : decode cX9_passes 0 = .ok (.aload_n 0, 1) := by decide +kernel
theorem dX9_passes_1 : decode cX9_passes 1 = .ok (.iconst 2, 1) := by decide +kernel
theorem dX9_passes_2 : decode cX9_passes 2 = .ok (.invokevirtual 129, 3) := by decide +kernel
theorem dX9_passes_5 : decode cX9_passes 5 = .ok (.istore_n 2, 1) := by decide +kernel
theorem dX9_passes_6 : decode cX9_passes 6 = .ok (.iconst 0, 1) := by decide +kernel
theorem dX9_passes_7 : decode cX9_passes 7 = .ok (.istore_n 3, 1) := by decide +kernel
theorem dX9_passes_8 : decode cX9_passes 8 = .ok (.iload_n 3, 1) := by decide +kernel
theorem dX9_passes_9 : decode cX9_passes 9 = .ok (.iload_n 1, 1) := by decide +kernel
theorem dX9_passes_10 : decode cX9_passes 10 = .ok (.if_icmp .ge 13, 3) := by decide +kernel
theorem dX9_passes_13 : decode cX9_passes 13 = .ok (.aload_n 0, 1) := by decide +kernel
theorem dX9_passes_14 : decode cX9_passes 14 = .ok (.invokevirtual 132, 3) := by decide +kernel
theorem dX9_passes_17 : decode cX9_passes 17 = .ok (.iinc 3 1, 3) := by decide +kernel
theorem dX9_passes_20 : decode cX9_passes 20 = .ok (.goto (-12), 3) := by decide +kernel
theorem dX9_passes_23 : decode cX9_passes 23 = .ok (.aload_n 0, 1) := by decide +kernel
theorem dX9_passes_24 : decode cX9_passes 24 = .ok (.iconst 2, 1) := by decide +kernel
theorem dX9_passes_25 : decode cX9_passes 25 = .ok (.invokevirtual 129, 3) := by decide +kernel
theorem dX9_passes_28 : decode cX9_passes 28 = .ok (.iload_n 2, 1) := by decide +kernel
theorem dX9_passes_29 : decode cX9_passes 29 = .ok (.iconst (-1), 1) := by decide +kernel
theorem dX9_passes_30 : decode cX9_passes 30 = .ok (.ixor, 1) := by decide +kernel
theorem dX9_passes_31 : decode cX9_passes 31 = .ok (.iand, 1) := by decide +kernel
theorem dX9_passes_32 : decode cX9_passes 32 = .ok (.ireturn, 1) := by decide +kernel
theorem dX9_barPass_0 : decode cX9_barPass 0 = .ok (.iload_n 1, 1) := by decide +kernel
theorem dX9_barPass_1 : decode cX9_barPass 1 = .ok (.iconst 1, 1) := by decide +kernel
theorem dX9_barPass_2 : decode cX9_barPass 2 = .ok (.bipush 20, 2) := by decide +kernel
theorem dX9_barPass_4 : decode cX9_barPass 4 = .ok (.invokestatic 36, 3) := by decide +kernel
theorem dX9_barPass_7 : decode cX9_barPass 7 = .ok (.ifCond .ne 8, 3) := by decide +kernel
theorem dX9_barPass_10 : decode cX9_barPass 10 = .ok (.bipush (-2), 2) := by decide +kernel
theorem dX9_barPass_12 : decode cX9_barPass 12 = .ok (.goto 25, 3) := by decide +kernel
theorem dX9_barPass_15 : decode cX9_barPass 15 = .ok (.aload_n 0, 1) := by decide +kernel
theorem dX9_barPass_16 : decode cX9_barPass 16 = .ok (.getfield 7, 3) := by decide +kernel
theorem dX9_barPass_19 : decode cX9_barPass 19 = .ok (.sipush 181, 3) := by decide +kernel
theorem dX9_barPass_22 : decode cX9_barPass 22 = .ok (.iaload, 1) := by decide +kernel
theorem dX9_barPass_23 : decode cX9_barPass 23 = .ok (.iload_n 1, 1) := by decide +kernel
theorem dX9_barPass_24 : decode cX9_barPass 24 = .ok (.iadd, 1) := by decide +kernel
theorem dX9_barPass_25 : decode cX9_barPass 25 = .ok (.sipush 9999, 3) := by decide +kernel
theorem dX9_barPass_28 : decode cX9_barPass 28 = .ok (.if_icmp .le 8, 3) := by decide +kernel
theorem dX9_barPass_31 : decode cX9_barPass 31 = .ok (.bipush (-3), 2) := by decide +kernel
theorem dX9_barPass_33 : decode cX9_barPass 33 = .ok (.goto 4, 3) := by decide +kernel
theorem dX9_barPass_36 : decode cX9_barPass 36 = .ok (.iconst 0, 1) := by decide +kernel
theorem dX9_barPass_37 : decode cX9_barPass 37 = .ok (.ireturn, 1) := by decide +kernel
theorem dX9_pass_0 : decode cX9_pass 0 = .ok (.aload_n 0, 1) := by decide +kernel
theorem dX9_pass_1 : decode cX9_pass 1 = .ok (.iload_n 1, 1) := by decide +kernel
theorem dX9_pass_2 : decode cX9_pass 2 = .ok (.invokevirtual 135, 3) := by decide +kernel
theorem dX9_pass_5 : decode cX9_pass 5 = .ok (.istore_n 2, 1) := by decide +kernel
theorem dX9_pass_6 : decode cX9_pass 6 = .ok (.iload_n 2, 1) := by decide +kernel
theorem dX9_pass_7 : decode cX9_pass 7 = .ok (.ifCond .ge 5, 3) := by decide +kernel
theorem dX9_pass_10 : decode cX9_pass 10 = .ok (.iload_n 2, 1) := by decide +kernel
theorem dX9_pass_11 : decode cX9_pass 11 = .ok (.ireturn, 1) := by decide +kernel
theorem dX9_pass_12 : decode cX9_pass 12 = .ok (.aload_n 0, 1) := by decide +kernel
theorem dX9_pass_13 : decode cX9_pass 13 = .ok (.invokevirtual 87, 3) := by decide +kernel
theorem dX9_pass_16 : decode cX9_pass 16 = .ok (.aload_n 0, 1) := by decide +kernel
theorem dX9_pass_17 : decode cX9_pass 17 = .ok (.iload_n 1, 1) := by decide +kernel
theorem dX9_pass_18 : decode cX9_pass 18 = .ok (.invokevirtual 138, 3) := by decide +kernel
theorem dX9_pass_21 : decode cX9_pass 21 = .ok (.invokestatic 141, 3) := by decide +kernel
theorem dX9_pass_24 : decode cX9_pass 24 = .ok (.ireturn, 1) := by decide +kernel
theorem dX9_wage_0 : decode cX9_wage 0 = .ok (.iload_n 1, 1) := by decide +kernel
theorem dX9_wage_1 : decode cX9_wage 1 = .ok (.iconst 0, 1) := by decide +kernel
theorem dX9_wage_2 : decode cX9_wage 2 = .ok (.bipush 9, 2) := by decide +kernel
theorem dX9_wage_4 : decode cX9_wage 4 = .ok (.invokestatic 36, 3) := by decide +kernel
theorem dX9_wage_7 : decode cX9_wage 7 = .ok (.ifCond .ne 6, 3) := by decide +kernel
theorem dX9_wage_10 : decode cX9_wage 10 = .ok (.bipush (-2), 2) := by decide +kernel
theorem dX9_wage_12 : decode cX9_wage 12 = .ok (.ireturn, 1) := by decide +kernel
theorem dX9_wage_13 : decode cX9_wage 13 = .ok (.aload_n 0, 1) := by decide +kernel
theorem dX9_wage_14 : decode cX9_wage 14 = .ok (.getfield 7, 3) := by decide +kernel
theorem dX9_wage_17 : decode cX9_wage 17 = .ok (.sipush 182, 3) := by decide +kernel
theorem dX9_wage_20 : decode cX9_wage 20 = .ok (.iaload, 1) := by decide +kernel
theorem dX9_wage_21 : decode cX9_wage 21 = .ok (.iload_n 1, 1) := by decide +kernel
theorem dX9_wage_22 : decode cX9_wage 22 = .ok (.if_icmp .ne 6, 3) := by decide +kernel
theorem dX9_wage_25 : decode cX9_wage 25 = .ok (.bipush (-5), 2) := by decide +kernel
theorem dX9_wage_27 : decode cX9_wage 27 = .ok (.ireturn, 1) := by decide +kernel
theorem dX9_wage_28 : decode cX9_wage 28 = .ok (.aload_n 0, 1) := by decide +kernel
theorem dX9_wage_29 : decode cX9_wage 29 = .ok (.invokevirtual 87, 3) := by decide +kernel
theorem dX9_wage_32 : decode cX9_wage 32 = .ok (.aload_n 0, 1) := by decide +kernel
theorem dX9_wage_33 : decode cX9_wage 33 = .ok (.getfield 7, 3) := by decide +kernel
theorem dX9_wage_36 : decode cX9_wage 36 = .ok (.sipush 182, 3) := by decide +kernel
theorem dX9_wage_39 : decode cX9_wage 39 = .ok (.iaload, 1) := by decide +kernel
theorem dX9_wage_40 : decode cX9_wage 40 = .ok (.istore_n 2, 1) := by decide +kernel
