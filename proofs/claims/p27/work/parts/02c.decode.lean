theorem dX8_init_0 : decode cX8_init 0 = .ok (.aload_n 0, 1) := by decide +kernel
theorem dX8_init_1 : decode cX8_init 1 = .ok (.invokespecial 1, 3) := by decide +kernel
theorem dX8_init_4 : decode cX8_init 4 = .ok (.aload_n 0, 1) := by decide +kernel
theorem dX8_init_5 : decode cX8_init 5 = .ok (.new 7, 3) := by decide +kernel
theorem dX8_init_8 : decode cX8_init 8 = .ok (.dup, 1) := by decide +kernel
theorem dX8_init_9 : decode cX8_init 9 = .ok (.invokespecial 9, 3) := by decide +kernel
theorem dX8_init_12 : decode cX8_init 12 = .ok (.putfield 10, 3) := by decide +kernel
theorem dX8_init_15 : decode cX8_init 15 = .ok (.aload_n 0, 1) := by decide +kernel
theorem dX8_init_16 : decode cX8_init 16 = .ok (.new 16, 3) := by decide +kernel
theorem dX8_init_19 : decode cX8_init 19 = .ok (.dup, 1) := by decide +kernel
theorem dX8_init_20 : decode cX8_init 20 = .ok (.aload_n 0, 1) := by decide +kernel
theorem dX8_init_21 : decode cX8_init 21 = .ok (.getfield 10, 3) := by decide +kernel
theorem dX8_init_24 : decode cX8_init 24 = .ok (.invokespecial 18, 3) := by decide +kernel
theorem dX8_init_27 : decode cX8_init 27 = .ok (.putfield 21, 3) := by decide +kernel
theorem dX8_init_30 : decode cX8_init 30 = .ok (.aload_n 0, 1) := by decide +kernel
theorem dX8_init_31 : decode cX8_init 31 = .ok (.new 16, 3) := by decide +kernel
theorem dX8_init_34 : decode cX8_init 34 = .ok (.dup, 1) := by decide +kernel
theorem dX8_init_35 : decode cX8_init 35 = .ok (.aload_n 0, 1) := by decide +kernel
theorem dX8_init_36 : decode cX8_init 36 = .ok (.getfield 10, 3) := by decide +kernel
theorem dX8_init_39 : decode cX8_init 39 = .ok (.invokespecial 18, 3) := by decide +kernel
theorem dX8_init_42 : decode cX8_init 42 = .ok (.putfield 25, 3) := by decide +kernel
theorem dX8_init_45 : decode cX8_init 45 = .ok (.aload_n 0, 1) := by decide +kernel
theorem dX8_init_46 : decode cX8_init 46 = .ok (.new 16, 3) := by decide +kernel
theorem dX8_init_49 : decode cX8_init 49 = .ok (.dup, 1) := by decide +kernel
theorem dX8_init_50 : decode cX8_init 50 = .ok (.aload_n 0, 1) := by decide +kernel
theorem dX8_init_51 : decode cX8_init 51 = .ok (.getfield 10, 3) := by decide +kernel
theorem dX8_init_54 : decode cX8_init 54 = .ok (.invokespecial 18, 3) := by decide +kernel
theorem dX8_init_57 : decode cX8_init 57 = .ok (.putfield 28, 3) := by decide +kernel
theorem dX8_init_60 : decode cX8_init 60 = .ok (.aload_n 0, 1) := by decide +kernel
theorem dX8_init_61 : decode cX8_init 61 = .ok (.iconst 0, 1) := by decide +kernel
theorem dX8_init_62 : decode cX8_init 62 = .ok (.putfield 31, 3) := by decide +kernel
theorem dX8_init_65 : decode cX8_init 65 = .ok (.aload_n 0, 1) := by decide +kernel
theorem dX8_init_66 : decode cX8_init 66 = .ok (.new 35, 3) := by decide +kernel
theorem dX8_init_69 : decode cX8_init 69 = .ok (.dup, 1) := by decide +kernel
theorem dX8_init_70 : decode cX8_init 70 = .ok (.aload_n 0, 1) := by decide +kernel
theorem dX8_init_71 : decode cX8_init 71 = .ok (.getfield 10, 3) := by decide +kernel
theorem dX8_init_74 : decode cX8_init 74 = .ok (.invokespecial 37, 3) := by decide +kernel
theorem dX8_init_77 : decode cX8_init 77 = .ok (.putfield 38, 3) := by decide +kernel
theorem dX8_init_80 : decode cX8_init 80 = .ok (.aload_n 0, 1) := by decide +kernel
theorem dX8_init_81 : decode cX8_init 81 = .ok (.new 42, 3) := by decide +kernel
theorem dX8_init_84 : decode cX8_init 84 = .ok (.dup, 1) := by decide +kernel
theorem dX8_init_85 : decode cX8_init 85 = .ok (.invokespecial 44, 3) := by decide +kernel
theorem dX8_init_88 : decode cX8_init 88 = .ok (.putfield 45, 3) := by decide +kernel
theorem dX8_init_91 : decode cX8_init 91 = .ok (.return_, 1) := by decide +kernel
theorem dX8_rock_0 : decode cX8_rock 0 = .ok (.aload_n 0, 1) := by decide +kernel
theorem dX8_rock_1 : decode cX8_rock 1 = .ok (.getfield 21, 3) := by decide +kernel
theorem dX8_rock_4 : decode cX8_rock 4 = .ok (.iload_n 1, 1) := by decide +kernel
theorem dX8_rock_5 : decode cX8_rock 5 = .ok (.invokevirtual 49, 3) := by decide +kernel
theorem dX8_rock_8 : decode cX8_rock 8 = .ok (.istore_n 2, 1) := by decide +kernel
theorem dX8_rock_9 : decode cX8_rock 9 = .ok (.iload_n 2, 1) := by decide +kernel
theorem dX8_rock_10 : decode cX8_rock 10 = .ok (.ifCond .eq 5, 3) := by decide +kernel
theorem dX8_rock_13 : decode cX8_rock 13 = .ok (.iload_n 2, 1) := by decide +kernel
theorem dX8_rock_14 : decode cX8_rock 14 = .ok (.ireturn, 1) := by decide +kernel
theorem dX8_rock_15 : decode cX8_rock 15 = .ok (.aload_n 0, 1) := by decide +kernel
theorem dX8_rock_16 : decode cX8_rock 16 = .ok (.getfield 38, 3) := by decide +kernel
theorem dX8_rock_19 : decode cX8_rock 19 = .ok (.aload_n 0, 1) := by decide +kernel
theorem dX8_rock_20 : decode cX8_rock 20 = .ok (.getfield 21, 3) := by decide +kernel
theorem dX8_rock_23 : decode cX8_rock 23 = .ok (.invokevirtual 53, 3) := by decide +kernel
theorem dX8_rock_26 : decode cX8_rock 26 = .ok (.aload_n 0, 1) := by decide +kernel
theorem dX8_rock_27 : decode cX8_rock 27 = .ok (.getfield 21, 3) := by decide +kernel
theorem dX8_rock_30 : decode cX8_rock 30 = .ok (.iload_n 1, 1) := by decide +kernel
theorem dX8_rock_31 : decode cX8_rock 31 = .ok (.invokevirtual 57, 3) := by decide +kernel
theorem dX8_rock_34 : decode cX8_rock 34 = .ok (.aload_n 0, 1) := by decide +kernel
theorem dX8_rock_35 : decode cX8_rock 35 = .ok (.getfield 21, 3) := by decide +kernel
theorem dX8_rock_38 : decode cX8_rock 38 = .ok (.invokevirtual 61, 3) := by decide +kernel
theorem dX8_rock_41 : decode cX8_rock 41 = .ok (.ireturn, 1) := by decide +kernel
theorem dX8_light_0 : decode cX8_light 0 = .ok (.iload_n 1, 1) := by decide +kernel
theorem dX8_light_1 : decode cX8_light 1 = .ok (.invokestatic 65, 3) := by decide +kernel
theorem dX8_light_4 : decode cX8_light 4 = .ok (.ifCond .ne 5, 3) := by decide +kernel
theorem dX8_light_7 : decode cX8_light 7 = .ok (.iconst (-1), 1) := by decide +kernel
theorem dX8_light_8 : decode cX8_light 8 = .ok (.ireturn, 1) := by decide +kernel
theorem dX8_light_9 : decode cX8_light 9 = .ok (.iload_n 2, 1) := by decide +kernel
theorem dX8_light_10 : decode cX8_light 10 = .ok (.iload_n 3, 1) := by decide +kernel
theorem dX8_light_11 : decode cX8_light 11 = .ok (.invokestatic 69, 3) := by decide +kernel
theorem dX8_light_14 : decode cX8_light 14 = .ok (.ifCond .ne 6, 3) := by decide +kernel
theorem dX8_light_17 : decode cX8_light 17 = .ok (.bipush (-2), 2) := by decide +kernel
theorem dX8_light_19 : decode cX8_light 19 = .ok (.ireturn, 1) := by decide +kernel
theorem dX8_light_20 : decode cX8_light 20 = .ok (.aload_n 0, 1) := by decide +kernel
theorem dX8_light_21 : decode cX8_light 21 = .ok (.getfield 21, 3) := by decide +kernel
theorem dX8_light_24 : decode cX8_light 24 = .ok (.getfield 73, 3) := by decide +kernel
theorem dX8_light_27 : decode cX8_light 27 = .ok (.iload_n 1, 1) := by decide +kernel
theorem dX8_light_28 : decode cX8_light 28 = .ok (.aaload, 1) := by decide +kernel
theorem dX8_light_29 : decode cX8_light 29 = .ok (.iload_n 2, 1) := by decide +kernel
theorem dX8_light_30 : decode cX8_light 30 = .ok (.aload_n 0, 1) := by decide +kernel
theorem dX8_light_31 : decode cX8_light 31 = .ok (.getfield 21, 3) := by decide +kernel
theorem dX8_light_34 : decode cX8_light 34 = .ok (.getfield 77, 3) := by decide +kernel
theorem dX8_light_37 : decode cX8_light 37 = .ok (.invokevirtual 81, 3) := by decide +kernel
theorem dX8_light_40 : decode cX8_light 40 = .ok (.istore 4, 2) := by decide +kernel
theorem dX8_light_42 : decode cX8_light 42 = .ok (.iload 4, 2) := by decide +kernel
theorem dX8_light_44 : decode cX8_light 44 = .ok (.iload_n 3, 1) := by decide +kernel
theorem dX8_light_45 : decode cX8_light 45 = .ok (.if_icmp .ne 6, 3) := by decide +kernel
theorem dX8_light_48 : decode cX8_light 48 = .ok (.bipush (-5), 2) := by decide +kernel
theorem dX8_light_50 : decode cX8_light 50 = .ok (.ireturn, 1) := by decide +kernel
theorem dX8_light_51 : decode cX8_light 51 = .ok (.aload_n 0, 1) := by decide +kernel
theorem dX8_light_52 : decode cX8_light 52 = .ok (.getfield 38, 3) := by decide +kernel
theorem dX8_light_55 : decode cX8_light 55 = .ok (.aload_n 0, 1) := by decide +kernel
theorem dX8_light_56 : decode cX8_light 56 = .ok (.getfield 21, 3) := by decide +kernel
theorem dX8_light_59 : decode cX8_light 59 = .ok (.invokevirtual 53, 3) := by decide +kernel
theorem dX8_light_62 : decode cX8_light 62 = .ok (.aload_n 0, 1) := by decide +kernel
theorem dX8_light_63 : decode cX8_light 63 = .ok (.getfield 21, 3) := by decide +kernel
theorem dX8_light_66 : decode cX8_light 66 = .ok (.getfield 73, 3) := by decide +kernel
theorem dX8_light_69 : decode cX8_light 69 = .ok (.iload_n 1, 1) := by decide +kernel
theorem dX8_light_70 : decode cX8_light 70 = .ok (.aaload, 1) := by decide +kernel
theorem dX8_light_71 : decode cX8_light 71 = .ok (.iload_n 2, 1) := by decide +kernel
theorem dX8_light_72 : decode cX8_light 72 = .ok (.iload_n 3, 1) := by decide +kernel
theorem dX8_light_73 : decode cX8_light 73 = .ok (.invokevirtual 87, 3) := by decide +kernel
theorem dX8_light_76 : decode cX8_light 76 = .ok (.iload 4, 2) := by decide +kernel
theorem dX8_light_78 : decode cX8_light 78 = .ok (.ireturn, 1) := by decide +kernel
theorem dX8_ship_0 : decode cX8_ship 0 = .ok (.aload_n 0, 1) := by decide +kernel
theorem dX8_ship_1 : decode cX8_ship 1 = .ok (.getfield 21, 3) := by decide +kernel
theorem dX8_ship_4 : decode cX8_ship 4 = .ok (.iload_n 1, 1) := by decide +kernel
theorem dX8_ship_5 : decode cX8_ship 5 = .ok (.iload_n 2, 1) := by decide +kernel
theorem dX8_ship_6 : decode cX8_ship 6 = .ok (.iload_n 3, 1) := by decide +kernel
theorem dX8_ship_7 : decode cX8_ship 7 = .ok (.invokevirtual 91, 3) := by decide +kernel
theorem dX8_ship_10 : decode cX8_ship 10 = .ok (.istore 4, 2) := by decide +kernel
theorem dX8_ship_12 : decode cX8_ship 12 = .ok (.iload 4, 2) := by decide +kernel
theorem dX8_ship_14 : decode cX8_ship 14 = .ok (.ifCond .eq 6, 3) := by decide +kernel
theorem dX8_ship_17 : decode cX8_ship 17 = .ok (.iload 4, 2) := by decide +kernel
theorem dX8_ship_19 : decode cX8_ship 19 = .ok (.ireturn, 1) := by decide +kernel
theorem dX8_ship_20 : decode cX8_ship 20 = .ok (.aload_n 0, 1) := by decide +kernel
theorem dX8_ship_21 : decode cX8_ship 21 = .ok (.getfield 38, 3) := by decide +kernel
theorem dX8_ship_24 : decode cX8_ship 24 = .ok (.aload_n 0, 1) := by decide +kernel
theorem dX8_ship_25 : decode cX8_ship 25 = .ok (.getfield 21, 3) := by decide +kernel
theorem dX8_ship_28 : decode cX8_ship 28 = .ok (.invokevirtual 53, 3) := by decide +kernel
theorem dX8_ship_31 : decode cX8_ship 31 = .ok (.aload_n 0, 1) := by decide +kernel
theorem dX8_ship_32 : decode cX8_ship 32 = .ok (.getfield 21, 3) := by decide +kernel
theorem dX8_ship_35 : decode cX8_ship 35 = .ok (.iload_n 1, 1) := by decide +kernel
theorem dX8_ship_36 : decode cX8_ship 36 = .ok (.iload_n 2, 1) := by decide +kernel
theorem dX8_ship_37 : decode cX8_ship 37 = .ok (.iload_n 3, 1) := by decide +kernel
theorem dX8_ship_38 : decode cX8_ship 38 = .ok (.invokevirtual 95, 3) := by decide +kernel
theorem dX8_ship_41 : decode cX8_ship 41 = .ok (.ireturn, 1) := by decide +kernel
theorem dX8_doAll_0 : decode cX8_doAll 0 = .ok (.aload_n 0, 1) := by decide +kernel
theorem dX8_doAll_1 : decode cX8_doAll 1 = .ok (.getfield 45, 3) := by decide +kernel
theorem dX8_doAll_4 : decode cX8_doAll 4 = .ok (.invokevirtual 98, 3) := by decide +kernel
theorem dX8_doAll_7 : decode cX8_doAll 7 = .ok (.istore_n 1, 1) := by decide +kernel
theorem dX8_doAll_8 : decode cX8_doAll 8 = .ok (.iload_n 1, 1) := by decide +kernel
theorem dX8_doAll_9 : decode cX8_doAll 9 = .ok (.bipush (-5), 2) := by decide +kernel
theorem dX8_doAll_11 : decode cX8_doAll 11 = .ok (.if_icmp .eq 8, 3) := by decide +kernel
theorem dX8_doAll_14 : decode cX8_doAll 14 = .ok (.bipush (-100), 2) := by decide +kernel
theorem dX8_doAll_16 : decode cX8_doAll 16 = .ok (.iload_n 1, 1) := by decide +kernel
theorem dX8_doAll_17 : decode cX8_doAll 17 = .ok (.isub, 1) := by decide +kernel
theorem dX8_doAll_18 : decode cX8_doAll 18 = .ok (.ireturn, 1) := by decide +kernel
theorem dX8_doAll_19 : decode cX8_doAll 19 = .ok (.aload_n 0, 1) := by decide +kernel
theorem dX8_doAll_20 : decode cX8_doAll 20 = .ok (.getfield 25, 3) := by decide +kernel
theorem dX8_doAll_23 : decode cX8_doAll 23 = .ok (.aload_n 0, 1) := by decide +kernel
theorem dX8_doAll_24 : decode cX8_doAll 24 = .ok (.getfield 21, 3) := by decide +kernel
theorem dX8_doAll_27 : decode cX8_doAll 27 = .ok (.invokevirtual 101, 3) := by decide +kernel
theorem dX8_doAll_30 : decode cX8_doAll 30 = .ok (.aload_n 0, 1) := by decide +kernel
theorem dX8_doAll_31 : decode cX8_doAll 31 = .ok (.getfield 45, 3) := by decide +kernel
theorem dX8_doAll_34 : decode cX8_doAll 34 = .ok (.getfield 104, 3) := by decide +kernel
theorem dX8_doAll_37 : decode cX8_doAll 37 = .ok (.bipush 20, 2) := by decide +kernel
theorem dX8_doAll_39 : decode cX8_doAll 39 = .ok (.invokestatic 107, 3) := by decide +kernel
theorem dX8_doAll_42 : decode cX8_doAll 42 = .ok (.istore_n 2, 1) := by decide +kernel
theorem dX8_doAll_43 : decode cX8_doAll 43 = .ok (.iconst 0, 1) := by decide +kernel
theorem dX8_doAll_44 : decode cX8_doAll 44 = .ok (.istore_n 3, 1) := by decide +kernel
theorem dX8_doAll_45 : decode cX8_doAll 45 = .ok (.iload_n 3, 1) := by decide +kernel
theorem dX8_doAll_46 : decode cX8_doAll 46 = .ok (.iload_n 2, 1) := by decide +kernel
theorem dX8_doAll_47 : decode cX8_doAll 47 = .ok (.if_icmp .ge 35, 3) := by decide +kernel
theorem dX8_doAll_50 : decode cX8_doAll 50 = .ok (.aload_n 0, 1) := by decide +kernel
theorem dX8_doAll_51 : decode cX8_doAll 51 = .ok (.getfield 25, 3) := by decide +kernel
theorem dX8_doAll_54 : decode cX8_doAll 54 = .ok (.aload_n 0, 1) := by decide +kernel
theorem dX8_doAll_55 : decode cX8_doAll 55 = .ok (.getfield 45, 3) := by decide +kernel
theorem dX8_doAll_58 : decode cX8_doAll 58 = .ok (.getfield 112, 3) := by decide +kernel
theorem dX8_doAll_61 : decode cX8_doAll 61 = .ok (.iload_n 3, 1) := by decide +kernel
theorem dX8_doAll_62 : decode cX8_doAll 62 = .ok (.aaload, 1) := by decide +kernel
theorem dX8_doAll_63 : decode cX8_doAll 63 = .ok (.invokevirtual 116, 3) := by decide +kernel
theorem dX8_doAll_66 : decode cX8_doAll 66 = .ok (.istore 4, 2) := by decide +kernel
theorem dX8_doAll_68 : decode cX8_doAll 68 = .ok (.iload 4, 2) := by decide +kernel
theorem dX8_doAll_70 : decode cX8_doAll 70 = .ok (.ifCond .eq 6, 3) := by decide +kernel
theorem dX8_doAll_73 : decode cX8_doAll 73 = .ok (.iload 4, 2) := by decide +kernel
theorem dX8_doAll_75 : decode cX8_doAll 75 = .ok (.ireturn, 1) := by decide +kernel
theorem dX8_doAll_76 : decode cX8_doAll 76 = .ok (.iinc 3 1, 3) := by decide +kernel
theorem dX8_doAll_79 : decode cX8_doAll 79 = .ok (.goto (-34), 3) := by decide +kernel
theorem dX8_doAll_82 : decode cX8_doAll 82 = .ok (.aload_n 0, 1) := by decide +kernel
theorem dX8_doAll_83 : decode cX8_doAll 83 = .ok (.getfield 38, 3) := by decide +kernel
theorem dX8_doAll_86 : decode cX8_doAll 86 = .ok (.aload_n 0, 1) := by decide +kernel
theorem dX8_doAll_87 : decode cX8_doAll 87 = .ok (.getfield 21, 3) := by decide +kernel
theorem dX8_doAll_90 : decode cX8_doAll 90 = .ok (.invokevirtual 53, 3) := by decide +kernel
theorem dX8_doAll_93 : decode cX8_doAll 93 = .ok (.aload_n 0, 1) := by decide +kernel
theorem dX8_doAll_94 : decode cX8_doAll 94 = .ok (.getfield 21, 3) := by decide +kernel
theorem dX8_doAll_97 : decode cX8_doAll 97 = .ok (.aload_n 0, 1) := by decide +kernel
theorem dX8_doAll_98 : decode cX8_doAll 98 = .ok (.getfield 25, 3) := by decide +kernel
theorem dX8_doAll_101 : decode cX8_doAll 101 = .ok (.invokevirtual 101, 3) := by decide +kernel
theorem dX8_doAll_104 : decode cX8_doAll 104 = .ok (.iload_n 2, 1) := by decide +kernel
theorem dX8_doAll_105 : decode cX8_doAll 105 = .ok (.ireturn, 1) := by decide +kernel
theorem dX8_card_0 : decode cX8_card 0 = .ok (.iload_n 1, 1) := by decide +kernel
theorem dX8_card_1 : decode cX8_card 1 = .ok (.invokestatic 65, 3) := by decide +kernel
theorem dX8_card_4 : decode cX8_card 4 = .ok (.ifCond .eq 10, 3) := by decide +kernel
theorem dX8_card_7 : decode cX8_card 7 = .ok (.iload_n 2, 1) := by decide +kernel
theorem dX8_card_8 : decode cX8_card 8 = .ok (.invokestatic 65, 3) := by decide +kernel
theorem dX8_card_11 : decode cX8_card 11 = .ok (.ifCond .ne 5, 3) := by decide +kernel
theorem dX8_card_14 : decode cX8_card 14 = .ok (.iconst (-1), 1) := by decide +kernel
theorem dX8_card_15 : decode cX8_card 15 = .ok (.ireturn, 1) := by decide +kernel
theorem dX8_card_16 : decode cX8_card 16 = .ok (.aload_n 0, 1) := by decide +kernel
theorem dX8_card_17 : decode cX8_card 17 = .ok (.getfield 21, 3) := by decide +kernel
theorem dX8_card_20 : decode cX8_card 20 = .ok (.iload_n 1, 1) := by decide +kernel
theorem dX8_card_21 : decode cX8_card 21 = .ok (.iload_n 2, 1) := by decide +kernel
theorem dX8_card_22 : decode cX8_card 22 = .ok (.invokevirtual 120, 3) := by decide +kernel
theorem dX8_card_25 : decode cX8_card 25 = .ok (.ifCond .ne 6, 3) := by decide +kernel
theorem dX8_card_28 : decode cX8_card 28 = .ok (.bipush (-4), 2) := by decide +kernel
theorem dX8_card_30 : decode cX8_card 30 = .ok (.ireturn, 1) := by decide +kernel
theorem dX8_card_31 : decode cX8_card 31 = .ok (.aload_n 0, 1) := by decide +kernel
theorem dX8_card_32 : decode cX8_card 32 = .ok (.getfield 38, 3) := by decide +kernel
theorem dX8_card_35 : decode cX8_card 35 = .ok (.aload_n 0, 1) := by decide +kernel
theorem dX8_card_36 : decode cX8_card 36 = .ok (.getfield 21, 3) := by decide +kernel
theorem dX8_card_39 : decode cX8_card 39 = .ok (.invokevirtual 53, 3) := by decide +kernel
theorem dX8_card_42 : decode cX8_card 42 = .ok (.aload_n 0, 1) := by decide +kernel
theorem dX8_card_43 : decode cX8_card 43 = .ok (.getfield 21, 3) := by decide +kernel
theorem dX8_card_46 : decode cX8_card 46 = .ok (.getfield 123, 3) := by decide +kernel
theorem dX8_card_49 : decode cX8_card 49 = .ok (.iload_n 1, 1) := by decide +kernel
theorem dX8_card_50 : decode cX8_card 50 = .ok (.aaload, 1) := by decide +kernel
theorem dX8_card_51 : decode cX8_card 51 = .ok (.dup, 1) := by decide +kernel
theorem dX8_card_52 : decode cX8_card 52 = .ok (.getfield 127, 3) := by decide +kernel
theorem dX8_card_55 : decode cX8_card 55 = .ok (.iconst 1, 1) := by decide +kernel
theorem dX8_card_56 : decode cX8_card 56 = .ok (.isub, 1) := by decide +kernel
theorem dX8_card_57 : decode cX8_card 57 = .ok (.putfield 127, 3) := by decide +kernel
theorem dX8_card_60 : decode cX8_card 60 = .ok (.aload_n 0, 1) := by decide +kernel
theorem dX8_card_61 : decode cX8_card 61 = .ok (.getfield 21, 3) := by decide +kernel
theorem dX8_card_64 : decode cX8_card 64 = .ok (.getfield 73, 3) := by decide +kernel
theorem dX8_card_67 : decode cX8_card 67 = .ok (.iload_n 2, 1) := by decide +kernel
theorem dX8_card_68 : decode cX8_card 68 = .ok (.aaload, 1) := by decide +kernel
theorem dX8_card_69 : decode cX8_card 69 = .ok (.invokevirtual 132, 3) := by decide +kernel
theorem dX8_card_72 : decode cX8_card 72 = .ok (.aload_n 0, 1) := by decide +kernel
theorem dX8_card_73 : decode cX8_card 73 = .ok (.getfield 21, 3) := by decide +kernel
theorem dX8_card_76 : decode cX8_card 76 = .ok (.getfield 73, 3) := by decide +kernel
theorem dX8_card_79 : decode cX8_card 79 = .ok (.iload_n 2, 1) := by decide +kernel
theorem dX8_card_80 : decode cX8_card 80 = .ok (.aaload, 1) := by decide +kernel
theorem dX8_card_81 : decode cX8_card 81 = .ok (.getfield 135, 3) := by decide +kernel
theorem dX8_card_84 : decode cX8_card 84 = .ok (.ireturn, 1) := by decide +kernel
theorem dX8_pass_0 : decode cX8_pass 0 = .ok (.aload_n 0, 1) := by decide +kernel
theorem dX8_pass_1 : decode cX8_pass 1 = .ok (.getfield 21, 3) := by decide +kernel
theorem dX8_pass_4 : decode cX8_pass 4 = .ok (.iload_n 1, 1) := by decide +kernel
theorem dX8_pass_5 : decode cX8_pass 5 = .ok (.invokevirtual 138, 3) := by decide +kernel
theorem dX8_pass_8 : decode cX8_pass 8 = .ok (.istore_n 2, 1) := by decide +kernel
theorem dX8_pass_9 : decode cX8_pass 9 = .ok (.iload_n 2, 1) := by decide +kernel
theorem dX8_pass_10 : decode cX8_pass 10 = .ok (.ifCond .eq 5, 3) := by decide +kernel
theorem dX8_pass_13 : decode cX8_pass 13 = .ok (.iload_n 2, 1) := by decide +kernel
theorem dX8_pass_14 : decode cX8_pass 14 = .ok (.ireturn, 1) := by decide +kernel
theorem dX8_pass_15 : decode cX8_pass 15 = .ok (.aload_n 0, 1) := by decide +kernel
theorem dX8_pass_16 : decode cX8_pass 16 = .ok (.getfield 38, 3) := by decide +kernel
theorem dX8_pass_19 : decode cX8_pass 19 = .ok (.aload_n 0, 1) := by decide +kernel
theorem dX8_pass_20 : decode cX8_pass 20 = .ok (.getfield 21, 3) := by decide +kernel
theorem dX8_pass_23 : decode cX8_pass 23 = .ok (.invokevirtual 53, 3) := by decide +kernel
theorem dX8_pass_26 : decode cX8_pass 26 = .ok (.aload_n 0, 1) := by decide +kernel
theorem dX8_pass_27 : decode cX8_pass 27 = .ok (.getfield 21, 3) := by decide +kernel
theorem dX8_pass_30 : decode cX8_pass 30 = .ok (.iload_n 1, 1) := by decide +kernel
theorem dX8_pass_31 : decode cX8_pass 31 = .ok (.invokevirtual 141, 3) := by decide +kernel
theorem dX8_pass_34 : decode cX8_pass 34 = .ok (.ireturn, 1) := by decide +kernel
theorem dX8_wage_0 : decode cX8_wage 0 = .ok (.iload_n 1, 1) := by decide +kernel
theorem dX8_wage_1 : decode cX8_wage 1 = .ok (.ifCond .lt 9, 3) := by decide +kernel
theorem dX8_wage_4 : decode cX8_wage 4 = .ok (.iload_n 1, 1) := by decide +kernel
theorem dX8_wage_5 : decode cX8_wage 5 = .ok (.bipush 9, 2) := by decide +kernel
theorem dX8_wage_7 : decode cX8_wage 7 = .ok (.if_icmp .le 6, 3) := by decide +kernel
theorem dX8_wage_10 : decode cX8_wage 10 = .ok (.bipush (-2), 2) := by decide +kernel
theorem dX8_wage_12 : decode cX8_wage 12 = .ok (.ireturn, 1) := by decide +kernel
theorem dX8_wage_13 : decode cX8_wage 13 = .ok (.aload_n 0, 1) := by decide +kernel
theorem dX8_wage_14 : decode cX8_wage 14 = .ok (.getfield 21, 3) := by decide +kernel
theorem dX8_wage_17 : decode cX8_wage 17 = .ok (.getfield 144, 3) := by decide +kernel
theorem dX8_wage_20 : decode cX8_wage 20 = .ok (.istore_n 2, 1) := by decide +kernel
theorem dX8_wage_21 : decode cX8_wage 21 = .ok (.iload_n 2, 1) := by decide +kernel
theorem dX8_wage_22 : decode cX8_wage 22 = .ok (.iload_n 1, 1) := by decide +kernel
theorem dX8_wage_23 : decode cX8_wage 23 = .ok (.if_icmp .ne 6, 3) := by decide +kernel
theorem dX8_wage_26 : decode cX8_wage 26 = .ok (.bipush (-5), 2) := by decide +kernel
theorem dX8_wage_28 : decode cX8_wage 28 = .ok (.ireturn, 1) := by decide +kernel
theorem dX8_wage_29 : decode cX8_wage 29 = .ok (.aload_n 0, 1) := by decide +kernel
theorem dX8_wage_30 : decode cX8_wage 30 = .ok (.getfield 38, 3) := by decide +kernel
theorem dX8_wage_33 : decode cX8_wage 33 = .ok (.aload_n 0, 1) := by decide +kernel
theorem dX8_wage_34 : decode cX8_wage 34 = .ok (.getfield 21, 3) := by decide +kernel
theorem dX8_wage_37 : decode cX8_wage 37 = .ok (.invokevirtual 53, 3) := by decide +kernel
theorem dX8_wage_40 : decode cX8_wage 40 = .ok (.aload_n 0, 1) := by decide +kernel
theorem dX8_wage_41 : decode cX8_wage 41 = .ok (.getfield 21, 3) := by decide +kernel
theorem dX8_wage_44 : decode cX8_wage 44 = .ok (.iload_n 1, 1) := by decide +kernel
theorem dX8_wage_45 : decode cX8_wage 45 = .ok (.putfield 144, 3) := by decide +kernel
theorem dX8_wage_48 : decode cX8_wage 48 = .ok (.iload_n 2, 1) := by decide +kernel
theorem dX8_wage_49 : decode cX8_wage 49 = .ok (.ireturn, 1) := by decide +kernel
theorem dX8_type_0 : decode cX8_type 0 = .ok (.aload_n 0, 1) := by decide +kernel
theorem dX8_type_1 : decode cX8_type 1 = .ok (.getfield 45, 3) := by decide +kernel
theorem dX8_type_4 : decode cX8_type 4 = .ok (.iload_n 1, 1) := by decide +kernel
theorem dX8_type_5 : decode cX8_type 5 = .ok (.invokevirtual 147, 3) := by decide +kernel
theorem dX8_type_8 : decode cX8_type 8 = .ok (.ireturn, 1) := by decide +kernel
theorem dX8_clearText_0 : decode cX8_clearText 0 = .ok (.aload_n 0, 1) := by decide +kernel
theorem dX8_clearText_1 : decode cX8_clearText 1 = .ok (.getfield 45, 3) := by decide +kernel
theorem dX8_clearText_4 : decode cX8_clearText 4 = .ok (.getfield 151, 3) := by decide +kernel
theorem dX8_clearText_7 : decode cX8_clearText 7 = .ok (.istore_n 1, 1) := by decide +kernel
theorem dX8_clearText_8 : decode cX8_clearText 8 = .ok (.aload_n 0, 1) := by decide +kernel
theorem dX8_clearText_9 : decode cX8_clearText 9 = .ok (.getfield 45, 3) := by decide +kernel
theorem dX8_clearText_12 : decode cX8_clearText 12 = .ok (.iconst 0, 1) := by decide +kernel
theorem dX8_clearText_13 : decode cX8_clearText 13 = .ok (.putfield 151, 3) := by decide +kernel
theorem dX8_clearText_16 : decode cX8_clearText 16 = .ok (.iload_n 1, 1) := by decide +kernel
theorem dX8_clearText_17 : decode cX8_clearText 17 = .ok (.ireturn, 1) := by decide +kernel
theorem dX8_fault_0 : decode cX8_fault 0 = .ok (.aload_n 0, 1) := by decide +kernel
theorem dX8_fault_1 : decode cX8_fault 1 = .ok (.getfield 45, 3) := by decide +kernel
theorem dX8_fault_4 : decode cX8_fault 4 = .ok (.invokevirtual 98, 3) := by decide +kernel
theorem dX8_fault_7 : decode cX8_fault 7 = .ok (.ireturn, 1) := by decide +kernel
theorem dX8_undo_0 : decode cX8_undo 0 = .ok (.aload_n 0, 1) := by decide +kernel
theorem dX8_undo_1 : decode cX8_undo 1 = .ok (.getfield 38, 3) := by decide +kernel
theorem dX8_undo_4 : decode cX8_undo 4 = .ok (.aload_n 0, 1) := by decide +kernel
theorem dX8_undo_5 : decode cX8_undo 5 = .ok (.getfield 21, 3) := by decide +kernel
theorem dX8_undo_8 : decode cX8_undo 8 = .ok (.invokevirtual 154, 3) := by decide +kernel
theorem dX8_undo_11 : decode cX8_undo 11 = .ok (.ireturn, 1) := by decide +kernel
theorem dX8_keep_0 : decode cX8_keep 0 = .ok (.aload_n 0, 1) := by decide +kernel
theorem dX8_keep_1 : decode cX8_keep 1 = .ok (.getfield 28, 3) := by decide +kernel
theorem dX8_keep_4 : decode cX8_keep 4 = .ok (.aload_n 0, 1) := by decide +kernel
theorem dX8_keep_5 : decode cX8_keep 5 = .ok (.getfield 21, 3) := by decide +kernel
theorem dX8_keep_8 : decode cX8_keep 8 = .ok (.invokevirtual 101, 3) := by decide +kernel
theorem dX8_keep_11 : decode cX8_keep 11 = .ok (.aload_n 0, 1) := by decide +kernel
theorem dX8_keep_12 : decode cX8_keep 12 = .ok (.iconst 1, 1) := by decide +kernel
theorem dX8_keep_13 : decode cX8_keep 13 = .ok (.putfield 31, 3) := by decide +kernel
theorem dX8_keep_16 : decode cX8_keep 16 = .ok (.aload_n 0, 1) := by decide +kernel
theorem dX8_keep_17 : decode cX8_keep 17 = .ok (.getfield 21, 3) := by decide +kernel
theorem dX8_keep_20 : decode cX8_keep 20 = .ok (.getfield 77, 3) := by decide +kernel
theorem dX8_keep_23 : decode cX8_keep 23 = .ok (.ireturn, 1) := by decide +kernel
theorem dX8_restore_0 : decode cX8_restore 0 = .ok (.aload_n 0, 1) := by decide +kernel
theorem dX8_restore_1 : decode cX8_restore 1 = .ok (.getfield 31, 3) := by decide +kernel
theorem dX8_restore_4 : decode cX8_restore 4 = .ok (.ifCond .ne 6, 3) := by decide +kernel
theorem dX8_restore_7 : decode cX8_restore 7 = .ok (.bipush (-5), 2) := by decide +kernel
theorem dX8_restore_9 : decode cX8_restore 9 = .ok (.ireturn, 1) := by decide +kernel
theorem dX8_restore_10 : decode cX8_restore 10 = .ok (.aload_n 0, 1) := by decide +kernel
theorem dX8_restore_11 : decode cX8_restore 11 = .ok (.getfield 38, 3) := by decide +kernel
theorem dX8_restore_14 : decode cX8_restore 14 = .ok (.aload_n 0, 1) := by decide +kernel
theorem dX8_restore_15 : decode cX8_restore 15 = .ok (.getfield 21, 3) := by decide +kernel
theorem dX8_restore_18 : decode cX8_restore 18 = .ok (.invokevirtual 53, 3) := by decide +kernel
theorem dX8_restore_21 : decode cX8_restore 21 = .ok (.aload_n 0, 1) := by decide +kernel
theorem dX8_restore_22 : decode cX8_restore 22 = .ok (.getfield 21, 3) := by decide +kernel
theorem dX8_restore_25 : decode cX8_restore 25 = .ok (.aload_n 0, 1) := by decide +kernel
theorem dX8_restore_26 : decode cX8_restore 26 = .ok (.getfield 28, 3) := by decide +kernel
theorem dX8_restore_29 : decode cX8_restore 29 = .ok (.invokevirtual 101, 3) := by decide +kernel
theorem dX8_restore_32 : decode cX8_restore 32 = .ok (.aload_n 0, 1) := by decide +kernel
theorem dX8_restore_33 : decode cX8_restore 33 = .ok (.getfield 21, 3) := by decide +kernel
theorem dX8_restore_36 : decode cX8_restore 36 = .ok (.getfield 77, 3) := by decide +kernel
theorem dX8_restore_39 : decode cX8_restore 39 = .ok (.ireturn, 1) := by decide +kernel
theorem dX8_cellOf_0 : decode cX8_cellOf 0 = .ok (.iload_n 1, 1) := by decide +kernel
theorem dX8_cellOf_1 : decode cX8_cellOf 1 = .ok (.invokestatic 158, 3) := by decide +kernel
theorem dX8_cellOf_4 : decode cX8_cellOf 4 = .ok (.ifCond .ne 5, 3) := by decide +kernel
theorem dX8_cellOf_7 : decode cX8_cellOf 7 = .ok (.iconst (-1), 1) := by decide +kernel
theorem dX8_cellOf_8 : decode cX8_cellOf 8 = .ok (.ireturn, 1) := by decide +kernel
theorem dX8_cellOf_9 : decode cX8_cellOf 9 = .ok (.iload_n 2, 1) := by decide +kernel
theorem dX8_cellOf_10 : decode cX8_cellOf 10 = .ok (.tableswitch 83 0 3 #[30, 47, 56, 73], 30) := by decide +kernel
theorem dX8_cellOf_40 : decode cX8_cellOf 40 = .ok (.aload_n 0, 1) := by decide +kernel
theorem dX8_cellOf_41 : decode cX8_cellOf 41 = .ok (.getfield 21, 3) := by decide +kernel
theorem dX8_cellOf_44 : decode cX8_cellOf 44 = .ok (.iload_n 1, 1) := by decide +kernel
theorem dX8_cellOf_45 : decode cX8_cellOf 45 = .ok (.invokevirtual 161, 3) := by decide +kernel
theorem dX8_cellOf_48 : decode cX8_cellOf 48 = .ok (.ifCond .eq 7, 3) := by decide +kernel
theorem dX8_cellOf_51 : decode cX8_cellOf 51 = .ok (.iconst 1, 1) := by decide +kernel
theorem dX8_cellOf_52 : decode cX8_cellOf 52 = .ok (.goto 4, 3) := by decide +kernel
theorem dX8_cellOf_55 : decode cX8_cellOf 55 = .ok (.iconst 0, 1) := by decide +kernel
theorem dX8_cellOf_56 : decode cX8_cellOf 56 = .ok (.ireturn, 1) := by decide +kernel
theorem dX8_cellOf_57 : decode cX8_cellOf 57 = .ok (.aload_n 0, 1) := by decide +kernel
theorem dX8_cellOf_58 : decode cX8_cellOf 58 = .ok (.getfield 21, 3) := by decide +kernel
theorem dX8_cellOf_61 : decode cX8_cellOf 61 = .ok (.iload_n 1, 1) := by decide +kernel
theorem dX8_cellOf_62 : decode cX8_cellOf 62 = .ok (.invokevirtual 164, 3) := by decide +kernel
theorem dX8_cellOf_65 : decode cX8_cellOf 65 = .ok (.ireturn, 1) := by decide +kernel
theorem dX8_cellOf_66 : decode cX8_cellOf 66 = .ok (.aload_n 0, 1) := by decide +kernel
theorem dX8_cellOf_67 : decode cX8_cellOf 67 = .ok (.getfield 21, 3) := by decide +kernel
theorem dX8_cellOf_70 : decode cX8_cellOf 70 = .ok (.iload_n 1, 1) := by decide +kernel
theorem dX8_cellOf_71 : decode cX8_cellOf 71 = .ok (.aload_n 0, 1) := by decide +kernel
theorem dX8_cellOf_72 : decode cX8_cellOf 72 = .ok (.getfield 21, 3) := by decide +kernel
theorem dX8_cellOf_75 : decode cX8_cellOf 75 = .ok (.getfield 77, 3) := by decide +kernel
theorem dX8_cellOf_78 : decode cX8_cellOf 78 = .ok (.iconst 0, 1) := by decide +kernel
theorem dX8_cellOf_79 : decode cX8_cellOf 79 = .ok (.invokevirtual 167, 3) := by decide +kernel
theorem dX8_cellOf_82 : decode cX8_cellOf 82 = .ok (.ireturn, 1) := by decide +kernel
theorem dX8_cellOf_83 : decode cX8_cellOf 83 = .ok (.aload_n 0, 1) := by decide +kernel
theorem dX8_cellOf_84 : decode cX8_cellOf 84 = .ok (.getfield 10, 3) := by decide +kernel
theorem dX8_cellOf_87 : decode cX8_cellOf 87 = .ok (.getfield 170, 3) := by decide +kernel
theorem dX8_cellOf_90 : decode cX8_cellOf 90 = .ok (.iload_n 1, 1) := by decide +kernel
theorem dX8_cellOf_91 : decode cX8_cellOf 91 = .ok (.iaload, 1) := by decide +kernel
theorem dX8_cellOf_92 : decode cX8_cellOf 92 = .ok (.ireturn, 1) := by decide +kernel
theorem dX8_cellOf_93 : decode cX8_cellOf 93 = .ok (.bipush (-2), 2) := by decide +kernel
theorem dX8_cellOf_95 : decode cX8_cellOf 95 = .ok (.ireturn, 1) := by decide +kernel
theorem dX8_lightOf_0 : decode cX8_lightOf 0 = .ok (.iload_n 1, 1) := by decide +kernel
theorem dX8_lightOf_1 : decode cX8_lightOf 1 = .ok (.invokestatic 65, 3) := by decide +kernel
theorem dX8_lightOf_4 : decode cX8_lightOf 4 = .ok (.ifCond .ne 5, 3) := by decide +kernel
theorem dX8_lightOf_7 : decode cX8_lightOf 7 = .ok (.iconst (-1), 1) := by decide +kernel
theorem dX8_lightOf_8 : decode cX8_lightOf 8 = .ok (.ireturn, 1) := by decide +kernel
theorem dX8_lightOf_9 : decode cX8_lightOf 9 = .ok (.aload_n 0, 1) := by decide +kernel
theorem dX8_lightOf_10 : decode cX8_lightOf 10 = .ok (.getfield 21, 3) := by decide +kernel
theorem dX8_lightOf_13 : decode cX8_lightOf 13 = .ok (.getfield 73, 3) := by decide +kernel
theorem dX8_lightOf_16 : decode cX8_lightOf 16 = .ok (.iload_n 1, 1) := by decide +kernel
theorem dX8_lightOf_17 : decode cX8_lightOf 17 = .ok (.aaload, 1) := by decide +kernel
theorem dX8_lightOf_18 : decode cX8_lightOf 18 = .ok (.iload_n 2, 1) := by decide +kernel
theorem dX8_lightOf_19 : decode cX8_lightOf 19 = .ok (.aload_n 0, 1) := by decide +kernel
theorem dX8_lightOf_20 : decode cX8_lightOf 20 = .ok (.getfield 21, 3) := by decide +kernel
theorem dX8_lightOf_23 : decode cX8_lightOf 23 = .ok (.getfield 77, 3) := by decide +kernel
theorem dX8_lightOf_26 : decode cX8_lightOf 26 = .ok (.invokevirtual 81, 3) := by decide +kernel
theorem dX8_lightOf_29 : decode cX8_lightOf 29 = .ok (.ireturn, 1) := by decide +kernel
theorem dX8_keeperOf_0 : decode cX8_keeperOf 0 = .ok (.iload_n 1, 1) := by decide +kernel
theorem dX8_keeperOf_1 : decode cX8_keeperOf 1 = .ok (.invokestatic 65, 3) := by decide +kernel
theorem dX8_keeperOf_4 : decode cX8_keeperOf 4 = .ok (.ifCond .ne 5, 3) := by decide +kernel
theorem dX8_keeperOf_7 : decode cX8_keeperOf 7 = .ok (.iconst (-1), 1) := by decide +kernel
theorem dX8_keeperOf_8 : decode cX8_keeperOf 8 = .ok (.ireturn, 1) := by decide +kernel
theorem dX8_keeperOf_9 : decode cX8_keeperOf 9 = .ok (.aload_n 0, 1) := by decide +kernel
theorem dX8_keeperOf_10 : decode cX8_keeperOf 10 = .ok (.getfield 21, 3) := by decide +kernel
theorem dX8_keeperOf_13 : decode cX8_keeperOf 13 = .ok (.getfield 123, 3) := by decide +kernel
theorem dX8_keeperOf_16 : decode cX8_keeperOf 16 = .ok (.iload_n 1, 1) := by decide +kernel
theorem dX8_keeperOf_17 : decode cX8_keeperOf 17 = .ok (.aaload, 1) := by decide +kernel
theorem dX8_keeperOf_18 : decode cX8_keeperOf 18 = .ok (.iload_n 2, 1) := by decide +kernel
theorem dX8_keeperOf_19 : decode cX8_keeperOf 19 = .ok (.invokevirtual 174, 3) := by decide +kernel
theorem dX8_keeperOf_22 : decode cX8_keeperOf 22 = .ok (.ireturn, 1) := by decide +kernel
theorem dX8_shipOf_0 : decode cX8_shipOf 0 = .ok (.iload_n 1, 1) := by decide +kernel
theorem dX8_shipOf_1 : decode cX8_shipOf 1 = .ok (.invokestatic 176, 3) := by decide +kernel
theorem dX8_shipOf_4 : decode cX8_shipOf 4 = .ok (.ifCond .eq 14, 3) := by decide +kernel
theorem dX8_shipOf_7 : decode cX8_shipOf 7 = .ok (.iload_n 1, 1) := by decide +kernel
theorem dX8_shipOf_8 : decode cX8_shipOf 8 = .ok (.aload_n 0, 1) := by decide +kernel
theorem dX8_shipOf_9 : decode cX8_shipOf 9 = .ok (.getfield 21, 3) := by decide +kernel
theorem dX8_shipOf_12 : decode cX8_shipOf 12 = .ok (.getfield 179, 3) := by decide +kernel
theorem dX8_shipOf_15 : decode cX8_shipOf 15 = .ok (.if_icmp .lt 5, 3) := by decide +kernel
theorem dX8_shipOf_18 : decode cX8_shipOf 18 = .ok (.iconst (-1), 1) := by decide +kernel
theorem dX8_shipOf_19 : decode cX8_shipOf 19 = .ok (.ireturn, 1) := by decide +kernel
theorem dX8_shipOf_20 : decode cX8_shipOf 20 = .ok (.iload_n 2, 1) := by decide +kernel
theorem dX8_shipOf_21 : decode cX8_shipOf 21 = .ok (.bipush 6, 2) := by decide +kernel
theorem dX8_shipOf_23 : decode cX8_shipOf 23 = .ok (.if_icmp .ne 12, 3) := by decide +kernel
theorem dX8_shipOf_26 : decode cX8_shipOf 26 = .ok (.aload_n 0, 1) := by decide +kernel
theorem dX8_shipOf_27 : decode cX8_shipOf 27 = .ok (.getfield 21, 3) := by decide +kernel
theorem dX8_shipOf_30 : decode cX8_shipOf 30 = .ok (.iload_n 1, 1) := by decide +kernel
theorem dX8_shipOf_31 : decode cX8_shipOf 31 = .ok (.invokevirtual 182, 3) := by decide +kernel
theorem dX8_shipOf_34 : decode cX8_shipOf 34 = .ok (.ireturn, 1) := by decide +kernel
theorem dX8_shipOf_35 : decode cX8_shipOf 35 = .ok (.aload_n 0, 1) := by decide +kernel
theorem dX8_shipOf_36 : decode cX8_shipOf 36 = .ok (.getfield 21, 3) := by decide +kernel
theorem dX8_shipOf_39 : decode cX8_shipOf 39 = .ok (.getfield 185, 3) := by decide +kernel
theorem dX8_shipOf_42 : decode cX8_shipOf 42 = .ok (.iload_n 1, 1) := by decide +kernel
theorem dX8_shipOf_43 : decode cX8_shipOf 43 = .ok (.aaload, 1) := by decide +kernel
theorem dX8_shipOf_44 : decode cX8_shipOf 44 = .ok (.iload_n 2, 1) := by decide +kernel
theorem dX8_shipOf_45 : decode cX8_shipOf 45 = .ok (.invokevirtual 189, 3) := by decide +kernel
theorem dX8_shipOf_48 : decode cX8_shipOf 48 = .ok (.ireturn, 1) := by decide +kernel
theorem dX8_isLit_0 : decode cX8_isLit 0 = .ok (.iload_n 1, 1) := by decide +kernel
theorem dX8_isLit_1 : decode cX8_isLit 1 = .ok (.invokestatic 65, 3) := by decide +kernel
theorem dX8_isLit_4 : decode cX8_isLit 4 = .ok (.ifCond .eq 10, 3) := by decide +kernel
theorem dX8_isLit_7 : decode cX8_isLit 7 = .ok (.iload_n 2, 1) := by decide +kernel
theorem dX8_isLit_8 : decode cX8_isLit 8 = .ok (.invokestatic 158, 3) := by decide +kernel
theorem dX8_isLit_11 : decode cX8_isLit 11 = .ok (.ifCond .ne 5, 3) := by decide +kernel
theorem dX8_isLit_14 : decode cX8_isLit 14 = .ok (.iconst (-1), 1) := by decide +kernel
theorem dX8_isLit_15 : decode cX8_isLit 15 = .ok (.ireturn, 1) := by decide +kernel
theorem dX8_isLit_16 : decode cX8_isLit 16 = .ok (.iload_n 3, 1) := by decide +kernel
theorem dX8_isLit_17 : decode cX8_isLit 17 = .ok (.ifCond .lt 21, 3) := by decide +kernel
theorem dX8_isLit_20 : decode cX8_isLit 20 = .ok (.iload_n 3, 1) := by decide +kernel
theorem dX8_isLit_21 : decode cX8_isLit 21 = .ok (.sipush 20000, 3) := by decide +kernel
theorem dX8_isLit_24 : decode cX8_isLit 24 = .ok (.if_icmp .gt 14, 3) := by decide +kernel
theorem dX8_isLit_27 : decode cX8_isLit 27 = .ok (.iload 4, 2) := by decide +kernel
theorem dX8_isLit_29 : decode cX8_isLit 29 = .ok (.ifCond .lt 9, 3) := by decide +kernel
theorem dX8_isLit_32 : decode cX8_isLit 32 = .ok (.iload 4, 2) := by decide +kernel
theorem dX8_isLit_34 : decode cX8_isLit 34 = .ok (.iconst 1, 1) := by decide +kernel
theorem dX8_isLit_35 : decode cX8_isLit 35 = .ok (.if_icmp .le 6, 3) := by decide +kernel
theorem dX8_isLit_38 : decode cX8_isLit 38 = .ok (.bipush (-2), 2) := by decide +kernel
theorem dX8_isLit_40 : decode cX8_isLit 40 = .ok (.ireturn, 1) := by decide +kernel
theorem dX8_isLit_41 : decode cX8_isLit 41 = .ok (.aload_n 0, 1) := by decide +kernel
theorem dX8_isLit_42 : decode cX8_isLit 42 = .ok (.getfield 21, 3) := by decide +kernel
theorem dX8_isLit_45 : decode cX8_isLit 45 = .ok (.getfield 73, 3) := by decide +kernel
theorem dX8_isLit_48 : decode cX8_isLit 48 = .ok (.iload_n 1, 1) := by decide +kernel
theorem dX8_isLit_49 : decode cX8_isLit 49 = .ok (.aaload, 1) := by decide +kernel
theorem dX8_isLit_50 : decode cX8_isLit 50 = .ok (.astore 5, 2) := by decide +kernel
theorem dX8_isLit_52 : decode cX8_isLit 52 = .ok (.iload 4, 2) := by decide +kernel
theorem dX8_isLit_54 : decode cX8_isLit 54 = .ok (.ifCond .ne 14, 3) := by decide +kernel
theorem dX8_isLit_57 : decode cX8_isLit 57 = .ok (.aload 5, 2) := by decide +kernel
theorem dX8_isLit_59 : decode cX8_isLit 59 = .ok (.iload_n 2, 1) := by decide +kernel
theorem dX8_isLit_60 : decode cX8_isLit 60 = .ok (.iload_n 3, 1) := by decide +kernel
theorem dX8_isLit_61 : decode cX8_isLit 61 = .ok (.iconst 0, 1) := by decide +kernel
theorem dX8_isLit_62 : decode cX8_isLit 62 = .ok (.invokevirtual 192, 3) := by decide +kernel
theorem dX8_isLit_65 : decode cX8_isLit 65 = .ok (.goto 10, 3) := by decide +kernel
theorem dX8_isLit_68 : decode cX8_isLit 68 = .ok (.aload 5, 2) := by decide +kernel
theorem dX8_isLit_70 : decode cX8_isLit 70 = .ok (.iload_n 2, 1) := by decide +kernel
theorem dX8_isLit_71 : decode cX8_isLit 71 = .ok (.iload_n 3, 1) := by decide +kernel
theorem dX8_isLit_72 : decode cX8_isLit 72 = .ok (.invokevirtual 196, 3) := by decide +kernel
theorem dX8_isLit_75 : decode cX8_isLit 75 = .ok (.istore 6, 2) := by decide +kernel
theorem dX8_isLit_77 : decode cX8_isLit 77 = .ok (.iload 6, 2) := by decide +kernel
theorem dX8_isLit_79 : decode cX8_isLit 79 = .ok (.ifCond .eq 7, 3) := by decide +kernel
theorem dX8_isLit_82 : decode cX8_isLit 82 = .ok (.iconst 1, 1) := by decide +kernel
theorem dX8_isLit_83 : decode cX8_isLit 83 = .ok (.goto 4, 3) := by decide +kernel
theorem dX8_isLit_86 : decode cX8_isLit 86 = .ok (.iconst 0, 1) := by decide +kernel
theorem dX8_isLit_87 : decode cX8_isLit 87 = .ok (.ireturn, 1) := by decide +kernel
theorem dX8_why_0 : decode cX8_why 0 = .ok (.iload_n 1, 1) := by decide +kernel
theorem dX8_why_1 : decode cX8_why 1 = .ok (.invokestatic 65, 3) := by decide +kernel
theorem dX8_why_4 : decode cX8_why 4 = .ok (.ifCond .eq 10, 3) := by decide +kernel
theorem dX8_why_7 : decode cX8_why 7 = .ok (.iload_n 2, 1) := by decide +kernel
theorem dX8_why_8 : decode cX8_why 8 = .ok (.invokestatic 158, 3) := by decide +kernel
theorem dX8_why_11 : decode cX8_why 11 = .ok (.ifCond .ne 5, 3) := by decide +kernel
theorem dX8_why_14 : decode cX8_why 14 = .ok (.iconst (-1), 1) := by decide +kernel
theorem dX8_why_15 : decode cX8_why 15 = .ok (.ireturn, 1) := by decide +kernel
theorem dX8_why_16 : decode cX8_why 16 = .ok (.aload_n 0, 1) := by decide +kernel
theorem dX8_why_17 : decode cX8_why 17 = .ok (.getfield 21, 3) := by decide +kernel
theorem dX8_why_20 : decode cX8_why 20 = .ok (.getfield 73, 3) := by decide +kernel
theorem dX8_why_23 : decode cX8_why 23 = .ok (.iload_n 1, 1) := by decide +kernel
theorem dX8_why_24 : decode cX8_why 24 = .ok (.aaload, 1) := by decide +kernel
theorem dX8_why_25 : decode cX8_why 25 = .ok (.iload_n 2, 1) := by decide +kernel
theorem dX8_why_26 : decode cX8_why 26 = .ok (.aload_n 0, 1) := by decide +kernel
theorem dX8_why_27 : decode cX8_why 27 = .ok (.getfield 21, 3) := by decide +kernel
theorem dX8_why_30 : decode cX8_why 30 = .ok (.getfield 77, 3) := by decide +kernel
theorem dX8_why_33 : decode cX8_why 33 = .ok (.invokevirtual 199, 3) := by decide +kernel
theorem dX8_why_36 : decode cX8_why 36 = .ok (.ireturn, 1) := by decide +kernel
theorem dX8_count_0 : decode cX8_count 0 = .ok (.iload_n 1, 1) := by decide +kernel
theorem dX8_count_1 : decode cX8_count 1 = .ok (.tableswitch 188 0 13 #[71, 79, 87, 95, 104, 113, 122, 131, 140, 148, 156, 164, 172, 180], 71) := by decide +kernel
theorem dX8_count_72 : decode cX8_count 72 = .ok (.aload_n 0, 1) := by decide +kernel
theorem dX8_count_73 : decode cX8_count 73 = .ok (.getfield 21, 3) := by decide +kernel
theorem dX8_count_76 : decode cX8_count 76 = .ok (.getfield 77, 3) := by decide +kernel
theorem dX8_count_79 : decode cX8_count 79 = .ok (.ireturn, 1) := by decide +kernel
theorem dX8_count_80 : decode cX8_count 80 = .ok (.aload_n 0, 1) := by decide +kernel
theorem dX8_count_81 : decode cX8_count 81 = .ok (.getfield 21, 3) := by decide +kernel
theorem dX8_count_84 : decode cX8_count 84 = .ok (.invokevirtual 61, 3) := by decide +kernel
theorem dX8_count_87 : decode cX8_count 87 = .ok (.ireturn, 1) := by decide +kernel
theorem dX8_count_88 : decode cX8_count 88 = .ok (.aload_n 0, 1) := by decide +kernel
theorem dX8_count_89 : decode cX8_count 89 = .ok (.getfield 21, 3) := by decide +kernel
theorem dX8_count_92 : decode cX8_count 92 = .ok (.getfield 179, 3) := by decide +kernel
theorem dX8_count_95 : decode cX8_count 95 = .ok (.ireturn, 1) := by decide +kernel
theorem dX8_count_96 : decode cX8_count 96 = .ok (.aload_n 0, 1) := by decide +kernel
theorem dX8_count_97 : decode cX8_count 97 = .ok (.getfield 21, 3) := by decide +kernel
theorem dX8_count_100 : decode cX8_count 100 = .ok (.iconst 0, 1) := by decide +kernel
theorem dX8_count_101 : decode cX8_count 101 = .ok (.invokevirtual 202, 3) := by decide +kernel
theorem dX8_count_104 : decode cX8_count 104 = .ok (.ireturn, 1) := by decide +kernel
theorem dX8_count_105 : decode cX8_count 105 = .ok (.aload_n 0, 1) := by decide +kernel
theorem dX8_count_106 : decode cX8_count 106 = .ok (.getfield 21, 3) := by decide +kernel
theorem dX8_count_109 : decode cX8_count 109 = .ok (.iconst 1, 1) := by decide +kernel
theorem dX8_count_110 : decode cX8_count 110 = .ok (.invokevirtual 202, 3) := by decide +kernel
theorem dX8_count_113 : decode cX8_count 113 = .ok (.ireturn, 1) := by decide +kernel
theorem dX8_count_114 : decode cX8_count 114 = .ok (.aload_n 0, 1) := by decide +kernel
theorem dX8_count_115 : decode cX8_count 115 = .ok (.getfield 21, 3) := by decide +kernel
theorem dX8_count_118 : decode cX8_count 118 = .ok (.iconst 2, 1) := by decide +kernel
theorem dX8_count_119 : decode cX8_count 119 = .ok (.invokevirtual 202, 3) := by decide +kernel
theorem dX8_count_122 : decode cX8_count 122 = .ok (.ireturn, 1) := by decide +kernel
theorem dX8_count_123 : decode cX8_count 123 = .ok (.aload_n 0, 1) := by decide +kernel
theorem dX8_count_124 : decode cX8_count 124 = .ok (.getfield 21, 3) := by decide +kernel
theorem dX8_count_127 : decode cX8_count 127 = .ok (.iconst 1, 1) := by decide +kernel
theorem dX8_count_128 : decode cX8_count 128 = .ok (.invokevirtual 205, 3) := by decide +kernel
theorem dX8_count_131 : decode cX8_count 131 = .ok (.ireturn, 1) := by decide +kernel
theorem dX8_count_132 : decode cX8_count 132 = .ok (.aload_n 0, 1) := by decide +kernel
theorem dX8_count_133 : decode cX8_count 133 = .ok (.getfield 21, 3) := by decide +kernel
theorem dX8_count_136 : decode cX8_count 136 = .ok (.iconst 0, 1) := by decide +kernel
theorem dX8_count_137 : decode cX8_count 137 = .ok (.invokevirtual 205, 3) := by decide +kernel
theorem dX8_count_140 : decode cX8_count 140 = .ok (.ireturn, 1) := by decide +kernel
theorem dX8_count_141 : decode cX8_count 141 = .ok (.aload_n 0, 1) := by decide +kernel
theorem dX8_count_142 : decode cX8_count 142 = .ok (.getfield 21, 3) := by decide +kernel
theorem dX8_count_145 : decode cX8_count 145 = .ok (.invokevirtual 209, 3) := by decide +kernel
theorem dX8_count_148 : decode cX8_count 148 = .ok (.ireturn, 1) := by decide +kernel
theorem dX8_count_149 : decode cX8_count 149 = .ok (.aload_n 0, 1) := by decide +kernel
theorem dX8_count_150 : decode cX8_count 150 = .ok (.getfield 21, 3) := by decide +kernel
theorem dX8_count_153 : decode cX8_count 153 = .ok (.invokevirtual 212, 3) := by decide +kernel
theorem dX8_count_156 : decode cX8_count 156 = .ok (.ireturn, 1) := by decide +kernel
theorem dX8_count_157 : decode cX8_count 157 = .ok (.aload_n 0, 1) := by decide +kernel
theorem dX8_count_158 : decode cX8_count 158 = .ok (.getfield 21, 3) := by decide +kernel
theorem dX8_count_161 : decode cX8_count 161 = .ok (.invokevirtual 215, 3) := by decide +kernel
theorem dX8_count_164 : decode cX8_count 164 = .ok (.ireturn, 1) := by decide +kernel
theorem dX8_count_165 : decode cX8_count 165 = .ok (.aload_n 0, 1) := by decide +kernel
theorem dX8_count_166 : decode cX8_count 166 = .ok (.getfield 38, 3) := by decide +kernel
theorem dX8_count_169 : decode cX8_count 169 = .ok (.getfield 218, 3) := by decide +kernel
theorem dX8_count_172 : decode cX8_count 172 = .ok (.ireturn, 1) := by decide +kernel
theorem dX8_count_173 : decode cX8_count 173 = .ok (.aload_n 0, 1) := by decide +kernel
theorem dX8_count_174 : decode cX8_count 174 = .ok (.getfield 45, 3) := by decide +kernel
theorem dX8_count_177 : decode cX8_count 177 = .ok (.getfield 151, 3) := by decide +kernel
theorem dX8_count_180 : decode cX8_count 180 = .ok (.ireturn, 1) := by decide +kernel
theorem dX8_count_181 : decode cX8_count 181 = .ok (.aload_n 0, 1) := by decide +kernel
theorem dX8_count_182 : decode cX8_count 182 = .ok (.getfield 21, 3) := by decide +kernel
theorem dX8_count_185 : decode cX8_count 185 = .ok (.getfield 144, 3) := by decide +kernel
theorem dX8_count_188 : decode cX8_count 188 = .ok (.ireturn, 1) := by decide +kernel
theorem dX8_count_189 : decode cX8_count 189 = .ok (.bipush (-2), 2) := by decide +kernel
theorem dX8_count_191 : decode cX8_count 191 = .ok (.ireturn, 1) := by decide +kernel
theorem dX8_share_0 : decode cX8_share 0 = .ok (.iload_n 1, 1) := by decide +kernel
theorem dX8_share_1 : decode cX8_share 1 = .ok (.invokestatic 158, 3) := by decide +kernel
theorem dX8_share_4 : decode cX8_share 4 = .ok (.ifCond .ne 6, 3) := by decide +kernel
theorem dX8_share_7 : decode cX8_share 7 = .ok (.ldc 221, 2) := by decide +kernel
theorem dX8_share_9 : decode cX8_share 9 = .ok (.freturn, 1) := by decide +kernel
theorem dX8_share_10 : decode cX8_share 10 = .ok (.iconst 0, 1) := by decide +kernel
theorem dX8_share_11 : decode cX8_share 11 = .ok (.istore_n 2, 1) := by decide +kernel
theorem dX8_share_12 : decode cX8_share 12 = .ok (.iconst 0, 1) := by decide +kernel
theorem dX8_share_13 : decode cX8_share 13 = .ok (.istore_n 3, 1) := by decide +kernel
theorem dX8_share_14 : decode cX8_share 14 = .ok (.iload_n 3, 1) := by decide +kernel
theorem dX8_share_15 : decode cX8_share 15 = .ok (.bipush 8, 2) := by decide +kernel
theorem dX8_share_17 : decode cX8_share 17 = .ok (.if_icmp .ge 33, 3) := by decide +kernel
theorem dX8_share_20 : decode cX8_share 20 = .ok (.aload_n 0, 1) := by decide +kernel
theorem dX8_share_21 : decode cX8_share 21 = .ok (.getfield 21, 3) := by decide +kernel
theorem dX8_share_24 : decode cX8_share 24 = .ok (.iload_n 1, 1) := by decide +kernel
theorem dX8_share_25 : decode cX8_share 25 = .ok (.aload_n 0, 1) := by decide +kernel
theorem dX8_share_26 : decode cX8_share 26 = .ok (.getfield 21, 3) := by decide +kernel
theorem dX8_share_29 : decode cX8_share 29 = .ok (.getfield 77, 3) := by decide +kernel
theorem dX8_share_32 : decode cX8_share 32 = .ok (.iload_n 3, 1) := by decide +kernel
theorem dX8_share_33 : decode cX8_share 33 = .ok (.iadd, 1) := by decide +kernel
theorem dX8_share_34 : decode cX8_share 34 = .ok (.iconst 0, 1) := by decide +kernel
theorem dX8_share_35 : decode cX8_share 35 = .ok (.invokevirtual 167, 3) := by decide +kernel
theorem dX8_share_38 : decode cX8_share 38 = .ok (.ifCond .eq 6, 3) := by decide +kernel
theorem dX8_share_41 : decode cX8_share 41 = .ok (.iinc 2 1, 3) := by decide +kernel
theorem dX8_share_44 : decode cX8_share 44 = .ok (.iinc 3 1, 3) := by decide +kernel
theorem dX8_share_47 : decode cX8_share 47 = .ok (.goto (-33), 3) := by decide +kernel
theorem dX8_share_50 : decode cX8_share 50 = .ok (.iload_n 2, 1) := by decide +kernel
theorem dX8_share_51 : decode cX8_share 51 = .ok (.i2f, 1) := by decide +kernel
theorem dX8_share_52 : decode cX8_share 52 = .ok (.ldc 222, 2) := by decide +kernel
theorem dX8_share_54 : decode cX8_share 54 = .ok (.fdiv, 1) := by decide +kernel
theorem dX8_share_55 : decode cX8_share 55 = .ok (.freturn, 1) := by decide +kernel
theorem dX8_litIn_0 : decode cX8_litIn 0 = .ok (.iload_n 1, 1) := by decide +kernel
theorem dX8_litIn_1 : decode cX8_litIn 1 = .ok (.invokestatic 158, 3) := by decide +kernel
theorem dX8_litIn_4 : decode cX8_litIn 4 = .ok (.ifCond .ne 5, 3) := by decide +kernel
theorem dX8_litIn_7 : decode cX8_litIn 7 = .ok (.iconst (-1), 1) := by decide +kernel
theorem dX8_litIn_8 : decode cX8_litIn 8 = .ok (.ireturn, 1) := by decide +kernel
theorem dX8_litIn_9 : decode cX8_litIn 9 = .ok (.iconst 0, 1) := by decide +kernel
theorem dX8_litIn_10 : decode cX8_litIn 10 = .ok (.istore_n 2, 1) := by decide +kernel
theorem dX8_litIn_11 : decode cX8_litIn 11 = .ok (.iload_n 2, 1) := by decide +kernel
theorem dX8_litIn_12 : decode cX8_litIn 12 = .ok (.bipush 40, 2) := by decide +kernel
theorem dX8_litIn_14 : decode cX8_litIn 14 = .ok (.if_icmp .gt 32, 3) := by decide +kernel
theorem dX8_litIn_17 : decode cX8_litIn 17 = .ok (.aload_n 0, 1) := by decide +kernel
theorem dX8_litIn_18 : decode cX8_litIn 18 = .ok (.getfield 21, 3) := by decide +kernel
theorem dX8_litIn_21 : decode cX8_litIn 21 = .ok (.iload_n 1, 1) := by decide +kernel
theorem dX8_litIn_22 : decode cX8_litIn 22 = .ok (.aload_n 0, 1) := by decide +kernel
theorem dX8_litIn_23 : decode cX8_litIn 23 = .ok (.getfield 21, 3) := by decide +kernel
theorem dX8_litIn_26 : decode cX8_litIn 26 = .ok (.getfield 77, 3) := by decide +kernel
theorem dX8_litIn_29 : decode cX8_litIn 29 = .ok (.iload_n 2, 1) := by decide +kernel
theorem dX8_litIn_30 : decode cX8_litIn 30 = .ok (.iadd, 1) := by decide +kernel
theorem dX8_litIn_31 : decode cX8_litIn 31 = .ok (.iload_n 2, 1) := by decide +kernel
theorem dX8_litIn_32 : decode cX8_litIn 32 = .ok (.invokevirtual 167, 3) := by decide +kernel
theorem dX8_litIn_35 : decode cX8_litIn 35 = .ok (.ifCond .eq 5, 3) := by decide +kernel
theorem dX8_litIn_38 : decode cX8_litIn 38 = .ok (.iload_n 2, 1) := by decide +kernel
theorem dX8_litIn_39 : decode cX8_litIn 39 = .ok (.ireturn, 1) := by decide +kernel
theorem dX8_litIn_40 : decode cX8_litIn 40 = .ok (.iinc 2 1, 3) := by decide +kernel
theorem dX8_litIn_43 : decode cX8_litIn 43 = .ok (.goto (-32), 3) := by decide +kernel
theorem dX8_litIn_46 : decode cX8_litIn 46 = .ok (.bipush (-5), 2) := by decide +kernel
theorem dX8_litIn_48 : decode cX8_litIn 48 = .ok (.ireturn, 1) := by decide +kernel
theorem dX8_ifPassed_0 : decode cX8_ifPassed 0 = .ok (.iload_n 1, 1) := by decide +kernel
theorem dX8_ifPassed_1 : decode cX8_ifPassed 1 = .ok (.iconst 1, 1) := by decide +kernel
theorem dX8_ifPassed_2 : decode cX8_ifPassed 2 = .ok (.if_icmp .lt 9, 3) := by decide +kernel
theorem dX8_ifPassed_5 : decode cX8_ifPassed 5 = .ok (.iload_n 1, 1) := by decide +kernel
theorem dX8_ifPassed_6 : decode cX8_ifPassed 6 = .ok (.bipush 40, 2) := by decide +kernel
theorem dX8_ifPassed_8 : decode cX8_ifPassed 8 = .ok (.if_icmp .le 6, 3) := by decide +kernel
theorem dX8_ifPassed_11 : decode cX8_ifPassed 11 = .ok (.bipush (-2), 2) := by decide +kernel
theorem dX8_ifPassed_13 : decode cX8_ifPassed 13 = .ok (.ireturn, 1) := by decide +kernel
theorem dX8_ifPassed_14 : decode cX8_ifPassed 14 = .ok (.aload_n 0, 1) := by decide +kernel
theorem dX8_ifPassed_15 : decode cX8_ifPassed 15 = .ok (.getfield 25, 3) := by decide +kernel
theorem dX8_ifPassed_18 : decode cX8_ifPassed 18 = .ok (.aload_n 0, 1) := by decide +kernel
theorem dX8_ifPassed_19 : decode cX8_ifPassed 19 = .ok (.getfield 21, 3) := by decide +kernel
theorem dX8_ifPassed_22 : decode cX8_ifPassed 22 = .ok (.invokevirtual 101, 3) := by decide +kernel
theorem dX8_ifPassed_25 : decode cX8_ifPassed 25 = .ok (.aload_n 0, 1) := by decide +kernel
theorem dX8_ifPassed_26 : decode cX8_ifPassed 26 = .ok (.getfield 25, 3) := by decide +kernel
theorem dX8_ifPassed_29 : decode cX8_ifPassed 29 = .ok (.iload_n 1, 1) := by decide +kernel
theorem dX8_ifPassed_30 : decode cX8_ifPassed 30 = .ok (.invokevirtual 141, 3) := by decide +kernel
theorem dX8_ifPassed_33 : decode cX8_ifPassed 33 = .ok (.pop, 1) := by decide +kernel
theorem dX8_ifPassed_34 : decode cX8_ifPassed 34 = .ok (.iconst 0, 1) := by decide +kernel
theorem dX8_ifPassed_35 : decode cX8_ifPassed 35 = .ok (.istore_n 2, 1) := by decide +kernel
theorem dX8_ifPassed_36 : decode cX8_ifPassed 36 = .ok (.iconst 0, 1) := by decide +kernel
theorem dX8_ifPassed_37 : decode cX8_ifPassed 37 = .ok (.istore_n 3, 1) := by decide +kernel
theorem dX8_ifPassed_38 : decode cX8_ifPassed 38 = .ok (.iload_n 3, 1) := by decide +kernel
theorem dX8_ifPassed_39 : decode cX8_ifPassed 39 = .ok (.bipush 8, 2) := by decide +kernel
theorem dX8_ifPassed_41 : decode cX8_ifPassed 41 = .ok (.if_icmp .ge 23, 3) := by decide +kernel
theorem dX8_ifPassed_44 : decode cX8_ifPassed 44 = .ok (.aload_n 0, 1) := by decide +kernel
theorem dX8_ifPassed_45 : decode cX8_ifPassed 45 = .ok (.iload_n 3, 1) := by decide +kernel
theorem dX8_ifPassed_46 : decode cX8_ifPassed 46 = .ok (.invokevirtual 223, 3) := by decide +kernel
theorem dX8_ifPassed_49 : decode cX8_ifPassed 49 = .ok (.ifCond .eq 9, 3) := by decide +kernel
theorem dX8_ifPassed_52 : decode cX8_ifPassed 52 = .ok (.iload_n 2, 1) := by decide +kernel
theorem dX8_ifPassed_53 : decode cX8_ifPassed 53 = .ok (.iconst 1, 1) := by decide +kernel
theorem dX8_ifPassed_54 : decode cX8_ifPassed 54 = .ok (.iload_n 3, 1) := by decide +kernel
theorem dX8_ifPassed_55 : decode cX8_ifPassed 55 = .ok (.ishl, 1) := by decide +kernel
theorem dX8_ifPassed_56 : decode cX8_ifPassed 56 = .ok (.ior, 1) := by decide +kernel
theorem dX8_ifPassed_57 : decode cX8_ifPassed 57 = .ok (.istore_n 2, 1) := by decide +kernel
theorem dX8_ifPassed_58 : decode cX8_ifPassed 58 = .ok (.iinc 3 1, 3) := by decide +kernel
theorem dX8_ifPassed_61 : decode cX8_ifPassed 61 = .ok (.goto (-23), 3) := by decide +kernel
theorem dX8_ifPassed_64 : decode cX8_ifPassed 64 = .ok (.iload_n 2, 1) := by decide +kernel
theorem dX8_ifPassed_65 : decode cX8_ifPassed 65 = .ok (.ireturn, 1) := by decide +kernel
theorem dX8_bestCard_0 : decode cX8_bestCard 0 = .ok (.iload_n 1, 1) := by decide +kernel
theorem dX8_bestCard_1 : decode cX8_bestCard 1 = .ok (.invokestatic 65, 3) := by decide +kernel
theorem dX8_bestCard_4 : decode cX8_bestCard 4 = .ok (.ifCond .ne 5, 3) := by decide +kernel
theorem dX8_bestCard_7 : decode cX8_bestCard 7 = .ok (.iconst (-1), 1) := by decide +kernel
theorem dX8_bestCard_8 : decode cX8_bestCard 8 = .ok (.ireturn, 1) := by decide +kernel
theorem dX8_bestCard_9 : decode cX8_bestCard 9 = .ok (.bipush (-5), 2) := by decide +kernel
theorem dX8_bestCard_11 : decode cX8_bestCard 11 = .ok (.istore_n 2, 1) := by decide +kernel
theorem dX8_bestCard_12 : decode cX8_bestCard 12 = .ok (.aload_n 0, 1) := by decide +kernel
theorem dX8_bestCard_13 : decode cX8_bestCard 13 = .ok (.getfield 25, 3) := by decide +kernel
theorem dX8_bestCard_16 : decode cX8_bestCard 16 = .ok (.aload_n 0, 1) := by decide +kernel
theorem dX8_bestCard_17 : decode cX8_bestCard 17 = .ok (.getfield 21, 3) := by decide +kernel
theorem dX8_bestCard_20 : decode cX8_bestCard 20 = .ok (.invokevirtual 101, 3) := by decide +kernel
theorem dX8_bestCard_23 : decode cX8_bestCard 23 = .ok (.aload_n 0, 1) := by decide +kernel
theorem dX8_bestCard_24 : decode cX8_bestCard 24 = .ok (.invokevirtual 226, 3) := by decide +kernel
theorem dX8_bestCard_27 : decode cX8_bestCard 27 = .ok (.istore_n 3, 1) := by decide +kernel
theorem dX8_bestCard_28 : decode cX8_bestCard 28 = .ok (.iconst 0, 1) := by decide +kernel
theorem dX8_bestCard_29 : decode cX8_bestCard 29 = .ok (.istore 4, 2) := by decide +kernel
theorem dX8_bestCard_31 : decode cX8_bestCard 31 = .ok (.iload 4, 2) := by decide +kernel
theorem dX8_bestCard_33 : decode cX8_bestCard 33 = .ok (.iconst 4, 1) := by decide +kernel
theorem dX8_bestCard_34 : decode cX8_bestCard 34 = .ok (.if_icmp .ge 67, 3) := by decide +kernel
theorem dX8_bestCard_37 : decode cX8_bestCard 37 = .ok (.aload_n 0, 1) := by decide +kernel
theorem dX8_bestCard_38 : decode cX8_bestCard 38 = .ok (.getfield 21, 3) := by decide +kernel
theorem dX8_bestCard_41 : decode cX8_bestCard 41 = .ok (.iload_n 1, 1) := by decide +kernel
theorem dX8_bestCard_42 : decode cX8_bestCard 42 = .ok (.iload 4, 2) := by decide +kernel
theorem dX8_bestCard_44 : decode cX8_bestCard 44 = .ok (.invokevirtual 120, 3) := by decide +kernel
theorem dX8_bestCard_47 : decode cX8_bestCard 47 = .ok (.ifCond .ne 6, 3) := by decide +kernel
theorem dX8_bestCard_50 : decode cX8_bestCard 50 = .ok (.goto 45, 3) := by decide +kernel
theorem dX8_bestCard_53 : decode cX8_bestCard 53 = .ok (.aload_n 0, 1) := by decide +kernel
theorem dX8_bestCard_54 : decode cX8_bestCard 54 = .ok (.getfield 25, 3) := by decide +kernel
theorem dX8_bestCard_57 : decode cX8_bestCard 57 = .ok (.aload_n 0, 1) := by decide +kernel
theorem dX8_bestCard_58 : decode cX8_bestCard 58 = .ok (.getfield 21, 3) := by decide +kernel
theorem dX8_bestCard_61 : decode cX8_bestCard 61 = .ok (.invokevirtual 101, 3) := by decide +kernel
theorem dX8_bestCard_64 : decode cX8_bestCard 64 = .ok (.aload_n 0, 1) := by decide +kernel
theorem dX8_bestCard_65 : decode cX8_bestCard 65 = .ok (.getfield 25, 3) := by decide +kernel
theorem dX8_bestCard_68 : decode cX8_bestCard 68 = .ok (.getfield 73, 3) := by decide +kernel
theorem dX8_bestCard_71 : decode cX8_bestCard 71 = .ok (.iload 4, 2) := by decide +kernel
theorem dX8_bestCard_73 : decode cX8_bestCard 73 = .ok (.aaload, 1) := by decide +kernel
theorem dX8_bestCard_74 : decode cX8_bestCard 74 = .ok (.invokevirtual 132, 3) := by decide +kernel
theorem dX8_bestCard_77 : decode cX8_bestCard 77 = .ok (.aload_n 0, 1) := by decide +kernel
theorem dX8_bestCard_78 : decode cX8_bestCard 78 = .ok (.invokevirtual 226, 3) := by decide +kernel
theorem dX8_bestCard_81 : decode cX8_bestCard 81 = .ok (.istore 5, 2) := by decide +kernel
theorem dX8_bestCard_83 : decode cX8_bestCard 83 = .ok (.iload 5, 2) := by decide +kernel
theorem dX8_bestCard_85 : decode cX8_bestCard 85 = .ok (.iload_n 3, 1) := by decide +kernel
theorem dX8_bestCard_86 : decode cX8_bestCard 86 = .ok (.if_icmp .le 9, 3) := by decide +kernel
theorem dX8_bestCard_89 : decode cX8_bestCard 89 = .ok (.iload 5, 2) := by decide +kernel
theorem dX8_bestCard_91 : decode cX8_bestCard 91 = .ok (.istore_n 3, 1) := by decide +kernel
theorem dX8_bestCard_92 : decode cX8_bestCard 92 = .ok (.iload 4, 2) := by decide +kernel
theorem dX8_bestCard_94 : decode cX8_bestCard 94 = .ok (.istore_n 2, 1) := by decide +kernel
theorem dX8_bestCard_95 : decode cX8_bestCard 95 = .ok (.iinc 4 1, 3) := by decide +kernel
theorem dX8_bestCard_98 : decode cX8_bestCard 98 = .ok (.goto (-67), 3) := by decide +kernel
theorem dX8_bestCard_101 : decode cX8_bestCard 101 = .ok (.iload_n 2, 1) := by decide +kernel
theorem dX8_bestCard_102 : decode cX8_bestCard 102 = .ok (.ireturn, 1) := by decide +kernel
theorem dX8_worthWreckedInTrial_0 : decode cX8_worthWreckedInTrial 0 = .ok (.aload_n 0, 1) := by decide +kernel
theorem dX8_worthWreckedInTrial_1 : decode cX8_worthWreckedInTrial 1 = .ok (.getfield 25, 3) := by decide +kernel
theorem dX8_worthWreckedInTrial_4 : decode cX8_worthWreckedInTrial 4 = .ok (.bipush 10, 2) := by decide +kernel
theorem dX8_worthWreckedInTrial_6 : decode cX8_worthWreckedInTrial 6 = .ok (.invokevirtual 141, 3) := by decide +kernel
theorem dX8_worthWreckedInTrial_9 : decode cX8_worthWreckedInTrial 9 = .ok (.pop, 1) := by decide +kernel
theorem dX8_worthWreckedInTrial_10 : decode cX8_worthWreckedInTrial 10 = .ok (.iconst 0, 1) := by decide +kernel
theorem dX8_worthWreckedInTrial_11 : decode cX8_worthWreckedInTrial 11 = .ok (.istore_n 1, 1) := by decide +kernel
theorem dX8_worthWreckedInTrial_12 : decode cX8_worthWreckedInTrial 12 = .ok (.iconst 0, 1) := by decide +kernel
theorem dX8_worthWreckedInTrial_13 : decode cX8_worthWreckedInTrial 13 = .ok (.istore_n 2, 1) := by decide +kernel
theorem dX8_worthWreckedInTrial_14 : decode cX8_worthWreckedInTrial 14 = .ok (.iload_n 2, 1) := by decide +kernel
theorem dX8_worthWreckedInTrial_15 : decode cX8_worthWreckedInTrial 15 = .ok (.bipush 8, 2) := by decide +kernel
theorem dX8_worthWreckedInTrial_17 : decode cX8_worthWreckedInTrial 17 = .ok (.if_icmp .ge 32, 3) := by decide +kernel
theorem dX8_worthWreckedInTrial_20 : decode cX8_worthWreckedInTrial 20 = .ok (.aload_n 0, 1) := by decide +kernel
theorem dX8_worthWreckedInTrial_21 : decode cX8_worthWreckedInTrial 21 = .ok (.iload_n 2, 1) := by decide +kernel
theorem dX8_worthWreckedInTrial_22 : decode cX8_worthWreckedInTrial 22 = .ok (.invokevirtual 223, 3) := by decide +kernel
theorem dX8_worthWreckedInTrial_25 : decode cX8_worthWreckedInTrial 25 = .ok (.ifCond .eq 18, 3) := by decide +kernel
theorem dX8_worthWreckedInTrial_28 : decode cX8_worthWreckedInTrial 28 = .ok (.iload_n 1, 1) := by decide +kernel
theorem dX8_worthWreckedInTrial_29 : decode cX8_worthWreckedInTrial 29 = .ok (.aload_n 0, 1) := by decide +kernel
theorem dX8_worthWreckedInTrial_30 : decode cX8_worthWreckedInTrial 30 = .ok (.getfield 21, 3) := by decide +kernel
theorem dX8_worthWreckedInTrial_33 : decode cX8_worthWreckedInTrial 33 = .ok (.getfield 185, 3) := by decide +kernel
theorem dX8_worthWreckedInTrial_36 : decode cX8_worthWreckedInTrial 36 = .ok (.iload_n 2, 1) := by decide +kernel
theorem dX8_worthWreckedInTrial_37 : decode cX8_worthWreckedInTrial 37 = .ok (.aaload, 1) := by decide +kernel
theorem dX8_worthWreckedInTrial_38 : decode cX8_worthWreckedInTrial 38 = .ok (.getfield 229, 3) := by decide +kernel
theorem dX8_worthWreckedInTrial_41 : decode cX8_worthWreckedInTrial 41 = .ok (.iadd, 1) := by decide +kernel
theorem dX8_worthWreckedInTrial_42 : decode cX8_worthWreckedInTrial 42 = .ok (.istore_n 1, 1) := by decide +kernel
theorem dX8_worthWreckedInTrial_43 : decode cX8_worthWreckedInTrial 43 = .ok (.iinc 2 1, 3) := by decide +kernel
theorem dX8_worthWreckedInTrial_46 : decode cX8_worthWreckedInTrial 46 = .ok (.goto (-32), 3) := by decide +kernel
theorem dX8_worthWreckedInTrial_49 : decode cX8_worthWreckedInTrial 49 = .ok (.iload_n 1, 1) := by decide +kernel
theorem dX8_worthWreckedInTrial_50 : decode cX8_worthWreckedInTrial 50 = .ok (.ireturn, 1) := by decide +kernel
theorem dX8_isWreckedInTrial_0 : decode cX8_isWreckedInTrial 0 = .ok (.aload_n 0, 1) := by decide +kernel
theorem dX8_isWreckedInTrial_1 : decode cX8_isWreckedInTrial 1 = .ok (.getfield 21, 3) := by decide +kernel
theorem dX8_isWreckedInTrial_4 : decode cX8_isWreckedInTrial 4 = .ok (.getfield 185, 3) := by decide +kernel
theorem dX8_isWreckedInTrial_7 : decode cX8_isWreckedInTrial 7 = .ok (.iload_n 1, 1) := by decide +kernel
theorem dX8_isWreckedInTrial_8 : decode cX8_isWreckedInTrial 8 = .ok (.aaload, 1) := by decide +kernel
theorem dX8_isWreckedInTrial_9 : decode cX8_isWreckedInTrial 9 = .ok (.getfield 232, 3) := by decide +kernel
theorem dX8_isWreckedInTrial_12 : decode cX8_isWreckedInTrial 12 = .ok (.ifCond .ne 23, 3) := by decide +kernel
theorem dX8_isWreckedInTrial_15 : decode cX8_isWreckedInTrial 15 = .ok (.aload_n 0, 1) := by decide +kernel
theorem dX8_isWreckedInTrial_16 : decode cX8_isWreckedInTrial 16 = .ok (.getfield 25, 3) := by decide +kernel
theorem dX8_isWreckedInTrial_19 : decode cX8_isWreckedInTrial 19 = .ok (.getfield 185, 3) := by decide +kernel
theorem dX8_isWreckedInTrial_22 : decode cX8_isWreckedInTrial 22 = .ok (.iload_n 1, 1) := by decide +kernel
theorem dX8_isWreckedInTrial_23 : decode cX8_isWreckedInTrial 23 = .ok (.aaload, 1) := by decide +kernel
theorem dX8_isWreckedInTrial_24 : decode cX8_isWreckedInTrial 24 = .ok (.getfield 232, 3) := by decide +kernel
theorem dX8_isWreckedInTrial_27 : decode cX8_isWreckedInTrial 27 = .ok (.iconst 2, 1) := by decide +kernel
theorem dX8_isWreckedInTrial_28 : decode cX8_isWreckedInTrial 28 = .ok (.if_icmp .ne 7, 3) := by decide +kernel
theorem dX8_isWreckedInTrial_31 : decode cX8_isWreckedInTrial 31 = .ok (.iconst 1, 1) := by decide +kernel
theorem dX8_isWreckedInTrial_32 : decode cX8_isWreckedInTrial 32 = .ok (.goto 4, 3) := by decide +kernel
theorem dX8_isWreckedInTrial_35 : decode cX8_isWreckedInTrial 35 = .ok (.iconst 0, 1) := by decide +kernel
theorem dX8_isWreckedInTrial_36 : decode cX8_isWreckedInTrial 36 = .ok (.ireturn, 1) := by decide +kernel
theorem dX8_isCell_0 : decode cX8_isCell 0 = .ok (.iload_n 0, 1) := by decide +kernel
theorem dX8_isCell_1 : decode cX8_isCell 1 = .ok (.ifCond .lt 13, 3) := by decide +kernel
theorem dX8_isCell_4 : decode cX8_isCell 4 = .ok (.iload_n 0, 1) := by decide +kernel
theorem dX8_isCell_5 : decode cX8_isCell 5 = .ok (.bipush 100, 2) := by decide +kernel
theorem dX8_isCell_7 : decode cX8_isCell 7 = .ok (.if_icmp .ge 7, 3) := by decide +kernel
theorem dX8_isCell_10 : decode cX8_isCell 10 = .ok (.iconst 1, 1) := by decide +kernel
theorem dX8_isCell_11 : decode cX8_isCell 11 = .ok (.goto 4, 3) := by decide +kernel
theorem dX8_isCell_14 : decode cX8_isCell 14 = .ok (.iconst 0, 1) := by decide +kernel
theorem dX8_isCell_15 : decode cX8_isCell 15 = .ok (.ireturn, 1) := by decide +kernel
theorem dX8_isLight_0 : decode cX8_isLight 0 = .ok (.iload_n 0, 1) := by decide +kernel
theorem dX8_isLight_1 : decode cX8_isLight 1 = .ok (.ifCond .lt 12, 3) := by decide +kernel
theorem dX8_isLight_4 : decode cX8_isLight 4 = .ok (.iload_n 0, 1) := by decide +kernel
theorem dX8_isLight_5 : decode cX8_isLight 5 = .ok (.iconst 4, 1) := by decide +kernel
theorem dX8_isLight_6 : decode cX8_isLight 6 = .ok (.if_icmp .ge 7, 3) := by decide +kernel
theorem dX8_isLight_9 : decode cX8_isLight 9 = .ok (.iconst 1, 1) := by decide +kernel
theorem dX8_isLight_10 : decode cX8_isLight 10 = .ok (.goto 4, 3) := by decide +kernel
theorem dX8_isLight_13 : decode cX8_isLight 13 = .ok (.iconst 0, 1) := by decide +kernel
theorem dX8_isLight_14 : decode cX8_isLight 14 = .ok (.ireturn, 1) := by decide +kernel
theorem dX8_isShip_0 : decode cX8_isShip 0 = .ok (.iload_n 0, 1) := by decide +kernel
theorem dX8_isShip_1 : decode cX8_isShip 1 = .ok (.ifCond .lt 13, 3) := by decide +kernel
theorem dX8_isShip_4 : decode cX8_isShip 4 = .ok (.iload_n 0, 1) := by decide +kernel
theorem dX8_isShip_5 : decode cX8_isShip 5 = .ok (.bipush 8, 2) := by decide +kernel
theorem dX8_isShip_7 : decode cX8_isShip 7 = .ok (.if_icmp .ge 7, 3) := by decide +kernel
theorem dX8_isShip_10 : decode cX8_isShip 10 = .ok (.iconst 1, 1) := by decide +kernel
theorem dX8_isShip_11 : decode cX8_isShip 11 = .ok (.goto 4, 3) := by decide +kernel
theorem dX8_isShip_14 : decode cX8_isShip 14 = .ok (.iconst 0, 1) := by decide +kernel
theorem dX8_isShip_15 : decode cX8_isShip 15 = .ok (.ireturn, 1) := by decide +kernel
theorem dX8_isSetting_0 : decode cX8_isSetting 0 = .ok (.iload_n 0, 1) := by decide +kernel
theorem dX8_isSetting_1 : decode cX8_isSetting 1 = .ok (.ifCond .lt 33, 3) := by decide +kernel
theorem dX8_isSetting_4 : decode cX8_isSetting 4 = .ok (.iload_n 0, 1) := by decide +kernel
theorem dX8_isSetting_5 : decode cX8_isSetting 5 = .ok (.getstatic 235, 3) := by decide +kernel
theorem dX8_isSetting_8 : decode cX8_isSetting 8 = .ok (.arraylength, 1) := by decide +kernel
theorem dX8_isSetting_9 : decode cX8_isSetting 9 = .ok (.if_icmp .ge 25, 3) := by decide +kernel
theorem dX8_isSetting_12 : decode cX8_isSetting 12 = .ok (.iload_n 1, 1) := by decide +kernel
theorem dX8_isSetting_13 : decode cX8_isSetting 13 = .ok (.getstatic 238, 3) := by decide +kernel
theorem dX8_isSetting_16 : decode cX8_isSetting 16 = .ok (.iload_n 0, 1) := by decide +kernel
theorem dX8_isSetting_17 : decode cX8_isSetting 17 = .ok (.iaload, 1) := by decide +kernel
theorem dX8_isSetting_18 : decode cX8_isSetting 18 = .ok (.if_icmp .lt 16, 3) := by decide +kernel
theorem dX8_isSetting_21 : decode cX8_isSetting 21 = .ok (.iload_n 1, 1) := by decide +kernel
theorem dX8_isSetting_22 : decode cX8_isSetting 22 = .ok (.getstatic 235, 3) := by decide +kernel
theorem dX8_isSetting_25 : decode cX8_isSetting 25 = .ok (.iload_n 0, 1) := by decide +kernel
theorem dX8_isSetting_26 : decode cX8_isSetting 26 = .ok (.iaload, 1) := by decide +kernel
theorem dX8_isSetting_27 : decode cX8_isSetting 27 = .ok (.if_icmp .gt 7, 3) := by decide +kernel
theorem dX8_isSetting_30 : decode cX8_isSetting 30 = .ok (.iconst 1, 1) := by decide +kernel
theorem dX8_isSetting_31 : decode cX8_isSetting 31 = .ok (.goto 4, 3) := by decide +kernel
theorem dX8_isSetting_34 : decode cX8_isSetting 34 = .ok (.iconst 0, 1) := by decide +kernel
theorem dX8_isSetting_35 : decode cX8_isSetting 35 = .ok (.ireturn, 1) := by decide +kernel
theorem dX8_distanceBetween_0 : decode cX8_distanceBetween 0 = .ok (.iload_n 1, 1) := by decide +kernel
theorem dX8_distanceBetween_1 : decode cX8_distanceBetween 1 = .ok (.bipush 10, 2) := by decide +kernel
theorem dX8_distanceBetween_3 : decode cX8_distanceBetween 3 = .ok (.irem, 1) := by decide +kernel
theorem dX8_distanceBetween_4 : decode cX8_distanceBetween 4 = .ok (.iload_n 0, 1) := by decide +kernel
theorem dX8_distanceBetween_5 : decode cX8_distanceBetween 5 = .ok (.bipush 10, 2) := by decide +kernel
theorem dX8_distanceBetween_7 : decode cX8_distanceBetween 7 = .ok (.irem, 1) := by decide +kernel
theorem dX8_distanceBetween_8 : decode cX8_distanceBetween 8 = .ok (.isub, 1) := by decide +kernel
theorem dX8_distanceBetween_9 : decode cX8_distanceBetween 9 = .ok (.invokestatic 241, 3) := by decide +kernel
theorem dX8_distanceBetween_12 : decode cX8_distanceBetween 12 = .ok (.istore_n 2, 1) := by decide +kernel
theorem dX8_distanceBetween_13 : decode cX8_distanceBetween 13 = .ok (.iload_n 1, 1) := by decide +kernel
theorem dX8_distanceBetween_14 : decode cX8_distanceBetween 14 = .ok (.bipush 10, 2) := by decide +kernel
theorem dX8_distanceBetween_16 : decode cX8_distanceBetween 16 = .ok (.idiv, 1) := by decide +kernel
theorem dX8_distanceBetween_17 : decode cX8_distanceBetween 17 = .ok (.iload_n 0, 1) := by decide +kernel
theorem dX8_distanceBetween_18 : decode cX8_distanceBetween 18 = .ok (.bipush 10, 2) := by decide +kernel
theorem dX8_distanceBetween_20 : decode cX8_distanceBetween 20 = .ok (.idiv, 1) := by decide +kernel
theorem dX8_distanceBetween_21 : decode cX8_distanceBetween 21 = .ok (.isub, 1) := by decide +kernel
theorem dX8_distanceBetween_22 : decode cX8_distanceBetween 22 = .ok (.invokestatic 241, 3) := by decide +kernel
theorem dX8_distanceBetween_25 : decode cX8_distanceBetween 25 = .ok (.istore_n 3, 1) := by decide +kernel
theorem dX8_distanceBetween_26 : decode cX8_distanceBetween 26 = .ok (.iload_n 2, 1) := by decide +kernel
theorem dX8_distanceBetween_27 : decode cX8_distanceBetween 27 = .ok (.iload_n 3, 1) := by decide +kernel
theorem dX8_distanceBetween_28 : decode cX8_distanceBetween 28 = .ok (.invokestatic 244, 3) := by decide +kernel
theorem dX8_distanceBetween_31 : decode cX8_distanceBetween 31 = .ok (.ireturn, 1) := by decide +kernel
theorem dX7_init_0 : decode cX7_init 0 = .ok (.aload_n 0, 1) := by decide +kernel
theorem dX7_init_1 : decode cX7_init 1 = .ok (.invokespecial 3, 3) := by decide +kernel
theorem dX7_init_4 : decode cX7_init 4 = .ok (.aload_n 0, 1) := by decide +kernel
theorem dX7_init_5 : decode cX7_init 5 = .ok (.bipush 60, 2) := by decide +kernel
theorem dX7_init_7 : decode cX7_init 7 = .ok (.newarray .char, 2) := by decide +kernel
theorem dX7_init_9 : decode cX7_init 9 = .ok (.putfield 9, 3) := by decide +kernel
theorem dX7_init_12 : decode cX7_init 12 = .ok (.aload_n 0, 1) := by decide +kernel
theorem dX7_init_13 : decode cX7_init 13 = .ok (.iconst 0, 1) := by decide +kernel
theorem dX7_init_14 : decode cX7_init 14 = .ok (.putfield 15, 3) := by decide +kernel
theorem dX7_init_17 : decode cX7_init 17 = .ok (.aload_n 0, 1) := by decide +kernel
theorem dX7_init_18 : decode cX7_init 18 = .ok (.bipush 20, 2) := by decide +kernel
theorem dX7_init_20 : decode cX7_init 20 = .ok (.anewarray 19, 3) := by decide +kernel
theorem dX7_init_23 : decode cX7_init 23 = .ok (.putfield 21, 3) := by decide +kernel
theorem dX7_init_26 : decode cX7_init 26 = .ok (.aload_n 0, 1) := by decide +kernel
theorem dX7_init_27 : decode cX7_init 27 = .ok (.iconst 0, 1) := by decide +kernel
theorem dX7_init_28 : decode cX7_init 28 = .ok (.putfield 25, 3) := by decide +kernel
theorem dX7_init_31 : decode cX7_init 31 = .ok (.aload_n 0, 1) := by decide +kernel
theorem dX7_init_32 : decode cX7_init 32 = .ok (.iconst 0, 1) := by decide +kernel
theorem dX7_init_33 : decode cX7_init 33 = .ok (.putfield 28, 3) := by decide +kernel
theorem dX7_init_36 : decode cX7_init 36 = .ok (.iconst 0, 1) := by decide +kernel
theorem dX7_init_37 : decode cX7_init 37 = .ok (.istore_n 1, 1) := by decide +kernel
theorem dX7_init_38 : decode cX7_init 38 = .ok (.iload_n 1, 1) := by decide +kernel
theorem dX7_init_39 : decode cX7_init 39 = .ok (.bipush 20, 2) := by decide +kernel
theorem dX7_init_41 : decode cX7_init 41 = .ok (.if_icmp .ge 22, 3) := by decide +kernel
theorem dX7_init_44 : decode cX7_init 44 = .ok (.aload_n 0, 1) := by decide +kernel
theorem dX7_init_45 : decode cX7_init 45 = .ok (.getfield 21, 3) := by decide +kernel
theorem dX7_init_48 : decode cX7_init 48 = .ok (.iload_n 1, 1) := by decide +kernel
theorem dX7_init_49 : decode cX7_init 49 = .ok (.new 19, 3) := by decide +kernel
theorem dX7_init_52 : decode cX7_init 52 = .ok (.dup, 1) := by decide +kernel
theorem dX7_init_53 : decode cX7_init 53 = .ok (.invokespecial 31, 3) := by decide +kernel
theorem dX7_init_56 : decode cX7_init 56 = .ok (.aastore, 1) := by decide +kernel
theorem dX7_init_57 : decode cX7_init 57 = .ok (.iinc 1 1, 3) := by decide +kernel
theorem dX7_init_60 : decode cX7_init 60 = .ok (.goto (-22), 3) := by decide +kernel
theorem dX7_init_63 : decode cX7_init 63 = .ok (.return_, 1) := by decide +kernel
theorem dX7_append_0 : decode cX7_append 0 = .ok (.aload_n 0, 1) := by decide +kernel
theorem dX7_append_1 : decode cX7_append 1 = .ok (.getfield 15, 3) := by decide +kernel
theorem dX7_append_4 : decode cX7_append 4 = .ok (.bipush 60, 2) := by decide +kernel
theorem dX7_append_6 : decode cX7_append 6 = .ok (.if_icmp .lt 6, 3) := by decide +kernel
theorem dX7_append_9 : decode cX7_append 9 = .ok (.bipush (-3), 2) := by decide +kernel
theorem dX7_append_11 : decode cX7_append 11 = .ok (.ireturn, 1) := by decide +kernel
theorem dX7_append_12 : decode cX7_append 12 = .ok (.aload_n 0, 1) := by decide +kernel
theorem dX7_append_13 : decode cX7_append 13 = .ok (.getfield 9, 3) := by decide +kernel
theorem dX7_append_16 : decode cX7_append 16 = .ok (.aload_n 0, 1) := by decide +kernel
theorem dX7_append_17 : decode cX7_append 17 = .ok (.getfield 15, 3) := by decide +kernel
theorem dX7_append_20 : decode cX7_append 20 = .ok (.iload_n 1, 1) := by decide +kernel
theorem dX7_append_21 : decode cX7_append 21 = .ok (.castore, 1) := by decide +kernel
theorem dX7_append_22 : decode cX7_append 22 = .ok (.aload_n 0, 1) := by decide +kernel
theorem dX7_append_23 : decode cX7_append 23 = .ok (.dup, 1) := by decide +kernel
theorem dX7_append_24 : decode cX7_append 24 = .ok (.getfield 15, 3) := by decide +kernel
theorem dX7_append_27 : decode cX7_append 27 = .ok (.iconst 1, 1) := by decide +kernel
theorem dX7_append_28 : decode cX7_append 28 = .ok (.iadd, 1) := by decide +kernel
theorem dX7_append_29 : decode cX7_append 29 = .ok (.putfield 15, 3) := by decide +kernel
theorem dX7_append_32 : decode cX7_append 32 = .ok (.aload_n 0, 1) := by decide +kernel
theorem dX7_append_33 : decode cX7_append 33 = .ok (.getfield 15, 3) := by decide +kernel
theorem dX7_append_36 : decode cX7_append 36 = .ok (.ireturn, 1) := by decide +kernel
theorem dX7_read_0 : decode cX7_read 0 = .ok (.aload_n 0, 1) := by decide +kernel
theorem dX7_read_1 : decode cX7_read 1 = .ok (.iconst 0, 1) := by decide +kernel
theorem dX7_read_2 : decode cX7_read 2 = .ok (.putfield 28, 3) := by decide +kernel
theorem dX7_read_5 : decode cX7_read 5 = .ok (.aload_n 0, 1) := by decide +kernel
theorem dX7_read_6 : decode cX7_read 6 = .ok (.iconst 0, 1) := by decide +kernel
theorem dX7_read_7 : decode cX7_read 7 = .ok (.putfield 25, 3) := by decide +kernel
theorem dX7_read_10 : decode cX7_read 10 = .ok (.iconst 0, 1) := by decide +kernel
theorem dX7_read_11 : decode cX7_read 11 = .ok (.istore_n 1, 1) := by decide +kernel
theorem dX7_read_12 : decode cX7_read 12 = .ok (.iload_n 1, 1) := by decide +kernel
theorem dX7_read_13 : decode cX7_read 13 = .ok (.bipush 20, 2) := by decide +kernel
theorem dX7_read_15 : decode cX7_read 15 = .ok (.if_icmp .ge 65, 3) := by decide +kernel
theorem dX7_read_18 : decode cX7_read 18 = .ok (.aload_n 0, 1) := by decide +kernel
theorem dX7_read_19 : decode cX7_read 19 = .ok (.aload_n 0, 1) := by decide +kernel
theorem dX7_read_20 : decode cX7_read 20 = .ok (.getfield 21, 3) := by decide +kernel
theorem dX7_read_23 : decode cX7_read 23 = .ok (.iload_n 1, 1) := by decide +kernel
theorem dX7_read_24 : decode cX7_read 24 = .ok (.aaload, 1) := by decide +kernel
theorem dX7_read_25 : decode cX7_read 25 = .ok (.invokevirtual 32, 3) := by decide +kernel
theorem dX7_read_28 : decode cX7_read 28 = .ok (.ifCond .ne 8, 3) := by decide +kernel
theorem dX7_read_31 : decode cX7_read 31 = .ok (.aload_n 0, 1) := by decide +kernel
theorem dX7_read_32 : decode cX7_read 32 = .ok (.getfield 28, 3) := by decide +kernel
theorem dX7_read_35 : decode cX7_read 35 = .ok (.ireturn, 1) := by decide +kernel
theorem dX7_read_36 : decode cX7_read 36 = .ok (.aload_n 0, 1) := by decide +kernel
theorem dX7_read_37 : decode cX7_read 37 = .ok (.dup, 1) := by decide +kernel
theorem dX7_read_38 : decode cX7_read 38 = .ok (.getfield 25, 3) := by decide +kernel
theorem dX7_read_41 : decode cX7_read 41 = .ok (.iconst 1, 1) := by decide +kernel
theorem dX7_read_42 : decode cX7_read 42 = .ok (.iadd, 1) := by decide +kernel
theorem dX7_read_43 : decode cX7_read 43 = .ok (.putfield 25, 3) := by decide +kernel
theorem dX7_read_46 : decode cX7_read 46 = .ok (.aload_n 0, 1) := by decide +kernel
theorem dX7_read_47 : decode cX7_read 47 = .ok (.getfield 28, 3) := by decide +kernel
theorem dX7_read_50 : decode cX7_read 50 = .ok (.aload_n 0, 1) := by decide +kernel
theorem dX7_read_51 : decode cX7_read 51 = .ok (.getfield 15, 3) := by decide +kernel
theorem dX7_read_54 : decode cX7_read 54 = .ok (.if_icmp .ne 6, 3) := by decide +kernel
theorem dX7_read_57 : decode cX7_read 57 = .ok (.bipush (-5), 2) := by decide +kernel
theorem dX7_read_59 : decode cX7_read 59 = .ok (.ireturn, 1) := by decide +kernel
theorem dX7_read_60 : decode cX7_read 60 = .ok (.aload_n 0, 1) := by decide +kernel
theorem dX7_read_61 : decode cX7_read 61 = .ok (.bipush 59, 2) := by decide +kernel
theorem dX7_read_63 : decode cX7_read 63 = .ok (.invokevirtual 36, 3) := by decide +kernel
theorem dX7_read_66 : decode cX7_read 66 = .ok (.ifCond .ne 8, 3) := by decide +kernel
theorem dX7_read_69 : decode cX7_read 69 = .ok (.aload_n 0, 1) := by decide +kernel
theorem dX7_read_70 : decode cX7_read 70 = .ok (.getfield 28, 3) := by decide +kernel
theorem dX7_read_73 : decode cX7_read 73 = .ok (.ireturn, 1) := by decide +kernel
theorem dX7_read_74 : decode cX7_read 74 = .ok (.iinc 1 1, 3) := by decide +kernel
theorem dX7_read_77 : decode cX7_read 77 = .ok (.goto (-65), 3) := by decide +kernel
theorem dX7_read_80 : decode cX7_read 80 = .ok (.aload_n 0, 1) := by decide +kernel
theorem dX7_read_81 : decode cX7_read 81 = .ok (.getfield 28, 3) := by decide +kernel
theorem dX7_read_84 : decode cX7_read 84 = .ok (.ireturn, 1) := by decide +kernel
theorem dX7_readPart_0 : decode cX7_readPart 0 = .ok (.aload_n 1, 1) := by decide +kernel
theorem dX7_readPart_1 : decode cX7_readPart 1 = .ok (.aload_n 0, 1) := by decide +kernel
theorem dX7_readPart_2 : decode cX7_readPart 2 = .ok (.invokevirtual 40, 3) := by decide +kernel
theorem dX7_readPart_5 : decode cX7_readPart 5 = .ok (.putfield 44, 3) := by decide +kernel
theorem dX7_readPart_8 : decode cX7_readPart 8 = .ok (.aload_n 0, 1) := by decide +kernel
theorem dX7_readPart_9 : decode cX7_readPart 9 = .ok (.bipush 114, 2) := by decide +kernel
theorem dX7_readPart_11 : decode cX7_readPart 11 = .ok (.invokevirtual 36, 3) := by decide +kernel
theorem dX7_readPart_14 : decode cX7_readPart 14 = .ok (.ifCond .eq 24, 3) := by decide +kernel
theorem dX7_readPart_17 : decode cX7_readPart 17 = .ok (.aload_n 1, 1) := by decide +kernel
theorem dX7_readPart_18 : decode cX7_readPart 18 = .ok (.aload_n 0, 1) := by decide +kernel
theorem dX7_readPart_19 : decode cX7_readPart 19 = .ok (.invokevirtual 48, 3) := by decide +kernel
theorem dX7_readPart_22 : decode cX7_readPart 22 = .ok (.putfield 52, 3) := by decide +kernel
theorem dX7_readPart_25 : decode cX7_readPart 25 = .ok (.aload_n 1, 1) := by decide +kernel
theorem dX7_readPart_26 : decode cX7_readPart 26 = .ok (.getfield 52, 3) := by decide +kernel
theorem dX7_readPart_29 : decode cX7_readPart 29 = .ok (.ifCond .lt 7, 3) := by decide +kernel
theorem dX7_readPart_32 : decode cX7_readPart 32 = .ok (.iconst 1, 1) := by decide +kernel
theorem dX7_readPart_33 : decode cX7_readPart 33 = .ok (.goto 4, 3) := by decide +kernel
theorem dX7_readPart_36 : decode cX7_readPart 36 = .ok (.iconst 0, 1) := by decide +kernel
theorem dX7_readPart_37 : decode cX7_readPart 37 = .ok (.ireturn, 1) := by decide +kernel
theorem dX7_readPart_38 : decode cX7_readPart 38 = .ok (.aload_n 0, 1) := by decide +kernel
theorem dX7_readPart_39 : decode cX7_readPart 39 = .ok (.bipush 115, 2) := by decide +kernel
theorem dX7_readPart_41 : decode cX7_readPart 41 = .ok (.invokevirtual 36, 3) := by decide +kernel
theorem dX7_readPart_44 : decode cX7_readPart 44 = .ok (.ifCond .eq 9, 3) := by decide +kernel
theorem dX7_readPart_47 : decode cX7_readPart 47 = .ok (.aload_n 0, 1) := by decide +kernel
theorem dX7_readPart_48 : decode cX7_readPart 48 = .ok (.aload_n 1, 1) := by decide +kernel
theorem dX7_readPart_49 : decode cX7_readPart 49 = .ok (.invokevirtual 55, 3) := by decide +kernel
theorem dX7_readPart_52 : decode cX7_readPart 52 = .ok (.ireturn, 1) := by decide +kernel
theorem dX7_readPart_53 : decode cX7_readPart 53 = .ok (.aload_n 0, 1) := by decide +kernel
theorem dX7_readPart_54 : decode cX7_readPart 54 = .ok (.bipush 100, 2) := by decide +kernel
theorem dX7_readPart_56 : decode cX7_readPart 56 = .ok (.invokevirtual 36, 3) := by decide +kernel
theorem dX7_readPart_59 : decode cX7_readPart 59 = .ok (.ifCond .eq 49, 3) := by decide +kernel
theorem dX7_readPart_62 : decode cX7_readPart 62 = .ok (.aload_n 1, 1) := by decide +kernel
theorem dX7_readPart_63 : decode cX7_readPart 63 = .ok (.aload_n 0, 1) := by decide +kernel
theorem dX7_readPart_64 : decode cX7_readPart 64 = .ok (.iconst 0, 1) := by decide +kernel
theorem dX7_readPart_65 : decode cX7_readPart 65 = .ok (.iconst 3, 1) := by decide +kernel
theorem dX7_readPart_66 : decode cX7_readPart 66 = .ok (.invokevirtual 58, 3) := by decide +kernel
theorem dX7_readPart_69 : decode cX7_readPart 69 = .ok (.putfield 62, 3) := by decide +kernel
theorem dX7_readPart_72 : decode cX7_readPart 72 = .ok (.aload_n 1, 1) := by decide +kernel
theorem dX7_readPart_73 : decode cX7_readPart 73 = .ok (.aload_n 1, 1) := by decide +kernel
theorem dX7_readPart_74 : decode cX7_readPart 74 = .ok (.getfield 62, 3) := by decide +kernel
theorem dX7_readPart_77 : decode cX7_readPart 77 = .ok (.ifCond .ge 8, 3) := by decide +kernel
theorem dX7_readPart_80 : decode cX7_readPart 80 = .ok (.bipush (-5), 2) := by decide +kernel
theorem dX7_readPart_82 : decode cX7_readPart 82 = .ok (.goto 10, 3) := by decide +kernel
theorem dX7_readPart_85 : decode cX7_readPart 85 = .ok (.aload_n 0, 1) := by decide +kernel
theorem dX7_readPart_86 : decode cX7_readPart 86 = .ok (.iconst 0, 1) := by decide +kernel
theorem dX7_readPart_87 : decode cX7_readPart 87 = .ok (.bipush 7, 2) := by decide +kernel
theorem dX7_readPart_89 : decode cX7_readPart 89 = .ok (.invokevirtual 58, 3) := by decide +kernel
theorem dX7_readPart_92 : decode cX7_readPart 92 = .ok (.putfield 65, 3) := by decide +kernel
theorem dX7_readPart_95 : decode cX7_readPart 95 = .ok (.aload_n 1, 1) := by decide +kernel
theorem dX7_readPart_96 : decode cX7_readPart 96 = .ok (.getfield 65, 3) := by decide +kernel
theorem dX7_readPart_99 : decode cX7_readPart 99 = .ok (.ifCond .lt 7, 3) := by decide +kernel
theorem dX7_readPart_102 : decode cX7_readPart 102 = .ok (.iconst 1, 1) := by decide +kernel
theorem dX7_readPart_103 : decode cX7_readPart 103 = .ok (.goto 4, 3) := by decide +kernel
theorem dX7_readPart_106 : decode cX7_readPart 106 = .ok (.iconst 0, 1) := by decide +kernel
theorem dX7_readPart_107 : decode cX7_readPart 107 = .ok (.ireturn, 1) := by decide +kernel
theorem dX7_readPart_108 : decode cX7_readPart 108 = .ok (.aload_n 0, 1) := by decide +kernel
theorem dX7_readPart_109 : decode cX7_readPart 109 = .ok (.bipush 104, 2) := by decide +kernel
theorem dX7_readPart_111 : decode cX7_readPart 111 = .ok (.invokevirtual 36, 3) := by decide +kernel
theorem dX7_readPart_114 : decode cX7_readPart 114 = .ok (.ifCond .eq 26, 3) := by decide +kernel
theorem dX7_readPart_117 : decode cX7_readPart 117 = .ok (.aload_n 1, 1) := by decide +kernel
theorem dX7_readPart_118 : decode cX7_readPart 118 = .ok (.aload_n 0, 1) := by decide +kernel
theorem dX7_readPart_119 : decode cX7_readPart 119 = .ok (.bipush 20, 2) := by decide +kernel
theorem dX7_readPart_121 : decode cX7_readPart 121 = .ok (.invokevirtual 68, 3) := by decide +kernel
theorem dX7_readPart_124 : decode cX7_readPart 124 = .ok (.putfield 62, 3) := by decide +kernel
theorem dX7_readPart_127 : decode cX7_readPart 127 = .ok (.aload_n 1, 1) := by decide +kernel
theorem dX7_readPart_128 : decode cX7_readPart 128 = .ok (.getfield 62, 3) := by decide +kernel
theorem dX7_readPart_131 : decode cX7_readPart 131 = .ok (.ifCond .lt 7, 3) := by decide +kernel
theorem dX7_readPart_134 : decode cX7_readPart 134 = .ok (.iconst 1, 1) := by decide +kernel
theorem dX7_readPart_135 : decode cX7_readPart 135 = .ok (.goto 4, 3) := by decide +kernel
theorem dX7_readPart_138 : decode cX7_readPart 138 = .ok (.iconst 0, 1) := by decide +kernel
theorem dX7_readPart_139 : decode cX7_readPart 139 = .ok (.ireturn, 1) := by decide +kernel
theorem dX7_readPart_140 : decode cX7_readPart 140 = .ok (.iconst 0, 1) := by decide +kernel
theorem dX7_readPart_141 : decode cX7_readPart 141 = .ok (.ireturn, 1) := by decide +kernel
theorem dX7_readShip_0 : decode cX7_readShip 0 = .ok (.aload_n 1, 1) := by decide +kernel
theorem dX7_readShip_1 : decode cX7_readShip 1 = .ok (.aload_n 0, 1) := by decide +kernel
theorem dX7_readShip_2 : decode cX7_readShip 2 = .ok (.bipush 99, 2) := by decide +kernel
theorem dX7_readShip_4 : decode cX7_readShip 4 = .ok (.invokevirtual 68, 3) := by decide +kernel
theorem dX7_readShip_7 : decode cX7_readShip 7 = .ok (.putfield 62, 3) := by decide +kernel
theorem dX7_readShip_10 : decode cX7_readShip 10 = .ok (.aload_n 1, 1) := by decide +kernel
theorem dX7_readShip_11 : decode cX7_readShip 11 = .ok (.getfield 62, 3) := by decide +kernel
theorem dX7_readShip_14 : decode cX7_readShip 14 = .ok (.ifCond .lt 12, 3) := by decide +kernel
theorem dX7_readShip_17 : decode cX7_readShip 17 = .ok (.aload_n 0, 1) := by decide +kernel
theorem dX7_readShip_18 : decode cX7_readShip 18 = .ok (.bipush 58, 2) := by decide +kernel
theorem dX7_readShip_20 : decode cX7_readShip 20 = .ok (.invokevirtual 36, 3) := by decide +kernel
theorem dX7_readShip_23 : decode cX7_readShip 23 = .ok (.ifCond .ne 5, 3) := by decide +kernel
theorem dX7_readShip_26 : decode cX7_readShip 26 = .ok (.iconst 0, 1) := by decide +kernel
theorem dX7_readShip_27 : decode cX7_readShip 27 = .ok (.ireturn, 1) := by decide +kernel
theorem dX7_readShip_28 : decode cX7_readShip 28 = .ok (.aload_n 1, 1) := by decide +kernel
theorem dX7_readShip_29 : decode cX7_readShip 29 = .ok (.aload_n 0, 1) := by decide +kernel
theorem dX7_readShip_30 : decode cX7_readShip 30 = .ok (.invokevirtual 48, 3) := by decide +kernel
theorem dX7_readShip_33 : decode cX7_readShip 33 = .ok (.putfield 52, 3) := by decide +kernel
theorem dX7_readShip_36 : decode cX7_readShip 36 = .ok (.aload_n 1, 1) := by decide +kernel
theorem dX7_readShip_37 : decode cX7_readShip 37 = .ok (.getfield 52, 3) := by decide +kernel
theorem dX7_readShip_40 : decode cX7_readShip 40 = .ok (.ifCond .lt 12, 3) := by decide +kernel
theorem dX7_readShip_43 : decode cX7_readShip 43 = .ok (.aload_n 0, 1) := by decide +kernel
theorem dX7_readShip_44 : decode cX7_readShip 44 = .ok (.bipush 62, 2) := by decide +kernel
theorem dX7_readShip_46 : decode cX7_readShip 46 = .ok (.invokevirtual 36, 3) := by decide +kernel
theorem dX7_readShip_49 : decode cX7_readShip 49 = .ok (.ifCond .ne 5, 3) := by decide +kernel
theorem dX7_readShip_52 : decode cX7_readShip 52 = .ok (.iconst 0, 1) := by decide +kernel
theorem dX7_readShip_53 : decode cX7_readShip 53 = .ok (.ireturn, 1) := by decide +kernel
theorem dX7_readShip_54 : decode cX7_readShip 54 = .ok (.aload_n 1, 1) := by decide +kernel
theorem dX7_readShip_55 : decode cX7_readShip 55 = .ok (.aload_n 0, 1) := by decide +kernel
theorem dX7_readShip_56 : decode cX7_readShip 56 = .ok (.invokevirtual 48, 3) := by decide +kernel
theorem dX7_readShip_59 : decode cX7_readShip 59 = .ok (.putfield 72, 3) := by decide +kernel
theorem dX7_readShip_62 : decode cX7_readShip 62 = .ok (.aload_n 1, 1) := by decide +kernel
theorem dX7_readShip_63 : decode cX7_readShip 63 = .ok (.getfield 72, 3) := by decide +kernel
theorem dX7_readShip_66 : decode cX7_readShip 66 = .ok (.ifCond .lt 7, 3) := by decide +kernel
theorem dX7_readShip_69 : decode cX7_readShip 69 = .ok (.iconst 1, 1) := by decide +kernel
theorem dX7_readShip_70 : decode cX7_readShip 70 = .ok (.goto 4, 3) := by decide +kernel
theorem dX7_readShip_73 : decode cX7_readShip 73 = .ok (.iconst 0, 1) := by decide +kernel
theorem dX7_readShip_74 : decode cX7_readShip 74 = .ok (.ireturn, 1) := by decide +kernel
theorem dX7_signAhead_0 : decode cX7_signAhead 0 = .ok (.aload_n 0, 1) := by decide +kernel
theorem dX7_signAhead_1 : decode cX7_signAhead 1 = .ok (.getfield 28, 3) := by decide +kernel
theorem dX7_signAhead_4 : decode cX7_signAhead 4 = .ok (.aload_n 0, 1) := by decide +kernel
theorem dX7_signAhead_5 : decode cX7_signAhead 5 = .ok (.getfield 15, 3) := by decide +kernel
theorem dX7_signAhead_8 : decode cX7_signAhead 8 = .ok (.if_icmp .ge 24, 3) := by decide +kernel
theorem dX7_signAhead_11 : decode cX7_signAhead 11 = .ok (.aload_n 0, 1) := by decide +kernel
theorem dX7_signAhead_12 : decode cX7_signAhead 12 = .ok (.getfield 28, 3) := by decide +kernel
theorem dX7_signAhead_15 : decode cX7_signAhead 15 = .ok (.bipush 60, 2) := by decide +kernel
theorem dX7_signAhead_17 : decode cX7_signAhead 17 = .ok (.if_icmp .ge 15, 3) := by decide +kernel
theorem dX7_signAhead_20 : decode cX7_signAhead 20 = .ok (.aload_n 0, 1) := by decide +kernel
theorem dX7_signAhead_21 : decode cX7_signAhead 21 = .ok (.getfield 9, 3) := by decide +kernel
theorem dX7_signAhead_24 : decode cX7_signAhead 24 = .ok (.aload_n 0, 1) := by decide +kernel
theorem dX7_signAhead_25 : decode cX7_signAhead 25 = .ok (.getfield 28, 3) := by decide +kernel
theorem dX7_signAhead_28 : decode cX7_signAhead 28 = .ok (.caload, 1) := by decide +kernel
theorem dX7_signAhead_29 : decode cX7_signAhead 29 = .ok (.goto 4, 3) := by decide +kernel
theorem dX7_signAhead_32 : decode cX7_signAhead 32 = .ok (.iconst 0, 1) := by decide +kernel
theorem dX7_signAhead_33 : decode cX7_signAhead 33 = .ok (.ireturn, 1) := by decide +kernel
theorem dX7_readSign_0 : decode cX7_readSign 0 = .ok (.aload_n 0, 1) := by decide +kernel
theorem dX7_readSign_1 : decode cX7_readSign 1 = .ok (.invokevirtual 40, 3) := by decide +kernel
theorem dX7_readSign_4 : decode cX7_readSign 4 = .ok (.iload_n 1, 1) := by decide +kernel
theorem dX7_readSign_5 : decode cX7_readSign 5 = .ok (.if_icmp .ne 15, 3) := by decide +kernel
theorem dX7_readSign_8 : decode cX7_readSign 8 = .ok (.aload_n 0, 1) := by decide +kernel
theorem dX7_readSign_9 : decode cX7_readSign 9 = .ok (.dup, 1) := by decide +kernel
theorem dX7_readSign_10 : decode cX7_readSign 10 = .ok (.getfield 28, 3) := by decide +kernel
theorem dX7_readSign_13 : decode cX7_readSign 13 = .ok (.iconst 1, 1) := by decide +kernel
theorem dX7_readSign_14 : decode cX7_readSign 14 = .ok (.iadd, 1) := by decide +kernel
theorem dX7_readSign_15 : decode cX7_readSign 15 = .ok (.putfield 28, 3) := by decide +kernel
theorem dX7_readSign_18 : decode cX7_readSign 18 = .ok (.iconst 1, 1) := by decide +kernel
theorem dX7_readSign_19 : decode cX7_readSign 19 = .ok (.ireturn, 1) := by decide +kernel
theorem dX7_readSign_20 : decode cX7_readSign 20 = .ok (.iconst 0, 1) := by decide +kernel
theorem dX7_readSign_21 : decode cX7_readSign 21 = .ok (.ireturn, 1) := by decide +kernel
theorem dX7_readCell_0 : decode cX7_readCell 0 = .ok (.aload_n 0, 1) := by decide +kernel
theorem dX7_readCell_1 : decode cX7_readCell 1 = .ok (.iconst 0, 1) := by decide +kernel
theorem dX7_readCell_2 : decode cX7_readCell 2 = .ok (.bipush 9, 2) := by decide +kernel
theorem dX7_readCell_4 : decode cX7_readCell 4 = .ok (.invokevirtual 58, 3) := by decide +kernel
theorem dX7_readCell_7 : decode cX7_readCell 7 = .ok (.istore_n 1, 1) := by decide +kernel
theorem dX7_readCell_8 : decode cX7_readCell 8 = .ok (.iload_n 1, 1) := by decide +kernel
theorem dX7_readCell_9 : decode cX7_readCell 9 = .ok (.ifCond .ge 8, 3) := by decide +kernel
theorem dX7_readCell_12 : decode cX7_readCell 12 = .ok (.bipush (-5), 2) := by decide +kernel
theorem dX7_readCell_14 : decode cX7_readCell 14 = .ok (.goto 10, 3) := by decide +kernel
theorem dX7_readCell_17 : decode cX7_readCell 17 = .ok (.aload_n 0, 1) := by decide +kernel
theorem dX7_readCell_18 : decode cX7_readCell 18 = .ok (.iconst 0, 1) := by decide +kernel
theorem dX7_readCell_19 : decode cX7_readCell 19 = .ok (.bipush 9, 2) := by decide +kernel
theorem dX7_readCell_21 : decode cX7_readCell 21 = .ok (.invokevirtual 58, 3) := by decide +kernel
theorem dX7_readCell_24 : decode cX7_readCell 24 = .ok (.istore_n 2, 1) := by decide +kernel
theorem dX7_readCell_25 : decode cX7_readCell 25 = .ok (.iload_n 2, 1) := by decide +kernel
theorem dX7_readCell_26 : decode cX7_readCell 26 = .ok (.ifCond .ge 8, 3) := by decide +kernel
theorem dX7_readCell_29 : decode cX7_readCell 29 = .ok (.bipush (-5), 2) := by decide +kernel
theorem dX7_readCell_31 : decode cX7_readCell 31 = .ok (.goto 9, 3) := by decide +kernel
theorem dX7_readCell_34 : decode cX7_readCell 34 = .ok (.bipush 10, 2) := by decide +kernel
theorem dX7_readCell_36 : decode cX7_readCell 36 = .ok (.iload_n 2, 1) := by decide +kernel
theorem dX7_readCell_37 : decode cX7_readCell 37 = .ok (.imul, 1) := by decide +kernel
theorem dX7_readCell_38 : decode cX7_readCell 38 = .ok (.iload_n 1, 1) := by decide +kernel
theorem dX7_readCell_39 : decode cX7_readCell 39 = .ok (.iadd, 1) := by decide +kernel
theorem dX7_readCell_40 : decode cX7_readCell 40 = .ok (.ireturn, 1) := by decide +kernel
theorem dX7_readNumber_0 : decode cX7_readNumber 0 = .ok (.aload_n 0, 1) := by decide +kernel
theorem dX7_readNumber_1 : decode cX7_readNumber 1 = .ok (.iconst 1, 1) := by decide +kernel
theorem dX7_readNumber_2 : decode cX7_readNumber 2 = .ok (.bipush 9, 2) := by decide +kernel
theorem dX7_readNumber_4 : decode cX7_readNumber 4 = .ok (.invokevirtual 58, 3) := by decide +kernel
theorem dX7_readNumber_7 : decode cX7_readNumber 7 = .ok (.istore_n 2, 1) := by decide +kernel
theorem dX7_readNumber_8 : decode cX7_readNumber 8 = .ok (.iload_n 2, 1) := by decide +kernel
theorem dX7_readNumber_9 : decode cX7_readNumber 9 = .ok (.ifCond .ge 6, 3) := by decide +kernel
theorem dX7_readNumber_12 : decode cX7_readNumber 12 = .ok (.bipush (-5), 2) := by decide +kernel
theorem dX7_readNumber_14 : decode cX7_readNumber 14 = .ok (.ireturn, 1) := by decide +kernel
theorem dX7_readNumber_15 : decode cX7_readNumber 15 = .ok (.aload_n 0, 1) := by decide +kernel
theorem dX7_readNumber_16 : decode cX7_readNumber 16 = .ok (.iconst 0, 1) := by decide +kernel
theorem dX7_readNumber_17 : decode cX7_readNumber 17 = .ok (.bipush 9, 2) := by decide +kernel
theorem dX7_readNumber_19 : decode cX7_readNumber 19 = .ok (.iload_n 1, 1) := by decide +kernel
theorem dX7_readNumber_20 : decode cX7_readNumber 20 = .ok (.bipush 10, 2) := by decide +kernel
theorem dX7_readNumber_22 : decode cX7_readNumber 22 = .ok (.iload_n 2, 1) := by decide +kernel
theorem dX7_readNumber_23 : decode cX7_readNumber 23 = .ok (.imul, 1) := by decide +kernel
theorem dX7_readNumber_24 : decode cX7_readNumber 24 = .ok (.isub, 1) := by decide +kernel
theorem dX7_readNumber_25 : decode cX7_readNumber 25 = .ok (.invokestatic 75, 3) := by decide +kernel
theorem dX7_readNumber_28 : decode cX7_readNumber 28 = .ok (.invokevirtual 58, 3) := by decide +kernel
theorem dX7_readNumber_31 : decode cX7_readNumber 31 = .ok (.istore_n 3, 1) := by decide +kernel
theorem dX7_readNumber_32 : decode cX7_readNumber 32 = .ok (.iload_n 3, 1) := by decide +kernel
theorem dX7_readNumber_33 : decode cX7_readNumber 33 = .ok (.ifCond .ge 7, 3) := by decide +kernel
theorem dX7_readNumber_36 : decode cX7_readNumber 36 = .ok (.iload_n 2, 1) := by decide +kernel
theorem dX7_readNumber_37 : decode cX7_readNumber 37 = .ok (.goto 9, 3) := by decide +kernel
theorem dX7_readNumber_40 : decode cX7_readNumber 40 = .ok (.bipush 10, 2) := by decide +kernel
theorem dX7_readNumber_42 : decode cX7_readNumber 42 = .ok (.iload_n 2, 1) := by decide +kernel
theorem dX7_readNumber_43 : decode cX7_readNumber 43 = .ok (.imul, 1) := by decide +kernel
theorem dX7_readNumber_44 : decode cX7_readNumber 44 = .ok (.iload_n 3, 1) := by decide +kernel
theorem dX7_readNumber_45 : decode cX7_readNumber 45 = .ok (.iadd, 1) := by decide +kernel
theorem dX7_readNumber_46 : decode cX7_readNumber 46 = .ok (.ireturn, 1) := by decide +kernel
theorem dX7_readDigit_0 : decode cX7_readDigit 0 = .ok (.aload_n 0, 1) := by decide +kernel
theorem dX7_readDigit_1 : decode cX7_readDigit 1 = .ok (.invokevirtual 40, 3) := by decide +kernel
theorem dX7_readDigit_4 : decode cX7_readDigit 4 = .ok (.bipush 48, 2) := by decide +kernel
theorem dX7_readDigit_6 : decode cX7_readDigit 6 = .ok (.isub, 1) := by decide +kernel
theorem dX7_readDigit_7 : decode cX7_readDigit 7 = .ok (.istore_n 3, 1) := by decide +kernel
theorem dX7_readDigit_8 : decode cX7_readDigit 8 = .ok (.iload_n 3, 1) := by decide +kernel
theorem dX7_readDigit_9 : decode cX7_readDigit 9 = .ok (.iload_n 1, 1) := by decide +kernel
theorem dX7_readDigit_10 : decode cX7_readDigit 10 = .ok (.if_icmp .lt 8, 3) := by decide +kernel
theorem dX7_readDigit_13 : decode cX7_readDigit 13 = .ok (.iload_n 3, 1) := by decide +kernel
theorem dX7_readDigit_14 : decode cX7_readDigit 14 = .ok (.iload_n 2, 1) := by decide +kernel
theorem dX7_readDigit_15 : decode cX7_readDigit 15 = .ok (.if_icmp .le 6, 3) := by decide +kernel
theorem dX7_readDigit_18 : decode cX7_readDigit 18 = .ok (.bipush (-5), 2) := by decide +kernel
theorem dX7_readDigit_20 : decode cX7_readDigit 20 = .ok (.ireturn, 1) := by decide +kernel
theorem dX7_readDigit_21 : decode cX7_readDigit 21 = .ok (.aload_n 0, 1) := by decide +kernel
theorem dX7_readDigit_22 : decode cX7_readDigit 22 = .ok (.dup, 1) := by decide +kernel
theorem dX7_readDigit_23 : decode cX7_readDigit 23 = .ok (.getfield 28, 3) := by decide +kernel
theorem dX7_readDigit_26 : decode cX7_readDigit 26 = .ok (.iconst 1, 1) := by decide +kernel
theorem dX7_readDigit_27 : decode cX7_readDigit 27 = .ok (.iadd, 1) := by decide +kernel
theorem dX7_readDigit_28 : decode cX7_readDigit 28 = .ok (.putfield 28, 3) := by decide +kernel
theorem dX7_readDigit_31 : decode cX7_readDigit 31 = .ok (.iload_n 3, 1) := by decide +kernel
theorem dX7_readDigit_32 : decode cX7_readDigit 32 = .ok (.ireturn, 1) := by decide +kernel
theorem dJ6_compare_7cf53_0 : decode cJ6_compare_7cf53 0 = .ok (.iload_n 0, 1) := by decide +kernel
theorem dJ6_compare_7cf53_1 : decode cJ6_compare_7cf53 1 = .ok (.iload_n 1, 1) := by decide +kernel
theorem dJ6_compare_7cf53_2 : decode cJ6_compare_7cf53 2 = .ok (.if_icmp .ge 7, 3) := by decide +kernel
theorem dJ6_compare_7cf53_5 : decode cJ6_compare_7cf53 5 = .ok (.iconst (-1), 1) := by decide +kernel
theorem dJ6_compare_7cf53_6 : decode cJ6_compare_7cf53 6 = .ok (.goto 13, 3) := by decide +kernel
theorem dJ6_compare_7cf53_9 : decode cJ6_compare_7cf53 9 = .ok (.iload_n 0, 1) := by decide +kernel
theorem dJ6_compare_7cf53_10 : decode cJ6_compare_7cf53 10 = .ok (.iload_n 1, 1) := by decide +kernel
theorem dJ6_compare_7cf53_11 : decode cJ6_compare_7cf53 11 = .ok (.if_icmp .ne 7, 3) := by decide +kernel
theorem dJ6_compare_7cf53_14 : decode cJ6_compare_7cf53 14 = .ok (.iconst 0, 1) := by decide +kernel
theorem dJ6_compare_7cf53_15 : decode cJ6_compare_7cf53 15 = .ok (.goto 4, 3) := by decide +kernel
theorem dJ6_compare_7cf53_18 : decode cJ6_compare_7cf53 18 = .ok (.iconst 1, 1) := by decide +kernel
theorem dJ6_compare_7cf53_19 : decode cJ6_compare_7cf53 19 = .ok (.ireturn, 1) := by decide +kernel
theorem dJ6_bitCount_0f7a4_0 : decode cJ6_bitCount_0f7a4 0 = .ok (.iload_n 0, 1) := by decide +kernel
theorem dJ6_bitCount_0f7a4_1 : decode cJ6_bitCount_0f7a4 1 = .ok (.iload_n 0, 1) := by decide +kernel
theorem dJ6_bitCount_0f7a4_2 : decode cJ6_bitCount_0f7a4 2 = .ok (.iconst 1, 1) := by decide +kernel
theorem dJ6_bitCount_0f7a4_3 : decode cJ6_bitCount_0f7a4 3 = .ok (.iushr, 1) := by decide +kernel
theorem dJ6_bitCount_0f7a4_4 : decode cJ6_bitCount_0f7a4 4 = .ok (.ldc_w 265, 3) := by decide +kernel
theorem dJ6_bitCount_0f7a4_7 : decode cJ6_bitCount_0f7a4 7 = .ok (.iand, 1) := by decide +kernel
theorem dJ6_bitCount_0f7a4_8 : decode cJ6_bitCount_0f7a4 8 = .ok (.isub, 1) := by decide +kernel
theorem dJ6_bitCount_0f7a4_9 : decode cJ6_bitCount_0f7a4 9 = .ok (.istore_n 0, 1) := by decide +kernel
theorem dJ6_bitCount_0f7a4_10 : decode cJ6_bitCount_0f7a4 10 = .ok (.iload_n 0, 1) := by decide +kernel
theorem dJ6_bitCount_0f7a4_11 : decode cJ6_bitCount_0f7a4 11 = .ok (.ldc_w 266, 3) := by decide +kernel
theorem dJ6_bitCount_0f7a4_14 : decode cJ6_bitCount_0f7a4 14 = .ok (.iand, 1) := by decide +kernel
theorem dJ6_bitCount_0f7a4_15 : decode cJ6_bitCount_0f7a4 15 = .ok (.iload_n 0, 1) := by decide +kernel
theorem dJ6_bitCount_0f7a4_16 : decode cJ6_bitCount_0f7a4 16 = .ok (.iconst 2, 1) := by decide +kernel
theorem dJ6_bitCount_0f7a4_17 : decode cJ6_bitCount_0f7a4 17 = .ok (.iushr, 1) := by decide +kernel
theorem dJ6_bitCount_0f7a4_18 : decode cJ6_bitCount_0f7a4 18 = .ok (.ldc_w 266, 3) := by decide +kernel
theorem dJ6_bitCount_0f7a4_21 : decode cJ6_bitCount_0f7a4 21 = .ok (.iand, 1) := by decide +kernel
theorem dJ6_bitCount_0f7a4_22 : decode cJ6_bitCount_0f7a4 22 = .ok (.iadd, 1) := by decide +kernel
theorem dJ6_bitCount_0f7a4_23 : decode cJ6_bitCount_0f7a4 23 = .ok (.istore_n 0, 1) := by decide +kernel
theorem dJ6_bitCount_0f7a4_24 : decode cJ6_bitCount_0f7a4 24 = .ok (.iload_n 0, 1) := by decide +kernel
theorem dJ6_bitCount_0f7a4_25 : decode cJ6_bitCount_0f7a4 25 = .ok (.iload_n 0, 1) := by decide +kernel
theorem dJ6_bitCount_0f7a4_26 : decode cJ6_bitCount_0f7a4 26 = .ok (.iconst 4, 1) := by decide +kernel
theorem dJ6_bitCount_0f7a4_27 : decode cJ6_bitCount_0f7a4 27 = .ok (.iushr, 1) := by decide +kernel
theorem dJ6_bitCount_0f7a4_28 : decode cJ6_bitCount_0f7a4 28 = .ok (.iadd, 1) := by decide +kernel
theorem dJ6_bitCount_0f7a4_29 : decode cJ6_bitCount_0f7a4 29 = .ok (.ldc_w 267, 3) := by decide +kernel
theorem dJ6_bitCount_0f7a4_32 : decode cJ6_bitCount_0f7a4 32 = .ok (.iand, 1) := by decide +kernel
theorem dJ6_bitCount_0f7a4_33 : decode cJ6_bitCount_0f7a4 33 = .ok (.istore_n 0, 1) := by decide +kernel
theorem dJ6_bitCount_0f7a4_34 : decode cJ6_bitCount_0f7a4 34 = .ok (.iload_n 0, 1) := by decide +kernel
theorem dJ6_bitCount_0f7a4_35 : decode cJ6_bitCount_0f7a4 35 = .ok (.iload_n 0, 1) := by decide +kernel
theorem dJ6_bitCount_0f7a4_36 : decode cJ6_bitCount_0f7a4 36 = .ok (.bipush 8, 2) := by decide +kernel
theorem dJ6_bitCount_0f7a4_38 : decode cJ6_bitCount_0f7a4 38 = .ok (.iushr, 1) := by decide +kernel
theorem dJ6_bitCount_0f7a4_39 : decode cJ6_bitCount_0f7a4 39 = .ok (.iadd, 1) := by decide +kernel
theorem dJ6_bitCount_0f7a4_40 : decode cJ6_bitCount_0f7a4 40 = .ok (.istore_n 0, 1) := by decide +kernel
theorem dJ6_bitCount_0f7a4_41 : decode cJ6_bitCount_0f7a4 41 = .ok (.iload_n 0, 1) := by decide +kernel
theorem dJ6_bitCount_0f7a4_42 : decode cJ6_bitCount_0f7a4 42 = .ok (.iload_n 0, 1) := by decide +kernel
theorem dJ6_bitCount_0f7a4_43 : decode cJ6_bitCount_0f7a4 43 = .ok (.bipush 16, 2) := by decide +kernel
theorem dJ6_bitCount_0f7a4_45 : decode cJ6_bitCount_0f7a4 45 = .ok (.iushr, 1) := by decide +kernel
theorem dJ6_bitCount_0f7a4_46 : decode cJ6_bitCount_0f7a4 46 = .ok (.iadd, 1) := by decide +kernel
theorem dJ6_bitCount_0f7a4_47 : decode cJ6_bitCount_0f7a4 47 = .ok (.istore_n 0, 1) := by decide +kernel
theorem dJ6_bitCount_0f7a4_48 : decode cJ6_bitCount_0f7a4 48 = .ok (.iload_n 0, 1) := by decide +kernel
theorem dJ6_bitCount_0f7a4_49 : decode cJ6_bitCount_0f7a4 49 = .ok (.bipush 63, 2) := by decide +kernel
theorem dJ6_bitCount_0f7a4_51 : decode cJ6_bitCount_0f7a4 51 = .ok (.iand, 1) := by decide +kernel
theorem dJ6_bitCount_0f7a4_52 : decode cJ6_bitCount_0f7a4 52 = .ok (.ireturn, 1) := by decide +kernel
theorem dJ9_floorMod_7cf53_0 : decode cJ9_floorMod_7cf53 0 = .ok (.iload_n 0, 1) := by decide +kernel
theorem dJ9_floorMod_7cf53_1 : decode cJ9_floorMod_7cf53 1 = .ok (.iload_n 1, 1) := by decide +kernel
theorem dJ9_floorMod_7cf53_2 : decode cJ9_floorMod_7cf53 2 = .ok (.irem, 1) := by decide +kernel
theorem dJ9_floorMod_7cf53_3 : decode cJ9_floorMod_7cf53 3 = .ok (.istore_n 2, 1) := by decide +kernel
theorem dJ9_floorMod_7cf53_4 : decode cJ9_floorMod_7cf53 4 = .ok (.iload_n 0, 1) := by decide +kernel
theorem dJ9_floorMod_7cf53_5 : decode cJ9_floorMod_7cf53 5 = .ok (.iload_n 1, 1) := by decide +kernel
theorem dJ9_floorMod_7cf53_6 : decode cJ9_floorMod_7cf53 6 = .ok (.ixor, 1) := by decide +kernel
theorem dJ9_floorMod_7cf53_7 : decode cJ9_floorMod_7cf53 7 = .ok (.ifCond .ge 11, 3) := by decide +kernel
theorem dJ9_floorMod_7cf53_10 : decode cJ9_floorMod_7cf53 10 = .ok (.iload_n 2, 1) := by decide +kernel
theorem dJ9_floorMod_7cf53_11 : decode cJ9_floorMod_7cf53 11 = .ok (.ifCond .eq 7, 3) := by decide +kernel
theorem dJ9_floorMod_7cf53_14 : decode cJ9_floorMod_7cf53 14 = .ok (.iload_n 2, 1) := by decide +kernel
theorem dJ9_floorMod_7cf53_15 : decode cJ9_floorMod_7cf53 15 = .ok (.iload_n 1, 1) := by decide +kernel
theorem dJ9_floorMod_7cf53_16 : decode cJ9_floorMod_7cf53 16 = .ok (.iadd, 1) := by decide +kernel
theorem dJ9_floorMod_7cf53_17 : decode cJ9_floorMod_7cf53 17 = .ok (.ireturn, 1) := by decide +kernel
theorem dJ9_floorMod_7cf53_18 : decode cJ9_floorMod_7cf53 18 = .ok (.iload_n 2, 1) := by decide +kernel
theorem dJ9_floorMod_7cf53_19 : decode cJ9_floorMod_7cf53 19 = .ok (.ireturn, 1) := by decide +kernel
theorem dJ9_abs_0f7a4_0 : decode cJ9_abs_0f7a4 0 = .ok (.iload_n 0, 1) := by decide +kernel
theorem dJ9_abs_0f7a4_1 : decode cJ9_abs_0f7a4 1 = .ok (.ifCond .ge 8, 3) := by decide +kernel
theorem dJ9_abs_0f7a4_4 : decode cJ9_abs_0f7a4 4 = .ok (.iload_n 0, 1) := by decide +kernel
theorem dJ9_abs_0f7a4_5 : decode cJ9_abs_0f7a4 5 = .ok (.ineg, 1) := by decide +kernel
theorem dJ9_abs_0f7a4_6 : decode cJ9_abs_0f7a4 6 = .ok (.goto 4, 3) := by decide +kernel
theorem dJ9_abs_0f7a4_9 : decode cJ9_abs_0f7a4 9 = .ok (.iload_n 0, 1) := by decide +kernel
theorem dJ9_abs_0f7a4_10 : decode cJ9_abs_0f7a4 10 = .ok (.ireturn, 1) := by decide +kernel
theorem dJ9_max_7cf53_0 : decode cJ9_max_7cf53 0 = .ok (.iload_n 0, 1) := by decide +kernel
theorem dJ9_max_7cf53_1 : decode cJ9_max_7cf53 1 = .ok (.iload_n 1, 1) := by decide +kernel
theorem dJ9_max_7cf53_2 : decode cJ9_max_7cf53 2 = .ok (.if_icmp .lt 7, 3) := by decide +kernel
theorem dJ9_max_7cf53_5 : decode cJ9_max_7cf53 5 = .ok (.iload_n 0, 1) := by decide +kernel
theorem dJ9_max_7cf53_6 : decode cJ9_max_7cf53 6 = .ok (.goto 4, 3) := by decide +kernel
theorem dJ9_max_7cf53_9 : decode cJ9_max_7cf53 9 = .ok (.iload_n 1, 1) := by decide +kernel
theorem dJ9_max_7cf53_10 : decode cJ9_max_7cf53 10 = .ok (.ireturn, 1) := by decide +kernel
theorem dJ9_min_7cf53_0 : decode cJ9_min_7cf53 0 = .ok (.iload_n 0, 1) := by decide +kernel
theorem dJ9_min_7cf53_1 : decode cJ9_min_7cf53 1 = .ok (.iload_n 1, 1) := by decide +kernel
theorem dJ9_min_7cf53_2 : decode cJ9_min_7cf53 2 = .ok (.if_icmp .gt 7, 3) := by decide +kernel
theorem dJ9_min_7cf53_5 : decode cJ9_min_7cf53 5 = .ok (.iload_n 0, 1) := by decide +kernel
theorem dJ9_min_7cf53_6 : decode cJ9_min_7cf53 6 = .ok (.goto 4, 3) := by decide +kernel
theorem dJ9_min_7cf53_9 : decode cJ9_min_7cf53 9 = .ok (.iload_n 1, 1) := by decide +kernel
theorem dJ9_min_7cf53_10 : decode cJ9_min_7cf53 10 = .ok (.ireturn, 1) := by decide +kernel
