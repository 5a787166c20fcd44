theorem dX9_wage_41 : decode cX9_wage 41 = .ok (.aload_n 0, 1) := by decide +kernel
theorem dX9_wage_42 : decode cX9_wage 42 = .ok (.getfield 7, 3) := by decide +kernel
theorem dX9_wage_45 : decode cX9_wage 45 = .ok (.sipush 182, 3) := by decide +kernel
theorem dX9_wage_48 : decode cX9_wage 48 = .ok (.iload_n 1, 1) := by decide +kernel
theorem dX9_wage_49 : decode cX9_wage 49 = .ok (.iastore, 1) := by decide +kernel
theorem dX9_wage_50 : decode cX9_wage 50 = .ok (.iload_n 2, 1) := by decide +kernel
theorem dX9_wage_51 : decode cX9_wage 51 = .ok (.ireturn, 1) := by decide +kernel
theorem dX9_canLay_0 : decode cX9_canLay 0 = .ok (.iload_n 1, 1) := by decide +kernel
theorem dX9_canLay_1 : decode cX9_canLay 1 = .ok (.iload_n 2, 1) := by decide +kernel
theorem dX9_canLay_2 : decode cX9_canLay 2 = .ok (.if_icmp .eq 35, 3) := by decide +kernel
theorem dX9_canLay_5 : decode cX9_canLay 5 = .ok (.aload_n 0, 1) := by decide +kernel
theorem dX9_canLay_6 : decode cX9_canLay 6 = .ok (.getfield 7, 3) := by decide +kernel
theorem dX9_canLay_9 : decode cX9_canLay 9 = .ok (.iload_n 1, 1) := by decide +kernel
theorem dX9_canLay_10 : decode cX9_canLay 10 = .ok (.iconst 2, 1) := by decide +kernel
theorem dX9_canLay_11 : decode cX9_canLay 11 = .ok (.invokestatic 33, 3) := by decide +kernel
theorem dX9_canLay_14 : decode cX9_canLay 14 = .ok (.iaload, 1) := by decide +kernel
theorem dX9_canLay_15 : decode cX9_canLay 15 = .ok (.ifCond .le 22, 3) := by decide +kernel
theorem dX9_canLay_18 : decode cX9_canLay 18 = .ok (.aload_n 0, 1) := by decide +kernel
theorem dX9_canLay_19 : decode cX9_canLay 19 = .ok (.getfield 7, 3) := by decide +kernel
theorem dX9_canLay_22 : decode cX9_canLay 22 = .ok (.iload_n 2, 1) := by decide +kernel
theorem dX9_canLay_23 : decode cX9_canLay 23 = .ok (.iconst 4, 1) := by decide +kernel
theorem dX9_canLay_24 : decode cX9_canLay 24 = .ok (.invokestatic 29, 3) := by decide +kernel
theorem dX9_canLay_27 : decode cX9_canLay 27 = .ok (.iaload, 1) := by decide +kernel
theorem dX9_canLay_28 : decode cX9_canLay 28 = .ok (.bipush 9, 2) := by decide +kernel
theorem dX9_canLay_30 : decode cX9_canLay 30 = .ok (.if_icmp .ge 7, 3) := by decide +kernel
theorem dX9_canLay_33 : decode cX9_canLay 33 = .ok (.iconst 1, 1) := by decide +kernel
theorem dX9_canLay_34 : decode cX9_canLay 34 = .ok (.goto 4, 3) := by decide +kernel
theorem dX9_canLay_37 : decode cX9_canLay 37 = .ok (.iconst 0, 1) := by decide +kernel
theorem dX9_canLay_38 : decode cX9_canLay 38 = .ok (.ireturn, 1) := by decide +kernel
theorem dX9_lays_0 : decode cX9_lays 0 = .ok (.aload_n 0, 1) := by decide +kernel
theorem dX9_lays_1 : decode cX9_lays 1 = .ok (.getfield 7, 3) := by decide +kernel
theorem dX9_lays_4 : decode cX9_lays 4 = .ok (.iload_n 2, 1) := by decide +kernel
theorem dX9_lays_5 : decode cX9_lays 5 = .ok (.iconst 4, 1) := by decide +kernel
theorem dX9_lays_6 : decode cX9_lays 6 = .ok (.invokestatic 29, 3) := by decide +kernel
theorem dX9_lays_9 : decode cX9_lays 9 = .ok (.iaload, 1) := by decide +kernel
theorem dX9_lays_10 : decode cX9_lays 10 = .ok (.iconst 3, 1) := by decide +kernel
theorem dX9_lays_11 : decode cX9_lays 11 = .ok (.iadd, 1) := by decide +kernel
theorem dX9_lays_12 : decode cX9_lays 12 = .ok (.istore_n 3, 1) := by decide +kernel
theorem dX9_lays_13 : decode cX9_lays 13 = .ok (.aload_n 0, 1) := by decide +kernel
theorem dX9_lays_14 : decode cX9_lays 14 = .ok (.getfield 7, 3) := by decide +kernel
theorem dX9_lays_17 : decode cX9_lays 17 = .ok (.iload_n 2, 1) := by decide +kernel
theorem dX9_lays_18 : decode cX9_lays 18 = .ok (.iconst 4, 1) := by decide +kernel
theorem dX9_lays_19 : decode cX9_lays 19 = .ok (.invokestatic 29, 3) := by decide +kernel
theorem dX9_lays_22 : decode cX9_lays 22 = .ok (.iload_n 3, 1) := by decide +kernel
theorem dX9_lays_23 : decode cX9_lays 23 = .ok (.bipush 9, 2) := by decide +kernel
theorem dX9_lays_25 : decode cX9_lays 25 = .ok (.if_icmp .le 8, 3) := by decide +kernel
theorem dX9_lays_28 : decode cX9_lays 28 = .ok (.bipush 9, 2) := by decide +kernel
theorem dX9_lays_30 : decode cX9_lays 30 = .ok (.goto 4, 3) := by decide +kernel
theorem dX9_lays_33 : decode cX9_lays 33 = .ok (.iload_n 3, 1) := by decide +kernel
theorem dX9_lays_34 : decode cX9_lays 34 = .ok (.iastore, 1) := by decide +kernel
theorem dX9_lays_35 : decode cX9_lays 35 = .ok (.aload_n 0, 1) := by decide +kernel
theorem dX9_lays_36 : decode cX9_lays 36 = .ok (.getfield 7, 3) := by decide +kernel
theorem dX9_lays_39 : decode cX9_lays 39 = .ok (.iload_n 1, 1) := by decide +kernel
theorem dX9_lays_40 : decode cX9_lays 40 = .ok (.iconst 2, 1) := by decide +kernel
theorem dX9_lays_41 : decode cX9_lays 41 = .ok (.invokestatic 33, 3) := by decide +kernel
theorem dX9_lays_44 : decode cX9_lays 44 = .ok (.dup2, 1) := by decide +kernel
theorem dX9_lays_45 : decode cX9_lays 45 = .ok (.iaload, 1) := by decide +kernel
theorem dX9_lays_46 : decode cX9_lays 46 = .ok (.iconst 1, 1) := by decide +kernel
theorem dX9_lays_47 : decode cX9_lays 47 = .ok (.isub, 1) := by decide +kernel
theorem dX9_lays_48 : decode cX9_lays 48 = .ok (.iastore, 1) := by decide +kernel
theorem dX9_lays_49 : decode cX9_lays 49 = .ok (.return_, 1) := by decide +kernel
theorem dX9_card_0 : decode cX9_card 0 = .ok (.iload_n 1, 1) := by decide +kernel
theorem dX9_card_1 : decode cX9_card 1 = .ok (.invokestatic 94, 3) := by decide +kernel
theorem dX9_card_4 : decode cX9_card 4 = .ok (.ifCond .eq 10, 3) := by decide +kernel
theorem dX9_card_7 : decode cX9_card 7 = .ok (.iload_n 2, 1) := by decide +kernel
theorem dX9_card_8 : decode cX9_card 8 = .ok (.invokestatic 94, 3) := by decide +kernel
theorem dX9_card_11 : decode cX9_card 11 = .ok (.ifCond .ne 5, 3) := by decide +kernel
theorem dX9_card_14 : decode cX9_card 14 = .ok (.iconst (-1), 1) := by decide +kernel
theorem dX9_card_15 : decode cX9_card 15 = .ok (.ireturn, 1) := by decide +kernel
theorem dX9_card_16 : decode cX9_card 16 = .ok (.aload_n 0, 1) := by decide +kernel
theorem dX9_card_17 : decode cX9_card 17 = .ok (.iload_n 1, 1) := by decide +kernel
theorem dX9_card_18 : decode cX9_card 18 = .ok (.iload_n 2, 1) := by decide +kernel
theorem dX9_card_19 : decode cX9_card 19 = .ok (.invokevirtual 144, 3) := by decide +kernel
theorem dX9_card_22 : decode cX9_card 22 = .ok (.ifCond .ne 6, 3) := by decide +kernel
theorem dX9_card_25 : decode cX9_card 25 = .ok (.bipush (-4), 2) := by decide +kernel
theorem dX9_card_27 : decode cX9_card 27 = .ok (.ireturn, 1) := by decide +kernel
theorem dX9_card_28 : decode cX9_card 28 = .ok (.aload_n 0, 1) := by decide +kernel
theorem dX9_card_29 : decode cX9_card 29 = .ok (.invokevirtual 87, 3) := by decide +kernel
theorem dX9_card_32 : decode cX9_card 32 = .ok (.aload_n 0, 1) := by decide +kernel
theorem dX9_card_33 : decode cX9_card 33 = .ok (.iload_n 1, 1) := by decide +kernel
theorem dX9_card_34 : decode cX9_card 34 = .ok (.iload_n 2, 1) := by decide +kernel
theorem dX9_card_35 : decode cX9_card 35 = .ok (.invokevirtual 147, 3) := by decide +kernel
theorem dX9_card_38 : decode cX9_card 38 = .ok (.aload_n 0, 1) := by decide +kernel
theorem dX9_card_39 : decode cX9_card 39 = .ok (.getfield 7, 3) := by decide +kernel
theorem dX9_card_42 : decode cX9_card 42 = .ok (.iload_n 2, 1) := by decide +kernel
theorem dX9_card_43 : decode cX9_card 43 = .ok (.iconst 4, 1) := by decide +kernel
theorem dX9_card_44 : decode cX9_card 44 = .ok (.invokestatic 29, 3) := by decide +kernel
theorem dX9_card_47 : decode cX9_card 47 = .ok (.iaload, 1) := by decide +kernel
theorem dX9_card_48 : decode cX9_card 48 = .ok (.ireturn, 1) := by decide +kernel
theorem dX9_type_0 : decode cX9_type 0 = .ok (.aload_n 0, 1) := by decide +kernel
theorem dX9_type_1 : decode cX9_type 1 = .ok (.getfield 151, 3) := by decide +kernel
theorem dX9_type_4 : decode cX9_type 4 = .ok (.bipush 60, 2) := by decide +kernel
theorem dX9_type_6 : decode cX9_type 6 = .ok (.if_icmp .ne 6, 3) := by decide +kernel
theorem dX9_type_9 : decode cX9_type 9 = .ok (.bipush (-3), 2) := by decide +kernel
theorem dX9_type_11 : decode cX9_type 11 = .ok (.ireturn, 1) := by decide +kernel
theorem dX9_type_12 : decode cX9_type 12 = .ok (.aload_n 0, 1) := by decide +kernel
theorem dX9_type_13 : decode cX9_type 13 = .ok (.getfield 22, 3) := by decide +kernel
theorem dX9_type_16 : decode cX9_type 16 = .ok (.aload_n 0, 1) := by decide +kernel
theorem dX9_type_17 : decode cX9_type 17 = .ok (.getfield 151, 3) := by decide +kernel
theorem dX9_type_20 : decode cX9_type 20 = .ok (.iload_n 1, 1) := by decide +kernel
theorem dX9_type_21 : decode cX9_type 21 = .ok (.castore, 1) := by decide +kernel
theorem dX9_type_22 : decode cX9_type 22 = .ok (.aload_n 0, 1) := by decide +kernel
theorem dX9_type_23 : decode cX9_type 23 = .ok (.dup, 1) := by decide +kernel
theorem dX9_type_24 : decode cX9_type 24 = .ok (.getfield 151, 3) := by decide +kernel
theorem dX9_type_27 : decode cX9_type 27 = .ok (.iconst 1, 1) := by decide +kernel
theorem dX9_type_28 : decode cX9_type 28 = .ok (.iadd, 1) := by decide +kernel
theorem dX9_type_29 : decode cX9_type 29 = .ok (.putfield 151, 3) := by decide +kernel
theorem dX9_type_32 : decode cX9_type 32 = .ok (.aload_n 0, 1) := by decide +kernel
theorem dX9_type_33 : decode cX9_type 33 = .ok (.getfield 151, 3) := by decide +kernel
theorem dX9_type_36 : decode cX9_type 36 = .ok (.ireturn, 1) := by decide +kernel
theorem dX9_clearText_0 : decode cX9_clearText 0 = .ok (.aload_n 0, 1) := by decide +kernel
theorem dX9_clearText_1 : decode cX9_clearText 1 = .ok (.getfield 151, 3) := by decide +kernel
theorem dX9_clearText_4 : decode cX9_clearText 4 = .ok (.istore_n 1, 1) := by decide +kernel
theorem dX9_clearText_5 : decode cX9_clearText 5 = .ok (.aload_n 0, 1) := by decide +kernel
theorem dX9_clearText_6 : decode cX9_clearText 6 = .ok (.iconst 0, 1) := by decide +kernel
theorem dX9_clearText_7 : decode cX9_clearText 7 = .ok (.putfield 151, 3) := by decide +kernel
theorem dX9_clearText_10 : decode cX9_clearText 10 = .ok (.iload_n 1, 1) := by decide +kernel
theorem dX9_clearText_11 : decode cX9_clearText 11 = .ok (.ireturn, 1) := by decide +kernel
theorem dX9_next_0 : decode cX9_next 0 = .ok (.aload_n 0, 1) := by decide +kernel
theorem dX9_next_1 : decode cX9_next 1 = .ok (.getfield 154, 3) := by decide +kernel
theorem dX9_next_4 : decode cX9_next 4 = .ok (.aload_n 0, 1) := by decide +kernel
theorem dX9_next_5 : decode cX9_next 5 = .ok (.getfield 151, 3) := by decide +kernel
theorem dX9_next_8 : decode cX9_next 8 = .ok (.if_icmp .ge 15, 3) := by decide +kernel
theorem dX9_next_11 : decode cX9_next 11 = .ok (.aload_n 0, 1) := by decide +kernel
theorem dX9_next_12 : decode cX9_next 12 = .ok (.getfield 22, 3) := by decide +kernel
theorem dX9_next_15 : decode cX9_next 15 = .ok (.aload_n 0, 1) := by decide +kernel
theorem dX9_next_16 : decode cX9_next 16 = .ok (.getfield 154, 3) := by decide +kernel
theorem dX9_next_19 : decode cX9_next 19 = .ok (.caload, 1) := by decide +kernel
theorem dX9_next_20 : decode cX9_next 20 = .ok (.goto 4, 3) := by decide +kernel
theorem dX9_next_23 : decode cX9_next 23 = .ok (.iconst (-1), 1) := by decide +kernel
theorem dX9_next_24 : decode cX9_next 24 = .ok (.ireturn, 1) := by decide +kernel
theorem dX9_sign_0 : decode cX9_sign 0 = .ok (.aload_n 0, 1) := by decide +kernel
theorem dX9_sign_1 : decode cX9_sign 1 = .ok (.aload_n 0, 1) := by decide +kernel
theorem dX9_sign_2 : decode cX9_sign 2 = .ok (.getfield 157, 3) := by decide +kernel
theorem dX9_sign_5 : decode cX9_sign 5 = .ok (.ifCond .ne 11, 3) := by decide +kernel
theorem dX9_sign_8 : decode cX9_sign 8 = .ok (.aload_n 0, 1) := by decide +kernel
theorem dX9_sign_9 : decode cX9_sign 9 = .ok (.invokevirtual 161, 3) := by decide +kernel
theorem dX9_sign_12 : decode cX9_sign 12 = .ok (.iload_n 1, 1) := by decide +kernel
theorem dX9_sign_13 : decode cX9_sign 13 = .ok (.if_icmp .eq 7, 3) := by decide +kernel
theorem dX9_sign_16 : decode cX9_sign 16 = .ok (.iconst 1, 1) := by decide +kernel
theorem dX9_sign_17 : decode cX9_sign 17 = .ok (.goto 4, 3) := by decide +kernel
theorem dX9_sign_20 : decode cX9_sign 20 = .ok (.iconst 0, 1) := by decide +kernel
theorem dX9_sign_21 : decode cX9_sign 21 = .ok (.putfield 157, 3) := by decide +kernel
theorem dX9_sign_24 : decode cX9_sign 24 = .ok (.aload_n 0, 1) := by decide +kernel
theorem dX9_sign_25 : decode cX9_sign 25 = .ok (.dup, 1) := by decide +kernel
theorem dX9_sign_26 : decode cX9_sign 26 = .ok (.getfield 154, 3) := by decide +kernel
theorem dX9_sign_29 : decode cX9_sign 29 = .ok (.aload_n 0, 1) := by decide +kernel
theorem dX9_sign_30 : decode cX9_sign 30 = .ok (.getfield 157, 3) := by decide +kernel
theorem dX9_sign_33 : decode cX9_sign 33 = .ok (.ifCond .eq 7, 3) := by decide +kernel
theorem dX9_sign_36 : decode cX9_sign 36 = .ok (.iconst 0, 1) := by decide +kernel
theorem dX9_sign_37 : decode cX9_sign 37 = .ok (.goto 4, 3) := by decide +kernel
theorem dX9_sign_40 : decode cX9_sign 40 = .ok (.iconst 1, 1) := by decide +kernel
theorem dX9_sign_41 : decode cX9_sign 41 = .ok (.iadd, 1) := by decide +kernel
theorem dX9_sign_42 : decode cX9_sign 42 = .ok (.putfield 154, 3) := by decide +kernel
theorem dX9_sign_45 : decode cX9_sign 45 = .ok (.return_, 1) := by decide +kernel
theorem dX9_digit_0 : decode cX9_digit 0 = .ok (.aload_n 0, 1) := by decide +kernel
theorem dX9_digit_1 : decode cX9_digit 1 = .ok (.invokevirtual 161, 3) := by decide +kernel
theorem dX9_digit_4 : decode cX9_digit 4 = .ok (.bipush 48, 2) := by decide +kernel
theorem dX9_digit_6 : decode cX9_digit 6 = .ok (.isub, 1) := by decide +kernel
theorem dX9_digit_7 : decode cX9_digit 7 = .ok (.istore_n 3, 1) := by decide +kernel
theorem dX9_digit_8 : decode cX9_digit 8 = .ok (.aload_n 0, 1) := by decide +kernel
theorem dX9_digit_9 : decode cX9_digit 9 = .ok (.aload_n 0, 1) := by decide +kernel
theorem dX9_digit_10 : decode cX9_digit 10 = .ok (.getfield 157, 3) := by decide +kernel
theorem dX9_digit_13 : decode cX9_digit 13 = .ok (.ifCond .ne 12, 3) := by decide +kernel
theorem dX9_digit_16 : decode cX9_digit 16 = .ok (.iload_n 3, 1) := by decide +kernel
theorem dX9_digit_17 : decode cX9_digit 17 = .ok (.iload_n 1, 1) := by decide +kernel
theorem dX9_digit_18 : decode cX9_digit 18 = .ok (.iload_n 2, 1) := by decide +kernel
theorem dX9_digit_19 : decode cX9_digit 19 = .ok (.invokestatic 36, 3) := by decide +kernel
theorem dX9_digit_22 : decode cX9_digit 22 = .ok (.ifCond .ne 7, 3) := by decide +kernel
theorem dX9_digit_25 : decode cX9_digit 25 = .ok (.iconst 1, 1) := by decide +kernel
theorem dX9_digit_26 : decode cX9_digit 26 = .ok (.goto 4, 3) := by decide +kernel
theorem dX9_digit_29 : decode cX9_digit 29 = .ok (.iconst 0, 1) := by decide +kernel
theorem dX9_digit_30 : decode cX9_digit 30 = .ok (.putfield 157, 3) := by decide +kernel
theorem dX9_digit_33 : decode cX9_digit 33 = .ok (.aload_n 0, 1) := by decide +kernel
theorem dX9_digit_34 : decode cX9_digit 34 = .ok (.dup, 1) := by decide +kernel
theorem dX9_digit_35 : decode cX9_digit 35 = .ok (.getfield 154, 3) := by decide +kernel
theorem dX9_digit_38 : decode cX9_digit 38 = .ok (.aload_n 0, 1) := by decide +kernel
theorem dX9_digit_39 : decode cX9_digit 39 = .ok (.getfield 157, 3) := by decide +kernel
theorem dX9_digit_42 : decode cX9_digit 42 = .ok (.ifCond .eq 7, 3) := by decide +kernel
theorem dX9_digit_45 : decode cX9_digit 45 = .ok (.iconst 0, 1) := by decide +kernel
theorem dX9_digit_46 : decode cX9_digit 46 = .ok (.goto 4, 3) := by decide +kernel
theorem dX9_digit_49 : decode cX9_digit 49 = .ok (.iconst 1, 1) := by decide +kernel
theorem dX9_digit_50 : decode cX9_digit 50 = .ok (.iadd, 1) := by decide +kernel
theorem dX9_digit_51 : decode cX9_digit 51 = .ok (.putfield 154, 3) := by decide +kernel
theorem dX9_digit_54 : decode cX9_digit 54 = .ok (.iload_n 3, 1) := by decide +kernel
theorem dX9_digit_55 : decode cX9_digit 55 = .ok (.ireturn, 1) := by decide +kernel
theorem dX9_cell_0 : decode cX9_cell 0 = .ok (.aload_n 0, 1) := by decide +kernel
theorem dX9_cell_1 : decode cX9_cell 1 = .ok (.iconst 0, 1) := by decide +kernel
theorem dX9_cell_2 : decode cX9_cell 2 = .ok (.bipush 9, 2) := by decide +kernel
theorem dX9_cell_4 : decode cX9_cell 4 = .ok (.invokevirtual 164, 3) := by decide +kernel
theorem dX9_cell_7 : decode cX9_cell 7 = .ok (.istore_n 1, 1) := by decide +kernel
theorem dX9_cell_8 : decode cX9_cell 8 = .ok (.aload_n 0, 1) := by decide +kernel
theorem dX9_cell_9 : decode cX9_cell 9 = .ok (.iconst 0, 1) := by decide +kernel
theorem dX9_cell_10 : decode cX9_cell 10 = .ok (.bipush 9, 2) := by decide +kernel
theorem dX9_cell_12 : decode cX9_cell 12 = .ok (.invokevirtual 164, 3) := by decide +kernel
theorem dX9_cell_15 : decode cX9_cell 15 = .ok (.istore_n 2, 1) := by decide +kernel
theorem dX9_cell_16 : decode cX9_cell 16 = .ok (.bipush 10, 2) := by decide +kernel
theorem dX9_cell_18 : decode cX9_cell 18 = .ok (.iload_n 2, 1) := by decide +kernel
theorem dX9_cell_19 : decode cX9_cell 19 = .ok (.imul, 1) := by decide +kernel
theorem dX9_cell_20 : decode cX9_cell 20 = .ok (.iload_n 1, 1) := by decide +kernel
theorem dX9_cell_21 : decode cX9_cell 21 = .ok (.iadd, 1) := by decide +kernel
theorem dX9_cell_22 : decode cX9_cell 22 = .ok (.ireturn, 1) := by decide +kernel
theorem dX9_number_0 : decode cX9_number 0 = .ok (.aload_n 0, 1) := by decide +kernel
theorem dX9_number_1 : decode cX9_number 1 = .ok (.iconst 1, 1) := by decide +kernel
theorem dX9_number_2 : decode cX9_number 2 = .ok (.bipush 9, 2) := by decide +kernel
theorem dX9_number_4 : decode cX9_number 4 = .ok (.invokevirtual 164, 3) := by decide +kernel
theorem dX9_number_7 : decode cX9_number 7 = .ok (.istore_n 2, 1) := by decide +kernel
theorem dX9_number_8 : decode cX9_number 8 = .ok (.bipush 10, 2) := by decide +kernel
theorem dX9_number_10 : decode cX9_number 10 = .ok (.iload_n 2, 1) := by decide +kernel
theorem dX9_number_11 : decode cX9_number 11 = .ok (.imul, 1) := by decide +kernel
theorem dX9_number_12 : decode cX9_number 12 = .ok (.aload_n 0, 1) := by decide +kernel
theorem dX9_number_13 : decode cX9_number 13 = .ok (.invokevirtual 161, 3) := by decide +kernel
theorem dX9_number_16 : decode cX9_number 16 = .ok (.iadd, 1) := by decide +kernel
theorem dX9_number_17 : decode cX9_number 17 = .ok (.bipush 48, 2) := by decide +kernel
theorem dX9_number_19 : decode cX9_number 19 = .ok (.isub, 1) := by decide +kernel
theorem dX9_number_20 : decode cX9_number 20 = .ok (.istore_n 3, 1) := by decide +kernel
theorem dX9_number_21 : decode cX9_number 21 = .ok (.aload_n 0, 1) := by decide +kernel
theorem dX9_number_22 : decode cX9_number 22 = .ok (.getfield 157, 3) := by decide +kernel
theorem dX9_number_25 : decode cX9_number 25 = .ok (.ifCond .ne 34, 3) := by decide +kernel
theorem dX9_number_28 : decode cX9_number 28 = .ok (.aload_n 0, 1) := by decide +kernel
theorem dX9_number_29 : decode cX9_number 29 = .ok (.invokevirtual 161, 3) := by decide +kernel
theorem dX9_number_32 : decode cX9_number 32 = .ok (.bipush 48, 2) := by decide +kernel
theorem dX9_number_34 : decode cX9_number 34 = .ok (.bipush 57, 2) := by decide +kernel
theorem dX9_number_36 : decode cX9_number 36 = .ok (.invokestatic 36, 3) := by decide +kernel
theorem dX9_number_39 : decode cX9_number 39 = .ok (.ifCond .eq 20, 3) := by decide +kernel
theorem dX9_number_42 : decode cX9_number 42 = .ok (.iload_n 3, 1) := by decide +kernel
theorem dX9_number_43 : decode cX9_number 43 = .ok (.iload_n 1, 1) := by decide +kernel
theorem dX9_number_44 : decode cX9_number 44 = .ok (.if_icmp .gt 15, 3) := by decide +kernel
theorem dX9_number_47 : decode cX9_number 47 = .ok (.aload_n 0, 1) := by decide +kernel
theorem dX9_number_48 : decode cX9_number 48 = .ok (.dup, 1) := by decide +kernel
theorem dX9_number_49 : decode cX9_number 49 = .ok (.getfield 154, 3) := by decide +kernel
theorem dX9_number_52 : decode cX9_number 52 = .ok (.iconst 1, 1) := by decide +kernel
theorem dX9_number_53 : decode cX9_number 53 = .ok (.iadd, 1) := by decide +kernel
theorem dX9_number_54 : decode cX9_number 54 = .ok (.putfield 154, 3) := by decide +kernel
theorem dX9_number_57 : decode cX9_number 57 = .ok (.iload_n 3, 1) := by decide +kernel
theorem dX9_number_58 : decode cX9_number 58 = .ok (.ireturn, 1) := by decide +kernel
theorem dX9_number_59 : decode cX9_number 59 = .ok (.iload_n 2, 1) := by decide +kernel
theorem dX9_number_60 : decode cX9_number 60 = .ok (.ireturn, 1) := by decide +kernel
theorem dX9_part_0 : decode cX9_part 0 = .ok (.aload_n 0, 1) := by decide +kernel
theorem dX9_part_1 : decode cX9_part 1 = .ok (.aload_n 0, 1) := by decide +kernel
theorem dX9_part_2 : decode cX9_part 2 = .ok (.getfield 157, 3) := by decide +kernel
theorem dX9_part_5 : decode cX9_part 5 = .ok (.ifCond .eq 7, 3) := by decide +kernel
theorem dX9_part_8 : decode cX9_part 8 = .ok (.iconst (-1), 1) := by decide +kernel
theorem dX9_part_9 : decode cX9_part 9 = .ok (.goto 7, 3) := by decide +kernel
theorem dX9_part_12 : decode cX9_part 12 = .ok (.aload_n 0, 1) := by decide +kernel
theorem dX9_part_13 : decode cX9_part 13 = .ok (.invokevirtual 161, 3) := by decide +kernel
theorem dX9_part_16 : decode cX9_part 16 = .ok (.putfield 167, 3) := by decide +kernel
theorem dX9_part_19 : decode cX9_part 19 = .ok (.aload_n 0, 1) := by decide +kernel
theorem dX9_part_20 : decode cX9_part 20 = .ok (.aload_n 0, 1) := by decide +kernel
theorem dX9_part_21 : decode cX9_part 21 = .ok (.getfield 157, 3) := by decide +kernel
theorem dX9_part_24 : decode cX9_part 24 = .ok (.ifCond .ne 39, 3) := by decide +kernel
theorem dX9_part_27 : decode cX9_part 27 = .ok (.aload_n 0, 1) := by decide +kernel
theorem dX9_part_28 : decode cX9_part 28 = .ok (.getfield 167, 3) := by decide +kernel
theorem dX9_part_31 : decode cX9_part 31 = .ok (.bipush 114, 2) := by decide +kernel
theorem dX9_part_33 : decode cX9_part 33 = .ok (.if_icmp .eq 34, 3) := by decide +kernel
theorem dX9_part_36 : decode cX9_part 36 = .ok (.aload_n 0, 1) := by decide +kernel
theorem dX9_part_37 : decode cX9_part 37 = .ok (.getfield 167, 3) := by decide +kernel
theorem dX9_part_40 : decode cX9_part 40 = .ok (.bipush 115, 2) := by decide +kernel
theorem dX9_part_42 : decode cX9_part 42 = .ok (.if_icmp .eq 25, 3) := by decide +kernel
theorem dX9_part_45 : decode cX9_part 45 = .ok (.aload_n 0, 1) := by decide +kernel
theorem dX9_part_46 : decode cX9_part 46 = .ok (.getfield 167, 3) := by decide +kernel
theorem dX9_part_49 : decode cX9_part 49 = .ok (.bipush 100, 2) := by decide +kernel
theorem dX9_part_51 : decode cX9_part 51 = .ok (.if_icmp .eq 16, 3) := by decide +kernel
theorem dX9_part_54 : decode cX9_part 54 = .ok (.aload_n 0, 1) := by decide +kernel
theorem dX9_part_55 : decode cX9_part 55 = .ok (.getfield 167, 3) := by decide +kernel
theorem dX9_part_58 : decode cX9_part 58 = .ok (.bipush 104, 2) := by decide +kernel
theorem dX9_part_60 : decode cX9_part 60 = .ok (.if_icmp .eq 7, 3) := by decide +kernel
theorem dX9_part_63 : decode cX9_part 63 = .ok (.iconst 1, 1) := by decide +kernel
theorem dX9_part_64 : decode cX9_part 64 = .ok (.goto 4, 3) := by decide +kernel
theorem dX9_part_67 : decode cX9_part 67 = .ok (.iconst 0, 1) := by decide +kernel
theorem dX9_part_68 : decode cX9_part 68 = .ok (.putfield 157, 3) := by decide +kernel
theorem dX9_part_71 : decode cX9_part 71 = .ok (.aload_n 0, 1) := by decide +kernel
theorem dX9_part_72 : decode cX9_part 72 = .ok (.dup, 1) := by decide +kernel
theorem dX9_part_73 : decode cX9_part 73 = .ok (.getfield 154, 3) := by decide +kernel
theorem dX9_part_76 : decode cX9_part 76 = .ok (.aload_n 0, 1) := by decide +kernel
theorem dX9_part_77 : decode cX9_part 77 = .ok (.getfield 157, 3) := by decide +kernel
theorem dX9_part_80 : decode cX9_part 80 = .ok (.ifCond .eq 7, 3) := by decide +kernel
theorem dX9_part_83 : decode cX9_part 83 = .ok (.iconst 0, 1) := by decide +kernel
theorem dX9_part_84 : decode cX9_part 84 = .ok (.goto 4, 3) := by decide +kernel
theorem dX9_part_87 : decode cX9_part 87 = .ok (.iconst 1, 1) := by decide +kernel
theorem dX9_part_88 : decode cX9_part 88 = .ok (.iadd, 1) := by decide +kernel
theorem dX9_part_89 : decode cX9_part 89 = .ok (.putfield 154, 3) := by decide +kernel
theorem dX9_part_92 : decode cX9_part 92 = .ok (.aload_n 0, 1) := by decide +kernel
theorem dX9_part_93 : decode cX9_part 93 = .ok (.getfield 167, 3) := by decide +kernel
theorem dX9_part_96 : decode cX9_part 96 = .ok (.lookupswitch 112 #[(100, 88), (114, 36), (115, 47)], 36) := by decide +kernel
theorem dX9_part_132 : decode cX9_part 132 = .ok (.aload_n 0, 1) := by decide +kernel
theorem dX9_part_133 : decode cX9_part 133 = .ok (.aload_n 0, 1) := by decide +kernel
theorem dX9_part_134 : decode cX9_part 134 = .ok (.invokevirtual 170, 3) := by decide +kernel
theorem dX9_part_137 : decode cX9_part 137 = .ok (.putfield 173, 3) := by decide +kernel
theorem dX9_part_140 : decode cX9_part 140 = .ok (.goto 78, 3) := by decide +kernel
theorem dX9_part_143 : decode cX9_part 143 = .ok (.aload_n 0, 1) := by decide +kernel
theorem dX9_part_144 : decode cX9_part 144 = .ok (.aload_n 0, 1) := by decide +kernel
theorem dX9_part_145 : decode cX9_part 145 = .ok (.bipush 99, 2) := by decide +kernel
theorem dX9_part_147 : decode cX9_part 147 = .ok (.invokevirtual 176, 3) := by decide +kernel
theorem dX9_part_150 : decode cX9_part 150 = .ok (.putfield 173, 3) := by decide +kernel
theorem dX9_part_153 : decode cX9_part 153 = .ok (.aload_n 0, 1) := by decide +kernel
theorem dX9_part_154 : decode cX9_part 154 = .ok (.bipush 58, 2) := by decide +kernel
theorem dX9_part_156 : decode cX9_part 156 = .ok (.invokevirtual 179, 3) := by decide +kernel
theorem dX9_part_159 : decode cX9_part 159 = .ok (.aload_n 0, 1) := by decide +kernel
theorem dX9_part_160 : decode cX9_part 160 = .ok (.aload_n 0, 1) := by decide +kernel
theorem dX9_part_161 : decode cX9_part 161 = .ok (.invokevirtual 170, 3) := by decide +kernel
theorem dX9_part_164 : decode cX9_part 164 = .ok (.putfield 182, 3) := by decide +kernel
theorem dX9_part_167 : decode cX9_part 167 = .ok (.aload_n 0, 1) := by decide +kernel
theorem dX9_part_168 : decode cX9_part 168 = .ok (.bipush 62, 2) := by decide +kernel
theorem dX9_part_170 : decode cX9_part 170 = .ok (.invokevirtual 179, 3) := by decide +kernel
theorem dX9_part_173 : decode cX9_part 173 = .ok (.aload_n 0, 1) := by decide +kernel
theorem dX9_part_174 : decode cX9_part 174 = .ok (.aload_n 0, 1) := by decide +kernel
theorem dX9_part_175 : decode cX9_part 175 = .ok (.invokevirtual 170, 3) := by decide +kernel
theorem dX9_part_178 : decode cX9_part 178 = .ok (.putfield 185, 3) := by decide +kernel
theorem dX9_part_181 : decode cX9_part 181 = .ok (.goto 37, 3) := by decide +kernel
theorem dX9_part_184 : decode cX9_part 184 = .ok (.aload_n 0, 1) := by decide +kernel
theorem dX9_part_185 : decode cX9_part 185 = .ok (.aload_n 0, 1) := by decide +kernel
theorem dX9_part_186 : decode cX9_part 186 = .ok (.iconst 0, 1) := by decide +kernel
theorem dX9_part_187 : decode cX9_part 187 = .ok (.iconst 3, 1) := by decide +kernel
theorem dX9_part_188 : decode cX9_part 188 = .ok (.invokevirtual 164, 3) := by decide +kernel
theorem dX9_part_191 : decode cX9_part 191 = .ok (.putfield 173, 3) := by decide +kernel
theorem dX9_part_194 : decode cX9_part 194 = .ok (.aload_n 0, 1) := by decide +kernel
theorem dX9_part_195 : decode cX9_part 195 = .ok (.aload_n 0, 1) := by decide +kernel
theorem dX9_part_196 : decode cX9_part 196 = .ok (.iconst 0, 1) := by decide +kernel
theorem dX9_part_197 : decode cX9_part 197 = .ok (.bipush 7, 2) := by decide +kernel
theorem dX9_part_199 : decode cX9_part 199 = .ok (.invokevirtual 164, 3) := by decide +kernel
theorem dX9_part_202 : decode cX9_part 202 = .ok (.putfield 182, 3) := by decide +kernel
theorem dX9_part_205 : decode cX9_part 205 = .ok (.goto 13, 3) := by decide +kernel
theorem dX9_part_208 : decode cX9_part 208 = .ok (.aload_n 0, 1) := by decide +kernel
theorem dX9_part_209 : decode cX9_part 209 = .ok (.aload_n 0, 1) := by decide +kernel
theorem dX9_part_210 : decode cX9_part 210 = .ok (.bipush 20, 2) := by decide +kernel
theorem dX9_part_212 : decode cX9_part 212 = .ok (.invokevirtual 176, 3) := by decide +kernel
theorem dX9_part_215 : decode cX9_part 215 = .ok (.putfield 173, 3) := by decide +kernel
theorem dX9_part_218 : decode cX9_part 218 = .ok (.return_, 1) := by decide +kernel
theorem dX9_parts_0 : decode cX9_parts 0 = .ok (.aload_n 0, 1) := by decide +kernel
theorem dX9_parts_1 : decode cX9_parts 1 = .ok (.iconst 0, 1) := by decide +kernel
theorem dX9_parts_2 : decode cX9_parts 2 = .ok (.putfield 154, 3) := by decide +kernel
theorem dX9_parts_5 : decode cX9_parts 5 = .ok (.aload_n 0, 1) := by decide +kernel
theorem dX9_parts_6 : decode cX9_parts 6 = .ok (.iconst 0, 1) := by decide +kernel
theorem dX9_parts_7 : decode cX9_parts 7 = .ok (.putfield 157, 3) := by decide +kernel
theorem dX9_parts_10 : decode cX9_parts 10 = .ok (.iconst 0, 1) := by decide +kernel
theorem dX9_parts_11 : decode cX9_parts 11 = .ok (.istore_n 1, 1) := by decide +kernel
theorem dX9_parts_12 : decode cX9_parts 12 = .ok (.iconst 1, 1) := by decide +kernel
theorem dX9_parts_13 : decode cX9_parts 13 = .ok (.istore_n 2, 1) := by decide +kernel
theorem dX9_parts_14 : decode cX9_parts 14 = .ok (.iload_n 2, 1) := by decide +kernel
theorem dX9_parts_15 : decode cX9_parts 15 = .ok (.ifCond .eq 60, 3) := by decide +kernel
theorem dX9_parts_18 : decode cX9_parts 18 = .ok (.aload_n 0, 1) := by decide +kernel
theorem dX9_parts_19 : decode cX9_parts 19 = .ok (.invokevirtual 188, 3) := by decide +kernel
theorem dX9_parts_22 : decode cX9_parts 22 = .ok (.iinc 1 1, 3) := by decide +kernel
theorem dX9_parts_25 : decode cX9_parts 25 = .ok (.aload_n 0, 1) := by decide +kernel
theorem dX9_parts_26 : decode cX9_parts 26 = .ok (.getfield 157, 3) := by decide +kernel
theorem dX9_parts_29 : decode cX9_parts 29 = .ok (.ifCond .ne 18, 3) := by decide +kernel
theorem dX9_parts_32 : decode cX9_parts 32 = .ok (.aload_n 0, 1) := by decide +kernel
theorem dX9_parts_33 : decode cX9_parts 33 = .ok (.getfield 154, 3) := by decide +kernel
theorem dX9_parts_36 : decode cX9_parts 36 = .ok (.aload_n 0, 1) := by decide +kernel
theorem dX9_parts_37 : decode cX9_parts 37 = .ok (.getfield 151, 3) := by decide +kernel
theorem dX9_parts_40 : decode cX9_parts 40 = .ok (.if_icmp .ge 7, 3) := by decide +kernel
theorem dX9_parts_43 : decode cX9_parts 43 = .ok (.iconst 1, 1) := by decide +kernel
theorem dX9_parts_44 : decode cX9_parts 44 = .ok (.goto 4, 3) := by decide +kernel
theorem dX9_parts_47 : decode cX9_parts 47 = .ok (.iconst 0, 1) := by decide +kernel
theorem dX9_parts_48 : decode cX9_parts 48 = .ok (.istore_n 2, 1) := by decide +kernel
theorem dX9_parts_49 : decode cX9_parts 49 = .ok (.iload_n 2, 1) := by decide +kernel
theorem dX9_parts_50 : decode cX9_parts 50 = .ok (.ifCond .eq (-36), 3) := by decide +kernel
theorem dX9_parts_53 : decode cX9_parts 53 = .ok (.aload_n 0, 1) := by decide +kernel
theorem dX9_parts_54 : decode cX9_parts 54 = .ok (.bipush 59, 2) := by decide +kernel
theorem dX9_parts_56 : decode cX9_parts 56 = .ok (.invokevirtual 179, 3) := by decide +kernel
theorem dX9_parts_59 : decode cX9_parts 59 = .ok (.aload_n 0, 1) := by decide +kernel
theorem dX9_parts_60 : decode cX9_parts 60 = .ok (.getfield 157, 3) := by decide +kernel
theorem dX9_parts_63 : decode cX9_parts 63 = .ok (.ifCond .ne 7, 3) := by decide +kernel
theorem dX9_parts_66 : decode cX9_parts 66 = .ok (.iconst 1, 1) := by decide +kernel
theorem dX9_parts_67 : decode cX9_parts 67 = .ok (.goto 4, 3) := by decide +kernel
theorem dX9_parts_70 : decode cX9_parts 70 = .ok (.iconst 0, 1) := by decide +kernel
theorem dX9_parts_71 : decode cX9_parts 71 = .ok (.istore_n 2, 1) := by decide +kernel
theorem dX9_parts_72 : decode cX9_parts 72 = .ok (.goto (-58), 3) := by decide +kernel
theorem dX9_parts_75 : decode cX9_parts 75 = .ok (.aload_n 0, 1) := by decide +kernel
theorem dX9_parts_76 : decode cX9_parts 76 = .ok (.getfield 157, 3) := by decide +kernel
theorem dX9_parts_79 : decode cX9_parts 79 = .ok (.ifCond .eq 8, 3) := by decide +kernel
theorem dX9_parts_82 : decode cX9_parts 82 = .ok (.bipush (-5), 2) := by decide +kernel
theorem dX9_parts_84 : decode cX9_parts 84 = .ok (.goto 4, 3) := by decide +kernel
theorem dX9_parts_87 : decode cX9_parts 87 = .ok (.iload_n 1, 1) := by decide +kernel
theorem dX9_parts_88 : decode cX9_parts 88 = .ok (.ireturn, 1) := by decide +kernel
theorem dX9_fault_0 : decode cX9_fault 0 = .ok (.aload_n 0, 1) := by decide +kernel
theorem dX9_fault_1 : decode cX9_fault 1 = .ok (.invokevirtual 191, 3) := by decide +kernel
theorem dX9_fault_4 : decode cX9_fault 4 = .ok (.ifCond .ge 10, 3) := by decide +kernel
theorem dX9_fault_7 : decode cX9_fault 7 = .ok (.aload_n 0, 1) := by decide +kernel
theorem dX9_fault_8 : decode cX9_fault 8 = .ok (.getfield 154, 3) := by decide +kernel
theorem dX9_fault_11 : decode cX9_fault 11 = .ok (.goto 5, 3) := by decide +kernel
theorem dX9_fault_14 : decode cX9_fault 14 = .ok (.bipush (-5), 2) := by decide +kernel
theorem dX9_fault_16 : decode cX9_fault 16 = .ok (.ireturn, 1) := by decide +kernel
theorem dX9_does_0 : decode cX9_does 0 = .ok (.aload_n 0, 1) := by decide +kernel
theorem dX9_does_1 : decode cX9_does 1 = .ok (.getfield 167, 3) := by decide +kernel
theorem dX9_does_4 : decode cX9_does 4 = .ok (.bipush 114, 2) := by decide +kernel
theorem dX9_does_6 : decode cX9_does 6 = .ok (.if_icmp .ne 13, 3) := by decide +kernel
theorem dX9_does_9 : decode cX9_does 9 = .ok (.aload_n 0, 1) := by decide +kernel
theorem dX9_does_10 : decode cX9_does 10 = .ok (.getfield 173, 3) := by decide +kernel
theorem dX9_does_13 : decode cX9_does 13 = .ok (.invokestatic 84, 3) := by decide +kernel
theorem dX9_does_16 : decode cX9_does 16 = .ok (.goto 52, 3) := by decide +kernel
theorem dX9_does_19 : decode cX9_does 19 = .ok (.aload_n 0, 1) := by decide +kernel
theorem dX9_does_20 : decode cX9_does 20 = .ok (.getfield 167, 3) := by decide +kernel
theorem dX9_does_23 : decode cX9_does 23 = .ok (.bipush 115, 2) := by decide +kernel
theorem dX9_does_25 : decode cX9_does 25 = .ok (.if_icmp .ne 22, 3) := by decide +kernel
theorem dX9_does_28 : decode cX9_does 28 = .ok (.aload_n 0, 1) := by decide +kernel
theorem dX9_does_29 : decode cX9_does 29 = .ok (.aload_n 0, 1) := by decide +kernel
theorem dX9_does_30 : decode cX9_does 30 = .ok (.getfield 173, 3) := by decide +kernel
theorem dX9_does_33 : decode cX9_does 33 = .ok (.aload_n 0, 1) := by decide +kernel
theorem dX9_does_34 : decode cX9_does 34 = .ok (.getfield 182, 3) := by decide +kernel
theorem dX9_does_37 : decode cX9_does 37 = .ok (.aload_n 0, 1) := by decide +kernel
theorem dX9_does_38 : decode cX9_does 38 = .ok (.getfield 185, 3) := by decide +kernel
theorem dX9_does_41 : decode cX9_does 41 = .ok (.invokevirtual 106, 3) := by decide +kernel
theorem dX9_does_44 : decode cX9_does 44 = .ok (.goto 24, 3) := by decide +kernel
theorem dX9_does_47 : decode cX9_does 47 = .ok (.aload_n 0, 1) := by decide +kernel
theorem dX9_does_48 : decode cX9_does 48 = .ok (.getfield 167, 3) := by decide +kernel
theorem dX9_does_51 : decode cX9_does 51 = .ok (.bipush 104, 2) := by decide +kernel
theorem dX9_does_53 : decode cX9_does 53 = .ok (.if_icmp .ne 14, 3) := by decide +kernel
theorem dX9_does_56 : decode cX9_does 56 = .ok (.aload_n 0, 1) := by decide +kernel
theorem dX9_does_57 : decode cX9_does 57 = .ok (.aload_n 0, 1) := by decide +kernel
theorem dX9_does_58 : decode cX9_does 58 = .ok (.getfield 173, 3) := by decide +kernel
theorem dX9_does_61 : decode cX9_does 61 = .ok (.invokevirtual 135, 3) := by decide +kernel
theorem dX9_does_64 : decode cX9_does 64 = .ok (.goto 4, 3) := by decide +kernel
theorem dX9_does_67 : decode cX9_does 67 = .ok (.iconst 0, 1) := by decide +kernel
theorem dX9_does_68 : decode cX9_does 68 = .ok (.istore_n 1, 1) := by decide +kernel
theorem dX9_does_69 : decode cX9_does 69 = .ok (.iload_n 1, 1) := by decide +kernel
theorem dX9_does_70 : decode cX9_does 70 = .ok (.ifCond .ge 5, 3) := by decide +kernel
theorem dX9_does_73 : decode cX9_does 73 = .ok (.iload_n 1, 1) := by decide +kernel
theorem dX9_does_74 : decode cX9_does 74 = .ok (.ireturn, 1) := by decide +kernel
theorem dX9_does_75 : decode cX9_does 75 = .ok (.aload_n 0, 1) := by decide +kernel
theorem dX9_does_76 : decode cX9_does 76 = .ok (.getfield 167, 3) := by decide +kernel
theorem dX9_does_79 : decode cX9_does 79 = .ok (.lookupswitch 105 #[(100, 80), (114, 33), (115, 60)], 33) := by decide +kernel
theorem dX9_does_112 : decode cX9_does 112 = .ok (.aload_n 0, 1) := by decide +kernel
theorem dX9_does_113 : decode cX9_does 113 = .ok (.getfield 7, 3) := by decide +kernel
theorem dX9_does_116 : decode cX9_does 116 = .ok (.iconst 0, 1) := by decide +kernel
theorem dX9_does_117 : decode cX9_does 117 = .ok (.aload_n 0, 1) := by decide +kernel
theorem dX9_does_118 : decode cX9_does 118 = .ok (.getfield 173, 3) := by decide +kernel
theorem dX9_does_121 : decode cX9_does 121 = .ok (.iadd, 1) := by decide +kernel
theorem dX9_does_122 : decode cX9_does 122 = .ok (.iconst 1, 1) := by decide +kernel
theorem dX9_does_123 : decode cX9_does 123 = .ok (.aload_n 0, 1) := by decide +kernel
theorem dX9_does_124 : decode cX9_does 124 = .ok (.getfield 7, 3) := by decide +kernel
theorem dX9_does_127 : decode cX9_does 127 = .ok (.iconst 0, 1) := by decide +kernel
theorem dX9_does_128 : decode cX9_does 128 = .ok (.aload_n 0, 1) := by decide +kernel
theorem dX9_does_129 : decode cX9_does 129 = .ok (.getfield 173, 3) := by decide +kernel
theorem dX9_does_132 : decode cX9_does 132 = .ok (.iadd, 1) := by decide +kernel
theorem dX9_does_133 : decode cX9_does 133 = .ok (.iaload, 1) := by decide +kernel
theorem dX9_does_134 : decode cX9_does 134 = .ok (.isub, 1) := by decide +kernel
theorem dX9_does_135 : decode cX9_does 135 = .ok (.iastore, 1) := by decide +kernel
theorem dX9_does_136 : decode cX9_does 136 = .ok (.goto 57, 3) := by decide +kernel
theorem dX9_does_139 : decode cX9_does 139 = .ok (.aload_n 0, 1) := by decide +kernel
theorem dX9_does_140 : decode cX9_does 140 = .ok (.aload_n 0, 1) := by decide +kernel
theorem dX9_does_141 : decode cX9_does 141 = .ok (.getfield 173, 3) := by decide +kernel
theorem dX9_does_144 : decode cX9_does 144 = .ok (.aload_n 0, 1) := by decide +kernel
theorem dX9_does_145 : decode cX9_does 145 = .ok (.getfield 182, 3) := by decide +kernel
theorem dX9_does_148 : decode cX9_does 148 = .ok (.aload_n 0, 1) := by decide +kernel
theorem dX9_does_149 : decode cX9_does 149 = .ok (.getfield 185, 3) := by decide +kernel
theorem dX9_does_152 : decode cX9_does 152 = .ok (.invokevirtual 110, 3) := by decide +kernel
theorem dX9_does_155 : decode cX9_does 155 = .ok (.istore_n 2, 1) := by decide +kernel
theorem dX9_does_156 : decode cX9_does 156 = .ok (.goto 37, 3) := by decide +kernel
theorem dX9_does_159 : decode cX9_does 159 = .ok (.aload_n 0, 1) := by decide +kernel
theorem dX9_does_160 : decode cX9_does 160 = .ok (.getfield 7, 3) := by decide +kernel
theorem dX9_does_163 : decode cX9_does 163 = .ok (.aload_n 0, 1) := by decide +kernel
theorem dX9_does_164 : decode cX9_does 164 = .ok (.getfield 173, 3) := by decide +kernel
theorem dX9_does_167 : decode cX9_does 167 = .ok (.iconst 3, 1) := by decide +kernel
theorem dX9_does_168 : decode cX9_does 168 = .ok (.invokestatic 29, 3) := by decide +kernel
theorem dX9_does_171 : decode cX9_does 171 = .ok (.dup2, 1) := by decide +kernel
theorem dX9_does_172 : decode cX9_does 172 = .ok (.iaload, 1) := by decide +kernel
theorem dX9_does_173 : decode cX9_does 173 = .ok (.iconst 1, 1) := by decide +kernel
theorem dX9_does_174 : decode cX9_does 174 = .ok (.aload_n 0, 1) := by decide +kernel
theorem dX9_does_175 : decode cX9_does 175 = .ok (.getfield 182, 3) := by decide +kernel
theorem dX9_does_178 : decode cX9_does 178 = .ok (.ishl, 1) := by decide +kernel
theorem dX9_does_179 : decode cX9_does 179 = .ok (.ixor, 1) := by decide +kernel
theorem dX9_does_180 : decode cX9_does 180 = .ok (.iastore, 1) := by decide +kernel
theorem dX9_does_181 : decode cX9_does 181 = .ok (.goto 12, 3) := by decide +kernel
theorem dX9_does_184 : decode cX9_does 184 = .ok (.aload_n 0, 1) := by decide +kernel
theorem dX9_does_185 : decode cX9_does 185 = .ok (.aload_n 0, 1) := by decide +kernel
theorem dX9_does_186 : decode cX9_does 186 = .ok (.getfield 173, 3) := by decide +kernel
theorem dX9_does_189 : decode cX9_does 189 = .ok (.invokevirtual 138, 3) := by decide +kernel
theorem dX9_does_192 : decode cX9_does 192 = .ok (.istore_n 3, 1) := by decide +kernel
theorem dX9_does_193 : decode cX9_does 193 = .ok (.iconst 0, 1) := by decide +kernel
theorem dX9_does_194 : decode cX9_does 194 = .ok (.ireturn, 1) := by decide +kernel
theorem dX9_doAll_0 : decode cX9_doAll 0 = .ok (.aload_n 0, 1) := by decide +kernel
theorem dX9_doAll_1 : decode cX9_doAll 1 = .ok (.invokevirtual 191, 3) := by decide +kernel
theorem dX9_doAll_4 : decode cX9_doAll 4 = .ok (.istore_n 1, 1) := by decide +kernel
theorem dX9_doAll_5 : decode cX9_doAll 5 = .ok (.iload_n 1, 1) := by decide +kernel
theorem dX9_doAll_6 : decode cX9_doAll 6 = .ok (.ifCond .ge 11, 3) := by decide +kernel
theorem dX9_doAll_9 : decode cX9_doAll 9 = .ok (.bipush (-100), 2) := by decide +kernel
theorem dX9_doAll_11 : decode cX9_doAll 11 = .ok (.aload_n 0, 1) := by decide +kernel
theorem dX9_doAll_12 : decode cX9_doAll 12 = .ok (.getfield 154, 3) := by decide +kernel
theorem dX9_doAll_15 : decode cX9_doAll 15 = .ok (.isub, 1) := by decide +kernel
theorem dX9_doAll_16 : decode cX9_doAll 16 = .ok (.ireturn, 1) := by decide +kernel
theorem dX9_doAll_17 : decode cX9_doAll 17 = .ok (.aload_n 0, 1) := by decide +kernel
theorem dX9_doAll_18 : decode cX9_doAll 18 = .ok (.invokevirtual 194, 3) := by decide +kernel
theorem dX9_doAll_21 : decode cX9_doAll 21 = .ok (.aload_n 0, 1) := by decide +kernel
theorem dX9_doAll_22 : decode cX9_doAll 22 = .ok (.iconst 0, 1) := by decide +kernel
theorem dX9_doAll_23 : decode cX9_doAll 23 = .ok (.putfield 154, 3) := by decide +kernel
theorem dX9_doAll_26 : decode cX9_doAll 26 = .ok (.iconst 0, 1) := by decide +kernel
theorem dX9_doAll_27 : decode cX9_doAll 27 = .ok (.istore_n 2, 1) := by decide +kernel
theorem dX9_doAll_28 : decode cX9_doAll 28 = .ok (.iconst 0, 1) := by decide +kernel
theorem dX9_doAll_29 : decode cX9_doAll 29 = .ok (.istore_n 3, 1) := by decide +kernel
theorem dX9_doAll_30 : decode cX9_doAll 30 = .ok (.iload_n 3, 1) := by decide +kernel
theorem dX9_doAll_31 : decode cX9_doAll 31 = .ok (.iload_n 1, 1) := by decide +kernel
theorem dX9_doAll_32 : decode cX9_doAll 32 = .ok (.if_icmp .ge 32, 3) := by decide +kernel
theorem dX9_doAll_35 : decode cX9_doAll 35 = .ok (.iload_n 2, 1) := by decide +kernel
theorem dX9_doAll_36 : decode cX9_doAll 36 = .ok (.ifCond .ne 28, 3) := by decide +kernel
theorem dX9_doAll_39 : decode cX9_doAll 39 = .ok (.aload_n 0, 1) := by decide +kernel
theorem dX9_doAll_40 : decode cX9_doAll 40 = .ok (.invokevirtual 188, 3) := by decide +kernel
theorem dX9_doAll_43 : decode cX9_doAll 43 = .ok (.aload_n 0, 1) := by decide +kernel
theorem dX9_doAll_44 : decode cX9_doAll 44 = .ok (.dup, 1) := by decide +kernel
theorem dX9_doAll_45 : decode cX9_doAll 45 = .ok (.getfield 154, 3) := by decide +kernel
theorem dX9_doAll_48 : decode cX9_doAll 48 = .ok (.iconst 1, 1) := by decide +kernel
theorem dX9_doAll_49 : decode cX9_doAll 49 = .ok (.iadd, 1) := by decide +kernel
theorem dX9_doAll_50 : decode cX9_doAll 50 = .ok (.putfield 154, 3) := by decide +kernel
theorem dX9_doAll_53 : decode cX9_doAll 53 = .ok (.aload_n 0, 1) := by decide +kernel
theorem dX9_doAll_54 : decode cX9_doAll 54 = .ok (.invokevirtual 197, 3) := by decide +kernel
theorem dX9_doAll_57 : decode cX9_doAll 57 = .ok (.istore_n 2, 1) := by decide +kernel
theorem dX9_doAll_58 : decode cX9_doAll 58 = .ok (.iinc 3 1, 3) := by decide +kernel
theorem dX9_doAll_61 : decode cX9_doAll 61 = .ok (.goto (-31), 3) := by decide +kernel
theorem dX9_doAll_64 : decode cX9_doAll 64 = .ok (.iconst 0, 1) := by decide +kernel
theorem dX9_doAll_65 : decode cX9_doAll 65 = .ok (.istore_n 3, 1) := by decide +kernel
theorem dX9_doAll_66 : decode cX9_doAll 66 = .ok (.iload_n 3, 1) := by decide +kernel
theorem dX9_doAll_67 : decode cX9_doAll 67 = .ok (.sipush 183, 3) := by decide +kernel
theorem dX9_doAll_70 : decode cX9_doAll 70 = .ok (.if_icmp .ge 37, 3) := by decide +kernel
theorem dX9_doAll_73 : decode cX9_doAll 73 = .ok (.aload_n 0, 1) := by decide +kernel
theorem dX9_doAll_74 : decode cX9_doAll 74 = .ok (.getfield 7, 3) := by decide +kernel
theorem dX9_doAll_77 : decode cX9_doAll 77 = .ok (.iload_n 3, 1) := by decide +kernel
theorem dX9_doAll_78 : decode cX9_doAll 78 = .ok (.iaload, 1) := by decide +kernel
theorem dX9_doAll_79 : decode cX9_doAll 79 = .ok (.istore 4, 2) := by decide +kernel
theorem dX9_doAll_81 : decode cX9_doAll 81 = .ok (.aload_n 0, 1) := by decide +kernel
theorem dX9_doAll_82 : decode cX9_doAll 82 = .ok (.getfield 7, 3) := by decide +kernel
theorem dX9_doAll_85 : decode cX9_doAll 85 = .ok (.iload_n 3, 1) := by decide +kernel
theorem dX9_doAll_86 : decode cX9_doAll 86 = .ok (.aload_n 0, 1) := by decide +kernel
theorem dX9_doAll_87 : decode cX9_doAll 87 = .ok (.getfield 13, 3) := by decide +kernel
theorem dX9_doAll_90 : decode cX9_doAll 90 = .ok (.iload_n 3, 1) := by decide +kernel
theorem dX9_doAll_91 : decode cX9_doAll 91 = .ok (.iaload, 1) := by decide +kernel
theorem dX9_doAll_92 : decode cX9_doAll 92 = .ok (.iastore, 1) := by decide +kernel
theorem dX9_doAll_93 : decode cX9_doAll 93 = .ok (.aload_n 0, 1) := by decide +kernel
theorem dX9_doAll_94 : decode cX9_doAll 94 = .ok (.getfield 13, 3) := by decide +kernel
theorem dX9_doAll_97 : decode cX9_doAll 97 = .ok (.iload_n 3, 1) := by decide +kernel
theorem dX9_doAll_98 : decode cX9_doAll 98 = .ok (.iload 4, 2) := by decide +kernel
theorem dX9_doAll_100 : decode cX9_doAll 100 = .ok (.iastore, 1) := by decide +kernel
theorem dX9_doAll_101 : decode cX9_doAll 101 = .ok (.iinc 3 1, 3) := by decide +kernel
theorem dX9_doAll_104 : decode cX9_doAll 104 = .ok (.goto (-38), 3) := by decide +kernel
theorem dX9_doAll_107 : decode cX9_doAll 107 = .ok (.iload_n 2, 1) := by decide +kernel
theorem dX9_doAll_108 : decode cX9_doAll 108 = .ok (.ifCond .ge 5, 3) := by decide +kernel
theorem dX9_doAll_111 : decode cX9_doAll 111 = .ok (.iload_n 2, 1) := by decide +kernel
theorem dX9_doAll_112 : decode cX9_doAll 112 = .ok (.ireturn, 1) := by decide +kernel
theorem dX9_doAll_113 : decode cX9_doAll 113 = .ok (.aload_n 0, 1) := by decide +kernel
theorem dX9_doAll_114 : decode cX9_doAll 114 = .ok (.invokevirtual 87, 3) := by decide +kernel
theorem dX9_doAll_117 : decode cX9_doAll 117 = .ok (.aload_n 0, 1) := by decide +kernel
theorem dX9_doAll_118 : decode cX9_doAll 118 = .ok (.invokevirtual 200, 3) := by decide +kernel
theorem dX9_doAll_121 : decode cX9_doAll 121 = .ok (.iload_n 1, 1) := by decide +kernel
theorem dX9_doAll_122 : decode cX9_doAll 122 = .ok (.ireturn, 1) := by decide +kernel
theorem dX9_undo_0 : decode cX9_undo 0 = .ok (.aload_n 0, 1) := by decide +kernel
theorem dX9_undo_1 : decode cX9_undo 1 = .ok (.getfield 40, 3) := by decide +kernel
theorem dX9_undo_4 : decode cX9_undo 4 = .ok (.ifCond .ne 6, 3) := by decide +kernel
theorem dX9_undo_7 : decode cX9_undo 7 = .ok (.bipush (-5), 2) := by decide +kernel
theorem dX9_undo_9 : decode cX9_undo 9 = .ok (.ireturn, 1) := by decide +kernel
theorem dX9_undo_10 : decode cX9_undo 10 = .ok (.aload_n 0, 1) := by decide +kernel
theorem dX9_undo_11 : decode cX9_undo 11 = .ok (.dup, 1) := by decide +kernel
theorem dX9_undo_12 : decode cX9_undo 12 = .ok (.getfield 40, 3) := by decide +kernel
theorem dX9_undo_15 : decode cX9_undo 15 = .ok (.iconst 1, 1) := by decide +kernel
theorem dX9_undo_16 : decode cX9_undo 16 = .ok (.isub, 1) := by decide +kernel
theorem dX9_undo_17 : decode cX9_undo 17 = .ok (.putfield 40, 3) := by decide +kernel
theorem dX9_undo_20 : decode cX9_undo 20 = .ok (.iconst 0, 1) := by decide +kernel
theorem dX9_undo_21 : decode cX9_undo 21 = .ok (.istore_n 1, 1) := by decide +kernel
theorem dX9_undo_22 : decode cX9_undo 22 = .ok (.iload_n 1, 1) := by decide +kernel
theorem dX9_undo_23 : decode cX9_undo 23 = .ok (.sipush 183, 3) := by decide +kernel
theorem dX9_undo_26 : decode cX9_undo 26 = .ok (.if_icmp .ge 30, 3) := by decide +kernel
theorem dX9_undo_29 : decode cX9_undo 29 = .ok (.aload_n 0, 1) := by decide +kernel
theorem dX9_undo_30 : decode cX9_undo 30 = .ok (.getfield 7, 3) := by decide +kernel
theorem dX9_undo_33 : decode cX9_undo 33 = .ok (.iload_n 1, 1) := by decide +kernel
theorem dX9_undo_34 : decode cX9_undo 34 = .ok (.aload_n 0, 1) := by decide +kernel
theorem dX9_undo_35 : decode cX9_undo 35 = .ok (.getfield 16, 3) := by decide +kernel
theorem dX9_undo_38 : decode cX9_undo 38 = .ok (.sipush 183, 3) := by decide +kernel
theorem dX9_undo_41 : decode cX9_undo 41 = .ok (.aload_n 0, 1) := by decide +kernel
theorem dX9_undo_42 : decode cX9_undo 42 = .ok (.getfield 40, 3) := by decide +kernel
theorem dX9_undo_45 : decode cX9_undo 45 = .ok (.imul, 1) := by decide +kernel
theorem dX9_undo_46 : decode cX9_undo 46 = .ok (.iload_n 1, 1) := by decide +kernel
theorem dX9_undo_47 : decode cX9_undo 47 = .ok (.iadd, 1) := by decide +kernel
theorem dX9_undo_48 : decode cX9_undo 48 = .ok (.iaload, 1) := by decide +kernel
theorem dX9_undo_49 : decode cX9_undo 49 = .ok (.iastore, 1) := by decide +kernel
theorem dX9_undo_50 : decode cX9_undo 50 = .ok (.iinc 1 1, 3) := by decide +kernel
theorem dX9_undo_53 : decode cX9_undo 53 = .ok (.goto (-31), 3) := by decide +kernel
theorem dX9_undo_56 : decode cX9_undo 56 = .ok (.aload_n 0, 1) := by decide +kernel
theorem dX9_undo_57 : decode cX9_undo 57 = .ok (.getfield 40, 3) := by decide +kernel
theorem dX9_undo_60 : decode cX9_undo 60 = .ok (.ireturn, 1) := by decide +kernel
theorem dX9_keep_0 : decode cX9_keep 0 = .ok (.iconst 0, 1) := by decide +kernel
theorem dX9_keep_1 : decode cX9_keep 1 = .ok (.istore_n 1, 1) := by decide +kernel
theorem dX9_keep_2 : decode cX9_keep 2 = .ok (.iload_n 1, 1) := by decide +kernel
theorem dX9_keep_3 : decode cX9_keep 3 = .ok (.sipush 183, 3) := by decide +kernel
theorem dX9_keep_6 : decode cX9_keep 6 = .ok (.if_icmp .ge 21, 3) := by decide +kernel
theorem dX9_keep_9 : decode cX9_keep 9 = .ok (.aload_n 0, 1) := by decide +kernel
theorem dX9_keep_10 : decode cX9_keep 10 = .ok (.getfield 19, 3) := by decide +kernel
theorem dX9_keep_13 : decode cX9_keep 13 = .ok (.iload_n 1, 1) := by decide +kernel
theorem dX9_keep_14 : decode cX9_keep 14 = .ok (.aload_n 0, 1) := by decide +kernel
theorem dX9_keep_15 : decode cX9_keep 15 = .ok (.getfield 7, 3) := by decide +kernel
theorem dX9_keep_18 : decode cX9_keep 18 = .ok (.iload_n 1, 1) := by decide +kernel
theorem dX9_keep_19 : decode cX9_keep 19 = .ok (.iaload, 1) := by decide +kernel
theorem dX9_keep_20 : decode cX9_keep 20 = .ok (.iastore, 1) := by decide +kernel
theorem dX9_keep_21 : decode cX9_keep 21 = .ok (.iinc 1 1, 3) := by decide +kernel
theorem dX9_keep_24 : decode cX9_keep 24 = .ok (.goto (-22), 3) := by decide +kernel
theorem dX9_keep_27 : decode cX9_keep 27 = .ok (.aload_n 0, 1) := by decide +kernel
theorem dX9_keep_28 : decode cX9_keep 28 = .ok (.iconst 1, 1) := by decide +kernel
theorem dX9_keep_29 : decode cX9_keep 29 = .ok (.putfield 203, 3) := by decide +kernel
theorem dX9_keep_32 : decode cX9_keep 32 = .ok (.aload_n 0, 1) := by decide +kernel
theorem dX9_keep_33 : decode cX9_keep 33 = .ok (.getfield 7, 3) := by decide +kernel
theorem dX9_keep_36 : decode cX9_keep 36 = .ok (.sipush 181, 3) := by decide +kernel
theorem dX9_keep_39 : decode cX9_keep 39 = .ok (.iaload, 1) := by decide +kernel
theorem dX9_keep_40 : decode cX9_keep 40 = .ok (.ireturn, 1) := by decide +kernel
theorem dX9_restore_0 : decode cX9_restore 0 = .ok (.aload_n 0, 1) := by decide +kernel
theorem dX9_restore_1 : decode cX9_restore 1 = .ok (.getfield 203, 3) := by decide +kernel
theorem dX9_restore_4 : decode cX9_restore 4 = .ok (.ifCond .ne 6, 3) := by decide +kernel
theorem dX9_restore_7 : decode cX9_restore 7 = .ok (.bipush (-5), 2) := by decide +kernel
theorem dX9_restore_9 : decode cX9_restore 9 = .ok (.ireturn, 1) := by decide +kernel
theorem dX9_restore_10 : decode cX9_restore 10 = .ok (.aload_n 0, 1) := by decide +kernel
theorem dX9_restore_11 : decode cX9_restore 11 = .ok (.invokevirtual 87, 3) := by decide +kernel
theorem dX9_restore_14 : decode cX9_restore 14 = .ok (.iconst 0, 1) := by decide +kernel
theorem dX9_restore_15 : decode cX9_restore 15 = .ok (.istore_n 1, 1) := by decide +kernel
theorem dX9_restore_16 : decode cX9_restore 16 = .ok (.iload_n 1, 1) := by decide +kernel
theorem dX9_restore_17 : decode cX9_restore 17 = .ok (.sipush 183, 3) := by decide +kernel
theorem dX9_restore_20 : decode cX9_restore 20 = .ok (.if_icmp .ge 21, 3) := by decide +kernel
theorem dX9_restore_23 : decode cX9_restore 23 = .ok (.aload_n 0, 1) := by decide +kernel
theorem dX9_restore_24 : decode cX9_restore 24 = .ok (.getfield 7, 3) := by decide +kernel
theorem dX9_restore_27 : decode cX9_restore 27 = .ok (.iload_n 1, 1) := by decide +kernel
theorem dX9_restore_28 : decode cX9_restore 28 = .ok (.aload_n 0, 1) := by decide +kernel
theorem dX9_restore_29 : decode cX9_restore 29 = .ok (.getfield 19, 3) := by decide +kernel
theorem dX9_restore_32 : decode cX9_restore 32 = .ok (.iload_n 1, 1) := by decide +kernel
theorem dX9_restore_33 : decode cX9_restore 33 = .ok (.iaload, 1) := by decide +kernel
theorem dX9_restore_34 : decode cX9_restore 34 = .ok (.iastore, 1) := by decide +kernel
theorem dX9_restore_35 : decode cX9_restore 35 = .ok (.iinc 1 1, 3) := by decide +kernel
theorem dX9_restore_38 : decode cX9_restore 38 = .ok (.goto (-22), 3) := by decide +kernel
theorem dX9_restore_41 : decode cX9_restore 41 = .ok (.aload_n 0, 1) := by decide +kernel
theorem dX9_restore_42 : decode cX9_restore 42 = .ok (.getfield 7, 3) := by decide +kernel
theorem dX9_restore_45 : decode cX9_restore 45 = .ok (.sipush 181, 3) := by decide +kernel
theorem dX9_restore_48 : decode cX9_restore 48 = .ok (.iaload, 1) := by decide +kernel
theorem dX9_restore_49 : decode cX9_restore 49 = .ok (.ireturn, 1) := by decide +kernel
theorem dX9_cellOf_0 : decode cX9_cellOf 0 = .ok (.iload_n 1, 1) := by decide +kernel
theorem dX9_cellOf_1 : decode cX9_cellOf 1 = .ok (.invokestatic 77, 3) := by decide +kernel
theorem dX9_cellOf_4 : decode cX9_cellOf 4 = .ok (.ifCond .ne 5, 3) := by decide +kernel
theorem dX9_cellOf_7 : decode cX9_cellOf 7 = .ok (.iconst (-1), 1) := by decide +kernel
theorem dX9_cellOf_8 : decode cX9_cellOf 8 = .ok (.ireturn, 1) := by decide +kernel
theorem dX9_cellOf_9 : decode cX9_cellOf 9 = .ok (.iload_n 2, 1) := by decide +kernel
theorem dX9_cellOf_10 : decode cX9_cellOf 10 = .ok (.tableswitch 56 0 3 #[30, 39, 45, 51], 30) := by decide +kernel
theorem dX9_cellOf_40 : decode cX9_cellOf 40 = .ok (.aload_n 0, 1) := by decide +kernel
theorem dX9_cellOf_41 : decode cX9_cellOf 41 = .ok (.getfield 7, 3) := by decide +kernel
theorem dX9_cellOf_44 : decode cX9_cellOf 44 = .ok (.iconst 0, 1) := by decide +kernel
theorem dX9_cellOf_45 : decode cX9_cellOf 45 = .ok (.iload_n 1, 1) := by decide +kernel
theorem dX9_cellOf_46 : decode cX9_cellOf 46 = .ok (.iadd, 1) := by decide +kernel
theorem dX9_cellOf_47 : decode cX9_cellOf 47 = .ok (.iaload, 1) := by decide +kernel
theorem dX9_cellOf_48 : decode cX9_cellOf 48 = .ok (.ireturn, 1) := by decide +kernel
theorem dX9_cellOf_49 : decode cX9_cellOf 49 = .ok (.aload_n 0, 1) := by decide +kernel
theorem dX9_cellOf_50 : decode cX9_cellOf 50 = .ok (.iload_n 1, 1) := by decide +kernel
theorem dX9_cellOf_51 : decode cX9_cellOf 51 = .ok (.invokevirtual 103, 3) := by decide +kernel
theorem dX9_cellOf_54 : decode cX9_cellOf 54 = .ok (.ireturn, 1) := by decide +kernel
theorem dX9_cellOf_55 : decode cX9_cellOf 55 = .ok (.aload_n 0, 1) := by decide +kernel
theorem dX9_cellOf_56 : decode cX9_cellOf 56 = .ok (.iload_n 1, 1) := by decide +kernel
theorem dX9_cellOf_57 : decode cX9_cellOf 57 = .ok (.invokevirtual 116, 3) := by decide +kernel
theorem dX9_cellOf_60 : decode cX9_cellOf 60 = .ok (.ireturn, 1) := by decide +kernel
theorem dX9_cellOf_61 : decode cX9_cellOf 61 = .ok (.iload_n 1, 1) := by decide +kernel
theorem dX9_cellOf_62 : decode cX9_cellOf 62 = .ok (.invokestatic 119, 3) := by decide +kernel
theorem dX9_cellOf_65 : decode cX9_cellOf 65 = .ok (.ireturn, 1) := by decide +kernel
theorem dX9_cellOf_66 : decode cX9_cellOf 66 = .ok (.bipush (-2), 2) := by decide +kernel
theorem dX9_cellOf_68 : decode cX9_cellOf 68 = .ok (.ireturn, 1) := by decide +kernel
theorem dX9_litCells_0 : decode cX9_litCells 0 = .ok (.iconst 0, 1) := by decide +kernel
theorem dX9_litCells_1 : decode cX9_litCells 1 = .ok (.istore_n 2, 1) := by decide +kernel
theorem dX9_litCells_2 : decode cX9_litCells 2 = .ok (.iconst 0, 1) := by decide +kernel
theorem dX9_litCells_3 : decode cX9_litCells 3 = .ok (.istore_n 3, 1) := by decide +kernel
theorem dX9_litCells_4 : decode cX9_litCells 4 = .ok (.iload_n 3, 1) := by decide +kernel
theorem dX9_litCells_5 : decode cX9_litCells 5 = .ok (.bipush 100, 2) := by decide +kernel
theorem dX9_litCells_7 : decode cX9_litCells 7 = .ok (.if_icmp .ge 26, 3) := by decide +kernel
theorem dX9_litCells_10 : decode cX9_litCells 10 = .ok (.iload_n 2, 1) := by decide +kernel
theorem dX9_litCells_11 : decode cX9_litCells 11 = .ok (.aload_n 0, 1) := by decide +kernel
theorem dX9_litCells_12 : decode cX9_litCells 12 = .ok (.iload_n 1, 1) := by decide +kernel
theorem dX9_litCells_13 : decode cX9_litCells 13 = .ok (.iload_n 3, 1) := by decide +kernel
theorem dX9_litCells_14 : decode cX9_litCells 14 = .ok (.invokevirtual 74, 3) := by decide +kernel
theorem dX9_litCells_17 : decode cX9_litCells 17 = .ok (.ifCond .eq 7, 3) := by decide +kernel
theorem dX9_litCells_20 : decode cX9_litCells 20 = .ok (.iconst 1, 1) := by decide +kernel
theorem dX9_litCells_21 : decode cX9_litCells 21 = .ok (.goto 4, 3) := by decide +kernel
theorem dX9_litCells_24 : decode cX9_litCells 24 = .ok (.iconst 0, 1) := by decide +kernel
theorem dX9_litCells_25 : decode cX9_litCells 25 = .ok (.iadd, 1) := by decide +kernel
theorem dX9_litCells_26 : decode cX9_litCells 26 = .ok (.istore_n 2, 1) := by decide +kernel
theorem dX9_litCells_27 : decode cX9_litCells 27 = .ok (.iinc 3 1, 3) := by decide +kernel
theorem dX9_litCells_30 : decode cX9_litCells 30 = .ok (.goto (-26), 3) := by decide +kernel
theorem dX9_litCells_33 : decode cX9_litCells 33 = .ok (.iload_n 2, 1) := by decide +kernel
theorem dX9_litCells_34 : decode cX9_litCells 34 = .ok (.ireturn, 1) := by decide +kernel
theorem dX9_lightOf_0 : decode cX9_lightOf 0 = .ok (.iload_n 1, 1) := by decide +kernel
theorem dX9_lightOf_1 : decode cX9_lightOf 1 = .ok (.invokestatic 94, 3) := by decide +kernel
theorem dX9_lightOf_4 : decode cX9_lightOf 4 = .ok (.ifCond .ne 5, 3) := by decide +kernel
theorem dX9_lightOf_7 : decode cX9_lightOf 7 = .ok (.iconst (-1), 1) := by decide +kernel
theorem dX9_lightOf_8 : decode cX9_lightOf 8 = .ok (.ireturn, 1) := by decide +kernel
theorem dX9_lightOf_9 : decode cX9_lightOf 9 = .ok (.iload_n 2, 1) := by decide +kernel
theorem dX9_lightOf_10 : decode cX9_lightOf 10 = .ok (.iconst 0, 1) := by decide +kernel
theorem dX9_lightOf_11 : decode cX9_lightOf 11 = .ok (.bipush 6, 2) := by decide +kernel
theorem dX9_lightOf_13 : decode cX9_lightOf 13 = .ok (.invokestatic 36, 3) := by decide +kernel
theorem dX9_lightOf_16 : decode cX9_lightOf 16 = .ok (.ifCond .ne 8, 3) := by decide +kernel
theorem dX9_lightOf_19 : decode cX9_lightOf 19 = .ok (.bipush (-2), 2) := by decide +kernel
theorem dX9_lightOf_21 : decode cX9_lightOf 21 = .ok (.goto 47, 3) := by decide +kernel
theorem dX9_lightOf_24 : decode cX9_lightOf 24 = .ok (.iload_n 2, 1) := by decide +kernel
theorem dX9_lightOf_25 : decode cX9_lightOf 25 = .ok (.iconst 5, 1) := by decide +kernel
theorem dX9_lightOf_26 : decode cX9_lightOf 26 = .ok (.if_icmp .ge 16, 3) := by decide +kernel
theorem dX9_lightOf_29 : decode cX9_lightOf 29 = .ok (.aload_n 0, 1) := by decide +kernel
theorem dX9_lightOf_30 : decode cX9_lightOf 30 = .ok (.getfield 7, 3) := by decide +kernel
theorem dX9_lightOf_33 : decode cX9_lightOf 33 = .ok (.iload_n 1, 1) := by decide +kernel
theorem dX9_lightOf_34 : decode cX9_lightOf 34 = .ok (.iload_n 2, 1) := by decide +kernel
theorem dX9_lightOf_35 : decode cX9_lightOf 35 = .ok (.invokestatic 29, 3) := by decide +kernel
theorem dX9_lightOf_38 : decode cX9_lightOf 38 = .ok (.iaload, 1) := by decide +kernel
theorem dX9_lightOf_39 : decode cX9_lightOf 39 = .ok (.goto 29, 3) := by decide +kernel
theorem dX9_lightOf_42 : decode cX9_lightOf 42 = .ok (.iload_n 2, 1) := by decide +kernel
theorem dX9_lightOf_43 : decode cX9_lightOf 43 = .ok (.iconst 5, 1) := by decide +kernel
theorem dX9_lightOf_44 : decode cX9_lightOf 44 = .ok (.if_icmp .ne 19, 3) := by decide +kernel
theorem dX9_lightOf_47 : decode cX9_lightOf 47 = .ok (.aload_n 0, 1) := by decide +kernel
theorem dX9_lightOf_48 : decode cX9_lightOf 48 = .ok (.iload_n 1, 1) := by decide +kernel
theorem dX9_lightOf_49 : decode cX9_lightOf 49 = .ok (.aload_n 0, 1) := by decide +kernel
theorem dX9_lightOf_50 : decode cX9_lightOf 50 = .ok (.getfield 7, 3) := by decide +kernel
theorem dX9_lightOf_53 : decode cX9_lightOf 53 = .ok (.sipush 181, 3) := by decide +kernel
theorem dX9_lightOf_56 : decode cX9_lightOf 56 = .ok (.iaload, 1) := by decide +kernel
theorem dX9_lightOf_57 : decode cX9_lightOf 57 = .ok (.invokevirtual 60, 3) := by decide +kernel
theorem dX9_lightOf_60 : decode cX9_lightOf 60 = .ok (.goto 8, 3) := by decide +kernel
theorem dX9_lightOf_63 : decode cX9_lightOf 63 = .ok (.aload_n 0, 1) := by decide +kernel
theorem dX9_lightOf_64 : decode cX9_lightOf 64 = .ok (.iload_n 1, 1) := by decide +kernel
theorem dX9_lightOf_65 : decode cX9_lightOf 65 = .ok (.invokevirtual 206, 3) := by decide +kernel
theorem dX9_lightOf_68 : decode cX9_lightOf 68 = .ok (.ireturn, 1) := by decide +kernel
theorem dX9_keeperOf_0 : decode cX9_keeperOf 0 = .ok (.iload_n 1, 1) := by decide +kernel
theorem dX9_keeperOf_1 : decode cX9_keeperOf 1 = .ok (.invokestatic 94, 3) := by decide +kernel
theorem dX9_keeperOf_4 : decode cX9_keeperOf 4 = .ok (.ifCond .ne 7, 3) := by decide +kernel
theorem dX9_keeperOf_7 : decode cX9_keeperOf 7 = .ok (.iconst (-1), 1) := by decide +kernel
theorem dX9_keeperOf_8 : decode cX9_keeperOf 8 = .ok (.goto 27, 3) := by decide +kernel
theorem dX9_keeperOf_11 : decode cX9_keeperOf 11 = .ok (.iload_n 2, 1) := by decide +kernel
theorem dX9_keeperOf_12 : decode cX9_keeperOf 12 = .ok (.iconst 0, 1) := by decide +kernel
theorem dX9_keeperOf_13 : decode cX9_keeperOf 13 = .ok (.iconst 4, 1) := by decide +kernel
theorem dX9_keeperOf_14 : decode cX9_keeperOf 14 = .ok (.invokestatic 36, 3) := by decide +kernel
theorem dX9_keeperOf_17 : decode cX9_keeperOf 17 = .ok (.ifCond .eq 16, 3) := by decide +kernel
theorem dX9_keeperOf_20 : decode cX9_keeperOf 20 = .ok (.aload_n 0, 1) := by decide +kernel
theorem dX9_keeperOf_21 : decode cX9_keeperOf 21 = .ok (.getfield 7, 3) := by decide +kernel
theorem dX9_keeperOf_24 : decode cX9_keeperOf 24 = .ok (.iload_n 1, 1) := by decide +kernel
theorem dX9_keeperOf_25 : decode cX9_keeperOf 25 = .ok (.iload_n 2, 1) := by decide +kernel
theorem dX9_keeperOf_26 : decode cX9_keeperOf 26 = .ok (.invokestatic 33, 3) := by decide +kernel
theorem dX9_keeperOf_29 : decode cX9_keeperOf 29 = .ok (.iaload, 1) := by decide +kernel
theorem dX9_keeperOf_30 : decode cX9_keeperOf 30 = .ok (.goto 5, 3) := by decide +kernel
theorem dX9_keeperOf_33 : decode cX9_keeperOf 33 = .ok (.bipush (-2), 2) := by decide +kernel
theorem dX9_keeperOf_35 : decode cX9_keeperOf 35 = .ok (.ireturn, 1) := by decide +kernel
theorem dX9_shipOf_0 : decode cX9_shipOf 0 = .ok (.aload_n 0, 1) := by decide +kernel
theorem dX9_shipOf_1 : decode cX9_shipOf 1 = .ok (.iload_n 1, 1) := by decide +kernel
theorem dX9_shipOf_2 : decode cX9_shipOf 2 = .ok (.invokevirtual 209, 3) := by decide +kernel
theorem dX9_shipOf_5 : decode cX9_shipOf 5 = .ok (.ifCond .ne 5, 3) := by decide +kernel
theorem dX9_shipOf_8 : decode cX9_shipOf 8 = .ok (.iconst (-1), 1) := by decide +kernel
theorem dX9_shipOf_9 : decode cX9_shipOf 9 = .ok (.ireturn, 1) := by decide +kernel
theorem dX9_shipOf_10 : decode cX9_shipOf 10 = .ok (.iload_n 2, 1) := by decide +kernel
theorem dX9_shipOf_11 : decode cX9_shipOf 11 = .ok (.iconst 0, 1) := by decide +kernel
theorem dX9_shipOf_12 : decode cX9_shipOf 12 = .ok (.bipush 6, 2) := by decide +kernel
theorem dX9_shipOf_14 : decode cX9_shipOf 14 = .ok (.invokestatic 36, 3) := by decide +kernel
theorem dX9_shipOf_17 : decode cX9_shipOf 17 = .ok (.ifCond .ne 6, 3) := by decide +kernel
theorem dX9_shipOf_20 : decode cX9_shipOf 20 = .ok (.bipush (-2), 2) := by decide +kernel
theorem dX9_shipOf_22 : decode cX9_shipOf 22 = .ok (.ireturn, 1) := by decide +kernel
theorem dX9_shipOf_23 : decode cX9_shipOf 23 = .ok (.iload_n 2, 1) := by decide +kernel
theorem dX9_shipOf_24 : decode cX9_shipOf 24 = .ok (.iconst 5, 1) := by decide +kernel
theorem dX9_shipOf_25 : decode cX9_shipOf 25 = .ok (.if_icmp .ge 16, 3) := by decide +kernel
theorem dX9_shipOf_28 : decode cX9_shipOf 28 = .ok (.aload_n 0, 1) := by decide +kernel
theorem dX9_shipOf_29 : decode cX9_shipOf 29 = .ok (.getfield 7, 3) := by decide +kernel
theorem dX9_shipOf_32 : decode cX9_shipOf 32 = .ok (.iload_n 1, 1) := by decide +kernel
theorem dX9_shipOf_33 : decode cX9_shipOf 33 = .ok (.iload_n 2, 1) := by decide +kernel
theorem dX9_shipOf_34 : decode cX9_shipOf 34 = .ok (.invokestatic 100, 3) := by decide +kernel
theorem dX9_shipOf_37 : decode cX9_shipOf 37 = .ok (.iaload, 1) := by decide +kernel
theorem dX9_shipOf_38 : decode cX9_shipOf 38 = .ok (.goto 57, 3) := by decide +kernel
theorem dX9_shipOf_41 : decode cX9_shipOf 41 = .ok (.iload_n 2, 1) := by decide +kernel
theorem dX9_shipOf_42 : decode cX9_shipOf 42 = .ok (.iconst 5, 1) := by decide +kernel
theorem dX9_shipOf_43 : decode cX9_shipOf 43 = .ok (.if_icmp .ne 29, 3) := by decide +kernel
theorem dX9_shipOf_46 : decode cX9_shipOf 46 = .ok (.aload_n 0, 1) := by decide +kernel
theorem dX9_shipOf_47 : decode cX9_shipOf 47 = .ok (.getfield 7, 3) := by decide +kernel
theorem dX9_shipOf_50 : decode cX9_shipOf 50 = .ok (.iload_n 1, 1) := by decide +kernel
theorem dX9_shipOf_51 : decode cX9_shipOf 51 = .ok (.iconst 1, 1) := by decide +kernel
theorem dX9_shipOf_52 : decode cX9_shipOf 52 = .ok (.invokestatic 100, 3) := by decide +kernel
theorem dX9_shipOf_55 : decode cX9_shipOf 55 = .ok (.iaload, 1) := by decide +kernel
theorem dX9_shipOf_56 : decode cX9_shipOf 56 = .ok (.aload_n 0, 1) := by decide +kernel
theorem dX9_shipOf_57 : decode cX9_shipOf 57 = .ok (.getfield 7, 3) := by decide +kernel
theorem dX9_shipOf_60 : decode cX9_shipOf 60 = .ok (.iload_n 1, 1) := by decide +kernel
theorem dX9_shipOf_61 : decode cX9_shipOf 61 = .ok (.iconst 2, 1) := by decide +kernel
theorem dX9_shipOf_62 : decode cX9_shipOf 62 = .ok (.invokestatic 100, 3) := by decide +kernel
theorem dX9_shipOf_65 : decode cX9_shipOf 65 = .ok (.iaload, 1) := by decide +kernel
theorem dX9_shipOf_66 : decode cX9_shipOf 66 = .ok (.invokestatic 67, 3) := by decide +kernel
theorem dX9_shipOf_69 : decode cX9_shipOf 69 = .ok (.goto 26, 3) := by decide +kernel
theorem dX9_shipOf_72 : decode cX9_shipOf 72 = .ok (.aload_n 0, 1) := by decide +kernel
theorem dX9_shipOf_73 : decode cX9_shipOf 73 = .ok (.getfield 7, 3) := by decide +kernel
theorem dX9_shipOf_76 : decode cX9_shipOf 76 = .ok (.iload_n 1, 1) := by decide +kernel
theorem dX9_shipOf_77 : decode cX9_shipOf 77 = .ok (.iconst 3, 1) := by decide +kernel
theorem dX9_shipOf_78 : decode cX9_shipOf 78 = .ok (.invokestatic 100, 3) := by decide +kernel
theorem dX9_shipOf_81 : decode cX9_shipOf 81 = .ok (.iaload, 1) := by decide +kernel
theorem dX9_shipOf_82 : decode cX9_shipOf 82 = .ok (.ifCond .ne 11, 3) := by decide +kernel
theorem dX9_shipOf_85 : decode cX9_shipOf 85 = .ok (.aload_n 0, 1) := by decide +kernel
theorem dX9_shipOf_86 : decode cX9_shipOf 86 = .ok (.iload_n 1, 1) := by decide +kernel
theorem dX9_shipOf_87 : decode cX9_shipOf 87 = .ok (.invokevirtual 122, 3) := by decide +kernel
theorem dX9_shipOf_90 : decode cX9_shipOf 90 = .ok (.goto 5, 3) := by decide +kernel
theorem dX9_shipOf_93 : decode cX9_shipOf 93 = .ok (.bipush (-5), 2) := by decide +kernel
theorem dX9_shipOf_95 : decode cX9_shipOf 95 = .ok (.ireturn, 1) := by decide +kernel
theorem dX9_isLit_0 : decode cX9_isLit 0 = .ok (.iload_n 1, 1) := by decide +kernel
theorem dX9_isLit_1 : decode cX9_isLit 1 = .ok (.invokestatic 94, 3) := by decide +kernel
theorem dX9_isLit_4 : decode cX9_isLit 4 = .ok (.ifCond .eq 10, 3) := by decide +kernel
theorem dX9_isLit_7 : decode cX9_isLit 7 = .ok (.iload_n 2, 1) := by decide +kernel
theorem dX9_isLit_8 : decode cX9_isLit 8 = .ok (.invokestatic 77, 3) := by decide +kernel
theorem dX9_isLit_11 : decode cX9_isLit 11 = .ok (.ifCond .ne 5, 3) := by decide +kernel
theorem dX9_isLit_14 : decode cX9_isLit 14 = .ok (.iconst (-1), 1) := by decide +kernel
theorem dX9_isLit_15 : decode cX9_isLit 15 = .ok (.ireturn, 1) := by decide +kernel
theorem dX9_isLit_16 : decode cX9_isLit 16 = .ok (.iload_n 3, 1) := by decide +kernel
theorem dX9_isLit_17 : decode cX9_isLit 17 = .ok (.iconst 0, 1) := by decide +kernel
theorem dX9_isLit_18 : decode cX9_isLit 18 = .ok (.sipush 20000, 3) := by decide +kernel
theorem dX9_isLit_21 : decode cX9_isLit 21 = .ok (.invokestatic 36, 3) := by decide +kernel
theorem dX9_isLit_24 : decode cX9_isLit 24 = .ok (.ifCond .eq 13, 3) := by decide +kernel
theorem dX9_isLit_27 : decode cX9_isLit 27 = .ok (.iload 4, 2) := by decide +kernel
theorem dX9_isLit_29 : decode cX9_isLit 29 = .ok (.iconst 0, 1) := by decide +kernel
theorem dX9_isLit_30 : decode cX9_isLit 30 = .ok (.iconst 1, 1) := by decide +kernel
theorem dX9_isLit_31 : decode cX9_isLit 31 = .ok (.invokestatic 36, 3) := by decide +kernel
theorem dX9_isLit_34 : decode cX9_isLit 34 = .ok (.ifCond .ne 6, 3) := by decide +kernel
theorem dX9_isLit_37 : decode cX9_isLit 37 = .ok (.bipush (-2), 2) := by decide +kernel
theorem dX9_isLit_39 : decode cX9_isLit 39 = .ok (.ireturn, 1) := by decide +kernel
theorem dX9_isLit_40 : decode cX9_isLit 40 = .ok (.aload_n 0, 1) := by decide +kernel
theorem dX9_isLit_41 : decode cX9_isLit 41 = .ok (.iload_n 1, 1) := by decide +kernel
theorem dX9_isLit_42 : decode cX9_isLit 42 = .ok (.iload_n 2, 1) := by decide +kernel
theorem dX9_isLit_43 : decode cX9_isLit 43 = .ok (.iload_n 3, 1) := by decide +kernel
theorem dX9_isLit_44 : decode cX9_isLit 44 = .ok (.aload_n 0, 1) := by decide +kernel
theorem dX9_isLit_45 : decode cX9_isLit 45 = .ok (.getfield 7, 3) := by decide +kernel
theorem dX9_isLit_48 : decode cX9_isLit 48 = .ok (.iload_n 1, 1) := by decide +kernel
theorem dX9_isLit_49 : decode cX9_isLit 49 = .ok (.iconst 4, 1) := by decide +kernel
theorem dX9_isLit_50 : decode cX9_isLit 50 = .ok (.invokestatic 29, 3) := by decide +kernel
theorem dX9_isLit_53 : decode cX9_isLit 53 = .ok (.iaload, 1) := by decide +kernel
theorem dX9_isLit_54 : decode cX9_isLit 54 = .ok (.invokevirtual 70, 3) := by decide +kernel
theorem dX9_isLit_57 : decode cX9_isLit 57 = .ok (.ifCond .eq 7, 3) := by decide +kernel
theorem dX9_isLit_60 : decode cX9_isLit 60 = .ok (.iconst 1, 1) := by decide +kernel
theorem dX9_isLit_61 : decode cX9_isLit 61 = .ok (.goto 4, 3) := by decide +kernel
theorem dX9_isLit_64 : decode cX9_isLit 64 = .ok (.iconst 0, 1) := by decide +kernel
theorem dX9_isLit_65 : decode cX9_isLit 65 = .ok (.ireturn, 1) := by decide +kernel
theorem dX9_why_0 : decode cX9_why 0 = .ok (.iload_n 1, 1) := by decide +kernel
theorem dX9_why_1 : decode cX9_why 1 = .ok (.invokestatic 94, 3) := by decide +kernel
theorem dX9_why_4 : decode cX9_why 4 = .ok (.ifCond .eq 10, 3) := by decide +kernel
theorem dX9_why_7 : decode cX9_why 7 = .ok (.iload_n 2, 1) := by decide +kernel
theorem dX9_why_8 : decode cX9_why 8 = .ok (.invokestatic 77, 3) := by decide +kernel
theorem dX9_why_11 : decode cX9_why 11 = .ok (.ifCond .ne 5, 3) := by decide +kernel
theorem dX9_why_14 : decode cX9_why 14 = .ok (.iconst (-1), 1) := by decide +kernel
theorem dX9_why_15 : decode cX9_why 15 = .ok (.ireturn, 1) := by decide +kernel
theorem dX9_why_16 : decode cX9_why 16 = .ok (.iload_n 1, 1) := by decide +kernel
theorem dX9_why_17 : decode cX9_why 17 = .ok (.iload_n 2, 1) := by decide +kernel
theorem dX9_why_18 : decode cX9_why 18 = .ok (.invokestatic 57, 3) := by decide +kernel
theorem dX9_why_21 : decode cX9_why 21 = .ok (.istore_n 3, 1) := by decide +kernel
theorem dX9_why_22 : decode cX9_why 22 = .ok (.iload_n 1, 1) := by decide +kernel
theorem dX9_why_23 : decode cX9_why 23 = .ok (.invokestatic 54, 3) := by decide +kernel
theorem dX9_why_26 : decode cX9_why 26 = .ok (.iload_n 2, 1) := by decide +kernel
theorem dX9_why_27 : decode cX9_why 27 = .ok (.invokestatic 67, 3) := by decide +kernel
theorem dX9_why_30 : decode cX9_why 30 = .ok (.istore 4, 2) := by decide +kernel
theorem dX9_why_32 : decode cX9_why 32 = .ok (.iload_n 3, 1) := by decide +kernel
theorem dX9_why_33 : decode cX9_why 33 = .ok (.bipush (-5), 2) := by decide +kernel
theorem dX9_why_35 : decode cX9_why 35 = .ok (.if_icmp .ne 5, 3) := by decide +kernel
theorem dX9_why_38 : decode cX9_why 38 = .ok (.iconst 0, 1) := by decide +kernel
theorem dX9_why_39 : decode cX9_why 39 = .ok (.ireturn, 1) := by decide +kernel
theorem dX9_why_40 : decode cX9_why 40 = .ok (.aload_n 0, 1) := by decide +kernel
theorem dX9_why_41 : decode cX9_why 41 = .ok (.iload_n 1, 1) := by decide +kernel
theorem dX9_why_42 : decode cX9_why 42 = .ok (.iload_n 3, 1) := by decide +kernel
theorem dX9_why_43 : decode cX9_why 43 = .ok (.invokevirtual 63, 3) := by decide +kernel
theorem dX9_why_46 : decode cX9_why 46 = .ok (.ifCond .eq 7, 3) := by decide +kernel
theorem dX9_why_49 : decode cX9_why 49 = .ok (.iconst 1, 1) := by decide +kernel
theorem dX9_why_50 : decode cX9_why 50 = .ok (.goto 74, 3) := by decide +kernel
theorem dX9_why_53 : decode cX9_why 53 = .ok (.iload 4, 2) := by decide +kernel
theorem dX9_why_55 : decode cX9_why 55 = .ok (.aload_n 0, 1) := by decide +kernel
theorem dX9_why_56 : decode cX9_why 56 = .ok (.getfield 7, 3) := by decide +kernel
theorem dX9_why_59 : decode cX9_why 59 = .ok (.iload_n 1, 1) := by decide +kernel
theorem dX9_why_60 : decode cX9_why 60 = .ok (.iconst 2, 1) := by decide +kernel
theorem dX9_why_61 : decode cX9_why 61 = .ok (.invokestatic 29, 3) := by decide +kernel
theorem dX9_why_64 : decode cX9_why 64 = .ok (.iaload, 1) := by decide +kernel
theorem dX9_why_65 : decode cX9_why 65 = .ok (.if_icmp .le 7, 3) := by decide +kernel
theorem dX9_why_68 : decode cX9_why 68 = .ok (.iconst 2, 1) := by decide +kernel
theorem dX9_why_69 : decode cX9_why 69 = .ok (.goto 55, 3) := by decide +kernel
theorem dX9_why_72 : decode cX9_why 72 = .ok (.iload 4, 2) := by decide +kernel
theorem dX9_why_74 : decode cX9_why 74 = .ok (.aload_n 0, 1) := by decide +kernel
theorem dX9_why_75 : decode cX9_why 75 = .ok (.getfield 7, 3) := by decide +kernel
theorem dX9_why_78 : decode cX9_why 78 = .ok (.iload_n 1, 1) := by decide +kernel
theorem dX9_why_79 : decode cX9_why 79 = .ok (.iconst 2, 1) := by decide +kernel
theorem dX9_why_80 : decode cX9_why 80 = .ok (.invokestatic 29, 3) := by decide +kernel
theorem dX9_why_83 : decode cX9_why 83 = .ok (.iaload, 1) := by decide +kernel
theorem dX9_why_84 : decode cX9_why 84 = .ok (.aload_n 0, 1) := by decide +kernel
theorem dX9_why_85 : decode cX9_why 85 = .ok (.getfield 7, 3) := by decide +kernel
theorem dX9_why_88 : decode cX9_why 88 = .ok (.iload_n 1, 1) := by decide +kernel
theorem dX9_why_89 : decode cX9_why 89 = .ok (.iconst 4, 1) := by decide +kernel
theorem dX9_why_90 : decode cX9_why 90 = .ok (.invokestatic 29, 3) := by decide +kernel
theorem dX9_why_93 : decode cX9_why 93 = .ok (.iaload, 1) := by decide +kernel
theorem dX9_why_94 : decode cX9_why 94 = .ok (.isub, 1) := by decide +kernel
theorem dX9_why_95 : decode cX9_why 95 = .ok (.if_icmp .le 7, 3) := by decide +kernel
theorem dX9_why_98 : decode cX9_why 98 = .ok (.iconst 3, 1) := by decide +kernel
theorem dX9_why_99 : decode cX9_why 99 = .ok (.goto 25, 3) := by decide +kernel
theorem dX9_why_102 : decode cX9_why 102 = .ok (.iload_n 3, 1) := by decide +kernel
theorem dX9_why_103 : decode cX9_why 103 = .ok (.aload_n 0, 1) := by decide +kernel
theorem dX9_why_104 : decode cX9_why 104 = .ok (.iload_n 1, 1) := by decide +kernel
theorem dX9_why_105 : decode cX9_why 105 = .ok (.aload_n 0, 1) := by decide +kernel
theorem dX9_why_106 : decode cX9_why 106 = .ok (.getfield 7, 3) := by decide +kernel
theorem dX9_why_109 : decode cX9_why 109 = .ok (.sipush 181, 3) := by decide +kernel
theorem dX9_why_112 : decode cX9_why 112 = .ok (.iaload, 1) := by decide +kernel
theorem dX9_why_113 : decode cX9_why 113 = .ok (.invokevirtual 60, 3) := by decide +kernel
theorem dX9_why_116 : decode cX9_why 116 = .ok (.if_icmp .ne 7, 3) := by decide +kernel
theorem dX9_why_119 : decode cX9_why 119 = .ok (.iconst 0, 1) := by decide +kernel
theorem dX9_why_120 : decode cX9_why 120 = .ok (.goto 4, 3) := by decide +kernel
theorem dX9_why_123 : decode cX9_why 123 = .ok (.iconst 4, 1) := by decide +kernel
theorem dX9_why_124 : decode cX9_why 124 = .ok (.ireturn, 1) := by decide +kernel
theorem dX9_litNow_0 : decode cX9_litNow 0 = .ok (.iconst 0, 1) := by decide +kernel
theorem dX9_litNow_1 : decode cX9_litNow 1 = .ok (.istore_n 2, 1) := by decide +kernel
theorem dX9_litNow_2 : decode cX9_litNow 2 = .ok (.iconst 0, 1) := by decide +kernel
theorem dX9_litNow_3 : decode cX9_litNow 3 = .ok (.istore_n 3, 1) := by decide +kernel
theorem dX9_litNow_4 : decode cX9_litNow 4 = .ok (.iload_n 3, 1) := by decide +kernel
theorem dX9_litNow_5 : decode cX9_litNow 5 = .ok (.bipush 100, 2) := by decide +kernel
theorem dX9_litNow_7 : decode cX9_litNow 7 = .ok (.if_icmp .ge 41, 3) := by decide +kernel
theorem dX9_litNow_10 : decode cX9_litNow 10 = .ok (.iload_n 2, 1) := by decide +kernel
theorem dX9_litNow_11 : decode cX9_litNow 11 = .ok (.aload_n 0, 1) := by decide +kernel
theorem dX9_litNow_12 : decode cX9_litNow 12 = .ok (.iload_n 3, 1) := by decide +kernel
theorem dX9_litNow_13 : decode cX9_litNow 13 = .ok (.invokevirtual 116, 3) := by decide +kernel
theorem dX9_litNow_16 : decode cX9_litNow 16 = .ok (.ifCond .eq 23, 3) := by decide +kernel
theorem dX9_litNow_19 : decode cX9_litNow 19 = .ok (.iload_n 1, 1) := by decide +kernel
theorem dX9_litNow_20 : decode cX9_litNow 20 = .ok (.ifCond .eq 15, 3) := by decide +kernel
theorem dX9_litNow_23 : decode cX9_litNow 23 = .ok (.aload_n 0, 1) := by decide +kernel
theorem dX9_litNow_24 : decode cX9_litNow 24 = .ok (.getfield 7, 3) := by decide +kernel
theorem dX9_litNow_27 : decode cX9_litNow 27 = .ok (.iconst 0, 1) := by decide +kernel
theorem dX9_litNow_28 : decode cX9_litNow 28 = .ok (.iload_n 3, 1) := by decide +kernel
theorem dX9_litNow_29 : decode cX9_litNow 29 = .ok (.iadd, 1) := by decide +kernel
theorem dX9_litNow_30 : decode cX9_litNow 30 = .ok (.iaload, 1) := by decide +kernel
theorem dX9_litNow_31 : decode cX9_litNow 31 = .ok (.iconst 1, 1) := by decide +kernel
theorem dX9_litNow_32 : decode cX9_litNow 32 = .ok (.if_icmp .ne 7, 3) := by decide +kernel
theorem dX9_litNow_35 : decode cX9_litNow 35 = .ok (.iconst 1, 1) := by decide +kernel
theorem dX9_litNow_36 : decode cX9_litNow 36 = .ok (.goto 4, 3) := by decide +kernel
theorem dX9_litNow_39 : decode cX9_litNow 39 = .ok (.iconst 0, 1) := by decide +kernel
theorem dX9_litNow_40 : decode cX9_litNow 40 = .ok (.iadd, 1) := by decide +kernel
theorem dX9_litNow_41 : decode cX9_litNow 41 = .ok (.istore_n 2, 1) := by decide +kernel
theorem dX9_litNow_42 : decode cX9_litNow 42 = .ok (.iinc 3 1, 3) := by decide +kernel
theorem dX9_litNow_45 : decode cX9_litNow 45 = .ok (.goto (-41), 3) := by decide +kernel
theorem dX9_litNow_48 : decode cX9_litNow 48 = .ok (.iload_n 2, 1) := by decide +kernel
theorem dX9_litNow_49 : decode cX9_litNow 49 = .ok (.ireturn, 1) := by decide +kernel
theorem dX9_ofAll_0 : decode cX9_ofAll 0 = .ok (.iconst 0, 1) := by decide +kernel
theorem dX9_ofAll_1 : decode cX9_ofAll 1 = .ok (.istore_n 2, 1) := by decide +kernel
theorem dX9_ofAll_2 : decode cX9_ofAll 2 = .ok (.iconst 0, 1) := by decide +kernel
theorem dX9_ofAll_3 : decode cX9_ofAll 3 = .ok (.istore_n 3, 1) := by decide +kernel
theorem dX9_ofAll_4 : decode cX9_ofAll 4 = .ok (.iload_n 3, 1) := by decide +kernel
theorem dX9_ofAll_5 : decode cX9_ofAll 5 = .ok (.iconst 4, 1) := by decide +kernel
theorem dX9_ofAll_6 : decode cX9_ofAll 6 = .ok (.if_icmp .ge 22, 3) := by decide +kernel
theorem dX9_ofAll_9 : decode cX9_ofAll 9 = .ok (.iload_n 2, 1) := by decide +kernel
theorem dX9_ofAll_10 : decode cX9_ofAll 10 = .ok (.aload_n 0, 1) := by decide +kernel
theorem dX9_ofAll_11 : decode cX9_ofAll 11 = .ok (.getfield 7, 3) := by decide +kernel
theorem dX9_ofAll_14 : decode cX9_ofAll 14 = .ok (.iload_n 3, 1) := by decide +kernel
theorem dX9_ofAll_15 : decode cX9_ofAll 15 = .ok (.iload_n 1, 1) := by decide +kernel
theorem dX9_ofAll_16 : decode cX9_ofAll 16 = .ok (.invokestatic 33, 3) := by decide +kernel
theorem dX9_ofAll_19 : decode cX9_ofAll 19 = .ok (.iaload, 1) := by decide +kernel
theorem dX9_ofAll_20 : decode cX9_ofAll 20 = .ok (.iadd, 1) := by decide +kernel
theorem dX9_ofAll_21 : decode cX9_ofAll 21 = .ok (.istore_n 2, 1) := by decide +kernel
theorem dX9_ofAll_22 : decode cX9_ofAll 22 = .ok (.iinc 3 1, 3) := by decide +kernel
theorem dX9_ofAll_25 : decode cX9_ofAll 25 = .ok (.goto (-21), 3) := by decide +kernel
theorem dX9_ofAll_28 : decode cX9_ofAll 28 = .ok (.iload_n 2, 1) := by decide +kernel
theorem dX9_ofAll_29 : decode cX9_ofAll 29 = .ok (.ireturn, 1) := by decide +kernel
theorem dX9_worth_0 : decode cX9_worth 0 = .ok (.iconst 0, 1) := by decide +kernel
theorem dX9_worth_1 : decode cX9_worth 1 = .ok (.istore_n 2, 1) := by decide +kernel
theorem dX9_worth_2 : decode cX9_worth 2 = .ok (.iconst 0, 1) := by decide +kernel
theorem dX9_worth_3 : decode cX9_worth 3 = .ok (.istore_n 3, 1) := by decide +kernel
theorem dX9_worth_4 : decode cX9_worth 4 = .ok (.iload_n 3, 1) := by decide +kernel
theorem dX9_worth_5 : decode cX9_worth 5 = .ok (.aload_n 0, 1) := by decide +kernel
theorem dX9_worth_6 : decode cX9_worth 6 = .ok (.getfield 7, 3) := by decide +kernel
theorem dX9_worth_9 : decode cX9_worth 9 = .ok (.sipush 180, 3) := by decide +kernel
theorem dX9_worth_12 : decode cX9_worth 12 = .ok (.iaload, 1) := by decide +kernel
theorem dX9_worth_13 : decode cX9_worth 13 = .ok (.if_icmp .ge 28, 3) := by decide +kernel
theorem dX9_worth_16 : decode cX9_worth 16 = .ok (.iload_n 2, 1) := by decide +kernel
theorem dX9_worth_17 : decode cX9_worth 17 = .ok (.iload_n 1, 1) := by decide +kernel
theorem dX9_worth_18 : decode cX9_worth 18 = .ok (.iload_n 3, 1) := by decide +kernel
theorem dX9_worth_19 : decode cX9_worth 19 = .ok (.ishr, 1) := by decide +kernel
theorem dX9_worth_20 : decode cX9_worth 20 = .ok (.iconst 1, 1) := by decide +kernel
theorem dX9_worth_21 : decode cX9_worth 21 = .ok (.iand, 1) := by decide +kernel
theorem dX9_worth_22 : decode cX9_worth 22 = .ok (.aload_n 0, 1) := by decide +kernel
theorem dX9_worth_23 : decode cX9_worth 23 = .ok (.getfield 7, 3) := by decide +kernel
theorem dX9_worth_26 : decode cX9_worth 26 = .ok (.iload_n 3, 1) := by decide +kernel
theorem dX9_worth_27 : decode cX9_worth 27 = .ok (.iconst 0, 1) := by decide +kernel
theorem dX9_worth_28 : decode cX9_worth 28 = .ok (.invokestatic 100, 3) := by decide +kernel
theorem dX9_worth_31 : decode cX9_worth 31 = .ok (.iaload, 1) := by decide +kernel
theorem dX9_worth_32 : decode cX9_worth 32 = .ok (.imul, 1) := by decide +kernel
theorem dX9_worth_33 : decode cX9_worth 33 = .ok (.iadd, 1) := by decide +kernel
theorem dX9_worth_34 : decode cX9_worth 34 = .ok (.istore_n 2, 1) := by decide +kernel
theorem dX9_worth_35 : decode cX9_worth 35 = .ok (.iinc 3 1, 3) := by decide +kernel
theorem dX9_worth_38 : decode cX9_worth 38 = .ok (.goto (-34), 3) := by decide +kernel
theorem dX9_worth_41 : decode cX9_worth 41 = .ok (.iload_n 2, 1) := by decide +kernel
theorem dX9_worth_42 : decode cX9_worth 42 = .ok (.ireturn, 1) := by decide +kernel
theorem dX9_count_0 : decode cX9_count 0 = .ok (.iload_n 1, 1) := by decide +kernel
theorem dX9_count_1 : decode cX9_count 1 = .ok (.tableswitch 158 0 13 #[71, 80, 85, 94, 94, 94, 105, 111, 117, 123, 129, 139, 144, 149], 71) := by decide +kernel
theorem dX9_count_72 : decode cX9_count 72 = .ok (.aload_n 0, 1) := by decide +kernel
theorem dX9_count_73 : decode cX9_count 73 = .ok (.getfield 7, 3) := by decide +kernel
theorem dX9_count_76 : decode cX9_count 76 = .ok (.sipush 181, 3) := by decide +kernel
theorem dX9_count_79 : decode cX9_count 79 = .ok (.iaload, 1) := by decide +kernel
theorem dX9_count_80 : decode cX9_count 80 = .ok (.ireturn, 1) := by decide +kernel
theorem dX9_count_81 : decode cX9_count 81 = .ok (.aload_n 0, 1) := by decide +kernel
theorem dX9_count_82 : decode cX9_count 82 = .ok (.invokevirtual 90, 3) := by decide +kernel
theorem dX9_count_85 : decode cX9_count 85 = .ok (.ireturn, 1) := by decide +kernel
theorem dX9_count_86 : decode cX9_count 86 = .ok (.aload_n 0, 1) := by decide +kernel
theorem dX9_count_87 : decode cX9_count 87 = .ok (.getfield 7, 3) := by decide +kernel
theorem dX9_count_90 : decode cX9_count 90 = .ok (.sipush 180, 3) := by decide +kernel
theorem dX9_count_93 : decode cX9_count 93 = .ok (.iaload, 1) := by decide +kernel
theorem dX9_count_94 : decode cX9_count 94 = .ok (.ireturn, 1) := by decide +kernel
theorem dX9_count_95 : decode cX9_count 95 = .ok (.aload_n 0, 1) := by decide +kernel
theorem dX9_count_96 : decode cX9_count 96 = .ok (.iload_n 1, 1) := by decide +kernel
theorem dX9_count_97 : decode cX9_count 97 = .ok (.iconst 3, 1) := by decide +kernel
theorem dX9_count_98 : decode cX9_count 98 = .ok (.isub, 1) := by decide +kernel
theorem dX9_count_99 : decode cX9_count 99 = .ok (.invokevirtual 129, 3) := by decide +kernel
theorem dX9_count_102 : decode cX9_count 102 = .ok (.invokestatic 141, 3) := by decide +kernel
theorem dX9_count_105 : decode cX9_count 105 = .ok (.ireturn, 1) := by decide +kernel
theorem dX9_count_106 : decode cX9_count 106 = .ok (.aload_n 0, 1) := by decide +kernel
theorem dX9_count_107 : decode cX9_count 107 = .ok (.iconst 1, 1) := by decide +kernel
theorem dX9_count_108 : decode cX9_count 108 = .ok (.invokevirtual 212, 3) := by decide +kernel
theorem dX9_count_111 : decode cX9_count 111 = .ok (.ireturn, 1) := by decide +kernel
theorem dX9_count_112 : decode cX9_count 112 = .ok (.aload_n 0, 1) := by decide +kernel
theorem dX9_count_113 : decode cX9_count 113 = .ok (.iconst 0, 1) := by decide +kernel
theorem dX9_count_114 : decode cX9_count 114 = .ok (.invokevirtual 212, 3) := by decide +kernel
theorem dX9_count_117 : decode cX9_count 117 = .ok (.ireturn, 1) := by decide +kernel
theorem dX9_count_118 : decode cX9_count 118 = .ok (.aload_n 0, 1) := by decide +kernel
theorem dX9_count_119 : decode cX9_count 119 = .ok (.iconst 1, 1) := by decide +kernel
theorem dX9_count_120 : decode cX9_count 120 = .ok (.invokevirtual 216, 3) := by decide +kernel
theorem dX9_count_123 : decode cX9_count 123 = .ok (.ireturn, 1) := by decide +kernel
theorem dX9_count_124 : decode cX9_count 124 = .ok (.aload_n 0, 1) := by decide +kernel
theorem dX9_count_125 : decode cX9_count 125 = .ok (.iconst 4, 1) := by decide +kernel
theorem dX9_count_126 : decode cX9_count 126 = .ok (.invokevirtual 216, 3) := by decide +kernel
theorem dX9_count_129 : decode cX9_count 129 = .ok (.ireturn, 1) := by decide +kernel
theorem dX9_count_130 : decode cX9_count 130 = .ok (.aload_n 0, 1) := by decide +kernel
theorem dX9_count_131 : decode cX9_count 131 = .ok (.aload_n 0, 1) := by decide +kernel
theorem dX9_count_132 : decode cX9_count 132 = .ok (.iconst 1, 1) := by decide +kernel
theorem dX9_count_133 : decode cX9_count 133 = .ok (.invokevirtual 129, 3) := by decide +kernel
theorem dX9_count_136 : decode cX9_count 136 = .ok (.invokevirtual 219, 3) := by decide +kernel
theorem dX9_count_139 : decode cX9_count 139 = .ok (.ireturn, 1) := by decide +kernel
theorem dX9_count_140 : decode cX9_count 140 = .ok (.aload_n 0, 1) := by decide +kernel
theorem dX9_count_141 : decode cX9_count 141 = .ok (.getfield 40, 3) := by decide +kernel
theorem dX9_count_144 : decode cX9_count 144 = .ok (.ireturn, 1) := by decide +kernel
theorem dX9_count_145 : decode cX9_count 145 = .ok (.aload_n 0, 1) := by decide +kernel
theorem dX9_count_146 : decode cX9_count 146 = .ok (.getfield 151, 3) := by decide +kernel
theorem dX9_count_149 : decode cX9_count 149 = .ok (.ireturn, 1) := by decide +kernel
theorem dX9_count_150 : decode cX9_count 150 = .ok (.aload_n 0, 1) := by decide +kernel
theorem dX9_count_151 : decode cX9_count 151 = .ok (.getfield 7, 3) := by decide +kernel
theorem dX9_count_154 : decode cX9_count 154 = .ok (.sipush 182, 3) := by decide +kernel
theorem dX9_count_157 : decode cX9_count 157 = .ok (.iaload, 1) := by decide +kernel
theorem dX9_count_158 : decode cX9_count 158 = .ok (.ireturn, 1) := by decide +kernel
theorem dX9_count_159 : decode cX9_count 159 = .ok (.bipush (-2), 2) := by decide +kernel
theorem dX9_count_161 : decode cX9_count 161 = .ok (.ireturn, 1) := by decide +kernel
theorem dX9_isLitThen_0 : decode cX9_isLitThen 0 = .ok (.iconst 0, 1) := by decide +kernel
theorem dX9_isLitThen_1 : decode cX9_isLitThen 1 = .ok (.istore 4, 2) := by decide +kernel
theorem dX9_isLitThen_3 : decode cX9_isLitThen 3 = .ok (.iconst 0, 1) := by decide +kernel
theorem dX9_isLitThen_4 : decode cX9_isLitThen 4 = .ok (.istore 5, 2) := by decide +kernel
theorem dX9_isLitThen_6 : decode cX9_isLitThen 6 = .ok (.iload 5, 2) := by decide +kernel
theorem dX9_isLitThen_8 : decode cX9_isLitThen 8 = .ok (.iconst 4, 1) := by decide +kernel
theorem dX9_isLitThen_9 : decode cX9_isLitThen 9 = .ok (.if_icmp .ge 67, 3) := by decide +kernel
theorem dX9_isLitThen_12 : decode cX9_isLitThen 12 = .ok (.aload_n 0, 1) := by decide +kernel
theorem dX9_isLitThen_13 : decode cX9_isLitThen 13 = .ok (.getfield 7, 3) := by decide +kernel
theorem dX9_isLitThen_16 : decode cX9_isLitThen 16 = .ok (.iload 5, 2) := by decide +kernel
theorem dX9_isLitThen_18 : decode cX9_isLitThen 18 = .ok (.iconst 4, 1) := by decide +kernel
theorem dX9_isLitThen_19 : decode cX9_isLitThen 19 = .ok (.invokestatic 29, 3) := by decide +kernel
theorem dX9_isLitThen_22 : decode cX9_isLitThen 22 = .ok (.iaload, 1) := by decide +kernel
theorem dX9_isLitThen_23 : decode cX9_isLitThen 23 = .ok (.iload_n 3, 1) := by decide +kernel
theorem dX9_isLitThen_24 : decode cX9_isLitThen 24 = .ok (.isub, 1) := by decide +kernel
theorem dX9_isLitThen_25 : decode cX9_isLitThen 25 = .ok (.istore 6, 2) := by decide +kernel
theorem dX9_isLitThen_27 : decode cX9_isLitThen 27 = .ok (.iload 4, 2) := by decide +kernel
theorem dX9_isLitThen_29 : decode cX9_isLitThen 29 = .ok (.ifCond .ne 34, 3) := by decide +kernel
theorem dX9_isLitThen_32 : decode cX9_isLitThen 32 = .ok (.aload_n 0, 1) := by decide +kernel
theorem dX9_isLitThen_33 : decode cX9_isLitThen 33 = .ok (.iload 5, 2) := by decide +kernel
theorem dX9_isLitThen_35 : decode cX9_isLitThen 35 = .ok (.iload_n 1, 1) := by decide +kernel
theorem dX9_isLitThen_36 : decode cX9_isLitThen 36 = .ok (.aload_n 0, 1) := by decide +kernel
theorem dX9_isLitThen_37 : decode cX9_isLitThen 37 = .ok (.getfield 7, 3) := by decide +kernel
theorem dX9_isLitThen_40 : decode cX9_isLitThen 40 = .ok (.sipush 181, 3) := by decide +kernel
theorem dX9_isLitThen_43 : decode cX9_isLitThen 43 = .ok (.iaload, 1) := by decide +kernel
theorem dX9_isLitThen_44 : decode cX9_isLitThen 44 = .ok (.iload_n 2, 1) := by decide +kernel
theorem dX9_isLitThen_45 : decode cX9_isLitThen 45 = .ok (.iadd, 1) := by decide +kernel
theorem dX9_isLitThen_46 : decode cX9_isLitThen 46 = .ok (.iload 6, 2) := by decide +kernel
theorem dX9_isLitThen_48 : decode cX9_isLitThen 48 = .ok (.ifCond .ge 7, 3) := by decide +kernel
theorem dX9_isLitThen_51 : decode cX9_isLitThen 51 = .ok (.iconst 0, 1) := by decide +kernel
theorem dX9_isLitThen_52 : decode cX9_isLitThen 52 = .ok (.goto 5, 3) := by decide +kernel
theorem dX9_isLitThen_55 : decode cX9_isLitThen 55 = .ok (.iload 6, 2) := by decide +kernel
theorem dX9_isLitThen_57 : decode cX9_isLitThen 57 = .ok (.invokevirtual 70, 3) := by decide +kernel
theorem dX9_isLitThen_60 : decode cX9_isLitThen 60 = .ok (.ifCond .eq 7, 3) := by decide +kernel
theorem dX9_isLitThen_63 : decode cX9_isLitThen 63 = .ok (.iconst 1, 1) := by decide +kernel
theorem dX9_isLitThen_64 : decode cX9_isLitThen 64 = .ok (.goto 4, 3) := by decide +kernel
theorem dX9_isLitThen_67 : decode cX9_isLitThen 67 = .ok (.iconst 0, 1) := by decide +kernel
theorem dX9_isLitThen_68 : decode cX9_isLitThen 68 = .ok (.istore 4, 2) := by decide +kernel
theorem dX9_isLitThen_70 : decode cX9_isLitThen 70 = .ok (.iinc 5 1, 3) := by decide +kernel
theorem dX9_isLitThen_73 : decode cX9_isLitThen 73 = .ok (.goto (-67), 3) := by decide +kernel
theorem dX9_isLitThen_76 : decode cX9_isLitThen 76 = .ok (.iload 4, 2) := by decide +kernel
theorem dX9_isLitThen_78 : decode cX9_isLitThen 78 = .ok (.ireturn, 1) := by decide +kernel
theorem dX9_share_0 : decode cX9_share 0 = .ok (.iload_n 1, 1) := by decide +kernel
theorem dX9_share_1 : decode cX9_share 1 = .ok (.invokestatic 77, 3) := by decide +kernel
theorem dX9_share_4 : decode cX9_share 4 = .ok (.ifCond .ne 6, 3) := by decide +kernel
theorem dX9_share_7 : decode cX9_share 7 = .ok (.ldc 222, 2) := by decide +kernel
theorem dX9_share_9 : decode cX9_share 9 = .ok (.freturn, 1) := by decide +kernel
theorem dX9_share_10 : decode cX9_share 10 = .ok (.iconst 0, 1) := by decide +kernel
theorem dX9_share_11 : decode cX9_share 11 = .ok (.istore_n 2, 1) := by decide +kernel
theorem dX9_share_12 : decode cX9_share 12 = .ok (.iconst 0, 1) := by decide +kernel
theorem dX9_share_13 : decode cX9_share 13 = .ok (.istore_n 3, 1) := by decide +kernel
theorem dX9_share_14 : decode cX9_share 14 = .ok (.iload_n 3, 1) := by decide +kernel
theorem dX9_share_15 : decode cX9_share 15 = .ok (.bipush 8, 2) := by decide +kernel
theorem dX9_share_17 : decode cX9_share 17 = .ok (.if_icmp .ge 27, 3) := by decide +kernel
theorem dX9_share_20 : decode cX9_share 20 = .ok (.iload_n 2, 1) := by decide +kernel
theorem dX9_share_21 : decode cX9_share 21 = .ok (.aload_n 0, 1) := by decide +kernel
theorem dX9_share_22 : decode cX9_share 22 = .ok (.iload_n 1, 1) := by decide +kernel
theorem dX9_share_23 : decode cX9_share 23 = .ok (.iload_n 3, 1) := by decide +kernel
theorem dX9_share_24 : decode cX9_share 24 = .ok (.iconst 0, 1) := by decide +kernel
theorem dX9_share_25 : decode cX9_share 25 = .ok (.invokevirtual 223, 3) := by decide +kernel
theorem dX9_share_28 : decode cX9_share 28 = .ok (.ifCond .eq 7, 3) := by decide +kernel
theorem dX9_share_31 : decode cX9_share 31 = .ok (.iconst 1, 1) := by decide +kernel
theorem dX9_share_32 : decode cX9_share 32 = .ok (.goto 4, 3) := by decide +kernel
theorem dX9_share_35 : decode cX9_share 35 = .ok (.iconst 0, 1) := by decide +kernel
theorem dX9_share_36 : decode cX9_share 36 = .ok (.iadd, 1) := by decide +kernel
theorem dX9_share_37 : decode cX9_share 37 = .ok (.istore_n 2, 1) := by decide +kernel
theorem dX9_share_38 : decode cX9_share 38 = .ok (.iinc 3 1, 3) := by decide +kernel
theorem dX9_share_41 : decode cX9_share 41 = .ok (.goto (-27), 3) := by decide +kernel
theorem dX9_share_44 : decode cX9_share 44 = .ok (.iload_n 2, 1) := by decide +kernel
theorem dX9_share_45 : decode cX9_share 45 = .ok (.i2f, 1) := by decide +kernel
theorem dX9_share_46 : decode cX9_share 46 = .ok (.ldc 226, 2) := by decide +kernel
theorem dX9_share_48 : decode cX9_share 48 = .ok (.fdiv, 1) := by decide +kernel
theorem dX9_share_49 : decode cX9_share 49 = .ok (.freturn, 1) := by decide +kernel
theorem dX9_litIn_0 : decode cX9_litIn 0 = .ok (.iload_n 1, 1) := by decide +kernel
theorem dX9_litIn_1 : decode cX9_litIn 1 = .ok (.invokestatic 77, 3) := by decide +kernel
theorem dX9_litIn_4 : decode cX9_litIn 4 = .ok (.ifCond .ne 5, 3) := by decide +kernel
theorem dX9_litIn_7 : decode cX9_litIn 7 = .ok (.iconst (-1), 1) := by decide +kernel
theorem dX9_litIn_8 : decode cX9_litIn 8 = .ok (.ireturn, 1) := by decide +kernel
theorem dX9_litIn_9 : decode cX9_litIn 9 = .ok (.iconst 0, 1) := by decide +kernel
theorem dX9_litIn_10 : decode cX9_litIn 10 = .ok (.istore_n 2, 1) := by decide +kernel
theorem dX9_litIn_11 : decode cX9_litIn 11 = .ok (.iload_n 2, 1) := by decide +kernel
theorem dX9_litIn_12 : decode cX9_litIn 12 = .ok (.bipush 40, 2) := by decide +kernel
theorem dX9_litIn_14 : decode cX9_litIn 14 = .ok (.if_icmp .gt 21, 3) := by decide +kernel
theorem dX9_litIn_17 : decode cX9_litIn 17 = .ok (.aload_n 0, 1) := by decide +kernel
theorem dX9_litIn_18 : decode cX9_litIn 18 = .ok (.iload_n 1, 1) := by decide +kernel
theorem dX9_litIn_19 : decode cX9_litIn 19 = .ok (.iload_n 2, 1) := by decide +kernel
theorem dX9_litIn_20 : decode cX9_litIn 20 = .ok (.iload_n 2, 1) := by decide +kernel
theorem dX9_litIn_21 : decode cX9_litIn 21 = .ok (.invokevirtual 223, 3) := by decide +kernel
theorem dX9_litIn_24 : decode cX9_litIn 24 = .ok (.ifCond .eq 5, 3) := by decide +kernel
theorem dX9_litIn_27 : decode cX9_litIn 27 = .ok (.iload_n 2, 1) := by decide +kernel
theorem dX9_litIn_28 : decode cX9_litIn 28 = .ok (.ireturn, 1) := by decide +kernel
theorem dX9_litIn_29 : decode cX9_litIn 29 = .ok (.iinc 2 1, 3) := by decide +kernel
theorem dX9_litIn_32 : decode cX9_litIn 32 = .ok (.goto (-21), 3) := by decide +kernel
theorem dX9_litIn_35 : decode cX9_litIn 35 = .ok (.bipush (-5), 2) := by decide +kernel
theorem dX9_litIn_37 : decode cX9_litIn 37 = .ok (.ireturn, 1) := by decide +kernel
theorem dX9_ifPassed_0 : decode cX9_ifPassed 0 = .ok (.iload_n 1, 1) := by decide +kernel
theorem dX9_ifPassed_1 : decode cX9_ifPassed 1 = .ok (.iconst 1, 1) := by decide +kernel
theorem dX9_ifPassed_2 : decode cX9_ifPassed 2 = .ok (.bipush 40, 2) := by decide +kernel
theorem dX9_ifPassed_4 : decode cX9_ifPassed 4 = .ok (.invokestatic 36, 3) := by decide +kernel
theorem dX9_ifPassed_7 : decode cX9_ifPassed 7 = .ok (.ifCond .ne 6, 3) := by decide +kernel
theorem dX9_ifPassed_10 : decode cX9_ifPassed 10 = .ok (.bipush (-2), 2) := by decide +kernel
theorem dX9_ifPassed_12 : decode cX9_ifPassed 12 = .ok (.ireturn, 1) := by decide +kernel
theorem dX9_ifPassed_13 : decode cX9_ifPassed 13 = .ok (.aload_n 0, 1) := by decide +kernel
theorem dX9_ifPassed_14 : decode cX9_ifPassed 14 = .ok (.invokevirtual 194, 3) := by decide +kernel
theorem dX9_ifPassed_17 : decode cX9_ifPassed 17 = .ok (.aload_n 0, 1) := by decide +kernel
theorem dX9_ifPassed_18 : decode cX9_ifPassed 18 = .ok (.iload_n 1, 1) := by decide +kernel
theorem dX9_ifPassed_19 : decode cX9_ifPassed 19 = .ok (.invokevirtual 138, 3) := by decide +kernel
theorem dX9_ifPassed_22 : decode cX9_ifPassed 22 = .ok (.istore_n 2, 1) := by decide +kernel
theorem dX9_ifPassed_23 : decode cX9_ifPassed 23 = .ok (.aload_n 0, 1) := by decide +kernel
theorem dX9_ifPassed_24 : decode cX9_ifPassed 24 = .ok (.invokevirtual 200, 3) := by decide +kernel
theorem dX9_ifPassed_27 : decode cX9_ifPassed 27 = .ok (.iload_n 2, 1) := by decide +kernel
theorem dX9_ifPassed_28 : decode cX9_ifPassed 28 = .ok (.ireturn, 1) := by decide +kernel
theorem dX9_bestCard_0 : decode cX9_bestCard 0 = .ok (.iload_n 1, 1) := by decide +kernel
theorem dX9_bestCard_1 : decode cX9_bestCard 1 = .ok (.invokestatic 94, 3) := by decide +kernel
theorem dX9_bestCard_4 : decode cX9_bestCard 4 = .ok (.ifCond .ne 5, 3) := by decide +kernel
theorem dX9_bestCard_7 : decode cX9_bestCard 7 = .ok (.iconst (-1), 1) := by decide +kernel
theorem dX9_bestCard_8 : decode cX9_bestCard 8 = .ok (.ireturn, 1) := by decide +kernel
theorem dX9_bestCard_9 : decode cX9_bestCard 9 = .ok (.aload_n 0, 1) := by decide +kernel
theorem dX9_bestCard_10 : decode cX9_bestCard 10 = .ok (.invokevirtual 194, 3) := by decide +kernel
theorem dX9_bestCard_13 : decode cX9_bestCard 13 = .ok (.aload_n 0, 1) := by decide +kernel
theorem dX9_bestCard_14 : decode cX9_bestCard 14 = .ok (.aload_n 0, 1) := by decide +kernel
theorem dX9_bestCard_15 : decode cX9_bestCard 15 = .ok (.bipush 10, 2) := by decide +kernel
theorem dX9_bestCard_17 : decode cX9_bestCard 17 = .ok (.invokevirtual 138, 3) := by decide +kernel
theorem dX9_bestCard_20 : decode cX9_bestCard 20 = .ok (.invokevirtual 219, 3) := by decide +kernel
theorem dX9_bestCard_23 : decode cX9_bestCard 23 = .ok (.istore_n 2, 1) := by decide +kernel
theorem dX9_bestCard_24 : decode cX9_bestCard 24 = .ok (.aload_n 0, 1) := by decide +kernel
theorem dX9_bestCard_25 : decode cX9_bestCard 25 = .ok (.invokevirtual 200, 3) := by decide +kernel
theorem dX9_bestCard_28 : decode cX9_bestCard 28 = .ok (.bipush (-5), 2) := by decide +kernel
theorem dX9_bestCard_30 : decode cX9_bestCard 30 = .ok (.istore_n 3, 1) := by decide +kernel
theorem dX9_bestCard_31 : decode cX9_bestCard 31 = .ok (.iconst 0, 1) := by decide +kernel
theorem dX9_bestCard_32 : decode cX9_bestCard 32 = .ok (.istore 4, 2) := by decide +kernel
theorem dX9_bestCard_34 : decode cX9_bestCard 34 = .ok (.iload 4, 2) := by decide +kernel
theorem dX9_bestCard_36 : decode cX9_bestCard 36 = .ok (.iconst 4, 1) := by decide +kernel
theorem dX9_bestCard_37 : decode cX9_bestCard 37 = .ok (.if_icmp .ge 68, 3) := by decide +kernel
theorem dX9_bestCard_40 : decode cX9_bestCard 40 = .ok (.aload_n 0, 1) := by decide +kernel
theorem dX9_bestCard_41 : decode cX9_bestCard 41 = .ok (.iload_n 1, 1) := by decide +kernel
theorem dX9_bestCard_42 : decode cX9_bestCard 42 = .ok (.iload 4, 2) := by decide +kernel
theorem dX9_bestCard_44 : decode cX9_bestCard 44 = .ok (.invokevirtual 144, 3) := by decide +kernel
theorem dX9_bestCard_47 : decode cX9_bestCard 47 = .ok (.ifCond .eq 52, 3) := by decide +kernel
theorem dX9_bestCard_50 : decode cX9_bestCard 50 = .ok (.aload_n 0, 1) := by decide +kernel
theorem dX9_bestCard_51 : decode cX9_bestCard 51 = .ok (.iload_n 1, 1) := by decide +kernel
theorem dX9_bestCard_52 : decode cX9_bestCard 52 = .ok (.iload 4, 2) := by decide +kernel
theorem dX9_bestCard_54 : decode cX9_bestCard 54 = .ok (.invokevirtual 147, 3) := by decide +kernel
theorem dX9_bestCard_57 : decode cX9_bestCard 57 = .ok (.aload_n 0, 1) := by decide +kernel
theorem dX9_bestCard_58 : decode cX9_bestCard 58 = .ok (.aload_n 0, 1) := by decide +kernel
theorem dX9_bestCard_59 : decode cX9_bestCard 59 = .ok (.bipush 10, 2) := by decide +kernel
theorem dX9_bestCard_61 : decode cX9_bestCard 61 = .ok (.invokevirtual 138, 3) := by decide +kernel
theorem dX9_bestCard_64 : decode cX9_bestCard 64 = .ok (.invokevirtual 219, 3) := by decide +kernel
theorem dX9_bestCard_67 : decode cX9_bestCard 67 = .ok (.istore 5, 2) := by decide +kernel
theorem dX9_bestCard_69 : decode cX9_bestCard 69 = .ok (.aload_n 0, 1) := by decide +kernel
theorem dX9_bestCard_70 : decode cX9_bestCard 70 = .ok (.invokevirtual 200, 3) := by decide +kernel
theorem dX9_bestCard_73 : decode cX9_bestCard 73 = .ok (.iload 5, 2) := by decide +kernel
theorem dX9_bestCard_75 : decode cX9_bestCard 75 = .ok (.iload_n 2, 1) := by decide +kernel
theorem dX9_bestCard_76 : decode cX9_bestCard 76 = .ok (.if_icmp .le 8, 3) := by decide +kernel
theorem dX9_bestCard_79 : decode cX9_bestCard 79 = .ok (.iload 4, 2) := by decide +kernel
theorem dX9_bestCard_81 : decode cX9_bestCard 81 = .ok (.goto 4, 3) := by decide +kernel
theorem dX9_bestCard_84 : decode cX9_bestCard 84 = .ok (.iload_n 3, 1) := by decide +kernel
theorem dX9_bestCard_85 : decode cX9_bestCard 85 = .ok (.istore_n 3, 1) := by decide +kernel
theorem dX9_bestCard_86 : decode cX9_bestCard 86 = .ok (.iload 5, 2) := by decide +kernel
theorem dX9_bestCard_88 : decode cX9_bestCard 88 = .ok (.iload_n 2, 1) := by decide +kernel
theorem dX9_bestCard_89 : decode cX9_bestCard 89 = .ok (.if_icmp .le 8, 3) := by decide +kernel
theorem dX9_bestCard_92 : decode cX9_bestCard 92 = .ok (.iload 5, 2) := by decide +kernel
theorem dX9_bestCard_94 : decode cX9_bestCard 94 = .ok (.goto 4, 3) := by decide +kernel
theorem dX9_bestCard_97 : decode cX9_bestCard 97 = .ok (.iload_n 2, 1) := by decide +kernel
theorem dX9_bestCard_98 : decode cX9_bestCard 98 = .ok (.istore_n 2, 1) := by decide +kernel
theorem dX9_bestCard_99 : decode cX9_bestCard 99 = .ok (.iinc 4 1, 3) := by decide +kernel
theorem dX9_bestCard_102 : decode cX9_bestCard 102 = .ok (.goto (-68), 3) := by decide +kernel
theorem dX9_bestCard_105 : decode cX9_bestCard 105 = .ok (.iload_n 3, 1) := by decide +kernel
theorem dX9_bestCard_106 : decode cX9_bestCard 106 = .ok (.ireturn, 1) := by decide +kernel
