theorem dJ0_charAt_5068e_0 : decode cJ0_charAt_5068e 0 = .ok (.aload_n 0, 1) := by decide +kernel
theorem dJ0_charAt_5068e_1 : decode cJ0_charAt_5068e 1 = .ok (.invokevirtual 492, 3) := by decide +kernel
theorem dJ0_charAt_5068e_11 : decode cJ0_charAt_5068e 11 = .ok (.iload_n 1, 1) := by decide +kernel
theorem dJ0_charAt_5068e_12 : decode cJ0_charAt_5068e 12 = .ok (.invokestatic 495, 3) := by decide +kernel
theorem dJ0_charAt_5068e_15 : decode cJ0_charAt_5068e 15 = .ok (.ireturn, 1) := by decide +kernel
theorem dJ0_charAt_5068e_4 : decode cJ0_charAt_5068e 4 = .ok (.ifCond .eq 12, 3) := by decide +kernel
theorem dJ0_charAt_5068e_7 : decode cJ0_charAt_5068e 7 = .ok (.aload_n 0, 1) := by decide +kernel
theorem dJ0_charAt_5068e_8 : decode cJ0_charAt_5068e 8 = .ok (.getfield 9, 3) := by decide +kernel
theorem dJ0_checkIndex_df160_0 : decode cJ0_checkIndex_df160 0 = .ok (.iload_n 0, 1) := by decide +kernel
theorem dJ0_checkIndex_df160_1 : decode cJ0_checkIndex_df160 1 = .ok (.iload_n 1, 1) := by decide +kernel
theorem dJ0_checkIndex_df160_2 : decode cJ0_checkIndex_df160 2 = .ok (.getstatic 1053, 3) := by decide +kernel
theorem dJ0_checkIndex_df160_5 : decode cJ0_checkIndex_df160 5 = .ok (.invokestatic 1059, 3) := by decide +kernel
theorem dJ0_checkIndex_df160_8 : decode cJ0_checkIndex_df160 8 = .ok (.pop, 1) := by decide +kernel
theorem dJ0_checkIndex_df160_9 : decode cJ0_checkIndex_df160 9 = .ok (.return_, 1) := by decide +kernel
theorem dJ0_coder_7d493_0 : decode cJ0_coder_7d493 0 = .ok (.getstatic 38, 3) := by decide +kernel
theorem dJ0_coder_7d493_10 : decode cJ0_coder_7d493 10 = .ok (.goto 4, 3) := by decide +kernel
theorem dJ0_coder_7d493_14 : decode cJ0_coder_7d493 14 = .ok (.ireturn, 1) := by decide +kernel
theorem dJ0_coder_7d493_3 : decode cJ0_coder_7d493 3 = .ok (.ifCond .eq 10, 3) := by decide +kernel
theorem dJ0_coder_7d493_6 : decode cJ0_coder_7d493 6 = .ok (.aload_n 0, 1) := by decide +kernel
theorem dJ0_coder_7d493_7 : decode cJ0_coder_7d493 7 = .ok (.getfield 15, 3) := by decide +kernel
theorem dJ0_isLatin1_aae02_0 : decode cJ0_isLatin1_aae02 0 = .ok (.getstatic 38, 3) := by decide +kernel
theorem dJ0_isLatin1_aae02_10 : decode cJ0_isLatin1_aae02 10 = .ok (.ifCond .ne 7, 3) := by decide +kernel
theorem dJ0_isLatin1_aae02_13 : decode cJ0_isLatin1_aae02 13 = .ok (.iconst 1, 1) := by decide +kernel
theorem dJ0_isLatin1_aae02_14 : decode cJ0_isLatin1_aae02 14 = .ok (.goto 4, 3) := by decide +kernel
theorem dJ0_isLatin1_aae02_18 : decode cJ0_isLatin1_aae02 18 = .ok (.ireturn, 1) := by decide +kernel
theorem dJ0_isLatin1_aae02_3 : decode cJ0_isLatin1_aae02 3 = .ok (.ifCond .eq 14, 3) := by decide +kernel
theorem dJ0_isLatin1_aae02_6 : decode cJ0_isLatin1_aae02 6 = .ok (.aload_n 0, 1) := by decide +kernel
theorem dJ0_isLatin1_aae02_7 : decode cJ0_isLatin1_aae02 7 = .ok (.getfield 15, 3) := by decide +kernel
theorem dJ0_length_8abf5_0 : decode cJ0_length_8abf5 0 = .ok (.aload_n 0, 1) := by decide +kernel
theorem dJ0_length_8abf5_1 : decode cJ0_length_8abf5 1 = .ok (.getfield 9, 3) := by decide +kernel
theorem dJ0_length_8abf5_10 : decode cJ0_length_8abf5 10 = .ok (.ireturn, 1) := by decide +kernel
theorem dJ0_length_8abf5_4 : decode cJ0_length_8abf5 4 = .ok (.arraylength, 1) := by decide +kernel
theorem dJ0_length_8abf5_5 : decode cJ0_length_8abf5 5 = .ok (.aload_n 0, 1) := by decide +kernel
theorem dJ0_length_8abf5_6 : decode cJ0_length_8abf5 6 = .ok (.invokevirtual 335, 3) := by decide +kernel
theorem dJ0_length_8abf5_9 : decode cJ0_length_8abf5 9 = .ok (.ishr, 1) := by decide +kernel
theorem dJ1_charAt_3b067_0 : decode cJ1_charAt_3b067 0 = .ok (.iload_n 1, 1) := by decide +kernel
theorem dJ1_charAt_3b067_1 : decode cJ1_charAt_3b067 1 = .ok (.aload_n 0, 1) := by decide +kernel
theorem dJ1_charAt_3b067_12 : decode cJ1_charAt_3b067 12 = .ok (.iand, 1) := by decide +kernel
theorem dJ1_charAt_3b067_13 : decode cJ1_charAt_3b067 13 = .ok (.i2c, 1) := by decide +kernel
theorem dJ1_charAt_3b067_14 : decode cJ1_charAt_3b067 14 = .ok (.ireturn, 1) := by decide +kernel
theorem dJ1_charAt_3b067_2 : decode cJ1_charAt_3b067 2 = .ok (.arraylength, 1) := by decide +kernel
theorem dJ1_charAt_3b067_3 : decode cJ1_charAt_3b067 3 = .ok (.invokestatic 9, 3) := by decide +kernel
theorem dJ1_charAt_3b067_6 : decode cJ1_charAt_3b067 6 = .ok (.aload_n 0, 1) := by decide +kernel
theorem dJ1_charAt_3b067_7 : decode cJ1_charAt_3b067 7 = .ok (.iload_n 1, 1) := by decide +kernel
theorem dJ1_charAt_3b067_8 : decode cJ1_charAt_3b067 8 = .ok (.baload, 1) := by decide +kernel
theorem dJ1_charAt_3b067_9 : decode cJ1_charAt_3b067 9 = .ok (.sipush 255, 3) := by decide +kernel
theorem dJ3_checkIndex_8e157_0 : decode cJ3_checkIndex_8e157 0 = .ok (.iload_n 0, 1) := by decide +kernel
theorem dJ3_checkIndex_8e157_1 : decode cJ3_checkIndex_8e157 1 = .ok (.ifCond .lt 8, 3) := by decide +kernel
theorem dJ3_checkIndex_8e157_16 : decode cJ3_checkIndex_8e157 16 = .ok (.iload_n 0, 1) := by decide +kernel
theorem dJ3_checkIndex_8e157_17 : decode cJ3_checkIndex_8e157 17 = .ok (.ireturn, 1) := by decide +kernel
theorem dJ3_checkIndex_8e157_4 : decode cJ3_checkIndex_8e157 4 = .ok (.iload_n 0, 1) := by decide +kernel
theorem dJ3_checkIndex_8e157_5 : decode cJ3_checkIndex_8e157 5 = .ok (.iload_n 1, 1) := by decide +kernel
theorem dJ3_checkIndex_8e157_6 : decode cJ3_checkIndex_8e157 6 = .ok (.if_icmp .lt 10, 3) := by decide +kernel
theorem dX10_beginsClause_0 : decode cX10_beginsClause 0 = .ok (.aload_n 0, 1) := by decide +kernel
theorem dX10_beginsClause_1 : decode cX10_beginsClause 1 = .ok (.getfield 113, 3) := by decide +kernel
theorem dX10_beginsClause_12 : decode cX10_beginsClause 12 = .ok (.if_acmp .eq 31, 3) := by decide +kernel
theorem dX10_beginsClause_15 : decode cX10_beginsClause 15 = .ok (.aload_n 0, 1) := by decide +kernel
theorem dX10_beginsClause_16 : decode cX10_beginsClause 16 = .ok (.getstatic 12, 3) := by decide +kernel
theorem dX10_beginsClause_19 : decode cX10_beginsClause 19 = .ok (.if_acmp .eq 24, 3) := by decide +kernel
theorem dX10_beginsClause_22 : decode cX10_beginsClause 22 = .ok (.aload_n 0, 1) := by decide +kernel
theorem dX10_beginsClause_23 : decode cX10_beginsClause 23 = .ok (.getstatic 15, 3) := by decide +kernel
theorem dX10_beginsClause_26 : decode cX10_beginsClause 26 = .ok (.if_acmp .eq 17, 3) := by decide +kernel
theorem dX10_beginsClause_29 : decode cX10_beginsClause 29 = .ok (.aload_n 0, 1) := by decide +kernel
theorem dX10_beginsClause_30 : decode cX10_beginsClause 30 = .ok (.getstatic 18, 3) := by decide +kernel
theorem dX10_beginsClause_33 : decode cX10_beginsClause 33 = .ok (.if_acmp .eq 10, 3) := by decide +kernel
theorem dX10_beginsClause_36 : decode cX10_beginsClause 36 = .ok (.aload_n 0, 1) := by decide +kernel
theorem dX10_beginsClause_37 : decode cX10_beginsClause 37 = .ok (.getstatic 21, 3) := by decide +kernel
theorem dX10_beginsClause_4 : decode cX10_beginsClause 4 = .ok (.iconst (-1), 1) := by decide +kernel
theorem dX10_beginsClause_40 : decode cX10_beginsClause 40 = .ok (.if_acmp .ne 7, 3) := by decide +kernel
theorem dX10_beginsClause_43 : decode cX10_beginsClause 43 = .ok (.iconst 1, 1) := by decide +kernel
theorem dX10_beginsClause_44 : decode cX10_beginsClause 44 = .ok (.goto 4, 3) := by decide +kernel
theorem dX10_beginsClause_47 : decode cX10_beginsClause 47 = .ok (.iconst 0, 1) := by decide +kernel
theorem dX10_beginsClause_48 : decode cX10_beginsClause 48 = .ok (.ireturn, 1) := by decide +kernel
theorem dX10_beginsClause_5 : decode cX10_beginsClause 5 = .ok (.if_icmp .ne 38, 3) := by decide +kernel
theorem dX10_beginsClause_8 : decode cX10_beginsClause 8 = .ok (.aload_n 0, 1) := by decide +kernel
theorem dX10_beginsClause_9 : decode cX10_beginsClause 9 = .ok (.getstatic 9, 3) := by decide +kernel
theorem dX10_of_0 : decode cX10_of 0 = .ok (.iconst 0, 1) := by decide +kernel
theorem dX10_of_1 : decode cX10_of 1 = .ok (.istore_n 3, 1) := by decide +kernel
theorem dX10_of_10 : decode cX10_of 10 = .ok (.getstatic 123, 3) := by decide +kernel
theorem dX10_of_13 : decode cX10_of 13 = .ok (.iload_n 3, 1) := by decide +kernel
theorem dX10_of_14 : decode cX10_of 14 = .ok (.aaload, 1) := by decide +kernel
theorem dX10_of_15 : decode cX10_of 15 = .ok (.getfield 109, 3) := by decide +kernel
theorem dX10_of_18 : decode cX10_of 18 = .ok (.astore 4, 2) := by decide +kernel
theorem dX10_of_2 : decode cX10_of 2 = .ok (.iload_n 3, 1) := by decide +kernel
theorem dX10_of_20 : decode cX10_of 20 = .ok (.iconst 0, 1) := by decide +kernel
theorem dX10_of_21 : decode cX10_of 21 = .ok (.istore 5, 2) := by decide +kernel
theorem dX10_of_23 : decode cX10_of 23 = .ok (.iload 5, 2) := by decide +kernel
theorem dX10_of_25 : decode cX10_of 25 = .ok (.aload 4, 2) := by decide +kernel
theorem dX10_of_27 : decode cX10_of 27 = .ok (.invokevirtual 126, 3) := by decide +kernel
theorem dX10_of_3 : decode cX10_of 3 = .ok (.getstatic 123, 3) := by decide +kernel
theorem dX10_of_30 : decode cX10_of 30 = .ok (.if_icmp .ge 33, 3) := by decide +kernel
theorem dX10_of_33 : decode cX10_of 33 = .ok (.iload_n 1, 1) := by decide +kernel
theorem dX10_of_34 : decode cX10_of 34 = .ok (.iload 5, 2) := by decide +kernel
theorem dX10_of_36 : decode cX10_of 36 = .ok (.iadd, 1) := by decide +kernel
theorem dX10_of_37 : decode cX10_of 37 = .ok (.iload_n 2, 1) := by decide +kernel
theorem dX10_of_38 : decode cX10_of 38 = .ok (.if_icmp .ge 25, 3) := by decide +kernel
theorem dX10_of_41 : decode cX10_of 41 = .ok (.aload_n 0, 1) := by decide +kernel
theorem dX10_of_42 : decode cX10_of 42 = .ok (.iload_n 1, 1) := by decide +kernel
theorem dX10_of_43 : decode cX10_of 43 = .ok (.iload 5, 2) := by decide +kernel
theorem dX10_of_45 : decode cX10_of 45 = .ok (.iadd, 1) := by decide +kernel
theorem dX10_of_46 : decode cX10_of 46 = .ok (.baload, 1) := by decide +kernel
theorem dX10_of_47 : decode cX10_of 47 = .ok (.aload 4, 2) := by decide +kernel
theorem dX10_of_49 : decode cX10_of 49 = .ok (.iload 5, 2) := by decide +kernel
theorem dX10_of_51 : decode cX10_of 51 = .ok (.invokevirtual 132, 3) := by decide +kernel
theorem dX10_of_54 : decode cX10_of 54 = .ok (.if_icmp .ne 9, 3) := by decide +kernel
theorem dX10_of_57 : decode cX10_of 57 = .ok (.iinc 5 1, 3) := by decide +kernel
theorem dX10_of_6 : decode cX10_of 6 = .ok (.arraylength, 1) := by decide +kernel
theorem dX10_of_60 : decode cX10_of 60 = .ok (.goto (-37), 3) := by decide +kernel
theorem dX10_of_63 : decode cX10_of 63 = .ok (.iload 5, 2) := by decide +kernel
theorem dX10_of_65 : decode cX10_of 65 = .ok (.aload 4, 2) := by decide +kernel
theorem dX10_of_67 : decode cX10_of 67 = .ok (.invokevirtual 126, 3) := by decide +kernel
theorem dX10_of_7 : decode cX10_of 7 = .ok (.if_icmp .ge 86, 3) := by decide +kernel
theorem dX10_of_70 : decode cX10_of 70 = .ok (.if_icmp .ne 17, 3) := by decide +kernel
theorem dX10_of_73 : decode cX10_of 73 = .ok (.iload_n 1, 1) := by decide +kernel
theorem dX10_of_74 : decode cX10_of 74 = .ok (.iload 5, 2) := by decide +kernel
theorem dX10_of_76 : decode cX10_of 76 = .ok (.iadd, 1) := by decide +kernel
theorem dX10_of_77 : decode cX10_of 77 = .ok (.iload_n 2, 1) := by decide +kernel
theorem dX10_of_78 : decode cX10_of 78 = .ok (.if_icmp .ne 9, 3) := by decide +kernel
theorem dX10_of_81 : decode cX10_of 81 = .ok (.getstatic 123, 3) := by decide +kernel
theorem dX10_of_84 : decode cX10_of 84 = .ok (.iload_n 3, 1) := by decide +kernel
theorem dX10_of_85 : decode cX10_of 85 = .ok (.aaload, 1) := by decide +kernel
theorem dX10_of_86 : decode cX10_of 86 = .ok (.areturn, 1) := by decide +kernel
theorem dX10_of_87 : decode cX10_of 87 = .ok (.iinc 3 1, 3) := by decide +kernel
theorem dX10_of_90 : decode cX10_of 90 = .ok (.goto (-88), 3) := by decide +kernel
theorem dX10_of_93 : decode cX10_of 93 = .ok (.getstatic 5, 3) := by decide +kernel
theorem dX10_of_96 : decode cX10_of 96 = .ok (.areturn, 1) := by decide +kernel
theorem dX8_takeWord_0 : decode cX8_takeWord 0 = .ok (.aload_n 0, 1) := by decide +kernel
theorem dX8_takeWord_1 : decode cX8_takeWord 1 = .ok (.invokevirtual 52, 3) := by decide +kernel
theorem dX8_takeWord_10 : decode cX8_takeWord 10 = .ok (.aload_n 0, 1) := by decide +kernel
theorem dX8_takeWord_11 : decode cX8_takeWord 11 = .ok (.aload_n 0, 1) := by decide +kernel
theorem dX8_takeWord_12 : decode cX8_takeWord 12 = .ok (.getfield 28, 3) := by decide +kernel
theorem dX8_takeWord_15 : decode cX8_takeWord 15 = .ok (.putfield 25, 3) := by decide +kernel
theorem dX8_takeWord_18 : decode cX8_takeWord 18 = .ok (.iconst 1, 1) := by decide +kernel
theorem dX8_takeWord_19 : decode cX8_takeWord 19 = .ok (.ireturn, 1) := by decide +kernel
theorem dX8_takeWord_4 : decode cX8_takeWord 4 = .ok (.aload_n 1, 1) := by decide +kernel
theorem dX8_takeWord_5 : decode cX8_takeWord 5 = .ok (.if_acmp .eq 5, 3) := by decide +kernel
theorem dX8_takeWord_8 : decode cX8_takeWord 8 = .ok (.iconst 0, 1) := by decide +kernel
theorem dX8_takeWord_9 : decode cX8_takeWord 9 = .ok (.ireturn, 1) := by decide +kernel
theorem dX8_wantWord_0 : decode cX8_wantWord 0 = .ok (.aload_n 0, 1) := by decide +kernel
theorem dX8_wantWord_1 : decode cX8_wantWord 1 = .ok (.invokevirtual 52, 3) := by decide +kernel
theorem dX8_wantWord_10 : decode cX8_wantWord 10 = .ok (.getfield 28, 3) := by decide +kernel
theorem dX8_wantWord_13 : decode cX8_wantWord 13 = .ok (.putfield 25, 3) := by decide +kernel
theorem dX8_wantWord_16 : decode cX8_wantWord 16 = .ok (.goto 8, 3) := by decide +kernel
theorem dX8_wantWord_19 : decode cX8_wantWord 19 = .ok (.aload_n 0, 1) := by decide +kernel
theorem dX8_wantWord_20 : decode cX8_wantWord 20 = .ok (.iconst 1, 1) := by decide +kernel
theorem dX8_wantWord_21 : decode cX8_wantWord 21 = .ok (.invokevirtual 38, 3) := by decide +kernel
theorem dX8_wantWord_24 : decode cX8_wantWord 24 = .ok (.return_, 1) := by decide +kernel
theorem dX8_wantWord_4 : decode cX8_wantWord 4 = .ok (.aload_n 1, 1) := by decide +kernel
theorem dX8_wantWord_5 : decode cX8_wantWord 5 = .ok (.if_acmp .ne 14, 3) := by decide +kernel
theorem dX8_wantWord_8 : decode cX8_wantWord 8 = .ok (.aload_n 0, 1) := by decide +kernel
theorem dX8_wantWord_9 : decode cX8_wantWord 9 = .ok (.aload_n 0, 1) := by decide +kernel
theorem dX8_word_0 : decode cX8_word 0 = .ok (.aload_n 0, 1) := by decide +kernel
theorem dX8_word_1 : decode cX8_word 1 = .ok (.invokevirtual 34, 3) := by decide +kernel
theorem dX8_word_11 : decode cX8_word 11 = .ok (.areturn, 1) := by decide +kernel
theorem dX8_word_12 : decode cX8_word 12 = .ok (.aload_n 0, 1) := by decide +kernel
theorem dX8_word_13 : decode cX8_word 13 = .ok (.aload_n 0, 1) := by decide +kernel
theorem dX8_word_14 : decode cX8_word 14 = .ok (.getfield 25, 3) := by decide +kernel
theorem dX8_word_17 : decode cX8_word 17 = .ok (.putfield 28, 3) := by decide +kernel
theorem dX8_word_20 : decode cX8_word 20 = .ok (.aload_n 0, 1) := by decide +kernel
theorem dX8_word_21 : decode cX8_word 21 = .ok (.getfield 28, 3) := by decide +kernel
theorem dX8_word_24 : decode cX8_word 24 = .ok (.aload_n 0, 1) := by decide +kernel
theorem dX8_word_25 : decode cX8_word 25 = .ok (.getfield 22, 3) := by decide +kernel
theorem dX8_word_28 : decode cX8_word 28 = .ok (.if_icmp .ge 44, 3) := by decide +kernel
theorem dX8_word_31 : decode cX8_word 31 = .ok (.aload_n 0, 1) := by decide +kernel
theorem dX8_word_32 : decode cX8_word 32 = .ok (.getfield 11, 3) := by decide +kernel
theorem dX8_word_35 : decode cX8_word 35 = .ok (.aload_n 0, 1) := by decide +kernel
theorem dX8_word_36 : decode cX8_word 36 = .ok (.getfield 28, 3) := by decide +kernel
theorem dX8_word_39 : decode cX8_word 39 = .ok (.baload, 1) := by decide +kernel
theorem dX8_word_4 : decode cX8_word 4 = .ok (.iconst (-1), 1) := by decide +kernel
theorem dX8_word_40 : decode cX8_word 40 = .ok (.bipush 97, 2) := by decide +kernel
theorem dX8_word_42 : decode cX8_word 42 = .ok (.if_icmp .lt 30, 3) := by decide +kernel
theorem dX8_word_45 : decode cX8_word 45 = .ok (.aload_n 0, 1) := by decide +kernel
theorem dX8_word_46 : decode cX8_word 46 = .ok (.getfield 11, 3) := by decide +kernel
theorem dX8_word_49 : decode cX8_word 49 = .ok (.aload_n 0, 1) := by decide +kernel
theorem dX8_word_5 : decode cX8_word 5 = .ok (.if_icmp .ne 7, 3) := by decide +kernel
theorem dX8_word_50 : decode cX8_word 50 = .ok (.getfield 28, 3) := by decide +kernel
theorem dX8_word_53 : decode cX8_word 53 = .ok (.baload, 1) := by decide +kernel
theorem dX8_word_54 : decode cX8_word 54 = .ok (.bipush 122, 2) := by decide +kernel
theorem dX8_word_56 : decode cX8_word 56 = .ok (.if_icmp .gt 16, 3) := by decide +kernel
theorem dX8_word_59 : decode cX8_word 59 = .ok (.aload_n 0, 1) := by decide +kernel
theorem dX8_word_60 : decode cX8_word 60 = .ok (.dup, 1) := by decide +kernel
theorem dX8_word_61 : decode cX8_word 61 = .ok (.getfield 28, 3) := by decide +kernel
theorem dX8_word_64 : decode cX8_word 64 = .ok (.iconst 1, 1) := by decide +kernel
theorem dX8_word_65 : decode cX8_word 65 = .ok (.iadd, 1) := by decide +kernel
theorem dX8_word_66 : decode cX8_word 66 = .ok (.putfield 28, 3) := by decide +kernel
theorem dX8_word_69 : decode cX8_word 69 = .ok (.goto (-49), 3) := by decide +kernel
theorem dX8_word_72 : decode cX8_word 72 = .ok (.aload_n 0, 1) := by decide +kernel
theorem dX8_word_73 : decode cX8_word 73 = .ok (.getfield 11, 3) := by decide +kernel
theorem dX8_word_76 : decode cX8_word 76 = .ok (.aload_n 0, 1) := by decide +kernel
theorem dX8_word_77 : decode cX8_word 77 = .ok (.getfield 25, 3) := by decide +kernel
theorem dX8_word_8 : decode cX8_word 8 = .ok (.getstatic 42, 3) := by decide +kernel
theorem dX8_word_80 : decode cX8_word 80 = .ok (.aload_n 0, 1) := by decide +kernel
theorem dX8_word_81 : decode cX8_word 81 = .ok (.getfield 28, 3) := by decide +kernel
theorem dX8_word_84 : decode cX8_word 84 = .ok (.invokestatic 48, 3) := by decide +kernel
theorem dX8_word_87 : decode cX8_word 87 = .ok (.areturn, 1) := by decide +kernel
def vs_s_coder : List Cond := .code yJ0_coder_7d493 cJ0_coder_7d493 1 (some .byte) :: (([.fieldLink RJ0 38 "java/lang/String" "COMPACT_STRINGS" "Z", .fieldLink RJ0 15 "java/lang/String" "coder" "B"] : List Cond) ++ ([]))
theorem gd_s_coder : vs_s_coder.all goodWord = true := gd_C (by decide +kernel) (gd_A (by decide +kernel) rfl)
set_option maxHeartbeats 4000000 in
set_option maxRecDepth 100000 in
theorem s_coder (l : Launch) (hl : l.stackTraces = false) (D : va_G) (cy : Nat → ClassId) (sa : Nat → Nat) (k : Int) (sz : Nat) (hr_k : 0 ≤ k ∧ k ≤ 55) : mI9 l yJ0_coder_7d493 vs_s_coder ({ frames := 0, cells := 0, slots := 0, locals := 0 }) D cy sa sz [.ref (sn sa k)] [] (fun (r : Int32) (u : SV) => r = iI (u.2.1 0) ∧ (0 ≤ u.2.1 0 ∧ u.2.1 0 ≤ 0)) (fun u : SV => []) 0 0 := by
  refine Met.ofW (cc := cJ0_coder_7d493) (maxL := 1) (ret := (some .byte)) (by decide) rfl ?_
  intro p e s m args below meth c s₁ B hml hv
  obtain ⟨rfl, hsz, hP, hG, hD0, hT⟩ := hv
  have hx := B.exec
  have hb := B.bytes
  have hr := B.returns
  have hts := atoms_spec (ws := vs_s_coder) B.pre
  have hown : s.vm.findClass RJ0 = some m.cls := findClass_of_methodNamed B.named
  have hlocks := B.notSynchronized
  subst hsz
  have hD := hD0.self (sz := s.heap.size)
  generalize hAe : va_A [] s.heap.size = A at hD hT ⊢
  have hA : ∀ q : Nat, s.heap.size ≤ q → A q := fun q h => by rw [← hAe]; exact Or.inr h
  have hS : va_S A s.heap s.heap [] := va_S.rf
  have hl0 := lv_entry ([.ref (sn sa k)]) (n := 1) (Nat.le_of_ble_eq_true rfl)
  rw [lg_entry_eq]
  generalize (lg_sl ([.ref (sn sa k)]) ++ List.replicate (1 - (lg_sl ([.ref (sn sa k)])).length) Slot.unset).toArray = ls at hl0 ⊢
  have hlv : lv_has ls 1 [(0, .ref (sn sa k))] := hl0
  have lf38 := hts (.fieldLink RJ0 38 "java/lang/String" "COMPACT_STRINGS" "Z") (List.mem_of_getElem? (i := 1) rfl)
  have lf15 := hts (.fieldLink RJ0 15 "java/lang/String" "coder" "B") (List.mem_of_getElem? (i := 2) rfl)
  refine va_gets (C := "java/lang/String") (n := "COMPACT_STRINGS") (d := "Z") (ref := "java/lang/String") (v := vI 1) hx hb hT.2.2.2.2.2.2.1 hS hown lf38 (fun _ h9 => h9) dJ0_coder_7d493_0 ?_
  refine iz_eq (tgt := 13) hx hb dJ0_coder_7d493_3 (by decide) (by show ((-2147483648) : Int) ≤ 1 ∧ (1 : Int) ≤ 2147483647; decide) (fun c_1 => by exfalso; omega) (fun c_1 => ?_)
  refine lv_aload_n hx hb dJ0_coder_7d493_6 rfl (lv_at hlv 0 rfl) ?_
  refine vk_getf (o := "java/lang/String") (n := "coder") (d := "B") (ref := "java/lang/String") (v := .int (iI 0)) hx hb (WD.tx hT.2.2 (k : Int).toNat (by omega)).2.1 hS hown lf15 (fun _ h9 => h9) dJ0_coder_7d493_7 ?_
  refine lv_goto (tgt := 14) hx hb dJ0_coder_7d493_10 (by decide) ?_
  refine W.widen (k := 0) (n := 0) (Nat.le_of_ble_eq_true rfl) (Nat.le_of_ble_eq_true rfl) ?_
  exact W.zret (v := iI 0) hx hb hr (by first | rfl | decide) (fun t ht hW => ⟨⟨iI 0, ((fun k => ([] : List Nat).getD k 0), (fun k => ([0] : List Int).getD k 0), (fun k => ([] : List (Nat → Int32)).getD k (fun _ => 0))), rfl, ⟨rfl, (by show (0 ≤ 0 ∧ 0 ≤ 0); show (0 : Int) ≤ 0 ∧ (0 : Int) ≤ 0; decide)⟩, at9 ht hP hD [] (by decide +kernel) rfl⟩, hS.F ht⟩) hS.2.2 dJ0_coder_7d493_14
def vs_s_isLatin1 : List Cond := .code yJ0_isLatin1_aae02 cJ0_isLatin1_aae02 1 (some .boolean) :: (([.fieldLink RJ0 38 "java/lang/String" "COMPACT_STRINGS" "Z", .fieldLink RJ0 15 "java/lang/String" "coder" "B"] : List Cond) ++ ([]))
theorem gd_s_isLatin1 : vs_s_isLatin1.all goodWord = true := gd_C (by decide +kernel) (gd_A (by decide +kernel) rfl)
set_option maxHeartbeats 4000000 in
set_option maxRecDepth 100000 in
theorem s_isLatin1 (l : Launch) (hl : l.stackTraces = false) (D : va_G) (cy : Nat → ClassId) (sa : Nat → Nat) (k : Int) (sz : Nat) (hr_k : 0 ≤ k ∧ k ≤ 55) : mI9 l yJ0_isLatin1_aae02 vs_s_isLatin1 ({ frames := 0, cells := 0, slots := 0, locals := 0 }) D cy sa sz [.ref (sn sa k)] [] (fun (r : Int32) (u : SV) => r = iI (u.2.1 0) ∧ (1 ≤ u.2.1 0 ∧ u.2.1 0 ≤ 1)) (fun u : SV => []) 0 0 := by
  refine Met.ofW (cc := cJ0_isLatin1_aae02) (maxL := 1) (ret := (some .boolean)) (by decide) rfl ?_
  intro p e s m args below meth c s₁ B hml hv
  obtain ⟨rfl, hsz, hP, hG, hD0, hT⟩ := hv
  have hx := B.exec
  have hb := B.bytes
  have hr := B.returns
  have hts := atoms_spec (ws := vs_s_isLatin1) B.pre
  have hown : s.vm.findClass RJ0 = some m.cls := findClass_of_methodNamed B.named
  have hlocks := B.notSynchronized
  subst hsz
  have hD := hD0.self (sz := s.heap.size)
  generalize hAe : va_A [] s.heap.size = A at hD hT ⊢
  have hA : ∀ q : Nat, s.heap.size ≤ q → A q := fun q h => by rw [← hAe]; exact Or.inr h
  have hS : va_S A s.heap s.heap [] := va_S.rf
  have hl0 := lv_entry ([.ref (sn sa k)]) (n := 1) (Nat.le_of_ble_eq_true rfl)
  rw [lg_entry_eq]
  generalize (lg_sl ([.ref (sn sa k)]) ++ List.replicate (1 - (lg_sl ([.ref (sn sa k)])).length) Slot.unset).toArray = ls at hl0 ⊢
  have hlv : lv_has ls 1 [(0, .ref (sn sa k))] := hl0
  have lf38 := hts (.fieldLink RJ0 38 "java/lang/String" "COMPACT_STRINGS" "Z") (List.mem_of_getElem? (i := 1) rfl)
  have lf15 := hts (.fieldLink RJ0 15 "java/lang/String" "coder" "B") (List.mem_of_getElem? (i := 2) rfl)
  refine va_gets (C := "java/lang/String") (n := "COMPACT_STRINGS") (d := "Z") (ref := "java/lang/String") (v := vI 1) hx hb hT.2.2.2.2.2.2.1 hS hown lf38 (fun _ h9 => h9) dJ0_isLatin1_aae02_0 ?_
  refine iz_eq (tgt := 17) hx hb dJ0_isLatin1_aae02_3 (by decide) (by show ((-2147483648) : Int) ≤ 1 ∧ (1 : Int) ≤ 2147483647; decide) (fun c_1 => by exfalso; omega) (fun c_1 => ?_)
  refine lv_aload_n hx hb dJ0_isLatin1_aae02_6 rfl (lv_at hlv 0 rfl) ?_
  refine vk_getf (o := "java/lang/String") (n := "coder") (d := "B") (ref := "java/lang/String") (v := .int (iI 0)) hx hb (WD.tx hT.2.2 (k : Int).toNat (by omega)).2.1 hS hown lf15 (fun _ h9 => h9) dJ0_isLatin1_aae02_7 ?_
  refine iz_ne (tgt := 17) hx hb dJ0_isLatin1_aae02_10 (by decide) (by show ((-2147483648) : Int) ≤ 0 ∧ (0 : Int) ≤ 2147483647; decide) (fun c_2 => by exfalso; omega) (fun c_2 => ?_)
  refine lv_iconst (v := iI 1) hx hb dJ0_isLatin1_aae02_13 (by decide) ?_
  refine lv_goto (tgt := 18) hx hb dJ0_isLatin1_aae02_14 (by decide) ?_
  refine W.widen (k := 0) (n := 0) (Nat.le_of_ble_eq_true rfl) (Nat.le_of_ble_eq_true rfl) ?_
  exact W.zret (v := iI 1) hx hb hr (by first | rfl | decide) (fun t ht hW => ⟨⟨iI 1, ((fun k => ([] : List Nat).getD k 0), (fun k => ([1] : List Int).getD k 0), (fun k => ([] : List (Nat → Int32)).getD k (fun _ => 0))), rfl, ⟨rfl, (by show (1 ≤ 1 ∧ 1 ≤ 1); show (1 : Int) ≤ 1 ∧ (1 : Int) ≤ 1; decide)⟩, at9 ht hP hD [] (by decide +kernel) rfl⟩, hS.F ht⟩) hS.2.2 dJ0_isLatin1_aae02_18
def vs_s_length : List Cond := .code yJ0_length_8abf5 cJ0_length_8abf5 1 (some .int) :: (([.fieldLink RJ0 9 "java/lang/String" "value" "[B"] : List Cond) ++ ((wsV RJ0 335 RJ0 yJ0_coder_7d493 vs_s_coder) ++ ([])))
theorem gd_s_length : vs_s_length.all goodWord = true := gd_C (by decide +kernel) (gd_A (by decide +kernel) (gd_A (gd_V gd_s_coder (by decide +kernel)) rfl))
set_option maxHeartbeats 4000000 in
set_option maxRecDepth 100000 in
theorem s_length (l : Launch) (hl : l.stackTraces = false) (D : va_G) (cy : Nat → ClassId) (sa : Nat → Nat) (k : Int) (sz : Nat) (hr_k : 0 ≤ k ∧ k ≤ 55) : mI9 l yJ0_length_8abf5 vs_s_length ({ frames := 1, cells := 0, slots := 0, locals := 20 }) D cy sa sz [.ref (sn sa k)] [] (fun (r : Int32) (u : SV) => r = iI (u.2.1 0) ∧ (0 ≤ u.2.1 0 ∧ u.2.1 0 ≤ 7) ∧ (u.2.1 0 = slen k)) (fun u : SV => []) 0 0 := by
  refine Met.ofW (cc := cJ0_length_8abf5) (maxL := 1) (ret := (some .int)) (by decide) rfl ?_
  intro p e s m args below meth c s₁ B hml hv
  obtain ⟨rfl, hsz, hP, hG, hD0, hT⟩ := hv
  have hx := B.exec
  have hb := B.bytes
  have hr := B.returns
  have hts := atoms_spec (ws := vs_s_length) B.pre
  have hown : s.vm.findClass RJ0 = some m.cls := findClass_of_methodNamed B.named
  have hlocks := B.notSynchronized
  subst hsz
  have hD := hD0.self (sz := s.heap.size)
  generalize hAe : va_A [] s.heap.size = A at hD hT ⊢
  have hA : ∀ q : Nat, s.heap.size ≤ q → A q := fun q h => by rw [← hAe]; exact Or.inr h
  have hS : va_S A s.heap s.heap [] := va_S.rf
  have hl0 := lv_entry ([.ref (sn sa k)]) (n := 1) (Nat.le_of_ble_eq_true rfl)
  rw [lg_entry_eq]
  generalize (lg_sl ([.ref (sn sa k)]) ++ List.replicate (1 - (lg_sl ([.ref (sn sa k)])).length) Slot.unset).toArray = ls at hl0 ⊢
  have hlv : lv_has ls 1 [(0, .ref (sn sa k))] := hl0
  have lf9 := hts (.fieldLink RJ0 9 "java/lang/String" "value" "[B") (List.mem_of_getElem? (i := 1) rfl)
  have gg_0 : GoodIn vs_s_length (wsV RJ0 335 RJ0 yJ0_coder_7d493 vs_s_coder) := goodIn_sub (fun w h => List.mem_cons_of_mem _ (List.mem_append_right _ (List.mem_append_left _ h))) (gd_V gd_s_coder (by decide +kernel))
  refine lv_aload_n hx hb dJ0_length_8abf5_0 rfl (lv_at hlv 0 rfl) ?_
  refine vk_getf (o := "java/lang/String") (n := "value") (d := "[B") (ref := "java/lang/String") (v := .ref (sw sa k)) hx hb (WD.tx hT.2.2 (k : Int).toNat (by omega)).2.2.1 hS hown lf9 (fun _ h9 => h9) dJ0_length_8abf5_1 ?_
  refine va_tlen (v := iI (slen k)) hx hb (WD.tx hT.2.2 (k : Int).toNat (by omega)).2.2.2 hS rfl dJ0_length_8abf5_4 ?_
  have hsl_ := sl_b (k := k) (by omega)
  refine lt_e (e0 := slen k) rfl (fun z_1 hz_1 => ?_)
  refine lv_aload_n hx hb dJ0_length_8abf5_5 rfl (lv_at hlv 0 rfl) ?_
  refine cjr_i [] (fun pre9 => (va_runV (As := []) (rest := [vI z_1]) ⟨hx, hb, hml, hown, hts⟩ (s_coder l hl D cy sa k s.heap.size (by first | exact hr_k | omega)) (cwV 0 hts gg_0 rfl rfl rfl (by decide +kernel) ⟨Nat.le_of_ble_eq_true rfl, Nat.le_of_ble_eq_true rfl⟩) ⟨pcW.blind, (wo_recv (WD.tx hT.2.2 (k : Int).toNat (by omega)).1 hS), pre9⟩ rfl rfl hlv.1 rfl (lv_room (Nat.le_of_ble_eq_true rfl)) dJ0_length_8abf5_6 ⟨Nat.le_of_ble_eq_true rfl, Nat.le_of_ble_eq_true rfl⟩)) hP hD hS hA hG hT [] rfl (by decide +kernel) (fun r1 u1 H locs hw1 hq9 hS => ?_)
  obtain ⟨rfl, hq1_1⟩ := hw1
  obtain ⟨hP, hD⟩ := pd9 [] hq9
  refine lt_i (y := iI 0) (by rw [show (u1.2.1 0) = 0 by omega]) ?_
  refine lv_ishr hx hb dJ0_length_8abf5_9 ?_
  refine lt_e (e0 := z_1 / 1) (sr_eq 0 (by decide) (by omega)) (fun z_2 hz_2 => ?_)
  refine W.widen (k := 0) (n := 0) (Nat.le_of_ble_eq_true rfl) (Nat.le_of_ble_eq_true rfl) ?_
  exact W.iret (v := iI z_2) hx hb hr (fun t ht hW => ⟨⟨iI z_2, ((fun k => ([] : List Nat).getD k 0), (fun k => ([z_2] : List Int).getD k 0), (fun k => ([] : List (Nat → Int32)).getD k (fun _ => 0))), rfl, ⟨rfl, (by show (0 ≤ z_2 ∧ z_2 ≤ 7); omega), (by show (z_2 = slen k); omega)⟩, at9 ht hP hD [] (by decide +kernel) rfl⟩, hS.F ht⟩) hS.2.2 dJ0_length_8abf5_10
def vs_s_check3n : List Cond := .code yJ3_checkIndex_8e157 cJ3_checkIndex_8e157 3 (some .int) :: (([] : List Cond) ++ ([]))
theorem gd_s_check3n : vs_s_check3n.all goodWord = true := gd_C (by decide +kernel) (gd_A (by decide +kernel) rfl)
set_option maxHeartbeats 4000000 in
set_option maxRecDepth 100000 in
theorem s_check3n (l : Launch) (hl : l.stackTraces = false) (D : va_G) (cy : Nat → ClassId) (sa : Nat → Nat) (n ln : Int) (sz : Nat) (hr_n : 0 ≤ n ∧ n ≤ 6) (hr_ln : 0 ≤ ln ∧ ln ≤ 7) (hp0 : n < ln) : mI9 l yJ3_checkIndex_8e157 vs_s_check3n ({ frames := 0, cells := 0, slots := 0, locals := 0 }) D cy sa sz [vI n, vI ln, vN] [] (fun (r : Int32) (u : SV) => r = iI (u.2.1 0) ∧ (0 ≤ u.2.1 0 ∧ u.2.1 0 ≤ 6)) (fun u : SV => []) 0 0 := by
  refine Met.ofW (cc := cJ3_checkIndex_8e157) (maxL := 3) (ret := (some .int)) (by decide) rfl ?_
  intro p e s m args below meth c s₁ B hml hv
  obtain ⟨rfl, hsz, hP, hG, hD0, hT⟩ := hv
  have hx := B.exec
  have hb := B.bytes
  have hr := B.returns
  have hts := atoms_spec (ws := vs_s_check3n) B.pre
  have hown : s.vm.findClass RJ3 = some m.cls := findClass_of_methodNamed B.named
  have hlocks := B.notSynchronized
  subst hsz
  have hD := hD0.self (sz := s.heap.size)
  generalize hAe : va_A [] s.heap.size = A at hD hT ⊢
  have hA : ∀ q : Nat, s.heap.size ≤ q → A q := fun q h => by rw [← hAe]; exact Or.inr h
  have hS : va_S A s.heap s.heap [] := va_S.rf
  have hl0 := lv_entry ([vI n, vI ln, vN]) (n := 3) (Nat.le_of_ble_eq_true rfl)
  rw [lg_entry_eq]
  generalize (lg_sl ([vI n, vI ln, vN]) ++ List.replicate (3 - (lg_sl ([vI n, vI ln, vN])).length) Slot.unset).toArray = ls at hl0 ⊢
  have hlv : lv_has ls 3 [(0, vI n), (1, vI ln), (2, vN)] := hl0
  refine lv_iload_n hx hb dJ3_checkIndex_8e157_0 rfl (lv_at hlv 0 rfl) ?_
  refine iz_lt (tgt := 9) hx hb dJ3_checkIndex_8e157_1 (by decide) (by first | exact rgw hr_n (by decide) (by decide) | omega) (fun c_1 => by exfalso; omega) (fun c_1 => ?_)
  refine lv_iload_n hx hb dJ3_checkIndex_8e157_4 rfl (lv_at hlv 0 rfl) ?_
  refine lv_iload_n hx hb dJ3_checkIndex_8e157_5 rfl (lv_at hlv 1 rfl) ?_
  refine ir_lt (tgt := 16) hx hb dJ3_checkIndex_8e157_6 (by decide) (by first | exact rgw hr_n (by decide) (by decide) | omega) (by first | exact rgw hr_ln (by decide) (by decide) | omega) (fun c_2 => ?_) (fun c_2 => by exfalso; omega)
  refine lv_iload_n hx hb dJ3_checkIndex_8e157_16 rfl (lv_at hlv 0 rfl) ?_
  refine W.widen (k := 0) (n := 0) (Nat.le_of_ble_eq_true rfl) (Nat.le_of_ble_eq_true rfl) ?_
  exact W.iret (v := iI n) hx hb hr (fun t ht hW => ⟨⟨iI n, ((fun k => ([] : List Nat).getD k 0), (fun k => ([n] : List Int).getD k 0), (fun k => ([] : List (Nat → Int32)).getD k (fun _ => 0))), rfl, ⟨rfl, (by show (0 ≤ n ∧ n ≤ 6); first | exact hr_n | omega)⟩, at9 ht hP hD [] (by decide +kernel) rfl⟩, hS.F ht⟩) hS.2.2 dJ3_checkIndex_8e157_17
def vs_s_check3r : List Cond := .code yJ3_checkIndex_8e157 cJ3_checkIndex_8e157 3 (some .int) :: (([] : List Cond) ++ ([]))
theorem gd_s_check3r : vs_s_check3r.all goodWord = true := gd_C (by decide +kernel) (gd_A (by decide +kernel) rfl)
set_option maxHeartbeats 4000000 in
set_option maxRecDepth 100000 in
theorem s_check3r (l : Launch) (hl : l.stackTraces = false) (D : va_G) (cy : Nat → ClassId) (sa : Nat → Nat) (n ln : Int) (fa : Nat) (sz : Nat) (hr_n : 0 ≤ n ∧ n ≤ 6) (hr_ln : 0 ≤ ln ∧ ln ≤ 7) (hp0 : n < ln) : mI9 l yJ3_checkIndex_8e157 vs_s_check3r ({ frames := 0, cells := 0, slots := 0, locals := 0 }) D cy sa sz [vI n, vI ln, vR fa] [] (fun (r : Int32) (u : SV) => r = iI (u.2.1 0) ∧ (0 ≤ u.2.1 0 ∧ u.2.1 0 ≤ 6)) (fun u : SV => []) 0 0 := by
  refine Met.ofW (cc := cJ3_checkIndex_8e157) (maxL := 3) (ret := (some .int)) (by decide) rfl ?_
  intro p e s m args below meth c s₁ B hml hv
  obtain ⟨rfl, hsz, hP, hG, hD0, hT⟩ := hv
  have hx := B.exec
  have hb := B.bytes
  have hr := B.returns
  have hts := atoms_spec (ws := vs_s_check3r) B.pre
  have hown : s.vm.findClass RJ3 = some m.cls := findClass_of_methodNamed B.named
  have hlocks := B.notSynchronized
  subst hsz
  have hD := hD0.self (sz := s.heap.size)
  generalize hAe : va_A [] s.heap.size = A at hD hT ⊢
  have hA : ∀ q : Nat, s.heap.size ≤ q → A q := fun q h => by rw [← hAe]; exact Or.inr h
  have hS : va_S A s.heap s.heap [] := va_S.rf
  have hl0 := lv_entry ([vI n, vI ln, vR fa]) (n := 3) (Nat.le_of_ble_eq_true rfl)
  rw [lg_entry_eq]
  generalize (lg_sl ([vI n, vI ln, vR fa]) ++ List.replicate (3 - (lg_sl ([vI n, vI ln, vR fa])).length) Slot.unset).toArray = ls at hl0 ⊢
  have hlv : lv_has ls 3 [(0, vI n), (1, vI ln), (2, vR fa)] := hl0
  refine lv_iload_n hx hb dJ3_checkIndex_8e157_0 rfl (lv_at hlv 0 rfl) ?_
  refine iz_lt (tgt := 9) hx hb dJ3_checkIndex_8e157_1 (by decide) (by first | exact rgw hr_n (by decide) (by decide) | omega) (fun c_1 => by exfalso; omega) (fun c_1 => ?_)
  refine lv_iload_n hx hb dJ3_checkIndex_8e157_4 rfl (lv_at hlv 0 rfl) ?_
  refine lv_iload_n hx hb dJ3_checkIndex_8e157_5 rfl (lv_at hlv 1 rfl) ?_
  refine ir_lt (tgt := 16) hx hb dJ3_checkIndex_8e157_6 (by decide) (by first | exact rgw hr_n (by decide) (by decide) | omega) (by first | exact rgw hr_ln (by decide) (by decide) | omega) (fun c_2 => ?_) (fun c_2 => by exfalso; omega)
  refine lv_iload_n hx hb dJ3_checkIndex_8e157_16 rfl (lv_at hlv 0 rfl) ?_
  refine W.widen (k := 0) (n := 0) (Nat.le_of_ble_eq_true rfl) (Nat.le_of_ble_eq_true rfl) ?_
  exact W.iret (v := iI n) hx hb hr (fun t ht hW => ⟨⟨iI n, ((fun k => ([] : List Nat).getD k 0), (fun k => ([n] : List Int).getD k 0), (fun k => ([] : List (Nat → Int32)).getD k (fun _ => 0))), rfl, ⟨rfl, (by show (0 ≤ n ∧ n ≤ 6); first | exact hr_n | omega)⟩, at9 ht hP hD [] (by decide +kernel) rfl⟩, hS.F ht⟩) hS.2.2 dJ3_checkIndex_8e157_17
def vs_s_check0 : List Cond := .code yJ0_checkIndex_df160 cJ0_checkIndex_df160 2 none :: (([.fieldLink RJ0 1053 "jdk/internal/util/Preconditions" "SIOOBE_FORMATTER" "Ljava/util/function/BiFunction;"] : List Cond) ++ ((va_wsS RJ0 1059 yJ3_checkIndex_8e157 vs_s_check3n) ++ ((va_wsS RJ0 1059 yJ3_checkIndex_8e157 vs_s_check3r) ++ ([]))))
theorem gd_s_check0 : vs_s_check0.all goodWord = true := gd_C (by decide +kernel) (gd_A (by decide +kernel) (gd_A (gd_S gd_s_check3n (by decide +kernel)) (gd_A (gd_S gd_s_check3r (by decide +kernel)) rfl)))
set_option maxHeartbeats 4000000 in
set_option maxRecDepth 100000 in
theorem s_check0 (l : Launch) (hl : l.stackTraces = false) (D : va_G) (cy : Nat → ClassId) (sa : Nat → Nat) (n ln : Int) (sz : Nat) (hr_n : 0 ≤ n ∧ n ≤ 6) (hr_ln : 0 ≤ ln ∧ ln ≤ 7) (hp0 : n < ln) : mV9 l yJ0_checkIndex_df160 vs_s_check0 ({ frames := 1, cells := 0, slots := 0, locals := 22 }) D cy sa sz [vI n, vI ln] [] (fun u : SV => True) (fun u : SV => []) 0 0 := by
  refine Met.ofW (cc := cJ0_checkIndex_df160) (maxL := 2) (ret := none) (by decide) rfl ?_
  intro p e s m args below meth c s₁ B hml hv
  obtain ⟨rfl, hsz, hP, hG, hD0, hT⟩ := hv
  have hx := B.exec
  have hb := B.bytes
  have hr := B.returns
  have hts := atoms_spec (ws := vs_s_check0) B.pre
  have hown : s.vm.findClass RJ0 = some m.cls := findClass_of_methodNamed B.named
  have hlocks := B.notSynchronized
  subst hsz
  have hD := hD0.self (sz := s.heap.size)
  generalize hAe : va_A [] s.heap.size = A at hD hT ⊢
  have hA : ∀ q : Nat, s.heap.size ≤ q → A q := fun q h => by rw [← hAe]; exact Or.inr h
  have hS : va_S A s.heap s.heap [] := va_S.rf
  have hl0 := lv_entry ([vI n, vI ln]) (n := 2) (Nat.le_of_ble_eq_true rfl)
  rw [lg_entry_eq]
  generalize (lg_sl ([vI n, vI ln]) ++ List.replicate (2 - (lg_sl ([vI n, vI ln])).length) Slot.unset).toArray = ls at hl0 ⊢
  have hlv : lv_has ls 2 [(0, vI n), (1, vI ln)] := hl0
  have lf1053 := hts (.fieldLink RJ0 1053 "jdk/internal/util/Preconditions" "SIOOBE_FORMATTER" "Ljava/util/function/BiFunction;") (List.mem_of_getElem? (i := 1) rfl)
  have gg_0 : GoodIn vs_s_check0 (va_wsS RJ0 1059 yJ3_checkIndex_8e157 vs_s_check3n) := goodIn_sub (fun w h => List.mem_cons_of_mem _ (List.mem_append_right _ (List.mem_append_left _ h))) (gd_S gd_s_check3n (by decide +kernel))
  have gg_1 : GoodIn vs_s_check0 (va_wsS RJ0 1059 yJ3_checkIndex_8e157 vs_s_check3r) := goodIn_sub (fun w h => List.mem_cons_of_mem _ (List.mem_append_right _ (List.mem_append_right _ (List.mem_append_left _ h)))) (gd_S gd_s_check3r (by decide +kernel))
  refine lv_iload_n hx hb dJ0_checkIndex_df160_0 rfl (lv_at hlv 0 rfl) ?_
  refine lv_iload_n hx hb dJ0_checkIndex_df160_1 rfl (lv_at hlv 1 rfl) ?_
  rcases hT.2.2.2.2.2.2.2.1 with hz9 | ⟨t9, hz9⟩
  · refine va_gets (C := "jdk/internal/util/Preconditions") (n := "SIOOBE_FORMATTER") (d := "Ljava/util/function/BiFunction;") (ref := "jdk/internal/util/Preconditions") (v := vN) hx hb hz9 hS hown lf1053 (fun _ h9 => h9) dJ0_checkIndex_df160_2 ?_
    refine cjr_i [] (fun pre9 => (va_runS (As := [vI n, vI ln, vN]) (rest := []) ⟨hx, hb, hml, hown, hts⟩ (s_check3n l hl D cy sa n ln s.heap.size (by first | exact hr_n | omega) (by first | exact hr_ln | omega) hp0) (va_cwS 3 hts gg_0 rfl rfl rfl (by decide +kernel) ⟨Nat.le_of_ble_eq_true rfl, Nat.le_of_ble_eq_true rfl⟩) ⟨pcW.blind, pre9⟩ rfl rfl hlv.1 rfl (lv_room (Nat.le_of_ble_eq_true rfl)) dJ0_checkIndex_df160_5 ⟨Nat.le_of_ble_eq_true rfl, Nat.le_of_ble_eq_true rfl⟩)) hP hD hS hA hG hT [] rfl (by decide +kernel) (fun r1 u1 H locs hw1 hq9 hS => ?_)
    obtain ⟨rfl, hq1_1⟩ := hw1
    obtain ⟨hP, hD⟩ := pd9 [] hq9
    refine lv_pop hx hb dJ0_checkIndex_df160_8 rfl ?_
    refine W.widen (k := 0) (n := 0) (Nat.le_of_ble_eq_true rfl) (Nat.le_of_ble_eq_true rfl) ?_
    exact W.vret hx hb hr (fun t ht hW => ⟨⟨((fun k => ([] : List Nat).getD k 0), (fun k => ([] : List Int).getD k 0), (fun k => ([] : List (Nat → Int32)).getD k (fun _ => 0))), rfl, trivial, at9 ht hP hD [] (by decide +kernel) rfl⟩, hS.F ht⟩) hS.2.2 dJ0_checkIndex_df160_9
  · refine va_gets (C := "jdk/internal/util/Preconditions") (n := "SIOOBE_FORMATTER") (d := "Ljava/util/function/BiFunction;") (ref := "jdk/internal/util/Preconditions") (v := vR t9) hx hb hz9 hS hown lf1053 (fun _ h9 => h9) dJ0_checkIndex_df160_2 ?_
    refine cjr_i [] (fun pre9 => (va_runS (As := [vI n, vI ln, vR t9]) (rest := []) ⟨hx, hb, hml, hown, hts⟩ (s_check3r l hl D cy sa n ln t9 s.heap.size (by first | exact hr_n | omega) (by first | exact hr_ln | omega) hp0) (va_cwS 3 hts gg_1 rfl rfl rfl (by decide +kernel) ⟨Nat.le_of_ble_eq_true rfl, Nat.le_of_ble_eq_true rfl⟩) ⟨pcW.blind, pre9⟩ rfl rfl hlv.1 rfl (lv_room (Nat.le_of_ble_eq_true rfl)) dJ0_checkIndex_df160_5 ⟨Nat.le_of_ble_eq_true rfl, Nat.le_of_ble_eq_true rfl⟩)) hP hD hS hA hG hT [] rfl (by decide +kernel) (fun r2 u2 H locs hw2 hq9 hS => ?_)
    obtain ⟨rfl, hq2_1⟩ := hw2
    obtain ⟨hP, hD⟩ := pd9 [] hq9
    refine lv_pop hx hb dJ0_checkIndex_df160_8 rfl ?_
    refine W.widen (k := 0) (n := 0) (Nat.le_of_ble_eq_true rfl) (Nat.le_of_ble_eq_true rfl) ?_
    exact W.vret hx hb hr (fun t ht hW => ⟨⟨((fun k => ([] : List Nat).getD k 0), (fun k => ([] : List Int).getD k 0), (fun k => ([] : List (Nat → Int32)).getD k (fun _ => 0))), rfl, trivial, at9 ht hP hD [] (by decide +kernel) rfl⟩, hS.F ht⟩) hS.2.2 dJ0_checkIndex_df160_9
def vs_s_charAt1 : List Cond := .code yJ1_charAt_3b067 cJ1_charAt_3b067 2 (some .char) :: (([] : List Cond) ++ ((va_wsS RJ1 9 yJ0_checkIndex_df160 vs_s_check0) ++ ([])))
theorem gd_s_charAt1 : vs_s_charAt1.all goodWord = true := gd_C (by decide +kernel) (gd_A (by decide +kernel) (gd_A (gd_S gd_s_check0 (by decide +kernel)) rfl))
set_option maxHeartbeats 4000000 in
set_option maxRecDepth 100000 in
theorem s_charAt1 (l : Launch) (hl : l.stackTraces = false) (D : va_G) (cy : Nat → ClassId) (sa : Nat → Nat) (k i : Int) (sz : Nat) (hr_k : 0 ≤ k ∧ k ≤ 55) (hr_i : 0 ≤ i ∧ i ≤ 6) (hp0 : i < slen k) : mI9 l yJ1_charAt_3b067 vs_s_charAt1 ({ frames := 2, cells := 0, slots := 0, locals := 43 }) D cy sa sz [.ref (sw sa k), vI i] [] (fun (r : Int32) (u : SV) => r = iI (u.2.1 0) ∧ (97 ≤ u.2.1 0 ∧ u.2.1 0 ≤ 122) ∧ (u.2.1 0 = sch k i)) (fun u : SV => []) 0 0 := by
  refine Met.ofW (cc := cJ1_charAt_3b067) (maxL := 2) (ret := (some .char)) (by decide) rfl ?_
  intro p e s m args below meth c s₁ B hml hv
  obtain ⟨rfl, hsz, hP, hG, hD0, hT⟩ := hv
  have hx := B.exec
  have hb := B.bytes
  have hr := B.returns
  have hts := atoms_spec (ws := vs_s_charAt1) B.pre
  have hown : s.vm.findClass RJ1 = some m.cls := findClass_of_methodNamed B.named
  have hlocks := B.notSynchronized
  subst hsz
  have hD := hD0.self (sz := s.heap.size)
  generalize hAe : va_A [] s.heap.size = A at hD hT ⊢
  have hA : ∀ q : Nat, s.heap.size ≤ q → A q := fun q h => by rw [← hAe]; exact Or.inr h
  have hS : va_S A s.heap s.heap [] := va_S.rf
  have hl0 := lv_entry ([.ref (sw sa k), vI i]) (n := 2) (Nat.le_of_ble_eq_true rfl)
  rw [lg_entry_eq]
  generalize (lg_sl ([.ref (sw sa k), vI i]) ++ List.replicate (2 - (lg_sl ([.ref (sw sa k), vI i])).length) Slot.unset).toArray = ls at hl0 ⊢
  have hlv : lv_has ls 2 [(0, .ref (sw sa k)), (1, vI i)] := hl0
  have gg_0 : GoodIn vs_s_charAt1 (va_wsS RJ1 9 yJ0_checkIndex_df160 vs_s_check0) := goodIn_sub (fun w h => List.mem_cons_of_mem _ (List.mem_append_right _ (List.mem_append_left _ h))) (gd_S gd_s_check0 (by decide +kernel))
  refine lv_iload_n hx hb dJ1_charAt_3b067_0 rfl (lv_at hlv 1 rfl) ?_
  refine lv_aload_n hx hb dJ1_charAt_3b067_1 rfl (lv_at hlv 0 rfl) ?_
  refine va_tlen (v := iI (slen k)) hx hb (WD.tx hT.2.2 (k : Int).toNat (by omega)).2.2.2 hS rfl dJ1_charAt_3b067_2 ?_
  have hsl_ := sl_b (k := k) (by omega)
  refine lt_e (e0 := slen k) rfl (fun z_1 hz_1 => ?_)
  refine cjr_v [] (fun pre9 => (va_runS (As := [vI i, vI z_1]) (rest := []) ⟨hx, hb, hml, hown, hts⟩ (s_check0 l hl D cy sa i z_1 s.heap.size (by first | exact hr_i | omega) (by omega) (by omega)) (va_cwS 2 hts gg_0 rfl rfl rfl (by decide +kernel) ⟨Nat.le_of_ble_eq_true rfl, Nat.le_of_ble_eq_true rfl⟩) ⟨pcW.blind, pre9⟩ rfl rfl hlv.1 rfl (lv_room (Nat.le_of_ble_eq_true rfl)) dJ1_charAt_3b067_3 ⟨Nat.le_of_ble_eq_true rfl, Nat.le_of_ble_eq_true rfl⟩)) hP hD hS hA hG hT [] rfl (by decide +kernel) (fun u1 H locs hw1 hq9 hS => ?_)
  obtain ⟨hP, hD⟩ := pd9 [] hq9
  refine lv_aload_n hx hb dJ1_charAt_3b067_6 rfl (lv_at hlv 0 rfl) ?_
  refine lv_iload_n hx hb dJ1_charAt_3b067_7 rfl (lv_at hlv 1 rfl) ?_
  refine va_tb (v := .int (iI (sch k i))) hx hb (WD.tx hT.2.2 (k : Int).toNat (by omega)).2.2.2 hS (sb_in (by omega) (by omega)) (sb_rd (by omega) (by omega)) dJ1_charAt_3b067_8 ?_
  have hsc_ := sc_b (k := k) (i := i) (by omega) (by omega)
  refine lt_e (e0 := sch k i) rfl (fun z_2 hz_2 => ?_)
  refine lv_sipush (v := iI 255) hx hb dJ1_charAt_3b067_9 (by decide) ?_
  refine lv_iand hx hb dJ1_charAt_3b067_12 ?_
  refine lt_i (y := iI z_2) (ia_id 8 (by decide) (by decide) (by omega)) ?_
  refine lv_i2c (v := iI z_2) hx hb dJ1_charAt_3b067_13 (i2c_eq (by omega)) ?_
  refine W.widen (k := 0) (n := 0) (Nat.le_of_ble_eq_true rfl) (Nat.le_of_ble_eq_true rfl) ?_
  exact W.zret (v := iI z_2) hx hb hr (nar_c (by omega)) (fun t ht hW => ⟨⟨iI z_2, ((fun k => ([] : List Nat).getD k 0), (fun k => ([z_2] : List Int).getD k 0), (fun k => ([] : List (Nat → Int32)).getD k (fun _ => 0))), rfl, ⟨rfl, (by show (97 ≤ z_2 ∧ z_2 ≤ 122); omega), (by show (z_2 = sch k i); omega)⟩, at9 ht hP hD [] (by decide +kernel) rfl⟩, hS.F ht⟩) hS.2.2 dJ1_charAt_3b067_14
def vs_s_charAt : List Cond := .code yJ0_charAt_5068e cJ0_charAt_5068e 2 (some .char) :: (([.fieldLink RJ0 9 "java/lang/String" "value" "[B"] : List Cond) ++ ((wsV RJ0 492 RJ0 yJ0_isLatin1_aae02 vs_s_isLatin1) ++ ((va_wsS RJ0 495 yJ1_charAt_3b067 vs_s_charAt1) ++ ([]))))
theorem gd_s_charAt : vs_s_charAt.all goodWord = true := gd_C (by decide +kernel) (gd_A (by decide +kernel) (gd_A (gd_V gd_s_isLatin1 (by decide +kernel)) (gd_A (gd_S gd_s_charAt1 (by decide +kernel)) rfl)))
set_option maxHeartbeats 4000000 in
set_option maxRecDepth 100000 in
theorem s_charAt (l : Launch) (hl : l.stackTraces = false) (D : va_G) (cy : Nat → ClassId) (sa : Nat → Nat) (k i : Int) (sz : Nat) (hr_k : 0 ≤ k ∧ k ≤ 55) (hr_i : 0 ≤ i ∧ i ≤ 6) (hp0 : i < slen k) : mI9 l yJ0_charAt_5068e vs_s_charAt ({ frames := 3, cells := 0, slots := 0, locals := 64 }) D cy sa sz [.ref (sn sa k), vI i] [] (fun (r : Int32) (u : SV) => r = iI (u.2.1 0) ∧ (97 ≤ u.2.1 0 ∧ u.2.1 0 ≤ 122) ∧ (u.2.1 0 = sch k i)) (fun u : SV => []) 0 0 := by
  refine Met.ofW (cc := cJ0_charAt_5068e) (maxL := 2) (ret := (some .char)) (by decide) rfl ?_
  intro p e s m args below meth c s₁ B hml hv
  obtain ⟨rfl, hsz, hP, hG, hD0, hT⟩ := hv
  have hx := B.exec
  have hb := B.bytes
  have hr := B.returns
  have hts := atoms_spec (ws := vs_s_charAt) B.pre
  have hown : s.vm.findClass RJ0 = some m.cls := findClass_of_methodNamed B.named
  have hlocks := B.notSynchronized
  subst hsz
  have hD := hD0.self (sz := s.heap.size)
  generalize hAe : va_A [] s.heap.size = A at hD hT ⊢
  have hA : ∀ q : Nat, s.heap.size ≤ q → A q := fun q h => by rw [← hAe]; exact Or.inr h
  have hS : va_S A s.heap s.heap [] := va_S.rf
  have hl0 := lv_entry ([.ref (sn sa k), vI i]) (n := 2) (Nat.le_of_ble_eq_true rfl)
  rw [lg_entry_eq]
  generalize (lg_sl ([.ref (sn sa k), vI i]) ++ List.replicate (2 - (lg_sl ([.ref (sn sa k), vI i])).length) Slot.unset).toArray = ls at hl0 ⊢
  have hlv : lv_has ls 2 [(0, .ref (sn sa k)), (1, vI i)] := hl0
  have gg_0 : GoodIn vs_s_charAt (wsV RJ0 492 RJ0 yJ0_isLatin1_aae02 vs_s_isLatin1) := goodIn_sub (fun w h => List.mem_cons_of_mem _ (List.mem_append_right _ (List.mem_append_left _ h))) (gd_V gd_s_isLatin1 (by decide +kernel))
  have lf9 := hts (.fieldLink RJ0 9 "java/lang/String" "value" "[B") (List.mem_of_getElem? (i := 1) rfl)
  have gg_1 : GoodIn vs_s_charAt (va_wsS RJ0 495 yJ1_charAt_3b067 vs_s_charAt1) := goodIn_sub (fun w h => List.mem_cons_of_mem _ (List.mem_append_right _ (List.mem_append_right _ (List.mem_append_left _ h)))) (gd_S gd_s_charAt1 (by decide +kernel))
  refine lv_aload_n hx hb dJ0_charAt_5068e_0 rfl (lv_at hlv 0 rfl) ?_
  refine cjr_i [] (fun pre9 => (va_runV (As := []) (rest := []) ⟨hx, hb, hml, hown, hts⟩ (s_isLatin1 l hl D cy sa k s.heap.size (by first | exact hr_k | omega)) (cwV 0 hts gg_0 rfl rfl rfl (by decide +kernel) ⟨Nat.le_of_ble_eq_true rfl, Nat.le_of_ble_eq_true rfl⟩) ⟨pcW.blind, (wo_recv (WD.tx hT.2.2 (k : Int).toNat (by omega)).1 hS), pre9⟩ rfl rfl hlv.1 rfl (lv_room (Nat.le_of_ble_eq_true rfl)) dJ0_charAt_5068e_1 ⟨Nat.le_of_ble_eq_true rfl, Nat.le_of_ble_eq_true rfl⟩)) hP hD hS hA hG hT [] rfl (by decide +kernel) (fun r1 u1 H locs hw1 hq9 hS => ?_)
  obtain ⟨rfl, hq1_1⟩ := hw1
  obtain ⟨hP, hD⟩ := pd9 [] hq9
  refine lt_i (y := iI 1) (by rw [show (u1.2.1 0) = 1 by omega]) ?_
  refine iz_eq (tgt := 16) hx hb dJ0_charAt_5068e_4 (by decide) (by show ((-2147483648) : Int) ≤ 1 ∧ (1 : Int) ≤ 2147483647; decide) (fun c_1 => by exfalso; omega) (fun c_1 => ?_)
  refine lv_aload_n hx hb dJ0_charAt_5068e_7 rfl (lv_at hlv 0 rfl) ?_
  refine vk_getf (o := "java/lang/String") (n := "value") (d := "[B") (ref := "java/lang/String") (v := .ref (sw sa k)) hx hb (WD.tx hT.2.2 (k : Int).toNat (by omega)).2.2.1 hS hown lf9 (fun _ h9 => h9) dJ0_charAt_5068e_8 ?_
  refine lv_iload_n hx hb dJ0_charAt_5068e_11 rfl (lv_at hlv 1 rfl) ?_
  refine cjr_i [] (fun pre9 => (va_runS (As := [.ref (sw sa k), vI i]) (rest := []) ⟨hx, hb, hml, hown, hts⟩ (s_charAt1 l hl D cy sa k i H.size (by first | exact hr_k | omega) (by first | exact hr_i | omega) hp0) (va_cwS 2 hts gg_1 rfl rfl rfl (by decide +kernel) ⟨Nat.le_of_ble_eq_true rfl, Nat.le_of_ble_eq_true rfl⟩) ⟨pcW.blind, pre9⟩ rfl rfl hlv.1 rfl (lv_room (Nat.le_of_ble_eq_true rfl)) dJ0_charAt_5068e_12 ⟨Nat.le_of_ble_eq_true rfl, Nat.le_of_ble_eq_true rfl⟩)) hP hD hS hA hG hT [] rfl (by decide +kernel) (fun r2 u2 H locs hw2 hq9 hS => ?_)
  obtain ⟨rfl, hq2_1, hq2_2⟩ := hw2
  obtain ⟨hP, hD⟩ := pd9 [] hq9
  refine W.widen (k := 0) (n := 0) (Nat.le_of_ble_eq_true rfl) (Nat.le_of_ble_eq_true rfl) ?_
  exact W.zret (v := iI (u2.2.1 0)) hx hb hr (nar_c (by omega)) (fun t ht hW => ⟨⟨iI (u2.2.1 0), ((fun k => ([] : List Nat).getD k 0), (fun k => ([(u2.2.1 0)] : List Int).getD k 0), (fun k => ([] : List (Nat → Int32)).getD k (fun _ => 0))), rfl, ⟨rfl, (by show (97 ≤ (u2.2.1 0) ∧ (u2.2.1 0) ≤ 122); first | exact hq2_1 | omega), (by show ((u2.2.1 0) = sch k i); omega)⟩, at9 ht hP hD [] (by decide +kernel) rfl⟩, hS.F ht⟩) hS.2.2 dJ0_charAt_5068e_15
def vs_s_wordOf : List Cond := .code yX10_of cX10_of 6 (some (.object "KerbSplash$Word")) :: (([.fieldLink RX10 123 "KerbSplash$Word" "ALL" "[LKerbSplash$Word;", .fieldLink RX10 5 "KerbSplash$Word" "NO" "LKerbSplash$Word;", .fieldLink RX10 109 "KerbSplash$Word" "letters" "Ljava/lang/String;"] : List Cond) ++ ((wsV RX10 126 RJ0 yJ0_length_8abf5 vs_s_length) ++ ((wsV RX10 132 RJ0 yJ0_charAt_5068e vs_s_charAt) ++ ([]))))
theorem gd_s_wordOf : vs_s_wordOf.all goodWord = true := gd_C (by decide +kernel) (gd_A (by decide +kernel) (gd_A (gd_V gd_s_length (by decide +kernel)) (gd_A (gd_V gd_s_charAt (by decide +kernel)) rfl)))
set_option maxHeartbeats 4000000 in
set_option maxRecDepth 100000 in
theorem s_wordOf (l : Launch) (hl : l.stackTraces = false) (D : va_G) (cy : Nat → ClassId) (sa : Nat → Nat) (tb : Nat) (bf : Nat → Int32) (fr en : Int) (sz : Nat) (hr_fr : 0 ≤ fr ∧ fr ≤ 600) (hr_en : 0 ≤ en ∧ en ≤ 600) : mR9 l yX10_of vs_s_wordOf ({ frames := 4, cells := 0, slots := 0, locals := 85 }) D cy sa sz [vR tb, vI fr, vI en] [zI tb (cy 1) 600 bf] (fun u : SV => (0 ≤ u.2.1 0 ∧ u.2.1 0 ≤ 27)) (fun u : SV => [zI tb (cy 1) 600 bf]) 0 0 0 := by
  refine Met.ofW (cc := cX10_of) (maxL := 6) (ret := (some (.object "KerbSplash$Word"))) (by decide) rfl ?_
  intro p e s m args below meth c s₁ B hml hv
  obtain ⟨rfl, hsz, hP, hG, hD0, hT⟩ := hv
  have hx := B.exec
  have hb := B.bytes
  have hr := B.returns
  have hts := atoms_spec (ws := vs_s_wordOf) B.pre
  have hown : s.vm.findClass RX10 = some m.cls := findClass_of_methodNamed B.named
  have hlocks := B.notSynchronized
  subst hsz
  have hD := hD0.self (sz := s.heap.size)
  generalize hAe : va_A [zI tb (cy 1) 600 bf] s.heap.size = A at hD hT ⊢
  have hA : ∀ q : Nat, s.heap.size ≤ q → A q := fun q h => by rw [← hAe]; exact Or.inr h
  have hS : va_S A s.heap s.heap [] := va_S.rf
  have hl0 := lv_entry ([vR tb, vI fr, vI en]) (n := 6) (Nat.le_of_ble_eq_true rfl)
  rw [lg_entry_eq]
  generalize (lg_sl ([vR tb, vI fr, vI en]) ++ List.replicate (6 - (lg_sl ([vR tb, vI fr, vI en])).length) Slot.unset).toArray = ls at hl0 ⊢
  have hlv : lv_has ls 6 [(0, vR tb), (1, vI fr), (2, vI en)] := hl0
  have lf123 := hts (.fieldLink RX10 123 "KerbSplash$Word" "ALL" "[LKerbSplash$Word;") (List.mem_of_getElem? (i := 1) rfl)
  have lf5 := hts (.fieldLink RX10 5 "KerbSplash$Word" "NO" "LKerbSplash$Word;") (List.mem_of_getElem? (i := 2) rfl)
  have lf109 := hts (.fieldLink RX10 109 "KerbSplash$Word" "letters" "Ljava/lang/String;") (List.mem_of_getElem? (i := 3) rfl)
  have gg_0 : GoodIn vs_s_wordOf (wsV RX10 126 RJ0 yJ0_length_8abf5 vs_s_length) := goodIn_sub (fun w h => List.mem_cons_of_mem _ (List.mem_append_right _ (List.mem_append_left _ h))) (gd_V gd_s_length (by decide +kernel))
  have gg_1 : GoodIn vs_s_wordOf (wsV RX10 132 RJ0 yJ0_charAt_5068e vs_s_charAt) := goodIn_sub (fun w h => List.mem_cons_of_mem _ (List.mem_append_right _ (List.mem_append_right _ (List.mem_append_left _ h)))) (gd_V gd_s_charAt (by decide +kernel))
  refine lv_iconst (v := iI 0) hx hb dX10_of_0 (by decide) ?_
  refine lv_istore_n (lv' := [(3, vI 0), (0, vR tb), (1, vI fr), (2, vI en)]) hx hb dX10_of_1 rfl hlv (by decide) rfl (fun ls hlv => ?_)
  refine (?_ : ∀ (fu : Nat) (q3 : Int) (H : Heap) (locs : List Loc) (ls : Array Slot), 28 - q3 < (fu : Int) → (0 ≤ q3 ∧ q3 ≤ 28) → va_P D vwCl [zI tb (cy 1) 600 bf] H → va_D A [zI tb (cy 1) 600 bf] → va_S A s.heap H locs → lv_has ls 6 [(3, vI q3), (0, vR tb), (1, vI fr), (2, vI en)] → W p l e _ s m _ below meth c H locs _ _ _ (F0 m 2 ls [])) (((28 - 0) + 1 : Int)).toNat 0 _ _ _ (by omega) (by show (0 : Int) ≤ 0 ∧ (0 : Int) ≤ 28; decide)  hP hD hS hlv
  clear hP hD hS hlv
  intro fu
  induction fu with
  | zero => intro q3 H locs ls hm2 hl2_0  hP hD hS hlv; omega
  | succ fu ih2 =>
    intro q3 H locs ls hm2 hl2_0  hP hD hS hlv
    refine lv_iload_n hx hb dX10_of_2 rfl (lv_at hlv 0 rfl) ?_
    refine va_gets (C := "KerbSplash$Word") (n := "ALL") (d := "[LKerbSplash$Word;") (ref := "KerbSplash$Word") (v := .ref (sa 99)) hx hb hT.2.2.2.2.1 hS hown lf123 (fun _ h9 => h9) dX10_of_3 ?_
    refine va_tlen (v := iI 28) hx hb hT.2.2.2.2.2.1 hS rfl dX10_of_6 ?_
    refine ir_ge (tgt := 93) hx hb dX10_of_7 (by decide) (by first | exact rgw hl2_0 (by decide) (by decide) | omega) (by show ((-2147483648) : Int) ≤ 28 ∧ (28 : Int) ≤ 2147483647; decide) (fun c_1 => ?_) (fun c_1 => ?_)
    · refine va_gets (C := "KerbSplash$Word") (n := "NO") (d := "LKerbSplash$Word;") (ref := "KerbSplash$Word") (v := .ref (wd sa 0)) hx hb (hT.2.2.1 0 (by decide)).1.1 hS hown lf5 (fun _ h9 => h9) dX10_of_93 ?_
      refine W.widen (k := 0) (n := 0) (Nat.le_of_ble_eq_true rfl) (Nat.le_of_ble_eq_true rfl) ?_
      exact W.aret (v := .ref (wd sa 0)) hx hb hr (Or.inl ⟨_, rfl⟩) (Or.inr ⟨_, rfl⟩) (fun t ht hW => ⟨⟨((fun k => ([] : List Nat).getD k 0), (fun k => ([0] : List Int).getD k 0), (fun k => ([] : List (Nat → Int32)).getD k (fun _ => 0))), _, rfl, (by show (0 ≤ 0 ∧ 0 ≤ 27); show (0 : Int) ≤ 0 ∧ (0 : Int) ≤ 27; decide), rfl, at9 ht hP hD [0] (by decide +kernel) rfl⟩, hS.F ht⟩) hS.2.2 dX10_of_96
    · refine va_gets (C := "KerbSplash$Word") (n := "ALL") (d := "[LKerbSplash$Word;") (ref := "KerbSplash$Word") (v := .ref (sa 99)) hx hb hT.2.2.2.2.1 hS hown lf123 (fun _ h9 => h9) dX10_of_10 ?_
      refine lv_iload_n hx hb dX10_of_13 rfl (lv_at hlv 0 rfl) ?_
      refine vb_tq (v := .ref (wd sa q3)) hx hb hT.2.2.2.2.2.1 hS (iI_in (by omega) (by decide)) (wa_rd (by omega)) dX10_of_14 ?_
      refine vk_getf (o := "KerbSplash$Word") (n := "letters") (d := "Ljava/lang/String;") (ref := "KerbSplash$Word") (v := .ref (sn sa q3)) hx hb (hT.2.2.1 (q3 : Int).toNat (by omega)).1.2.2.2.2.2 hS hown lf109 (fun _ h9 => h9) dX10_of_15 ?_
      refine lv_astore (lv' := [(4, .ref (sn sa q3)), (3, vI q3), (0, vR tb), (1, vI fr), (2, vI en)]) hx hb dX10_of_18 hlv (by decide) rfl (fun ls hlv => ?_)
      refine lv_iconst (v := iI 0) hx hb dX10_of_20 (by decide) ?_
      refine lv_istore (lv' := [(5, vI 0), (4, .ref (sn sa q3)), (3, vI q3), (0, vR tb), (1, vI fr), (2, vI en)]) hx hb dX10_of_21 hlv (by decide) rfl (fun ls hlv => ?_)
      have hsl_ := sl_b (k := q3) (by omega)
      refine (?_ : ∀ (fu : Nat) (q5 : Int) (H : Heap) (locs : List Loc) (ls : Array Slot), 7 - q5 < (fu : Int) → (0 ≤ q5 ∧ q5 ≤ 7) → (q5 ≤ slen q3) → va_P D vwCl [zI tb (cy 1) 600 bf] H → va_D A [zI tb (cy 1) 600 bf] → va_S A s.heap H locs → lv_has ls 6 [(5, vI q5), (4, .ref (sn sa q3)), (3, vI q3), (0, vR tb), (1, vI fr), (2, vI en)] → W p l e _ s m _ below meth c H locs _ _ _ (F0 m 23 ls [])) (((7 - 0) + 1 : Int)).toNat 0 _ _ _ (by omega) (by show (0 : Int) ≤ 0 ∧ (0 : Int) ≤ 7; decide) (by omega)  hP hD hS hlv
      clear hP hD hS hlv
      intro fu
      induction fu with
      | zero => intro q5 H locs ls hm23 hl23_0 hl23_1  hP hD hS hlv; omega
      | succ fu ih23 =>
        intro q5 H locs ls hm23 hl23_0 hl23_1  hP hD hS hlv
        refine lv_iload hx hb dX10_of_23 (lv_at hlv 0 rfl) ?_
        refine lv_aload hx hb dX10_of_25 (lv_at hlv 1 rfl) ?_
        refine cjr_i [true] (fun pre9 => (va_runV (As := []) (rest := [vI q5]) ⟨hx, hb, hml, hown, hts⟩ (s_length l hl D cy sa q3 H.size (by first | exact rgw hl2_0 (by decide) (by decide) | omega)) (cwV 0 hts gg_0 rfl rfl rfl (by decide +kernel) ⟨Nat.le_of_ble_eq_true rfl, Nat.le_of_ble_eq_true rfl⟩) ⟨pcW.blind, (wo_recv (WD.tx hT.2.2 (q3 : Int).toNat (by omega)).1 hS), pre9⟩ rfl rfl hlv.1 rfl (lv_room (Nat.le_of_ble_eq_true rfl)) dX10_of_27 ⟨Nat.le_of_ble_eq_true rfl, Nat.le_of_ble_eq_true rfl⟩)) hP hD hS hA hG hT [] rfl (by decide +kernel) (fun r1 u1 H locs hw1 hq9 hS => ?_)
        obtain ⟨rfl, hq1_1, hq1_2⟩ := hw1
        obtain ⟨hP, hD⟩ := pd9 [zI tb (cy 1) 600 bf] hq9
        refine ir_ge (tgt := 63) hx hb dX10_of_30 (by decide) (by first | exact rgw hl23_0 (by decide) (by decide) | omega) (by first | exact rgw hq1_1 (by decide) (by decide) | omega) (fun c_2 => ?_) (fun c_2 => ?_)
        · refine lv_iload hx hb dX10_of_63 (lv_at hlv 0 rfl) ?_
          refine lv_aload hx hb dX10_of_65 (lv_at hlv 1 rfl) ?_
          refine cjr_i [true] (fun pre9 => (va_runV (As := []) (rest := [vI q5]) ⟨hx, hb, hml, hown, hts⟩ (s_length l hl D cy sa q3 H.size (by first | exact rgw hl2_0 (by decide) (by decide) | omega)) (cwV 0 hts gg_0 rfl rfl rfl (by decide +kernel) ⟨Nat.le_of_ble_eq_true rfl, Nat.le_of_ble_eq_true rfl⟩) ⟨pcW.blind, (wo_recv (WD.tx hT.2.2 (q3 : Int).toNat (by omega)).1 hS), pre9⟩ rfl rfl hlv.1 rfl (lv_room (Nat.le_of_ble_eq_true rfl)) dX10_of_67 ⟨Nat.le_of_ble_eq_true rfl, Nat.le_of_ble_eq_true rfl⟩)) hP hD hS hA hG hT [] rfl (by decide +kernel) (fun r2 u2 H locs hw2 hq9 hS => ?_)
          obtain ⟨rfl, hq2_1, hq2_2⟩ := hw2
          obtain ⟨hP, hD⟩ := pd9 [zI tb (cy 1) 600 bf] hq9
          refine ir_ne (tgt := 87) hx hb dX10_of_70 (by decide) (by first | exact rgw hl23_0 (by decide) (by decide) | omega) (by first | exact rgw hq2_1 (by decide) (by decide) | omega) (fun c_3 => ?_) (fun c_3 => ?_)
          · obtain ⟨z_4, hz_4⟩ : ∃ z : Int, z = q3 + 1 := ⟨_, rfl⟩
            refine lv_iinc (v := iI z_4) (lv' := [(3, vI z_4), (5, vI q5), (4, .ref (sn sa q3)), (0, vR tb), (1, vI fr), (2, vI en)]) hx hb dX10_of_87 hlv (k := 2) rfl (by rw [hz_4]; exact (Int32.ofInt_add _ _).symm) (by decide) rfl (fun ls hlv => ?_)
            refine lv_goto (tgt := 2) hx hb dX10_of_90 (by decide) ?_
            exact ih2 z_4 H locs ls (by omega) (by omega)  (hP.sub [0] rfl) (hD.sub [0] (by decide) rfl) hS (lv_sub hlv [0, 3, 4, 5] rfl)
          · refine lv_iload_n hx hb dX10_of_73 rfl (lv_at hlv 4 rfl) ?_
            refine lv_iload hx hb dX10_of_74 (lv_at hlv 0 rfl) ?_
            refine lv_iadd hx hb dX10_of_76 ?_
            refine lt_e (e0 := fr + q5) (Int32.ofInt_add _ _).symm (fun z_5 hz_5 => ?_)
            refine lv_iload_n hx hb dX10_of_77 rfl (lv_at hlv 5 rfl) ?_
            refine ir_ne (tgt := 87) hx hb dX10_of_78 (by decide) (by omega) (by first | exact rgw hr_en (by decide) (by decide) | omega) (fun c_6 => ?_) (fun c_6 => ?_)
            · obtain ⟨z_7, hz_7⟩ : ∃ z : Int, z = q3 + 1 := ⟨_, rfl⟩
              refine lv_iinc (v := iI z_7) (lv' := [(3, vI z_7), (5, vI q5), (4, .ref (sn sa q3)), (0, vR tb), (1, vI fr), (2, vI en)]) hx hb dX10_of_87 hlv (k := 2) rfl (by rw [hz_7]; exact (Int32.ofInt_add _ _).symm) (by decide) rfl (fun ls hlv => ?_)
              refine lv_goto (tgt := 2) hx hb dX10_of_90 (by decide) ?_
              exact ih2 z_7 H locs ls (by omega) (by omega)  (hP.sub [0] rfl) (hD.sub [0] (by decide) rfl) hS (lv_sub hlv [0, 3, 4, 5] rfl)
            · refine va_gets (C := "KerbSplash$Word") (n := "ALL") (d := "[LKerbSplash$Word;") (ref := "KerbSplash$Word") (v := .ref (sa 99)) hx hb hT.2.2.2.2.1 hS hown lf123 (fun _ h9 => h9) dX10_of_81 ?_
              refine lv_iload_n hx hb dX10_of_84 rfl (lv_at hlv 2 rfl) ?_
              refine vb_tq (v := .ref (wd sa q3)) hx hb hT.2.2.2.2.2.1 hS (iI_in (by omega) (by decide)) (wa_rd (by omega)) dX10_of_85 ?_
              refine W.widen (k := 0) (n := 0) (Nat.le_of_ble_eq_true rfl) (Nat.le_of_ble_eq_true rfl) ?_
              exact W.aret (v := .ref (wd sa q3)) hx hb hr (Or.inl ⟨_, rfl⟩) (Or.inr ⟨_, rfl⟩) (fun t ht hW => ⟨⟨((fun k => ([] : List Nat).getD k 0), (fun k => ([q3] : List Int).getD k 0), (fun k => ([] : List (Nat → Int32)).getD k (fun _ => 0))), _, rfl, (by show (0 ≤ q3 ∧ q3 ≤ 27); omega), rfl, at9 ht hP hD [0] (by decide +kernel) rfl⟩, hS.F ht⟩) hS.2.2 dX10_of_86
        · refine lv_iload_n hx hb dX10_of_33 rfl (lv_at hlv 4 rfl) ?_
          refine lv_iload hx hb dX10_of_34 (lv_at hlv 0 rfl) ?_
          refine lv_iadd hx hb dX10_of_36 ?_
          refine lt_e (e0 := fr + q5) (Int32.ofInt_add _ _).symm (fun z_8 hz_8 => ?_)
          refine lv_iload_n hx hb dX10_of_37 rfl (lv_at hlv 5 rfl) ?_
          refine ir_ge (tgt := 63) hx hb dX10_of_38 (by decide) (by omega) (by first | exact rgw hr_en (by decide) (by decide) | omega) (fun c_9 => ?_) (fun c_9 => ?_)
          · refine lv_iload hx hb dX10_of_63 (lv_at hlv 0 rfl) ?_
            refine lv_aload hx hb dX10_of_65 (lv_at hlv 1 rfl) ?_
            refine cjr_i [true] (fun pre9 => (va_runV (As := []) (rest := [vI q5]) ⟨hx, hb, hml, hown, hts⟩ (s_length l hl D cy sa q3 H.size (by first | exact rgw hl2_0 (by decide) (by decide) | omega)) (cwV 0 hts gg_0 rfl rfl rfl (by decide +kernel) ⟨Nat.le_of_ble_eq_true rfl, Nat.le_of_ble_eq_true rfl⟩) ⟨pcW.blind, (wo_recv (WD.tx hT.2.2 (q3 : Int).toNat (by omega)).1 hS), pre9⟩ rfl rfl hlv.1 rfl (lv_room (Nat.le_of_ble_eq_true rfl)) dX10_of_67 ⟨Nat.le_of_ble_eq_true rfl, Nat.le_of_ble_eq_true rfl⟩)) hP hD hS hA hG hT [] rfl (by decide +kernel) (fun r3 u3 H locs hw3 hq9 hS => ?_)
            obtain ⟨rfl, hq3_1, hq3_2⟩ := hw3
            obtain ⟨hP, hD⟩ := pd9 [zI tb (cy 1) 600 bf] hq9
            refine ir_ne (tgt := 87) hx hb dX10_of_70 (by decide) (by first | exact rgw hl23_0 (by decide) (by decide) | omega) (by first | exact rgw hq3_1 (by decide) (by decide) | omega) (fun c_10 => ?_) (fun c_10 => ?_)
            · obtain ⟨z_11, hz_11⟩ : ∃ z : Int, z = q3 + 1 := ⟨_, rfl⟩
              refine lv_iinc (v := iI z_11) (lv' := [(3, vI z_11), (5, vI q5), (4, .ref (sn sa q3)), (0, vR tb), (1, vI fr), (2, vI en)]) hx hb dX10_of_87 hlv (k := 2) rfl (by rw [hz_11]; exact (Int32.ofInt_add _ _).symm) (by decide) rfl (fun ls hlv => ?_)
              refine lv_goto (tgt := 2) hx hb dX10_of_90 (by decide) ?_
              exact ih2 z_11 H locs ls (by omega) (by omega)  (hP.sub [0] rfl) (hD.sub [0] (by decide) rfl) hS (lv_sub hlv [0, 3, 4, 5] rfl)
            · refine lv_iload_n hx hb dX10_of_73 rfl (lv_at hlv 4 rfl) ?_
              refine lv_iload hx hb dX10_of_74 (lv_at hlv 0 rfl) ?_
              refine lv_iadd hx hb dX10_of_76 ?_
              refine lt_e (e0 := fr + q5) (Int32.ofInt_add _ _).symm (fun z_12 hz_12 => ?_)
              refine lv_iload_n hx hb dX10_of_77 rfl (lv_at hlv 5 rfl) ?_
              refine ir_ne (tgt := 87) hx hb dX10_of_78 (by decide) (by omega) (by first | exact rgw hr_en (by decide) (by decide) | omega) (fun c_13 => ?_) (fun c_13 => ?_)
              · obtain ⟨z_14, hz_14⟩ : ∃ z : Int, z = q3 + 1 := ⟨_, rfl⟩
                refine lv_iinc (v := iI z_14) (lv' := [(3, vI z_14), (5, vI q5), (4, .ref (sn sa q3)), (0, vR tb), (1, vI fr), (2, vI en)]) hx hb dX10_of_87 hlv (k := 2) rfl (by rw [hz_14]; exact (Int32.ofInt_add _ _).symm) (by decide) rfl (fun ls hlv => ?_)
                refine lv_goto (tgt := 2) hx hb dX10_of_90 (by decide) ?_
                exact ih2 z_14 H locs ls (by omega) (by omega)  (hP.sub [0] rfl) (hD.sub [0] (by decide) rfl) hS (lv_sub hlv [0, 3, 4, 5] rfl)
              · refine va_gets (C := "KerbSplash$Word") (n := "ALL") (d := "[LKerbSplash$Word;") (ref := "KerbSplash$Word") (v := .ref (sa 99)) hx hb hT.2.2.2.2.1 hS hown lf123 (fun _ h9 => h9) dX10_of_81 ?_
                refine lv_iload_n hx hb dX10_of_84 rfl (lv_at hlv 2 rfl) ?_
                refine vb_tq (v := .ref (wd sa q3)) hx hb hT.2.2.2.2.2.1 hS (iI_in (by omega) (by decide)) (wa_rd (by omega)) dX10_of_85 ?_
                refine W.widen (k := 0) (n := 0) (Nat.le_of_ble_eq_true rfl) (Nat.le_of_ble_eq_true rfl) ?_
                exact W.aret (v := .ref (wd sa q3)) hx hb hr (Or.inl ⟨_, rfl⟩) (Or.inr ⟨_, rfl⟩) (fun t ht hW => ⟨⟨((fun k => ([] : List Nat).getD k 0), (fun k => ([q3] : List Int).getD k 0), (fun k => ([] : List (Nat → Int32)).getD k (fun _ => 0))), _, rfl, (by show (0 ≤ q3 ∧ q3 ≤ 27); omega), rfl, at9 ht hP hD [0] (by decide +kernel) rfl⟩, hS.F ht⟩) hS.2.2 dX10_of_86
          · refine lv_aload_n hx hb dX10_of_41 rfl (lv_at hlv 3 rfl) ?_
            refine lv_iload_n hx hb dX10_of_42 rfl (lv_at hlv 4 rfl) ?_
            refine lv_iload hx hb dX10_of_43 (lv_at hlv 0 rfl) ?_
            refine lv_iadd hx hb dX10_of_45 ?_
            refine lt_e (e0 := fr + q5) (Int32.ofInt_add _ _).symm (fun z_15 hz_15 => ?_)
            refine va_bald hx hb hG.1 hP 0 1 rfl rfl (iI_in (by omega) (by decide)) dX10_of_46 ?_
            refine lt_z (fun z_16 ez_16 lz_16 hz_16 => ?_)
            refine lv_aload hx hb dX10_of_47 (lv_at hlv 1 rfl) ?_
            refine lv_iload hx hb dX10_of_49 (lv_at hlv 0 rfl) ?_
            refine cjr_i [true] (fun pre9 => (va_runV (As := [vI q5]) (rest := [vI z_16]) ⟨hx, hb, hml, hown, hts⟩ (s_charAt l hl D cy sa q3 q5 H.size (by first | exact rgw hl2_0 (by decide) (by decide) | omega) (by omega) (by omega)) (cwV 1 hts gg_1 rfl rfl rfl (by decide +kernel) ⟨Nat.le_of_ble_eq_true rfl, Nat.le_of_ble_eq_true rfl⟩) ⟨pcW.blind, (wo_recv (WD.tx hT.2.2 (q3 : Int).toNat (by omega)).1 hS), pre9⟩ rfl rfl hlv.1 rfl (lv_room (Nat.le_of_ble_eq_true rfl)) dX10_of_51 ⟨Nat.le_of_ble_eq_true rfl, Nat.le_of_ble_eq_true rfl⟩)) hP hD hS hA hG hT [] rfl (by decide +kernel) (fun r4 u4 H locs hw4 hq9 hS => ?_)
            obtain ⟨rfl, hq4_1, hq4_2⟩ := hw4
            obtain ⟨hP, hD⟩ := pd9 [zI tb (cy 1) 600 bf] hq9
            refine ir_ne (tgt := 63) hx hb dX10_of_54 (by decide) (by omega) (by first | exact rgw hq4_1 (by decide) (by decide) | omega) (fun c_17 => ?_) (fun c_17 => ?_)
            · refine lv_iload hx hb dX10_of_63 (lv_at hlv 0 rfl) ?_
              refine lv_aload hx hb dX10_of_65 (lv_at hlv 1 rfl) ?_
              refine cjr_i [true] (fun pre9 => (va_runV (As := []) (rest := [vI q5]) ⟨hx, hb, hml, hown, hts⟩ (s_length l hl D cy sa q3 H.size (by first | exact rgw hl2_0 (by decide) (by decide) | omega)) (cwV 0 hts gg_0 rfl rfl rfl (by decide +kernel) ⟨Nat.le_of_ble_eq_true rfl, Nat.le_of_ble_eq_true rfl⟩) ⟨pcW.blind, (wo_recv (WD.tx hT.2.2 (q3 : Int).toNat (by omega)).1 hS), pre9⟩ rfl rfl hlv.1 rfl (lv_room (Nat.le_of_ble_eq_true rfl)) dX10_of_67 ⟨Nat.le_of_ble_eq_true rfl, Nat.le_of_ble_eq_true rfl⟩)) hP hD hS hA hG hT [] rfl (by decide +kernel) (fun r5 u5 H locs hw5 hq9 hS => ?_)
              obtain ⟨rfl, hq5_1, hq5_2⟩ := hw5
              obtain ⟨hP, hD⟩ := pd9 [zI tb (cy 1) 600 bf] hq9
              refine ir_ne (tgt := 87) hx hb dX10_of_70 (by decide) (by first | exact rgw hl23_0 (by decide) (by decide) | omega) (by first | exact rgw hq5_1 (by decide) (by decide) | omega) (fun c_18 => ?_) (fun c_18 => ?_)
              · obtain ⟨z_19, hz_19⟩ : ∃ z : Int, z = q3 + 1 := ⟨_, rfl⟩
                refine lv_iinc (v := iI z_19) (lv' := [(3, vI z_19), (5, vI q5), (4, .ref (sn sa q3)), (0, vR tb), (1, vI fr), (2, vI en)]) hx hb dX10_of_87 hlv (k := 2) rfl (by rw [hz_19]; exact (Int32.ofInt_add _ _).symm) (by decide) rfl (fun ls hlv => ?_)
                refine lv_goto (tgt := 2) hx hb dX10_of_90 (by decide) ?_
                exact ih2 z_19 H locs ls (by omega) (by omega)  (hP.sub [0] rfl) (hD.sub [0] (by decide) rfl) hS (lv_sub hlv [0, 3, 4, 5] rfl)
              · refine lv_iload_n hx hb dX10_of_73 rfl (lv_at hlv 4 rfl) ?_
                refine lv_iload hx hb dX10_of_74 (lv_at hlv 0 rfl) ?_
                refine lv_iadd hx hb dX10_of_76 ?_
                refine lt_e (e0 := fr + q5) (Int32.ofInt_add _ _).symm (fun z_20 hz_20 => ?_)
                refine lv_iload_n hx hb dX10_of_77 rfl (lv_at hlv 5 rfl) ?_
                refine ir_ne (tgt := 87) hx hb dX10_of_78 (by decide) (by omega) (by first | exact rgw hr_en (by decide) (by decide) | omega) (fun c_21 => ?_) (fun c_21 => ?_)
                · obtain ⟨z_22, hz_22⟩ : ∃ z : Int, z = q3 + 1 := ⟨_, rfl⟩
                  refine lv_iinc (v := iI z_22) (lv' := [(3, vI z_22), (5, vI q5), (4, .ref (sn sa q3)), (0, vR tb), (1, vI fr), (2, vI en)]) hx hb dX10_of_87 hlv (k := 2) rfl (by rw [hz_22]; exact (Int32.ofInt_add _ _).symm) (by decide) rfl (fun ls hlv => ?_)
                  refine lv_goto (tgt := 2) hx hb dX10_of_90 (by decide) ?_
                  exact ih2 z_22 H locs ls (by omega) (by omega)  (hP.sub [0] rfl) (hD.sub [0] (by decide) rfl) hS (lv_sub hlv [0, 3, 4, 5] rfl)
                · refine va_gets (C := "KerbSplash$Word") (n := "ALL") (d := "[LKerbSplash$Word;") (ref := "KerbSplash$Word") (v := .ref (sa 99)) hx hb hT.2.2.2.2.1 hS hown lf123 (fun _ h9 => h9) dX10_of_81 ?_
                  refine lv_iload_n hx hb dX10_of_84 rfl (lv_at hlv 2 rfl) ?_
                  refine vb_tq (v := .ref (wd sa q3)) hx hb hT.2.2.2.2.2.1 hS (iI_in (by omega) (by decide)) (wa_rd (by omega)) dX10_of_85 ?_
                  refine W.widen (k := 0) (n := 0) (Nat.le_of_ble_eq_true rfl) (Nat.le_of_ble_eq_true rfl) ?_
                  exact W.aret (v := .ref (wd sa q3)) hx hb hr (Or.inl ⟨_, rfl⟩) (Or.inr ⟨_, rfl⟩) (fun t ht hW => ⟨⟨((fun k => ([] : List Nat).getD k 0), (fun k => ([q3] : List Int).getD k 0), (fun k => ([] : List (Nat → Int32)).getD k (fun _ => 0))), _, rfl, (by show (0 ≤ q3 ∧ q3 ≤ 27); omega), rfl, at9 ht hP hD [0] (by decide +kernel) rfl⟩, hS.F ht⟩) hS.2.2 dX10_of_86
            · obtain ⟨z_23, hz_23⟩ : ∃ z : Int, z = q5 + 1 := ⟨_, rfl⟩
              refine lv_iinc (v := iI z_23) (lv' := [(5, vI z_23), (4, .ref (sn sa q3)), (3, vI q3), (0, vR tb), (1, vI fr), (2, vI en)]) hx hb dX10_of_57 hlv (k := 0) rfl (by rw [hz_23]; exact (Int32.ofInt_add _ _).symm) (by decide) rfl (fun ls hlv => ?_)
              refine lv_goto (tgt := 23) hx hb dX10_of_60 (by decide) ?_
              exact ih23 z_23 H locs ls (by omega) (by omega) (by omega)  (hP.sub [0] rfl) (hD.sub [0] (by decide) rfl) hS (lv_sub hlv [0, 1, 2, 3, 4, 5] rfl)
def vs_s_word : List Cond := .code yX8_word cX8_word 1 (some (.object "KerbSplash$Word")) :: (([.fieldLink RX8 25 "KerbSplash$Tape" "at" "I", .fieldLink RX8 28 "KerbSplash$Tape" "wordEnd" "I", .fieldLink RX8 22 "KerbSplash$Tape" "length" "I", .fieldLink RX8 11 "KerbSplash$Tape" "bytes" "[B", .initialized RX10, .static yX10_of, .fieldLink RX8 42 "KerbSplash$Word" "NO" "LKerbSplash$Word;"] : List Cond) ++ ((wsV RX8 34 RX8 yX8_sign vs_s_sign) ++ ((wsX80) ++ ((vs_s_wordOf) ++ ([])))))
theorem gd_s_word : vs_s_word.all goodWord = true := gd_C (by decide +kernel) (gd_A (by decide +kernel) (gd_A (gd_V gd_s_sign (by decide +kernel)) (gd_A (by decide +kernel) (gd_A gd_s_wordOf rfl))))
set_option maxHeartbeats 4000000 in
set_option maxRecDepth 100000 in
theorem s_word (l : Launch) (hl : l.stackTraces = false) (D : va_G) (cy : Nat → ClassId) (sa : Nat → Nat) (ta tb : Nat) (fed len at_ we fa fp : Int) (bf : Nat → Int32) (sz : Nat) (hr_fed : 0 ≤ fed ∧ fed ≤ 600) (hr_len : 0 ≤ len ∧ len ≤ 600) (hr_at_ : 0 ≤ at_ ∧ at_ ≤ 600) (hr_we : 0 ≤ we ∧ we ≤ 600) (hr_fa : 0 ≤ fa ∧ fa ≤ 4) (hr_fp : (-1) ≤ fp ∧ fp ≤ 600) : mR9 l yX8_word vs_s_word ({ frames := 5, cells := 0, slots := 0, locals := 110 }) D cy sa sz [vR ta] [zO ta 8 [vR tb, vI fed, vI len, vI at_, vI we, vI fa, vI fp], zI tb (cy 1) 600 bf] (fun u : SV => (0 ≤ u.2.1 0 ∧ u.2.1 0 ≤ 27) ∧ (0 ≤ u.2.1 1 ∧ u.2.1 1 ≤ 600) ∧ (0 ≤ u.2.1 2 ∧ u.2.1 2 ≤ 600)) (fun u : SV => [zO ta 8 [vR tb, vI fed, vI len, vI (u.2.1 1), vI (u.2.1 2), vI fa, vI fp], zI tb (cy 1) 600 bf]) 0 0 0 := by
  refine Met.ofW (cc := cX8_word) (maxL := 1) (ret := (some (.object "KerbSplash$Word"))) (by decide) rfl ?_
  intro p e s m args below meth c s₁ B hml hv
  obtain ⟨rfl, hsz, hP, hG, hD0, hT⟩ := hv
  have hx := B.exec
  have hb := B.bytes
  have hr := B.returns
  have hts := atoms_spec (ws := vs_s_word) B.pre
  have hown : s.vm.findClass RX8 = some m.cls := findClass_of_methodNamed B.named
  have hlocks := B.notSynchronized
  subst hsz
  have hD := hD0.self (sz := s.heap.size)
  generalize hAe : va_A [zO ta 8 [vR tb, vI fed, vI len, vI at_, vI we, vI fa, vI fp], zI tb (cy 1) 600 bf] s.heap.size = A at hD hT ⊢
  have hA : ∀ q : Nat, s.heap.size ≤ q → A q := fun q h => by rw [← hAe]; exact Or.inr h
  have hS : va_S A s.heap s.heap [] := va_S.rf
  have hl0 := lv_entry ([vR ta]) (n := 1) (Nat.le_of_ble_eq_true rfl)
  rw [lg_entry_eq]
  generalize (lg_sl ([vR ta]) ++ List.replicate (1 - (lg_sl ([vR ta])).length) Slot.unset).toArray = ls at hl0 ⊢
  have hlv : lv_has ls 1 [(0, vR ta)] := hl0
  have gg_0 : GoodIn vs_s_word (wsV RX8 34 RX8 yX8_sign vs_s_sign) := goodIn_sub (fun w h => List.mem_cons_of_mem _ (List.mem_append_right _ (List.mem_append_left _ h))) (gd_V gd_s_sign (by decide +kernel))
  have lf25 := hts (.fieldLink RX8 25 "KerbSplash$Tape" "at" "I") (List.mem_of_getElem? (i := 1) rfl)
  have hi8 : ∀ w ∈ wsX80, w ∈ vs_s_word := fun w h => List.mem_cons_of_mem _ (List.mem_append_right _ (List.mem_append_right _ (List.mem_append_left _ h)))
  have lf28 := hts (.fieldLink RX8 28 "KerbSplash$Tape" "wordEnd" "I") (List.mem_of_getElem? (i := 2) rfl)
  have lf22 := hts (.fieldLink RX8 22 "KerbSplash$Tape" "length" "I") (List.mem_of_getElem? (i := 3) rfl)
  have lf11 := hts (.fieldLink RX8 11 "KerbSplash$Tape" "bytes" "[B") (List.mem_of_getElem? (i := 4) rfl)
  have gg_2 : GoodIn vs_s_word (vs_s_wordOf) := goodIn_sub (fun w h => List.mem_cons_of_mem _ (List.mem_append_right _ (List.mem_append_right _ (List.mem_append_right _ (List.mem_append_left _ h))))) gd_s_wordOf
  have ini_RX10 := hts (.initialized RX10) (List.mem_of_getElem? (i := 5) rfl)
  have st_X10_of := hts (.static yX10_of) (List.mem_of_getElem? (i := 6) rfl)
  have lf42 := hts (.fieldLink RX8 42 "KerbSplash$Word" "NO" "LKerbSplash$Word;") (List.mem_of_getElem? (i := 7) rfl)
  refine lv_aload_n hx hb dX8_word_0 rfl (lv_at hlv 0 rfl) ?_
  refine cjr_i [false, false] (fun pre9 => (va_runV (As := []) (rest := []) ⟨hx, hb, hml, hown, hts⟩ (s_sign l hl D cy sa ta tb fed len at_ we fa fp bf s.heap.size (by first | exact hr_fed | omega) (by first | exact hr_len | omega) (by first | exact hr_at_ | omega) (by first | exact hr_we | omega) (by first | exact hr_fa | omega) (by first | exact hr_fp | omega)) (cwV 0 hts gg_0 rfl rfl rfl (by decide +kernel) ⟨Nat.le_of_ble_eq_true rfl, Nat.le_of_ble_eq_true rfl⟩) ⟨pcW.blind, (va_recv hG.1 hP (ci := 8) (q0 := 0) rfl rfl), pre9⟩ rfl rfl hlv.1 rfl (lv_room (Nat.le_of_ble_eq_true rfl)) dX8_word_1 ⟨Nat.le_of_ble_eq_true rfl, Nat.le_of_ble_eq_true rfl⟩)) hP hD hS hA hG hT [0, 1] rfl (by decide +kernel) (fun r1 u1 H locs hw1 hq9 hS => ?_)
  obtain ⟨rfl, hq1_1, hq1_2, hq1_3, hq1_4, hq1_5⟩ := hw1
  obtain ⟨hP, hD⟩ := pd9 [zO ta 8 [vR tb, vI fed, vI len, vI (u1.2.1 1), vI we, vI fa, vI fp], zI tb (cy 1) 600 bf] hq9
  refine lv_iconst (v := iI (-1)) hx hb dX8_word_4 (by decide) ?_
  refine ir_ne (tgt := 12) hx hb dX8_word_5 (by decide) (by first | exact rgw hq1_1 (by decide) (by decide) | omega) (by show ((-2147483648) : Int) ≤ (-1) ∧ ((-1) : Int) ≤ 2147483647; decide) (fun c_1 => ?_) (fun c_1 => ?_)
  · refine lv_aload_n hx hb dX8_word_12 rfl (lv_at hlv 0 rfl) ?_
    refine lv_aload_n hx hb dX8_word_13 rfl (lv_at hlv 0 rfl) ?_
    refine va_get (D := D) (ci := 8) (v := vI (u1.2.1 1)) (C := RX8) (T := TX8) (N := 7) hx hb hts hi8 hown hG.1 hP 0 rfl rfl 3 (by decide) lf25 (fun _ h9 => h9) rfl dX8_word_14 ?_
    refine va_put (D := D) (ci := 8) (v := vI (u1.2.1 1)) (ty := .int) (C := RX8) (T := TX8) (N := 7) hx hb hts hi8 tyX8 tyX8_ok nmX8 hown hG.1 hP hD hS 0 rfl rfl 4 (by decide) lf28 (fun _ h9 => h9) rfl (by decide +kernel) rfl rfl (Nat.le_of_ble_eq_true rfl) dX8_word_17 (fun H locs hP hD hS => ?_)
    obtain ⟨hP, hD⟩ := pw9 [zO ta 8 [vR tb, vI fed, vI len, vI (u1.2.1 1), vI (u1.2.1 1), vI fa, vI fp], zI tb (cy 1) 600 bf] hP hD
    refine (?_ : ∀ (fu : Nat) (x : Int) (H : Heap) (locs : List Loc) (ls : Array Slot), 600 - x < (fu : Int) → (0 ≤ x ∧ x ≤ 600) → va_P D vwCl [zO ta 8 [vR tb, vI fed, vI len, vI (u1.2.1 1), vI x, vI fa, vI fp], zI tb (cy 1) 600 bf] H → va_D A [zO ta 8 [vR tb, vI fed, vI len, vI (u1.2.1 1), vI x, vI fa, vI fp], zI tb (cy 1) 600 bf] → va_S A s.heap H locs → lv_has ls 1 [(0, vR ta)] → W p l e _ s m _ below meth c H locs _ _ _ (F0 m 20 ls [])) (((600 - (u1.2.1 1)) + 1 : Int)).toNat (u1.2.1 1) _ _ _ (by omega) (by first | exact hq1_2 | omega)  hP hD hS hlv
    clear hP hD hS hlv
    intro fu
    induction fu with
    | zero => intro x H locs ls hm20 hl20_0  hP hD hS hlv; omega
    | succ fu ih20 =>
      intro x H locs ls hm20 hl20_0  hP hD hS hlv
      refine lv_aload_n hx hb dX8_word_20 rfl (lv_at hlv 0 rfl) ?_
      refine va_get (D := D) (ci := 8) (v := vI x) (C := RX8) (T := TX8) (N := 7) hx hb hts hi8 hown hG.1 hP 0 rfl rfl 4 (by decide) lf28 (fun _ h9 => h9) rfl dX8_word_21 ?_
      refine lv_aload_n hx hb dX8_word_24 rfl (lv_at hlv 0 rfl) ?_
      refine va_get (D := D) (ci := 8) (v := vI len) (C := RX8) (T := TX8) (N := 7) hx hb hts hi8 hown hG.1 hP 0 rfl rfl 2 (by decide) lf22 (fun _ h9 => h9) rfl dX8_word_25 ?_
      refine ir_ge (tgt := 72) hx hb dX8_word_28 (by decide) (by first | exact rgw hl20_0 (by decide) (by decide) | omega) (by first | exact rgw hr_len (by decide) (by decide) | omega) (fun c_2 => ?_) (fun c_2 => ?_)
      · refine lv_aload_n hx hb dX8_word_72 rfl (lv_at hlv 0 rfl) ?_
        refine va_get (D := D) (ci := 8) (v := vR tb) (C := RX8) (T := TX8) (N := 7) hx hb hts hi8 hown hG.1 hP 0 rfl rfl 0 (by decide) lf11 (fun _ h9 => h9) rfl dX8_word_73 ?_
        refine lv_aload_n hx hb dX8_word_76 rfl (lv_at hlv 0 rfl) ?_
        refine va_get (D := D) (ci := 8) (v := vI (u1.2.1 1)) (C := RX8) (T := TX8) (N := 7) hx hb hts hi8 hown hG.1 hP 0 rfl rfl 3 (by decide) lf25 (fun _ h9 => h9) rfl dX8_word_77 ?_
        refine lv_aload_n hx hb dX8_word_80 rfl (lv_at hlv 0 rfl) ?_
        refine va_get (D := D) (ci := 8) (v := vI x) (C := RX8) (T := TX8) (N := 7) hx hb hts hi8 hown hG.1 hP 0 rfl rfl 4 (by decide) lf28 (fun _ h9 => h9) rfl dX8_word_81 ?_
        refine cjr_r (ra := fun u : SV => wd sa (u.2.1 0)) [true, false] (fun pre9 => (va_runSN (host := "KerbSplash") (As := [vR tb, vI (u1.2.1 1), vI x]) (rest := []) ⟨hx, hb, hml, hown, hts⟩ (s_wordOf l hl D cy sa tb bf (u1.2.1 1) x H.size (by first | exact hq1_2 | omega) (by first | exact hl20_0 | omega)) ⟨va_cnB 3 hts gg_2 rfl rfl rfl (nM_Tape_48 hG.2.1) ini_RX10 (by decide +kernel) ⟨Nat.le_of_ble_eq_true rfl, Nat.le_of_ble_eq_true rfl⟩, st_X10_of, trivial⟩ ⟨pcW.blind, pre9⟩ rfl rfl hlv.1 rfl (lv_room (Nat.le_of_ble_eq_true rfl)) dX8_word_84 ⟨Nat.le_of_ble_eq_true rfl, Nat.le_of_ble_eq_true rfl⟩)) hP hD hS hA hG hT [1] rfl (by decide +kernel) (fun u2 H locs hw2 hq9 hS => ?_)
        have hq2_0 : ((0 : Int) ≤ u2.2.1 0 ∧ u2.2.1 0 ≤ 27) := hw2
        obtain ⟨hP, hD⟩ := pd9 [zO ta 8 [vR tb, vI fed, vI len, vI (u1.2.1 1), vI x, vI fa, vI fp], zI tb (cy 1) 600 bf] hq9
        refine W.widen (k := 0) (n := 0) (Nat.le_of_ble_eq_true rfl) (Nat.le_of_ble_eq_true rfl) ?_
        exact W.aret (v := .ref (wd sa (u2.2.1 0))) hx hb hr (Or.inl ⟨_, rfl⟩) (Or.inr ⟨_, rfl⟩) (fun t ht hW => ⟨⟨((fun k => ([] : List Nat).getD k 0), (fun k => ([(u2.2.1 0), (u1.2.1 1), x] : List Int).getD k 0), (fun k => ([] : List (Nat → Int32)).getD k (fun _ => 0))), _, rfl, ⟨(by show (0 ≤ (u2.2.1 0) ∧ (u2.2.1 0) ≤ 27); first | exact hq2_0 | omega), (by show (0 ≤ (u1.2.1 1) ∧ (u1.2.1 1) ≤ 600); first | exact hq1_2 | omega), (by show (0 ≤ x ∧ x ≤ 600); first | exact hl20_0 | omega)⟩, rfl, at9 ht hP hD [0, 1] (by decide +kernel) rfl⟩, hS.F ht⟩) hS.2.2 dX8_word_87
      · refine lv_aload_n hx hb dX8_word_31 rfl (lv_at hlv 0 rfl) ?_
        refine va_get (D := D) (ci := 8) (v := vR tb) (C := RX8) (T := TX8) (N := 7) hx hb hts hi8 hown hG.1 hP 0 rfl rfl 0 (by decide) lf11 (fun _ h9 => h9) rfl dX8_word_32 ?_
        refine lv_aload_n hx hb dX8_word_35 rfl (lv_at hlv 0 rfl) ?_
        refine va_get (D := D) (ci := 8) (v := vI x) (C := RX8) (T := TX8) (N := 7) hx hb hts hi8 hown hG.1 hP 0 rfl rfl 4 (by decide) lf28 (fun _ h9 => h9) rfl dX8_word_36 ?_
        refine va_bald hx hb hG.1 hP 1 1 rfl rfl (iI_in (by omega) (by decide)) dX8_word_39 ?_
        refine lt_z (fun z_3 ez_3 lz_3 hz_3 => ?_)
        refine lv_bipush (v := iI 97) hx hb dX8_word_40 (by decide) ?_
        refine ir_lt (tgt := 72) hx hb dX8_word_42 (by decide) (by omega) (by show ((-2147483648) : Int) ≤ 97 ∧ (97 : Int) ≤ 2147483647; decide) (fun c_4 => ?_) (fun c_4 => ?_)
        · refine lv_aload_n hx hb dX8_word_72 rfl (lv_at hlv 0 rfl) ?_
          refine va_get (D := D) (ci := 8) (v := vR tb) (C := RX8) (T := TX8) (N := 7) hx hb hts hi8 hown hG.1 hP 0 rfl rfl 0 (by decide) lf11 (fun _ h9 => h9) rfl dX8_word_73 ?_
          refine lv_aload_n hx hb dX8_word_76 rfl (lv_at hlv 0 rfl) ?_
          refine va_get (D := D) (ci := 8) (v := vI (u1.2.1 1)) (C := RX8) (T := TX8) (N := 7) hx hb hts hi8 hown hG.1 hP 0 rfl rfl 3 (by decide) lf25 (fun _ h9 => h9) rfl dX8_word_77 ?_
          refine lv_aload_n hx hb dX8_word_80 rfl (lv_at hlv 0 rfl) ?_
          refine va_get (D := D) (ci := 8) (v := vI x) (C := RX8) (T := TX8) (N := 7) hx hb hts hi8 hown hG.1 hP 0 rfl rfl 4 (by decide) lf28 (fun _ h9 => h9) rfl dX8_word_81 ?_
          refine cjr_r (ra := fun u : SV => wd sa (u.2.1 0)) [true, false] (fun pre9 => (va_runSN (host := "KerbSplash") (As := [vR tb, vI (u1.2.1 1), vI x]) (rest := []) ⟨hx, hb, hml, hown, hts⟩ (s_wordOf l hl D cy sa tb bf (u1.2.1 1) x H.size (by first | exact hq1_2 | omega) (by first | exact hl20_0 | omega)) ⟨va_cnB 3 hts gg_2 rfl rfl rfl (nM_Tape_48 hG.2.1) ini_RX10 (by decide +kernel) ⟨Nat.le_of_ble_eq_true rfl, Nat.le_of_ble_eq_true rfl⟩, st_X10_of, trivial⟩ ⟨pcW.blind, pre9⟩ rfl rfl hlv.1 rfl (lv_room (Nat.le_of_ble_eq_true rfl)) dX8_word_84 ⟨Nat.le_of_ble_eq_true rfl, Nat.le_of_ble_eq_true rfl⟩)) hP hD hS hA hG hT [1] rfl (by decide +kernel) (fun u3 H locs hw3 hq9 hS => ?_)
          have hq3_0 : ((0 : Int) ≤ u3.2.1 0 ∧ u3.2.1 0 ≤ 27) := hw3
          obtain ⟨hP, hD⟩ := pd9 [zO ta 8 [vR tb, vI fed, vI len, vI (u1.2.1 1), vI x, vI fa, vI fp], zI tb (cy 1) 600 bf] hq9
          refine W.widen (k := 0) (n := 0) (Nat.le_of_ble_eq_true rfl) (Nat.le_of_ble_eq_true rfl) ?_
          exact W.aret (v := .ref (wd sa (u3.2.1 0))) hx hb hr (Or.inl ⟨_, rfl⟩) (Or.inr ⟨_, rfl⟩) (fun t ht hW => ⟨⟨((fun k => ([] : List Nat).getD k 0), (fun k => ([(u3.2.1 0), (u1.2.1 1), x] : List Int).getD k 0), (fun k => ([] : List (Nat → Int32)).getD k (fun _ => 0))), _, rfl, ⟨(by show (0 ≤ (u3.2.1 0) ∧ (u3.2.1 0) ≤ 27); first | exact hq3_0 | omega), (by show (0 ≤ (u1.2.1 1) ∧ (u1.2.1 1) ≤ 600); first | exact hq1_2 | omega), (by show (0 ≤ x ∧ x ≤ 600); first | exact hl20_0 | omega)⟩, rfl, at9 ht hP hD [0, 1] (by decide +kernel) rfl⟩, hS.F ht⟩) hS.2.2 dX8_word_87
        · refine lv_aload_n hx hb dX8_word_45 rfl (lv_at hlv 0 rfl) ?_
          refine va_get (D := D) (ci := 8) (v := vR tb) (C := RX8) (T := TX8) (N := 7) hx hb hts hi8 hown hG.1 hP 0 rfl rfl 0 (by decide) lf11 (fun _ h9 => h9) rfl dX8_word_46 ?_
          refine lv_aload_n hx hb dX8_word_49 rfl (lv_at hlv 0 rfl) ?_
          refine va_get (D := D) (ci := 8) (v := vI x) (C := RX8) (T := TX8) (N := 7) hx hb hts hi8 hown hG.1 hP 0 rfl rfl 4 (by decide) lf28 (fun _ h9 => h9) rfl dX8_word_50 ?_
          refine va_bald hx hb hG.1 hP 1 1 rfl rfl (iI_in (by omega) (by decide)) dX8_word_53 ?_
          refine lt_i (y := iI z_3) ez_3 ?_
          refine lv_bipush (v := iI 122) hx hb dX8_word_54 (by decide) ?_
          refine ir_gt (tgt := 72) hx hb dX8_word_56 (by decide) (by omega) (by show ((-2147483648) : Int) ≤ 122 ∧ (122 : Int) ≤ 2147483647; decide) (fun c_5 => ?_) (fun c_5 => ?_)
          · refine lv_aload_n hx hb dX8_word_72 rfl (lv_at hlv 0 rfl) ?_
            refine va_get (D := D) (ci := 8) (v := vR tb) (C := RX8) (T := TX8) (N := 7) hx hb hts hi8 hown hG.1 hP 0 rfl rfl 0 (by decide) lf11 (fun _ h9 => h9) rfl dX8_word_73 ?_
            refine lv_aload_n hx hb dX8_word_76 rfl (lv_at hlv 0 rfl) ?_
            refine va_get (D := D) (ci := 8) (v := vI (u1.2.1 1)) (C := RX8) (T := TX8) (N := 7) hx hb hts hi8 hown hG.1 hP 0 rfl rfl 3 (by decide) lf25 (fun _ h9 => h9) rfl dX8_word_77 ?_
            refine lv_aload_n hx hb dX8_word_80 rfl (lv_at hlv 0 rfl) ?_
            refine va_get (D := D) (ci := 8) (v := vI x) (C := RX8) (T := TX8) (N := 7) hx hb hts hi8 hown hG.1 hP 0 rfl rfl 4 (by decide) lf28 (fun _ h9 => h9) rfl dX8_word_81 ?_
            refine cjr_r (ra := fun u : SV => wd sa (u.2.1 0)) [true, false] (fun pre9 => (va_runSN (host := "KerbSplash") (As := [vR tb, vI (u1.2.1 1), vI x]) (rest := []) ⟨hx, hb, hml, hown, hts⟩ (s_wordOf l hl D cy sa tb bf (u1.2.1 1) x H.size (by first | exact hq1_2 | omega) (by first | exact hl20_0 | omega)) ⟨va_cnB 3 hts gg_2 rfl rfl rfl (nM_Tape_48 hG.2.1) ini_RX10 (by decide +kernel) ⟨Nat.le_of_ble_eq_true rfl, Nat.le_of_ble_eq_true rfl⟩, st_X10_of, trivial⟩ ⟨pcW.blind, pre9⟩ rfl rfl hlv.1 rfl (lv_room (Nat.le_of_ble_eq_true rfl)) dX8_word_84 ⟨Nat.le_of_ble_eq_true rfl, Nat.le_of_ble_eq_true rfl⟩)) hP hD hS hA hG hT [1] rfl (by decide +kernel) (fun u4 H locs hw4 hq9 hS => ?_)
            have hq4_0 : ((0 : Int) ≤ u4.2.1 0 ∧ u4.2.1 0 ≤ 27) := hw4
            obtain ⟨hP, hD⟩ := pd9 [zO ta 8 [vR tb, vI fed, vI len, vI (u1.2.1 1), vI x, vI fa, vI fp], zI tb (cy 1) 600 bf] hq9
            refine W.widen (k := 0) (n := 0) (Nat.le_of_ble_eq_true rfl) (Nat.le_of_ble_eq_true rfl) ?_
            exact W.aret (v := .ref (wd sa (u4.2.1 0))) hx hb hr (Or.inl ⟨_, rfl⟩) (Or.inr ⟨_, rfl⟩) (fun t ht hW => ⟨⟨((fun k => ([] : List Nat).getD k 0), (fun k => ([(u4.2.1 0), (u1.2.1 1), x] : List Int).getD k 0), (fun k => ([] : List (Nat → Int32)).getD k (fun _ => 0))), _, rfl, ⟨(by show (0 ≤ (u4.2.1 0) ∧ (u4.2.1 0) ≤ 27); first | exact hq4_0 | omega), (by show (0 ≤ (u1.2.1 1) ∧ (u1.2.1 1) ≤ 600); first | exact hq1_2 | omega), (by show (0 ≤ x ∧ x ≤ 600); first | exact hl20_0 | omega)⟩, rfl, at9 ht hP hD [0, 1] (by decide +kernel) rfl⟩, hS.F ht⟩) hS.2.2 dX8_word_87
          · refine lv_aload_n hx hb dX8_word_59 rfl (lv_at hlv 0 rfl) ?_
            refine lv_dup hx hb dX8_word_60 rfl ?_
            refine va_get (D := D) (ci := 8) (v := vI x) (C := RX8) (T := TX8) (N := 7) hx hb hts hi8 hown hG.1 hP 0 rfl rfl 4 (by decide) lf28 (fun _ h9 => h9) rfl dX8_word_61 ?_
            refine lv_iconst (v := iI 1) hx hb dX8_word_64 (by decide) ?_
            refine lv_iadd hx hb dX8_word_65 ?_
            refine lt_e (e0 := x + 1) (Int32.ofInt_add _ _).symm (fun z_6 hz_6 => ?_)
            refine va_put (D := D) (ci := 8) (v := vI z_6) (ty := .int) (C := RX8) (T := TX8) (N := 7) hx hb hts hi8 tyX8 tyX8_ok nmX8 hown hG.1 hP hD hS 0 rfl rfl 4 (by decide) lf28 (fun _ h9 => h9) rfl (by decide +kernel) rfl rfl (Nat.le_of_ble_eq_true rfl) dX8_word_66 (fun H locs hP hD hS => ?_)
            obtain ⟨hP, hD⟩ := pw9 [zO ta 8 [vR tb, vI fed, vI len, vI (u1.2.1 1), vI z_6, vI fa, vI fp], zI tb (cy 1) 600 bf] hP hD
            refine lv_goto (tgt := 20) hx hb dX8_word_69 (by decide) ?_
            exact ih20 z_6 H locs ls (by omega) (by omega)  (hP.sub [0, 1] rfl) (hD.sub [0, 1] (by decide) rfl) hS (lv_sub hlv [0] rfl)
  · refine va_gets (C := "KerbSplash$Word") (n := "NO") (d := "LKerbSplash$Word;") (ref := "KerbSplash$Word") (v := .ref (wd sa 0)) hx hb (hT.2.2.1 0 (by decide)).1.1 hS hown lf42 (fun _ h9 => h9) dX8_word_8 ?_
    refine W.widen (k := 0) (n := 0) (Nat.le_of_ble_eq_true rfl) (Nat.le_of_ble_eq_true rfl) ?_
    exact W.aret (v := .ref (wd sa 0)) hx hb hr (Or.inl ⟨_, rfl⟩) (Or.inr ⟨_, rfl⟩) (fun t ht hW => ⟨⟨((fun k => ([] : List Nat).getD k 0), (fun k => ([0, (u1.2.1 1), we] : List Int).getD k 0), (fun k => ([] : List (Nat → Int32)).getD k (fun _ => 0))), _, rfl, ⟨(by show (0 ≤ 0 ∧ 0 ≤ 27); show (0 : Int) ≤ 0 ∧ (0 : Int) ≤ 27; decide), (by show (0 ≤ (u1.2.1 1) ∧ (u1.2.1 1) ≤ 600); first | exact hq1_2 | omega), (by show (0 ≤ we ∧ we ≤ 600); first | exact hr_we | omega)⟩, rfl, at9 ht hP hD [0, 1] (by decide +kernel) rfl⟩, hS.F ht⟩) hS.2.2 dX8_word_11
def vs_s_takeWord : List Cond := .code yX8_takeWord cX8_takeWord 2 (some .boolean) :: (([.fieldLink RX8 28 "KerbSplash$Tape" "wordEnd" "I", .fieldLink RX8 25 "KerbSplash$Tape" "at" "I"] : List Cond) ++ ((wsV RX8 52 RX8 yX8_word vs_s_word) ++ ((wsX80) ++ ([]))))
theorem gd_s_takeWord : vs_s_takeWord.all goodWord = true := gd_C (by decide +kernel) (gd_A (by decide +kernel) (gd_A (gd_V gd_s_word (by decide +kernel)) (gd_A (by decide +kernel) rfl)))
set_option maxHeartbeats 4000000 in
set_option maxRecDepth 100000 in
theorem s_takeWord (l : Launch) (hl : l.stackTraces = false) (D : va_G) (cy : Nat → ClassId) (sa : Nat → Nat) (ta tb : Nat) (fed len at_ we fa fp : Int) (bf : Nat → Int32) (k : Int) (sz : Nat) (hr_fed : 0 ≤ fed ∧ fed ≤ 600) (hr_len : 0 ≤ len ∧ len ≤ 600) (hr_at_ : 0 ≤ at_ ∧ at_ ≤ 600) (hr_we : 0 ≤ we ∧ we ≤ 600) (hr_fa : 0 ≤ fa ∧ fa ≤ 4) (hr_fp : (-1) ≤ fp ∧ fp ≤ 600) (hr_k : 0 ≤ k ∧ k ≤ 27) : mI9 l yX8_takeWord vs_s_takeWord ({ frames := 6, cells := 0, slots := 0, locals := 130 }) D cy sa sz [vR ta, .ref (wd sa k)] [zO ta 8 [vR tb, vI fed, vI len, vI at_, vI we, vI fa, vI fp], zI tb (cy 1) 600 bf] (fun (r : Int32) (u : SV) => r = iI (u.2.1 0) ∧ (0 ≤ u.2.1 0 ∧ u.2.1 0 ≤ 1) ∧ (0 ≤ u.2.1 1 ∧ u.2.1 1 ≤ 600) ∧ (0 ≤ u.2.1 2 ∧ u.2.1 2 ≤ 600)) (fun u : SV => [zO ta 8 [vR tb, vI fed, vI len, vI (u.2.1 1), vI (u.2.1 2), vI fa, vI fp], zI tb (cy 1) 600 bf]) 0 0 := by
  refine Met.ofW (cc := cX8_takeWord) (maxL := 2) (ret := (some .boolean)) (by decide) rfl ?_
  intro p e s m args below meth c s₁ B hml hv
  obtain ⟨rfl, hsz, hP, hG, hD0, hT⟩ := hv
  have hx := B.exec
  have hb := B.bytes
  have hr := B.returns
  have hts := atoms_spec (ws := vs_s_takeWord) B.pre
  have hown : s.vm.findClass RX8 = some m.cls := findClass_of_methodNamed B.named
  have hlocks := B.notSynchronized
  subst hsz
  have hD := hD0.self (sz := s.heap.size)
  generalize hAe : va_A [zO ta 8 [vR tb, vI fed, vI len, vI at_, vI we, vI fa, vI fp], zI tb (cy 1) 600 bf] s.heap.size = A at hD hT ⊢
  have hA : ∀ q : Nat, s.heap.size ≤ q → A q := fun q h => by rw [← hAe]; exact Or.inr h
  have hS : va_S A s.heap s.heap [] := va_S.rf
  have hl0 := lv_entry ([vR ta, .ref (wd sa k)]) (n := 2) (Nat.le_of_ble_eq_true rfl)
  rw [lg_entry_eq]
  generalize (lg_sl ([vR ta, .ref (wd sa k)]) ++ List.replicate (2 - (lg_sl ([vR ta, .ref (wd sa k)])).length) Slot.unset).toArray = ls at hl0 ⊢
  have hlv : lv_has ls 2 [(0, vR ta), (1, .ref (wd sa k))] := hl0
  have gg_0 : GoodIn vs_s_takeWord (wsV RX8 52 RX8 yX8_word vs_s_word) := goodIn_sub (fun w h => List.mem_cons_of_mem _ (List.mem_append_right _ (List.mem_append_left _ h))) (gd_V gd_s_word (by decide +kernel))
  have lf28 := hts (.fieldLink RX8 28 "KerbSplash$Tape" "wordEnd" "I") (List.mem_of_getElem? (i := 1) rfl)
  have hi8 : ∀ w ∈ wsX80, w ∈ vs_s_takeWord := fun w h => List.mem_cons_of_mem _ (List.mem_append_right _ (List.mem_append_right _ (List.mem_append_left _ h)))
  have lf25 := hts (.fieldLink RX8 25 "KerbSplash$Tape" "at" "I") (List.mem_of_getElem? (i := 2) rfl)
  refine lv_aload_n hx hb dX8_takeWord_0 rfl (lv_at hlv 0 rfl) ?_
  refine cjr_r (ra := fun u : SV => wd sa (u.2.1 0)) [false, false] (fun pre9 => (va_runV (As := []) (rest := []) ⟨hx, hb, hml, hown, hts⟩ (s_word l hl D cy sa ta tb fed len at_ we fa fp bf s.heap.size (by first | exact hr_fed | omega) (by first | exact hr_len | omega) (by first | exact hr_at_ | omega) (by first | exact hr_we | omega) (by first | exact hr_fa | omega) (by first | exact hr_fp | omega)) (cwV 0 hts gg_0 rfl rfl rfl (by decide +kernel) ⟨Nat.le_of_ble_eq_true rfl, Nat.le_of_ble_eq_true rfl⟩) ⟨pcW.blind, (va_recv hG.1 hP (ci := 8) (q0 := 0) rfl rfl), pre9⟩ rfl rfl hlv.1 rfl (lv_room (Nat.le_of_ble_eq_true rfl)) dX8_takeWord_1 ⟨Nat.le_of_ble_eq_true rfl, Nat.le_of_ble_eq_true rfl⟩)) hP hD hS hA hG hT [0, 1] rfl (by decide +kernel) (fun u1 H locs hw1 hq9 hS => ?_)
  obtain ⟨hq1_0, hq1_1, hq1_2⟩ := hw1
  obtain ⟨hP, hD⟩ := pd9 [zO ta 8 [vR tb, vI fed, vI len, vI (u1.2.1 1), vI (u1.2.1 2), vI fa, vI fp], zI tb (cy 1) 600 bf] hq9
  refine lv_aload_n hx hb dX8_takeWord_4 rfl (lv_at hlv 1 rfl) ?_
  refine aw_eq (tgt := 10) hx hb hT.2.2 dX8_takeWord_5 (by decide) (by omega) (by omega) (fun c_1 => ?_) (fun c_1 => ?_)
  · refine lv_aload_n hx hb dX8_takeWord_10 rfl (lv_at hlv 0 rfl) ?_
    refine lv_aload_n hx hb dX8_takeWord_11 rfl (lv_at hlv 0 rfl) ?_
    refine va_get (D := D) (ci := 8) (v := vI (u1.2.1 2)) (C := RX8) (T := TX8) (N := 7) hx hb hts hi8 hown hG.1 hP 0 rfl rfl 4 (by decide) lf28 (fun _ h9 => h9) rfl dX8_takeWord_12 ?_
    refine va_put (D := D) (ci := 8) (v := vI (u1.2.1 2)) (ty := .int) (C := RX8) (T := TX8) (N := 7) hx hb hts hi8 tyX8 tyX8_ok nmX8 hown hG.1 hP hD hS 0 rfl rfl 3 (by decide) lf25 (fun _ h9 => h9) rfl (by decide +kernel) rfl rfl (Nat.le_of_ble_eq_true rfl) dX8_takeWord_15 (fun H locs hP hD hS => ?_)
    obtain ⟨hP, hD⟩ := pw9 [zO ta 8 [vR tb, vI fed, vI len, vI (u1.2.1 2), vI (u1.2.1 2), vI fa, vI fp], zI tb (cy 1) 600 bf] hP hD
    refine lv_iconst (v := iI 1) hx hb dX8_takeWord_18 (by decide) ?_
    refine W.widen (k := 0) (n := 0) (Nat.le_of_ble_eq_true rfl) (Nat.le_of_ble_eq_true rfl) ?_
    exact W.zret (v := iI 1) hx hb hr (by first | rfl | decide) (fun t ht hW => ⟨⟨iI 1, ((fun k => ([] : List Nat).getD k 0), (fun k => ([1, (u1.2.1 2), (u1.2.1 2)] : List Int).getD k 0), (fun k => ([] : List (Nat → Int32)).getD k (fun _ => 0))), rfl, ⟨rfl, (by show (0 ≤ 1 ∧ 1 ≤ 1); show (0 : Int) ≤ 1 ∧ (1 : Int) ≤ 1; decide), (by show (0 ≤ (u1.2.1 2) ∧ (u1.2.1 2) ≤ 600); first | exact hq1_2 | omega), (by show (0 ≤ (u1.2.1 2) ∧ (u1.2.1 2) ≤ 600); first | exact hq1_2 | omega)⟩, at9 ht hP hD [0, 1] (by decide +kernel) rfl⟩, hS.F ht⟩) hS.2.2 dX8_takeWord_19
  · refine lv_iconst (v := iI 0) hx hb dX8_takeWord_8 (by decide) ?_
    refine W.widen (k := 0) (n := 0) (Nat.le_of_ble_eq_true rfl) (Nat.le_of_ble_eq_true rfl) ?_
    exact W.zret (v := iI 0) hx hb hr (by first | rfl | decide) (fun t ht hW => ⟨⟨iI 0, ((fun k => ([] : List Nat).getD k 0), (fun k => ([0, (u1.2.1 1), (u1.2.1 2)] : List Int).getD k 0), (fun k => ([] : List (Nat → Int32)).getD k (fun _ => 0))), rfl, ⟨rfl, (by show (0 ≤ 0 ∧ 0 ≤ 1); show (0 : Int) ≤ 0 ∧ (0 : Int) ≤ 1; decide), (by show (0 ≤ (u1.2.1 1) ∧ (u1.2.1 1) ≤ 600); first | exact hq1_1 | omega), (by show (0 ≤ (u1.2.1 2) ∧ (u1.2.1 2) ≤ 600); first | exact hq1_2 | omega)⟩, at9 ht hP hD [0, 1] (by decide +kernel) rfl⟩, hS.F ht⟩) hS.2.2 dX8_takeWord_9
def vs_s_wantWord : List Cond := .code yX8_wantWord cX8_wantWord 2 none :: (([.fieldLink RX8 28 "KerbSplash$Tape" "wordEnd" "I", .fieldLink RX8 25 "KerbSplash$Tape" "at" "I"] : List Cond) ++ ((wsV RX8 52 RX8 yX8_word vs_s_word) ++ ((wsV RX8 38 RX8 yX8_refuse vs_s_refuse) ++ ((wsX80) ++ ([])))))
theorem gd_s_wantWord : vs_s_wantWord.all goodWord = true := gd_C (by decide +kernel) (gd_A (by decide +kernel) (gd_A (gd_V gd_s_word (by decide +kernel)) (gd_A (gd_V gd_s_refuse (by decide +kernel)) (gd_A (by decide +kernel) rfl))))
set_option maxHeartbeats 4000000 in
set_option maxRecDepth 100000 in
theorem s_wantWord (l : Launch) (hl : l.stackTraces = false) (D : va_G) (cy : Nat → ClassId) (sa : Nat → Nat) (ta tb : Nat) (fed len at_ we fa fp : Int) (bf : Nat → Int32) (k : Int) (sz : Nat) (hr_fed : 0 ≤ fed ∧ fed ≤ 600) (hr_len : 0 ≤ len ∧ len ≤ 600) (hr_at_ : 0 ≤ at_ ∧ at_ ≤ 600) (hr_we : 0 ≤ we ∧ we ≤ 600) (hr_fa : 0 ≤ fa ∧ fa ≤ 4) (hr_fp : (-1) ≤ fp ∧ fp ≤ 600) (hr_k : 0 ≤ k ∧ k ≤ 27) : mV9 l yX8_wantWord vs_s_wantWord ({ frames := 6, cells := 0, slots := 0, locals := 130 }) D cy sa sz [vR ta, .ref (wd sa k)] [zO ta 8 [vR tb, vI fed, vI len, vI at_, vI we, vI fa, vI fp], zI tb (cy 1) 600 bf] (fun u : SV => (0 ≤ u.2.1 0 ∧ u.2.1 0 ≤ 600) ∧ (0 ≤ u.2.1 1 ∧ u.2.1 1 ≤ 600) ∧ (0 ≤ u.2.1 2 ∧ u.2.1 2 ≤ 4) ∧ ((-1) ≤ u.2.1 3 ∧ u.2.1 3 ≤ 600) ∧ (fa ≠ 0 → u.2.1 2 ≠ 0)) (fun u : SV => [zO ta 8 [vR tb, vI fed, vI len, vI (u.2.1 0), vI (u.2.1 1), vI (u.2.1 2), vI (u.2.1 3)], zI tb (cy 1) 600 bf]) 0 0 := by
  refine Met.ofW (cc := cX8_wantWord) (maxL := 2) (ret := none) (by decide) rfl ?_
  intro p e s m args below meth c s₁ B hml hv
  obtain ⟨rfl, hsz, hP, hG, hD0, hT⟩ := hv
  have hx := B.exec
  have hb := B.bytes
  have hr := B.returns
  have hts := atoms_spec (ws := vs_s_wantWord) B.pre
  have hown : s.vm.findClass RX8 = some m.cls := findClass_of_methodNamed B.named
  have hlocks := B.notSynchronized
  subst hsz
  have hD := hD0.self (sz := s.heap.size)
  generalize hAe : va_A [zO ta 8 [vR tb, vI fed, vI len, vI at_, vI we, vI fa, vI fp], zI tb (cy 1) 600 bf] s.heap.size = A at hD hT ⊢
  have hA : ∀ q : Nat, s.heap.size ≤ q → A q := fun q h => by rw [← hAe]; exact Or.inr h
  have hS : va_S A s.heap s.heap [] := va_S.rf
  have hl0 := lv_entry ([vR ta, .ref (wd sa k)]) (n := 2) (Nat.le_of_ble_eq_true rfl)
  rw [lg_entry_eq]
  generalize (lg_sl ([vR ta, .ref (wd sa k)]) ++ List.replicate (2 - (lg_sl ([vR ta, .ref (wd sa k)])).length) Slot.unset).toArray = ls at hl0 ⊢
  have hlv : lv_has ls 2 [(0, vR ta), (1, .ref (wd sa k))] := hl0
  have gg_0 : GoodIn vs_s_wantWord (wsV RX8 52 RX8 yX8_word vs_s_word) := goodIn_sub (fun w h => List.mem_cons_of_mem _ (List.mem_append_right _ (List.mem_append_left _ h))) (gd_V gd_s_word (by decide +kernel))
  have gg_1 : GoodIn vs_s_wantWord (wsV RX8 38 RX8 yX8_refuse vs_s_refuse) := goodIn_sub (fun w h => List.mem_cons_of_mem _ (List.mem_append_right _ (List.mem_append_right _ (List.mem_append_left _ h)))) (gd_V gd_s_refuse (by decide +kernel))
  have lf28 := hts (.fieldLink RX8 28 "KerbSplash$Tape" "wordEnd" "I") (List.mem_of_getElem? (i := 1) rfl)
  have hi8 : ∀ w ∈ wsX80, w ∈ vs_s_wantWord := fun w h => List.mem_cons_of_mem _ (List.mem_append_right _ (List.mem_append_right _ (List.mem_append_right _ (List.mem_append_left _ h))))
  have lf25 := hts (.fieldLink RX8 25 "KerbSplash$Tape" "at" "I") (List.mem_of_getElem? (i := 2) rfl)
  refine lv_aload_n hx hb dX8_wantWord_0 rfl (lv_at hlv 0 rfl) ?_
  refine cjr_r (ra := fun u : SV => wd sa (u.2.1 0)) [false, false] (fun pre9 => (va_runV (As := []) (rest := []) ⟨hx, hb, hml, hown, hts⟩ (s_word l hl D cy sa ta tb fed len at_ we fa fp bf s.heap.size (by first | exact hr_fed | omega) (by first | exact hr_len | omega) (by first | exact hr_at_ | omega) (by first | exact hr_we | omega) (by first | exact hr_fa | omega) (by first | exact hr_fp | omega)) (cwV 0 hts gg_0 rfl rfl rfl (by decide +kernel) ⟨Nat.le_of_ble_eq_true rfl, Nat.le_of_ble_eq_true rfl⟩) ⟨pcW.blind, (va_recv hG.1 hP (ci := 8) (q0 := 0) rfl rfl), pre9⟩ rfl rfl hlv.1 rfl (lv_room (Nat.le_of_ble_eq_true rfl)) dX8_wantWord_1 ⟨Nat.le_of_ble_eq_true rfl, Nat.le_of_ble_eq_true rfl⟩)) hP hD hS hA hG hT [0, 1] rfl (by decide +kernel) (fun u1 H locs hw1 hq9 hS => ?_)
  obtain ⟨hq1_0, hq1_1, hq1_2⟩ := hw1
  obtain ⟨hP, hD⟩ := pd9 [zO ta 8 [vR tb, vI fed, vI len, vI (u1.2.1 1), vI (u1.2.1 2), vI fa, vI fp], zI tb (cy 1) 600 bf] hq9
  refine lv_aload_n hx hb dX8_wantWord_4 rfl (lv_at hlv 1 rfl) ?_
  refine aw_ne (tgt := 19) hx hb hT.2.2 dX8_wantWord_5 (by decide) (by omega) (by omega) (fun c_1 => ?_) (fun c_1 => ?_)
  · refine lv_aload_n hx hb dX8_wantWord_19 rfl (lv_at hlv 0 rfl) ?_
    refine lv_iconst (v := iI 1) hx hb dX8_wantWord_20 (by decide) ?_
    refine cjr_v [false, true] (fun pre9 => (va_runV (As := [vI 1]) (rest := []) ⟨hx, hb, hml, hown, hts⟩ (s_refuse l hl D cy sa ta tb fed len (u1.2.1 1) (u1.2.1 2) fa fp 1 H.size (by first | exact hr_fed | omega) (by first | exact hr_len | omega) (by first | exact hq1_1 | omega) (by first | exact hq1_2 | omega) (by first | exact hr_fa | omega) (by first | exact hr_fp | omega) (by show (1 : Int) ≤ 1 ∧ (1 : Int) ≤ 4; decide)) (cwV 1 hts gg_1 rfl rfl rfl (by decide +kernel) ⟨Nat.le_of_ble_eq_true rfl, Nat.le_of_ble_eq_true rfl⟩) ⟨pcW.blind, (va_recv hG.1 hP (ci := 8) (q0 := 0) rfl rfl), pre9⟩ rfl rfl hlv.1 rfl (lv_room (Nat.le_of_ble_eq_true rfl)) dX8_wantWord_21 ⟨Nat.le_of_ble_eq_true rfl, Nat.le_of_ble_eq_true rfl⟩)) hP hD hS hA hG hT [0] rfl (by decide +kernel) (fun u2 H locs hw2 hq9 hS => ?_)
    obtain ⟨hq2_0, hq2_1⟩ := hw2
    obtain ⟨hP, hD⟩ := pd9 [zI tb (cy 1) 600 bf, zO ta 8 [vR tb, vI fed, vI len, vI (u1.2.1 1), vI (u1.2.1 2), vI (u2.2.1 0), vI (u2.2.1 1)]] hq9
    refine W.widen (k := 0) (n := 0) (Nat.le_of_ble_eq_true rfl) (Nat.le_of_ble_eq_true rfl) ?_
    exact W.vret hx hb hr (fun t ht hW => ⟨⟨((fun k => ([] : List Nat).getD k 0), (fun k => ([(u1.2.1 1), (u1.2.1 2), (u2.2.1 0), (u2.2.1 1)] : List Int).getD k 0), (fun k => ([] : List (Nat → Int32)).getD k (fun _ => 0))), rfl, ⟨(by show (0 ≤ (u1.2.1 1) ∧ (u1.2.1 1) ≤ 600); first | exact hq1_1 | omega), (by show (0 ≤ (u1.2.1 2) ∧ (u1.2.1 2) ≤ 600); first | exact hq1_2 | omega), (by show (0 ≤ (u2.2.1 0) ∧ (u2.2.1 0) ≤ 4); first | exact rgw hq2_0 (by decide) (by decide) | omega), (by show ((-1) ≤ (u2.2.1 1) ∧ (u2.2.1 1) ≤ 600); first | exact hq2_1 | omega), (by show (fa ≠ 0 → (u2.2.1 0) ≠ 0); omega)⟩, at9 ht hP hD [1, 0] (by decide +kernel) rfl⟩, hS.F ht⟩) hS.2.2 dX8_wantWord_24
  · refine lv_aload_n hx hb dX8_wantWord_8 rfl (lv_at hlv 0 rfl) ?_
    refine lv_aload_n hx hb dX8_wantWord_9 rfl (lv_at hlv 0 rfl) ?_
    refine va_get (D := D) (ci := 8) (v := vI (u1.2.1 2)) (C := RX8) (T := TX8) (N := 7) hx hb hts hi8 hown hG.1 hP 0 rfl rfl 4 (by decide) lf28 (fun _ h9 => h9) rfl dX8_wantWord_10 ?_
    refine va_put (D := D) (ci := 8) (v := vI (u1.2.1 2)) (ty := .int) (C := RX8) (T := TX8) (N := 7) hx hb hts hi8 tyX8 tyX8_ok nmX8 hown hG.1 hP hD hS 0 rfl rfl 3 (by decide) lf25 (fun _ h9 => h9) rfl (by decide +kernel) rfl rfl (Nat.le_of_ble_eq_true rfl) dX8_wantWord_13 (fun H locs hP hD hS => ?_)
    obtain ⟨hP, hD⟩ := pw9 [zO ta 8 [vR tb, vI fed, vI len, vI (u1.2.1 2), vI (u1.2.1 2), vI fa, vI fp], zI tb (cy 1) 600 bf] hP hD
    refine lv_goto (tgt := 24) hx hb dX8_wantWord_16 (by decide) ?_
    refine W.widen (k := 0) (n := 0) (Nat.le_of_ble_eq_true rfl) (Nat.le_of_ble_eq_true rfl) ?_
    exact W.vret hx hb hr (fun t ht hW => ⟨⟨((fun k => ([] : List Nat).getD k 0), (fun k => ([(u1.2.1 2), (u1.2.1 2), fa, fp] : List Int).getD k 0), (fun k => ([] : List (Nat → Int32)).getD k (fun _ => 0))), rfl, ⟨(by show (0 ≤ (u1.2.1 2) ∧ (u1.2.1 2) ≤ 600); first | exact hq1_2 | omega), (by show (0 ≤ (u1.2.1 2) ∧ (u1.2.1 2) ≤ 600); first | exact hq1_2 | omega), (by show (0 ≤ fa ∧ fa ≤ 4); first | exact hr_fa | omega), (by show ((-1) ≤ fp ∧ fp ≤ 600); first | exact hr_fp | omega), (by show (fa ≠ 0 → fa ≠ 0); omega)⟩, at9 ht hP hD [0, 1] (by decide +kernel) rfl⟩, hS.F ht⟩) hS.2.2 dX8_wantWord_24
