/-! decode rows, by program -/
theorem dJ6_bitCount_0f7a4_0 : decode prog_17_method_49_code 0 = .ok (.iload_n 0, 1) := by decide +kernel
theorem dJ6_bitCount_0f7a4_1 : decode prog_17_method_49_code 1 = .ok (.iload_n 0, 1) := by decide +kernel
theorem dJ6_bitCount_0f7a4_2 : decode prog_17_method_49_code 2 = .ok (.iconst 1, 1) := by decide +kernel
theorem dJ6_bitCount_0f7a4_3 : decode prog_17_method_49_code 3 = .ok (.iushr, 1) := by decide +kernel
theorem dJ6_bitCount_0f7a4_4 : decode prog_17_method_49_code 4 = .ok (.ldc_w 265, 3) := by decide +kernel
theorem dJ6_bitCount_0f7a4_7 : decode prog_17_method_49_code 7 = .ok (.iand, 1) := by decide +kernel
theorem dJ6_bitCount_0f7a4_8 : decode prog_17_method_49_code 8 = .ok (.isub, 1) := by decide +kernel
theorem dJ6_bitCount_0f7a4_9 : decode prog_17_method_49_code 9 = .ok (.istore_n 0, 1) := by decide +kernel
theorem dJ6_bitCount_0f7a4_10 : decode prog_17_method_49_code 10 = .ok (.iload_n 0, 1) := by decide +kernel
theorem dJ6_bitCount_0f7a4_11 : decode prog_17_method_49_code 11 = .ok (.ldc_w 266, 3) := by decide +kernel
theorem dJ6_bitCount_0f7a4_14 : decode prog_17_method_49_code 14 = .ok (.iand, 1) := by decide +kernel
theorem dJ6_bitCount_0f7a4_15 : decode prog_17_method_49_code 15 = .ok (.iload_n 0, 1) := by decide +kernel
theorem dJ6_bitCount_0f7a4_16 : decode prog_17_method_49_code 16 = .ok (.iconst 2, 1) := by decide +kernel
theorem dJ6_bitCount_0f7a4_17 : decode prog_17_method_49_code 17 = .ok (.iushr, 1) := by decide +kernel
theorem dJ6_bitCount_0f7a4_18 : decode prog_17_method_49_code 18 = .ok (.ldc_w 266, 3) := by decide +kernel
theorem dJ6_bitCount_0f7a4_21 : decode prog_17_method_49_code 21 = .ok (.iand, 1) := by decide +kernel
theorem dJ6_bitCount_0f7a4_22 : decode prog_17_method_49_code 22 = .ok (.iadd, 1) := by decide +kernel
theorem dJ6_bitCount_0f7a4_23 : decode prog_17_method_49_code 23 = .ok (.istore_n 0, 1) := by decide +kernel
theorem dJ6_bitCount_0f7a4_24 : decode prog_17_method_49_code 24 = .ok (.iload_n 0, 1) := by decide +kernel
theorem dJ6_bitCount_0f7a4_25 : decode prog_17_method_49_code 25 = .ok (.iload_n 0, 1) := by decide +kernel
theorem dJ6_bitCount_0f7a4_26 : decode prog_17_method_49_code 26 = .ok (.iconst 4, 1) := by decide +kernel
theorem dJ6_bitCount_0f7a4_27 : decode prog_17_method_49_code 27 = .ok (.iushr, 1) := by decide +kernel
theorem dJ6_bitCount_0f7a4_28 : decode prog_17_method_49_code 28 = .ok (.iadd, 1) := by decide +kernel
theorem dJ6_bitCount_0f7a4_29 : decode prog_17_method_49_code 29 = .ok (.ldc_w 267, 3) := by decide +kernel
theorem dJ6_bitCount_0f7a4_32 : decode prog_17_method_49_code 32 = .ok (.iand, 1) := by decide +kernel
theorem dJ6_bitCount_0f7a4_33 : decode prog_17_method_49_code 33 = .ok (.istore_n 0, 1) := by decide +kernel
theorem dJ6_bitCount_0f7a4_34 : decode prog_17_method_49_code 34 = .ok (.iload_n 0, 1) := by decide +kernel
theorem dJ6_bitCount_0f7a4_35 : decode prog_17_method_49_code 35 = .ok (.iload_n 0, 1) := by decide +kernel
theorem dJ6_bitCount_0f7a4_36 : decode prog_17_method_49_code 36 = .ok (.bipush 8, 2) := by decide +kernel
theorem dJ6_bitCount_0f7a4_38 : decode prog_17_method_49_code 38 = .ok (.iushr, 1) := by decide +kernel
theorem dJ6_bitCount_0f7a4_39 : decode prog_17_method_49_code 39 = .ok (.iadd, 1) := by decide +kernel
theorem dJ6_bitCount_0f7a4_40 : decode prog_17_method_49_code 40 = .ok (.istore_n 0, 1) := by decide +kernel
theorem dJ6_bitCount_0f7a4_41 : decode prog_17_method_49_code 41 = .ok (.iload_n 0, 1) := by decide +kernel
theorem dJ6_bitCount_0f7a4_42 : decode prog_17_method_49_code 42 = .ok (.iload_n 0, 1) := by decide +kernel
theorem dJ6_bitCount_0f7a4_43 : decode prog_17_method_49_code 43 = .ok (.bipush 16, 2) := by decide +kernel
theorem dJ6_bitCount_0f7a4_45 : decode prog_17_method_49_code 45 = .ok (.iushr, 1) := by decide +kernel
theorem dJ6_bitCount_0f7a4_46 : decode prog_17_method_49_code 46 = .ok (.iadd, 1) := by decide +kernel
theorem dJ6_bitCount_0f7a4_47 : decode prog_17_method_49_code 47 = .ok (.istore_n 0, 1) := by decide +kernel
theorem dJ6_bitCount_0f7a4_48 : decode prog_17_method_49_code 48 = .ok (.iload_n 0, 1) := by decide +kernel
theorem dJ6_bitCount_0f7a4_49 : decode prog_17_method_49_code 49 = .ok (.bipush 63, 2) := by decide +kernel
theorem dJ6_bitCount_0f7a4_51 : decode prog_17_method_49_code 51 = .ok (.iand, 1) := by decide +kernel
theorem dJ6_bitCount_0f7a4_52 : decode prog_17_method_49_code 52 = .ok (.ireturn, 1) := by decide +kernel
theorem dL_deed_0 : decode method_3_code 0 = .ok (.aload_n 1, 1) := by decide +kernel
theorem dL_deed_1 : decode method_3_code 1 = .ok (.iconst 0, 1) := by decide +kernel
theorem dL_deed_2 : decode method_3_code 2 = .ok (.aload_n 0, 1) := by decide +kernel
theorem dL_deed_3 : decode method_3_code 3 = .ok (.invokevirtual 7, 3) := by decide +kernel
theorem dL_deed_6 : decode method_3_code 6 = .ok (.i2l, 1) := by decide +kernel
theorem dL_deed_7 : decode method_3_code 7 = .ok (.lastore, 1) := by decide +kernel
theorem dL_deed_8 : decode method_3_code 8 = .ok (.goto 9, 3) := by decide +kernel
theorem dL_deed_11 : decode method_3_code 11 = .ok (.astore_n 2, 1) := by decide +kernel
theorem dL_deed_12 : decode method_3_code 12 = .ok (.iconst 1, 1) := by decide +kernel
theorem dL_deed_13 : decode method_3_code 13 = .ok (.ireturn, 1) := by decide +kernel
theorem dL_deed_14 : decode method_3_code 14 = .ok (.astore_n 2, 1) := by decide +kernel
theorem dL_deed_15 : decode method_3_code 15 = .ok (.iconst 2, 1) := by decide +kernel
theorem dL_deed_16 : decode method_3_code 16 = .ok (.ireturn, 1) := by decide +kernel
theorem dL_deed_17 : decode method_3_code 17 = .ok (.iconst 0, 1) := by decide +kernel
theorem dL_deed_18 : decode method_3_code 18 = .ok (.ireturn, 1) := by decide +kernel
theorem dJ0_length_8abf5_0 : decode prog_20_method_54_code 0 = .ok (.aload_n 0, 1) := by decide +kernel
theorem dJ0_length_8abf5_1 : decode prog_20_method_54_code 1 = .ok (.getfield 9, 3) := by decide +kernel
theorem dJ0_length_8abf5_4 : decode prog_20_method_54_code 4 = .ok (.arraylength, 1) := by decide +kernel
theorem dJ0_length_8abf5_5 : decode prog_20_method_54_code 5 = .ok (.aload_n 0, 1) := by decide +kernel
theorem dJ0_length_8abf5_6 : decode prog_20_method_54_code 6 = .ok (.invokevirtual 335, 3) := by decide +kernel
theorem dJ0_length_8abf5_9 : decode prog_20_method_54_code 9 = .ok (.ishr, 1) := by decide +kernel
theorem dJ0_length_8abf5_10 : decode prog_20_method_54_code 10 = .ok (.ireturn, 1) := by decide +kernel
theorem dJ0_coder_7d493_0 : decode prog_20_method_152_code 0 = .ok (.getstatic 38, 3) := by decide +kernel
theorem dJ0_coder_7d493_3 : decode prog_20_method_152_code 3 = .ok (.ifCond .eq 10, 3) := by decide +kernel
theorem dJ0_coder_7d493_6 : decode prog_20_method_152_code 6 = .ok (.aload_n 0, 1) := by decide +kernel
theorem dJ0_coder_7d493_7 : decode prog_20_method_152_code 7 = .ok (.getfield 15, 3) := by decide +kernel
theorem dJ0_coder_7d493_10 : decode prog_20_method_152_code 10 = .ok (.goto 4, 3) := by decide +kernel
theorem dJ0_coder_7d493_13 : decode prog_20_method_152_code 13 = .ok (.iconst 1, 1) := by decide +kernel
theorem dJ0_coder_7d493_14 : decode prog_20_method_152_code 14 = .ok (.ireturn, 1) := by decide +kernel
theorem dJ0_charAt_5068e_0 : decode prog_20_method_56_code 0 = .ok (.aload_n 0, 1) := by decide +kernel
theorem dJ0_charAt_5068e_1 : decode prog_20_method_56_code 1 = .ok (.invokevirtual 492, 3) := by decide +kernel
theorem dJ0_charAt_5068e_4 : decode prog_20_method_56_code 4 = .ok (.ifCond .eq 12, 3) := by decide +kernel
theorem dJ0_charAt_5068e_7 : decode prog_20_method_56_code 7 = .ok (.aload_n 0, 1) := by decide +kernel
theorem dJ0_charAt_5068e_8 : decode prog_20_method_56_code 8 = .ok (.getfield 9, 3) := by decide +kernel
theorem dJ0_charAt_5068e_11 : decode prog_20_method_56_code 11 = .ok (.iload_n 1, 1) := by decide +kernel
theorem dJ0_charAt_5068e_12 : decode prog_20_method_56_code 12 = .ok (.invokestatic 495, 3) := by decide +kernel
theorem dJ0_charAt_5068e_15 : decode prog_20_method_56_code 15 = .ok (.ireturn, 1) := by decide +kernel
theorem dJ0_charAt_5068e_16 : decode prog_20_method_56_code 16 = .ok (.aload_n 0, 1) := by decide +kernel
theorem dJ0_charAt_5068e_17 : decode prog_20_method_56_code 17 = .ok (.getfield 9, 3) := by decide +kernel
theorem dJ0_charAt_5068e_20 : decode prog_20_method_56_code 20 = .ok (.iload_n 1, 1) := by decide +kernel
theorem dJ0_charAt_5068e_21 : decode prog_20_method_56_code 21 = .ok (.invokestatic 498, 3) := by decide +kernel
theorem dJ0_charAt_5068e_24 : decode prog_20_method_56_code 24 = .ok (.ireturn, 1) := by decide +kernel
theorem dJ0_isLatin1_aae02_0 : decode prog_20_method_154_code 0 = .ok (.getstatic 38, 3) := by decide +kernel
theorem dJ0_isLatin1_aae02_3 : decode prog_20_method_154_code 3 = .ok (.ifCond .eq 14, 3) := by decide +kernel
theorem dJ0_isLatin1_aae02_6 : decode prog_20_method_154_code 6 = .ok (.aload_n 0, 1) := by decide +kernel
theorem dJ0_isLatin1_aae02_7 : decode prog_20_method_154_code 7 = .ok (.getfield 15, 3) := by decide +kernel
theorem dJ0_isLatin1_aae02_10 : decode prog_20_method_154_code 10 = .ok (.ifCond .ne 7, 3) := by decide +kernel
theorem dJ0_isLatin1_aae02_13 : decode prog_20_method_154_code 13 = .ok (.iconst 1, 1) := by decide +kernel
theorem dJ0_isLatin1_aae02_14 : decode prog_20_method_154_code 14 = .ok (.goto 4, 3) := by decide +kernel
theorem dJ0_isLatin1_aae02_17 : decode prog_20_method_154_code 17 = .ok (.iconst 0, 1) := by decide +kernel
theorem dJ0_isLatin1_aae02_18 : decode prog_20_method_154_code 18 = .ok (.ireturn, 1) := by decide +kernel
theorem dJ1_charAt_3b067_0 : decode prog_21_method_2_code 0 = .ok (.iload_n 1, 1) := by decide +kernel
theorem dJ1_charAt_3b067_1 : decode prog_21_method_2_code 1 = .ok (.aload_n 0, 1) := by decide +kernel
theorem dJ1_charAt_3b067_2 : decode prog_21_method_2_code 2 = .ok (.arraylength, 1) := by decide +kernel
theorem dJ1_charAt_3b067_3 : decode prog_21_method_2_code 3 = .ok (.invokestatic 9, 3) := by decide +kernel
theorem dJ1_charAt_3b067_6 : decode prog_21_method_2_code 6 = .ok (.aload_n 0, 1) := by decide +kernel
theorem dJ1_charAt_3b067_7 : decode prog_21_method_2_code 7 = .ok (.iload_n 1, 1) := by decide +kernel
theorem dJ1_charAt_3b067_8 : decode prog_21_method_2_code 8 = .ok (.baload, 1) := by decide +kernel
theorem dJ1_charAt_3b067_9 : decode prog_21_method_2_code 9 = .ok (.sipush 255, 3) := by decide +kernel
theorem dJ1_charAt_3b067_12 : decode prog_21_method_2_code 12 = .ok (.iand, 1) := by decide +kernel
theorem dJ1_charAt_3b067_13 : decode prog_21_method_2_code 13 = .ok (.i2c, 1) := by decide +kernel
theorem dJ1_charAt_3b067_14 : decode prog_21_method_2_code 14 = .ok (.ireturn, 1) := by decide +kernel
theorem dJ0_checkIndex_df160_0 : decode prog_20_method_155_code 0 = .ok (.iload_n 0, 1) := by decide +kernel
theorem dJ0_checkIndex_df160_1 : decode prog_20_method_155_code 1 = .ok (.iload_n 1, 1) := by decide +kernel
theorem dJ0_checkIndex_df160_2 : decode prog_20_method_155_code 2 = .ok (.getstatic 1053, 3) := by decide +kernel
theorem dJ0_checkIndex_df160_5 : decode prog_20_method_155_code 5 = .ok (.invokestatic 1059, 3) := by decide +kernel
theorem dJ0_checkIndex_df160_8 : decode prog_20_method_155_code 8 = .ok (.pop, 1) := by decide +kernel
theorem dJ0_checkIndex_df160_9 : decode prog_20_method_155_code 9 = .ok (.return_, 1) := by decide +kernel
theorem dJ3_checkIndex_8e157_0 : decode prog_29_method_11_code 0 = .ok (.iload_n 0, 1) := by decide +kernel
theorem dJ3_checkIndex_8e157_1 : decode prog_29_method_11_code 1 = .ok (.ifCond .lt 8, 3) := by decide +kernel
theorem dJ3_checkIndex_8e157_4 : decode prog_29_method_11_code 4 = .ok (.iload_n 0, 1) := by decide +kernel
theorem dJ3_checkIndex_8e157_5 : decode prog_29_method_11_code 5 = .ok (.iload_n 1, 1) := by decide +kernel
theorem dJ3_checkIndex_8e157_6 : decode prog_29_method_11_code 6 = .ok (.if_icmp .lt 10, 3) := by decide +kernel
theorem dJ3_checkIndex_8e157_9 : decode prog_29_method_11_code 9 = .ok (.aload_n 2, 1) := by decide +kernel
theorem dJ3_checkIndex_8e157_10 : decode prog_29_method_11_code 10 = .ok (.iload_n 0, 1) := by decide +kernel
theorem dJ3_checkIndex_8e157_11 : decode prog_29_method_11_code 11 = .ok (.iload_n 1, 1) := by decide +kernel
theorem dJ3_checkIndex_8e157_12 : decode prog_29_method_11_code 12 = .ok (.invokestatic 95, 3) := by decide +kernel
theorem dJ3_checkIndex_8e157_15 : decode prog_29_method_11_code 15 = .ok (.athrow, 1) := by decide +kernel
theorem dJ3_checkIndex_8e157_16 : decode prog_29_method_11_code 16 = .ok (.iload_n 0, 1) := by decide +kernel
theorem dJ3_checkIndex_8e157_17 : decode prog_29_method_11_code 17 = .ok (.ireturn, 1) := by decide +kernel
theorem dL_law_0 : decode method_4_code 0 = .ok (.aload_n 1, 1) := by decide +kernel
theorem dL_law_1 : decode method_4_code 1 = .ok (.iconst 0, 1) := by decide +kernel
theorem dL_law_2 : decode method_4_code 2 = .ok (.aload_n 0, 1) := by decide +kernel
theorem dL_law_3 : decode method_4_code 3 = .ok (.invokevirtual 17, 3) := by decide +kernel
theorem dL_law_6 : decode method_4_code 6 = .ok (.i2l, 1) := by decide +kernel
theorem dL_law_7 : decode method_4_code 7 = .ok (.lastore, 1) := by decide +kernel
theorem dL_law_8 : decode method_4_code 8 = .ok (.goto 6, 3) := by decide +kernel
theorem dL_law_11 : decode method_4_code 11 = .ok (.astore_n 2, 1) := by decide +kernel
theorem dL_law_12 : decode method_4_code 12 = .ok (.iconst 1, 1) := by decide +kernel
theorem dL_law_13 : decode method_4_code 13 = .ok (.ireturn, 1) := by decide +kernel
theorem dL_law_14 : decode method_4_code 14 = .ok (.iconst 0, 1) := by decide +kernel
theorem dL_law_15 : decode method_4_code 15 = .ok (.ireturn, 1) := by decide +kernel
theorem dL_item_0 : decode method_5_code 0 = .ok (.aload_n 3, 1) := by decide +kernel
theorem dL_item_1 : decode method_5_code 1 = .ok (.iconst 0, 1) := by decide +kernel
theorem dL_item_2 : decode method_5_code 2 = .ok (.aload_n 0, 1) := by decide +kernel
theorem dL_item_3 : decode method_5_code 3 = .ok (.iload_n 1, 1) := by decide +kernel
theorem dL_item_4 : decode method_5_code 4 = .ok (.iload_n 2, 1) := by decide +kernel
theorem dL_item_5 : decode method_5_code 5 = .ok (.invokevirtual 20, 3) := by decide +kernel
theorem dL_item_8 : decode method_5_code 8 = .ok (.i2l, 1) := by decide +kernel
theorem dL_item_9 : decode method_5_code 9 = .ok (.lastore, 1) := by decide +kernel
theorem dL_item_10 : decode method_5_code 10 = .ok (.goto 11, 3) := by decide +kernel
theorem dL_item_13 : decode method_5_code 13 = .ok (.astore 4, 2) := by decide +kernel
theorem dL_item_15 : decode method_5_code 15 = .ok (.iconst 1, 1) := by decide +kernel
theorem dL_item_16 : decode method_5_code 16 = .ok (.ireturn, 1) := by decide +kernel
theorem dL_item_17 : decode method_5_code 17 = .ok (.astore 4, 2) := by decide +kernel
theorem dL_item_19 : decode method_5_code 19 = .ok (.iconst 2, 1) := by decide +kernel
theorem dL_item_20 : decode method_5_code 20 = .ok (.ireturn, 1) := by decide +kernel
theorem dL_item_21 : decode method_5_code 21 = .ok (.iconst 0, 1) := by decide +kernel
theorem dL_item_22 : decode method_5_code 22 = .ok (.ireturn, 1) := by decide +kernel
theorem dL_room_0 : decode method_6_code 0 = .ok (.aload_n 3, 1) := by decide +kernel
theorem dL_room_1 : decode method_6_code 1 = .ok (.iconst 0, 1) := by decide +kernel
theorem dL_room_2 : decode method_6_code 2 = .ok (.aload_n 0, 1) := by decide +kernel
theorem dL_room_3 : decode method_6_code 3 = .ok (.iload_n 1, 1) := by decide +kernel
theorem dL_room_4 : decode method_6_code 4 = .ok (.iload_n 2, 1) := by decide +kernel
theorem dL_room_5 : decode method_6_code 5 = .ok (.invokevirtual 28, 3) := by decide +kernel
theorem dL_room_8 : decode method_6_code 8 = .ok (.i2l, 1) := by decide +kernel
theorem dL_room_9 : decode method_6_code 9 = .ok (.lastore, 1) := by decide +kernel
theorem dL_room_10 : decode method_6_code 10 = .ok (.goto 11, 3) := by decide +kernel
theorem dL_room_13 : decode method_6_code 13 = .ok (.astore 4, 2) := by decide +kernel
theorem dL_room_15 : decode method_6_code 15 = .ok (.iconst 1, 1) := by decide +kernel
theorem dL_room_16 : decode method_6_code 16 = .ok (.ireturn, 1) := by decide +kernel
theorem dL_room_17 : decode method_6_code 17 = .ok (.astore 4, 2) := by decide +kernel
theorem dL_room_19 : decode method_6_code 19 = .ok (.iconst 2, 1) := by decide +kernel
theorem dL_room_20 : decode method_6_code 20 = .ok (.ireturn, 1) := by decide +kernel
theorem dL_room_21 : decode method_6_code 21 = .ok (.iconst 0, 1) := by decide +kernel
theorem dL_room_22 : decode method_6_code 22 = .ok (.ireturn, 1) := by decide +kernel
theorem dL_side_0 : decode method_7_code 0 = .ok (.aload_n 3, 1) := by decide +kernel
theorem dL_side_1 : decode method_7_code 1 = .ok (.iconst 0, 1) := by decide +kernel
theorem dL_side_2 : decode method_7_code 2 = .ok (.aload_n 0, 1) := by decide +kernel
theorem dL_side_3 : decode method_7_code 3 = .ok (.iload_n 1, 1) := by decide +kernel
theorem dL_side_4 : decode method_7_code 4 = .ok (.iload_n 2, 1) := by decide +kernel
theorem dL_side_5 : decode method_7_code 5 = .ok (.invokevirtual 31, 3) := by decide +kernel
theorem dL_side_8 : decode method_7_code 8 = .ok (.i2l, 1) := by decide +kernel
theorem dL_side_9 : decode method_7_code 9 = .ok (.lastore, 1) := by decide +kernel
theorem dL_side_10 : decode method_7_code 10 = .ok (.goto 11, 3) := by decide +kernel
theorem dL_side_13 : decode method_7_code 13 = .ok (.astore 4, 2) := by decide +kernel
theorem dL_side_15 : decode method_7_code 15 = .ok (.iconst 1, 1) := by decide +kernel
theorem dL_side_16 : decode method_7_code 16 = .ok (.ireturn, 1) := by decide +kernel
theorem dL_side_17 : decode method_7_code 17 = .ok (.astore 4, 2) := by decide +kernel
theorem dL_side_19 : decode method_7_code 19 = .ok (.iconst 2, 1) := by decide +kernel
theorem dL_side_20 : decode method_7_code 20 = .ok (.ireturn, 1) := by decide +kernel
theorem dL_side_21 : decode method_7_code 21 = .ok (.iconst 0, 1) := by decide +kernel
theorem dL_side_22 : decode method_7_code 22 = .ok (.ireturn, 1) := by decide +kernel
theorem dL_does_0 : decode method_8_code 0 = .ok (.aload_n 3, 1) := by decide +kernel
theorem dL_does_1 : decode method_8_code 1 = .ok (.iconst 0, 1) := by decide +kernel
theorem dL_does_2 : decode method_8_code 2 = .ok (.aload_n 0, 1) := by decide +kernel
theorem dL_does_3 : decode method_8_code 3 = .ok (.iload_n 1, 1) := by decide +kernel
theorem dL_does_4 : decode method_8_code 4 = .ok (.iload_n 2, 1) := by decide +kernel
theorem dL_does_5 : decode method_8_code 5 = .ok (.invokevirtual 34, 3) := by decide +kernel
theorem dL_does_8 : decode method_8_code 8 = .ok (.i2l, 1) := by decide +kernel
theorem dL_does_9 : decode method_8_code 9 = .ok (.lastore, 1) := by decide +kernel
theorem dL_does_10 : decode method_8_code 10 = .ok (.goto 11, 3) := by decide +kernel
theorem dL_does_13 : decode method_8_code 13 = .ok (.astore 4, 2) := by decide +kernel
theorem dL_does_15 : decode method_8_code 15 = .ok (.iconst 1, 1) := by decide +kernel
theorem dL_does_16 : decode method_8_code 16 = .ok (.ireturn, 1) := by decide +kernel
theorem dL_does_17 : decode method_8_code 17 = .ok (.astore 4, 2) := by decide +kernel
theorem dL_does_19 : decode method_8_code 19 = .ok (.iconst 2, 1) := by decide +kernel
theorem dL_does_20 : decode method_8_code 20 = .ok (.ireturn, 1) := by decide +kernel
theorem dL_does_21 : decode method_8_code 21 = .ok (.iconst 0, 1) := by decide +kernel
theorem dL_does_22 : decode method_8_code 22 = .ok (.ireturn, 1) := by decide +kernel
theorem dL_steps_0 : decode method_9_code 0 = .ok (.aload_n 3, 1) := by decide +kernel
theorem dL_steps_1 : decode method_9_code 1 = .ok (.iconst 0, 1) := by decide +kernel
theorem dL_steps_2 : decode method_9_code 2 = .ok (.aload_n 0, 1) := by decide +kernel
theorem dL_steps_3 : decode method_9_code 3 = .ok (.iload_n 1, 1) := by decide +kernel
theorem dL_steps_4 : decode method_9_code 4 = .ok (.iload_n 2, 1) := by decide +kernel
theorem dL_steps_5 : decode method_9_code 5 = .ok (.invokevirtual 37, 3) := by decide +kernel
theorem dL_steps_8 : decode method_9_code 8 = .ok (.i2l, 1) := by decide +kernel
theorem dL_steps_9 : decode method_9_code 9 = .ok (.lastore, 1) := by decide +kernel
theorem dL_steps_10 : decode method_9_code 10 = .ok (.goto 7, 3) := by decide +kernel
theorem dL_steps_13 : decode method_9_code 13 = .ok (.astore 4, 2) := by decide +kernel
theorem dL_steps_15 : decode method_9_code 15 = .ok (.iconst 1, 1) := by decide +kernel
theorem dL_steps_16 : decode method_9_code 16 = .ok (.ireturn, 1) := by decide +kernel
theorem dL_steps_17 : decode method_9_code 17 = .ok (.iconst 0, 1) := by decide +kernel
theorem dL_steps_18 : decode method_9_code 18 = .ok (.ireturn, 1) := by decide +kernel
theorem dL_carry_0 : decode method_10_code 0 = .ok (.aload_n 3, 1) := by decide +kernel
theorem dL_carry_1 : decode method_10_code 1 = .ok (.iconst 0, 1) := by decide +kernel
theorem dL_carry_2 : decode method_10_code 2 = .ok (.aload_n 0, 1) := by decide +kernel
theorem dL_carry_3 : decode method_10_code 3 = .ok (.iload_n 1, 1) := by decide +kernel
theorem dL_carry_4 : decode method_10_code 4 = .ok (.iload_n 2, 1) := by decide +kernel
theorem dL_carry_5 : decode method_10_code 5 = .ok (.invokevirtual 40, 3) := by decide +kernel
theorem dL_carry_8 : decode method_10_code 8 = .ok (.i2l, 1) := by decide +kernel
theorem dL_carry_9 : decode method_10_code 9 = .ok (.lastore, 1) := by decide +kernel
theorem dL_carry_10 : decode method_10_code 10 = .ok (.goto 7, 3) := by decide +kernel
theorem dL_carry_13 : decode method_10_code 13 = .ok (.astore 4, 2) := by decide +kernel
theorem dL_carry_15 : decode method_10_code 15 = .ok (.iconst 1, 1) := by decide +kernel
theorem dL_carry_16 : decode method_10_code 16 = .ok (.ireturn, 1) := by decide +kernel
theorem dL_carry_17 : decode method_10_code 17 = .ok (.iconst 0, 1) := by decide +kernel
theorem dL_carry_18 : decode method_10_code 18 = .ok (.ireturn, 1) := by decide +kernel
theorem dL_mend_0 : decode method_11_code 0 = .ok (.aload_n 2, 1) := by decide +kernel
theorem dL_mend_1 : decode method_11_code 1 = .ok (.iconst 0, 1) := by decide +kernel
theorem dL_mend_2 : decode method_11_code 2 = .ok (.aload_n 0, 1) := by decide +kernel
theorem dL_mend_3 : decode method_11_code 3 = .ok (.iload_n 1, 1) := by decide +kernel
theorem dL_mend_4 : decode method_11_code 4 = .ok (.invokevirtual 43, 3) := by decide +kernel
theorem dL_mend_7 : decode method_11_code 7 = .ok (.i2l, 1) := by decide +kernel
theorem dL_mend_8 : decode method_11_code 8 = .ok (.lastore, 1) := by decide +kernel
theorem dL_mend_9 : decode method_11_code 9 = .ok (.goto 6, 3) := by decide +kernel
theorem dL_mend_12 : decode method_11_code 12 = .ok (.astore_n 3, 1) := by decide +kernel
theorem dL_mend_13 : decode method_11_code 13 = .ok (.iconst 1, 1) := by decide +kernel
theorem dL_mend_14 : decode method_11_code 14 = .ok (.ireturn, 1) := by decide +kernel
theorem dL_mend_15 : decode method_11_code 15 = .ok (.iconst 0, 1) := by decide +kernel
theorem dL_mend_16 : decode method_11_code 16 = .ok (.ireturn, 1) := by decide +kernel
theorem dL_sweep_0 : decode method_12_code 0 = .ok (.aload_n 2, 1) := by decide +kernel
theorem dL_sweep_1 : decode method_12_code 1 = .ok (.iconst 0, 1) := by decide +kernel
theorem dL_sweep_2 : decode method_12_code 2 = .ok (.aload_n 0, 1) := by decide +kernel
theorem dL_sweep_3 : decode method_12_code 3 = .ok (.iload_n 1, 1) := by decide +kernel
theorem dL_sweep_4 : decode method_12_code 4 = .ok (.invokevirtual 47, 3) := by decide +kernel
theorem dL_sweep_7 : decode method_12_code 7 = .ok (.i2l, 1) := by decide +kernel
theorem dL_sweep_8 : decode method_12_code 8 = .ok (.lastore, 1) := by decide +kernel
theorem dL_sweep_9 : decode method_12_code 9 = .ok (.goto 6, 3) := by decide +kernel
theorem dL_sweep_12 : decode method_12_code 12 = .ok (.astore_n 3, 1) := by decide +kernel
theorem dL_sweep_13 : decode method_12_code 13 = .ok (.iconst 1, 1) := by decide +kernel
theorem dL_sweep_14 : decode method_12_code 14 = .ok (.ireturn, 1) := by decide +kernel
theorem dL_sweep_15 : decode method_12_code 15 = .ok (.iconst 0, 1) := by decide +kernel
theorem dL_sweep_16 : decode method_12_code 16 = .ok (.ireturn, 1) := by decide +kernel
theorem dL_pay_0 : decode method_13_code 0 = .ok (.aload_n 3, 1) := by decide +kernel
theorem dL_pay_1 : decode method_13_code 1 = .ok (.iconst 0, 1) := by decide +kernel
theorem dL_pay_2 : decode method_13_code 2 = .ok (.aload_n 0, 1) := by decide +kernel
theorem dL_pay_3 : decode method_13_code 3 = .ok (.iload_n 1, 1) := by decide +kernel
theorem dL_pay_4 : decode method_13_code 4 = .ok (.iload_n 2, 1) := by decide +kernel
theorem dL_pay_5 : decode method_13_code 5 = .ok (.invokevirtual 50, 3) := by decide +kernel
theorem dL_pay_8 : decode method_13_code 8 = .ok (.i2l, 1) := by decide +kernel
theorem dL_pay_9 : decode method_13_code 9 = .ok (.lastore, 1) := by decide +kernel
theorem dL_pay_10 : decode method_13_code 10 = .ok (.goto 11, 3) := by decide +kernel
theorem dL_pay_13 : decode method_13_code 13 = .ok (.astore 4, 2) := by decide +kernel
theorem dL_pay_15 : decode method_13_code 15 = .ok (.iconst 1, 1) := by decide +kernel
theorem dL_pay_16 : decode method_13_code 16 = .ok (.ireturn, 1) := by decide +kernel
theorem dL_pay_17 : decode method_13_code 17 = .ok (.astore 4, 2) := by decide +kernel
theorem dL_pay_19 : decode method_13_code 19 = .ok (.iconst 2, 1) := by decide +kernel
theorem dL_pay_20 : decode method_13_code 20 = .ok (.ireturn, 1) := by decide +kernel
theorem dL_pay_21 : decode method_13_code 21 = .ok (.iconst 0, 1) := by decide +kernel
theorem dL_pay_22 : decode method_13_code 22 = .ok (.ireturn, 1) := by decide +kernel
theorem dL_days_0 : decode method_14_code 0 = .ok (.aload_n 2, 1) := by decide +kernel
theorem dL_days_1 : decode method_14_code 1 = .ok (.iconst 0, 1) := by decide +kernel
theorem dL_days_2 : decode method_14_code 2 = .ok (.aload_n 0, 1) := by decide +kernel
theorem dL_days_3 : decode method_14_code 3 = .ok (.iload_n 1, 1) := by decide +kernel
theorem dL_days_4 : decode method_14_code 4 = .ok (.invokevirtual 53, 3) := by decide +kernel
theorem dL_days_7 : decode method_14_code 7 = .ok (.i2l, 1) := by decide +kernel
theorem dL_days_8 : decode method_14_code 8 = .ok (.lastore, 1) := by decide +kernel
theorem dL_days_9 : decode method_14_code 9 = .ok (.goto 6, 3) := by decide +kernel
theorem dL_days_12 : decode method_14_code 12 = .ok (.astore_n 3, 1) := by decide +kernel
theorem dL_days_13 : decode method_14_code 13 = .ok (.iconst 1, 1) := by decide +kernel
theorem dL_days_14 : decode method_14_code 14 = .ok (.ireturn, 1) := by decide +kernel
theorem dL_days_15 : decode method_14_code 15 = .ok (.iconst 0, 1) := by decide +kernel
theorem dL_days_16 : decode method_14_code 16 = .ok (.ireturn, 1) := by decide +kernel
theorem dL_ahead_0 : decode method_15_code 0 = .ok (.aload 4, 2) := by decide +kernel
theorem dL_ahead_2 : decode method_15_code 2 = .ok (.iconst 0, 1) := by decide +kernel
theorem dL_ahead_3 : decode method_15_code 3 = .ok (.aload_n 0, 1) := by decide +kernel
theorem dL_ahead_4 : decode method_15_code 4 = .ok (.iload_n 1, 1) := by decide +kernel
theorem dL_ahead_5 : decode method_15_code 5 = .ok (.iload_n 2, 1) := by decide +kernel
theorem dL_ahead_6 : decode method_15_code 6 = .ok (.iload_n 3, 1) := by decide +kernel
theorem dL_ahead_7 : decode method_15_code 7 = .ok (.invokevirtual 56, 3) := by decide +kernel
theorem dL_ahead_10 : decode method_15_code 10 = .ok (.i2l, 1) := by decide +kernel
theorem dL_ahead_11 : decode method_15_code 11 = .ok (.lastore, 1) := by decide +kernel
theorem dL_ahead_12 : decode method_15_code 12 = .ok (.goto 15, 3) := by decide +kernel
theorem dL_ahead_15 : decode method_15_code 15 = .ok (.astore 5, 2) := by decide +kernel
theorem dL_ahead_17 : decode method_15_code 17 = .ok (.iconst 1, 1) := by decide +kernel
theorem dL_ahead_18 : decode method_15_code 18 = .ok (.ireturn, 1) := by decide +kernel
theorem dL_ahead_19 : decode method_15_code 19 = .ok (.astore 5, 2) := by decide +kernel
theorem dL_ahead_21 : decode method_15_code 21 = .ok (.iconst 2, 1) := by decide +kernel
theorem dL_ahead_22 : decode method_15_code 22 = .ok (.ireturn, 1) := by decide +kernel
theorem dL_ahead_23 : decode method_15_code 23 = .ok (.astore 5, 2) := by decide +kernel
theorem dL_ahead_25 : decode method_15_code 25 = .ok (.iconst 3, 1) := by decide +kernel
theorem dL_ahead_26 : decode method_15_code 26 = .ok (.ireturn, 1) := by decide +kernel
theorem dL_ahead_27 : decode method_15_code 27 = .ok (.iconst 0, 1) := by decide +kernel
theorem dL_ahead_28 : decode method_15_code 28 = .ok (.ireturn, 1) := by decide +kernel
theorem dL_worst_0 : decode method_16_code 0 = .ok (.aload_n 2, 1) := by decide +kernel
theorem dL_worst_1 : decode method_16_code 1 = .ok (.iconst 0, 1) := by decide +kernel
theorem dL_worst_2 : decode method_16_code 2 = .ok (.aload_n 0, 1) := by decide +kernel
theorem dL_worst_3 : decode method_16_code 3 = .ok (.iload_n 1, 1) := by decide +kernel
theorem dL_worst_4 : decode method_16_code 4 = .ok (.invokevirtual 60, 3) := by decide +kernel
theorem dL_worst_7 : decode method_16_code 7 = .ok (.i2l, 1) := by decide +kernel
theorem dL_worst_8 : decode method_16_code 8 = .ok (.lastore, 1) := by decide +kernel
theorem dL_worst_9 : decode method_16_code 9 = .ok (.goto 6, 3) := by decide +kernel
theorem dL_worst_12 : decode method_16_code 12 = .ok (.astore_n 3, 1) := by decide +kernel
theorem dL_worst_13 : decode method_16_code 13 = .ok (.iconst 1, 1) := by decide +kernel
theorem dL_worst_14 : decode method_16_code 14 = .ok (.ireturn, 1) := by decide +kernel
theorem dL_worst_15 : decode method_16_code 15 = .ok (.iconst 0, 1) := by decide +kernel
theorem dL_worst_16 : decode method_16_code 16 = .ok (.ireturn, 1) := by decide +kernel
theorem dL_saves_0 : decode method_17_code 0 = .ok (.aload_n 3, 1) := by decide +kernel
theorem dL_saves_1 : decode method_17_code 1 = .ok (.iconst 0, 1) := by decide +kernel
theorem dL_saves_2 : decode method_17_code 2 = .ok (.aload_n 0, 1) := by decide +kernel
theorem dL_saves_3 : decode method_17_code 3 = .ok (.iload_n 1, 1) := by decide +kernel
theorem dL_saves_4 : decode method_17_code 4 = .ok (.iload_n 2, 1) := by decide +kernel
theorem dL_saves_5 : decode method_17_code 5 = .ok (.invokevirtual 63, 3) := by decide +kernel
theorem dL_saves_8 : decode method_17_code 8 = .ok (.i2l, 1) := by decide +kernel
theorem dL_saves_9 : decode method_17_code 9 = .ok (.lastore, 1) := by decide +kernel
theorem dL_saves_10 : decode method_17_code 10 = .ok (.goto 7, 3) := by decide +kernel
theorem dL_saves_13 : decode method_17_code 13 = .ok (.astore 4, 2) := by decide +kernel
theorem dL_saves_15 : decode method_17_code 15 = .ok (.iconst 1, 1) := by decide +kernel
theorem dL_saves_16 : decode method_17_code 16 = .ok (.ireturn, 1) := by decide +kernel
theorem dL_saves_17 : decode method_17_code 17 = .ok (.iconst 0, 1) := by decide +kernel
theorem dL_saves_18 : decode method_17_code 18 = .ok (.ireturn, 1) := by decide +kernel
theorem dL_calm_0 : decode method_18_code 0 = .ok (.aload_n 3, 1) := by decide +kernel
theorem dL_calm_1 : decode method_18_code 1 = .ok (.iconst 0, 1) := by decide +kernel
theorem dL_calm_2 : decode method_18_code 2 = .ok (.aload_n 0, 1) := by decide +kernel
theorem dL_calm_3 : decode method_18_code 3 = .ok (.iload_n 1, 1) := by decide +kernel
theorem dL_calm_4 : decode method_18_code 4 = .ok (.iload_n 2, 1) := by decide +kernel
theorem dL_calm_5 : decode method_18_code 5 = .ok (.invokevirtual 67, 3) := by decide +kernel
theorem dL_calm_8 : decode method_18_code 8 = .ok (.i2l, 1) := by decide +kernel
theorem dL_calm_9 : decode method_18_code 9 = .ok (.lastore, 1) := by decide +kernel
theorem dL_calm_10 : decode method_18_code 10 = .ok (.goto 7, 3) := by decide +kernel
theorem dL_calm_13 : decode method_18_code 13 = .ok (.astore 4, 2) := by decide +kernel
theorem dL_calm_15 : decode method_18_code 15 = .ok (.iconst 1, 1) := by decide +kernel
theorem dL_calm_16 : decode method_18_code 16 = .ok (.ireturn, 1) := by decide +kernel
theorem dL_calm_17 : decode method_18_code 17 = .ok (.iconst 0, 1) := by decide +kernel
theorem dL_calm_18 : decode method_18_code 18 = .ok (.ireturn, 1) := by decide +kernel
theorem dL_boats_0 : decode method_19_code 0 = .ok (.aload 4, 2) := by decide +kernel
theorem dL_boats_2 : decode method_19_code 2 = .ok (.iconst 0, 1) := by decide +kernel
theorem dL_boats_3 : decode method_19_code 3 = .ok (.aload_n 0, 1) := by decide +kernel
theorem dL_boats_4 : decode method_19_code 4 = .ok (.iload_n 1, 1) := by decide +kernel
theorem dL_boats_5 : decode method_19_code 5 = .ok (.iload_n 2, 1) := by decide +kernel
theorem dL_boats_6 : decode method_19_code 6 = .ok (.iload_n 3, 1) := by decide +kernel
theorem dL_boats_7 : decode method_19_code 7 = .ok (.invokevirtual 70, 3) := by decide +kernel
theorem dL_boats_10 : decode method_19_code 10 = .ok (.i2l, 1) := by decide +kernel
theorem dL_boats_11 : decode method_19_code 11 = .ok (.lastore, 1) := by decide +kernel
theorem dL_boats_12 : decode method_19_code 12 = .ok (.goto 7, 3) := by decide +kernel
theorem dL_boats_15 : decode method_19_code 15 = .ok (.astore 5, 2) := by decide +kernel
theorem dL_boats_17 : decode method_19_code 17 = .ok (.iconst 1, 1) := by decide +kernel
theorem dL_boats_18 : decode method_19_code 18 = .ok (.ireturn, 1) := by decide +kernel
theorem dL_boats_19 : decode method_19_code 19 = .ok (.iconst 0, 1) := by decide +kernel
theorem dL_boats_20 : decode method_19_code 20 = .ok (.ireturn, 1) := by decide +kernel
theorem dL_lighten_0 : decode method_20_code 0 = .ok (.aload_n 2, 1) := by decide +kernel
theorem dL_lighten_1 : decode method_20_code 1 = .ok (.iconst 0, 1) := by decide +kernel
theorem dL_lighten_2 : decode method_20_code 2 = .ok (.aload_n 0, 1) := by decide +kernel
theorem dL_lighten_3 : decode method_20_code 3 = .ok (.iload_n 1, 1) := by decide +kernel
theorem dL_lighten_4 : decode method_20_code 4 = .ok (.invokevirtual 73, 3) := by decide +kernel
theorem dL_lighten_7 : decode method_20_code 7 = .ok (.i2l, 1) := by decide +kernel
theorem dL_lighten_8 : decode method_20_code 8 = .ok (.lastore, 1) := by decide +kernel
theorem dL_lighten_9 : decode method_20_code 9 = .ok (.goto 6, 3) := by decide +kernel
theorem dL_lighten_12 : decode method_20_code 12 = .ok (.astore_n 3, 1) := by decide +kernel
theorem dL_lighten_13 : decode method_20_code 13 = .ok (.iconst 1, 1) := by decide +kernel
theorem dL_lighten_14 : decode method_20_code 14 = .ok (.ireturn, 1) := by decide +kernel
theorem dL_lighten_15 : decode method_20_code 15 = .ok (.iconst 0, 1) := by decide +kernel
theorem dL_lighten_16 : decode method_20_code 16 = .ok (.ireturn, 1) := by decide +kernel
theorem dL_wearing_0 : decode method_21_code 0 = .ok (.aload_n 2, 1) := by decide +kernel
theorem dL_wearing_1 : decode method_21_code 1 = .ok (.iconst 0, 1) := by decide +kernel
theorem dL_wearing_2 : decode method_21_code 2 = .ok (.aload_n 0, 1) := by decide +kernel
theorem dL_wearing_3 : decode method_21_code 3 = .ok (.iload_n 1, 1) := by decide +kernel
theorem dL_wearing_4 : decode method_21_code 4 = .ok (.invokevirtual 76, 3) := by decide +kernel
theorem dL_wearing_7 : decode method_21_code 7 = .ok (.i2l, 1) := by decide +kernel
theorem dL_wearing_8 : decode method_21_code 8 = .ok (.lastore, 1) := by decide +kernel
theorem dL_wearing_9 : decode method_21_code 9 = .ok (.goto 6, 3) := by decide +kernel
theorem dL_wearing_12 : decode method_21_code 12 = .ok (.astore_n 3, 1) := by decide +kernel
theorem dL_wearing_13 : decode method_21_code 13 = .ok (.iconst 1, 1) := by decide +kernel
theorem dL_wearing_14 : decode method_21_code 14 = .ok (.ireturn, 1) := by decide +kernel
theorem dL_wearing_15 : decode method_21_code 15 = .ok (.iconst 0, 1) := by decide +kernel
theorem dL_wearing_16 : decode method_21_code 16 = .ok (.ireturn, 1) := by decide +kernel
theorem dL_meets_0 : decode method_22_code 0 = .ok (.aload_n 3, 1) := by decide +kernel
theorem dL_meets_1 : decode method_22_code 1 = .ok (.iconst 0, 1) := by decide +kernel
theorem dL_meets_2 : decode method_22_code 2 = .ok (.aload_n 0, 1) := by decide +kernel
theorem dL_meets_3 : decode method_22_code 3 = .ok (.iload_n 1, 1) := by decide +kernel
theorem dL_meets_4 : decode method_22_code 4 = .ok (.iload_n 2, 1) := by decide +kernel
theorem dL_meets_5 : decode method_22_code 5 = .ok (.invokevirtual 79, 3) := by decide +kernel
theorem dL_meets_8 : decode method_22_code 8 = .ok (.i2l, 1) := by decide +kernel
theorem dL_meets_9 : decode method_22_code 9 = .ok (.lastore, 1) := by decide +kernel
theorem dL_meets_10 : decode method_22_code 10 = .ok (.goto 11, 3) := by decide +kernel
theorem dL_meets_13 : decode method_22_code 13 = .ok (.astore 4, 2) := by decide +kernel
theorem dL_meets_15 : decode method_22_code 15 = .ok (.iconst 1, 1) := by decide +kernel
theorem dL_meets_16 : decode method_22_code 16 = .ok (.ireturn, 1) := by decide +kernel
theorem dL_meets_17 : decode method_22_code 17 = .ok (.astore 4, 2) := by decide +kernel
theorem dL_meets_19 : decode method_22_code 19 = .ok (.iconst 2, 1) := by decide +kernel
theorem dL_meets_20 : decode method_22_code 20 = .ok (.ireturn, 1) := by decide +kernel
theorem dL_meets_21 : decode method_22_code 21 = .ok (.iconst 0, 1) := by decide +kernel
theorem dL_meets_22 : decode method_22_code 22 = .ok (.ireturn, 1) := by decide +kernel
theorem dL_visits_0 : decode method_23_code 0 = .ok (.aload_n 3, 1) := by decide +kernel
theorem dL_visits_1 : decode method_23_code 1 = .ok (.iconst 0, 1) := by decide +kernel
theorem dL_visits_2 : decode method_23_code 2 = .ok (.aload_n 0, 1) := by decide +kernel
theorem dL_visits_3 : decode method_23_code 3 = .ok (.iload_n 1, 1) := by decide +kernel
theorem dL_visits_4 : decode method_23_code 4 = .ok (.iload_n 2, 1) := by decide +kernel
theorem dL_visits_5 : decode method_23_code 5 = .ok (.invokevirtual 82, 3) := by decide +kernel
theorem dL_visits_8 : decode method_23_code 8 = .ok (.i2l, 1) := by decide +kernel
theorem dL_visits_9 : decode method_23_code 9 = .ok (.lastore, 1) := by decide +kernel
theorem dL_visits_10 : decode method_23_code 10 = .ok (.goto 11, 3) := by decide +kernel
theorem dL_visits_13 : decode method_23_code 13 = .ok (.astore 4, 2) := by decide +kernel
theorem dL_visits_15 : decode method_23_code 15 = .ok (.iconst 1, 1) := by decide +kernel
theorem dL_visits_16 : decode method_23_code 16 = .ok (.ireturn, 1) := by decide +kernel
theorem dL_visits_17 : decode method_23_code 17 = .ok (.astore 4, 2) := by decide +kernel
theorem dL_visits_19 : decode method_23_code 19 = .ok (.iconst 2, 1) := by decide +kernel
theorem dL_visits_20 : decode method_23_code 20 = .ok (.ireturn, 1) := by decide +kernel
theorem dL_visits_21 : decode method_23_code 21 = .ok (.iconst 0, 1) := by decide +kernel
theorem dL_visits_22 : decode method_23_code 22 = .ok (.ireturn, 1) := by decide +kernel
theorem dL_crowd_0 : decode method_24_code 0 = .ok (.aload_n 2, 1) := by decide +kernel
theorem dL_crowd_1 : decode method_24_code 1 = .ok (.iconst 0, 1) := by decide +kernel
theorem dL_crowd_2 : decode method_24_code 2 = .ok (.aload_n 0, 1) := by decide +kernel
theorem dL_crowd_3 : decode method_24_code 3 = .ok (.iload_n 1, 1) := by decide +kernel
theorem dL_crowd_4 : decode method_24_code 4 = .ok (.invokevirtual 85, 3) := by decide +kernel
theorem dL_crowd_7 : decode method_24_code 7 = .ok (.i2l, 1) := by decide +kernel
theorem dL_crowd_8 : decode method_24_code 8 = .ok (.lastore, 1) := by decide +kernel
theorem dL_crowd_9 : decode method_24_code 9 = .ok (.goto 6, 3) := by decide +kernel
theorem dL_crowd_12 : decode method_24_code 12 = .ok (.astore_n 3, 1) := by decide +kernel
theorem dL_crowd_13 : decode method_24_code 13 = .ok (.iconst 1, 1) := by decide +kernel
theorem dL_crowd_14 : decode method_24_code 14 = .ok (.ireturn, 1) := by decide +kernel
theorem dL_crowd_15 : decode method_24_code 15 = .ok (.iconst 0, 1) := by decide +kernel
theorem dL_crowd_16 : decode method_24_code 16 = .ok (.ireturn, 1) := by decide +kernel
theorem dL_stays_0 : decode method_25_code 0 = .ok (.aload_n 2, 1) := by decide +kernel
theorem dL_stays_1 : decode method_25_code 1 = .ok (.iconst 0, 1) := by decide +kernel
theorem dL_stays_2 : decode method_25_code 2 = .ok (.aload_n 0, 1) := by decide +kernel
theorem dL_stays_3 : decode method_25_code 3 = .ok (.iload_n 1, 1) := by decide +kernel
theorem dL_stays_4 : decode method_25_code 4 = .ok (.invokevirtual 88, 3) := by decide +kernel
theorem dL_stays_7 : decode method_25_code 7 = .ok (.i2l, 1) := by decide +kernel
theorem dL_stays_8 : decode method_25_code 8 = .ok (.lastore, 1) := by decide +kernel
theorem dL_stays_9 : decode method_25_code 9 = .ok (.goto 6, 3) := by decide +kernel
theorem dL_stays_12 : decode method_25_code 12 = .ok (.astore_n 3, 1) := by decide +kernel
theorem dL_stays_13 : decode method_25_code 13 = .ok (.iconst 1, 1) := by decide +kernel
theorem dL_stays_14 : decode method_25_code 14 = .ok (.ireturn, 1) := by decide +kernel
theorem dL_stays_15 : decode method_25_code 15 = .ok (.iconst 0, 1) := by decide +kernel
theorem dL_stays_16 : decode method_25_code 16 = .ok (.ireturn, 1) := by decide +kernel
theorem dL_traces_0 : decode method_26_code 0 = .ok (.aload_n 2, 1) := by decide +kernel
theorem dL_traces_1 : decode method_26_code 1 = .ok (.iconst 0, 1) := by decide +kernel
theorem dL_traces_2 : decode method_26_code 2 = .ok (.aload_n 0, 1) := by decide +kernel
theorem dL_traces_3 : decode method_26_code 3 = .ok (.iload_n 1, 1) := by decide +kernel
theorem dL_traces_4 : decode method_26_code 4 = .ok (.invokevirtual 91, 3) := by decide +kernel
theorem dL_traces_7 : decode method_26_code 7 = .ok (.i2l, 1) := by decide +kernel
theorem dL_traces_8 : decode method_26_code 8 = .ok (.lastore, 1) := by decide +kernel
theorem dL_traces_9 : decode method_26_code 9 = .ok (.goto 6, 3) := by decide +kernel
theorem dL_traces_12 : decode method_26_code 12 = .ok (.astore_n 3, 1) := by decide +kernel
theorem dL_traces_13 : decode method_26_code 13 = .ok (.iconst 1, 1) := by decide +kernel
theorem dL_traces_14 : decode method_26_code 14 = .ok (.ireturn, 1) := by decide +kernel
theorem dL_traces_15 : decode method_26_code 15 = .ok (.iconst 0, 1) := by decide +kernel
theorem dL_traces_16 : decode method_26_code 16 = .ok (.ireturn, 1) := by decide +kernel
theorem dL_look_0 : decode method_27_code 0 = .ok (.aload_n 1, 1) := by decide +kernel
theorem dL_look_1 : decode method_27_code 1 = .ok (.iconst 0, 1) := by decide +kernel
theorem dL_look_2 : decode method_27_code 2 = .ok (.aload_n 0, 1) := by decide +kernel
theorem dL_look_3 : decode method_27_code 3 = .ok (.invokevirtual 95, 3) := by decide +kernel
theorem dL_look_6 : decode method_27_code 6 = .ok (.i2l, 1) := by decide +kernel
theorem dL_look_7 : decode method_27_code 7 = .ok (.lastore, 1) := by decide +kernel
theorem dL_look_8 : decode method_27_code 8 = .ok (.goto 6, 3) := by decide +kernel
theorem dL_look_11 : decode method_27_code 11 = .ok (.astore_n 2, 1) := by decide +kernel
theorem dL_look_12 : decode method_27_code 12 = .ok (.iconst 1, 1) := by decide +kernel
theorem dL_look_13 : decode method_27_code 13 = .ok (.ireturn, 1) := by decide +kernel
theorem dL_look_14 : decode method_27_code 14 = .ok (.iconst 0, 1) := by decide +kernel
theorem dL_look_15 : decode method_27_code 15 = .ok (.ireturn, 1) := by decide +kernel
theorem dL_trial_0 : decode method_28_code 0 = .ok (.aload_n 3, 1) := by decide +kernel
theorem dL_trial_1 : decode method_28_code 1 = .ok (.iconst 0, 1) := by decide +kernel
theorem dL_trial_2 : decode method_28_code 2 = .ok (.aload_n 0, 1) := by decide +kernel
theorem dL_trial_3 : decode method_28_code 3 = .ok (.iload_n 1, 1) := by decide +kernel
theorem dL_trial_4 : decode method_28_code 4 = .ok (.iload_n 2, 1) := by decide +kernel
theorem dL_trial_5 : decode method_28_code 5 = .ok (.invokevirtual 98, 3) := by decide +kernel
theorem dL_trial_8 : decode method_28_code 8 = .ok (.i2l, 1) := by decide +kernel
theorem dL_trial_9 : decode method_28_code 9 = .ok (.lastore, 1) := by decide +kernel
theorem dL_trial_10 : decode method_28_code 10 = .ok (.goto 7, 3) := by decide +kernel
theorem dL_trial_13 : decode method_28_code 13 = .ok (.astore 4, 2) := by decide +kernel
theorem dL_trial_15 : decode method_28_code 15 = .ok (.iconst 1, 1) := by decide +kernel
theorem dL_trial_16 : decode method_28_code 16 = .ok (.ireturn, 1) := by decide +kernel
theorem dL_trial_17 : decode method_28_code 17 = .ok (.iconst 0, 1) := by decide +kernel
theorem dL_trial_18 : decode method_28_code 18 = .ok (.ireturn, 1) := by decide +kernel
theorem dL_span_0 : decode method_29_code 0 = .ok (.aload_n 3, 1) := by decide +kernel
theorem dL_span_1 : decode method_29_code 1 = .ok (.iconst 0, 1) := by decide +kernel
theorem dL_span_2 : decode method_29_code 2 = .ok (.aload_n 0, 1) := by decide +kernel
theorem dL_span_3 : decode method_29_code 3 = .ok (.iload_n 1, 1) := by decide +kernel
theorem dL_span_4 : decode method_29_code 4 = .ok (.iload_n 2, 1) := by decide +kernel
theorem dL_span_5 : decode method_29_code 5 = .ok (.invokevirtual 101, 3) := by decide +kernel
theorem dL_span_8 : decode method_29_code 8 = .ok (.i2l, 1) := by decide +kernel
theorem dL_span_9 : decode method_29_code 9 = .ok (.lastore, 1) := by decide +kernel
theorem dL_span_10 : decode method_29_code 10 = .ok (.goto 7, 3) := by decide +kernel
theorem dL_span_13 : decode method_29_code 13 = .ok (.astore 4, 2) := by decide +kernel
theorem dL_span_15 : decode method_29_code 15 = .ok (.iconst 1, 1) := by decide +kernel
theorem dL_span_16 : decode method_29_code 16 = .ok (.ireturn, 1) := by decide +kernel
theorem dL_span_17 : decode method_29_code 17 = .ok (.iconst 0, 1) := by decide +kernel
theorem dL_span_18 : decode method_29_code 18 = .ok (.ireturn, 1) := by decide +kernel
theorem dL_led_0 : decode method_30_code 0 = .ok (.aload_n 3, 1) := by decide +kernel
theorem dL_led_1 : decode method_30_code 1 = .ok (.iconst 0, 1) := by decide +kernel
theorem dL_led_2 : decode method_30_code 2 = .ok (.aload_n 0, 1) := by decide +kernel
theorem dL_led_3 : decode method_30_code 3 = .ok (.iload_n 1, 1) := by decide +kernel
theorem dL_led_4 : decode method_30_code 4 = .ok (.iload_n 2, 1) := by decide +kernel
theorem dL_led_5 : decode method_30_code 5 = .ok (.invokevirtual 104, 3) := by decide +kernel
theorem dL_led_8 : decode method_30_code 8 = .ok (.i2l, 1) := by decide +kernel
theorem dL_led_9 : decode method_30_code 9 = .ok (.lastore, 1) := by decide +kernel
theorem dL_led_10 : decode method_30_code 10 = .ok (.goto 7, 3) := by decide +kernel
theorem dL_led_13 : decode method_30_code 13 = .ok (.astore 4, 2) := by decide +kernel
theorem dL_led_15 : decode method_30_code 15 = .ok (.iconst 1, 1) := by decide +kernel
theorem dL_led_16 : decode method_30_code 16 = .ok (.ireturn, 1) := by decide +kernel
theorem dL_led_17 : decode method_30_code 17 = .ok (.iconst 0, 1) := by decide +kernel
theorem dL_led_18 : decode method_30_code 18 = .ok (.ireturn, 1) := by decide +kernel
theorem dJ9_floorMod_7cf53_0 : decode prog_18_method_50_code 0 = .ok (.iload_n 0, 1) := by decide +kernel
theorem dJ9_floorMod_7cf53_1 : decode prog_18_method_50_code 1 = .ok (.iload_n 1, 1) := by decide +kernel
theorem dJ9_floorMod_7cf53_2 : decode prog_18_method_50_code 2 = .ok (.irem, 1) := by decide +kernel
theorem dJ9_floorMod_7cf53_3 : decode prog_18_method_50_code 3 = .ok (.istore_n 2, 1) := by decide +kernel
theorem dJ9_floorMod_7cf53_4 : decode prog_18_method_50_code 4 = .ok (.iload_n 0, 1) := by decide +kernel
theorem dJ9_floorMod_7cf53_5 : decode prog_18_method_50_code 5 = .ok (.iload_n 1, 1) := by decide +kernel
theorem dJ9_floorMod_7cf53_6 : decode prog_18_method_50_code 6 = .ok (.ixor, 1) := by decide +kernel
theorem dJ9_floorMod_7cf53_7 : decode prog_18_method_50_code 7 = .ok (.ifCond .ge 11, 3) := by decide +kernel
theorem dJ9_floorMod_7cf53_10 : decode prog_18_method_50_code 10 = .ok (.iload_n 2, 1) := by decide +kernel
theorem dJ9_floorMod_7cf53_11 : decode prog_18_method_50_code 11 = .ok (.ifCond .eq 7, 3) := by decide +kernel
theorem dJ9_floorMod_7cf53_14 : decode prog_18_method_50_code 14 = .ok (.iload_n 2, 1) := by decide +kernel
theorem dJ9_floorMod_7cf53_15 : decode prog_18_method_50_code 15 = .ok (.iload_n 1, 1) := by decide +kernel
theorem dJ9_floorMod_7cf53_16 : decode prog_18_method_50_code 16 = .ok (.iadd, 1) := by decide +kernel
theorem dJ9_floorMod_7cf53_17 : decode prog_18_method_50_code 17 = .ok (.ireturn, 1) := by decide +kernel
theorem dJ9_floorMod_7cf53_18 : decode prog_18_method_50_code 18 = .ok (.iload_n 2, 1) := by decide +kernel
theorem dJ9_floorMod_7cf53_19 : decode prog_18_method_50_code 19 = .ok (.ireturn, 1) := by decide +kernel
theorem dL_log_0 : decode method_31_code 0 = .ok (.aload_n 3, 1) := by decide +kernel
theorem dL_log_1 : decode method_31_code 1 = .ok (.iconst 0, 1) := by decide +kernel
theorem dL_log_2 : decode method_31_code 2 = .ok (.aload_n 0, 1) := by decide +kernel
theorem dL_log_3 : decode method_31_code 3 = .ok (.iload_n 1, 1) := by decide +kernel
theorem dL_log_4 : decode method_31_code 4 = .ok (.iload_n 2, 1) := by decide +kernel
theorem dL_log_5 : decode method_31_code 5 = .ok (.invokevirtual 107, 3) := by decide +kernel
theorem dL_log_8 : decode method_31_code 8 = .ok (.i2l, 1) := by decide +kernel
theorem dL_log_9 : decode method_31_code 9 = .ok (.lastore, 1) := by decide +kernel
theorem dL_log_10 : decode method_31_code 10 = .ok (.goto 7, 3) := by decide +kernel
theorem dL_log_13 : decode method_31_code 13 = .ok (.astore 4, 2) := by decide +kernel
theorem dL_log_15 : decode method_31_code 15 = .ok (.iconst 1, 1) := by decide +kernel
theorem dL_log_16 : decode method_31_code 16 = .ok (.ireturn, 1) := by decide +kernel
theorem dL_log_17 : decode method_31_code 17 = .ok (.iconst 0, 1) := by decide +kernel
theorem dL_log_18 : decode method_31_code 18 = .ok (.ireturn, 1) := by decide +kernel
