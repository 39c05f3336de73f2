theorem dJ6_bitCount_0f7a4_0 : decode cJ6_bitCount_0f7a4 0 = .ok (.iload_n 0, 1) := by decide +kernel
theorem dJ6_bitCount_0f7a4_1 : decode cJ6_bitCount_0f7a4 1 = .ok (.iload_n 0, 1) := by decide +kernel
theorem dJ6_bitCount_0f7a4_10 : decode cJ6_bitCount_0f7a4 10 = .ok (.iload_n 0, 1) := by decide +kernel
theorem dJ6_bitCount_0f7a4_11 : decode cJ6_bitCount_0f7a4 11 = .ok (.ldc_w 266, 3) := by decide +kernel
theorem dJ6_bitCount_0f7a4_14 : decode cJ6_bitCount_0f7a4 14 = .ok (.iand, 1) := by decide +kernel
theorem dJ6_bitCount_0f7a4_15 : decode cJ6_bitCount_0f7a4 15 = .ok (.iload_n 0, 1) := by decide +kernel
theorem dJ6_bitCount_0f7a4_16 : decode cJ6_bitCount_0f7a4 16 = .ok (.iconst 2, 1) := by decide +kernel
theorem dJ6_bitCount_0f7a4_17 : decode cJ6_bitCount_0f7a4 17 = .ok (.iushr, 1) := by decide +kernel
theorem dJ6_bitCount_0f7a4_18 : decode cJ6_bitCount_0f7a4 18 = .ok (.ldc_w 266, 3) := by decide +kernel
theorem dJ6_bitCount_0f7a4_2 : decode cJ6_bitCount_0f7a4 2 = .ok (.iconst 1, 1) := by decide +kernel
theorem dJ6_bitCount_0f7a4_21 : decode cJ6_bitCount_0f7a4 21 = .ok (.iand, 1) := by decide +kernel
theorem dJ6_bitCount_0f7a4_22 : decode cJ6_bitCount_0f7a4 22 = .ok (.iadd, 1) := by decide +kernel
theorem dJ6_bitCount_0f7a4_23 : decode cJ6_bitCount_0f7a4 23 = .ok (.istore_n 0, 1) := by decide +kernel
theorem dJ6_bitCount_0f7a4_24 : decode cJ6_bitCount_0f7a4 24 = .ok (.iload_n 0, 1) := by decide +kernel
theorem dJ6_bitCount_0f7a4_25 : decode cJ6_bitCount_0f7a4 25 = .ok (.iload_n 0, 1) := by decide +kernel
theorem dJ6_bitCount_0f7a4_26 : decode cJ6_bitCount_0f7a4 26 = .ok (.iconst 4, 1) := by decide +kernel
theorem dJ6_bitCount_0f7a4_27 : decode cJ6_bitCount_0f7a4 27 = .ok (.iushr, 1) := by decide +kernel
theorem dJ6_bitCount_0f7a4_28 : decode cJ6_bitCount_0f7a4 28 = .ok (.iadd, 1) := by decide +kernel
theorem dJ6_bitCount_0f7a4_29 : decode cJ6_bitCount_0f7a4 29 = .ok (.ldc_w 267, 3) := by decide +kernel
theorem dJ6_bitCount_0f7a4_3 : decode cJ6_bitCount_0f7a4 3 = .ok (.iushr, 1) := by decide +kernel
theorem dJ6_bitCount_0f7a4_32 : decode cJ6_bitCount_0f7a4 32 = .ok (.iand, 1) := by decide +kernel
theorem dJ6_bitCount_0f7a4_33 : decode cJ6_bitCount_0f7a4 33 = .ok (.istore_n 0, 1) := by decide +kernel
theorem dJ6_bitCount_0f7a4_34 : decode cJ6_bitCount_0f7a4 34 = .ok (.iload_n 0, 1) := by decide +kernel
theorem dJ6_bitCount_0f7a4_35 : decode cJ6_bitCount_0f7a4 35 = .ok (.iload_n 0, 1) := by decide +kernel
theorem dJ6_bitCount_0f7a4_36 : decode cJ6_bitCount_0f7a4 36 = .ok (.bipush 8, 2) := by decide +kernel
theorem dJ6_bitCount_0f7a4_38 : decode cJ6_bitCount_0f7a4 38 = .ok (.iushr, 1) := by decide +kernel
theorem dJ6_bitCount_0f7a4_39 : decode cJ6_bitCount_0f7a4 39 = .ok (.iadd, 1) := by decide +kernel
theorem dJ6_bitCount_0f7a4_4 : decode cJ6_bitCount_0f7a4 4 = .ok (.ldc_w 265, 3) := by decide +kernel
theorem dJ6_bitCount_0f7a4_40 : decode cJ6_bitCount_0f7a4 40 = .ok (.istore_n 0, 1) := by decide +kernel
theorem dJ6_bitCount_0f7a4_41 : decode cJ6_bitCount_0f7a4 41 = .ok (.iload_n 0, 1) := by decide +kernel
theorem dJ6_bitCount_0f7a4_42 : decode cJ6_bitCount_0f7a4 42 = .ok (.iload_n 0, 1) := by decide +kernel
theorem dJ6_bitCount_0f7a4_43 : decode cJ6_bitCount_0f7a4 43 = .ok (.bipush 16, 2) := by decide +kernel
theorem dJ6_bitCount_0f7a4_45 : decode cJ6_bitCount_0f7a4 45 = .ok (.iushr, 1) := by decide +kernel
theorem dJ6_bitCount_0f7a4_46 : decode cJ6_bitCount_0f7a4 46 = .ok (.iadd, 1) := by decide +kernel
theorem dJ6_bitCount_0f7a4_47 : decode cJ6_bitCount_0f7a4 47 = .ok (.istore_n 0, 1) := by decide +kernel
theorem dJ6_bitCount_0f7a4_48 : decode cJ6_bitCount_0f7a4 48 = .ok (.iload_n 0, 1) := by decide +kernel
theorem dJ6_bitCount_0f7a4_49 : decode cJ6_bitCount_0f7a4 49 = .ok (.bipush 63, 2) := by decide +kernel
theorem dJ6_bitCount_0f7a4_51 : decode cJ6_bitCount_0f7a4 51 = .ok (.iand, 1) := by decide +kernel
theorem dJ6_bitCount_0f7a4_52 : decode cJ6_bitCount_0f7a4 52 = .ok (.ireturn, 1) := by decide +kernel
theorem dJ6_bitCount_0f7a4_7 : decode cJ6_bitCount_0f7a4 7 = .ok (.iand, 1) := by decide +kernel
theorem dJ6_bitCount_0f7a4_8 : decode cJ6_bitCount_0f7a4 8 = .ok (.isub, 1) := by decide +kernel
theorem dJ6_bitCount_0f7a4_9 : decode cJ6_bitCount_0f7a4 9 = .ok (.istore_n 0, 1) := by decide +kernel
theorem dJ9_max_7cf53_0 : decode cJ9_max_7cf53 0 = .ok (.iload_n 0, 1) := by decide +kernel
theorem dJ9_max_7cf53_1 : decode cJ9_max_7cf53 1 = .ok (.iload_n 1, 1) := by decide +kernel
theorem dJ9_max_7cf53_10 : decode cJ9_max_7cf53 10 = .ok (.ireturn, 1) := by decide +kernel
theorem dJ9_max_7cf53_2 : decode cJ9_max_7cf53 2 = .ok (.if_icmp .lt 7, 3) := by decide +kernel
theorem dJ9_max_7cf53_5 : decode cJ9_max_7cf53 5 = .ok (.iload_n 0, 1) := by decide +kernel
theorem dJ9_max_7cf53_6 : decode cJ9_max_7cf53 6 = .ok (.goto 4, 3) := by decide +kernel
theorem dJ9_max_7cf53_9 : decode cJ9_max_7cf53 9 = .ok (.iload_n 1, 1) := by decide +kernel
theorem dX0_bitwise_0 : decode cX0_bitwise 0 = .ok (.aload_n 0, 1) := by decide +kernel
theorem dX0_bitwise_1 : decode cX0_bitwise 1 = .ok (.iload_n 1, 1) := by decide +kernel
theorem dX0_bitwise_11 : decode cX0_bitwise 11 = .ok (.iload_n 2, 1) := by decide +kernel
theorem dX0_bitwise_12 : decode cX0_bitwise 12 = .ok (.invokevirtual 29, 3) := by decide +kernel
theorem dX0_bitwise_15 : decode cX0_bitwise 15 = .ok (.iload_n 1, 1) := by decide +kernel
theorem dX0_bitwise_16 : decode cX0_bitwise 16 = .ok (.ireturn, 1) := by decide +kernel
theorem dX0_bitwise_2 : decode cX0_bitwise 2 = .ok (.iconst 0, 1) := by decide +kernel
theorem dX0_bitwise_3 : decode cX0_bitwise 3 = .ok (.iconst 0, 1) := by decide +kernel
theorem dX0_bitwise_4 : decode cX0_bitwise 4 = .ok (.invokevirtual 25, 3) := by decide +kernel
theorem dX0_bitwise_7 : decode cX0_bitwise 7 = .ok (.pop, 1) := by decide +kernel
theorem dX0_bitwise_8 : decode cX0_bitwise 8 = .ok (.aload_n 0, 1) := by decide +kernel
theorem dX0_bitwise_9 : decode cX0_bitwise 9 = .ok (.bipush 16, 2) := by decide +kernel
theorem dX0_carry_0 : decode cX0_carry 0 = .ok (.aload_n 0, 1) := by decide +kernel
theorem dX0_carry_1 : decode cX0_carry 1 = .ok (.getfield 9, 3) := by decide +kernel
theorem dX0_carry_4 : decode cX0_carry 4 = .ok (.iconst 1, 1) := by decide +kernel
theorem dX0_carry_5 : decode cX0_carry 5 = .ok (.iand, 1) := by decide +kernel
theorem dX0_carry_6 : decode cX0_carry 6 = .ok (.ireturn, 1) := by decide +kernel
theorem dX0_decimal_0 : decode cX0_decimal 0 = .ok (.iload_n 1, 1) := by decide +kernel
theorem dX0_decimal_1 : decode cX0_decimal 1 = .ok (.bipush 15, 2) := by decide +kernel
theorem dX0_decimal_10 : decode cX0_decimal 10 = .ok (.bipush 16, 2) := by decide +kernel
theorem dX0_decimal_12 : decode cX0_decimal 12 = .ok (.invokevirtual 15, 3) := by decide +kernel
theorem dX0_decimal_15 : decode cX0_decimal 15 = .ok (.ifCond .eq 7, 3) := by decide +kernel
theorem dX0_decimal_18 : decode cX0_decimal 18 = .ok (.iconst 1, 1) := by decide +kernel
theorem dX0_decimal_19 : decode cX0_decimal 19 = .ok (.goto 4, 3) := by decide +kernel
theorem dX0_decimal_22 : decode cX0_decimal 22 = .ok (.iconst 0, 1) := by decide +kernel
theorem dX0_decimal_23 : decode cX0_decimal 23 = .ok (.istore_n 2, 1) := by decide +kernel
theorem dX0_decimal_24 : decode cX0_decimal 24 = .ok (.iload_n 1, 1) := by decide +kernel
theorem dX0_decimal_25 : decode cX0_decimal 25 = .ok (.sipush 153, 3) := by decide +kernel
theorem dX0_decimal_28 : decode cX0_decimal 28 = .ok (.if_icmp .gt 11, 3) := by decide +kernel
theorem dX0_decimal_3 : decode cX0_decimal 3 = .ok (.iand, 1) := by decide +kernel
theorem dX0_decimal_31 : decode cX0_decimal 31 = .ok (.aload_n 0, 1) := by decide +kernel
theorem dX0_decimal_32 : decode cX0_decimal 32 = .ok (.iconst 1, 1) := by decide +kernel
theorem dX0_decimal_33 : decode cX0_decimal 33 = .ok (.invokevirtual 15, 3) := by decide +kernel
theorem dX0_decimal_36 : decode cX0_decimal 36 = .ok (.ifCond .eq 7, 3) := by decide +kernel
theorem dX0_decimal_39 : decode cX0_decimal 39 = .ok (.iconst 1, 1) := by decide +kernel
theorem dX0_decimal_4 : decode cX0_decimal 4 = .ok (.bipush 9, 2) := by decide +kernel
theorem dX0_decimal_40 : decode cX0_decimal 40 = .ok (.goto 4, 3) := by decide +kernel
theorem dX0_decimal_43 : decode cX0_decimal 43 = .ok (.iconst 0, 1) := by decide +kernel
theorem dX0_decimal_44 : decode cX0_decimal 44 = .ok (.istore_n 3, 1) := by decide +kernel
theorem dX0_decimal_45 : decode cX0_decimal 45 = .ok (.aload_n 0, 1) := by decide +kernel
theorem dX0_decimal_46 : decode cX0_decimal 46 = .ok (.iload_n 1, 1) := by decide +kernel
theorem dX0_decimal_47 : decode cX0_decimal 47 = .ok (.iload_n 2, 1) := by decide +kernel
theorem dX0_decimal_48 : decode cX0_decimal 48 = .ok (.ifCond .eq 8, 3) := by decide +kernel
theorem dX0_decimal_51 : decode cX0_decimal 51 = .ok (.bipush 6, 2) := by decide +kernel
theorem dX0_decimal_53 : decode cX0_decimal 53 = .ok (.goto 4, 3) := by decide +kernel
theorem dX0_decimal_56 : decode cX0_decimal 56 = .ok (.iconst 0, 1) := by decide +kernel
theorem dX0_decimal_57 : decode cX0_decimal 57 = .ok (.iload_n 3, 1) := by decide +kernel
theorem dX0_decimal_58 : decode cX0_decimal 58 = .ok (.ifCond .eq 8, 3) := by decide +kernel
theorem dX0_decimal_6 : decode cX0_decimal 6 = .ok (.if_icmp .gt 12, 3) := by decide +kernel
theorem dX0_decimal_61 : decode cX0_decimal 61 = .ok (.bipush 96, 2) := by decide +kernel
theorem dX0_decimal_63 : decode cX0_decimal 63 = .ok (.goto 4, 3) := by decide +kernel
theorem dX0_decimal_66 : decode cX0_decimal 66 = .ok (.iconst 0, 1) := by decide +kernel
theorem dX0_decimal_67 : decode cX0_decimal 67 = .ok (.iadd, 1) := by decide +kernel
theorem dX0_decimal_68 : decode cX0_decimal 68 = .ok (.iconst 0, 1) := by decide +kernel
theorem dX0_decimal_69 : decode cX0_decimal 69 = .ok (.invokevirtual 25, 3) := by decide +kernel
theorem dX0_decimal_72 : decode cX0_decimal 72 = .ok (.istore 4, 2) := by decide +kernel
theorem dX0_decimal_74 : decode cX0_decimal 74 = .ok (.aload_n 0, 1) := by decide +kernel
theorem dX0_decimal_75 : decode cX0_decimal 75 = .ok (.iconst 1, 1) := by decide +kernel
theorem dX0_decimal_76 : decode cX0_decimal 76 = .ok (.iload_n 3, 1) := by decide +kernel
theorem dX0_decimal_77 : decode cX0_decimal 77 = .ok (.invokevirtual 29, 3) := by decide +kernel
theorem dX0_decimal_80 : decode cX0_decimal 80 = .ok (.iload 4, 2) := by decide +kernel
theorem dX0_decimal_82 : decode cX0_decimal 82 = .ok (.ireturn, 1) := by decide +kernel
theorem dX0_decimal_9 : decode cX0_decimal 9 = .ok (.aload_n 0, 1) := by decide +kernel
theorem dX0_difference_0 : decode cX0_difference 0 = .ok (.aload_n 0, 1) := by decide +kernel
theorem dX0_difference_1 : decode cX0_difference 1 = .ok (.iload_n 1, 1) := by decide +kernel
theorem dX0_difference_10 : decode cX0_difference 10 = .ok (.invokevirtual 25, 3) := by decide +kernel
theorem dX0_difference_13 : decode cX0_difference 13 = .ok (.istore 4, 2) := by decide +kernel
theorem dX0_difference_15 : decode cX0_difference 15 = .ok (.aload_n 0, 1) := by decide +kernel
theorem dX0_difference_16 : decode cX0_difference 16 = .ok (.dup, 1) := by decide +kernel
theorem dX0_difference_17 : decode cX0_difference 17 = .ok (.getfield 9, 3) := by decide +kernel
theorem dX0_difference_2 : decode cX0_difference 2 = .ok (.sipush 255, 3) := by decide +kernel
theorem dX0_difference_20 : decode cX0_difference 20 = .ok (.iconst 1, 1) := by decide +kernel
theorem dX0_difference_21 : decode cX0_difference 21 = .ok (.ixor, 1) := by decide +kernel
theorem dX0_difference_22 : decode cX0_difference 22 = .ok (.putfield 9, 3) := by decide +kernel
theorem dX0_difference_25 : decode cX0_difference 25 = .ok (.iload 4, 2) := by decide +kernel
theorem dX0_difference_27 : decode cX0_difference 27 = .ok (.ireturn, 1) := by decide +kernel
theorem dX0_difference_5 : decode cX0_difference 5 = .ok (.iload_n 2, 1) := by decide +kernel
theorem dX0_difference_6 : decode cX0_difference 6 = .ok (.isub, 1) := by decide +kernel
theorem dX0_difference_7 : decode cX0_difference 7 = .ok (.iconst 1, 1) := by decide +kernel
theorem dX0_difference_8 : decode cX0_difference 8 = .ok (.iload_n 3, 1) := by decide +kernel
theorem dX0_difference_9 : decode cX0_difference 9 = .ok (.isub, 1) := by decide +kernel
theorem dX0_has_0 : decode cX0_has 0 = .ok (.aload_n 0, 1) := by decide +kernel
theorem dX0_has_1 : decode cX0_has 1 = .ok (.getfield 9, 3) := by decide +kernel
theorem dX0_has_10 : decode cX0_has 10 = .ok (.goto 4, 3) := by decide +kernel
theorem dX0_has_13 : decode cX0_has 13 = .ok (.iconst 0, 1) := by decide +kernel
theorem dX0_has_14 : decode cX0_has 14 = .ok (.ireturn, 1) := by decide +kernel
theorem dX0_has_4 : decode cX0_has 4 = .ok (.iload_n 1, 1) := by decide +kernel
theorem dX0_has_5 : decode cX0_has 5 = .ok (.iand, 1) := by decide +kernel
theorem dX0_has_6 : decode cX0_has 6 = .ok (.ifCond .eq 7, 3) := by decide +kernel
theorem dX0_has_9 : decode cX0_has 9 = .ok (.iconst 1, 1) := by decide +kernel
theorem dX0_meets_0 : decode cX0_meets 0 = .ok (.iload_n 1, 1) := by decide +kernel
theorem dX0_meets_1 : decode cX0_meets 1 = .ok (.iconst 1, 1) := by decide +kernel
theorem dX0_meets_101 : decode cX0_meets 101 = .ok (.iconst 1, 1) := by decide +kernel
theorem dX0_meets_102 : decode cX0_meets 102 = .ok (.goto 4, 3) := by decide +kernel
theorem dX0_meets_105 : decode cX0_meets 105 = .ok (.iconst 0, 1) := by decide +kernel
theorem dX0_meets_106 : decode cX0_meets 106 = .ok (.ireturn, 1) := by decide +kernel
theorem dX0_meets_11 : decode cX0_meets 11 = .ok (.iconst 0, 1) := by decide +kernel
theorem dX0_meets_12 : decode cX0_meets 12 = .ok (.istore_n 2, 1) := by decide +kernel
theorem dX0_meets_13 : decode cX0_meets 13 = .ok (.iload_n 1, 1) := by decide +kernel
theorem dX0_meets_14 : decode cX0_meets 14 = .ok (.iconst 1, 1) := by decide +kernel
theorem dX0_meets_15 : decode cX0_meets 15 = .ok (.ishr, 1) := by decide +kernel
theorem dX0_meets_16 : decode cX0_meets 16 = .ok (.tableswitch 74 0 2 #[28, 44, 59], 28) := by decide +kernel
theorem dX0_meets_2 : decode cX0_meets 2 = .ok (.iand, 1) := by decide +kernel
theorem dX0_meets_3 : decode cX0_meets 3 = .ok (.iconst 1, 1) := by decide +kernel
theorem dX0_meets_4 : decode cX0_meets 4 = .ok (.if_icmp .ne 7, 3) := by decide +kernel
theorem dX0_meets_44 : decode cX0_meets 44 = .ok (.aload_n 0, 1) := by decide +kernel
theorem dX0_meets_45 : decode cX0_meets 45 = .ok (.bipush 64, 2) := by decide +kernel
theorem dX0_meets_47 : decode cX0_meets 47 = .ok (.invokevirtual 15, 3) := by decide +kernel
theorem dX0_meets_50 : decode cX0_meets 50 = .ok (.iload_n 2, 1) := by decide +kernel
theorem dX0_meets_51 : decode cX0_meets 51 = .ok (.if_icmp .ne 7, 3) := by decide +kernel
theorem dX0_meets_54 : decode cX0_meets 54 = .ok (.iconst 1, 1) := by decide +kernel
theorem dX0_meets_55 : decode cX0_meets 55 = .ok (.goto 4, 3) := by decide +kernel
theorem dX0_meets_58 : decode cX0_meets 58 = .ok (.iconst 0, 1) := by decide +kernel
theorem dX0_meets_59 : decode cX0_meets 59 = .ok (.ireturn, 1) := by decide +kernel
theorem dX0_meets_60 : decode cX0_meets 60 = .ok (.aload_n 0, 1) := by decide +kernel
theorem dX0_meets_61 : decode cX0_meets 61 = .ok (.iconst 1, 1) := by decide +kernel
theorem dX0_meets_62 : decode cX0_meets 62 = .ok (.invokevirtual 15, 3) := by decide +kernel
theorem dX0_meets_65 : decode cX0_meets 65 = .ok (.iload_n 2, 1) := by decide +kernel
theorem dX0_meets_66 : decode cX0_meets 66 = .ok (.if_icmp .ne 7, 3) := by decide +kernel
theorem dX0_meets_69 : decode cX0_meets 69 = .ok (.iconst 1, 1) := by decide +kernel
theorem dX0_meets_7 : decode cX0_meets 7 = .ok (.iconst 1, 1) := by decide +kernel
theorem dX0_meets_70 : decode cX0_meets 70 = .ok (.goto 4, 3) := by decide +kernel
theorem dX0_meets_73 : decode cX0_meets 73 = .ok (.iconst 0, 1) := by decide +kernel
theorem dX0_meets_74 : decode cX0_meets 74 = .ok (.ireturn, 1) := by decide +kernel
theorem dX0_meets_75 : decode cX0_meets 75 = .ok (.aload_n 0, 1) := by decide +kernel
theorem dX0_meets_76 : decode cX0_meets 76 = .ok (.iconst 4, 1) := by decide +kernel
theorem dX0_meets_77 : decode cX0_meets 77 = .ok (.invokevirtual 15, 3) := by decide +kernel
theorem dX0_meets_8 : decode cX0_meets 8 = .ok (.goto 4, 3) := by decide +kernel
theorem dX0_meets_80 : decode cX0_meets 80 = .ok (.iload_n 2, 1) := by decide +kernel
theorem dX0_meets_81 : decode cX0_meets 81 = .ok (.if_icmp .ne 7, 3) := by decide +kernel
theorem dX0_meets_84 : decode cX0_meets 84 = .ok (.iconst 1, 1) := by decide +kernel
theorem dX0_meets_85 : decode cX0_meets 85 = .ok (.goto 4, 3) := by decide +kernel
theorem dX0_meets_88 : decode cX0_meets 88 = .ok (.iconst 0, 1) := by decide +kernel
theorem dX0_meets_89 : decode cX0_meets 89 = .ok (.ireturn, 1) := by decide +kernel
theorem dX0_meets_90 : decode cX0_meets 90 = .ok (.aload_n 0, 1) := by decide +kernel
theorem dX0_meets_91 : decode cX0_meets 91 = .ok (.sipush 128, 3) := by decide +kernel
theorem dX0_meets_94 : decode cX0_meets 94 = .ok (.invokevirtual 15, 3) := by decide +kernel
theorem dX0_meets_97 : decode cX0_meets 97 = .ok (.iload_n 2, 1) := by decide +kernel
theorem dX0_meets_98 : decode cX0_meets 98 = .ok (.if_icmp .ne 7, 3) := by decide +kernel
theorem dX0_put_0 : decode cX0_put 0 = .ok (.aload_n 0, 1) := by decide +kernel
theorem dX0_put_1 : decode cX0_put 1 = .ok (.iload_n 2, 1) := by decide +kernel
theorem dX0_put_10 : decode cX0_put 10 = .ok (.ior, 1) := by decide +kernel
theorem dX0_put_11 : decode cX0_put 11 = .ok (.goto 11, 3) := by decide +kernel
theorem dX0_put_14 : decode cX0_put 14 = .ok (.aload_n 0, 1) := by decide +kernel
theorem dX0_put_15 : decode cX0_put 15 = .ok (.getfield 9, 3) := by decide +kernel
theorem dX0_put_18 : decode cX0_put 18 = .ok (.iload_n 1, 1) := by decide +kernel
theorem dX0_put_19 : decode cX0_put 19 = .ok (.iconst (-1), 1) := by decide +kernel
theorem dX0_put_2 : decode cX0_put 2 = .ok (.ifCond .eq 12, 3) := by decide +kernel
theorem dX0_put_20 : decode cX0_put 20 = .ok (.ixor, 1) := by decide +kernel
theorem dX0_put_21 : decode cX0_put 21 = .ok (.iand, 1) := by decide +kernel
theorem dX0_put_22 : decode cX0_put 22 = .ok (.putfield 9, 3) := by decide +kernel
theorem dX0_put_25 : decode cX0_put 25 = .ok (.return_, 1) := by decide +kernel
theorem dX0_put_5 : decode cX0_put 5 = .ok (.aload_n 0, 1) := by decide +kernel
theorem dX0_put_6 : decode cX0_put 6 = .ok (.getfield 9, 3) := by decide +kernel
theorem dX0_put_9 : decode cX0_put 9 = .ok (.iload_n 1, 1) := by decide +kernel
theorem dX0_sum_0 : decode cX0_sum 0 = .ok (.iload_n 1, 1) := by decide +kernel
theorem dX0_sum_1 : decode cX0_sum 1 = .ok (.iload_n 2, 1) := by decide +kernel
theorem dX0_sum_100 : decode cX0_sum 100 = .ok (.iload_n 3, 1) := by decide +kernel
theorem dX0_sum_101 : decode cX0_sum 101 = .ok (.iadd, 1) := by decide +kernel
theorem dX0_sum_102 : decode cX0_sum 102 = .ok (.bipush 15, 2) := by decide +kernel
theorem dX0_sum_104 : decode cX0_sum 104 = .ok (.if_icmp .le 8, 3) := by decide +kernel
theorem dX0_sum_107 : decode cX0_sum 107 = .ok (.bipush 16, 2) := by decide +kernel
theorem dX0_sum_109 : decode cX0_sum 109 = .ok (.goto 4, 3) := by decide +kernel
theorem dX0_sum_112 : decode cX0_sum 112 = .ok (.iconst 0, 1) := by decide +kernel
theorem dX0_sum_113 : decode cX0_sum 113 = .ok (.ior, 1) := by decide +kernel
theorem dX0_sum_114 : decode cX0_sum 114 = .ok (.iload 5, 2) := by decide +kernel
theorem dX0_sum_116 : decode cX0_sum 116 = .ok (.invokestatic 19, 3) := by decide +kernel
theorem dX0_sum_119 : decode cX0_sum 119 = .ok (.iconst 2, 1) := by decide +kernel
theorem dX0_sum_12 : decode cX0_sum 12 = .ok (.iand, 1) := by decide +kernel
theorem dX0_sum_120 : decode cX0_sum 120 = .ok (.irem, 1) := by decide +kernel
theorem dX0_sum_121 : decode cX0_sum 121 = .ok (.ifCond .ne 7, 3) := by decide +kernel
theorem dX0_sum_124 : decode cX0_sum 124 = .ok (.iconst 4, 1) := by decide +kernel
theorem dX0_sum_125 : decode cX0_sum 125 = .ok (.goto 4, 3) := by decide +kernel
theorem dX0_sum_128 : decode cX0_sum 128 = .ok (.iconst 0, 1) := by decide +kernel
theorem dX0_sum_129 : decode cX0_sum 129 = .ok (.ior, 1) := by decide +kernel
theorem dX0_sum_13 : decode cX0_sum 13 = .ok (.istore 5, 2) := by decide +kernel
theorem dX0_sum_130 : decode cX0_sum 130 = .ok (.iload 7, 2) := by decide +kernel
theorem dX0_sum_132 : decode cX0_sum 132 = .ok (.ifCond .eq 7, 3) := by decide +kernel
theorem dX0_sum_135 : decode cX0_sum 135 = .ok (.iconst 2, 1) := by decide +kernel
theorem dX0_sum_136 : decode cX0_sum 136 = .ok (.goto 4, 3) := by decide +kernel
theorem dX0_sum_139 : decode cX0_sum 139 = .ok (.iconst 0, 1) := by decide +kernel
theorem dX0_sum_140 : decode cX0_sum 140 = .ok (.ior, 1) := by decide +kernel
theorem dX0_sum_141 : decode cX0_sum 141 = .ok (.iload 4, 2) := by decide +kernel
theorem dX0_sum_143 : decode cX0_sum 143 = .ok (.sipush 255, 3) := by decide +kernel
theorem dX0_sum_146 : decode cX0_sum 146 = .ok (.if_icmp .le 7, 3) := by decide +kernel
theorem dX0_sum_149 : decode cX0_sum 149 = .ok (.iconst 1, 1) := by decide +kernel
theorem dX0_sum_15 : decode cX0_sum 15 = .ok (.iload 5, 2) := by decide +kernel
theorem dX0_sum_150 : decode cX0_sum 150 = .ok (.goto 4, 3) := by decide +kernel
theorem dX0_sum_153 : decode cX0_sum 153 = .ok (.iconst 0, 1) := by decide +kernel
theorem dX0_sum_154 : decode cX0_sum 154 = .ok (.ior, 1) := by decide +kernel
theorem dX0_sum_155 : decode cX0_sum 155 = .ok (.putfield 9, 3) := by decide +kernel
theorem dX0_sum_158 : decode cX0_sum 158 = .ok (.iload 5, 2) := by decide +kernel
theorem dX0_sum_160 : decode cX0_sum 160 = .ok (.ireturn, 1) := by decide +kernel
theorem dX0_sum_17 : decode cX0_sum 17 = .ok (.bipush 127, 2) := by decide +kernel
theorem dX0_sum_19 : decode cX0_sum 19 = .ok (.if_icmp .le 7, 3) := by decide +kernel
theorem dX0_sum_2 : decode cX0_sum 2 = .ok (.iadd, 1) := by decide +kernel
theorem dX0_sum_22 : decode cX0_sum 22 = .ok (.iconst 1, 1) := by decide +kernel
theorem dX0_sum_23 : decode cX0_sum 23 = .ok (.goto 4, 3) := by decide +kernel
theorem dX0_sum_26 : decode cX0_sum 26 = .ok (.iconst 0, 1) := by decide +kernel
theorem dX0_sum_27 : decode cX0_sum 27 = .ok (.istore 6, 2) := by decide +kernel
theorem dX0_sum_29 : decode cX0_sum 29 = .ok (.iload_n 1, 1) := by decide +kernel
theorem dX0_sum_3 : decode cX0_sum 3 = .ok (.iload_n 3, 1) := by decide +kernel
theorem dX0_sum_30 : decode cX0_sum 30 = .ok (.iload 5, 2) := by decide +kernel
theorem dX0_sum_32 : decode cX0_sum 32 = .ok (.ixor, 1) := by decide +kernel
theorem dX0_sum_33 : decode cX0_sum 33 = .ok (.iload_n 2, 1) := by decide +kernel
theorem dX0_sum_34 : decode cX0_sum 34 = .ok (.iload 5, 2) := by decide +kernel
theorem dX0_sum_36 : decode cX0_sum 36 = .ok (.ixor, 1) := by decide +kernel
theorem dX0_sum_37 : decode cX0_sum 37 = .ok (.iand, 1) := by decide +kernel
theorem dX0_sum_38 : decode cX0_sum 38 = .ok (.sipush 128, 3) := by decide +kernel
theorem dX0_sum_4 : decode cX0_sum 4 = .ok (.iadd, 1) := by decide +kernel
theorem dX0_sum_41 : decode cX0_sum 41 = .ok (.iand, 1) := by decide +kernel
theorem dX0_sum_42 : decode cX0_sum 42 = .ok (.ifCond .eq 7, 3) := by decide +kernel
theorem dX0_sum_45 : decode cX0_sum 45 = .ok (.iconst 1, 1) := by decide +kernel
theorem dX0_sum_46 : decode cX0_sum 46 = .ok (.goto 4, 3) := by decide +kernel
theorem dX0_sum_49 : decode cX0_sum 49 = .ok (.iconst 0, 1) := by decide +kernel
theorem dX0_sum_5 : decode cX0_sum 5 = .ok (.istore 4, 2) := by decide +kernel
theorem dX0_sum_50 : decode cX0_sum 50 = .ok (.istore 7, 2) := by decide +kernel
theorem dX0_sum_52 : decode cX0_sum 52 = .ok (.aload_n 0, 1) := by decide +kernel
theorem dX0_sum_53 : decode cX0_sum 53 = .ok (.iload 6, 2) := by decide +kernel
theorem dX0_sum_55 : decode cX0_sum 55 = .ok (.ifCond .eq 9, 3) := by decide +kernel
theorem dX0_sum_58 : decode cX0_sum 58 = .ok (.sipush 128, 3) := by decide +kernel
theorem dX0_sum_61 : decode cX0_sum 61 = .ok (.goto 4, 3) := by decide +kernel
theorem dX0_sum_64 : decode cX0_sum 64 = .ok (.iconst 0, 1) := by decide +kernel
theorem dX0_sum_65 : decode cX0_sum 65 = .ok (.iload 5, 2) := by decide +kernel
theorem dX0_sum_67 : decode cX0_sum 67 = .ok (.ifCond .ne 8, 3) := by decide +kernel
theorem dX0_sum_7 : decode cX0_sum 7 = .ok (.iload 4, 2) := by decide +kernel
theorem dX0_sum_70 : decode cX0_sum 70 = .ok (.bipush 64, 2) := by decide +kernel
theorem dX0_sum_72 : decode cX0_sum 72 = .ok (.goto 4, 3) := by decide +kernel
theorem dX0_sum_75 : decode cX0_sum 75 = .ok (.iconst 0, 1) := by decide +kernel
theorem dX0_sum_76 : decode cX0_sum 76 = .ok (.ior, 1) := by decide +kernel
theorem dX0_sum_77 : decode cX0_sum 77 = .ok (.iload 7, 2) := by decide +kernel
theorem dX0_sum_79 : decode cX0_sum 79 = .ok (.iload 6, 2) := by decide +kernel
theorem dX0_sum_81 : decode cX0_sum 81 = .ok (.if_icmp .eq 8, 3) := by decide +kernel
theorem dX0_sum_84 : decode cX0_sum 84 = .ok (.bipush 32, 2) := by decide +kernel
theorem dX0_sum_86 : decode cX0_sum 86 = .ok (.goto 4, 3) := by decide +kernel
theorem dX0_sum_89 : decode cX0_sum 89 = .ok (.iconst 0, 1) := by decide +kernel
theorem dX0_sum_9 : decode cX0_sum 9 = .ok (.sipush 255, 3) := by decide +kernel
theorem dX0_sum_90 : decode cX0_sum 90 = .ok (.ior, 1) := by decide +kernel
theorem dX0_sum_91 : decode cX0_sum 91 = .ok (.iload_n 1, 1) := by decide +kernel
theorem dX0_sum_92 : decode cX0_sum 92 = .ok (.bipush 15, 2) := by decide +kernel
theorem dX0_sum_94 : decode cX0_sum 94 = .ok (.iand, 1) := by decide +kernel
theorem dX0_sum_95 : decode cX0_sum 95 = .ok (.iload_n 2, 1) := by decide +kernel
theorem dX0_sum_96 : decode cX0_sum 96 = .ok (.bipush 15, 2) := by decide +kernel
theorem dX0_sum_98 : decode cX0_sum 98 = .ok (.iand, 1) := by decide +kernel
theorem dX0_sum_99 : decode cX0_sum 99 = .ok (.iadd, 1) := by decide +kernel
set_option maxHeartbeats 4000000 in
set_option maxRecDepth 100000 in
theorem g_bitCount (l : Launch) (dC : Nat → ClassId) (dI : Nat → Nat → Nat) (g : Nat → Int32) (n : Nat → Nat) (f : Nat → Nat → Int32) (p0 : Int32) (sz : Nat) : Met l yJ6_bitCount_0f7a4 (zq yJ6_bitCount_0f7a4 cJ6_bitCount_0f7a4 1 (some .int)) ({ frames := 0, cells := 0, slots := 0, locals := 0 }) (va_Pc [.int p0] (zc_P (dC, dI) [] [] sz)) (va_Qi (fun (r : Int32) (u : (Nat → Int32) × (Nat → Nat) × (Nat → Nat → Int32)) => True) (fun (u : (Nat → Int32) × (Nat → Nat) × (Nat → Nat → Int32)) t9 => zc_B (dC, dI) (va_A [] sz) [] [] t9) (va_A [] sz)) 0 0 (va_A [] sz) := by
  refine Met.ofW (cc := cJ6_bitCount_0f7a4) (maxL := 1) (ret := (some .int)) (by decide) rfl ?_
  intro p e s m args below meth c s₁ B hml hv
  obtain ⟨rfl, hsz, hP, hK, hD0, hN⟩ := hv
  have hx := B.exec
  have hb := B.bytes
  have hr := B.returns
  have hts : ∀ w ∈ zw, w.before _ s = true := fun w h => atoms_spec (ws := (zq yJ6_bitCount_0f7a4 cJ6_bitCount_0f7a4 1 (some .int))) B.pre w (List.mem_cons_of_mem _ h)
  have hown : s.vm.findClass RJ6 = some m.cls := findClass_of_methodNamed B.named
  have hlocks := B.notSynchronized
  subst hsz
  have hD := hD0.self (sz := s.heap.size)
  generalize hAe : va_A [] s.heap.size = A at hD ⊢
  have hA : ∀ q : Nat, s.heap.size ≤ q → A q := fun q h => by rw [← hAe]; exact Or.inr h
  have hS : va_S A s.heap s.heap [] := va_S.rf
  have hP : va_P (dC, dI) vwCl [] s.heap := hP
  have hl := lv_entry ([.int p0]) (n := 1) (Nat.le_of_ble_eq_true rfl)
  rw [lg_entry_eq]
  generalize (lg_sl ([.int p0]) ++ List.replicate (1 - (lg_sl ([.int p0])).length) Slot.unset).toArray = ls at hl ⊢
  have hl : lv_has ls 1 [(0, .int p0)] := hl
  refine lv_iload_n hx hb dJ6_bitCount_0f7a4_0 rfl (lv_at hl 0 rfl) ?_
  refine lv_iload_n hx hb dJ6_bitCount_0f7a4_1 rfl (lv_at hl 0 rfl) ?_
  refine lv_iconst (v := 1) hx hb dJ6_bitCount_0f7a4_2 (by decide) ?_
  refine lv_iushr hx hb dJ6_bitCount_0f7a4_3 rfl ?_
  refine lv_topi (fun v_1 ev_1 => ?_)
  refine lv_ldcw (v := 1431655765) hx hb hown (hts (.constant RJ6 265 (1431655765)) zw_424) dJ6_bitCount_0f7a4_4 ?_
  refine lv_iand hx hb dJ6_bitCount_0f7a4_7 ?_
  refine lv_topi (fun v_2 ev_2 => ?_)
  refine lv_isub hx hb dJ6_bitCount_0f7a4_8 ?_
  refine lv_topi (fun v_3 ev_3 => ?_)
  refine lv_istore_n (lv' := [(0, .int v_3)]) hx hb dJ6_bitCount_0f7a4_9 rfl hl (by decide) rfl (fun ls hl => ?_)
  refine lv_iload_n hx hb dJ6_bitCount_0f7a4_10 rfl (lv_at hl 0 rfl) ?_
  refine lv_ldcw (v := 858993459) hx hb hown (hts (.constant RJ6 266 (858993459)) zw_425) dJ6_bitCount_0f7a4_11 ?_
  refine lv_iand hx hb dJ6_bitCount_0f7a4_14 ?_
  refine lv_topi (fun v_4 ev_4 => ?_)
  refine lv_iload_n hx hb dJ6_bitCount_0f7a4_15 rfl (lv_at hl 0 rfl) ?_
  refine lv_iconst (v := 2) hx hb dJ6_bitCount_0f7a4_16 (by decide) ?_
  refine lv_iushr hx hb dJ6_bitCount_0f7a4_17 rfl ?_
  refine lv_topi (fun v_5 ev_5 => ?_)
  refine lv_ldcw (v := 858993459) hx hb hown (hts (.constant RJ6 266 (858993459)) zw_425) dJ6_bitCount_0f7a4_18 ?_
  refine lv_iand hx hb dJ6_bitCount_0f7a4_21 ?_
  refine lv_topi (fun v_6 ev_6 => ?_)
  refine lv_iadd hx hb dJ6_bitCount_0f7a4_22 ?_
  refine lv_topi (fun v_7 ev_7 => ?_)
  refine lv_istore_n (lv' := [(0, .int v_7)]) hx hb dJ6_bitCount_0f7a4_23 rfl hl (by decide) rfl (fun ls hl => ?_)
  refine lv_iload_n hx hb dJ6_bitCount_0f7a4_24 rfl (lv_at hl 0 rfl) ?_
  refine lv_iload_n hx hb dJ6_bitCount_0f7a4_25 rfl (lv_at hl 0 rfl) ?_
  refine lv_iconst (v := 4) hx hb dJ6_bitCount_0f7a4_26 (by decide) ?_
  refine lv_iushr hx hb dJ6_bitCount_0f7a4_27 rfl ?_
  refine lv_topi (fun v_8 ev_8 => ?_)
  refine lv_iadd hx hb dJ6_bitCount_0f7a4_28 ?_
  refine lv_topi (fun v_9 ev_9 => ?_)
  refine lv_ldcw (v := 252645135) hx hb hown (hts (.constant RJ6 267 (252645135)) zw_426) dJ6_bitCount_0f7a4_29 ?_
  refine lv_iand hx hb dJ6_bitCount_0f7a4_32 ?_
  refine lv_topi (fun v_10 ev_10 => ?_)
  refine lv_istore_n (lv' := [(0, .int v_10)]) hx hb dJ6_bitCount_0f7a4_33 rfl hl (by decide) rfl (fun ls hl => ?_)
  refine lv_iload_n hx hb dJ6_bitCount_0f7a4_34 rfl (lv_at hl 0 rfl) ?_
  refine lv_iload_n hx hb dJ6_bitCount_0f7a4_35 rfl (lv_at hl 0 rfl) ?_
  refine lv_bipush (v := 8) hx hb dJ6_bitCount_0f7a4_36 (by decide) ?_
  refine lv_iushr hx hb dJ6_bitCount_0f7a4_38 rfl ?_
  refine lv_topi (fun v_11 ev_11 => ?_)
  refine lv_iadd hx hb dJ6_bitCount_0f7a4_39 ?_
  refine lv_topi (fun v_12 ev_12 => ?_)
  refine lv_istore_n (lv' := [(0, .int v_12)]) hx hb dJ6_bitCount_0f7a4_40 rfl hl (by decide) rfl (fun ls hl => ?_)
  refine lv_iload_n hx hb dJ6_bitCount_0f7a4_41 rfl (lv_at hl 0 rfl) ?_
  refine lv_iload_n hx hb dJ6_bitCount_0f7a4_42 rfl (lv_at hl 0 rfl) ?_
  refine lv_bipush (v := 16) hx hb dJ6_bitCount_0f7a4_43 (by decide) ?_
  refine lv_iushr hx hb dJ6_bitCount_0f7a4_45 rfl ?_
  refine lv_topi (fun v_13 ev_13 => ?_)
  refine lv_iadd hx hb dJ6_bitCount_0f7a4_46 ?_
  refine lv_topi (fun v_14 ev_14 => ?_)
  refine lv_istore_n (lv' := [(0, .int v_14)]) hx hb dJ6_bitCount_0f7a4_47 rfl hl (by decide) rfl (fun ls hl => ?_)
  refine lv_iload_n hx hb dJ6_bitCount_0f7a4_48 rfl (lv_at hl 0 rfl) ?_
  refine lv_bipush (v := 63) hx hb dJ6_bitCount_0f7a4_49 (by decide) ?_
  refine lv_iand hx hb dJ6_bitCount_0f7a4_51 ?_
  refine lv_topi (fun v_15 ev_15 => ?_)
  obtain ⟨j_15, hj_15, ej_15⟩ := pk_andE v_14 (m := 63) 6 (by decide)
  obtain rfl : v_15 = nI j_15 := ev_15.trans ej_15
  have hj_15 : j_15 < 64 := hj_15
  have hP9 := hP.sub (ws' := []) [] rfl
  have hD9 := hD.sub (ws' := []) [] (by decide) rfl
  have hK9 := hK.sub (tys' := []) [] rfl
  exact W.iret (v := (nI j_15)) hx hb hr (fun t9 ht hW => ⟨⟨(nI j_15), ((fun _ => 0), (fun _ => 0), (fun _ _ => 0)), rfl, trivial, by rw [ht]; exact hP9, va_K.moved hW.alike hK9, hD9⟩, hS.F ht⟩) hS.2.2 dJ6_bitCount_0f7a4_52
set_option maxHeartbeats 4000000 in
set_option maxRecDepth 100000 in
theorem g_max (l : Launch) (dC : Nat → ClassId) (dI : Nat → Nat → Nat) (g : Nat → Int32) (n : Nat → Nat) (f : Nat → Nat → Int32) (p0 : Int32) (p1 : Int32) (sz : Nat) : Met l yJ9_max_7cf53 (zq yJ9_max_7cf53 cJ9_max_7cf53 2 (some .int)) ({ frames := 0, cells := 0, slots := 0, locals := 0 }) (va_Pc [.int p0, .int p1] (zc_P (dC, dI) [] [] sz)) (va_Qi (fun (r : Int32) (u : (Nat → Int32) × (Nat → Nat) × (Nat → Nat → Int32)) => True) (fun (u : (Nat → Int32) × (Nat → Nat) × (Nat → Nat → Int32)) t9 => zc_B (dC, dI) (va_A [] sz) [] [] t9) (va_A [] sz)) 0 0 (va_A [] sz) := by
  refine zs_Met (cc := cJ9_max_7cf53) (maxL := 2) (ret := (some .int)) (by decide +kernel) rfl ?_
  intro p e s m args below meth c s₁ B hml hv
  obtain ⟨rfl, hsz, hP, hK, hD0, hN⟩ := hv
  have hx := B.exec
  have hb := B.bytes
  have hr := B.returns
  have hts : ∀ w ∈ zw, w.before _ s = true := fun w h => atoms_spec (ws := (zq yJ9_max_7cf53 cJ9_max_7cf53 2 (some .int))) B.pre w (List.mem_cons_of_mem _ h)
  have hown : s.vm.findClass RJ9 = some m.cls := findClass_of_methodNamed B.named
  have hlocks := B.notSynchronized
  subst hsz
  have hD := hD0.self (sz := s.heap.size)
  generalize hAe : va_A [] s.heap.size = A at hD ⊢
  have hA : ∀ q : Nat, s.heap.size ≤ q → A q := fun q h => by rw [← hAe]; exact Or.inr h
  have hS : va_S A s.heap s.heap [] := va_S.rf
  have hP : va_P (dC, dI) vwCl [] s.heap := hP
  have hl := lv_entry ([.int p0, .int p1]) (n := 2) (Nat.le_of_ble_eq_true rfl)
  rw [lg_entry_eq]
  generalize (lg_sl ([.int p0, .int p1]) ++ List.replicate (2 - (lg_sl ([.int p0, .int p1])).length) Slot.unset).toArray = ls at hl ⊢
  have hl : lv_has ls 2 [(0, .int p0), (1, .int p1)] := hl
  refine lv_iload_n hx hb dJ9_max_7cf53_0 rfl (lv_at hl 0 rfl) ?_
  refine lv_iload_n hx hb dJ9_max_7cf53_1 rfl (lv_at hl 1 rfl) ?_
  have join_3 : ∀ (x_2 : Int32) (H : Heap) (locs : List Loc) (ls : Array Slot), va_P (dC, dI) vwCl [] H → va_D A [] → va_S A s.heap H locs → lv_has ls 2 [(0, .int p0), (1, .int p1)] → W p l e (headSpec (zq yJ9_max_7cf53 cJ9_max_7cf53 2 (some .int)) ({ frames := 0, cells := 0, slots := 0, locals := 0 })).room s m ([.int p0, .int p1] : List Value).toArray below meth c H locs 0 0 (MQ below (va_Qi (fun (r : Int32) (u : (Nat → Int32) × (Nat → Nat) × (Nat → Nat → Int32)) => True) (fun (u : (Nat → Int32) × (Nat → Nat) × (Nat → Nat → Int32)) t9 => zc_B (dC, dI) A [] [] t9) A) ([.int p0, .int p1] : List Value).toArray s 0 0 A) (F0 m 10 ls [.int x_2]) := by
    intro x_2 H locs ls hP hD hS hl
    have hP9 := hP.sub (ws' := []) [] rfl
    have hD9 := hD.sub (ws' := []) [] (by decide) rfl
    have hK9 := hK.sub (tys' := []) [] rfl
    exact W.iret (v := x_2) hx hb hr (fun t9 ht hW => ⟨⟨x_2, ((fun _ => 0), (fun _ => 0), (fun _ _ => 0)), rfl, trivial, by rw [ht]; exact hP9, va_K.moved hW.alike hK9, hD9⟩, hS.F ht⟩) hS.2.2 dJ9_max_7cf53_10
  refine lv_icmp_lt (tgt := 9) hx hb dJ9_max_7cf53_2 (by decide) (fun c_1 => ?_) (fun c_1 => ?_)
  · refine lv_iload_n hx hb dJ9_max_7cf53_9 rfl (lv_at hl 1 rfl) ?_
    exact join_3 p1 _ _ _ (hP.sub [] rfl) (hD.sub [] (by decide) rfl) hS (lv_sub hl [0, 1] rfl)
  · refine lv_iload_n hx hb dJ9_max_7cf53_5 rfl (lv_at hl 0 rfl) ?_
    refine lv_goto (tgt := 10) hx hb dJ9_max_7cf53_6 (by decide) ?_
    exact join_3 p0 _ _ _ (hP.sub [] rfl) (hD.sub [] (by decide) rfl) hS (lv_sub hl [0, 1] rfl)
set_option maxHeartbeats 4000000 in
set_option maxRecDepth 100000 in
theorem g_X0_has (l : Launch) (dC : Nat → ClassId) (dI : Nat → Nat → Nat) (a_f : Nat) (g : Nat → Int32) (n : Nat → Nat) (f : Nat → Nat → Int32) (p0 : Int32) (sz : Nat) : Met l yX0_has (zq yX0_has cX0_has 2 (some .boolean)) ({ frames := 0, cells := 0, slots := 0, locals := 0 }) (va_Pc [.ref a_f, .int p0] (zc_P (dC, dI) [(a_f, .inr (0, [.int (g 20)]))] [] sz)) (va_Qi (fun (r : Int32) (u : (Nat → Int32) × (Nat → Nat) × (Nat → Nat → Int32)) => True) (fun (u : (Nat → Int32) × (Nat → Nat) × (Nat → Nat → Int32)) t9 => zc_B (dC, dI) (va_A [(a_f, .inr (0, [.int (g 20)]))] sz) [(a_f, .inr (0, [.int (u.1 20)]))] [] t9) (va_A [(a_f, .inr (0, [.int (g 20)]))] sz)) 0 0 (va_A [(a_f, .inr (0, [.int (g 20)]))] sz) := by
  refine Met.ofW (cc := cX0_has) (maxL := 2) (ret := (some .boolean)) (by decide) rfl ?_
  intro p e s m args below meth c s₁ B hml hv
  obtain ⟨rfl, hsz, hP, hK, hD0, hN⟩ := hv
  have hx := B.exec
  have hb := B.bytes
  have hr := B.returns
  have hts : ∀ w ∈ zw, w.before _ s = true := fun w h => atoms_spec (ws := (zq yX0_has cX0_has 2 (some .boolean))) B.pre w (List.mem_cons_of_mem _ h)
  have hown : s.vm.findClass RX0 = some m.cls := findClass_of_methodNamed B.named
  have hlocks := B.notSynchronized
  subst hsz
  have hD := hD0.self (sz := s.heap.size)
  generalize hAe : va_A [(a_f, .inr (0, [.int (g 20)]))] s.heap.size = A at hD ⊢
  have hA : ∀ q : Nat, s.heap.size ≤ q → A q := fun q h => by rw [← hAe]; exact Or.inr h
  have hS : va_S A s.heap s.heap [] := va_S.rf
  have hP : va_P (dC, dI) vwCl [(a_f, .inr (0, [.int (g 20)]))] s.heap := hP
  have hl := lv_entry ([.ref a_f, .int p0]) (n := 2) (Nat.le_of_ble_eq_true rfl)
  rw [lg_entry_eq]
  generalize (lg_sl ([.ref a_f, .int p0]) ++ List.replicate (2 - (lg_sl ([.ref a_f, .int p0])).length) Slot.unset).toArray = ls at hl ⊢
  have hl : lv_has ls 2 [(0, .ref a_f), (1, .int p0)] := hl
  refine lv_aload_n hx hb dX0_has_0 rfl (lv_at hl 0 rfl) ?_
  refine va_get (D := (dC, dI)) (ci := 0) (v := .int (g 20)) (C := RX0) (T := TX0) (N := 1) hx hb hts zx_0 hown hK hP 0 rfl rfl 0 (by decide) (hts (.fieldLink RX0 9 "KeyboardKit$Flags" "all" "I") zw_230) (fun _ h9 => h9) rfl dX0_has_1 ?_
  refine lv_iload_n hx hb dX0_has_4 rfl (lv_at hl 1 rfl) ?_
  refine lv_iand hx hb dX0_has_5 ?_
  refine lv_topi (fun v_1 ev_1 => ?_)
  have join_4 : ∀ (x_3 : Nat) (hx_3 : x_3 < 2) (H : Heap) (locs : List Loc) (ls : Array Slot), va_P (dC, dI) vwCl [(a_f, .inr (0, [.int (g 20)]))] H → va_D A [(a_f, .inr (0, [.int (g 20)]))] → va_S A s.heap H locs → lv_has ls 2 [(0, .ref a_f), (1, .int p0)] → W p l e (headSpec (zq yX0_has cX0_has 2 (some .boolean)) ({ frames := 0, cells := 0, slots := 0, locals := 0 })).room s m ([.ref a_f, .int p0] : List Value).toArray below meth c H locs 0 0 (MQ below (va_Qi (fun (r : Int32) (u : (Nat → Int32) × (Nat → Nat) × (Nat → Nat → Int32)) => True) (fun (u : (Nat → Int32) × (Nat → Nat) × (Nat → Nat → Int32)) t9 => zc_B (dC, dI) A [(a_f, .inr (0, [.int (u.1 20)]))] [] t9) A) ([.ref a_f, .int p0] : List Value).toArray s 0 0 A) (F0 m 14 ls [.int (nI x_3)]) := by
    intro x_3 hx_3 H locs ls hP hD hS hl
    have hP9 := hP.sub (ws' := [(a_f, .inr (0, [.int (g 20)]))]) [0] rfl
    have hD9 := hD.sub (ws' := [(a_f, .inr (0, [.int (g 20)]))]) [0] (by decide) rfl
    have hK9 := hK.sub (tys' := []) [] rfl
    exact W.zret (v := (nI x_3)) hx hb hr (zn_b (show x_3 < 2 by omega)).1 (fun t9 ht hW => ⟨⟨(nI x_3), ((g), (fun _ => 0), (fun _ _ => 0)), rfl, trivial, by rw [ht]; exact hP9, va_K.moved hW.alike hK9, hD9⟩, hS.F ht⟩) hS.2.2 dX0_has_14
  refine lv_if_eq (tgt := 13) hx hb dX0_has_6 (by decide) (fun c_2 => ?_) (fun c_2 => ?_)
  · refine lv_iconst (v := 0) hx hb dX0_has_13 (by decide) ?_
    exact join_4 0 (by omega) _ _ _ (hP.sub [0] rfl) (hD.sub [0] (by decide) rfl) hS (lv_sub hl [0, 1] rfl)
  · refine lv_iconst (v := 1) hx hb dX0_has_9 (by decide) ?_
    refine lv_goto (tgt := 14) hx hb dX0_has_10 (by decide) ?_
    exact join_4 1 (by omega) _ _ _ (hP.sub [0] rfl) (hD.sub [0] (by decide) rfl) hS (lv_sub hl [0, 1] rfl)
set_option maxHeartbeats 4000000 in
set_option maxRecDepth 100000 in
theorem g_X0_carry (l : Launch) (dC : Nat → ClassId) (dI : Nat → Nat → Nat) (a_f : Nat) (g : Nat → Int32) (n : Nat → Nat) (f : Nat → Nat → Int32) (sz : Nat) : Met l yX0_carry (zq yX0_carry cX0_carry 1 (some .int)) ({ frames := 0, cells := 0, slots := 0, locals := 0 }) (va_Pc [.ref a_f] (zc_P (dC, dI) [(a_f, .inr (0, [.int (g 20)]))] [] sz)) (va_Qi (fun (r : Int32) (u : (Nat → Int32) × (Nat → Nat) × (Nat → Nat → Int32)) => True) (fun (u : (Nat → Int32) × (Nat → Nat) × (Nat → Nat → Int32)) t9 => zc_B (dC, dI) (va_A [(a_f, .inr (0, [.int (g 20)]))] sz) [(a_f, .inr (0, [.int (u.1 20)]))] [] t9) (va_A [(a_f, .inr (0, [.int (g 20)]))] sz)) 0 0 (va_A [(a_f, .inr (0, [.int (g 20)]))] sz) := by
  refine Met.ofW (cc := cX0_carry) (maxL := 1) (ret := (some .int)) (by decide) rfl ?_
  intro p e s m args below meth c s₁ B hml hv
  obtain ⟨rfl, hsz, hP, hK, hD0, hN⟩ := hv
  have hx := B.exec
  have hb := B.bytes
  have hr := B.returns
  have hts : ∀ w ∈ zw, w.before _ s = true := fun w h => atoms_spec (ws := (zq yX0_carry cX0_carry 1 (some .int))) B.pre w (List.mem_cons_of_mem _ h)
  have hown : s.vm.findClass RX0 = some m.cls := findClass_of_methodNamed B.named
  have hlocks := B.notSynchronized
  subst hsz
  have hD := hD0.self (sz := s.heap.size)
  generalize hAe : va_A [(a_f, .inr (0, [.int (g 20)]))] s.heap.size = A at hD ⊢
  have hA : ∀ q : Nat, s.heap.size ≤ q → A q := fun q h => by rw [← hAe]; exact Or.inr h
  have hS : va_S A s.heap s.heap [] := va_S.rf
  have hP : va_P (dC, dI) vwCl [(a_f, .inr (0, [.int (g 20)]))] s.heap := hP
  have hl := lv_entry ([.ref a_f]) (n := 1) (Nat.le_of_ble_eq_true rfl)
  rw [lg_entry_eq]
  generalize (lg_sl ([.ref a_f]) ++ List.replicate (1 - (lg_sl ([.ref a_f])).length) Slot.unset).toArray = ls at hl ⊢
  have hl : lv_has ls 1 [(0, .ref a_f)] := hl
  refine lv_aload_n hx hb dX0_carry_0 rfl (lv_at hl 0 rfl) ?_
  refine va_get (D := (dC, dI)) (ci := 0) (v := .int (g 20)) (C := RX0) (T := TX0) (N := 1) hx hb hts zx_0 hown hK hP 0 rfl rfl 0 (by decide) (hts (.fieldLink RX0 9 "KeyboardKit$Flags" "all" "I") zw_230) (fun _ h9 => h9) rfl dX0_carry_1 ?_
  refine lv_iconst (v := 1) hx hb dX0_carry_4 (by decide) ?_
  refine lv_iand hx hb dX0_carry_5 ?_
  refine lv_topi (fun v_1 ev_1 => ?_)
  obtain ⟨j_1, hj_1, ej_1⟩ := pk_andE (g 20) (m := 1) 1 (by decide)
  obtain rfl : v_1 = nI j_1 := ev_1.trans ej_1
  have hj_1 : j_1 < 2 := hj_1
  have hP9 := hP.sub (ws' := [(a_f, .inr (0, [.int (g 20)]))]) [0] rfl
  have hD9 := hD.sub (ws' := [(a_f, .inr (0, [.int (g 20)]))]) [0] (by decide) rfl
  have hK9 := hK.sub (tys' := []) [] rfl
  exact W.iret (v := (nI j_1)) hx hb hr (fun t9 ht hW => ⟨⟨(nI j_1), ((g), (fun _ => 0), (fun _ _ => 0)), rfl, trivial, by rw [ht]; exact hP9, va_K.moved hW.alike hK9, hD9⟩, hS.F ht⟩) hS.2.2 dX0_carry_6
set_option maxHeartbeats 4000000 in
set_option maxRecDepth 100000 in
theorem g_X0_put (l : Launch) (dC : Nat → ClassId) (dI : Nat → Nat → Nat) (a_f : Nat) (g : Nat → Int32) (n : Nat → Nat) (f : Nat → Nat → Int32) (p0 : Int32) (p1 : Int32) (sz : Nat) : Met l yX0_put (zq yX0_put cX0_put 3 none) ({ frames := 0, cells := 0, slots := 0, locals := 0 }) (va_Pc [.ref a_f, .int p0, .int p1] (zc_P (dC, dI) [(a_f, .inr (0, [.int (g 20)]))] [] sz)) (va_Qv (fun (u : (Nat → Int32) × (Nat → Nat) × (Nat → Nat → Int32)) => True) (fun (u : (Nat → Int32) × (Nat → Nat) × (Nat → Nat → Int32)) t9 => zc_B (dC, dI) (va_A [(a_f, .inr (0, [.int (g 20)]))] sz) [(a_f, .inr (0, [.int (u.1 20)]))] [] t9) (va_A [(a_f, .inr (0, [.int (g 20)]))] sz)) 0 0 (va_A [(a_f, .inr (0, [.int (g 20)]))] sz) := by
  refine Met.ofW (cc := cX0_put) (maxL := 3) (ret := none) (by decide) rfl ?_
  intro p e s m args below meth c s₁ B hml hv
  obtain ⟨rfl, hsz, hP, hK, hD0, hN⟩ := hv
  have hx := B.exec
  have hb := B.bytes
  have hr := B.returns
  have hts : ∀ w ∈ zw, w.before _ s = true := fun w h => atoms_spec (ws := (zq yX0_put cX0_put 3 none)) B.pre w (List.mem_cons_of_mem _ h)
  have hown : s.vm.findClass RX0 = some m.cls := findClass_of_methodNamed B.named
  have hlocks := B.notSynchronized
  subst hsz
  have hD := hD0.self (sz := s.heap.size)
  generalize hAe : va_A [(a_f, .inr (0, [.int (g 20)]))] s.heap.size = A at hD ⊢
  have hA : ∀ q : Nat, s.heap.size ≤ q → A q := fun q h => by rw [← hAe]; exact Or.inr h
  have hS : va_S A s.heap s.heap [] := va_S.rf
  have hP : va_P (dC, dI) vwCl [(a_f, .inr (0, [.int (g 20)]))] s.heap := hP
  have hl := lv_entry ([.ref a_f, .int p0, .int p1]) (n := 3) (Nat.le_of_ble_eq_true rfl)
  rw [lg_entry_eq]
  generalize (lg_sl ([.ref a_f, .int p0, .int p1]) ++ List.replicate (3 - (lg_sl ([.ref a_f, .int p0, .int p1])).length) Slot.unset).toArray = ls at hl ⊢
  have hl : lv_has ls 3 [(0, .ref a_f), (1, .int p0), (2, .int p1)] := hl
  refine lv_aload_n hx hb dX0_put_0 rfl (lv_at hl 0 rfl) ?_
  refine lv_iload_n hx hb dX0_put_1 rfl (lv_at hl 2 rfl) ?_
  have join_6 : ∀ (x_5 : Int32) (H : Heap) (locs : List Loc) (ls : Array Slot), va_P (dC, dI) vwCl [(a_f, .inr (0, [.int (g 20)]))] H → va_D A [(a_f, .inr (0, [.int (g 20)]))] → va_S A s.heap H locs → lv_has ls 3 [(0, .ref a_f), (1, .int p0), (2, .int p1)] → W p l e (headSpec (zq yX0_put cX0_put 3 none) ({ frames := 0, cells := 0, slots := 0, locals := 0 })).room s m ([.ref a_f, .int p0, .int p1] : List Value).toArray below meth c H locs 0 0 (MQ below (va_Qv (fun (u : (Nat → Int32) × (Nat → Nat) × (Nat → Nat → Int32)) => True) (fun (u : (Nat → Int32) × (Nat → Nat) × (Nat → Nat → Int32)) t9 => zc_B (dC, dI) A [(a_f, .inr (0, [.int (u.1 20)]))] [] t9) A) ([.ref a_f, .int p0, .int p1] : List Value).toArray s 0 0 A) (F0 m 22 ls [.int x_5, .ref a_f]) := by
    intro x_5 H locs ls hP hD hS hl
    refine va_put (D := (dC, dI)) (ci := 0) (v := .int x_5) (ty := .int) (C := RX0) (T := TX0) (N := 1) hx hb hts zx_0 tyX0 tyX0_ok nmX0 hown hK hP hD hS 0 rfl rfl 0 (by decide) (hts (.fieldLink RX0 9 "KeyboardKit$Flags" "all" "I") zw_230) (fun _ h9 => h9) rfl (by decide +kernel) rfl rfl (Nat.le_of_ble_eq_true rfl) dX0_put_22 (fun H locs hP hD hS => ?_)
    have hP : va_P (dC, dI) vwCl [(a_f, .inr (0, [.int x_5]))] H := hP
    have hD : va_D A [(a_f, .inr (0, [.int x_5]))] := hD
    have hP9 := hP.sub (ws' := [(a_f, .inr (0, [.int x_5]))]) [0] rfl
    have hD9 := hD.sub (ws' := [(a_f, .inr (0, [.int x_5]))]) [0] (by decide) rfl
    have hK9 := hK.sub (tys' := []) [] rfl
    exact W.vret hx hb hr (fun t9 ht hW => ⟨⟨((fun k9 => match k9 with  | _ => x_5), (fun _ => 0), (fun _ _ => 0)), rfl, trivial, by rw [ht]; exact hP9, va_K.moved hW.alike hK9, hD9⟩, hS.F ht⟩) hS.2.2 dX0_put_25
  refine lv_if_eq (tgt := 14) hx hb dX0_put_2 (by decide) (fun c_1 => ?_) (fun c_1 => ?_)
  · refine lv_aload_n hx hb dX0_put_14 rfl (lv_at hl 0 rfl) ?_
    refine va_get (D := (dC, dI)) (ci := 0) (v := .int (g 20)) (C := RX0) (T := TX0) (N := 1) hx hb hts zx_0 hown hK hP 0 rfl rfl 0 (by decide) (hts (.fieldLink RX0 9 "KeyboardKit$Flags" "all" "I") zw_230) (fun _ h9 => h9) rfl dX0_put_15 ?_
    refine lv_iload_n hx hb dX0_put_18 rfl (lv_at hl 1 rfl) ?_
    refine lv_iconst (v := (-1)) hx hb dX0_put_19 (by decide) ?_
    refine lv_ixor hx hb dX0_put_20 ?_
    refine lv_topi (fun v_7 ev_7 => ?_)
    refine lv_iand hx hb dX0_put_21 ?_
    refine lv_topi (fun v_8 ev_8 => ?_)
    exact join_6 v_8 _ _ _ (hP.sub [0] rfl) (hD.sub [0] (by decide) rfl) hS (lv_sub hl [0, 1, 2] rfl)
  · refine lv_aload_n hx hb dX0_put_5 rfl (lv_at hl 0 rfl) ?_
    refine va_get (D := (dC, dI)) (ci := 0) (v := .int (g 20)) (C := RX0) (T := TX0) (N := 1) hx hb hts zx_0 hown hK hP 0 rfl rfl 0 (by decide) (hts (.fieldLink RX0 9 "KeyboardKit$Flags" "all" "I") zw_230) (fun _ h9 => h9) rfl dX0_put_6 ?_
    refine lv_iload_n hx hb dX0_put_9 rfl (lv_at hl 1 rfl) ?_
    refine lv_ior hx hb dX0_put_10 ?_
    refine lv_topi (fun v_9 ev_9 => ?_)
    refine lv_goto (tgt := 22) hx hb dX0_put_11 (by decide) ?_
    exact join_6 v_9 _ _ _ (hP.sub [0] rfl) (hD.sub [0] (by decide) rfl) hS (lv_sub hl [0, 1, 2] rfl)
set_option maxHeartbeats 4000000 in
set_option maxRecDepth 100000 in
theorem g_X0_meets (l : Launch) (dC : Nat → ClassId) (dI : Nat → Nat → Nat) (a_f : Nat) (g : Nat → Int32) (n : Nat → Nat) (f : Nat → Nat → Int32) (p0 : Int32) (sz : Nat) : Met l yX0_meets (zq yX0_meets cX0_meets 3 (some .boolean)) ({ frames := 1, cells := 0, slots := 0, locals := 21 }) (va_Pc [.ref a_f, .int p0] (zc_P (dC, dI) [(a_f, .inr (0, [.int (g 20)]))] [] sz)) (va_Qi (fun (r : Int32) (u : (Nat → Int32) × (Nat → Nat) × (Nat → Nat → Int32)) => True) (fun (u : (Nat → Int32) × (Nat → Nat) × (Nat → Nat → Int32)) t9 => zc_B (dC, dI) (va_A [(a_f, .inr (0, [.int (g 20)]))] sz) [(a_f, .inr (0, [.int (u.1 20)]))] [] t9) (va_A [(a_f, .inr (0, [.int (g 20)]))] sz)) 0 0 (va_A [(a_f, .inr (0, [.int (g 20)]))] sz) := by
  refine Met.ofW (cc := cX0_meets) (maxL := 3) (ret := (some .boolean)) (by decide) rfl ?_
  intro p e s m args below meth c s₁ B hml hv
  obtain ⟨rfl, hsz, hP, hK, hD0, hN⟩ := hv
  have hx := B.exec
  have hb := B.bytes
  have hr := B.returns
  have hts : ∀ w ∈ zw, w.before _ s = true := fun w h => atoms_spec (ws := (zq yX0_meets cX0_meets 3 (some .boolean))) B.pre w (List.mem_cons_of_mem _ h)
  have hown : s.vm.findClass RX0 = some m.cls := findClass_of_methodNamed B.named
  have hlocks := B.notSynchronized
  subst hsz
  have hD := hD0.self (sz := s.heap.size)
  generalize hAe : va_A [(a_f, .inr (0, [.int (g 20)]))] s.heap.size = A at hD ⊢
  have hA : ∀ q : Nat, s.heap.size ≤ q → A q := fun q h => by rw [← hAe]; exact Or.inr h
  have hS : va_S A s.heap s.heap [] := va_S.rf
  have hP : va_P (dC, dI) vwCl [(a_f, .inr (0, [.int (g 20)]))] s.heap := hP
  have hl := lv_entry ([.ref a_f, .int p0]) (n := 3) (Nat.le_of_ble_eq_true rfl)
  rw [lg_entry_eq]
  generalize (lg_sl ([.ref a_f, .int p0]) ++ List.replicate (3 - (lg_sl ([.ref a_f, .int p0])).length) Slot.unset).toArray = ls at hl ⊢
  have hl : lv_has ls 3 [(0, .ref a_f), (1, .int p0)] := hl
  refine lv_iload_n hx hb dX0_meets_0 rfl (lv_at hl 1 rfl) ?_
  refine lv_iconst (v := 1) hx hb dX0_meets_1 (by decide) ?_
  refine lv_iand hx hb dX0_meets_2 ?_
  refine lv_topi (fun v_1 ev_1 => ?_)
  obtain ⟨j_1, hj_1, ej_1⟩ := pk_andE p0 (m := 1) 1 (by decide)
  obtain rfl : v_1 = nI j_1 := ev_1.trans ej_1
  have hj_1 : j_1 < 2 := hj_1
  refine lv_iconst (v := 1) hx hb dX0_meets_3 (by decide) ?_
  have join_4 : ∀ (x_3 : Nat) (hx_3 : x_3 < 2) (H : Heap) (locs : List Loc) (ls : Array Slot), va_P (dC, dI) vwCl [(a_f, .inr (0, [.int (g 20)]))] H → va_D A [(a_f, .inr (0, [.int (g 20)]))] → va_S A s.heap H locs → lv_has ls 3 [(0, .ref a_f), (1, .int p0)] → W p l e (headSpec (zq yX0_meets cX0_meets 3 (some .boolean)) ({ frames := 1, cells := 0, slots := 0, locals := 21 })).room s m ([.ref a_f, .int p0] : List Value).toArray below meth c H locs 0 0 (MQ below (va_Qi (fun (r : Int32) (u : (Nat → Int32) × (Nat → Nat) × (Nat → Nat → Int32)) => True) (fun (u : (Nat → Int32) × (Nat → Nat) × (Nat → Nat → Int32)) t9 => zc_B (dC, dI) A [(a_f, .inr (0, [.int (u.1 20)]))] [] t9) A) ([.ref a_f, .int p0] : List Value).toArray s 0 0 A) (F0 m 12 ls [.int (nI x_3)]) := by
    intro x_3 hx_3 H locs ls hP hD hS hl
    refine lv_istore_n (lv' := [(2, .int (nI x_3)), (0, .ref a_f), (1, .int p0)]) hx hb dX0_meets_12 rfl hl (by decide) rfl (fun ls hl => ?_)
    refine lv_iload_n hx hb dX0_meets_13 rfl (lv_at hl 2 rfl) ?_
    refine lv_iconst (v := 1) hx hb dX0_meets_14 (by decide) ?_
    refine lv_ishr hx hb dX0_meets_15 ?_
    refine lv_topi (fun v_5 ev_5 => ?_)
    rcases (show v_5 = 0 ∨ v_5 = 1 ∨ v_5 = 2 ∨ (¬ v_5 = 0 ∧ ¬ v_5 = 1 ∧ ¬ v_5 = 2) from by by_cases z0 : v_5 = 0; exact Or.inl z0; by_cases z1 : v_5 = 1; exact Or.inr (Or.inl z1); by_cases z2 : v_5 = 2; exact Or.inr (Or.inr (Or.inl z2)); exact Or.inr (Or.inr (Or.inr ⟨z0, z1, z2⟩))) with h_6 | h_6 | h_6 | h_6
    · refine zs_top (w := 0) (show v_5 = (0 : Int32) from by rw [h_6]; try rfl) ?_
      refine lv_tableIn (off := 28) (tgt := 44) hx hb dX0_meets_16 (by decide) (by decide) rfl (by decide) ?_
      refine lv_aload_n hx hb dX0_meets_44 rfl (lv_at hl 1 rfl) ?_
      refine lv_bipush (v := 64) hx hb dX0_meets_45 (by decide) ?_
      refine zc_i (wr := []) hP hD hS hA [0] [] rfl rfl (by decide) (by decide) (va_runV (As := [.int 64]) (rest := []) ⟨hx, hb, hml, hown, hts⟩ (g_X0_has l dC dI a_f g (fun _ => 0) (fun _ _ => 0) 64 _) (cwV 1 hts (zg_V zw_460 zw_410 zw_411 zw_88 zw_412) rfl rfl rfl (by decide +kernel) ⟨Nat.le_of_ble_eq_true rfl, Nat.le_of_ble_eq_true rfl⟩) ⟨zc_blind, va_recv hK hP (ci := 0) (q0 := 0) rfl rfl, zc_start hP hD hK hN [0] [] rfl (by decide) rfl⟩ rfl rfl hl.1 rfl (lv_room (Nat.le_of_ble_eq_true rfl)) dX0_meets_47 ⟨Nat.le_of_ble_eq_true rfl, Nat.le_of_ble_eq_true rfl⟩) (fun r_7 u_7 H locs hw hK1 hP hD hS => ?_)
      have hP : va_P (dC, dI) vwCl [(a_f, .inr (0, [.int (u_7.1 20)]))] H := hP
      have hD : va_D A [(a_f, .inr (0, [.int (u_7.1 20)]))] := hD
      refine lv_iload_n hx hb dX0_meets_50 rfl (lv_at hl 0 rfl) ?_
      have join_10 : ∀ (x_9 : Nat) (hx_9 : x_9 < 2) (H : Heap) (locs : List Loc) (ls : Array Slot), va_P (dC, dI) vwCl [(a_f, .inr (0, [.int (u_7.1 20)]))] H → va_D A [(a_f, .inr (0, [.int (u_7.1 20)]))] → va_S A s.heap H locs → lv_has ls 3 [(2, .int (nI x_3)), (0, .ref a_f), (1, .int p0)] → W p l e (headSpec (zq yX0_meets cX0_meets 3 (some .boolean)) ({ frames := 1, cells := 0, slots := 0, locals := 21 })).room s m ([.ref a_f, .int p0] : List Value).toArray below meth c H locs 0 0 (MQ below (va_Qi (fun (r : Int32) (u : (Nat → Int32) × (Nat → Nat) × (Nat → Nat → Int32)) => True) (fun (u : (Nat → Int32) × (Nat → Nat) × (Nat → Nat → Int32)) t9 => zc_B (dC, dI) A [(a_f, .inr (0, [.int (u.1 20)]))] [] t9) A) ([.ref a_f, .int p0] : List Value).toArray s 0 0 A) (F0 m 59 ls [.int (nI x_9)]) := by
        intro x_9 hx_9 H locs ls hP hD hS hl
        have hP9 := hP.sub (ws' := [(a_f, .inr (0, [.int (u_7.1 20)]))]) [0] rfl
        have hD9 := hD.sub (ws' := [(a_f, .inr (0, [.int (u_7.1 20)]))]) [0] (by decide) rfl
        have hK9 := hK.sub (tys' := []) [] rfl
        exact W.zret (v := (nI x_9)) hx hb hr (zn_b (show x_9 < 2 by omega)).1 (fun t9 ht hW => ⟨⟨(nI x_9), ((u_7.1), (fun _ => 0), (fun _ _ => 0)), rfl, trivial, by rw [ht]; exact hP9, va_K.moved hW.alike hK9, hD9⟩, hS.F ht⟩) hS.2.2 dX0_meets_59
      refine lv_icmp_ne (tgt := 58) hx hb dX0_meets_51 (by decide) (fun c_8 => ?_) (fun c_8 => ?_)
      · refine lv_iconst (v := 0) hx hb dX0_meets_58 (by decide) ?_
        exact join_10 0 (by omega) _ _ _ (hP.sub [0] rfl) (hD.sub [0] (by decide) rfl) hS (lv_sub hl [0, 1, 2] rfl)
      · refine lv_iconst (v := 1) hx hb dX0_meets_54 (by decide) ?_
        refine lv_goto (tgt := 59) hx hb dX0_meets_55 (by decide) ?_
        exact join_10 1 (by omega) _ _ _ (hP.sub [0] rfl) (hD.sub [0] (by decide) rfl) hS (lv_sub hl [0, 1, 2] rfl)
    · refine zs_top (w := 1) (show v_5 = (1 : Int32) from by rw [h_6]; try rfl) ?_
      refine lv_tableIn (off := 44) (tgt := 60) hx hb dX0_meets_16 (by decide) (by decide) rfl (by decide) ?_
      refine lv_aload_n hx hb dX0_meets_60 rfl (lv_at hl 1 rfl) ?_
      refine lv_iconst (v := 1) hx hb dX0_meets_61 (by decide) ?_
      refine zc_i (wr := []) hP hD hS hA [0] [] rfl rfl (by decide) (by decide) (va_runV (As := [.int 1]) (rest := []) ⟨hx, hb, hml, hown, hts⟩ (g_X0_has l dC dI a_f g (fun _ => 0) (fun _ _ => 0) 1 _) (cwV 1 hts (zg_V zw_460 zw_410 zw_411 zw_88 zw_412) rfl rfl rfl (by decide +kernel) ⟨Nat.le_of_ble_eq_true rfl, Nat.le_of_ble_eq_true rfl⟩) ⟨zc_blind, va_recv hK hP (ci := 0) (q0 := 0) rfl rfl, zc_start hP hD hK hN [0] [] rfl (by decide) rfl⟩ rfl rfl hl.1 rfl (lv_room (Nat.le_of_ble_eq_true rfl)) dX0_meets_62 ⟨Nat.le_of_ble_eq_true rfl, Nat.le_of_ble_eq_true rfl⟩) (fun r_11 u_11 H locs hw hK1 hP hD hS => ?_)
      have hP : va_P (dC, dI) vwCl [(a_f, .inr (0, [.int (u_11.1 20)]))] H := hP
      have hD : va_D A [(a_f, .inr (0, [.int (u_11.1 20)]))] := hD
      refine lv_iload_n hx hb dX0_meets_65 rfl (lv_at hl 0 rfl) ?_
      have join_14 : ∀ (x_13 : Nat) (hx_13 : x_13 < 2) (H : Heap) (locs : List Loc) (ls : Array Slot), va_P (dC, dI) vwCl [(a_f, .inr (0, [.int (u_11.1 20)]))] H → va_D A [(a_f, .inr (0, [.int (u_11.1 20)]))] → va_S A s.heap H locs → lv_has ls 3 [(2, .int (nI x_3)), (0, .ref a_f), (1, .int p0)] → W p l e (headSpec (zq yX0_meets cX0_meets 3 (some .boolean)) ({ frames := 1, cells := 0, slots := 0, locals := 21 })).room s m ([.ref a_f, .int p0] : List Value).toArray below meth c H locs 0 0 (MQ below (va_Qi (fun (r : Int32) (u : (Nat → Int32) × (Nat → Nat) × (Nat → Nat → Int32)) => True) (fun (u : (Nat → Int32) × (Nat → Nat) × (Nat → Nat → Int32)) t9 => zc_B (dC, dI) A [(a_f, .inr (0, [.int (u.1 20)]))] [] t9) A) ([.ref a_f, .int p0] : List Value).toArray s 0 0 A) (F0 m 74 ls [.int (nI x_13)]) := by
        intro x_13 hx_13 H locs ls hP hD hS hl
        have hP9 := hP.sub (ws' := [(a_f, .inr (0, [.int (u_11.1 20)]))]) [0] rfl
        have hD9 := hD.sub (ws' := [(a_f, .inr (0, [.int (u_11.1 20)]))]) [0] (by decide) rfl
        have hK9 := hK.sub (tys' := []) [] rfl
        exact W.zret (v := (nI x_13)) hx hb hr (zn_b (show x_13 < 2 by omega)).1 (fun t9 ht hW => ⟨⟨(nI x_13), ((u_11.1), (fun _ => 0), (fun _ _ => 0)), rfl, trivial, by rw [ht]; exact hP9, va_K.moved hW.alike hK9, hD9⟩, hS.F ht⟩) hS.2.2 dX0_meets_74
      refine lv_icmp_ne (tgt := 73) hx hb dX0_meets_66 (by decide) (fun c_12 => ?_) (fun c_12 => ?_)
      · refine lv_iconst (v := 0) hx hb dX0_meets_73 (by decide) ?_
        exact join_14 0 (by omega) _ _ _ (hP.sub [0] rfl) (hD.sub [0] (by decide) rfl) hS (lv_sub hl [0, 1, 2] rfl)
      · refine lv_iconst (v := 1) hx hb dX0_meets_69 (by decide) ?_
        refine lv_goto (tgt := 74) hx hb dX0_meets_70 (by decide) ?_
        exact join_14 1 (by omega) _ _ _ (hP.sub [0] rfl) (hD.sub [0] (by decide) rfl) hS (lv_sub hl [0, 1, 2] rfl)
    · refine zs_top (w := 2) (show v_5 = (2 : Int32) from by rw [h_6]; try rfl) ?_
      refine lv_tableIn (off := 59) (tgt := 75) hx hb dX0_meets_16 (by decide) (by decide) rfl (by decide) ?_
      refine lv_aload_n hx hb dX0_meets_75 rfl (lv_at hl 1 rfl) ?_
      refine lv_iconst (v := 4) hx hb dX0_meets_76 (by decide) ?_
      refine zc_i (wr := []) hP hD hS hA [0] [] rfl rfl (by decide) (by decide) (va_runV (As := [.int 4]) (rest := []) ⟨hx, hb, hml, hown, hts⟩ (g_X0_has l dC dI a_f g (fun _ => 0) (fun _ _ => 0) 4 _) (cwV 1 hts (zg_V zw_460 zw_410 zw_411 zw_88 zw_412) rfl rfl rfl (by decide +kernel) ⟨Nat.le_of_ble_eq_true rfl, Nat.le_of_ble_eq_true rfl⟩) ⟨zc_blind, va_recv hK hP (ci := 0) (q0 := 0) rfl rfl, zc_start hP hD hK hN [0] [] rfl (by decide) rfl⟩ rfl rfl hl.1 rfl (lv_room (Nat.le_of_ble_eq_true rfl)) dX0_meets_77 ⟨Nat.le_of_ble_eq_true rfl, Nat.le_of_ble_eq_true rfl⟩) (fun r_15 u_15 H locs hw hK1 hP hD hS => ?_)
      have hP : va_P (dC, dI) vwCl [(a_f, .inr (0, [.int (u_15.1 20)]))] H := hP
      have hD : va_D A [(a_f, .inr (0, [.int (u_15.1 20)]))] := hD
      refine lv_iload_n hx hb dX0_meets_80 rfl (lv_at hl 0 rfl) ?_
      have join_18 : ∀ (x_17 : Nat) (hx_17 : x_17 < 2) (H : Heap) (locs : List Loc) (ls : Array Slot), va_P (dC, dI) vwCl [(a_f, .inr (0, [.int (u_15.1 20)]))] H → va_D A [(a_f, .inr (0, [.int (u_15.1 20)]))] → va_S A s.heap H locs → lv_has ls 3 [(2, .int (nI x_3)), (0, .ref a_f), (1, .int p0)] → W p l e (headSpec (zq yX0_meets cX0_meets 3 (some .boolean)) ({ frames := 1, cells := 0, slots := 0, locals := 21 })).room s m ([.ref a_f, .int p0] : List Value).toArray below meth c H locs 0 0 (MQ below (va_Qi (fun (r : Int32) (u : (Nat → Int32) × (Nat → Nat) × (Nat → Nat → Int32)) => True) (fun (u : (Nat → Int32) × (Nat → Nat) × (Nat → Nat → Int32)) t9 => zc_B (dC, dI) A [(a_f, .inr (0, [.int (u.1 20)]))] [] t9) A) ([.ref a_f, .int p0] : List Value).toArray s 0 0 A) (F0 m 89 ls [.int (nI x_17)]) := by
        intro x_17 hx_17 H locs ls hP hD hS hl
        have hP9 := hP.sub (ws' := [(a_f, .inr (0, [.int (u_15.1 20)]))]) [0] rfl
        have hD9 := hD.sub (ws' := [(a_f, .inr (0, [.int (u_15.1 20)]))]) [0] (by decide) rfl
        have hK9 := hK.sub (tys' := []) [] rfl
        exact W.zret (v := (nI x_17)) hx hb hr (zn_b (show x_17 < 2 by omega)).1 (fun t9 ht hW => ⟨⟨(nI x_17), ((u_15.1), (fun _ => 0), (fun _ _ => 0)), rfl, trivial, by rw [ht]; exact hP9, va_K.moved hW.alike hK9, hD9⟩, hS.F ht⟩) hS.2.2 dX0_meets_89
      refine lv_icmp_ne (tgt := 88) hx hb dX0_meets_81 (by decide) (fun c_16 => ?_) (fun c_16 => ?_)
      · refine lv_iconst (v := 0) hx hb dX0_meets_88 (by decide) ?_
        exact join_18 0 (by omega) _ _ _ (hP.sub [0] rfl) (hD.sub [0] (by decide) rfl) hS (lv_sub hl [0, 1, 2] rfl)
      · refine lv_iconst (v := 1) hx hb dX0_meets_84 (by decide) ?_
        refine lv_goto (tgt := 89) hx hb dX0_meets_85 (by decide) ?_
        exact join_18 1 (by omega) _ _ _ (hP.sub [0] rfl) (hD.sub [0] (by decide) rfl) hS (lv_sub hl [0, 1, 2] rfl)
    · refine lv_tableOut (tgt := 90) hx hb dX0_meets_16 (by obtain ⟨n0, n1, n2⟩ := h_6; have m0 := lv_neT (a := 0) n0 (by decide); have m1 := lv_neT (a := 1) n1 (by decide); have m2 := lv_neT (a := 2) n2 (by decide); omega) (by decide) ?_
      refine lv_aload_n hx hb dX0_meets_90 rfl (lv_at hl 1 rfl) ?_
      refine lv_sipush (v := 128) hx hb dX0_meets_91 (by decide) ?_
      refine zc_i (wr := []) hP hD hS hA [0] [] rfl rfl (by decide) (by decide) (va_runV (As := [.int 128]) (rest := []) ⟨hx, hb, hml, hown, hts⟩ (g_X0_has l dC dI a_f g (fun _ => 0) (fun _ _ => 0) 128 _) (cwV 1 hts (zg_V zw_460 zw_410 zw_411 zw_88 zw_412) rfl rfl rfl (by decide +kernel) ⟨Nat.le_of_ble_eq_true rfl, Nat.le_of_ble_eq_true rfl⟩) ⟨zc_blind, va_recv hK hP (ci := 0) (q0 := 0) rfl rfl, zc_start hP hD hK hN [0] [] rfl (by decide) rfl⟩ rfl rfl hl.1 rfl (lv_room (Nat.le_of_ble_eq_true rfl)) dX0_meets_94 ⟨Nat.le_of_ble_eq_true rfl, Nat.le_of_ble_eq_true rfl⟩) (fun r_19 u_19 H locs hw hK1 hP hD hS => ?_)
      have hP : va_P (dC, dI) vwCl [(a_f, .inr (0, [.int (u_19.1 20)]))] H := hP
      have hD : va_D A [(a_f, .inr (0, [.int (u_19.1 20)]))] := hD
      refine lv_iload_n hx hb dX0_meets_97 rfl (lv_at hl 0 rfl) ?_
      have join_22 : ∀ (x_21 : Nat) (hx_21 : x_21 < 2) (H : Heap) (locs : List Loc) (ls : Array Slot), va_P (dC, dI) vwCl [(a_f, .inr (0, [.int (u_19.1 20)]))] H → va_D A [(a_f, .inr (0, [.int (u_19.1 20)]))] → va_S A s.heap H locs → lv_has ls 3 [(2, .int (nI x_3)), (0, .ref a_f), (1, .int p0)] → W p l e (headSpec (zq yX0_meets cX0_meets 3 (some .boolean)) ({ frames := 1, cells := 0, slots := 0, locals := 21 })).room s m ([.ref a_f, .int p0] : List Value).toArray below meth c H locs 0 0 (MQ below (va_Qi (fun (r : Int32) (u : (Nat → Int32) × (Nat → Nat) × (Nat → Nat → Int32)) => True) (fun (u : (Nat → Int32) × (Nat → Nat) × (Nat → Nat → Int32)) t9 => zc_B (dC, dI) A [(a_f, .inr (0, [.int (u.1 20)]))] [] t9) A) ([.ref a_f, .int p0] : List Value).toArray s 0 0 A) (F0 m 106 ls [.int (nI x_21)]) := by
        intro x_21 hx_21 H locs ls hP hD hS hl
        have hP9 := hP.sub (ws' := [(a_f, .inr (0, [.int (u_19.1 20)]))]) [0] rfl
        have hD9 := hD.sub (ws' := [(a_f, .inr (0, [.int (u_19.1 20)]))]) [0] (by decide) rfl
        have hK9 := hK.sub (tys' := []) [] rfl
        exact W.zret (v := (nI x_21)) hx hb hr (zn_b (show x_21 < 2 by omega)).1 (fun t9 ht hW => ⟨⟨(nI x_21), ((u_19.1), (fun _ => 0), (fun _ _ => 0)), rfl, trivial, by rw [ht]; exact hP9, va_K.moved hW.alike hK9, hD9⟩, hS.F ht⟩) hS.2.2 dX0_meets_106
      refine lv_icmp_ne (tgt := 105) hx hb dX0_meets_98 (by decide) (fun c_20 => ?_) (fun c_20 => ?_)
      · refine lv_iconst (v := 0) hx hb dX0_meets_105 (by decide) ?_
        exact join_22 0 (by omega) _ _ _ (hP.sub [0] rfl) (hD.sub [0] (by decide) rfl) hS (lv_sub hl [0, 1, 2] rfl)
      · refine lv_iconst (v := 1) hx hb dX0_meets_101 (by decide) ?_
        refine lv_goto (tgt := 106) hx hb dX0_meets_102 (by decide) ?_
        exact join_22 1 (by omega) _ _ _ (hP.sub [0] rfl) (hD.sub [0] (by decide) rfl) hS (lv_sub hl [0, 1, 2] rfl)
  by_cases h_2 : j_1 = 1
  · refine lv_icmp_ne (tgt := 11) hx hb dX0_meets_4 (by decide) (fun c_2 => absurd (show nI j_1 = nI 1 from (nI_eq (a := j_1) (b := 1) (by omega) (by omega)).mpr h_2) c_2) (fun c_2 => ?_)
    refine lv_iconst (v := 1) hx hb dX0_meets_7 (by decide) ?_
    refine lv_goto (tgt := 12) hx hb dX0_meets_8 (by decide) ?_
    exact join_4 1 (by omega) _ _ _ (hP.sub [0] rfl) (hD.sub [0] (by decide) rfl) hS (lv_sub hl [0, 1] rfl)
  · refine lv_icmp_ne (tgt := 11) hx hb dX0_meets_4 (by decide) (fun c_2 => ?_) (fun c_2 => absurd c_2 (show ¬ nI j_1 = nI 1 from fun q => h_2 ((nI_eq (a := j_1) (b := 1) (by omega) (by omega)).mp q)))
    refine lv_iconst (v := 0) hx hb dX0_meets_11 (by decide) ?_
    exact join_4 0 (by omega) _ _ _ (hP.sub [0] rfl) (hD.sub [0] (by decide) rfl) hS (lv_sub hl [0, 1] rfl)
set_option maxHeartbeats 4000000 in
set_option maxRecDepth 100000 in
theorem g_X0_sum (l : Launch) (dC : Nat → ClassId) (dI : Nat → Nat → Nat) (a_f : Nat) (g : Nat → Int32) (n : Nat → Nat) (f : Nat → Nat → Int32) (p0 : Int32) (p1 : Int32) (p2 : Int32) (sz : Nat) : Met l yX0_sum (zq yX0_sum cX0_sum 8 (some .int)) ({ frames := 1, cells := 0, slots := 0, locals := 20 }) (va_Pc [.ref a_f, .int p0, .int p1, .int p2] (zc_P (dC, dI) [(a_f, .inr (0, [.int (g 20)]))] [] sz)) (va_Qi (fun (r : Int32) (u : (Nat → Int32) × (Nat → Nat) × (Nat → Nat → Int32)) => True) (fun (u : (Nat → Int32) × (Nat → Nat) × (Nat → Nat → Int32)) t9 => zc_B (dC, dI) (va_A [(a_f, .inr (0, [.int (g 20)]))] sz) [(a_f, .inr (0, [.int (u.1 20)]))] [] t9) (va_A [(a_f, .inr (0, [.int (g 20)]))] sz)) 0 0 (va_A [(a_f, .inr (0, [.int (g 20)]))] sz) := by
  refine Met.ofW (cc := cX0_sum) (maxL := 8) (ret := (some .int)) (by decide) rfl ?_
  intro p e s m args below meth c s₁ B hml hv
  obtain ⟨rfl, hsz, hP, hK, hD0, hN⟩ := hv
  have hx := B.exec
  have hb := B.bytes
  have hr := B.returns
  have hts : ∀ w ∈ zw, w.before _ s = true := fun w h => atoms_spec (ws := (zq yX0_sum cX0_sum 8 (some .int))) B.pre w (List.mem_cons_of_mem _ h)
  have hown : s.vm.findClass RX0 = some m.cls := findClass_of_methodNamed B.named
  have hlocks := B.notSynchronized
  subst hsz
  have hD := hD0.self (sz := s.heap.size)
  generalize hAe : va_A [(a_f, .inr (0, [.int (g 20)]))] s.heap.size = A at hD ⊢
  have hA : ∀ q : Nat, s.heap.size ≤ q → A q := fun q h => by rw [← hAe]; exact Or.inr h
  have hS : va_S A s.heap s.heap [] := va_S.rf
  have hP : va_P (dC, dI) vwCl [(a_f, .inr (0, [.int (g 20)]))] s.heap := hP
  have hl := lv_entry ([.ref a_f, .int p0, .int p1, .int p2]) (n := 8) (Nat.le_of_ble_eq_true rfl)
  rw [lg_entry_eq]
  generalize (lg_sl ([.ref a_f, .int p0, .int p1, .int p2]) ++ List.replicate (8 - (lg_sl ([.ref a_f, .int p0, .int p1, .int p2])).length) Slot.unset).toArray = ls at hl ⊢
  have hl : lv_has ls 8 [(0, .ref a_f), (1, .int p0), (2, .int p1), (3, .int p2)] := hl
  refine lv_iload_n hx hb dX0_sum_0 rfl (lv_at hl 1 rfl) ?_
  refine lv_iload_n hx hb dX0_sum_1 rfl (lv_at hl 2 rfl) ?_
  refine lv_iadd hx hb dX0_sum_2 ?_
  refine lv_topi (fun v_1 ev_1 => ?_)
  refine lv_iload_n hx hb dX0_sum_3 rfl (lv_at hl 3 rfl) ?_
  refine lv_iadd hx hb dX0_sum_4 ?_
  refine lv_topi (fun v_2 ev_2 => ?_)
  refine lv_istore (lv' := [(4, .int v_2), (0, .ref a_f), (1, .int p0), (2, .int p1), (3, .int p2)]) hx hb dX0_sum_5 hl (by decide) rfl (fun ls hl => ?_)
  refine lv_iload hx hb dX0_sum_7 (lv_at hl 0 rfl) ?_
  refine lv_sipush (v := 255) hx hb dX0_sum_9 (by decide) ?_
  refine lv_iand hx hb dX0_sum_12 ?_
  refine lv_topi (fun v_3 ev_3 => ?_)
  obtain ⟨j_3, hj_3, ej_3⟩ := pk_andE v_2 (m := 255) 8 (by decide)
  obtain rfl : v_3 = nI j_3 := ev_3.trans ej_3
  have hj_3 : j_3 < 256 := hj_3
  refine lv_istore (lv' := [(5, .int (nI j_3)), (4, .int v_2), (0, .ref a_f), (1, .int p0), (2, .int p1), (3, .int p2)]) hx hb dX0_sum_13 hl (by decide) rfl (fun ls hl => ?_)
  refine lv_iload hx hb dX0_sum_15 (lv_at hl 0 rfl) ?_
  refine lv_bipush (v := 127) hx hb dX0_sum_17 (by decide) ?_
  have join_6 : ∀ (x_5 : Nat) (hx_5 : x_5 < 2) (H : Heap) (locs : List Loc) (ls : Array Slot), va_P (dC, dI) vwCl [(a_f, .inr (0, [.int (g 20)]))] H → va_D A [(a_f, .inr (0, [.int (g 20)]))] → va_S A s.heap H locs → lv_has ls 8 [(5, .int (nI j_3)), (4, .int v_2), (0, .ref a_f), (1, .int p0), (2, .int p1), (3, .int p2)] → W p l e (headSpec (zq yX0_sum cX0_sum 8 (some .int)) ({ frames := 1, cells := 0, slots := 0, locals := 20 })).room s m ([.ref a_f, .int p0, .int p1, .int p2] : List Value).toArray below meth c H locs 0 0 (MQ below (va_Qi (fun (r : Int32) (u : (Nat → Int32) × (Nat → Nat) × (Nat → Nat → Int32)) => True) (fun (u : (Nat → Int32) × (Nat → Nat) × (Nat → Nat → Int32)) t9 => zc_B (dC, dI) A [(a_f, .inr (0, [.int (u.1 20)]))] [] t9) A) ([.ref a_f, .int p0, .int p1, .int p2] : List Value).toArray s 0 0 A) (F0 m 27 ls [.int (nI x_5)]) := by
    intro x_5 hx_5 H locs ls hP hD hS hl
    refine lv_istore (lv' := [(6, .int (nI x_5)), (5, .int (nI j_3)), (4, .int v_2), (0, .ref a_f), (1, .int p0), (2, .int p1), (3, .int p2)]) hx hb dX0_sum_27 hl (by decide) rfl (fun ls hl => ?_)
    refine lv_iload_n hx hb dX0_sum_29 rfl (lv_at hl 4 rfl) ?_
    refine lv_iload hx hb dX0_sum_30 (lv_at hl 1 rfl) ?_
    refine lv_ixor hx hb dX0_sum_32 ?_
    refine lv_topi (fun v_7 ev_7 => ?_)
    refine lv_iload_n hx hb dX0_sum_33 rfl (lv_at hl 5 rfl) ?_
    refine lv_iload hx hb dX0_sum_34 (lv_at hl 1 rfl) ?_
    refine lv_ixor hx hb dX0_sum_36 ?_
    refine lv_topi (fun v_8 ev_8 => ?_)
    refine lv_iand hx hb dX0_sum_37 ?_
    refine lv_topi (fun v_9 ev_9 => ?_)
    refine lv_sipush (v := 128) hx hb dX0_sum_38 (by decide) ?_
    refine lv_iand hx hb dX0_sum_41 ?_
    refine lv_topi (fun v_10 ev_10 => ?_)
    have join_13 : ∀ (x_12 : Nat) (hx_12 : x_12 < 2) (H : Heap) (locs : List Loc) (ls : Array Slot), va_P (dC, dI) vwCl [(a_f, .inr (0, [.int (g 20)]))] H → va_D A [(a_f, .inr (0, [.int (g 20)]))] → va_S A s.heap H locs → lv_has ls 8 [(6, .int (nI x_5)), (5, .int (nI j_3)), (4, .int v_2), (0, .ref a_f), (1, .int p0), (2, .int p1), (3, .int p2)] → W p l e (headSpec (zq yX0_sum cX0_sum 8 (some .int)) ({ frames := 1, cells := 0, slots := 0, locals := 20 })).room s m ([.ref a_f, .int p0, .int p1, .int p2] : List Value).toArray below meth c H locs 0 0 (MQ below (va_Qi (fun (r : Int32) (u : (Nat → Int32) × (Nat → Nat) × (Nat → Nat → Int32)) => True) (fun (u : (Nat → Int32) × (Nat → Nat) × (Nat → Nat → Int32)) t9 => zc_B (dC, dI) A [(a_f, .inr (0, [.int (u.1 20)]))] [] t9) A) ([.ref a_f, .int p0, .int p1, .int p2] : List Value).toArray s 0 0 A) (F0 m 50 ls [.int (nI x_12)]) := by
      intro x_12 hx_12 H locs ls hP hD hS hl
      refine lv_istore (lv' := [(7, .int (nI x_12)), (6, .int (nI x_5)), (5, .int (nI j_3)), (4, .int v_2), (0, .ref a_f), (1, .int p0), (2, .int p1), (3, .int p2)]) hx hb dX0_sum_50 hl (by decide) rfl (fun ls hl => ?_)
      refine lv_aload_n hx hb dX0_sum_52 rfl (lv_at hl 4 rfl) ?_
      refine lv_iload hx hb dX0_sum_53 (lv_at hl 1 rfl) ?_
      have join_16 : ∀ (x_15 : Nat) (hx_15 : x_15 < 129) (H : Heap) (locs : List Loc) (ls : Array Slot), va_P (dC, dI) vwCl [(a_f, .inr (0, [.int (g 20)]))] H → va_D A [(a_f, .inr (0, [.int (g 20)]))] → va_S A s.heap H locs → lv_has ls 8 [(7, .int (nI x_12)), (6, .int (nI x_5)), (5, .int (nI j_3)), (4, .int v_2), (0, .ref a_f), (1, .int p0), (2, .int p1), (3, .int p2)] → W p l e (headSpec (zq yX0_sum cX0_sum 8 (some .int)) ({ frames := 1, cells := 0, slots := 0, locals := 20 })).room s m ([.ref a_f, .int p0, .int p1, .int p2] : List Value).toArray below meth c H locs 0 0 (MQ below (va_Qi (fun (r : Int32) (u : (Nat → Int32) × (Nat → Nat) × (Nat → Nat → Int32)) => True) (fun (u : (Nat → Int32) × (Nat → Nat) × (Nat → Nat → Int32)) t9 => zc_B (dC, dI) A [(a_f, .inr (0, [.int (u.1 20)]))] [] t9) A) ([.ref a_f, .int p0, .int p1, .int p2] : List Value).toArray s 0 0 A) (F0 m 65 ls [.int (nI x_15), .ref a_f]) := by
        intro x_15 hx_15 H locs ls hP hD hS hl
        refine lv_iload hx hb dX0_sum_65 (lv_at hl 2 rfl) ?_
        have join_19 : ∀ (x_18 : Nat) (hx_18 : x_18 < 65) (H : Heap) (locs : List Loc) (ls : Array Slot), va_P (dC, dI) vwCl [(a_f, .inr (0, [.int (g 20)]))] H → va_D A [(a_f, .inr (0, [.int (g 20)]))] → va_S A s.heap H locs → lv_has ls 8 [(7, .int (nI x_12)), (6, .int (nI x_5)), (5, .int (nI j_3)), (4, .int v_2), (0, .ref a_f), (1, .int p0), (2, .int p1), (3, .int p2)] → W p l e (headSpec (zq yX0_sum cX0_sum 8 (some .int)) ({ frames := 1, cells := 0, slots := 0, locals := 20 })).room s m ([.ref a_f, .int p0, .int p1, .int p2] : List Value).toArray below meth c H locs 0 0 (MQ below (va_Qi (fun (r : Int32) (u : (Nat → Int32) × (Nat → Nat) × (Nat → Nat → Int32)) => True) (fun (u : (Nat → Int32) × (Nat → Nat) × (Nat → Nat → Int32)) t9 => zc_B (dC, dI) A [(a_f, .inr (0, [.int (u.1 20)]))] [] t9) A) ([.ref a_f, .int p0, .int p1, .int p2] : List Value).toArray s 0 0 A) (F0 m 76 ls [.int (nI x_18), .int (nI x_15), .ref a_f]) := by
          intro x_18 hx_18 H locs ls hP hD hS hl
          refine lv_ior hx hb dX0_sum_76 ?_
          refine lv_topi (fun v_20 ev_20 => ?_)
          refine lv_iload hx hb dX0_sum_77 (lv_at hl 0 rfl) ?_
          refine lv_iload hx hb dX0_sum_79 (lv_at hl 1 rfl) ?_
          have join_23 : ∀ (x_22 : Nat) (hx_22 : x_22 < 33) (H : Heap) (locs : List Loc) (ls : Array Slot), va_P (dC, dI) vwCl [(a_f, .inr (0, [.int (g 20)]))] H → va_D A [(a_f, .inr (0, [.int (g 20)]))] → va_S A s.heap H locs → lv_has ls 8 [(7, .int (nI x_12)), (6, .int (nI x_5)), (5, .int (nI j_3)), (4, .int v_2), (0, .ref a_f), (1, .int p0), (2, .int p1), (3, .int p2)] → W p l e (headSpec (zq yX0_sum cX0_sum 8 (some .int)) ({ frames := 1, cells := 0, slots := 0, locals := 20 })).room s m ([.ref a_f, .int p0, .int p1, .int p2] : List Value).toArray below meth c H locs 0 0 (MQ below (va_Qi (fun (r : Int32) (u : (Nat → Int32) × (Nat → Nat) × (Nat → Nat → Int32)) => True) (fun (u : (Nat → Int32) × (Nat → Nat) × (Nat → Nat → Int32)) t9 => zc_B (dC, dI) A [(a_f, .inr (0, [.int (u.1 20)]))] [] t9) A) ([.ref a_f, .int p0, .int p1, .int p2] : List Value).toArray s 0 0 A) (F0 m 90 ls [.int (nI x_22), .int v_20, .ref a_f]) := by
            intro x_22 hx_22 H locs ls hP hD hS hl
            refine lv_ior hx hb dX0_sum_90 ?_
            refine lv_topi (fun v_24 ev_24 => ?_)
            refine lv_iload_n hx hb dX0_sum_91 rfl (lv_at hl 5 rfl) ?_
            refine lv_bipush (v := 15) hx hb dX0_sum_92 (by decide) ?_
            refine lv_iand hx hb dX0_sum_94 ?_
            refine lv_topi (fun v_25 ev_25 => ?_)
            obtain ⟨j_25, hj_25, ej_25⟩ := pk_andE p0 (m := 15) 4 (by decide)
            obtain rfl : v_25 = nI j_25 := ev_25.trans ej_25
            have hj_25 : j_25 < 16 := hj_25
            refine lv_iload_n hx hb dX0_sum_95 rfl (lv_at hl 6 rfl) ?_
            refine lv_bipush (v := 15) hx hb dX0_sum_96 (by decide) ?_
            refine lv_iand hx hb dX0_sum_98 ?_
            refine lv_topi (fun v_26 ev_26 => ?_)
            obtain ⟨j_26, hj_26, ej_26⟩ := pk_andE p1 (m := 15) 4 (by decide)
            obtain rfl : v_26 = nI j_26 := ev_26.trans ej_26
            have hj_26 : j_26 < 16 := hj_26
            refine lv_iadd hx hb dX0_sum_99 ?_
            refine lv_topi (fun v_27 ev_27 => ?_)
            obtain rfl : v_27 = nI (j_25 + j_26) := ev_27.trans (nI_add j_25 j_26)
            refine lv_iload_n hx hb dX0_sum_100 rfl (lv_at hl 7 rfl) ?_
            refine lv_iadd hx hb dX0_sum_101 ?_
            refine lv_topi (fun v_28 ev_28 => ?_)
            refine lv_bipush (v := 15) hx hb dX0_sum_102 (by decide) ?_
            have join_31 : ∀ (x_30 : Nat) (hx_30 : x_30 < 17) (H : Heap) (locs : List Loc) (ls : Array Slot), va_P (dC, dI) vwCl [(a_f, .inr (0, [.int (g 20)]))] H → va_D A [(a_f, .inr (0, [.int (g 20)]))] → va_S A s.heap H locs → lv_has ls 8 [(7, .int (nI x_12)), (6, .int (nI x_5)), (5, .int (nI j_3)), (4, .int v_2), (0, .ref a_f), (1, .int p0), (2, .int p1), (3, .int p2)] → W p l e (headSpec (zq yX0_sum cX0_sum 8 (some .int)) ({ frames := 1, cells := 0, slots := 0, locals := 20 })).room s m ([.ref a_f, .int p0, .int p1, .int p2] : List Value).toArray below meth c H locs 0 0 (MQ below (va_Qi (fun (r : Int32) (u : (Nat → Int32) × (Nat → Nat) × (Nat → Nat → Int32)) => True) (fun (u : (Nat → Int32) × (Nat → Nat) × (Nat → Nat → Int32)) t9 => zc_B (dC, dI) A [(a_f, .inr (0, [.int (u.1 20)]))] [] t9) A) ([.ref a_f, .int p0, .int p1, .int p2] : List Value).toArray s 0 0 A) (F0 m 113 ls [.int (nI x_30), .int v_24, .ref a_f]) := by
              intro x_30 hx_30 H locs ls hP hD hS hl
              refine lv_ior hx hb dX0_sum_113 ?_
              refine lv_topi (fun v_32 ev_32 => ?_)
              refine lv_iload hx hb dX0_sum_114 (lv_at hl 2 rfl) ?_
              refine zc_i (wr := [(a_f, .inr (0, [.int (g 20)]))]) hP hD hS hA [] [0] rfl rfl (by decide) (by decide) (va_runS (As := [.int (nI j_3)]) (rest := [.int v_32, .ref a_f]) ⟨hx, hb, hml, hown, hts⟩ (g_bitCount l dC dI (fun _ => 0) (fun _ => 0) (fun _ _ => 0) (nI j_3) _) (va_cwS 1 hts (zg_S zw_421 zw_422 zw_91 zw_423) rfl rfl rfl (by decide +kernel) ⟨Nat.le_of_ble_eq_true rfl, Nat.le_of_ble_eq_true rfl⟩) ⟨zc_blind, zc_start hP hD hK hN [] [] rfl (by decide) rfl⟩ rfl rfl hl.1 rfl (lv_room (Nat.le_of_ble_eq_true rfl)) dX0_sum_116 ⟨Nat.le_of_ble_eq_true rfl, Nat.le_of_ble_eq_true rfl⟩) (fun r_33 u_33 H locs hw hK1 hP hD hS => ?_)
              have hP : va_P (dC, dI) vwCl [(a_f, .inr (0, [.int (g 20)]))] H := hP
              have hD : va_D A [(a_f, .inr (0, [.int (g 20)]))] := hD
              refine lv_iconst (v := 2) hx hb dX0_sum_119 (by decide) ?_
              refine lv_irem hx hb dX0_sum_120 (by decide) ?_
              refine lv_topi (fun v_34 ev_34 => ?_)
              have join_37 : ∀ (x_36 : Nat) (hx_36 : x_36 < 5) (H : Heap) (locs : List Loc) (ls : Array Slot), va_P (dC, dI) vwCl [(a_f, .inr (0, [.int (g 20)]))] H → va_D A [(a_f, .inr (0, [.int (g 20)]))] → va_S A s.heap H locs → lv_has ls 8 [(7, .int (nI x_12)), (6, .int (nI x_5)), (5, .int (nI j_3)), (4, .int v_2), (0, .ref a_f), (1, .int p0), (2, .int p1), (3, .int p2)] → W p l e (headSpec (zq yX0_sum cX0_sum 8 (some .int)) ({ frames := 1, cells := 0, slots := 0, locals := 20 })).room s m ([.ref a_f, .int p0, .int p1, .int p2] : List Value).toArray below meth c H locs 0 0 (MQ below (va_Qi (fun (r : Int32) (u : (Nat → Int32) × (Nat → Nat) × (Nat → Nat → Int32)) => True) (fun (u : (Nat → Int32) × (Nat → Nat) × (Nat → Nat → Int32)) t9 => zc_B (dC, dI) A [(a_f, .inr (0, [.int (u.1 20)]))] [] t9) A) ([.ref a_f, .int p0, .int p1, .int p2] : List Value).toArray s 0 0 A) (F0 m 129 ls [.int (nI x_36), .int v_32, .ref a_f]) := by
                intro x_36 hx_36 H locs ls hP hD hS hl
                refine lv_ior hx hb dX0_sum_129 ?_
                refine lv_topi (fun v_38 ev_38 => ?_)
                refine lv_iload hx hb dX0_sum_130 (lv_at hl 0 rfl) ?_
                have join_41 : ∀ (x_40 : Nat) (hx_40 : x_40 < 3) (H : Heap) (locs : List Loc) (ls : Array Slot), va_P (dC, dI) vwCl [(a_f, .inr (0, [.int (g 20)]))] H → va_D A [(a_f, .inr (0, [.int (g 20)]))] → va_S A s.heap H locs → lv_has ls 8 [(7, .int (nI x_12)), (6, .int (nI x_5)), (5, .int (nI j_3)), (4, .int v_2), (0, .ref a_f), (1, .int p0), (2, .int p1), (3, .int p2)] → W p l e (headSpec (zq yX0_sum cX0_sum 8 (some .int)) ({ frames := 1, cells := 0, slots := 0, locals := 20 })).room s m ([.ref a_f, .int p0, .int p1, .int p2] : List Value).toArray below meth c H locs 0 0 (MQ below (va_Qi (fun (r : Int32) (u : (Nat → Int32) × (Nat → Nat) × (Nat → Nat → Int32)) => True) (fun (u : (Nat → Int32) × (Nat → Nat) × (Nat → Nat → Int32)) t9 => zc_B (dC, dI) A [(a_f, .inr (0, [.int (u.1 20)]))] [] t9) A) ([.ref a_f, .int p0, .int p1, .int p2] : List Value).toArray s 0 0 A) (F0 m 140 ls [.int (nI x_40), .int v_38, .ref a_f]) := by
                  intro x_40 hx_40 H locs ls hP hD hS hl
                  refine lv_ior hx hb dX0_sum_140 ?_
                  refine lv_topi (fun v_42 ev_42 => ?_)
                  refine lv_iload hx hb dX0_sum_141 (lv_at hl 3 rfl) ?_
                  refine lv_sipush (v := 255) hx hb dX0_sum_143 (by decide) ?_
                  have join_45 : ∀ (x_44 : Nat) (hx_44 : x_44 < 2) (H : Heap) (locs : List Loc) (ls : Array Slot), va_P (dC, dI) vwCl [(a_f, .inr (0, [.int (g 20)]))] H → va_D A [(a_f, .inr (0, [.int (g 20)]))] → va_S A s.heap H locs → lv_has ls 8 [(7, .int (nI x_12)), (6, .int (nI x_5)), (5, .int (nI j_3)), (4, .int v_2), (0, .ref a_f), (1, .int p0), (2, .int p1), (3, .int p2)] → W p l e (headSpec (zq yX0_sum cX0_sum 8 (some .int)) ({ frames := 1, cells := 0, slots := 0, locals := 20 })).room s m ([.ref a_f, .int p0, .int p1, .int p2] : List Value).toArray below meth c H locs 0 0 (MQ below (va_Qi (fun (r : Int32) (u : (Nat → Int32) × (Nat → Nat) × (Nat → Nat → Int32)) => True) (fun (u : (Nat → Int32) × (Nat → Nat) × (Nat → Nat → Int32)) t9 => zc_B (dC, dI) A [(a_f, .inr (0, [.int (u.1 20)]))] [] t9) A) ([.ref a_f, .int p0, .int p1, .int p2] : List Value).toArray s 0 0 A) (F0 m 154 ls [.int (nI x_44), .int v_42, .ref a_f]) := by
                    intro x_44 hx_44 H locs ls hP hD hS hl
                    refine lv_ior hx hb dX0_sum_154 ?_
                    refine lv_topi (fun v_46 ev_46 => ?_)
                    refine va_put (D := (dC, dI)) (ci := 0) (v := .int v_46) (ty := .int) (C := RX0) (T := TX0) (N := 1) hx hb hts zx_0 tyX0 tyX0_ok nmX0 hown hK hP hD hS 0 rfl rfl 0 (by decide) (hts (.fieldLink RX0 9 "KeyboardKit$Flags" "all" "I") zw_230) (fun _ h9 => h9) rfl (by decide +kernel) rfl rfl (Nat.le_of_ble_eq_true rfl) dX0_sum_155 (fun H locs hP hD hS => ?_)
                    have hP : va_P (dC, dI) vwCl [(a_f, .inr (0, [.int v_46]))] H := hP
                    have hD : va_D A [(a_f, .inr (0, [.int v_46]))] := hD
                    refine lv_iload hx hb dX0_sum_158 (lv_at hl 2 rfl) ?_
                    have hP9 := hP.sub (ws' := [(a_f, .inr (0, [.int v_46]))]) [0] rfl
                    have hD9 := hD.sub (ws' := [(a_f, .inr (0, [.int v_46]))]) [0] (by decide) rfl
                    have hK9 := hK.sub (tys' := []) [] rfl
                    exact W.iret (v := (nI j_3)) hx hb hr (fun t9 ht hW => ⟨⟨(nI j_3), ((fun k9 => match k9 with  | _ => v_46), (fun _ => 0), (fun _ _ => 0)), rfl, trivial, by rw [ht]; exact hP9, va_K.moved hW.alike hK9, hD9⟩, hS.F ht⟩) hS.2.2 dX0_sum_160
                  refine lv_icmp_le (tgt := 153) hx hb dX0_sum_146 (by decide) (fun c_43 => ?_) (fun c_43 => ?_)
                  · refine lv_iconst (v := 0) hx hb dX0_sum_153 (by decide) ?_
                    exact join_45 0 (by omega) _ _ _ (hP.sub [0] rfl) (hD.sub [0] (by decide) rfl) hS (lv_sub hl [0, 1, 2, 3, 4, 5, 6, 7] rfl)
                  · refine lv_iconst (v := 1) hx hb dX0_sum_149 (by decide) ?_
                    refine lv_goto (tgt := 154) hx hb dX0_sum_150 (by decide) ?_
                    exact join_45 1 (by omega) _ _ _ (hP.sub [0] rfl) (hD.sub [0] (by decide) rfl) hS (lv_sub hl [0, 1, 2, 3, 4, 5, 6, 7] rfl)
                by_cases h_39 : x_12 = 0
                · refine lv_if_eq (tgt := 139) hx hb dX0_sum_132 (by decide) (fun c_39 => ?_) (fun c_39 => absurd (show nI x_12 = nI 0 from (nI_eq (a := x_12) (b := 0) (by omega) (by omega)).mpr h_39) c_39)
                  refine lv_iconst (v := 0) hx hb dX0_sum_139 (by decide) ?_
                  exact join_41 0 (by omega) _ _ _ (hP.sub [0] rfl) (hD.sub [0] (by decide) rfl) hS (lv_sub hl [0, 1, 2, 3, 4, 5, 6, 7] rfl)
                · refine lv_if_eq (tgt := 139) hx hb dX0_sum_132 (by decide) (fun c_39 => absurd c_39 (show ¬ nI x_12 = nI 0 from fun q => h_39 ((nI_eq (a := x_12) (b := 0) (by omega) (by omega)).mp q))) (fun c_39 => ?_)
                  refine lv_iconst (v := 2) hx hb dX0_sum_135 (by decide) ?_
                  refine lv_goto (tgt := 140) hx hb dX0_sum_136 (by decide) ?_
                  exact join_41 2 (by omega) _ _ _ (hP.sub [0] rfl) (hD.sub [0] (by decide) rfl) hS (lv_sub hl [0, 1, 2, 3, 4, 5, 6, 7] rfl)
              refine lv_if_ne (tgt := 128) hx hb dX0_sum_121 (by decide) (fun c_35 => ?_) (fun c_35 => ?_)
              · refine lv_iconst (v := 0) hx hb dX0_sum_128 (by decide) ?_
                exact join_37 0 (by omega) _ _ _ (hP.sub [0] rfl) (hD.sub [0] (by decide) rfl) hS (lv_sub hl [0, 1, 2, 3, 4, 5, 6, 7] rfl)
              · refine lv_iconst (v := 4) hx hb dX0_sum_124 (by decide) ?_
                refine lv_goto (tgt := 129) hx hb dX0_sum_125 (by decide) ?_
                exact join_37 4 (by omega) _ _ _ (hP.sub [0] rfl) (hD.sub [0] (by decide) rfl) hS (lv_sub hl [0, 1, 2, 3, 4, 5, 6, 7] rfl)
            refine lv_icmp_le (tgt := 112) hx hb dX0_sum_104 (by decide) (fun c_29 => ?_) (fun c_29 => ?_)
            · refine lv_iconst (v := 0) hx hb dX0_sum_112 (by decide) ?_
              exact join_31 0 (by omega) _ _ _ (hP.sub [0] rfl) (hD.sub [0] (by decide) rfl) hS (lv_sub hl [0, 1, 2, 3, 4, 5, 6, 7] rfl)
            · refine lv_bipush (v := 16) hx hb dX0_sum_107 (by decide) ?_
              refine lv_goto (tgt := 113) hx hb dX0_sum_109 (by decide) ?_
              exact join_31 16 (by omega) _ _ _ (hP.sub [0] rfl) (hD.sub [0] (by decide) rfl) hS (lv_sub hl [0, 1, 2, 3, 4, 5, 6, 7] rfl)
          by_cases h_21 : x_12 = x_5
          · refine lv_icmp_eq (tgt := 89) hx hb dX0_sum_81 (by decide) (fun c_21 => ?_) (fun c_21 => absurd (show nI x_12 = nI x_5 from (nI_eq (a := x_12) (b := x_5) (by omega) (by omega)).mpr h_21) c_21)
            refine lv_iconst (v := 0) hx hb dX0_sum_89 (by decide) ?_
            exact join_23 0 (by omega) _ _ _ (hP.sub [0] rfl) (hD.sub [0] (by decide) rfl) hS (lv_sub hl [0, 1, 2, 3, 4, 5, 6, 7] rfl)
          · refine lv_icmp_eq (tgt := 89) hx hb dX0_sum_81 (by decide) (fun c_21 => absurd c_21 (show ¬ nI x_12 = nI x_5 from fun q => h_21 ((nI_eq (a := x_12) (b := x_5) (by omega) (by omega)).mp q))) (fun c_21 => ?_)
            refine lv_bipush (v := 32) hx hb dX0_sum_84 (by decide) ?_
            refine lv_goto (tgt := 90) hx hb dX0_sum_86 (by decide) ?_
            exact join_23 32 (by omega) _ _ _ (hP.sub [0] rfl) (hD.sub [0] (by decide) rfl) hS (lv_sub hl [0, 1, 2, 3, 4, 5, 6, 7] rfl)
        by_cases h_17 : j_3 = 0
        · refine lv_if_ne (tgt := 75) hx hb dX0_sum_67 (by decide) (fun c_17 => absurd (show nI j_3 = nI 0 from (nI_eq (a := j_3) (b := 0) (by omega) (by omega)).mpr h_17) c_17) (fun c_17 => ?_)
          refine lv_bipush (v := 64) hx hb dX0_sum_70 (by decide) ?_
          refine lv_goto (tgt := 76) hx hb dX0_sum_72 (by decide) ?_
          exact join_19 64 (by omega) _ _ _ (hP.sub [0] rfl) (hD.sub [0] (by decide) rfl) hS (lv_sub hl [0, 1, 2, 3, 4, 5, 6, 7] rfl)
        · refine lv_if_ne (tgt := 75) hx hb dX0_sum_67 (by decide) (fun c_17 => ?_) (fun c_17 => absurd c_17 (show ¬ nI j_3 = nI 0 from fun q => h_17 ((nI_eq (a := j_3) (b := 0) (by omega) (by omega)).mp q)))
          refine lv_iconst (v := 0) hx hb dX0_sum_75 (by decide) ?_
          exact join_19 0 (by omega) _ _ _ (hP.sub [0] rfl) (hD.sub [0] (by decide) rfl) hS (lv_sub hl [0, 1, 2, 3, 4, 5, 6, 7] rfl)
      by_cases h_14 : x_5 = 0
      · refine lv_if_eq (tgt := 64) hx hb dX0_sum_55 (by decide) (fun c_14 => ?_) (fun c_14 => absurd (show nI x_5 = nI 0 from (nI_eq (a := x_5) (b := 0) (by omega) (by omega)).mpr h_14) c_14)
        refine lv_iconst (v := 0) hx hb dX0_sum_64 (by decide) ?_
        exact join_16 0 (by omega) _ _ _ (hP.sub [0] rfl) (hD.sub [0] (by decide) rfl) hS (lv_sub hl [0, 1, 2, 3, 4, 5, 6, 7] rfl)
      · refine lv_if_eq (tgt := 64) hx hb dX0_sum_55 (by decide) (fun c_14 => absurd c_14 (show ¬ nI x_5 = nI 0 from fun q => h_14 ((nI_eq (a := x_5) (b := 0) (by omega) (by omega)).mp q))) (fun c_14 => ?_)
        refine lv_sipush (v := 128) hx hb dX0_sum_58 (by decide) ?_
        refine lv_goto (tgt := 65) hx hb dX0_sum_61 (by decide) ?_
        exact join_16 128 (by omega) _ _ _ (hP.sub [0] rfl) (hD.sub [0] (by decide) rfl) hS (lv_sub hl [0, 1, 2, 3, 4, 5, 6, 7] rfl)
    refine lv_if_eq (tgt := 49) hx hb dX0_sum_42 (by decide) (fun c_11 => ?_) (fun c_11 => ?_)
    · refine lv_iconst (v := 0) hx hb dX0_sum_49 (by decide) ?_
      exact join_13 0 (by omega) _ _ _ (hP.sub [0] rfl) (hD.sub [0] (by decide) rfl) hS (lv_sub hl [0, 1, 2, 3, 4, 5, 6] rfl)
    · refine lv_iconst (v := 1) hx hb dX0_sum_45 (by decide) ?_
      refine lv_goto (tgt := 50) hx hb dX0_sum_46 (by decide) ?_
      exact join_13 1 (by omega) _ _ _ (hP.sub [0] rfl) (hD.sub [0] (by decide) rfl) hS (lv_sub hl [0, 1, 2, 3, 4, 5, 6] rfl)
  by_cases h_4 : j_3 ≤ 127
  · refine lv_icmp_le (tgt := 26) hx hb dX0_sum_19 (by decide) (fun c_4 => ?_) (fun c_4 => absurd (show nI j_3 ≤ nI 127 from (nI_leI (a := j_3) (b := 127) (by omega) (by omega)).mpr h_4) c_4)
    refine lv_iconst (v := 0) hx hb dX0_sum_26 (by decide) ?_
    exact join_6 0 (by omega) _ _ _ (hP.sub [0] rfl) (hD.sub [0] (by decide) rfl) hS (lv_sub hl [0, 1, 2, 3, 4, 5] rfl)
  · refine lv_icmp_le (tgt := 26) hx hb dX0_sum_19 (by decide) (fun c_4 => absurd c_4 (show ¬ nI j_3 ≤ nI 127 from fun q => h_4 ((nI_leI (a := j_3) (b := 127) (by omega) (by omega)).mp q))) (fun c_4 => ?_)
    refine lv_iconst (v := 1) hx hb dX0_sum_22 (by decide) ?_
    refine lv_goto (tgt := 27) hx hb dX0_sum_23 (by decide) ?_
    exact join_6 1 (by omega) _ _ _ (hP.sub [0] rfl) (hD.sub [0] (by decide) rfl) hS (lv_sub hl [0, 1, 2, 3, 4, 5] rfl)
set_option maxHeartbeats 4000000 in
set_option maxRecDepth 100000 in
theorem g_X0_difference (l : Launch) (dC : Nat → ClassId) (dI : Nat → Nat → Nat) (a_f : Nat) (g : Nat → Int32) (n : Nat → Nat) (f : Nat → Nat → Int32) (p0 : Int32) (p1 : Int32) (p2 : Int32) (sz : Nat) : Met l yX0_difference (zq yX0_difference cX0_difference 5 (some .int)) ({ frames := 2, cells := 0, slots := 0, locals := 47 }) (va_Pc [.ref a_f, .int p0, .int p1, .int p2] (zc_P (dC, dI) [(a_f, .inr (0, [.int (g 20)]))] [] sz)) (va_Qi (fun (r : Int32) (u : (Nat → Int32) × (Nat → Nat) × (Nat → Nat → Int32)) => True) (fun (u : (Nat → Int32) × (Nat → Nat) × (Nat → Nat → Int32)) t9 => zc_B (dC, dI) (va_A [(a_f, .inr (0, [.int (g 20)]))] sz) [(a_f, .inr (0, [.int (u.1 20)]))] [] t9) (va_A [(a_f, .inr (0, [.int (g 20)]))] sz)) 0 0 (va_A [(a_f, .inr (0, [.int (g 20)]))] sz) := by
  refine Met.ofW (cc := cX0_difference) (maxL := 5) (ret := (some .int)) (by decide) rfl ?_
  intro p e s m args below meth c s₁ B hml hv
  obtain ⟨rfl, hsz, hP, hK, hD0, hN⟩ := hv
  have hx := B.exec
  have hb := B.bytes
  have hr := B.returns
  have hts : ∀ w ∈ zw, w.before _ s = true := fun w h => atoms_spec (ws := (zq yX0_difference cX0_difference 5 (some .int))) B.pre w (List.mem_cons_of_mem _ h)
  have hown : s.vm.findClass RX0 = some m.cls := findClass_of_methodNamed B.named
  have hlocks := B.notSynchronized
  subst hsz
  have hD := hD0.self (sz := s.heap.size)
  generalize hAe : va_A [(a_f, .inr (0, [.int (g 20)]))] s.heap.size = A at hD ⊢
  have hA : ∀ q : Nat, s.heap.size ≤ q → A q := fun q h => by rw [← hAe]; exact Or.inr h
  have hS : va_S A s.heap s.heap [] := va_S.rf
  have hP : va_P (dC, dI) vwCl [(a_f, .inr (0, [.int (g 20)]))] s.heap := hP
  have hl := lv_entry ([.ref a_f, .int p0, .int p1, .int p2]) (n := 5) (Nat.le_of_ble_eq_true rfl)
  rw [lg_entry_eq]
  generalize (lg_sl ([.ref a_f, .int p0, .int p1, .int p2]) ++ List.replicate (5 - (lg_sl ([.ref a_f, .int p0, .int p1, .int p2])).length) Slot.unset).toArray = ls at hl ⊢
  have hl : lv_has ls 5 [(0, .ref a_f), (1, .int p0), (2, .int p1), (3, .int p2)] := hl
  refine lv_aload_n hx hb dX0_difference_0 rfl (lv_at hl 0 rfl) ?_
  refine lv_iload_n hx hb dX0_difference_1 rfl (lv_at hl 1 rfl) ?_
  refine lv_sipush (v := 255) hx hb dX0_difference_2 (by decide) ?_
  refine lv_iload_n hx hb dX0_difference_5 rfl (lv_at hl 2 rfl) ?_
  refine lv_isub hx hb dX0_difference_6 ?_
  refine lv_topi (fun v_1 ev_1 => ?_)
  refine lv_iconst (v := 1) hx hb dX0_difference_7 (by decide) ?_
  refine lv_iload_n hx hb dX0_difference_8 rfl (lv_at hl 3 rfl) ?_
  refine lv_isub hx hb dX0_difference_9 ?_
  refine lv_topi (fun v_2 ev_2 => ?_)
  refine zc_i (wr := []) hP hD hS hA [0] [] rfl rfl (by decide) (by decide) (va_runV (As := [.int p0, .int v_1, .int v_2]) (rest := []) ⟨hx, hb, hml, hown, hts⟩ (g_X0_sum l dC dI a_f g (fun _ => 0) (fun _ _ => 0) p0 v_1 v_2 _) (cwV 3 hts (zg_V zw_439 zw_418 zw_419 zw_88 zw_420) rfl rfl rfl (by decide +kernel) ⟨Nat.le_of_ble_eq_true rfl, Nat.le_of_ble_eq_true rfl⟩) ⟨zc_blind, va_recv hK hP (ci := 0) (q0 := 0) rfl rfl, zc_start hP hD hK hN [0] [] rfl (by decide) rfl⟩ rfl rfl hl.1 rfl (lv_room (Nat.le_of_ble_eq_true rfl)) dX0_difference_10 ⟨Nat.le_of_ble_eq_true rfl, Nat.le_of_ble_eq_true rfl⟩) (fun r_3 u_3 H locs hw hK1 hP hD hS => ?_)
  have hP : va_P (dC, dI) vwCl [(a_f, .inr (0, [.int (u_3.1 20)]))] H := hP
  have hD : va_D A [(a_f, .inr (0, [.int (u_3.1 20)]))] := hD
  refine lv_istore (lv' := [(4, .int r_3), (0, .ref a_f), (1, .int p0), (2, .int p1), (3, .int p2)]) hx hb dX0_difference_13 hl (by decide) rfl (fun ls hl => ?_)
  refine lv_aload_n hx hb dX0_difference_15 rfl (lv_at hl 1 rfl) ?_
  refine lv_dup hx hb dX0_difference_16 rfl ?_
  refine va_get (D := (dC, dI)) (ci := 0) (v := .int (u_3.1 20)) (C := RX0) (T := TX0) (N := 1) hx hb hts zx_0 hown hK hP 0 rfl rfl 0 (by decide) (hts (.fieldLink RX0 9 "KeyboardKit$Flags" "all" "I") zw_230) (fun _ h9 => h9) rfl dX0_difference_17 ?_
  refine lv_iconst (v := 1) hx hb dX0_difference_20 (by decide) ?_
  refine lv_ixor hx hb dX0_difference_21 ?_
  refine lv_topi (fun v_4 ev_4 => ?_)
  refine va_put (D := (dC, dI)) (ci := 0) (v := .int v_4) (ty := .int) (C := RX0) (T := TX0) (N := 1) hx hb hts zx_0 tyX0 tyX0_ok nmX0 hown hK hP hD hS 0 rfl rfl 0 (by decide) (hts (.fieldLink RX0 9 "KeyboardKit$Flags" "all" "I") zw_230) (fun _ h9 => h9) rfl (by decide +kernel) rfl rfl (Nat.le_of_ble_eq_true rfl) dX0_difference_22 (fun H locs hP hD hS => ?_)
  have hP : va_P (dC, dI) vwCl [(a_f, .inr (0, [.int v_4]))] H := hP
  have hD : va_D A [(a_f, .inr (0, [.int v_4]))] := hD
  refine lv_iload hx hb dX0_difference_25 (lv_at hl 0 rfl) ?_
  have hP9 := hP.sub (ws' := [(a_f, .inr (0, [.int v_4]))]) [0] rfl
  have hD9 := hD.sub (ws' := [(a_f, .inr (0, [.int v_4]))]) [0] (by decide) rfl
  have hK9 := hK.sub (tys' := []) [] rfl
  exact W.iret (v := r_3) hx hb hr (fun t9 ht hW => ⟨⟨r_3, ((fun k9 => match k9 with  | _ => v_4), (fun _ => 0), (fun _ _ => 0)), rfl, trivial, by rw [ht]; exact hP9, va_K.moved hW.alike hK9, hD9⟩, hS.F ht⟩) hS.2.2 dX0_difference_27
set_option maxHeartbeats 4000000 in
set_option maxRecDepth 100000 in
theorem g_X0_bitwise (l : Launch) (dC : Nat → ClassId) (dI : Nat → Nat → Nat) (a_f : Nat) (g : Nat → Int32) (n : Nat → Nat) (f : Nat → Nat → Int32) (p0 : Int32) (p1 : Int32) (sz : Nat) : Met l yX0_bitwise (zq yX0_bitwise cX0_bitwise 3 (some .int)) ({ frames := 2, cells := 0, slots := 0, locals := 47 }) (va_Pc [.ref a_f, .int p0, .int p1] (zc_P (dC, dI) [(a_f, .inr (0, [.int (g 20)]))] [] sz)) (va_Qi (fun (r : Int32) (u : (Nat → Int32) × (Nat → Nat) × (Nat → Nat → Int32)) => True) (fun (u : (Nat → Int32) × (Nat → Nat) × (Nat → Nat → Int32)) t9 => zc_B (dC, dI) (va_A [(a_f, .inr (0, [.int (g 20)]))] sz) [(a_f, .inr (0, [.int (u.1 20)]))] [] t9) (va_A [(a_f, .inr (0, [.int (g 20)]))] sz)) 0 0 (va_A [(a_f, .inr (0, [.int (g 20)]))] sz) := by
  refine Met.ofW (cc := cX0_bitwise) (maxL := 3) (ret := (some .int)) (by decide) rfl ?_
  intro p e s m args below meth c s₁ B hml hv
  obtain ⟨rfl, hsz, hP, hK, hD0, hN⟩ := hv
  have hx := B.exec
  have hb := B.bytes
  have hr := B.returns
  have hts : ∀ w ∈ zw, w.before _ s = true := fun w h => atoms_spec (ws := (zq yX0_bitwise cX0_bitwise 3 (some .int))) B.pre w (List.mem_cons_of_mem _ h)
  have hown : s.vm.findClass RX0 = some m.cls := findClass_of_methodNamed B.named
  have hlocks := B.notSynchronized
  subst hsz
  have hD := hD0.self (sz := s.heap.size)
  generalize hAe : va_A [(a_f, .inr (0, [.int (g 20)]))] s.heap.size = A at hD ⊢
  have hA : ∀ q : Nat, s.heap.size ≤ q → A q := fun q h => by rw [← hAe]; exact Or.inr h
  have hS : va_S A s.heap s.heap [] := va_S.rf
  have hP : va_P (dC, dI) vwCl [(a_f, .inr (0, [.int (g 20)]))] s.heap := hP
  have hl := lv_entry ([.ref a_f, .int p0, .int p1]) (n := 3) (Nat.le_of_ble_eq_true rfl)
  rw [lg_entry_eq]
  generalize (lg_sl ([.ref a_f, .int p0, .int p1]) ++ List.replicate (3 - (lg_sl ([.ref a_f, .int p0, .int p1])).length) Slot.unset).toArray = ls at hl ⊢
  have hl : lv_has ls 3 [(0, .ref a_f), (1, .int p0), (2, .int p1)] := hl
  refine lv_aload_n hx hb dX0_bitwise_0 rfl (lv_at hl 0 rfl) ?_
  refine lv_iload_n hx hb dX0_bitwise_1 rfl (lv_at hl 1 rfl) ?_
  refine lv_iconst (v := 0) hx hb dX0_bitwise_2 (by decide) ?_
  refine lv_iconst (v := 0) hx hb dX0_bitwise_3 (by decide) ?_
  refine zc_i (wr := []) hP hD hS hA [0] [] rfl rfl (by decide) (by decide) (va_runV (As := [.int p0, .int 0, .int 0]) (rest := []) ⟨hx, hb, hml, hown, hts⟩ (g_X0_sum l dC dI a_f g (fun _ => 0) (fun _ _ => 0) p0 0 0 _) (cwV 3 hts (zg_V zw_439 zw_418 zw_419 zw_88 zw_420) rfl rfl rfl (by decide +kernel) ⟨Nat.le_of_ble_eq_true rfl, Nat.le_of_ble_eq_true rfl⟩) ⟨zc_blind, va_recv hK hP (ci := 0) (q0 := 0) rfl rfl, zc_start hP hD hK hN [0] [] rfl (by decide) rfl⟩ rfl rfl hl.1 rfl (lv_room (Nat.le_of_ble_eq_true rfl)) dX0_bitwise_4 ⟨Nat.le_of_ble_eq_true rfl, Nat.le_of_ble_eq_true rfl⟩) (fun r_1 u_1 H locs hw hK1 hP hD hS => ?_)
  have hP : va_P (dC, dI) vwCl [(a_f, .inr (0, [.int (u_1.1 20)]))] H := hP
  have hD : va_D A [(a_f, .inr (0, [.int (u_1.1 20)]))] := hD
  refine lv_pop hx hb dX0_bitwise_7 rfl ?_
  refine lv_aload_n hx hb dX0_bitwise_8 rfl (lv_at hl 0 rfl) ?_
  refine lv_bipush (v := 16) hx hb dX0_bitwise_9 (by decide) ?_
  refine lv_iload_n hx hb dX0_bitwise_11 rfl (lv_at hl 2 rfl) ?_
  refine zc_v (wr := []) hP hD hS hA [0] [] rfl rfl (by decide) (by decide) (va_runV (As := [.int 16, .int p1]) (rest := []) ⟨hx, hb, hml, hown, hts⟩ (g_X0_put l dC dI a_f u_1.1 (fun _ => 0) (fun _ _ => 0) 16 p1 _) (cwV 2 hts (zg_V zw_461 zw_382 zw_383 zw_88 zw_384) rfl rfl rfl (by decide +kernel) ⟨Nat.le_of_ble_eq_true rfl, Nat.le_of_ble_eq_true rfl⟩) ⟨zc_blind, va_recv hK hP (ci := 0) (q0 := 0) rfl rfl, zc_start hP hD hK hN [0] [] rfl (by decide) rfl⟩ rfl rfl hl.1 rfl (lv_room (Nat.le_of_ble_eq_true rfl)) dX0_bitwise_12 ⟨Nat.le_of_ble_eq_true rfl, Nat.le_of_ble_eq_true rfl⟩) (fun u_2 H locs hw hK1 hP hD hS => ?_)
  have hP : va_P (dC, dI) vwCl [(a_f, .inr (0, [.int (u_2.1 20)]))] H := hP
  have hD : va_D A [(a_f, .inr (0, [.int (u_2.1 20)]))] := hD
  refine lv_iload_n hx hb dX0_bitwise_15 rfl (lv_at hl 1 rfl) ?_
  have hP9 := hP.sub (ws' := [(a_f, .inr (0, [.int (u_2.1 20)]))]) [0] rfl
  have hD9 := hD.sub (ws' := [(a_f, .inr (0, [.int (u_2.1 20)]))]) [0] (by decide) rfl
  have hK9 := hK.sub (tys' := []) [] rfl
  exact W.iret (v := p0) hx hb hr (fun t9 ht hW => ⟨⟨p0, ((u_2.1), (fun _ => 0), (fun _ _ => 0)), rfl, trivial, by rw [ht]; exact hP9, va_K.moved hW.alike hK9, hD9⟩, hS.F ht⟩) hS.2.2 dX0_bitwise_16
set_option maxHeartbeats 4000000 in
set_option maxRecDepth 100000 in
theorem g_X0_decimal (l : Launch) (dC : Nat → ClassId) (dI : Nat → Nat → Nat) (a_f : Nat) (g : Nat → Int32) (n : Nat → Nat) (f : Nat → Nat → Int32) (p0 : Int32) (sz : Nat) : Met l yX0_decimal (zq yX0_decimal cX0_decimal 5 (some .int)) ({ frames := 2, cells := 0, slots := 0, locals := 47 }) (va_Pc [.ref a_f, .int p0] (zc_P (dC, dI) [(a_f, .inr (0, [.int (g 20)]))] [] sz)) (va_Qi (fun (r : Int32) (u : (Nat → Int32) × (Nat → Nat) × (Nat → Nat → Int32)) => True) (fun (u : (Nat → Int32) × (Nat → Nat) × (Nat → Nat → Int32)) t9 => zc_B (dC, dI) (va_A [(a_f, .inr (0, [.int (g 20)]))] sz) [(a_f, .inr (0, [.int (u.1 20)]))] [] t9) (va_A [(a_f, .inr (0, [.int (g 20)]))] sz)) 0 0 (va_A [(a_f, .inr (0, [.int (g 20)]))] sz) := by
  refine Met.ofW (cc := cX0_decimal) (maxL := 5) (ret := (some .int)) (by decide) rfl ?_
  intro p e s m args below meth c s₁ B hml hv
  obtain ⟨rfl, hsz, hP, hK, hD0, hN⟩ := hv
  have hx := B.exec
  have hb := B.bytes
  have hr := B.returns
  have hts : ∀ w ∈ zw, w.before _ s = true := fun w h => atoms_spec (ws := (zq yX0_decimal cX0_decimal 5 (some .int))) B.pre w (List.mem_cons_of_mem _ h)
  have hown : s.vm.findClass RX0 = some m.cls := findClass_of_methodNamed B.named
  have hlocks := B.notSynchronized
  subst hsz
  have hD := hD0.self (sz := s.heap.size)
  generalize hAe : va_A [(a_f, .inr (0, [.int (g 20)]))] s.heap.size = A at hD ⊢
  have hA : ∀ q : Nat, s.heap.size ≤ q → A q := fun q h => by rw [← hAe]; exact Or.inr h
  have hS : va_S A s.heap s.heap [] := va_S.rf
  have hP : va_P (dC, dI) vwCl [(a_f, .inr (0, [.int (g 20)]))] s.heap := hP
  have hl := lv_entry ([.ref a_f, .int p0]) (n := 5) (Nat.le_of_ble_eq_true rfl)
  rw [lg_entry_eq]
  generalize (lg_sl ([.ref a_f, .int p0]) ++ List.replicate (5 - (lg_sl ([.ref a_f, .int p0])).length) Slot.unset).toArray = ls at hl ⊢
  have hl : lv_has ls 5 [(0, .ref a_f), (1, .int p0)] := hl
  refine lv_iload_n hx hb dX0_decimal_0 rfl (lv_at hl 1 rfl) ?_
  refine lv_bipush (v := 15) hx hb dX0_decimal_1 (by decide) ?_
  refine lv_iand hx hb dX0_decimal_3 ?_
  refine lv_topi (fun v_1 ev_1 => ?_)
  obtain ⟨j_1, hj_1, ej_1⟩ := pk_andE p0 (m := 15) 4 (by decide)
  obtain rfl : v_1 = nI j_1 := ev_1.trans ej_1
  have hj_1 : j_1 < 16 := hj_1
  refine lv_bipush (v := 9) hx hb dX0_decimal_4 (by decide) ?_
  have join_7 : ∀ (x_5 : Nat) (hx_5 : x_5 < 2) (x_6 : Int32) (H : Heap) (locs : List Loc) (ls : Array Slot), va_P (dC, dI) vwCl [(a_f, .inr (0, [.int x_6]))] H → va_D A [(a_f, .inr (0, [.int x_6]))] → va_S A s.heap H locs → lv_has ls 5 [(0, .ref a_f), (1, .int p0)] → W p l e (headSpec (zq yX0_decimal cX0_decimal 5 (some .int)) ({ frames := 2, cells := 0, slots := 0, locals := 47 })).room s m ([.ref a_f, .int p0] : List Value).toArray below meth c H locs 0 0 (MQ below (va_Qi (fun (r : Int32) (u : (Nat → Int32) × (Nat → Nat) × (Nat → Nat → Int32)) => True) (fun (u : (Nat → Int32) × (Nat → Nat) × (Nat → Nat → Int32)) t9 => zc_B (dC, dI) A [(a_f, .inr (0, [.int (u.1 20)]))] [] t9) A) ([.ref a_f, .int p0] : List Value).toArray s 0 0 A) (F0 m 23 ls [.int (nI x_5)]) := by
    intro x_5 hx_5 x_6 H locs ls hP hD hS hl
    refine lv_istore_n (lv' := [(2, .int (nI x_5)), (0, .ref a_f), (1, .int p0)]) hx hb dX0_decimal_23 rfl hl (by decide) rfl (fun ls hl => ?_)
    refine lv_iload_n hx hb dX0_decimal_24 rfl (lv_at hl 2 rfl) ?_
    refine lv_sipush (v := 153) hx hb dX0_decimal_25 (by decide) ?_
    have join_13 : ∀ (x_11 : Nat) (hx_11 : x_11 < 2) (x_12 : Int32) (H : Heap) (locs : List Loc) (ls : Array Slot), va_P (dC, dI) vwCl [(a_f, .inr (0, [.int x_12]))] H → va_D A [(a_f, .inr (0, [.int x_12]))] → va_S A s.heap H locs → lv_has ls 5 [(2, .int (nI x_5)), (0, .ref a_f), (1, .int p0)] → W p l e (headSpec (zq yX0_decimal cX0_decimal 5 (some .int)) ({ frames := 2, cells := 0, slots := 0, locals := 47 })).room s m ([.ref a_f, .int p0] : List Value).toArray below meth c H locs 0 0 (MQ below (va_Qi (fun (r : Int32) (u : (Nat → Int32) × (Nat → Nat) × (Nat → Nat → Int32)) => True) (fun (u : (Nat → Int32) × (Nat → Nat) × (Nat → Nat → Int32)) t9 => zc_B (dC, dI) A [(a_f, .inr (0, [.int (u.1 20)]))] [] t9) A) ([.ref a_f, .int p0] : List Value).toArray s 0 0 A) (F0 m 44 ls [.int (nI x_11)]) := by
      intro x_11 hx_11 x_12 H locs ls hP hD hS hl
      refine lv_istore_n (lv' := [(3, .int (nI x_11)), (2, .int (nI x_5)), (0, .ref a_f), (1, .int p0)]) hx hb dX0_decimal_44 rfl hl (by decide) rfl (fun ls hl => ?_)
      refine lv_aload_n hx hb dX0_decimal_45 rfl (lv_at hl 2 rfl) ?_
      refine lv_iload_n hx hb dX0_decimal_46 rfl (lv_at hl 3 rfl) ?_
      refine lv_iload_n hx hb dX0_decimal_47 rfl (lv_at hl 1 rfl) ?_
      have join_16 : ∀ (x_15 : Nat) (hx_15 : x_15 < 7) (H : Heap) (locs : List Loc) (ls : Array Slot), va_P (dC, dI) vwCl [(a_f, .inr (0, [.int x_12]))] H → va_D A [(a_f, .inr (0, [.int x_12]))] → va_S A s.heap H locs → lv_has ls 5 [(3, .int (nI x_11)), (2, .int (nI x_5)), (0, .ref a_f), (1, .int p0)] → W p l e (headSpec (zq yX0_decimal cX0_decimal 5 (some .int)) ({ frames := 2, cells := 0, slots := 0, locals := 47 })).room s m ([.ref a_f, .int p0] : List Value).toArray below meth c H locs 0 0 (MQ below (va_Qi (fun (r : Int32) (u : (Nat → Int32) × (Nat → Nat) × (Nat → Nat → Int32)) => True) (fun (u : (Nat → Int32) × (Nat → Nat) × (Nat → Nat → Int32)) t9 => zc_B (dC, dI) A [(a_f, .inr (0, [.int (u.1 20)]))] [] t9) A) ([.ref a_f, .int p0] : List Value).toArray s 0 0 A) (F0 m 57 ls [.int (nI x_15), .int p0, .ref a_f]) := by
        intro x_15 hx_15 H locs ls hP hD hS hl
        refine lv_iload_n hx hb dX0_decimal_57 rfl (lv_at hl 0 rfl) ?_
        have join_19 : ∀ (x_18 : Nat) (hx_18 : x_18 < 97) (H : Heap) (locs : List Loc) (ls : Array Slot), va_P (dC, dI) vwCl [(a_f, .inr (0, [.int x_12]))] H → va_D A [(a_f, .inr (0, [.int x_12]))] → va_S A s.heap H locs → lv_has ls 5 [(3, .int (nI x_11)), (2, .int (nI x_5)), (0, .ref a_f), (1, .int p0)] → W p l e (headSpec (zq yX0_decimal cX0_decimal 5 (some .int)) ({ frames := 2, cells := 0, slots := 0, locals := 47 })).room s m ([.ref a_f, .int p0] : List Value).toArray below meth c H locs 0 0 (MQ below (va_Qi (fun (r : Int32) (u : (Nat → Int32) × (Nat → Nat) × (Nat → Nat → Int32)) => True) (fun (u : (Nat → Int32) × (Nat → Nat) × (Nat → Nat → Int32)) t9 => zc_B (dC, dI) A [(a_f, .inr (0, [.int (u.1 20)]))] [] t9) A) ([.ref a_f, .int p0] : List Value).toArray s 0 0 A) (F0 m 67 ls [.int (nI x_18), .int (nI x_15), .int p0, .ref a_f]) := by
          intro x_18 hx_18 H locs ls hP hD hS hl
          refine lv_iadd hx hb dX0_decimal_67 ?_
          refine lv_topi (fun v_20 ev_20 => ?_)
          obtain rfl : v_20 = nI (x_15 + x_18) := ev_20.trans (nI_add x_15 x_18)
          refine lv_iconst (v := 0) hx hb dX0_decimal_68 (by decide) ?_
          refine zc_i (wr := []) hP hD hS hA [0] [] rfl rfl (by decide) (by decide) (va_runV (As := [.int p0, .int (nI (x_15 + x_18)), .int 0]) (rest := []) ⟨hx, hb, hml, hown, hts⟩ (g_X0_sum l dC dI a_f (fun k9 => match k9 with  | _ => x_12) (fun _ => 0) (fun _ _ => 0) p0 (nI (x_15 + x_18)) 0 _) (cwV 3 hts (zg_V zw_439 zw_418 zw_419 zw_88 zw_420) rfl rfl rfl (by decide +kernel) ⟨Nat.le_of_ble_eq_true rfl, Nat.le_of_ble_eq_true rfl⟩) ⟨zc_blind, va_recv hK hP (ci := 0) (q0 := 0) rfl rfl, zc_start hP hD hK hN [0] [] rfl (by decide) rfl⟩ rfl rfl hl.1 rfl (lv_room (Nat.le_of_ble_eq_true rfl)) dX0_decimal_69 ⟨Nat.le_of_ble_eq_true rfl, Nat.le_of_ble_eq_true rfl⟩) (fun r_21 u_21 H locs hw hK1 hP hD hS => ?_)
          have hP : va_P (dC, dI) vwCl [(a_f, .inr (0, [.int (u_21.1 20)]))] H := hP
          have hD : va_D A [(a_f, .inr (0, [.int (u_21.1 20)]))] := hD
          refine lv_istore (lv' := [(4, .int r_21), (3, .int (nI x_11)), (2, .int (nI x_5)), (0, .ref a_f), (1, .int p0)]) hx hb dX0_decimal_72 hl (by decide) rfl (fun ls hl => ?_)
          refine lv_aload_n hx hb dX0_decimal_74 rfl (lv_at hl 3 rfl) ?_
          refine lv_iconst (v := 1) hx hb dX0_decimal_75 (by decide) ?_
          refine lv_iload_n hx hb dX0_decimal_76 rfl (lv_at hl 1 rfl) ?_
          refine zc_v (wr := []) hP hD hS hA [0] [] rfl rfl (by decide) (by decide) (va_runV (As := [.int 1, .int (nI x_11)]) (rest := []) ⟨hx, hb, hml, hown, hts⟩ (g_X0_put l dC dI a_f u_21.1 (fun _ => 0) (fun _ _ => 0) 1 (nI x_11) _) (cwV 2 hts (zg_V zw_461 zw_382 zw_383 zw_88 zw_384) rfl rfl rfl (by decide +kernel) ⟨Nat.le_of_ble_eq_true rfl, Nat.le_of_ble_eq_true rfl⟩) ⟨zc_blind, va_recv hK hP (ci := 0) (q0 := 0) rfl rfl, zc_start hP hD hK hN [0] [] rfl (by decide) rfl⟩ rfl rfl hl.1 rfl (lv_room (Nat.le_of_ble_eq_true rfl)) dX0_decimal_77 ⟨Nat.le_of_ble_eq_true rfl, Nat.le_of_ble_eq_true rfl⟩) (fun u_22 H locs hw hK1 hP hD hS => ?_)
          have hP : va_P (dC, dI) vwCl [(a_f, .inr (0, [.int (u_22.1 20)]))] H := hP
          have hD : va_D A [(a_f, .inr (0, [.int (u_22.1 20)]))] := hD
          refine lv_iload hx hb dX0_decimal_80 (lv_at hl 0 rfl) ?_
          have hP9 := hP.sub (ws' := [(a_f, .inr (0, [.int (u_22.1 20)]))]) [0] rfl
          have hD9 := hD.sub (ws' := [(a_f, .inr (0, [.int (u_22.1 20)]))]) [0] (by decide) rfl
          have hK9 := hK.sub (tys' := []) [] rfl
          exact W.iret (v := r_21) hx hb hr (fun t9 ht hW => ⟨⟨r_21, ((u_22.1), (fun _ => 0), (fun _ _ => 0)), rfl, trivial, by rw [ht]; exact hP9, va_K.moved hW.alike hK9, hD9⟩, hS.F ht⟩) hS.2.2 dX0_decimal_82
        by_cases h_17 : x_11 = 0
        · refine lv_if_eq (tgt := 66) hx hb dX0_decimal_58 (by decide) (fun c_17 => ?_) (fun c_17 => absurd (show nI x_11 = nI 0 from (nI_eq (a := x_11) (b := 0) (by omega) (by omega)).mpr h_17) c_17)
          refine lv_iconst (v := 0) hx hb dX0_decimal_66 (by decide) ?_
          exact join_19 0 (by omega) _ _ _ (hP.sub [0] rfl) (hD.sub [0] (by decide) rfl) hS (lv_sub hl [0, 1, 2, 3] rfl)
        · refine lv_if_eq (tgt := 66) hx hb dX0_decimal_58 (by decide) (fun c_17 => absurd c_17 (show ¬ nI x_11 = nI 0 from fun q => h_17 ((nI_eq (a := x_11) (b := 0) (by omega) (by omega)).mp q))) (fun c_17 => ?_)
          refine lv_bipush (v := 96) hx hb dX0_decimal_61 (by decide) ?_
          refine lv_goto (tgt := 67) hx hb dX0_decimal_63 (by decide) ?_
          exact join_19 96 (by omega) _ _ _ (hP.sub [0] rfl) (hD.sub [0] (by decide) rfl) hS (lv_sub hl [0, 1, 2, 3] rfl)
      by_cases h_14 : x_5 = 0
      · refine lv_if_eq (tgt := 56) hx hb dX0_decimal_48 (by decide) (fun c_14 => ?_) (fun c_14 => absurd (show nI x_5 = nI 0 from (nI_eq (a := x_5) (b := 0) (by omega) (by omega)).mpr h_14) c_14)
        refine lv_iconst (v := 0) hx hb dX0_decimal_56 (by decide) ?_
        exact join_16 0 (by omega) _ _ _ (hP.sub [0] rfl) (hD.sub [0] (by decide) rfl) hS (lv_sub hl [0, 1, 2, 3] rfl)
      · refine lv_if_eq (tgt := 56) hx hb dX0_decimal_48 (by decide) (fun c_14 => absurd c_14 (show ¬ nI x_5 = nI 0 from fun q => h_14 ((nI_eq (a := x_5) (b := 0) (by omega) (by omega)).mp q))) (fun c_14 => ?_)
        refine lv_bipush (v := 6) hx hb dX0_decimal_51 (by decide) ?_
        refine lv_goto (tgt := 57) hx hb dX0_decimal_53 (by decide) ?_
        exact join_16 6 (by omega) _ _ _ (hP.sub [0] rfl) (hD.sub [0] (by decide) rfl) hS (lv_sub hl [0, 1, 2, 3] rfl)
    refine lv_icmp_gt (tgt := 39) hx hb dX0_decimal_28 (by decide) (fun c_8 => ?_) (fun c_8 => ?_)
    · refine lv_iconst (v := 1) hx hb dX0_decimal_39 (by decide) ?_
      refine lv_goto (tgt := 44) hx hb dX0_decimal_40 (by decide) ?_
      exact join_13 1 (by omega) x_6 _ _ _ (hP.sub [0] rfl) (hD.sub [0] (by decide) rfl) hS (lv_sub hl [0, 1, 2] rfl)
    · refine lv_aload_n hx hb dX0_decimal_31 rfl (lv_at hl 1 rfl) ?_
      refine lv_iconst (v := 1) hx hb dX0_decimal_32 (by decide) ?_
      refine zc_i (wr := []) hP hD hS hA [0] [] rfl rfl (by decide) (by decide) (va_runV (As := [.int 1]) (rest := []) ⟨hx, hb, hml, hown, hts⟩ (g_X0_has l dC dI a_f (fun k9 => match k9 with  | _ => x_6) (fun _ => 0) (fun _ _ => 0) 1 _) (cwV 1 hts (zg_V zw_460 zw_410 zw_411 zw_88 zw_412) rfl rfl rfl (by decide +kernel) ⟨Nat.le_of_ble_eq_true rfl, Nat.le_of_ble_eq_true rfl⟩) ⟨zc_blind, va_recv hK hP (ci := 0) (q0 := 0) rfl rfl, zc_start hP hD hK hN [0] [] rfl (by decide) rfl⟩ rfl rfl hl.1 rfl (lv_room (Nat.le_of_ble_eq_true rfl)) dX0_decimal_33 ⟨Nat.le_of_ble_eq_true rfl, Nat.le_of_ble_eq_true rfl⟩) (fun r_23 u_23 H locs hw hK1 hP hD hS => ?_)
      have hP : va_P (dC, dI) vwCl [(a_f, .inr (0, [.int (u_23.1 20)]))] H := hP
      have hD : va_D A [(a_f, .inr (0, [.int (u_23.1 20)]))] := hD
      refine lv_if_eq (tgt := 43) hx hb dX0_decimal_36 (by decide) (fun c_24 => ?_) (fun c_24 => ?_)
      · refine lv_iconst (v := 0) hx hb dX0_decimal_43 (by decide) ?_
        exact join_13 0 (by omega) (u_23.1 20) _ _ _ (hP.sub [0] rfl) (hD.sub [0] (by decide) rfl) hS (lv_sub hl [0, 1, 2] rfl)
      · refine lv_iconst (v := 1) hx hb dX0_decimal_39 (by decide) ?_
        refine lv_goto (tgt := 44) hx hb dX0_decimal_40 (by decide) ?_
        exact join_13 1 (by omega) (u_23.1 20) _ _ _ (hP.sub [0] rfl) (hD.sub [0] (by decide) rfl) hS (lv_sub hl [0, 1, 2] rfl)
  by_cases h_2 : 9 < j_1
  · refine lv_icmp_gt (tgt := 18) hx hb dX0_decimal_6 (by decide) (fun c_2 => ?_) (fun c_2 => absurd (show nI 9 < nI j_1 from (nI_ltI (a := 9) (b := j_1) (by omega) (by omega)).mpr h_2) c_2)
    refine lv_iconst (v := 1) hx hb dX0_decimal_18 (by decide) ?_
    refine lv_goto (tgt := 23) hx hb dX0_decimal_19 (by decide) ?_
    exact join_7 1 (by omega) (g 20) _ _ _ (hP.sub [0] rfl) (hD.sub [0] (by decide) rfl) hS (lv_sub hl [0, 1] rfl)
  · refine lv_icmp_gt (tgt := 18) hx hb dX0_decimal_6 (by decide) (fun c_2 => absurd c_2 (show ¬ nI 9 < nI j_1 from fun q => h_2 ((nI_ltI (a := 9) (b := j_1) (by omega) (by omega)).mp q))) (fun c_2 => ?_)
    refine lv_aload_n hx hb dX0_decimal_9 rfl (lv_at hl 0 rfl) ?_
    refine lv_bipush (v := 16) hx hb dX0_decimal_10 (by decide) ?_
    refine zc_i (wr := []) hP hD hS hA [0] [] rfl rfl (by decide) (by decide) (va_runV (As := [.int 16]) (rest := []) ⟨hx, hb, hml, hown, hts⟩ (g_X0_has l dC dI a_f g (fun _ => 0) (fun _ _ => 0) 16 _) (cwV 1 hts (zg_V zw_460 zw_410 zw_411 zw_88 zw_412) rfl rfl rfl (by decide +kernel) ⟨Nat.le_of_ble_eq_true rfl, Nat.le_of_ble_eq_true rfl⟩) ⟨zc_blind, va_recv hK hP (ci := 0) (q0 := 0) rfl rfl, zc_start hP hD hK hN [0] [] rfl (by decide) rfl⟩ rfl rfl hl.1 rfl (lv_room (Nat.le_of_ble_eq_true rfl)) dX0_decimal_12 ⟨Nat.le_of_ble_eq_true rfl, Nat.le_of_ble_eq_true rfl⟩) (fun r_25 u_25 H locs hw hK1 hP hD hS => ?_)
    have hP : va_P (dC, dI) vwCl [(a_f, .inr (0, [.int (u_25.1 20)]))] H := hP
    have hD : va_D A [(a_f, .inr (0, [.int (u_25.1 20)]))] := hD
    refine lv_if_eq (tgt := 22) hx hb dX0_decimal_15 (by decide) (fun c_26 => ?_) (fun c_26 => ?_)
    · refine lv_iconst (v := 0) hx hb dX0_decimal_22 (by decide) ?_
      exact join_7 0 (by omega) (u_25.1 20) _ _ _ (hP.sub [0] rfl) (hD.sub [0] (by decide) rfl) hS (lv_sub hl [0, 1] rfl)
    · refine lv_iconst (v := 1) hx hb dX0_decimal_18 (by decide) ?_
      refine lv_goto (tgt := 23) hx hb dX0_decimal_19 (by decide) ?_
      exact join_7 1 (by omega) (u_25.1 20) _ _ _ (hP.sub [0] rfl) (hD.sub [0] (by decide) rfl) hS (lv_sub hl [0, 1] rfl)
