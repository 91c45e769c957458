theorem dLW_touched_10 : decode cLW_touched 10 = .ok (.i2l, 1) := by decide +kernel
theorem dLW_touched_11 : decode cLW_touched 11 = .ok (.lastore, 1) := by decide +kernel
theorem dLW_touched_12 : decode cLW_touched 12 = .ok (.goto 7, 3) := by decide +kernel
theorem dLW_touched_15 : decode cLW_touched 15 = .ok (.astore 5, 2) := by decide +kernel
theorem dLW_touched_17 : decode cLW_touched 17 = .ok (.iconst 1, 1) := by decide +kernel
theorem dLW_touched_18 : decode cLW_touched 18 = .ok (.ireturn, 1) := by decide +kernel
theorem dLW_touched_19 : decode cLW_touched 19 = .ok (.iconst 0, 1) := by decide +kernel
theorem dLW_touched_20 : decode cLW_touched 20 = .ok (.ireturn, 1) := by decide +kernel
theorem dLW_higher_0 : decode cLW_higher 0 = .ok (.aload 5, 2) := by decide +kernel
theorem dLW_higher_2 : decode cLW_higher 2 = .ok (.iconst 0, 1) := by decide +kernel
theorem dLW_higher_3 : decode cLW_higher 3 = .ok (.aload_n 0, 1) := by decide +kernel
theorem dLW_higher_4 : decode cLW_higher 4 = .ok (.iload_n 1, 1) := by decide +kernel
theorem dLW_higher_5 : decode cLW_higher 5 = .ok (.iload_n 2, 1) := by decide +kernel
theorem dLW_higher_6 : decode cLW_higher 6 = .ok (.iload_n 3, 1) := by decide +kernel
theorem dLW_higher_7 : decode cLW_higher 7 = .ok (.iload 4, 2) := by decide +kernel
theorem dLW_higher_9 : decode cLW_higher 9 = .ok (.invokevirtual 24, 3) := by decide +kernel
theorem dLW_higher_12 : decode cLW_higher 12 = .ok (.i2l, 1) := by decide +kernel
theorem dLW_higher_13 : decode cLW_higher 13 = .ok (.lastore, 1) := by decide +kernel
theorem dLW_higher_14 : decode cLW_higher 14 = .ok (.goto 7, 3) := by decide +kernel
theorem dLW_higher_17 : decode cLW_higher 17 = .ok (.astore 6, 2) := by decide +kernel
theorem dLW_higher_19 : decode cLW_higher 19 = .ok (.iconst 1, 1) := by decide +kernel
theorem dLW_higher_20 : decode cLW_higher 20 = .ok (.ireturn, 1) := by decide +kernel
theorem dLW_higher_21 : decode cLW_higher 21 = .ok (.iconst 0, 1) := by decide +kernel
theorem dLW_higher_22 : decode cLW_higher 22 = .ok (.ireturn, 1) := by decide +kernel
theorem dLW_hits_0 : decode cLW_hits 0 = .ok (.aload_n 3, 1) := by decide +kernel
theorem dLW_hits_1 : decode cLW_hits 1 = .ok (.iconst 0, 1) := by decide +kernel
theorem dLW_hits_2 : decode cLW_hits 2 = .ok (.aload_n 0, 1) := by decide +kernel
theorem dLW_hits_3 : decode cLW_hits 3 = .ok (.iload_n 1, 1) := by decide +kernel
theorem dLW_hits_4 : decode cLW_hits 4 = .ok (.iload_n 2, 1) := by decide +kernel
theorem dLW_hits_5 : decode cLW_hits 5 = .ok (.invokevirtual 28, 3) := by decide +kernel
theorem dLW_hits_8 : decode cLW_hits 8 = .ok (.i2l, 1) := by decide +kernel
theorem dLW_hits_9 : decode cLW_hits 9 = .ok (.lastore, 1) := by decide +kernel
theorem dLW_hits_10 : decode cLW_hits 10 = .ok (.goto 7, 3) := by decide +kernel
theorem dLW_hits_13 : decode cLW_hits 13 = .ok (.astore 4, 2) := by decide +kernel
theorem dLW_hits_15 : decode cLW_hits 15 = .ok (.iconst 1, 1) := by decide +kernel
theorem dLW_hits_16 : decode cLW_hits 16 = .ok (.ireturn, 1) := by decide +kernel
theorem dLW_hits_17 : decode cLW_hits 17 = .ok (.iconst 0, 1) := by decide +kernel
theorem dLW_hits_18 : decode cLW_hits 18 = .ok (.ireturn, 1) := by decide +kernel
theorem dLW_safe_0 : decode cLW_safe 0 = .ok (.aload_n 2, 1) := by decide +kernel
theorem dLW_safe_1 : decode cLW_safe 1 = .ok (.iconst 0, 1) := by decide +kernel
theorem dLW_safe_2 : decode cLW_safe 2 = .ok (.aload_n 0, 1) := by decide +kernel
theorem dLW_safe_3 : decode cLW_safe 3 = .ok (.iload_n 1, 1) := by decide +kernel
theorem dLW_safe_4 : decode cLW_safe 4 = .ok (.invokevirtual 32, 3) := by decide +kernel
theorem dLW_safe_7 : decode cLW_safe 7 = .ok (.i2l, 1) := by decide +kernel
theorem dLW_safe_8 : decode cLW_safe 8 = .ok (.lastore, 1) := by decide +kernel
theorem dLW_safe_9 : decode cLW_safe 9 = .ok (.goto 6, 3) := by decide +kernel
theorem dLW_safe_12 : decode cLW_safe 12 = .ok (.astore_n 3, 1) := by decide +kernel
theorem dLW_safe_13 : decode cLW_safe 13 = .ok (.iconst 1, 1) := by decide +kernel
theorem dLW_safe_14 : decode cLW_safe 14 = .ok (.ireturn, 1) := by decide +kernel
theorem dLW_safe_15 : decode cLW_safe 15 = .ok (.iconst 0, 1) := by decide +kernel
theorem dLW_safe_16 : decode cLW_safe 16 = .ok (.ireturn, 1) := by decide +kernel
theorem dLW_cover_0 : decode cLW_cover 0 = .ok (.aload_n 3, 1) := by decide +kernel
theorem dLW_cover_1 : decode cLW_cover 1 = .ok (.iconst 0, 1) := by decide +kernel
theorem dLW_cover_2 : decode cLW_cover 2 = .ok (.aload_n 0, 1) := by decide +kernel
theorem dLW_cover_3 : decode cLW_cover 3 = .ok (.iload_n 1, 1) := by decide +kernel
theorem dLW_cover_4 : decode cLW_cover 4 = .ok (.iload_n 2, 1) := by decide +kernel
theorem dLW_cover_5 : decode cLW_cover 5 = .ok (.invokevirtual 36, 3) := by decide +kernel
theorem dLW_cover_8 : decode cLW_cover 8 = .ok (.i2l, 1) := by decide +kernel
theorem dLW_cover_9 : decode cLW_cover 9 = .ok (.lastore, 1) := by decide +kernel
theorem dLW_cover_10 : decode cLW_cover 10 = .ok (.goto 7, 3) := by decide +kernel
theorem dLW_cover_13 : decode cLW_cover 13 = .ok (.astore 4, 2) := by decide +kernel
theorem dLW_cover_15 : decode cLW_cover 15 = .ok (.iconst 1, 1) := by decide +kernel
theorem dLW_cover_16 : decode cLW_cover 16 = .ok (.ireturn, 1) := by decide +kernel
theorem dLW_cover_17 : decode cLW_cover 17 = .ok (.iconst 0, 1) := by decide +kernel
theorem dLW_cover_18 : decode cLW_cover 18 = .ok (.ireturn, 1) := by decide +kernel
theorem dLW_may_0 : decode cLW_may 0 = .ok (.aload 4, 2) := by decide +kernel
theorem dLW_may_2 : decode cLW_may 2 = .ok (.iconst 0, 1) := by decide +kernel
theorem dLW_may_3 : decode cLW_may 3 = .ok (.aload_n 0, 1) := by decide +kernel
theorem dLW_may_4 : decode cLW_may 4 = .ok (.iload_n 1, 1) := by decide +kernel
theorem dLW_may_5 : decode cLW_may 5 = .ok (.iload_n 2, 1) := by decide +kernel
theorem dLW_may_6 : decode cLW_may 6 = .ok (.iload_n 3, 1) := by decide +kernel
theorem dLW_may_7 : decode cLW_may 7 = .ok (.invokevirtual 39, 3) := by decide +kernel
theorem dLW_may_10 : decode cLW_may 10 = .ok (.i2l, 1) := by decide +kernel
theorem dLW_may_11 : decode cLW_may 11 = .ok (.lastore, 1) := by decide +kernel
theorem dLW_may_12 : decode cLW_may 12 = .ok (.goto 11, 3) := by decide +kernel
theorem dLW_may_15 : decode cLW_may 15 = .ok (.astore 5, 2) := by decide +kernel
theorem dLW_may_17 : decode cLW_may 17 = .ok (.iconst 1, 1) := by decide +kernel
theorem dLW_may_18 : decode cLW_may 18 = .ok (.ireturn, 1) := by decide +kernel
theorem dLW_may_19 : decode cLW_may 19 = .ok (.astore 5, 2) := by decide +kernel
theorem dLW_may_21 : decode cLW_may 21 = .ok (.iconst 2, 1) := by decide +kernel
theorem dLW_may_22 : decode cLW_may 22 = .ok (.ireturn, 1) := by decide +kernel
theorem dLW_may_23 : decode cLW_may 23 = .ok (.iconst 0, 1) := by decide +kernel
theorem dLW_may_24 : decode cLW_may 24 = .ok (.ireturn, 1) := by decide +kernel
theorem dLW_want_0 : decode cLW_want 0 = .ok (.aload 4, 2) := by decide +kernel
theorem dLW_want_2 : decode cLW_want 2 = .ok (.iconst 0, 1) := by decide +kernel
theorem dLW_want_3 : decode cLW_want 3 = .ok (.aload_n 0, 1) := by decide +kernel
theorem dLW_want_4 : decode cLW_want 4 = .ok (.iload_n 1, 1) := by decide +kernel
theorem dLW_want_5 : decode cLW_want 5 = .ok (.iload_n 2, 1) := by decide +kernel
theorem dLW_want_6 : decode cLW_want 6 = .ok (.iload_n 3, 1) := by decide +kernel
theorem dLW_want_7 : decode cLW_want 7 = .ok (.invokevirtual 44, 3) := by decide +kernel
theorem dLW_want_10 : decode cLW_want 10 = .ok (.ifCond .eq 7, 3) := by decide +kernel
theorem dLW_want_13 : decode cLW_want 13 = .ok (.lconst 1, 1) := by decide +kernel
theorem dLW_want_14 : decode cLW_want 14 = .ok (.goto 4, 3) := by decide +kernel
theorem dLW_want_17 : decode cLW_want 17 = .ok (.lconst 0, 1) := by decide +kernel
theorem dLW_want_18 : decode cLW_want 18 = .ok (.lastore, 1) := by decide +kernel
theorem dLW_want_19 : decode cLW_want 19 = .ok (.goto 7, 3) := by decide +kernel
theorem dLW_want_22 : decode cLW_want 22 = .ok (.astore 5, 2) := by decide +kernel
theorem dLW_want_24 : decode cLW_want 24 = .ok (.iconst 1, 1) := by decide +kernel
theorem dLW_want_25 : decode cLW_want 25 = .ok (.ireturn, 1) := by decide +kernel
theorem dLW_want_26 : decode cLW_want 26 = .ok (.iconst 0, 1) := by decide +kernel
theorem dLW_want_27 : decode cLW_want 27 = .ok (.ireturn, 1) := by decide +kernel
theorem dJI_bitCount_0 : decode cJI_bitCount 0 = .ok (.iload_n 0, 1) := by decide +kernel
theorem dJI_bitCount_1 : decode cJI_bitCount 1 = .ok (.iload_n 0, 1) := by decide +kernel
theorem dJI_bitCount_2 : decode cJI_bitCount 2 = .ok (.iconst 1, 1) := by decide +kernel
theorem dJI_bitCount_3 : decode cJI_bitCount 3 = .ok (.iushr, 1) := by decide +kernel
theorem dJI_bitCount_4 : decode cJI_bitCount 4 = .ok (.ldc_w 265, 3) := by decide +kernel
theorem dJI_bitCount_7 : decode cJI_bitCount 7 = .ok (.iand, 1) := by decide +kernel
theorem dJI_bitCount_8 : decode cJI_bitCount 8 = .ok (.isub, 1) := by decide +kernel
theorem dJI_bitCount_9 : decode cJI_bitCount 9 = .ok (.istore_n 0, 1) := by decide +kernel
theorem dJI_bitCount_10 : decode cJI_bitCount 10 = .ok (.iload_n 0, 1) := by decide +kernel
theorem dJI_bitCount_11 : decode cJI_bitCount 11 = .ok (.ldc_w 266, 3) := by decide +kernel
theorem dJI_bitCount_14 : decode cJI_bitCount 14 = .ok (.iand, 1) := by decide +kernel
theorem dJI_bitCount_15 : decode cJI_bitCount 15 = .ok (.iload_n 0, 1) := by decide +kernel
theorem dJI_bitCount_16 : decode cJI_bitCount 16 = .ok (.iconst 2, 1) := by decide +kernel
theorem dJI_bitCount_17 : decode cJI_bitCount 17 = .ok (.iushr, 1) := by decide +kernel
theorem dJI_bitCount_18 : decode cJI_bitCount 18 = .ok (.ldc_w 266, 3) := by decide +kernel
theorem dJI_bitCount_21 : decode cJI_bitCount 21 = .ok (.iand, 1) := by decide +kernel
theorem dJI_bitCount_22 : decode cJI_bitCount 22 = .ok (.iadd, 1) := by decide +kernel
theorem dJI_bitCount_23 : decode cJI_bitCount 23 = .ok (.istore_n 0, 1) := by decide +kernel
theorem dJI_bitCount_24 : decode cJI_bitCount 24 = .ok (.iload_n 0, 1) := by decide +kernel
theorem dJI_bitCount_25 : decode cJI_bitCount 25 = .ok (.iload_n 0, 1) := by decide +kernel
theorem dJI_bitCount_26 : decode cJI_bitCount 26 = .ok (.iconst 4, 1) := by decide +kernel
theorem dJI_bitCount_27 : decode cJI_bitCount 27 = .ok (.iushr, 1) := by decide +kernel
theorem dJI_bitCount_28 : decode cJI_bitCount 28 = .ok (.iadd, 1) := by decide +kernel
theorem dJI_bitCount_29 : decode cJI_bitCount 29 = .ok (.ldc_w 267, 3) := by decide +kernel
theorem dJI_bitCount_32 : decode cJI_bitCount 32 = .ok (.iand, 1) := by decide +kernel
theorem dJI_bitCount_33 : decode cJI_bitCount 33 = .ok (.istore_n 0, 1) := by decide +kernel
theorem dJI_bitCount_34 : decode cJI_bitCount 34 = .ok (.iload_n 0, 1) := by decide +kernel
theorem dJI_bitCount_35 : decode cJI_bitCount 35 = .ok (.iload_n 0, 1) := by decide +kernel
theorem dJI_bitCount_36 : decode cJI_bitCount 36 = .ok (.bipush 8, 2) := by decide +kernel
theorem dJI_bitCount_38 : decode cJI_bitCount 38 = .ok (.iushr, 1) := by decide +kernel
theorem dJI_bitCount_39 : decode cJI_bitCount 39 = .ok (.iadd, 1) := by decide +kernel
theorem dJI_bitCount_40 : decode cJI_bitCount 40 = .ok (.istore_n 0, 1) := by decide +kernel
theorem dJI_bitCount_41 : decode cJI_bitCount 41 = .ok (.iload_n 0, 1) := by decide +kernel
theorem dJI_bitCount_42 : decode cJI_bitCount 42 = .ok (.iload_n 0, 1) := by decide +kernel
theorem dJI_bitCount_43 : decode cJI_bitCount 43 = .ok (.bipush 16, 2) := by decide +kernel
theorem dJI_bitCount_45 : decode cJI_bitCount 45 = .ok (.iushr, 1) := by decide +kernel
theorem dJI_bitCount_46 : decode cJI_bitCount 46 = .ok (.iadd, 1) := by decide +kernel
theorem dJI_bitCount_47 : decode cJI_bitCount 47 = .ok (.istore_n 0, 1) := by decide +kernel
theorem dJI_bitCount_48 : decode cJI_bitCount 48 = .ok (.iload_n 0, 1) := by decide +kernel
theorem dJI_bitCount_49 : decode cJI_bitCount 49 = .ok (.bipush 63, 2) := by decide +kernel
theorem dJI_bitCount_51 : decode cJI_bitCount 51 = .ok (.iand, 1) := by decide +kernel
theorem dJI_bitCount_52 : decode cJI_bitCount 52 = .ok (.ireturn, 1) := by decide +kernel
theorem dJI_compare_0 : decode cJI_compare 0 = .ok (.iload_n 0, 1) := by decide +kernel
theorem dJI_compare_1 : decode cJI_compare 1 = .ok (.iload_n 1, 1) := by decide +kernel
theorem dJI_compare_2 : decode cJI_compare 2 = .ok (.if_icmp .ge 7, 3) := by decide +kernel
theorem dJI_compare_5 : decode cJI_compare 5 = .ok (.iconst (-1), 1) := by decide +kernel
theorem dJI_compare_6 : decode cJI_compare 6 = .ok (.goto 13, 3) := by decide +kernel
theorem dJI_compare_9 : decode cJI_compare 9 = .ok (.iload_n 0, 1) := by decide +kernel
theorem dJI_compare_10 : decode cJI_compare 10 = .ok (.iload_n 1, 1) := by decide +kernel
theorem dJI_compare_11 : decode cJI_compare 11 = .ok (.if_icmp .ne 7, 3) := by decide +kernel
theorem dJI_compare_14 : decode cJI_compare 14 = .ok (.iconst 0, 1) := by decide +kernel
theorem dJI_compare_15 : decode cJI_compare 15 = .ok (.goto 4, 3) := by decide +kernel
theorem dJI_compare_18 : decode cJI_compare 18 = .ok (.iconst 1, 1) := by decide +kernel
theorem dJI_compare_19 : decode cJI_compare 19 = .ok (.ireturn, 1) := by decide +kernel
theorem dJA_fill_0 : decode cJA_fill 0 = .ok (.iconst 0, 1) := by decide +kernel
theorem dJA_fill_1 : decode cJA_fill 1 = .ok (.istore_n 2, 1) := by decide +kernel
theorem dJA_fill_2 : decode cJA_fill 2 = .ok (.aload_n 0, 1) := by decide +kernel
theorem dJA_fill_3 : decode cJA_fill 3 = .ok (.arraylength, 1) := by decide +kernel
theorem dJA_fill_4 : decode cJA_fill 4 = .ok (.istore_n 3, 1) := by decide +kernel
theorem dJA_fill_5 : decode cJA_fill 5 = .ok (.iload_n 2, 1) := by decide +kernel
theorem dJA_fill_6 : decode cJA_fill 6 = .ok (.iload_n 3, 1) := by decide +kernel
theorem dJA_fill_7 : decode cJA_fill 7 = .ok (.if_icmp .ge 13, 3) := by decide +kernel
theorem dJA_fill_10 : decode cJA_fill 10 = .ok (.aload_n 0, 1) := by decide +kernel
theorem dJA_fill_11 : decode cJA_fill 11 = .ok (.iload_n 2, 1) := by decide +kernel
theorem dJA_fill_12 : decode cJA_fill 12 = .ok (.iload_n 1, 1) := by decide +kernel
theorem dJA_fill_13 : decode cJA_fill 13 = .ok (.iastore, 1) := by decide +kernel
theorem dJA_fill_14 : decode cJA_fill 14 = .ok (.iinc 2 1, 3) := by decide +kernel
theorem dJA_fill_17 : decode cJA_fill 17 = .ok (.goto (-12), 3) := by decide +kernel
theorem dJA_fill_20 : decode cJA_fill 20 = .ok (.return_, 1) := by decide +kernel
theorem dLW_law_0 : decode cLW_law 0 = .ok (.new 8, 3) := by decide +kernel
theorem dLW_law_3 : decode cLW_law 3 = .ok (.dup, 1) := by decide +kernel
theorem dLW_law_4 : decode cLW_law 4 = .ok (.aload_n 0, 1) := by decide +kernel
theorem dLW_law_5 : decode cLW_law 5 = .ok (.iconst 0, 1) := by decide +kernel
theorem dLW_law_6 : decode cLW_law 6 = .ok (.invokestatic 48, 3) := by decide +kernel
theorem dLW_law_9 : decode cLW_law 9 = .ok (.aload_n 0, 1) := by decide +kernel
theorem dLW_law_10 : decode cLW_law 10 = .ok (.iconst 1, 1) := by decide +kernel
theorem dLW_law_11 : decode cLW_law 11 = .ok (.invokestatic 48, 3) := by decide +kernel
theorem dLW_law_14 : decode cLW_law 14 = .ok (.aload_n 0, 1) := by decide +kernel
theorem dLW_law_15 : decode cLW_law 15 = .ok (.iconst 2, 1) := by decide +kernel
theorem dLW_law_16 : decode cLW_law 16 = .ok (.invokestatic 48, 3) := by decide +kernel
theorem dLW_law_19 : decode cLW_law 19 = .ok (.invokespecial 54, 3) := by decide +kernel
theorem dLW_law_22 : decode cLW_law 22 = .ok (.astore_n 1, 1) := by decide +kernel
theorem dLW_law_23 : decode cLW_law 23 = .ok (.new 57, 3) := by decide +kernel
theorem dLW_law_26 : decode cLW_law 26 = .ok (.dup, 1) := by decide +kernel
theorem dLW_law_27 : decode cLW_law 27 = .ok (.aload_n 0, 1) := by decide +kernel
theorem dLW_law_28 : decode cLW_law 28 = .ok (.iconst 0, 1) := by decide +kernel
theorem dLW_law_29 : decode cLW_law 29 = .ok (.invokestatic 48, 3) := by decide +kernel
theorem dLW_law_32 : decode cLW_law 32 = .ok (.aload_n 0, 1) := by decide +kernel
theorem dLW_law_33 : decode cLW_law 33 = .ok (.iconst 1, 1) := by decide +kernel
theorem dLW_law_34 : decode cLW_law 34 = .ok (.invokestatic 48, 3) := by decide +kernel
theorem dLW_law_37 : decode cLW_law 37 = .ok (.aload_n 0, 1) := by decide +kernel
theorem dLW_law_38 : decode cLW_law 38 = .ok (.iconst 2, 1) := by decide +kernel
theorem dLW_law_39 : decode cLW_law 39 = .ok (.invokestatic 48, 3) := by decide +kernel
theorem dLW_law_42 : decode cLW_law 42 = .ok (.invokespecial 59, 3) := by decide +kernel
theorem dLW_law_45 : decode cLW_law 45 = .ok (.astore_n 2, 1) := by decide +kernel
theorem dLW_law_46 : decode cLW_law 46 = .ok (.iconst 1, 1) := by decide +kernel
theorem dLW_law_47 : decode cLW_law 47 = .ok (.newarray .long, 2) := by decide +kernel
theorem dLW_law_49 : decode cLW_law 49 = .ok (.astore_n 3, 1) := by decide +kernel
theorem dLW_law_50 : decode cLW_law 50 = .ok (.iconst 3, 1) := by decide +kernel
theorem dLW_law_51 : decode cLW_law 51 = .ok (.istore 4, 2) := by decide +kernel
theorem dLW_law_53 : decode cLW_law 53 = .ok (.iload 4, 2) := by decide +kernel
theorem dLW_law_55 : decode cLW_law 55 = .ok (.aload_n 0, 1) := by decide +kernel
theorem dLW_law_56 : decode cLW_law 56 = .ok (.arraylength, 1) := by decide +kernel
theorem dLW_law_57 : decode cLW_law 57 = .ok (.iconst 5, 1) := by decide +kernel
theorem dLW_law_58 : decode cLW_law 58 = .ok (.isub, 1) := by decide +kernel
theorem dLW_law_59 : decode cLW_law 59 = .ok (.if_icmp .gt 938, 3) := by decide +kernel
theorem dLW_law_62 : decode cLW_law 62 = .ok (.aload_n 0, 1) := by decide +kernel
theorem dLW_law_63 : decode cLW_law 63 = .ok (.iload 4, 2) := by decide +kernel
theorem dLW_law_65 : decode cLW_law 65 = .ok (.iaload, 1) := by decide +kernel
theorem dLW_law_66 : decode cLW_law 66 = .ok (.bipush 15, 2) := by decide +kernel
theorem dLW_law_68 : decode cLW_law 68 = .ok (.iand, 1) := by decide +kernel
theorem dLW_law_69 : decode cLW_law 69 = .ok (.tableswitch 922 0 13 #[71, 151, 231, 311, 391, 483, 496, 564, 620, 688, 768, 781, 884, 897], 71) := by decide +kernel
theorem dLW_law_140 : decode cLW_law 140 = .ok (.aload_n 1, 1) := by decide +kernel
theorem dLW_law_141 : decode cLW_law 141 = .ok (.aload_n 0, 1) := by decide +kernel
theorem dLW_law_142 : decode cLW_law 142 = .ok (.iload 4, 2) := by decide +kernel
theorem dLW_law_144 : decode cLW_law 144 = .ok (.iconst 1, 1) := by decide +kernel
theorem dLW_law_145 : decode cLW_law 145 = .ok (.iadd, 1) := by decide +kernel
theorem dLW_law_146 : decode cLW_law 146 = .ok (.iaload, 1) := by decide +kernel
theorem dLW_law_147 : decode cLW_law 147 = .ok (.aload_n 0, 1) := by decide +kernel
theorem dLW_law_148 : decode cLW_law 148 = .ok (.iload 4, 2) := by decide +kernel
theorem dLW_law_150 : decode cLW_law 150 = .ok (.iconst 2, 1) := by decide +kernel
theorem dLW_law_151 : decode cLW_law 151 = .ok (.iadd, 1) := by decide +kernel
theorem dLW_law_152 : decode cLW_law 152 = .ok (.iaload, 1) := by decide +kernel
theorem dLW_law_153 : decode cLW_law 153 = .ok (.aload_n 0, 1) := by decide +kernel
theorem dLW_law_154 : decode cLW_law 154 = .ok (.iload 4, 2) := by decide +kernel
theorem dLW_law_156 : decode cLW_law 156 = .ok (.iconst 3, 1) := by decide +kernel
theorem dLW_law_157 : decode cLW_law 157 = .ok (.iadd, 1) := by decide +kernel
theorem dLW_law_158 : decode cLW_law 158 = .ok (.iaload, 1) := by decide +kernel
theorem dLW_law_159 : decode cLW_law 159 = .ok (.aload_n 3, 1) := by decide +kernel
theorem dLW_law_160 : decode cLW_law 160 = .ok (.invokestatic 60, 3) := by decide +kernel
theorem dLW_law_163 : decode cLW_law 163 = .ok (.istore 5, 2) := by decide +kernel
theorem dLW_law_165 : decode cLW_law 165 = .ok (.aload_n 2, 1) := by decide +kernel
theorem dLW_law_166 : decode cLW_law 166 = .ok (.aload_n 0, 1) := by decide +kernel
theorem dLW_law_167 : decode cLW_law 167 = .ok (.iload 4, 2) := by decide +kernel
theorem dLW_law_169 : decode cLW_law 169 = .ok (.iconst 1, 1) := by decide +kernel
theorem dLW_law_170 : decode cLW_law 170 = .ok (.iadd, 1) := by decide +kernel
theorem dLW_law_171 : decode cLW_law 171 = .ok (.iaload, 1) := by decide +kernel
theorem dLW_law_172 : decode cLW_law 172 = .ok (.aload_n 0, 1) := by decide +kernel
theorem dLW_law_173 : decode cLW_law 173 = .ok (.iload 4, 2) := by decide +kernel
theorem dLW_law_175 : decode cLW_law 175 = .ok (.iconst 2, 1) := by decide +kernel
theorem dLW_law_176 : decode cLW_law 176 = .ok (.iadd, 1) := by decide +kernel
theorem dLW_law_177 : decode cLW_law 177 = .ok (.iaload, 1) := by decide +kernel
theorem dLW_law_178 : decode cLW_law 178 = .ok (.aload_n 0, 1) := by decide +kernel
theorem dLW_law_179 : decode cLW_law 179 = .ok (.iload 4, 2) := by decide +kernel
theorem dLW_law_181 : decode cLW_law 181 = .ok (.iconst 3, 1) := by decide +kernel
theorem dLW_law_182 : decode cLW_law 182 = .ok (.iadd, 1) := by decide +kernel
theorem dLW_law_183 : decode cLW_law 183 = .ok (.iaload, 1) := by decide +kernel
theorem dLW_law_184 : decode cLW_law 184 = .ok (.invokevirtual 63, 3) := by decide +kernel
theorem dLW_law_187 : decode cLW_law 187 = .ok (.istore 6, 2) := by decide +kernel
theorem dLW_law_189 : decode cLW_law 189 = .ok (.aload_n 2, 1) := by decide +kernel
theorem dLW_law_190 : decode cLW_law 190 = .ok (.invokevirtual 64, 3) := by decide +kernel
theorem dLW_law_193 : decode cLW_law 193 = .ok (.iload 5, 2) := by decide +kernel
theorem dLW_law_195 : decode cLW_law 195 = .ok (.if_icmp .eq 5, 3) := by decide +kernel
theorem dLW_law_198 : decode cLW_law 198 = .ok (.iconst 0, 1) := by decide +kernel
theorem dLW_law_199 : decode cLW_law 199 = .ok (.ireturn, 1) := by decide +kernel
theorem dLW_law_200 : decode cLW_law 200 = .ok (.iload 5, 2) := by decide +kernel
theorem dLW_law_202 : decode cLW_law 202 = .ok (.ifCond .ne 15, 3) := by decide +kernel
theorem dLW_law_205 : decode cLW_law 205 = .ok (.aload_n 3, 1) := by decide +kernel
theorem dLW_law_206 : decode cLW_law 206 = .ok (.iconst 0, 1) := by decide +kernel
theorem dLW_law_207 : decode cLW_law 207 = .ok (.laload, 1) := by decide +kernel
theorem dLW_law_208 : decode cLW_law 208 = .ok (.iload 6, 2) := by decide +kernel
theorem dLW_law_210 : decode cLW_law 210 = .ok (.i2l, 1) := by decide +kernel
theorem dLW_law_211 : decode cLW_law 211 = .ok (.lcmp, 1) := by decide +kernel
theorem dLW_law_212 : decode cLW_law 212 = .ok (.ifCond .eq 5, 3) := by decide +kernel
theorem dLW_law_215 : decode cLW_law 215 = .ok (.iconst 0, 1) := by decide +kernel
theorem dLW_law_216 : decode cLW_law 216 = .ok (.ireturn, 1) := by decide +kernel
theorem dLW_law_217 : decode cLW_law 217 = .ok (.goto 774, 3) := by decide +kernel
theorem dLW_law_220 : decode cLW_law 220 = .ok (.aload_n 1, 1) := by decide +kernel
theorem dLW_law_221 : decode cLW_law 221 = .ok (.aload_n 0, 1) := by decide +kernel
theorem dLW_law_222 : decode cLW_law 222 = .ok (.iload 4, 2) := by decide +kernel
theorem dLW_law_224 : decode cLW_law 224 = .ok (.iconst 1, 1) := by decide +kernel
theorem dLW_law_225 : decode cLW_law 225 = .ok (.iadd, 1) := by decide +kernel
theorem dLW_law_226 : decode cLW_law 226 = .ok (.iaload, 1) := by decide +kernel
theorem dLW_law_227 : decode cLW_law 227 = .ok (.aload_n 0, 1) := by decide +kernel
theorem dLW_law_228 : decode cLW_law 228 = .ok (.iload 4, 2) := by decide +kernel
theorem dLW_law_230 : decode cLW_law 230 = .ok (.iconst 2, 1) := by decide +kernel
theorem dLW_law_231 : decode cLW_law 231 = .ok (.iadd, 1) := by decide +kernel
theorem dLW_law_232 : decode cLW_law 232 = .ok (.iaload, 1) := by decide +kernel
theorem dLW_law_233 : decode cLW_law 233 = .ok (.aload_n 0, 1) := by decide +kernel
theorem dLW_law_234 : decode cLW_law 234 = .ok (.iload 4, 2) := by decide +kernel
theorem dLW_law_236 : decode cLW_law 236 = .ok (.iconst 3, 1) := by decide +kernel
theorem dLW_law_237 : decode cLW_law 237 = .ok (.iadd, 1) := by decide +kernel
theorem dLW_law_238 : decode cLW_law 238 = .ok (.iaload, 1) := by decide +kernel
theorem dLW_law_239 : decode cLW_law 239 = .ok (.aload_n 3, 1) := by decide +kernel
theorem dLW_law_240 : decode cLW_law 240 = .ok (.invokestatic 68, 3) := by decide +kernel
theorem dLW_law_243 : decode cLW_law 243 = .ok (.istore 5, 2) := by decide +kernel
theorem dLW_law_245 : decode cLW_law 245 = .ok (.aload_n 2, 1) := by decide +kernel
theorem dLW_law_246 : decode cLW_law 246 = .ok (.aload_n 0, 1) := by decide +kernel
theorem dLW_law_247 : decode cLW_law 247 = .ok (.iload 4, 2) := by decide +kernel
theorem dLW_law_249 : decode cLW_law 249 = .ok (.iconst 1, 1) := by decide +kernel
theorem dLW_law_250 : decode cLW_law 250 = .ok (.iadd, 1) := by decide +kernel
theorem dLW_law_251 : decode cLW_law 251 = .ok (.iaload, 1) := by decide +kernel
theorem dLW_law_252 : decode cLW_law 252 = .ok (.aload_n 0, 1) := by decide +kernel
theorem dLW_law_253 : decode cLW_law 253 = .ok (.iload 4, 2) := by decide +kernel
theorem dLW_law_255 : decode cLW_law 255 = .ok (.iconst 2, 1) := by decide +kernel
theorem dLW_law_256 : decode cLW_law 256 = .ok (.iadd, 1) := by decide +kernel
theorem dLW_law_257 : decode cLW_law 257 = .ok (.iaload, 1) := by decide +kernel
theorem dLW_law_258 : decode cLW_law 258 = .ok (.aload_n 0, 1) := by decide +kernel
theorem dLW_law_259 : decode cLW_law 259 = .ok (.iload 4, 2) := by decide +kernel
theorem dLW_law_261 : decode cLW_law 261 = .ok (.iconst 3, 1) := by decide +kernel
theorem dLW_law_262 : decode cLW_law 262 = .ok (.iadd, 1) := by decide +kernel
theorem dLW_law_263 : decode cLW_law 263 = .ok (.iaload, 1) := by decide +kernel
theorem dLW_law_264 : decode cLW_law 264 = .ok (.invokevirtual 70, 3) := by decide +kernel
theorem dLW_law_267 : decode cLW_law 267 = .ok (.istore 6, 2) := by decide +kernel
theorem dLW_law_269 : decode cLW_law 269 = .ok (.aload_n 2, 1) := by decide +kernel
theorem dLW_law_270 : decode cLW_law 270 = .ok (.invokevirtual 64, 3) := by decide +kernel
theorem dLW_law_273 : decode cLW_law 273 = .ok (.iload 5, 2) := by decide +kernel
theorem dLW_law_275 : decode cLW_law 275 = .ok (.if_icmp .eq 5, 3) := by decide +kernel
theorem dLW_law_278 : decode cLW_law 278 = .ok (.iconst 0, 1) := by decide +kernel
theorem dLW_law_279 : decode cLW_law 279 = .ok (.ireturn, 1) := by decide +kernel
theorem dLW_law_280 : decode cLW_law 280 = .ok (.iload 5, 2) := by decide +kernel
theorem dLW_law_282 : decode cLW_law 282 = .ok (.ifCond .ne 15, 3) := by decide +kernel
theorem dLW_law_285 : decode cLW_law 285 = .ok (.aload_n 3, 1) := by decide +kernel
theorem dLW_law_286 : decode cLW_law 286 = .ok (.iconst 0, 1) := by decide +kernel
theorem dLW_law_287 : decode cLW_law 287 = .ok (.laload, 1) := by decide +kernel
theorem dLW_law_288 : decode cLW_law 288 = .ok (.iload 6, 2) := by decide +kernel
theorem dLW_law_290 : decode cLW_law 290 = .ok (.i2l, 1) := by decide +kernel
theorem dLW_law_291 : decode cLW_law 291 = .ok (.lcmp, 1) := by decide +kernel
theorem dLW_law_292 : decode cLW_law 292 = .ok (.ifCond .eq 5, 3) := by decide +kernel
theorem dLW_law_295 : decode cLW_law 295 = .ok (.iconst 0, 1) := by decide +kernel
theorem dLW_law_296 : decode cLW_law 296 = .ok (.ireturn, 1) := by decide +kernel
theorem dLW_law_297 : decode cLW_law 297 = .ok (.goto 694, 3) := by decide +kernel
theorem dLW_law_300 : decode cLW_law 300 = .ok (.aload_n 1, 1) := by decide +kernel
theorem dLW_law_301 : decode cLW_law 301 = .ok (.aload_n 0, 1) := by decide +kernel
theorem dLW_law_302 : decode cLW_law 302 = .ok (.iload 4, 2) := by decide +kernel
theorem dLW_law_304 : decode cLW_law 304 = .ok (.iconst 1, 1) := by decide +kernel
theorem dLW_law_305 : decode cLW_law 305 = .ok (.iadd, 1) := by decide +kernel
theorem dLW_law_306 : decode cLW_law 306 = .ok (.iaload, 1) := by decide +kernel
theorem dLW_law_307 : decode cLW_law 307 = .ok (.aload_n 0, 1) := by decide +kernel
theorem dLW_law_308 : decode cLW_law 308 = .ok (.iload 4, 2) := by decide +kernel
theorem dLW_law_310 : decode cLW_law 310 = .ok (.iconst 2, 1) := by decide +kernel
theorem dLW_law_311 : decode cLW_law 311 = .ok (.iadd, 1) := by decide +kernel
theorem dLW_law_312 : decode cLW_law 312 = .ok (.iaload, 1) := by decide +kernel
theorem dLW_law_313 : decode cLW_law 313 = .ok (.aload_n 0, 1) := by decide +kernel
theorem dLW_law_314 : decode cLW_law 314 = .ok (.iload 4, 2) := by decide +kernel
theorem dLW_law_316 : decode cLW_law 316 = .ok (.iconst 3, 1) := by decide +kernel
theorem dLW_law_317 : decode cLW_law 317 = .ok (.iadd, 1) := by decide +kernel
theorem dLW_law_318 : decode cLW_law 318 = .ok (.iaload, 1) := by decide +kernel
theorem dLW_law_319 : decode cLW_law 319 = .ok (.aload_n 3, 1) := by decide +kernel
theorem dLW_law_320 : decode cLW_law 320 = .ok (.invokestatic 71, 3) := by decide +kernel
theorem dLW_law_323 : decode cLW_law 323 = .ok (.istore 5, 2) := by decide +kernel
theorem dLW_law_325 : decode cLW_law 325 = .ok (.aload_n 2, 1) := by decide +kernel
theorem dLW_law_326 : decode cLW_law 326 = .ok (.aload_n 0, 1) := by decide +kernel
theorem dLW_law_327 : decode cLW_law 327 = .ok (.iload 4, 2) := by decide +kernel
theorem dLW_law_329 : decode cLW_law 329 = .ok (.iconst 1, 1) := by decide +kernel
theorem dLW_law_330 : decode cLW_law 330 = .ok (.iadd, 1) := by decide +kernel
theorem dLW_law_331 : decode cLW_law 331 = .ok (.iaload, 1) := by decide +kernel
theorem dLW_law_332 : decode cLW_law 332 = .ok (.aload_n 0, 1) := by decide +kernel
theorem dLW_law_333 : decode cLW_law 333 = .ok (.iload 4, 2) := by decide +kernel
theorem dLW_law_335 : decode cLW_law 335 = .ok (.iconst 2, 1) := by decide +kernel
theorem dLW_law_336 : decode cLW_law 336 = .ok (.iadd, 1) := by decide +kernel
theorem dLW_law_337 : decode cLW_law 337 = .ok (.iaload, 1) := by decide +kernel
theorem dLW_law_338 : decode cLW_law 338 = .ok (.aload_n 0, 1) := by decide +kernel
theorem dLW_law_339 : decode cLW_law 339 = .ok (.iload 4, 2) := by decide +kernel
theorem dLW_law_341 : decode cLW_law 341 = .ok (.iconst 3, 1) := by decide +kernel
theorem dLW_law_342 : decode cLW_law 342 = .ok (.iadd, 1) := by decide +kernel
theorem dLW_law_343 : decode cLW_law 343 = .ok (.iaload, 1) := by decide +kernel
theorem dLW_law_344 : decode cLW_law 344 = .ok (.invokevirtual 73, 3) := by decide +kernel
theorem dLW_law_347 : decode cLW_law 347 = .ok (.istore 6, 2) := by decide +kernel
theorem dLW_law_349 : decode cLW_law 349 = .ok (.aload_n 2, 1) := by decide +kernel
theorem dLW_law_350 : decode cLW_law 350 = .ok (.invokevirtual 64, 3) := by decide +kernel
theorem dLW_law_353 : decode cLW_law 353 = .ok (.iload 5, 2) := by decide +kernel
theorem dLW_law_355 : decode cLW_law 355 = .ok (.if_icmp .eq 5, 3) := by decide +kernel
theorem dLW_law_358 : decode cLW_law 358 = .ok (.iconst 0, 1) := by decide +kernel
theorem dLW_law_359 : decode cLW_law 359 = .ok (.ireturn, 1) := by decide +kernel
theorem dLW_law_360 : decode cLW_law 360 = .ok (.iload 5, 2) := by decide +kernel
theorem dLW_law_362 : decode cLW_law 362 = .ok (.ifCond .ne 15, 3) := by decide +kernel
theorem dLW_law_365 : decode cLW_law 365 = .ok (.aload_n 3, 1) := by decide +kernel
theorem dLW_law_366 : decode cLW_law 366 = .ok (.iconst 0, 1) := by decide +kernel
theorem dLW_law_367 : decode cLW_law 367 = .ok (.laload, 1) := by decide +kernel
theorem dLW_law_368 : decode cLW_law 368 = .ok (.iload 6, 2) := by decide +kernel
theorem dLW_law_370 : decode cLW_law 370 = .ok (.i2l, 1) := by decide +kernel
theorem dLW_law_371 : decode cLW_law 371 = .ok (.lcmp, 1) := by decide +kernel
theorem dLW_law_372 : decode cLW_law 372 = .ok (.ifCond .eq 5, 3) := by decide +kernel
theorem dLW_law_375 : decode cLW_law 375 = .ok (.iconst 0, 1) := by decide +kernel
theorem dLW_law_376 : decode cLW_law 376 = .ok (.ireturn, 1) := by decide +kernel
theorem dLW_law_377 : decode cLW_law 377 = .ok (.goto 614, 3) := by decide +kernel
theorem dLW_law_380 : decode cLW_law 380 = .ok (.aload_n 1, 1) := by decide +kernel
theorem dLW_law_381 : decode cLW_law 381 = .ok (.aload_n 0, 1) := by decide +kernel
theorem dLW_law_382 : decode cLW_law 382 = .ok (.iload 4, 2) := by decide +kernel
theorem dLW_law_384 : decode cLW_law 384 = .ok (.iconst 1, 1) := by decide +kernel
theorem dLW_law_385 : decode cLW_law 385 = .ok (.iadd, 1) := by decide +kernel
theorem dLW_law_386 : decode cLW_law 386 = .ok (.iaload, 1) := by decide +kernel
theorem dLW_law_387 : decode cLW_law 387 = .ok (.aload_n 0, 1) := by decide +kernel
theorem dLW_law_388 : decode cLW_law 388 = .ok (.iload 4, 2) := by decide +kernel
theorem dLW_law_390 : decode cLW_law 390 = .ok (.iconst 2, 1) := by decide +kernel
theorem dLW_law_391 : decode cLW_law 391 = .ok (.iadd, 1) := by decide +kernel
theorem dLW_law_392 : decode cLW_law 392 = .ok (.iaload, 1) := by decide +kernel
theorem dLW_law_393 : decode cLW_law 393 = .ok (.aload_n 0, 1) := by decide +kernel
theorem dLW_law_394 : decode cLW_law 394 = .ok (.iload 4, 2) := by decide +kernel
theorem dLW_law_396 : decode cLW_law 396 = .ok (.iconst 3, 1) := by decide +kernel
theorem dLW_law_397 : decode cLW_law 397 = .ok (.iadd, 1) := by decide +kernel
theorem dLW_law_398 : decode cLW_law 398 = .ok (.iaload, 1) := by decide +kernel
theorem dLW_law_399 : decode cLW_law 399 = .ok (.aload_n 3, 1) := by decide +kernel
theorem dLW_law_400 : decode cLW_law 400 = .ok (.invokestatic 74, 3) := by decide +kernel
theorem dLW_law_403 : decode cLW_law 403 = .ok (.istore 5, 2) := by decide +kernel
theorem dLW_law_405 : decode cLW_law 405 = .ok (.aload_n 2, 1) := by decide +kernel
theorem dLW_law_406 : decode cLW_law 406 = .ok (.aload_n 0, 1) := by decide +kernel
theorem dLW_law_407 : decode cLW_law 407 = .ok (.iload 4, 2) := by decide +kernel
theorem dLW_law_409 : decode cLW_law 409 = .ok (.iconst 1, 1) := by decide +kernel
theorem dLW_law_410 : decode cLW_law 410 = .ok (.iadd, 1) := by decide +kernel
theorem dLW_law_411 : decode cLW_law 411 = .ok (.iaload, 1) := by decide +kernel
theorem dLW_law_412 : decode cLW_law 412 = .ok (.aload_n 0, 1) := by decide +kernel
theorem dLW_law_413 : decode cLW_law 413 = .ok (.iload 4, 2) := by decide +kernel
theorem dLW_law_415 : decode cLW_law 415 = .ok (.iconst 2, 1) := by decide +kernel
theorem dLW_law_416 : decode cLW_law 416 = .ok (.iadd, 1) := by decide +kernel
theorem dLW_law_417 : decode cLW_law 417 = .ok (.iaload, 1) := by decide +kernel
theorem dLW_law_418 : decode cLW_law 418 = .ok (.aload_n 0, 1) := by decide +kernel
theorem dLW_law_419 : decode cLW_law 419 = .ok (.iload 4, 2) := by decide +kernel
theorem dLW_law_421 : decode cLW_law 421 = .ok (.iconst 3, 1) := by decide +kernel
theorem dLW_law_422 : decode cLW_law 422 = .ok (.iadd, 1) := by decide +kernel
theorem dLW_law_423 : decode cLW_law 423 = .ok (.iaload, 1) := by decide +kernel
theorem dLW_law_424 : decode cLW_law 424 = .ok (.invokevirtual 76, 3) := by decide +kernel
theorem dLW_law_427 : decode cLW_law 427 = .ok (.istore 6, 2) := by decide +kernel
theorem dLW_law_429 : decode cLW_law 429 = .ok (.aload_n 2, 1) := by decide +kernel
theorem dLW_law_430 : decode cLW_law 430 = .ok (.invokevirtual 64, 3) := by decide +kernel
theorem dLW_law_433 : decode cLW_law 433 = .ok (.iload 5, 2) := by decide +kernel
theorem dLW_law_435 : decode cLW_law 435 = .ok (.if_icmp .eq 5, 3) := by decide +kernel
theorem dLW_law_438 : decode cLW_law 438 = .ok (.iconst 0, 1) := by decide +kernel
theorem dLW_law_439 : decode cLW_law 439 = .ok (.ireturn, 1) := by decide +kernel
theorem dLW_law_440 : decode cLW_law 440 = .ok (.iload 5, 2) := by decide +kernel
theorem dLW_law_442 : decode cLW_law 442 = .ok (.ifCond .ne 15, 3) := by decide +kernel
theorem dLW_law_445 : decode cLW_law 445 = .ok (.aload_n 3, 1) := by decide +kernel
theorem dLW_law_446 : decode cLW_law 446 = .ok (.iconst 0, 1) := by decide +kernel
theorem dLW_law_447 : decode cLW_law 447 = .ok (.laload, 1) := by decide +kernel
theorem dLW_law_448 : decode cLW_law 448 = .ok (.iload 6, 2) := by decide +kernel
theorem dLW_law_450 : decode cLW_law 450 = .ok (.i2l, 1) := by decide +kernel
theorem dLW_law_451 : decode cLW_law 451 = .ok (.lcmp, 1) := by decide +kernel
theorem dLW_law_452 : decode cLW_law 452 = .ok (.ifCond .eq 5, 3) := by decide +kernel
theorem dLW_law_455 : decode cLW_law 455 = .ok (.iconst 0, 1) := by decide +kernel
theorem dLW_law_456 : decode cLW_law 456 = .ok (.ireturn, 1) := by decide +kernel
theorem dLW_law_457 : decode cLW_law 457 = .ok (.goto 534, 3) := by decide +kernel
theorem dLW_law_460 : decode cLW_law 460 = .ok (.aload_n 1, 1) := by decide +kernel
theorem dLW_law_461 : decode cLW_law 461 = .ok (.aload_n 0, 1) := by decide +kernel
theorem dLW_law_462 : decode cLW_law 462 = .ok (.iload 4, 2) := by decide +kernel
theorem dLW_law_464 : decode cLW_law 464 = .ok (.iconst 1, 1) := by decide +kernel
theorem dLW_law_465 : decode cLW_law 465 = .ok (.iadd, 1) := by decide +kernel
theorem dLW_law_466 : decode cLW_law 466 = .ok (.iaload, 1) := by decide +kernel
theorem dLW_law_467 : decode cLW_law 467 = .ok (.aload_n 0, 1) := by decide +kernel
theorem dLW_law_468 : decode cLW_law 468 = .ok (.iload 4, 2) := by decide +kernel
theorem dLW_law_470 : decode cLW_law 470 = .ok (.iconst 2, 1) := by decide +kernel
theorem dLW_law_471 : decode cLW_law 471 = .ok (.iadd, 1) := by decide +kernel
theorem dLW_law_472 : decode cLW_law 472 = .ok (.iaload, 1) := by decide +kernel
theorem dLW_law_473 : decode cLW_law 473 = .ok (.aload_n 0, 1) := by decide +kernel
theorem dLW_law_474 : decode cLW_law 474 = .ok (.iload 4, 2) := by decide +kernel
theorem dLW_law_476 : decode cLW_law 476 = .ok (.iconst 3, 1) := by decide +kernel
theorem dLW_law_477 : decode cLW_law 477 = .ok (.iadd, 1) := by decide +kernel
theorem dLW_law_478 : decode cLW_law 478 = .ok (.iaload, 1) := by decide +kernel
theorem dLW_law_479 : decode cLW_law 479 = .ok (.aload_n 0, 1) := by decide +kernel
theorem dLW_law_480 : decode cLW_law 480 = .ok (.iload 4, 2) := by decide +kernel
theorem dLW_law_482 : decode cLW_law 482 = .ok (.iconst 4, 1) := by decide +kernel
theorem dLW_law_483 : decode cLW_law 483 = .ok (.iadd, 1) := by decide +kernel
theorem dLW_law_484 : decode cLW_law 484 = .ok (.iaload, 1) := by decide +kernel
theorem dLW_law_485 : decode cLW_law 485 = .ok (.aload_n 3, 1) := by decide +kernel
theorem dLW_law_486 : decode cLW_law 486 = .ok (.invokestatic 77, 3) := by decide +kernel
theorem dLW_law_489 : decode cLW_law 489 = .ok (.istore 5, 2) := by decide +kernel
theorem dLW_law_491 : decode cLW_law 491 = .ok (.aload_n 2, 1) := by decide +kernel
theorem dLW_law_492 : decode cLW_law 492 = .ok (.aload_n 0, 1) := by decide +kernel
theorem dLW_law_493 : decode cLW_law 493 = .ok (.iload 4, 2) := by decide +kernel
theorem dLW_law_495 : decode cLW_law 495 = .ok (.iconst 1, 1) := by decide +kernel
theorem dLW_law_496 : decode cLW_law 496 = .ok (.iadd, 1) := by decide +kernel
theorem dLW_law_497 : decode cLW_law 497 = .ok (.iaload, 1) := by decide +kernel
theorem dLW_law_498 : decode cLW_law 498 = .ok (.aload_n 0, 1) := by decide +kernel
theorem dLW_law_499 : decode cLW_law 499 = .ok (.iload 4, 2) := by decide +kernel
theorem dLW_law_501 : decode cLW_law 501 = .ok (.iconst 2, 1) := by decide +kernel
theorem dLW_law_502 : decode cLW_law 502 = .ok (.iadd, 1) := by decide +kernel
theorem dLW_law_503 : decode cLW_law 503 = .ok (.iaload, 1) := by decide +kernel
theorem dLW_law_504 : decode cLW_law 504 = .ok (.aload_n 0, 1) := by decide +kernel
theorem dLW_law_505 : decode cLW_law 505 = .ok (.iload 4, 2) := by decide +kernel
theorem dLW_law_507 : decode cLW_law 507 = .ok (.iconst 3, 1) := by decide +kernel
theorem dLW_law_508 : decode cLW_law 508 = .ok (.iadd, 1) := by decide +kernel
theorem dLW_law_509 : decode cLW_law 509 = .ok (.iaload, 1) := by decide +kernel
theorem dLW_law_510 : decode cLW_law 510 = .ok (.aload_n 0, 1) := by decide +kernel
theorem dLW_law_511 : decode cLW_law 511 = .ok (.iload 4, 2) := by decide +kernel
theorem dLW_law_513 : decode cLW_law 513 = .ok (.iconst 4, 1) := by decide +kernel
theorem dLW_law_514 : decode cLW_law 514 = .ok (.iadd, 1) := by decide +kernel
theorem dLW_law_515 : decode cLW_law 515 = .ok (.iaload, 1) := by decide +kernel
theorem dLW_law_516 : decode cLW_law 516 = .ok (.invokevirtual 80, 3) := by decide +kernel
theorem dLW_law_519 : decode cLW_law 519 = .ok (.istore 6, 2) := by decide +kernel
theorem dLW_law_521 : decode cLW_law 521 = .ok (.aload_n 2, 1) := by decide +kernel
theorem dLW_law_522 : decode cLW_law 522 = .ok (.invokevirtual 64, 3) := by decide +kernel
theorem dLW_law_525 : decode cLW_law 525 = .ok (.iload 5, 2) := by decide +kernel
theorem dLW_law_527 : decode cLW_law 527 = .ok (.if_icmp .eq 5, 3) := by decide +kernel
theorem dLW_law_530 : decode cLW_law 530 = .ok (.iconst 0, 1) := by decide +kernel
theorem dLW_law_531 : decode cLW_law 531 = .ok (.ireturn, 1) := by decide +kernel
theorem dLW_law_532 : decode cLW_law 532 = .ok (.iload 5, 2) := by decide +kernel
theorem dLW_law_534 : decode cLW_law 534 = .ok (.ifCond .ne 15, 3) := by decide +kernel
theorem dLW_law_537 : decode cLW_law 537 = .ok (.aload_n 3, 1) := by decide +kernel
theorem dLW_law_538 : decode cLW_law 538 = .ok (.iconst 0, 1) := by decide +kernel
theorem dLW_law_539 : decode cLW_law 539 = .ok (.laload, 1) := by decide +kernel
theorem dLW_law_540 : decode cLW_law 540 = .ok (.iload 6, 2) := by decide +kernel
theorem dLW_law_542 : decode cLW_law 542 = .ok (.i2l, 1) := by decide +kernel
theorem dLW_law_543 : decode cLW_law 543 = .ok (.lcmp, 1) := by decide +kernel
theorem dLW_law_544 : decode cLW_law 544 = .ok (.ifCond .eq 5, 3) := by decide +kernel
theorem dLW_law_547 : decode cLW_law 547 = .ok (.iconst 0, 1) := by decide +kernel
theorem dLW_law_548 : decode cLW_law 548 = .ok (.ireturn, 1) := by decide +kernel
theorem dLW_law_549 : decode cLW_law 549 = .ok (.goto 442, 3) := by decide +kernel
theorem dLW_law_552 : decode cLW_law 552 = .ok (.aload_n 1, 1) := by decide +kernel
theorem dLW_law_553 : decode cLW_law 553 = .ok (.invokevirtual 81, 3) := by decide +kernel
