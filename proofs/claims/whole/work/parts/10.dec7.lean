theorem dPL_setsThatMayLower_39 : decode cPL_setsThatMayLower 39 = .ok (.aload_n 0, 1) := by decide +kernel
theorem dPL_setsThatMayLower_40 : decode cPL_setsThatMayLower 40 = .ok (.getfield 41, 3) := by decide +kernel
theorem dPL_setsThatMayLower_43 : decode cPL_setsThatMayLower 43 = .ok (.getfield 172, 3) := by decide +kernel
theorem dPL_setsThatMayLower_46 : decode cPL_setsThatMayLower 46 = .ok (.iload 4, 2) := by decide +kernel
theorem dPL_setsThatMayLower_48 : decode cPL_setsThatMayLower 48 = .ok (.aload_n 3, 1) := by decide +kernel
theorem dPL_setsThatMayLower_49 : decode cPL_setsThatMayLower 49 = .ok (.getfield 141, 3) := by decide +kernel
theorem dPL_setsThatMayLower_52 : decode cPL_setsThatMayLower 52 = .ok (.iload 6, 2) := by decide +kernel
theorem dPL_setsThatMayLower_54 : decode cPL_setsThatMayLower 54 = .ok (.iaload, 1) := by decide +kernel
theorem dPL_setsThatMayLower_55 : decode cPL_setsThatMayLower 55 = .ok (.iadd, 1) := by decide +kernel
theorem dPL_setsThatMayLower_56 : decode cPL_setsThatMayLower 56 = .ok (.iaload, 1) := by decide +kernel
theorem dPL_setsThatMayLower_57 : decode cPL_setsThatMayLower 57 = .ok (.iload_n 1, 1) := by decide +kernel
theorem dPL_setsThatMayLower_58 : decode cPL_setsThatMayLower 58 = .ok (.if_icmp .ne 73, 3) := by decide +kernel
theorem dPL_setsThatMayLower_61 : decode cPL_setsThatMayLower 61 = .ok (.aload_n 0, 1) := by decide +kernel
theorem dPL_setsThatMayLower_62 : decode cPL_setsThatMayLower 62 = .ok (.getfield 37, 3) := by decide +kernel
theorem dPL_setsThatMayLower_65 : decode cPL_setsThatMayLower 65 = .ok (.getfield 144, 3) := by decide +kernel
theorem dPL_setsThatMayLower_68 : decode cPL_setsThatMayLower 68 = .ok (.iload_n 1, 1) := by decide +kernel
theorem dPL_setsThatMayLower_69 : decode cPL_setsThatMayLower 69 = .ok (.iaload, 1) := by decide +kernel
theorem dPL_setsThatMayLower_70 : decode cPL_setsThatMayLower 70 = .ok (.aload_n 3, 1) := by decide +kernel
theorem dPL_setsThatMayLower_71 : decode cPL_setsThatMayLower 71 = .ok (.getfield 147, 3) := by decide +kernel
theorem dPL_setsThatMayLower_74 : decode cPL_setsThatMayLower 74 = .ok (.iload 6, 2) := by decide +kernel
theorem dPL_setsThatMayLower_76 : decode cPL_setsThatMayLower 76 = .ok (.iaload, 1) := by decide +kernel
theorem dPL_setsThatMayLower_77 : decode cPL_setsThatMayLower 77 = .ok (.iadd, 1) := by decide +kernel
theorem dPL_setsThatMayLower_78 : decode cPL_setsThatMayLower 78 = .ok (.istore 7, 2) := by decide +kernel
theorem dPL_setsThatMayLower_80 : decode cPL_setsThatMayLower 80 = .ok (.aload_n 0, 1) := by decide +kernel
theorem dPL_setsThatMayLower_81 : decode cPL_setsThatMayLower 81 = .ok (.getfield 37, 3) := by decide +kernel
theorem dPL_setsThatMayLower_84 : decode cPL_setsThatMayLower 84 = .ok (.getfield 150, 3) := by decide +kernel
theorem dPL_setsThatMayLower_87 : decode cPL_setsThatMayLower 87 = .ok (.iload_n 1, 1) := by decide +kernel
theorem dPL_setsThatMayLower_88 : decode cPL_setsThatMayLower 88 = .ok (.iaload, 1) := by decide +kernel
theorem dPL_setsThatMayLower_89 : decode cPL_setsThatMayLower 89 = .ok (.aload_n 3, 1) := by decide +kernel
theorem dPL_setsThatMayLower_90 : decode cPL_setsThatMayLower 90 = .ok (.getfield 153, 3) := by decide +kernel
theorem dPL_setsThatMayLower_93 : decode cPL_setsThatMayLower 93 = .ok (.iload 6, 2) := by decide +kernel
theorem dPL_setsThatMayLower_95 : decode cPL_setsThatMayLower 95 = .ok (.iaload, 1) := by decide +kernel
theorem dPL_setsThatMayLower_96 : decode cPL_setsThatMayLower 96 = .ok (.iadd, 1) := by decide +kernel
theorem dPL_setsThatMayLower_97 : decode cPL_setsThatMayLower 97 = .ok (.istore 8, 2) := by decide +kernel
theorem dPL_setsThatMayLower_99 : decode cPL_setsThatMayLower 99 = .ok (.aload_n 0, 1) := by decide +kernel
theorem dPL_setsThatMayLower_100 : decode cPL_setsThatMayLower 100 = .ok (.iload 7, 2) := by decide +kernel
theorem dPL_setsThatMayLower_102 : decode cPL_setsThatMayLower 102 = .ok (.iload 8, 2) := by decide +kernel
theorem dPL_setsThatMayLower_104 : decode cPL_setsThatMayLower 104 = .ok (.invokevirtual 169, 3) := by decide +kernel
theorem dPL_setsThatMayLower_107 : decode cPL_setsThatMayLower 107 = .ok (.istore 9, 2) := by decide +kernel
theorem dPL_setsThatMayLower_109 : decode cPL_setsThatMayLower 109 = .ok (.aload_n 0, 1) := by decide +kernel
theorem dPL_setsThatMayLower_110 : decode cPL_setsThatMayLower 110 = .ok (.invokevirtual 179, 3) := by decide +kernel
theorem dPL_setsThatMayLower_113 : decode cPL_setsThatMayLower 113 = .ok (.ifCond .eq 18, 3) := by decide +kernel
theorem dPL_setsThatMayLower_116 : decode cPL_setsThatMayLower 116 = .ok (.iload 5, 2) := by decide +kernel
theorem dPL_setsThatMayLower_118 : decode cPL_setsThatMayLower 118 = .ok (.aload_n 0, 1) := by decide +kernel
theorem dPL_setsThatMayLower_119 : decode cPL_setsThatMayLower 119 = .ok (.iload 9, 2) := by decide +kernel
theorem dPL_setsThatMayLower_121 : decode cPL_setsThatMayLower 121 = .ok (.iload 7, 2) := by decide +kernel
theorem dPL_setsThatMayLower_123 : decode cPL_setsThatMayLower 123 = .ok (.iload 8, 2) := by decide +kernel
theorem dPL_setsThatMayLower_125 : decode cPL_setsThatMayLower 125 = .ok (.invokevirtual 156, 3) := by decide +kernel
theorem dPL_setsThatMayLower_128 : decode cPL_setsThatMayLower 128 = .ok (.iand, 1) := by decide +kernel
theorem dPL_setsThatMayLower_129 : decode cPL_setsThatMayLower 129 = .ok (.istore 5, 2) := by decide +kernel
theorem dPL_setsThatMayLower_131 : decode cPL_setsThatMayLower 131 = .ok (.iinc 6 1, 3) := by decide +kernel
theorem dPL_setsThatMayLower_134 : decode cPL_setsThatMayLower 134 = .ok (.goto (-109), 3) := by decide +kernel
theorem dPL_setsThatMayLower_137 : decode cPL_setsThatMayLower 137 = .ok (.iload 5, 2) := by decide +kernel
theorem dPL_setsThatMayLower_139 : decode cPL_setsThatMayLower 139 = .ok (.ireturn, 1) := by decide +kernel
theorem dPL_isWantedListed_0 : decode cPL_isWantedListed 0 = .ok (.iconst 0, 1) := by decide +kernel
theorem dPL_isWantedListed_1 : decode cPL_isWantedListed 1 = .ok (.istore_n 1, 1) := by decide +kernel
theorem dPL_isWantedListed_2 : decode cPL_isWantedListed 2 = .ok (.iload_n 1, 1) := by decide +kernel
theorem dPL_isWantedListed_3 : decode cPL_isWantedListed 3 = .ok (.aload_n 0, 1) := by decide +kernel
theorem dPL_isWantedListed_4 : decode cPL_isWantedListed 4 = .ok (.getfield 41, 3) := by decide +kernel
theorem dPL_isWantedListed_7 : decode cPL_isWantedListed 7 = .ok (.getfield 182, 3) := by decide +kernel
theorem dPL_isWantedListed_10 : decode cPL_isWantedListed 10 = .ok (.if_icmp .ge 28, 3) := by decide +kernel
theorem dPL_isWantedListed_13 : decode cPL_isWantedListed 13 = .ok (.aload_n 0, 1) := by decide +kernel
theorem dPL_isWantedListed_14 : decode cPL_isWantedListed 14 = .ok (.getfield 50, 3) := by decide +kernel
theorem dPL_isWantedListed_17 : decode cPL_isWantedListed 17 = .ok (.aload_n 0, 1) := by decide +kernel
theorem dPL_isWantedListed_18 : decode cPL_isWantedListed 18 = .ok (.getfield 41, 3) := by decide +kernel
theorem dPL_isWantedListed_21 : decode cPL_isWantedListed 21 = .ok (.getfield 185, 3) := by decide +kernel
theorem dPL_isWantedListed_24 : decode cPL_isWantedListed 24 = .ok (.iload_n 1, 1) := by decide +kernel
theorem dPL_isWantedListed_25 : decode cPL_isWantedListed 25 = .ok (.iaload, 1) := by decide +kernel
theorem dPL_isWantedListed_26 : decode cPL_isWantedListed 26 = .ok (.baload, 1) := by decide +kernel
theorem dPL_isWantedListed_27 : decode cPL_isWantedListed 27 = .ok (.ifCond .eq 5, 3) := by decide +kernel
theorem dPL_isWantedListed_30 : decode cPL_isWantedListed 30 = .ok (.iconst 1, 1) := by decide +kernel
theorem dPL_isWantedListed_31 : decode cPL_isWantedListed 31 = .ok (.ireturn, 1) := by decide +kernel
theorem dPL_isWantedListed_32 : decode cPL_isWantedListed 32 = .ok (.iinc 1 1, 3) := by decide +kernel
theorem dPL_isWantedListed_35 : decode cPL_isWantedListed 35 = .ok (.goto (-33), 3) := by decide +kernel
theorem dPL_isWantedListed_38 : decode cPL_isWantedListed 38 = .ok (.iconst 0, 1) := by decide +kernel
theorem dPL_isWantedListed_39 : decode cPL_isWantedListed 39 = .ok (.ireturn, 1) := by decide +kernel
theorem dPL_setsAbove_0 : decode cPL_setsAbove 0 = .ok (.iconst 0, 1) := by decide +kernel
theorem dPL_setsAbove_1 : decode cPL_setsAbove 1 = .ok (.istore 4, 2) := by decide +kernel
theorem dPL_setsAbove_3 : decode cPL_setsAbove 3 = .ok (.iconst 0, 1) := by decide +kernel
theorem dPL_setsAbove_4 : decode cPL_setsAbove 4 = .ok (.istore 5, 2) := by decide +kernel
theorem dPL_setsAbove_6 : decode cPL_setsAbove 6 = .ok (.iload 5, 2) := by decide +kernel
theorem dPL_setsAbove_8 : decode cPL_setsAbove 8 = .ok (.aload_n 0, 1) := by decide +kernel
theorem dPL_setsAbove_9 : decode cPL_setsAbove 9 = .ok (.getfield 31, 3) := by decide +kernel
theorem dPL_setsAbove_12 : decode cPL_setsAbove 12 = .ok (.if_icmp .ge 49, 3) := by decide +kernel
theorem dPL_setsAbove_15 : decode cPL_setsAbove 15 = .ok (.aload_n 0, 1) := by decide +kernel
theorem dPL_setsAbove_16 : decode cPL_setsAbove 16 = .ok (.getfield 25, 3) := by decide +kernel
theorem dPL_setsAbove_19 : decode cPL_setsAbove 19 = .ok (.iload 5, 2) := by decide +kernel
theorem dPL_setsAbove_21 : decode cPL_setsAbove 21 = .ok (.iaload, 1) := by decide +kernel
theorem dPL_setsAbove_22 : decode cPL_setsAbove 22 = .ok (.aload_n 0, 1) := by decide +kernel
theorem dPL_setsAbove_23 : decode cPL_setsAbove 23 = .ok (.getfield 41, 3) := by decide +kernel
theorem dPL_setsAbove_26 : decode cPL_setsAbove 26 = .ok (.aload_n 0, 1) := by decide +kernel
theorem dPL_setsAbove_27 : decode cPL_setsAbove 27 = .ok (.getfield 22, 3) := by decide +kernel
theorem dPL_setsAbove_30 : decode cPL_setsAbove 30 = .ok (.iload 5, 2) := by decide +kernel
theorem dPL_setsAbove_32 : decode cPL_setsAbove 32 = .ok (.iaload, 1) := by decide +kernel
theorem dPL_setsAbove_33 : decode cPL_setsAbove 33 = .ok (.iload_n 2, 1) := by decide +kernel
theorem dPL_setsAbove_34 : decode cPL_setsAbove 34 = .ok (.iload_n 3, 1) := by decide +kernel
theorem dPL_setsAbove_35 : decode cPL_setsAbove 35 = .ok (.invokevirtual 188, 3) := by decide +kernel
theorem dPL_setsAbove_38 : decode cPL_setsAbove 38 = .ok (.iadd, 1) := by decide +kernel
theorem dPL_setsAbove_39 : decode cPL_setsAbove 39 = .ok (.iload_n 1, 1) := by decide +kernel
theorem dPL_setsAbove_40 : decode cPL_setsAbove 40 = .ok (.if_icmp .le 15, 3) := by decide +kernel
theorem dPL_setsAbove_43 : decode cPL_setsAbove 43 = .ok (.iload 4, 2) := by decide +kernel
theorem dPL_setsAbove_45 : decode cPL_setsAbove 45 = .ok (.aload_n 0, 1) := by decide +kernel
theorem dPL_setsAbove_46 : decode cPL_setsAbove 46 = .ok (.getfield 28, 3) := by decide +kernel
theorem dPL_setsAbove_49 : decode cPL_setsAbove 49 = .ok (.iload 5, 2) := by decide +kernel
theorem dPL_setsAbove_51 : decode cPL_setsAbove 51 = .ok (.iaload, 1) := by decide +kernel
theorem dPL_setsAbove_52 : decode cPL_setsAbove 52 = .ok (.ior, 1) := by decide +kernel
theorem dPL_setsAbove_53 : decode cPL_setsAbove 53 = .ok (.istore 4, 2) := by decide +kernel
theorem dPL_setsAbove_55 : decode cPL_setsAbove 55 = .ok (.iinc 5 1, 3) := by decide +kernel
theorem dPL_setsAbove_58 : decode cPL_setsAbove 58 = .ok (.goto (-52), 3) := by decide +kernel
theorem dPL_setsAbove_61 : decode cPL_setsAbove 61 = .ok (.iload 4, 2) := by decide +kernel
theorem dPL_setsAbove_63 : decode cPL_setsAbove 63 = .ok (.ireturn, 1) := by decide +kernel
theorem dPL_bestOf_0 : decode cPL_bestOf 0 = .ok (.iconst (-1), 1) := by decide +kernel
theorem dPL_bestOf_1 : decode cPL_bestOf 1 = .ok (.istore_n 2, 1) := by decide +kernel
theorem dPL_bestOf_2 : decode cPL_bestOf 2 = .ok (.iconst 0, 1) := by decide +kernel
theorem dPL_bestOf_3 : decode cPL_bestOf 3 = .ok (.istore_n 3, 1) := by decide +kernel
theorem dPL_bestOf_4 : decode cPL_bestOf 4 = .ok (.iload_n 3, 1) := by decide +kernel
theorem dPL_bestOf_5 : decode cPL_bestOf 5 = .ok (.iconst 1, 1) := by decide +kernel
theorem dPL_bestOf_6 : decode cPL_bestOf 6 = .ok (.aload_n 0, 1) := by decide +kernel
theorem dPL_bestOf_7 : decode cPL_bestOf 7 = .ok (.getfield 18, 3) := by decide +kernel
theorem dPL_bestOf_10 : decode cPL_bestOf 10 = .ok (.ishl, 1) := by decide +kernel
theorem dPL_bestOf_11 : decode cPL_bestOf 11 = .ok (.if_icmp .ge 28, 3) := by decide +kernel
theorem dPL_bestOf_14 : decode cPL_bestOf 14 = .ok (.iload_n 1, 1) := by decide +kernel
theorem dPL_bestOf_15 : decode cPL_bestOf 15 = .ok (.iload_n 3, 1) := by decide +kernel
theorem dPL_bestOf_16 : decode cPL_bestOf 16 = .ok (.invokestatic 191, 3) := by decide +kernel
theorem dPL_bestOf_19 : decode cPL_bestOf 19 = .ok (.ifCond .eq 14, 3) := by decide +kernel
theorem dPL_bestOf_22 : decode cPL_bestOf 22 = .ok (.aload_n 0, 1) := by decide +kernel
theorem dPL_bestOf_23 : decode cPL_bestOf 23 = .ok (.iload_n 3, 1) := by decide +kernel
theorem dPL_bestOf_24 : decode cPL_bestOf 24 = .ok (.iload_n 2, 1) := by decide +kernel
theorem dPL_bestOf_25 : decode cPL_bestOf 25 = .ok (.invokevirtual 195, 3) := by decide +kernel
theorem dPL_bestOf_28 : decode cPL_bestOf 28 = .ok (.ifCond .eq 5, 3) := by decide +kernel
theorem dPL_bestOf_31 : decode cPL_bestOf 31 = .ok (.iload_n 3, 1) := by decide +kernel
theorem dPL_bestOf_32 : decode cPL_bestOf 32 = .ok (.istore_n 2, 1) := by decide +kernel
theorem dPL_bestOf_33 : decode cPL_bestOf 33 = .ok (.iinc 3 1, 3) := by decide +kernel
theorem dPL_bestOf_36 : decode cPL_bestOf 36 = .ok (.goto (-32), 3) := by decide +kernel
theorem dPL_bestOf_39 : decode cPL_bestOf 39 = .ok (.iload_n 2, 1) := by decide +kernel
theorem dPL_bestOf_40 : decode cPL_bestOf 40 = .ok (.ireturn, 1) := by decide +kernel
theorem dPL_setsBetterThan_0 : decode cPL_setsBetterThan 0 = .ok (.iconst 0, 1) := by decide +kernel
theorem dPL_setsBetterThan_1 : decode cPL_setsBetterThan 1 = .ok (.istore_n 3, 1) := by decide +kernel
theorem dPL_setsBetterThan_2 : decode cPL_setsBetterThan 2 = .ok (.iconst 0, 1) := by decide +kernel
theorem dPL_setsBetterThan_3 : decode cPL_setsBetterThan 3 = .ok (.istore 4, 2) := by decide +kernel
theorem dPL_setsBetterThan_5 : decode cPL_setsBetterThan 5 = .ok (.iload 4, 2) := by decide +kernel
theorem dPL_setsBetterThan_7 : decode cPL_setsBetterThan 7 = .ok (.iconst 1, 1) := by decide +kernel
theorem dPL_setsBetterThan_8 : decode cPL_setsBetterThan 8 = .ok (.aload_n 0, 1) := by decide +kernel
theorem dPL_setsBetterThan_9 : decode cPL_setsBetterThan 9 = .ok (.getfield 18, 3) := by decide +kernel
theorem dPL_setsBetterThan_12 : decode cPL_setsBetterThan 12 = .ok (.ishl, 1) := by decide +kernel
theorem dPL_setsBetterThan_13 : decode cPL_setsBetterThan 13 = .ok (.if_icmp .ge 35, 3) := by decide +kernel
theorem dPL_setsBetterThan_16 : decode cPL_setsBetterThan 16 = .ok (.iload_n 2, 1) := by decide +kernel
theorem dPL_setsBetterThan_17 : decode cPL_setsBetterThan 17 = .ok (.iload 4, 2) := by decide +kernel
theorem dPL_setsBetterThan_19 : decode cPL_setsBetterThan 19 = .ok (.invokestatic 191, 3) := by decide +kernel
theorem dPL_setsBetterThan_22 : decode cPL_setsBetterThan 22 = .ok (.ifCond .eq 20, 3) := by decide +kernel
theorem dPL_setsBetterThan_25 : decode cPL_setsBetterThan 25 = .ok (.aload_n 0, 1) := by decide +kernel
theorem dPL_setsBetterThan_26 : decode cPL_setsBetterThan 26 = .ok (.iload 4, 2) := by decide +kernel
theorem dPL_setsBetterThan_28 : decode cPL_setsBetterThan 28 = .ok (.iload_n 1, 1) := by decide +kernel
theorem dPL_setsBetterThan_29 : decode cPL_setsBetterThan 29 = .ok (.invokevirtual 195, 3) := by decide +kernel
theorem dPL_setsBetterThan_32 : decode cPL_setsBetterThan 32 = .ok (.ifCond .eq 10, 3) := by decide +kernel
theorem dPL_setsBetterThan_35 : decode cPL_setsBetterThan 35 = .ok (.iload_n 3, 1) := by decide +kernel
theorem dPL_setsBetterThan_36 : decode cPL_setsBetterThan 36 = .ok (.iconst 1, 1) := by decide +kernel
theorem dPL_setsBetterThan_37 : decode cPL_setsBetterThan 37 = .ok (.iload 4, 2) := by decide +kernel
theorem dPL_setsBetterThan_39 : decode cPL_setsBetterThan 39 = .ok (.ishl, 1) := by decide +kernel
theorem dPL_setsBetterThan_40 : decode cPL_setsBetterThan 40 = .ok (.ior, 1) := by decide +kernel
theorem dPL_setsBetterThan_41 : decode cPL_setsBetterThan 41 = .ok (.istore_n 3, 1) := by decide +kernel
theorem dPL_setsBetterThan_42 : decode cPL_setsBetterThan 42 = .ok (.iinc 4 1, 3) := by decide +kernel
theorem dPL_setsBetterThan_45 : decode cPL_setsBetterThan 45 = .ok (.goto (-40), 3) := by decide +kernel
theorem dPL_setsBetterThan_48 : decode cPL_setsBetterThan 48 = .ok (.iload_n 3, 1) := by decide +kernel
theorem dPL_setsBetterThan_49 : decode cPL_setsBetterThan 49 = .ok (.ireturn, 1) := by decide +kernel
theorem dPL_isBetter_0 : decode cPL_isBetter 0 = .ok (.iload_n 2, 1) := by decide +kernel
theorem dPL_isBetter_1 : decode cPL_isBetter 1 = .ok (.iconst (-1), 1) := by decide +kernel
theorem dPL_isBetter_2 : decode cPL_isBetter 2 = .ok (.if_icmp .ne 5, 3) := by decide +kernel
theorem dPL_isBetter_5 : decode cPL_isBetter 5 = .ok (.iconst 1, 1) := by decide +kernel
theorem dPL_isBetter_6 : decode cPL_isBetter 6 = .ok (.ireturn, 1) := by decide +kernel
theorem dPL_isBetter_7 : decode cPL_isBetter 7 = .ok (.iload_n 2, 1) := by decide +kernel
theorem dPL_isBetter_8 : decode cPL_isBetter 8 = .ok (.invokestatic 198, 3) := by decide +kernel
theorem dPL_isBetter_11 : decode cPL_isBetter 11 = .ok (.iload_n 1, 1) := by decide +kernel
theorem dPL_isBetter_12 : decode cPL_isBetter 12 = .ok (.invokestatic 198, 3) := by decide +kernel
theorem dPL_isBetter_15 : decode cPL_isBetter 15 = .ok (.isub, 1) := by decide +kernel
theorem dPL_isBetter_16 : decode cPL_isBetter 16 = .ok (.istore_n 3, 1) := by decide +kernel
theorem dPL_isBetter_17 : decode cPL_isBetter 17 = .ok (.iload_n 3, 1) := by decide +kernel
theorem dPL_isBetter_18 : decode cPL_isBetter 18 = .ok (.ifCond .eq 13, 3) := by decide +kernel
theorem dPL_isBetter_21 : decode cPL_isBetter 21 = .ok (.iload_n 3, 1) := by decide +kernel
theorem dPL_isBetter_22 : decode cPL_isBetter 22 = .ok (.ifCond .le 7, 3) := by decide +kernel
theorem dPL_isBetter_25 : decode cPL_isBetter 25 = .ok (.iconst 1, 1) := by decide +kernel
theorem dPL_isBetter_26 : decode cPL_isBetter 26 = .ok (.goto 4, 3) := by decide +kernel
theorem dPL_isBetter_29 : decode cPL_isBetter 29 = .ok (.iconst 0, 1) := by decide +kernel
theorem dPL_isBetter_30 : decode cPL_isBetter 30 = .ok (.ireturn, 1) := by decide +kernel
theorem dPL_isBetter_31 : decode cPL_isBetter 31 = .ok (.aload_n 0, 1) := by decide +kernel
theorem dPL_isBetter_32 : decode cPL_isBetter 32 = .ok (.iload_n 2, 1) := by decide +kernel
theorem dPL_isBetter_33 : decode cPL_isBetter 33 = .ok (.invokevirtual 203, 3) := by decide +kernel
theorem dPL_isBetter_36 : decode cPL_isBetter 36 = .ok (.aload_n 0, 1) := by decide +kernel
theorem dPL_isBetter_37 : decode cPL_isBetter 37 = .ok (.iload_n 1, 1) := by decide +kernel
theorem dPL_isBetter_38 : decode cPL_isBetter 38 = .ok (.invokevirtual 203, 3) := by decide +kernel
theorem dPL_isBetter_41 : decode cPL_isBetter 41 = .ok (.isub, 1) := by decide +kernel
theorem dPL_isBetter_42 : decode cPL_isBetter 42 = .ok (.istore 4, 2) := by decide +kernel
theorem dPL_isBetter_44 : decode cPL_isBetter 44 = .ok (.iload 4, 2) := by decide +kernel
theorem dPL_isBetter_46 : decode cPL_isBetter 46 = .ok (.ifCond .gt 13, 3) := by decide +kernel
theorem dPL_isBetter_49 : decode cPL_isBetter 49 = .ok (.iload 4, 2) := by decide +kernel
theorem dPL_isBetter_51 : decode cPL_isBetter 51 = .ok (.ifCond .ne 12, 3) := by decide +kernel
theorem dPL_isBetter_54 : decode cPL_isBetter 54 = .ok (.iload_n 1, 1) := by decide +kernel
theorem dPL_isBetter_55 : decode cPL_isBetter 55 = .ok (.iload_n 2, 1) := by decide +kernel
theorem dPL_isBetter_56 : decode cPL_isBetter 56 = .ok (.if_icmp .ge 7, 3) := by decide +kernel
theorem dPL_isBetter_59 : decode cPL_isBetter 59 = .ok (.iconst 1, 1) := by decide +kernel
theorem dPL_isBetter_60 : decode cPL_isBetter 60 = .ok (.goto 4, 3) := by decide +kernel
theorem dPL_isBetter_63 : decode cPL_isBetter 63 = .ok (.iconst 0, 1) := by decide +kernel
theorem dPL_isBetter_64 : decode cPL_isBetter 64 = .ok (.ireturn, 1) := by decide +kernel
theorem dPL_lengthOf_0 : decode cPL_lengthOf 0 = .ok (.iconst 0, 1) := by decide +kernel
theorem dPL_lengthOf_1 : decode cPL_lengthOf 1 = .ok (.istore_n 2, 1) := by decide +kernel
theorem dPL_lengthOf_2 : decode cPL_lengthOf 2 = .ok (.iconst 0, 1) := by decide +kernel
theorem dPL_lengthOf_3 : decode cPL_lengthOf 3 = .ok (.istore_n 3, 1) := by decide +kernel
theorem dPL_lengthOf_4 : decode cPL_lengthOf 4 = .ok (.iload_n 3, 1) := by decide +kernel
theorem dPL_lengthOf_5 : decode cPL_lengthOf 5 = .ok (.aload_n 0, 1) := by decide +kernel
theorem dPL_lengthOf_6 : decode cPL_lengthOf 6 = .ok (.getfield 18, 3) := by decide +kernel
theorem dPL_lengthOf_9 : decode cPL_lengthOf 9 = .ok (.if_icmp .ge 26, 3) := by decide +kernel
theorem dPL_lengthOf_12 : decode cPL_lengthOf 12 = .ok (.iload_n 1, 1) := by decide +kernel
theorem dPL_lengthOf_13 : decode cPL_lengthOf 13 = .ok (.iload_n 3, 1) := by decide +kernel
theorem dPL_lengthOf_14 : decode cPL_lengthOf 14 = .ok (.invokestatic 191, 3) := by decide +kernel
theorem dPL_lengthOf_17 : decode cPL_lengthOf 17 = .ok (.ifCond .eq 12, 3) := by decide +kernel
theorem dPL_lengthOf_20 : decode cPL_lengthOf 20 = .ok (.iload_n 2, 1) := by decide +kernel
theorem dPL_lengthOf_21 : decode cPL_lengthOf 21 = .ok (.aload_n 0, 1) := by decide +kernel
theorem dPL_lengthOf_22 : decode cPL_lengthOf 22 = .ok (.getfield 15, 3) := by decide +kernel
theorem dPL_lengthOf_25 : decode cPL_lengthOf 25 = .ok (.iload_n 3, 1) := by decide +kernel
theorem dPL_lengthOf_26 : decode cPL_lengthOf 26 = .ok (.iaload, 1) := by decide +kernel
theorem dPL_lengthOf_27 : decode cPL_lengthOf 27 = .ok (.iadd, 1) := by decide +kernel
theorem dPL_lengthOf_28 : decode cPL_lengthOf 28 = .ok (.istore_n 2, 1) := by decide +kernel
theorem dPL_lengthOf_29 : decode cPL_lengthOf 29 = .ok (.iinc 3 1, 3) := by decide +kernel
theorem dPL_lengthOf_32 : decode cPL_lengthOf 32 = .ok (.goto (-28), 3) := by decide +kernel
theorem dPL_lengthOf_35 : decode cPL_lengthOf 35 = .ok (.iload_n 2, 1) := by decide +kernel
theorem dPL_lengthOf_36 : decode cPL_lengthOf 36 = .ok (.ireturn, 1) := by decide +kernel
theorem dSH_init_0 : decode cSH_init 0 = .ok (.aload_n 0, 1) := by decide +kernel
theorem dSH_init_1 : decode cSH_init 1 = .ok (.invokespecial 1, 3) := by decide +kernel
theorem dSH_init_4 : decode cSH_init 4 = .ok (.iload_n 1, 1) := by decide +kernel
theorem dSH_init_5 : decode cSH_init 5 = .ok (.invokestatic 7, 3) := by decide +kernel
theorem dSH_init_8 : decode cSH_init 8 = .ok (.astore_n 3, 1) := by decide +kernel
theorem dSH_init_9 : decode cSH_init 9 = .ok (.aload_n 0, 1) := by decide +kernel
theorem dSH_init_10 : decode cSH_init 10 = .ok (.aload_n 3, 1) := by decide +kernel
theorem dSH_init_11 : decode cSH_init 11 = .ok (.iload_n 1, 1) := by decide +kernel
theorem dSH_init_12 : decode cSH_init 12 = .ok (.iload_n 1, 1) := by decide +kernel
theorem dSH_init_13 : decode cSH_init 13 = .ok (.imul, 1) := by decide +kernel
theorem dSH_init_14 : decode cSH_init 14 = .ok (.iconst 1, 1) := by decide +kernel
theorem dSH_init_15 : decode cSH_init 15 = .ok (.iadd, 1) := by decide +kernel
theorem dSH_init_16 : decode cSH_init 16 = .ok (.iaload, 1) := by decide +kernel
theorem dSH_init_17 : decode cSH_init 17 = .ok (.putfield 13, 3) := by decide +kernel
theorem dSH_init_20 : decode cSH_init 20 = .ok (.aload_n 0, 1) := by decide +kernel
theorem dSH_init_21 : decode cSH_init 21 = .ok (.aload_n 0, 1) := by decide +kernel
theorem dSH_init_22 : decode cSH_init 22 = .ok (.getfield 13, 3) := by decide +kernel
theorem dSH_init_25 : decode cSH_init 25 = .ok (.newarray .int, 2) := by decide +kernel
theorem dSH_init_27 : decode cSH_init 27 = .ok (.putfield 17, 3) := by decide +kernel
theorem dSH_init_30 : decode cSH_init 30 = .ok (.aload_n 0, 1) := by decide +kernel
theorem dSH_init_31 : decode cSH_init 31 = .ok (.aload_n 0, 1) := by decide +kernel
theorem dSH_init_32 : decode cSH_init 32 = .ok (.getfield 13, 3) := by decide +kernel
theorem dSH_init_35 : decode cSH_init 35 = .ok (.newarray .int, 2) := by decide +kernel
theorem dSH_init_37 : decode cSH_init 37 = .ok (.putfield 21, 3) := by decide +kernel
theorem dSH_init_40 : decode cSH_init 40 = .ok (.aload_n 0, 1) := by decide +kernel
theorem dSH_init_41 : decode cSH_init 41 = .ok (.aload_n 0, 1) := by decide +kernel
theorem dSH_init_42 : decode cSH_init 42 = .ok (.getfield 13, 3) := by decide +kernel
theorem dSH_init_45 : decode cSH_init 45 = .ok (.newarray .int, 2) := by decide +kernel
theorem dSH_init_47 : decode cSH_init 47 = .ok (.putfield 24, 3) := by decide +kernel
theorem dSH_init_50 : decode cSH_init 50 = .ok (.aload_n 0, 1) := by decide +kernel
theorem dSH_init_51 : decode cSH_init 51 = .ok (.aload_n 0, 1) := by decide +kernel
theorem dSH_init_52 : decode cSH_init 52 = .ok (.getfield 13, 3) := by decide +kernel
theorem dSH_init_55 : decode cSH_init 55 = .ok (.newarray .int, 2) := by decide +kernel
theorem dSH_init_57 : decode cSH_init 57 = .ok (.putfield 27, 3) := by decide +kernel
theorem dSH_init_60 : decode cSH_init 60 = .ok (.aload_n 0, 1) := by decide +kernel
theorem dSH_init_61 : decode cSH_init 61 = .ok (.iconst 2, 1) := by decide +kernel
theorem dSH_init_62 : decode cSH_init 62 = .ok (.iload_n 1, 1) := by decide +kernel
theorem dSH_init_63 : decode cSH_init 63 = .ok (.imul, 1) := by decide +kernel
theorem dSH_init_64 : decode cSH_init 64 = .ok (.iconst 1, 1) := by decide +kernel
theorem dSH_init_65 : decode cSH_init 65 = .ok (.iadd, 1) := by decide +kernel
theorem dSH_init_66 : decode cSH_init 66 = .ok (.putfield 30, 3) := by decide +kernel
theorem dSH_init_69 : decode cSH_init 69 = .ok (.aload_n 0, 1) := by decide +kernel
theorem dSH_init_70 : decode cSH_init 70 = .ok (.aload_n 0, 1) := by decide +kernel
theorem dSH_init_71 : decode cSH_init 71 = .ok (.getfield 30, 3) := by decide +kernel
theorem dSH_init_74 : decode cSH_init 74 = .ok (.aload_n 0, 1) := by decide +kernel
theorem dSH_init_75 : decode cSH_init 75 = .ok (.getfield 30, 3) := by decide +kernel
theorem dSH_init_78 : decode cSH_init 78 = .ok (.imul, 1) := by decide +kernel
theorem dSH_init_79 : decode cSH_init 79 = .ok (.newarray .int, 2) := by decide +kernel
theorem dSH_init_81 : decode cSH_init 81 = .ok (.putfield 33, 3) := by decide +kernel
theorem dSH_init_84 : decode cSH_init 84 = .ok (.iload_n 1, 1) := by decide +kernel
theorem dSH_init_85 : decode cSH_init 85 = .ok (.ineg, 1) := by decide +kernel
theorem dSH_init_86 : decode cSH_init 86 = .ok (.istore 4, 2) := by decide +kernel
theorem dSH_init_88 : decode cSH_init 88 = .ok (.iload 4, 2) := by decide +kernel
theorem dSH_init_90 : decode cSH_init 90 = .ok (.iload_n 1, 1) := by decide +kernel
theorem dSH_init_91 : decode cSH_init 91 = .ok (.if_icmp .gt 146, 3) := by decide +kernel
theorem dSH_init_94 : decode cSH_init 94 = .ok (.iload_n 1, 1) := by decide +kernel
theorem dSH_init_95 : decode cSH_init 95 = .ok (.ineg, 1) := by decide +kernel
theorem dSH_init_96 : decode cSH_init 96 = .ok (.istore 5, 2) := by decide +kernel
theorem dSH_init_98 : decode cSH_init 98 = .ok (.iload 5, 2) := by decide +kernel
theorem dSH_init_100 : decode cSH_init 100 = .ok (.iload_n 1, 1) := by decide +kernel
theorem dSH_init_101 : decode cSH_init 101 = .ok (.if_icmp .gt 130, 3) := by decide +kernel
theorem dSH_init_104 : decode cSH_init 104 = .ok (.iload 5, 2) := by decide +kernel
theorem dSH_init_106 : decode cSH_init 106 = .ok (.iload 5, 2) := by decide +kernel
theorem dSH_init_108 : decode cSH_init 108 = .ok (.imul, 1) := by decide +kernel
theorem dSH_init_109 : decode cSH_init 109 = .ok (.iload 4, 2) := by decide +kernel
theorem dSH_init_111 : decode cSH_init 111 = .ok (.iload 4, 2) := by decide +kernel
theorem dSH_init_113 : decode cSH_init 113 = .ok (.imul, 1) := by decide +kernel
theorem dSH_init_114 : decode cSH_init 114 = .ok (.iadd, 1) := by decide +kernel
theorem dSH_init_115 : decode cSH_init 115 = .ok (.istore 6, 2) := by decide +kernel
theorem dSH_init_117 : decode cSH_init 117 = .ok (.iload 6, 2) := by decide +kernel
theorem dSH_init_119 : decode cSH_init 119 = .ok (.iload_n 1, 1) := by decide +kernel
theorem dSH_init_120 : decode cSH_init 120 = .ok (.iload_n 1, 1) := by decide +kernel
theorem dSH_init_121 : decode cSH_init 121 = .ok (.imul, 1) := by decide +kernel
theorem dSH_init_122 : decode cSH_init 122 = .ok (.if_icmp .gt 16, 3) := by decide +kernel
theorem dSH_init_125 : decode cSH_init 125 = .ok (.getstatic 36, 3) := by decide +kernel
theorem dSH_init_128 : decode cSH_init 128 = .ok (.iload_n 1, 1) := by decide +kernel
theorem dSH_init_129 : decode cSH_init 129 = .ok (.iload_n 1, 1) := by decide +kernel
theorem dSH_init_130 : decode cSH_init 130 = .ok (.imul, 1) := by decide +kernel
theorem dSH_init_131 : decode cSH_init 131 = .ok (.iload 6, 2) := by decide +kernel
theorem dSH_init_133 : decode cSH_init 133 = .ok (.isub, 1) := by decide +kernel
theorem dSH_init_134 : decode cSH_init 134 = .ok (.iaload, 1) := by decide +kernel
theorem dSH_init_135 : decode cSH_init 135 = .ok (.goto 5, 3) := by decide +kernel
theorem dSH_init_138 : decode cSH_init 138 = .ok (.ldc 41, 2) := by decide +kernel
theorem dSH_init_140 : decode cSH_init 140 = .ok (.istore 7, 2) := by decide +kernel
theorem dSH_init_142 : decode cSH_init 142 = .ok (.aload_n 0, 1) := by decide +kernel
theorem dSH_init_143 : decode cSH_init 143 = .ok (.getfield 33, 3) := by decide +kernel
theorem dSH_init_146 : decode cSH_init 146 = .ok (.iload 4, 2) := by decide +kernel
theorem dSH_init_148 : decode cSH_init 148 = .ok (.iload_n 1, 1) := by decide +kernel
theorem dSH_init_149 : decode cSH_init 149 = .ok (.iadd, 1) := by decide +kernel
theorem dSH_init_150 : decode cSH_init 150 = .ok (.aload_n 0, 1) := by decide +kernel
theorem dSH_init_151 : decode cSH_init 151 = .ok (.getfield 30, 3) := by decide +kernel
theorem dSH_init_154 : decode cSH_init 154 = .ok (.imul, 1) := by decide +kernel
theorem dSH_init_155 : decode cSH_init 155 = .ok (.iload 5, 2) := by decide +kernel
theorem dSH_init_157 : decode cSH_init 157 = .ok (.iadd, 1) := by decide +kernel
theorem dSH_init_158 : decode cSH_init 158 = .ok (.iload_n 1, 1) := by decide +kernel
theorem dSH_init_159 : decode cSH_init 159 = .ok (.iadd, 1) := by decide +kernel
theorem dSH_init_160 : decode cSH_init 160 = .ok (.iload 7, 2) := by decide +kernel
theorem dSH_init_162 : decode cSH_init 162 = .ok (.iastore, 1) := by decide +kernel
theorem dSH_init_163 : decode cSH_init 163 = .ok (.iload 7, 2) := by decide +kernel
theorem dSH_init_165 : decode cSH_init 165 = .ok (.ldc 41, 2) := by decide +kernel
theorem dSH_init_167 : decode cSH_init 167 = .ok (.if_icmp .eq 58, 3) := by decide +kernel
theorem dSH_init_170 : decode cSH_init 170 = .ok (.aload_n 3, 1) := by decide +kernel
theorem dSH_init_171 : decode cSH_init 171 = .ok (.iload 6, 2) := by decide +kernel
theorem dSH_init_173 : decode cSH_init 173 = .ok (.iaload, 1) := by decide +kernel
theorem dSH_init_174 : decode cSH_init 174 = .ok (.istore 8, 2) := by decide +kernel
theorem dSH_init_176 : decode cSH_init 176 = .ok (.aload_n 3, 1) := by decide +kernel
theorem dSH_init_177 : decode cSH_init 177 = .ok (.iload 6, 2) := by decide +kernel
theorem dSH_init_179 : decode cSH_init 179 = .ok (.dup2, 1) := by decide +kernel
theorem dSH_init_180 : decode cSH_init 180 = .ok (.iaload, 1) := by decide +kernel
theorem dSH_init_181 : decode cSH_init 181 = .ok (.iconst 1, 1) := by decide +kernel
theorem dSH_init_182 : decode cSH_init 182 = .ok (.iadd, 1) := by decide +kernel
theorem dSH_init_183 : decode cSH_init 183 = .ok (.iastore, 1) := by decide +kernel
theorem dSH_init_184 : decode cSH_init 184 = .ok (.aload_n 0, 1) := by decide +kernel
theorem dSH_init_185 : decode cSH_init 185 = .ok (.getfield 17, 3) := by decide +kernel
theorem dSH_init_188 : decode cSH_init 188 = .ok (.iload 8, 2) := by decide +kernel
theorem dSH_init_190 : decode cSH_init 190 = .ok (.iload 5, 2) := by decide +kernel
theorem dSH_init_192 : decode cSH_init 192 = .ok (.iastore, 1) := by decide +kernel
theorem dSH_init_193 : decode cSH_init 193 = .ok (.aload_n 0, 1) := by decide +kernel
theorem dSH_init_194 : decode cSH_init 194 = .ok (.getfield 21, 3) := by decide +kernel
theorem dSH_init_197 : decode cSH_init 197 = .ok (.iload 8, 2) := by decide +kernel
theorem dSH_init_199 : decode cSH_init 199 = .ok (.iload 4, 2) := by decide +kernel
theorem dSH_init_201 : decode cSH_init 201 = .ok (.iastore, 1) := by decide +kernel
theorem dSH_init_202 : decode cSH_init 202 = .ok (.aload_n 0, 1) := by decide +kernel
theorem dSH_init_203 : decode cSH_init 203 = .ok (.getfield 24, 3) := by decide +kernel
theorem dSH_init_206 : decode cSH_init 206 = .ok (.iload 8, 2) := by decide +kernel
theorem dSH_init_208 : decode cSH_init 208 = .ok (.iload 4, 2) := by decide +kernel
theorem dSH_init_210 : decode cSH_init 210 = .ok (.iload_n 2, 1) := by decide +kernel
theorem dSH_init_211 : decode cSH_init 211 = .ok (.imul, 1) := by decide +kernel
theorem dSH_init_212 : decode cSH_init 212 = .ok (.iload 5, 2) := by decide +kernel
theorem dSH_init_214 : decode cSH_init 214 = .ok (.iadd, 1) := by decide +kernel
theorem dSH_init_215 : decode cSH_init 215 = .ok (.iastore, 1) := by decide +kernel
theorem dSH_init_216 : decode cSH_init 216 = .ok (.aload_n 0, 1) := by decide +kernel
theorem dSH_init_217 : decode cSH_init 217 = .ok (.getfield 27, 3) := by decide +kernel
theorem dSH_init_220 : decode cSH_init 220 = .ok (.iload 8, 2) := by decide +kernel
theorem dSH_init_222 : decode cSH_init 222 = .ok (.iload 7, 2) := by decide +kernel
theorem dSH_init_224 : decode cSH_init 224 = .ok (.iastore, 1) := by decide +kernel
theorem dSH_init_225 : decode cSH_init 225 = .ok (.iinc 5 1, 3) := by decide +kernel
theorem dSH_init_228 : decode cSH_init 228 = .ok (.goto (-130), 3) := by decide +kernel
theorem dSH_init_231 : decode cSH_init 231 = .ok (.iinc 4 1, 3) := by decide +kernel
theorem dSH_init_234 : decode cSH_init 234 = .ok (.goto (-146), 3) := by decide +kernel
theorem dSH_init_237 : decode cSH_init 237 = .ok (.return_, 1) := by decide +kernel
theorem dSH_firstSteps_0 : decode cSH_firstSteps 0 = .ok (.iload_n 0, 1) := by decide +kernel
theorem dSH_firstSteps_1 : decode cSH_firstSteps 1 = .ok (.iload_n 0, 1) := by decide +kernel
theorem dSH_firstSteps_2 : decode cSH_firstSteps 2 = .ok (.imul, 1) := by decide +kernel
theorem dSH_firstSteps_3 : decode cSH_firstSteps 3 = .ok (.iconst 2, 1) := by decide +kernel
theorem dSH_firstSteps_4 : decode cSH_firstSteps 4 = .ok (.iadd, 1) := by decide +kernel
theorem dSH_firstSteps_5 : decode cSH_firstSteps 5 = .ok (.newarray .int, 2) := by decide +kernel
theorem dSH_firstSteps_7 : decode cSH_firstSteps 7 = .ok (.astore_n 1, 1) := by decide +kernel
theorem dSH_firstSteps_8 : decode cSH_firstSteps 8 = .ok (.iload_n 0, 1) := by decide +kernel
theorem dSH_firstSteps_9 : decode cSH_firstSteps 9 = .ok (.ineg, 1) := by decide +kernel
theorem dSH_firstSteps_10 : decode cSH_firstSteps 10 = .ok (.istore_n 2, 1) := by decide +kernel
theorem dSH_firstSteps_11 : decode cSH_firstSteps 11 = .ok (.iload_n 2, 1) := by decide +kernel
theorem dSH_firstSteps_12 : decode cSH_firstSteps 12 = .ok (.iload_n 0, 1) := by decide +kernel
theorem dSH_firstSteps_13 : decode cSH_firstSteps 13 = .ok (.if_icmp .gt 51, 3) := by decide +kernel
theorem dSH_firstSteps_16 : decode cSH_firstSteps 16 = .ok (.iload_n 0, 1) := by decide +kernel
theorem dSH_firstSteps_17 : decode cSH_firstSteps 17 = .ok (.ineg, 1) := by decide +kernel
theorem dSH_firstSteps_18 : decode cSH_firstSteps 18 = .ok (.istore_n 3, 1) := by decide +kernel
theorem dSH_firstSteps_19 : decode cSH_firstSteps 19 = .ok (.iload_n 3, 1) := by decide +kernel
theorem dSH_firstSteps_20 : decode cSH_firstSteps 20 = .ok (.iload_n 0, 1) := by decide +kernel
theorem dSH_firstSteps_21 : decode cSH_firstSteps 21 = .ok (.if_icmp .gt 37, 3) := by decide +kernel
theorem dSH_firstSteps_24 : decode cSH_firstSteps 24 = .ok (.iload_n 3, 1) := by decide +kernel
theorem dSH_firstSteps_25 : decode cSH_firstSteps 25 = .ok (.iload_n 3, 1) := by decide +kernel
theorem dSH_firstSteps_26 : decode cSH_firstSteps 26 = .ok (.imul, 1) := by decide +kernel
theorem dSH_firstSteps_27 : decode cSH_firstSteps 27 = .ok (.iload_n 2, 1) := by decide +kernel
theorem dSH_firstSteps_28 : decode cSH_firstSteps 28 = .ok (.iload_n 2, 1) := by decide +kernel
theorem dSH_firstSteps_29 : decode cSH_firstSteps 29 = .ok (.imul, 1) := by decide +kernel
theorem dSH_firstSteps_30 : decode cSH_firstSteps 30 = .ok (.iadd, 1) := by decide +kernel
theorem dSH_firstSteps_31 : decode cSH_firstSteps 31 = .ok (.iload_n 0, 1) := by decide +kernel
theorem dSH_firstSteps_32 : decode cSH_firstSteps 32 = .ok (.iload_n 0, 1) := by decide +kernel
theorem dSH_firstSteps_33 : decode cSH_firstSteps 33 = .ok (.imul, 1) := by decide +kernel
theorem dSH_firstSteps_34 : decode cSH_firstSteps 34 = .ok (.if_icmp .gt 18, 3) := by decide +kernel
theorem dSH_firstSteps_37 : decode cSH_firstSteps 37 = .ok (.aload_n 1, 1) := by decide +kernel
theorem dSH_firstSteps_38 : decode cSH_firstSteps 38 = .ok (.iload_n 3, 1) := by decide +kernel
theorem dSH_firstSteps_39 : decode cSH_firstSteps 39 = .ok (.iload_n 3, 1) := by decide +kernel
theorem dSH_firstSteps_40 : decode cSH_firstSteps 40 = .ok (.imul, 1) := by decide +kernel
theorem dSH_firstSteps_41 : decode cSH_firstSteps 41 = .ok (.iload_n 2, 1) := by decide +kernel
theorem dSH_firstSteps_42 : decode cSH_firstSteps 42 = .ok (.iload_n 2, 1) := by decide +kernel
theorem dSH_firstSteps_43 : decode cSH_firstSteps 43 = .ok (.imul, 1) := by decide +kernel
theorem dSH_firstSteps_44 : decode cSH_firstSteps 44 = .ok (.iadd, 1) := by decide +kernel
theorem dSH_firstSteps_45 : decode cSH_firstSteps 45 = .ok (.iconst 1, 1) := by decide +kernel
theorem dSH_firstSteps_46 : decode cSH_firstSteps 46 = .ok (.iadd, 1) := by decide +kernel
theorem dSH_firstSteps_47 : decode cSH_firstSteps 47 = .ok (.dup2, 1) := by decide +kernel
theorem dSH_firstSteps_48 : decode cSH_firstSteps 48 = .ok (.iaload, 1) := by decide +kernel
theorem dSH_firstSteps_49 : decode cSH_firstSteps 49 = .ok (.iconst 1, 1) := by decide +kernel
theorem dSH_firstSteps_50 : decode cSH_firstSteps 50 = .ok (.iadd, 1) := by decide +kernel
theorem dSH_firstSteps_51 : decode cSH_firstSteps 51 = .ok (.iastore, 1) := by decide +kernel
theorem dSH_firstSteps_52 : decode cSH_firstSteps 52 = .ok (.iinc 3 1, 3) := by decide +kernel
theorem dSH_firstSteps_55 : decode cSH_firstSteps 55 = .ok (.goto (-36), 3) := by decide +kernel
theorem dSH_firstSteps_58 : decode cSH_firstSteps 58 = .ok (.iinc 2 1, 3) := by decide +kernel
theorem dSH_firstSteps_61 : decode cSH_firstSteps 61 = .ok (.goto (-50), 3) := by decide +kernel
theorem dSH_firstSteps_64 : decode cSH_firstSteps 64 = .ok (.iconst 0, 1) := by decide +kernel
theorem dSH_firstSteps_65 : decode cSH_firstSteps 65 = .ok (.istore_n 2, 1) := by decide +kernel
theorem dSH_firstSteps_66 : decode cSH_firstSteps 66 = .ok (.iload_n 2, 1) := by decide +kernel
theorem dSH_firstSteps_67 : decode cSH_firstSteps 67 = .ok (.iload_n 0, 1) := by decide +kernel
theorem dSH_firstSteps_68 : decode cSH_firstSteps 68 = .ok (.iload_n 0, 1) := by decide +kernel
theorem dSH_firstSteps_69 : decode cSH_firstSteps 69 = .ok (.imul, 1) := by decide +kernel
theorem dSH_firstSteps_70 : decode cSH_firstSteps 70 = .ok (.if_icmp .gt 20, 3) := by decide +kernel
theorem dSH_firstSteps_73 : decode cSH_firstSteps 73 = .ok (.aload_n 1, 1) := by decide +kernel
theorem dSH_firstSteps_74 : decode cSH_firstSteps 74 = .ok (.iload_n 2, 1) := by decide +kernel
theorem dSH_firstSteps_75 : decode cSH_firstSteps 75 = .ok (.iconst 1, 1) := by decide +kernel
theorem dSH_firstSteps_76 : decode cSH_firstSteps 76 = .ok (.iadd, 1) := by decide +kernel
theorem dSH_firstSteps_77 : decode cSH_firstSteps 77 = .ok (.dup2, 1) := by decide +kernel
theorem dSH_firstSteps_78 : decode cSH_firstSteps 78 = .ok (.iaload, 1) := by decide +kernel
theorem dSH_firstSteps_79 : decode cSH_firstSteps 79 = .ok (.aload_n 1, 1) := by decide +kernel
theorem dSH_firstSteps_80 : decode cSH_firstSteps 80 = .ok (.iload_n 2, 1) := by decide +kernel
theorem dSH_firstSteps_81 : decode cSH_firstSteps 81 = .ok (.iaload, 1) := by decide +kernel
theorem dSH_firstSteps_82 : decode cSH_firstSteps 82 = .ok (.iadd, 1) := by decide +kernel
theorem dSH_firstSteps_83 : decode cSH_firstSteps 83 = .ok (.iastore, 1) := by decide +kernel
theorem dSH_firstSteps_84 : decode cSH_firstSteps 84 = .ok (.iinc 2 1, 3) := by decide +kernel
theorem dSH_firstSteps_87 : decode cSH_firstSteps 87 = .ok (.goto (-21), 3) := by decide +kernel
theorem dSH_firstSteps_90 : decode cSH_firstSteps 90 = .ok (.aload_n 1, 1) := by decide +kernel
theorem dSH_firstSteps_91 : decode cSH_firstSteps 91 = .ok (.areturn, 1) := by decide +kernel
theorem dLW_cell_0 : decode cLW_cell 0 = .ok (.iload_n 1, 1) := by decide +kernel
theorem dLW_cell_1 : decode cLW_cell 1 = .ok (.aload_n 0, 1) := by decide +kernel
theorem dLW_cell_2 : decode cLW_cell 2 = .ok (.arraylength, 1) := by decide +kernel
theorem dLW_cell_3 : decode cLW_cell 3 = .ok (.if_icmp .ge 9, 3) := by decide +kernel
theorem dLW_cell_6 : decode cLW_cell 6 = .ok (.aload_n 0, 1) := by decide +kernel
theorem dLW_cell_7 : decode cLW_cell 7 = .ok (.iload_n 1, 1) := by decide +kernel
theorem dLW_cell_8 : decode cLW_cell 8 = .ok (.iaload, 1) := by decide +kernel
theorem dLW_cell_9 : decode cLW_cell 9 = .ok (.goto 4, 3) := by decide +kernel
theorem dLW_cell_12 : decode cLW_cell 12 = .ok (.iconst 0, 1) := by decide +kernel
theorem dLW_cell_13 : decode cLW_cell 13 = .ok (.ireturn, 1) := by decide +kernel
theorem dLW_height_0 : decode cLW_height 0 = .ok (.aload 4, 2) := by decide +kernel
theorem dLW_height_2 : decode cLW_height 2 = .ok (.iconst 0, 1) := by decide +kernel
theorem dLW_height_3 : decode cLW_height 3 = .ok (.aload_n 0, 1) := by decide +kernel
theorem dLW_height_4 : decode cLW_height 4 = .ok (.iload_n 1, 1) := by decide +kernel
theorem dLW_height_5 : decode cLW_height 5 = .ok (.iload_n 2, 1) := by decide +kernel
theorem dLW_height_6 : decode cLW_height 6 = .ok (.iload_n 3, 1) := by decide +kernel
theorem dLW_height_7 : decode cLW_height 7 = .ok (.invokevirtual 7, 3) := by decide +kernel
theorem dLW_height_10 : decode cLW_height 10 = .ok (.i2l, 1) := by decide +kernel
theorem dLW_height_11 : decode cLW_height 11 = .ok (.lastore, 1) := by decide +kernel
theorem dLW_height_12 : decode cLW_height 12 = .ok (.goto 7, 3) := by decide +kernel
theorem dLW_height_15 : decode cLW_height 15 = .ok (.astore 5, 2) := by decide +kernel
theorem dLW_height_17 : decode cLW_height 17 = .ok (.iconst 1, 1) := by decide +kernel
theorem dLW_height_18 : decode cLW_height 18 = .ok (.ireturn, 1) := by decide +kernel
theorem dLW_height_19 : decode cLW_height 19 = .ok (.iconst 0, 1) := by decide +kernel
theorem dLW_height_20 : decode cLW_height 20 = .ok (.ireturn, 1) := by decide +kernel
theorem dLW_rod_0 : decode cLW_rod 0 = .ok (.aload 4, 2) := by decide +kernel
theorem dLW_rod_2 : decode cLW_rod 2 = .ok (.iconst 0, 1) := by decide +kernel
theorem dLW_rod_3 : decode cLW_rod 3 = .ok (.aload_n 0, 1) := by decide +kernel
theorem dLW_rod_4 : decode cLW_rod 4 = .ok (.iload_n 1, 1) := by decide +kernel
theorem dLW_rod_5 : decode cLW_rod 5 = .ok (.iload_n 2, 1) := by decide +kernel
theorem dLW_rod_6 : decode cLW_rod 6 = .ok (.iload_n 3, 1) := by decide +kernel
theorem dLW_rod_7 : decode cLW_rod 7 = .ok (.invokevirtual 15, 3) := by decide +kernel
theorem dLW_rod_10 : decode cLW_rod 10 = .ok (.i2l, 1) := by decide +kernel
theorem dLW_rod_11 : decode cLW_rod 11 = .ok (.lastore, 1) := by decide +kernel
theorem dLW_rod_12 : decode cLW_rod 12 = .ok (.goto 7, 3) := by decide +kernel
theorem dLW_rod_15 : decode cLW_rod 15 = .ok (.astore 5, 2) := by decide +kernel
theorem dLW_rod_17 : decode cLW_rod 17 = .ok (.iconst 1, 1) := by decide +kernel
theorem dLW_rod_18 : decode cLW_rod 18 = .ok (.ireturn, 1) := by decide +kernel
theorem dLW_rod_19 : decode cLW_rod 19 = .ok (.iconst 0, 1) := by decide +kernel
theorem dLW_rod_20 : decode cLW_rod 20 = .ok (.ireturn, 1) := by decide +kernel
theorem dLW_rest_0 : decode cLW_rest 0 = .ok (.aload 4, 2) := by decide +kernel
theorem dLW_rest_2 : decode cLW_rest 2 = .ok (.iconst 0, 1) := by decide +kernel
theorem dLW_rest_3 : decode cLW_rest 3 = .ok (.aload_n 0, 1) := by decide +kernel
theorem dLW_rest_4 : decode cLW_rest 4 = .ok (.iload_n 1, 1) := by decide +kernel
theorem dLW_rest_5 : decode cLW_rest 5 = .ok (.iload_n 2, 1) := by decide +kernel
theorem dLW_rest_6 : decode cLW_rest 6 = .ok (.iload_n 3, 1) := by decide +kernel
theorem dLW_rest_7 : decode cLW_rest 7 = .ok (.invokevirtual 18, 3) := by decide +kernel
theorem dLW_rest_10 : decode cLW_rest 10 = .ok (.i2l, 1) := by decide +kernel
theorem dLW_rest_11 : decode cLW_rest 11 = .ok (.lastore, 1) := by decide +kernel
theorem dLW_rest_12 : decode cLW_rest 12 = .ok (.goto 7, 3) := by decide +kernel
theorem dLW_rest_15 : decode cLW_rest 15 = .ok (.astore 5, 2) := by decide +kernel
theorem dLW_rest_17 : decode cLW_rest 17 = .ok (.iconst 1, 1) := by decide +kernel
theorem dLW_rest_18 : decode cLW_rest 18 = .ok (.ireturn, 1) := by decide +kernel
theorem dLW_rest_19 : decode cLW_rest 19 = .ok (.iconst 0, 1) := by decide +kernel
theorem dLW_rest_20 : decode cLW_rest 20 = .ok (.ireturn, 1) := by decide +kernel
theorem dLW_touched_0 : decode cLW_touched 0 = .ok (.aload 4, 2) := by decide +kernel
theorem dLW_touched_2 : decode cLW_touched 2 = .ok (.iconst 0, 1) := by decide +kernel
theorem dLW_touched_3 : decode cLW_touched 3 = .ok (.aload_n 0, 1) := by decide +kernel
theorem dLW_touched_4 : decode cLW_touched 4 = .ok (.iload_n 1, 1) := by decide +kernel
theorem dLW_touched_5 : decode cLW_touched 5 = .ok (.iload_n 2, 1) := by decide +kernel
theorem dLW_touched_6 : decode cLW_touched 6 = .ok (.iload_n 3, 1) := by decide +kernel
theorem dLW_touched_7 : decode cLW_touched 7 = .ok (.invokevirtual 21, 3) := by decide +kernel
