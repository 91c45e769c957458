theorem dPL_bestSet_130 : decode cPL_bestSet 130 = .ok (.iload_n 3, 1) := by decide +kernel
theorem dPL_bestSet_131 : decode cPL_bestSet 131 = .ok (.iaload, 1) := by decide +kernel
theorem dPL_bestSet_132 : decode cPL_bestSet 132 = .ok (.aload_n 0, 1) := by decide +kernel
theorem dPL_bestSet_133 : decode cPL_bestSet 133 = .ok (.getfield 37, 3) := by decide +kernel
theorem dPL_bestSet_136 : decode cPL_bestSet 136 = .ok (.getfield 85, 3) := by decide +kernel
theorem dPL_bestSet_139 : decode cPL_bestSet 139 = .ok (.iload_n 3, 1) := by decide +kernel
theorem dPL_bestSet_140 : decode cPL_bestSet 140 = .ok (.iaload, 1) := by decide +kernel
theorem dPL_bestSet_141 : decode cPL_bestSet 141 = .ok (.if_icmp .ge 10, 3) := by decide +kernel
theorem dPL_bestSet_144 : decode cPL_bestSet 144 = .ok (.aload_n 0, 1) := by decide +kernel
theorem dPL_bestSet_145 : decode cPL_bestSet 145 = .ok (.iload_n 3, 1) := by decide +kernel
theorem dPL_bestSet_146 : decode cPL_bestSet 146 = .ok (.iload_n 1, 1) := by decide +kernel
theorem dPL_bestSet_147 : decode cPL_bestSet 147 = .ok (.invokevirtual 88, 3) := by decide +kernel
theorem dPL_bestSet_150 : decode cPL_bestSet 150 = .ok (.istore_n 1, 1) := by decide +kernel
theorem dPL_bestSet_151 : decode cPL_bestSet 151 = .ok (.iinc 3 1, 3) := by decide +kernel
theorem dPL_bestSet_154 : decode cPL_bestSet 154 = .ok (.goto (-43), 3) := by decide +kernel
theorem dPL_bestSet_157 : decode cPL_bestSet 157 = .ok (.iload_n 1, 1) := by decide +kernel
theorem dPL_bestSet_158 : decode cPL_bestSet 158 = .ok (.ifCond .ne 7, 3) := by decide +kernel
theorem dPL_bestSet_161 : decode cPL_bestSet 161 = .ok (.iload_n 2, 1) := by decide +kernel
theorem dPL_bestSet_162 : decode cPL_bestSet 162 = .ok (.goto 8, 3) := by decide +kernel
theorem dPL_bestSet_165 : decode cPL_bestSet 165 = .ok (.aload_n 0, 1) := by decide +kernel
theorem dPL_bestSet_166 : decode cPL_bestSet 166 = .ok (.iload_n 1, 1) := by decide +kernel
theorem dPL_bestSet_167 : decode cPL_bestSet 167 = .ok (.invokevirtual 78, 3) := by decide +kernel
theorem dPL_bestSet_170 : decode cPL_bestSet 170 = .ok (.ireturn, 1) := by decide +kernel
theorem dPL_areWantedSafe_0 : decode cPL_areWantedSafe 0 = .ok (.iconst 0, 1) := by decide +kernel
theorem dPL_areWantedSafe_1 : decode cPL_areWantedSafe 1 = .ok (.istore_n 1, 1) := by decide +kernel
theorem dPL_areWantedSafe_2 : decode cPL_areWantedSafe 2 = .ok (.iload_n 1, 1) := by decide +kernel
theorem dPL_areWantedSafe_3 : decode cPL_areWantedSafe 3 = .ok (.aload_n 0, 1) := by decide +kernel
theorem dPL_areWantedSafe_4 : decode cPL_areWantedSafe 4 = .ok (.getfield 37, 3) := by decide +kernel
theorem dPL_areWantedSafe_7 : decode cPL_areWantedSafe 7 = .ok (.getfield 45, 3) := by decide +kernel
theorem dPL_areWantedSafe_10 : decode cPL_areWantedSafe 10 = .ok (.if_icmp .ge 31, 3) := by decide +kernel
theorem dPL_areWantedSafe_13 : decode cPL_areWantedSafe 13 = .ok (.aload_n 0, 1) := by decide +kernel
theorem dPL_areWantedSafe_14 : decode cPL_areWantedSafe 14 = .ok (.getfield 50, 3) := by decide +kernel
theorem dPL_areWantedSafe_17 : decode cPL_areWantedSafe 17 = .ok (.iload_n 1, 1) := by decide +kernel
theorem dPL_areWantedSafe_18 : decode cPL_areWantedSafe 18 = .ok (.baload, 1) := by decide +kernel
theorem dPL_areWantedSafe_19 : decode cPL_areWantedSafe 19 = .ok (.ifCond .eq 16, 3) := by decide +kernel
theorem dPL_areWantedSafe_22 : decode cPL_areWantedSafe 22 = .ok (.aload_n 0, 1) := by decide +kernel
theorem dPL_areWantedSafe_23 : decode cPL_areWantedSafe 23 = .ok (.getfield 41, 3) := by decide +kernel
theorem dPL_areWantedSafe_26 : decode cPL_areWantedSafe 26 = .ok (.iload_n 1, 1) := by decide +kernel
theorem dPL_areWantedSafe_27 : decode cPL_areWantedSafe 27 = .ok (.invokevirtual 91, 3) := by decide +kernel
theorem dPL_areWantedSafe_30 : decode cPL_areWantedSafe 30 = .ok (.ifCond .ne 5, 3) := by decide +kernel
theorem dPL_areWantedSafe_33 : decode cPL_areWantedSafe 33 = .ok (.iconst 0, 1) := by decide +kernel
theorem dPL_areWantedSafe_34 : decode cPL_areWantedSafe 34 = .ok (.ireturn, 1) := by decide +kernel
theorem dPL_areWantedSafe_35 : decode cPL_areWantedSafe 35 = .ok (.iinc 1 1, 3) := by decide +kernel
theorem dPL_areWantedSafe_38 : decode cPL_areWantedSafe 38 = .ok (.goto (-36), 3) := by decide +kernel
theorem dPL_areWantedSafe_41 : decode cPL_areWantedSafe 41 = .ok (.iconst 1, 1) := by decide +kernel
theorem dPL_areWantedSafe_42 : decode cPL_areWantedSafe 42 = .ok (.ireturn, 1) := by decide +kernel
theorem dPL_isCandidate_0 : decode cPL_isCandidate 0 = .ok (.aload_n 0, 1) := by decide +kernel
theorem dPL_isCandidate_1 : decode cPL_isCandidate 1 = .ok (.iload_n 1, 1) := by decide +kernel
theorem dPL_isCandidate_2 : decode cPL_isCandidate 2 = .ok (.aload_n 0, 1) := by decide +kernel
theorem dPL_isCandidate_3 : decode cPL_isCandidate 3 = .ok (.getfield 18, 3) := by decide +kernel
theorem dPL_isCandidate_6 : decode cPL_isCandidate 6 = .ok (.invokevirtual 96, 3) := by decide +kernel
theorem dPL_isCandidate_9 : decode cPL_isCandidate 9 = .ok (.ifCond .le 7, 3) := by decide +kernel
theorem dPL_isCandidate_12 : decode cPL_isCandidate 12 = .ok (.iconst 1, 1) := by decide +kernel
theorem dPL_isCandidate_13 : decode cPL_isCandidate 13 = .ok (.goto 4, 3) := by decide +kernel
theorem dPL_isCandidate_16 : decode cPL_isCandidate 16 = .ok (.iconst 0, 1) := by decide +kernel
theorem dPL_isCandidate_17 : decode cPL_isCandidate 17 = .ok (.ireturn, 1) := by decide +kernel
theorem dPL_countCandidates_0 : decode cPL_countCandidates 0 = .ok (.iconst 0, 1) := by decide +kernel
theorem dPL_countCandidates_1 : decode cPL_countCandidates 1 = .ok (.istore_n 3, 1) := by decide +kernel
theorem dPL_countCandidates_2 : decode cPL_countCandidates 2 = .ok (.iconst 0, 1) := by decide +kernel
theorem dPL_countCandidates_3 : decode cPL_countCandidates 3 = .ok (.istore 4, 2) := by decide +kernel
theorem dPL_countCandidates_5 : decode cPL_countCandidates 5 = .ok (.iload 4, 2) := by decide +kernel
theorem dPL_countCandidates_7 : decode cPL_countCandidates 7 = .ok (.iload_n 2, 1) := by decide +kernel
theorem dPL_countCandidates_8 : decode cPL_countCandidates 8 = .ok (.if_icmp .ge 23, 3) := by decide +kernel
theorem dPL_countCandidates_11 : decode cPL_countCandidates 11 = .ok (.aload_n 0, 1) := by decide +kernel
theorem dPL_countCandidates_12 : decode cPL_countCandidates 12 = .ok (.getfield 11, 3) := by decide +kernel
theorem dPL_countCandidates_15 : decode cPL_countCandidates 15 = .ok (.iload 4, 2) := by decide +kernel
theorem dPL_countCandidates_17 : decode cPL_countCandidates 17 = .ok (.iaload, 1) := by decide +kernel
theorem dPL_countCandidates_18 : decode cPL_countCandidates 18 = .ok (.iload_n 1, 1) := by decide +kernel
theorem dPL_countCandidates_19 : decode cPL_countCandidates 19 = .ok (.if_icmp .ne 6, 3) := by decide +kernel
theorem dPL_countCandidates_22 : decode cPL_countCandidates 22 = .ok (.iinc 3 1, 3) := by decide +kernel
theorem dPL_countCandidates_25 : decode cPL_countCandidates 25 = .ok (.iinc 4 1, 3) := by decide +kernel
theorem dPL_countCandidates_28 : decode cPL_countCandidates 28 = .ok (.goto (-23), 3) := by decide +kernel
theorem dPL_countCandidates_31 : decode cPL_countCandidates 31 = .ok (.iload_n 3, 1) := by decide +kernel
theorem dPL_countCandidates_32 : decode cPL_countCandidates 32 = .ok (.ireturn, 1) := by decide +kernel
theorem dPL_listChoices_0 : decode cPL_listChoices 0 = .ok (.aload_n 0, 1) := by decide +kernel
theorem dPL_listChoices_1 : decode cPL_listChoices 1 = .ok (.iconst 0, 1) := by decide +kernel
theorem dPL_listChoices_2 : decode cPL_listChoices 2 = .ok (.putfield 31, 3) := by decide +kernel
theorem dPL_listChoices_5 : decode cPL_listChoices 5 = .ok (.aload_n 0, 1) := by decide +kernel
theorem dPL_listChoices_6 : decode cPL_listChoices 6 = .ok (.iconst 0, 1) := by decide +kernel
theorem dPL_listChoices_7 : decode cPL_listChoices 7 = .ok (.putfield 34, 3) := by decide +kernel
theorem dPL_listChoices_10 : decode cPL_listChoices 10 = .ok (.iconst 0, 1) := by decide +kernel
theorem dPL_listChoices_11 : decode cPL_listChoices 11 = .ok (.istore_n 1, 1) := by decide +kernel
theorem dPL_listChoices_12 : decode cPL_listChoices 12 = .ok (.iload_n 1, 1) := by decide +kernel
theorem dPL_listChoices_13 : decode cPL_listChoices 13 = .ok (.aload_n 0, 1) := by decide +kernel
theorem dPL_listChoices_14 : decode cPL_listChoices 14 = .ok (.getfield 18, 3) := by decide +kernel
theorem dPL_listChoices_17 : decode cPL_listChoices 17 = .ok (.if_icmp .ge 118, 3) := by decide +kernel
theorem dPL_listChoices_20 : decode cPL_listChoices 20 = .ok (.aload_n 0, 1) := by decide +kernel
theorem dPL_listChoices_21 : decode cPL_listChoices 21 = .ok (.getfield 11, 3) := by decide +kernel
theorem dPL_listChoices_24 : decode cPL_listChoices 24 = .ok (.iload_n 1, 1) := by decide +kernel
theorem dPL_listChoices_25 : decode cPL_listChoices 25 = .ok (.iaload, 1) := by decide +kernel
theorem dPL_listChoices_26 : decode cPL_listChoices 26 = .ok (.istore_n 2, 1) := by decide +kernel
theorem dPL_listChoices_27 : decode cPL_listChoices 27 = .ok (.iconst 0, 1) := by decide +kernel
theorem dPL_listChoices_28 : decode cPL_listChoices 28 = .ok (.istore_n 3, 1) := by decide +kernel
theorem dPL_listChoices_29 : decode cPL_listChoices 29 = .ok (.iload_n 1, 1) := by decide +kernel
theorem dPL_listChoices_30 : decode cPL_listChoices 30 = .ok (.iconst 1, 1) := by decide +kernel
theorem dPL_listChoices_31 : decode cPL_listChoices 31 = .ok (.iadd, 1) := by decide +kernel
theorem dPL_listChoices_32 : decode cPL_listChoices 32 = .ok (.istore 4, 2) := by decide +kernel
theorem dPL_listChoices_34 : decode cPL_listChoices 34 = .ok (.iload 4, 2) := by decide +kernel
theorem dPL_listChoices_36 : decode cPL_listChoices 36 = .ok (.aload_n 0, 1) := by decide +kernel
theorem dPL_listChoices_37 : decode cPL_listChoices 37 = .ok (.getfield 18, 3) := by decide +kernel
theorem dPL_listChoices_40 : decode cPL_listChoices 40 = .ok (.if_icmp .ge 29, 3) := by decide +kernel
theorem dPL_listChoices_43 : decode cPL_listChoices 43 = .ok (.aload_n 0, 1) := by decide +kernel
theorem dPL_listChoices_44 : decode cPL_listChoices 44 = .ok (.getfield 11, 3) := by decide +kernel
theorem dPL_listChoices_47 : decode cPL_listChoices 47 = .ok (.iload 4, 2) := by decide +kernel
theorem dPL_listChoices_49 : decode cPL_listChoices 49 = .ok (.iaload, 1) := by decide +kernel
theorem dPL_listChoices_50 : decode cPL_listChoices 50 = .ok (.iload_n 2, 1) := by decide +kernel
theorem dPL_listChoices_51 : decode cPL_listChoices 51 = .ok (.if_icmp .ne 12, 3) := by decide +kernel
theorem dPL_listChoices_54 : decode cPL_listChoices 54 = .ok (.iload_n 3, 1) := by decide +kernel
theorem dPL_listChoices_55 : decode cPL_listChoices 55 = .ok (.getstatic 99, 3) := by decide +kernel
theorem dPL_listChoices_58 : decode cPL_listChoices 58 = .ok (.iload 4, 2) := by decide +kernel
theorem dPL_listChoices_60 : decode cPL_listChoices 60 = .ok (.iaload, 1) := by decide +kernel
theorem dPL_listChoices_61 : decode cPL_listChoices 61 = .ok (.ior, 1) := by decide +kernel
theorem dPL_listChoices_62 : decode cPL_listChoices 62 = .ok (.istore_n 3, 1) := by decide +kernel
theorem dPL_listChoices_63 : decode cPL_listChoices 63 = .ok (.iinc 4 1, 3) := by decide +kernel
theorem dPL_listChoices_66 : decode cPL_listChoices 66 = .ok (.goto (-32), 3) := by decide +kernel
theorem dPL_listChoices_69 : decode cPL_listChoices 69 = .ok (.aload_n 0, 1) := by decide +kernel
theorem dPL_listChoices_70 : decode cPL_listChoices 70 = .ok (.iload_n 2, 1) := by decide +kernel
theorem dPL_listChoices_71 : decode cPL_listChoices 71 = .ok (.aload_n 0, 1) := by decide +kernel
theorem dPL_listChoices_72 : decode cPL_listChoices 72 = .ok (.getfield 37, 3) := by decide +kernel
theorem dPL_listChoices_75 : decode cPL_listChoices 75 = .ok (.iload_n 2, 1) := by decide +kernel
theorem dPL_listChoices_76 : decode cPL_listChoices 76 = .ok (.aload_n 0, 1) := by decide +kernel
theorem dPL_listChoices_77 : decode cPL_listChoices 77 = .ok (.getfield 15, 3) := by decide +kernel
theorem dPL_listChoices_80 : decode cPL_listChoices 80 = .ok (.iload_n 1, 1) := by decide +kernel
theorem dPL_listChoices_81 : decode cPL_listChoices 81 = .ok (.iaload, 1) := by decide +kernel
theorem dPL_listChoices_82 : decode cPL_listChoices 82 = .ok (.invokevirtual 102, 3) := by decide +kernel
theorem dPL_listChoices_85 : decode cPL_listChoices 85 = .ok (.getstatic 99, 3) := by decide +kernel
theorem dPL_listChoices_88 : decode cPL_listChoices 88 = .ok (.iload_n 1, 1) := by decide +kernel
theorem dPL_listChoices_89 : decode cPL_listChoices 89 = .ok (.iaload, 1) := by decide +kernel
theorem dPL_listChoices_90 : decode cPL_listChoices 90 = .ok (.iload_n 3, 1) := by decide +kernel
theorem dPL_listChoices_91 : decode cPL_listChoices 91 = .ok (.iconst (-1), 1) := by decide +kernel
theorem dPL_listChoices_92 : decode cPL_listChoices 92 = .ok (.ixor, 1) := by decide +kernel
theorem dPL_listChoices_93 : decode cPL_listChoices 93 = .ok (.iand, 1) := by decide +kernel
theorem dPL_listChoices_94 : decode cPL_listChoices 94 = .ok (.invokevirtual 105, 3) := by decide +kernel
theorem dPL_listChoices_97 : decode cPL_listChoices 97 = .ok (.aload_n 0, 1) := by decide +kernel
theorem dPL_listChoices_98 : decode cPL_listChoices 98 = .ok (.iload_n 2, 1) := by decide +kernel
theorem dPL_listChoices_99 : decode cPL_listChoices 99 = .ok (.iload_n 1, 1) := by decide +kernel
theorem dPL_listChoices_100 : decode cPL_listChoices 100 = .ok (.invokevirtual 96, 3) := by decide +kernel
theorem dPL_listChoices_103 : decode cPL_listChoices 103 = .ok (.ifCond .ne 26, 3) := by decide +kernel
theorem dPL_listChoices_106 : decode cPL_listChoices 106 = .ok (.aload_n 0, 1) := by decide +kernel
theorem dPL_listChoices_107 : decode cPL_listChoices 107 = .ok (.iload_n 2, 1) := by decide +kernel
theorem dPL_listChoices_108 : decode cPL_listChoices 108 = .ok (.aload_n 0, 1) := by decide +kernel
theorem dPL_listChoices_109 : decode cPL_listChoices 109 = .ok (.getfield 37, 3) := by decide +kernel
theorem dPL_listChoices_112 : decode cPL_listChoices 112 = .ok (.getfield 85, 3) := by decide +kernel
theorem dPL_listChoices_115 : decode cPL_listChoices 115 = .ok (.iload_n 2, 1) := by decide +kernel
theorem dPL_listChoices_116 : decode cPL_listChoices 116 = .ok (.iaload, 1) := by decide +kernel
theorem dPL_listChoices_117 : decode cPL_listChoices 117 = .ok (.getstatic 99, 3) := by decide +kernel
theorem dPL_listChoices_120 : decode cPL_listChoices 120 = .ok (.iload_n 1, 1) := by decide +kernel
theorem dPL_listChoices_121 : decode cPL_listChoices 121 = .ok (.iaload, 1) := by decide +kernel
theorem dPL_listChoices_122 : decode cPL_listChoices 122 = .ok (.iload_n 3, 1) := by decide +kernel
theorem dPL_listChoices_123 : decode cPL_listChoices 123 = .ok (.ior, 1) := by decide +kernel
theorem dPL_listChoices_124 : decode cPL_listChoices 124 = .ok (.iconst (-1), 1) := by decide +kernel
theorem dPL_listChoices_125 : decode cPL_listChoices 125 = .ok (.ixor, 1) := by decide +kernel
theorem dPL_listChoices_126 : decode cPL_listChoices 126 = .ok (.invokevirtual 105, 3) := by decide +kernel
theorem dPL_listChoices_129 : decode cPL_listChoices 129 = .ok (.iinc 1 1, 3) := by decide +kernel
theorem dPL_listChoices_132 : decode cPL_listChoices 132 = .ok (.goto (-120), 3) := by decide +kernel
theorem dPL_listChoices_135 : decode cPL_listChoices 135 = .ok (.return_, 1) := by decide +kernel
theorem dPL_addChoice_0 : decode cPL_addChoice 0 = .ok (.aload_n 0, 1) := by decide +kernel
theorem dPL_addChoice_1 : decode cPL_addChoice 1 = .ok (.getfield 22, 3) := by decide +kernel
theorem dPL_addChoice_4 : decode cPL_addChoice 4 = .ok (.aload_n 0, 1) := by decide +kernel
theorem dPL_addChoice_5 : decode cPL_addChoice 5 = .ok (.getfield 31, 3) := by decide +kernel
theorem dPL_addChoice_8 : decode cPL_addChoice 8 = .ok (.iload_n 1, 1) := by decide +kernel
theorem dPL_addChoice_9 : decode cPL_addChoice 9 = .ok (.iastore, 1) := by decide +kernel
theorem dPL_addChoice_10 : decode cPL_addChoice 10 = .ok (.aload_n 0, 1) := by decide +kernel
theorem dPL_addChoice_11 : decode cPL_addChoice 11 = .ok (.getfield 25, 3) := by decide +kernel
theorem dPL_addChoice_14 : decode cPL_addChoice 14 = .ok (.aload_n 0, 1) := by decide +kernel
theorem dPL_addChoice_15 : decode cPL_addChoice 15 = .ok (.getfield 31, 3) := by decide +kernel
theorem dPL_addChoice_18 : decode cPL_addChoice 18 = .ok (.iload_n 2, 1) := by decide +kernel
theorem dPL_addChoice_19 : decode cPL_addChoice 19 = .ok (.iastore, 1) := by decide +kernel
theorem dPL_addChoice_20 : decode cPL_addChoice 20 = .ok (.aload_n 0, 1) := by decide +kernel
theorem dPL_addChoice_21 : decode cPL_addChoice 21 = .ok (.getfield 28, 3) := by decide +kernel
theorem dPL_addChoice_24 : decode cPL_addChoice 24 = .ok (.aload_n 0, 1) := by decide +kernel
theorem dPL_addChoice_25 : decode cPL_addChoice 25 = .ok (.getfield 31, 3) := by decide +kernel
theorem dPL_addChoice_28 : decode cPL_addChoice 28 = .ok (.iload_n 3, 1) := by decide +kernel
theorem dPL_addChoice_29 : decode cPL_addChoice 29 = .ok (.iastore, 1) := by decide +kernel
theorem dPL_addChoice_30 : decode cPL_addChoice 30 = .ok (.aload_n 0, 1) := by decide +kernel
theorem dPL_addChoice_31 : decode cPL_addChoice 31 = .ok (.dup, 1) := by decide +kernel
theorem dPL_addChoice_32 : decode cPL_addChoice 32 = .ok (.getfield 31, 3) := by decide +kernel
theorem dPL_addChoice_35 : decode cPL_addChoice 35 = .ok (.iconst 1, 1) := by decide +kernel
theorem dPL_addChoice_36 : decode cPL_addChoice 36 = .ok (.iadd, 1) := by decide +kernel
theorem dPL_addChoice_37 : decode cPL_addChoice 37 = .ok (.putfield 31, 3) := by decide +kernel
theorem dPL_addChoice_40 : decode cPL_addChoice 40 = .ok (.iload_n 2, 1) := by decide +kernel
theorem dPL_addChoice_41 : decode cPL_addChoice 41 = .ok (.aload_n 0, 1) := by decide +kernel
theorem dPL_addChoice_42 : decode cPL_addChoice 42 = .ok (.getfield 37, 3) := by decide +kernel
theorem dPL_addChoice_45 : decode cPL_addChoice 45 = .ok (.getfield 85, 3) := by decide +kernel
theorem dPL_addChoice_48 : decode cPL_addChoice 48 = .ok (.iload_n 1, 1) := by decide +kernel
theorem dPL_addChoice_49 : decode cPL_addChoice 49 = .ok (.iaload, 1) := by decide +kernel
theorem dPL_addChoice_50 : decode cPL_addChoice 50 = .ok (.if_icmp .ge 13, 3) := by decide +kernel
theorem dPL_addChoice_53 : decode cPL_addChoice 53 = .ok (.aload_n 0, 1) := by decide +kernel
theorem dPL_addChoice_54 : decode cPL_addChoice 54 = .ok (.dup, 1) := by decide +kernel
theorem dPL_addChoice_55 : decode cPL_addChoice 55 = .ok (.getfield 34, 3) := by decide +kernel
theorem dPL_addChoice_58 : decode cPL_addChoice 58 = .ok (.iload_n 3, 1) := by decide +kernel
theorem dPL_addChoice_59 : decode cPL_addChoice 59 = .ok (.ior, 1) := by decide +kernel
theorem dPL_addChoice_60 : decode cPL_addChoice 60 = .ok (.putfield 34, 3) := by decide +kernel
theorem dPL_addChoice_63 : decode cPL_addChoice 63 = .ok (.return_, 1) := by decide +kernel
theorem dPL_findLowTips_0 : decode cPL_findLowTips 0 = .ok (.aload_n 0, 1) := by decide +kernel
theorem dPL_findLowTips_1 : decode cPL_findLowTips 1 = .ok (.getfield 37, 3) := by decide +kernel
theorem dPL_findLowTips_4 : decode cPL_findLowTips 4 = .ok (.getfield 85, 3) := by decide +kernel
theorem dPL_findLowTips_7 : decode cPL_findLowTips 7 = .ok (.iconst 0, 1) := by decide +kernel
theorem dPL_findLowTips_8 : decode cPL_findLowTips 8 = .ok (.aload_n 0, 1) := by decide +kernel
theorem dPL_findLowTips_9 : decode cPL_findLowTips 9 = .ok (.getfield 54, 3) := by decide +kernel
theorem dPL_findLowTips_12 : decode cPL_findLowTips 12 = .ok (.iconst 0, 1) := by decide +kernel
theorem dPL_findLowTips_13 : decode cPL_findLowTips 13 = .ok (.aload_n 0, 1) := by decide +kernel
theorem dPL_findLowTips_14 : decode cPL_findLowTips 14 = .ok (.getfield 54, 3) := by decide +kernel
theorem dPL_findLowTips_17 : decode cPL_findLowTips 17 = .ok (.arraylength, 1) := by decide +kernel
theorem dPL_findLowTips_18 : decode cPL_findLowTips 18 = .ok (.invokestatic 109, 3) := by decide +kernel
theorem dPL_findLowTips_21 : decode cPL_findLowTips 21 = .ok (.iconst 0, 1) := by decide +kernel
theorem dPL_findLowTips_22 : decode cPL_findLowTips 22 = .ok (.istore_n 1, 1) := by decide +kernel
theorem dPL_findLowTips_23 : decode cPL_findLowTips 23 = .ok (.iload_n 1, 1) := by decide +kernel
theorem dPL_findLowTips_24 : decode cPL_findLowTips 24 = .ok (.aload_n 0, 1) := by decide +kernel
theorem dPL_findLowTips_25 : decode cPL_findLowTips 25 = .ok (.getfield 31, 3) := by decide +kernel
theorem dPL_findLowTips_28 : decode cPL_findLowTips 28 = .ok (.if_icmp .ge 40, 3) := by decide +kernel
theorem dPL_findLowTips_31 : decode cPL_findLowTips 31 = .ok (.aload_n 0, 1) := by decide +kernel
theorem dPL_findLowTips_32 : decode cPL_findLowTips 32 = .ok (.getfield 54, 3) := by decide +kernel
theorem dPL_findLowTips_35 : decode cPL_findLowTips 35 = .ok (.aload_n 0, 1) := by decide +kernel
theorem dPL_findLowTips_36 : decode cPL_findLowTips 36 = .ok (.getfield 22, 3) := by decide +kernel
theorem dPL_findLowTips_39 : decode cPL_findLowTips 39 = .ok (.iload_n 1, 1) := by decide +kernel
theorem dPL_findLowTips_40 : decode cPL_findLowTips 40 = .ok (.iaload, 1) := by decide +kernel
theorem dPL_findLowTips_41 : decode cPL_findLowTips 41 = .ok (.aload_n 0, 1) := by decide +kernel
theorem dPL_findLowTips_42 : decode cPL_findLowTips 42 = .ok (.getfield 54, 3) := by decide +kernel
theorem dPL_findLowTips_45 : decode cPL_findLowTips 45 = .ok (.aload_n 0, 1) := by decide +kernel
theorem dPL_findLowTips_46 : decode cPL_findLowTips 46 = .ok (.getfield 22, 3) := by decide +kernel
theorem dPL_findLowTips_49 : decode cPL_findLowTips 49 = .ok (.iload_n 1, 1) := by decide +kernel
theorem dPL_findLowTips_50 : decode cPL_findLowTips 50 = .ok (.iaload, 1) := by decide +kernel
theorem dPL_findLowTips_51 : decode cPL_findLowTips 51 = .ok (.iaload, 1) := by decide +kernel
theorem dPL_findLowTips_52 : decode cPL_findLowTips 52 = .ok (.aload_n 0, 1) := by decide +kernel
theorem dPL_findLowTips_53 : decode cPL_findLowTips 53 = .ok (.getfield 25, 3) := by decide +kernel
theorem dPL_findLowTips_56 : decode cPL_findLowTips 56 = .ok (.iload_n 1, 1) := by decide +kernel
theorem dPL_findLowTips_57 : decode cPL_findLowTips 57 = .ok (.iaload, 1) := by decide +kernel
theorem dPL_findLowTips_58 : decode cPL_findLowTips 58 = .ok (.invokestatic 115, 3) := by decide +kernel
theorem dPL_findLowTips_61 : decode cPL_findLowTips 61 = .ok (.iastore, 1) := by decide +kernel
theorem dPL_findLowTips_62 : decode cPL_findLowTips 62 = .ok (.iinc 1 1, 3) := by decide +kernel
theorem dPL_findLowTips_65 : decode cPL_findLowTips 65 = .ok (.goto (-42), 3) := by decide +kernel
theorem dPL_findLowTips_68 : decode cPL_findLowTips 68 = .ok (.return_, 1) := by decide +kernel
theorem dPL_setsThatFree_0 : decode cPL_setsThatFree 0 = .ok (.aload_n 0, 1) := by decide +kernel
theorem dPL_setsThatFree_1 : decode cPL_setsThatFree 1 = .ok (.getfield 41, 3) := by decide +kernel
theorem dPL_setsThatFree_4 : decode cPL_setsThatFree 4 = .ok (.getfield 120, 3) := by decide +kernel
theorem dPL_setsThatFree_7 : decode cPL_setsThatFree 7 = .ok (.astore_n 3, 1) := by decide +kernel
theorem dPL_setsThatFree_8 : decode cPL_setsThatFree 8 = .ok (.aload_n 0, 1) := by decide +kernel
theorem dPL_setsThatFree_9 : decode cPL_setsThatFree 9 = .ok (.getfield 41, 3) := by decide +kernel
theorem dPL_setsThatFree_12 : decode cPL_setsThatFree 12 = .ok (.getfield 124, 3) := by decide +kernel
theorem dPL_setsThatFree_15 : decode cPL_setsThatFree 15 = .ok (.iload_n 1, 1) := by decide +kernel
theorem dPL_setsThatFree_16 : decode cPL_setsThatFree 16 = .ok (.iaload, 1) := by decide +kernel
theorem dPL_setsThatFree_17 : decode cPL_setsThatFree 17 = .ok (.istore 4, 2) := by decide +kernel
theorem dPL_setsThatFree_19 : decode cPL_setsThatFree 19 = .ok (.aload_n 0, 1) := by decide +kernel
theorem dPL_setsThatFree_20 : decode cPL_setsThatFree 20 = .ok (.getfield 37, 3) := by decide +kernel
theorem dPL_setsThatFree_23 : decode cPL_setsThatFree 23 = .ok (.getfield 85, 3) := by decide +kernel
theorem dPL_setsThatFree_26 : decode cPL_setsThatFree 26 = .ok (.iload_n 1, 1) := by decide +kernel
theorem dPL_setsThatFree_27 : decode cPL_setsThatFree 27 = .ok (.iaload, 1) := by decide +kernel
theorem dPL_setsThatFree_28 : decode cPL_setsThatFree 28 = .ok (.istore 5, 2) := by decide +kernel
theorem dPL_setsThatFree_30 : decode cPL_setsThatFree 30 = .ok (.aload_n 0, 1) := by decide +kernel
theorem dPL_setsThatFree_31 : decode cPL_setsThatFree 31 = .ok (.getfield 41, 3) := by decide +kernel
theorem dPL_setsThatFree_34 : decode cPL_setsThatFree 34 = .ok (.getfield 127, 3) := by decide +kernel
theorem dPL_setsThatFree_37 : decode cPL_setsThatFree 37 = .ok (.iload_n 1, 1) := by decide +kernel
theorem dPL_setsThatFree_38 : decode cPL_setsThatFree 38 = .ok (.iaload, 1) := by decide +kernel
theorem dPL_setsThatFree_39 : decode cPL_setsThatFree 39 = .ok (.istore 6, 2) := by decide +kernel
theorem dPL_setsThatFree_41 : decode cPL_setsThatFree 41 = .ok (.iload_n 2, 1) := by decide +kernel
theorem dPL_setsThatFree_42 : decode cPL_setsThatFree 42 = .ok (.istore 7, 2) := by decide +kernel
theorem dPL_setsThatFree_44 : decode cPL_setsThatFree 44 = .ok (.iconst 0, 1) := by decide +kernel
theorem dPL_setsThatFree_45 : decode cPL_setsThatFree 45 = .ok (.istore 8, 2) := by decide +kernel
theorem dPL_setsThatFree_47 : decode cPL_setsThatFree 47 = .ok (.iload 8, 2) := by decide +kernel
theorem dPL_setsThatFree_49 : decode cPL_setsThatFree 49 = .ok (.aload_n 3, 1) := by decide +kernel
theorem dPL_setsThatFree_50 : decode cPL_setsThatFree 50 = .ok (.getfield 130, 3) := by decide +kernel
theorem dPL_setsThatFree_53 : decode cPL_setsThatFree 53 = .ok (.if_icmp .ge 102, 3) := by decide +kernel
theorem dPL_setsThatFree_56 : decode cPL_setsThatFree 56 = .ok (.iload 6, 2) := by decide +kernel
theorem dPL_setsThatFree_58 : decode cPL_setsThatFree 58 = .ok (.ifCond .le 97, 3) := by decide +kernel
theorem dPL_setsThatFree_61 : decode cPL_setsThatFree 61 = .ok (.iload 7, 2) := by decide +kernel
theorem dPL_setsThatFree_63 : decode cPL_setsThatFree 63 = .ok (.ifCond .eq 92, 3) := by decide +kernel
theorem dPL_setsThatFree_66 : decode cPL_setsThatFree 66 = .ok (.iload 5, 2) := by decide +kernel
theorem dPL_setsThatFree_68 : decode cPL_setsThatFree 68 = .ok (.aload_n 3, 1) := by decide +kernel
theorem dPL_setsThatFree_69 : decode cPL_setsThatFree 69 = .ok (.getfield 135, 3) := by decide +kernel
theorem dPL_setsThatFree_72 : decode cPL_setsThatFree 72 = .ok (.iload 8, 2) := by decide +kernel
theorem dPL_setsThatFree_74 : decode cPL_setsThatFree 74 = .ok (.iaload, 1) := by decide +kernel
theorem dPL_setsThatFree_75 : decode cPL_setsThatFree 75 = .ok (.iadd, 1) := by decide +kernel
theorem dPL_setsThatFree_76 : decode cPL_setsThatFree 76 = .ok (.istore 9, 2) := by decide +kernel
theorem dPL_setsThatFree_78 : decode cPL_setsThatFree 78 = .ok (.aload_n 0, 1) := by decide +kernel
theorem dPL_setsThatFree_79 : decode cPL_setsThatFree 79 = .ok (.getfield 41, 3) := by decide +kernel
theorem dPL_setsThatFree_82 : decode cPL_setsThatFree 82 = .ok (.getfield 138, 3) := by decide +kernel
theorem dPL_setsThatFree_85 : decode cPL_setsThatFree 85 = .ok (.iload 4, 2) := by decide +kernel
theorem dPL_setsThatFree_87 : decode cPL_setsThatFree 87 = .ok (.aload_n 3, 1) := by decide +kernel
theorem dPL_setsThatFree_88 : decode cPL_setsThatFree 88 = .ok (.getfield 141, 3) := by decide +kernel
theorem dPL_setsThatFree_91 : decode cPL_setsThatFree 91 = .ok (.iload 8, 2) := by decide +kernel
theorem dPL_setsThatFree_93 : decode cPL_setsThatFree 93 = .ok (.iaload, 1) := by decide +kernel
theorem dPL_setsThatFree_94 : decode cPL_setsThatFree 94 = .ok (.iadd, 1) := by decide +kernel
theorem dPL_setsThatFree_95 : decode cPL_setsThatFree 95 = .ok (.iaload, 1) := by decide +kernel
theorem dPL_setsThatFree_96 : decode cPL_setsThatFree 96 = .ok (.iload 9, 2) := by decide +kernel
theorem dPL_setsThatFree_98 : decode cPL_setsThatFree 98 = .ok (.if_icmp .ne 51, 3) := by decide +kernel
theorem dPL_setsThatFree_101 : decode cPL_setsThatFree 101 = .ok (.iinc 6 (-1), 3) := by decide +kernel
theorem dPL_setsThatFree_104 : decode cPL_setsThatFree 104 = .ok (.iload 7, 2) := by decide +kernel
theorem dPL_setsThatFree_106 : decode cPL_setsThatFree 106 = .ok (.aload_n 0, 1) := by decide +kernel
theorem dPL_setsThatFree_107 : decode cPL_setsThatFree 107 = .ok (.iload 9, 2) := by decide +kernel
theorem dPL_setsThatFree_109 : decode cPL_setsThatFree 109 = .ok (.aload_n 0, 1) := by decide +kernel
theorem dPL_setsThatFree_110 : decode cPL_setsThatFree 110 = .ok (.getfield 37, 3) := by decide +kernel
theorem dPL_setsThatFree_113 : decode cPL_setsThatFree 113 = .ok (.getfield 144, 3) := by decide +kernel
theorem dPL_setsThatFree_116 : decode cPL_setsThatFree 116 = .ok (.iload_n 1, 1) := by decide +kernel
theorem dPL_setsThatFree_117 : decode cPL_setsThatFree 117 = .ok (.iaload, 1) := by decide +kernel
theorem dPL_setsThatFree_118 : decode cPL_setsThatFree 118 = .ok (.aload_n 3, 1) := by decide +kernel
theorem dPL_setsThatFree_119 : decode cPL_setsThatFree 119 = .ok (.getfield 147, 3) := by decide +kernel
theorem dPL_setsThatFree_122 : decode cPL_setsThatFree 122 = .ok (.iload 8, 2) := by decide +kernel
theorem dPL_setsThatFree_124 : decode cPL_setsThatFree 124 = .ok (.iaload, 1) := by decide +kernel
theorem dPL_setsThatFree_125 : decode cPL_setsThatFree 125 = .ok (.iadd, 1) := by decide +kernel
theorem dPL_setsThatFree_126 : decode cPL_setsThatFree 126 = .ok (.aload_n 0, 1) := by decide +kernel
theorem dPL_setsThatFree_127 : decode cPL_setsThatFree 127 = .ok (.getfield 37, 3) := by decide +kernel
theorem dPL_setsThatFree_130 : decode cPL_setsThatFree 130 = .ok (.getfield 150, 3) := by decide +kernel
theorem dPL_setsThatFree_133 : decode cPL_setsThatFree 133 = .ok (.iload_n 1, 1) := by decide +kernel
theorem dPL_setsThatFree_134 : decode cPL_setsThatFree 134 = .ok (.iaload, 1) := by decide +kernel
theorem dPL_setsThatFree_135 : decode cPL_setsThatFree 135 = .ok (.aload_n 3, 1) := by decide +kernel
theorem dPL_setsThatFree_136 : decode cPL_setsThatFree 136 = .ok (.getfield 153, 3) := by decide +kernel
theorem dPL_setsThatFree_139 : decode cPL_setsThatFree 139 = .ok (.iload 8, 2) := by decide +kernel
theorem dPL_setsThatFree_141 : decode cPL_setsThatFree 141 = .ok (.iaload, 1) := by decide +kernel
theorem dPL_setsThatFree_142 : decode cPL_setsThatFree 142 = .ok (.iadd, 1) := by decide +kernel
theorem dPL_setsThatFree_143 : decode cPL_setsThatFree 143 = .ok (.invokevirtual 156, 3) := by decide +kernel
theorem dPL_setsThatFree_146 : decode cPL_setsThatFree 146 = .ok (.iand, 1) := by decide +kernel
theorem dPL_setsThatFree_147 : decode cPL_setsThatFree 147 = .ok (.istore 7, 2) := by decide +kernel
theorem dPL_setsThatFree_149 : decode cPL_setsThatFree 149 = .ok (.iinc 8 1, 3) := by decide +kernel
theorem dPL_setsThatFree_152 : decode cPL_setsThatFree 152 = .ok (.goto (-105), 3) := by decide +kernel
theorem dPL_setsThatFree_155 : decode cPL_setsThatFree 155 = .ok (.iload 7, 2) := by decide +kernel
theorem dPL_setsThatFree_157 : decode cPL_setsThatFree 157 = .ok (.ireturn, 1) := by decide +kernel
theorem dPL_setsThatSave_0 : decode cPL_setsThatSave 0 = .ok (.iconst 0, 1) := by decide +kernel
theorem dPL_setsThatSave_1 : decode cPL_setsThatSave 1 = .ok (.istore_n 3, 1) := by decide +kernel
theorem dPL_setsThatSave_2 : decode cPL_setsThatSave 2 = .ok (.iconst 0, 1) := by decide +kernel
theorem dPL_setsThatSave_3 : decode cPL_setsThatSave 3 = .ok (.istore 4, 2) := by decide +kernel
theorem dPL_setsThatSave_5 : decode cPL_setsThatSave 5 = .ok (.iload 4, 2) := by decide +kernel
theorem dPL_setsThatSave_7 : decode cPL_setsThatSave 7 = .ok (.aload_n 0, 1) := by decide +kernel
theorem dPL_setsThatSave_8 : decode cPL_setsThatSave 8 = .ok (.getfield 31, 3) := by decide +kernel
theorem dPL_setsThatSave_11 : decode cPL_setsThatSave 11 = .ok (.if_icmp .ge 44, 3) := by decide +kernel
theorem dPL_setsThatSave_14 : decode cPL_setsThatSave 14 = .ok (.aload_n 0, 1) := by decide +kernel
theorem dPL_setsThatSave_15 : decode cPL_setsThatSave 15 = .ok (.getfield 22, 3) := by decide +kernel
theorem dPL_setsThatSave_18 : decode cPL_setsThatSave 18 = .ok (.iload 4, 2) := by decide +kernel
theorem dPL_setsThatSave_20 : decode cPL_setsThatSave 20 = .ok (.iaload, 1) := by decide +kernel
theorem dPL_setsThatSave_21 : decode cPL_setsThatSave 21 = .ok (.iload_n 1, 1) := by decide +kernel
theorem dPL_setsThatSave_22 : decode cPL_setsThatSave 22 = .ok (.if_icmp .ne 27, 3) := by decide +kernel
theorem dPL_setsThatSave_25 : decode cPL_setsThatSave 25 = .ok (.iload_n 3, 1) := by decide +kernel
theorem dPL_setsThatSave_26 : decode cPL_setsThatSave 26 = .ok (.aload_n 0, 1) := by decide +kernel
theorem dPL_setsThatSave_27 : decode cPL_setsThatSave 27 = .ok (.iload_n 1, 1) := by decide +kernel
theorem dPL_setsThatSave_28 : decode cPL_setsThatSave 28 = .ok (.aload_n 0, 1) := by decide +kernel
theorem dPL_setsThatSave_29 : decode cPL_setsThatSave 29 = .ok (.getfield 25, 3) := by decide +kernel
theorem dPL_setsThatSave_32 : decode cPL_setsThatSave 32 = .ok (.iload 4, 2) := by decide +kernel
theorem dPL_setsThatSave_34 : decode cPL_setsThatSave 34 = .ok (.iaload, 1) := by decide +kernel
theorem dPL_setsThatSave_35 : decode cPL_setsThatSave 35 = .ok (.iload_n 2, 1) := by decide +kernel
theorem dPL_setsThatSave_36 : decode cPL_setsThatSave 36 = .ok (.aload_n 0, 1) := by decide +kernel
theorem dPL_setsThatSave_37 : decode cPL_setsThatSave 37 = .ok (.getfield 28, 3) := by decide +kernel
theorem dPL_setsThatSave_40 : decode cPL_setsThatSave 40 = .ok (.iload 4, 2) := by decide +kernel
theorem dPL_setsThatSave_42 : decode cPL_setsThatSave 42 = .ok (.iaload, 1) := by decide +kernel
theorem dPL_setsThatSave_43 : decode cPL_setsThatSave 43 = .ok (.iand, 1) := by decide +kernel
theorem dPL_setsThatSave_44 : decode cPL_setsThatSave 44 = .ok (.invokevirtual 160, 3) := by decide +kernel
theorem dPL_setsThatSave_47 : decode cPL_setsThatSave 47 = .ok (.ior, 1) := by decide +kernel
theorem dPL_setsThatSave_48 : decode cPL_setsThatSave 48 = .ok (.istore_n 3, 1) := by decide +kernel
theorem dPL_setsThatSave_49 : decode cPL_setsThatSave 49 = .ok (.iinc 4 1, 3) := by decide +kernel
theorem dPL_setsThatSave_52 : decode cPL_setsThatSave 52 = .ok (.goto (-47), 3) := by decide +kernel
theorem dPL_setsThatSave_55 : decode cPL_setsThatSave 55 = .ok (.iload_n 3, 1) := by decide +kernel
theorem dPL_setsThatSave_56 : decode cPL_setsThatSave 56 = .ok (.ireturn, 1) := by decide +kernel
theorem dPL_setsThatCover_0 : decode cPL_setsThatCover 0 = .ok (.aload_n 0, 1) := by decide +kernel
theorem dPL_setsThatCover_1 : decode cPL_setsThatCover 1 = .ok (.getfield 41, 3) := by decide +kernel
theorem dPL_setsThatCover_4 : decode cPL_setsThatCover 4 = .ok (.getfield 120, 3) := by decide +kernel
theorem dPL_setsThatCover_7 : decode cPL_setsThatCover 7 = .ok (.astore 4, 2) := by decide +kernel
theorem dPL_setsThatCover_9 : decode cPL_setsThatCover 9 = .ok (.aload_n 0, 1) := by decide +kernel
theorem dPL_setsThatCover_10 : decode cPL_setsThatCover 10 = .ok (.getfield 41, 3) := by decide +kernel
theorem dPL_setsThatCover_13 : decode cPL_setsThatCover 13 = .ok (.getfield 124, 3) := by decide +kernel
theorem dPL_setsThatCover_16 : decode cPL_setsThatCover 16 = .ok (.iload_n 1, 1) := by decide +kernel
theorem dPL_setsThatCover_17 : decode cPL_setsThatCover 17 = .ok (.iaload, 1) := by decide +kernel
theorem dPL_setsThatCover_18 : decode cPL_setsThatCover 18 = .ok (.istore 5, 2) := by decide +kernel
theorem dPL_setsThatCover_20 : decode cPL_setsThatCover 20 = .ok (.iload_n 3, 1) := by decide +kernel
theorem dPL_setsThatCover_21 : decode cPL_setsThatCover 21 = .ok (.istore 6, 2) := by decide +kernel
theorem dPL_setsThatCover_23 : decode cPL_setsThatCover 23 = .ok (.iconst 0, 1) := by decide +kernel
theorem dPL_setsThatCover_24 : decode cPL_setsThatCover 24 = .ok (.istore 7, 2) := by decide +kernel
theorem dPL_setsThatCover_26 : decode cPL_setsThatCover 26 = .ok (.iload 7, 2) := by decide +kernel
theorem dPL_setsThatCover_28 : decode cPL_setsThatCover 28 = .ok (.aload 4, 2) := by decide +kernel
theorem dPL_setsThatCover_30 : decode cPL_setsThatCover 30 = .ok (.getfield 130, 3) := by decide +kernel
theorem dPL_setsThatCover_33 : decode cPL_setsThatCover 33 = .ok (.if_icmp .ge 151, 3) := by decide +kernel
theorem dPL_setsThatCover_36 : decode cPL_setsThatCover 36 = .ok (.iload_n 2, 1) := by decide +kernel
theorem dPL_setsThatCover_37 : decode cPL_setsThatCover 37 = .ok (.aload 4, 2) := by decide +kernel
theorem dPL_setsThatCover_39 : decode cPL_setsThatCover 39 = .ok (.getfield 135, 3) := by decide +kernel
theorem dPL_setsThatCover_42 : decode cPL_setsThatCover 42 = .ok (.iload 7, 2) := by decide +kernel
theorem dPL_setsThatCover_44 : decode cPL_setsThatCover 44 = .ok (.iaload, 1) := by decide +kernel
theorem dPL_setsThatCover_45 : decode cPL_setsThatCover 45 = .ok (.iadd, 1) := by decide +kernel
theorem dPL_setsThatCover_46 : decode cPL_setsThatCover 46 = .ok (.aload_n 0, 1) := by decide +kernel
theorem dPL_setsThatCover_47 : decode cPL_setsThatCover 47 = .ok (.getfield 41, 3) := by decide +kernel
theorem dPL_setsThatCover_50 : decode cPL_setsThatCover 50 = .ok (.getfield 163, 3) := by decide +kernel
theorem dPL_setsThatCover_53 : decode cPL_setsThatCover 53 = .ok (.if_icmp .lt 131, 3) := by decide +kernel
theorem dPL_setsThatCover_56 : decode cPL_setsThatCover 56 = .ok (.iload 6, 2) := by decide +kernel
theorem dPL_setsThatCover_58 : decode cPL_setsThatCover 58 = .ok (.ifCond .eq 126, 3) := by decide +kernel
theorem dPL_setsThatCover_61 : decode cPL_setsThatCover 61 = .ok (.iload_n 2, 1) := by decide +kernel
theorem dPL_setsThatCover_62 : decode cPL_setsThatCover 62 = .ok (.aload 4, 2) := by decide +kernel
theorem dPL_setsThatCover_64 : decode cPL_setsThatCover 64 = .ok (.getfield 135, 3) := by decide +kernel
theorem dPL_setsThatCover_67 : decode cPL_setsThatCover 67 = .ok (.iload 7, 2) := by decide +kernel
theorem dPL_setsThatCover_69 : decode cPL_setsThatCover 69 = .ok (.iaload, 1) := by decide +kernel
theorem dPL_setsThatCover_70 : decode cPL_setsThatCover 70 = .ok (.iadd, 1) := by decide +kernel
theorem dPL_setsThatCover_71 : decode cPL_setsThatCover 71 = .ok (.istore 8, 2) := by decide +kernel
theorem dPL_setsThatCover_73 : decode cPL_setsThatCover 73 = .ok (.iload 5, 2) := by decide +kernel
theorem dPL_setsThatCover_75 : decode cPL_setsThatCover 75 = .ok (.aload 4, 2) := by decide +kernel
theorem dPL_setsThatCover_77 : decode cPL_setsThatCover 77 = .ok (.getfield 141, 3) := by decide +kernel
theorem dPL_setsThatCover_80 : decode cPL_setsThatCover 80 = .ok (.iload 7, 2) := by decide +kernel
theorem dPL_setsThatCover_82 : decode cPL_setsThatCover 82 = .ok (.iaload, 1) := by decide +kernel
theorem dPL_setsThatCover_83 : decode cPL_setsThatCover 83 = .ok (.iadd, 1) := by decide +kernel
theorem dPL_setsThatCover_84 : decode cPL_setsThatCover 84 = .ok (.istore 9, 2) := by decide +kernel
theorem dPL_setsThatCover_86 : decode cPL_setsThatCover 86 = .ok (.aload_n 0, 1) := by decide +kernel
theorem dPL_setsThatCover_87 : decode cPL_setsThatCover 87 = .ok (.getfield 37, 3) := by decide +kernel
theorem dPL_setsThatCover_90 : decode cPL_setsThatCover 90 = .ok (.getfield 144, 3) := by decide +kernel
theorem dPL_setsThatCover_93 : decode cPL_setsThatCover 93 = .ok (.iload_n 1, 1) := by decide +kernel
theorem dPL_setsThatCover_94 : decode cPL_setsThatCover 94 = .ok (.iaload, 1) := by decide +kernel
theorem dPL_setsThatCover_95 : decode cPL_setsThatCover 95 = .ok (.aload 4, 2) := by decide +kernel
theorem dPL_setsThatCover_97 : decode cPL_setsThatCover 97 = .ok (.getfield 147, 3) := by decide +kernel
theorem dPL_setsThatCover_100 : decode cPL_setsThatCover 100 = .ok (.iload 7, 2) := by decide +kernel
theorem dPL_setsThatCover_102 : decode cPL_setsThatCover 102 = .ok (.iaload, 1) := by decide +kernel
theorem dPL_setsThatCover_103 : decode cPL_setsThatCover 103 = .ok (.iadd, 1) := by decide +kernel
theorem dPL_setsThatCover_104 : decode cPL_setsThatCover 104 = .ok (.istore 10, 2) := by decide +kernel
theorem dPL_setsThatCover_106 : decode cPL_setsThatCover 106 = .ok (.aload_n 0, 1) := by decide +kernel
theorem dPL_setsThatCover_107 : decode cPL_setsThatCover 107 = .ok (.getfield 37, 3) := by decide +kernel
theorem dPL_setsThatCover_110 : decode cPL_setsThatCover 110 = .ok (.getfield 150, 3) := by decide +kernel
theorem dPL_setsThatCover_113 : decode cPL_setsThatCover 113 = .ok (.iload_n 1, 1) := by decide +kernel
theorem dPL_setsThatCover_114 : decode cPL_setsThatCover 114 = .ok (.iaload, 1) := by decide +kernel
theorem dPL_setsThatCover_115 : decode cPL_setsThatCover 115 = .ok (.aload 4, 2) := by decide +kernel
theorem dPL_setsThatCover_117 : decode cPL_setsThatCover 117 = .ok (.getfield 153, 3) := by decide +kernel
theorem dPL_setsThatCover_120 : decode cPL_setsThatCover 120 = .ok (.iload 7, 2) := by decide +kernel
theorem dPL_setsThatCover_122 : decode cPL_setsThatCover 122 = .ok (.iaload, 1) := by decide +kernel
theorem dPL_setsThatCover_123 : decode cPL_setsThatCover 123 = .ok (.iadd, 1) := by decide +kernel
theorem dPL_setsThatCover_124 : decode cPL_setsThatCover 124 = .ok (.istore 11, 2) := by decide +kernel
theorem dPL_setsThatCover_126 : decode cPL_setsThatCover 126 = .ok (.aload_n 0, 1) := by decide +kernel
theorem dPL_setsThatCover_127 : decode cPL_setsThatCover 127 = .ok (.getfield 41, 3) := by decide +kernel
theorem dPL_setsThatCover_130 : decode cPL_setsThatCover 130 = .ok (.getfield 138, 3) := by decide +kernel
theorem dPL_setsThatCover_133 : decode cPL_setsThatCover 133 = .ok (.iload 9, 2) := by decide +kernel
theorem dPL_setsThatCover_135 : decode cPL_setsThatCover 135 = .ok (.iaload, 1) := by decide +kernel
theorem dPL_setsThatCover_136 : decode cPL_setsThatCover 136 = .ok (.iload 8, 2) := by decide +kernel
theorem dPL_setsThatCover_138 : decode cPL_setsThatCover 138 = .ok (.if_icmp .le 25, 3) := by decide +kernel
theorem dPL_setsThatCover_141 : decode cPL_setsThatCover 141 = .ok (.aload_n 0, 1) := by decide +kernel
theorem dPL_setsThatCover_142 : decode cPL_setsThatCover 142 = .ok (.iload 9, 2) := by decide +kernel
theorem dPL_setsThatCover_144 : decode cPL_setsThatCover 144 = .ok (.invokevirtual 166, 3) := by decide +kernel
theorem dPL_setsThatCover_147 : decode cPL_setsThatCover 147 = .ok (.ifCond .eq 31, 3) := by decide +kernel
theorem dPL_setsThatCover_150 : decode cPL_setsThatCover 150 = .ok (.aload_n 0, 1) := by decide +kernel
theorem dPL_setsThatCover_151 : decode cPL_setsThatCover 151 = .ok (.iload 10, 2) := by decide +kernel
theorem dPL_setsThatCover_153 : decode cPL_setsThatCover 153 = .ok (.iload 11, 2) := by decide +kernel
theorem dPL_setsThatCover_155 : decode cPL_setsThatCover 155 = .ok (.invokevirtual 169, 3) := by decide +kernel
theorem dPL_setsThatCover_158 : decode cPL_setsThatCover 158 = .ok (.iload 8, 2) := by decide +kernel
theorem dPL_setsThatCover_160 : decode cPL_setsThatCover 160 = .ok (.if_icmp .gt 18, 3) := by decide +kernel
theorem dPL_setsThatCover_163 : decode cPL_setsThatCover 163 = .ok (.iload 6, 2) := by decide +kernel
theorem dPL_setsThatCover_165 : decode cPL_setsThatCover 165 = .ok (.aload_n 0, 1) := by decide +kernel
theorem dPL_setsThatCover_166 : decode cPL_setsThatCover 166 = .ok (.iload 8, 2) := by decide +kernel
theorem dPL_setsThatCover_168 : decode cPL_setsThatCover 168 = .ok (.iload 10, 2) := by decide +kernel
theorem dPL_setsThatCover_170 : decode cPL_setsThatCover 170 = .ok (.iload 11, 2) := by decide +kernel
theorem dPL_setsThatCover_172 : decode cPL_setsThatCover 172 = .ok (.invokevirtual 156, 3) := by decide +kernel
theorem dPL_setsThatCover_175 : decode cPL_setsThatCover 175 = .ok (.iand, 1) := by decide +kernel
theorem dPL_setsThatCover_176 : decode cPL_setsThatCover 176 = .ok (.istore 6, 2) := by decide +kernel
theorem dPL_setsThatCover_178 : decode cPL_setsThatCover 178 = .ok (.iinc 7 1, 3) := by decide +kernel
theorem dPL_setsThatCover_181 : decode cPL_setsThatCover 181 = .ok (.goto (-155), 3) := by decide +kernel
theorem dPL_setsThatCover_184 : decode cPL_setsThatCover 184 = .ok (.iload 6, 2) := by decide +kernel
theorem dPL_setsThatCover_186 : decode cPL_setsThatCover 186 = .ok (.ireturn, 1) := by decide +kernel
theorem dPL_maySink_0 : decode cPL_maySink 0 = .ok (.aload_n 0, 1) := by decide +kernel
theorem dPL_maySink_1 : decode cPL_maySink 1 = .ok (.getfield 41, 3) := by decide +kernel
theorem dPL_maySink_4 : decode cPL_maySink 4 = .ok (.getfield 172, 3) := by decide +kernel
theorem dPL_maySink_7 : decode cPL_maySink 7 = .ok (.iload_n 1, 1) := by decide +kernel
theorem dPL_maySink_8 : decode cPL_maySink 8 = .ok (.iaload, 1) := by decide +kernel
theorem dPL_maySink_9 : decode cPL_maySink 9 = .ok (.istore_n 2, 1) := by decide +kernel
theorem dPL_maySink_10 : decode cPL_maySink 10 = .ok (.iload_n 2, 1) := by decide +kernel
theorem dPL_maySink_11 : decode cPL_maySink 11 = .ok (.iconst (-1), 1) := by decide +kernel
theorem dPL_maySink_12 : decode cPL_maySink 12 = .ok (.if_icmp .eq 25, 3) := by decide +kernel
theorem dPL_maySink_15 : decode cPL_maySink 15 = .ok (.aload_n 0, 1) := by decide +kernel
theorem dPL_maySink_16 : decode cPL_maySink 16 = .ok (.getfield 54, 3) := by decide +kernel
theorem dPL_maySink_19 : decode cPL_maySink 19 = .ok (.iload_n 2, 1) := by decide +kernel
theorem dPL_maySink_20 : decode cPL_maySink 20 = .ok (.iaload, 1) := by decide +kernel
theorem dPL_maySink_21 : decode cPL_maySink 21 = .ok (.aload_n 0, 1) := by decide +kernel
theorem dPL_maySink_22 : decode cPL_maySink 22 = .ok (.getfield 37, 3) := by decide +kernel
theorem dPL_maySink_25 : decode cPL_maySink 25 = .ok (.getfield 85, 3) := by decide +kernel
theorem dPL_maySink_28 : decode cPL_maySink 28 = .ok (.iload_n 2, 1) := by decide +kernel
theorem dPL_maySink_29 : decode cPL_maySink 29 = .ok (.iaload, 1) := by decide +kernel
theorem dPL_maySink_30 : decode cPL_maySink 30 = .ok (.if_icmp .ge 7, 3) := by decide +kernel
theorem dPL_maySink_33 : decode cPL_maySink 33 = .ok (.iconst 1, 1) := by decide +kernel
theorem dPL_maySink_34 : decode cPL_maySink 34 = .ok (.goto 4, 3) := by decide +kernel
theorem dPL_maySink_37 : decode cPL_maySink 37 = .ok (.iconst 0, 1) := by decide +kernel
theorem dPL_maySink_38 : decode cPL_maySink 38 = .ok (.ireturn, 1) := by decide +kernel
theorem dPL_lowRest_0 : decode cPL_lowRest 0 = .ok (.aload_n 0, 1) := by decide +kernel
theorem dPL_lowRest_1 : decode cPL_lowRest 1 = .ok (.getfield 41, 3) := by decide +kernel
theorem dPL_lowRest_4 : decode cPL_lowRest 4 = .ok (.aload_n 0, 1) := by decide +kernel
theorem dPL_lowRest_5 : decode cPL_lowRest 5 = .ok (.getfield 54, 3) := by decide +kernel
theorem dPL_lowRest_8 : decode cPL_lowRest 8 = .ok (.iload_n 1, 1) := by decide +kernel
theorem dPL_lowRest_9 : decode cPL_lowRest 9 = .ok (.iload_n 2, 1) := by decide +kernel
theorem dPL_lowRest_10 : decode cPL_lowRest 10 = .ok (.aload_n 0, 1) := by decide +kernel
theorem dPL_lowRest_11 : decode cPL_lowRest 11 = .ok (.getfield 41, 3) := by decide +kernel
theorem dPL_lowRest_14 : decode cPL_lowRest 14 = .ok (.getfield 163, 3) := by decide +kernel
theorem dPL_lowRest_17 : decode cPL_lowRest 17 = .ok (.invokevirtual 175, 3) := by decide +kernel
theorem dPL_lowRest_20 : decode cPL_lowRest 20 = .ok (.ireturn, 1) := by decide +kernel
theorem dPL_setsThatMayLower_0 : decode cPL_setsThatMayLower 0 = .ok (.aload_n 0, 1) := by decide +kernel
theorem dPL_setsThatMayLower_1 : decode cPL_setsThatMayLower 1 = .ok (.getfield 41, 3) := by decide +kernel
theorem dPL_setsThatMayLower_4 : decode cPL_setsThatMayLower 4 = .ok (.getfield 120, 3) := by decide +kernel
theorem dPL_setsThatMayLower_7 : decode cPL_setsThatMayLower 7 = .ok (.astore_n 3, 1) := by decide +kernel
theorem dPL_setsThatMayLower_8 : decode cPL_setsThatMayLower 8 = .ok (.aload_n 0, 1) := by decide +kernel
theorem dPL_setsThatMayLower_9 : decode cPL_setsThatMayLower 9 = .ok (.getfield 41, 3) := by decide +kernel
theorem dPL_setsThatMayLower_12 : decode cPL_setsThatMayLower 12 = .ok (.getfield 124, 3) := by decide +kernel
theorem dPL_setsThatMayLower_15 : decode cPL_setsThatMayLower 15 = .ok (.iload_n 1, 1) := by decide +kernel
theorem dPL_setsThatMayLower_16 : decode cPL_setsThatMayLower 16 = .ok (.iaload, 1) := by decide +kernel
theorem dPL_setsThatMayLower_17 : decode cPL_setsThatMayLower 17 = .ok (.istore 4, 2) := by decide +kernel
theorem dPL_setsThatMayLower_19 : decode cPL_setsThatMayLower 19 = .ok (.iload_n 2, 1) := by decide +kernel
theorem dPL_setsThatMayLower_20 : decode cPL_setsThatMayLower 20 = .ok (.istore 5, 2) := by decide +kernel
theorem dPL_setsThatMayLower_22 : decode cPL_setsThatMayLower 22 = .ok (.iconst 0, 1) := by decide +kernel
theorem dPL_setsThatMayLower_23 : decode cPL_setsThatMayLower 23 = .ok (.istore 6, 2) := by decide +kernel
theorem dPL_setsThatMayLower_25 : decode cPL_setsThatMayLower 25 = .ok (.iload 6, 2) := by decide +kernel
theorem dPL_setsThatMayLower_27 : decode cPL_setsThatMayLower 27 = .ok (.aload_n 3, 1) := by decide +kernel
theorem dPL_setsThatMayLower_28 : decode cPL_setsThatMayLower 28 = .ok (.getfield 130, 3) := by decide +kernel
theorem dPL_setsThatMayLower_31 : decode cPL_setsThatMayLower 31 = .ok (.if_icmp .ge 106, 3) := by decide +kernel
theorem dPL_setsThatMayLower_34 : decode cPL_setsThatMayLower 34 = .ok (.iload 5, 2) := by decide +kernel
theorem dPL_setsThatMayLower_36 : decode cPL_setsThatMayLower 36 = .ok (.ifCond .eq 101, 3) := by decide +kernel
