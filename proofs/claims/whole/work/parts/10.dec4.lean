theorem dBA_countHighestPlaces_4 : decode cBA_countHighestPlaces 4 = .ok (.aload_n 0, 1) := by decide +kernel
theorem dBA_countHighestPlaces_5 : decode cBA_countHighestPlaces 5 = .ok (.getfield 61, 3) := by decide +kernel
theorem dBA_countHighestPlaces_8 : decode cBA_countHighestPlaces 8 = .ok (.astore_n 3, 1) := by decide +kernel
theorem dBA_countHighestPlaces_9 : decode cBA_countHighestPlaces 9 = .ok (.aload_n 3, 1) := by decide +kernel
theorem dBA_countHighestPlaces_10 : decode cBA_countHighestPlaces 10 = .ok (.arraylength, 1) := by decide +kernel
theorem dBA_countHighestPlaces_11 : decode cBA_countHighestPlaces 11 = .ok (.istore 4, 2) := by decide +kernel
theorem dBA_countHighestPlaces_13 : decode cBA_countHighestPlaces 13 = .ok (.iconst 0, 1) := by decide +kernel
theorem dBA_countHighestPlaces_14 : decode cBA_countHighestPlaces 14 = .ok (.istore 5, 2) := by decide +kernel
theorem dBA_countHighestPlaces_16 : decode cBA_countHighestPlaces 16 = .ok (.iload 5, 2) := by decide +kernel
theorem dBA_countHighestPlaces_18 : decode cBA_countHighestPlaces 18 = .ok (.iload 4, 2) := by decide +kernel
theorem dBA_countHighestPlaces_20 : decode cBA_countHighestPlaces 20 = .ok (.if_icmp .ge 35, 3) := by decide +kernel
theorem dBA_countHighestPlaces_23 : decode cBA_countHighestPlaces 23 = .ok (.aload_n 3, 1) := by decide +kernel
theorem dBA_countHighestPlaces_24 : decode cBA_countHighestPlaces 24 = .ok (.iload 5, 2) := by decide +kernel
theorem dBA_countHighestPlaces_26 : decode cBA_countHighestPlaces 26 = .ok (.iaload, 1) := by decide +kernel
theorem dBA_countHighestPlaces_27 : decode cBA_countHighestPlaces 27 = .ok (.istore 6, 2) := by decide +kernel
theorem dBA_countHighestPlaces_29 : decode cBA_countHighestPlaces 29 = .ok (.iload 6, 2) := by decide +kernel
theorem dBA_countHighestPlaces_31 : decode cBA_countHighestPlaces 31 = .ok (.iload_n 1, 1) := by decide +kernel
theorem dBA_countHighestPlaces_32 : decode cBA_countHighestPlaces 32 = .ok (.if_icmp .le 8, 3) := by decide +kernel
theorem dBA_countHighestPlaces_35 : decode cBA_countHighestPlaces 35 = .ok (.iload 6, 2) := by decide +kernel
theorem dBA_countHighestPlaces_37 : decode cBA_countHighestPlaces 37 = .ok (.istore_n 1, 1) := by decide +kernel
theorem dBA_countHighestPlaces_38 : decode cBA_countHighestPlaces 38 = .ok (.iconst 0, 1) := by decide +kernel
theorem dBA_countHighestPlaces_39 : decode cBA_countHighestPlaces 39 = .ok (.istore_n 2, 1) := by decide +kernel
theorem dBA_countHighestPlaces_40 : decode cBA_countHighestPlaces 40 = .ok (.iload 6, 2) := by decide +kernel
theorem dBA_countHighestPlaces_42 : decode cBA_countHighestPlaces 42 = .ok (.iload_n 1, 1) := by decide +kernel
theorem dBA_countHighestPlaces_43 : decode cBA_countHighestPlaces 43 = .ok (.if_icmp .ne 6, 3) := by decide +kernel
theorem dBA_countHighestPlaces_46 : decode cBA_countHighestPlaces 46 = .ok (.iinc 2 1, 3) := by decide +kernel
theorem dBA_countHighestPlaces_49 : decode cBA_countHighestPlaces 49 = .ok (.iinc 5 1, 3) := by decide +kernel
theorem dBA_countHighestPlaces_52 : decode cBA_countHighestPlaces 52 = .ok (.goto (-36), 3) := by decide +kernel
theorem dBA_countHighestPlaces_55 : decode cBA_countHighestPlaces 55 = .ok (.iload_n 2, 1) := by decide +kernel
theorem dBA_countHighestPlaces_56 : decode cBA_countHighestPlaces 56 = .ok (.ireturn, 1) := by decide +kernel
theorem dBA_coverOf_0 : decode cBA_coverOf 0 = .ok (.aload_n 0, 1) := by decide +kernel
theorem dBA_coverOf_1 : decode cBA_coverOf 1 = .ok (.getfield 48, 3) := by decide +kernel
theorem dBA_coverOf_4 : decode cBA_coverOf 4 = .ok (.iload_n 1, 1) := by decide +kernel
theorem dBA_coverOf_5 : decode cBA_coverOf 5 = .ok (.iaload, 1) := by decide +kernel
theorem dBA_coverOf_6 : decode cBA_coverOf 6 = .ok (.istore_n 2, 1) := by decide +kernel
theorem dBA_coverOf_7 : decode cBA_coverOf 7 = .ok (.aload_n 0, 1) := by decide +kernel
theorem dBA_coverOf_8 : decode cBA_coverOf 8 = .ok (.getfield 61, 3) := by decide +kernel
theorem dBA_coverOf_11 : decode cBA_coverOf 11 = .ok (.iload_n 2, 1) := by decide +kernel
theorem dBA_coverOf_12 : decode cBA_coverOf 12 = .ok (.iaload, 1) := by decide +kernel
theorem dBA_coverOf_13 : decode cBA_coverOf 13 = .ok (.aload_n 0, 1) := by decide +kernel
theorem dBA_coverOf_14 : decode cBA_coverOf 14 = .ok (.getfield 25, 3) := by decide +kernel
theorem dBA_coverOf_17 : decode cBA_coverOf 17 = .ok (.isub, 1) := by decide +kernel
theorem dBA_coverOf_18 : decode cBA_coverOf 18 = .ok (.istore_n 3, 1) := by decide +kernel
theorem dBA_coverOf_19 : decode cBA_coverOf 19 = .ok (.iconst 0, 1) := by decide +kernel
theorem dBA_coverOf_20 : decode cBA_coverOf 20 = .ok (.istore 4, 2) := by decide +kernel
theorem dBA_coverOf_22 : decode cBA_coverOf 22 = .ok (.iload 4, 2) := by decide +kernel
theorem dBA_coverOf_24 : decode cBA_coverOf 24 = .ok (.aload_n 0, 1) := by decide +kernel
theorem dBA_coverOf_25 : decode cBA_coverOf 25 = .ok (.getfield 41, 3) := by decide +kernel
theorem dBA_coverOf_28 : decode cBA_coverOf 28 = .ok (.getfield 96, 3) := by decide +kernel
theorem dBA_coverOf_31 : decode cBA_coverOf 31 = .ok (.if_icmp .ge 42, 3) := by decide +kernel
theorem dBA_coverOf_34 : decode cBA_coverOf 34 = .ok (.iload_n 3, 1) := by decide +kernel
theorem dBA_coverOf_35 : decode cBA_coverOf 35 = .ok (.aload_n 0, 1) := by decide +kernel
theorem dBA_coverOf_36 : decode cBA_coverOf 36 = .ok (.getfield 61, 3) := by decide +kernel
theorem dBA_coverOf_39 : decode cBA_coverOf 39 = .ok (.iload_n 2, 1) := by decide +kernel
theorem dBA_coverOf_40 : decode cBA_coverOf 40 = .ok (.aload_n 0, 1) := by decide +kernel
theorem dBA_coverOf_41 : decode cBA_coverOf 41 = .ok (.getfield 41, 3) := by decide +kernel
theorem dBA_coverOf_44 : decode cBA_coverOf 44 = .ok (.getfield 99, 3) := by decide +kernel
theorem dBA_coverOf_47 : decode cBA_coverOf 47 = .ok (.iload 4, 2) := by decide +kernel
theorem dBA_coverOf_49 : decode cBA_coverOf 49 = .ok (.iaload, 1) := by decide +kernel
theorem dBA_coverOf_50 : decode cBA_coverOf 50 = .ok (.iadd, 1) := by decide +kernel
theorem dBA_coverOf_51 : decode cBA_coverOf 51 = .ok (.iaload, 1) := by decide +kernel
theorem dBA_coverOf_52 : decode cBA_coverOf 52 = .ok (.aload_n 0, 1) := by decide +kernel
theorem dBA_coverOf_53 : decode cBA_coverOf 53 = .ok (.getfield 41, 3) := by decide +kernel
theorem dBA_coverOf_56 : decode cBA_coverOf 56 = .ok (.getfield 102, 3) := by decide +kernel
theorem dBA_coverOf_59 : decode cBA_coverOf 59 = .ok (.iload 4, 2) := by decide +kernel
theorem dBA_coverOf_61 : decode cBA_coverOf 61 = .ok (.iaload, 1) := by decide +kernel
theorem dBA_coverOf_62 : decode cBA_coverOf 62 = .ok (.isub, 1) := by decide +kernel
theorem dBA_coverOf_63 : decode cBA_coverOf 63 = .ok (.invokestatic 105, 3) := by decide +kernel
theorem dBA_coverOf_66 : decode cBA_coverOf 66 = .ok (.istore_n 3, 1) := by decide +kernel
theorem dBA_coverOf_67 : decode cBA_coverOf 67 = .ok (.iinc 4 1, 3) := by decide +kernel
theorem dBA_coverOf_70 : decode cBA_coverOf 70 = .ok (.goto (-48), 3) := by decide +kernel
theorem dBA_coverOf_73 : decode cBA_coverOf 73 = .ok (.iload_n 3, 1) := by decide +kernel
theorem dBA_coverOf_74 : decode cBA_coverOf 74 = .ok (.ireturn, 1) := by decide +kernel
theorem dBA_moveTip_0 : decode cBA_moveTip 0 = .ok (.aload_n 0, 1) := by decide +kernel
theorem dBA_moveTip_1 : decode cBA_moveTip 1 = .ok (.getfield 15, 3) := by decide +kernel
theorem dBA_moveTip_4 : decode cBA_moveTip 4 = .ok (.getfield 86, 3) := by decide +kernel
theorem dBA_moveTip_7 : decode cBA_moveTip 7 = .ok (.iload_n 1, 1) := by decide +kernel
theorem dBA_moveTip_8 : decode cBA_moveTip 8 = .ok (.iaload, 1) := by decide +kernel
theorem dBA_moveTip_9 : decode cBA_moveTip 9 = .ok (.istore_n 3, 1) := by decide +kernel
theorem dBA_moveTip_10 : decode cBA_moveTip 10 = .ok (.iload_n 2, 1) := by decide +kernel
theorem dBA_moveTip_11 : decode cBA_moveTip 11 = .ok (.iload_n 3, 1) := by decide +kernel
theorem dBA_moveTip_12 : decode cBA_moveTip 12 = .ok (.if_icmp .le 9, 3) := by decide +kernel
theorem dBA_moveTip_15 : decode cBA_moveTip 15 = .ok (.aload_n 0, 1) := by decide +kernel
theorem dBA_moveTip_16 : decode cBA_moveTip 16 = .ok (.iload_n 1, 1) := by decide +kernel
theorem dBA_moveTip_17 : decode cBA_moveTip 17 = .ok (.iload_n 2, 1) := by decide +kernel
theorem dBA_moveTip_18 : decode cBA_moveTip 18 = .ok (.invokevirtual 110, 3) := by decide +kernel
theorem dBA_moveTip_21 : decode cBA_moveTip 21 = .ok (.iload_n 2, 1) := by decide +kernel
theorem dBA_moveTip_22 : decode cBA_moveTip 22 = .ok (.iload_n 3, 1) := by decide +kernel
theorem dBA_moveTip_23 : decode cBA_moveTip 23 = .ok (.if_icmp .ge 9, 3) := by decide +kernel
theorem dBA_moveTip_26 : decode cBA_moveTip 26 = .ok (.aload_n 0, 1) := by decide +kernel
theorem dBA_moveTip_27 : decode cBA_moveTip 27 = .ok (.iload_n 1, 1) := by decide +kernel
theorem dBA_moveTip_28 : decode cBA_moveTip 28 = .ok (.iload_n 2, 1) := by decide +kernel
theorem dBA_moveTip_29 : decode cBA_moveTip 29 = .ok (.invokevirtual 113, 3) := by decide +kernel
theorem dBA_moveTip_32 : decode cBA_moveTip 32 = .ok (.return_, 1) := by decide +kernel
theorem dBA_raiseTip_0 : decode cBA_raiseTip 0 = .ok (.aload_n 0, 1) := by decide +kernel
theorem dBA_raiseTip_1 : decode cBA_raiseTip 1 = .ok (.getfield 41, 3) := by decide +kernel
theorem dBA_raiseTip_4 : decode cBA_raiseTip 4 = .ok (.getfield 99, 3) := by decide +kernel
theorem dBA_raiseTip_7 : decode cBA_raiseTip 7 = .ok (.astore_n 3, 1) := by decide +kernel
theorem dBA_raiseTip_8 : decode cBA_raiseTip 8 = .ok (.aload_n 0, 1) := by decide +kernel
theorem dBA_raiseTip_9 : decode cBA_raiseTip 9 = .ok (.getfield 41, 3) := by decide +kernel
theorem dBA_raiseTip_12 : decode cBA_raiseTip 12 = .ok (.getfield 102, 3) := by decide +kernel
theorem dBA_raiseTip_15 : decode cBA_raiseTip 15 = .ok (.astore 4, 2) := by decide +kernel
theorem dBA_raiseTip_17 : decode cBA_raiseTip 17 = .ok (.aload_n 0, 1) := by decide +kernel
theorem dBA_raiseTip_18 : decode cBA_raiseTip 18 = .ok (.getfield 48, 3) := by decide +kernel
theorem dBA_raiseTip_21 : decode cBA_raiseTip 21 = .ok (.iload_n 1, 1) := by decide +kernel
theorem dBA_raiseTip_22 : decode cBA_raiseTip 22 = .ok (.iaload, 1) := by decide +kernel
theorem dBA_raiseTip_23 : decode cBA_raiseTip 23 = .ok (.istore 5, 2) := by decide +kernel
theorem dBA_raiseTip_25 : decode cBA_raiseTip 25 = .ok (.iconst 0, 1) := by decide +kernel
theorem dBA_raiseTip_26 : decode cBA_raiseTip 26 = .ok (.istore 6, 2) := by decide +kernel
theorem dBA_raiseTip_28 : decode cBA_raiseTip 28 = .ok (.iload 6, 2) := by decide +kernel
theorem dBA_raiseTip_30 : decode cBA_raiseTip 30 = .ok (.aload_n 0, 1) := by decide +kernel
theorem dBA_raiseTip_31 : decode cBA_raiseTip 31 = .ok (.getfield 41, 3) := by decide +kernel
theorem dBA_raiseTip_34 : decode cBA_raiseTip 34 = .ok (.getfield 96, 3) := by decide +kernel
theorem dBA_raiseTip_37 : decode cBA_raiseTip 37 = .ok (.if_icmp .ge 152, 3) := by decide +kernel
theorem dBA_raiseTip_40 : decode cBA_raiseTip 40 = .ok (.iload_n 2, 1) := by decide +kernel
theorem dBA_raiseTip_41 : decode cBA_raiseTip 41 = .ok (.aload 4, 2) := by decide +kernel
theorem dBA_raiseTip_43 : decode cBA_raiseTip 43 = .ok (.iload 6, 2) := by decide +kernel
theorem dBA_raiseTip_45 : decode cBA_raiseTip 45 = .ok (.iaload, 1) := by decide +kernel
theorem dBA_raiseTip_46 : decode cBA_raiseTip 46 = .ok (.iadd, 1) := by decide +kernel
theorem dBA_raiseTip_47 : decode cBA_raiseTip 47 = .ok (.aload_n 0, 1) := by decide +kernel
theorem dBA_raiseTip_48 : decode cBA_raiseTip 48 = .ok (.getfield 25, 3) := by decide +kernel
theorem dBA_raiseTip_51 : decode cBA_raiseTip 51 = .ok (.if_icmp .lt 138, 3) := by decide +kernel
theorem dBA_raiseTip_54 : decode cBA_raiseTip 54 = .ok (.iload 5, 2) := by decide +kernel
theorem dBA_raiseTip_56 : decode cBA_raiseTip 56 = .ok (.aload_n 3, 1) := by decide +kernel
theorem dBA_raiseTip_57 : decode cBA_raiseTip 57 = .ok (.iload 6, 2) := by decide +kernel
theorem dBA_raiseTip_59 : decode cBA_raiseTip 59 = .ok (.iaload, 1) := by decide +kernel
theorem dBA_raiseTip_60 : decode cBA_raiseTip 60 = .ok (.iadd, 1) := by decide +kernel
theorem dBA_raiseTip_61 : decode cBA_raiseTip 61 = .ok (.istore 7, 2) := by decide +kernel
theorem dBA_raiseTip_63 : decode cBA_raiseTip 63 = .ok (.iload_n 2, 1) := by decide +kernel
theorem dBA_raiseTip_64 : decode cBA_raiseTip 64 = .ok (.aload 4, 2) := by decide +kernel
theorem dBA_raiseTip_66 : decode cBA_raiseTip 66 = .ok (.iload 6, 2) := by decide +kernel
theorem dBA_raiseTip_68 : decode cBA_raiseTip 68 = .ok (.iaload, 1) := by decide +kernel
theorem dBA_raiseTip_69 : decode cBA_raiseTip 69 = .ok (.iadd, 1) := by decide +kernel
theorem dBA_raiseTip_70 : decode cBA_raiseTip 70 = .ok (.istore 8, 2) := by decide +kernel
theorem dBA_raiseTip_72 : decode cBA_raiseTip 72 = .ok (.iload 8, 2) := by decide +kernel
theorem dBA_raiseTip_74 : decode cBA_raiseTip 74 = .ok (.aload_n 0, 1) := by decide +kernel
theorem dBA_raiseTip_75 : decode cBA_raiseTip 75 = .ok (.getfield 61, 3) := by decide +kernel
theorem dBA_raiseTip_78 : decode cBA_raiseTip 78 = .ok (.iload 7, 2) := by decide +kernel
theorem dBA_raiseTip_80 : decode cBA_raiseTip 80 = .ok (.iaload, 1) := by decide +kernel
theorem dBA_raiseTip_81 : decode cBA_raiseTip 81 = .ok (.if_icmp .ge 6, 3) := by decide +kernel
theorem dBA_raiseTip_84 : decode cBA_raiseTip 84 = .ok (.goto 99, 3) := by decide +kernel
theorem dBA_raiseTip_87 : decode cBA_raiseTip 87 = .ok (.iload 8, 2) := by decide +kernel
theorem dBA_raiseTip_89 : decode cBA_raiseTip 89 = .ok (.aload_n 0, 1) := by decide +kernel
theorem dBA_raiseTip_90 : decode cBA_raiseTip 90 = .ok (.getfield 61, 3) := by decide +kernel
theorem dBA_raiseTip_93 : decode cBA_raiseTip 93 = .ok (.iload 7, 2) := by decide +kernel
theorem dBA_raiseTip_95 : decode cBA_raiseTip 95 = .ok (.iaload, 1) := by decide +kernel
theorem dBA_raiseTip_96 : decode cBA_raiseTip 96 = .ok (.if_icmp .le 58, 3) := by decide +kernel
theorem dBA_raiseTip_99 : decode cBA_raiseTip 99 = .ok (.aload_n 0, 1) := by decide +kernel
theorem dBA_raiseTip_100 : decode cBA_raiseTip 100 = .ok (.iload 7, 2) := by decide +kernel
theorem dBA_raiseTip_102 : decode cBA_raiseTip 102 = .ok (.aload_n 0, 1) := by decide +kernel
theorem dBA_raiseTip_103 : decode cBA_raiseTip 103 = .ok (.getfield 15, 3) := by decide +kernel
theorem dBA_raiseTip_106 : decode cBA_raiseTip 106 = .ok (.getfield 76, 3) := by decide +kernel
theorem dBA_raiseTip_109 : decode cBA_raiseTip 109 = .ok (.iload_n 1, 1) := by decide +kernel
theorem dBA_raiseTip_110 : decode cBA_raiseTip 110 = .ok (.iaload, 1) := by decide +kernel
theorem dBA_raiseTip_111 : decode cBA_raiseTip 111 = .ok (.aload_n 0, 1) := by decide +kernel
theorem dBA_raiseTip_112 : decode cBA_raiseTip 112 = .ok (.getfield 41, 3) := by decide +kernel
theorem dBA_raiseTip_115 : decode cBA_raiseTip 115 = .ok (.getfield 116, 3) := by decide +kernel
theorem dBA_raiseTip_118 : decode cBA_raiseTip 118 = .ok (.iload 6, 2) := by decide +kernel
theorem dBA_raiseTip_120 : decode cBA_raiseTip 120 = .ok (.iaload, 1) := by decide +kernel
theorem dBA_raiseTip_121 : decode cBA_raiseTip 121 = .ok (.iadd, 1) := by decide +kernel
theorem dBA_raiseTip_122 : decode cBA_raiseTip 122 = .ok (.aload_n 0, 1) := by decide +kernel
theorem dBA_raiseTip_123 : decode cBA_raiseTip 123 = .ok (.getfield 15, 3) := by decide +kernel
theorem dBA_raiseTip_126 : decode cBA_raiseTip 126 = .ok (.getfield 79, 3) := by decide +kernel
theorem dBA_raiseTip_129 : decode cBA_raiseTip 129 = .ok (.iload_n 1, 1) := by decide +kernel
theorem dBA_raiseTip_130 : decode cBA_raiseTip 130 = .ok (.iaload, 1) := by decide +kernel
theorem dBA_raiseTip_131 : decode cBA_raiseTip 131 = .ok (.aload_n 0, 1) := by decide +kernel
theorem dBA_raiseTip_132 : decode cBA_raiseTip 132 = .ok (.getfield 41, 3) := by decide +kernel
theorem dBA_raiseTip_135 : decode cBA_raiseTip 135 = .ok (.getfield 119, 3) := by decide +kernel
theorem dBA_raiseTip_138 : decode cBA_raiseTip 138 = .ok (.iload 6, 2) := by decide +kernel
theorem dBA_raiseTip_140 : decode cBA_raiseTip 140 = .ok (.iaload, 1) := by decide +kernel
theorem dBA_raiseTip_141 : decode cBA_raiseTip 141 = .ok (.iadd, 1) := by decide +kernel
theorem dBA_raiseTip_142 : decode cBA_raiseTip 142 = .ok (.invokevirtual 122, 3) := by decide +kernel
theorem dBA_raiseTip_145 : decode cBA_raiseTip 145 = .ok (.aload_n 0, 1) := by decide +kernel
theorem dBA_raiseTip_146 : decode cBA_raiseTip 146 = .ok (.getfield 61, 3) := by decide +kernel
theorem dBA_raiseTip_149 : decode cBA_raiseTip 149 = .ok (.iload 7, 2) := by decide +kernel
theorem dBA_raiseTip_151 : decode cBA_raiseTip 151 = .ok (.iload 8, 2) := by decide +kernel
theorem dBA_raiseTip_153 : decode cBA_raiseTip 153 = .ok (.iastore, 1) := by decide +kernel
theorem dBA_raiseTip_154 : decode cBA_raiseTip 154 = .ok (.aload_n 0, 1) := by decide +kernel
theorem dBA_raiseTip_155 : decode cBA_raiseTip 155 = .ok (.getfield 64, 3) := by decide +kernel
theorem dBA_raiseTip_158 : decode cBA_raiseTip 158 = .ok (.iload 7, 2) := by decide +kernel
theorem dBA_raiseTip_160 : decode cBA_raiseTip 160 = .ok (.iload_n 1, 1) := by decide +kernel
theorem dBA_raiseTip_161 : decode cBA_raiseTip 161 = .ok (.iastore, 1) := by decide +kernel
theorem dBA_raiseTip_162 : decode cBA_raiseTip 162 = .ok (.aload_n 0, 1) := by decide +kernel
theorem dBA_raiseTip_163 : decode cBA_raiseTip 163 = .ok (.getfield 67, 3) := by decide +kernel
theorem dBA_raiseTip_166 : decode cBA_raiseTip 166 = .ok (.iload 7, 2) := by decide +kernel
theorem dBA_raiseTip_168 : decode cBA_raiseTip 168 = .ok (.dup2, 1) := by decide +kernel
theorem dBA_raiseTip_169 : decode cBA_raiseTip 169 = .ok (.iaload, 1) := by decide +kernel
theorem dBA_raiseTip_170 : decode cBA_raiseTip 170 = .ok (.iconst 1, 1) := by decide +kernel
theorem dBA_raiseTip_171 : decode cBA_raiseTip 171 = .ok (.iadd, 1) := by decide +kernel
theorem dBA_raiseTip_172 : decode cBA_raiseTip 172 = .ok (.iastore, 1) := by decide +kernel
theorem dBA_raiseTip_173 : decode cBA_raiseTip 173 = .ok (.aload_n 0, 1) := by decide +kernel
theorem dBA_raiseTip_174 : decode cBA_raiseTip 174 = .ok (.getfield 52, 3) := by decide +kernel
theorem dBA_raiseTip_177 : decode cBA_raiseTip 177 = .ok (.iload_n 1, 1) := by decide +kernel
theorem dBA_raiseTip_178 : decode cBA_raiseTip 178 = .ok (.dup2, 1) := by decide +kernel
theorem dBA_raiseTip_179 : decode cBA_raiseTip 179 = .ok (.iaload, 1) := by decide +kernel
theorem dBA_raiseTip_180 : decode cBA_raiseTip 180 = .ok (.iconst 1, 1) := by decide +kernel
theorem dBA_raiseTip_181 : decode cBA_raiseTip 181 = .ok (.iadd, 1) := by decide +kernel
theorem dBA_raiseTip_182 : decode cBA_raiseTip 182 = .ok (.iastore, 1) := by decide +kernel
theorem dBA_raiseTip_183 : decode cBA_raiseTip 183 = .ok (.iinc 6 1, 3) := by decide +kernel
theorem dBA_raiseTip_186 : decode cBA_raiseTip 186 = .ok (.goto (-158), 3) := by decide +kernel
theorem dBA_raiseTip_189 : decode cBA_raiseTip 189 = .ok (.aload_n 0, 1) := by decide +kernel
theorem dBA_raiseTip_190 : decode cBA_raiseTip 190 = .ok (.getfield 15, 3) := by decide +kernel
theorem dBA_raiseTip_193 : decode cBA_raiseTip 193 = .ok (.iload_n 1, 1) := by decide +kernel
theorem dBA_raiseTip_194 : decode cBA_raiseTip 194 = .ok (.iload_n 2, 1) := by decide +kernel
theorem dBA_raiseTip_195 : decode cBA_raiseTip 195 = .ok (.invokevirtual 126, 3) := by decide +kernel
theorem dBA_raiseTip_198 : decode cBA_raiseTip 198 = .ok (.return_, 1) := by decide +kernel
theorem dBA_leave_0 : decode cBA_leave 0 = .ok (.aload_n 0, 1) := by decide +kernel
theorem dBA_leave_1 : decode cBA_leave 1 = .ok (.getfield 64, 3) := by decide +kernel
theorem dBA_leave_4 : decode cBA_leave 4 = .ok (.iload_n 1, 1) := by decide +kernel
theorem dBA_leave_5 : decode cBA_leave 5 = .ok (.iaload, 1) := by decide +kernel
theorem dBA_leave_6 : decode cBA_leave 6 = .ok (.istore 4, 2) := by decide +kernel
theorem dBA_leave_8 : decode cBA_leave 8 = .ok (.iload 4, 2) := by decide +kernel
theorem dBA_leave_10 : decode cBA_leave 10 = .ok (.iconst (-1), 1) := by decide +kernel
theorem dBA_leave_11 : decode cBA_leave 11 = .ok (.if_icmp .ne 4, 3) := by decide +kernel
theorem dBA_leave_14 : decode cBA_leave 14 = .ok (.return_, 1) := by decide +kernel
theorem dBA_leave_15 : decode cBA_leave 15 = .ok (.aload_n 0, 1) := by decide +kernel
theorem dBA_leave_16 : decode cBA_leave 16 = .ok (.getfield 67, 3) := by decide +kernel
theorem dBA_leave_19 : decode cBA_leave 19 = .ok (.iload_n 1, 1) := by decide +kernel
theorem dBA_leave_20 : decode cBA_leave 20 = .ok (.iaload, 1) := by decide +kernel
theorem dBA_leave_21 : decode cBA_leave 21 = .ok (.iconst 1, 1) := by decide +kernel
theorem dBA_leave_22 : decode cBA_leave 22 = .ok (.if_icmp .ne 17, 3) := by decide +kernel
theorem dBA_leave_25 : decode cBA_leave 25 = .ok (.aload_n 0, 1) := by decide +kernel
theorem dBA_leave_26 : decode cBA_leave 26 = .ok (.getfield 52, 3) := by decide +kernel
theorem dBA_leave_29 : decode cBA_leave 29 = .ok (.iload 4, 2) := by decide +kernel
theorem dBA_leave_31 : decode cBA_leave 31 = .ok (.dup2, 1) := by decide +kernel
theorem dBA_leave_32 : decode cBA_leave 32 = .ok (.iaload, 1) := by decide +kernel
theorem dBA_leave_33 : decode cBA_leave 33 = .ok (.iconst 1, 1) := by decide +kernel
theorem dBA_leave_34 : decode cBA_leave 34 = .ok (.isub, 1) := by decide +kernel
theorem dBA_leave_35 : decode cBA_leave 35 = .ok (.iastore, 1) := by decide +kernel
theorem dBA_leave_36 : decode cBA_leave 36 = .ok (.goto 28, 3) := by decide +kernel
theorem dBA_leave_39 : decode cBA_leave 39 = .ok (.aload_n 0, 1) := by decide +kernel
theorem dBA_leave_40 : decode cBA_leave 40 = .ok (.aload_n 0, 1) := by decide +kernel
theorem dBA_leave_41 : decode cBA_leave 41 = .ok (.getfield 15, 3) := by decide +kernel
theorem dBA_leave_44 : decode cBA_leave 44 = .ok (.getfield 86, 3) := by decide +kernel
theorem dBA_leave_47 : decode cBA_leave 47 = .ok (.iload_n 2, 1) := by decide +kernel
theorem dBA_leave_48 : decode cBA_leave 48 = .ok (.iload_n 3, 1) := by decide +kernel
theorem dBA_leave_49 : decode cBA_leave 49 = .ok (.aload_n 0, 1) := by decide +kernel
theorem dBA_leave_50 : decode cBA_leave 50 = .ok (.getfield 61, 3) := by decide +kernel
theorem dBA_leave_53 : decode cBA_leave 53 = .ok (.iload_n 1, 1) := by decide +kernel
theorem dBA_leave_54 : decode cBA_leave 54 = .ok (.iaload, 1) := by decide +kernel
theorem dBA_leave_55 : decode cBA_leave 55 = .ok (.invokevirtual 92, 3) := by decide +kernel
theorem dBA_leave_58 : decode cBA_leave 58 = .ok (.pop, 1) := by decide +kernel
theorem dBA_leave_59 : decode cBA_leave 59 = .ok (.aload_n 0, 1) := by decide +kernel
theorem dBA_leave_60 : decode cBA_leave 60 = .ok (.iconst (-1), 1) := by decide +kernel
theorem dBA_leave_61 : decode cBA_leave 61 = .ok (.invokevirtual 129, 3) := by decide +kernel
theorem dBA_leave_64 : decode cBA_leave 64 = .ok (.aload_n 0, 1) := by decide +kernel
theorem dBA_leave_65 : decode cBA_leave 65 = .ok (.getfield 67, 3) := by decide +kernel
theorem dBA_leave_68 : decode cBA_leave 68 = .ok (.iload_n 1, 1) := by decide +kernel
theorem dBA_leave_69 : decode cBA_leave 69 = .ok (.iconst 0, 1) := by decide +kernel
theorem dBA_leave_70 : decode cBA_leave 70 = .ok (.iastore, 1) := by decide +kernel
theorem dBA_leave_71 : decode cBA_leave 71 = .ok (.return_, 1) := by decide +kernel
theorem dBA_lowerTip_0 : decode cBA_lowerTip 0 = .ok (.aload_n 0, 1) := by decide +kernel
theorem dBA_lowerTip_1 : decode cBA_lowerTip 1 = .ok (.getfield 41, 3) := by decide +kernel
theorem dBA_lowerTip_4 : decode cBA_lowerTip 4 = .ok (.getfield 99, 3) := by decide +kernel
theorem dBA_lowerTip_7 : decode cBA_lowerTip 7 = .ok (.astore_n 3, 1) := by decide +kernel
theorem dBA_lowerTip_8 : decode cBA_lowerTip 8 = .ok (.aload_n 0, 1) := by decide +kernel
theorem dBA_lowerTip_9 : decode cBA_lowerTip 9 = .ok (.getfield 41, 3) := by decide +kernel
theorem dBA_lowerTip_12 : decode cBA_lowerTip 12 = .ok (.getfield 102, 3) := by decide +kernel
theorem dBA_lowerTip_15 : decode cBA_lowerTip 15 = .ok (.astore 4, 2) := by decide +kernel
theorem dBA_lowerTip_17 : decode cBA_lowerTip 17 = .ok (.aload_n 0, 1) := by decide +kernel
theorem dBA_lowerTip_18 : decode cBA_lowerTip 18 = .ok (.getfield 15, 3) := by decide +kernel
theorem dBA_lowerTip_21 : decode cBA_lowerTip 21 = .ok (.getfield 86, 3) := by decide +kernel
theorem dBA_lowerTip_24 : decode cBA_lowerTip 24 = .ok (.iload_n 1, 1) := by decide +kernel
theorem dBA_lowerTip_25 : decode cBA_lowerTip 25 = .ok (.iaload, 1) := by decide +kernel
theorem dBA_lowerTip_26 : decode cBA_lowerTip 26 = .ok (.istore 5, 2) := by decide +kernel
theorem dBA_lowerTip_28 : decode cBA_lowerTip 28 = .ok (.aload_n 0, 1) := by decide +kernel
theorem dBA_lowerTip_29 : decode cBA_lowerTip 29 = .ok (.getfield 48, 3) := by decide +kernel
theorem dBA_lowerTip_32 : decode cBA_lowerTip 32 = .ok (.iload_n 1, 1) := by decide +kernel
theorem dBA_lowerTip_33 : decode cBA_lowerTip 33 = .ok (.iaload, 1) := by decide +kernel
theorem dBA_lowerTip_34 : decode cBA_lowerTip 34 = .ok (.istore 6, 2) := by decide +kernel
theorem dBA_lowerTip_36 : decode cBA_lowerTip 36 = .ok (.aload_n 0, 1) := by decide +kernel
theorem dBA_lowerTip_37 : decode cBA_lowerTip 37 = .ok (.getfield 52, 3) := by decide +kernel
theorem dBA_lowerTip_40 : decode cBA_lowerTip 40 = .ok (.iload_n 1, 1) := by decide +kernel
theorem dBA_lowerTip_41 : decode cBA_lowerTip 41 = .ok (.iaload, 1) := by decide +kernel
theorem dBA_lowerTip_42 : decode cBA_lowerTip 42 = .ok (.istore 7, 2) := by decide +kernel
theorem dBA_lowerTip_44 : decode cBA_lowerTip 44 = .ok (.aload_n 0, 1) := by decide +kernel
theorem dBA_lowerTip_45 : decode cBA_lowerTip 45 = .ok (.getfield 15, 3) := by decide +kernel
theorem dBA_lowerTip_48 : decode cBA_lowerTip 48 = .ok (.iload_n 1, 1) := by decide +kernel
theorem dBA_lowerTip_49 : decode cBA_lowerTip 49 = .ok (.iload_n 2, 1) := by decide +kernel
theorem dBA_lowerTip_50 : decode cBA_lowerTip 50 = .ok (.invokevirtual 126, 3) := by decide +kernel
theorem dBA_lowerTip_53 : decode cBA_lowerTip 53 = .ok (.iconst 0, 1) := by decide +kernel
theorem dBA_lowerTip_54 : decode cBA_lowerTip 54 = .ok (.istore 8, 2) := by decide +kernel
theorem dBA_lowerTip_56 : decode cBA_lowerTip 56 = .ok (.iload 8, 2) := by decide +kernel
theorem dBA_lowerTip_58 : decode cBA_lowerTip 58 = .ok (.aload_n 0, 1) := by decide +kernel
theorem dBA_lowerTip_59 : decode cBA_lowerTip 59 = .ok (.getfield 41, 3) := by decide +kernel
theorem dBA_lowerTip_62 : decode cBA_lowerTip 62 = .ok (.getfield 96, 3) := by decide +kernel
theorem dBA_lowerTip_65 : decode cBA_lowerTip 65 = .ok (.if_icmp .ge 100, 3) := by decide +kernel
theorem dBA_lowerTip_68 : decode cBA_lowerTip 68 = .ok (.iload 7, 2) := by decide +kernel
theorem dBA_lowerTip_70 : decode cBA_lowerTip 70 = .ok (.ifCond .le 95, 3) := by decide +kernel
theorem dBA_lowerTip_73 : decode cBA_lowerTip 73 = .ok (.iload 6, 2) := by decide +kernel
theorem dBA_lowerTip_75 : decode cBA_lowerTip 75 = .ok (.aload_n 3, 1) := by decide +kernel
theorem dBA_lowerTip_76 : decode cBA_lowerTip 76 = .ok (.iload 8, 2) := by decide +kernel
theorem dBA_lowerTip_78 : decode cBA_lowerTip 78 = .ok (.iaload, 1) := by decide +kernel
theorem dBA_lowerTip_79 : decode cBA_lowerTip 79 = .ok (.iadd, 1) := by decide +kernel
theorem dBA_lowerTip_80 : decode cBA_lowerTip 80 = .ok (.istore 9, 2) := by decide +kernel
theorem dBA_lowerTip_82 : decode cBA_lowerTip 82 = .ok (.iload 5, 2) := by decide +kernel
theorem dBA_lowerTip_84 : decode cBA_lowerTip 84 = .ok (.aload 4, 2) := by decide +kernel
theorem dBA_lowerTip_86 : decode cBA_lowerTip 86 = .ok (.iload 8, 2) := by decide +kernel
theorem dBA_lowerTip_88 : decode cBA_lowerTip 88 = .ok (.iaload, 1) := by decide +kernel
theorem dBA_lowerTip_89 : decode cBA_lowerTip 89 = .ok (.iadd, 1) := by decide +kernel
theorem dBA_lowerTip_90 : decode cBA_lowerTip 90 = .ok (.aload_n 0, 1) := by decide +kernel
theorem dBA_lowerTip_91 : decode cBA_lowerTip 91 = .ok (.getfield 61, 3) := by decide +kernel
theorem dBA_lowerTip_94 : decode cBA_lowerTip 94 = .ok (.iload 9, 2) := by decide +kernel
theorem dBA_lowerTip_96 : decode cBA_lowerTip 96 = .ok (.iaload, 1) := by decide +kernel
theorem dBA_lowerTip_97 : decode cBA_lowerTip 97 = .ok (.if_icmp .ne 62, 3) := by decide +kernel
theorem dBA_lowerTip_100 : decode cBA_lowerTip 100 = .ok (.iinc 7 (-1), 3) := by decide +kernel
theorem dBA_lowerTip_103 : decode cBA_lowerTip 103 = .ok (.aload_n 0, 1) := by decide +kernel
theorem dBA_lowerTip_104 : decode cBA_lowerTip 104 = .ok (.getfield 52, 3) := by decide +kernel
theorem dBA_lowerTip_107 : decode cBA_lowerTip 107 = .ok (.iload_n 1, 1) := by decide +kernel
theorem dBA_lowerTip_108 : decode cBA_lowerTip 108 = .ok (.dup2, 1) := by decide +kernel
theorem dBA_lowerTip_109 : decode cBA_lowerTip 109 = .ok (.iaload, 1) := by decide +kernel
theorem dBA_lowerTip_110 : decode cBA_lowerTip 110 = .ok (.iconst 1, 1) := by decide +kernel
theorem dBA_lowerTip_111 : decode cBA_lowerTip 111 = .ok (.isub, 1) := by decide +kernel
theorem dBA_lowerTip_112 : decode cBA_lowerTip 112 = .ok (.iastore, 1) := by decide +kernel
theorem dBA_lowerTip_113 : decode cBA_lowerTip 113 = .ok (.aload_n 0, 1) := by decide +kernel
theorem dBA_lowerTip_114 : decode cBA_lowerTip 114 = .ok (.iload 9, 2) := by decide +kernel
theorem dBA_lowerTip_116 : decode cBA_lowerTip 116 = .ok (.aload_n 0, 1) := by decide +kernel
theorem dBA_lowerTip_117 : decode cBA_lowerTip 117 = .ok (.getfield 15, 3) := by decide +kernel
theorem dBA_lowerTip_120 : decode cBA_lowerTip 120 = .ok (.getfield 76, 3) := by decide +kernel
theorem dBA_lowerTip_123 : decode cBA_lowerTip 123 = .ok (.iload_n 1, 1) := by decide +kernel
theorem dBA_lowerTip_124 : decode cBA_lowerTip 124 = .ok (.iaload, 1) := by decide +kernel
theorem dBA_lowerTip_125 : decode cBA_lowerTip 125 = .ok (.aload_n 0, 1) := by decide +kernel
theorem dBA_lowerTip_126 : decode cBA_lowerTip 126 = .ok (.getfield 41, 3) := by decide +kernel
theorem dBA_lowerTip_129 : decode cBA_lowerTip 129 = .ok (.getfield 116, 3) := by decide +kernel
theorem dBA_lowerTip_132 : decode cBA_lowerTip 132 = .ok (.iload 8, 2) := by decide +kernel
theorem dBA_lowerTip_134 : decode cBA_lowerTip 134 = .ok (.iaload, 1) := by decide +kernel
theorem dBA_lowerTip_135 : decode cBA_lowerTip 135 = .ok (.iadd, 1) := by decide +kernel
theorem dBA_lowerTip_136 : decode cBA_lowerTip 136 = .ok (.aload_n 0, 1) := by decide +kernel
theorem dBA_lowerTip_137 : decode cBA_lowerTip 137 = .ok (.getfield 15, 3) := by decide +kernel
theorem dBA_lowerTip_140 : decode cBA_lowerTip 140 = .ok (.getfield 79, 3) := by decide +kernel
theorem dBA_lowerTip_143 : decode cBA_lowerTip 143 = .ok (.iload_n 1, 1) := by decide +kernel
theorem dBA_lowerTip_144 : decode cBA_lowerTip 144 = .ok (.iaload, 1) := by decide +kernel
theorem dBA_lowerTip_145 : decode cBA_lowerTip 145 = .ok (.aload_n 0, 1) := by decide +kernel
theorem dBA_lowerTip_146 : decode cBA_lowerTip 146 = .ok (.getfield 41, 3) := by decide +kernel
theorem dBA_lowerTip_149 : decode cBA_lowerTip 149 = .ok (.getfield 119, 3) := by decide +kernel
theorem dBA_lowerTip_152 : decode cBA_lowerTip 152 = .ok (.iload 8, 2) := by decide +kernel
theorem dBA_lowerTip_154 : decode cBA_lowerTip 154 = .ok (.iaload, 1) := by decide +kernel
theorem dBA_lowerTip_155 : decode cBA_lowerTip 155 = .ok (.iadd, 1) := by decide +kernel
theorem dBA_lowerTip_156 : decode cBA_lowerTip 156 = .ok (.invokevirtual 133, 3) := by decide +kernel
theorem dBA_lowerTip_159 : decode cBA_lowerTip 159 = .ok (.iinc 8 1, 3) := by decide +kernel
theorem dBA_lowerTip_162 : decode cBA_lowerTip 162 = .ok (.goto (-106), 3) := by decide +kernel
theorem dBA_lowerTip_165 : decode cBA_lowerTip 165 = .ok (.return_, 1) := by decide +kernel
theorem dBA_settle_0 : decode cBA_settle 0 = .ok (.aload_n 0, 1) := by decide +kernel
theorem dBA_settle_1 : decode cBA_settle 1 = .ok (.getfield 67, 3) := by decide +kernel
theorem dBA_settle_4 : decode cBA_settle 4 = .ok (.iload_n 1, 1) := by decide +kernel
theorem dBA_settle_5 : decode cBA_settle 5 = .ok (.iaload, 1) := by decide +kernel
theorem dBA_settle_6 : decode cBA_settle 6 = .ok (.iconst 1, 1) := by decide +kernel
theorem dBA_settle_7 : decode cBA_settle 7 = .ok (.if_icmp .le 26, 3) := by decide +kernel
theorem dBA_settle_10 : decode cBA_settle 10 = .ok (.aload_n 0, 1) := by decide +kernel
theorem dBA_settle_11 : decode cBA_settle 11 = .ok (.aload_n 0, 1) := by decide +kernel
theorem dBA_settle_12 : decode cBA_settle 12 = .ok (.getfield 15, 3) := by decide +kernel
theorem dBA_settle_15 : decode cBA_settle 15 = .ok (.getfield 86, 3) := by decide +kernel
theorem dBA_settle_18 : decode cBA_settle 18 = .ok (.iload_n 2, 1) := by decide +kernel
theorem dBA_settle_19 : decode cBA_settle 19 = .ok (.iload_n 3, 1) := by decide +kernel
theorem dBA_settle_20 : decode cBA_settle 20 = .ok (.aload_n 0, 1) := by decide +kernel
theorem dBA_settle_21 : decode cBA_settle 21 = .ok (.getfield 61, 3) := by decide +kernel
theorem dBA_settle_24 : decode cBA_settle 24 = .ok (.iload_n 1, 1) := by decide +kernel
theorem dBA_settle_25 : decode cBA_settle 25 = .ok (.iaload, 1) := by decide +kernel
theorem dBA_settle_26 : decode cBA_settle 26 = .ok (.invokevirtual 92, 3) := by decide +kernel
theorem dBA_settle_29 : decode cBA_settle 29 = .ok (.pop, 1) := by decide +kernel
theorem dBA_settle_30 : decode cBA_settle 30 = .ok (.goto 31, 3) := by decide +kernel
theorem dBA_settle_33 : decode cBA_settle 33 = .ok (.aload_n 0, 1) := by decide +kernel
theorem dBA_settle_34 : decode cBA_settle 34 = .ok (.getfield 61, 3) := by decide +kernel
theorem dBA_settle_37 : decode cBA_settle 37 = .ok (.iload_n 1, 1) := by decide +kernel
theorem dBA_settle_38 : decode cBA_settle 38 = .ok (.aload_n 0, 1) := by decide +kernel
theorem dBA_settle_39 : decode cBA_settle 39 = .ok (.aload_n 0, 1) := by decide +kernel
theorem dBA_settle_40 : decode cBA_settle 40 = .ok (.getfield 15, 3) := by decide +kernel
theorem dBA_settle_43 : decode cBA_settle 43 = .ok (.getfield 86, 3) := by decide +kernel
theorem dBA_settle_46 : decode cBA_settle 46 = .ok (.iload_n 2, 1) := by decide +kernel
theorem dBA_settle_47 : decode cBA_settle 47 = .ok (.iload_n 3, 1) := by decide +kernel
theorem dBA_settle_48 : decode cBA_settle 48 = .ok (.aload_n 0, 1) := by decide +kernel
theorem dBA_settle_49 : decode cBA_settle 49 = .ok (.getfield 25, 3) := by decide +kernel
theorem dBA_settle_52 : decode cBA_settle 52 = .ok (.invokevirtual 92, 3) := by decide +kernel
theorem dBA_settle_55 : decode cBA_settle 55 = .ok (.iastore, 1) := by decide +kernel
theorem dBA_settle_56 : decode cBA_settle 56 = .ok (.aload_n 0, 1) := by decide +kernel
theorem dBA_settle_57 : decode cBA_settle 57 = .ok (.iconst 1, 1) := by decide +kernel
theorem dBA_settle_58 : decode cBA_settle 58 = .ok (.invokevirtual 129, 3) := by decide +kernel
theorem dBA_settle_61 : decode cBA_settle 61 = .ok (.aload_n 0, 1) := by decide +kernel
theorem dBA_settle_62 : decode cBA_settle 62 = .ok (.getfield 67, 3) := by decide +kernel
theorem dBA_settle_65 : decode cBA_settle 65 = .ok (.iload_n 1, 1) := by decide +kernel
theorem dBA_settle_66 : decode cBA_settle 66 = .ok (.aload_n 0, 1) := by decide +kernel
theorem dBA_settle_67 : decode cBA_settle 67 = .ok (.getfield 9, 3) := by decide +kernel
theorem dBA_settle_70 : decode cBA_settle 70 = .ok (.iastore, 1) := by decide +kernel
theorem dBA_settle_71 : decode cBA_settle 71 = .ok (.aload_n 0, 1) := by decide +kernel
theorem dBA_settle_72 : decode cBA_settle 72 = .ok (.getfield 64, 3) := by decide +kernel
theorem dBA_settle_75 : decode cBA_settle 75 = .ok (.iload_n 1, 1) := by decide +kernel
theorem dBA_settle_76 : decode cBA_settle 76 = .ok (.aload_n 0, 1) := by decide +kernel
theorem dBA_settle_77 : decode cBA_settle 77 = .ok (.getfield 9, 3) := by decide +kernel
theorem dBA_settle_80 : decode cBA_settle 80 = .ok (.ifCond .le 12, 3) := by decide +kernel
theorem dBA_settle_83 : decode cBA_settle 83 = .ok (.aload_n 0, 1) := by decide +kernel
theorem dBA_settle_84 : decode cBA_settle 84 = .ok (.getfield 55, 3) := by decide +kernel
theorem dBA_settle_87 : decode cBA_settle 87 = .ok (.iconst 0, 1) := by decide +kernel
theorem dBA_settle_88 : decode cBA_settle 88 = .ok (.iaload, 1) := by decide +kernel
theorem dBA_settle_89 : decode cBA_settle 89 = .ok (.goto 4, 3) := by decide +kernel
theorem dBA_settle_92 : decode cBA_settle 92 = .ok (.iconst (-1), 1) := by decide +kernel
theorem dBA_settle_93 : decode cBA_settle 93 = .ok (.iastore, 1) := by decide +kernel
theorem dBA_settle_94 : decode cBA_settle 94 = .ok (.return_, 1) := by decide +kernel
theorem dBA_countListed_0 : decode cBA_countListed 0 = .ok (.iconst 0, 1) := by decide +kernel
theorem dBA_countListed_1 : decode cBA_countListed 1 = .ok (.istore_n 2, 1) := by decide +kernel
theorem dBA_countListed_2 : decode cBA_countListed 2 = .ok (.iload_n 2, 1) := by decide +kernel
theorem dBA_countListed_3 : decode cBA_countListed 3 = .ok (.aload_n 0, 1) := by decide +kernel
theorem dBA_countListed_4 : decode cBA_countListed 4 = .ok (.getfield 9, 3) := by decide +kernel
theorem dBA_countListed_7 : decode cBA_countListed 7 = .ok (.if_icmp .ge 24, 3) := by decide +kernel
theorem dBA_countListed_10 : decode cBA_countListed 10 = .ok (.aload_n 0, 1) := by decide +kernel
theorem dBA_countListed_11 : decode cBA_countListed 11 = .ok (.getfield 52, 3) := by decide +kernel
theorem dBA_countListed_14 : decode cBA_countListed 14 = .ok (.aload_n 0, 1) := by decide +kernel
theorem dBA_countListed_15 : decode cBA_countListed 15 = .ok (.getfield 55, 3) := by decide +kernel
theorem dBA_countListed_18 : decode cBA_countListed 18 = .ok (.iload_n 2, 1) := by decide +kernel
theorem dBA_countListed_19 : decode cBA_countListed 19 = .ok (.iaload, 1) := by decide +kernel
theorem dBA_countListed_20 : decode cBA_countListed 20 = .ok (.dup2, 1) := by decide +kernel
theorem dBA_countListed_21 : decode cBA_countListed 21 = .ok (.iaload, 1) := by decide +kernel
theorem dBA_countListed_22 : decode cBA_countListed 22 = .ok (.iload_n 1, 1) := by decide +kernel
theorem dBA_countListed_23 : decode cBA_countListed 23 = .ok (.iadd, 1) := by decide +kernel
theorem dBA_countListed_24 : decode cBA_countListed 24 = .ok (.iastore, 1) := by decide +kernel
theorem dBA_countListed_25 : decode cBA_countListed 25 = .ok (.iinc 2 1, 3) := by decide +kernel
theorem dBA_countListed_28 : decode cBA_countListed 28 = .ok (.goto (-26), 3) := by decide +kernel
theorem dBA_countListed_31 : decode cBA_countListed 31 = .ok (.return_, 1) := by decide +kernel
theorem dBA_liftOver_0 : decode cBA_liftOver 0 = .ok (.aload_n 0, 1) := by decide +kernel
theorem dBA_liftOver_1 : decode cBA_liftOver 1 = .ok (.getfield 15, 3) := by decide +kernel
theorem dBA_liftOver_4 : decode cBA_liftOver 4 = .ok (.getfield 76, 3) := by decide +kernel
theorem dBA_liftOver_7 : decode cBA_liftOver 7 = .ok (.iload_n 1, 1) := by decide +kernel
theorem dBA_liftOver_8 : decode cBA_liftOver 8 = .ok (.iaload, 1) := by decide +kernel
theorem dBA_liftOver_9 : decode cBA_liftOver 9 = .ok (.iload_n 2, 1) := by decide +kernel
theorem dBA_liftOver_10 : decode cBA_liftOver 10 = .ok (.isub, 1) := by decide +kernel
theorem dBA_liftOver_11 : decode cBA_liftOver 11 = .ok (.aload_n 0, 1) := by decide +kernel
theorem dBA_liftOver_12 : decode cBA_liftOver 12 = .ok (.getfield 19, 3) := by decide +kernel
theorem dBA_liftOver_15 : decode cBA_liftOver 15 = .ok (.iadd, 1) := by decide +kernel
theorem dBA_liftOver_16 : decode cBA_liftOver 16 = .ok (.istore 4, 2) := by decide +kernel
theorem dBA_liftOver_18 : decode cBA_liftOver 18 = .ok (.aload_n 0, 1) := by decide +kernel
theorem dBA_liftOver_19 : decode cBA_liftOver 19 = .ok (.getfield 15, 3) := by decide +kernel
theorem dBA_liftOver_22 : decode cBA_liftOver 22 = .ok (.getfield 79, 3) := by decide +kernel
theorem dBA_liftOver_25 : decode cBA_liftOver 25 = .ok (.iload_n 1, 1) := by decide +kernel
theorem dBA_liftOver_26 : decode cBA_liftOver 26 = .ok (.iaload, 1) := by decide +kernel
theorem dBA_liftOver_27 : decode cBA_liftOver 27 = .ok (.iload_n 3, 1) := by decide +kernel
theorem dBA_liftOver_28 : decode cBA_liftOver 28 = .ok (.isub, 1) := by decide +kernel
theorem dBA_liftOver_29 : decode cBA_liftOver 29 = .ok (.aload_n 0, 1) := by decide +kernel
theorem dBA_liftOver_30 : decode cBA_liftOver 30 = .ok (.getfield 19, 3) := by decide +kernel
theorem dBA_liftOver_33 : decode cBA_liftOver 33 = .ok (.iadd, 1) := by decide +kernel
theorem dBA_liftOver_34 : decode cBA_liftOver 34 = .ok (.istore 5, 2) := by decide +kernel
theorem dBA_liftOver_36 : decode cBA_liftOver 36 = .ok (.iload 4, 2) := by decide +kernel
theorem dBA_liftOver_38 : decode cBA_liftOver 38 = .ok (.ifCond .lt 36, 3) := by decide +kernel
theorem dBA_liftOver_41 : decode cBA_liftOver 41 = .ok (.iload 4, 2) := by decide +kernel
theorem dBA_liftOver_43 : decode cBA_liftOver 43 = .ok (.aload_n 0, 1) := by decide +kernel
theorem dBA_liftOver_44 : decode cBA_liftOver 44 = .ok (.getfield 41, 3) := by decide +kernel
theorem dBA_liftOver_47 : decode cBA_liftOver 47 = .ok (.getfield 136, 3) := by decide +kernel
theorem dBA_liftOver_50 : decode cBA_liftOver 50 = .ok (.if_icmp .ge 24, 3) := by decide +kernel
theorem dBA_liftOver_53 : decode cBA_liftOver 53 = .ok (.iload 5, 2) := by decide +kernel
theorem dBA_liftOver_55 : decode cBA_liftOver 55 = .ok (.ifCond .lt 19, 3) := by decide +kernel
theorem dBA_liftOver_58 : decode cBA_liftOver 58 = .ok (.iload 5, 2) := by decide +kernel
theorem dBA_liftOver_60 : decode cBA_liftOver 60 = .ok (.aload_n 0, 1) := by decide +kernel
theorem dBA_liftOver_61 : decode cBA_liftOver 61 = .ok (.getfield 41, 3) := by decide +kernel
theorem dBA_liftOver_64 : decode cBA_liftOver 64 = .ok (.getfield 136, 3) := by decide +kernel
theorem dBA_liftOver_67 : decode cBA_liftOver 67 = .ok (.if_icmp .ge 7, 3) := by decide +kernel
theorem dBA_liftOver_70 : decode cBA_liftOver 70 = .ok (.iconst 1, 1) := by decide +kernel
theorem dBA_liftOver_71 : decode cBA_liftOver 71 = .ok (.goto 4, 3) := by decide +kernel
theorem dBA_liftOver_74 : decode cBA_liftOver 74 = .ok (.iconst 0, 1) := by decide +kernel
theorem dBA_liftOver_75 : decode cBA_liftOver 75 = .ok (.istore 6, 2) := by decide +kernel
theorem dBA_liftOver_77 : decode cBA_liftOver 77 = .ok (.iload 6, 2) := by decide +kernel
theorem dBA_liftOver_79 : decode cBA_liftOver 79 = .ok (.ifCond .eq 27, 3) := by decide +kernel
theorem dBA_liftOver_82 : decode cBA_liftOver 82 = .ok (.aload_n 0, 1) := by decide +kernel
theorem dBA_liftOver_83 : decode cBA_liftOver 83 = .ok (.getfield 41, 3) := by decide +kernel
theorem dBA_liftOver_86 : decode cBA_liftOver 86 = .ok (.getfield 139, 3) := by decide +kernel
theorem dBA_liftOver_89 : decode cBA_liftOver 89 = .ok (.iload 5, 2) := by decide +kernel
theorem dBA_liftOver_91 : decode cBA_liftOver 91 = .ok (.aload_n 0, 1) := by decide +kernel
theorem dBA_liftOver_92 : decode cBA_liftOver 92 = .ok (.getfield 41, 3) := by decide +kernel
theorem dBA_liftOver_95 : decode cBA_liftOver 95 = .ok (.getfield 136, 3) := by decide +kernel
theorem dBA_liftOver_98 : decode cBA_liftOver 98 = .ok (.imul, 1) := by decide +kernel
theorem dBA_liftOver_99 : decode cBA_liftOver 99 = .ok (.iload 4, 2) := by decide +kernel
theorem dBA_liftOver_101 : decode cBA_liftOver 101 = .ok (.iadd, 1) := by decide +kernel
theorem dBA_liftOver_102 : decode cBA_liftOver 102 = .ok (.iaload, 1) := by decide +kernel
theorem dBA_liftOver_103 : decode cBA_liftOver 103 = .ok (.goto 5, 3) := by decide +kernel
theorem dBA_liftOver_106 : decode cBA_liftOver 106 = .ok (.ldc 142, 2) := by decide +kernel
theorem dBA_liftOver_108 : decode cBA_liftOver 108 = .ok (.ireturn, 1) := by decide +kernel
theorem dBA_climb_0 : decode cBA_climb 0 = .ok (.aload_n 0, 1) := by decide +kernel
theorem dBA_climb_1 : decode cBA_climb 1 = .ok (.getfield 41, 3) := by decide +kernel
theorem dBA_climb_4 : decode cBA_climb 4 = .ok (.getfield 139, 3) := by decide +kernel
theorem dBA_climb_7 : decode cBA_climb 7 = .ok (.astore 5, 2) := by decide +kernel
theorem dBA_climb_9 : decode cBA_climb 9 = .ok (.aload_n 0, 1) := by decide +kernel
theorem dBA_climb_10 : decode cBA_climb 10 = .ok (.getfield 15, 3) := by decide +kernel
theorem dBA_climb_13 : decode cBA_climb 13 = .ok (.getfield 143, 3) := by decide +kernel
theorem dBA_climb_16 : decode cBA_climb 16 = .ok (.astore 6, 2) := by decide +kernel
theorem dBA_climb_18 : decode cBA_climb 18 = .ok (.aload_n 0, 1) := by decide +kernel
theorem dBA_climb_19 : decode cBA_climb 19 = .ok (.getfield 15, 3) := by decide +kernel
theorem dBA_climb_22 : decode cBA_climb 22 = .ok (.getfield 28, 3) := by decide +kernel
theorem dBA_climb_25 : decode cBA_climb 25 = .ok (.istore 7, 2) := by decide +kernel
theorem dBA_climb_27 : decode cBA_climb 27 = .ok (.aload_n 0, 1) := by decide +kernel
theorem dBA_climb_28 : decode cBA_climb 28 = .ok (.getfield 41, 3) := by decide +kernel
theorem dBA_climb_31 : decode cBA_climb 31 = .ok (.getfield 136, 3) := by decide +kernel
theorem dBA_climb_34 : decode cBA_climb 34 = .ok (.istore 8, 2) := by decide +kernel
theorem dBA_climb_36 : decode cBA_climb 36 = .ok (.iload_n 2, 1) := by decide +kernel
theorem dBA_climb_37 : decode cBA_climb 37 = .ok (.aload_n 0, 1) := by decide +kernel
theorem dBA_climb_38 : decode cBA_climb 38 = .ok (.getfield 19, 3) := by decide +kernel
theorem dBA_climb_41 : decode cBA_climb 41 = .ok (.iadd, 1) := by decide +kernel
theorem dBA_climb_42 : decode cBA_climb 42 = .ok (.iload 7, 2) := by decide +kernel
theorem dBA_climb_44 : decode cBA_climb 44 = .ok (.if_icmp .ge 12, 3) := by decide +kernel
theorem dBA_climb_47 : decode cBA_climb 47 = .ok (.iload_n 2, 1) := by decide +kernel
theorem dBA_climb_48 : decode cBA_climb 48 = .ok (.aload_n 0, 1) := by decide +kernel
theorem dBA_climb_49 : decode cBA_climb 49 = .ok (.getfield 19, 3) := by decide +kernel
theorem dBA_climb_52 : decode cBA_climb 52 = .ok (.iadd, 1) := by decide +kernel
theorem dBA_climb_53 : decode cBA_climb 53 = .ok (.goto 7, 3) := by decide +kernel
