theorem dMO_rod_12 : decode cMO_rod 12 = .ok (.bipush 50, 2) := by decide +kernel
theorem dMO_rod_14 : decode cMO_rod 14 = .ok (.invokestatic 58, 3) := by decide +kernel
theorem dMO_rod_17 : decode cMO_rod 17 = .ok (.ifCond .eq 7, 3) := by decide +kernel
theorem dMO_rod_20 : decode cMO_rod 20 = .ok (.iconst 0, 1) := by decide +kernel
theorem dMO_rod_21 : decode cMO_rod 21 = .ok (.goto 4, 3) := by decide +kernel
theorem dMO_rod_24 : decode cMO_rod 24 = .ok (.iconst 1, 1) := by decide +kernel
theorem dMO_rod_25 : decode cMO_rod 25 = .ok (.putfield 55, 3) := by decide +kernel
theorem dMO_rod_28 : decode cMO_rod 28 = .ok (.aload_n 0, 1) := by decide +kernel
theorem dMO_rod_29 : decode cMO_rod 29 = .ok (.getfield 55, 3) := by decide +kernel
theorem dMO_rod_32 : decode cMO_rod 32 = .ok (.ifCond .le 5, 3) := by decide +kernel
theorem dMO_rod_35 : decode cMO_rod 35 = .ok (.iconst 0, 1) := by decide +kernel
theorem dMO_rod_36 : decode cMO_rod 36 = .ok (.ireturn, 1) := by decide +kernel
theorem dMO_rod_37 : decode cMO_rod 37 = .ok (.aload_n 0, 1) := by decide +kernel
theorem dMO_rod_38 : decode cMO_rod 38 = .ok (.getfield 13, 3) := by decide +kernel
theorem dMO_rod_41 : decode cMO_rod 41 = .ok (.iload_n 1, 1) := by decide +kernel
theorem dMO_rod_42 : decode cMO_rod 42 = .ok (.iload_n 2, 1) := by decide +kernel
theorem dMO_rod_43 : decode cMO_rod 43 = .ok (.invokestatic 91, 3) := by decide +kernel
theorem dMO_rod_46 : decode cMO_rod 46 = .ok (.iaload, 1) := by decide +kernel
theorem dMO_rod_47 : decode cMO_rod 47 = .ok (.istore 4, 2) := by decide +kernel
theorem dMO_rod_49 : decode cMO_rod 49 = .ok (.aload_n 0, 1) := by decide +kernel
theorem dMO_rod_50 : decode cMO_rod 50 = .ok (.getfield 13, 3) := by decide +kernel
theorem dMO_rod_53 : decode cMO_rod 53 = .ok (.iload_n 1, 1) := by decide +kernel
theorem dMO_rod_54 : decode cMO_rod 54 = .ok (.iload_n 2, 1) := by decide +kernel
theorem dMO_rod_55 : decode cMO_rod 55 = .ok (.invokestatic 91, 3) := by decide +kernel
theorem dMO_rod_58 : decode cMO_rod 58 = .ok (.iload_n 3, 1) := by decide +kernel
theorem dMO_rod_59 : decode cMO_rod 59 = .ok (.iastore, 1) := by decide +kernel
theorem dMO_rod_60 : decode cMO_rod 60 = .ok (.iload 4, 2) := by decide +kernel
theorem dMO_rod_62 : decode cMO_rod 62 = .ok (.ireturn, 1) := by decide +kernel
theorem dMO_rest_0 : decode cMO_rest 0 = .ok (.aload_n 0, 1) := by decide +kernel
theorem dMO_rest_1 : decode cMO_rest 1 = .ok (.aload_n 0, 1) := by decide +kernel
theorem dMO_rest_2 : decode cMO_rest 2 = .ok (.iload_n 1, 1) := by decide +kernel
theorem dMO_rest_3 : decode cMO_rest 3 = .ok (.iload_n 2, 1) := by decide +kernel
theorem dMO_rest_4 : decode cMO_rest 4 = .ok (.invokevirtual 94, 3) := by decide +kernel
theorem dMO_rest_7 : decode cMO_rest 7 = .ok (.ifCond .eq 16, 3) := by decide +kernel
theorem dMO_rest_10 : decode cMO_rest 10 = .ok (.iload_n 3, 1) := by decide +kernel
theorem dMO_rest_11 : decode cMO_rest 11 = .ok (.iconst 0, 1) := by decide +kernel
theorem dMO_rest_12 : decode cMO_rest 12 = .ok (.iconst 3, 1) := by decide +kernel
theorem dMO_rest_13 : decode cMO_rest 13 = .ok (.invokestatic 58, 3) := by decide +kernel
theorem dMO_rest_16 : decode cMO_rest 16 = .ok (.ifCond .eq 7, 3) := by decide +kernel
theorem dMO_rest_19 : decode cMO_rest 19 = .ok (.iconst 0, 1) := by decide +kernel
theorem dMO_rest_20 : decode cMO_rest 20 = .ok (.goto 4, 3) := by decide +kernel
theorem dMO_rest_23 : decode cMO_rest 23 = .ok (.iconst 1, 1) := by decide +kernel
theorem dMO_rest_24 : decode cMO_rest 24 = .ok (.putfield 55, 3) := by decide +kernel
theorem dMO_rest_27 : decode cMO_rest 27 = .ok (.aload_n 0, 1) := by decide +kernel
theorem dMO_rest_28 : decode cMO_rest 28 = .ok (.getfield 55, 3) := by decide +kernel
theorem dMO_rest_31 : decode cMO_rest 31 = .ok (.ifCond .le 5, 3) := by decide +kernel
theorem dMO_rest_34 : decode cMO_rest 34 = .ok (.iconst 0, 1) := by decide +kernel
theorem dMO_rest_35 : decode cMO_rest 35 = .ok (.ireturn, 1) := by decide +kernel
theorem dMO_rest_36 : decode cMO_rest 36 = .ok (.aload_n 0, 1) := by decide +kernel
theorem dMO_rest_37 : decode cMO_rest 37 = .ok (.invokevirtual 97, 3) := by decide +kernel
theorem dMO_rest_40 : decode cMO_rest 40 = .ok (.aload_n 0, 1) := by decide +kernel
theorem dMO_rest_41 : decode cMO_rest 41 = .ok (.iload_n 1, 1) := by decide +kernel
theorem dMO_rest_42 : decode cMO_rest 42 = .ok (.iload_n 2, 1) := by decide +kernel
theorem dMO_rest_43 : decode cMO_rest 43 = .ok (.invokevirtual 84, 3) := by decide +kernel
theorem dMO_rest_46 : decode cMO_rest 46 = .ok (.aload_n 0, 1) := by decide +kernel
theorem dMO_rest_47 : decode cMO_rest 47 = .ok (.iload_n 1, 1) := by decide +kernel
theorem dMO_rest_48 : decode cMO_rest 48 = .ok (.iload_n 2, 1) := by decide +kernel
theorem dMO_rest_49 : decode cMO_rest 49 = .ok (.invokevirtual 78, 3) := by decide +kernel
theorem dMO_rest_52 : decode cMO_rest 52 = .ok (.istore 4, 2) := by decide +kernel
theorem dMO_rest_54 : decode cMO_rest 54 = .ok (.aload_n 0, 1) := by decide +kernel
theorem dMO_rest_55 : decode cMO_rest 55 = .ok (.getfield 32, 3) := by decide +kernel
theorem dMO_rest_58 : decode cMO_rest 58 = .ok (.iload 4, 2) := by decide +kernel
theorem dMO_rest_60 : decode cMO_rest 60 = .ok (.iaload, 1) := by decide +kernel
theorem dMO_rest_61 : decode cMO_rest 61 = .ok (.invokestatic 100, 3) := by decide +kernel
theorem dMO_rest_64 : decode cMO_rest 64 = .ok (.istore 5, 2) := by decide +kernel
theorem dMO_rest_66 : decode cMO_rest 66 = .ok (.iconst 0, 1) := by decide +kernel
theorem dMO_rest_67 : decode cMO_rest 67 = .ok (.istore 6, 2) := by decide +kernel
theorem dMO_rest_69 : decode cMO_rest 69 = .ok (.iconst 0, 1) := by decide +kernel
theorem dMO_rest_70 : decode cMO_rest 70 = .ok (.istore 7, 2) := by decide +kernel
theorem dMO_rest_72 : decode cMO_rest 72 = .ok (.iload 7, 2) := by decide +kernel
theorem dMO_rest_74 : decode cMO_rest 74 = .ok (.sipush 144, 3) := by decide +kernel
theorem dMO_rest_77 : decode cMO_rest 77 = .ok (.if_icmp .ge 30, 3) := by decide +kernel
theorem dMO_rest_80 : decode cMO_rest 80 = .ok (.iload 6, 2) := by decide +kernel
theorem dMO_rest_82 : decode cMO_rest 82 = .ok (.aload_n 0, 1) := by decide +kernel
theorem dMO_rest_83 : decode cMO_rest 83 = .ok (.iload_n 1, 1) := by decide +kernel
theorem dMO_rest_84 : decode cMO_rest 84 = .ok (.iload_n 2, 1) := by decide +kernel
theorem dMO_rest_85 : decode cMO_rest 85 = .ok (.iload 7, 2) := by decide +kernel
theorem dMO_rest_87 : decode cMO_rest 87 = .ok (.invokevirtual 88, 3) := by decide +kernel
theorem dMO_rest_90 : decode cMO_rest 90 = .ok (.ifCond .eq 7, 3) := by decide +kernel
theorem dMO_rest_93 : decode cMO_rest 93 = .ok (.iconst 1, 1) := by decide +kernel
theorem dMO_rest_94 : decode cMO_rest 94 = .ok (.goto 4, 3) := by decide +kernel
theorem dMO_rest_97 : decode cMO_rest 97 = .ok (.iconst 0, 1) := by decide +kernel
theorem dMO_rest_98 : decode cMO_rest 98 = .ok (.iadd, 1) := by decide +kernel
theorem dMO_rest_99 : decode cMO_rest 99 = .ok (.istore 6, 2) := by decide +kernel
theorem dMO_rest_101 : decode cMO_rest 101 = .ok (.iinc 7 1, 3) := by decide +kernel
theorem dMO_rest_104 : decode cMO_rest 104 = .ok (.goto (-32), 3) := by decide +kernel
theorem dMO_rest_107 : decode cMO_rest 107 = .ok (.iload_n 3, 1) := by decide +kernel
theorem dMO_rest_108 : decode cMO_rest 108 = .ok (.tableswitch 63 0 2 #[28, 39, 60], 28) := by decide +kernel
theorem dMO_rest_136 : decode cMO_rest 136 = .ok (.aload_n 0, 1) := by decide +kernel
theorem dMO_rest_137 : decode cMO_rest 137 = .ok (.getfield 29, 3) := by decide +kernel
theorem dMO_rest_140 : decode cMO_rest 140 = .ok (.iload 4, 2) := by decide +kernel
theorem dMO_rest_142 : decode cMO_rest 142 = .ok (.iaload, 1) := by decide +kernel
theorem dMO_rest_143 : decode cMO_rest 143 = .ok (.iload 5, 2) := by decide +kernel
theorem dMO_rest_145 : decode cMO_rest 145 = .ok (.iadd, 1) := by decide +kernel
theorem dMO_rest_146 : decode cMO_rest 146 = .ok (.ireturn, 1) := by decide +kernel
theorem dMO_rest_147 : decode cMO_rest 147 = .ok (.iload 5, 2) := by decide +kernel
theorem dMO_rest_149 : decode cMO_rest 149 = .ok (.iload 5, 2) := by decide +kernel
theorem dMO_rest_151 : decode cMO_rest 151 = .ok (.imul, 1) := by decide +kernel
theorem dMO_rest_152 : decode cMO_rest 152 = .ok (.aload_n 0, 1) := by decide +kernel
theorem dMO_rest_153 : decode cMO_rest 153 = .ok (.getfield 32, 3) := by decide +kernel
theorem dMO_rest_156 : decode cMO_rest 156 = .ok (.iload 4, 2) := by decide +kernel
theorem dMO_rest_158 : decode cMO_rest 158 = .ok (.iaload, 1) := by decide +kernel
theorem dMO_rest_159 : decode cMO_rest 159 = .ok (.if_icmp .ne 7, 3) := by decide +kernel
theorem dMO_rest_162 : decode cMO_rest 162 = .ok (.iconst 1, 1) := by decide +kernel
theorem dMO_rest_163 : decode cMO_rest 163 = .ok (.goto 4, 3) := by decide +kernel
theorem dMO_rest_166 : decode cMO_rest 166 = .ok (.iconst 0, 1) := by decide +kernel
theorem dMO_rest_167 : decode cMO_rest 167 = .ok (.ireturn, 1) := by decide +kernel
theorem dMO_rest_168 : decode cMO_rest 168 = .ok (.iload 6, 2) := by decide +kernel
theorem dMO_rest_170 : decode cMO_rest 170 = .ok (.ireturn, 1) := by decide +kernel
theorem dMO_rest_171 : decode cMO_rest 171 = .ok (.aload_n 0, 1) := by decide +kernel
theorem dMO_rest_172 : decode cMO_rest 172 = .ok (.getfield 29, 3) := by decide +kernel
theorem dMO_rest_175 : decode cMO_rest 175 = .ok (.iload 4, 2) := by decide +kernel
theorem dMO_rest_177 : decode cMO_rest 177 = .ok (.iaload, 1) := by decide +kernel
theorem dMO_rest_178 : decode cMO_rest 178 = .ok (.aload_n 0, 1) := by decide +kernel
theorem dMO_rest_179 : decode cMO_rest 179 = .ok (.getfield 32, 3) := by decide +kernel
theorem dMO_rest_182 : decode cMO_rest 182 = .ok (.iload 4, 2) := by decide +kernel
theorem dMO_rest_184 : decode cMO_rest 184 = .ok (.iaload, 1) := by decide +kernel
theorem dMO_rest_185 : decode cMO_rest 185 = .ok (.iconst 0, 1) := by decide +kernel
theorem dMO_rest_186 : decode cMO_rest 186 = .ok (.aload_n 0, 1) := by decide +kernel
theorem dMO_rest_187 : decode cMO_rest 187 = .ok (.getfield 52, 3) := by decide +kernel
theorem dMO_rest_190 : decode cMO_rest 190 = .ok (.aload_n 0, 1) := by decide +kernel
theorem dMO_rest_191 : decode cMO_rest 191 = .ok (.getfield 52, 3) := by decide +kernel
theorem dMO_rest_194 : decode cMO_rest 194 = .ok (.imul, 1) := by decide +kernel
theorem dMO_rest_195 : decode cMO_rest 195 = .ok (.invokestatic 66, 3) := by decide +kernel
theorem dMO_rest_198 : decode cMO_rest 198 = .ok (.ifCond .ne 7, 3) := by decide +kernel
theorem dMO_rest_201 : decode cMO_rest 201 = .ok (.iconst 1, 1) := by decide +kernel
theorem dMO_rest_202 : decode cMO_rest 202 = .ok (.goto 4, 3) := by decide +kernel
theorem dMO_rest_205 : decode cMO_rest 205 = .ok (.iconst 0, 1) := by decide +kernel
theorem dMO_rest_206 : decode cMO_rest 206 = .ok (.ireturn, 1) := by decide +kernel
theorem dMO_touched_0 : decode cMO_touched 0 = .ok (.aload_n 0, 1) := by decide +kernel
theorem dMO_touched_1 : decode cMO_touched 1 = .ok (.aload_n 0, 1) := by decide +kernel
theorem dMO_touched_2 : decode cMO_touched 2 = .ok (.iload_n 1, 1) := by decide +kernel
theorem dMO_touched_3 : decode cMO_touched 3 = .ok (.iload_n 2, 1) := by decide +kernel
theorem dMO_touched_4 : decode cMO_touched 4 = .ok (.invokevirtual 94, 3) := by decide +kernel
theorem dMO_touched_7 : decode cMO_touched 7 = .ok (.ifCond .eq 11, 3) := by decide +kernel
theorem dMO_touched_10 : decode cMO_touched 10 = .ok (.iload_n 3, 1) := by decide +kernel
theorem dMO_touched_11 : decode cMO_touched 11 = .ok (.ifCond .lt 7, 3) := by decide +kernel
theorem dMO_touched_14 : decode cMO_touched 14 = .ok (.iconst 0, 1) := by decide +kernel
theorem dMO_touched_15 : decode cMO_touched 15 = .ok (.goto 4, 3) := by decide +kernel
theorem dMO_touched_18 : decode cMO_touched 18 = .ok (.iconst 1, 1) := by decide +kernel
theorem dMO_touched_19 : decode cMO_touched 19 = .ok (.putfield 55, 3) := by decide +kernel
theorem dMO_touched_22 : decode cMO_touched 22 = .ok (.aload_n 0, 1) := by decide +kernel
theorem dMO_touched_23 : decode cMO_touched 23 = .ok (.getfield 55, 3) := by decide +kernel
theorem dMO_touched_26 : decode cMO_touched 26 = .ok (.ifCond .le 5, 3) := by decide +kernel
theorem dMO_touched_29 : decode cMO_touched 29 = .ok (.iconst 0, 1) := by decide +kernel
theorem dMO_touched_30 : decode cMO_touched 30 = .ok (.ireturn, 1) := by decide +kernel
theorem dMO_touched_31 : decode cMO_touched 31 = .ok (.aload_n 0, 1) := by decide +kernel
theorem dMO_touched_32 : decode cMO_touched 32 = .ok (.invokevirtual 97, 3) := by decide +kernel
theorem dMO_touched_35 : decode cMO_touched 35 = .ok (.aload_n 0, 1) := by decide +kernel
theorem dMO_touched_36 : decode cMO_touched 36 = .ok (.iload_n 1, 1) := by decide +kernel
theorem dMO_touched_37 : decode cMO_touched 37 = .ok (.iload_n 2, 1) := by decide +kernel
theorem dMO_touched_38 : decode cMO_touched 38 = .ok (.invokevirtual 84, 3) := by decide +kernel
theorem dMO_touched_41 : decode cMO_touched 41 = .ok (.iconst 0, 1) := by decide +kernel
theorem dMO_touched_42 : decode cMO_touched 42 = .ok (.istore 4, 2) := by decide +kernel
theorem dMO_touched_44 : decode cMO_touched 44 = .ok (.iconst 0, 1) := by decide +kernel
theorem dMO_touched_45 : decode cMO_touched 45 = .ok (.istore 5, 2) := by decide +kernel
theorem dMO_touched_47 : decode cMO_touched 47 = .ok (.iload 5, 2) := by decide +kernel
theorem dMO_touched_49 : decode cMO_touched 49 = .ok (.sipush 144, 3) := by decide +kernel
theorem dMO_touched_52 : decode cMO_touched 52 = .ok (.if_icmp .ge 44, 3) := by decide +kernel
theorem dMO_touched_55 : decode cMO_touched 55 = .ok (.aload_n 0, 1) := by decide +kernel
theorem dMO_touched_56 : decode cMO_touched 56 = .ok (.iload_n 1, 1) := by decide +kernel
theorem dMO_touched_57 : decode cMO_touched 57 = .ok (.iload_n 2, 1) := by decide +kernel
theorem dMO_touched_58 : decode cMO_touched 58 = .ok (.iload 5, 2) := by decide +kernel
theorem dMO_touched_60 : decode cMO_touched 60 = .ok (.invokevirtual 88, 3) := by decide +kernel
theorem dMO_touched_63 : decode cMO_touched 63 = .ok (.ifCond .eq 27, 3) := by decide +kernel
theorem dMO_touched_66 : decode cMO_touched 66 = .ok (.iload 4, 2) := by decide +kernel
theorem dMO_touched_68 : decode cMO_touched 68 = .ok (.iload_n 3, 1) := by decide +kernel
theorem dMO_touched_69 : decode cMO_touched 69 = .ok (.if_icmp .ne 18, 3) := by decide +kernel
theorem dMO_touched_72 : decode cMO_touched 72 = .ok (.bipush 100, 2) := by decide +kernel
theorem dMO_touched_74 : decode cMO_touched 74 = .ok (.iload 5, 2) := by decide +kernel
theorem dMO_touched_76 : decode cMO_touched 76 = .ok (.bipush 12, 2) := by decide +kernel
theorem dMO_touched_78 : decode cMO_touched 78 = .ok (.idiv, 1) := by decide +kernel
theorem dMO_touched_79 : decode cMO_touched 79 = .ok (.imul, 1) := by decide +kernel
theorem dMO_touched_80 : decode cMO_touched 80 = .ok (.iload 5, 2) := by decide +kernel
theorem dMO_touched_82 : decode cMO_touched 82 = .ok (.bipush 12, 2) := by decide +kernel
theorem dMO_touched_84 : decode cMO_touched 84 = .ok (.irem, 1) := by decide +kernel
theorem dMO_touched_85 : decode cMO_touched 85 = .ok (.iadd, 1) := by decide +kernel
theorem dMO_touched_86 : decode cMO_touched 86 = .ok (.ireturn, 1) := by decide +kernel
theorem dMO_touched_87 : decode cMO_touched 87 = .ok (.iinc 4 1, 3) := by decide +kernel
theorem dMO_touched_90 : decode cMO_touched 90 = .ok (.iinc 5 1, 3) := by decide +kernel
theorem dMO_touched_93 : decode cMO_touched 93 = .ok (.goto (-46), 3) := by decide +kernel
theorem dMO_touched_96 : decode cMO_touched 96 = .ok (.iconst (-1), 1) := by decide +kernel
theorem dMO_touched_97 : decode cMO_touched 97 = .ok (.ireturn, 1) := by decide +kernel
theorem dMO_higher_0 : decode cMO_higher 0 = .ok (.aload_n 0, 1) := by decide +kernel
theorem dMO_higher_1 : decode cMO_higher 1 = .ok (.aload_n 0, 1) := by decide +kernel
theorem dMO_higher_2 : decode cMO_higher 2 = .ok (.iload_n 1, 1) := by decide +kernel
theorem dMO_higher_3 : decode cMO_higher 3 = .ok (.iload_n 2, 1) := by decide +kernel
theorem dMO_higher_4 : decode cMO_higher 4 = .ok (.invokevirtual 94, 3) := by decide +kernel
theorem dMO_higher_7 : decode cMO_higher 7 = .ok (.ifCond .eq 17, 3) := by decide +kernel
theorem dMO_higher_10 : decode cMO_higher 10 = .ok (.aload_n 0, 1) := by decide +kernel
theorem dMO_higher_11 : decode cMO_higher 11 = .ok (.iload_n 3, 1) := by decide +kernel
theorem dMO_higher_12 : decode cMO_higher 12 = .ok (.iload 4, 2) := by decide +kernel
theorem dMO_higher_14 : decode cMO_higher 14 = .ok (.invokevirtual 94, 3) := by decide +kernel
theorem dMO_higher_17 : decode cMO_higher 17 = .ok (.ifCond .eq 7, 3) := by decide +kernel
theorem dMO_higher_20 : decode cMO_higher 20 = .ok (.iconst 0, 1) := by decide +kernel
theorem dMO_higher_21 : decode cMO_higher 21 = .ok (.goto 4, 3) := by decide +kernel
theorem dMO_higher_24 : decode cMO_higher 24 = .ok (.iconst 1, 1) := by decide +kernel
theorem dMO_higher_25 : decode cMO_higher 25 = .ok (.putfield 55, 3) := by decide +kernel
theorem dMO_higher_28 : decode cMO_higher 28 = .ok (.aload_n 0, 1) := by decide +kernel
theorem dMO_higher_29 : decode cMO_higher 29 = .ok (.getfield 55, 3) := by decide +kernel
theorem dMO_higher_32 : decode cMO_higher 32 = .ok (.ifCond .le 5, 3) := by decide +kernel
theorem dMO_higher_35 : decode cMO_higher 35 = .ok (.iconst 0, 1) := by decide +kernel
theorem dMO_higher_36 : decode cMO_higher 36 = .ok (.ireturn, 1) := by decide +kernel
theorem dMO_higher_37 : decode cMO_higher 37 = .ok (.aload_n 0, 1) := by decide +kernel
theorem dMO_higher_38 : decode cMO_higher 38 = .ok (.invokevirtual 97, 3) := by decide +kernel
theorem dMO_higher_41 : decode cMO_higher 41 = .ok (.aload_n 0, 1) := by decide +kernel
theorem dMO_higher_42 : decode cMO_higher 42 = .ok (.iload_n 1, 1) := by decide +kernel
theorem dMO_higher_43 : decode cMO_higher 43 = .ok (.iload_n 2, 1) := by decide +kernel
theorem dMO_higher_44 : decode cMO_higher 44 = .ok (.invokevirtual 84, 3) := by decide +kernel
theorem dMO_higher_47 : decode cMO_higher 47 = .ok (.aload_n 0, 1) := by decide +kernel
theorem dMO_higher_48 : decode cMO_higher 48 = .ok (.iload_n 3, 1) := by decide +kernel
theorem dMO_higher_49 : decode cMO_higher 49 = .ok (.iload 4, 2) := by decide +kernel
theorem dMO_higher_51 : decode cMO_higher 51 = .ok (.invokevirtual 84, 3) := by decide +kernel
theorem dMO_higher_54 : decode cMO_higher 54 = .ok (.aload_n 0, 1) := by decide +kernel
theorem dMO_higher_55 : decode cMO_higher 55 = .ok (.iload_n 1, 1) := by decide +kernel
theorem dMO_higher_56 : decode cMO_higher 56 = .ok (.iload_n 2, 1) := by decide +kernel
theorem dMO_higher_57 : decode cMO_higher 57 = .ok (.invokevirtual 78, 3) := by decide +kernel
theorem dMO_higher_60 : decode cMO_higher 60 = .ok (.istore 5, 2) := by decide +kernel
theorem dMO_higher_62 : decode cMO_higher 62 = .ok (.aload_n 0, 1) := by decide +kernel
theorem dMO_higher_63 : decode cMO_higher 63 = .ok (.iload_n 3, 1) := by decide +kernel
theorem dMO_higher_64 : decode cMO_higher 64 = .ok (.iload 4, 2) := by decide +kernel
theorem dMO_higher_66 : decode cMO_higher 66 = .ok (.invokevirtual 78, 3) := by decide +kernel
theorem dMO_higher_69 : decode cMO_higher 69 = .ok (.istore 6, 2) := by decide +kernel
theorem dMO_higher_71 : decode cMO_higher 71 = .ok (.aload_n 0, 1) := by decide +kernel
theorem dMO_higher_72 : decode cMO_higher 72 = .ok (.getfield 29, 3) := by decide +kernel
theorem dMO_higher_75 : decode cMO_higher 75 = .ok (.iload 5, 2) := by decide +kernel
theorem dMO_higher_77 : decode cMO_higher 77 = .ok (.iaload, 1) := by decide +kernel
theorem dMO_higher_78 : decode cMO_higher 78 = .ok (.aload_n 0, 1) := by decide +kernel
theorem dMO_higher_79 : decode cMO_higher 79 = .ok (.getfield 32, 3) := by decide +kernel
theorem dMO_higher_82 : decode cMO_higher 82 = .ok (.iload 5, 2) := by decide +kernel
theorem dMO_higher_84 : decode cMO_higher 84 = .ok (.iaload, 1) := by decide +kernel
theorem dMO_higher_85 : decode cMO_higher 85 = .ok (.aload_n 0, 1) := by decide +kernel
theorem dMO_higher_86 : decode cMO_higher 86 = .ok (.getfield 29, 3) := by decide +kernel
theorem dMO_higher_89 : decode cMO_higher 89 = .ok (.iload 6, 2) := by decide +kernel
theorem dMO_higher_91 : decode cMO_higher 91 = .ok (.iaload, 1) := by decide +kernel
theorem dMO_higher_92 : decode cMO_higher 92 = .ok (.aload_n 0, 1) := by decide +kernel
theorem dMO_higher_93 : decode cMO_higher 93 = .ok (.getfield 32, 3) := by decide +kernel
theorem dMO_higher_96 : decode cMO_higher 96 = .ok (.iload 6, 2) := by decide +kernel
theorem dMO_higher_98 : decode cMO_higher 98 = .ok (.iaload, 1) := by decide +kernel
theorem dMO_higher_99 : decode cMO_higher 99 = .ok (.invokestatic 66, 3) := by decide +kernel
theorem dMO_higher_102 : decode cMO_higher 102 = .ok (.ireturn, 1) := by decide +kernel
theorem dMO_tops_0 : decode cMO_tops 0 = .ok (.aload_n 0, 1) := by decide +kernel
theorem dMO_tops_1 : decode cMO_tops 1 = .ok (.iconst 0, 1) := by decide +kernel
theorem dMO_tops_2 : decode cMO_tops 2 = .ok (.putfield 55, 3) := by decide +kernel
theorem dMO_tops_5 : decode cMO_tops 5 = .ok (.aload_n 0, 1) := by decide +kernel
theorem dMO_tops_6 : decode cMO_tops 6 = .ok (.invokevirtual 97, 3) := by decide +kernel
theorem dMO_tops_9 : decode cMO_tops 9 = .ok (.aload_n 0, 1) := by decide +kernel
theorem dMO_tops_10 : decode cMO_tops 10 = .ok (.invokevirtual 104, 3) := by decide +kernel
theorem dMO_tops_13 : decode cMO_tops 13 = .ok (.iconst 0, 1) := by decide +kernel
theorem dMO_tops_14 : decode cMO_tops 14 = .ok (.istore_n 1, 1) := by decide +kernel
theorem dMO_tops_15 : decode cMO_tops 15 = .ok (.iconst 0, 1) := by decide +kernel
theorem dMO_tops_16 : decode cMO_tops 16 = .ok (.istore_n 2, 1) := by decide +kernel
theorem dMO_tops_17 : decode cMO_tops 17 = .ok (.iconst 0, 1) := by decide +kernel
theorem dMO_tops_18 : decode cMO_tops 18 = .ok (.istore_n 3, 1) := by decide +kernel
theorem dMO_tops_19 : decode cMO_tops 19 = .ok (.iload_n 3, 1) := by decide +kernel
theorem dMO_tops_20 : decode cMO_tops 20 = .ok (.aload_n 0, 1) := by decide +kernel
theorem dMO_tops_21 : decode cMO_tops 21 = .ok (.invokevirtual 107, 3) := by decide +kernel
theorem dMO_tops_24 : decode cMO_tops 24 = .ok (.if_icmp .ge 71, 3) := by decide +kernel
theorem dMO_tops_27 : decode cMO_tops 27 = .ok (.aload_n 0, 1) := by decide +kernel
theorem dMO_tops_28 : decode cMO_tops 28 = .ok (.getfield 29, 3) := by decide +kernel
theorem dMO_tops_31 : decode cMO_tops 31 = .ok (.iload_n 3, 1) := by decide +kernel
theorem dMO_tops_32 : decode cMO_tops 32 = .ok (.iaload, 1) := by decide +kernel
theorem dMO_tops_33 : decode cMO_tops 33 = .ok (.aload_n 0, 1) := by decide +kernel
theorem dMO_tops_34 : decode cMO_tops 34 = .ok (.getfield 32, 3) := by decide +kernel
theorem dMO_tops_37 : decode cMO_tops 37 = .ok (.iload_n 3, 1) := by decide +kernel
theorem dMO_tops_38 : decode cMO_tops 38 = .ok (.iaload, 1) := by decide +kernel
theorem dMO_tops_39 : decode cMO_tops 39 = .ok (.aload_n 0, 1) := by decide +kernel
theorem dMO_tops_40 : decode cMO_tops 40 = .ok (.getfield 29, 3) := by decide +kernel
theorem dMO_tops_43 : decode cMO_tops 43 = .ok (.iload_n 1, 1) := by decide +kernel
theorem dMO_tops_44 : decode cMO_tops 44 = .ok (.iaload, 1) := by decide +kernel
theorem dMO_tops_45 : decode cMO_tops 45 = .ok (.aload_n 0, 1) := by decide +kernel
theorem dMO_tops_46 : decode cMO_tops 46 = .ok (.getfield 32, 3) := by decide +kernel
theorem dMO_tops_49 : decode cMO_tops 49 = .ok (.iload_n 1, 1) := by decide +kernel
theorem dMO_tops_50 : decode cMO_tops 50 = .ok (.iaload, 1) := by decide +kernel
theorem dMO_tops_51 : decode cMO_tops 51 = .ok (.invokestatic 66, 3) := by decide +kernel
theorem dMO_tops_54 : decode cMO_tops 54 = .ok (.istore 4, 2) := by decide +kernel
theorem dMO_tops_56 : decode cMO_tops 56 = .ok (.iload 4, 2) := by decide +kernel
theorem dMO_tops_58 : decode cMO_tops 58 = .ok (.ifCond .le 7, 3) := by decide +kernel
theorem dMO_tops_61 : decode cMO_tops 61 = .ok (.iconst 1, 1) := by decide +kernel
theorem dMO_tops_62 : decode cMO_tops 62 = .ok (.goto 15, 3) := by decide +kernel
theorem dMO_tops_65 : decode cMO_tops 65 = .ok (.iload 4, 2) := by decide +kernel
theorem dMO_tops_67 : decode cMO_tops 67 = .ok (.ifCond .ne 9, 3) := by decide +kernel
theorem dMO_tops_70 : decode cMO_tops 70 = .ok (.iload_n 2, 1) := by decide +kernel
theorem dMO_tops_71 : decode cMO_tops 71 = .ok (.iconst 1, 1) := by decide +kernel
theorem dMO_tops_72 : decode cMO_tops 72 = .ok (.iadd, 1) := by decide +kernel
theorem dMO_tops_73 : decode cMO_tops 73 = .ok (.goto 4, 3) := by decide +kernel
theorem dMO_tops_76 : decode cMO_tops 76 = .ok (.iload_n 2, 1) := by decide +kernel
theorem dMO_tops_77 : decode cMO_tops 77 = .ok (.istore_n 2, 1) := by decide +kernel
theorem dMO_tops_78 : decode cMO_tops 78 = .ok (.iload 4, 2) := by decide +kernel
theorem dMO_tops_80 : decode cMO_tops 80 = .ok (.ifCond .le 7, 3) := by decide +kernel
theorem dMO_tops_83 : decode cMO_tops 83 = .ok (.iload_n 3, 1) := by decide +kernel
theorem dMO_tops_84 : decode cMO_tops 84 = .ok (.goto 4, 3) := by decide +kernel
theorem dMO_tops_87 : decode cMO_tops 87 = .ok (.iload_n 1, 1) := by decide +kernel
theorem dMO_tops_88 : decode cMO_tops 88 = .ok (.istore_n 1, 1) := by decide +kernel
theorem dMO_tops_89 : decode cMO_tops 89 = .ok (.iinc 3 1, 3) := by decide +kernel
theorem dMO_tops_92 : decode cMO_tops 92 = .ok (.goto (-73), 3) := by decide +kernel
theorem dMO_tops_95 : decode cMO_tops 95 = .ok (.iload_n 2, 1) := by decide +kernel
theorem dMO_tops_96 : decode cMO_tops 96 = .ok (.ireturn, 1) := by decide +kernel
theorem dMO_hits_0 : decode cMO_hits 0 = .ok (.aload_n 0, 1) := by decide +kernel
theorem dMO_hits_1 : decode cMO_hits 1 = .ok (.aload_n 0, 1) := by decide +kernel
theorem dMO_hits_2 : decode cMO_hits 2 = .ok (.iload_n 1, 1) := by decide +kernel
theorem dMO_hits_3 : decode cMO_hits 3 = .ok (.iload_n 2, 1) := by decide +kernel
theorem dMO_hits_4 : decode cMO_hits 4 = .ok (.invokevirtual 70, 3) := by decide +kernel
theorem dMO_hits_7 : decode cMO_hits 7 = .ok (.ifCond .eq 7, 3) := by decide +kernel
theorem dMO_hits_10 : decode cMO_hits 10 = .ok (.iconst 0, 1) := by decide +kernel
theorem dMO_hits_11 : decode cMO_hits 11 = .ok (.goto 4, 3) := by decide +kernel
theorem dMO_hits_14 : decode cMO_hits 14 = .ok (.iconst 1, 1) := by decide +kernel
theorem dMO_hits_15 : decode cMO_hits 15 = .ok (.putfield 55, 3) := by decide +kernel
theorem dMO_hits_18 : decode cMO_hits 18 = .ok (.aload_n 0, 1) := by decide +kernel
theorem dMO_hits_19 : decode cMO_hits 19 = .ok (.getfield 55, 3) := by decide +kernel
theorem dMO_hits_22 : decode cMO_hits 22 = .ok (.ifCond .le 5, 3) := by decide +kernel
theorem dMO_hits_25 : decode cMO_hits 25 = .ok (.iconst 0, 1) := by decide +kernel
theorem dMO_hits_26 : decode cMO_hits 26 = .ok (.ireturn, 1) := by decide +kernel
theorem dMO_hits_27 : decode cMO_hits 27 = .ok (.aload_n 0, 1) := by decide +kernel
theorem dMO_hits_28 : decode cMO_hits 28 = .ok (.invokevirtual 97, 3) := by decide +kernel
theorem dMO_hits_31 : decode cMO_hits 31 = .ok (.aload_n 0, 1) := by decide +kernel
theorem dMO_hits_32 : decode cMO_hits 32 = .ok (.invokevirtual 104, 3) := by decide +kernel
theorem dMO_hits_35 : decode cMO_hits 35 = .ok (.aload_n 0, 1) := by decide +kernel
theorem dMO_hits_36 : decode cMO_hits 36 = .ok (.getfield 35, 3) := by decide +kernel
theorem dMO_hits_39 : decode cMO_hits 39 = .ok (.iload_n 1, 1) := by decide +kernel
theorem dMO_hits_40 : decode cMO_hits 40 = .ok (.iload_n 2, 1) := by decide +kernel
theorem dMO_hits_41 : decode cMO_hits 41 = .ok (.invokestatic 91, 3) := by decide +kernel
theorem dMO_hits_44 : decode cMO_hits 44 = .ok (.iaload, 1) := by decide +kernel
theorem dMO_hits_45 : decode cMO_hits 45 = .ok (.ireturn, 1) := by decide +kernel
theorem dMO_isSafe_0 : decode cMO_isSafe 0 = .ok (.aload_n 0, 1) := by decide +kernel
theorem dMO_isSafe_1 : decode cMO_isSafe 1 = .ok (.iload_n 1, 1) := by decide +kernel
theorem dMO_isSafe_2 : decode cMO_isSafe 2 = .ok (.bipush 12, 2) := by decide +kernel
theorem dMO_isSafe_4 : decode cMO_isSafe 4 = .ok (.irem, 1) := by decide +kernel
theorem dMO_isSafe_5 : decode cMO_isSafe 5 = .ok (.iload_n 1, 1) := by decide +kernel
theorem dMO_isSafe_6 : decode cMO_isSafe 6 = .ok (.bipush 12, 2) := by decide +kernel
theorem dMO_isSafe_8 : decode cMO_isSafe 8 = .ok (.idiv, 1) := by decide +kernel
theorem dMO_isSafe_9 : decode cMO_isSafe 9 = .ok (.invokevirtual 70, 3) := by decide +kernel
theorem dMO_isSafe_12 : decode cMO_isSafe 12 = .ok (.ifCond .eq 16, 3) := by decide +kernel
theorem dMO_isSafe_15 : decode cMO_isSafe 15 = .ok (.aload_n 0, 1) := by decide +kernel
theorem dMO_isSafe_16 : decode cMO_isSafe 16 = .ok (.getfield 35, 3) := by decide +kernel
theorem dMO_isSafe_19 : decode cMO_isSafe 19 = .ok (.iload_n 1, 1) := by decide +kernel
theorem dMO_isSafe_20 : decode cMO_isSafe 20 = .ok (.iaload, 1) := by decide +kernel
theorem dMO_isSafe_21 : decode cMO_isSafe 21 = .ok (.ifCond .ne 7, 3) := by decide +kernel
theorem dMO_isSafe_24 : decode cMO_isSafe 24 = .ok (.iconst 1, 1) := by decide +kernel
theorem dMO_isSafe_25 : decode cMO_isSafe 25 = .ok (.goto 4, 3) := by decide +kernel
theorem dMO_isSafe_28 : decode cMO_isSafe 28 = .ok (.iconst 0, 1) := by decide +kernel
theorem dMO_isSafe_29 : decode cMO_isSafe 29 = .ok (.ireturn, 1) := by decide +kernel
theorem dMO_safe_0 : decode cMO_safe 0 = .ok (.aload_n 0, 1) := by decide +kernel
theorem dMO_safe_1 : decode cMO_safe 1 = .ok (.iload_n 1, 1) := by decide +kernel
theorem dMO_safe_2 : decode cMO_safe 2 = .ok (.ifCond .lt 7, 3) := by decide +kernel
theorem dMO_safe_5 : decode cMO_safe 5 = .ok (.iconst 0, 1) := by decide +kernel
theorem dMO_safe_6 : decode cMO_safe 6 = .ok (.goto 4, 3) := by decide +kernel
theorem dMO_safe_9 : decode cMO_safe 9 = .ok (.iconst 1, 1) := by decide +kernel
theorem dMO_safe_10 : decode cMO_safe 10 = .ok (.putfield 55, 3) := by decide +kernel
theorem dMO_safe_13 : decode cMO_safe 13 = .ok (.aload_n 0, 1) := by decide +kernel
theorem dMO_safe_14 : decode cMO_safe 14 = .ok (.getfield 55, 3) := by decide +kernel
theorem dMO_safe_17 : decode cMO_safe 17 = .ok (.ifCond .le 5, 3) := by decide +kernel
theorem dMO_safe_20 : decode cMO_safe 20 = .ok (.iconst 0, 1) := by decide +kernel
theorem dMO_safe_21 : decode cMO_safe 21 = .ok (.ireturn, 1) := by decide +kernel
theorem dMO_safe_22 : decode cMO_safe 22 = .ok (.aload_n 0, 1) := by decide +kernel
theorem dMO_safe_23 : decode cMO_safe 23 = .ok (.invokevirtual 97, 3) := by decide +kernel
theorem dMO_safe_26 : decode cMO_safe 26 = .ok (.aload_n 0, 1) := by decide +kernel
theorem dMO_safe_27 : decode cMO_safe 27 = .ok (.invokevirtual 104, 3) := by decide +kernel
theorem dMO_safe_30 : decode cMO_safe 30 = .ok (.iconst 0, 1) := by decide +kernel
theorem dMO_safe_31 : decode cMO_safe 31 = .ok (.istore_n 2, 1) := by decide +kernel
theorem dMO_safe_32 : decode cMO_safe 32 = .ok (.iconst 0, 1) := by decide +kernel
theorem dMO_safe_33 : decode cMO_safe 33 = .ok (.istore_n 3, 1) := by decide +kernel
theorem dMO_safe_34 : decode cMO_safe 34 = .ok (.iload_n 3, 1) := by decide +kernel
theorem dMO_safe_35 : decode cMO_safe 35 = .ok (.sipush 144, 3) := by decide +kernel
theorem dMO_safe_38 : decode cMO_safe 38 = .ok (.if_icmp .ge 38, 3) := by decide +kernel
theorem dMO_safe_41 : decode cMO_safe 41 = .ok (.aload_n 0, 1) := by decide +kernel
theorem dMO_safe_42 : decode cMO_safe 42 = .ok (.iload_n 3, 1) := by decide +kernel
theorem dMO_safe_43 : decode cMO_safe 43 = .ok (.invokevirtual 110, 3) := by decide +kernel
theorem dMO_safe_46 : decode cMO_safe 46 = .ok (.ifCond .eq 24, 3) := by decide +kernel
theorem dMO_safe_49 : decode cMO_safe 49 = .ok (.iload_n 2, 1) := by decide +kernel
theorem dMO_safe_50 : decode cMO_safe 50 = .ok (.iload_n 1, 1) := by decide +kernel
theorem dMO_safe_51 : decode cMO_safe 51 = .ok (.if_icmp .ne 16, 3) := by decide +kernel
theorem dMO_safe_54 : decode cMO_safe 54 = .ok (.bipush 100, 2) := by decide +kernel
theorem dMO_safe_56 : decode cMO_safe 56 = .ok (.iload_n 3, 1) := by decide +kernel
theorem dMO_safe_57 : decode cMO_safe 57 = .ok (.bipush 12, 2) := by decide +kernel
theorem dMO_safe_59 : decode cMO_safe 59 = .ok (.idiv, 1) := by decide +kernel
theorem dMO_safe_60 : decode cMO_safe 60 = .ok (.imul, 1) := by decide +kernel
theorem dMO_safe_61 : decode cMO_safe 61 = .ok (.iload_n 3, 1) := by decide +kernel
theorem dMO_safe_62 : decode cMO_safe 62 = .ok (.bipush 12, 2) := by decide +kernel
theorem dMO_safe_64 : decode cMO_safe 64 = .ok (.irem, 1) := by decide +kernel
theorem dMO_safe_65 : decode cMO_safe 65 = .ok (.iadd, 1) := by decide +kernel
theorem dMO_safe_66 : decode cMO_safe 66 = .ok (.ireturn, 1) := by decide +kernel
theorem dMO_safe_67 : decode cMO_safe 67 = .ok (.iinc 2 1, 3) := by decide +kernel
theorem dMO_safe_70 : decode cMO_safe 70 = .ok (.iinc 3 1, 3) := by decide +kernel
theorem dMO_safe_73 : decode cMO_safe 73 = .ok (.goto (-39), 3) := by decide +kernel
theorem dMO_safe_76 : decode cMO_safe 76 = .ok (.iconst (-1), 1) := by decide +kernel
theorem dMO_safe_77 : decode cMO_safe 77 = .ok (.ireturn, 1) := by decide +kernel
theorem dMO_cover_0 : decode cMO_cover 0 = .ok (.aload_n 0, 1) := by decide +kernel
theorem dMO_cover_1 : decode cMO_cover 1 = .ok (.aload_n 0, 1) := by decide +kernel
theorem dMO_cover_2 : decode cMO_cover 2 = .ok (.iload_n 1, 1) := by decide +kernel
theorem dMO_cover_3 : decode cMO_cover 3 = .ok (.iload_n 2, 1) := by decide +kernel
theorem dMO_cover_4 : decode cMO_cover 4 = .ok (.invokevirtual 70, 3) := by decide +kernel
theorem dMO_cover_7 : decode cMO_cover 7 = .ok (.ifCond .eq 7, 3) := by decide +kernel
theorem dMO_cover_10 : decode cMO_cover 10 = .ok (.iconst 0, 1) := by decide +kernel
theorem dMO_cover_11 : decode cMO_cover 11 = .ok (.goto 4, 3) := by decide +kernel
theorem dMO_cover_14 : decode cMO_cover 14 = .ok (.iconst 1, 1) := by decide +kernel
theorem dMO_cover_15 : decode cMO_cover 15 = .ok (.putfield 55, 3) := by decide +kernel
theorem dMO_cover_18 : decode cMO_cover 18 = .ok (.aload_n 0, 1) := by decide +kernel
theorem dMO_cover_19 : decode cMO_cover 19 = .ok (.getfield 55, 3) := by decide +kernel
theorem dMO_cover_22 : decode cMO_cover 22 = .ok (.ifCond .le 5, 3) := by decide +kernel
theorem dMO_cover_25 : decode cMO_cover 25 = .ok (.iconst 0, 1) := by decide +kernel
theorem dMO_cover_26 : decode cMO_cover 26 = .ok (.ireturn, 1) := by decide +kernel
theorem dMO_cover_27 : decode cMO_cover 27 = .ok (.aload_n 0, 1) := by decide +kernel
theorem dMO_cover_28 : decode cMO_cover 28 = .ok (.invokevirtual 97, 3) := by decide +kernel
theorem dMO_cover_31 : decode cMO_cover 31 = .ok (.aload_n 0, 1) := by decide +kernel
theorem dMO_cover_32 : decode cMO_cover 32 = .ok (.invokevirtual 104, 3) := by decide +kernel
theorem dMO_cover_35 : decode cMO_cover 35 = .ok (.sipush 1000, 3) := by decide +kernel
theorem dMO_cover_38 : decode cMO_cover 38 = .ok (.istore_n 3, 1) := by decide +kernel
theorem dMO_cover_39 : decode cMO_cover 39 = .ok (.iload_n 2, 1) := by decide +kernel
theorem dMO_cover_40 : decode cMO_cover 40 = .ok (.aload_n 0, 1) := by decide +kernel
theorem dMO_cover_41 : decode cMO_cover 41 = .ok (.getfield 52, 3) := by decide +kernel
theorem dMO_cover_44 : decode cMO_cover 44 = .ok (.isub, 1) := by decide +kernel
theorem dMO_cover_45 : decode cMO_cover 45 = .ok (.istore 4, 2) := by decide +kernel
theorem dMO_cover_47 : decode cMO_cover 47 = .ok (.iload 4, 2) := by decide +kernel
theorem dMO_cover_49 : decode cMO_cover 49 = .ok (.iload_n 2, 1) := by decide +kernel
theorem dMO_cover_50 : decode cMO_cover 50 = .ok (.aload_n 0, 1) := by decide +kernel
theorem dMO_cover_51 : decode cMO_cover 51 = .ok (.getfield 52, 3) := by decide +kernel
theorem dMO_cover_54 : decode cMO_cover 54 = .ok (.iadd, 1) := by decide +kernel
theorem dMO_cover_55 : decode cMO_cover 55 = .ok (.if_icmp .gt 150, 3) := by decide +kernel
theorem dMO_cover_58 : decode cMO_cover 58 = .ok (.iload_n 1, 1) := by decide +kernel
theorem dMO_cover_59 : decode cMO_cover 59 = .ok (.aload_n 0, 1) := by decide +kernel
theorem dMO_cover_60 : decode cMO_cover 60 = .ok (.getfield 52, 3) := by decide +kernel
theorem dMO_cover_63 : decode cMO_cover 63 = .ok (.isub, 1) := by decide +kernel
theorem dMO_cover_64 : decode cMO_cover 64 = .ok (.istore 5, 2) := by decide +kernel
theorem dMO_cover_66 : decode cMO_cover 66 = .ok (.iload 5, 2) := by decide +kernel
theorem dMO_cover_68 : decode cMO_cover 68 = .ok (.iload_n 1, 1) := by decide +kernel
theorem dMO_cover_69 : decode cMO_cover 69 = .ok (.aload_n 0, 1) := by decide +kernel
theorem dMO_cover_70 : decode cMO_cover 70 = .ok (.getfield 52, 3) := by decide +kernel
theorem dMO_cover_73 : decode cMO_cover 73 = .ok (.iadd, 1) := by decide +kernel
theorem dMO_cover_74 : decode cMO_cover 74 = .ok (.if_icmp .gt 125, 3) := by decide +kernel
theorem dMO_cover_77 : decode cMO_cover 77 = .ok (.iload 5, 2) := by decide +kernel
theorem dMO_cover_79 : decode cMO_cover 79 = .ok (.iload_n 1, 1) := by decide +kernel
theorem dMO_cover_80 : decode cMO_cover 80 = .ok (.isub, 1) := by decide +kernel
theorem dMO_cover_81 : decode cMO_cover 81 = .ok (.iload 5, 2) := by decide +kernel
theorem dMO_cover_83 : decode cMO_cover 83 = .ok (.iload_n 1, 1) := by decide +kernel
theorem dMO_cover_84 : decode cMO_cover 84 = .ok (.isub, 1) := by decide +kernel
theorem dMO_cover_85 : decode cMO_cover 85 = .ok (.imul, 1) := by decide +kernel
theorem dMO_cover_86 : decode cMO_cover 86 = .ok (.iload 4, 2) := by decide +kernel
theorem dMO_cover_88 : decode cMO_cover 88 = .ok (.iload_n 2, 1) := by decide +kernel
theorem dMO_cover_89 : decode cMO_cover 89 = .ok (.isub, 1) := by decide +kernel
theorem dMO_cover_90 : decode cMO_cover 90 = .ok (.iload 4, 2) := by decide +kernel
theorem dMO_cover_92 : decode cMO_cover 92 = .ok (.iload_n 2, 1) := by decide +kernel
theorem dMO_cover_93 : decode cMO_cover 93 = .ok (.isub, 1) := by decide +kernel
theorem dMO_cover_94 : decode cMO_cover 94 = .ok (.imul, 1) := by decide +kernel
theorem dMO_cover_95 : decode cMO_cover 95 = .ok (.iadd, 1) := by decide +kernel
theorem dMO_cover_96 : decode cMO_cover 96 = .ok (.istore 6, 2) := by decide +kernel
theorem dMO_cover_98 : decode cMO_cover 98 = .ok (.iload 6, 2) := by decide +kernel
theorem dMO_cover_100 : decode cMO_cover 100 = .ok (.aload_n 0, 1) := by decide +kernel
theorem dMO_cover_101 : decode cMO_cover 101 = .ok (.getfield 52, 3) := by decide +kernel
theorem dMO_cover_104 : decode cMO_cover 104 = .ok (.aload_n 0, 1) := by decide +kernel
theorem dMO_cover_105 : decode cMO_cover 105 = .ok (.getfield 52, 3) := by decide +kernel
theorem dMO_cover_108 : decode cMO_cover 108 = .ok (.imul, 1) := by decide +kernel
theorem dMO_cover_109 : decode cMO_cover 109 = .ok (.if_icmp .gt 84, 3) := by decide +kernel
theorem dMO_cover_112 : decode cMO_cover 112 = .ok (.aload_n 0, 1) := by decide +kernel
theorem dMO_cover_113 : decode cMO_cover 113 = .ok (.iload 5, 2) := by decide +kernel
theorem dMO_cover_115 : decode cMO_cover 115 = .ok (.iload 4, 2) := by decide +kernel
theorem dMO_cover_117 : decode cMO_cover 117 = .ok (.invokevirtual 78, 3) := by decide +kernel
theorem dMO_cover_120 : decode cMO_cover 120 = .ok (.istore 7, 2) := by decide +kernel
theorem dMO_cover_122 : decode cMO_cover 122 = .ok (.aload_n 0, 1) := by decide +kernel
theorem dMO_cover_123 : decode cMO_cover 123 = .ok (.getfield 52, 3) := by decide +kernel
theorem dMO_cover_126 : decode cMO_cover 126 = .ok (.aload_n 0, 1) := by decide +kernel
theorem dMO_cover_127 : decode cMO_cover 127 = .ok (.getfield 52, 3) := by decide +kernel
theorem dMO_cover_130 : decode cMO_cover 130 = .ok (.imul, 1) := by decide +kernel
theorem dMO_cover_131 : decode cMO_cover 131 = .ok (.iload 6, 2) := by decide +kernel
theorem dMO_cover_133 : decode cMO_cover 133 = .ok (.isub, 1) := by decide +kernel
theorem dMO_cover_134 : decode cMO_cover 134 = .ok (.istore 8, 2) := by decide +kernel
theorem dMO_cover_136 : decode cMO_cover 136 = .ok (.bipush 10, 2) := by decide +kernel
theorem dMO_cover_138 : decode cMO_cover 138 = .ok (.istore 9, 2) := by decide +kernel
theorem dMO_cover_140 : decode cMO_cover 140 = .ok (.iload 9, 2) := by decide +kernel
theorem dMO_cover_142 : decode cMO_cover 142 = .ok (.iload 8, 2) := by decide +kernel
theorem dMO_cover_144 : decode cMO_cover 144 = .ok (.iconst 0, 1) := by decide +kernel
theorem dMO_cover_145 : decode cMO_cover 145 = .ok (.aload_n 0, 1) := by decide +kernel
theorem dMO_cover_146 : decode cMO_cover 146 = .ok (.getfield 32, 3) := by decide +kernel
theorem dMO_cover_149 : decode cMO_cover 149 = .ok (.iload 7, 2) := by decide +kernel
theorem dMO_cover_151 : decode cMO_cover 151 = .ok (.iaload, 1) := by decide +kernel
theorem dMO_cover_152 : decode cMO_cover 152 = .ok (.invokestatic 66, 3) := by decide +kernel
theorem dMO_cover_155 : decode cMO_cover 155 = .ok (.ifCond .le 9, 3) := by decide +kernel
theorem dMO_cover_158 : decode cMO_cover 158 = .ok (.iinc 9 (-1), 3) := by decide +kernel
theorem dMO_cover_161 : decode cMO_cover 161 = .ok (.goto (-21), 3) := by decide +kernel
theorem dMO_cover_164 : decode cMO_cover 164 = .ok (.aload_n 0, 1) := by decide +kernel
theorem dMO_cover_165 : decode cMO_cover 165 = .ok (.getfield 29, 3) := by decide +kernel
theorem dMO_cover_168 : decode cMO_cover 168 = .ok (.iload 7, 2) := by decide +kernel
theorem dMO_cover_170 : decode cMO_cover 170 = .ok (.iaload, 1) := by decide +kernel
theorem dMO_cover_171 : decode cMO_cover 171 = .ok (.iload 9, 2) := by decide +kernel
theorem dMO_cover_173 : decode cMO_cover 173 = .ok (.iadd, 1) := by decide +kernel
theorem dMO_cover_174 : decode cMO_cover 174 = .ok (.iload_n 3, 1) := by decide +kernel
theorem dMO_cover_175 : decode cMO_cover 175 = .ok (.if_icmp .ge 16, 3) := by decide +kernel
theorem dMO_cover_178 : decode cMO_cover 178 = .ok (.aload_n 0, 1) := by decide +kernel
theorem dMO_cover_179 : decode cMO_cover 179 = .ok (.getfield 29, 3) := by decide +kernel
theorem dMO_cover_182 : decode cMO_cover 182 = .ok (.iload 7, 2) := by decide +kernel
theorem dMO_cover_184 : decode cMO_cover 184 = .ok (.iaload, 1) := by decide +kernel
theorem dMO_cover_185 : decode cMO_cover 185 = .ok (.iload 9, 2) := by decide +kernel
theorem dMO_cover_187 : decode cMO_cover 187 = .ok (.iadd, 1) := by decide +kernel
theorem dMO_cover_188 : decode cMO_cover 188 = .ok (.goto 4, 3) := by decide +kernel
theorem dMO_cover_191 : decode cMO_cover 191 = .ok (.iload_n 3, 1) := by decide +kernel
theorem dMO_cover_192 : decode cMO_cover 192 = .ok (.istore_n 3, 1) := by decide +kernel
theorem dMO_cover_193 : decode cMO_cover 193 = .ok (.iinc 5 1, 3) := by decide +kernel
theorem dMO_cover_196 : decode cMO_cover 196 = .ok (.goto (-130), 3) := by decide +kernel
theorem dMO_cover_199 : decode cMO_cover 199 = .ok (.iinc 4 1, 3) := by decide +kernel
theorem dMO_cover_202 : decode cMO_cover 202 = .ok (.goto (-155), 3) := by decide +kernel
