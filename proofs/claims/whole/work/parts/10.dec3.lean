theorem dMO_cover_205 : decode cMO_cover 205 = .ok (.iload_n 3, 1) := by decide +kernel
theorem dMO_cover_206 : decode cMO_cover 206 = .ok (.ireturn, 1) := by decide +kernel
theorem dMO_may_0 : decode cMO_may 0 = .ok (.aload_n 0, 1) := by decide +kernel
theorem dMO_may_1 : decode cMO_may 1 = .ok (.aload_n 0, 1) := by decide +kernel
theorem dMO_may_2 : decode cMO_may 2 = .ok (.iload_n 1, 1) := by decide +kernel
theorem dMO_may_3 : decode cMO_may 3 = .ok (.iload_n 2, 1) := by decide +kernel
theorem dMO_may_4 : decode cMO_may 4 = .ok (.invokevirtual 70, 3) := by decide +kernel
theorem dMO_may_7 : decode cMO_may 7 = .ok (.ifCond .eq 13, 3) := by decide +kernel
theorem dMO_may_10 : decode cMO_may 10 = .ok (.iload_n 3, 1) := by decide +kernel
theorem dMO_may_11 : decode cMO_may 11 = .ok (.iconst 1, 1) := by decide +kernel
theorem dMO_may_12 : decode cMO_may 12 = .ok (.bipush 50, 2) := by decide +kernel
theorem dMO_may_14 : decode cMO_may 14 = .ok (.invokestatic 58, 3) := by decide +kernel
theorem dMO_may_17 : decode cMO_may 17 = .ok (.ifCond .ne 7, 3) := by decide +kernel
theorem dMO_may_20 : decode cMO_may 20 = .ok (.iconst 1, 1) := by decide +kernel
theorem dMO_may_21 : decode cMO_may 21 = .ok (.goto 16, 3) := by decide +kernel
theorem dMO_may_24 : decode cMO_may 24 = .ok (.aload_n 0, 1) := by decide +kernel
theorem dMO_may_25 : decode cMO_may 25 = .ok (.getfield 114, 3) := by decide +kernel
theorem dMO_may_28 : decode cMO_may 28 = .ok (.iconst 4, 1) := by decide +kernel
theorem dMO_may_29 : decode cMO_may 29 = .ok (.if_icmp .ne 7, 3) := by decide +kernel
theorem dMO_may_32 : decode cMO_may 32 = .ok (.iconst 2, 1) := by decide +kernel
theorem dMO_may_33 : decode cMO_may 33 = .ok (.goto 4, 3) := by decide +kernel
theorem dMO_may_36 : decode cMO_may 36 = .ok (.iconst 0, 1) := by decide +kernel
theorem dMO_may_37 : decode cMO_may 37 = .ok (.putfield 55, 3) := by decide +kernel
theorem dMO_may_40 : decode cMO_may 40 = .ok (.aload_n 0, 1) := by decide +kernel
theorem dMO_may_41 : decode cMO_may 41 = .ok (.getfield 55, 3) := by decide +kernel
theorem dMO_may_44 : decode cMO_may 44 = .ok (.ifCond .le 5, 3) := by decide +kernel
theorem dMO_may_47 : decode cMO_may 47 = .ok (.iconst 0, 1) := by decide +kernel
theorem dMO_may_48 : decode cMO_may 48 = .ok (.ireturn, 1) := by decide +kernel
theorem dMO_may_49 : decode cMO_may 49 = .ok (.aload_n 0, 1) := by decide +kernel
theorem dMO_may_50 : decode cMO_may 50 = .ok (.getfield 23, 3) := by decide +kernel
theorem dMO_may_53 : decode cMO_may 53 = .ok (.aload_n 0, 1) := by decide +kernel
theorem dMO_may_54 : decode cMO_may 54 = .ok (.getfield 114, 3) := by decide +kernel
theorem dMO_may_57 : decode cMO_may 57 = .ok (.iload_n 1, 1) := by decide +kernel
theorem dMO_may_58 : decode cMO_may 58 = .ok (.iload_n 2, 1) := by decide +kernel
theorem dMO_may_59 : decode cMO_may 59 = .ok (.invokestatic 91, 3) := by decide +kernel
theorem dMO_may_62 : decode cMO_may 62 = .ok (.iastore, 1) := by decide +kernel
theorem dMO_may_63 : decode cMO_may 63 = .ok (.aload_n 0, 1) := by decide +kernel
theorem dMO_may_64 : decode cMO_may 64 = .ok (.getfield 26, 3) := by decide +kernel
theorem dMO_may_67 : decode cMO_may 67 = .ok (.aload_n 0, 1) := by decide +kernel
theorem dMO_may_68 : decode cMO_may 68 = .ok (.getfield 114, 3) := by decide +kernel
theorem dMO_may_71 : decode cMO_may 71 = .ok (.iload_n 3, 1) := by decide +kernel
theorem dMO_may_72 : decode cMO_may 72 = .ok (.iastore, 1) := by decide +kernel
theorem dMO_may_73 : decode cMO_may 73 = .ok (.aload_n 0, 1) := by decide +kernel
theorem dMO_may_74 : decode cMO_may 74 = .ok (.dup, 1) := by decide +kernel
theorem dMO_may_75 : decode cMO_may 75 = .ok (.getfield 114, 3) := by decide +kernel
theorem dMO_may_78 : decode cMO_may 78 = .ok (.iconst 1, 1) := by decide +kernel
theorem dMO_may_79 : decode cMO_may 79 = .ok (.iadd, 1) := by decide +kernel
theorem dMO_may_80 : decode cMO_may 80 = .ok (.putfield 114, 3) := by decide +kernel
theorem dMO_may_83 : decode cMO_may 83 = .ok (.aload_n 0, 1) := by decide +kernel
theorem dMO_may_84 : decode cMO_may 84 = .ok (.getfield 114, 3) := by decide +kernel
theorem dMO_may_87 : decode cMO_may 87 = .ok (.ireturn, 1) := by decide +kernel
theorem dMO_forget_0 : decode cMO_forget 0 = .ok (.aload_n 0, 1) := by decide +kernel
theorem dMO_forget_1 : decode cMO_forget 1 = .ok (.iconst 0, 1) := by decide +kernel
theorem dMO_forget_2 : decode cMO_forget 2 = .ok (.putfield 55, 3) := by decide +kernel
theorem dMO_forget_5 : decode cMO_forget 5 = .ok (.aload_n 0, 1) := by decide +kernel
theorem dMO_forget_6 : decode cMO_forget 6 = .ok (.getfield 114, 3) := by decide +kernel
theorem dMO_forget_9 : decode cMO_forget 9 = .ok (.istore_n 1, 1) := by decide +kernel
theorem dMO_forget_10 : decode cMO_forget 10 = .ok (.aload_n 0, 1) := by decide +kernel
theorem dMO_forget_11 : decode cMO_forget 11 = .ok (.iconst 0, 1) := by decide +kernel
theorem dMO_forget_12 : decode cMO_forget 12 = .ok (.putfield 114, 3) := by decide +kernel
theorem dMO_forget_15 : decode cMO_forget 15 = .ok (.iload_n 1, 1) := by decide +kernel
theorem dMO_forget_16 : decode cMO_forget 16 = .ok (.ireturn, 1) := by decide +kernel
theorem dMO_want_0 : decode cMO_want 0 = .ok (.aload_n 0, 1) := by decide +kernel
theorem dMO_want_1 : decode cMO_want 1 = .ok (.aload_n 0, 1) := by decide +kernel
theorem dMO_want_2 : decode cMO_want 2 = .ok (.iload_n 1, 1) := by decide +kernel
theorem dMO_want_3 : decode cMO_want 3 = .ok (.iload_n 2, 1) := by decide +kernel
theorem dMO_want_4 : decode cMO_want 4 = .ok (.invokevirtual 70, 3) := by decide +kernel
theorem dMO_want_7 : decode cMO_want 7 = .ok (.ifCond .eq 7, 3) := by decide +kernel
theorem dMO_want_10 : decode cMO_want 10 = .ok (.iconst 0, 1) := by decide +kernel
theorem dMO_want_11 : decode cMO_want 11 = .ok (.goto 4, 3) := by decide +kernel
theorem dMO_want_14 : decode cMO_want 14 = .ok (.iconst 1, 1) := by decide +kernel
theorem dMO_want_15 : decode cMO_want 15 = .ok (.putfield 55, 3) := by decide +kernel
theorem dMO_want_18 : decode cMO_want 18 = .ok (.aload_n 0, 1) := by decide +kernel
theorem dMO_want_19 : decode cMO_want 19 = .ok (.getfield 55, 3) := by decide +kernel
theorem dMO_want_22 : decode cMO_want 22 = .ok (.ifCond .le 5, 3) := by decide +kernel
theorem dMO_want_25 : decode cMO_want 25 = .ok (.iconst 0, 1) := by decide +kernel
theorem dMO_want_26 : decode cMO_want 26 = .ok (.ireturn, 1) := by decide +kernel
theorem dMO_want_27 : decode cMO_want 27 = .ok (.aload_n 0, 1) := by decide +kernel
theorem dMO_want_28 : decode cMO_want 28 = .ok (.getfield 19, 3) := by decide +kernel
theorem dMO_want_31 : decode cMO_want 31 = .ok (.iload_n 1, 1) := by decide +kernel
theorem dMO_want_32 : decode cMO_want 32 = .ok (.iload_n 2, 1) := by decide +kernel
theorem dMO_want_33 : decode cMO_want 33 = .ok (.invokestatic 91, 3) := by decide +kernel
theorem dMO_want_36 : decode cMO_want 36 = .ok (.baload, 1) := by decide +kernel
theorem dMO_want_37 : decode cMO_want 37 = .ok (.istore 4, 2) := by decide +kernel
theorem dMO_want_39 : decode cMO_want 39 = .ok (.aload_n 0, 1) := by decide +kernel
theorem dMO_want_40 : decode cMO_want 40 = .ok (.getfield 19, 3) := by decide +kernel
theorem dMO_want_43 : decode cMO_want 43 = .ok (.iload_n 1, 1) := by decide +kernel
theorem dMO_want_44 : decode cMO_want 44 = .ok (.iload_n 2, 1) := by decide +kernel
theorem dMO_want_45 : decode cMO_want 45 = .ok (.invokestatic 91, 3) := by decide +kernel
theorem dMO_want_48 : decode cMO_want 48 = .ok (.iload_n 3, 1) := by decide +kernel
theorem dMO_want_49 : decode cMO_want 49 = .ok (.bastore, 1) := by decide +kernel
theorem dMO_want_50 : decode cMO_want 50 = .ok (.iload 4, 2) := by decide +kernel
theorem dMO_want_52 : decode cMO_want 52 = .ok (.ireturn, 1) := by decide +kernel
theorem dMO_does_0 : decode cMO_does 0 = .ok (.aload_n 0, 1) := by decide +kernel
theorem dMO_does_1 : decode cMO_does 1 = .ok (.invokevirtual 97, 3) := by decide +kernel
theorem dMO_does_4 : decode cMO_does 4 = .ok (.iconst 0, 1) := by decide +kernel
theorem dMO_does_5 : decode cMO_does 5 = .ok (.istore_n 2, 1) := by decide +kernel
theorem dMO_does_6 : decode cMO_does 6 = .ok (.iload_n 2, 1) := by decide +kernel
theorem dMO_does_7 : decode cMO_does 7 = .ok (.aload_n 0, 1) := by decide +kernel
theorem dMO_does_8 : decode cMO_does 8 = .ok (.getfield 114, 3) := by decide +kernel
theorem dMO_does_11 : decode cMO_does 11 = .ok (.if_icmp .ge 47, 3) := by decide +kernel
theorem dMO_does_14 : decode cMO_does 14 = .ok (.iload_n 1, 1) := by decide +kernel
theorem dMO_does_15 : decode cMO_does 15 = .ok (.iload_n 2, 1) := by decide +kernel
theorem dMO_does_16 : decode cMO_does 16 = .ok (.ishr, 1) := by decide +kernel
theorem dMO_does_17 : decode cMO_does 17 = .ok (.iconst 1, 1) := by decide +kernel
theorem dMO_does_18 : decode cMO_does 18 = .ok (.iand, 1) := by decide +kernel
theorem dMO_does_19 : decode cMO_does 19 = .ok (.iconst 1, 1) := by decide +kernel
theorem dMO_does_20 : decode cMO_does 20 = .ok (.if_icmp .ne 32, 3) := by decide +kernel
theorem dMO_does_23 : decode cMO_does 23 = .ok (.aload_n 0, 1) := by decide +kernel
theorem dMO_does_24 : decode cMO_does 24 = .ok (.getfield 16, 3) := by decide +kernel
theorem dMO_does_27 : decode cMO_does 27 = .ok (.aload_n 0, 1) := by decide +kernel
theorem dMO_does_28 : decode cMO_does 28 = .ok (.getfield 23, 3) := by decide +kernel
theorem dMO_does_31 : decode cMO_does 31 = .ok (.iload_n 2, 1) := by decide +kernel
theorem dMO_does_32 : decode cMO_does 32 = .ok (.iaload, 1) := by decide +kernel
theorem dMO_does_33 : decode cMO_does 33 = .ok (.aload_n 0, 1) := by decide +kernel
theorem dMO_does_34 : decode cMO_does 34 = .ok (.getfield 7, 3) := by decide +kernel
theorem dMO_does_37 : decode cMO_does 37 = .ok (.aload_n 0, 1) := by decide +kernel
theorem dMO_does_38 : decode cMO_does 38 = .ok (.getfield 23, 3) := by decide +kernel
theorem dMO_does_41 : decode cMO_does 41 = .ok (.iload_n 2, 1) := by decide +kernel
theorem dMO_does_42 : decode cMO_does 42 = .ok (.iaload, 1) := by decide +kernel
theorem dMO_does_43 : decode cMO_does 43 = .ok (.iaload, 1) := by decide +kernel
theorem dMO_does_44 : decode cMO_does 44 = .ok (.aload_n 0, 1) := by decide +kernel
theorem dMO_does_45 : decode cMO_does 45 = .ok (.getfield 26, 3) := by decide +kernel
theorem dMO_does_48 : decode cMO_does 48 = .ok (.iload_n 2, 1) := by decide +kernel
theorem dMO_does_49 : decode cMO_does 49 = .ok (.iaload, 1) := by decide +kernel
theorem dMO_does_50 : decode cMO_does 50 = .ok (.iadd, 1) := by decide +kernel
theorem dMO_does_51 : decode cMO_does 51 = .ok (.iastore, 1) := by decide +kernel
theorem dMO_does_52 : decode cMO_does 52 = .ok (.iinc 2 1, 3) := by decide +kernel
theorem dMO_does_55 : decode cMO_does 55 = .ok (.goto (-49), 3) := by decide +kernel
theorem dMO_does_58 : decode cMO_does 58 = .ok (.aload_n 0, 1) := by decide +kernel
theorem dMO_does_59 : decode cMO_does 59 = .ok (.invokevirtual 104, 3) := by decide +kernel
theorem dMO_does_62 : decode cMO_does 62 = .ok (.iconst 1, 1) := by decide +kernel
theorem dMO_does_63 : decode cMO_does 63 = .ok (.istore_n 2, 1) := by decide +kernel
theorem dMO_does_64 : decode cMO_does 64 = .ok (.iconst 0, 1) := by decide +kernel
theorem dMO_does_65 : decode cMO_does 65 = .ok (.istore_n 3, 1) := by decide +kernel
theorem dMO_does_66 : decode cMO_does 66 = .ok (.iload_n 3, 1) := by decide +kernel
theorem dMO_does_67 : decode cMO_does 67 = .ok (.sipush 144, 3) := by decide +kernel
theorem dMO_does_70 : decode cMO_does 70 = .ok (.if_icmp .ge 36, 3) := by decide +kernel
theorem dMO_does_73 : decode cMO_does 73 = .ok (.iload_n 2, 1) := by decide +kernel
theorem dMO_does_74 : decode cMO_does 74 = .ok (.ifCond .eq 24, 3) := by decide +kernel
theorem dMO_does_77 : decode cMO_does 77 = .ok (.aload_n 0, 1) := by decide +kernel
theorem dMO_does_78 : decode cMO_does 78 = .ok (.getfield 19, 3) := by decide +kernel
theorem dMO_does_81 : decode cMO_does 81 = .ok (.iload_n 3, 1) := by decide +kernel
theorem dMO_does_82 : decode cMO_does 82 = .ok (.baload, 1) := by decide +kernel
theorem dMO_does_83 : decode cMO_does 83 = .ok (.ifCond .eq 11, 3) := by decide +kernel
theorem dMO_does_86 : decode cMO_does 86 = .ok (.aload_n 0, 1) := by decide +kernel
theorem dMO_does_87 : decode cMO_does 87 = .ok (.iload_n 3, 1) := by decide +kernel
theorem dMO_does_88 : decode cMO_does 88 = .ok (.invokevirtual 110, 3) := by decide +kernel
theorem dMO_does_91 : decode cMO_does 91 = .ok (.ifCond .eq 7, 3) := by decide +kernel
theorem dMO_does_94 : decode cMO_does 94 = .ok (.iconst 1, 1) := by decide +kernel
theorem dMO_does_95 : decode cMO_does 95 = .ok (.goto 4, 3) := by decide +kernel
theorem dMO_does_98 : decode cMO_does 98 = .ok (.iconst 0, 1) := by decide +kernel
theorem dMO_does_99 : decode cMO_does 99 = .ok (.istore_n 2, 1) := by decide +kernel
theorem dMO_does_100 : decode cMO_does 100 = .ok (.iinc 3 1, 3) := by decide +kernel
theorem dMO_does_103 : decode cMO_does 103 = .ok (.goto (-37), 3) := by decide +kernel
theorem dMO_does_106 : decode cMO_does 106 = .ok (.iload_n 2, 1) := by decide +kernel
theorem dMO_does_107 : decode cMO_does 107 = .ok (.ireturn, 1) := by decide +kernel
theorem dMO_manyOf_0 : decode cMO_manyOf 0 = .ok (.iload_n 1, 1) := by decide +kernel
theorem dMO_manyOf_1 : decode cMO_manyOf 1 = .ok (.iconst 1, 1) := by decide +kernel
theorem dMO_manyOf_2 : decode cMO_manyOf 2 = .ok (.iand, 1) := by decide +kernel
theorem dMO_manyOf_3 : decode cMO_manyOf 3 = .ok (.iload_n 1, 1) := by decide +kernel
theorem dMO_manyOf_4 : decode cMO_manyOf 4 = .ok (.iconst 1, 1) := by decide +kernel
theorem dMO_manyOf_5 : decode cMO_manyOf 5 = .ok (.ishr, 1) := by decide +kernel
theorem dMO_manyOf_6 : decode cMO_manyOf 6 = .ok (.iconst 1, 1) := by decide +kernel
theorem dMO_manyOf_7 : decode cMO_manyOf 7 = .ok (.iand, 1) := by decide +kernel
theorem dMO_manyOf_8 : decode cMO_manyOf 8 = .ok (.iadd, 1) := by decide +kernel
theorem dMO_manyOf_9 : decode cMO_manyOf 9 = .ok (.iload_n 1, 1) := by decide +kernel
theorem dMO_manyOf_10 : decode cMO_manyOf 10 = .ok (.iconst 2, 1) := by decide +kernel
theorem dMO_manyOf_11 : decode cMO_manyOf 11 = .ok (.ishr, 1) := by decide +kernel
theorem dMO_manyOf_12 : decode cMO_manyOf 12 = .ok (.iconst 1, 1) := by decide +kernel
theorem dMO_manyOf_13 : decode cMO_manyOf 13 = .ok (.iand, 1) := by decide +kernel
theorem dMO_manyOf_14 : decode cMO_manyOf 14 = .ok (.iadd, 1) := by decide +kernel
theorem dMO_manyOf_15 : decode cMO_manyOf 15 = .ok (.iload_n 1, 1) := by decide +kernel
theorem dMO_manyOf_16 : decode cMO_manyOf 16 = .ok (.iconst 3, 1) := by decide +kernel
theorem dMO_manyOf_17 : decode cMO_manyOf 17 = .ok (.ishr, 1) := by decide +kernel
theorem dMO_manyOf_18 : decode cMO_manyOf 18 = .ok (.iconst 1, 1) := by decide +kernel
theorem dMO_manyOf_19 : decode cMO_manyOf 19 = .ok (.iand, 1) := by decide +kernel
theorem dMO_manyOf_20 : decode cMO_manyOf 20 = .ok (.iadd, 1) := by decide +kernel
theorem dMO_manyOf_21 : decode cMO_manyOf 21 = .ok (.ireturn, 1) := by decide +kernel
theorem dMO_lengthOf_0 : decode cMO_lengthOf 0 = .ok (.iconst 0, 1) := by decide +kernel
theorem dMO_lengthOf_1 : decode cMO_lengthOf 1 = .ok (.istore_n 2, 1) := by decide +kernel
theorem dMO_lengthOf_2 : decode cMO_lengthOf 2 = .ok (.iconst 0, 1) := by decide +kernel
theorem dMO_lengthOf_3 : decode cMO_lengthOf 3 = .ok (.istore_n 3, 1) := by decide +kernel
theorem dMO_lengthOf_4 : decode cMO_lengthOf 4 = .ok (.iload_n 3, 1) := by decide +kernel
theorem dMO_lengthOf_5 : decode cMO_lengthOf 5 = .ok (.aload_n 0, 1) := by decide +kernel
theorem dMO_lengthOf_6 : decode cMO_lengthOf 6 = .ok (.getfield 114, 3) := by decide +kernel
theorem dMO_lengthOf_9 : decode cMO_lengthOf 9 = .ok (.if_icmp .ge 31, 3) := by decide +kernel
theorem dMO_lengthOf_12 : decode cMO_lengthOf 12 = .ok (.iload_n 2, 1) := by decide +kernel
theorem dMO_lengthOf_13 : decode cMO_lengthOf 13 = .ok (.iload_n 1, 1) := by decide +kernel
theorem dMO_lengthOf_14 : decode cMO_lengthOf 14 = .ok (.iload_n 3, 1) := by decide +kernel
theorem dMO_lengthOf_15 : decode cMO_lengthOf 15 = .ok (.ishr, 1) := by decide +kernel
theorem dMO_lengthOf_16 : decode cMO_lengthOf 16 = .ok (.iconst 1, 1) := by decide +kernel
theorem dMO_lengthOf_17 : decode cMO_lengthOf 17 = .ok (.iand, 1) := by decide +kernel
theorem dMO_lengthOf_18 : decode cMO_lengthOf 18 = .ok (.iconst 1, 1) := by decide +kernel
theorem dMO_lengthOf_19 : decode cMO_lengthOf 19 = .ok (.if_icmp .ne 12, 3) := by decide +kernel
theorem dMO_lengthOf_22 : decode cMO_lengthOf 22 = .ok (.aload_n 0, 1) := by decide +kernel
theorem dMO_lengthOf_23 : decode cMO_lengthOf 23 = .ok (.getfield 26, 3) := by decide +kernel
theorem dMO_lengthOf_26 : decode cMO_lengthOf 26 = .ok (.iload_n 3, 1) := by decide +kernel
theorem dMO_lengthOf_27 : decode cMO_lengthOf 27 = .ok (.iaload, 1) := by decide +kernel
theorem dMO_lengthOf_28 : decode cMO_lengthOf 28 = .ok (.goto 4, 3) := by decide +kernel
theorem dMO_lengthOf_31 : decode cMO_lengthOf 31 = .ok (.iconst 0, 1) := by decide +kernel
theorem dMO_lengthOf_32 : decode cMO_lengthOf 32 = .ok (.iadd, 1) := by decide +kernel
theorem dMO_lengthOf_33 : decode cMO_lengthOf 33 = .ok (.istore_n 2, 1) := by decide +kernel
theorem dMO_lengthOf_34 : decode cMO_lengthOf 34 = .ok (.iinc 3 1, 3) := by decide +kernel
theorem dMO_lengthOf_37 : decode cMO_lengthOf 37 = .ok (.goto (-33), 3) := by decide +kernel
theorem dMO_lengthOf_40 : decode cMO_lengthOf 40 = .ok (.iload_n 2, 1) := by decide +kernel
theorem dMO_lengthOf_41 : decode cMO_lengthOf 41 = .ok (.ireturn, 1) := by decide +kernel
theorem dMO_choose_0 : decode cMO_choose 0 = .ok (.aload_n 0, 1) := by decide +kernel
theorem dMO_choose_1 : decode cMO_choose 1 = .ok (.iconst 0, 1) := by decide +kernel
theorem dMO_choose_2 : decode cMO_choose 2 = .ok (.putfield 55, 3) := by decide +kernel
theorem dMO_choose_5 : decode cMO_choose 5 = .ok (.iconst (-1), 1) := by decide +kernel
theorem dMO_choose_6 : decode cMO_choose 6 = .ok (.istore_n 1, 1) := by decide +kernel
theorem dMO_choose_7 : decode cMO_choose 7 = .ok (.iconst 0, 1) := by decide +kernel
theorem dMO_choose_8 : decode cMO_choose 8 = .ok (.istore_n 2, 1) := by decide +kernel
theorem dMO_choose_9 : decode cMO_choose 9 = .ok (.iload_n 2, 1) := by decide +kernel
theorem dMO_choose_10 : decode cMO_choose 10 = .ok (.iconst 1, 1) := by decide +kernel
theorem dMO_choose_11 : decode cMO_choose 11 = .ok (.aload_n 0, 1) := by decide +kernel
theorem dMO_choose_12 : decode cMO_choose 12 = .ok (.getfield 114, 3) := by decide +kernel
theorem dMO_choose_15 : decode cMO_choose 15 = .ok (.ishl, 1) := by decide +kernel
theorem dMO_choose_16 : decode cMO_choose 16 = .ok (.if_icmp .ge 77, 3) := by decide +kernel
theorem dMO_choose_19 : decode cMO_choose 19 = .ok (.iload_n 1, 1) := by decide +kernel
theorem dMO_choose_20 : decode cMO_choose 20 = .ok (.iconst (-1), 1) := by decide +kernel
theorem dMO_choose_21 : decode cMO_choose 21 = .ok (.if_icmp .eq 42, 3) := by decide +kernel
theorem dMO_choose_24 : decode cMO_choose 24 = .ok (.aload_n 0, 1) := by decide +kernel
theorem dMO_choose_25 : decode cMO_choose 25 = .ok (.iload_n 2, 1) := by decide +kernel
theorem dMO_choose_26 : decode cMO_choose 26 = .ok (.invokevirtual 117, 3) := by decide +kernel
theorem dMO_choose_29 : decode cMO_choose 29 = .ok (.aload_n 0, 1) := by decide +kernel
theorem dMO_choose_30 : decode cMO_choose 30 = .ok (.iload_n 1, 1) := by decide +kernel
theorem dMO_choose_31 : decode cMO_choose 31 = .ok (.invokevirtual 117, 3) := by decide +kernel
theorem dMO_choose_34 : decode cMO_choose 34 = .ok (.if_icmp .lt 29, 3) := by decide +kernel
theorem dMO_choose_37 : decode cMO_choose 37 = .ok (.aload_n 0, 1) := by decide +kernel
theorem dMO_choose_38 : decode cMO_choose 38 = .ok (.iload_n 2, 1) := by decide +kernel
theorem dMO_choose_39 : decode cMO_choose 39 = .ok (.invokevirtual 117, 3) := by decide +kernel
theorem dMO_choose_42 : decode cMO_choose 42 = .ok (.aload_n 0, 1) := by decide +kernel
theorem dMO_choose_43 : decode cMO_choose 43 = .ok (.iload_n 1, 1) := by decide +kernel
theorem dMO_choose_44 : decode cMO_choose 44 = .ok (.invokevirtual 117, 3) := by decide +kernel
theorem dMO_choose_47 : decode cMO_choose 47 = .ok (.if_icmp .ne 20, 3) := by decide +kernel
theorem dMO_choose_50 : decode cMO_choose 50 = .ok (.aload_n 0, 1) := by decide +kernel
theorem dMO_choose_51 : decode cMO_choose 51 = .ok (.iload_n 2, 1) := by decide +kernel
theorem dMO_choose_52 : decode cMO_choose 52 = .ok (.invokevirtual 120, 3) := by decide +kernel
theorem dMO_choose_55 : decode cMO_choose 55 = .ok (.aload_n 0, 1) := by decide +kernel
theorem dMO_choose_56 : decode cMO_choose 56 = .ok (.iload_n 1, 1) := by decide +kernel
theorem dMO_choose_57 : decode cMO_choose 57 = .ok (.invokevirtual 120, 3) := by decide +kernel
theorem dMO_choose_60 : decode cMO_choose 60 = .ok (.if_icmp .ge 7, 3) := by decide +kernel
theorem dMO_choose_63 : decode cMO_choose 63 = .ok (.iconst 1, 1) := by decide +kernel
theorem dMO_choose_64 : decode cMO_choose 64 = .ok (.goto 4, 3) := by decide +kernel
theorem dMO_choose_67 : decode cMO_choose 67 = .ok (.iconst 0, 1) := by decide +kernel
theorem dMO_choose_68 : decode cMO_choose 68 = .ok (.istore_n 3, 1) := by decide +kernel
theorem dMO_choose_69 : decode cMO_choose 69 = .ok (.iload_n 3, 1) := by decide +kernel
theorem dMO_choose_70 : decode cMO_choose 70 = .ok (.ifCond .eq 15, 3) := by decide +kernel
theorem dMO_choose_73 : decode cMO_choose 73 = .ok (.aload_n 0, 1) := by decide +kernel
theorem dMO_choose_74 : decode cMO_choose 74 = .ok (.iload_n 2, 1) := by decide +kernel
theorem dMO_choose_75 : decode cMO_choose 75 = .ok (.invokevirtual 123, 3) := by decide +kernel
theorem dMO_choose_78 : decode cMO_choose 78 = .ok (.ifCond .eq 7, 3) := by decide +kernel
theorem dMO_choose_81 : decode cMO_choose 81 = .ok (.iload_n 2, 1) := by decide +kernel
theorem dMO_choose_82 : decode cMO_choose 82 = .ok (.goto 4, 3) := by decide +kernel
theorem dMO_choose_85 : decode cMO_choose 85 = .ok (.iload_n 1, 1) := by decide +kernel
theorem dMO_choose_86 : decode cMO_choose 86 = .ok (.istore_n 1, 1) := by decide +kernel
theorem dMO_choose_87 : decode cMO_choose 87 = .ok (.iinc 2 1, 3) := by decide +kernel
theorem dMO_choose_90 : decode cMO_choose 90 = .ok (.goto (-81), 3) := by decide +kernel
theorem dMO_choose_93 : decode cMO_choose 93 = .ok (.iload_n 1, 1) := by decide +kernel
theorem dMO_choose_94 : decode cMO_choose 94 = .ok (.ireturn, 1) := by decide +kernel
theorem dMO_put_0 : decode cMO_put 0 = .ok (.aload_n 0, 1) := by decide +kernel
theorem dMO_put_1 : decode cMO_put 1 = .ok (.iconst 0, 1) := by decide +kernel
theorem dMO_put_2 : decode cMO_put 2 = .ok (.putfield 55, 3) := by decide +kernel
theorem dMO_put_5 : decode cMO_put 5 = .ok (.aload_n 0, 1) := by decide +kernel
theorem dMO_put_6 : decode cMO_put 6 = .ok (.invokevirtual 97, 3) := by decide +kernel
theorem dMO_put_9 : decode cMO_put 9 = .ok (.aload_n 0, 1) := by decide +kernel
theorem dMO_put_10 : decode cMO_put 10 = .ok (.invokevirtual 104, 3) := by decide +kernel
theorem dMO_put_13 : decode cMO_put 13 = .ok (.iconst 0, 1) := by decide +kernel
theorem dMO_put_14 : decode cMO_put 14 = .ok (.istore_n 2, 1) := by decide +kernel
theorem dMO_put_15 : decode cMO_put 15 = .ok (.iload_n 2, 1) := by decide +kernel
theorem dMO_put_16 : decode cMO_put 16 = .ok (.sipush 144, 3) := by decide +kernel
theorem dMO_put_19 : decode cMO_put 19 = .ok (.if_icmp .ge 20, 3) := by decide +kernel
theorem dMO_put_22 : decode cMO_put 22 = .ok (.aload_n 0, 1) := by decide +kernel
theorem dMO_put_23 : decode cMO_put 23 = .ok (.getfield 38, 3) := by decide +kernel
theorem dMO_put_26 : decode cMO_put 26 = .ok (.iload_n 2, 1) := by decide +kernel
theorem dMO_put_27 : decode cMO_put 27 = .ok (.aload_n 0, 1) := by decide +kernel
theorem dMO_put_28 : decode cMO_put 28 = .ok (.iload_n 2, 1) := by decide +kernel
theorem dMO_put_29 : decode cMO_put 29 = .ok (.invokevirtual 110, 3) := by decide +kernel
theorem dMO_put_32 : decode cMO_put 32 = .ok (.bastore, 1) := by decide +kernel
theorem dMO_put_33 : decode cMO_put 33 = .ok (.iinc 2 1, 3) := by decide +kernel
theorem dMO_put_36 : decode cMO_put 36 = .ok (.goto (-21), 3) := by decide +kernel
theorem dMO_put_39 : decode cMO_put 39 = .ok (.iconst 0, 1) := by decide +kernel
theorem dMO_put_40 : decode cMO_put 40 = .ok (.istore_n 2, 1) := by decide +kernel
theorem dMO_put_41 : decode cMO_put 41 = .ok (.iload_n 2, 1) := by decide +kernel
theorem dMO_put_42 : decode cMO_put 42 = .ok (.aload_n 0, 1) := by decide +kernel
theorem dMO_put_43 : decode cMO_put 43 = .ok (.getfield 114, 3) := by decide +kernel
theorem dMO_put_46 : decode cMO_put 46 = .ok (.if_icmp .ge 35, 3) := by decide +kernel
theorem dMO_put_49 : decode cMO_put 49 = .ok (.iload_n 1, 1) := by decide +kernel
theorem dMO_put_50 : decode cMO_put 50 = .ok (.iload_n 2, 1) := by decide +kernel
theorem dMO_put_51 : decode cMO_put 51 = .ok (.ishr, 1) := by decide +kernel
theorem dMO_put_52 : decode cMO_put 52 = .ok (.iconst 1, 1) := by decide +kernel
theorem dMO_put_53 : decode cMO_put 53 = .ok (.iand, 1) := by decide +kernel
theorem dMO_put_54 : decode cMO_put 54 = .ok (.iconst 1, 1) := by decide +kernel
theorem dMO_put_55 : decode cMO_put 55 = .ok (.if_icmp .ne 20, 3) := by decide +kernel
theorem dMO_put_58 : decode cMO_put 58 = .ok (.aload_n 0, 1) := by decide +kernel
theorem dMO_put_59 : decode cMO_put 59 = .ok (.getfield 13, 3) := by decide +kernel
theorem dMO_put_62 : decode cMO_put 62 = .ok (.aload_n 0, 1) := by decide +kernel
theorem dMO_put_63 : decode cMO_put 63 = .ok (.getfield 23, 3) := by decide +kernel
theorem dMO_put_66 : decode cMO_put 66 = .ok (.iload_n 2, 1) := by decide +kernel
theorem dMO_put_67 : decode cMO_put 67 = .ok (.iaload, 1) := by decide +kernel
theorem dMO_put_68 : decode cMO_put 68 = .ok (.aload_n 0, 1) := by decide +kernel
theorem dMO_put_69 : decode cMO_put 69 = .ok (.getfield 26, 3) := by decide +kernel
theorem dMO_put_72 : decode cMO_put 72 = .ok (.iload_n 2, 1) := by decide +kernel
theorem dMO_put_73 : decode cMO_put 73 = .ok (.iaload, 1) := by decide +kernel
theorem dMO_put_74 : decode cMO_put 74 = .ok (.iastore, 1) := by decide +kernel
theorem dMO_put_75 : decode cMO_put 75 = .ok (.iinc 2 1, 3) := by decide +kernel
theorem dMO_put_78 : decode cMO_put 78 = .ok (.goto (-37), 3) := by decide +kernel
theorem dMO_put_81 : decode cMO_put 81 = .ok (.aload_n 0, 1) := by decide +kernel
theorem dMO_put_82 : decode cMO_put 82 = .ok (.invokevirtual 97, 3) := by decide +kernel
theorem dMO_put_85 : decode cMO_put 85 = .ok (.aload_n 0, 1) := by decide +kernel
theorem dMO_put_86 : decode cMO_put 86 = .ok (.invokevirtual 104, 3) := by decide +kernel
theorem dMO_put_89 : decode cMO_put 89 = .ok (.iconst 0, 1) := by decide +kernel
theorem dMO_put_90 : decode cMO_put 90 = .ok (.istore_n 2, 1) := by decide +kernel
theorem dMO_put_91 : decode cMO_put 91 = .ok (.iconst 0, 1) := by decide +kernel
theorem dMO_put_92 : decode cMO_put 92 = .ok (.istore_n 3, 1) := by decide +kernel
theorem dMO_put_93 : decode cMO_put 93 = .ok (.iload_n 3, 1) := by decide +kernel
theorem dMO_put_94 : decode cMO_put 94 = .ok (.sipush 144, 3) := by decide +kernel
theorem dMO_put_97 : decode cMO_put 97 = .ok (.if_icmp .ge 31, 3) := by decide +kernel
theorem dMO_put_100 : decode cMO_put 100 = .ok (.iload_n 2, 1) := by decide +kernel
theorem dMO_put_101 : decode cMO_put 101 = .ok (.aload_n 0, 1) := by decide +kernel
theorem dMO_put_102 : decode cMO_put 102 = .ok (.getfield 38, 3) := by decide +kernel
theorem dMO_put_105 : decode cMO_put 105 = .ok (.iload_n 3, 1) := by decide +kernel
theorem dMO_put_106 : decode cMO_put 106 = .ok (.baload, 1) := by decide +kernel
theorem dMO_put_107 : decode cMO_put 107 = .ok (.aload_n 0, 1) := by decide +kernel
theorem dMO_put_108 : decode cMO_put 108 = .ok (.iload_n 3, 1) := by decide +kernel
theorem dMO_put_109 : decode cMO_put 109 = .ok (.invokevirtual 110, 3) := by decide +kernel
theorem dMO_put_112 : decode cMO_put 112 = .ok (.if_icmp .eq 7, 3) := by decide +kernel
theorem dMO_put_115 : decode cMO_put 115 = .ok (.iconst 1, 1) := by decide +kernel
theorem dMO_put_116 : decode cMO_put 116 = .ok (.goto 4, 3) := by decide +kernel
theorem dMO_put_119 : decode cMO_put 119 = .ok (.iconst 0, 1) := by decide +kernel
theorem dMO_put_120 : decode cMO_put 120 = .ok (.iadd, 1) := by decide +kernel
theorem dMO_put_121 : decode cMO_put 121 = .ok (.istore_n 2, 1) := by decide +kernel
theorem dMO_put_122 : decode cMO_put 122 = .ok (.iinc 3 1, 3) := by decide +kernel
theorem dMO_put_125 : decode cMO_put 125 = .ok (.goto (-32), 3) := by decide +kernel
theorem dMO_put_128 : decode cMO_put 128 = .ok (.iload_n 2, 1) := by decide +kernel
theorem dMO_put_129 : decode cMO_put 129 = .ok (.ireturn, 1) := by decide +kernel
theorem dBA_init_0 : decode cBA_init 0 = .ok (.aload_n 0, 1) := by decide +kernel
theorem dBA_init_1 : decode cBA_init 1 = .ok (.invokespecial 3, 3) := by decide +kernel
theorem dBA_init_4 : decode cBA_init 4 = .ok (.aload_n 0, 1) := by decide +kernel
theorem dBA_init_5 : decode cBA_init 5 = .ok (.iconst 0, 1) := by decide +kernel
theorem dBA_init_6 : decode cBA_init 6 = .ok (.putfield 9, 3) := by decide +kernel
theorem dBA_init_9 : decode cBA_init 9 = .ok (.aload_n 0, 1) := by decide +kernel
theorem dBA_init_10 : decode cBA_init 10 = .ok (.aload_n 1, 1) := by decide +kernel
theorem dBA_init_11 : decode cBA_init 11 = .ok (.putfield 15, 3) := by decide +kernel
theorem dBA_init_14 : decode cBA_init 14 = .ok (.aload_n 0, 1) := by decide +kernel
theorem dBA_init_15 : decode cBA_init 15 = .ok (.iload_n 2, 1) := by decide +kernel
theorem dBA_init_16 : decode cBA_init 16 = .ok (.putfield 19, 3) := by decide +kernel
theorem dBA_init_19 : decode cBA_init 19 = .ok (.aload_n 0, 1) := by decide +kernel
theorem dBA_init_20 : decode cBA_init 20 = .ok (.iload_n 2, 1) := by decide +kernel
theorem dBA_init_21 : decode cBA_init 21 = .ok (.ldc 24, 2) := by decide +kernel
theorem dBA_init_23 : decode cBA_init 23 = .ok (.imul, 1) := by decide +kernel
theorem dBA_init_24 : decode cBA_init 24 = .ok (.putfield 25, 3) := by decide +kernel
theorem dBA_init_27 : decode cBA_init 27 = .ok (.aload_n 0, 1) := by decide +kernel
theorem dBA_init_28 : decode cBA_init 28 = .ok (.aload_n 1, 1) := by decide +kernel
theorem dBA_init_29 : decode cBA_init 29 = .ok (.getfield 28, 3) := by decide +kernel
theorem dBA_init_32 : decode cBA_init 32 = .ok (.iconst 2, 1) := by decide +kernel
theorem dBA_init_33 : decode cBA_init 33 = .ok (.iload_n 2, 1) := by decide +kernel
theorem dBA_init_34 : decode cBA_init 34 = .ok (.imul, 1) := by decide +kernel
theorem dBA_init_35 : decode cBA_init 35 = .ok (.iadd, 1) := by decide +kernel
theorem dBA_init_36 : decode cBA_init 36 = .ok (.putfield 33, 3) := by decide +kernel
theorem dBA_init_39 : decode cBA_init 39 = .ok (.aload_n 0, 1) := by decide +kernel
theorem dBA_init_40 : decode cBA_init 40 = .ok (.new 36, 3) := by decide +kernel
theorem dBA_init_43 : decode cBA_init 43 = .ok (.dup, 1) := by decide +kernel
theorem dBA_init_44 : decode cBA_init 44 = .ok (.iload_n 2, 1) := by decide +kernel
theorem dBA_init_45 : decode cBA_init 45 = .ok (.aload_n 0, 1) := by decide +kernel
theorem dBA_init_46 : decode cBA_init 46 = .ok (.getfield 33, 3) := by decide +kernel
theorem dBA_init_49 : decode cBA_init 49 = .ok (.invokespecial 38, 3) := by decide +kernel
theorem dBA_init_52 : decode cBA_init 52 = .ok (.putfield 41, 3) := by decide +kernel
theorem dBA_init_55 : decode cBA_init 55 = .ok (.aload_n 0, 1) := by decide +kernel
theorem dBA_init_56 : decode cBA_init 56 = .ok (.aload_n 1, 1) := by decide +kernel
theorem dBA_init_57 : decode cBA_init 57 = .ok (.getfield 45, 3) := by decide +kernel
theorem dBA_init_60 : decode cBA_init 60 = .ok (.newarray .int, 2) := by decide +kernel
theorem dBA_init_62 : decode cBA_init 62 = .ok (.putfield 48, 3) := by decide +kernel
theorem dBA_init_65 : decode cBA_init 65 = .ok (.aload_n 0, 1) := by decide +kernel
theorem dBA_init_66 : decode cBA_init 66 = .ok (.aload_n 1, 1) := by decide +kernel
theorem dBA_init_67 : decode cBA_init 67 = .ok (.getfield 45, 3) := by decide +kernel
theorem dBA_init_70 : decode cBA_init 70 = .ok (.newarray .int, 2) := by decide +kernel
theorem dBA_init_72 : decode cBA_init 72 = .ok (.putfield 52, 3) := by decide +kernel
theorem dBA_init_75 : decode cBA_init 75 = .ok (.aload_n 0, 1) := by decide +kernel
theorem dBA_init_76 : decode cBA_init 76 = .ok (.aload_n 1, 1) := by decide +kernel
theorem dBA_init_77 : decode cBA_init 77 = .ok (.getfield 45, 3) := by decide +kernel
theorem dBA_init_80 : decode cBA_init 80 = .ok (.newarray .int, 2) := by decide +kernel
theorem dBA_init_82 : decode cBA_init 82 = .ok (.putfield 55, 3) := by decide +kernel
theorem dBA_init_85 : decode cBA_init 85 = .ok (.aload_n 0, 1) := by decide +kernel
theorem dBA_init_86 : decode cBA_init 86 = .ok (.aload_n 0, 1) := by decide +kernel
theorem dBA_init_87 : decode cBA_init 87 = .ok (.getfield 33, 3) := by decide +kernel
theorem dBA_init_90 : decode cBA_init 90 = .ok (.aload_n 1, 1) := by decide +kernel
theorem dBA_init_91 : decode cBA_init 91 = .ok (.getfield 58, 3) := by decide +kernel
theorem dBA_init_94 : decode cBA_init 94 = .ok (.iconst 2, 1) := by decide +kernel
theorem dBA_init_95 : decode cBA_init 95 = .ok (.iload_n 2, 1) := by decide +kernel
theorem dBA_init_96 : decode cBA_init 96 = .ok (.imul, 1) := by decide +kernel
theorem dBA_init_97 : decode cBA_init 97 = .ok (.iadd, 1) := by decide +kernel
theorem dBA_init_98 : decode cBA_init 98 = .ok (.imul, 1) := by decide +kernel
theorem dBA_init_99 : decode cBA_init 99 = .ok (.newarray .int, 2) := by decide +kernel
theorem dBA_init_101 : decode cBA_init 101 = .ok (.putfield 61, 3) := by decide +kernel
theorem dBA_init_104 : decode cBA_init 104 = .ok (.aload_n 0, 1) := by decide +kernel
theorem dBA_init_105 : decode cBA_init 105 = .ok (.aload_n 0, 1) := by decide +kernel
theorem dBA_init_106 : decode cBA_init 106 = .ok (.getfield 61, 3) := by decide +kernel
theorem dBA_init_109 : decode cBA_init 109 = .ok (.arraylength, 1) := by decide +kernel
theorem dBA_init_110 : decode cBA_init 110 = .ok (.newarray .int, 2) := by decide +kernel
theorem dBA_init_112 : decode cBA_init 112 = .ok (.putfield 64, 3) := by decide +kernel
theorem dBA_init_115 : decode cBA_init 115 = .ok (.aload_n 0, 1) := by decide +kernel
theorem dBA_init_116 : decode cBA_init 116 = .ok (.aload_n 0, 1) := by decide +kernel
theorem dBA_init_117 : decode cBA_init 117 = .ok (.getfield 61, 3) := by decide +kernel
theorem dBA_init_120 : decode cBA_init 120 = .ok (.arraylength, 1) := by decide +kernel
theorem dBA_init_121 : decode cBA_init 121 = .ok (.newarray .int, 2) := by decide +kernel
theorem dBA_init_123 : decode cBA_init 123 = .ok (.putfield 67, 3) := by decide +kernel
theorem dBA_init_126 : decode cBA_init 126 = .ok (.aload_n 0, 1) := by decide +kernel
theorem dBA_init_127 : decode cBA_init 127 = .ok (.getfield 61, 3) := by decide +kernel
theorem dBA_init_130 : decode cBA_init 130 = .ok (.aload_n 0, 1) := by decide +kernel
theorem dBA_init_131 : decode cBA_init 131 = .ok (.getfield 25, 3) := by decide +kernel
theorem dBA_init_134 : decode cBA_init 134 = .ok (.invokestatic 70, 3) := by decide +kernel
theorem dBA_init_137 : decode cBA_init 137 = .ok (.aload_n 0, 1) := by decide +kernel
theorem dBA_init_138 : decode cBA_init 138 = .ok (.getfield 64, 3) := by decide +kernel
theorem dBA_init_141 : decode cBA_init 141 = .ok (.iconst (-1), 1) := by decide +kernel
theorem dBA_init_142 : decode cBA_init 142 = .ok (.invokestatic 70, 3) := by decide +kernel
theorem dBA_init_145 : decode cBA_init 145 = .ok (.iconst 0, 1) := by decide +kernel
theorem dBA_init_146 : decode cBA_init 146 = .ok (.istore_n 3, 1) := by decide +kernel
theorem dBA_init_147 : decode cBA_init 147 = .ok (.iload_n 3, 1) := by decide +kernel
theorem dBA_init_148 : decode cBA_init 148 = .ok (.aload_n 1, 1) := by decide +kernel
theorem dBA_init_149 : decode cBA_init 149 = .ok (.getfield 45, 3) := by decide +kernel
theorem dBA_init_152 : decode cBA_init 152 = .ok (.if_icmp .ge 58, 3) := by decide +kernel
theorem dBA_init_155 : decode cBA_init 155 = .ok (.aload_n 0, 1) := by decide +kernel
theorem dBA_init_156 : decode cBA_init 156 = .ok (.aload_n 1, 1) := by decide +kernel
theorem dBA_init_157 : decode cBA_init 157 = .ok (.getfield 76, 3) := by decide +kernel
theorem dBA_init_160 : decode cBA_init 160 = .ok (.iload_n 3, 1) := by decide +kernel
theorem dBA_init_161 : decode cBA_init 161 = .ok (.iaload, 1) := by decide +kernel
theorem dBA_init_162 : decode cBA_init 162 = .ok (.aload_n 1, 1) := by decide +kernel
theorem dBA_init_163 : decode cBA_init 163 = .ok (.getfield 79, 3) := by decide +kernel
theorem dBA_init_166 : decode cBA_init 166 = .ok (.iload_n 3, 1) := by decide +kernel
theorem dBA_init_167 : decode cBA_init 167 = .ok (.iaload, 1) := by decide +kernel
theorem dBA_init_168 : decode cBA_init 168 = .ok (.invokevirtual 82, 3) := by decide +kernel
theorem dBA_init_171 : decode cBA_init 171 = .ok (.istore 4, 2) := by decide +kernel
theorem dBA_init_173 : decode cBA_init 173 = .ok (.aload_n 0, 1) := by decide +kernel
theorem dBA_init_174 : decode cBA_init 174 = .ok (.getfield 48, 3) := by decide +kernel
theorem dBA_init_177 : decode cBA_init 177 = .ok (.iload_n 3, 1) := by decide +kernel
theorem dBA_init_178 : decode cBA_init 178 = .ok (.iload 4, 2) := by decide +kernel
theorem dBA_init_180 : decode cBA_init 180 = .ok (.iastore, 1) := by decide +kernel
theorem dBA_init_181 : decode cBA_init 181 = .ok (.aload_n 0, 1) := by decide +kernel
theorem dBA_init_182 : decode cBA_init 182 = .ok (.getfield 64, 3) := by decide +kernel
theorem dBA_init_185 : decode cBA_init 185 = .ok (.iload 4, 2) := by decide +kernel
theorem dBA_init_187 : decode cBA_init 187 = .ok (.iload_n 3, 1) := by decide +kernel
theorem dBA_init_188 : decode cBA_init 188 = .ok (.iastore, 1) := by decide +kernel
theorem dBA_init_189 : decode cBA_init 189 = .ok (.aload_n 0, 1) := by decide +kernel
theorem dBA_init_190 : decode cBA_init 190 = .ok (.getfield 67, 3) := by decide +kernel
theorem dBA_init_193 : decode cBA_init 193 = .ok (.iload 4, 2) := by decide +kernel
theorem dBA_init_195 : decode cBA_init 195 = .ok (.iconst 1, 1) := by decide +kernel
theorem dBA_init_196 : decode cBA_init 196 = .ok (.iastore, 1) := by decide +kernel
theorem dBA_init_197 : decode cBA_init 197 = .ok (.aload_n 0, 1) := by decide +kernel
theorem dBA_init_198 : decode cBA_init 198 = .ok (.getfield 52, 3) := by decide +kernel
theorem dBA_init_201 : decode cBA_init 201 = .ok (.iload_n 3, 1) := by decide +kernel
theorem dBA_init_202 : decode cBA_init 202 = .ok (.iconst 1, 1) := by decide +kernel
theorem dBA_init_203 : decode cBA_init 203 = .ok (.iastore, 1) := by decide +kernel
theorem dBA_init_204 : decode cBA_init 204 = .ok (.iinc 3 1, 3) := by decide +kernel
theorem dBA_init_207 : decode cBA_init 207 = .ok (.goto (-60), 3) := by decide +kernel
theorem dBA_init_210 : decode cBA_init 210 = .ok (.return_, 1) := by decide +kernel
theorem dBA_restAt_0 : decode cBA_restAt 0 = .ok (.aload_n 0, 1) := by decide +kernel
theorem dBA_restAt_1 : decode cBA_restAt 1 = .ok (.getfield 61, 3) := by decide +kernel
theorem dBA_restAt_4 : decode cBA_restAt 4 = .ok (.aload_n 0, 1) := by decide +kernel
theorem dBA_restAt_5 : decode cBA_restAt 5 = .ok (.iload_n 1, 1) := by decide +kernel
theorem dBA_restAt_6 : decode cBA_restAt 6 = .ok (.iload_n 2, 1) := by decide +kernel
theorem dBA_restAt_7 : decode cBA_restAt 7 = .ok (.invokevirtual 82, 3) := by decide +kernel
theorem dBA_restAt_10 : decode cBA_restAt 10 = .ok (.iaload, 1) := by decide +kernel
theorem dBA_restAt_11 : decode cBA_restAt 11 = .ok (.ireturn, 1) := by decide +kernel
theorem dBA_countTouched_0 : decode cBA_countTouched 0 = .ok (.aload_n 0, 1) := by decide +kernel
theorem dBA_countTouched_1 : decode cBA_countTouched 1 = .ok (.getfield 67, 3) := by decide +kernel
theorem dBA_countTouched_4 : decode cBA_countTouched 4 = .ok (.aload_n 0, 1) := by decide +kernel
theorem dBA_countTouched_5 : decode cBA_countTouched 5 = .ok (.iload_n 1, 1) := by decide +kernel
theorem dBA_countTouched_6 : decode cBA_countTouched 6 = .ok (.iload_n 2, 1) := by decide +kernel
theorem dBA_countTouched_7 : decode cBA_countTouched 7 = .ok (.invokevirtual 82, 3) := by decide +kernel
theorem dBA_countTouched_10 : decode cBA_countTouched 10 = .ok (.iaload, 1) := by decide +kernel
theorem dBA_countTouched_11 : decode cBA_countTouched 11 = .ok (.ireturn, 1) := by decide +kernel
theorem dBA_listTouched_0 : decode cBA_listTouched 0 = .ok (.aload_n 0, 1) := by decide +kernel
theorem dBA_listTouched_1 : decode cBA_listTouched 1 = .ok (.aload_n 0, 1) := by decide +kernel
theorem dBA_listTouched_2 : decode cBA_listTouched 2 = .ok (.getfield 15, 3) := by decide +kernel
theorem dBA_listTouched_5 : decode cBA_listTouched 5 = .ok (.getfield 86, 3) := by decide +kernel
theorem dBA_listTouched_8 : decode cBA_listTouched 8 = .ok (.iload_n 1, 1) := by decide +kernel
theorem dBA_listTouched_9 : decode cBA_listTouched 9 = .ok (.iload_n 2, 1) := by decide +kernel
theorem dBA_listTouched_10 : decode cBA_listTouched 10 = .ok (.aload_n 0, 1) := by decide +kernel
theorem dBA_listTouched_11 : decode cBA_listTouched 11 = .ok (.iload_n 1, 1) := by decide +kernel
theorem dBA_listTouched_12 : decode cBA_listTouched 12 = .ok (.iload_n 2, 1) := by decide +kernel
theorem dBA_listTouched_13 : decode cBA_listTouched 13 = .ok (.invokevirtual 89, 3) := by decide +kernel
theorem dBA_listTouched_16 : decode cBA_listTouched 16 = .ok (.invokevirtual 92, 3) := by decide +kernel
theorem dBA_listTouched_19 : decode cBA_listTouched 19 = .ok (.pop, 1) := by decide +kernel
theorem dBA_listTouched_20 : decode cBA_listTouched 20 = .ok (.return_, 1) := by decide +kernel
theorem dBA_isSafe_0 : decode cBA_isSafe 0 = .ok (.aload_n 0, 1) := by decide +kernel
theorem dBA_isSafe_1 : decode cBA_isSafe 1 = .ok (.getfield 52, 3) := by decide +kernel
theorem dBA_isSafe_4 : decode cBA_isSafe 4 = .ok (.iload_n 1, 1) := by decide +kernel
theorem dBA_isSafe_5 : decode cBA_isSafe 5 = .ok (.iaload, 1) := by decide +kernel
theorem dBA_isSafe_6 : decode cBA_isSafe 6 = .ok (.ifCond .ne 7, 3) := by decide +kernel
theorem dBA_isSafe_9 : decode cBA_isSafe 9 = .ok (.iconst 1, 1) := by decide +kernel
theorem dBA_isSafe_10 : decode cBA_isSafe 10 = .ok (.goto 4, 3) := by decide +kernel
theorem dBA_isSafe_13 : decode cBA_isSafe 13 = .ok (.iconst 0, 1) := by decide +kernel
theorem dBA_isSafe_14 : decode cBA_isSafe 14 = .ok (.ireturn, 1) := by decide +kernel
theorem dBA_countHighestPlaces_0 : decode cBA_countHighestPlaces 0 = .ok (.iconst 0, 1) := by decide +kernel
theorem dBA_countHighestPlaces_1 : decode cBA_countHighestPlaces 1 = .ok (.istore_n 1, 1) := by decide +kernel
theorem dBA_countHighestPlaces_2 : decode cBA_countHighestPlaces 2 = .ok (.iconst 0, 1) := by decide +kernel
theorem dBA_countHighestPlaces_3 : decode cBA_countHighestPlaces 3 = .ok (.istore_n 2, 1) := by decide +kernel
