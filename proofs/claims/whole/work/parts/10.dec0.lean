theorem dRB_init_0 : decode cRB_init 0 = .ok (.aload_n 0, 1) := by decide +kernel
theorem dRB_init_1 : decode cRB_init 1 = .ok (.invokespecial 1, 3) := by decide +kernel
theorem dRB_init_4 : decode cRB_init 4 = .ok (.aload_n 0, 1) := by decide +kernel
theorem dRB_init_5 : decode cRB_init 5 = .ok (.iload_n 1, 1) := by decide +kernel
theorem dRB_init_6 : decode cRB_init 6 = .ok (.iconst 1, 1) := by decide +kernel
theorem dRB_init_7 : decode cRB_init 7 = .ok (.bipush 12, 2) := by decide +kernel
theorem dRB_init_9 : decode cRB_init 9 = .ok (.invokestatic 9, 3) := by decide +kernel
theorem dRB_init_12 : decode cRB_init 12 = .ok (.putfield 13, 3) := by decide +kernel
theorem dRB_init_15 : decode cRB_init 15 = .ok (.aload_n 0, 1) := by decide +kernel
theorem dRB_init_16 : decode cRB_init 16 = .ok (.iload_n 2, 1) := by decide +kernel
theorem dRB_init_17 : decode cRB_init 17 = .ok (.iconst 1, 1) := by decide +kernel
theorem dRB_init_18 : decode cRB_init 18 = .ok (.bipush 12, 2) := by decide +kernel
theorem dRB_init_20 : decode cRB_init 20 = .ok (.invokestatic 9, 3) := by decide +kernel
theorem dRB_init_23 : decode cRB_init 23 = .ok (.putfield 17, 3) := by decide +kernel
theorem dRB_init_26 : decode cRB_init 26 = .ok (.aload_n 0, 1) := by decide +kernel
theorem dRB_init_27 : decode cRB_init 27 = .ok (.iload_n 3, 1) := by decide +kernel
theorem dRB_init_28 : decode cRB_init 28 = .ok (.iconst 1, 1) := by decide +kernel
theorem dRB_init_29 : decode cRB_init 29 = .ok (.bipush 10, 2) := by decide +kernel
theorem dRB_init_31 : decode cRB_init 31 = .ok (.invokestatic 9, 3) := by decide +kernel
theorem dRB_init_34 : decode cRB_init 34 = .ok (.putfield 20, 3) := by decide +kernel
theorem dRB_init_37 : decode cRB_init 37 = .ok (.aload_n 0, 1) := by decide +kernel
theorem dRB_init_38 : decode cRB_init 38 = .ok (.new 23, 3) := by decide +kernel
theorem dRB_init_41 : decode cRB_init 41 = .ok (.dup, 1) := by decide +kernel
theorem dRB_init_42 : decode cRB_init 42 = .ok (.aload_n 0, 1) := by decide +kernel
theorem dRB_init_43 : decode cRB_init 43 = .ok (.getfield 13, 3) := by decide +kernel
theorem dRB_init_46 : decode cRB_init 46 = .ok (.aload_n 0, 1) := by decide +kernel
theorem dRB_init_47 : decode cRB_init 47 = .ok (.getfield 17, 3) := by decide +kernel
theorem dRB_init_50 : decode cRB_init 50 = .ok (.invokespecial 25, 3) := by decide +kernel
theorem dRB_init_53 : decode cRB_init 53 = .ok (.putfield 28, 3) := by decide +kernel
theorem dRB_init_56 : decode cRB_init 56 = .ok (.aload_n 0, 1) := by decide +kernel
theorem dRB_init_57 : decode cRB_init 57 = .ok (.new 32, 3) := by decide +kernel
theorem dRB_init_60 : decode cRB_init 60 = .ok (.dup, 1) := by decide +kernel
theorem dRB_init_61 : decode cRB_init 61 = .ok (.aload_n 0, 1) := by decide +kernel
theorem dRB_init_62 : decode cRB_init 62 = .ok (.getfield 28, 3) := by decide +kernel
theorem dRB_init_65 : decode cRB_init 65 = .ok (.aload_n 0, 1) := by decide +kernel
theorem dRB_init_66 : decode cRB_init 66 = .ok (.getfield 20, 3) := by decide +kernel
theorem dRB_init_69 : decode cRB_init 69 = .ok (.invokespecial 34, 3) := by decide +kernel
theorem dRB_init_72 : decode cRB_init 72 = .ok (.putfield 37, 3) := by decide +kernel
theorem dRB_init_75 : decode cRB_init 75 = .ok (.aload_n 0, 1) := by decide +kernel
theorem dRB_init_76 : decode cRB_init 76 = .ok (.new 41, 3) := by decide +kernel
theorem dRB_init_79 : decode cRB_init 79 = .ok (.dup, 1) := by decide +kernel
theorem dRB_init_80 : decode cRB_init 80 = .ok (.aload_n 0, 1) := by decide +kernel
theorem dRB_init_81 : decode cRB_init 81 = .ok (.getfield 28, 3) := by decide +kernel
theorem dRB_init_84 : decode cRB_init 84 = .ok (.aload_n 0, 1) := by decide +kernel
theorem dRB_init_85 : decode cRB_init 85 = .ok (.getfield 37, 3) := by decide +kernel
theorem dRB_init_88 : decode cRB_init 88 = .ok (.invokespecial 43, 3) := by decide +kernel
theorem dRB_init_91 : decode cRB_init 91 = .ok (.putfield 46, 3) := by decide +kernel
theorem dRB_init_94 : decode cRB_init 94 = .ok (.aload_n 0, 1) := by decide +kernel
theorem dRB_init_95 : decode cRB_init 95 = .ok (.aload_n 0, 1) := by decide +kernel
theorem dRB_init_96 : decode cRB_init 96 = .ok (.getfield 28, 3) := by decide +kernel
theorem dRB_init_99 : decode cRB_init 99 = .ok (.getfield 50, 3) := by decide +kernel
theorem dRB_init_102 : decode cRB_init 102 = .ok (.newarray .boolean, 2) := by decide +kernel
theorem dRB_init_104 : decode cRB_init 104 = .ok (.putfield 53, 3) := by decide +kernel
theorem dRB_init_107 : decode cRB_init 107 = .ok (.return_, 1) := by decide +kernel
theorem dRB_height_0 : decode cRB_height 0 = .ok (.aload_n 0, 1) := by decide +kernel
theorem dRB_height_1 : decode cRB_height 1 = .ok (.iload_n 1, 1) := by decide +kernel
theorem dRB_height_2 : decode cRB_height 2 = .ok (.iload_n 2, 1) := by decide +kernel
theorem dRB_height_3 : decode cRB_height 3 = .ok (.invokevirtual 57, 3) := by decide +kernel
theorem dRB_height_6 : decode cRB_height 6 = .ok (.istore 4, 2) := by decide +kernel
theorem dRB_height_8 : decode cRB_height 8 = .ok (.iload_n 3, 1) := by decide +kernel
theorem dRB_height_9 : decode cRB_height 9 = .ok (.iconst 0, 1) := by decide +kernel
theorem dRB_height_10 : decode cRB_height 10 = .ok (.sipush 200, 3) := by decide +kernel
theorem dRB_height_13 : decode cRB_height 13 = .ok (.invokestatic 61, 3) := by decide +kernel
theorem dRB_height_16 : decode cRB_height 16 = .ok (.aload_n 0, 1) := by decide +kernel
theorem dRB_height_17 : decode cRB_height 17 = .ok (.getfield 28, 3) := by decide +kernel
theorem dRB_height_20 : decode cRB_height 20 = .ok (.getfield 65, 3) := by decide +kernel
theorem dRB_height_23 : decode cRB_height 23 = .ok (.iload 4, 2) := by decide +kernel
theorem dRB_height_25 : decode cRB_height 25 = .ok (.iaload, 1) := by decide +kernel
theorem dRB_height_26 : decode cRB_height 26 = .ok (.istore 5, 2) := by decide +kernel
theorem dRB_height_28 : decode cRB_height 28 = .ok (.aload_n 0, 1) := by decide +kernel
theorem dRB_height_29 : decode cRB_height 29 = .ok (.getfield 28, 3) := by decide +kernel
theorem dRB_height_32 : decode cRB_height 32 = .ok (.getfield 65, 3) := by decide +kernel
theorem dRB_height_35 : decode cRB_height 35 = .ok (.iload 4, 2) := by decide +kernel
theorem dRB_height_37 : decode cRB_height 37 = .ok (.iload_n 3, 1) := by decide +kernel
theorem dRB_height_38 : decode cRB_height 38 = .ok (.iastore, 1) := by decide +kernel
theorem dRB_height_39 : decode cRB_height 39 = .ok (.aload_n 0, 1) := by decide +kernel
theorem dRB_height_40 : decode cRB_height 40 = .ok (.getfield 37, 3) := by decide +kernel
theorem dRB_height_43 : decode cRB_height 43 = .ok (.iload 4, 2) := by decide +kernel
theorem dRB_height_45 : decode cRB_height 45 = .ok (.aload_n 0, 1) := by decide +kernel
theorem dRB_height_46 : decode cRB_height 46 = .ok (.getfield 28, 3) := by decide +kernel
theorem dRB_height_49 : decode cRB_height 49 = .ok (.iload 4, 2) := by decide +kernel
theorem dRB_height_51 : decode cRB_height 51 = .ok (.aload_n 0, 1) := by decide +kernel
theorem dRB_height_52 : decode cRB_height 52 = .ok (.getfield 28, 3) := by decide +kernel
theorem dRB_height_55 : decode cRB_height 55 = .ok (.getfield 69, 3) := by decide +kernel
theorem dRB_height_58 : decode cRB_height 58 = .ok (.iload 4, 2) := by decide +kernel
theorem dRB_height_60 : decode cRB_height 60 = .ok (.iaload, 1) := by decide +kernel
theorem dRB_height_61 : decode cRB_height 61 = .ok (.invokevirtual 72, 3) := by decide +kernel
theorem dRB_height_64 : decode cRB_height 64 = .ok (.invokevirtual 75, 3) := by decide +kernel
theorem dRB_height_67 : decode cRB_height 67 = .ok (.iload 5, 2) := by decide +kernel
theorem dRB_height_69 : decode cRB_height 69 = .ok (.ireturn, 1) := by decide +kernel
theorem dRB_rod_0 : decode cRB_rod 0 = .ok (.aload_n 0, 1) := by decide +kernel
theorem dRB_rod_1 : decode cRB_rod 1 = .ok (.iload_n 1, 1) := by decide +kernel
theorem dRB_rod_2 : decode cRB_rod 2 = .ok (.iload_n 2, 1) := by decide +kernel
theorem dRB_rod_3 : decode cRB_rod 3 = .ok (.invokevirtual 57, 3) := by decide +kernel
theorem dRB_rod_6 : decode cRB_rod 6 = .ok (.istore 4, 2) := by decide +kernel
theorem dRB_rod_8 : decode cRB_rod 8 = .ok (.iload_n 3, 1) := by decide +kernel
theorem dRB_rod_9 : decode cRB_rod 9 = .ok (.iconst 0, 1) := by decide +kernel
theorem dRB_rod_10 : decode cRB_rod 10 = .ok (.bipush 50, 2) := by decide +kernel
theorem dRB_rod_12 : decode cRB_rod 12 = .ok (.invokestatic 61, 3) := by decide +kernel
theorem dRB_rod_15 : decode cRB_rod 15 = .ok (.aload_n 0, 1) := by decide +kernel
theorem dRB_rod_16 : decode cRB_rod 16 = .ok (.getfield 28, 3) := by decide +kernel
theorem dRB_rod_19 : decode cRB_rod 19 = .ok (.getfield 69, 3) := by decide +kernel
theorem dRB_rod_22 : decode cRB_rod 22 = .ok (.iload 4, 2) := by decide +kernel
theorem dRB_rod_24 : decode cRB_rod 24 = .ok (.iaload, 1) := by decide +kernel
theorem dRB_rod_25 : decode cRB_rod 25 = .ok (.istore 5, 2) := by decide +kernel
theorem dRB_rod_27 : decode cRB_rod 27 = .ok (.aload_n 0, 1) := by decide +kernel
theorem dRB_rod_28 : decode cRB_rod 28 = .ok (.iload 4, 2) := by decide +kernel
theorem dRB_rod_30 : decode cRB_rod 30 = .ok (.iload_n 3, 1) := by decide +kernel
theorem dRB_rod_31 : decode cRB_rod 31 = .ok (.invokevirtual 78, 3) := by decide +kernel
theorem dRB_rod_34 : decode cRB_rod 34 = .ok (.iload 5, 2) := by decide +kernel
theorem dRB_rod_36 : decode cRB_rod 36 = .ok (.ireturn, 1) := by decide +kernel
theorem dRB_rest_0 : decode cRB_rest 0 = .ok (.aload_n 0, 1) := by decide +kernel
theorem dRB_rest_1 : decode cRB_rest 1 = .ok (.iload_n 1, 1) := by decide +kernel
theorem dRB_rest_2 : decode cRB_rest 2 = .ok (.iload_n 2, 1) := by decide +kernel
theorem dRB_rest_3 : decode cRB_rest 3 = .ok (.invokevirtual 81, 3) := by decide +kernel
theorem dRB_rest_6 : decode cRB_rest 6 = .ok (.aload_n 0, 1) := by decide +kernel
theorem dRB_rest_7 : decode cRB_rest 7 = .ok (.getfield 37, 3) := by decide +kernel
theorem dRB_rest_10 : decode cRB_rest 10 = .ok (.iload_n 1, 1) := by decide +kernel
theorem dRB_rest_11 : decode cRB_rest 11 = .ok (.iload_n 2, 1) := by decide +kernel
theorem dRB_rest_12 : decode cRB_rest 12 = .ok (.invokevirtual 84, 3) := by decide +kernel
theorem dRB_rest_15 : decode cRB_rest 15 = .ok (.istore 4, 2) := by decide +kernel
theorem dRB_rest_17 : decode cRB_rest 17 = .ok (.iload_n 3, 1) := by decide +kernel
theorem dRB_rest_18 : decode cRB_rest 18 = .ok (.tableswitch 78 0 3 #[30, 36, 50, 60], 30) := by decide +kernel
theorem dRB_rest_48 : decode cRB_rest 48 = .ok (.iload 4, 2) := by decide +kernel
theorem dRB_rest_50 : decode cRB_rest 50 = .ok (.invokestatic 87, 3) := by decide +kernel
theorem dRB_rest_53 : decode cRB_rest 53 = .ok (.ireturn, 1) := by decide +kernel
theorem dRB_rest_54 : decode cRB_rest 54 = .ok (.iload 4, 2) := by decide +kernel
theorem dRB_rest_56 : decode cRB_rest 56 = .ok (.invokestatic 93, 3) := by decide +kernel
theorem dRB_rest_59 : decode cRB_rest 59 = .ok (.ifCond .eq 7, 3) := by decide +kernel
theorem dRB_rest_62 : decode cRB_rest 62 = .ok (.iconst 1, 1) := by decide +kernel
theorem dRB_rest_63 : decode cRB_rest 63 = .ok (.goto 4, 3) := by decide +kernel
theorem dRB_rest_66 : decode cRB_rest 66 = .ok (.iconst 0, 1) := by decide +kernel
theorem dRB_rest_67 : decode cRB_rest 67 = .ok (.ireturn, 1) := by decide +kernel
theorem dRB_rest_68 : decode cRB_rest 68 = .ok (.aload_n 0, 1) := by decide +kernel
theorem dRB_rest_69 : decode cRB_rest 69 = .ok (.getfield 37, 3) := by decide +kernel
theorem dRB_rest_72 : decode cRB_rest 72 = .ok (.iload_n 1, 1) := by decide +kernel
theorem dRB_rest_73 : decode cRB_rest 73 = .ok (.iload_n 2, 1) := by decide +kernel
theorem dRB_rest_74 : decode cRB_rest 74 = .ok (.invokevirtual 97, 3) := by decide +kernel
theorem dRB_rest_77 : decode cRB_rest 77 = .ok (.ireturn, 1) := by decide +kernel
theorem dRB_rest_78 : decode cRB_rest 78 = .ok (.iload 4, 2) := by decide +kernel
theorem dRB_rest_80 : decode cRB_rest 80 = .ok (.aload_n 0, 1) := by decide +kernel
theorem dRB_rest_81 : decode cRB_rest 81 = .ok (.getfield 37, 3) := by decide +kernel
theorem dRB_rest_84 : decode cRB_rest 84 = .ok (.getfield 100, 3) := by decide +kernel
theorem dRB_rest_87 : decode cRB_rest 87 = .ok (.if_icmp .ne 7, 3) := by decide +kernel
theorem dRB_rest_90 : decode cRB_rest 90 = .ok (.iconst 1, 1) := by decide +kernel
theorem dRB_rest_91 : decode cRB_rest 91 = .ok (.goto 4, 3) := by decide +kernel
theorem dRB_rest_94 : decode cRB_rest 94 = .ok (.iconst 0, 1) := by decide +kernel
theorem dRB_rest_95 : decode cRB_rest 95 = .ok (.ireturn, 1) := by decide +kernel
theorem dRB_rest_96 : decode cRB_rest 96 = .ok (.new 103, 3) := by decide +kernel
theorem dRB_rest_99 : decode cRB_rest 99 = .ok (.dup, 1) := by decide +kernel
theorem dRB_rest_100 : decode cRB_rest 100 = .ok (.ldc 105, 2) := by decide +kernel
theorem dRB_rest_102 : decode cRB_rest 102 = .ok (.invokespecial 107, 3) := by decide +kernel
theorem dRB_rest_105 : decode cRB_rest 105 = .ok (.athrow, 1) := by decide +kernel
theorem dRB_touched_0 : decode cRB_touched 0 = .ok (.aload_n 0, 1) := by decide +kernel
theorem dRB_touched_1 : decode cRB_touched 1 = .ok (.iload_n 1, 1) := by decide +kernel
theorem dRB_touched_2 : decode cRB_touched 2 = .ok (.iload_n 2, 1) := by decide +kernel
theorem dRB_touched_3 : decode cRB_touched 3 = .ok (.invokevirtual 81, 3) := by decide +kernel
theorem dRB_touched_6 : decode cRB_touched 6 = .ok (.iload_n 3, 1) := by decide +kernel
theorem dRB_touched_7 : decode cRB_touched 7 = .ok (.invokestatic 110, 3) := by decide +kernel
theorem dRB_touched_10 : decode cRB_touched 10 = .ok (.aload_n 0, 1) := by decide +kernel
theorem dRB_touched_11 : decode cRB_touched 11 = .ok (.getfield 37, 3) := by decide +kernel
theorem dRB_touched_14 : decode cRB_touched 14 = .ok (.iload_n 1, 1) := by decide +kernel
theorem dRB_touched_15 : decode cRB_touched 15 = .ok (.iload_n 2, 1) := by decide +kernel
theorem dRB_touched_16 : decode cRB_touched 16 = .ok (.invokevirtual 114, 3) := by decide +kernel
theorem dRB_touched_19 : decode cRB_touched 19 = .ok (.iload_n 3, 1) := by decide +kernel
theorem dRB_touched_20 : decode cRB_touched 20 = .ok (.aload_n 0, 1) := by decide +kernel
theorem dRB_touched_21 : decode cRB_touched 21 = .ok (.getfield 37, 3) := by decide +kernel
theorem dRB_touched_24 : decode cRB_touched 24 = .ok (.getfield 117, 3) := by decide +kernel
theorem dRB_touched_27 : decode cRB_touched 27 = .ok (.if_icmp .ge 19, 3) := by decide +kernel
theorem dRB_touched_30 : decode cRB_touched 30 = .ok (.aload_n 0, 1) := by decide +kernel
theorem dRB_touched_31 : decode cRB_touched 31 = .ok (.aload_n 0, 1) := by decide +kernel
theorem dRB_touched_32 : decode cRB_touched 32 = .ok (.getfield 37, 3) := by decide +kernel
theorem dRB_touched_35 : decode cRB_touched 35 = .ok (.getfield 120, 3) := by decide +kernel
theorem dRB_touched_38 : decode cRB_touched 38 = .ok (.iload_n 3, 1) := by decide +kernel
theorem dRB_touched_39 : decode cRB_touched 39 = .ok (.iaload, 1) := by decide +kernel
theorem dRB_touched_40 : decode cRB_touched 40 = .ok (.invokevirtual 123, 3) := by decide +kernel
theorem dRB_touched_43 : decode cRB_touched 43 = .ok (.goto 4, 3) := by decide +kernel
theorem dRB_touched_46 : decode cRB_touched 46 = .ok (.iconst (-1), 1) := by decide +kernel
theorem dRB_touched_47 : decode cRB_touched 47 = .ok (.ireturn, 1) := by decide +kernel
theorem dRB_higher_0 : decode cRB_higher 0 = .ok (.aload_n 0, 1) := by decide +kernel
theorem dRB_higher_1 : decode cRB_higher 1 = .ok (.iload_n 1, 1) := by decide +kernel
theorem dRB_higher_2 : decode cRB_higher 2 = .ok (.iload_n 2, 1) := by decide +kernel
theorem dRB_higher_3 : decode cRB_higher 3 = .ok (.invokevirtual 81, 3) := by decide +kernel
theorem dRB_higher_6 : decode cRB_higher 6 = .ok (.aload_n 0, 1) := by decide +kernel
theorem dRB_higher_7 : decode cRB_higher 7 = .ok (.iload_n 3, 1) := by decide +kernel
theorem dRB_higher_8 : decode cRB_higher 8 = .ok (.iload 4, 2) := by decide +kernel
theorem dRB_higher_10 : decode cRB_higher 10 = .ok (.invokevirtual 81, 3) := by decide +kernel
theorem dRB_higher_13 : decode cRB_higher 13 = .ok (.aload_n 0, 1) := by decide +kernel
theorem dRB_higher_14 : decode cRB_higher 14 = .ok (.getfield 37, 3) := by decide +kernel
theorem dRB_higher_17 : decode cRB_higher 17 = .ok (.iload_n 1, 1) := by decide +kernel
theorem dRB_higher_18 : decode cRB_higher 18 = .ok (.iload_n 2, 1) := by decide +kernel
theorem dRB_higher_19 : decode cRB_higher 19 = .ok (.invokevirtual 84, 3) := by decide +kernel
theorem dRB_higher_22 : decode cRB_higher 22 = .ok (.aload_n 0, 1) := by decide +kernel
theorem dRB_higher_23 : decode cRB_higher 23 = .ok (.getfield 37, 3) := by decide +kernel
theorem dRB_higher_26 : decode cRB_higher 26 = .ok (.iload_n 3, 1) := by decide +kernel
theorem dRB_higher_27 : decode cRB_higher 27 = .ok (.iload 4, 2) := by decide +kernel
theorem dRB_higher_29 : decode cRB_higher 29 = .ok (.invokevirtual 84, 3) := by decide +kernel
theorem dRB_higher_32 : decode cRB_higher 32 = .ok (.invokestatic 126, 3) := by decide +kernel
theorem dRB_higher_35 : decode cRB_higher 35 = .ok (.ireturn, 1) := by decide +kernel
theorem dRB_tops_0 : decode cRB_tops 0 = .ok (.aload_n 0, 1) := by decide +kernel
theorem dRB_tops_1 : decode cRB_tops 1 = .ok (.getfield 37, 3) := by decide +kernel
theorem dRB_tops_4 : decode cRB_tops 4 = .ok (.invokevirtual 131, 3) := by decide +kernel
theorem dRB_tops_7 : decode cRB_tops 7 = .ok (.ireturn, 1) := by decide +kernel
theorem dRB_hits_0 : decode cRB_hits 0 = .ok (.aload_n 0, 1) := by decide +kernel
theorem dRB_hits_1 : decode cRB_hits 1 = .ok (.getfield 37, 3) := by decide +kernel
theorem dRB_hits_4 : decode cRB_hits 4 = .ok (.getfield 135, 3) := by decide +kernel
theorem dRB_hits_7 : decode cRB_hits 7 = .ok (.aload_n 0, 1) := by decide +kernel
theorem dRB_hits_8 : decode cRB_hits 8 = .ok (.iload_n 1, 1) := by decide +kernel
theorem dRB_hits_9 : decode cRB_hits 9 = .ok (.iload_n 2, 1) := by decide +kernel
theorem dRB_hits_10 : decode cRB_hits 10 = .ok (.invokevirtual 57, 3) := by decide +kernel
theorem dRB_hits_13 : decode cRB_hits 13 = .ok (.iaload, 1) := by decide +kernel
theorem dRB_hits_14 : decode cRB_hits 14 = .ok (.ireturn, 1) := by decide +kernel
theorem dRB_safe_0 : decode cRB_safe 0 = .ok (.iload_n 1, 1) := by decide +kernel
theorem dRB_safe_1 : decode cRB_safe 1 = .ok (.invokestatic 110, 3) := by decide +kernel
theorem dRB_safe_4 : decode cRB_safe 4 = .ok (.iconst 0, 1) := by decide +kernel
theorem dRB_safe_5 : decode cRB_safe 5 = .ok (.istore_n 2, 1) := by decide +kernel
theorem dRB_safe_6 : decode cRB_safe 6 = .ok (.iconst 0, 1) := by decide +kernel
theorem dRB_safe_7 : decode cRB_safe 7 = .ok (.istore_n 3, 1) := by decide +kernel
theorem dRB_safe_8 : decode cRB_safe 8 = .ok (.iload_n 3, 1) := by decide +kernel
theorem dRB_safe_9 : decode cRB_safe 9 = .ok (.aload_n 0, 1) := by decide +kernel
theorem dRB_safe_10 : decode cRB_safe 10 = .ok (.getfield 28, 3) := by decide +kernel
theorem dRB_safe_13 : decode cRB_safe 13 = .ok (.getfield 50, 3) := by decide +kernel
theorem dRB_safe_16 : decode cRB_safe 16 = .ok (.if_icmp .ge 34, 3) := by decide +kernel
theorem dRB_safe_19 : decode cRB_safe 19 = .ok (.aload_n 0, 1) := by decide +kernel
theorem dRB_safe_20 : decode cRB_safe 20 = .ok (.getfield 37, 3) := by decide +kernel
theorem dRB_safe_23 : decode cRB_safe 23 = .ok (.iload_n 3, 1) := by decide +kernel
theorem dRB_safe_24 : decode cRB_safe 24 = .ok (.invokevirtual 138, 3) := by decide +kernel
theorem dRB_safe_27 : decode cRB_safe 27 = .ok (.ifCond .eq 17, 3) := by decide +kernel
theorem dRB_safe_30 : decode cRB_safe 30 = .ok (.iload_n 2, 1) := by decide +kernel
theorem dRB_safe_31 : decode cRB_safe 31 = .ok (.iload_n 1, 1) := by decide +kernel
theorem dRB_safe_32 : decode cRB_safe 32 = .ok (.if_icmp .ne 9, 3) := by decide +kernel
theorem dRB_safe_35 : decode cRB_safe 35 = .ok (.aload_n 0, 1) := by decide +kernel
theorem dRB_safe_36 : decode cRB_safe 36 = .ok (.iload_n 3, 1) := by decide +kernel
theorem dRB_safe_37 : decode cRB_safe 37 = .ok (.invokevirtual 123, 3) := by decide +kernel
theorem dRB_safe_40 : decode cRB_safe 40 = .ok (.ireturn, 1) := by decide +kernel
theorem dRB_safe_41 : decode cRB_safe 41 = .ok (.iinc 2 1, 3) := by decide +kernel
theorem dRB_safe_44 : decode cRB_safe 44 = .ok (.iinc 3 1, 3) := by decide +kernel
theorem dRB_safe_47 : decode cRB_safe 47 = .ok (.goto (-39), 3) := by decide +kernel
theorem dRB_safe_50 : decode cRB_safe 50 = .ok (.iconst (-1), 1) := by decide +kernel
theorem dRB_safe_51 : decode cRB_safe 51 = .ok (.ireturn, 1) := by decide +kernel
theorem dRB_cover_0 : decode cRB_cover 0 = .ok (.aload_n 0, 1) := by decide +kernel
theorem dRB_cover_1 : decode cRB_cover 1 = .ok (.getfield 37, 3) := by decide +kernel
theorem dRB_cover_4 : decode cRB_cover 4 = .ok (.aload_n 0, 1) := by decide +kernel
theorem dRB_cover_5 : decode cRB_cover 5 = .ok (.iload_n 1, 1) := by decide +kernel
theorem dRB_cover_6 : decode cRB_cover 6 = .ok (.iload_n 2, 1) := by decide +kernel
theorem dRB_cover_7 : decode cRB_cover 7 = .ok (.invokevirtual 57, 3) := by decide +kernel
theorem dRB_cover_10 : decode cRB_cover 10 = .ok (.invokevirtual 141, 3) := by decide +kernel
theorem dRB_cover_13 : decode cRB_cover 13 = .ok (.invokestatic 87, 3) := by decide +kernel
theorem dRB_cover_16 : decode cRB_cover 16 = .ok (.ireturn, 1) := by decide +kernel
theorem dRB_may_0 : decode cRB_may 0 = .ok (.aload_n 0, 1) := by decide +kernel
theorem dRB_may_1 : decode cRB_may 1 = .ok (.iload_n 1, 1) := by decide +kernel
theorem dRB_may_2 : decode cRB_may 2 = .ok (.iload_n 2, 1) := by decide +kernel
theorem dRB_may_3 : decode cRB_may 3 = .ok (.invokevirtual 57, 3) := by decide +kernel
theorem dRB_may_6 : decode cRB_may 6 = .ok (.istore 4, 2) := by decide +kernel
theorem dRB_may_8 : decode cRB_may 8 = .ok (.iload_n 3, 1) := by decide +kernel
theorem dRB_may_9 : decode cRB_may 9 = .ok (.iconst 1, 1) := by decide +kernel
theorem dRB_may_10 : decode cRB_may 10 = .ok (.bipush 50, 2) := by decide +kernel
theorem dRB_may_12 : decode cRB_may 12 = .ok (.invokestatic 61, 3) := by decide +kernel
theorem dRB_may_15 : decode cRB_may 15 = .ok (.aload_n 0, 1) := by decide +kernel
theorem dRB_may_16 : decode cRB_may 16 = .ok (.getfield 46, 3) := by decide +kernel
theorem dRB_may_19 : decode cRB_may 19 = .ok (.invokevirtual 144, 3) := by decide +kernel
theorem dRB_may_22 : decode cRB_may 22 = .ok (.ifCond .eq 13, 3) := by decide +kernel
theorem dRB_may_25 : decode cRB_may 25 = .ok (.new 148, 3) := by decide +kernel
theorem dRB_may_28 : decode cRB_may 28 = .ok (.dup, 1) := by decide +kernel
theorem dRB_may_29 : decode cRB_may 29 = .ok (.ldc 150, 2) := by decide +kernel
theorem dRB_may_31 : decode cRB_may 31 = .ok (.invokespecial 152, 3) := by decide +kernel
theorem dRB_may_34 : decode cRB_may 34 = .ok (.athrow, 1) := by decide +kernel
theorem dRB_may_35 : decode cRB_may 35 = .ok (.aload_n 0, 1) := by decide +kernel
theorem dRB_may_36 : decode cRB_may 36 = .ok (.getfield 46, 3) := by decide +kernel
theorem dRB_may_39 : decode cRB_may 39 = .ok (.iload 4, 2) := by decide +kernel
theorem dRB_may_41 : decode cRB_may 41 = .ok (.iload_n 3, 1) := by decide +kernel
theorem dRB_may_42 : decode cRB_may 42 = .ok (.invokevirtual 153, 3) := by decide +kernel
theorem dRB_may_45 : decode cRB_may 45 = .ok (.aload_n 0, 1) := by decide +kernel
theorem dRB_may_46 : decode cRB_may 46 = .ok (.getfield 46, 3) := by decide +kernel
theorem dRB_may_49 : decode cRB_may 49 = .ok (.getfield 156, 3) := by decide +kernel
theorem dRB_may_52 : decode cRB_may 52 = .ok (.ireturn, 1) := by decide +kernel
theorem dRB_forget_0 : decode cRB_forget 0 = .ok (.aload_n 0, 1) := by decide +kernel
theorem dRB_forget_1 : decode cRB_forget 1 = .ok (.getfield 46, 3) := by decide +kernel
theorem dRB_forget_4 : decode cRB_forget 4 = .ok (.getfield 156, 3) := by decide +kernel
theorem dRB_forget_7 : decode cRB_forget 7 = .ok (.istore_n 1, 1) := by decide +kernel
theorem dRB_forget_8 : decode cRB_forget 8 = .ok (.aload_n 0, 1) := by decide +kernel
theorem dRB_forget_9 : decode cRB_forget 9 = .ok (.getfield 46, 3) := by decide +kernel
theorem dRB_forget_12 : decode cRB_forget 12 = .ok (.iconst 0, 1) := by decide +kernel
theorem dRB_forget_13 : decode cRB_forget 13 = .ok (.putfield 156, 3) := by decide +kernel
theorem dRB_forget_16 : decode cRB_forget 16 = .ok (.iload_n 1, 1) := by decide +kernel
theorem dRB_forget_17 : decode cRB_forget 17 = .ok (.ireturn, 1) := by decide +kernel
theorem dRB_want_0 : decode cRB_want 0 = .ok (.aload_n 0, 1) := by decide +kernel
theorem dRB_want_1 : decode cRB_want 1 = .ok (.iload_n 1, 1) := by decide +kernel
theorem dRB_want_2 : decode cRB_want 2 = .ok (.iload_n 2, 1) := by decide +kernel
theorem dRB_want_3 : decode cRB_want 3 = .ok (.invokevirtual 57, 3) := by decide +kernel
theorem dRB_want_6 : decode cRB_want 6 = .ok (.istore 4, 2) := by decide +kernel
theorem dRB_want_8 : decode cRB_want 8 = .ok (.aload_n 0, 1) := by decide +kernel
theorem dRB_want_9 : decode cRB_want 9 = .ok (.getfield 46, 3) := by decide +kernel
theorem dRB_want_12 : decode cRB_want 12 = .ok (.getfield 159, 3) := by decide +kernel
theorem dRB_want_15 : decode cRB_want 15 = .ok (.iload 4, 2) := by decide +kernel
theorem dRB_want_17 : decode cRB_want 17 = .ok (.baload, 1) := by decide +kernel
theorem dRB_want_18 : decode cRB_want 18 = .ok (.istore 5, 2) := by decide +kernel
theorem dRB_want_20 : decode cRB_want 20 = .ok (.aload_n 0, 1) := by decide +kernel
theorem dRB_want_21 : decode cRB_want 21 = .ok (.getfield 46, 3) := by decide +kernel
theorem dRB_want_24 : decode cRB_want 24 = .ok (.getfield 159, 3) := by decide +kernel
theorem dRB_want_27 : decode cRB_want 27 = .ok (.iload 4, 2) := by decide +kernel
theorem dRB_want_29 : decode cRB_want 29 = .ok (.iload_n 3, 1) := by decide +kernel
theorem dRB_want_30 : decode cRB_want 30 = .ok (.bastore, 1) := by decide +kernel
theorem dRB_want_31 : decode cRB_want 31 = .ok (.iload 5, 2) := by decide +kernel
theorem dRB_want_33 : decode cRB_want 33 = .ok (.ireturn, 1) := by decide +kernel
theorem dRB_choose_0 : decode cRB_choose 0 = .ok (.aload_n 0, 1) := by decide +kernel
theorem dRB_choose_1 : decode cRB_choose 1 = .ok (.getfield 46, 3) := by decide +kernel
theorem dRB_choose_4 : decode cRB_choose 4 = .ok (.invokevirtual 162, 3) := by decide +kernel
theorem dRB_choose_7 : decode cRB_choose 7 = .ok (.ireturn, 1) := by decide +kernel
theorem dRB_put_0 : decode cRB_put 0 = .ok (.iconst 0, 1) := by decide +kernel
theorem dRB_put_1 : decode cRB_put 1 = .ok (.istore_n 2, 1) := by decide +kernel
theorem dRB_put_2 : decode cRB_put 2 = .ok (.iload_n 2, 1) := by decide +kernel
theorem dRB_put_3 : decode cRB_put 3 = .ok (.aload_n 0, 1) := by decide +kernel
theorem dRB_put_4 : decode cRB_put 4 = .ok (.getfield 28, 3) := by decide +kernel
theorem dRB_put_7 : decode cRB_put 7 = .ok (.getfield 50, 3) := by decide +kernel
theorem dRB_put_10 : decode cRB_put 10 = .ok (.if_icmp .ge 23, 3) := by decide +kernel
theorem dRB_put_13 : decode cRB_put 13 = .ok (.aload_n 0, 1) := by decide +kernel
theorem dRB_put_14 : decode cRB_put 14 = .ok (.getfield 53, 3) := by decide +kernel
theorem dRB_put_17 : decode cRB_put 17 = .ok (.iload_n 2, 1) := by decide +kernel
theorem dRB_put_18 : decode cRB_put 18 = .ok (.aload_n 0, 1) := by decide +kernel
theorem dRB_put_19 : decode cRB_put 19 = .ok (.getfield 37, 3) := by decide +kernel
theorem dRB_put_22 : decode cRB_put 22 = .ok (.iload_n 2, 1) := by decide +kernel
theorem dRB_put_23 : decode cRB_put 23 = .ok (.invokevirtual 138, 3) := by decide +kernel
theorem dRB_put_26 : decode cRB_put 26 = .ok (.bastore, 1) := by decide +kernel
theorem dRB_put_27 : decode cRB_put 27 = .ok (.iinc 2 1, 3) := by decide +kernel
theorem dRB_put_30 : decode cRB_put 30 = .ok (.goto (-28), 3) := by decide +kernel
theorem dRB_put_33 : decode cRB_put 33 = .ok (.iconst 0, 1) := by decide +kernel
theorem dRB_put_34 : decode cRB_put 34 = .ok (.istore_n 2, 1) := by decide +kernel
theorem dRB_put_35 : decode cRB_put 35 = .ok (.iload_n 2, 1) := by decide +kernel
theorem dRB_put_36 : decode cRB_put 36 = .ok (.aload_n 0, 1) := by decide +kernel
theorem dRB_put_37 : decode cRB_put 37 = .ok (.getfield 46, 3) := by decide +kernel
theorem dRB_put_40 : decode cRB_put 40 = .ok (.getfield 156, 3) := by decide +kernel
theorem dRB_put_43 : decode cRB_put 43 = .ok (.if_icmp .ge 39, 3) := by decide +kernel
theorem dRB_put_46 : decode cRB_put 46 = .ok (.iload_n 1, 1) := by decide +kernel
theorem dRB_put_47 : decode cRB_put 47 = .ok (.iload_n 2, 1) := by decide +kernel
theorem dRB_put_48 : decode cRB_put 48 = .ok (.invokestatic 165, 3) := by decide +kernel
theorem dRB_put_51 : decode cRB_put 51 = .ok (.ifCond .eq 25, 3) := by decide +kernel
theorem dRB_put_54 : decode cRB_put 54 = .ok (.aload_n 0, 1) := by decide +kernel
theorem dRB_put_55 : decode cRB_put 55 = .ok (.aload_n 0, 1) := by decide +kernel
theorem dRB_put_56 : decode cRB_put 56 = .ok (.getfield 46, 3) := by decide +kernel
theorem dRB_put_59 : decode cRB_put 59 = .ok (.getfield 169, 3) := by decide +kernel
theorem dRB_put_62 : decode cRB_put 62 = .ok (.iload_n 2, 1) := by decide +kernel
theorem dRB_put_63 : decode cRB_put 63 = .ok (.iaload, 1) := by decide +kernel
theorem dRB_put_64 : decode cRB_put 64 = .ok (.aload_n 0, 1) := by decide +kernel
theorem dRB_put_65 : decode cRB_put 65 = .ok (.getfield 46, 3) := by decide +kernel
theorem dRB_put_68 : decode cRB_put 68 = .ok (.getfield 172, 3) := by decide +kernel
theorem dRB_put_71 : decode cRB_put 71 = .ok (.iload_n 2, 1) := by decide +kernel
theorem dRB_put_72 : decode cRB_put 72 = .ok (.iaload, 1) := by decide +kernel
theorem dRB_put_73 : decode cRB_put 73 = .ok (.invokevirtual 78, 3) := by decide +kernel
theorem dRB_put_76 : decode cRB_put 76 = .ok (.iinc 2 1, 3) := by decide +kernel
theorem dRB_put_79 : decode cRB_put 79 = .ok (.goto (-44), 3) := by decide +kernel
theorem dRB_put_82 : decode cRB_put 82 = .ok (.iconst 0, 1) := by decide +kernel
theorem dRB_put_83 : decode cRB_put 83 = .ok (.istore_n 2, 1) := by decide +kernel
theorem dRB_put_84 : decode cRB_put 84 = .ok (.iconst 0, 1) := by decide +kernel
theorem dRB_put_85 : decode cRB_put 85 = .ok (.istore_n 3, 1) := by decide +kernel
theorem dRB_put_86 : decode cRB_put 86 = .ok (.iload_n 3, 1) := by decide +kernel
theorem dRB_put_87 : decode cRB_put 87 = .ok (.aload_n 0, 1) := by decide +kernel
theorem dRB_put_88 : decode cRB_put 88 = .ok (.getfield 28, 3) := by decide +kernel
theorem dRB_put_91 : decode cRB_put 91 = .ok (.getfield 50, 3) := by decide +kernel
theorem dRB_put_94 : decode cRB_put 94 = .ok (.if_icmp .ge 29, 3) := by decide +kernel
theorem dRB_put_97 : decode cRB_put 97 = .ok (.aload_n 0, 1) := by decide +kernel
theorem dRB_put_98 : decode cRB_put 98 = .ok (.getfield 53, 3) := by decide +kernel
theorem dRB_put_101 : decode cRB_put 101 = .ok (.iload_n 3, 1) := by decide +kernel
theorem dRB_put_102 : decode cRB_put 102 = .ok (.baload, 1) := by decide +kernel
theorem dRB_put_103 : decode cRB_put 103 = .ok (.aload_n 0, 1) := by decide +kernel
theorem dRB_put_104 : decode cRB_put 104 = .ok (.getfield 37, 3) := by decide +kernel
theorem dRB_put_107 : decode cRB_put 107 = .ok (.iload_n 3, 1) := by decide +kernel
theorem dRB_put_108 : decode cRB_put 108 = .ok (.invokevirtual 138, 3) := by decide +kernel
theorem dRB_put_111 : decode cRB_put 111 = .ok (.if_icmp .eq 6, 3) := by decide +kernel
theorem dRB_put_114 : decode cRB_put 114 = .ok (.iinc 2 1, 3) := by decide +kernel
theorem dRB_put_117 : decode cRB_put 117 = .ok (.iinc 3 1, 3) := by decide +kernel
theorem dRB_put_120 : decode cRB_put 120 = .ok (.goto (-34), 3) := by decide +kernel
theorem dRB_put_123 : decode cRB_put 123 = .ok (.iload_n 2, 1) := by decide +kernel
theorem dRB_put_124 : decode cRB_put 124 = .ok (.ireturn, 1) := by decide +kernel
theorem dRB_putRod_0 : decode cRB_putRod 0 = .ok (.aload_n 0, 1) := by decide +kernel
theorem dRB_putRod_1 : decode cRB_putRod 1 = .ok (.getfield 28, 3) := by decide +kernel
theorem dRB_putRod_4 : decode cRB_putRod 4 = .ok (.getfield 69, 3) := by decide +kernel
theorem dRB_putRod_7 : decode cRB_putRod 7 = .ok (.iload_n 1, 1) := by decide +kernel
theorem dRB_putRod_8 : decode cRB_putRod 8 = .ok (.iload_n 2, 1) := by decide +kernel
theorem dRB_putRod_9 : decode cRB_putRod 9 = .ok (.iastore, 1) := by decide +kernel
theorem dRB_putRod_10 : decode cRB_putRod 10 = .ok (.aload_n 0, 1) := by decide +kernel
theorem dRB_putRod_11 : decode cRB_putRod 11 = .ok (.getfield 37, 3) := by decide +kernel
theorem dRB_putRod_14 : decode cRB_putRod 14 = .ok (.iload_n 1, 1) := by decide +kernel
theorem dRB_putRod_15 : decode cRB_putRod 15 = .ok (.aload_n 0, 1) := by decide +kernel
theorem dRB_putRod_16 : decode cRB_putRod 16 = .ok (.getfield 28, 3) := by decide +kernel
theorem dRB_putRod_19 : decode cRB_putRod 19 = .ok (.iload_n 1, 1) := by decide +kernel
theorem dRB_putRod_20 : decode cRB_putRod 20 = .ok (.iload_n 2, 1) := by decide +kernel
theorem dRB_putRod_21 : decode cRB_putRod 21 = .ok (.invokevirtual 72, 3) := by decide +kernel
theorem dRB_putRod_24 : decode cRB_putRod 24 = .ok (.invokevirtual 75, 3) := by decide +kernel
theorem dRB_putRod_27 : decode cRB_putRod 27 = .ok (.return_, 1) := by decide +kernel
theorem dRB_numberOf_0 : decode cRB_numberOf 0 = .ok (.bipush 100, 2) := by decide +kernel
theorem dRB_numberOf_2 : decode cRB_numberOf 2 = .ok (.aload_n 0, 1) := by decide +kernel
theorem dRB_numberOf_3 : decode cRB_numberOf 3 = .ok (.getfield 28, 3) := by decide +kernel
theorem dRB_numberOf_6 : decode cRB_numberOf 6 = .ok (.getfield 175, 3) := by decide +kernel
theorem dRB_numberOf_9 : decode cRB_numberOf 9 = .ok (.iload_n 1, 1) := by decide +kernel
theorem dRB_numberOf_10 : decode cRB_numberOf 10 = .ok (.iaload, 1) := by decide +kernel
theorem dRB_numberOf_11 : decode cRB_numberOf 11 = .ok (.imul, 1) := by decide +kernel
theorem dRB_numberOf_12 : decode cRB_numberOf 12 = .ok (.aload_n 0, 1) := by decide +kernel
theorem dRB_numberOf_13 : decode cRB_numberOf 13 = .ok (.getfield 28, 3) := by decide +kernel
theorem dRB_numberOf_16 : decode cRB_numberOf 16 = .ok (.getfield 178, 3) := by decide +kernel
theorem dRB_numberOf_19 : decode cRB_numberOf 19 = .ok (.iload_n 1, 1) := by decide +kernel
theorem dRB_numberOf_20 : decode cRB_numberOf 20 = .ok (.iaload, 1) := by decide +kernel
theorem dRB_numberOf_21 : decode cRB_numberOf 21 = .ok (.iadd, 1) := by decide +kernel
theorem dRB_numberOf_22 : decode cRB_numberOf 22 = .ok (.ireturn, 1) := by decide +kernel
theorem dRB_pointAt_0 : decode cRB_pointAt 0 = .ok (.iload_n 1, 1) := by decide +kernel
theorem dRB_pointAt_1 : decode cRB_pointAt 1 = .ok (.iconst 0, 1) := by decide +kernel
theorem dRB_pointAt_2 : decode cRB_pointAt 2 = .ok (.aload_n 0, 1) := by decide +kernel
theorem dRB_pointAt_3 : decode cRB_pointAt 3 = .ok (.getfield 13, 3) := by decide +kernel
theorem dRB_pointAt_6 : decode cRB_pointAt 6 = .ok (.iconst 1, 1) := by decide +kernel
theorem dRB_pointAt_7 : decode cRB_pointAt 7 = .ok (.isub, 1) := by decide +kernel
theorem dRB_pointAt_8 : decode cRB_pointAt 8 = .ok (.invokestatic 61, 3) := by decide +kernel
theorem dRB_pointAt_11 : decode cRB_pointAt 11 = .ok (.iload_n 2, 1) := by decide +kernel
theorem dRB_pointAt_12 : decode cRB_pointAt 12 = .ok (.iconst 0, 1) := by decide +kernel
theorem dRB_pointAt_13 : decode cRB_pointAt 13 = .ok (.aload_n 0, 1) := by decide +kernel
theorem dRB_pointAt_14 : decode cRB_pointAt 14 = .ok (.getfield 17, 3) := by decide +kernel
theorem dRB_pointAt_17 : decode cRB_pointAt 17 = .ok (.iconst 1, 1) := by decide +kernel
theorem dRB_pointAt_18 : decode cRB_pointAt 18 = .ok (.isub, 1) := by decide +kernel
theorem dRB_pointAt_19 : decode cRB_pointAt 19 = .ok (.invokestatic 61, 3) := by decide +kernel
theorem dRB_pointAt_22 : decode cRB_pointAt 22 = .ok (.iload_n 2, 1) := by decide +kernel
theorem dRB_pointAt_23 : decode cRB_pointAt 23 = .ok (.aload_n 0, 1) := by decide +kernel
theorem dRB_pointAt_24 : decode cRB_pointAt 24 = .ok (.getfield 13, 3) := by decide +kernel
theorem dRB_pointAt_27 : decode cRB_pointAt 27 = .ok (.imul, 1) := by decide +kernel
theorem dRB_pointAt_28 : decode cRB_pointAt 28 = .ok (.iload_n 1, 1) := by decide +kernel
theorem dRB_pointAt_29 : decode cRB_pointAt 29 = .ok (.iadd, 1) := by decide +kernel
theorem dRB_pointAt_30 : decode cRB_pointAt 30 = .ok (.ireturn, 1) := by decide +kernel
theorem dRB_needPlace_0 : decode cRB_needPlace 0 = .ok (.iload_n 1, 1) := by decide +kernel
theorem dRB_needPlace_1 : decode cRB_needPlace 1 = .ok (.aload_n 0, 1) := by decide +kernel
theorem dRB_needPlace_2 : decode cRB_needPlace 2 = .ok (.getfield 20, 3) := by decide +kernel
theorem dRB_needPlace_5 : decode cRB_needPlace 5 = .ok (.ineg, 1) := by decide +kernel
theorem dRB_needPlace_6 : decode cRB_needPlace 6 = .ok (.aload_n 0, 1) := by decide +kernel
theorem dRB_needPlace_7 : decode cRB_needPlace 7 = .ok (.getfield 13, 3) := by decide +kernel
theorem dRB_needPlace_10 : decode cRB_needPlace 10 = .ok (.iconst 1, 1) := by decide +kernel
theorem dRB_needPlace_11 : decode cRB_needPlace 11 = .ok (.isub, 1) := by decide +kernel
theorem dRB_needPlace_12 : decode cRB_needPlace 12 = .ok (.aload_n 0, 1) := by decide +kernel
theorem dRB_needPlace_13 : decode cRB_needPlace 13 = .ok (.getfield 20, 3) := by decide +kernel
theorem dRB_needPlace_16 : decode cRB_needPlace 16 = .ok (.iadd, 1) := by decide +kernel
theorem dRB_needPlace_17 : decode cRB_needPlace 17 = .ok (.invokestatic 61, 3) := by decide +kernel
theorem dRB_needPlace_20 : decode cRB_needPlace 20 = .ok (.iload_n 2, 1) := by decide +kernel
theorem dRB_needPlace_21 : decode cRB_needPlace 21 = .ok (.aload_n 0, 1) := by decide +kernel
theorem dRB_needPlace_22 : decode cRB_needPlace 22 = .ok (.getfield 20, 3) := by decide +kernel
theorem dRB_needPlace_25 : decode cRB_needPlace 25 = .ok (.ineg, 1) := by decide +kernel
theorem dRB_needPlace_26 : decode cRB_needPlace 26 = .ok (.aload_n 0, 1) := by decide +kernel
theorem dRB_needPlace_27 : decode cRB_needPlace 27 = .ok (.getfield 17, 3) := by decide +kernel
theorem dRB_needPlace_30 : decode cRB_needPlace 30 = .ok (.iconst 1, 1) := by decide +kernel
theorem dRB_needPlace_31 : decode cRB_needPlace 31 = .ok (.isub, 1) := by decide +kernel
theorem dRB_needPlace_32 : decode cRB_needPlace 32 = .ok (.aload_n 0, 1) := by decide +kernel
theorem dRB_needPlace_33 : decode cRB_needPlace 33 = .ok (.getfield 20, 3) := by decide +kernel
theorem dRB_needPlace_36 : decode cRB_needPlace 36 = .ok (.iadd, 1) := by decide +kernel
theorem dRB_needPlace_37 : decode cRB_needPlace 37 = .ok (.invokestatic 61, 3) := by decide +kernel
theorem dRB_needPlace_40 : decode cRB_needPlace 40 = .ok (.return_, 1) := by decide +kernel
theorem dRB_needIndex_0 : decode cRB_needIndex 0 = .ok (.iload_n 0, 1) := by decide +kernel
theorem dRB_needIndex_1 : decode cRB_needIndex 1 = .ok (.ifCond .ge 13, 3) := by decide +kernel
theorem dRB_needIndex_4 : decode cRB_needIndex 4 = .ok (.new 103, 3) := by decide +kernel
theorem dRB_needIndex_7 : decode cRB_needIndex 7 = .ok (.dup, 1) := by decide +kernel
theorem dRB_needIndex_8 : decode cRB_needIndex 8 = .ok (.ldc 181, 2) := by decide +kernel
theorem dRB_needIndex_10 : decode cRB_needIndex 10 = .ok (.invokespecial 107, 3) := by decide +kernel
theorem dRB_needIndex_13 : decode cRB_needIndex 13 = .ok (.athrow, 1) := by decide +kernel
theorem dRB_needIndex_14 : decode cRB_needIndex 14 = .ok (.return_, 1) := by decide +kernel
theorem dRB_needNumber_0 : decode cRB_needNumber 0 = .ok (.iload_n 0, 1) := by decide +kernel
theorem dRB_needNumber_1 : decode cRB_needNumber 1 = .ok (.iload_n 1, 1) := by decide +kernel
theorem dRB_needNumber_2 : decode cRB_needNumber 2 = .ok (.if_icmp .lt 8, 3) := by decide +kernel
theorem dRB_needNumber_5 : decode cRB_needNumber 5 = .ok (.iload_n 0, 1) := by decide +kernel
theorem dRB_needNumber_6 : decode cRB_needNumber 6 = .ok (.iload_n 2, 1) := by decide +kernel
theorem dRB_needNumber_7 : decode cRB_needNumber 7 = .ok (.if_icmp .le 13, 3) := by decide +kernel
theorem dRB_needNumber_10 : decode cRB_needNumber 10 = .ok (.new 103, 3) := by decide +kernel
theorem dRB_needNumber_13 : decode cRB_needNumber 13 = .ok (.dup, 1) := by decide +kernel
theorem dRB_needNumber_14 : decode cRB_needNumber 14 = .ok (.ldc 183, 2) := by decide +kernel
theorem dRB_needNumber_16 : decode cRB_needNumber 16 = .ok (.invokespecial 107, 3) := by decide +kernel
theorem dRB_needNumber_19 : decode cRB_needNumber 19 = .ok (.athrow, 1) := by decide +kernel
theorem dRB_needNumber_20 : decode cRB_needNumber 20 = .ok (.return_, 1) := by decide +kernel
theorem dRB_between_0 : decode cRB_between 0 = .ok (.iload_n 1, 1) := by decide +kernel
theorem dRB_between_1 : decode cRB_between 1 = .ok (.iload_n 0, 1) := by decide +kernel
theorem dRB_between_2 : decode cRB_between 2 = .ok (.iload_n 2, 1) := by decide +kernel
theorem dRB_between_3 : decode cRB_between 3 = .ok (.invokestatic 185, 3) := by decide +kernel
theorem dRB_between_6 : decode cRB_between 6 = .ok (.invokestatic 190, 3) := by decide +kernel
theorem dRB_between_9 : decode cRB_between 9 = .ok (.ireturn, 1) := by decide +kernel
theorem dMO_init_0 : decode cMO_init 0 = .ok (.aload_n 0, 1) := by decide +kernel
theorem dMO_init_1 : decode cMO_init 1 = .ok (.invokespecial 1, 3) := by decide +kernel
theorem dMO_init_4 : decode cMO_init 4 = .ok (.aload_n 0, 1) := by decide +kernel
theorem dMO_init_5 : decode cMO_init 5 = .ok (.sipush 144, 3) := by decide +kernel
theorem dMO_init_8 : decode cMO_init 8 = .ok (.newarray .int, 2) := by decide +kernel
theorem dMO_init_10 : decode cMO_init 10 = .ok (.putfield 7, 3) := by decide +kernel
theorem dMO_init_13 : decode cMO_init 13 = .ok (.aload_n 0, 1) := by decide +kernel
theorem dMO_init_14 : decode cMO_init 14 = .ok (.sipush 144, 3) := by decide +kernel
theorem dMO_init_17 : decode cMO_init 17 = .ok (.newarray .int, 2) := by decide +kernel
theorem dMO_init_19 : decode cMO_init 19 = .ok (.putfield 13, 3) := by decide +kernel
theorem dMO_init_22 : decode cMO_init 22 = .ok (.aload_n 0, 1) := by decide +kernel
theorem dMO_init_23 : decode cMO_init 23 = .ok (.sipush 144, 3) := by decide +kernel
theorem dMO_init_26 : decode cMO_init 26 = .ok (.newarray .int, 2) := by decide +kernel
theorem dMO_init_28 : decode cMO_init 28 = .ok (.putfield 16, 3) := by decide +kernel
theorem dMO_init_31 : decode cMO_init 31 = .ok (.aload_n 0, 1) := by decide +kernel
theorem dMO_init_32 : decode cMO_init 32 = .ok (.sipush 144, 3) := by decide +kernel
theorem dMO_init_35 : decode cMO_init 35 = .ok (.newarray .boolean, 2) := by decide +kernel
theorem dMO_init_37 : decode cMO_init 37 = .ok (.putfield 19, 3) := by decide +kernel
theorem dMO_init_40 : decode cMO_init 40 = .ok (.aload_n 0, 1) := by decide +kernel
theorem dMO_init_41 : decode cMO_init 41 = .ok (.iconst 4, 1) := by decide +kernel
theorem dMO_init_42 : decode cMO_init 42 = .ok (.newarray .int, 2) := by decide +kernel
theorem dMO_init_44 : decode cMO_init 44 = .ok (.putfield 23, 3) := by decide +kernel
theorem dMO_init_47 : decode cMO_init 47 = .ok (.aload_n 0, 1) := by decide +kernel
theorem dMO_init_48 : decode cMO_init 48 = .ok (.iconst 4, 1) := by decide +kernel
