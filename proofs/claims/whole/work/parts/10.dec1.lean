theorem dMO_init_49 : decode cMO_init 49 = .ok (.newarray .int, 2) := by decide +kernel
theorem dMO_init_51 : decode cMO_init 51 = .ok (.putfield 26, 3) := by decide +kernel
theorem dMO_init_54 : decode cMO_init 54 = .ok (.aload_n 0, 1) := by decide +kernel
theorem dMO_init_55 : decode cMO_init 55 = .ok (.sipush 1024, 3) := by decide +kernel
theorem dMO_init_58 : decode cMO_init 58 = .ok (.newarray .int, 2) := by decide +kernel
theorem dMO_init_60 : decode cMO_init 60 = .ok (.putfield 29, 3) := by decide +kernel
theorem dMO_init_63 : decode cMO_init 63 = .ok (.aload_n 0, 1) := by decide +kernel
theorem dMO_init_64 : decode cMO_init 64 = .ok (.sipush 1024, 3) := by decide +kernel
theorem dMO_init_67 : decode cMO_init 67 = .ok (.newarray .int, 2) := by decide +kernel
theorem dMO_init_69 : decode cMO_init 69 = .ok (.putfield 32, 3) := by decide +kernel
theorem dMO_init_72 : decode cMO_init 72 = .ok (.aload_n 0, 1) := by decide +kernel
theorem dMO_init_73 : decode cMO_init 73 = .ok (.sipush 144, 3) := by decide +kernel
theorem dMO_init_76 : decode cMO_init 76 = .ok (.newarray .int, 2) := by decide +kernel
theorem dMO_init_78 : decode cMO_init 78 = .ok (.putfield 35, 3) := by decide +kernel
theorem dMO_init_81 : decode cMO_init 81 = .ok (.aload_n 0, 1) := by decide +kernel
theorem dMO_init_82 : decode cMO_init 82 = .ok (.sipush 144, 3) := by decide +kernel
theorem dMO_init_85 : decode cMO_init 85 = .ok (.newarray .boolean, 2) := by decide +kernel
theorem dMO_init_87 : decode cMO_init 87 = .ok (.putfield 38, 3) := by decide +kernel
theorem dMO_init_90 : decode cMO_init 90 = .ok (.aload_n 0, 1) := by decide +kernel
theorem dMO_init_91 : decode cMO_init 91 = .ok (.iload_n 1, 1) := by decide +kernel
theorem dMO_init_92 : decode cMO_init 92 = .ok (.bipush 12, 2) := by decide +kernel
theorem dMO_init_94 : decode cMO_init 94 = .ok (.invokestatic 41, 3) := by decide +kernel
theorem dMO_init_97 : decode cMO_init 97 = .ok (.putfield 45, 3) := by decide +kernel
theorem dMO_init_100 : decode cMO_init 100 = .ok (.aload_n 0, 1) := by decide +kernel
theorem dMO_init_101 : decode cMO_init 101 = .ok (.iload_n 2, 1) := by decide +kernel
theorem dMO_init_102 : decode cMO_init 102 = .ok (.bipush 12, 2) := by decide +kernel
theorem dMO_init_104 : decode cMO_init 104 = .ok (.invokestatic 41, 3) := by decide +kernel
theorem dMO_init_107 : decode cMO_init 107 = .ok (.putfield 49, 3) := by decide +kernel
theorem dMO_init_110 : decode cMO_init 110 = .ok (.aload_n 0, 1) := by decide +kernel
theorem dMO_init_111 : decode cMO_init 111 = .ok (.iload_n 3, 1) := by decide +kernel
theorem dMO_init_112 : decode cMO_init 112 = .ok (.bipush 10, 2) := by decide +kernel
theorem dMO_init_114 : decode cMO_init 114 = .ok (.invokestatic 41, 3) := by decide +kernel
theorem dMO_init_117 : decode cMO_init 117 = .ok (.putfield 52, 3) := by decide +kernel
theorem dMO_init_120 : decode cMO_init 120 = .ok (.return_, 1) := by decide +kernel
theorem dMO_nearest_0 : decode cMO_nearest 0 = .ok (.iload_n 0, 1) := by decide +kernel
theorem dMO_nearest_1 : decode cMO_nearest 1 = .ok (.iconst 1, 1) := by decide +kernel
theorem dMO_nearest_2 : decode cMO_nearest 2 = .ok (.if_icmp .ge 7, 3) := by decide +kernel
theorem dMO_nearest_5 : decode cMO_nearest 5 = .ok (.iconst 1, 1) := by decide +kernel
theorem dMO_nearest_6 : decode cMO_nearest 6 = .ok (.goto 13, 3) := by decide +kernel
theorem dMO_nearest_9 : decode cMO_nearest 9 = .ok (.iload_n 0, 1) := by decide +kernel
theorem dMO_nearest_10 : decode cMO_nearest 10 = .ok (.iload_n 1, 1) := by decide +kernel
theorem dMO_nearest_11 : decode cMO_nearest 11 = .ok (.if_icmp .le 7, 3) := by decide +kernel
theorem dMO_nearest_14 : decode cMO_nearest 14 = .ok (.iload_n 1, 1) := by decide +kernel
theorem dMO_nearest_15 : decode cMO_nearest 15 = .ok (.goto 4, 3) := by decide +kernel
theorem dMO_nearest_18 : decode cMO_nearest 18 = .ok (.iload_n 0, 1) := by decide +kernel
theorem dMO_nearest_19 : decode cMO_nearest 19 = .ok (.ireturn, 1) := by decide +kernel
theorem dMO_thrown_0 : decode cMO_thrown 0 = .ok (.aload_n 0, 1) := by decide +kernel
theorem dMO_thrown_1 : decode cMO_thrown 1 = .ok (.getfield 55, 3) := by decide +kernel
theorem dMO_thrown_4 : decode cMO_thrown 4 = .ok (.ireturn, 1) := by decide +kernel
theorem dMO_in_0 : decode cMO_in 0 = .ok (.iload_n 0, 1) := by decide +kernel
theorem dMO_in_1 : decode cMO_in 1 = .ok (.iload_n 1, 1) := by decide +kernel
theorem dMO_in_2 : decode cMO_in 2 = .ok (.if_icmp .lt 12, 3) := by decide +kernel
theorem dMO_in_5 : decode cMO_in 5 = .ok (.iload_n 0, 1) := by decide +kernel
theorem dMO_in_6 : decode cMO_in 6 = .ok (.iload_n 2, 1) := by decide +kernel
theorem dMO_in_7 : decode cMO_in 7 = .ok (.if_icmp .gt 7, 3) := by decide +kernel
theorem dMO_in_10 : decode cMO_in 10 = .ok (.iconst 1, 1) := by decide +kernel
theorem dMO_in_11 : decode cMO_in 11 = .ok (.goto 4, 3) := by decide +kernel
theorem dMO_in_14 : decode cMO_in 14 = .ok (.iconst 0, 1) := by decide +kernel
theorem dMO_in_15 : decode cMO_in 15 = .ok (.ireturn, 1) := by decide +kernel
theorem dMO_isPoint_0 : decode cMO_isPoint 0 = .ok (.iload_n 1, 1) := by decide +kernel
theorem dMO_isPoint_1 : decode cMO_isPoint 1 = .ok (.iconst 0, 1) := by decide +kernel
theorem dMO_isPoint_2 : decode cMO_isPoint 2 = .ok (.aload_n 0, 1) := by decide +kernel
theorem dMO_isPoint_3 : decode cMO_isPoint 3 = .ok (.getfield 45, 3) := by decide +kernel
theorem dMO_isPoint_6 : decode cMO_isPoint 6 = .ok (.iconst 1, 1) := by decide +kernel
theorem dMO_isPoint_7 : decode cMO_isPoint 7 = .ok (.isub, 1) := by decide +kernel
theorem dMO_isPoint_8 : decode cMO_isPoint 8 = .ok (.invokestatic 58, 3) := by decide +kernel
theorem dMO_isPoint_11 : decode cMO_isPoint 11 = .ok (.ifCond .eq 21, 3) := by decide +kernel
theorem dMO_isPoint_14 : decode cMO_isPoint 14 = .ok (.iload_n 2, 1) := by decide +kernel
theorem dMO_isPoint_15 : decode cMO_isPoint 15 = .ok (.iconst 0, 1) := by decide +kernel
theorem dMO_isPoint_16 : decode cMO_isPoint 16 = .ok (.aload_n 0, 1) := by decide +kernel
theorem dMO_isPoint_17 : decode cMO_isPoint 17 = .ok (.getfield 49, 3) := by decide +kernel
theorem dMO_isPoint_20 : decode cMO_isPoint 20 = .ok (.iconst 1, 1) := by decide +kernel
theorem dMO_isPoint_21 : decode cMO_isPoint 21 = .ok (.isub, 1) := by decide +kernel
theorem dMO_isPoint_22 : decode cMO_isPoint 22 = .ok (.invokestatic 58, 3) := by decide +kernel
theorem dMO_isPoint_25 : decode cMO_isPoint 25 = .ok (.ifCond .eq 7, 3) := by decide +kernel
theorem dMO_isPoint_28 : decode cMO_isPoint 28 = .ok (.iconst 1, 1) := by decide +kernel
theorem dMO_isPoint_29 : decode cMO_isPoint 29 = .ok (.goto 4, 3) := by decide +kernel
theorem dMO_isPoint_32 : decode cMO_isPoint 32 = .ok (.iconst 0, 1) := by decide +kernel
theorem dMO_isPoint_33 : decode cMO_isPoint 33 = .ok (.ireturn, 1) := by decide +kernel
theorem dMO_isPlace_0 : decode cMO_isPlace 0 = .ok (.iload_n 1, 1) := by decide +kernel
theorem dMO_isPlace_1 : decode cMO_isPlace 1 = .ok (.aload_n 0, 1) := by decide +kernel
theorem dMO_isPlace_2 : decode cMO_isPlace 2 = .ok (.getfield 52, 3) := by decide +kernel
theorem dMO_isPlace_5 : decode cMO_isPlace 5 = .ok (.ineg, 1) := by decide +kernel
theorem dMO_isPlace_6 : decode cMO_isPlace 6 = .ok (.aload_n 0, 1) := by decide +kernel
theorem dMO_isPlace_7 : decode cMO_isPlace 7 = .ok (.getfield 45, 3) := by decide +kernel
theorem dMO_isPlace_10 : decode cMO_isPlace 10 = .ok (.iconst 1, 1) := by decide +kernel
theorem dMO_isPlace_11 : decode cMO_isPlace 11 = .ok (.isub, 1) := by decide +kernel
theorem dMO_isPlace_12 : decode cMO_isPlace 12 = .ok (.aload_n 0, 1) := by decide +kernel
theorem dMO_isPlace_13 : decode cMO_isPlace 13 = .ok (.getfield 52, 3) := by decide +kernel
theorem dMO_isPlace_16 : decode cMO_isPlace 16 = .ok (.iadd, 1) := by decide +kernel
theorem dMO_isPlace_17 : decode cMO_isPlace 17 = .ok (.invokestatic 58, 3) := by decide +kernel
theorem dMO_isPlace_20 : decode cMO_isPlace 20 = .ok (.ifCond .eq 30, 3) := by decide +kernel
theorem dMO_isPlace_23 : decode cMO_isPlace 23 = .ok (.iload_n 2, 1) := by decide +kernel
theorem dMO_isPlace_24 : decode cMO_isPlace 24 = .ok (.aload_n 0, 1) := by decide +kernel
theorem dMO_isPlace_25 : decode cMO_isPlace 25 = .ok (.getfield 52, 3) := by decide +kernel
theorem dMO_isPlace_28 : decode cMO_isPlace 28 = .ok (.ineg, 1) := by decide +kernel
theorem dMO_isPlace_29 : decode cMO_isPlace 29 = .ok (.aload_n 0, 1) := by decide +kernel
theorem dMO_isPlace_30 : decode cMO_isPlace 30 = .ok (.getfield 49, 3) := by decide +kernel
theorem dMO_isPlace_33 : decode cMO_isPlace 33 = .ok (.iconst 1, 1) := by decide +kernel
theorem dMO_isPlace_34 : decode cMO_isPlace 34 = .ok (.isub, 1) := by decide +kernel
theorem dMO_isPlace_35 : decode cMO_isPlace 35 = .ok (.aload_n 0, 1) := by decide +kernel
theorem dMO_isPlace_36 : decode cMO_isPlace 36 = .ok (.getfield 52, 3) := by decide +kernel
theorem dMO_isPlace_39 : decode cMO_isPlace 39 = .ok (.iadd, 1) := by decide +kernel
theorem dMO_isPlace_40 : decode cMO_isPlace 40 = .ok (.invokestatic 58, 3) := by decide +kernel
theorem dMO_isPlace_43 : decode cMO_isPlace 43 = .ok (.ifCond .eq 7, 3) := by decide +kernel
theorem dMO_isPlace_46 : decode cMO_isPlace 46 = .ok (.iconst 1, 1) := by decide +kernel
theorem dMO_isPlace_47 : decode cMO_isPlace 47 = .ok (.goto 4, 3) := by decide +kernel
theorem dMO_isPlace_50 : decode cMO_isPlace 50 = .ok (.iconst 0, 1) := by decide +kernel
theorem dMO_isPlace_51 : decode cMO_isPlace 51 = .ok (.ireturn, 1) := by decide +kernel
theorem dMO_spot_0 : decode cMO_spot 0 = .ok (.bipush 12, 2) := by decide +kernel
theorem dMO_spot_2 : decode cMO_spot 2 = .ok (.iload_n 1, 1) := by decide +kernel
theorem dMO_spot_3 : decode cMO_spot 3 = .ok (.imul, 1) := by decide +kernel
theorem dMO_spot_4 : decode cMO_spot 4 = .ok (.iload_n 0, 1) := by decide +kernel
theorem dMO_spot_5 : decode cMO_spot 5 = .ok (.iadd, 1) := by decide +kernel
theorem dMO_spot_6 : decode cMO_spot 6 = .ok (.ireturn, 1) := by decide +kernel
theorem dMO_across_0 : decode cMO_across 0 = .ok (.aload_n 0, 1) := by decide +kernel
theorem dMO_across_1 : decode cMO_across 1 = .ok (.getfield 45, 3) := by decide +kernel
theorem dMO_across_4 : decode cMO_across 4 = .ok (.iconst 2, 1) := by decide +kernel
theorem dMO_across_5 : decode cMO_across 5 = .ok (.aload_n 0, 1) := by decide +kernel
theorem dMO_across_6 : decode cMO_across 6 = .ok (.getfield 52, 3) := by decide +kernel
theorem dMO_across_9 : decode cMO_across 9 = .ok (.imul, 1) := by decide +kernel
theorem dMO_across_10 : decode cMO_across 10 = .ok (.iadd, 1) := by decide +kernel
theorem dMO_across_11 : decode cMO_across 11 = .ok (.ireturn, 1) := by decide +kernel
theorem dMO_places_0 : decode cMO_places 0 = .ok (.aload_n 0, 1) := by decide +kernel
theorem dMO_places_1 : decode cMO_places 1 = .ok (.invokevirtual 62, 3) := by decide +kernel
theorem dMO_places_4 : decode cMO_places 4 = .ok (.aload_n 0, 1) := by decide +kernel
theorem dMO_places_5 : decode cMO_places 5 = .ok (.getfield 49, 3) := by decide +kernel
theorem dMO_places_8 : decode cMO_places 8 = .ok (.iconst 2, 1) := by decide +kernel
theorem dMO_places_9 : decode cMO_places 9 = .ok (.aload_n 0, 1) := by decide +kernel
theorem dMO_places_10 : decode cMO_places 10 = .ok (.getfield 52, 3) := by decide +kernel
theorem dMO_places_13 : decode cMO_places 13 = .ok (.imul, 1) := by decide +kernel
theorem dMO_places_14 : decode cMO_places 14 = .ok (.iadd, 1) := by decide +kernel
theorem dMO_places_15 : decode cMO_places 15 = .ok (.imul, 1) := by decide +kernel
theorem dMO_places_16 : decode cMO_places 16 = .ok (.ireturn, 1) := by decide +kernel
theorem dMO_placeAt_0 : decode cMO_placeAt 0 = .ok (.aload_n 0, 1) := by decide +kernel
theorem dMO_placeAt_1 : decode cMO_placeAt 1 = .ok (.invokevirtual 62, 3) := by decide +kernel
theorem dMO_placeAt_4 : decode cMO_placeAt 4 = .ok (.iload_n 2, 1) := by decide +kernel
theorem dMO_placeAt_5 : decode cMO_placeAt 5 = .ok (.aload_n 0, 1) := by decide +kernel
theorem dMO_placeAt_6 : decode cMO_placeAt 6 = .ok (.getfield 52, 3) := by decide +kernel
theorem dMO_placeAt_9 : decode cMO_placeAt 9 = .ok (.iadd, 1) := by decide +kernel
theorem dMO_placeAt_10 : decode cMO_placeAt 10 = .ok (.imul, 1) := by decide +kernel
theorem dMO_placeAt_11 : decode cMO_placeAt 11 = .ok (.iload_n 1, 1) := by decide +kernel
theorem dMO_placeAt_12 : decode cMO_placeAt 12 = .ok (.iadd, 1) := by decide +kernel
theorem dMO_placeAt_13 : decode cMO_placeAt 13 = .ok (.aload_n 0, 1) := by decide +kernel
theorem dMO_placeAt_14 : decode cMO_placeAt 14 = .ok (.getfield 52, 3) := by decide +kernel
theorem dMO_placeAt_17 : decode cMO_placeAt 17 = .ok (.iadd, 1) := by decide +kernel
theorem dMO_placeAt_18 : decode cMO_placeAt 18 = .ok (.ireturn, 1) := by decide +kernel
theorem dMO_compare_0 : decode cMO_compare 0 = .ok (.iload_n 0, 1) := by decide +kernel
theorem dMO_compare_1 : decode cMO_compare 1 = .ok (.iload_n 2, 1) := by decide +kernel
theorem dMO_compare_2 : decode cMO_compare 2 = .ok (.if_icmp .ge 12, 3) := by decide +kernel
theorem dMO_compare_5 : decode cMO_compare 5 = .ok (.iload_n 2, 1) := by decide +kernel
theorem dMO_compare_6 : decode cMO_compare 6 = .ok (.iload_n 3, 1) := by decide +kernel
theorem dMO_compare_7 : decode cMO_compare 7 = .ok (.iload_n 0, 1) := by decide +kernel
theorem dMO_compare_8 : decode cMO_compare 8 = .ok (.iload_n 1, 1) := by decide +kernel
theorem dMO_compare_9 : decode cMO_compare 9 = .ok (.invokestatic 66, 3) := by decide +kernel
theorem dMO_compare_12 : decode cMO_compare 12 = .ok (.ineg, 1) := by decide +kernel
theorem dMO_compare_13 : decode cMO_compare 13 = .ok (.ireturn, 1) := by decide +kernel
theorem dMO_compare_14 : decode cMO_compare 14 = .ok (.iload_n 0, 1) := by decide +kernel
theorem dMO_compare_15 : decode cMO_compare 15 = .ok (.iload_n 2, 1) := by decide +kernel
theorem dMO_compare_16 : decode cMO_compare 16 = .ok (.isub, 1) := by decide +kernel
theorem dMO_compare_17 : decode cMO_compare 17 = .ok (.istore 4, 2) := by decide +kernel
theorem dMO_compare_19 : decode cMO_compare 19 = .ok (.iload_n 3, 1) := by decide +kernel
theorem dMO_compare_20 : decode cMO_compare 20 = .ok (.iload 4, 2) := by decide +kernel
theorem dMO_compare_22 : decode cMO_compare 22 = .ok (.iload 4, 2) := by decide +kernel
theorem dMO_compare_24 : decode cMO_compare 24 = .ok (.imul, 1) := by decide +kernel
theorem dMO_compare_25 : decode cMO_compare 25 = .ok (.isub, 1) := by decide +kernel
theorem dMO_compare_26 : decode cMO_compare 26 = .ok (.iload_n 1, 1) := by decide +kernel
theorem dMO_compare_27 : decode cMO_compare 27 = .ok (.isub, 1) := by decide +kernel
theorem dMO_compare_28 : decode cMO_compare 28 = .ok (.istore 5, 2) := by decide +kernel
theorem dMO_compare_30 : decode cMO_compare 30 = .ok (.iload 5, 2) := by decide +kernel
theorem dMO_compare_32 : decode cMO_compare 32 = .ok (.ifCond .ge 5, 3) := by decide +kernel
theorem dMO_compare_35 : decode cMO_compare 35 = .ok (.iconst 1, 1) := by decide +kernel
theorem dMO_compare_36 : decode cMO_compare 36 = .ok (.ireturn, 1) := by decide +kernel
theorem dMO_compare_37 : decode cMO_compare 37 = .ok (.iconst 4, 1) := by decide +kernel
theorem dMO_compare_38 : decode cMO_compare 38 = .ok (.iload 4, 2) := by decide +kernel
theorem dMO_compare_40 : decode cMO_compare 40 = .ok (.imul, 1) := by decide +kernel
theorem dMO_compare_41 : decode cMO_compare 41 = .ok (.iload 4, 2) := by decide +kernel
theorem dMO_compare_43 : decode cMO_compare 43 = .ok (.imul, 1) := by decide +kernel
theorem dMO_compare_44 : decode cMO_compare 44 = .ok (.iload_n 1, 1) := by decide +kernel
theorem dMO_compare_45 : decode cMO_compare 45 = .ok (.imul, 1) := by decide +kernel
theorem dMO_compare_46 : decode cMO_compare 46 = .ok (.istore 6, 2) := by decide +kernel
theorem dMO_compare_48 : decode cMO_compare 48 = .ok (.iload 5, 2) := by decide +kernel
theorem dMO_compare_50 : decode cMO_compare 50 = .ok (.iload 5, 2) := by decide +kernel
theorem dMO_compare_52 : decode cMO_compare 52 = .ok (.imul, 1) := by decide +kernel
theorem dMO_compare_53 : decode cMO_compare 53 = .ok (.istore 7, 2) := by decide +kernel
theorem dMO_compare_55 : decode cMO_compare 55 = .ok (.iload 6, 2) := by decide +kernel
theorem dMO_compare_57 : decode cMO_compare 57 = .ok (.iload 7, 2) := by decide +kernel
theorem dMO_compare_59 : decode cMO_compare 59 = .ok (.if_icmp .le 7, 3) := by decide +kernel
theorem dMO_compare_62 : decode cMO_compare 62 = .ok (.iconst 1, 1) := by decide +kernel
theorem dMO_compare_63 : decode cMO_compare 63 = .ok (.goto 15, 3) := by decide +kernel
theorem dMO_compare_66 : decode cMO_compare 66 = .ok (.iload 6, 2) := by decide +kernel
theorem dMO_compare_68 : decode cMO_compare 68 = .ok (.iload 7, 2) := by decide +kernel
theorem dMO_compare_70 : decode cMO_compare 70 = .ok (.if_icmp .ge 7, 3) := by decide +kernel
theorem dMO_compare_73 : decode cMO_compare 73 = .ok (.iconst (-1), 1) := by decide +kernel
theorem dMO_compare_74 : decode cMO_compare 74 = .ok (.goto 4, 3) := by decide +kernel
theorem dMO_compare_77 : decode cMO_compare 77 = .ok (.iconst 0, 1) := by decide +kernel
theorem dMO_compare_78 : decode cMO_compare 78 = .ok (.ireturn, 1) := by decide +kernel
theorem dMO_rootOf_0 : decode cMO_rootOf 0 = .ok (.iconst 0, 1) := by decide +kernel
theorem dMO_rootOf_1 : decode cMO_rootOf 1 = .ok (.istore_n 1, 1) := by decide +kernel
theorem dMO_rootOf_2 : decode cMO_rootOf 2 = .ok (.iload_n 1, 1) := by decide +kernel
theorem dMO_rootOf_3 : decode cMO_rootOf 3 = .ok (.iconst 1, 1) := by decide +kernel
theorem dMO_rootOf_4 : decode cMO_rootOf 4 = .ok (.iadd, 1) := by decide +kernel
theorem dMO_rootOf_5 : decode cMO_rootOf 5 = .ok (.iload_n 1, 1) := by decide +kernel
theorem dMO_rootOf_6 : decode cMO_rootOf 6 = .ok (.iconst 1, 1) := by decide +kernel
theorem dMO_rootOf_7 : decode cMO_rootOf 7 = .ok (.iadd, 1) := by decide +kernel
theorem dMO_rootOf_8 : decode cMO_rootOf 8 = .ok (.imul, 1) := by decide +kernel
theorem dMO_rootOf_9 : decode cMO_rootOf 9 = .ok (.iload_n 0, 1) := by decide +kernel
theorem dMO_rootOf_10 : decode cMO_rootOf 10 = .ok (.if_icmp .gt 9, 3) := by decide +kernel
theorem dMO_rootOf_13 : decode cMO_rootOf 13 = .ok (.iinc 1 1, 3) := by decide +kernel
theorem dMO_rootOf_16 : decode cMO_rootOf 16 = .ok (.goto (-14), 3) := by decide +kernel
theorem dMO_rootOf_19 : decode cMO_rootOf 19 = .ok (.iload_n 1, 1) := by decide +kernel
theorem dMO_rootOf_20 : decode cMO_rootOf 20 = .ok (.ireturn, 1) := by decide +kernel
theorem dMO_distance_0 : decode cMO_distance 0 = .ok (.iload_n 3, 1) := by decide +kernel
theorem dMO_distance_1 : decode cMO_distance 1 = .ok (.bipush 12, 2) := by decide +kernel
theorem dMO_distance_3 : decode cMO_distance 3 = .ok (.irem, 1) := by decide +kernel
theorem dMO_distance_4 : decode cMO_distance 4 = .ok (.iload_n 1, 1) := by decide +kernel
theorem dMO_distance_5 : decode cMO_distance 5 = .ok (.isub, 1) := by decide +kernel
theorem dMO_distance_6 : decode cMO_distance 6 = .ok (.istore 4, 2) := by decide +kernel
theorem dMO_distance_8 : decode cMO_distance 8 = .ok (.iload_n 3, 1) := by decide +kernel
theorem dMO_distance_9 : decode cMO_distance 9 = .ok (.bipush 12, 2) := by decide +kernel
theorem dMO_distance_11 : decode cMO_distance 11 = .ok (.idiv, 1) := by decide +kernel
theorem dMO_distance_12 : decode cMO_distance 12 = .ok (.iload_n 2, 1) := by decide +kernel
theorem dMO_distance_13 : decode cMO_distance 13 = .ok (.isub, 1) := by decide +kernel
theorem dMO_distance_14 : decode cMO_distance 14 = .ok (.istore 5, 2) := by decide +kernel
theorem dMO_distance_16 : decode cMO_distance 16 = .ok (.iload 4, 2) := by decide +kernel
theorem dMO_distance_18 : decode cMO_distance 18 = .ok (.iload 4, 2) := by decide +kernel
theorem dMO_distance_20 : decode cMO_distance 20 = .ok (.imul, 1) := by decide +kernel
theorem dMO_distance_21 : decode cMO_distance 21 = .ok (.iload 5, 2) := by decide +kernel
theorem dMO_distance_23 : decode cMO_distance 23 = .ok (.iload 5, 2) := by decide +kernel
theorem dMO_distance_25 : decode cMO_distance 25 = .ok (.imul, 1) := by decide +kernel
theorem dMO_distance_26 : decode cMO_distance 26 = .ok (.iadd, 1) := by decide +kernel
theorem dMO_distance_27 : decode cMO_distance 27 = .ok (.ireturn, 1) := by decide +kernel
theorem dMO_isNear_0 : decode cMO_isNear 0 = .ok (.aload_n 0, 1) := by decide +kernel
theorem dMO_isNear_1 : decode cMO_isNear 1 = .ok (.iload_n 3, 1) := by decide +kernel
theorem dMO_isNear_2 : decode cMO_isNear 2 = .ok (.bipush 12, 2) := by decide +kernel
theorem dMO_isNear_4 : decode cMO_isNear 4 = .ok (.irem, 1) := by decide +kernel
theorem dMO_isNear_5 : decode cMO_isNear 5 = .ok (.iload_n 3, 1) := by decide +kernel
theorem dMO_isNear_6 : decode cMO_isNear 6 = .ok (.bipush 12, 2) := by decide +kernel
theorem dMO_isNear_8 : decode cMO_isNear 8 = .ok (.idiv, 1) := by decide +kernel
theorem dMO_isNear_9 : decode cMO_isNear 9 = .ok (.invokevirtual 70, 3) := by decide +kernel
theorem dMO_isNear_12 : decode cMO_isNear 12 = .ok (.ifCond .eq 26, 3) := by decide +kernel
theorem dMO_isNear_15 : decode cMO_isNear 15 = .ok (.aload_n 0, 1) := by decide +kernel
theorem dMO_isNear_16 : decode cMO_isNear 16 = .ok (.iload_n 1, 1) := by decide +kernel
theorem dMO_isNear_17 : decode cMO_isNear 17 = .ok (.iload_n 2, 1) := by decide +kernel
theorem dMO_isNear_18 : decode cMO_isNear 18 = .ok (.iload_n 3, 1) := by decide +kernel
theorem dMO_isNear_19 : decode cMO_isNear 19 = .ok (.invokevirtual 74, 3) := by decide +kernel
theorem dMO_isNear_22 : decode cMO_isNear 22 = .ok (.aload_n 0, 1) := by decide +kernel
theorem dMO_isNear_23 : decode cMO_isNear 23 = .ok (.getfield 52, 3) := by decide +kernel
theorem dMO_isNear_26 : decode cMO_isNear 26 = .ok (.aload_n 0, 1) := by decide +kernel
theorem dMO_isNear_27 : decode cMO_isNear 27 = .ok (.getfield 52, 3) := by decide +kernel
theorem dMO_isNear_30 : decode cMO_isNear 30 = .ok (.imul, 1) := by decide +kernel
theorem dMO_isNear_31 : decode cMO_isNear 31 = .ok (.if_icmp .gt 7, 3) := by decide +kernel
theorem dMO_isNear_34 : decode cMO_isNear 34 = .ok (.iconst 1, 1) := by decide +kernel
theorem dMO_isNear_35 : decode cMO_isNear 35 = .ok (.goto 4, 3) := by decide +kernel
theorem dMO_isNear_38 : decode cMO_isNear 38 = .ok (.iconst 0, 1) := by decide +kernel
theorem dMO_isNear_39 : decode cMO_isNear 39 = .ok (.ireturn, 1) := by decide +kernel
theorem dMO_restAt_0 : decode cMO_restAt 0 = .ok (.aload_n 0, 1) := by decide +kernel
theorem dMO_restAt_1 : decode cMO_restAt 1 = .ok (.iload_n 1, 1) := by decide +kernel
theorem dMO_restAt_2 : decode cMO_restAt 2 = .ok (.iload_n 2, 1) := by decide +kernel
theorem dMO_restAt_3 : decode cMO_restAt 3 = .ok (.invokevirtual 78, 3) := by decide +kernel
theorem dMO_restAt_6 : decode cMO_restAt 6 = .ok (.istore_n 3, 1) := by decide +kernel
theorem dMO_restAt_7 : decode cMO_restAt 7 = .ok (.aload_n 0, 1) := by decide +kernel
theorem dMO_restAt_8 : decode cMO_restAt 8 = .ok (.getfield 29, 3) := by decide +kernel
theorem dMO_restAt_11 : decode cMO_restAt 11 = .ok (.iload_n 3, 1) := by decide +kernel
theorem dMO_restAt_12 : decode cMO_restAt 12 = .ok (.iconst 0, 1) := by decide +kernel
theorem dMO_restAt_13 : decode cMO_restAt 13 = .ok (.iastore, 1) := by decide +kernel
theorem dMO_restAt_14 : decode cMO_restAt 14 = .ok (.aload_n 0, 1) := by decide +kernel
theorem dMO_restAt_15 : decode cMO_restAt 15 = .ok (.getfield 32, 3) := by decide +kernel
theorem dMO_restAt_18 : decode cMO_restAt 18 = .ok (.iload_n 3, 1) := by decide +kernel
theorem dMO_restAt_19 : decode cMO_restAt 19 = .ok (.aload_n 0, 1) := by decide +kernel
theorem dMO_restAt_20 : decode cMO_restAt 20 = .ok (.getfield 52, 3) := by decide +kernel
theorem dMO_restAt_23 : decode cMO_restAt 23 = .ok (.aload_n 0, 1) := by decide +kernel
theorem dMO_restAt_24 : decode cMO_restAt 24 = .ok (.getfield 52, 3) := by decide +kernel
theorem dMO_restAt_27 : decode cMO_restAt 27 = .ok (.imul, 1) := by decide +kernel
theorem dMO_restAt_28 : decode cMO_restAt 28 = .ok (.iastore, 1) := by decide +kernel
theorem dMO_restAt_29 : decode cMO_restAt 29 = .ok (.iconst 0, 1) := by decide +kernel
theorem dMO_restAt_30 : decode cMO_restAt 30 = .ok (.istore 4, 2) := by decide +kernel
theorem dMO_restAt_32 : decode cMO_restAt 32 = .ok (.iload 4, 2) := by decide +kernel
theorem dMO_restAt_34 : decode cMO_restAt 34 = .ok (.sipush 144, 3) := by decide +kernel
theorem dMO_restAt_37 : decode cMO_restAt 37 = .ok (.if_icmp .ge 88, 3) := by decide +kernel
theorem dMO_restAt_40 : decode cMO_restAt 40 = .ok (.aload_n 0, 1) := by decide +kernel
theorem dMO_restAt_41 : decode cMO_restAt 41 = .ok (.iload_n 1, 1) := by decide +kernel
theorem dMO_restAt_42 : decode cMO_restAt 42 = .ok (.iload_n 2, 1) := by decide +kernel
theorem dMO_restAt_43 : decode cMO_restAt 43 = .ok (.iload 4, 2) := by decide +kernel
theorem dMO_restAt_45 : decode cMO_restAt 45 = .ok (.invokevirtual 81, 3) := by decide +kernel
theorem dMO_restAt_48 : decode cMO_restAt 48 = .ok (.ifCond .eq 71, 3) := by decide +kernel
theorem dMO_restAt_51 : decode cMO_restAt 51 = .ok (.aload_n 0, 1) := by decide +kernel
theorem dMO_restAt_52 : decode cMO_restAt 52 = .ok (.getfield 52, 3) := by decide +kernel
theorem dMO_restAt_55 : decode cMO_restAt 55 = .ok (.aload_n 0, 1) := by decide +kernel
theorem dMO_restAt_56 : decode cMO_restAt 56 = .ok (.getfield 52, 3) := by decide +kernel
theorem dMO_restAt_59 : decode cMO_restAt 59 = .ok (.imul, 1) := by decide +kernel
theorem dMO_restAt_60 : decode cMO_restAt 60 = .ok (.aload_n 0, 1) := by decide +kernel
theorem dMO_restAt_61 : decode cMO_restAt 61 = .ok (.iload_n 1, 1) := by decide +kernel
theorem dMO_restAt_62 : decode cMO_restAt 62 = .ok (.iload_n 2, 1) := by decide +kernel
theorem dMO_restAt_63 : decode cMO_restAt 63 = .ok (.iload 4, 2) := by decide +kernel
theorem dMO_restAt_65 : decode cMO_restAt 65 = .ok (.invokevirtual 74, 3) := by decide +kernel
theorem dMO_restAt_68 : decode cMO_restAt 68 = .ok (.isub, 1) := by decide +kernel
theorem dMO_restAt_69 : decode cMO_restAt 69 = .ok (.istore 5, 2) := by decide +kernel
theorem dMO_restAt_71 : decode cMO_restAt 71 = .ok (.aload_n 0, 1) := by decide +kernel
theorem dMO_restAt_72 : decode cMO_restAt 72 = .ok (.getfield 16, 3) := by decide +kernel
theorem dMO_restAt_75 : decode cMO_restAt 75 = .ok (.iload 4, 2) := by decide +kernel
theorem dMO_restAt_77 : decode cMO_restAt 77 = .ok (.iaload, 1) := by decide +kernel
theorem dMO_restAt_78 : decode cMO_restAt 78 = .ok (.iload 5, 2) := by decide +kernel
theorem dMO_restAt_80 : decode cMO_restAt 80 = .ok (.aload_n 0, 1) := by decide +kernel
theorem dMO_restAt_81 : decode cMO_restAt 81 = .ok (.getfield 29, 3) := by decide +kernel
theorem dMO_restAt_84 : decode cMO_restAt 84 = .ok (.iload_n 3, 1) := by decide +kernel
theorem dMO_restAt_85 : decode cMO_restAt 85 = .ok (.iaload, 1) := by decide +kernel
theorem dMO_restAt_86 : decode cMO_restAt 86 = .ok (.aload_n 0, 1) := by decide +kernel
theorem dMO_restAt_87 : decode cMO_restAt 87 = .ok (.getfield 32, 3) := by decide +kernel
theorem dMO_restAt_90 : decode cMO_restAt 90 = .ok (.iload_n 3, 1) := by decide +kernel
theorem dMO_restAt_91 : decode cMO_restAt 91 = .ok (.iaload, 1) := by decide +kernel
theorem dMO_restAt_92 : decode cMO_restAt 92 = .ok (.invokestatic 66, 3) := by decide +kernel
theorem dMO_restAt_95 : decode cMO_restAt 95 = .ok (.ifCond .le 24, 3) := by decide +kernel
theorem dMO_restAt_98 : decode cMO_restAt 98 = .ok (.aload_n 0, 1) := by decide +kernel
theorem dMO_restAt_99 : decode cMO_restAt 99 = .ok (.getfield 29, 3) := by decide +kernel
theorem dMO_restAt_102 : decode cMO_restAt 102 = .ok (.iload_n 3, 1) := by decide +kernel
theorem dMO_restAt_103 : decode cMO_restAt 103 = .ok (.aload_n 0, 1) := by decide +kernel
theorem dMO_restAt_104 : decode cMO_restAt 104 = .ok (.getfield 16, 3) := by decide +kernel
theorem dMO_restAt_107 : decode cMO_restAt 107 = .ok (.iload 4, 2) := by decide +kernel
theorem dMO_restAt_109 : decode cMO_restAt 109 = .ok (.iaload, 1) := by decide +kernel
theorem dMO_restAt_110 : decode cMO_restAt 110 = .ok (.iastore, 1) := by decide +kernel
theorem dMO_restAt_111 : decode cMO_restAt 111 = .ok (.aload_n 0, 1) := by decide +kernel
theorem dMO_restAt_112 : decode cMO_restAt 112 = .ok (.getfield 32, 3) := by decide +kernel
theorem dMO_restAt_115 : decode cMO_restAt 115 = .ok (.iload_n 3, 1) := by decide +kernel
theorem dMO_restAt_116 : decode cMO_restAt 116 = .ok (.iload 5, 2) := by decide +kernel
theorem dMO_restAt_118 : decode cMO_restAt 118 = .ok (.iastore, 1) := by decide +kernel
theorem dMO_restAt_119 : decode cMO_restAt 119 = .ok (.iinc 4 1, 3) := by decide +kernel
theorem dMO_restAt_122 : decode cMO_restAt 122 = .ok (.goto (-90), 3) := by decide +kernel
theorem dMO_restAt_125 : decode cMO_restAt 125 = .ok (.return_, 1) := by decide +kernel
theorem dMO_isTouched_0 : decode cMO_isTouched 0 = .ok (.aload_n 0, 1) := by decide +kernel
theorem dMO_isTouched_1 : decode cMO_isTouched 1 = .ok (.iload_n 1, 1) := by decide +kernel
theorem dMO_isTouched_2 : decode cMO_isTouched 2 = .ok (.iload_n 2, 1) := by decide +kernel
theorem dMO_isTouched_3 : decode cMO_isTouched 3 = .ok (.invokevirtual 78, 3) := by decide +kernel
theorem dMO_isTouched_6 : decode cMO_isTouched 6 = .ok (.istore 4, 2) := by decide +kernel
theorem dMO_isTouched_8 : decode cMO_isTouched 8 = .ok (.aload_n 0, 1) := by decide +kernel
theorem dMO_isTouched_9 : decode cMO_isTouched 9 = .ok (.iload_n 1, 1) := by decide +kernel
theorem dMO_isTouched_10 : decode cMO_isTouched 10 = .ok (.iload_n 2, 1) := by decide +kernel
theorem dMO_isTouched_11 : decode cMO_isTouched 11 = .ok (.iload_n 3, 1) := by decide +kernel
theorem dMO_isTouched_12 : decode cMO_isTouched 12 = .ok (.invokevirtual 81, 3) := by decide +kernel
theorem dMO_isTouched_15 : decode cMO_isTouched 15 = .ok (.ifCond .eq 50, 3) := by decide +kernel
theorem dMO_isTouched_18 : decode cMO_isTouched 18 = .ok (.aload_n 0, 1) := by decide +kernel
theorem dMO_isTouched_19 : decode cMO_isTouched 19 = .ok (.getfield 16, 3) := by decide +kernel
theorem dMO_isTouched_22 : decode cMO_isTouched 22 = .ok (.iload_n 3, 1) := by decide +kernel
theorem dMO_isTouched_23 : decode cMO_isTouched 23 = .ok (.iaload, 1) := by decide +kernel
theorem dMO_isTouched_24 : decode cMO_isTouched 24 = .ok (.aload_n 0, 1) := by decide +kernel
theorem dMO_isTouched_25 : decode cMO_isTouched 25 = .ok (.getfield 52, 3) := by decide +kernel
theorem dMO_isTouched_28 : decode cMO_isTouched 28 = .ok (.aload_n 0, 1) := by decide +kernel
theorem dMO_isTouched_29 : decode cMO_isTouched 29 = .ok (.getfield 52, 3) := by decide +kernel
theorem dMO_isTouched_32 : decode cMO_isTouched 32 = .ok (.imul, 1) := by decide +kernel
theorem dMO_isTouched_33 : decode cMO_isTouched 33 = .ok (.aload_n 0, 1) := by decide +kernel
theorem dMO_isTouched_34 : decode cMO_isTouched 34 = .ok (.iload_n 1, 1) := by decide +kernel
theorem dMO_isTouched_35 : decode cMO_isTouched 35 = .ok (.iload_n 2, 1) := by decide +kernel
theorem dMO_isTouched_36 : decode cMO_isTouched 36 = .ok (.iload_n 3, 1) := by decide +kernel
theorem dMO_isTouched_37 : decode cMO_isTouched 37 = .ok (.invokevirtual 74, 3) := by decide +kernel
theorem dMO_isTouched_40 : decode cMO_isTouched 40 = .ok (.isub, 1) := by decide +kernel
theorem dMO_isTouched_41 : decode cMO_isTouched 41 = .ok (.aload_n 0, 1) := by decide +kernel
theorem dMO_isTouched_42 : decode cMO_isTouched 42 = .ok (.getfield 29, 3) := by decide +kernel
theorem dMO_isTouched_45 : decode cMO_isTouched 45 = .ok (.iload 4, 2) := by decide +kernel
theorem dMO_isTouched_47 : decode cMO_isTouched 47 = .ok (.iaload, 1) := by decide +kernel
theorem dMO_isTouched_48 : decode cMO_isTouched 48 = .ok (.aload_n 0, 1) := by decide +kernel
theorem dMO_isTouched_49 : decode cMO_isTouched 49 = .ok (.getfield 32, 3) := by decide +kernel
theorem dMO_isTouched_52 : decode cMO_isTouched 52 = .ok (.iload 4, 2) := by decide +kernel
theorem dMO_isTouched_54 : decode cMO_isTouched 54 = .ok (.iaload, 1) := by decide +kernel
theorem dMO_isTouched_55 : decode cMO_isTouched 55 = .ok (.invokestatic 66, 3) := by decide +kernel
theorem dMO_isTouched_58 : decode cMO_isTouched 58 = .ok (.ifCond .ne 7, 3) := by decide +kernel
theorem dMO_isTouched_61 : decode cMO_isTouched 61 = .ok (.iconst 1, 1) := by decide +kernel
theorem dMO_isTouched_62 : decode cMO_isTouched 62 = .ok (.goto 4, 3) := by decide +kernel
theorem dMO_isTouched_65 : decode cMO_isTouched 65 = .ok (.iconst 0, 1) := by decide +kernel
theorem dMO_isTouched_66 : decode cMO_isTouched 66 = .ok (.ireturn, 1) := by decide +kernel
theorem dMO_stand_0 : decode cMO_stand 0 = .ok (.iconst 0, 1) := by decide +kernel
theorem dMO_stand_1 : decode cMO_stand 1 = .ok (.istore_n 1, 1) := by decide +kernel
theorem dMO_stand_2 : decode cMO_stand 2 = .ok (.iload_n 1, 1) := by decide +kernel
theorem dMO_stand_3 : decode cMO_stand 3 = .ok (.sipush 144, 3) := by decide +kernel
theorem dMO_stand_6 : decode cMO_stand 6 = .ok (.if_icmp .ge 28, 3) := by decide +kernel
theorem dMO_stand_9 : decode cMO_stand 9 = .ok (.aload_n 0, 1) := by decide +kernel
theorem dMO_stand_10 : decode cMO_stand 10 = .ok (.getfield 16, 3) := by decide +kernel
theorem dMO_stand_13 : decode cMO_stand 13 = .ok (.iload_n 1, 1) := by decide +kernel
theorem dMO_stand_14 : decode cMO_stand 14 = .ok (.aload_n 0, 1) := by decide +kernel
theorem dMO_stand_15 : decode cMO_stand 15 = .ok (.getfield 7, 3) := by decide +kernel
theorem dMO_stand_18 : decode cMO_stand 18 = .ok (.iload_n 1, 1) := by decide +kernel
theorem dMO_stand_19 : decode cMO_stand 19 = .ok (.iaload, 1) := by decide +kernel
theorem dMO_stand_20 : decode cMO_stand 20 = .ok (.aload_n 0, 1) := by decide +kernel
theorem dMO_stand_21 : decode cMO_stand 21 = .ok (.getfield 13, 3) := by decide +kernel
theorem dMO_stand_24 : decode cMO_stand 24 = .ok (.iload_n 1, 1) := by decide +kernel
theorem dMO_stand_25 : decode cMO_stand 25 = .ok (.iaload, 1) := by decide +kernel
theorem dMO_stand_26 : decode cMO_stand 26 = .ok (.iadd, 1) := by decide +kernel
theorem dMO_stand_27 : decode cMO_stand 27 = .ok (.iastore, 1) := by decide +kernel
theorem dMO_stand_28 : decode cMO_stand 28 = .ok (.iinc 1 1, 3) := by decide +kernel
theorem dMO_stand_31 : decode cMO_stand 31 = .ok (.goto (-29), 3) := by decide +kernel
theorem dMO_stand_34 : decode cMO_stand 34 = .ok (.return_, 1) := by decide +kernel
theorem dMO_roll_0 : decode cMO_roll 0 = .ok (.iconst 0, 1) := by decide +kernel
theorem dMO_roll_1 : decode cMO_roll 1 = .ok (.istore_n 1, 1) := by decide +kernel
theorem dMO_roll_2 : decode cMO_roll 2 = .ok (.iload_n 1, 1) := by decide +kernel
theorem dMO_roll_3 : decode cMO_roll 3 = .ok (.sipush 144, 3) := by decide +kernel
theorem dMO_roll_6 : decode cMO_roll 6 = .ok (.if_icmp .ge 16, 3) := by decide +kernel
theorem dMO_roll_9 : decode cMO_roll 9 = .ok (.aload_n 0, 1) := by decide +kernel
theorem dMO_roll_10 : decode cMO_roll 10 = .ok (.getfield 35, 3) := by decide +kernel
theorem dMO_roll_13 : decode cMO_roll 13 = .ok (.iload_n 1, 1) := by decide +kernel
theorem dMO_roll_14 : decode cMO_roll 14 = .ok (.iconst 0, 1) := by decide +kernel
theorem dMO_roll_15 : decode cMO_roll 15 = .ok (.iastore, 1) := by decide +kernel
theorem dMO_roll_16 : decode cMO_roll 16 = .ok (.iinc 1 1, 3) := by decide +kernel
theorem dMO_roll_19 : decode cMO_roll 19 = .ok (.goto (-17), 3) := by decide +kernel
theorem dMO_roll_22 : decode cMO_roll 22 = .ok (.aload_n 0, 1) := by decide +kernel
theorem dMO_roll_23 : decode cMO_roll 23 = .ok (.getfield 52, 3) := by decide +kernel
theorem dMO_roll_26 : decode cMO_roll 26 = .ok (.ineg, 1) := by decide +kernel
theorem dMO_roll_27 : decode cMO_roll 27 = .ok (.istore_n 1, 1) := by decide +kernel
theorem dMO_roll_28 : decode cMO_roll 28 = .ok (.iload_n 1, 1) := by decide +kernel
theorem dMO_roll_29 : decode cMO_roll 29 = .ok (.aload_n 0, 1) := by decide +kernel
theorem dMO_roll_30 : decode cMO_roll 30 = .ok (.getfield 49, 3) := by decide +kernel
theorem dMO_roll_33 : decode cMO_roll 33 = .ok (.aload_n 0, 1) := by decide +kernel
theorem dMO_roll_34 : decode cMO_roll 34 = .ok (.getfield 52, 3) := by decide +kernel
theorem dMO_roll_37 : decode cMO_roll 37 = .ok (.iadd, 1) := by decide +kernel
theorem dMO_roll_38 : decode cMO_roll 38 = .ok (.if_icmp .ge 79, 3) := by decide +kernel
theorem dMO_roll_41 : decode cMO_roll 41 = .ok (.aload_n 0, 1) := by decide +kernel
theorem dMO_roll_42 : decode cMO_roll 42 = .ok (.getfield 52, 3) := by decide +kernel
theorem dMO_roll_45 : decode cMO_roll 45 = .ok (.ineg, 1) := by decide +kernel
theorem dMO_roll_46 : decode cMO_roll 46 = .ok (.istore_n 2, 1) := by decide +kernel
theorem dMO_roll_47 : decode cMO_roll 47 = .ok (.iload_n 2, 1) := by decide +kernel
theorem dMO_roll_48 : decode cMO_roll 48 = .ok (.aload_n 0, 1) := by decide +kernel
theorem dMO_roll_49 : decode cMO_roll 49 = .ok (.getfield 45, 3) := by decide +kernel
theorem dMO_roll_52 : decode cMO_roll 52 = .ok (.aload_n 0, 1) := by decide +kernel
theorem dMO_roll_53 : decode cMO_roll 53 = .ok (.getfield 52, 3) := by decide +kernel
theorem dMO_roll_56 : decode cMO_roll 56 = .ok (.iadd, 1) := by decide +kernel
theorem dMO_roll_57 : decode cMO_roll 57 = .ok (.if_icmp .ge 54, 3) := by decide +kernel
theorem dMO_roll_60 : decode cMO_roll 60 = .ok (.aload_n 0, 1) := by decide +kernel
theorem dMO_roll_61 : decode cMO_roll 61 = .ok (.iload_n 2, 1) := by decide +kernel
theorem dMO_roll_62 : decode cMO_roll 62 = .ok (.iload_n 1, 1) := by decide +kernel
theorem dMO_roll_63 : decode cMO_roll 63 = .ok (.invokevirtual 84, 3) := by decide +kernel
theorem dMO_roll_66 : decode cMO_roll 66 = .ok (.iconst 0, 1) := by decide +kernel
theorem dMO_roll_67 : decode cMO_roll 67 = .ok (.istore_n 3, 1) := by decide +kernel
theorem dMO_roll_68 : decode cMO_roll 68 = .ok (.iload_n 3, 1) := by decide +kernel
theorem dMO_roll_69 : decode cMO_roll 69 = .ok (.sipush 144, 3) := by decide +kernel
theorem dMO_roll_72 : decode cMO_roll 72 = .ok (.if_icmp .ge 33, 3) := by decide +kernel
theorem dMO_roll_75 : decode cMO_roll 75 = .ok (.aload_n 0, 1) := by decide +kernel
theorem dMO_roll_76 : decode cMO_roll 76 = .ok (.getfield 35, 3) := by decide +kernel
theorem dMO_roll_79 : decode cMO_roll 79 = .ok (.iload_n 3, 1) := by decide +kernel
theorem dMO_roll_80 : decode cMO_roll 80 = .ok (.dup2, 1) := by decide +kernel
theorem dMO_roll_81 : decode cMO_roll 81 = .ok (.iaload, 1) := by decide +kernel
theorem dMO_roll_82 : decode cMO_roll 82 = .ok (.aload_n 0, 1) := by decide +kernel
theorem dMO_roll_83 : decode cMO_roll 83 = .ok (.iload_n 2, 1) := by decide +kernel
theorem dMO_roll_84 : decode cMO_roll 84 = .ok (.iload_n 1, 1) := by decide +kernel
theorem dMO_roll_85 : decode cMO_roll 85 = .ok (.iload_n 3, 1) := by decide +kernel
theorem dMO_roll_86 : decode cMO_roll 86 = .ok (.invokevirtual 88, 3) := by decide +kernel
theorem dMO_roll_89 : decode cMO_roll 89 = .ok (.ifCond .eq 7, 3) := by decide +kernel
theorem dMO_roll_92 : decode cMO_roll 92 = .ok (.iconst 1, 1) := by decide +kernel
theorem dMO_roll_93 : decode cMO_roll 93 = .ok (.goto 4, 3) := by decide +kernel
theorem dMO_roll_96 : decode cMO_roll 96 = .ok (.iconst 0, 1) := by decide +kernel
theorem dMO_roll_97 : decode cMO_roll 97 = .ok (.iadd, 1) := by decide +kernel
theorem dMO_roll_98 : decode cMO_roll 98 = .ok (.iastore, 1) := by decide +kernel
theorem dMO_roll_99 : decode cMO_roll 99 = .ok (.iinc 3 1, 3) := by decide +kernel
theorem dMO_roll_102 : decode cMO_roll 102 = .ok (.goto (-34), 3) := by decide +kernel
theorem dMO_roll_105 : decode cMO_roll 105 = .ok (.iinc 2 1, 3) := by decide +kernel
theorem dMO_roll_108 : decode cMO_roll 108 = .ok (.goto (-61), 3) := by decide +kernel
theorem dMO_roll_111 : decode cMO_roll 111 = .ok (.iinc 1 1, 3) := by decide +kernel
theorem dMO_roll_114 : decode cMO_roll 114 = .ok (.goto (-86), 3) := by decide +kernel
theorem dMO_roll_117 : decode cMO_roll 117 = .ok (.return_, 1) := by decide +kernel
theorem dMO_height_0 : decode cMO_height 0 = .ok (.aload_n 0, 1) := by decide +kernel
theorem dMO_height_1 : decode cMO_height 1 = .ok (.aload_n 0, 1) := by decide +kernel
theorem dMO_height_2 : decode cMO_height 2 = .ok (.iload_n 1, 1) := by decide +kernel
theorem dMO_height_3 : decode cMO_height 3 = .ok (.iload_n 2, 1) := by decide +kernel
theorem dMO_height_4 : decode cMO_height 4 = .ok (.invokevirtual 70, 3) := by decide +kernel
theorem dMO_height_7 : decode cMO_height 7 = .ok (.ifCond .eq 18, 3) := by decide +kernel
theorem dMO_height_10 : decode cMO_height 10 = .ok (.iload_n 3, 1) := by decide +kernel
theorem dMO_height_11 : decode cMO_height 11 = .ok (.iconst 0, 1) := by decide +kernel
theorem dMO_height_12 : decode cMO_height 12 = .ok (.sipush 200, 3) := by decide +kernel
theorem dMO_height_15 : decode cMO_height 15 = .ok (.invokestatic 58, 3) := by decide +kernel
theorem dMO_height_18 : decode cMO_height 18 = .ok (.ifCond .eq 7, 3) := by decide +kernel
theorem dMO_height_21 : decode cMO_height 21 = .ok (.iconst 0, 1) := by decide +kernel
theorem dMO_height_22 : decode cMO_height 22 = .ok (.goto 4, 3) := by decide +kernel
theorem dMO_height_25 : decode cMO_height 25 = .ok (.iconst 1, 1) := by decide +kernel
theorem dMO_height_26 : decode cMO_height 26 = .ok (.putfield 55, 3) := by decide +kernel
theorem dMO_height_29 : decode cMO_height 29 = .ok (.aload_n 0, 1) := by decide +kernel
theorem dMO_height_30 : decode cMO_height 30 = .ok (.getfield 55, 3) := by decide +kernel
theorem dMO_height_33 : decode cMO_height 33 = .ok (.ifCond .le 5, 3) := by decide +kernel
theorem dMO_height_36 : decode cMO_height 36 = .ok (.iconst 0, 1) := by decide +kernel
theorem dMO_height_37 : decode cMO_height 37 = .ok (.ireturn, 1) := by decide +kernel
theorem dMO_height_38 : decode cMO_height 38 = .ok (.aload_n 0, 1) := by decide +kernel
theorem dMO_height_39 : decode cMO_height 39 = .ok (.getfield 7, 3) := by decide +kernel
theorem dMO_height_42 : decode cMO_height 42 = .ok (.iload_n 1, 1) := by decide +kernel
theorem dMO_height_43 : decode cMO_height 43 = .ok (.iload_n 2, 1) := by decide +kernel
theorem dMO_height_44 : decode cMO_height 44 = .ok (.invokestatic 91, 3) := by decide +kernel
theorem dMO_height_47 : decode cMO_height 47 = .ok (.iaload, 1) := by decide +kernel
theorem dMO_height_48 : decode cMO_height 48 = .ok (.istore 4, 2) := by decide +kernel
theorem dMO_height_50 : decode cMO_height 50 = .ok (.aload_n 0, 1) := by decide +kernel
theorem dMO_height_51 : decode cMO_height 51 = .ok (.getfield 7, 3) := by decide +kernel
theorem dMO_height_54 : decode cMO_height 54 = .ok (.iload_n 1, 1) := by decide +kernel
theorem dMO_height_55 : decode cMO_height 55 = .ok (.iload_n 2, 1) := by decide +kernel
theorem dMO_height_56 : decode cMO_height 56 = .ok (.invokestatic 91, 3) := by decide +kernel
theorem dMO_height_59 : decode cMO_height 59 = .ok (.iload_n 3, 1) := by decide +kernel
theorem dMO_height_60 : decode cMO_height 60 = .ok (.iastore, 1) := by decide +kernel
theorem dMO_height_61 : decode cMO_height 61 = .ok (.iload 4, 2) := by decide +kernel
theorem dMO_height_63 : decode cMO_height 63 = .ok (.ireturn, 1) := by decide +kernel
theorem dMO_rod_0 : decode cMO_rod 0 = .ok (.aload_n 0, 1) := by decide +kernel
theorem dMO_rod_1 : decode cMO_rod 1 = .ok (.aload_n 0, 1) := by decide +kernel
theorem dMO_rod_2 : decode cMO_rod 2 = .ok (.iload_n 1, 1) := by decide +kernel
theorem dMO_rod_3 : decode cMO_rod 3 = .ok (.iload_n 2, 1) := by decide +kernel
theorem dMO_rod_4 : decode cMO_rod 4 = .ok (.invokevirtual 70, 3) := by decide +kernel
theorem dMO_rod_7 : decode cMO_rod 7 = .ok (.ifCond .eq 17, 3) := by decide +kernel
theorem dMO_rod_10 : decode cMO_rod 10 = .ok (.iload_n 3, 1) := by decide +kernel
theorem dMO_rod_11 : decode cMO_rod 11 = .ok (.iconst 0, 1) := by decide +kernel
