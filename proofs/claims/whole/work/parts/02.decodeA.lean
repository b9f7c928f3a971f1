theorem dX0_init_0 : decode cX0_init 0 = .ok (.aload_n 0, 1) := by decide +kernel
theorem dX0_init_1 : decode cX0_init 1 = .ok (.invokespecial 3, 3) := by decide +kernel
theorem dX0_init_4 : decode cX0_init 4 = .ok (.aload_n 0, 1) := by decide +kernel
theorem dX0_init_5 : decode cX0_init 5 = .ok (.bipush 64, 2) := by decide +kernel
theorem dX0_init_7 : decode cX0_init 7 = .ok (.newarray .int, 2) := by decide +kernel
theorem dX0_init_9 : decode cX0_init 9 = .ok (.putfield 9, 3) := by decide +kernel
theorem dX0_init_12 : decode cX0_init 12 = .ok (.aload_n 0, 1) := by decide +kernel
theorem dX0_init_13 : decode cX0_init 13 = .ok (.bipush 64, 2) := by decide +kernel
theorem dX0_init_15 : decode cX0_init 15 = .ok (.newarray .int, 2) := by decide +kernel
theorem dX0_init_17 : decode cX0_init 17 = .ok (.putfield 15, 3) := by decide +kernel
theorem dX0_init_20 : decode cX0_init 20 = .ok (.return_, 1) := by decide +kernel
theorem dX0_bestSet_0 : decode cX0_bestSet 0 = .ok (.aload_n 2, 1) := by decide +kernel
theorem dX0_bestSet_1 : decode cX0_bestSet 1 = .ok (.aload_n 1, 1) := by decide +kernel
theorem dX0_bestSet_2 : decode cX0_bestSet 2 = .ok (.iload_n 3, 1) := by decide +kernel
theorem dX0_bestSet_3 : decode cX0_bestSet 3 = .ok (.invokevirtual 18, 3) := by decide +kernel
theorem dX0_bestSet_6 : decode cX0_bestSet 6 = .ok (.istore 4, 2) := by decide +kernel
theorem dX0_bestSet_8 : decode cX0_bestSet 8 = .ok (.iconst 0, 1) := by decide +kernel
theorem dX0_bestSet_9 : decode cX0_bestSet 9 = .ok (.istore 5, 2) := by decide +kernel
theorem dX0_bestSet_11 : decode cX0_bestSet 11 = .ok (.aload_n 1, 1) := by decide +kernel
theorem dX0_bestSet_12 : decode cX0_bestSet 12 = .ok (.iconst 0, 1) := by decide +kernel
theorem dX0_bestSet_13 : decode cX0_bestSet 13 = .ok (.invokevirtual 24, 3) := by decide +kernel
theorem dX0_bestSet_16 : decode cX0_bestSet 16 = .ok (.istore 6, 2) := by decide +kernel
theorem dX0_bestSet_18 : decode cX0_bestSet 18 = .ok (.iconst 1, 1) := by decide +kernel
theorem dX0_bestSet_19 : decode cX0_bestSet 19 = .ok (.istore 7, 2) := by decide +kernel
theorem dX0_bestSet_21 : decode cX0_bestSet 21 = .ok (.iload 7, 2) := by decide +kernel
theorem dX0_bestSet_23 : decode cX0_bestSet 23 = .ok (.aload_n 1, 1) := by decide +kernel
theorem dX0_bestSet_24 : decode cX0_bestSet 24 = .ok (.invokevirtual 30, 3) := by decide +kernel
theorem dX0_bestSet_27 : decode cX0_bestSet 27 = .ok (.if_icmp .gt 80, 3) := by decide +kernel
theorem dX0_bestSet_30 : decode cX0_bestSet 30 = .ok (.aload_n 1, 1) := by decide +kernel
theorem dX0_bestSet_31 : decode cX0_bestSet 31 = .ok (.iload 7, 2) := by decide +kernel
theorem dX0_bestSet_33 : decode cX0_bestSet 33 = .ok (.invokevirtual 34, 3) := by decide +kernel
theorem dX0_bestSet_36 : decode cX0_bestSet 36 = .ok (.aload_n 1, 1) := by decide +kernel
theorem dX0_bestSet_37 : decode cX0_bestSet 37 = .ok (.getfield 37, 3) := by decide +kernel
theorem dX0_bestSet_40 : decode cX0_bestSet 40 = .ok (.if_icmp .gt 61, 3) := by decide +kernel
theorem dX0_bestSet_43 : decode cX0_bestSet 43 = .ok (.aload_n 1, 1) := by decide +kernel
theorem dX0_bestSet_44 : decode cX0_bestSet 44 = .ok (.iload 7, 2) := by decide +kernel
theorem dX0_bestSet_46 : decode cX0_bestSet 46 = .ok (.aload_n 2, 1) := by decide +kernel
theorem dX0_bestSet_47 : decode cX0_bestSet 47 = .ok (.getfield 41, 3) := by decide +kernel
theorem dX0_bestSet_50 : decode cX0_bestSet 50 = .ok (.iconst (-1), 1) := by decide +kernel
theorem dX0_bestSet_51 : decode cX0_bestSet 51 = .ok (.ixor, 1) := by decide +kernel
theorem dX0_bestSet_52 : decode cX0_bestSet 52 = .ok (.iand, 1) := by decide +kernel
theorem dX0_bestSet_53 : decode cX0_bestSet 53 = .ok (.invokevirtual 44, 3) := by decide +kernel
theorem dX0_bestSet_56 : decode cX0_bestSet 56 = .ok (.iload 4, 2) := by decide +kernel
theorem dX0_bestSet_58 : decode cX0_bestSet 58 = .ok (.if_icmp .gt 43, 3) := by decide +kernel
theorem dX0_bestSet_61 : decode cX0_bestSet 61 = .ok (.aload_n 1, 1) := by decide +kernel
theorem dX0_bestSet_62 : decode cX0_bestSet 62 = .ok (.iload 7, 2) := by decide +kernel
theorem dX0_bestSet_64 : decode cX0_bestSet 64 = .ok (.invokevirtual 24, 3) := by decide +kernel
theorem dX0_bestSet_67 : decode cX0_bestSet 67 = .ok (.istore 8, 2) := by decide +kernel
theorem dX0_bestSet_69 : decode cX0_bestSet 69 = .ok (.iload 8, 2) := by decide +kernel
theorem dX0_bestSet_71 : decode cX0_bestSet 71 = .ok (.iload 6, 2) := by decide +kernel
theorem dX0_bestSet_73 : decode cX0_bestSet 73 = .ok (.if_icmp .gt 20, 3) := by decide +kernel
theorem dX0_bestSet_76 : decode cX0_bestSet 76 = .ok (.iload 8, 2) := by decide +kernel
theorem dX0_bestSet_78 : decode cX0_bestSet 78 = .ok (.iload 6, 2) := by decide +kernel
theorem dX0_bestSet_80 : decode cX0_bestSet 80 = .ok (.if_icmp .ne 21, 3) := by decide +kernel
theorem dX0_bestSet_83 : decode cX0_bestSet 83 = .ok (.iload 7, 2) := by decide +kernel
theorem dX0_bestSet_85 : decode cX0_bestSet 85 = .ok (.iload 5, 2) := by decide +kernel
theorem dX0_bestSet_87 : decode cX0_bestSet 87 = .ok (.invokestatic 47, 3) := by decide +kernel
theorem dX0_bestSet_90 : decode cX0_bestSet 90 = .ok (.ifCond .eq 11, 3) := by decide +kernel
theorem dX0_bestSet_93 : decode cX0_bestSet 93 = .ok (.iload 7, 2) := by decide +kernel
theorem dX0_bestSet_95 : decode cX0_bestSet 95 = .ok (.istore 5, 2) := by decide +kernel
theorem dX0_bestSet_97 : decode cX0_bestSet 97 = .ok (.iload 8, 2) := by decide +kernel
theorem dX0_bestSet_99 : decode cX0_bestSet 99 = .ok (.istore 6, 2) := by decide +kernel
theorem dX0_bestSet_101 : decode cX0_bestSet 101 = .ok (.iinc 7 1, 3) := by decide +kernel
theorem dX0_bestSet_104 : decode cX0_bestSet 104 = .ok (.goto (-83), 3) := by decide +kernel
theorem dX0_bestSet_107 : decode cX0_bestSet 107 = .ok (.iload 5, 2) := by decide +kernel
theorem dX0_bestSet_109 : decode cX0_bestSet 109 = .ok (.ireturn, 1) := by decide +kernel
theorem dX0_isFewer_0 : decode cX0_isFewer 0 = .ok (.iload_n 0, 1) := by decide +kernel
theorem dX0_isFewer_1 : decode cX0_isFewer 1 = .ok (.invokestatic 51, 3) := by decide +kernel
theorem dX0_isFewer_4 : decode cX0_isFewer 4 = .ok (.iload_n 1, 1) := by decide +kernel
theorem dX0_isFewer_5 : decode cX0_isFewer 5 = .ok (.invokestatic 51, 3) := by decide +kernel
theorem dX0_isFewer_8 : decode cX0_isFewer 8 = .ok (.if_icmp .ge 7, 3) := by decide +kernel
theorem dX0_isFewer_11 : decode cX0_isFewer 11 = .ok (.iconst 1, 1) := by decide +kernel
theorem dX0_isFewer_12 : decode cX0_isFewer 12 = .ok (.goto 4, 3) := by decide +kernel
theorem dX0_isFewer_15 : decode cX0_isFewer 15 = .ok (.iconst 0, 1) := by decide +kernel
theorem dX0_isFewer_16 : decode cX0_isFewer 16 = .ok (.ireturn, 1) := by decide +kernel
theorem dX0_fewestThings_0 : decode cX0_fewestThings 0 = .ok (.aload_n 1, 1) := by decide +kernel
theorem dX0_fewestThings_1 : decode cX0_fewestThings 1 = .ok (.invokevirtual 30, 3) := by decide +kernel
theorem dX0_fewestThings_4 : decode cX0_fewestThings 4 = .ok (.istore_n 3, 1) := by decide +kernel
theorem dX0_fewestThings_5 : decode cX0_fewestThings 5 = .ok (.iconst 0, 1) := by decide +kernel
theorem dX0_fewestThings_6 : decode cX0_fewestThings 6 = .ok (.istore 4, 2) := by decide +kernel
theorem dX0_fewestThings_8 : decode cX0_fewestThings 8 = .ok (.iload 4, 2) := by decide +kernel
theorem dX0_fewestThings_10 : decode cX0_fewestThings 10 = .ok (.aload_n 1, 1) := by decide +kernel
theorem dX0_fewestThings_11 : decode cX0_fewestThings 11 = .ok (.invokevirtual 30, 3) := by decide +kernel
theorem dX0_fewestThings_14 : decode cX0_fewestThings 14 = .ok (.if_icmp .ge 34, 3) := by decide +kernel
theorem dX0_fewestThings_17 : decode cX0_fewestThings 17 = .ok (.iload 4, 2) := by decide +kernel
theorem dX0_fewestThings_19 : decode cX0_fewestThings 19 = .ok (.iload_n 3, 1) := by decide +kernel
theorem dX0_fewestThings_20 : decode cX0_fewestThings 20 = .ok (.invokestatic 47, 3) := by decide +kernel
theorem dX0_fewestThings_23 : decode cX0_fewestThings 23 = .ok (.ifCond .eq 19, 3) := by decide +kernel
theorem dX0_fewestThings_26 : decode cX0_fewestThings 26 = .ok (.iload_n 2, 1) := by decide +kernel
theorem dX0_fewestThings_27 : decode cX0_fewestThings 27 = .ok (.aload_n 1, 1) := by decide +kernel
theorem dX0_fewestThings_28 : decode cX0_fewestThings 28 = .ok (.iload 4, 2) := by decide +kernel
theorem dX0_fewestThings_30 : decode cX0_fewestThings 30 = .ok (.invokevirtual 56, 3) := by decide +kernel
theorem dX0_fewestThings_33 : decode cX0_fewestThings 33 = .ok (.iconst (-1), 1) := by decide +kernel
theorem dX0_fewestThings_34 : decode cX0_fewestThings 34 = .ok (.ixor, 1) := by decide +kernel
theorem dX0_fewestThings_35 : decode cX0_fewestThings 35 = .ok (.iand, 1) := by decide +kernel
theorem dX0_fewestThings_36 : decode cX0_fewestThings 36 = .ok (.ifCond .ne 6, 3) := by decide +kernel
theorem dX0_fewestThings_39 : decode cX0_fewestThings 39 = .ok (.iload 4, 2) := by decide +kernel
theorem dX0_fewestThings_41 : decode cX0_fewestThings 41 = .ok (.istore_n 3, 1) := by decide +kernel
theorem dX0_fewestThings_42 : decode cX0_fewestThings 42 = .ok (.iinc 4 1, 3) := by decide +kernel
theorem dX0_fewestThings_45 : decode cX0_fewestThings 45 = .ok (.goto (-37), 3) := by decide +kernel
theorem dX0_fewestThings_48 : decode cX0_fewestThings 48 = .ok (.iload_n 3, 1) := by decide +kernel
theorem dX0_fewestThings_49 : decode cX0_fewestThings 49 = .ok (.ireturn, 1) := by decide +kernel
theorem dX0_servesMost_0 : decode cX0_servesMost 0 = .ok (.bipush (-4), 2) := by decide +kernel
theorem dX0_servesMost_2 : decode cX0_servesMost 2 = .ok (.istore_n 3, 1) := by decide +kernel
theorem dX0_servesMost_3 : decode cX0_servesMost 3 = .ok (.iconst 0, 1) := by decide +kernel
theorem dX0_servesMost_4 : decode cX0_servesMost 4 = .ok (.istore 4, 2) := by decide +kernel
theorem dX0_servesMost_6 : decode cX0_servesMost 6 = .ok (.iconst 0, 1) := by decide +kernel
theorem dX0_servesMost_7 : decode cX0_servesMost 7 = .ok (.istore 5, 2) := by decide +kernel
theorem dX0_servesMost_9 : decode cX0_servesMost 9 = .ok (.iload 5, 2) := by decide +kernel
theorem dX0_servesMost_11 : decode cX0_servesMost 11 = .ok (.aload_n 1, 1) := by decide +kernel
theorem dX0_servesMost_12 : decode cX0_servesMost 12 = .ok (.getfield 59, 3) := by decide +kernel
theorem dX0_servesMost_15 : decode cX0_servesMost 15 = .ok (.if_icmp .ge 52, 3) := by decide +kernel
theorem dX0_servesMost_18 : decode cX0_servesMost 18 = .ok (.iload_n 2, 1) := by decide +kernel
theorem dX0_servesMost_19 : decode cX0_servesMost 19 = .ok (.iload 5, 2) := by decide +kernel
theorem dX0_servesMost_21 : decode cX0_servesMost 21 = .ok (.invokestatic 62, 3) := by decide +kernel
theorem dX0_servesMost_24 : decode cX0_servesMost 24 = .ok (.ifCond .eq 37, 3) := by decide +kernel
theorem dX0_servesMost_27 : decode cX0_servesMost 27 = .ok (.aload_n 1, 1) := by decide +kernel
theorem dX0_servesMost_28 : decode cX0_servesMost 28 = .ok (.iload_n 2, 1) := by decide +kernel
theorem dX0_servesMost_29 : decode cX0_servesMost 29 = .ok (.iconst 1, 1) := by decide +kernel
theorem dX0_servesMost_30 : decode cX0_servesMost 30 = .ok (.iload 5, 2) := by decide +kernel
theorem dX0_servesMost_32 : decode cX0_servesMost 32 = .ok (.ishl, 1) := by decide +kernel
theorem dX0_servesMost_33 : decode cX0_servesMost 33 = .ok (.iconst (-1), 1) := by decide +kernel
theorem dX0_servesMost_34 : decode cX0_servesMost 34 = .ok (.ixor, 1) := by decide +kernel
theorem dX0_servesMost_35 : decode cX0_servesMost 35 = .ok (.iand, 1) := by decide +kernel
theorem dX0_servesMost_36 : decode cX0_servesMost 36 = .ok (.invokevirtual 24, 3) := by decide +kernel
theorem dX0_servesMost_39 : decode cX0_servesMost 39 = .ok (.istore 6, 2) := by decide +kernel
theorem dX0_servesMost_41 : decode cX0_servesMost 41 = .ok (.iload_n 3, 1) := by decide +kernel
theorem dX0_servesMost_42 : decode cX0_servesMost 42 = .ok (.bipush (-4), 2) := by decide +kernel
theorem dX0_servesMost_44 : decode cX0_servesMost 44 = .ok (.if_icmp .eq 10, 3) := by decide +kernel
theorem dX0_servesMost_47 : decode cX0_servesMost 47 = .ok (.iload 6, 2) := by decide +kernel
theorem dX0_servesMost_49 : decode cX0_servesMost 49 = .ok (.iload 4, 2) := by decide +kernel
theorem dX0_servesMost_51 : decode cX0_servesMost 51 = .ok (.if_icmp .ge 10, 3) := by decide +kernel
theorem dX0_servesMost_54 : decode cX0_servesMost 54 = .ok (.iload 5, 2) := by decide +kernel
theorem dX0_servesMost_56 : decode cX0_servesMost 56 = .ok (.istore_n 3, 1) := by decide +kernel
theorem dX0_servesMost_57 : decode cX0_servesMost 57 = .ok (.iload 6, 2) := by decide +kernel
theorem dX0_servesMost_59 : decode cX0_servesMost 59 = .ok (.istore 4, 2) := by decide +kernel
theorem dX0_servesMost_61 : decode cX0_servesMost 61 = .ok (.iinc 5 1, 3) := by decide +kernel
theorem dX0_servesMost_64 : decode cX0_servesMost 64 = .ok (.goto (-55), 3) := by decide +kernel
theorem dX0_servesMost_67 : decode cX0_servesMost 67 = .ok (.iload_n 3, 1) := by decide +kernel
theorem dX0_servesMost_68 : decode cX0_servesMost 68 = .ok (.ireturn, 1) := by decide +kernel
theorem dX0_longestRow_0 : decode cX0_longestRow 0 = .ok (.aload_n 0, 1) := by decide +kernel
theorem dX0_longestRow_1 : decode cX0_longestRow 1 = .ok (.aload_n 1, 1) := by decide +kernel
theorem dX0_longestRow_2 : decode cX0_longestRow 2 = .ok (.aload_n 2, 1) := by decide +kernel
theorem dX0_longestRow_3 : decode cX0_longestRow 3 = .ok (.invokevirtual 65, 3) := by decide +kernel
theorem dX0_longestRow_6 : decode cX0_longestRow 6 = .ok (.aload_n 0, 1) := by decide +kernel
theorem dX0_longestRow_7 : decode cX0_longestRow 7 = .ok (.getfield 9, 3) := by decide +kernel
theorem dX0_longestRow_10 : decode cX0_longestRow 10 = .ok (.iconst 0, 1) := by decide +kernel
theorem dX0_longestRow_11 : decode cX0_longestRow 11 = .ok (.invokestatic 69, 3) := by decide +kernel
theorem dX0_longestRow_14 : decode cX0_longestRow 14 = .ok (.istore 4, 2) := by decide +kernel
theorem dX0_longestRow_16 : decode cX0_longestRow 16 = .ok (.iload_n 3, 1) := by decide +kernel
theorem dX0_longestRow_17 : decode cX0_longestRow 17 = .ok (.ifCond .ne 6, 3) := by decide +kernel
theorem dX0_longestRow_20 : decode cX0_longestRow 20 = .ok (.iload 4, 2) := by decide +kernel
theorem dX0_longestRow_22 : decode cX0_longestRow 22 = .ok (.ireturn, 1) := by decide +kernel
theorem dX0_longestRow_23 : decode cX0_longestRow 23 = .ok (.iload_n 3, 1) := by decide +kernel
theorem dX0_longestRow_24 : decode cX0_longestRow 24 = .ok (.iload 4, 2) := by decide +kernel
theorem dX0_longestRow_26 : decode cX0_longestRow 26 = .ok (.if_icmp .le 6, 3) := by decide +kernel
theorem dX0_longestRow_29 : decode cX0_longestRow 29 = .ok (.bipush (-4), 2) := by decide +kernel
theorem dX0_longestRow_31 : decode cX0_longestRow 31 = .ok (.ireturn, 1) := by decide +kernel
theorem dX0_longestRow_32 : decode cX0_longestRow 32 = .ok (.iconst 0, 1) := by decide +kernel
theorem dX0_longestRow_33 : decode cX0_longestRow 33 = .ok (.istore 5, 2) := by decide +kernel
theorem dX0_longestRow_35 : decode cX0_longestRow 35 = .ok (.bipush (-4), 2) := by decide +kernel
theorem dX0_longestRow_37 : decode cX0_longestRow 37 = .ok (.istore 6, 2) := by decide +kernel
theorem dX0_longestRow_39 : decode cX0_longestRow 39 = .ok (.iconst 0, 1) := by decide +kernel
theorem dX0_longestRow_40 : decode cX0_longestRow 40 = .ok (.istore 7, 2) := by decide +kernel
theorem dX0_longestRow_42 : decode cX0_longestRow 42 = .ok (.iload 7, 2) := by decide +kernel
theorem dX0_longestRow_44 : decode cX0_longestRow 44 = .ok (.iload_n 3, 1) := by decide +kernel
theorem dX0_longestRow_45 : decode cX0_longestRow 45 = .ok (.if_icmp .ge 28, 3) := by decide +kernel
theorem dX0_longestRow_48 : decode cX0_longestRow 48 = .ok (.aload_n 0, 1) := by decide +kernel
theorem dX0_longestRow_49 : decode cX0_longestRow 49 = .ok (.aload_n 1, 1) := by decide +kernel
theorem dX0_longestRow_50 : decode cX0_longestRow 50 = .ok (.aload_n 2, 1) := by decide +kernel
theorem dX0_longestRow_51 : decode cX0_longestRow 51 = .ok (.iload 5, 2) := by decide +kernel
theorem dX0_longestRow_53 : decode cX0_longestRow 53 = .ok (.invokevirtual 73, 3) := by decide +kernel
theorem dX0_longestRow_56 : decode cX0_longestRow 56 = .ok (.istore 6, 2) := by decide +kernel
theorem dX0_longestRow_58 : decode cX0_longestRow 58 = .ok (.iload 5, 2) := by decide +kernel
theorem dX0_longestRow_60 : decode cX0_longestRow 60 = .ok (.iconst 1, 1) := by decide +kernel
theorem dX0_longestRow_61 : decode cX0_longestRow 61 = .ok (.iload 6, 2) := by decide +kernel
theorem dX0_longestRow_63 : decode cX0_longestRow 63 = .ok (.ishl, 1) := by decide +kernel
theorem dX0_longestRow_64 : decode cX0_longestRow 64 = .ok (.ior, 1) := by decide +kernel
theorem dX0_longestRow_65 : decode cX0_longestRow 65 = .ok (.istore 5, 2) := by decide +kernel
theorem dX0_longestRow_67 : decode cX0_longestRow 67 = .ok (.iinc 7 1, 3) := by decide +kernel
theorem dX0_longestRow_70 : decode cX0_longestRow 70 = .ok (.goto (-28), 3) := by decide +kernel
theorem dX0_longestRow_73 : decode cX0_longestRow 73 = .ok (.iload 6, 2) := by decide +kernel
theorem dX0_longestRow_75 : decode cX0_longestRow 75 = .ok (.ireturn, 1) := by decide +kernel
theorem dX0_findLongest_0 : decode cX0_findLongest 0 = .ok (.aload_n 1, 1) := by decide +kernel
theorem dX0_findLongest_1 : decode cX0_findLongest 1 = .ok (.invokevirtual 77, 3) := by decide +kernel
theorem dX0_findLongest_4 : decode cX0_findLongest 4 = .ok (.istore_n 3, 1) := by decide +kernel
theorem dX0_findLongest_5 : decode cX0_findLongest 5 = .ok (.iload_n 3, 1) := by decide +kernel
theorem dX0_findLongest_6 : decode cX0_findLongest 6 = .ok (.ifCond .lt 73, 3) := by decide +kernel
theorem dX0_findLongest_9 : decode cX0_findLongest 9 = .ok (.iconst 0, 1) := by decide +kernel
theorem dX0_findLongest_10 : decode cX0_findLongest 10 = .ok (.istore 4, 2) := by decide +kernel
theorem dX0_findLongest_12 : decode cX0_findLongest 12 = .ok (.iconst 0, 1) := by decide +kernel
theorem dX0_findLongest_13 : decode cX0_findLongest 13 = .ok (.istore 5, 2) := by decide +kernel
theorem dX0_findLongest_15 : decode cX0_findLongest 15 = .ok (.iload 5, 2) := by decide +kernel
theorem dX0_findLongest_17 : decode cX0_findLongest 17 = .ok (.aload_n 1, 1) := by decide +kernel
theorem dX0_findLongest_18 : decode cX0_findLongest 18 = .ok (.getfield 80, 3) := by decide +kernel
theorem dX0_findLongest_21 : decode cX0_findLongest 21 = .ok (.if_icmp .ge 42, 3) := by decide +kernel
theorem dX0_findLongest_24 : decode cX0_findLongest 24 = .ok (.aload_n 1, 1) := by decide +kernel
theorem dX0_findLongest_25 : decode cX0_findLongest 25 = .ok (.aload_n 2, 1) := by decide +kernel
theorem dX0_findLongest_26 : decode cX0_findLongest 26 = .ok (.iload_n 3, 1) := by decide +kernel
theorem dX0_findLongest_27 : decode cX0_findLongest 27 = .ok (.iload 5, 2) := by decide +kernel
theorem dX0_findLongest_29 : decode cX0_findLongest 29 = .ok (.invokestatic 83, 3) := by decide +kernel
theorem dX0_findLongest_32 : decode cX0_findLongest 32 = .ok (.ifCond .eq 25, 3) := by decide +kernel
theorem dX0_findLongest_35 : decode cX0_findLongest 35 = .ok (.iload 4, 2) := by decide +kernel
theorem dX0_findLongest_37 : decode cX0_findLongest 37 = .ok (.iconst 1, 1) := by decide +kernel
theorem dX0_findLongest_38 : decode cX0_findLongest 38 = .ok (.aload_n 0, 1) := by decide +kernel
theorem dX0_findLongest_39 : decode cX0_findLongest 39 = .ok (.getfield 9, 3) := by decide +kernel
theorem dX0_findLongest_42 : decode cX0_findLongest 42 = .ok (.iload_n 3, 1) := by decide +kernel
theorem dX0_findLongest_43 : decode cX0_findLongest 43 = .ok (.iconst 1, 1) := by decide +kernel
theorem dX0_findLongest_44 : decode cX0_findLongest 44 = .ok (.iload 5, 2) := by decide +kernel
theorem dX0_findLongest_46 : decode cX0_findLongest 46 = .ok (.ishl, 1) := by decide +kernel
theorem dX0_findLongest_47 : decode cX0_findLongest 47 = .ok (.ior, 1) := by decide +kernel
theorem dX0_findLongest_48 : decode cX0_findLongest 48 = .ok (.invokestatic 69, 3) := by decide +kernel
theorem dX0_findLongest_51 : decode cX0_findLongest 51 = .ok (.iadd, 1) := by decide +kernel
theorem dX0_findLongest_52 : decode cX0_findLongest 52 = .ok (.invokestatic 87, 3) := by decide +kernel
theorem dX0_findLongest_55 : decode cX0_findLongest 55 = .ok (.istore 4, 2) := by decide +kernel
theorem dX0_findLongest_57 : decode cX0_findLongest 57 = .ok (.iinc 5 1, 3) := by decide +kernel
theorem dX0_findLongest_60 : decode cX0_findLongest 60 = .ok (.goto (-45), 3) := by decide +kernel
theorem dX0_findLongest_63 : decode cX0_findLongest 63 = .ok (.aload_n 0, 1) := by decide +kernel
theorem dX0_findLongest_64 : decode cX0_findLongest 64 = .ok (.getfield 9, 3) := by decide +kernel
theorem dX0_findLongest_67 : decode cX0_findLongest 67 = .ok (.iload_n 3, 1) := by decide +kernel
theorem dX0_findLongest_68 : decode cX0_findLongest 68 = .ok (.iload 4, 2) := by decide +kernel
theorem dX0_findLongest_70 : decode cX0_findLongest 70 = .ok (.invokestatic 93, 3) := by decide +kernel
theorem dX0_findLongest_73 : decode cX0_findLongest 73 = .ok (.iinc 3 (-1), 3) := by decide +kernel
theorem dX0_findLongest_76 : decode cX0_findLongest 76 = .ok (.goto (-71), 3) := by decide +kernel
theorem dX0_findLongest_79 : decode cX0_findLongest 79 = .ok (.return_, 1) := by decide +kernel
theorem dX0_nextInRow_0 : decode cX0_nextInRow 0 = .ok (.iconst 0, 1) := by decide +kernel
theorem dX0_nextInRow_1 : decode cX0_nextInRow 1 = .ok (.istore 4, 2) := by decide +kernel
theorem dX0_nextInRow_3 : decode cX0_nextInRow 3 = .ok (.iload 4, 2) := by decide +kernel
theorem dX0_nextInRow_5 : decode cX0_nextInRow 5 = .ok (.aload_n 1, 1) := by decide +kernel
theorem dX0_nextInRow_6 : decode cX0_nextInRow 6 = .ok (.getfield 80, 3) := by decide +kernel
theorem dX0_nextInRow_9 : decode cX0_nextInRow 9 = .ok (.if_icmp .ge 49, 3) := by decide +kernel
theorem dX0_nextInRow_12 : decode cX0_nextInRow 12 = .ok (.aload_n 1, 1) := by decide +kernel
theorem dX0_nextInRow_13 : decode cX0_nextInRow 13 = .ok (.aload_n 2, 1) := by decide +kernel
theorem dX0_nextInRow_14 : decode cX0_nextInRow 14 = .ok (.iload_n 3, 1) := by decide +kernel
theorem dX0_nextInRow_15 : decode cX0_nextInRow 15 = .ok (.iload 4, 2) := by decide +kernel
theorem dX0_nextInRow_17 : decode cX0_nextInRow 17 = .ok (.invokestatic 83, 3) := by decide +kernel
theorem dX0_nextInRow_20 : decode cX0_nextInRow 20 = .ok (.ifCond .eq 32, 3) := by decide +kernel
theorem dX0_nextInRow_23 : decode cX0_nextInRow 23 = .ok (.iconst 1, 1) := by decide +kernel
theorem dX0_nextInRow_24 : decode cX0_nextInRow 24 = .ok (.aload_n 0, 1) := by decide +kernel
theorem dX0_nextInRow_25 : decode cX0_nextInRow 25 = .ok (.getfield 9, 3) := by decide +kernel
theorem dX0_nextInRow_28 : decode cX0_nextInRow 28 = .ok (.iload_n 3, 1) := by decide +kernel
theorem dX0_nextInRow_29 : decode cX0_nextInRow 29 = .ok (.iconst 1, 1) := by decide +kernel
theorem dX0_nextInRow_30 : decode cX0_nextInRow 30 = .ok (.iload 4, 2) := by decide +kernel
theorem dX0_nextInRow_32 : decode cX0_nextInRow 32 = .ok (.ishl, 1) := by decide +kernel
theorem dX0_nextInRow_33 : decode cX0_nextInRow 33 = .ok (.ior, 1) := by decide +kernel
theorem dX0_nextInRow_34 : decode cX0_nextInRow 34 = .ok (.invokestatic 69, 3) := by decide +kernel
theorem dX0_nextInRow_37 : decode cX0_nextInRow 37 = .ok (.iadd, 1) := by decide +kernel
theorem dX0_nextInRow_38 : decode cX0_nextInRow 38 = .ok (.aload_n 0, 1) := by decide +kernel
theorem dX0_nextInRow_39 : decode cX0_nextInRow 39 = .ok (.getfield 9, 3) := by decide +kernel
theorem dX0_nextInRow_42 : decode cX0_nextInRow 42 = .ok (.iload_n 3, 1) := by decide +kernel
theorem dX0_nextInRow_43 : decode cX0_nextInRow 43 = .ok (.invokestatic 69, 3) := by decide +kernel
theorem dX0_nextInRow_46 : decode cX0_nextInRow 46 = .ok (.if_icmp .ne 6, 3) := by decide +kernel
theorem dX0_nextInRow_49 : decode cX0_nextInRow 49 = .ok (.iload 4, 2) := by decide +kernel
theorem dX0_nextInRow_51 : decode cX0_nextInRow 51 = .ok (.ireturn, 1) := by decide +kernel
theorem dX0_nextInRow_52 : decode cX0_nextInRow 52 = .ok (.iinc 4 1, 3) := by decide +kernel
theorem dX0_nextInRow_55 : decode cX0_nextInRow 55 = .ok (.goto (-52), 3) := by decide +kernel
theorem dX0_nextInRow_58 : decode cX0_nextInRow 58 = .ok (.bipush (-4), 2) := by decide +kernel
theorem dX0_nextInRow_60 : decode cX0_nextInRow 60 = .ok (.ireturn, 1) := by decide +kernel
theorem dX0_canFollow_0 : decode cX0_canFollow 0 = .ok (.iload_n 2, 1) := by decide +kernel
theorem dX0_canFollow_1 : decode cX0_canFollow 1 = .ok (.aload_n 1, 1) := by decide +kernel
theorem dX0_canFollow_2 : decode cX0_canFollow 2 = .ok (.getfield 97, 3) := by decide +kernel
theorem dX0_canFollow_5 : decode cX0_canFollow 5 = .ok (.ior, 1) := by decide +kernel
theorem dX0_canFollow_6 : decode cX0_canFollow 6 = .ok (.iload_n 3, 1) := by decide +kernel
theorem dX0_canFollow_7 : decode cX0_canFollow 7 = .ok (.invokestatic 62, 3) := by decide +kernel
theorem dX0_canFollow_10 : decode cX0_canFollow 10 = .ok (.ifCond .ne 27, 3) := by decide +kernel
theorem dX0_canFollow_13 : decode cX0_canFollow 13 = .ok (.aload_n 0, 1) := by decide +kernel
theorem dX0_canFollow_14 : decode cX0_canFollow 14 = .ok (.iload_n 3, 1) := by decide +kernel
theorem dX0_canFollow_15 : decode cX0_canFollow 15 = .ok (.aload_n 1, 1) := by decide +kernel
theorem dX0_canFollow_16 : decode cX0_canFollow 16 = .ok (.getfield 41, 3) := by decide +kernel
theorem dX0_canFollow_19 : decode cX0_canFollow 19 = .ok (.aload_n 0, 1) := by decide +kernel
theorem dX0_canFollow_20 : decode cX0_canFollow 20 = .ok (.iload_n 2, 1) := by decide +kernel
theorem dX0_canFollow_21 : decode cX0_canFollow 21 = .ok (.invokevirtual 100, 3) := by decide +kernel
theorem dX0_canFollow_24 : decode cX0_canFollow 24 = .ok (.iconst (-1), 1) := by decide +kernel
theorem dX0_canFollow_25 : decode cX0_canFollow 25 = .ok (.ixor, 1) := by decide +kernel
theorem dX0_canFollow_26 : decode cX0_canFollow 26 = .ok (.iand, 1) := by decide +kernel
theorem dX0_canFollow_27 : decode cX0_canFollow 27 = .ok (.invokevirtual 103, 3) := by decide +kernel
theorem dX0_canFollow_30 : decode cX0_canFollow 30 = .ok (.ifCond .eq 7, 3) := by decide +kernel
theorem dX0_canFollow_33 : decode cX0_canFollow 33 = .ok (.iconst 1, 1) := by decide +kernel
theorem dX0_canFollow_34 : decode cX0_canFollow 34 = .ok (.goto 4, 3) := by decide +kernel
theorem dX0_canFollow_37 : decode cX0_canFollow 37 = .ok (.iconst 0, 1) := by decide +kernel
theorem dX0_canFollow_38 : decode cX0_canFollow 38 = .ok (.ireturn, 1) := by decide +kernel
theorem dX0_bargains_0 : decode cX0_bargains 0 = .ok (.iconst 0, 1) := by decide +kernel
theorem dX0_bargains_1 : decode cX0_bargains 1 = .ok (.istore_n 3, 1) := by decide +kernel
theorem dX0_bargains_2 : decode cX0_bargains 2 = .ok (.iconst 0, 1) := by decide +kernel
theorem dX0_bargains_3 : decode cX0_bargains 3 = .ok (.istore 4, 2) := by decide +kernel
theorem dX0_bargains_5 : decode cX0_bargains 5 = .ok (.iload 4, 2) := by decide +kernel
theorem dX0_bargains_7 : decode cX0_bargains 7 = .ok (.aload_n 1, 1) := by decide +kernel
theorem dX0_bargains_8 : decode cX0_bargains 8 = .ok (.getfield 80, 3) := by decide +kernel
theorem dX0_bargains_11 : decode cX0_bargains 11 = .ok (.if_icmp .ge 35, 3) := by decide +kernel
theorem dX0_bargains_14 : decode cX0_bargains 14 = .ok (.iload_n 2, 1) := by decide +kernel
theorem dX0_bargains_15 : decode cX0_bargains 15 = .ok (.iload 4, 2) := by decide +kernel
theorem dX0_bargains_17 : decode cX0_bargains 17 = .ok (.invokestatic 62, 3) := by decide +kernel
theorem dX0_bargains_20 : decode cX0_bargains 20 = .ok (.ifCond .eq 20, 3) := by decide +kernel
theorem dX0_bargains_23 : decode cX0_bargains 23 = .ok (.aload_n 1, 1) := by decide +kernel
theorem dX0_bargains_24 : decode cX0_bargains 24 = .ok (.iload_n 2, 1) := by decide +kernel
theorem dX0_bargains_25 : decode cX0_bargains 25 = .ok (.iload 4, 2) := by decide +kernel
theorem dX0_bargains_27 : decode cX0_bargains 27 = .ok (.invokestatic 106, 3) := by decide +kernel
theorem dX0_bargains_30 : decode cX0_bargains 30 = .ok (.ifCond .ne 10, 3) := by decide +kernel
theorem dX0_bargains_33 : decode cX0_bargains 33 = .ok (.iload_n 3, 1) := by decide +kernel
theorem dX0_bargains_34 : decode cX0_bargains 34 = .ok (.iconst 1, 1) := by decide +kernel
theorem dX0_bargains_35 : decode cX0_bargains 35 = .ok (.iload 4, 2) := by decide +kernel
theorem dX0_bargains_37 : decode cX0_bargains 37 = .ok (.ishl, 1) := by decide +kernel
theorem dX0_bargains_38 : decode cX0_bargains 38 = .ok (.ior, 1) := by decide +kernel
theorem dX0_bargains_39 : decode cX0_bargains 39 = .ok (.istore_n 3, 1) := by decide +kernel
theorem dX0_bargains_40 : decode cX0_bargains 40 = .ok (.iinc 4 1, 3) := by decide +kernel
theorem dX0_bargains_43 : decode cX0_bargains 43 = .ok (.goto (-38), 3) := by decide +kernel
theorem dX0_bargains_46 : decode cX0_bargains 46 = .ok (.iload_n 3, 1) := by decide +kernel
theorem dX0_bargains_47 : decode cX0_bargains 47 = .ok (.ireturn, 1) := by decide +kernel
theorem dX0_isLeftForAnother_0 : decode cX0_isLeftForAnother 0 = .ok (.iconst 0, 1) := by decide +kernel
theorem dX0_isLeftForAnother_1 : decode cX0_isLeftForAnother 1 = .ok (.istore_n 3, 1) := by decide +kernel
theorem dX0_isLeftForAnother_2 : decode cX0_isLeftForAnother 2 = .ok (.iload_n 3, 1) := by decide +kernel
theorem dX0_isLeftForAnother_3 : decode cX0_isLeftForAnother 3 = .ok (.aload_n 0, 1) := by decide +kernel
theorem dX0_isLeftForAnother_4 : decode cX0_isLeftForAnother 4 = .ok (.getfield 80, 3) := by decide +kernel
theorem dX0_isLeftForAnother_7 : decode cX0_isLeftForAnother 7 = .ok (.if_icmp .ge 75, 3) := by decide +kernel
theorem dX0_isLeftForAnother_10 : decode cX0_isLeftForAnother 10 = .ok (.aload_n 0, 1) := by decide +kernel
theorem dX0_isLeftForAnother_11 : decode cX0_isLeftForAnother 11 = .ok (.getfield 110, 3) := by decide +kernel
theorem dX0_isLeftForAnother_14 : decode cX0_isLeftForAnother 14 = .ok (.iload_n 3, 1) := by decide +kernel
theorem dX0_isLeftForAnother_15 : decode cX0_isLeftForAnother 15 = .ok (.invokestatic 69, 3) := by decide +kernel
theorem dX0_isLeftForAnother_18 : decode cX0_isLeftForAnother 18 = .ok (.aload_n 0, 1) := by decide +kernel
theorem dX0_isLeftForAnother_19 : decode cX0_isLeftForAnother 19 = .ok (.getfield 110, 3) := by decide +kernel
theorem dX0_isLeftForAnother_22 : decode cX0_isLeftForAnother 22 = .ok (.iload_n 2, 1) := by decide +kernel
theorem dX0_isLeftForAnother_23 : decode cX0_isLeftForAnother 23 = .ok (.invokestatic 69, 3) := by decide +kernel
theorem dX0_isLeftForAnother_26 : decode cX0_isLeftForAnother 26 = .ok (.isub, 1) := by decide +kernel
theorem dX0_isLeftForAnother_27 : decode cX0_isLeftForAnother 27 = .ok (.istore 4, 2) := by decide +kernel
theorem dX0_isLeftForAnother_29 : decode cX0_isLeftForAnother 29 = .ok (.aload_n 0, 1) := by decide +kernel
theorem dX0_isLeftForAnother_30 : decode cX0_isLeftForAnother 30 = .ok (.getfield 113, 3) := by decide +kernel
theorem dX0_isLeftForAnother_33 : decode cX0_isLeftForAnother 33 = .ok (.iload_n 3, 1) := by decide +kernel
theorem dX0_isLeftForAnother_34 : decode cX0_isLeftForAnother 34 = .ok (.invokestatic 69, 3) := by decide +kernel
theorem dX0_isLeftForAnother_37 : decode cX0_isLeftForAnother 37 = .ok (.aload_n 0, 1) := by decide +kernel
theorem dX0_isLeftForAnother_38 : decode cX0_isLeftForAnother 38 = .ok (.getfield 113, 3) := by decide +kernel
theorem dX0_isLeftForAnother_41 : decode cX0_isLeftForAnother 41 = .ok (.iload_n 2, 1) := by decide +kernel
theorem dX0_isLeftForAnother_42 : decode cX0_isLeftForAnother 42 = .ok (.invokestatic 69, 3) := by decide +kernel
theorem dX0_isLeftForAnother_45 : decode cX0_isLeftForAnother 45 = .ok (.isub, 1) := by decide +kernel
theorem dX0_isLeftForAnother_46 : decode cX0_isLeftForAnother 46 = .ok (.istore 5, 2) := by decide +kernel
theorem dX0_isLeftForAnother_48 : decode cX0_isLeftForAnother 48 = .ok (.iload_n 1, 1) := by decide +kernel
theorem dX0_isLeftForAnother_49 : decode cX0_isLeftForAnother 49 = .ok (.iload_n 3, 1) := by decide +kernel
theorem dX0_isLeftForAnother_50 : decode cX0_isLeftForAnother 50 = .ok (.invokestatic 62, 3) := by decide +kernel
theorem dX0_isLeftForAnother_53 : decode cX0_isLeftForAnother 53 = .ok (.ifCond .eq 23, 3) := by decide +kernel
theorem dX0_isLeftForAnother_56 : decode cX0_isLeftForAnother 56 = .ok (.iload 4, 2) := by decide +kernel
theorem dX0_isLeftForAnother_58 : decode cX0_isLeftForAnother 58 = .ok (.ifCond .lt 18, 3) := by decide +kernel
theorem dX0_isLeftForAnother_61 : decode cX0_isLeftForAnother 61 = .ok (.iload 5, 2) := by decide +kernel
theorem dX0_isLeftForAnother_63 : decode cX0_isLeftForAnother 63 = .ok (.ifCond .lt 13, 3) := by decide +kernel
theorem dX0_isLeftForAnother_66 : decode cX0_isLeftForAnother 66 = .ok (.iload 4, 2) := by decide +kernel
theorem dX0_isLeftForAnother_68 : decode cX0_isLeftForAnother 68 = .ok (.iload 5, 2) := by decide +kernel
theorem dX0_isLeftForAnother_70 : decode cX0_isLeftForAnother 70 = .ok (.iadd, 1) := by decide +kernel
theorem dX0_isLeftForAnother_71 : decode cX0_isLeftForAnother 71 = .ok (.ifCond .le 5, 3) := by decide +kernel
theorem dX0_isLeftForAnother_74 : decode cX0_isLeftForAnother 74 = .ok (.iconst 1, 1) := by decide +kernel
theorem dX0_isLeftForAnother_75 : decode cX0_isLeftForAnother 75 = .ok (.ireturn, 1) := by decide +kernel
theorem dX0_isLeftForAnother_76 : decode cX0_isLeftForAnother 76 = .ok (.iinc 3 1, 3) := by decide +kernel
theorem dX0_isLeftForAnother_79 : decode cX0_isLeftForAnother 79 = .ok (.goto (-77), 3) := by decide +kernel
theorem dX0_isLeftForAnother_82 : decode cX0_isLeftForAnother 82 = .ok (.iconst 0, 1) := by decide +kernel
theorem dX0_isLeftForAnother_83 : decode cX0_isLeftForAnother 83 = .ok (.ireturn, 1) := by decide +kernel
theorem dX0_leftByTalk_0 : decode cX0_leftByTalk 0 = .ok (.iload_n 2, 1) := by decide +kernel
theorem dX0_leftByTalk_1 : decode cX0_leftByTalk 1 = .ok (.ifCond .ne 6, 3) := by decide +kernel
theorem dX0_leftByTalk_4 : decode cX0_leftByTalk 4 = .ok (.bipush (-4), 2) := by decide +kernel
theorem dX0_leftByTalk_6 : decode cX0_leftByTalk 6 = .ok (.ireturn, 1) := by decide +kernel
theorem dX0_leftByTalk_7 : decode cX0_leftByTalk 7 = .ok (.aload_n 0, 1) := by decide +kernel
theorem dX0_leftByTalk_8 : decode cX0_leftByTalk 8 = .ok (.aload_n 1, 1) := by decide +kernel
theorem dX0_leftByTalk_9 : decode cX0_leftByTalk 9 = .ok (.iload_n 2, 1) := by decide +kernel
theorem dX0_leftByTalk_10 : decode cX0_leftByTalk 10 = .ok (.invokevirtual 116, 3) := by decide +kernel
theorem dX0_leftByTalk_13 : decode cX0_leftByTalk 13 = .ok (.aload_n 0, 1) := by decide +kernel
theorem dX0_leftByTalk_14 : decode cX0_leftByTalk 14 = .ok (.getfield 15, 3) := by decide +kernel
theorem dX0_leftByTalk_17 : decode cX0_leftByTalk 17 = .ok (.iload_n 2, 1) := by decide +kernel
theorem dX0_leftByTalk_18 : decode cX0_leftByTalk 18 = .ok (.invokestatic 69, 3) := by decide +kernel
theorem dX0_leftByTalk_21 : decode cX0_leftByTalk 21 = .ok (.ireturn, 1) := by decide +kernel
theorem dX0_struckFirst_0 : decode cX0_struckFirst 0 = .ok (.iload_n 2, 1) := by decide +kernel
theorem dX0_struckFirst_1 : decode cX0_struckFirst 1 = .ok (.invokestatic 51, 3) := by decide +kernel
theorem dX0_struckFirst_4 : decode cX0_struckFirst 4 = .ok (.iconst 2, 1) := by decide +kernel
theorem dX0_struckFirst_5 : decode cX0_struckFirst 5 = .ok (.if_icmp .ge 6, 3) := by decide +kernel
theorem dX0_struckFirst_8 : decode cX0_struckFirst 8 = .ok (.bipush (-4), 2) := by decide +kernel
theorem dX0_struckFirst_10 : decode cX0_struckFirst 10 = .ok (.ireturn, 1) := by decide +kernel
theorem dX0_struckFirst_11 : decode cX0_struckFirst 11 = .ok (.aload_n 0, 1) := by decide +kernel
theorem dX0_struckFirst_12 : decode cX0_struckFirst 12 = .ok (.aload_n 1, 1) := by decide +kernel
theorem dX0_struckFirst_13 : decode cX0_struckFirst 13 = .ok (.iload_n 2, 1) := by decide +kernel
theorem dX0_struckFirst_14 : decode cX0_struckFirst 14 = .ok (.invokevirtual 116, 3) := by decide +kernel
theorem dX0_struckFirst_17 : decode cX0_struckFirst 17 = .ok (.aload_n 0, 1) := by decide +kernel
theorem dX0_struckFirst_18 : decode cX0_struckFirst 18 = .ok (.aload_n 1, 1) := by decide +kernel
theorem dX0_struckFirst_19 : decode cX0_struckFirst 19 = .ok (.iload_n 2, 1) := by decide +kernel
theorem dX0_struckFirst_20 : decode cX0_struckFirst 20 = .ok (.aload_n 1, 1) := by decide +kernel
theorem dX0_struckFirst_21 : decode cX0_struckFirst 21 = .ok (.getfield 110, 3) := by decide +kernel
theorem dX0_struckFirst_24 : decode cX0_struckFirst 24 = .ok (.invokevirtual 120, 3) := by decide +kernel
theorem dX0_struckFirst_27 : decode cX0_struckFirst 27 = .ok (.ireturn, 1) := by decide +kernel
theorem dX0_findLeft_0 : decode cX0_findLeft 0 = .ok (.iconst 0, 1) := by decide +kernel
theorem dX0_findLeft_1 : decode cX0_findLeft 1 = .ok (.istore_n 3, 1) := by decide +kernel
theorem dX0_findLeft_2 : decode cX0_findLeft 2 = .ok (.iload_n 3, 1) := by decide +kernel
theorem dX0_findLeft_3 : decode cX0_findLeft 3 = .ok (.aload_n 1, 1) := by decide +kernel
theorem dX0_findLeft_4 : decode cX0_findLeft 4 = .ok (.getfield 80, 3) := by decide +kernel
theorem dX0_findLeft_7 : decode cX0_findLeft 7 = .ok (.if_icmp .ge 20, 3) := by decide +kernel
theorem dX0_findLeft_10 : decode cX0_findLeft 10 = .ok (.aload_n 0, 1) := by decide +kernel
theorem dX0_findLeft_11 : decode cX0_findLeft 11 = .ok (.getfield 15, 3) := by decide +kernel
theorem dX0_findLeft_14 : decode cX0_findLeft 14 = .ok (.iconst 1, 1) := by decide +kernel
theorem dX0_findLeft_15 : decode cX0_findLeft 15 = .ok (.iload_n 3, 1) := by decide +kernel
theorem dX0_findLeft_16 : decode cX0_findLeft 16 = .ok (.ishl, 1) := by decide +kernel
theorem dX0_findLeft_17 : decode cX0_findLeft 17 = .ok (.iload_n 3, 1) := by decide +kernel
theorem dX0_findLeft_18 : decode cX0_findLeft 18 = .ok (.invokestatic 93, 3) := by decide +kernel
theorem dX0_findLeft_21 : decode cX0_findLeft 21 = .ok (.iinc 3 1, 3) := by decide +kernel
theorem dX0_findLeft_24 : decode cX0_findLeft 24 = .ok (.goto (-22), 3) := by decide +kernel
theorem dX0_findLeft_27 : decode cX0_findLeft 27 = .ok (.iload_n 2, 1) := by decide +kernel
theorem dX0_findLeft_28 : decode cX0_findLeft 28 = .ok (.invokestatic 51, 3) := by decide +kernel
theorem dX0_findLeft_31 : decode cX0_findLeft 31 = .ok (.istore_n 3, 1) := by decide +kernel
theorem dX0_findLeft_32 : decode cX0_findLeft 32 = .ok (.iconst 1, 1) := by decide +kernel
theorem dX0_findLeft_33 : decode cX0_findLeft 33 = .ok (.istore 4, 2) := by decide +kernel
theorem dX0_findLeft_35 : decode cX0_findLeft 35 = .ok (.iload 4, 2) := by decide +kernel
theorem dX0_findLeft_37 : decode cX0_findLeft 37 = .ok (.iload_n 2, 1) := by decide +kernel
theorem dX0_findLeft_38 : decode cX0_findLeft 38 = .ok (.if_icmp .gt 89, 3) := by decide +kernel
theorem dX0_findLeft_41 : decode cX0_findLeft 41 = .ok (.iload 4, 2) := by decide +kernel
theorem dX0_findLeft_43 : decode cX0_findLeft 43 = .ok (.invokestatic 51, 3) := by decide +kernel
theorem dX0_findLeft_46 : decode cX0_findLeft 46 = .ok (.istore 5, 2) := by decide +kernel
theorem dX0_findLeft_48 : decode cX0_findLeft 48 = .ok (.iload 5, 2) := by decide +kernel
theorem dX0_findLeft_50 : decode cX0_findLeft 50 = .ok (.iconst 1, 1) := by decide +kernel
theorem dX0_findLeft_51 : decode cX0_findLeft 51 = .ok (.if_icmp .le 70, 3) := by decide +kernel
theorem dX0_findLeft_54 : decode cX0_findLeft 54 = .ok (.iload 4, 2) := by decide +kernel
theorem dX0_findLeft_56 : decode cX0_findLeft 56 = .ok (.iload_n 2, 1) := by decide +kernel
theorem dX0_findLeft_57 : decode cX0_findLeft 57 = .ok (.iconst (-1), 1) := by decide +kernel
theorem dX0_findLeft_58 : decode cX0_findLeft 58 = .ok (.ixor, 1) := by decide +kernel
theorem dX0_findLeft_59 : decode cX0_findLeft 59 = .ok (.iand, 1) := by decide +kernel
theorem dX0_findLeft_60 : decode cX0_findLeft 60 = .ok (.ifCond .ne 61, 3) := by decide +kernel
theorem dX0_findLeft_63 : decode cX0_findLeft 63 = .ok (.iload_n 3, 1) := by decide +kernel
theorem dX0_findLeft_64 : decode cX0_findLeft 64 = .ok (.iload 5, 2) := by decide +kernel
theorem dX0_findLeft_66 : decode cX0_findLeft 66 = .ok (.isub, 1) := by decide +kernel
theorem dX0_findLeft_67 : decode cX0_findLeft 67 = .ok (.iconst 2, 1) := by decide +kernel
theorem dX0_findLeft_68 : decode cX0_findLeft 68 = .ok (.irem, 1) := by decide +kernel
theorem dX0_findLeft_69 : decode cX0_findLeft 69 = .ok (.ifCond .ne 10, 3) := by decide +kernel
theorem dX0_findLeft_72 : decode cX0_findLeft 72 = .ok (.aload_n 1, 1) := by decide +kernel
theorem dX0_findLeft_73 : decode cX0_findLeft 73 = .ok (.getfield 110, 3) := by decide +kernel
theorem dX0_findLeft_76 : decode cX0_findLeft 76 = .ok (.goto 7, 3) := by decide +kernel
theorem dX0_findLeft_79 : decode cX0_findLeft 79 = .ok (.aload_n 1, 1) := by decide +kernel
theorem dX0_findLeft_80 : decode cX0_findLeft 80 = .ok (.getfield 113, 3) := by decide +kernel
theorem dX0_findLeft_83 : decode cX0_findLeft 83 = .ok (.astore 6, 2) := by decide +kernel
theorem dX0_findLeft_85 : decode cX0_findLeft 85 = .ok (.aload_n 0, 1) := by decide +kernel
theorem dX0_findLeft_86 : decode cX0_findLeft 86 = .ok (.aload_n 1, 1) := by decide +kernel
theorem dX0_findLeft_87 : decode cX0_findLeft 87 = .ok (.iload 4, 2) := by decide +kernel
theorem dX0_findLeft_89 : decode cX0_findLeft 89 = .ok (.aload 6, 2) := by decide +kernel
theorem dX0_findLeft_91 : decode cX0_findLeft 91 = .ok (.invokevirtual 120, 3) := by decide +kernel
theorem dX0_findLeft_94 : decode cX0_findLeft 94 = .ok (.istore 7, 2) := by decide +kernel
theorem dX0_findLeft_96 : decode cX0_findLeft 96 = .ok (.aload_n 0, 1) := by decide +kernel
theorem dX0_findLeft_97 : decode cX0_findLeft 97 = .ok (.getfield 15, 3) := by decide +kernel
theorem dX0_findLeft_100 : decode cX0_findLeft 100 = .ok (.iload 4, 2) := by decide +kernel
theorem dX0_findLeft_102 : decode cX0_findLeft 102 = .ok (.aload_n 0, 1) := by decide +kernel
theorem dX0_findLeft_103 : decode cX0_findLeft 103 = .ok (.getfield 15, 3) := by decide +kernel
theorem dX0_findLeft_106 : decode cX0_findLeft 106 = .ok (.iload 4, 2) := by decide +kernel
theorem dX0_findLeft_108 : decode cX0_findLeft 108 = .ok (.iconst 1, 1) := by decide +kernel
theorem dX0_findLeft_109 : decode cX0_findLeft 109 = .ok (.iload 7, 2) := by decide +kernel
theorem dX0_findLeft_111 : decode cX0_findLeft 111 = .ok (.ishl, 1) := by decide +kernel
theorem dX0_findLeft_112 : decode cX0_findLeft 112 = .ok (.iconst (-1), 1) := by decide +kernel
theorem dX0_findLeft_113 : decode cX0_findLeft 113 = .ok (.ixor, 1) := by decide +kernel
theorem dX0_findLeft_114 : decode cX0_findLeft 114 = .ok (.iand, 1) := by decide +kernel
theorem dX0_findLeft_115 : decode cX0_findLeft 115 = .ok (.invokestatic 69, 3) := by decide +kernel
theorem dX0_findLeft_118 : decode cX0_findLeft 118 = .ok (.invokestatic 93, 3) := by decide +kernel
theorem dX0_findLeft_121 : decode cX0_findLeft 121 = .ok (.iinc 4 1, 3) := by decide +kernel
theorem dX0_findLeft_124 : decode cX0_findLeft 124 = .ok (.goto (-89), 3) := by decide +kernel
theorem dX0_findLeft_127 : decode cX0_findLeft 127 = .ok (.return_, 1) := by decide +kernel
theorem dX0_strike_0 : decode cX0_strike 0 = .ok (.bipush (-4), 2) := by decide +kernel
theorem dX0_strike_2 : decode cX0_strike 2 = .ok (.istore 4, 2) := by decide +kernel
theorem dX0_strike_4 : decode cX0_strike 4 = .ok (.iconst 0, 1) := by decide +kernel
theorem dX0_strike_5 : decode cX0_strike 5 = .ok (.istore 5, 2) := by decide +kernel
theorem dX0_strike_7 : decode cX0_strike 7 = .ok (.iconst 0, 1) := by decide +kernel
theorem dX0_strike_8 : decode cX0_strike 8 = .ok (.istore 6, 2) := by decide +kernel
theorem dX0_strike_10 : decode cX0_strike 10 = .ok (.iload 6, 2) := by decide +kernel
theorem dX0_strike_12 : decode cX0_strike 12 = .ok (.aload_n 1, 1) := by decide +kernel
theorem dX0_strike_13 : decode cX0_strike 13 = .ok (.getfield 80, 3) := by decide +kernel
theorem dX0_strike_16 : decode cX0_strike 16 = .ok (.if_icmp .ge 61, 3) := by decide +kernel
theorem dX0_strike_19 : decode cX0_strike 19 = .ok (.iload_n 2, 1) := by decide +kernel
theorem dX0_strike_20 : decode cX0_strike 20 = .ok (.iload 6, 2) := by decide +kernel
theorem dX0_strike_22 : decode cX0_strike 22 = .ok (.invokestatic 62, 3) := by decide +kernel
theorem dX0_strike_25 : decode cX0_strike 25 = .ok (.ifCond .eq 46, 3) := by decide +kernel
theorem dX0_strike_28 : decode cX0_strike 28 = .ok (.aload_n 3, 1) := by decide +kernel
theorem dX0_strike_29 : decode cX0_strike 29 = .ok (.aload_n 0, 1) := by decide +kernel
theorem dX0_strike_30 : decode cX0_strike 30 = .ok (.getfield 15, 3) := by decide +kernel
theorem dX0_strike_33 : decode cX0_strike 33 = .ok (.iload_n 2, 1) := by decide +kernel
theorem dX0_strike_34 : decode cX0_strike 34 = .ok (.iconst 1, 1) := by decide +kernel
theorem dX0_strike_35 : decode cX0_strike 35 = .ok (.iload 6, 2) := by decide +kernel
theorem dX0_strike_37 : decode cX0_strike 37 = .ok (.ishl, 1) := by decide +kernel
theorem dX0_strike_38 : decode cX0_strike 38 = .ok (.iconst (-1), 1) := by decide +kernel
theorem dX0_strike_39 : decode cX0_strike 39 = .ok (.ixor, 1) := by decide +kernel
theorem dX0_strike_40 : decode cX0_strike 40 = .ok (.iand, 1) := by decide +kernel
theorem dX0_strike_41 : decode cX0_strike 41 = .ok (.invokestatic 69, 3) := by decide +kernel
theorem dX0_strike_44 : decode cX0_strike 44 = .ok (.invokestatic 69, 3) := by decide +kernel
theorem dX0_strike_47 : decode cX0_strike 47 = .ok (.istore 7, 2) := by decide +kernel
theorem dX0_strike_49 : decode cX0_strike 49 = .ok (.iload 4, 2) := by decide +kernel
theorem dX0_strike_51 : decode cX0_strike 51 = .ok (.bipush (-4), 2) := by decide +kernel
theorem dX0_strike_53 : decode cX0_strike 53 = .ok (.if_icmp .eq 10, 3) := by decide +kernel
theorem dX0_strike_56 : decode cX0_strike 56 = .ok (.iload 7, 2) := by decide +kernel
theorem dX0_strike_58 : decode cX0_strike 58 = .ok (.iload 5, 2) := by decide +kernel
theorem dX0_strike_60 : decode cX0_strike 60 = .ok (.if_icmp .le 11, 3) := by decide +kernel
theorem dX0_strike_63 : decode cX0_strike 63 = .ok (.iload 6, 2) := by decide +kernel
theorem dX0_strike_65 : decode cX0_strike 65 = .ok (.istore 4, 2) := by decide +kernel
theorem dX0_strike_67 : decode cX0_strike 67 = .ok (.iload 7, 2) := by decide +kernel
theorem dX0_strike_69 : decode cX0_strike 69 = .ok (.istore 5, 2) := by decide +kernel
theorem dX0_strike_71 : decode cX0_strike 71 = .ok (.iinc 6 1, 3) := by decide +kernel
theorem dX0_strike_74 : decode cX0_strike 74 = .ok (.goto (-64), 3) := by decide +kernel
theorem dX0_strike_77 : decode cX0_strike 77 = .ok (.iload 4, 2) := by decide +kernel
theorem dX0_strike_79 : decode cX0_strike 79 = .ok (.ireturn, 1) := by decide +kernel
theorem dX1_init_0 : decode cX1_init 0 = .ok (.aload_n 0, 1) := by decide +kernel
theorem dX1_init_1 : decode cX1_init 1 = .ok (.invokespecial 3, 3) := by decide +kernel
theorem dX1_init_4 : decode cX1_init 4 = .ok (.return_, 1) := by decide +kernel
theorem dX1_begin_0 : decode cX1_begin 0 = .ok (.aload_n 0, 1) := by decide +kernel
theorem dX1_begin_1 : decode cX1_begin 1 = .ok (.iconst 0, 1) := by decide +kernel
theorem dX1_begin_2 : decode cX1_begin 2 = .ok (.putfield 9, 3) := by decide +kernel
theorem dX1_begin_5 : decode cX1_begin 5 = .ok (.aload_n 0, 1) := by decide +kernel
theorem dX1_begin_6 : decode cX1_begin 6 = .ok (.iconst 0, 1) := by decide +kernel
theorem dX1_begin_7 : decode cX1_begin 7 = .ok (.putfield 15, 3) := by decide +kernel
theorem dX1_begin_10 : decode cX1_begin 10 = .ok (.aload_n 0, 1) := by decide +kernel
theorem dX1_begin_11 : decode cX1_begin 11 = .ok (.aload_n 1, 1) := by decide +kernel
theorem dX1_begin_12 : decode cX1_begin 12 = .ok (.getfield 18, 3) := by decide +kernel
theorem dX1_begin_15 : decode cX1_begin 15 = .ok (.putfield 23, 3) := by decide +kernel
theorem dX1_begin_18 : decode cX1_begin 18 = .ok (.aload_n 0, 1) := by decide +kernel
theorem dX1_begin_19 : decode cX1_begin 19 = .ok (.iconst 0, 1) := by decide +kernel
theorem dX1_begin_20 : decode cX1_begin 20 = .ok (.putfield 26, 3) := by decide +kernel
theorem dX1_begin_23 : decode cX1_begin 23 = .ok (.return_, 1) := by decide +kernel
theorem dX1_copy_0 : decode cX1_copy 0 = .ok (.aload_n 0, 1) := by decide +kernel
theorem dX1_copy_1 : decode cX1_copy 1 = .ok (.aload_n 1, 1) := by decide +kernel
theorem dX1_copy_2 : decode cX1_copy 2 = .ok (.getfield 9, 3) := by decide +kernel
theorem dX1_copy_5 : decode cX1_copy 5 = .ok (.putfield 9, 3) := by decide +kernel
theorem dX1_copy_8 : decode cX1_copy 8 = .ok (.aload_n 0, 1) := by decide +kernel
theorem dX1_copy_9 : decode cX1_copy 9 = .ok (.aload_n 1, 1) := by decide +kernel
theorem dX1_copy_10 : decode cX1_copy 10 = .ok (.getfield 15, 3) := by decide +kernel
theorem dX1_copy_13 : decode cX1_copy 13 = .ok (.putfield 15, 3) := by decide +kernel
theorem dX1_copy_16 : decode cX1_copy 16 = .ok (.aload_n 0, 1) := by decide +kernel
theorem dX1_copy_17 : decode cX1_copy 17 = .ok (.aload_n 1, 1) := by decide +kernel
theorem dX1_copy_18 : decode cX1_copy 18 = .ok (.getfield 23, 3) := by decide +kernel
theorem dX1_copy_21 : decode cX1_copy 21 = .ok (.putfield 23, 3) := by decide +kernel
theorem dX1_copy_24 : decode cX1_copy 24 = .ok (.aload_n 0, 1) := by decide +kernel
theorem dX1_copy_25 : decode cX1_copy 25 = .ok (.aload_n 1, 1) := by decide +kernel
theorem dX1_copy_26 : decode cX1_copy 26 = .ok (.getfield 26, 3) := by decide +kernel
theorem dX1_copy_29 : decode cX1_copy 29 = .ok (.putfield 26, 3) := by decide +kernel
theorem dX1_copy_32 : decode cX1_copy 32 = .ok (.return_, 1) := by decide +kernel
theorem dX1_canPutBy_0 : decode cX1_canPutBy 0 = .ok (.aload_n 0, 1) := by decide +kernel
theorem dX1_canPutBy_1 : decode cX1_canPutBy 1 = .ok (.getfield 9, 3) := by decide +kernel
theorem dX1_canPutBy_4 : decode cX1_canPutBy 4 = .ok (.iload_n 2, 1) := by decide +kernel
theorem dX1_canPutBy_5 : decode cX1_canPutBy 5 = .ok (.invokestatic 29, 3) := by decide +kernel
theorem dX1_canPutBy_8 : decode cX1_canPutBy 8 = .ok (.ifCond .ne 41, 3) := by decide +kernel
theorem dX1_canPutBy_11 : decode cX1_canPutBy 11 = .ok (.aload_n 1, 1) := by decide +kernel
theorem dX1_canPutBy_12 : decode cX1_canPutBy 12 = .ok (.getfield 33, 3) := by decide +kernel
theorem dX1_canPutBy_15 : decode cX1_canPutBy 15 = .ok (.iload_n 2, 1) := by decide +kernel
theorem dX1_canPutBy_16 : decode cX1_canPutBy 16 = .ok (.invokestatic 37, 3) := by decide +kernel
theorem dX1_canPutBy_19 : decode cX1_canPutBy 19 = .ok (.aload_n 0, 1) := by decide +kernel
theorem dX1_canPutBy_20 : decode cX1_canPutBy 20 = .ok (.getfield 23, 3) := by decide +kernel
theorem dX1_canPutBy_23 : decode cX1_canPutBy 23 = .ok (.if_icmp .gt 26, 3) := by decide +kernel
theorem dX1_canPutBy_26 : decode cX1_canPutBy 26 = .ok (.aload_n 1, 1) := by decide +kernel
theorem dX1_canPutBy_27 : decode cX1_canPutBy 27 = .ok (.aload_n 0, 1) := by decide +kernel
theorem dX1_canPutBy_28 : decode cX1_canPutBy 28 = .ok (.getfield 9, 3) := by decide +kernel
theorem dX1_canPutBy_31 : decode cX1_canPutBy 31 = .ok (.iconst 1, 1) := by decide +kernel
theorem dX1_canPutBy_32 : decode cX1_canPutBy 32 = .ok (.iload_n 2, 1) := by decide +kernel
theorem dX1_canPutBy_33 : decode cX1_canPutBy 33 = .ok (.ishl, 1) := by decide +kernel
theorem dX1_canPutBy_34 : decode cX1_canPutBy 34 = .ok (.ior, 1) := by decide +kernel
theorem dX1_canPutBy_35 : decode cX1_canPutBy 35 = .ok (.invokevirtual 41, 3) := by decide +kernel
theorem dX1_canPutBy_38 : decode cX1_canPutBy 38 = .ok (.aload_n 1, 1) := by decide +kernel
theorem dX1_canPutBy_39 : decode cX1_canPutBy 39 = .ok (.getfield 45, 3) := by decide +kernel
theorem dX1_canPutBy_42 : decode cX1_canPutBy 42 = .ok (.if_icmp .gt 7, 3) := by decide +kernel
theorem dX1_canPutBy_45 : decode cX1_canPutBy 45 = .ok (.iconst 1, 1) := by decide +kernel
theorem dX1_canPutBy_46 : decode cX1_canPutBy 46 = .ok (.goto 4, 3) := by decide +kernel
theorem dX1_canPutBy_49 : decode cX1_canPutBy 49 = .ok (.iconst 0, 1) := by decide +kernel
theorem dX1_canPutBy_50 : decode cX1_canPutBy 50 = .ok (.ireturn, 1) := by decide +kernel
theorem dX1_putBy_0 : decode cX1_putBy 0 = .ok (.aload_n 0, 1) := by decide +kernel
theorem dX1_putBy_1 : decode cX1_putBy 1 = .ok (.dup, 1) := by decide +kernel
theorem dX1_putBy_2 : decode cX1_putBy 2 = .ok (.getfield 9, 3) := by decide +kernel
theorem dX1_putBy_5 : decode cX1_putBy 5 = .ok (.iconst 1, 1) := by decide +kernel
theorem dX1_putBy_6 : decode cX1_putBy 6 = .ok (.iload_n 2, 1) := by decide +kernel
theorem dX1_putBy_7 : decode cX1_putBy 7 = .ok (.ishl, 1) := by decide +kernel
theorem dX1_putBy_8 : decode cX1_putBy 8 = .ok (.ior, 1) := by decide +kernel
theorem dX1_putBy_9 : decode cX1_putBy 9 = .ok (.putfield 9, 3) := by decide +kernel
theorem dX1_putBy_12 : decode cX1_putBy 12 = .ok (.aload_n 0, 1) := by decide +kernel
theorem dX1_putBy_13 : decode cX1_putBy 13 = .ok (.dup, 1) := by decide +kernel
theorem dX1_putBy_14 : decode cX1_putBy 14 = .ok (.getfield 23, 3) := by decide +kernel
theorem dX1_putBy_17 : decode cX1_putBy 17 = .ok (.aload_n 1, 1) := by decide +kernel
theorem dX1_putBy_18 : decode cX1_putBy 18 = .ok (.getfield 33, 3) := by decide +kernel
theorem dX1_putBy_21 : decode cX1_putBy 21 = .ok (.iload_n 2, 1) := by decide +kernel
theorem dX1_putBy_22 : decode cX1_putBy 22 = .ok (.invokestatic 37, 3) := by decide +kernel
theorem dX1_putBy_25 : decode cX1_putBy 25 = .ok (.isub, 1) := by decide +kernel
theorem dX1_putBy_26 : decode cX1_putBy 26 = .ok (.putfield 23, 3) := by decide +kernel
theorem dX1_putBy_29 : decode cX1_putBy 29 = .ok (.return_, 1) := by decide +kernel
theorem dX1_takeOut_0 : decode cX1_takeOut 0 = .ok (.aload_n 0, 1) := by decide +kernel
theorem dX1_takeOut_1 : decode cX1_takeOut 1 = .ok (.dup, 1) := by decide +kernel
theorem dX1_takeOut_2 : decode cX1_takeOut 2 = .ok (.getfield 9, 3) := by decide +kernel
theorem dX1_takeOut_5 : decode cX1_takeOut 5 = .ok (.iconst 1, 1) := by decide +kernel
theorem dX1_takeOut_6 : decode cX1_takeOut 6 = .ok (.iload_n 1, 1) := by decide +kernel
theorem dX1_takeOut_7 : decode cX1_takeOut 7 = .ok (.ishl, 1) := by decide +kernel
theorem dX1_takeOut_8 : decode cX1_takeOut 8 = .ok (.iconst (-1), 1) := by decide +kernel
theorem dX1_takeOut_9 : decode cX1_takeOut 9 = .ok (.ixor, 1) := by decide +kernel
theorem dX1_takeOut_10 : decode cX1_takeOut 10 = .ok (.iand, 1) := by decide +kernel
theorem dX1_takeOut_11 : decode cX1_takeOut 11 = .ok (.putfield 9, 3) := by decide +kernel
theorem dX1_takeOut_14 : decode cX1_takeOut 14 = .ok (.return_, 1) := by decide +kernel
theorem dX1_canBeLived_0 : decode cX1_canBeLived 0 = .ok (.aload_n 0, 1) := by decide +kernel
theorem dX1_canBeLived_1 : decode cX1_canBeLived 1 = .ok (.getfield 15, 3) := by decide +kernel
theorem dX1_canBeLived_4 : decode cX1_canBeLived 4 = .ok (.iload_n 2, 1) := by decide +kernel
theorem dX1_canBeLived_5 : decode cX1_canBeLived 5 = .ok (.invokestatic 29, 3) := by decide +kernel
theorem dX1_canBeLived_8 : decode cX1_canBeLived 8 = .ok (.ifCond .ne 19, 3) := by decide +kernel
theorem dX1_canBeLived_11 : decode cX1_canBeLived 11 = .ok (.aload_n 1, 1) := by decide +kernel
theorem dX1_canBeLived_12 : decode cX1_canBeLived 12 = .ok (.iload_n 2, 1) := by decide +kernel
theorem dX1_canBeLived_13 : decode cX1_canBeLived 13 = .ok (.aload_n 0, 1) := by decide +kernel
theorem dX1_canBeLived_14 : decode cX1_canBeLived 14 = .ok (.getfield 9, 3) := by decide +kernel
theorem dX1_canBeLived_17 : decode cX1_canBeLived 17 = .ok (.invokevirtual 48, 3) := by decide +kernel
theorem dX1_canBeLived_20 : decode cX1_canBeLived 20 = .ok (.ifCond .eq 7, 3) := by decide +kernel
theorem dX1_canBeLived_23 : decode cX1_canBeLived 23 = .ok (.iconst 1, 1) := by decide +kernel
theorem dX1_canBeLived_24 : decode cX1_canBeLived 24 = .ok (.goto 4, 3) := by decide +kernel
theorem dX1_canBeLived_27 : decode cX1_canBeLived 27 = .ok (.iconst 0, 1) := by decide +kernel
theorem dX1_canBeLived_28 : decode cX1_canBeLived 28 = .ok (.ireturn, 1) := by decide +kernel
theorem dX1_liveLife_0 : decode cX1_liveLife 0 = .ok (.aload_n 0, 1) := by decide +kernel
theorem dX1_liveLife_1 : decode cX1_liveLife 1 = .ok (.getfield 9, 3) := by decide +kernel
theorem dX1_liveLife_4 : decode cX1_liveLife 4 = .ok (.aload_n 1, 1) := by decide +kernel
theorem dX1_liveLife_5 : decode cX1_liveLife 5 = .ok (.iconst 1, 1) := by decide +kernel
theorem dX1_liveLife_6 : decode cX1_liveLife 6 = .ok (.iload_n 2, 1) := by decide +kernel
theorem dX1_liveLife_7 : decode cX1_liveLife 7 = .ok (.ishl, 1) := by decide +kernel
theorem dX1_liveLife_8 : decode cX1_liveLife 8 = .ok (.invokevirtual 51, 3) := by decide +kernel
theorem dX1_liveLife_11 : decode cX1_liveLife 11 = .ok (.iand, 1) := by decide +kernel
theorem dX1_liveLife_12 : decode cX1_liveLife 12 = .ok (.istore_n 3, 1) := by decide +kernel
theorem dX1_liveLife_13 : decode cX1_liveLife 13 = .ok (.aload_n 0, 1) := by decide +kernel
theorem dX1_liveLife_14 : decode cX1_liveLife 14 = .ok (.dup, 1) := by decide +kernel
theorem dX1_liveLife_15 : decode cX1_liveLife 15 = .ok (.getfield 9, 3) := by decide +kernel
theorem dX1_liveLife_18 : decode cX1_liveLife 18 = .ok (.iload_n 3, 1) := by decide +kernel
theorem dX1_liveLife_19 : decode cX1_liveLife 19 = .ok (.iconst (-1), 1) := by decide +kernel
theorem dX1_liveLife_20 : decode cX1_liveLife 20 = .ok (.ixor, 1) := by decide +kernel
theorem dX1_liveLife_21 : decode cX1_liveLife 21 = .ok (.iand, 1) := by decide +kernel
theorem dX1_liveLife_22 : decode cX1_liveLife 22 = .ok (.putfield 9, 3) := by decide +kernel
theorem dX1_liveLife_25 : decode cX1_liveLife 25 = .ok (.aload_n 0, 1) := by decide +kernel
theorem dX1_liveLife_26 : decode cX1_liveLife 26 = .ok (.dup, 1) := by decide +kernel
theorem dX1_liveLife_27 : decode cX1_liveLife 27 = .ok (.getfield 15, 3) := by decide +kernel
theorem dX1_liveLife_30 : decode cX1_liveLife 30 = .ok (.iconst 1, 1) := by decide +kernel
theorem dX1_liveLife_31 : decode cX1_liveLife 31 = .ok (.iload_n 2, 1) := by decide +kernel
theorem dX1_liveLife_32 : decode cX1_liveLife 32 = .ok (.ishl, 1) := by decide +kernel
theorem dX1_liveLife_33 : decode cX1_liveLife 33 = .ok (.ior, 1) := by decide +kernel
theorem dX1_liveLife_34 : decode cX1_liveLife 34 = .ok (.putfield 15, 3) := by decide +kernel
theorem dX1_liveLife_37 : decode cX1_liveLife 37 = .ok (.iload_n 3, 1) := by decide +kernel
theorem dX1_liveLife_38 : decode cX1_liveLife 38 = .ok (.ireturn, 1) := by decide +kernel
theorem dX1_goBy_0 : decode cX1_goBy 0 = .ok (.aload_n 0, 1) := by decide +kernel
theorem dX1_goBy_1 : decode cX1_goBy 1 = .ok (.aload_n 0, 1) := by decide +kernel
theorem dX1_goBy_2 : decode cX1_goBy 2 = .ok (.aload_n 1, 1) := by decide +kernel
theorem dX1_goBy_3 : decode cX1_goBy 3 = .ok (.iload_n 2, 1) := by decide +kernel
theorem dX1_goBy_4 : decode cX1_goBy 4 = .ok (.invokevirtual 54, 3) := by decide +kernel
theorem dX1_goBy_7 : decode cX1_goBy 7 = .ok (.putfield 23, 3) := by decide +kernel
theorem dX1_goBy_10 : decode cX1_goBy 10 = .ok (.aload_n 0, 1) := by decide +kernel
theorem dX1_goBy_11 : decode cX1_goBy 11 = .ok (.dup, 1) := by decide +kernel
theorem dX1_goBy_12 : decode cX1_goBy 12 = .ok (.getfield 26, 3) := by decide +kernel
theorem dX1_goBy_15 : decode cX1_goBy 15 = .ok (.iload_n 2, 1) := by decide +kernel
theorem dX1_goBy_16 : decode cX1_goBy 16 = .ok (.iadd, 1) := by decide +kernel
theorem dX1_goBy_17 : decode cX1_goBy 17 = .ok (.putfield 26, 3) := by decide +kernel
theorem dX1_goBy_20 : decode cX1_goBy 20 = .ok (.return_, 1) := by decide +kernel
theorem dX1_coinsBehind_0 : decode cX1_coinsBehind 0 = .ok (.sipush 999, 3) := by decide +kernel
theorem dX1_coinsBehind_3 : decode cX1_coinsBehind 3 = .ok (.aload_n 0, 1) := by decide +kernel
theorem dX1_coinsBehind_4 : decode cX1_coinsBehind 4 = .ok (.getfield 23, 3) := by decide +kernel
theorem dX1_coinsBehind_7 : decode cX1_coinsBehind 7 = .ok (.iload_n 2, 1) := by decide +kernel
theorem dX1_coinsBehind_8 : decode cX1_coinsBehind 8 = .ok (.aload_n 1, 1) := by decide +kernel
theorem dX1_coinsBehind_9 : decode cX1_coinsBehind 9 = .ok (.getfield 18, 3) := by decide +kernel
theorem dX1_coinsBehind_12 : decode cX1_coinsBehind 12 = .ok (.imul, 1) := by decide +kernel
theorem dX1_coinsBehind_13 : decode cX1_coinsBehind 13 = .ok (.iadd, 1) := by decide +kernel
theorem dX1_coinsBehind_14 : decode cX1_coinsBehind 14 = .ok (.invokestatic 58, 3) := by decide +kernel
theorem dX1_coinsBehind_17 : decode cX1_coinsBehind 17 = .ok (.ireturn, 1) := by decide +kernel
theorem dX1_goByDraw_0 : decode cX1_goByDraw 0 = .ok (.aload_n 1, 1) := by decide +kernel
theorem dX1_goByDraw_1 : decode cX1_goByDraw 1 = .ok (.getfield 64, 3) := by decide +kernel
theorem dX1_goByDraw_4 : decode cX1_goByDraw 4 = .ok (.ifCond .le 28, 3) := by decide +kernel
theorem dX1_goByDraw_7 : decode cX1_goByDraw 7 = .ok (.aload_n 0, 1) := by decide +kernel
theorem dX1_goByDraw_8 : decode cX1_goByDraw 8 = .ok (.aload_n 1, 1) := by decide +kernel
theorem dX1_goByDraw_9 : decode cX1_goByDraw 9 = .ok (.iload_n 2, 1) := by decide +kernel
theorem dX1_goByDraw_10 : decode cX1_goByDraw 10 = .ok (.aload_n 1, 1) := by decide +kernel
theorem dX1_goByDraw_11 : decode cX1_goByDraw 11 = .ok (.getfield 64, 3) := by decide +kernel
theorem dX1_goByDraw_14 : decode cX1_goByDraw 14 = .ok (.irem, 1) := by decide +kernel
theorem dX1_goByDraw_15 : decode cX1_goByDraw 15 = .ok (.iload_n 2, 1) := by decide +kernel
theorem dX1_goByDraw_16 : decode cX1_goByDraw 16 = .ok (.bipush 8, 2) := by decide +kernel
theorem dX1_goByDraw_18 : decode cX1_goByDraw 18 = .ok (.idiv, 1) := by decide +kernel
theorem dX1_goByDraw_19 : decode cX1_goByDraw 19 = .ok (.iconst 3, 1) := by decide +kernel
theorem dX1_goByDraw_20 : decode cX1_goByDraw 20 = .ok (.irem, 1) := by decide +kernel
theorem dX1_goByDraw_21 : decode cX1_goByDraw 21 = .ok (.ifCond .ne 7, 3) := by decide +kernel
theorem dX1_goByDraw_24 : decode cX1_goByDraw 24 = .ok (.iconst 1, 1) := by decide +kernel
theorem dX1_goByDraw_25 : decode cX1_goByDraw 25 = .ok (.goto 4, 3) := by decide +kernel
theorem dX1_goByDraw_28 : decode cX1_goByDraw 28 = .ok (.iconst 0, 1) := by decide +kernel
theorem dX1_goByDraw_29 : decode cX1_goByDraw 29 = .ok (.invokevirtual 67, 3) := by decide +kernel
theorem dX1_goByDraw_32 : decode cX1_goByDraw 32 = .ok (.aload_n 1, 1) := by decide +kernel
theorem dX1_goByDraw_33 : decode cX1_goByDraw 33 = .ok (.getfield 71, 3) := by decide +kernel
theorem dX1_goByDraw_36 : decode cX1_goByDraw 36 = .ok (.ifCond .le 39, 3) := by decide +kernel
theorem dX1_goByDraw_39 : decode cX1_goByDraw 39 = .ok (.iload_n 2, 1) := by decide +kernel
theorem dX1_goByDraw_40 : decode cX1_goByDraw 40 = .ok (.bipush 32, 2) := by decide +kernel
theorem dX1_goByDraw_42 : decode cX1_goByDraw 42 = .ok (.idiv, 1) := by decide +kernel
theorem dX1_goByDraw_43 : decode cX1_goByDraw 43 = .ok (.aload_n 1, 1) := by decide +kernel
theorem dX1_goByDraw_44 : decode cX1_goByDraw 44 = .ok (.getfield 71, 3) := by decide +kernel
theorem dX1_goByDraw_47 : decode cX1_goByDraw 47 = .ok (.irem, 1) := by decide +kernel
theorem dX1_goByDraw_48 : decode cX1_goByDraw 48 = .ok (.istore_n 3, 1) := by decide +kernel
theorem dX1_goByDraw_49 : decode cX1_goByDraw 49 = .ok (.iload_n 2, 1) := by decide +kernel
theorem dX1_goByDraw_50 : decode cX1_goByDraw 50 = .ok (.sipush 256, 3) := by decide +kernel
theorem dX1_goByDraw_53 : decode cX1_goByDraw 53 = .ok (.idiv, 1) := by decide +kernel
theorem dX1_goByDraw_54 : decode cX1_goByDraw 54 = .ok (.iconst 2, 1) := by decide +kernel
theorem dX1_goByDraw_55 : decode cX1_goByDraw 55 = .ok (.irem, 1) := by decide +kernel
theorem dX1_goByDraw_56 : decode cX1_goByDraw 56 = .ok (.ifCond .ne 19, 3) := by decide +kernel
theorem dX1_goByDraw_59 : decode cX1_goByDraw 59 = .ok (.aload_n 0, 1) := by decide +kernel
theorem dX1_goByDraw_60 : decode cX1_goByDraw 60 = .ok (.aload_n 1, 1) := by decide +kernel
theorem dX1_goByDraw_61 : decode cX1_goByDraw 61 = .ok (.iload_n 3, 1) := by decide +kernel
theorem dX1_goByDraw_62 : decode cX1_goByDraw 62 = .ok (.invokevirtual 74, 3) := by decide +kernel
theorem dX1_goByDraw_65 : decode cX1_goByDraw 65 = .ok (.ifCond .eq 10, 3) := by decide +kernel
theorem dX1_goByDraw_68 : decode cX1_goByDraw 68 = .ok (.aload_n 0, 1) := by decide +kernel
theorem dX1_goByDraw_69 : decode cX1_goByDraw 69 = .ok (.aload_n 1, 1) := by decide +kernel
theorem dX1_goByDraw_70 : decode cX1_goByDraw 70 = .ok (.iload_n 3, 1) := by decide +kernel
theorem dX1_goByDraw_71 : decode cX1_goByDraw 71 = .ok (.invokevirtual 78, 3) := by decide +kernel
theorem dX1_goByDraw_74 : decode cX1_goByDraw 74 = .ok (.pop, 1) := by decide +kernel
theorem dX1_goByDraw_75 : decode cX1_goByDraw 75 = .ok (.aload_n 0, 1) := by decide +kernel
theorem dX1_goByDraw_76 : decode cX1_goByDraw 76 = .ok (.aload_n 1, 1) := by decide +kernel
theorem dX1_goByDraw_77 : decode cX1_goByDraw 77 = .ok (.iconst 1, 1) := by decide +kernel
theorem dX1_goByDraw_78 : decode cX1_goByDraw 78 = .ok (.invokevirtual 81, 3) := by decide +kernel
theorem dX1_goByDraw_81 : decode cX1_goByDraw 81 = .ok (.return_, 1) := by decide +kernel
theorem dX1_putOrTakeOut_0 : decode cX1_putOrTakeOut 0 = .ok (.aload_n 0, 1) := by decide +kernel
theorem dX1_putOrTakeOut_1 : decode cX1_putOrTakeOut 1 = .ok (.aload_n 1, 1) := by decide +kernel
theorem dX1_putOrTakeOut_2 : decode cX1_putOrTakeOut 2 = .ok (.iload_n 2, 1) := by decide +kernel
theorem dX1_putOrTakeOut_3 : decode cX1_putOrTakeOut 3 = .ok (.invokevirtual 85, 3) := by decide +kernel
theorem dX1_putOrTakeOut_6 : decode cX1_putOrTakeOut 6 = .ok (.ifCond .eq 12, 3) := by decide +kernel
theorem dX1_putOrTakeOut_9 : decode cX1_putOrTakeOut 9 = .ok (.aload_n 0, 1) := by decide +kernel
theorem dX1_putOrTakeOut_10 : decode cX1_putOrTakeOut 10 = .ok (.aload_n 1, 1) := by decide +kernel
theorem dX1_putOrTakeOut_11 : decode cX1_putOrTakeOut 11 = .ok (.iload_n 2, 1) := by decide +kernel
theorem dX1_putOrTakeOut_12 : decode cX1_putOrTakeOut 12 = .ok (.invokevirtual 88, 3) := by decide +kernel
theorem dX1_putOrTakeOut_15 : decode cX1_putOrTakeOut 15 = .ok (.goto 12, 3) := by decide +kernel
theorem dX1_putOrTakeOut_18 : decode cX1_putOrTakeOut 18 = .ok (.iload_n 3, 1) := by decide +kernel
theorem dX1_putOrTakeOut_19 : decode cX1_putOrTakeOut 19 = .ok (.ifCond .eq 8, 3) := by decide +kernel
theorem dX1_putOrTakeOut_22 : decode cX1_putOrTakeOut 22 = .ok (.aload_n 0, 1) := by decide +kernel
theorem dX1_putOrTakeOut_23 : decode cX1_putOrTakeOut 23 = .ok (.iload_n 2, 1) := by decide +kernel
theorem dX1_putOrTakeOut_24 : decode cX1_putOrTakeOut 24 = .ok (.invokevirtual 91, 3) := by decide +kernel
theorem dX1_putOrTakeOut_27 : decode cX1_putOrTakeOut 27 = .ok (.return_, 1) := by decide +kernel
theorem dX2_init_0 : decode cX2_init 0 = .ok (.aload_n 0, 1) := by decide +kernel
theorem dX2_init_1 : decode cX2_init 1 = .ok (.invokespecial 1, 3) := by decide +kernel
theorem dX2_init_4 : decode cX2_init 4 = .ok (.iload_n 1, 1) := by decide +kernel
theorem dX2_init_5 : decode cX2_init 5 = .ok (.iconst 1, 1) := by decide +kernel
theorem dX2_init_6 : decode cX2_init 6 = .ok (.if_icmp .ge 7, 3) := by decide +kernel
theorem dX2_init_9 : decode cX2_init 9 = .ok (.iconst 1, 1) := by decide +kernel
theorem dX2_init_10 : decode cX2_init 10 = .ok (.goto 4, 3) := by decide +kernel
theorem dX2_init_13 : decode cX2_init 13 = .ok (.iload_n 1, 1) := by decide +kernel
theorem dX2_init_14 : decode cX2_init 14 = .ok (.istore_n 2, 1) := by decide +kernel
theorem dX2_init_15 : decode cX2_init 15 = .ok (.aload_n 0, 1) := by decide +kernel
theorem dX2_init_16 : decode cX2_init 16 = .ok (.iload_n 2, 1) := by decide +kernel
theorem dX2_init_17 : decode cX2_init 17 = .ok (.putfield 7, 3) := by decide +kernel
theorem dX2_init_20 : decode cX2_init 20 = .ok (.aload_n 0, 1) := by decide +kernel
theorem dX2_init_21 : decode cX2_init 21 = .ok (.iload_n 2, 1) := by decide +kernel
theorem dX2_init_22 : decode cX2_init 22 = .ok (.newarray .int, 2) := by decide +kernel
theorem dX2_init_24 : decode cX2_init 24 = .ok (.putfield 13, 3) := by decide +kernel
theorem dX2_init_27 : decode cX2_init 27 = .ok (.aload_n 0, 1) := by decide +kernel
theorem dX2_init_28 : decode cX2_init 28 = .ok (.iload_n 2, 1) := by decide +kernel
theorem dX2_init_29 : decode cX2_init 29 = .ok (.newarray .int, 2) := by decide +kernel
theorem dX2_init_31 : decode cX2_init 31 = .ok (.putfield 17, 3) := by decide +kernel
theorem dX2_init_34 : decode cX2_init 34 = .ok (.aload_n 0, 1) := by decide +kernel
theorem dX2_init_35 : decode cX2_init 35 = .ok (.iload_n 2, 1) := by decide +kernel
theorem dX2_init_36 : decode cX2_init 36 = .ok (.newarray .int, 2) := by decide +kernel
theorem dX2_init_38 : decode cX2_init 38 = .ok (.putfield 20, 3) := by decide +kernel
theorem dX2_init_41 : decode cX2_init 41 = .ok (.aload_n 0, 1) := by decide +kernel
theorem dX2_init_42 : decode cX2_init 42 = .ok (.iload_n 2, 1) := by decide +kernel
theorem dX2_init_43 : decode cX2_init 43 = .ok (.newarray .int, 2) := by decide +kernel
theorem dX2_init_45 : decode cX2_init 45 = .ok (.putfield 23, 3) := by decide +kernel
theorem dX2_init_48 : decode cX2_init 48 = .ok (.return_, 1) := by decide +kernel
theorem dX2_empty_0 : decode cX2_empty 0 = .ok (.aload_n 0, 1) := by decide +kernel
theorem dX2_empty_1 : decode cX2_empty 1 = .ok (.iconst 0, 1) := by decide +kernel
theorem dX2_empty_2 : decode cX2_empty 2 = .ok (.putfield 26, 3) := by decide +kernel
theorem dX2_empty_5 : decode cX2_empty 5 = .ok (.return_, 1) := by decide +kernel
theorem dX2_add_0 : decode cX2_add 0 = .ok (.aload_n 0, 1) := by decide +kernel
theorem dX2_add_1 : decode cX2_add 1 = .ok (.getfield 26, 3) := by decide +kernel
theorem dX2_add_4 : decode cX2_add 4 = .ok (.aload_n 0, 1) := by decide +kernel
theorem dX2_add_5 : decode cX2_add 5 = .ok (.getfield 7, 3) := by decide +kernel
theorem dX2_add_8 : decode cX2_add 8 = .ok (.if_icmp .lt 7, 3) := by decide +kernel
theorem dX2_add_11 : decode cX2_add 11 = .ok (.aload_n 0, 1) := by decide +kernel
theorem dX2_add_12 : decode cX2_add 12 = .ok (.invokevirtual 29, 3) := by decide +kernel
theorem dX2_add_15 : decode cX2_add 15 = .ok (.aload_n 0, 1) := by decide +kernel
theorem dX2_add_16 : decode cX2_add 16 = .ok (.getfield 13, 3) := by decide +kernel
theorem dX2_add_19 : decode cX2_add 19 = .ok (.aload_n 0, 1) := by decide +kernel
theorem dX2_add_20 : decode cX2_add 20 = .ok (.getfield 26, 3) := by decide +kernel
theorem dX2_add_23 : decode cX2_add 23 = .ok (.aload_n 1, 1) := by decide +kernel
theorem dX2_add_24 : decode cX2_add 24 = .ok (.getfield 32, 3) := by decide +kernel
theorem dX2_add_27 : decode cX2_add 27 = .ok (.invokestatic 37, 3) := by decide +kernel
theorem dX2_add_30 : decode cX2_add 30 = .ok (.aload_n 0, 1) := by decide +kernel
theorem dX2_add_31 : decode cX2_add 31 = .ok (.getfield 17, 3) := by decide +kernel
theorem dX2_add_34 : decode cX2_add 34 = .ok (.aload_n 0, 1) := by decide +kernel
theorem dX2_add_35 : decode cX2_add 35 = .ok (.getfield 26, 3) := by decide +kernel
theorem dX2_add_38 : decode cX2_add 38 = .ok (.aload_n 1, 1) := by decide +kernel
theorem dX2_add_39 : decode cX2_add 39 = .ok (.getfield 43, 3) := by decide +kernel
theorem dX2_add_42 : decode cX2_add 42 = .ok (.invokestatic 37, 3) := by decide +kernel
theorem dX2_add_45 : decode cX2_add 45 = .ok (.aload_n 0, 1) := by decide +kernel
theorem dX2_add_46 : decode cX2_add 46 = .ok (.getfield 20, 3) := by decide +kernel
theorem dX2_add_49 : decode cX2_add 49 = .ok (.aload_n 0, 1) := by decide +kernel
theorem dX2_add_50 : decode cX2_add 50 = .ok (.getfield 26, 3) := by decide +kernel
theorem dX2_add_53 : decode cX2_add 53 = .ok (.aload_n 1, 1) := by decide +kernel
theorem dX2_add_54 : decode cX2_add 54 = .ok (.getfield 45, 3) := by decide +kernel
theorem dX2_add_57 : decode cX2_add 57 = .ok (.invokestatic 37, 3) := by decide +kernel
theorem dX2_add_60 : decode cX2_add 60 = .ok (.aload_n 0, 1) := by decide +kernel
theorem dX2_add_61 : decode cX2_add 61 = .ok (.getfield 23, 3) := by decide +kernel
theorem dX2_add_64 : decode cX2_add 64 = .ok (.aload_n 0, 1) := by decide +kernel
theorem dX2_add_65 : decode cX2_add 65 = .ok (.getfield 26, 3) := by decide +kernel
theorem dX2_add_68 : decode cX2_add 68 = .ok (.aload_n 1, 1) := by decide +kernel
theorem dX2_add_69 : decode cX2_add 69 = .ok (.getfield 47, 3) := by decide +kernel
theorem dX2_add_72 : decode cX2_add 72 = .ok (.invokestatic 37, 3) := by decide +kernel
theorem dX2_add_75 : decode cX2_add 75 = .ok (.aload_n 0, 1) := by decide +kernel
theorem dX2_add_76 : decode cX2_add 76 = .ok (.dup, 1) := by decide +kernel
theorem dX2_add_77 : decode cX2_add 77 = .ok (.getfield 26, 3) := by decide +kernel
theorem dX2_add_80 : decode cX2_add 80 = .ok (.iconst 1, 1) := by decide +kernel
theorem dX2_add_81 : decode cX2_add 81 = .ok (.iadd, 1) := by decide +kernel
theorem dX2_add_82 : decode cX2_add 82 = .ok (.putfield 26, 3) := by decide +kernel
theorem dX2_add_85 : decode cX2_add 85 = .ok (.return_, 1) := by decide +kernel
theorem dX2_takeTop_0 : decode cX2_takeTop 0 = .ok (.aload_n 0, 1) := by decide +kernel
theorem dX2_takeTop_1 : decode cX2_takeTop 1 = .ok (.getfield 26, 3) := by decide +kernel
theorem dX2_takeTop_4 : decode cX2_takeTop 4 = .ok (.ifCond .le 73, 3) := by decide +kernel
theorem dX2_takeTop_7 : decode cX2_takeTop 7 = .ok (.aload_n 0, 1) := by decide +kernel
theorem dX2_takeTop_8 : decode cX2_takeTop 8 = .ok (.dup, 1) := by decide +kernel
theorem dX2_takeTop_9 : decode cX2_takeTop 9 = .ok (.getfield 26, 3) := by decide +kernel
theorem dX2_takeTop_12 : decode cX2_takeTop 12 = .ok (.iconst 1, 1) := by decide +kernel
theorem dX2_takeTop_13 : decode cX2_takeTop 13 = .ok (.isub, 1) := by decide +kernel
theorem dX2_takeTop_14 : decode cX2_takeTop 14 = .ok (.putfield 26, 3) := by decide +kernel
theorem dX2_takeTop_17 : decode cX2_takeTop 17 = .ok (.aload_n 1, 1) := by decide +kernel
theorem dX2_takeTop_18 : decode cX2_takeTop 18 = .ok (.aload_n 0, 1) := by decide +kernel
theorem dX2_takeTop_19 : decode cX2_takeTop 19 = .ok (.getfield 13, 3) := by decide +kernel
theorem dX2_takeTop_22 : decode cX2_takeTop 22 = .ok (.aload_n 0, 1) := by decide +kernel
theorem dX2_takeTop_23 : decode cX2_takeTop 23 = .ok (.getfield 26, 3) := by decide +kernel
theorem dX2_takeTop_26 : decode cX2_takeTop 26 = .ok (.invokestatic 49, 3) := by decide +kernel
theorem dX2_takeTop_29 : decode cX2_takeTop 29 = .ok (.putfield 32, 3) := by decide +kernel
theorem dX2_takeTop_32 : decode cX2_takeTop 32 = .ok (.aload_n 1, 1) := by decide +kernel
theorem dX2_takeTop_33 : decode cX2_takeTop 33 = .ok (.aload_n 0, 1) := by decide +kernel
theorem dX2_takeTop_34 : decode cX2_takeTop 34 = .ok (.getfield 17, 3) := by decide +kernel
theorem dX2_takeTop_37 : decode cX2_takeTop 37 = .ok (.aload_n 0, 1) := by decide +kernel
theorem dX2_takeTop_38 : decode cX2_takeTop 38 = .ok (.getfield 26, 3) := by decide +kernel
theorem dX2_takeTop_41 : decode cX2_takeTop 41 = .ok (.invokestatic 49, 3) := by decide +kernel
theorem dX2_takeTop_44 : decode cX2_takeTop 44 = .ok (.putfield 43, 3) := by decide +kernel
theorem dX2_takeTop_47 : decode cX2_takeTop 47 = .ok (.aload_n 1, 1) := by decide +kernel
theorem dX2_takeTop_48 : decode cX2_takeTop 48 = .ok (.aload_n 0, 1) := by decide +kernel
theorem dX2_takeTop_49 : decode cX2_takeTop 49 = .ok (.getfield 20, 3) := by decide +kernel
theorem dX2_takeTop_52 : decode cX2_takeTop 52 = .ok (.aload_n 0, 1) := by decide +kernel
theorem dX2_takeTop_53 : decode cX2_takeTop 53 = .ok (.getfield 26, 3) := by decide +kernel
theorem dX2_takeTop_56 : decode cX2_takeTop 56 = .ok (.invokestatic 49, 3) := by decide +kernel
theorem dX2_takeTop_59 : decode cX2_takeTop 59 = .ok (.putfield 45, 3) := by decide +kernel
theorem dX2_takeTop_62 : decode cX2_takeTop 62 = .ok (.aload_n 1, 1) := by decide +kernel
theorem dX2_takeTop_63 : decode cX2_takeTop 63 = .ok (.aload_n 0, 1) := by decide +kernel
theorem dX2_takeTop_64 : decode cX2_takeTop 64 = .ok (.getfield 23, 3) := by decide +kernel
theorem dX2_takeTop_67 : decode cX2_takeTop 67 = .ok (.aload_n 0, 1) := by decide +kernel
theorem dX2_takeTop_68 : decode cX2_takeTop 68 = .ok (.getfield 26, 3) := by decide +kernel
theorem dX2_takeTop_71 : decode cX2_takeTop 71 = .ok (.invokestatic 49, 3) := by decide +kernel
theorem dX2_takeTop_74 : decode cX2_takeTop 74 = .ok (.putfield 47, 3) := by decide +kernel
theorem dX2_takeTop_77 : decode cX2_takeTop 77 = .ok (.return_, 1) := by decide +kernel
theorem dX2_dropLowest_0 : decode cX2_dropLowest 0 = .ok (.iconst 1, 1) := by decide +kernel
theorem dX2_dropLowest_1 : decode cX2_dropLowest 1 = .ok (.istore_n 1, 1) := by decide +kernel
theorem dX2_dropLowest_2 : decode cX2_dropLowest 2 = .ok (.iload_n 1, 1) := by decide +kernel
theorem dX2_dropLowest_3 : decode cX2_dropLowest 3 = .ok (.aload_n 0, 1) := by decide +kernel
theorem dX2_dropLowest_4 : decode cX2_dropLowest 4 = .ok (.getfield 26, 3) := by decide +kernel
theorem dX2_dropLowest_7 : decode cX2_dropLowest 7 = .ok (.if_icmp .ge 81, 3) := by decide +kernel
theorem dX2_dropLowest_10 : decode cX2_dropLowest 10 = .ok (.aload_n 0, 1) := by decide +kernel
theorem dX2_dropLowest_11 : decode cX2_dropLowest 11 = .ok (.getfield 13, 3) := by decide +kernel
theorem dX2_dropLowest_14 : decode cX2_dropLowest 14 = .ok (.iload_n 1, 1) := by decide +kernel
theorem dX2_dropLowest_15 : decode cX2_dropLowest 15 = .ok (.iconst 1, 1) := by decide +kernel
theorem dX2_dropLowest_16 : decode cX2_dropLowest 16 = .ok (.isub, 1) := by decide +kernel
theorem dX2_dropLowest_17 : decode cX2_dropLowest 17 = .ok (.aload_n 0, 1) := by decide +kernel
theorem dX2_dropLowest_18 : decode cX2_dropLowest 18 = .ok (.getfield 13, 3) := by decide +kernel
theorem dX2_dropLowest_21 : decode cX2_dropLowest 21 = .ok (.iload_n 1, 1) := by decide +kernel
theorem dX2_dropLowest_22 : decode cX2_dropLowest 22 = .ok (.invokestatic 49, 3) := by decide +kernel
theorem dX2_dropLowest_25 : decode cX2_dropLowest 25 = .ok (.invokestatic 37, 3) := by decide +kernel
theorem dX2_dropLowest_28 : decode cX2_dropLowest 28 = .ok (.aload_n 0, 1) := by decide +kernel
theorem dX2_dropLowest_29 : decode cX2_dropLowest 29 = .ok (.getfield 17, 3) := by decide +kernel
theorem dX2_dropLowest_32 : decode cX2_dropLowest 32 = .ok (.iload_n 1, 1) := by decide +kernel
theorem dX2_dropLowest_33 : decode cX2_dropLowest 33 = .ok (.iconst 1, 1) := by decide +kernel
theorem dX2_dropLowest_34 : decode cX2_dropLowest 34 = .ok (.isub, 1) := by decide +kernel
theorem dX2_dropLowest_35 : decode cX2_dropLowest 35 = .ok (.aload_n 0, 1) := by decide +kernel
theorem dX2_dropLowest_36 : decode cX2_dropLowest 36 = .ok (.getfield 17, 3) := by decide +kernel
theorem dX2_dropLowest_39 : decode cX2_dropLowest 39 = .ok (.iload_n 1, 1) := by decide +kernel
theorem dX2_dropLowest_40 : decode cX2_dropLowest 40 = .ok (.invokestatic 49, 3) := by decide +kernel
theorem dX2_dropLowest_43 : decode cX2_dropLowest 43 = .ok (.invokestatic 37, 3) := by decide +kernel
theorem dX2_dropLowest_46 : decode cX2_dropLowest 46 = .ok (.aload_n 0, 1) := by decide +kernel
theorem dX2_dropLowest_47 : decode cX2_dropLowest 47 = .ok (.getfield 20, 3) := by decide +kernel
theorem dX2_dropLowest_50 : decode cX2_dropLowest 50 = .ok (.iload_n 1, 1) := by decide +kernel
theorem dX2_dropLowest_51 : decode cX2_dropLowest 51 = .ok (.iconst 1, 1) := by decide +kernel
theorem dX2_dropLowest_52 : decode cX2_dropLowest 52 = .ok (.isub, 1) := by decide +kernel
theorem dX2_dropLowest_53 : decode cX2_dropLowest 53 = .ok (.aload_n 0, 1) := by decide +kernel
theorem dX2_dropLowest_54 : decode cX2_dropLowest 54 = .ok (.getfield 20, 3) := by decide +kernel
theorem dX2_dropLowest_57 : decode cX2_dropLowest 57 = .ok (.iload_n 1, 1) := by decide +kernel
theorem dX2_dropLowest_58 : decode cX2_dropLowest 58 = .ok (.invokestatic 49, 3) := by decide +kernel
theorem dX2_dropLowest_61 : decode cX2_dropLowest 61 = .ok (.invokestatic 37, 3) := by decide +kernel
theorem dX2_dropLowest_64 : decode cX2_dropLowest 64 = .ok (.aload_n 0, 1) := by decide +kernel
theorem dX2_dropLowest_65 : decode cX2_dropLowest 65 = .ok (.getfield 23, 3) := by decide +kernel
theorem dX2_dropLowest_68 : decode cX2_dropLowest 68 = .ok (.iload_n 1, 1) := by decide +kernel
theorem dX2_dropLowest_69 : decode cX2_dropLowest 69 = .ok (.iconst 1, 1) := by decide +kernel
theorem dX2_dropLowest_70 : decode cX2_dropLowest 70 = .ok (.isub, 1) := by decide +kernel
theorem dX2_dropLowest_71 : decode cX2_dropLowest 71 = .ok (.aload_n 0, 1) := by decide +kernel
theorem dX2_dropLowest_72 : decode cX2_dropLowest 72 = .ok (.getfield 23, 3) := by decide +kernel
theorem dX2_dropLowest_75 : decode cX2_dropLowest 75 = .ok (.iload_n 1, 1) := by decide +kernel
theorem dX2_dropLowest_76 : decode cX2_dropLowest 76 = .ok (.invokestatic 49, 3) := by decide +kernel
theorem dX2_dropLowest_79 : decode cX2_dropLowest 79 = .ok (.invokestatic 37, 3) := by decide +kernel
theorem dX2_dropLowest_82 : decode cX2_dropLowest 82 = .ok (.iinc 1 1, 3) := by decide +kernel
theorem dX2_dropLowest_85 : decode cX2_dropLowest 85 = .ok (.goto (-83), 3) := by decide +kernel
theorem dX2_dropLowest_88 : decode cX2_dropLowest 88 = .ok (.aload_n 0, 1) := by decide +kernel
theorem dX2_dropLowest_89 : decode cX2_dropLowest 89 = .ok (.dup, 1) := by decide +kernel
theorem dX2_dropLowest_90 : decode cX2_dropLowest 90 = .ok (.getfield 26, 3) := by decide +kernel
theorem dX2_dropLowest_93 : decode cX2_dropLowest 93 = .ok (.iconst 1, 1) := by decide +kernel
theorem dX2_dropLowest_94 : decode cX2_dropLowest 94 = .ok (.isub, 1) := by decide +kernel
theorem dX2_dropLowest_95 : decode cX2_dropLowest 95 = .ok (.putfield 26, 3) := by decide +kernel
theorem dX2_dropLowest_98 : decode cX2_dropLowest 98 = .ok (.return_, 1) := by decide +kernel
theorem dX3_init_0 : decode cX3_init 0 = .ok (.aload_n 0, 1) := by decide +kernel
theorem dX3_init_1 : decode cX3_init 1 = .ok (.invokespecial 3, 3) := by decide +kernel
theorem dX3_init_4 : decode cX3_init 4 = .ok (.aload_n 0, 1) := by decide +kernel
theorem dX3_init_5 : decode cX3_init 5 = .ok (.bipush 8, 2) := by decide +kernel
theorem dX3_init_7 : decode cX3_init 7 = .ok (.newarray .int, 2) := by decide +kernel
theorem dX3_init_9 : decode cX3_init 9 = .ok (.putfield 9, 3) := by decide +kernel
theorem dX3_init_12 : decode cX3_init 12 = .ok (.aload_n 0, 1) := by decide +kernel
theorem dX3_init_13 : decode cX3_init 13 = .ok (.bipush 8, 2) := by decide +kernel
theorem dX3_init_15 : decode cX3_init 15 = .ok (.newarray .int, 2) := by decide +kernel
theorem dX3_init_17 : decode cX3_init 17 = .ok (.putfield 15, 3) := by decide +kernel
theorem dX3_init_20 : decode cX3_init 20 = .ok (.aload_n 0, 1) := by decide +kernel
theorem dX3_init_21 : decode cX3_init 21 = .ok (.bipush 8, 2) := by decide +kernel
theorem dX3_init_23 : decode cX3_init 23 = .ok (.newarray .int, 2) := by decide +kernel
theorem dX3_init_25 : decode cX3_init 25 = .ok (.putfield 18, 3) := by decide +kernel
theorem dX3_init_28 : decode cX3_init 28 = .ok (.aload_n 0, 1) := by decide +kernel
theorem dX3_init_29 : decode cX3_init 29 = .ok (.bipush 6, 2) := by decide +kernel
theorem dX3_init_31 : decode cX3_init 31 = .ok (.newarray .int, 2) := by decide +kernel
theorem dX3_init_33 : decode cX3_init 33 = .ok (.putfield 21, 3) := by decide +kernel
theorem dX3_init_36 : decode cX3_init 36 = .ok (.aload_n 0, 1) := by decide +kernel
theorem dX3_init_37 : decode cX3_init 37 = .ok (.bipush 6, 2) := by decide +kernel
theorem dX3_init_39 : decode cX3_init 39 = .ok (.newarray .int, 2) := by decide +kernel
theorem dX3_init_41 : decode cX3_init 41 = .ok (.putfield 24, 3) := by decide +kernel
theorem dX3_init_44 : decode cX3_init 44 = .ok (.aload_n 0, 1) := by decide +kernel
theorem dX3_init_45 : decode cX3_init 45 = .ok (.bipush 6, 2) := by decide +kernel
theorem dX3_init_47 : decode cX3_init 47 = .ok (.newarray .int, 2) := by decide +kernel
theorem dX3_init_49 : decode cX3_init 49 = .ok (.putfield 27, 3) := by decide +kernel
theorem dX3_init_52 : decode cX3_init 52 = .ok (.aload_n 0, 1) := by decide +kernel
theorem dX3_init_53 : decode cX3_init 53 = .ok (.bipush 6, 2) := by decide +kernel
theorem dX3_init_55 : decode cX3_init 55 = .ok (.newarray .int, 2) := by decide +kernel
theorem dX3_init_57 : decode cX3_init 57 = .ok (.putfield 30, 3) := by decide +kernel
theorem dX3_init_60 : decode cX3_init 60 = .ok (.return_, 1) := by decide +kernel
theorem dX3_begin_0 : decode cX3_begin 0 = .ok (.aload_n 0, 1) := by decide +kernel
theorem dX3_begin_1 : decode cX3_begin 1 = .ok (.bipush 20, 2) := by decide +kernel
theorem dX3_begin_3 : decode cX3_begin 3 = .ok (.putfield 33, 3) := by decide +kernel
theorem dX3_begin_6 : decode cX3_begin 6 = .ok (.aload_n 0, 1) := by decide +kernel
theorem dX3_begin_7 : decode cX3_begin 7 = .ok (.iconst 5, 1) := by decide +kernel
theorem dX3_begin_8 : decode cX3_begin 8 = .ok (.putfield 37, 3) := by decide +kernel
theorem dX3_begin_11 : decode cX3_begin 11 = .ok (.aload_n 0, 1) := by decide +kernel
theorem dX3_begin_12 : decode cX3_begin 12 = .ok (.iconst 0, 1) := by decide +kernel
theorem dX3_begin_13 : decode cX3_begin 13 = .ok (.putfield 40, 3) := by decide +kernel
theorem dX3_begin_16 : decode cX3_begin 16 = .ok (.aload_n 0, 1) := by decide +kernel
theorem dX3_begin_17 : decode cX3_begin 17 = .ok (.iconst 0, 1) := by decide +kernel
theorem dX3_begin_18 : decode cX3_begin 18 = .ok (.putfield 43, 3) := by decide +kernel
theorem dX3_begin_21 : decode cX3_begin 21 = .ok (.aload_n 0, 1) := by decide +kernel
theorem dX3_begin_22 : decode cX3_begin 22 = .ok (.iconst 0, 1) := by decide +kernel
theorem dX3_begin_23 : decode cX3_begin 23 = .ok (.putfield 46, 3) := by decide +kernel
theorem dX3_begin_26 : decode cX3_begin 26 = .ok (.aload_n 0, 1) := by decide +kernel
theorem dX3_begin_27 : decode cX3_begin 27 = .ok (.iconst 0, 1) := by decide +kernel
theorem dX3_begin_28 : decode cX3_begin 28 = .ok (.putfield 49, 3) := by decide +kernel
theorem dX3_begin_31 : decode cX3_begin 31 = .ok (.aload_n 0, 1) := by decide +kernel
theorem dX3_begin_32 : decode cX3_begin 32 = .ok (.iconst 0, 1) := by decide +kernel
theorem dX3_begin_33 : decode cX3_begin 33 = .ok (.putfield 52, 3) := by decide +kernel
theorem dX3_begin_36 : decode cX3_begin 36 = .ok (.return_, 1) := by decide +kernel
theorem dX3_tellRoom_0 : decode cX3_tellRoom 0 = .ok (.iload_n 1, 1) := by decide +kernel
theorem dX3_tellRoom_1 : decode cX3_tellRoom 1 = .ok (.iconst 1, 1) := by decide +kernel
theorem dX3_tellRoom_2 : decode cX3_tellRoom 2 = .ok (.if_icmp .lt 15, 3) := by decide +kernel
theorem dX3_tellRoom_5 : decode cX3_tellRoom 5 = .ok (.iload_n 1, 1) := by decide +kernel
theorem dX3_tellRoom_6 : decode cX3_tellRoom 6 = .ok (.bipush 99, 2) := by decide +kernel
theorem dX3_tellRoom_8 : decode cX3_tellRoom 8 = .ok (.if_icmp .gt 9, 3) := by decide +kernel
theorem dX3_tellRoom_11 : decode cX3_tellRoom 11 = .ok (.iload_n 2, 1) := by decide +kernel
theorem dX3_tellRoom_12 : decode cX3_tellRoom 12 = .ok (.bipush 20, 2) := by decide +kernel
theorem dX3_tellRoom_14 : decode cX3_tellRoom 14 = .ok (.if_icmp .le 5, 3) := by decide +kernel
theorem dX3_tellRoom_17 : decode cX3_tellRoom 17 = .ok (.iconst 0, 1) := by decide +kernel
theorem dX3_tellRoom_18 : decode cX3_tellRoom 18 = .ok (.ireturn, 1) := by decide +kernel
theorem dX3_tellRoom_19 : decode cX3_tellRoom 19 = .ok (.aload_n 0, 1) := by decide +kernel
theorem dX3_tellRoom_20 : decode cX3_tellRoom 20 = .ok (.iload_n 1, 1) := by decide +kernel
theorem dX3_tellRoom_21 : decode cX3_tellRoom 21 = .ok (.putfield 33, 3) := by decide +kernel
theorem dX3_tellRoom_24 : decode cX3_tellRoom 24 = .ok (.aload_n 0, 1) := by decide +kernel
theorem dX3_tellRoom_25 : decode cX3_tellRoom 25 = .ok (.iload_n 2, 1) := by decide +kernel
theorem dX3_tellRoom_26 : decode cX3_tellRoom 26 = .ok (.putfield 37, 3) := by decide +kernel
theorem dX3_tellRoom_29 : decode cX3_tellRoom 29 = .ok (.iconst 1, 1) := by decide +kernel
theorem dX3_tellRoom_30 : decode cX3_tellRoom 30 = .ok (.ireturn, 1) := by decide +kernel
theorem dX3_tellThing_0 : decode cX3_tellThing 0 = .ok (.aload_n 0, 1) := by decide +kernel
theorem dX3_tellThing_1 : decode cX3_tellThing 1 = .ok (.getfield 40, 3) := by decide +kernel
theorem dX3_tellThing_4 : decode cX3_tellThing 4 = .ok (.bipush 8, 2) := by decide +kernel
theorem dX3_tellThing_6 : decode cX3_tellThing 6 = .ok (.if_icmp .ge 25, 3) := by decide +kernel
theorem dX3_tellThing_9 : decode cX3_tellThing 9 = .ok (.iload_n 1, 1) := by decide +kernel
theorem dX3_tellThing_10 : decode cX3_tellThing 10 = .ok (.iconst 3, 1) := by decide +kernel
theorem dX3_tellThing_11 : decode cX3_tellThing 11 = .ok (.if_icmp .gt 20, 3) := by decide +kernel
theorem dX3_tellThing_14 : decode cX3_tellThing 14 = .ok (.iload_n 2, 1) := by decide +kernel
theorem dX3_tellThing_15 : decode cX3_tellThing 15 = .ok (.iconst 1, 1) := by decide +kernel
theorem dX3_tellThing_16 : decode cX3_tellThing 16 = .ok (.if_icmp .lt 15, 3) := by decide +kernel
theorem dX3_tellThing_19 : decode cX3_tellThing 19 = .ok (.iload_n 2, 1) := by decide +kernel
theorem dX3_tellThing_20 : decode cX3_tellThing 20 = .ok (.bipush 20, 2) := by decide +kernel
theorem dX3_tellThing_22 : decode cX3_tellThing 22 = .ok (.if_icmp .gt 9, 3) := by decide +kernel
theorem dX3_tellThing_25 : decode cX3_tellThing 25 = .ok (.iload_n 3, 1) := by decide +kernel
theorem dX3_tellThing_26 : decode cX3_tellThing 26 = .ok (.bipush 20, 2) := by decide +kernel
theorem dX3_tellThing_28 : decode cX3_tellThing 28 = .ok (.if_icmp .le 5, 3) := by decide +kernel
theorem dX3_tellThing_31 : decode cX3_tellThing 31 = .ok (.iconst 0, 1) := by decide +kernel
theorem dX3_tellThing_32 : decode cX3_tellThing 32 = .ok (.ireturn, 1) := by decide +kernel
theorem dX3_tellThing_33 : decode cX3_tellThing 33 = .ok (.aload_n 0, 1) := by decide +kernel
theorem dX3_tellThing_34 : decode cX3_tellThing 34 = .ok (.getfield 9, 3) := by decide +kernel
theorem dX3_tellThing_37 : decode cX3_tellThing 37 = .ok (.aload_n 0, 1) := by decide +kernel
theorem dX3_tellThing_38 : decode cX3_tellThing 38 = .ok (.getfield 40, 3) := by decide +kernel
theorem dX3_tellThing_41 : decode cX3_tellThing 41 = .ok (.iload_n 1, 1) := by decide +kernel
theorem dX3_tellThing_42 : decode cX3_tellThing 42 = .ok (.invokestatic 55, 3) := by decide +kernel
theorem dX3_tellThing_45 : decode cX3_tellThing 45 = .ok (.aload_n 0, 1) := by decide +kernel
theorem dX3_tellThing_46 : decode cX3_tellThing 46 = .ok (.getfield 15, 3) := by decide +kernel
theorem dX3_tellThing_49 : decode cX3_tellThing 49 = .ok (.aload_n 0, 1) := by decide +kernel
theorem dX3_tellThing_50 : decode cX3_tellThing 50 = .ok (.getfield 40, 3) := by decide +kernel
theorem dX3_tellThing_53 : decode cX3_tellThing 53 = .ok (.iload_n 2, 1) := by decide +kernel
theorem dX3_tellThing_54 : decode cX3_tellThing 54 = .ok (.invokestatic 55, 3) := by decide +kernel
theorem dX3_tellThing_57 : decode cX3_tellThing 57 = .ok (.aload_n 0, 1) := by decide +kernel
theorem dX3_tellThing_58 : decode cX3_tellThing 58 = .ok (.getfield 18, 3) := by decide +kernel
theorem dX3_tellThing_61 : decode cX3_tellThing 61 = .ok (.aload_n 0, 1) := by decide +kernel
theorem dX3_tellThing_62 : decode cX3_tellThing 62 = .ok (.getfield 40, 3) := by decide +kernel
theorem dX3_tellThing_65 : decode cX3_tellThing 65 = .ok (.iload_n 3, 1) := by decide +kernel
theorem dX3_tellThing_66 : decode cX3_tellThing 66 = .ok (.invokestatic 55, 3) := by decide +kernel
theorem dX3_tellThing_69 : decode cX3_tellThing 69 = .ok (.aload_n 0, 1) := by decide +kernel
theorem dX3_tellThing_70 : decode cX3_tellThing 70 = .ok (.dup, 1) := by decide +kernel
theorem dX3_tellThing_71 : decode cX3_tellThing 71 = .ok (.getfield 46, 3) := by decide +kernel
theorem dX3_tellThing_74 : decode cX3_tellThing 74 = .ok (.iload_n 1, 1) := by decide +kernel
theorem dX3_tellThing_75 : decode cX3_tellThing 75 = .ok (.iconst 1, 1) := by decide +kernel
theorem dX3_tellThing_76 : decode cX3_tellThing 76 = .ok (.if_icmp .ne 7, 3) := by decide +kernel
theorem dX3_tellThing_79 : decode cX3_tellThing 79 = .ok (.iconst 1, 1) := by decide +kernel
theorem dX3_tellThing_80 : decode cX3_tellThing 80 = .ok (.goto 4, 3) := by decide +kernel
theorem dX3_tellThing_83 : decode cX3_tellThing 83 = .ok (.iconst 0, 1) := by decide +kernel
theorem dX3_tellThing_84 : decode cX3_tellThing 84 = .ok (.invokestatic 59, 3) := by decide +kernel
theorem dX3_tellThing_87 : decode cX3_tellThing 87 = .ok (.aload_n 0, 1) := by decide +kernel
theorem dX3_tellThing_88 : decode cX3_tellThing 88 = .ok (.getfield 40, 3) := by decide +kernel
theorem dX3_tellThing_91 : decode cX3_tellThing 91 = .ok (.ishl, 1) := by decide +kernel
theorem dX3_tellThing_92 : decode cX3_tellThing 92 = .ok (.ior, 1) := by decide +kernel
theorem dX3_tellThing_93 : decode cX3_tellThing 93 = .ok (.putfield 46, 3) := by decide +kernel
theorem dX3_tellThing_96 : decode cX3_tellThing 96 = .ok (.aload_n 0, 1) := by decide +kernel
theorem dX3_tellThing_97 : decode cX3_tellThing 97 = .ok (.dup, 1) := by decide +kernel
theorem dX3_tellThing_98 : decode cX3_tellThing 98 = .ok (.getfield 49, 3) := by decide +kernel
theorem dX3_tellThing_101 : decode cX3_tellThing 101 = .ok (.iload_n 1, 1) := by decide +kernel
theorem dX3_tellThing_102 : decode cX3_tellThing 102 = .ok (.iconst 2, 1) := by decide +kernel
theorem dX3_tellThing_103 : decode cX3_tellThing 103 = .ok (.if_icmp .ne 7, 3) := by decide +kernel
theorem dX3_tellThing_106 : decode cX3_tellThing 106 = .ok (.iconst 1, 1) := by decide +kernel
theorem dX3_tellThing_107 : decode cX3_tellThing 107 = .ok (.goto 4, 3) := by decide +kernel
theorem dX3_tellThing_110 : decode cX3_tellThing 110 = .ok (.iconst 0, 1) := by decide +kernel
theorem dX3_tellThing_111 : decode cX3_tellThing 111 = .ok (.invokestatic 59, 3) := by decide +kernel
theorem dX3_tellThing_114 : decode cX3_tellThing 114 = .ok (.aload_n 0, 1) := by decide +kernel
theorem dX3_tellThing_115 : decode cX3_tellThing 115 = .ok (.getfield 40, 3) := by decide +kernel
theorem dX3_tellThing_118 : decode cX3_tellThing 118 = .ok (.ishl, 1) := by decide +kernel
theorem dX3_tellThing_119 : decode cX3_tellThing 119 = .ok (.ior, 1) := by decide +kernel
theorem dX3_tellThing_120 : decode cX3_tellThing 120 = .ok (.putfield 49, 3) := by decide +kernel
theorem dX3_tellThing_123 : decode cX3_tellThing 123 = .ok (.aload_n 0, 1) := by decide +kernel
theorem dX3_tellThing_124 : decode cX3_tellThing 124 = .ok (.dup, 1) := by decide +kernel
theorem dX3_tellThing_125 : decode cX3_tellThing 125 = .ok (.getfield 52, 3) := by decide +kernel
theorem dX3_tellThing_128 : decode cX3_tellThing 128 = .ok (.iload_n 1, 1) := by decide +kernel
theorem dX3_tellThing_129 : decode cX3_tellThing 129 = .ok (.iconst 3, 1) := by decide +kernel
theorem dX3_tellThing_130 : decode cX3_tellThing 130 = .ok (.if_icmp .ne 7, 3) := by decide +kernel
theorem dX3_tellThing_133 : decode cX3_tellThing 133 = .ok (.iconst 1, 1) := by decide +kernel
theorem dX3_tellThing_134 : decode cX3_tellThing 134 = .ok (.goto 4, 3) := by decide +kernel
theorem dX3_tellThing_137 : decode cX3_tellThing 137 = .ok (.iconst 0, 1) := by decide +kernel
theorem dX3_tellThing_138 : decode cX3_tellThing 138 = .ok (.invokestatic 59, 3) := by decide +kernel
theorem dX3_tellThing_141 : decode cX3_tellThing 141 = .ok (.aload_n 0, 1) := by decide +kernel
theorem dX3_tellThing_142 : decode cX3_tellThing 142 = .ok (.getfield 40, 3) := by decide +kernel
theorem dX3_tellThing_145 : decode cX3_tellThing 145 = .ok (.ishl, 1) := by decide +kernel
theorem dX3_tellThing_146 : decode cX3_tellThing 146 = .ok (.ior, 1) := by decide +kernel
theorem dX3_tellThing_147 : decode cX3_tellThing 147 = .ok (.putfield 52, 3) := by decide +kernel
theorem dX3_tellThing_150 : decode cX3_tellThing 150 = .ok (.aload_n 0, 1) := by decide +kernel
theorem dX3_tellThing_151 : decode cX3_tellThing 151 = .ok (.dup, 1) := by decide +kernel
theorem dX3_tellThing_152 : decode cX3_tellThing 152 = .ok (.getfield 40, 3) := by decide +kernel
theorem dX3_tellThing_155 : decode cX3_tellThing 155 = .ok (.iconst 1, 1) := by decide +kernel
theorem dX3_tellThing_156 : decode cX3_tellThing 156 = .ok (.iadd, 1) := by decide +kernel
theorem dX3_tellThing_157 : decode cX3_tellThing 157 = .ok (.putfield 40, 3) := by decide +kernel
theorem dX3_tellThing_160 : decode cX3_tellThing 160 = .ok (.iconst 1, 1) := by decide +kernel
theorem dX3_tellThing_161 : decode cX3_tellThing 161 = .ok (.ireturn, 1) := by decide +kernel
theorem dX3_tellLife_0 : decode cX3_tellLife 0 = .ok (.aload_n 0, 1) := by decide +kernel
theorem dX3_tellLife_1 : decode cX3_tellLife 1 = .ok (.getfield 43, 3) := by decide +kernel
theorem dX3_tellLife_4 : decode cX3_tellLife 4 = .ok (.bipush 6, 2) := by decide +kernel
theorem dX3_tellLife_6 : decode cX3_tellLife 6 = .ok (.if_icmp .ge 21, 3) := by decide +kernel
theorem dX3_tellLife_9 : decode cX3_tellLife 9 = .ok (.iload_n 1, 1) := by decide +kernel
theorem dX3_tellLife_10 : decode cX3_tellLife 10 = .ok (.bipush 9, 2) := by decide +kernel
theorem dX3_tellLife_12 : decode cX3_tellLife 12 = .ok (.if_icmp .gt 15, 3) := by decide +kernel
theorem dX3_tellLife_15 : decode cX3_tellLife 15 = .ok (.iload_n 2, 1) := by decide +kernel
theorem dX3_tellLife_16 : decode cX3_tellLife 16 = .ok (.bipush 60, 2) := by decide +kernel
theorem dX3_tellLife_18 : decode cX3_tellLife 18 = .ok (.if_icmp .gt 9, 3) := by decide +kernel
theorem dX3_tellLife_21 : decode cX3_tellLife 21 = .ok (.iload_n 3, 1) := by decide +kernel
theorem dX3_tellLife_22 : decode cX3_tellLife 22 = .ok (.bipush 60, 2) := by decide +kernel
theorem dX3_tellLife_24 : decode cX3_tellLife 24 = .ok (.if_icmp .le 5, 3) := by decide +kernel
theorem dX3_tellLife_27 : decode cX3_tellLife 27 = .ok (.iconst 0, 1) := by decide +kernel
theorem dX3_tellLife_28 : decode cX3_tellLife 28 = .ok (.ireturn, 1) := by decide +kernel
theorem dX3_tellLife_29 : decode cX3_tellLife 29 = .ok (.aload_n 0, 1) := by decide +kernel
theorem dX3_tellLife_30 : decode cX3_tellLife 30 = .ok (.getfield 21, 3) := by decide +kernel
theorem dX3_tellLife_33 : decode cX3_tellLife 33 = .ok (.aload_n 0, 1) := by decide +kernel
theorem dX3_tellLife_34 : decode cX3_tellLife 34 = .ok (.getfield 43, 3) := by decide +kernel
theorem dX3_tellLife_37 : decode cX3_tellLife 37 = .ok (.iload_n 1, 1) := by decide +kernel
theorem dX3_tellLife_38 : decode cX3_tellLife 38 = .ok (.invokestatic 55, 3) := by decide +kernel
theorem dX3_tellLife_41 : decode cX3_tellLife 41 = .ok (.aload_n 0, 1) := by decide +kernel
theorem dX3_tellLife_42 : decode cX3_tellLife 42 = .ok (.getfield 24, 3) := by decide +kernel
theorem dX3_tellLife_45 : decode cX3_tellLife 45 = .ok (.aload_n 0, 1) := by decide +kernel
theorem dX3_tellLife_46 : decode cX3_tellLife 46 = .ok (.getfield 43, 3) := by decide +kernel
theorem dX3_tellLife_49 : decode cX3_tellLife 49 = .ok (.iload_n 2, 1) := by decide +kernel
theorem dX3_tellLife_50 : decode cX3_tellLife 50 = .ok (.invokestatic 55, 3) := by decide +kernel
theorem dX3_tellLife_53 : decode cX3_tellLife 53 = .ok (.aload_n 0, 1) := by decide +kernel
theorem dX3_tellLife_54 : decode cX3_tellLife 54 = .ok (.getfield 27, 3) := by decide +kernel
theorem dX3_tellLife_57 : decode cX3_tellLife 57 = .ok (.aload_n 0, 1) := by decide +kernel
theorem dX3_tellLife_58 : decode cX3_tellLife 58 = .ok (.getfield 43, 3) := by decide +kernel
theorem dX3_tellLife_61 : decode cX3_tellLife 61 = .ok (.iload_n 3, 1) := by decide +kernel
theorem dX3_tellLife_62 : decode cX3_tellLife 62 = .ok (.invokestatic 55, 3) := by decide +kernel
theorem dX3_tellLife_65 : decode cX3_tellLife 65 = .ok (.aload_n 0, 1) := by decide +kernel
theorem dX3_tellLife_66 : decode cX3_tellLife 66 = .ok (.getfield 30, 3) := by decide +kernel
theorem dX3_tellLife_69 : decode cX3_tellLife 69 = .ok (.aload_n 0, 1) := by decide +kernel
theorem dX3_tellLife_70 : decode cX3_tellLife 70 = .ok (.getfield 43, 3) := by decide +kernel
theorem dX3_tellLife_73 : decode cX3_tellLife 73 = .ok (.iconst 0, 1) := by decide +kernel
theorem dX3_tellLife_74 : decode cX3_tellLife 74 = .ok (.invokestatic 55, 3) := by decide +kernel
theorem dX3_tellLife_77 : decode cX3_tellLife 77 = .ok (.aload_n 0, 1) := by decide +kernel
theorem dX3_tellLife_78 : decode cX3_tellLife 78 = .ok (.dup, 1) := by decide +kernel
theorem dX3_tellLife_79 : decode cX3_tellLife 79 = .ok (.getfield 43, 3) := by decide +kernel
theorem dX3_tellLife_82 : decode cX3_tellLife 82 = .ok (.iconst 1, 1) := by decide +kernel
theorem dX3_tellLife_83 : decode cX3_tellLife 83 = .ok (.iadd, 1) := by decide +kernel
theorem dX3_tellLife_84 : decode cX3_tellLife 84 = .ok (.putfield 43, 3) := by decide +kernel
theorem dX3_tellLife_87 : decode cX3_tellLife 87 = .ok (.iconst 1, 1) := by decide +kernel
theorem dX3_tellLife_88 : decode cX3_tellLife 88 = .ok (.ireturn, 1) := by decide +kernel
theorem dX3_tellNeed_0 : decode cX3_tellNeed 0 = .ok (.aload_n 0, 1) := by decide +kernel
theorem dX3_tellNeed_1 : decode cX3_tellNeed 1 = .ok (.iload_n 1, 1) := by decide +kernel
theorem dX3_tellNeed_2 : decode cX3_tellNeed 2 = .ok (.invokevirtual 63, 3) := by decide +kernel
theorem dX3_tellNeed_5 : decode cX3_tellNeed 5 = .ok (.ifCond .eq 11, 3) := by decide +kernel
theorem dX3_tellNeed_8 : decode cX3_tellNeed 8 = .ok (.aload_n 0, 1) := by decide +kernel
theorem dX3_tellNeed_9 : decode cX3_tellNeed 9 = .ok (.iload_n 2, 1) := by decide +kernel
theorem dX3_tellNeed_10 : decode cX3_tellNeed 10 = .ok (.invokevirtual 67, 3) := by decide +kernel
theorem dX3_tellNeed_13 : decode cX3_tellNeed 13 = .ok (.ifCond .ne 5, 3) := by decide +kernel
theorem dX3_tellNeed_16 : decode cX3_tellNeed 16 = .ok (.iconst 0, 1) := by decide +kernel
theorem dX3_tellNeed_17 : decode cX3_tellNeed 17 = .ok (.ireturn, 1) := by decide +kernel
theorem dX3_tellNeed_18 : decode cX3_tellNeed 18 = .ok (.aload_n 0, 1) := by decide +kernel
theorem dX3_tellNeed_19 : decode cX3_tellNeed 19 = .ok (.getfield 30, 3) := by decide +kernel
theorem dX3_tellNeed_22 : decode cX3_tellNeed 22 = .ok (.iload_n 1, 1) := by decide +kernel
theorem dX3_tellNeed_23 : decode cX3_tellNeed 23 = .ok (.aload_n 0, 1) := by decide +kernel
theorem dX3_tellNeed_24 : decode cX3_tellNeed 24 = .ok (.getfield 30, 3) := by decide +kernel
theorem dX3_tellNeed_27 : decode cX3_tellNeed 27 = .ok (.iload_n 1, 1) := by decide +kernel
theorem dX3_tellNeed_28 : decode cX3_tellNeed 28 = .ok (.invokestatic 70, 3) := by decide +kernel
theorem dX3_tellNeed_31 : decode cX3_tellNeed 31 = .ok (.iconst 1, 1) := by decide +kernel
theorem dX3_tellNeed_32 : decode cX3_tellNeed 32 = .ok (.iload_n 2, 1) := by decide +kernel
theorem dX3_tellNeed_33 : decode cX3_tellNeed 33 = .ok (.ishl, 1) := by decide +kernel
theorem dX3_tellNeed_34 : decode cX3_tellNeed 34 = .ok (.ixor, 1) := by decide +kernel
theorem dX3_tellNeed_35 : decode cX3_tellNeed 35 = .ok (.invokestatic 55, 3) := by decide +kernel
theorem dX3_tellNeed_38 : decode cX3_tellNeed 38 = .ok (.iconst 1, 1) := by decide +kernel
theorem dX3_tellNeed_39 : decode cX3_tellNeed 39 = .ok (.ireturn, 1) := by decide +kernel
theorem dX3_isThing_0 : decode cX3_isThing 0 = .ok (.iload_n 1, 1) := by decide +kernel
theorem dX3_isThing_1 : decode cX3_isThing 1 = .ok (.ifCond .lt 15, 3) := by decide +kernel
theorem dX3_isThing_4 : decode cX3_isThing 4 = .ok (.iload_n 1, 1) := by decide +kernel
theorem dX3_isThing_5 : decode cX3_isThing 5 = .ok (.aload_n 0, 1) := by decide +kernel
theorem dX3_isThing_6 : decode cX3_isThing 6 = .ok (.getfield 40, 3) := by decide +kernel
theorem dX3_isThing_9 : decode cX3_isThing 9 = .ok (.if_icmp .ge 7, 3) := by decide +kernel
theorem dX3_isThing_12 : decode cX3_isThing 12 = .ok (.iconst 1, 1) := by decide +kernel
theorem dX3_isThing_13 : decode cX3_isThing 13 = .ok (.goto 4, 3) := by decide +kernel
theorem dX3_isThing_16 : decode cX3_isThing 16 = .ok (.iconst 0, 1) := by decide +kernel
theorem dX3_isThing_17 : decode cX3_isThing 17 = .ok (.ireturn, 1) := by decide +kernel
theorem dX3_isLife_0 : decode cX3_isLife 0 = .ok (.iload_n 1, 1) := by decide +kernel
theorem dX3_isLife_1 : decode cX3_isLife 1 = .ok (.ifCond .lt 15, 3) := by decide +kernel
theorem dX3_isLife_4 : decode cX3_isLife 4 = .ok (.iload_n 1, 1) := by decide +kernel
theorem dX3_isLife_5 : decode cX3_isLife 5 = .ok (.aload_n 0, 1) := by decide +kernel
theorem dX3_isLife_6 : decode cX3_isLife 6 = .ok (.getfield 43, 3) := by decide +kernel
theorem dX3_isLife_9 : decode cX3_isLife 9 = .ok (.if_icmp .ge 7, 3) := by decide +kernel
theorem dX3_isLife_12 : decode cX3_isLife 12 = .ok (.iconst 1, 1) := by decide +kernel
theorem dX3_isLife_13 : decode cX3_isLife 13 = .ok (.goto 4, 3) := by decide +kernel
theorem dX3_isLife_16 : decode cX3_isLife 16 = .ok (.iconst 0, 1) := by decide +kernel
theorem dX3_isLife_17 : decode cX3_isLife 17 = .ok (.ireturn, 1) := by decide +kernel
theorem dX3_isSetOfThings_0 : decode cX3_isSetOfThings 0 = .ok (.iload_n 1, 1) := by decide +kernel
theorem dX3_isSetOfThings_1 : decode cX3_isSetOfThings 1 = .ok (.ifCond .lt 17, 3) := by decide +kernel
theorem dX3_isSetOfThings_4 : decode cX3_isSetOfThings 4 = .ok (.iload_n 1, 1) := by decide +kernel
theorem dX3_isSetOfThings_5 : decode cX3_isSetOfThings 5 = .ok (.iconst 1, 1) := by decide +kernel
theorem dX3_isSetOfThings_6 : decode cX3_isSetOfThings 6 = .ok (.aload_n 0, 1) := by decide +kernel
theorem dX3_isSetOfThings_7 : decode cX3_isSetOfThings 7 = .ok (.getfield 40, 3) := by decide +kernel
theorem dX3_isSetOfThings_10 : decode cX3_isSetOfThings 10 = .ok (.ishl, 1) := by decide +kernel
theorem dX3_isSetOfThings_11 : decode cX3_isSetOfThings 11 = .ok (.if_icmp .ge 7, 3) := by decide +kernel
theorem dX3_isSetOfThings_14 : decode cX3_isSetOfThings 14 = .ok (.iconst 1, 1) := by decide +kernel
theorem dX3_isSetOfThings_15 : decode cX3_isSetOfThings 15 = .ok (.goto 4, 3) := by decide +kernel
theorem dX3_isSetOfThings_18 : decode cX3_isSetOfThings 18 = .ok (.iconst 0, 1) := by decide +kernel
theorem dX3_isSetOfThings_19 : decode cX3_isSetOfThings 19 = .ok (.ireturn, 1) := by decide +kernel
theorem dX3_isSetOfLives_0 : decode cX3_isSetOfLives 0 = .ok (.iload_n 1, 1) := by decide +kernel
theorem dX3_isSetOfLives_1 : decode cX3_isSetOfLives 1 = .ok (.ifCond .lt 17, 3) := by decide +kernel
theorem dX3_isSetOfLives_4 : decode cX3_isSetOfLives 4 = .ok (.iload_n 1, 1) := by decide +kernel
theorem dX3_isSetOfLives_5 : decode cX3_isSetOfLives 5 = .ok (.iconst 1, 1) := by decide +kernel
theorem dX3_isSetOfLives_6 : decode cX3_isSetOfLives 6 = .ok (.aload_n 0, 1) := by decide +kernel
theorem dX3_isSetOfLives_7 : decode cX3_isSetOfLives 7 = .ok (.getfield 43, 3) := by decide +kernel
theorem dX3_isSetOfLives_10 : decode cX3_isSetOfLives 10 = .ok (.ishl, 1) := by decide +kernel
theorem dX3_isSetOfLives_11 : decode cX3_isSetOfLives 11 = .ok (.if_icmp .ge 7, 3) := by decide +kernel
theorem dX3_isSetOfLives_14 : decode cX3_isSetOfLives 14 = .ok (.iconst 1, 1) := by decide +kernel
theorem dX3_isSetOfLives_15 : decode cX3_isSetOfLives 15 = .ok (.goto 4, 3) := by decide +kernel
theorem dX3_isSetOfLives_18 : decode cX3_isSetOfLives 18 = .ok (.iconst 0, 1) := by decide +kernel
theorem dX3_isSetOfLives_19 : decode cX3_isSetOfLives 19 = .ok (.ireturn, 1) := by decide +kernel
theorem dX3_allThings_0 : decode cX3_allThings 0 = .ok (.iconst 1, 1) := by decide +kernel
theorem dX3_allThings_1 : decode cX3_allThings 1 = .ok (.aload_n 0, 1) := by decide +kernel
theorem dX3_allThings_2 : decode cX3_allThings 2 = .ok (.getfield 40, 3) := by decide +kernel
theorem dX3_allThings_5 : decode cX3_allThings 5 = .ok (.ishl, 1) := by decide +kernel
theorem dX3_allThings_6 : decode cX3_allThings 6 = .ok (.iconst 1, 1) := by decide +kernel
theorem dX3_allThings_7 : decode cX3_allThings 7 = .ok (.isub, 1) := by decide +kernel
theorem dX3_allThings_8 : decode cX3_allThings 8 = .ok (.ireturn, 1) := by decide +kernel
theorem dX3_allLives_0 : decode cX3_allLives 0 = .ok (.iconst 1, 1) := by decide +kernel
theorem dX3_allLives_1 : decode cX3_allLives 1 = .ok (.aload_n 0, 1) := by decide +kernel
theorem dX3_allLives_2 : decode cX3_allLives 2 = .ok (.getfield 43, 3) := by decide +kernel
theorem dX3_allLives_5 : decode cX3_allLives 5 = .ok (.ishl, 1) := by decide +kernel
theorem dX3_allLives_6 : decode cX3_allLives 6 = .ok (.iconst 1, 1) := by decide +kernel
theorem dX3_allLives_7 : decode cX3_allLives 7 = .ok (.isub, 1) := by decide +kernel
theorem dX3_allLives_8 : decode cX3_allLives 8 = .ok (.ireturn, 1) := by decide +kernel
theorem dX3_livesThatNeed_0 : decode cX3_livesThatNeed 0 = .ok (.iconst 0, 1) := by decide +kernel
theorem dX3_livesThatNeed_1 : decode cX3_livesThatNeed 1 = .ok (.istore_n 2, 1) := by decide +kernel
theorem dX3_livesThatNeed_2 : decode cX3_livesThatNeed 2 = .ok (.iconst 0, 1) := by decide +kernel
theorem dX3_livesThatNeed_3 : decode cX3_livesThatNeed 3 = .ok (.istore_n 3, 1) := by decide +kernel
theorem dX3_livesThatNeed_4 : decode cX3_livesThatNeed 4 = .ok (.iload_n 3, 1) := by decide +kernel
theorem dX3_livesThatNeed_5 : decode cX3_livesThatNeed 5 = .ok (.aload_n 0, 1) := by decide +kernel
theorem dX3_livesThatNeed_6 : decode cX3_livesThatNeed 6 = .ok (.getfield 43, 3) := by decide +kernel
theorem dX3_livesThatNeed_9 : decode cX3_livesThatNeed 9 = .ok (.if_icmp .ge 29, 3) := by decide +kernel
theorem dX3_livesThatNeed_12 : decode cX3_livesThatNeed 12 = .ok (.iload_n 2, 1) := by decide +kernel
theorem dX3_livesThatNeed_13 : decode cX3_livesThatNeed 13 = .ok (.aload_n 0, 1) := by decide +kernel
theorem dX3_livesThatNeed_14 : decode cX3_livesThatNeed 14 = .ok (.getfield 30, 3) := by decide +kernel
theorem dX3_livesThatNeed_17 : decode cX3_livesThatNeed 17 = .ok (.iload_n 3, 1) := by decide +kernel
theorem dX3_livesThatNeed_18 : decode cX3_livesThatNeed 18 = .ok (.invokestatic 70, 3) := by decide +kernel
theorem dX3_livesThatNeed_21 : decode cX3_livesThatNeed 21 = .ok (.iload_n 1, 1) := by decide +kernel
theorem dX3_livesThatNeed_22 : decode cX3_livesThatNeed 22 = .ok (.invokestatic 74, 3) := by decide +kernel
theorem dX3_livesThatNeed_25 : decode cX3_livesThatNeed 25 = .ok (.invokestatic 59, 3) := by decide +kernel
theorem dX3_livesThatNeed_28 : decode cX3_livesThatNeed 28 = .ok (.iload_n 3, 1) := by decide +kernel
theorem dX3_livesThatNeed_29 : decode cX3_livesThatNeed 29 = .ok (.ishl, 1) := by decide +kernel
theorem dX3_livesThatNeed_30 : decode cX3_livesThatNeed 30 = .ok (.ior, 1) := by decide +kernel
theorem dX3_livesThatNeed_31 : decode cX3_livesThatNeed 31 = .ok (.istore_n 2, 1) := by decide +kernel
theorem dX3_livesThatNeed_32 : decode cX3_livesThatNeed 32 = .ok (.iinc 3 1, 3) := by decide +kernel
theorem dX3_livesThatNeed_35 : decode cX3_livesThatNeed 35 = .ok (.goto (-31), 3) := by decide +kernel
theorem dX3_livesThatNeed_38 : decode cX3_livesThatNeed 38 = .ok (.iload_n 2, 1) := by decide +kernel
theorem dX3_livesThatNeed_39 : decode cX3_livesThatNeed 39 = .ok (.ireturn, 1) := by decide +kernel
theorem dX3_roomTaken_0 : decode cX3_roomTaken 0 = .ok (.iload_n 1, 1) := by decide +kernel
theorem dX3_roomTaken_1 : decode cX3_roomTaken 1 = .ok (.aload_n 0, 1) := by decide +kernel
theorem dX3_roomTaken_2 : decode cX3_roomTaken 2 = .ok (.getfield 52, 3) := by decide +kernel
theorem dX3_roomTaken_5 : decode cX3_roomTaken 5 = .ok (.iand, 1) := by decide +kernel
theorem dX3_roomTaken_6 : decode cX3_roomTaken 6 = .ok (.invokestatic 78, 3) := by decide +kernel
theorem dX3_roomTaken_9 : decode cX3_roomTaken 9 = .ok (.iconst 2, 1) := by decide +kernel
theorem dX3_roomTaken_10 : decode cX3_roomTaken 10 = .ok (.if_icmp .lt 7, 3) := by decide +kernel
theorem dX3_roomTaken_13 : decode cX3_roomTaken 13 = .ok (.iconst 1, 1) := by decide +kernel
theorem dX3_roomTaken_14 : decode cX3_roomTaken 14 = .ok (.goto 4, 3) := by decide +kernel
theorem dX3_roomTaken_17 : decode cX3_roomTaken 17 = .ok (.iconst 0, 1) := by decide +kernel
theorem dX3_roomTaken_18 : decode cX3_roomTaken 18 = .ok (.istore_n 2, 1) := by decide +kernel
theorem dX3_roomTaken_19 : decode cX3_roomTaken 19 = .ok (.iconst 0, 1) := by decide +kernel
theorem dX3_roomTaken_20 : decode cX3_roomTaken 20 = .ok (.istore_n 3, 1) := by decide +kernel
theorem dX3_roomTaken_21 : decode cX3_roomTaken 21 = .ok (.iconst 0, 1) := by decide +kernel
theorem dX3_roomTaken_22 : decode cX3_roomTaken 22 = .ok (.istore 4, 2) := by decide +kernel
theorem dX3_roomTaken_24 : decode cX3_roomTaken 24 = .ok (.iload 4, 2) := by decide +kernel
theorem dX3_roomTaken_26 : decode cX3_roomTaken 26 = .ok (.aload_n 0, 1) := by decide +kernel
theorem dX3_roomTaken_27 : decode cX3_roomTaken 27 = .ok (.getfield 40, 3) := by decide +kernel
theorem dX3_roomTaken_30 : decode cX3_roomTaken 30 = .ok (.if_icmp .ge 57, 3) := by decide +kernel
theorem dX3_roomTaken_33 : decode cX3_roomTaken 33 = .ok (.iload_n 1, 1) := by decide +kernel
theorem dX3_roomTaken_34 : decode cX3_roomTaken 34 = .ok (.iload 4, 2) := by decide +kernel
theorem dX3_roomTaken_36 : decode cX3_roomTaken 36 = .ok (.invokestatic 74, 3) := by decide +kernel
theorem dX3_roomTaken_39 : decode cX3_roomTaken 39 = .ok (.ifCond .eq 42, 3) := by decide +kernel
theorem dX3_roomTaken_42 : decode cX3_roomTaken 42 = .ok (.aload_n 0, 1) := by decide +kernel
theorem dX3_roomTaken_43 : decode cX3_roomTaken 43 = .ok (.getfield 15, 3) := by decide +kernel
theorem dX3_roomTaken_46 : decode cX3_roomTaken 46 = .ok (.iload 4, 2) := by decide +kernel
theorem dX3_roomTaken_48 : decode cX3_roomTaken 48 = .ok (.invokestatic 70, 3) := by decide +kernel
theorem dX3_roomTaken_51 : decode cX3_roomTaken 51 = .ok (.istore 5, 2) := by decide +kernel
theorem dX3_roomTaken_53 : decode cX3_roomTaken 53 = .ok (.iload_n 3, 1) := by decide +kernel
theorem dX3_roomTaken_54 : decode cX3_roomTaken 54 = .ok (.iload_n 2, 1) := by decide +kernel
theorem dX3_roomTaken_55 : decode cX3_roomTaken 55 = .ok (.ifCond .eq 22, 3) := by decide +kernel
theorem dX3_roomTaken_58 : decode cX3_roomTaken 58 = .ok (.aload_n 0, 1) := by decide +kernel
theorem dX3_roomTaken_59 : decode cX3_roomTaken 59 = .ok (.getfield 52, 3) := by decide +kernel
theorem dX3_roomTaken_62 : decode cX3_roomTaken 62 = .ok (.iload 4, 2) := by decide +kernel
theorem dX3_roomTaken_64 : decode cX3_roomTaken 64 = .ok (.invokestatic 74, 3) := by decide +kernel
theorem dX3_roomTaken_67 : decode cX3_roomTaken 67 = .ok (.ifCond .eq 10, 3) := by decide +kernel
theorem dX3_roomTaken_70 : decode cX3_roomTaken 70 = .ok (.iload 5, 2) := by decide +kernel
theorem dX3_roomTaken_72 : decode cX3_roomTaken 72 = .ok (.iconst 2, 1) := by decide +kernel
theorem dX3_roomTaken_73 : decode cX3_roomTaken 73 = .ok (.idiv, 1) := by decide +kernel
theorem dX3_roomTaken_74 : decode cX3_roomTaken 74 = .ok (.goto 5, 3) := by decide +kernel
theorem dX3_roomTaken_77 : decode cX3_roomTaken 77 = .ok (.iload 5, 2) := by decide +kernel
theorem dX3_roomTaken_79 : decode cX3_roomTaken 79 = .ok (.iadd, 1) := by decide +kernel
theorem dX3_roomTaken_80 : decode cX3_roomTaken 80 = .ok (.istore_n 3, 1) := by decide +kernel
theorem dX3_roomTaken_81 : decode cX3_roomTaken 81 = .ok (.iinc 4 1, 3) := by decide +kernel
theorem dX3_roomTaken_84 : decode cX3_roomTaken 84 = .ok (.goto (-60), 3) := by decide +kernel
theorem dX3_roomTaken_87 : decode cX3_roomTaken 87 = .ok (.iload_n 3, 1) := by decide +kernel
theorem dX3_roomTaken_88 : decode cX3_roomTaken 88 = .ok (.ireturn, 1) := by decide +kernel
theorem dX3_price_0 : decode cX3_price 0 = .ok (.iconst 0, 1) := by decide +kernel
theorem dX3_price_1 : decode cX3_price 1 = .ok (.istore_n 2, 1) := by decide +kernel
theorem dX3_price_2 : decode cX3_price 2 = .ok (.iconst 0, 1) := by decide +kernel
theorem dX3_price_3 : decode cX3_price 3 = .ok (.istore_n 3, 1) := by decide +kernel
theorem dX3_price_4 : decode cX3_price 4 = .ok (.iload_n 3, 1) := by decide +kernel
theorem dX3_price_5 : decode cX3_price 5 = .ok (.aload_n 0, 1) := by decide +kernel
theorem dX3_price_6 : decode cX3_price 6 = .ok (.getfield 40, 3) := by decide +kernel
theorem dX3_price_9 : decode cX3_price 9 = .ok (.if_icmp .ge 28, 3) := by decide +kernel
theorem dX3_price_12 : decode cX3_price 12 = .ok (.iload_n 1, 1) := by decide +kernel
theorem dX3_price_13 : decode cX3_price 13 = .ok (.iload_n 3, 1) := by decide +kernel
theorem dX3_price_14 : decode cX3_price 14 = .ok (.invokestatic 74, 3) := by decide +kernel
theorem dX3_price_17 : decode cX3_price 17 = .ok (.ifCond .eq 14, 3) := by decide +kernel
theorem dX3_price_20 : decode cX3_price 20 = .ok (.iload_n 2, 1) := by decide +kernel
theorem dX3_price_21 : decode cX3_price 21 = .ok (.aload_n 0, 1) := by decide +kernel
theorem dX3_price_22 : decode cX3_price 22 = .ok (.getfield 18, 3) := by decide +kernel
theorem dX3_price_25 : decode cX3_price 25 = .ok (.iload_n 3, 1) := by decide +kernel
theorem dX3_price_26 : decode cX3_price 26 = .ok (.invokestatic 70, 3) := by decide +kernel
theorem dX3_price_29 : decode cX3_price 29 = .ok (.iadd, 1) := by decide +kernel
theorem dX3_price_30 : decode cX3_price 30 = .ok (.istore_n 2, 1) := by decide +kernel
theorem dX3_price_31 : decode cX3_price 31 = .ok (.iinc 3 1, 3) := by decide +kernel
theorem dX3_price_34 : decode cX3_price 34 = .ok (.goto (-30), 3) := by decide +kernel
theorem dX3_price_37 : decode cX3_price 37 = .ok (.iload_n 2, 1) := by decide +kernel
theorem dX3_price_38 : decode cX3_price 38 = .ok (.ireturn, 1) := by decide +kernel
theorem dX3_canBe_0 : decode cX3_canBe 0 = .ok (.aload_n 0, 1) := by decide +kernel
theorem dX3_canBe_1 : decode cX3_canBe 1 = .ok (.getfield 30, 3) := by decide +kernel
theorem dX3_canBe_4 : decode cX3_canBe 4 = .ok (.iload_n 1, 1) := by decide +kernel
theorem dX3_canBe_5 : decode cX3_canBe 5 = .ok (.invokestatic 70, 3) := by decide +kernel
theorem dX3_canBe_8 : decode cX3_canBe 8 = .ok (.istore_n 3, 1) := by decide +kernel
theorem dX3_canBe_9 : decode cX3_canBe 9 = .ok (.iload_n 3, 1) := by decide +kernel
theorem dX3_canBe_10 : decode cX3_canBe 10 = .ok (.iload_n 2, 1) := by decide +kernel
theorem dX3_canBe_11 : decode cX3_canBe 11 = .ok (.iconst (-1), 1) := by decide +kernel
theorem dX3_canBe_12 : decode cX3_canBe 12 = .ok (.ixor, 1) := by decide +kernel
theorem dX3_canBe_13 : decode cX3_canBe 13 = .ok (.iand, 1) := by decide +kernel
theorem dX3_canBe_14 : decode cX3_canBe 14 = .ok (.invokestatic 78, 3) := by decide +kernel
theorem dX3_canBe_17 : decode cX3_canBe 17 = .ok (.istore 4, 2) := by decide +kernel
theorem dX3_canBe_19 : decode cX3_canBe 19 = .ok (.iload 4, 2) := by decide +kernel
theorem dX3_canBe_21 : decode cX3_canBe 21 = .ok (.ifCond .eq 22, 3) := by decide +kernel
theorem dX3_canBe_24 : decode cX3_canBe 24 = .ok (.iload 4, 2) := by decide +kernel
theorem dX3_canBe_26 : decode cX3_canBe 26 = .ok (.iconst 1, 1) := by decide +kernel
theorem dX3_canBe_27 : decode cX3_canBe 27 = .ok (.if_icmp .ne 20, 3) := by decide +kernel
theorem dX3_canBe_30 : decode cX3_canBe 30 = .ok (.iload_n 2, 1) := by decide +kernel
theorem dX3_canBe_31 : decode cX3_canBe 31 = .ok (.aload_n 0, 1) := by decide +kernel
theorem dX3_canBe_32 : decode cX3_canBe 32 = .ok (.getfield 46, 3) := by decide +kernel
theorem dX3_canBe_35 : decode cX3_canBe 35 = .ok (.iand, 1) := by decide +kernel
theorem dX3_canBe_36 : decode cX3_canBe 36 = .ok (.iload_n 3, 1) := by decide +kernel
theorem dX3_canBe_37 : decode cX3_canBe 37 = .ok (.iconst (-1), 1) := by decide +kernel
theorem dX3_canBe_38 : decode cX3_canBe 38 = .ok (.ixor, 1) := by decide +kernel
theorem dX3_canBe_39 : decode cX3_canBe 39 = .ok (.iand, 1) := by decide +kernel
theorem dX3_canBe_40 : decode cX3_canBe 40 = .ok (.ifCond .eq 7, 3) := by decide +kernel
theorem dX3_canBe_43 : decode cX3_canBe 43 = .ok (.iconst 1, 1) := by decide +kernel
theorem dX3_canBe_44 : decode cX3_canBe 44 = .ok (.goto 4, 3) := by decide +kernel
theorem dX3_canBe_47 : decode cX3_canBe 47 = .ok (.iconst 0, 1) := by decide +kernel
theorem dX3_canBe_48 : decode cX3_canBe 48 = .ok (.ireturn, 1) := by decide +kernel
theorem dX3_livesBy_0 : decode cX3_livesBy 0 = .ok (.iconst 0, 1) := by decide +kernel
theorem dX3_livesBy_1 : decode cX3_livesBy 1 = .ok (.istore_n 2, 1) := by decide +kernel
theorem dX3_livesBy_2 : decode cX3_livesBy 2 = .ok (.iconst 0, 1) := by decide +kernel
theorem dX3_livesBy_3 : decode cX3_livesBy 3 = .ok (.istore_n 3, 1) := by decide +kernel
theorem dX3_livesBy_4 : decode cX3_livesBy 4 = .ok (.iload_n 3, 1) := by decide +kernel
theorem dX3_livesBy_5 : decode cX3_livesBy 5 = .ok (.aload_n 0, 1) := by decide +kernel
theorem dX3_livesBy_6 : decode cX3_livesBy 6 = .ok (.getfield 43, 3) := by decide +kernel
theorem dX3_livesBy_9 : decode cX3_livesBy 9 = .ok (.if_icmp .ge 23, 3) := by decide +kernel
theorem dX3_livesBy_12 : decode cX3_livesBy 12 = .ok (.iload_n 2, 1) := by decide +kernel
theorem dX3_livesBy_13 : decode cX3_livesBy 13 = .ok (.aload_n 0, 1) := by decide +kernel
theorem dX3_livesBy_14 : decode cX3_livesBy 14 = .ok (.iload_n 3, 1) := by decide +kernel
theorem dX3_livesBy_15 : decode cX3_livesBy 15 = .ok (.iload_n 1, 1) := by decide +kernel
theorem dX3_livesBy_16 : decode cX3_livesBy 16 = .ok (.invokevirtual 84, 3) := by decide +kernel
theorem dX3_livesBy_19 : decode cX3_livesBy 19 = .ok (.invokestatic 59, 3) := by decide +kernel
theorem dX3_livesBy_22 : decode cX3_livesBy 22 = .ok (.iload_n 3, 1) := by decide +kernel
theorem dX3_livesBy_23 : decode cX3_livesBy 23 = .ok (.ishl, 1) := by decide +kernel
theorem dX3_livesBy_24 : decode cX3_livesBy 24 = .ok (.ior, 1) := by decide +kernel
theorem dX3_livesBy_25 : decode cX3_livesBy 25 = .ok (.istore_n 2, 1) := by decide +kernel
theorem dX3_livesBy_26 : decode cX3_livesBy 26 = .ok (.iinc 3 1, 3) := by decide +kernel
theorem dX3_livesBy_29 : decode cX3_livesBy 29 = .ok (.goto (-25), 3) := by decide +kernel
theorem dX3_livesBy_32 : decode cX3_livesBy 32 = .ok (.iload_n 2, 1) := by decide +kernel
theorem dX3_livesBy_33 : decode cX3_livesBy 33 = .ok (.ireturn, 1) := by decide +kernel
theorem dX3_gain_0 : decode cX3_gain 0 = .ok (.iconst 0, 1) := by decide +kernel
theorem dX3_gain_1 : decode cX3_gain 1 = .ok (.istore_n 2, 1) := by decide +kernel
theorem dX3_gain_2 : decode cX3_gain 2 = .ok (.iconst 0, 1) := by decide +kernel
theorem dX3_gain_3 : decode cX3_gain 3 = .ok (.istore_n 3, 1) := by decide +kernel
theorem dX3_gain_4 : decode cX3_gain 4 = .ok (.iload_n 3, 1) := by decide +kernel
theorem dX3_gain_5 : decode cX3_gain 5 = .ok (.aload_n 0, 1) := by decide +kernel
theorem dX3_gain_6 : decode cX3_gain 6 = .ok (.getfield 43, 3) := by decide +kernel
theorem dX3_gain_9 : decode cX3_gain 9 = .ok (.if_icmp .ge 38, 3) := by decide +kernel
theorem dX3_gain_12 : decode cX3_gain 12 = .ok (.aload_n 0, 1) := by decide +kernel
theorem dX3_gain_13 : decode cX3_gain 13 = .ok (.iload_n 3, 1) := by decide +kernel
theorem dX3_gain_14 : decode cX3_gain 14 = .ok (.iload_n 1, 1) := by decide +kernel
theorem dX3_gain_15 : decode cX3_gain 15 = .ok (.invokevirtual 84, 3) := by decide +kernel
theorem dX3_gain_18 : decode cX3_gain 18 = .ok (.ifCond .eq 23, 3) := by decide +kernel
theorem dX3_gain_21 : decode cX3_gain 21 = .ok (.iload_n 2, 1) := by decide +kernel
theorem dX3_gain_22 : decode cX3_gain 22 = .ok (.aload_n 0, 1) := by decide +kernel
theorem dX3_gain_23 : decode cX3_gain 23 = .ok (.getfield 21, 3) := by decide +kernel
theorem dX3_gain_26 : decode cX3_gain 26 = .ok (.iload_n 3, 1) := by decide +kernel
theorem dX3_gain_27 : decode cX3_gain 27 = .ok (.invokestatic 70, 3) := by decide +kernel
theorem dX3_gain_30 : decode cX3_gain 30 = .ok (.aload_n 0, 1) := by decide +kernel
theorem dX3_gain_31 : decode cX3_gain 31 = .ok (.getfield 24, 3) := by decide +kernel
theorem dX3_gain_34 : decode cX3_gain 34 = .ok (.iload_n 3, 1) := by decide +kernel
theorem dX3_gain_35 : decode cX3_gain 35 = .ok (.invokestatic 70, 3) := by decide +kernel
theorem dX3_gain_38 : decode cX3_gain 38 = .ok (.imul, 1) := by decide +kernel
theorem dX3_gain_39 : decode cX3_gain 39 = .ok (.iadd, 1) := by decide +kernel
theorem dX3_gain_40 : decode cX3_gain 40 = .ok (.istore_n 2, 1) := by decide +kernel
theorem dX3_gain_41 : decode cX3_gain 41 = .ok (.iinc 3 1, 3) := by decide +kernel
theorem dX3_gain_44 : decode cX3_gain 44 = .ok (.goto (-40), 3) := by decide +kernel
theorem dX3_gain_47 : decode cX3_gain 47 = .ok (.iload_n 2, 1) := by decide +kernel
theorem dX3_gain_48 : decode cX3_gain 48 = .ok (.ireturn, 1) := by decide +kernel
theorem dX3_chanceOfAll_0 : decode cX3_chanceOfAll 0 = .ok (.iconst 0, 1) := by decide +kernel
theorem dX3_chanceOfAll_1 : decode cX3_chanceOfAll 1 = .ok (.istore_n 1, 1) := by decide +kernel
theorem dX3_chanceOfAll_2 : decode cX3_chanceOfAll 2 = .ok (.iconst 0, 1) := by decide +kernel
theorem dX3_chanceOfAll_3 : decode cX3_chanceOfAll 3 = .ok (.istore_n 2, 1) := by decide +kernel
theorem dX3_chanceOfAll_4 : decode cX3_chanceOfAll 4 = .ok (.iload_n 2, 1) := by decide +kernel
theorem dX3_chanceOfAll_5 : decode cX3_chanceOfAll 5 = .ok (.aload_n 0, 1) := by decide +kernel
theorem dX3_chanceOfAll_6 : decode cX3_chanceOfAll 6 = .ok (.getfield 43, 3) := by decide +kernel
theorem dX3_chanceOfAll_9 : decode cX3_chanceOfAll 9 = .ok (.if_icmp .ge 20, 3) := by decide +kernel
theorem dX3_chanceOfAll_12 : decode cX3_chanceOfAll 12 = .ok (.iload_n 1, 1) := by decide +kernel
theorem dX3_chanceOfAll_13 : decode cX3_chanceOfAll 13 = .ok (.aload_n 0, 1) := by decide +kernel
theorem dX3_chanceOfAll_14 : decode cX3_chanceOfAll 14 = .ok (.getfield 21, 3) := by decide +kernel
theorem dX3_chanceOfAll_17 : decode cX3_chanceOfAll 17 = .ok (.iload_n 2, 1) := by decide +kernel
theorem dX3_chanceOfAll_18 : decode cX3_chanceOfAll 18 = .ok (.invokestatic 70, 3) := by decide +kernel
theorem dX3_chanceOfAll_21 : decode cX3_chanceOfAll 21 = .ok (.iadd, 1) := by decide +kernel
theorem dX3_chanceOfAll_22 : decode cX3_chanceOfAll 22 = .ok (.istore_n 1, 1) := by decide +kernel
theorem dX3_chanceOfAll_23 : decode cX3_chanceOfAll 23 = .ok (.iinc 2 1, 3) := by decide +kernel
theorem dX3_chanceOfAll_26 : decode cX3_chanceOfAll 26 = .ok (.goto (-22), 3) := by decide +kernel
theorem dX3_chanceOfAll_29 : decode cX3_chanceOfAll 29 = .ok (.iload_n 1, 1) := by decide +kernel
theorem dX3_chanceOfAll_30 : decode cX3_chanceOfAll 30 = .ok (.ireturn, 1) := by decide +kernel
theorem dX3_linenOf_0 : decode cX3_linenOf 0 = .ok (.iconst 0, 1) := by decide +kernel
theorem dX3_linenOf_1 : decode cX3_linenOf 1 = .ok (.istore_n 2, 1) := by decide +kernel
theorem dX3_linenOf_2 : decode cX3_linenOf 2 = .ok (.iconst 0, 1) := by decide +kernel
theorem dX3_linenOf_3 : decode cX3_linenOf 3 = .ok (.istore_n 3, 1) := by decide +kernel
theorem dX3_linenOf_4 : decode cX3_linenOf 4 = .ok (.iload_n 3, 1) := by decide +kernel
theorem dX3_linenOf_5 : decode cX3_linenOf 5 = .ok (.aload_n 0, 1) := by decide +kernel
theorem dX3_linenOf_6 : decode cX3_linenOf 6 = .ok (.getfield 43, 3) := by decide +kernel
theorem dX3_linenOf_9 : decode cX3_linenOf 9 = .ok (.if_icmp .ge 33, 3) := by decide +kernel
theorem dX3_linenOf_12 : decode cX3_linenOf 12 = .ok (.iload_n 1, 1) := by decide +kernel
theorem dX3_linenOf_13 : decode cX3_linenOf 13 = .ok (.iload_n 3, 1) := by decide +kernel
theorem dX3_linenOf_14 : decode cX3_linenOf 14 = .ok (.invokestatic 74, 3) := by decide +kernel
theorem dX3_linenOf_17 : decode cX3_linenOf 17 = .ok (.ifCond .eq 19, 3) := by decide +kernel
theorem dX3_linenOf_20 : decode cX3_linenOf 20 = .ok (.iload_n 2, 1) := by decide +kernel
theorem dX3_linenOf_21 : decode cX3_linenOf 21 = .ok (.aload_n 0, 1) := by decide +kernel
theorem dX3_linenOf_22 : decode cX3_linenOf 22 = .ok (.getfield 30, 3) := by decide +kernel
theorem dX3_linenOf_25 : decode cX3_linenOf 25 = .ok (.iload_n 3, 1) := by decide +kernel
theorem dX3_linenOf_26 : decode cX3_linenOf 26 = .ok (.invokestatic 70, 3) := by decide +kernel
theorem dX3_linenOf_29 : decode cX3_linenOf 29 = .ok (.aload_n 0, 1) := by decide +kernel
theorem dX3_linenOf_30 : decode cX3_linenOf 30 = .ok (.getfield 49, 3) := by decide +kernel
theorem dX3_linenOf_33 : decode cX3_linenOf 33 = .ok (.iand, 1) := by decide +kernel
theorem dX3_linenOf_34 : decode cX3_linenOf 34 = .ok (.ior, 1) := by decide +kernel
theorem dX3_linenOf_35 : decode cX3_linenOf 35 = .ok (.istore_n 2, 1) := by decide +kernel
theorem dX3_linenOf_36 : decode cX3_linenOf 36 = .ok (.iinc 3 1, 3) := by decide +kernel
theorem dX3_linenOf_39 : decode cX3_linenOf 39 = .ok (.goto (-35), 3) := by decide +kernel
theorem dX3_linenOf_42 : decode cX3_linenOf 42 = .ok (.iload_n 2, 1) := by decide +kernel
theorem dX3_linenOf_43 : decode cX3_linenOf 43 = .ok (.ireturn, 1) := by decide +kernel
theorem dX4_init_0 : decode cX4_init 0 = .ok (.aload_n 0, 1) := by decide +kernel
theorem dX4_init_1 : decode cX4_init 1 = .ok (.invokespecial 3, 3) := by decide +kernel
theorem dX4_init_4 : decode cX4_init 4 = .ok (.aload_n 0, 1) := by decide +kernel
theorem dX4_init_5 : decode cX4_init 5 = .ok (.iconst 3, 1) := by decide +kernel
theorem dX4_init_6 : decode cX4_init 6 = .ok (.newarray .int, 2) := by decide +kernel
theorem dX4_init_8 : decode cX4_init 8 = .ok (.putfield 9, 3) := by decide +kernel
theorem dX4_init_11 : decode cX4_init 11 = .ok (.return_, 1) := by decide +kernel
theorem dX4_firstFault_0 : decode cX4_firstFault 0 = .ok (.aload_n 3, 1) := by decide +kernel
theorem dX4_firstFault_1 : decode cX4_firstFault 1 = .ok (.invokevirtual 15, 3) := by decide +kernel
theorem dX4_firstFault_4 : decode cX4_firstFault 4 = .ok (.iconst 0, 1) := by decide +kernel
theorem dX4_firstFault_5 : decode cX4_firstFault 5 = .ok (.istore 4, 2) := by decide +kernel
theorem dX4_firstFault_7 : decode cX4_firstFault 7 = .ok (.iconst 0, 1) := by decide +kernel
theorem dX4_firstFault_8 : decode cX4_firstFault 8 = .ok (.istore 5, 2) := by decide +kernel
theorem dX4_firstFault_10 : decode cX4_firstFault 10 = .ok (.iload 5, 2) := by decide +kernel
theorem dX4_firstFault_12 : decode cX4_firstFault 12 = .ok (.sipush 200, 3) := by decide +kernel
theorem dX4_firstFault_15 : decode cX4_firstFault 15 = .ok (.if_icmp .ge 56, 3) := by decide +kernel
theorem dX4_firstFault_18 : decode cX4_firstFault 18 = .ok (.iload 4, 2) := by decide +kernel
theorem dX4_firstFault_20 : decode cX4_firstFault 20 = .ok (.iload_n 2, 1) := by decide +kernel
theorem dX4_firstFault_21 : decode cX4_firstFault 21 = .ok (.if_icmp .ge 50, 3) := by decide +kernel
theorem dX4_firstFault_24 : decode cX4_firstFault 24 = .ok (.aload_n 0, 1) := by decide +kernel
theorem dX4_firstFault_25 : decode cX4_firstFault 25 = .ok (.aload_n 1, 1) := by decide +kernel
theorem dX4_firstFault_26 : decode cX4_firstFault 26 = .ok (.iload_n 2, 1) := by decide +kernel
theorem dX4_firstFault_27 : decode cX4_firstFault 27 = .ok (.iload 4, 2) := by decide +kernel
theorem dX4_firstFault_29 : decode cX4_firstFault 29 = .ok (.iconst 1, 1) := by decide +kernel
theorem dX4_firstFault_30 : decode cX4_firstFault 30 = .ok (.iadd, 1) := by decide +kernel
theorem dX4_firstFault_31 : decode cX4_firstFault 31 = .ok (.invokevirtual 20, 3) := by decide +kernel
theorem dX4_firstFault_34 : decode cX4_firstFault 34 = .ok (.istore 6, 2) := by decide +kernel
theorem dX4_firstFault_36 : decode cX4_firstFault 36 = .ok (.iload 6, 2) := by decide +kernel
theorem dX4_firstFault_38 : decode cX4_firstFault 38 = .ok (.bipush (-4), 2) := by decide +kernel
theorem dX4_firstFault_40 : decode cX4_firstFault 40 = .ok (.if_icmp .eq 18, 3) := by decide +kernel
theorem dX4_firstFault_43 : decode cX4_firstFault 43 = .ok (.aload_n 0, 1) := by decide +kernel
theorem dX4_firstFault_44 : decode cX4_firstFault 44 = .ok (.aload_n 1, 1) := by decide +kernel
theorem dX4_firstFault_45 : decode cX4_firstFault 45 = .ok (.iload_n 2, 1) := by decide +kernel
theorem dX4_firstFault_46 : decode cX4_firstFault 46 = .ok (.iload 4, 2) := by decide +kernel
theorem dX4_firstFault_48 : decode cX4_firstFault 48 = .ok (.invokestatic 24, 3) := by decide +kernel
theorem dX4_firstFault_51 : decode cX4_firstFault 51 = .ok (.aload_n 3, 1) := by decide +kernel
theorem dX4_firstFault_52 : decode cX4_firstFault 52 = .ok (.invokevirtual 27, 3) := by decide +kernel
theorem dX4_firstFault_55 : decode cX4_firstFault 55 = .ok (.ifCond .ne 6, 3) := by decide +kernel
theorem dX4_firstFault_58 : decode cX4_firstFault 58 = .ok (.iload 4, 2) := by decide +kernel
theorem dX4_firstFault_60 : decode cX4_firstFault 60 = .ok (.ireturn, 1) := by decide +kernel
theorem dX4_firstFault_61 : decode cX4_firstFault 61 = .ok (.iload 6, 2) := by decide +kernel
theorem dX4_firstFault_63 : decode cX4_firstFault 63 = .ok (.istore 4, 2) := by decide +kernel
theorem dX4_firstFault_65 : decode cX4_firstFault 65 = .ok (.iinc 5 1, 3) := by decide +kernel
theorem dX4_firstFault_68 : decode cX4_firstFault 68 = .ok (.goto (-58), 3) := by decide +kernel
theorem dX4_firstFault_71 : decode cX4_firstFault 71 = .ok (.bipush (-4), 2) := by decide +kernel
theorem dX4_firstFault_73 : decode cX4_firstFault 73 = .ok (.ireturn, 1) := by decide +kernel
theorem dX4_readNumbers_0 : decode cX4_readNumbers 0 = .ok (.iload_n 3, 1) := by decide +kernel
theorem dX4_readNumbers_1 : decode cX4_readNumbers 1 = .ok (.istore 4, 2) := by decide +kernel
theorem dX4_readNumbers_3 : decode cX4_readNumbers 3 = .ok (.iconst 0, 1) := by decide +kernel
theorem dX4_readNumbers_4 : decode cX4_readNumbers 4 = .ok (.istore 5, 2) := by decide +kernel
theorem dX4_readNumbers_6 : decode cX4_readNumbers 6 = .ok (.iload 5, 2) := by decide +kernel
theorem dX4_readNumbers_8 : decode cX4_readNumbers 8 = .ok (.aload_n 0, 1) := by decide +kernel
theorem dX4_readNumbers_9 : decode cX4_readNumbers 9 = .ok (.getfield 9, 3) := by decide +kernel
theorem dX4_readNumbers_12 : decode cX4_readNumbers 12 = .ok (.arraylength, 1) := by decide +kernel
theorem dX4_readNumbers_13 : decode cX4_readNumbers 13 = .ok (.if_icmp .ge 111, 3) := by decide +kernel
theorem dX4_readNumbers_16 : decode cX4_readNumbers 16 = .ok (.aload_n 1, 1) := by decide +kernel
theorem dX4_readNumbers_17 : decode cX4_readNumbers 17 = .ok (.iload_n 2, 1) := by decide +kernel
theorem dX4_readNumbers_18 : decode cX4_readNumbers 18 = .ok (.iload 4, 2) := by decide +kernel
theorem dX4_readNumbers_20 : decode cX4_readNumbers 20 = .ok (.invokestatic 31, 3) := by decide +kernel
theorem dX4_readNumbers_23 : decode cX4_readNumbers 23 = .ok (.istore 6, 2) := by decide +kernel
theorem dX4_readNumbers_25 : decode cX4_readNumbers 25 = .ok (.iload 6, 2) := by decide +kernel
theorem dX4_readNumbers_27 : decode cX4_readNumbers 27 = .ok (.bipush (-4), 2) := by decide +kernel
theorem dX4_readNumbers_29 : decode cX4_readNumbers 29 = .ok (.if_icmp .ne 6, 3) := by decide +kernel
theorem dX4_readNumbers_32 : decode cX4_readNumbers 32 = .ok (.bipush (-4), 2) := by decide +kernel
theorem dX4_readNumbers_34 : decode cX4_readNumbers 34 = .ok (.ireturn, 1) := by decide +kernel
theorem dX4_readNumbers_35 : decode cX4_readNumbers 35 = .ok (.iinc 4 1, 3) := by decide +kernel
theorem dX4_readNumbers_38 : decode cX4_readNumbers 38 = .ok (.aload_n 1, 1) := by decide +kernel
theorem dX4_readNumbers_39 : decode cX4_readNumbers 39 = .ok (.iload_n 2, 1) := by decide +kernel
theorem dX4_readNumbers_40 : decode cX4_readNumbers 40 = .ok (.iload 4, 2) := by decide +kernel
theorem dX4_readNumbers_42 : decode cX4_readNumbers 42 = .ok (.invokestatic 31, 3) := by decide +kernel
theorem dX4_readNumbers_45 : decode cX4_readNumbers 45 = .ok (.istore 7, 2) := by decide +kernel
theorem dX4_readNumbers_47 : decode cX4_readNumbers 47 = .ok (.iload 7, 2) := by decide +kernel
theorem dX4_readNumbers_49 : decode cX4_readNumbers 49 = .ok (.bipush (-4), 2) := by decide +kernel
theorem dX4_readNumbers_51 : decode cX4_readNumbers 51 = .ok (.if_icmp .eq 16, 3) := by decide +kernel
theorem dX4_readNumbers_54 : decode cX4_readNumbers 54 = .ok (.bipush 10, 2) := by decide +kernel
theorem dX4_readNumbers_56 : decode cX4_readNumbers 56 = .ok (.iload 6, 2) := by decide +kernel
theorem dX4_readNumbers_58 : decode cX4_readNumbers 58 = .ok (.imul, 1) := by decide +kernel
theorem dX4_readNumbers_59 : decode cX4_readNumbers 59 = .ok (.iload 7, 2) := by decide +kernel
theorem dX4_readNumbers_61 : decode cX4_readNumbers 61 = .ok (.iadd, 1) := by decide +kernel
theorem dX4_readNumbers_62 : decode cX4_readNumbers 62 = .ok (.istore 6, 2) := by decide +kernel
theorem dX4_readNumbers_64 : decode cX4_readNumbers 64 = .ok (.iinc 4 1, 3) := by decide +kernel
theorem dX4_readNumbers_67 : decode cX4_readNumbers 67 = .ok (.aload_n 0, 1) := by decide +kernel
theorem dX4_readNumbers_68 : decode cX4_readNumbers 68 = .ok (.getfield 9, 3) := by decide +kernel
theorem dX4_readNumbers_71 : decode cX4_readNumbers 71 = .ok (.iload 5, 2) := by decide +kernel
theorem dX4_readNumbers_73 : decode cX4_readNumbers 73 = .ok (.iload 6, 2) := by decide +kernel
theorem dX4_readNumbers_75 : decode cX4_readNumbers 75 = .ok (.invokestatic 34, 3) := by decide +kernel
theorem dX4_readNumbers_78 : decode cX4_readNumbers 78 = .ok (.aload_n 0, 1) := by decide +kernel
theorem dX4_readNumbers_79 : decode cX4_readNumbers 79 = .ok (.iload 5, 2) := by decide +kernel
theorem dX4_readNumbers_81 : decode cX4_readNumbers 81 = .ok (.iconst 1, 1) := by decide +kernel
theorem dX4_readNumbers_82 : decode cX4_readNumbers 82 = .ok (.iadd, 1) := by decide +kernel
theorem dX4_readNumbers_83 : decode cX4_readNumbers 83 = .ok (.putfield 38, 3) := by decide +kernel
theorem dX4_readNumbers_86 : decode cX4_readNumbers 86 = .ok (.aload_n 1, 1) := by decide +kernel
theorem dX4_readNumbers_87 : decode cX4_readNumbers 87 = .ok (.iload_n 2, 1) := by decide +kernel
theorem dX4_readNumbers_88 : decode cX4_readNumbers 88 = .ok (.iload 4, 2) := by decide +kernel
theorem dX4_readNumbers_90 : decode cX4_readNumbers 90 = .ok (.invokestatic 24, 3) := by decide +kernel
theorem dX4_readNumbers_93 : decode cX4_readNumbers 93 = .ok (.istore 8, 2) := by decide +kernel
theorem dX4_readNumbers_95 : decode cX4_readNumbers 95 = .ok (.iinc 4 1, 3) := by decide +kernel
theorem dX4_readNumbers_98 : decode cX4_readNumbers 98 = .ok (.iload 8, 2) := by decide +kernel
theorem dX4_readNumbers_100 : decode cX4_readNumbers 100 = .ok (.bipush 59, 2) := by decide +kernel
theorem dX4_readNumbers_102 : decode cX4_readNumbers 102 = .ok (.if_icmp .ne 6, 3) := by decide +kernel
theorem dX4_readNumbers_105 : decode cX4_readNumbers 105 = .ok (.iload 4, 2) := by decide +kernel
theorem dX4_readNumbers_107 : decode cX4_readNumbers 107 = .ok (.ireturn, 1) := by decide +kernel
theorem dX4_readNumbers_108 : decode cX4_readNumbers 108 = .ok (.iload 8, 2) := by decide +kernel
theorem dX4_readNumbers_110 : decode cX4_readNumbers 110 = .ok (.bipush 44, 2) := by decide +kernel
theorem dX4_readNumbers_112 : decode cX4_readNumbers 112 = .ok (.if_icmp .eq 6, 3) := by decide +kernel
theorem dX4_readNumbers_115 : decode cX4_readNumbers 115 = .ok (.bipush (-4), 2) := by decide +kernel
theorem dX4_readNumbers_117 : decode cX4_readNumbers 117 = .ok (.ireturn, 1) := by decide +kernel
theorem dX4_readNumbers_118 : decode cX4_readNumbers 118 = .ok (.iinc 5 1, 3) := by decide +kernel
theorem dX4_readNumbers_121 : decode cX4_readNumbers 121 = .ok (.goto (-115), 3) := by decide +kernel
theorem dX4_readNumbers_124 : decode cX4_readNumbers 124 = .ok (.bipush (-4), 2) := by decide +kernel
theorem dX4_readNumbers_126 : decode cX4_readNumbers 126 = .ok (.ireturn, 1) := by decide +kernel
theorem dX4_tellItem_0 : decode cX4_tellItem 0 = .ok (.aload_n 0, 1) := by decide +kernel
theorem dX4_tellItem_1 : decode cX4_tellItem 1 = .ok (.getfield 9, 3) := by decide +kernel
theorem dX4_tellItem_4 : decode cX4_tellItem 4 = .ok (.iconst 0, 1) := by decide +kernel
theorem dX4_tellItem_5 : decode cX4_tellItem 5 = .ok (.invokestatic 42, 3) := by decide +kernel
theorem dX4_tellItem_8 : decode cX4_tellItem 8 = .ok (.istore_n 3, 1) := by decide +kernel
theorem dX4_tellItem_9 : decode cX4_tellItem 9 = .ok (.aload_n 0, 1) := by decide +kernel
theorem dX4_tellItem_10 : decode cX4_tellItem 10 = .ok (.getfield 9, 3) := by decide +kernel
theorem dX4_tellItem_13 : decode cX4_tellItem 13 = .ok (.iconst 1, 1) := by decide +kernel
theorem dX4_tellItem_14 : decode cX4_tellItem 14 = .ok (.invokestatic 42, 3) := by decide +kernel
theorem dX4_tellItem_17 : decode cX4_tellItem 17 = .ok (.istore 4, 2) := by decide +kernel
theorem dX4_tellItem_19 : decode cX4_tellItem 19 = .ok (.aload_n 0, 1) := by decide +kernel
theorem dX4_tellItem_20 : decode cX4_tellItem 20 = .ok (.getfield 9, 3) := by decide +kernel
theorem dX4_tellItem_23 : decode cX4_tellItem 23 = .ok (.iconst 2, 1) := by decide +kernel
theorem dX4_tellItem_24 : decode cX4_tellItem 24 = .ok (.invokestatic 42, 3) := by decide +kernel
theorem dX4_tellItem_27 : decode cX4_tellItem 27 = .ok (.istore 5, 2) := by decide +kernel
theorem dX4_tellItem_29 : decode cX4_tellItem 29 = .ok (.iload_n 1, 1) := by decide +kernel
theorem dX4_tellItem_30 : decode cX4_tellItem 30 = .ok (.tableswitch 150 108 116 #[100, 150, 126, 150, 150, 150, 50, 150, 74], 50) := by decide +kernel
theorem dX4_tellItem_80 : decode cX4_tellItem 80 = .ok (.aload_n 0, 1) := by decide +kernel
theorem dX4_tellItem_81 : decode cX4_tellItem 81 = .ok (.getfield 38, 3) := by decide +kernel
theorem dX4_tellItem_84 : decode cX4_tellItem 84 = .ok (.iconst 2, 1) := by decide +kernel
theorem dX4_tellItem_85 : decode cX4_tellItem 85 = .ok (.if_icmp .ne 17, 3) := by decide +kernel
theorem dX4_tellItem_88 : decode cX4_tellItem 88 = .ok (.aload_n 2, 1) := by decide +kernel
theorem dX4_tellItem_89 : decode cX4_tellItem 89 = .ok (.iload_n 3, 1) := by decide +kernel
theorem dX4_tellItem_90 : decode cX4_tellItem 90 = .ok (.iload 4, 2) := by decide +kernel
theorem dX4_tellItem_92 : decode cX4_tellItem 92 = .ok (.invokevirtual 46, 3) := by decide +kernel
theorem dX4_tellItem_95 : decode cX4_tellItem 95 = .ok (.ifCond .eq 7, 3) := by decide +kernel
theorem dX4_tellItem_98 : decode cX4_tellItem 98 = .ok (.iconst 1, 1) := by decide +kernel
theorem dX4_tellItem_99 : decode cX4_tellItem 99 = .ok (.goto 4, 3) := by decide +kernel
theorem dX4_tellItem_102 : decode cX4_tellItem 102 = .ok (.iconst 0, 1) := by decide +kernel
theorem dX4_tellItem_103 : decode cX4_tellItem 103 = .ok (.ireturn, 1) := by decide +kernel
theorem dX4_tellItem_104 : decode cX4_tellItem 104 = .ok (.aload_n 0, 1) := by decide +kernel
theorem dX4_tellItem_105 : decode cX4_tellItem 105 = .ok (.getfield 38, 3) := by decide +kernel
theorem dX4_tellItem_108 : decode cX4_tellItem 108 = .ok (.iconst 3, 1) := by decide +kernel
theorem dX4_tellItem_109 : decode cX4_tellItem 109 = .ok (.if_icmp .ne 19, 3) := by decide +kernel
theorem dX4_tellItem_112 : decode cX4_tellItem 112 = .ok (.aload_n 2, 1) := by decide +kernel
theorem dX4_tellItem_113 : decode cX4_tellItem 113 = .ok (.iload_n 3, 1) := by decide +kernel
theorem dX4_tellItem_114 : decode cX4_tellItem 114 = .ok (.iload 4, 2) := by decide +kernel
theorem dX4_tellItem_116 : decode cX4_tellItem 116 = .ok (.iload 5, 2) := by decide +kernel
theorem dX4_tellItem_118 : decode cX4_tellItem 118 = .ok (.invokevirtual 50, 3) := by decide +kernel
theorem dX4_tellItem_121 : decode cX4_tellItem 121 = .ok (.ifCond .eq 7, 3) := by decide +kernel
theorem dX4_tellItem_124 : decode cX4_tellItem 124 = .ok (.iconst 1, 1) := by decide +kernel
theorem dX4_tellItem_125 : decode cX4_tellItem 125 = .ok (.goto 4, 3) := by decide +kernel
theorem dX4_tellItem_128 : decode cX4_tellItem 128 = .ok (.iconst 0, 1) := by decide +kernel
theorem dX4_tellItem_129 : decode cX4_tellItem 129 = .ok (.ireturn, 1) := by decide +kernel
theorem dX4_tellItem_130 : decode cX4_tellItem 130 = .ok (.aload_n 0, 1) := by decide +kernel
theorem dX4_tellItem_131 : decode cX4_tellItem 131 = .ok (.getfield 38, 3) := by decide +kernel
theorem dX4_tellItem_134 : decode cX4_tellItem 134 = .ok (.iconst 3, 1) := by decide +kernel
theorem dX4_tellItem_135 : decode cX4_tellItem 135 = .ok (.if_icmp .ne 19, 3) := by decide +kernel
theorem dX4_tellItem_138 : decode cX4_tellItem 138 = .ok (.aload_n 2, 1) := by decide +kernel
theorem dX4_tellItem_139 : decode cX4_tellItem 139 = .ok (.iload_n 3, 1) := by decide +kernel
theorem dX4_tellItem_140 : decode cX4_tellItem 140 = .ok (.iload 4, 2) := by decide +kernel
theorem dX4_tellItem_142 : decode cX4_tellItem 142 = .ok (.iload 5, 2) := by decide +kernel
theorem dX4_tellItem_144 : decode cX4_tellItem 144 = .ok (.invokevirtual 54, 3) := by decide +kernel
theorem dX4_tellItem_147 : decode cX4_tellItem 147 = .ok (.ifCond .eq 7, 3) := by decide +kernel
theorem dX4_tellItem_150 : decode cX4_tellItem 150 = .ok (.iconst 1, 1) := by decide +kernel
theorem dX4_tellItem_151 : decode cX4_tellItem 151 = .ok (.goto 4, 3) := by decide +kernel
theorem dX4_tellItem_154 : decode cX4_tellItem 154 = .ok (.iconst 0, 1) := by decide +kernel
theorem dX4_tellItem_155 : decode cX4_tellItem 155 = .ok (.ireturn, 1) := by decide +kernel
theorem dX4_tellItem_156 : decode cX4_tellItem 156 = .ok (.aload_n 0, 1) := by decide +kernel
theorem dX4_tellItem_157 : decode cX4_tellItem 157 = .ok (.getfield 38, 3) := by decide +kernel
theorem dX4_tellItem_160 : decode cX4_tellItem 160 = .ok (.iconst 2, 1) := by decide +kernel
theorem dX4_tellItem_161 : decode cX4_tellItem 161 = .ok (.if_icmp .ne 17, 3) := by decide +kernel
theorem dX4_tellItem_164 : decode cX4_tellItem 164 = .ok (.aload_n 2, 1) := by decide +kernel
theorem dX4_tellItem_165 : decode cX4_tellItem 165 = .ok (.iload_n 3, 1) := by decide +kernel
theorem dX4_tellItem_166 : decode cX4_tellItem 166 = .ok (.iload 4, 2) := by decide +kernel
theorem dX4_tellItem_168 : decode cX4_tellItem 168 = .ok (.invokevirtual 57, 3) := by decide +kernel
theorem dX4_tellItem_171 : decode cX4_tellItem 171 = .ok (.ifCond .eq 7, 3) := by decide +kernel
theorem dX4_tellItem_174 : decode cX4_tellItem 174 = .ok (.iconst 1, 1) := by decide +kernel
theorem dX4_tellItem_175 : decode cX4_tellItem 175 = .ok (.goto 4, 3) := by decide +kernel
theorem dX4_tellItem_178 : decode cX4_tellItem 178 = .ok (.iconst 0, 1) := by decide +kernel
theorem dX4_tellItem_179 : decode cX4_tellItem 179 = .ok (.ireturn, 1) := by decide +kernel
theorem dX4_tellItem_180 : decode cX4_tellItem 180 = .ok (.iconst 0, 1) := by decide +kernel
theorem dX4_tellItem_181 : decode cX4_tellItem 181 = .ok (.ireturn, 1) := by decide +kernel
theorem dX4_figure_0 : decode cX4_figure 0 = .ok (.aload_n 0, 1) := by decide +kernel
theorem dX4_figure_1 : decode cX4_figure 1 = .ok (.iload_n 1, 1) := by decide +kernel
theorem dX4_figure_2 : decode cX4_figure 2 = .ok (.iload_n 2, 1) := by decide +kernel
theorem dX4_figure_3 : decode cX4_figure 3 = .ok (.invokestatic 24, 3) := by decide +kernel
theorem dX4_figure_6 : decode cX4_figure 6 = .ok (.istore_n 3, 1) := by decide +kernel
theorem dX4_figure_7 : decode cX4_figure 7 = .ok (.iload_n 3, 1) := by decide +kernel
theorem dX4_figure_8 : decode cX4_figure 8 = .ok (.bipush 48, 2) := by decide +kernel
theorem dX4_figure_10 : decode cX4_figure 10 = .ok (.if_icmp .lt 16, 3) := by decide +kernel
theorem dX4_figure_13 : decode cX4_figure 13 = .ok (.iload_n 3, 1) := by decide +kernel
theorem dX4_figure_14 : decode cX4_figure 14 = .ok (.bipush 57, 2) := by decide +kernel
theorem dX4_figure_16 : decode cX4_figure 16 = .ok (.if_icmp .gt 10, 3) := by decide +kernel
theorem dX4_figure_19 : decode cX4_figure 19 = .ok (.iload_n 3, 1) := by decide +kernel
theorem dX4_figure_20 : decode cX4_figure 20 = .ok (.bipush 48, 2) := by decide +kernel
theorem dX4_figure_22 : decode cX4_figure 22 = .ok (.isub, 1) := by decide +kernel
theorem dX4_figure_23 : decode cX4_figure 23 = .ok (.goto 5, 3) := by decide +kernel
theorem dX4_figure_26 : decode cX4_figure 26 = .ok (.bipush (-4), 2) := by decide +kernel
theorem dX4_figure_28 : decode cX4_figure 28 = .ok (.ireturn, 1) := by decide +kernel
theorem dX4_letter_0 : decode cX4_letter 0 = .ok (.iload_n 2, 1) := by decide +kernel
theorem dX4_letter_1 : decode cX4_letter 1 = .ok (.ifCond .lt 20, 3) := by decide +kernel
theorem dX4_letter_4 : decode cX4_letter 4 = .ok (.iload_n 2, 1) := by decide +kernel
theorem dX4_letter_5 : decode cX4_letter 5 = .ok (.iload_n 1, 1) := by decide +kernel
theorem dX4_letter_6 : decode cX4_letter 6 = .ok (.if_icmp .ge 15, 3) := by decide +kernel
theorem dX4_letter_9 : decode cX4_letter 9 = .ok (.iload_n 2, 1) := by decide +kernel
theorem dX4_letter_10 : decode cX4_letter 10 = .ok (.aload_n 0, 1) := by decide +kernel
theorem dX4_letter_11 : decode cX4_letter 11 = .ok (.arraylength, 1) := by decide +kernel
theorem dX4_letter_12 : decode cX4_letter 12 = .ok (.if_icmp .ge 9, 3) := by decide +kernel
theorem dX4_letter_15 : decode cX4_letter 15 = .ok (.aload_n 0, 1) := by decide +kernel
theorem dX4_letter_16 : decode cX4_letter 16 = .ok (.iload_n 2, 1) := by decide +kernel
theorem dX4_letter_17 : decode cX4_letter 17 = .ok (.caload, 1) := by decide +kernel
theorem dX4_letter_18 : decode cX4_letter 18 = .ok (.goto 5, 3) := by decide +kernel
theorem dX4_letter_21 : decode cX4_letter 21 = .ok (.bipush (-4), 2) := by decide +kernel
theorem dX4_letter_23 : decode cX4_letter 23 = .ok (.ireturn, 1) := by decide +kernel
theorem dX5_init_0 : decode cX5_init 0 = .ok (.aload_n 0, 1) := by decide +kernel
theorem dX5_init_1 : decode cX5_init 1 = .ok (.invokespecial 1, 3) := by decide +kernel
theorem dX5_init_4 : decode cX5_init 4 = .ok (.aload_n 0, 1) := by decide +kernel
theorem dX5_init_5 : decode cX5_init 5 = .ok (.sipush 200, 3) := by decide +kernel
theorem dX5_init_8 : decode cX5_init 8 = .ok (.newarray .char, 2) := by decide +kernel
theorem dX5_init_10 : decode cX5_init 10 = .ok (.putfield 9, 3) := by decide +kernel
theorem dX5_init_13 : decode cX5_init 13 = .ok (.aload_n 0, 1) := by decide +kernel
theorem dX5_init_14 : decode cX5_init 14 = .ok (.iconst 0, 1) := by decide +kernel
theorem dX5_init_15 : decode cX5_init 15 = .ok (.putfield 13, 3) := by decide +kernel
theorem dX5_init_18 : decode cX5_init 18 = .ok (.new 17, 3) := by decide +kernel
theorem dX5_init_21 : decode cX5_init 21 = .ok (.dup, 1) := by decide +kernel
theorem dX5_init_22 : decode cX5_init 22 = .ok (.invokespecial 19, 3) := by decide +kernel
theorem dX5_init_25 : decode cX5_init 25 = .ok (.astore_n 1, 1) := by decide +kernel
theorem dX5_init_26 : decode cX5_init 26 = .ok (.new 20, 3) := by decide +kernel
theorem dX5_init_29 : decode cX5_init 29 = .ok (.dup, 1) := by decide +kernel
theorem dX5_init_30 : decode cX5_init 30 = .ok (.invokespecial 22, 3) := by decide +kernel
theorem dX5_init_33 : decode cX5_init 33 = .ok (.astore_n 2, 1) := by decide +kernel
theorem dX5_init_34 : decode cX5_init 34 = .ok (.ldc 23, 2) := by decide +kernel
theorem dX5_init_36 : decode cX5_init 36 = .ok (.invokevirtual 25, 3) := by decide +kernel
theorem dX5_init_39 : decode cX5_init 39 = .ok (.astore_n 3, 1) := by decide +kernel
theorem dX5_init_40 : decode cX5_init 40 = .ok (.aload_n 1, 1) := by decide +kernel
theorem dX5_init_41 : decode cX5_init 41 = .ok (.aload_n 3, 1) := by decide +kernel
theorem dX5_init_42 : decode cX5_init 42 = .ok (.aload_n 3, 1) := by decide +kernel
theorem dX5_init_43 : decode cX5_init 43 = .ok (.arraylength, 1) := by decide +kernel
theorem dX5_init_44 : decode cX5_init 44 = .ok (.aload_n 2, 1) := by decide +kernel
theorem dX5_init_45 : decode cX5_init 45 = .ok (.invokevirtual 31, 3) := by decide +kernel
theorem dX5_init_48 : decode cX5_init 48 = .ok (.pop, 1) := by decide +kernel
theorem dX5_init_49 : decode cX5_init 49 = .ok (.new 35, 3) := by decide +kernel
theorem dX5_init_52 : decode cX5_init 52 = .ok (.dup, 1) := by decide +kernel
theorem dX5_init_53 : decode cX5_init 53 = .ok (.invokespecial 37, 3) := by decide +kernel
theorem dX5_init_56 : decode cX5_init 56 = .ok (.astore 4, 2) := by decide +kernel
theorem dX5_init_58 : decode cX5_init 58 = .ok (.aload 4, 2) := by decide +kernel
theorem dX5_init_60 : decode cX5_init 60 = .ok (.aload_n 2, 1) := by decide +kernel
theorem dX5_init_61 : decode cX5_init 61 = .ok (.invokevirtual 38, 3) := by decide +kernel
theorem dX5_init_64 : decode cX5_init 64 = .ok (.aload_n 0, 1) := by decide +kernel
theorem dX5_init_65 : decode cX5_init 65 = .ok (.aload_n 1, 1) := by decide +kernel
theorem dX5_init_66 : decode cX5_init 66 = .ok (.putfield 42, 3) := by decide +kernel
theorem dX5_init_69 : decode cX5_init 69 = .ok (.aload_n 0, 1) := by decide +kernel
theorem dX5_init_70 : decode cX5_init 70 = .ok (.new 46, 3) := by decide +kernel
theorem dX5_init_73 : decode cX5_init 73 = .ok (.dup, 1) := by decide +kernel
theorem dX5_init_74 : decode cX5_init 74 = .ok (.invokespecial 48, 3) := by decide +kernel
theorem dX5_init_77 : decode cX5_init 77 = .ok (.putfield 49, 3) := by decide +kernel
theorem dX5_init_80 : decode cX5_init 80 = .ok (.aload_n 0, 1) := by decide +kernel
theorem dX5_init_81 : decode cX5_init 81 = .ok (.aload_n 2, 1) := by decide +kernel
theorem dX5_init_82 : decode cX5_init 82 = .ok (.putfield 53, 3) := by decide +kernel
theorem dX5_init_85 : decode cX5_init 85 = .ok (.aload_n 0, 1) := by decide +kernel
theorem dX5_init_86 : decode cX5_init 86 = .ok (.new 20, 3) := by decide +kernel
theorem dX5_init_89 : decode cX5_init 89 = .ok (.dup, 1) := by decide +kernel
theorem dX5_init_90 : decode cX5_init 90 = .ok (.invokespecial 22, 3) := by decide +kernel
theorem dX5_init_93 : decode cX5_init 93 = .ok (.putfield 57, 3) := by decide +kernel
theorem dX5_init_96 : decode cX5_init 96 = .ok (.aload_n 0, 1) := by decide +kernel
theorem dX5_init_97 : decode cX5_init 97 = .ok (.aload 4, 2) := by decide +kernel
theorem dX5_init_99 : decode cX5_init 99 = .ok (.putfield 60, 3) := by decide +kernel
theorem dX5_init_102 : decode cX5_init 102 = .ok (.aload_n 0, 1) := by decide +kernel
theorem dX5_init_103 : decode cX5_init 103 = .ok (.new 35, 3) := by decide +kernel
theorem dX5_init_106 : decode cX5_init 106 = .ok (.dup, 1) := by decide +kernel
theorem dX5_init_107 : decode cX5_init 107 = .ok (.invokespecial 37, 3) := by decide +kernel
theorem dX5_init_110 : decode cX5_init 110 = .ok (.putfield 64, 3) := by decide +kernel
theorem dX5_init_113 : decode cX5_init 113 = .ok (.aload_n 0, 1) := by decide +kernel
theorem dX5_init_114 : decode cX5_init 114 = .ok (.new 67, 3) := by decide +kernel
theorem dX5_init_117 : decode cX5_init 117 = .ok (.dup, 1) := by decide +kernel
theorem dX5_init_118 : decode cX5_init 118 = .ok (.bipush 8, 2) := by decide +kernel
theorem dX5_init_120 : decode cX5_init 120 = .ok (.invokespecial 69, 3) := by decide +kernel
theorem dX5_init_123 : decode cX5_init 123 = .ok (.putfield 72, 3) := by decide +kernel
theorem dX5_init_126 : decode cX5_init 126 = .ok (.aload_n 0, 1) := by decide +kernel
theorem dX5_init_127 : decode cX5_init 127 = .ok (.new 67, 3) := by decide +kernel
theorem dX5_init_130 : decode cX5_init 130 = .ok (.dup, 1) := by decide +kernel
theorem dX5_init_131 : decode cX5_init 131 = .ok (.iconst 2, 1) := by decide +kernel
theorem dX5_init_132 : decode cX5_init 132 = .ok (.invokespecial 69, 3) := by decide +kernel
theorem dX5_init_135 : decode cX5_init 135 = .ok (.putfield 76, 3) := by decide +kernel
theorem dX5_init_138 : decode cX5_init 138 = .ok (.return_, 1) := by decide +kernel
theorem dX5_write_0 : decode cX5_write 0 = .ok (.iload_n 1, 1) := by decide +kernel
theorem dX5_write_1 : decode cX5_write 1 = .ok (.bipush 32, 2) := by decide +kernel
theorem dX5_write_3 : decode cX5_write 3 = .ok (.if_icmp .lt 9, 3) := by decide +kernel
theorem dX5_write_6 : decode cX5_write 6 = .ok (.iload_n 1, 1) := by decide +kernel
theorem dX5_write_7 : decode cX5_write 7 = .ok (.bipush 126, 2) := by decide +kernel
theorem dX5_write_9 : decode cX5_write 9 = .ok (.if_icmp .le 5, 3) := by decide +kernel
theorem dX5_write_12 : decode cX5_write 12 = .ok (.iconst (-1), 1) := by decide +kernel
theorem dX5_write_13 : decode cX5_write 13 = .ok (.ireturn, 1) := by decide +kernel
theorem dX5_write_14 : decode cX5_write 14 = .ok (.aload_n 0, 1) := by decide +kernel
theorem dX5_write_15 : decode cX5_write 15 = .ok (.getfield 13, 3) := by decide +kernel
theorem dX5_write_18 : decode cX5_write 18 = .ok (.ifCond .lt 15, 3) := by decide +kernel
theorem dX5_write_21 : decode cX5_write 21 = .ok (.aload_n 0, 1) := by decide +kernel
theorem dX5_write_22 : decode cX5_write 22 = .ok (.getfield 13, 3) := by decide +kernel
theorem dX5_write_25 : decode cX5_write 25 = .ok (.aload_n 0, 1) := by decide +kernel
theorem dX5_write_26 : decode cX5_write 26 = .ok (.getfield 9, 3) := by decide +kernel
theorem dX5_write_29 : decode cX5_write 29 = .ok (.arraylength, 1) := by decide +kernel
theorem dX5_write_30 : decode cX5_write 30 = .ok (.if_icmp .lt 6, 3) := by decide +kernel
theorem dX5_write_33 : decode cX5_write 33 = .ok (.bipush (-3), 2) := by decide +kernel
theorem dX5_write_35 : decode cX5_write 35 = .ok (.ireturn, 1) := by decide +kernel
theorem dX5_write_36 : decode cX5_write 36 = .ok (.aload_n 0, 1) := by decide +kernel
theorem dX5_write_37 : decode cX5_write 37 = .ok (.getfield 9, 3) := by decide +kernel
theorem dX5_write_40 : decode cX5_write 40 = .ok (.aload_n 0, 1) := by decide +kernel
theorem dX5_write_41 : decode cX5_write 41 = .ok (.getfield 13, 3) := by decide +kernel
theorem dX5_write_44 : decode cX5_write 44 = .ok (.iload_n 1, 1) := by decide +kernel
theorem dX5_write_45 : decode cX5_write 45 = .ok (.i2c, 1) := by decide +kernel
theorem dX5_write_46 : decode cX5_write 46 = .ok (.castore, 1) := by decide +kernel
theorem dX5_write_47 : decode cX5_write 47 = .ok (.aload_n 0, 1) := by decide +kernel
theorem dX5_write_48 : decode cX5_write 48 = .ok (.dup, 1) := by decide +kernel
theorem dX5_write_49 : decode cX5_write 49 = .ok (.getfield 13, 3) := by decide +kernel
theorem dX5_write_52 : decode cX5_write 52 = .ok (.iconst 1, 1) := by decide +kernel
theorem dX5_write_53 : decode cX5_write 53 = .ok (.iadd, 1) := by decide +kernel
theorem dX5_write_54 : decode cX5_write 54 = .ok (.putfield 13, 3) := by decide +kernel
theorem dX5_write_57 : decode cX5_write 57 = .ok (.aload_n 0, 1) := by decide +kernel
theorem dX5_write_58 : decode cX5_write 58 = .ok (.getfield 13, 3) := by decide +kernel
theorem dX5_write_61 : decode cX5_write 61 = .ok (.ireturn, 1) := by decide +kernel
theorem dX5_wipe_0 : decode cX5_wipe 0 = .ok (.aload_n 0, 1) := by decide +kernel
theorem dX5_wipe_1 : decode cX5_wipe 1 = .ok (.getfield 13, 3) := by decide +kernel
theorem dX5_wipe_4 : decode cX5_wipe 4 = .ok (.istore_n 1, 1) := by decide +kernel
theorem dX5_wipe_5 : decode cX5_wipe 5 = .ok (.aload_n 0, 1) := by decide +kernel
theorem dX5_wipe_6 : decode cX5_wipe 6 = .ok (.iconst 0, 1) := by decide +kernel
theorem dX5_wipe_7 : decode cX5_wipe 7 = .ok (.putfield 13, 3) := by decide +kernel
theorem dX5_wipe_10 : decode cX5_wipe 10 = .ok (.iload_n 1, 1) := by decide +kernel
theorem dX5_wipe_11 : decode cX5_wipe 11 = .ok (.ireturn, 1) := by decide +kernel
theorem dX5_fault_0 : decode cX5_fault 0 = .ok (.aload_n 0, 1) := by decide +kernel
theorem dX5_fault_1 : decode cX5_fault 1 = .ok (.getfield 42, 3) := by decide +kernel
theorem dX5_fault_4 : decode cX5_fault 4 = .ok (.aload_n 0, 1) := by decide +kernel
theorem dX5_fault_5 : decode cX5_fault 5 = .ok (.getfield 9, 3) := by decide +kernel
theorem dX5_fault_8 : decode cX5_fault 8 = .ok (.aload_n 0, 1) := by decide +kernel
theorem dX5_fault_9 : decode cX5_fault 9 = .ok (.getfield 13, 3) := by decide +kernel
theorem dX5_fault_12 : decode cX5_fault 12 = .ok (.aload_n 0, 1) := by decide +kernel
theorem dX5_fault_13 : decode cX5_fault 13 = .ok (.getfield 57, 3) := by decide +kernel
theorem dX5_fault_16 : decode cX5_fault 16 = .ok (.invokevirtual 31, 3) := by decide +kernel
theorem dX5_fault_19 : decode cX5_fault 19 = .ok (.ireturn, 1) := by decide +kernel
theorem dX5_lay_0 : decode cX5_lay 0 = .ok (.aload_n 0, 1) := by decide +kernel
theorem dX5_lay_1 : decode cX5_lay 1 = .ok (.getfield 42, 3) := by decide +kernel
theorem dX5_lay_4 : decode cX5_lay 4 = .ok (.aload_n 0, 1) := by decide +kernel
theorem dX5_lay_5 : decode cX5_lay 5 = .ok (.getfield 9, 3) := by decide +kernel
theorem dX5_lay_8 : decode cX5_lay 8 = .ok (.aload_n 0, 1) := by decide +kernel
theorem dX5_lay_9 : decode cX5_lay 9 = .ok (.getfield 13, 3) := by decide +kernel
theorem dX5_lay_12 : decode cX5_lay 12 = .ok (.aload_n 0, 1) := by decide +kernel
theorem dX5_lay_13 : decode cX5_lay 13 = .ok (.getfield 57, 3) := by decide +kernel
theorem dX5_lay_16 : decode cX5_lay 16 = .ok (.invokevirtual 31, 3) := by decide +kernel
theorem dX5_lay_19 : decode cX5_lay 19 = .ok (.bipush (-4), 2) := by decide +kernel
theorem dX5_lay_21 : decode cX5_lay 21 = .ok (.if_icmp .ne 23, 3) := by decide +kernel
theorem dX5_lay_24 : decode cX5_lay 24 = .ok (.aload_n 0, 1) := by decide +kernel
theorem dX5_lay_25 : decode cX5_lay 25 = .ok (.getfield 57, 3) := by decide +kernel
theorem dX5_lay_28 : decode cX5_lay 28 = .ok (.getfield 79, 3) := by decide +kernel
theorem dX5_lay_31 : decode cX5_lay 31 = .ok (.ifCond .eq 13, 3) := by decide +kernel
theorem dX5_lay_34 : decode cX5_lay 34 = .ok (.aload_n 0, 1) := by decide +kernel
theorem dX5_lay_35 : decode cX5_lay 35 = .ok (.getfield 57, 3) := by decide +kernel
theorem dX5_lay_38 : decode cX5_lay 38 = .ok (.getfield 82, 3) := by decide +kernel
theorem dX5_lay_41 : decode cX5_lay 41 = .ok (.ifCond .ne 6, 3) := by decide +kernel
theorem dX5_lay_44 : decode cX5_lay 44 = .ok (.bipush (-2), 2) := by decide +kernel
theorem dX5_lay_46 : decode cX5_lay 46 = .ok (.ireturn, 1) := by decide +kernel
theorem dX5_lay_47 : decode cX5_lay 47 = .ok (.aload_n 0, 1) := by decide +kernel
theorem dX5_lay_48 : decode cX5_lay 48 = .ok (.getfield 57, 3) := by decide +kernel
theorem dX5_lay_51 : decode cX5_lay 51 = .ok (.astore_n 1, 1) := by decide +kernel
theorem dX5_lay_52 : decode cX5_lay 52 = .ok (.aload_n 0, 1) := by decide +kernel
theorem dX5_lay_53 : decode cX5_lay 53 = .ok (.aload_n 0, 1) := by decide +kernel
theorem dX5_lay_54 : decode cX5_lay 54 = .ok (.getfield 53, 3) := by decide +kernel
theorem dX5_lay_57 : decode cX5_lay 57 = .ok (.putfield 57, 3) := by decide +kernel
theorem dX5_lay_60 : decode cX5_lay 60 = .ok (.aload_n 0, 1) := by decide +kernel
theorem dX5_lay_61 : decode cX5_lay 61 = .ok (.aload_n 1, 1) := by decide +kernel
theorem dX5_lay_62 : decode cX5_lay 62 = .ok (.putfield 53, 3) := by decide +kernel
theorem dX5_lay_65 : decode cX5_lay 65 = .ok (.aload_n 0, 1) := by decide +kernel
theorem dX5_lay_66 : decode cX5_lay 66 = .ok (.getfield 60, 3) := by decide +kernel
theorem dX5_lay_69 : decode cX5_lay 69 = .ok (.aload_n 0, 1) := by decide +kernel
theorem dX5_lay_70 : decode cX5_lay 70 = .ok (.getfield 53, 3) := by decide +kernel
theorem dX5_lay_73 : decode cX5_lay 73 = .ok (.invokevirtual 38, 3) := by decide +kernel
theorem dX5_lay_76 : decode cX5_lay 76 = .ok (.aload_n 0, 1) := by decide +kernel
theorem dX5_lay_77 : decode cX5_lay 77 = .ok (.getfield 72, 3) := by decide +kernel
theorem dX5_lay_80 : decode cX5_lay 80 = .ok (.invokevirtual 85, 3) := by decide +kernel
theorem dX5_lay_83 : decode cX5_lay 83 = .ok (.aload_n 0, 1) := by decide +kernel
theorem dX5_lay_84 : decode cX5_lay 84 = .ok (.getfield 76, 3) := by decide +kernel
theorem dX5_lay_87 : decode cX5_lay 87 = .ok (.invokevirtual 85, 3) := by decide +kernel
theorem dX5_lay_90 : decode cX5_lay 90 = .ok (.aload_n 0, 1) := by decide +kernel
theorem dX5_lay_91 : decode cX5_lay 91 = .ok (.invokevirtual 88, 3) := by decide +kernel
theorem dX5_lay_94 : decode cX5_lay 94 = .ok (.pop, 1) := by decide +kernel
theorem dX5_lay_95 : decode cX5_lay 95 = .ok (.aload_n 0, 1) := by decide +kernel
theorem dX5_lay_96 : decode cX5_lay 96 = .ok (.getfield 53, 3) := by decide +kernel
theorem dX5_lay_99 : decode cX5_lay 99 = .ok (.getfield 82, 3) := by decide +kernel
theorem dX5_lay_102 : decode cX5_lay 102 = .ok (.ireturn, 1) := by decide +kernel
theorem dX5_thing_0 : decode cX5_thing 0 = .ok (.aload_n 0, 1) := by decide +kernel
theorem dX5_thing_1 : decode cX5_thing 1 = .ok (.getfield 53, 3) := by decide +kernel
theorem dX5_thing_4 : decode cX5_thing 4 = .ok (.iload_n 1, 1) := by decide +kernel
theorem dX5_thing_5 : decode cX5_thing 5 = .ok (.invokevirtual 92, 3) := by decide +kernel
theorem dX5_thing_8 : decode cX5_thing 8 = .ok (.ifCond .ne 5, 3) := by decide +kernel
theorem dX5_thing_11 : decode cX5_thing 11 = .ok (.iconst (-1), 1) := by decide +kernel
theorem dX5_thing_12 : decode cX5_thing 12 = .ok (.ireturn, 1) := by decide +kernel
theorem dX5_thing_13 : decode cX5_thing 13 = .ok (.iload_n 2, 1) := by decide +kernel
theorem dX5_thing_14 : decode cX5_thing 14 = .ok (.tableswitch 114 0 5 #[38, 50, 62, 74, 89, 105], 38) := by decide +kernel
theorem dX5_thing_52 : decode cX5_thing 52 = .ok (.aload_n 0, 1) := by decide +kernel
theorem dX5_thing_53 : decode cX5_thing 53 = .ok (.getfield 53, 3) := by decide +kernel
theorem dX5_thing_56 : decode cX5_thing 56 = .ok (.getfield 96, 3) := by decide +kernel
theorem dX5_thing_59 : decode cX5_thing 59 = .ok (.iload_n 1, 1) := by decide +kernel
theorem dX5_thing_60 : decode cX5_thing 60 = .ok (.invokestatic 100, 3) := by decide +kernel
theorem dX5_thing_63 : decode cX5_thing 63 = .ok (.ireturn, 1) := by decide +kernel
theorem dX5_thing_64 : decode cX5_thing 64 = .ok (.aload_n 0, 1) := by decide +kernel
theorem dX5_thing_65 : decode cX5_thing 65 = .ok (.getfield 53, 3) := by decide +kernel
theorem dX5_thing_68 : decode cX5_thing 68 = .ok (.getfield 104, 3) := by decide +kernel
theorem dX5_thing_71 : decode cX5_thing 71 = .ok (.iload_n 1, 1) := by decide +kernel
theorem dX5_thing_72 : decode cX5_thing 72 = .ok (.invokestatic 100, 3) := by decide +kernel
theorem dX5_thing_75 : decode cX5_thing 75 = .ok (.ireturn, 1) := by decide +kernel
theorem dX5_thing_76 : decode cX5_thing 76 = .ok (.aload_n 0, 1) := by decide +kernel
theorem dX5_thing_77 : decode cX5_thing 77 = .ok (.getfield 53, 3) := by decide +kernel
theorem dX5_thing_80 : decode cX5_thing 80 = .ok (.getfield 107, 3) := by decide +kernel
theorem dX5_thing_83 : decode cX5_thing 83 = .ok (.iload_n 1, 1) := by decide +kernel
theorem dX5_thing_84 : decode cX5_thing 84 = .ok (.invokestatic 100, 3) := by decide +kernel
theorem dX5_thing_87 : decode cX5_thing 87 = .ok (.ireturn, 1) := by decide +kernel
theorem dX5_thing_88 : decode cX5_thing 88 = .ok (.aload_n 0, 1) := by decide +kernel
theorem dX5_thing_89 : decode cX5_thing 89 = .ok (.getfield 60, 3) := by decide +kernel
theorem dX5_thing_92 : decode cX5_thing 92 = .ok (.getfield 110, 3) := by decide +kernel
theorem dX5_thing_95 : decode cX5_thing 95 = .ok (.iload_n 1, 1) := by decide +kernel
theorem dX5_thing_96 : decode cX5_thing 96 = .ok (.invokestatic 113, 3) := by decide +kernel
theorem dX5_thing_99 : decode cX5_thing 99 = .ok (.invokestatic 117, 3) := by decide +kernel
theorem dX5_thing_102 : decode cX5_thing 102 = .ok (.ireturn, 1) := by decide +kernel
theorem dX5_thing_103 : decode cX5_thing 103 = .ok (.aload_n 0, 1) := by decide +kernel
theorem dX5_thing_104 : decode cX5_thing 104 = .ok (.getfield 60, 3) := by decide +kernel
theorem dX5_thing_107 : decode cX5_thing 107 = .ok (.aload_n 0, 1) := by decide +kernel
theorem dX5_thing_108 : decode cX5_thing 108 = .ok (.getfield 53, 3) := by decide +kernel
theorem dX5_thing_111 : decode cX5_thing 111 = .ok (.iload_n 1, 1) := by decide +kernel
theorem dX5_thing_112 : decode cX5_thing 112 = .ok (.invokevirtual 121, 3) := by decide +kernel
theorem dX5_thing_115 : decode cX5_thing 115 = .ok (.invokestatic 117, 3) := by decide +kernel
theorem dX5_thing_118 : decode cX5_thing 118 = .ok (.ireturn, 1) := by decide +kernel
theorem dX5_thing_119 : decode cX5_thing 119 = .ok (.aload_n 0, 1) := by decide +kernel
theorem dX5_thing_120 : decode cX5_thing 120 = .ok (.getfield 53, 3) := by decide +kernel
theorem dX5_thing_123 : decode cX5_thing 123 = .ok (.iload_n 1, 1) := by decide +kernel
theorem dX5_thing_124 : decode cX5_thing 124 = .ok (.invokevirtual 125, 3) := by decide +kernel
theorem dX5_thing_127 : decode cX5_thing 127 = .ok (.ireturn, 1) := by decide +kernel
theorem dX5_thing_128 : decode cX5_thing 128 = .ok (.iconst (-1), 1) := by decide +kernel
theorem dX5_thing_129 : decode cX5_thing 129 = .ok (.ireturn, 1) := by decide +kernel
theorem dX5_life_0 : decode cX5_life 0 = .ok (.aload_n 0, 1) := by decide +kernel
theorem dX5_life_1 : decode cX5_life 1 = .ok (.getfield 53, 3) := by decide +kernel
theorem dX5_life_4 : decode cX5_life 4 = .ok (.iload_n 1, 1) := by decide +kernel
theorem dX5_life_5 : decode cX5_life 5 = .ok (.invokevirtual 129, 3) := by decide +kernel
theorem dX5_life_8 : decode cX5_life 8 = .ok (.ifCond .ne 5, 3) := by decide +kernel
theorem dX5_life_11 : decode cX5_life 11 = .ok (.iconst (-1), 1) := by decide +kernel
theorem dX5_life_12 : decode cX5_life 12 = .ok (.ireturn, 1) := by decide +kernel
theorem dX5_life_13 : decode cX5_life 13 = .ok (.iload_n 2, 1) := by decide +kernel
theorem dX5_life_14 : decode cX5_life 14 = .ok (.tableswitch 120 0 5 #[38, 50, 62, 74, 86, 105], 38) := by decide +kernel
theorem dX5_life_52 : decode cX5_life 52 = .ok (.aload_n 0, 1) := by decide +kernel
theorem dX5_life_53 : decode cX5_life 53 = .ok (.getfield 53, 3) := by decide +kernel
theorem dX5_life_56 : decode cX5_life 56 = .ok (.getfield 132, 3) := by decide +kernel
theorem dX5_life_59 : decode cX5_life 59 = .ok (.iload_n 1, 1) := by decide +kernel
theorem dX5_life_60 : decode cX5_life 60 = .ok (.invokestatic 100, 3) := by decide +kernel
theorem dX5_life_63 : decode cX5_life 63 = .ok (.ireturn, 1) := by decide +kernel
theorem dX5_life_64 : decode cX5_life 64 = .ok (.aload_n 0, 1) := by decide +kernel
theorem dX5_life_65 : decode cX5_life 65 = .ok (.getfield 53, 3) := by decide +kernel
theorem dX5_life_68 : decode cX5_life 68 = .ok (.getfield 135, 3) := by decide +kernel
theorem dX5_life_71 : decode cX5_life 71 = .ok (.iload_n 1, 1) := by decide +kernel
theorem dX5_life_72 : decode cX5_life 72 = .ok (.invokestatic 100, 3) := by decide +kernel
theorem dX5_life_75 : decode cX5_life 75 = .ok (.ireturn, 1) := by decide +kernel
theorem dX5_life_76 : decode cX5_life 76 = .ok (.aload_n 0, 1) := by decide +kernel
theorem dX5_life_77 : decode cX5_life 77 = .ok (.getfield 53, 3) := by decide +kernel
theorem dX5_life_80 : decode cX5_life 80 = .ok (.getfield 138, 3) := by decide +kernel
theorem dX5_life_83 : decode cX5_life 83 = .ok (.iload_n 1, 1) := by decide +kernel
theorem dX5_life_84 : decode cX5_life 84 = .ok (.invokestatic 100, 3) := by decide +kernel
theorem dX5_life_87 : decode cX5_life 87 = .ok (.ireturn, 1) := by decide +kernel
theorem dX5_life_88 : decode cX5_life 88 = .ok (.aload_n 0, 1) := by decide +kernel
theorem dX5_life_89 : decode cX5_life 89 = .ok (.getfield 53, 3) := by decide +kernel
theorem dX5_life_92 : decode cX5_life 92 = .ok (.getfield 141, 3) := by decide +kernel
theorem dX5_life_95 : decode cX5_life 95 = .ok (.iload_n 1, 1) := by decide +kernel
theorem dX5_life_96 : decode cX5_life 96 = .ok (.invokestatic 100, 3) := by decide +kernel
theorem dX5_life_99 : decode cX5_life 99 = .ok (.ireturn, 1) := by decide +kernel
theorem dX5_life_100 : decode cX5_life 100 = .ok (.aload_n 0, 1) := by decide +kernel
theorem dX5_life_101 : decode cX5_life 101 = .ok (.getfield 53, 3) := by decide +kernel
theorem dX5_life_104 : decode cX5_life 104 = .ok (.iload_n 1, 1) := by decide +kernel
theorem dX5_life_105 : decode cX5_life 105 = .ok (.aload_n 0, 1) := by decide +kernel
theorem dX5_life_106 : decode cX5_life 106 = .ok (.getfield 60, 3) := by decide +kernel
theorem dX5_life_109 : decode cX5_life 109 = .ok (.getfield 110, 3) := by decide +kernel
theorem dX5_life_112 : decode cX5_life 112 = .ok (.invokevirtual 144, 3) := by decide +kernel
theorem dX5_life_115 : decode cX5_life 115 = .ok (.invokestatic 117, 3) := by decide +kernel
theorem dX5_life_118 : decode cX5_life 118 = .ok (.ireturn, 1) := by decide +kernel
theorem dX5_life_119 : decode cX5_life 119 = .ok (.aload_n 0, 1) := by decide +kernel
theorem dX5_life_120 : decode cX5_life 120 = .ok (.getfield 60, 3) := by decide +kernel
theorem dX5_life_123 : decode cX5_life 123 = .ok (.getfield 147, 3) := by decide +kernel
theorem dX5_life_126 : decode cX5_life 126 = .ok (.iload_n 1, 1) := by decide +kernel
theorem dX5_life_127 : decode cX5_life 127 = .ok (.invokestatic 113, 3) := by decide +kernel
theorem dX5_life_130 : decode cX5_life 130 = .ok (.invokestatic 117, 3) := by decide +kernel
theorem dX5_life_133 : decode cX5_life 133 = .ok (.ireturn, 1) := by decide +kernel
theorem dX5_life_134 : decode cX5_life 134 = .ok (.iconst (-1), 1) := by decide +kernel
theorem dX5_life_135 : decode cX5_life 135 = .ok (.ireturn, 1) := by decide +kernel
theorem dX5_room_0 : decode cX5_room 0 = .ok (.aload_n 0, 1) := by decide +kernel
theorem dX5_room_1 : decode cX5_room 1 = .ok (.getfield 53, 3) := by decide +kernel
theorem dX5_room_4 : decode cX5_room 4 = .ok (.aload_n 0, 1) := by decide +kernel
theorem dX5_room_5 : decode cX5_room 5 = .ok (.getfield 60, 3) := by decide +kernel
theorem dX5_room_8 : decode cX5_room 8 = .ok (.getfield 110, 3) := by decide +kernel
theorem dX5_room_11 : decode cX5_room 11 = .ok (.invokevirtual 150, 3) := by decide +kernel
theorem dX5_room_14 : decode cX5_room 14 = .ok (.ireturn, 1) := by decide +kernel
theorem dX5_worth_0 : decode cX5_worth 0 = .ok (.aload_n 0, 1) := by decide +kernel
theorem dX5_worth_1 : decode cX5_worth 1 = .ok (.getfield 53, 3) := by decide +kernel
theorem dX5_worth_4 : decode cX5_worth 4 = .ok (.iload_n 1, 1) := by decide +kernel
theorem dX5_worth_5 : decode cX5_worth 5 = .ok (.invokevirtual 153, 3) := by decide +kernel
theorem dX5_worth_8 : decode cX5_worth 8 = .ok (.ifCond .eq 10, 3) := by decide +kernel
theorem dX5_worth_11 : decode cX5_worth 11 = .ok (.iload_n 2, 1) := by decide +kernel
theorem dX5_worth_12 : decode cX5_worth 12 = .ok (.invokestatic 156, 3) := by decide +kernel
theorem dX5_worth_15 : decode cX5_worth 15 = .ok (.ifCond .ne 5, 3) := by decide +kernel
theorem dX5_worth_18 : decode cX5_worth 18 = .ok (.iconst (-1), 1) := by decide +kernel
theorem dX5_worth_19 : decode cX5_worth 19 = .ok (.ireturn, 1) := by decide +kernel
theorem dX5_worth_20 : decode cX5_worth 20 = .ok (.aload_n 0, 1) := by decide +kernel
theorem dX5_worth_21 : decode cX5_worth 21 = .ok (.iload_n 1, 1) := by decide +kernel
theorem dX5_worth_22 : decode cX5_worth 22 = .ok (.iload_n 2, 1) := by decide +kernel
theorem dX5_worth_23 : decode cX5_worth 23 = .ok (.invokevirtual 159, 3) := by decide +kernel
theorem dX5_worth_26 : decode cX5_worth 26 = .ok (.ireturn, 1) := by decide +kernel
theorem dX5_put_0 : decode cX5_put 0 = .ok (.aload_n 0, 1) := by decide +kernel
theorem dX5_put_1 : decode cX5_put 1 = .ok (.getfield 53, 3) := by decide +kernel
theorem dX5_put_4 : decode cX5_put 4 = .ok (.iload_n 1, 1) := by decide +kernel
theorem dX5_put_5 : decode cX5_put 5 = .ok (.invokevirtual 92, 3) := by decide +kernel
theorem dX5_put_8 : decode cX5_put 8 = .ok (.ifCond .ne 5, 3) := by decide +kernel
theorem dX5_put_11 : decode cX5_put 11 = .ok (.iconst (-1), 1) := by decide +kernel
theorem dX5_put_12 : decode cX5_put 12 = .ok (.ireturn, 1) := by decide +kernel
theorem dX5_put_13 : decode cX5_put 13 = .ok (.aload_n 0, 1) := by decide +kernel
theorem dX5_put_14 : decode cX5_put 14 = .ok (.getfield 60, 3) := by decide +kernel
theorem dX5_put_17 : decode cX5_put 17 = .ok (.aload_n 0, 1) := by decide +kernel
theorem dX5_put_18 : decode cX5_put 18 = .ok (.getfield 53, 3) := by decide +kernel
theorem dX5_put_21 : decode cX5_put 21 = .ok (.iload_n 1, 1) := by decide +kernel
theorem dX5_put_22 : decode cX5_put 22 = .ok (.invokevirtual 121, 3) := by decide +kernel
theorem dX5_put_25 : decode cX5_put 25 = .ok (.ifCond .ne 6, 3) := by decide +kernel
theorem dX5_put_28 : decode cX5_put 28 = .ok (.bipush (-2), 2) := by decide +kernel
theorem dX5_put_30 : decode cX5_put 30 = .ok (.ireturn, 1) := by decide +kernel
theorem dX5_put_31 : decode cX5_put 31 = .ok (.aload_n 0, 1) := by decide +kernel
theorem dX5_put_32 : decode cX5_put 32 = .ok (.getfield 72, 3) := by decide +kernel
theorem dX5_put_35 : decode cX5_put 35 = .ok (.aload_n 0, 1) := by decide +kernel
theorem dX5_put_36 : decode cX5_put 36 = .ok (.getfield 60, 3) := by decide +kernel
theorem dX5_put_39 : decode cX5_put 39 = .ok (.invokevirtual 163, 3) := by decide +kernel
theorem dX5_put_42 : decode cX5_put 42 = .ok (.aload_n 0, 1) := by decide +kernel
theorem dX5_put_43 : decode cX5_put 43 = .ok (.getfield 60, 3) := by decide +kernel
theorem dX5_put_46 : decode cX5_put 46 = .ok (.aload_n 0, 1) := by decide +kernel
theorem dX5_put_47 : decode cX5_put 47 = .ok (.getfield 53, 3) := by decide +kernel
theorem dX5_put_50 : decode cX5_put 50 = .ok (.iload_n 1, 1) := by decide +kernel
theorem dX5_put_51 : decode cX5_put 51 = .ok (.invokevirtual 167, 3) := by decide +kernel
theorem dX5_put_54 : decode cX5_put 54 = .ok (.aload_n 0, 1) := by decide +kernel
theorem dX5_put_55 : decode cX5_put 55 = .ok (.invokevirtual 171, 3) := by decide +kernel
theorem dX5_put_58 : decode cX5_put 58 = .ok (.ireturn, 1) := by decide +kernel
theorem dX5_out_0 : decode cX5_out 0 = .ok (.aload_n 0, 1) := by decide +kernel
theorem dX5_out_1 : decode cX5_out 1 = .ok (.getfield 53, 3) := by decide +kernel
theorem dX5_out_4 : decode cX5_out 4 = .ok (.iload_n 1, 1) := by decide +kernel
theorem dX5_out_5 : decode cX5_out 5 = .ok (.invokevirtual 92, 3) := by decide +kernel
theorem dX5_out_8 : decode cX5_out 8 = .ok (.ifCond .ne 5, 3) := by decide +kernel
theorem dX5_out_11 : decode cX5_out 11 = .ok (.iconst (-1), 1) := by decide +kernel
theorem dX5_out_12 : decode cX5_out 12 = .ok (.ireturn, 1) := by decide +kernel
theorem dX5_out_13 : decode cX5_out 13 = .ok (.aload_n 0, 1) := by decide +kernel
theorem dX5_out_14 : decode cX5_out 14 = .ok (.getfield 60, 3) := by decide +kernel
theorem dX5_out_17 : decode cX5_out 17 = .ok (.getfield 110, 3) := by decide +kernel
theorem dX5_out_20 : decode cX5_out 20 = .ok (.iload_n 1, 1) := by decide +kernel
theorem dX5_out_21 : decode cX5_out 21 = .ok (.invokestatic 113, 3) := by decide +kernel
theorem dX5_out_24 : decode cX5_out 24 = .ok (.ifCond .ne 6, 3) := by decide +kernel
theorem dX5_out_27 : decode cX5_out 27 = .ok (.bipush (-2), 2) := by decide +kernel
theorem dX5_out_29 : decode cX5_out 29 = .ok (.ireturn, 1) := by decide +kernel
theorem dX5_out_30 : decode cX5_out 30 = .ok (.aload_n 0, 1) := by decide +kernel
theorem dX5_out_31 : decode cX5_out 31 = .ok (.getfield 72, 3) := by decide +kernel
theorem dX5_out_34 : decode cX5_out 34 = .ok (.aload_n 0, 1) := by decide +kernel
theorem dX5_out_35 : decode cX5_out 35 = .ok (.getfield 60, 3) := by decide +kernel
theorem dX5_out_38 : decode cX5_out 38 = .ok (.invokevirtual 163, 3) := by decide +kernel
theorem dX5_out_41 : decode cX5_out 41 = .ok (.aload_n 0, 1) := by decide +kernel
theorem dX5_out_42 : decode cX5_out 42 = .ok (.getfield 60, 3) := by decide +kernel
theorem dX5_out_45 : decode cX5_out 45 = .ok (.iload_n 1, 1) := by decide +kernel
theorem dX5_out_46 : decode cX5_out 46 = .ok (.invokevirtual 174, 3) := by decide +kernel
theorem dX5_out_49 : decode cX5_out 49 = .ok (.aload_n 0, 1) := by decide +kernel
theorem dX5_out_50 : decode cX5_out 50 = .ok (.invokevirtual 171, 3) := by decide +kernel
theorem dX5_out_53 : decode cX5_out 53 = .ok (.ireturn, 1) := by decide +kernel
theorem dX5_live_0 : decode cX5_live 0 = .ok (.aload_n 0, 1) := by decide +kernel
theorem dX5_live_1 : decode cX5_live 1 = .ok (.getfield 53, 3) := by decide +kernel
theorem dX5_live_4 : decode cX5_live 4 = .ok (.iload_n 1, 1) := by decide +kernel
theorem dX5_live_5 : decode cX5_live 5 = .ok (.invokevirtual 129, 3) := by decide +kernel
theorem dX5_live_8 : decode cX5_live 8 = .ok (.ifCond .ne 5, 3) := by decide +kernel
theorem dX5_live_11 : decode cX5_live 11 = .ok (.iconst (-1), 1) := by decide +kernel
theorem dX5_live_12 : decode cX5_live 12 = .ok (.ireturn, 1) := by decide +kernel
theorem dX5_live_13 : decode cX5_live 13 = .ok (.aload_n 0, 1) := by decide +kernel
theorem dX5_live_14 : decode cX5_live 14 = .ok (.getfield 60, 3) := by decide +kernel
theorem dX5_live_17 : decode cX5_live 17 = .ok (.aload_n 0, 1) := by decide +kernel
theorem dX5_live_18 : decode cX5_live 18 = .ok (.getfield 53, 3) := by decide +kernel
theorem dX5_live_21 : decode cX5_live 21 = .ok (.iload_n 1, 1) := by decide +kernel
theorem dX5_live_22 : decode cX5_live 22 = .ok (.invokevirtual 177, 3) := by decide +kernel
theorem dX5_live_25 : decode cX5_live 25 = .ok (.ifCond .ne 6, 3) := by decide +kernel
theorem dX5_live_28 : decode cX5_live 28 = .ok (.bipush (-2), 2) := by decide +kernel
theorem dX5_live_30 : decode cX5_live 30 = .ok (.ireturn, 1) := by decide +kernel
theorem dX5_live_31 : decode cX5_live 31 = .ok (.aload_n 0, 1) := by decide +kernel
theorem dX5_live_32 : decode cX5_live 32 = .ok (.getfield 72, 3) := by decide +kernel
theorem dX5_live_35 : decode cX5_live 35 = .ok (.aload_n 0, 1) := by decide +kernel
theorem dX5_live_36 : decode cX5_live 36 = .ok (.getfield 60, 3) := by decide +kernel
theorem dX5_live_39 : decode cX5_live 39 = .ok (.invokevirtual 163, 3) := by decide +kernel
theorem dX5_live_42 : decode cX5_live 42 = .ok (.aload_n 0, 1) := by decide +kernel
theorem dX5_live_43 : decode cX5_live 43 = .ok (.getfield 60, 3) := by decide +kernel
theorem dX5_live_46 : decode cX5_live 46 = .ok (.aload_n 0, 1) := by decide +kernel
theorem dX5_live_47 : decode cX5_live 47 = .ok (.getfield 53, 3) := by decide +kernel
theorem dX5_live_50 : decode cX5_live 50 = .ok (.iload_n 1, 1) := by decide +kernel
theorem dX5_live_51 : decode cX5_live 51 = .ok (.invokevirtual 180, 3) := by decide +kernel
theorem dX5_live_54 : decode cX5_live 54 = .ok (.ireturn, 1) := by decide +kernel
theorem dX5_pass_0 : decode cX5_pass 0 = .ok (.iload_n 1, 1) := by decide +kernel
theorem dX5_pass_1 : decode cX5_pass 1 = .ok (.iconst 1, 1) := by decide +kernel
theorem dX5_pass_2 : decode cX5_pass 2 = .ok (.if_icmp .lt 9, 3) := by decide +kernel
theorem dX5_pass_5 : decode cX5_pass 5 = .ok (.iload_n 1, 1) := by decide +kernel
theorem dX5_pass_6 : decode cX5_pass 6 = .ok (.bipush 20, 2) := by decide +kernel
theorem dX5_pass_8 : decode cX5_pass 8 = .ok (.if_icmp .le 5, 3) := by decide +kernel
theorem dX5_pass_11 : decode cX5_pass 11 = .ok (.iconst (-1), 1) := by decide +kernel
theorem dX5_pass_12 : decode cX5_pass 12 = .ok (.ireturn, 1) := by decide +kernel
theorem dX5_pass_13 : decode cX5_pass 13 = .ok (.aload_n 0, 1) := by decide +kernel
theorem dX5_pass_14 : decode cX5_pass 14 = .ok (.getfield 72, 3) := by decide +kernel
theorem dX5_pass_17 : decode cX5_pass 17 = .ok (.aload_n 0, 1) := by decide +kernel
theorem dX5_pass_18 : decode cX5_pass 18 = .ok (.getfield 60, 3) := by decide +kernel
theorem dX5_pass_21 : decode cX5_pass 21 = .ok (.invokevirtual 163, 3) := by decide +kernel
theorem dX5_pass_24 : decode cX5_pass 24 = .ok (.aload_n 0, 1) := by decide +kernel
theorem dX5_pass_25 : decode cX5_pass 25 = .ok (.getfield 60, 3) := by decide +kernel
theorem dX5_pass_28 : decode cX5_pass 28 = .ok (.aload_n 0, 1) := by decide +kernel
theorem dX5_pass_29 : decode cX5_pass 29 = .ok (.getfield 53, 3) := by decide +kernel
theorem dX5_pass_32 : decode cX5_pass 32 = .ok (.iload_n 1, 1) := by decide +kernel
theorem dX5_pass_33 : decode cX5_pass 33 = .ok (.invokevirtual 184, 3) := by decide +kernel
theorem dX5_pass_36 : decode cX5_pass 36 = .ok (.aload_n 0, 1) := by decide +kernel
theorem dX5_pass_37 : decode cX5_pass 37 = .ok (.getfield 60, 3) := by decide +kernel
theorem dX5_pass_40 : decode cX5_pass 40 = .ok (.getfield 187, 3) := by decide +kernel
theorem dX5_pass_43 : decode cX5_pass 43 = .ok (.ireturn, 1) := by decide +kernel
theorem dX5_undo_0 : decode cX5_undo 0 = .ok (.aload_n 0, 1) := by decide +kernel
theorem dX5_undo_1 : decode cX5_undo 1 = .ok (.getfield 72, 3) := by decide +kernel
theorem dX5_undo_4 : decode cX5_undo 4 = .ok (.getfield 190, 3) := by decide +kernel
theorem dX5_undo_7 : decode cX5_undo 7 = .ok (.ifCond .ne 6, 3) := by decide +kernel
theorem dX5_undo_10 : decode cX5_undo 10 = .ok (.bipush (-2), 2) := by decide +kernel
theorem dX5_undo_12 : decode cX5_undo 12 = .ok (.ireturn, 1) := by decide +kernel
theorem dX5_undo_13 : decode cX5_undo 13 = .ok (.aload_n 0, 1) := by decide +kernel
theorem dX5_undo_14 : decode cX5_undo 14 = .ok (.getfield 72, 3) := by decide +kernel
theorem dX5_undo_17 : decode cX5_undo 17 = .ok (.aload_n 0, 1) := by decide +kernel
theorem dX5_undo_18 : decode cX5_undo 18 = .ok (.getfield 60, 3) := by decide +kernel
theorem dX5_undo_21 : decode cX5_undo 21 = .ok (.invokevirtual 193, 3) := by decide +kernel
theorem dX5_undo_24 : decode cX5_undo 24 = .ok (.aload_n 0, 1) := by decide +kernel
theorem dX5_undo_25 : decode cX5_undo 25 = .ok (.getfield 72, 3) := by decide +kernel
theorem dX5_undo_28 : decode cX5_undo 28 = .ok (.getfield 190, 3) := by decide +kernel
theorem dX5_undo_31 : decode cX5_undo 31 = .ok (.ireturn, 1) := by decide +kernel
theorem dX5_best_0 : decode cX5_best 0 = .ok (.iload_n 1, 1) := by decide +kernel
theorem dX5_best_1 : decode cX5_best 1 = .ok (.ifCond .lt 18, 3) := by decide +kernel
theorem dX5_best_4 : decode cX5_best 4 = .ok (.iload_n 1, 1) := by decide +kernel
theorem dX5_best_5 : decode cX5_best 5 = .ok (.bipush 20, 2) := by decide +kernel
theorem dX5_best_7 : decode cX5_best 7 = .ok (.if_icmp .gt 12, 3) := by decide +kernel
theorem dX5_best_10 : decode cX5_best 10 = .ok (.iload_n 2, 1) := by decide +kernel
theorem dX5_best_11 : decode cX5_best 11 = .ok (.ifCond .lt 8, 3) := by decide +kernel
theorem dX5_best_14 : decode cX5_best 14 = .ok (.iload_n 2, 1) := by decide +kernel
theorem dX5_best_15 : decode cX5_best 15 = .ok (.iconst 2, 1) := by decide +kernel
theorem dX5_best_16 : decode cX5_best 16 = .ok (.if_icmp .le 5, 3) := by decide +kernel
theorem dX5_best_19 : decode cX5_best 19 = .ok (.iconst (-1), 1) := by decide +kernel
theorem dX5_best_20 : decode cX5_best 20 = .ok (.ireturn, 1) := by decide +kernel
theorem dX5_best_21 : decode cX5_best 21 = .ok (.aload_n 0, 1) := by decide +kernel
theorem dX5_best_22 : decode cX5_best 22 = .ok (.getfield 49, 3) := by decide +kernel
theorem dX5_best_25 : decode cX5_best 25 = .ok (.aload_n 0, 1) := by decide +kernel
theorem dX5_best_26 : decode cX5_best 26 = .ok (.getfield 53, 3) := by decide +kernel
theorem dX5_best_29 : decode cX5_best 29 = .ok (.aload_n 0, 1) := by decide +kernel
theorem dX5_best_30 : decode cX5_best 30 = .ok (.getfield 60, 3) := by decide +kernel
theorem dX5_best_33 : decode cX5_best 33 = .ok (.iload_n 1, 1) := by decide +kernel
theorem dX5_best_34 : decode cX5_best 34 = .ok (.invokevirtual 196, 3) := by decide +kernel
theorem dX5_best_37 : decode cX5_best 37 = .ok (.istore_n 3, 1) := by decide +kernel
theorem dX5_best_38 : decode cX5_best 38 = .ok (.iload_n 2, 1) := by decide +kernel
theorem dX5_best_39 : decode cX5_best 39 = .ok (.ifCond .ne 7, 3) := by decide +kernel
theorem dX5_best_42 : decode cX5_best 42 = .ok (.iload_n 3, 1) := by decide +kernel
theorem dX5_best_43 : decode cX5_best 43 = .ok (.goto 11, 3) := by decide +kernel
theorem dX5_best_46 : decode cX5_best 46 = .ok (.aload_n 0, 1) := by decide +kernel
theorem dX5_best_47 : decode cX5_best 47 = .ok (.iload_n 3, 1) := by decide +kernel
theorem dX5_best_48 : decode cX5_best 48 = .ok (.iload_n 2, 1) := by decide +kernel
theorem dX5_best_49 : decode cX5_best 49 = .ok (.iconst 1, 1) := by decide +kernel
theorem dX5_best_50 : decode cX5_best 50 = .ok (.isub, 1) := by decide +kernel
theorem dX5_best_51 : decode cX5_best 51 = .ok (.invokevirtual 159, 3) := by decide +kernel
theorem dX5_best_54 : decode cX5_best 54 = .ok (.ireturn, 1) := by decide +kernel
theorem dX5_cover_0 : decode cX5_cover 0 = .ok (.aload_n 0, 1) := by decide +kernel
theorem dX5_cover_1 : decode cX5_cover 1 = .ok (.getfield 53, 3) := by decide +kernel
theorem dX5_cover_4 : decode cX5_cover 4 = .ok (.iload_n 1, 1) := by decide +kernel
theorem dX5_cover_5 : decode cX5_cover 5 = .ok (.invokevirtual 200, 3) := by decide +kernel
theorem dX5_cover_8 : decode cX5_cover 8 = .ok (.ifCond .eq 12, 3) := by decide +kernel
theorem dX5_cover_11 : decode cX5_cover 11 = .ok (.iload_n 2, 1) := by decide +kernel
theorem dX5_cover_12 : decode cX5_cover 12 = .ok (.ifCond .lt 8, 3) := by decide +kernel
theorem dX5_cover_15 : decode cX5_cover 15 = .ok (.iload_n 2, 1) := by decide +kernel
theorem dX5_cover_16 : decode cX5_cover 16 = .ok (.iconst 2, 1) := by decide +kernel
theorem dX5_cover_17 : decode cX5_cover 17 = .ok (.if_icmp .le 5, 3) := by decide +kernel
theorem dX5_cover_20 : decode cX5_cover 20 = .ok (.iconst (-1), 1) := by decide +kernel
theorem dX5_cover_21 : decode cX5_cover 21 = .ok (.ireturn, 1) := by decide +kernel
theorem dX5_cover_22 : decode cX5_cover 22 = .ok (.aload_n 0, 1) := by decide +kernel
theorem dX5_cover_23 : decode cX5_cover 23 = .ok (.getfield 49, 3) := by decide +kernel
theorem dX5_cover_26 : decode cX5_cover 26 = .ok (.aload_n 0, 1) := by decide +kernel
theorem dX5_cover_27 : decode cX5_cover 27 = .ok (.getfield 53, 3) := by decide +kernel
theorem dX5_cover_30 : decode cX5_cover 30 = .ok (.iload_n 1, 1) := by decide +kernel
theorem dX5_cover_31 : decode cX5_cover 31 = .ok (.invokevirtual 203, 3) := by decide +kernel
theorem dX5_cover_34 : decode cX5_cover 34 = .ok (.istore_n 3, 1) := by decide +kernel
theorem dX5_cover_35 : decode cX5_cover 35 = .ok (.iload_n 2, 1) := by decide +kernel
theorem dX5_cover_36 : decode cX5_cover 36 = .ok (.ifCond .ne 5, 3) := by decide +kernel
theorem dX5_cover_39 : decode cX5_cover 39 = .ok (.iload_n 3, 1) := by decide +kernel
theorem dX5_cover_40 : decode cX5_cover 40 = .ok (.ireturn, 1) := by decide +kernel
theorem dX5_cover_41 : decode cX5_cover 41 = .ok (.iload_n 2, 1) := by decide +kernel
theorem dX5_cover_42 : decode cX5_cover 42 = .ok (.iconst 1, 1) := by decide +kernel
theorem dX5_cover_43 : decode cX5_cover 43 = .ok (.if_icmp .ne 10, 3) := by decide +kernel
theorem dX5_cover_46 : decode cX5_cover 46 = .ok (.iload_n 3, 1) := by decide +kernel
theorem dX5_cover_47 : decode cX5_cover 47 = .ok (.invokestatic 206, 3) := by decide +kernel
theorem dX5_cover_50 : decode cX5_cover 50 = .ok (.goto 11, 3) := by decide +kernel
theorem dX5_cover_53 : decode cX5_cover 53 = .ok (.aload_n 0, 1) := by decide +kernel
theorem dX5_cover_54 : decode cX5_cover 54 = .ok (.getfield 53, 3) := by decide +kernel
theorem dX5_cover_57 : decode cX5_cover 57 = .ok (.iload_n 3, 1) := by decide +kernel
theorem dX5_cover_58 : decode cX5_cover 58 = .ok (.invokevirtual 150, 3) := by decide +kernel
theorem dX5_cover_61 : decode cX5_cover 61 = .ok (.ireturn, 1) := by decide +kernel
theorem dX5_serves_0 : decode cX5_serves 0 = .ok (.aload_n 0, 1) := by decide +kernel
theorem dX5_serves_1 : decode cX5_serves 1 = .ok (.getfield 49, 3) := by decide +kernel
theorem dX5_serves_4 : decode cX5_serves 4 = .ok (.aload_n 0, 1) := by decide +kernel
theorem dX5_serves_5 : decode cX5_serves 5 = .ok (.getfield 53, 3) := by decide +kernel
theorem dX5_serves_8 : decode cX5_serves 8 = .ok (.aload_n 0, 1) := by decide +kernel
theorem dX5_serves_9 : decode cX5_serves 9 = .ok (.getfield 60, 3) := by decide +kernel
theorem dX5_serves_12 : decode cX5_serves 12 = .ok (.getfield 110, 3) := by decide +kernel
theorem dX5_serves_15 : decode cX5_serves 15 = .ok (.invokevirtual 211, 3) := by decide +kernel
theorem dX5_serves_18 : decode cX5_serves 18 = .ok (.ireturn, 1) := by decide +kernel
theorem dX5_row_0 : decode cX5_row 0 = .ok (.iload_n 1, 1) := by decide +kernel
theorem dX5_row_1 : decode cX5_row 1 = .ok (.ifCond .lt 9, 3) := by decide +kernel
theorem dX5_row_4 : decode cX5_row 4 = .ok (.iload_n 1, 1) := by decide +kernel
theorem dX5_row_5 : decode cX5_row 5 = .ok (.bipush 6, 2) := by decide +kernel
theorem dX5_row_7 : decode cX5_row 7 = .ok (.if_icmp .le 5, 3) := by decide +kernel
theorem dX5_row_10 : decode cX5_row 10 = .ok (.iconst (-1), 1) := by decide +kernel
theorem dX5_row_11 : decode cX5_row 11 = .ok (.ireturn, 1) := by decide +kernel
theorem dX5_row_12 : decode cX5_row 12 = .ok (.aload_n 0, 1) := by decide +kernel
theorem dX5_row_13 : decode cX5_row 13 = .ok (.getfield 49, 3) := by decide +kernel
theorem dX5_row_16 : decode cX5_row 16 = .ok (.aload_n 0, 1) := by decide +kernel
theorem dX5_row_17 : decode cX5_row 17 = .ok (.getfield 53, 3) := by decide +kernel
theorem dX5_row_20 : decode cX5_row 20 = .ok (.aload_n 0, 1) := by decide +kernel
theorem dX5_row_21 : decode cX5_row 21 = .ok (.getfield 60, 3) := by decide +kernel
theorem dX5_row_24 : decode cX5_row 24 = .ok (.iload_n 1, 1) := by decide +kernel
theorem dX5_row_25 : decode cX5_row 25 = .ok (.invokevirtual 214, 3) := by decide +kernel
theorem dX5_row_28 : decode cX5_row 28 = .ok (.ireturn, 1) := by decide +kernel
theorem dX5_bargain_0 : decode cX5_bargain 0 = .ok (.aload_n 0, 1) := by decide +kernel
theorem dX5_bargain_1 : decode cX5_bargain 1 = .ok (.getfield 49, 3) := by decide +kernel
theorem dX5_bargain_4 : decode cX5_bargain 4 = .ok (.aload_n 0, 1) := by decide +kernel
theorem dX5_bargain_5 : decode cX5_bargain 5 = .ok (.getfield 53, 3) := by decide +kernel
theorem dX5_bargain_8 : decode cX5_bargain 8 = .ok (.aload_n 0, 1) := by decide +kernel
theorem dX5_bargain_9 : decode cX5_bargain 9 = .ok (.getfield 53, 3) := by decide +kernel
theorem dX5_bargain_12 : decode cX5_bargain 12 = .ok (.aload_n 0, 1) := by decide +kernel
theorem dX5_bargain_13 : decode cX5_bargain 13 = .ok (.getfield 60, 3) := by decide +kernel
theorem dX5_bargain_16 : decode cX5_bargain 16 = .ok (.getfield 110, 3) := by decide +kernel
theorem dX5_bargain_19 : decode cX5_bargain 19 = .ok (.invokevirtual 217, 3) := by decide +kernel
theorem dX5_bargain_22 : decode cX5_bargain 22 = .ok (.invokevirtual 220, 3) := by decide +kernel
theorem dX5_bargain_25 : decode cX5_bargain 25 = .ok (.ireturn, 1) := by decide +kernel
theorem dX5_talk_0 : decode cX5_talk 0 = .ok (.iload_n 1, 1) := by decide +kernel
theorem dX5_talk_1 : decode cX5_talk 1 = .ok (.ifCond .lt 8, 3) := by decide +kernel
theorem dX5_talk_4 : decode cX5_talk 4 = .ok (.iload_n 1, 1) := by decide +kernel
theorem dX5_talk_5 : decode cX5_talk 5 = .ok (.iconst 1, 1) := by decide +kernel
theorem dX5_talk_6 : decode cX5_talk 6 = .ok (.if_icmp .le 5, 3) := by decide +kernel
theorem dX5_talk_9 : decode cX5_talk 9 = .ok (.iconst (-1), 1) := by decide +kernel
theorem dX5_talk_10 : decode cX5_talk 10 = .ok (.ireturn, 1) := by decide +kernel
theorem dX5_talk_11 : decode cX5_talk 11 = .ok (.aload_n 0, 1) := by decide +kernel
theorem dX5_talk_12 : decode cX5_talk 12 = .ok (.getfield 53, 3) := by decide +kernel
theorem dX5_talk_15 : decode cX5_talk 15 = .ok (.aload_n 0, 1) := by decide +kernel
theorem dX5_talk_16 : decode cX5_talk 16 = .ok (.getfield 60, 3) := by decide +kernel
theorem dX5_talk_19 : decode cX5_talk 19 = .ok (.getfield 110, 3) := by decide +kernel
theorem dX5_talk_22 : decode cX5_talk 22 = .ok (.invokevirtual 217, 3) := by decide +kernel
theorem dX5_talk_25 : decode cX5_talk 25 = .ok (.istore_n 2, 1) := by decide +kernel
theorem dX5_talk_26 : decode cX5_talk 26 = .ok (.iload_n 1, 1) := by decide +kernel
theorem dX5_talk_27 : decode cX5_talk 27 = .ok (.ifCond .ne 18, 3) := by decide +kernel
theorem dX5_talk_30 : decode cX5_talk 30 = .ok (.aload_n 0, 1) := by decide +kernel
theorem dX5_talk_31 : decode cX5_talk 31 = .ok (.getfield 49, 3) := by decide +kernel
theorem dX5_talk_34 : decode cX5_talk 34 = .ok (.aload_n 0, 1) := by decide +kernel
theorem dX5_talk_35 : decode cX5_talk 35 = .ok (.getfield 53, 3) := by decide +kernel
theorem dX5_talk_38 : decode cX5_talk 38 = .ok (.iload_n 2, 1) := by decide +kernel
theorem dX5_talk_39 : decode cX5_talk 39 = .ok (.invokevirtual 223, 3) := by decide +kernel
theorem dX5_talk_42 : decode cX5_talk 42 = .ok (.goto 15, 3) := by decide +kernel
theorem dX5_talk_45 : decode cX5_talk 45 = .ok (.aload_n 0, 1) := by decide +kernel
theorem dX5_talk_46 : decode cX5_talk 46 = .ok (.getfield 49, 3) := by decide +kernel
theorem dX5_talk_49 : decode cX5_talk 49 = .ok (.aload_n 0, 1) := by decide +kernel
theorem dX5_talk_50 : decode cX5_talk 50 = .ok (.getfield 53, 3) := by decide +kernel
theorem dX5_talk_53 : decode cX5_talk 53 = .ok (.iload_n 2, 1) := by decide +kernel
theorem dX5_talk_54 : decode cX5_talk 54 = .ok (.invokevirtual 226, 3) := by decide +kernel
theorem dX5_talk_57 : decode cX5_talk 57 = .ok (.ireturn, 1) := by decide +kernel
theorem dX5_see_0 : decode cX5_see 0 = .ok (.aload_n 0, 1) := by decide +kernel
theorem dX5_see_1 : decode cX5_see 1 = .ok (.getfield 53, 3) := by decide +kernel
theorem dX5_see_4 : decode cX5_see 4 = .ok (.iload_n 1, 1) := by decide +kernel
theorem dX5_see_5 : decode cX5_see 5 = .ok (.invokevirtual 92, 3) := by decide +kernel
theorem dX5_see_8 : decode cX5_see 8 = .ok (.ifCond .ne 5, 3) := by decide +kernel
theorem dX5_see_11 : decode cX5_see 11 = .ok (.iconst (-1), 1) := by decide +kernel
theorem dX5_see_12 : decode cX5_see 12 = .ok (.ireturn, 1) := by decide +kernel
theorem dX5_see_13 : decode cX5_see 13 = .ok (.aload_n 0, 1) := by decide +kernel
theorem dX5_see_14 : decode cX5_see 14 = .ok (.getfield 229, 3) := by decide +kernel
theorem dX5_see_17 : decode cX5_see 17 = .ok (.bipush 8, 2) := by decide +kernel
theorem dX5_see_19 : decode cX5_see 19 = .ok (.if_icmp .lt 6, 3) := by decide +kernel
theorem dX5_see_22 : decode cX5_see 22 = .ok (.bipush (-3), 2) := by decide +kernel
theorem dX5_see_24 : decode cX5_see 24 = .ok (.ireturn, 1) := by decide +kernel
theorem dX5_see_25 : decode cX5_see 25 = .ok (.iload_n 2, 1) := by decide +kernel
theorem dX5_see_26 : decode cX5_see 26 = .ok (.ifCond .eq 18, 3) := by decide +kernel
theorem dX5_see_29 : decode cX5_see 29 = .ok (.aload_n 0, 1) := by decide +kernel
theorem dX5_see_30 : decode cX5_see 30 = .ok (.dup, 1) := by decide +kernel
theorem dX5_see_31 : decode cX5_see 31 = .ok (.getfield 232, 3) := by decide +kernel
theorem dX5_see_34 : decode cX5_see 34 = .ok (.iconst 1, 1) := by decide +kernel
theorem dX5_see_35 : decode cX5_see 35 = .ok (.iload_n 1, 1) := by decide +kernel
theorem dX5_see_36 : decode cX5_see 36 = .ok (.ishl, 1) := by decide +kernel
theorem dX5_see_37 : decode cX5_see 37 = .ok (.ior, 1) := by decide +kernel
theorem dX5_see_38 : decode cX5_see 38 = .ok (.putfield 232, 3) := by decide +kernel
theorem dX5_see_41 : decode cX5_see 41 = .ok (.goto 15, 3) := by decide +kernel
theorem dX5_see_44 : decode cX5_see 44 = .ok (.aload_n 0, 1) := by decide +kernel
theorem dX5_see_45 : decode cX5_see 45 = .ok (.dup, 1) := by decide +kernel
theorem dX5_see_46 : decode cX5_see 46 = .ok (.getfield 235, 3) := by decide +kernel
theorem dX5_see_49 : decode cX5_see 49 = .ok (.iconst 1, 1) := by decide +kernel
theorem dX5_see_50 : decode cX5_see 50 = .ok (.iload_n 1, 1) := by decide +kernel
theorem dX5_see_51 : decode cX5_see 51 = .ok (.ishl, 1) := by decide +kernel
theorem dX5_see_52 : decode cX5_see 52 = .ok (.ior, 1) := by decide +kernel
theorem dX5_see_53 : decode cX5_see 53 = .ok (.putfield 235, 3) := by decide +kernel
theorem dX5_see_56 : decode cX5_see 56 = .ok (.aload_n 0, 1) := by decide +kernel
theorem dX5_see_57 : decode cX5_see 57 = .ok (.dup, 1) := by decide +kernel
theorem dX5_see_58 : decode cX5_see 58 = .ok (.getfield 229, 3) := by decide +kernel
theorem dX5_see_61 : decode cX5_see 61 = .ok (.iconst 1, 1) := by decide +kernel
theorem dX5_see_62 : decode cX5_see 62 = .ok (.iadd, 1) := by decide +kernel
theorem dX5_see_63 : decode cX5_see 63 = .ok (.putfield 229, 3) := by decide +kernel
theorem dX5_see_66 : decode cX5_see 66 = .ok (.aload_n 0, 1) := by decide +kernel
theorem dX5_see_67 : decode cX5_see 67 = .ok (.getfield 229, 3) := by decide +kernel
theorem dX5_see_70 : decode cX5_see 70 = .ok (.ireturn, 1) := by decide +kernel
theorem dX5_forget_0 : decode cX5_forget 0 = .ok (.aload_n 0, 1) := by decide +kernel
theorem dX5_forget_1 : decode cX5_forget 1 = .ok (.getfield 229, 3) := by decide +kernel
theorem dX5_forget_4 : decode cX5_forget 4 = .ok (.istore_n 1, 1) := by decide +kernel
theorem dX5_forget_5 : decode cX5_forget 5 = .ok (.aload_n 0, 1) := by decide +kernel
theorem dX5_forget_6 : decode cX5_forget 6 = .ok (.iconst 0, 1) := by decide +kernel
theorem dX5_forget_7 : decode cX5_forget 7 = .ok (.putfield 229, 3) := by decide +kernel
theorem dX5_forget_10 : decode cX5_forget 10 = .ok (.aload_n 0, 1) := by decide +kernel
theorem dX5_forget_11 : decode cX5_forget 11 = .ok (.iconst 0, 1) := by decide +kernel
theorem dX5_forget_12 : decode cX5_forget 12 = .ok (.putfield 232, 3) := by decide +kernel
theorem dX5_forget_15 : decode cX5_forget 15 = .ok (.aload_n 0, 1) := by decide +kernel
theorem dX5_forget_16 : decode cX5_forget 16 = .ok (.iconst 0, 1) := by decide +kernel
theorem dX5_forget_17 : decode cX5_forget 17 = .ok (.putfield 235, 3) := by decide +kernel
theorem dX5_forget_20 : decode cX5_forget 20 = .ok (.iload_n 1, 1) := by decide +kernel
theorem dX5_forget_21 : decode cX5_forget 21 = .ok (.ireturn, 1) := by decide +kernel
theorem dX5_meant_0 : decode cX5_meant 0 = .ok (.iconst 0, 1) := by decide +kernel
theorem dX5_meant_1 : decode cX5_meant 1 = .ok (.istore_n 1, 1) := by decide +kernel
theorem dX5_meant_2 : decode cX5_meant 2 = .ok (.iconst 0, 1) := by decide +kernel
theorem dX5_meant_3 : decode cX5_meant 3 = .ok (.istore_n 2, 1) := by decide +kernel
theorem dX5_meant_4 : decode cX5_meant 4 = .ok (.iload_n 2, 1) := by decide +kernel
theorem dX5_meant_5 : decode cX5_meant 5 = .ok (.aload_n 0, 1) := by decide +kernel
theorem dX5_meant_6 : decode cX5_meant 6 = .ok (.getfield 53, 3) := by decide +kernel
theorem dX5_meant_9 : decode cX5_meant 9 = .ok (.getfield 82, 3) := by decide +kernel
theorem dX5_meant_12 : decode cX5_meant 12 = .ok (.if_icmp .ge 47, 3) := by decide +kernel
theorem dX5_meant_15 : decode cX5_meant 15 = .ok (.aload_n 0, 1) := by decide +kernel
theorem dX5_meant_16 : decode cX5_meant 16 = .ok (.getfield 53, 3) := by decide +kernel
theorem dX5_meant_19 : decode cX5_meant 19 = .ok (.getfield 141, 3) := by decide +kernel
theorem dX5_meant_22 : decode cX5_meant 22 = .ok (.iload_n 2, 1) := by decide +kernel
theorem dX5_meant_23 : decode cX5_meant 23 = .ok (.invokestatic 100, 3) := by decide +kernel
theorem dX5_meant_26 : decode cX5_meant 26 = .ok (.istore_n 3, 1) := by decide +kernel
theorem dX5_meant_27 : decode cX5_meant 27 = .ok (.aload_n 0, 1) := by decide +kernel
theorem dX5_meant_28 : decode cX5_meant 28 = .ok (.getfield 232, 3) := by decide +kernel
theorem dX5_meant_31 : decode cX5_meant 31 = .ok (.iload_n 3, 1) := by decide +kernel
theorem dX5_meant_32 : decode cX5_meant 32 = .ok (.iconst (-1), 1) := by decide +kernel
theorem dX5_meant_33 : decode cX5_meant 33 = .ok (.ixor, 1) := by decide +kernel
theorem dX5_meant_34 : decode cX5_meant 34 = .ok (.iand, 1) := by decide +kernel
theorem dX5_meant_35 : decode cX5_meant 35 = .ok (.ifCond .ne 18, 3) := by decide +kernel
theorem dX5_meant_38 : decode cX5_meant 38 = .ok (.aload_n 0, 1) := by decide +kernel
theorem dX5_meant_39 : decode cX5_meant 39 = .ok (.getfield 235, 3) := by decide +kernel
theorem dX5_meant_42 : decode cX5_meant 42 = .ok (.iload_n 3, 1) := by decide +kernel
theorem dX5_meant_43 : decode cX5_meant 43 = .ok (.iand, 1) := by decide +kernel
theorem dX5_meant_44 : decode cX5_meant 44 = .ok (.ifCond .ne 9, 3) := by decide +kernel
theorem dX5_meant_47 : decode cX5_meant 47 = .ok (.iload_n 1, 1) := by decide +kernel
theorem dX5_meant_48 : decode cX5_meant 48 = .ok (.iconst 1, 1) := by decide +kernel
theorem dX5_meant_49 : decode cX5_meant 49 = .ok (.iload_n 2, 1) := by decide +kernel
theorem dX5_meant_50 : decode cX5_meant 50 = .ok (.ishl, 1) := by decide +kernel
theorem dX5_meant_51 : decode cX5_meant 51 = .ok (.ior, 1) := by decide +kernel
theorem dX5_meant_52 : decode cX5_meant 52 = .ok (.istore_n 1, 1) := by decide +kernel
theorem dX5_meant_53 : decode cX5_meant 53 = .ok (.iinc 2 1, 3) := by decide +kernel
theorem dX5_meant_56 : decode cX5_meant 56 = .ok (.goto (-52), 3) := by decide +kernel
theorem dX5_meant_59 : decode cX5_meant 59 = .ok (.iload_n 1, 1) := by decide +kernel
theorem dX5_meant_60 : decode cX5_meant 60 = .ok (.ireturn, 1) := by decide +kernel
theorem dX5_moths_0 : decode cX5_moths 0 = .ok (.aload_n 0, 1) := by decide +kernel
theorem dX5_moths_1 : decode cX5_moths 1 = .ok (.getfield 53, 3) := by decide +kernel
theorem dX5_moths_4 : decode cX5_moths 4 = .ok (.iload_n 1, 1) := by decide +kernel
theorem dX5_moths_5 : decode cX5_moths 5 = .ok (.invokevirtual 129, 3) := by decide +kernel
theorem dX5_moths_8 : decode cX5_moths 8 = .ok (.ifCond .eq 20, 3) := by decide +kernel
theorem dX5_moths_11 : decode cX5_moths 11 = .ok (.iload_n 2, 1) := by decide +kernel
theorem dX5_moths_12 : decode cX5_moths 12 = .ok (.ifCond .lt 16, 3) := by decide +kernel
theorem dX5_moths_15 : decode cX5_moths 15 = .ok (.iload_n 2, 1) := by decide +kernel
theorem dX5_moths_16 : decode cX5_moths 16 = .ok (.bipush 10, 2) := by decide +kernel
theorem dX5_moths_18 : decode cX5_moths 18 = .ok (.if_icmp .gt 10, 3) := by decide +kernel
theorem dX5_moths_21 : decode cX5_moths 21 = .ok (.iload_n 3, 1) := by decide +kernel
theorem dX5_moths_22 : decode cX5_moths 22 = .ok (.invokestatic 156, 3) := by decide +kernel
theorem dX5_moths_25 : decode cX5_moths 25 = .ok (.ifCond .ne 5, 3) := by decide +kernel
theorem dX5_moths_28 : decode cX5_moths 28 = .ok (.iconst (-1), 1) := by decide +kernel
theorem dX5_moths_29 : decode cX5_moths 29 = .ok (.ireturn, 1) := by decide +kernel
theorem dX5_moths_30 : decode cX5_moths 30 = .ok (.bipush 10, 2) := by decide +kernel
theorem dX5_moths_32 : decode cX5_moths 32 = .ok (.aload_n 0, 1) := by decide +kernel
theorem dX5_moths_33 : decode cX5_moths 33 = .ok (.getfield 60, 3) := by decide +kernel
theorem dX5_moths_36 : decode cX5_moths 36 = .ok (.getfield 110, 3) := by decide +kernel
theorem dX5_moths_39 : decode cX5_moths 39 = .ok (.invokestatic 206, 3) := by decide +kernel
theorem dX5_moths_42 : decode cX5_moths 42 = .ok (.invokestatic 238, 3) := by decide +kernel
theorem dX5_moths_45 : decode cX5_moths 45 = .ok (.istore 4, 2) := by decide +kernel
theorem dX5_moths_47 : decode cX5_moths 47 = .ok (.aload_n 0, 1) := by decide +kernel
theorem dX5_moths_48 : decode cX5_moths 48 = .ok (.iload_n 1, 1) := by decide +kernel
theorem dX5_moths_49 : decode cX5_moths 49 = .ok (.iload_n 2, 1) := by decide +kernel
theorem dX5_moths_50 : decode cX5_moths 50 = .ok (.invokevirtual 241, 3) := by decide +kernel
theorem dX5_moths_53 : decode cX5_moths 53 = .ok (.iload 4, 2) := by decide +kernel
theorem dX5_moths_55 : decode cX5_moths 55 = .ok (.iload_n 3, 1) := by decide +kernel
theorem dX5_moths_56 : decode cX5_moths 56 = .ok (.invokestatic 244, 3) := by decide +kernel
theorem dX5_moths_59 : decode cX5_moths 59 = .ok (.ireturn, 1) := by decide +kernel
theorem dX5_year_0 : decode cX5_year 0 = .ok (.iload_n 1, 1) := by decide +kernel
theorem dX5_year_1 : decode cX5_year 1 = .ok (.ifCond .lt 30, 3) := by decide +kernel
theorem dX5_year_4 : decode cX5_year 4 = .ok (.iload_n 1, 1) := by decide +kernel
theorem dX5_year_5 : decode cX5_year 5 = .ok (.sipush 9999, 3) := by decide +kernel
theorem dX5_year_8 : decode cX5_year 8 = .ok (.if_icmp .gt 23, 3) := by decide +kernel
theorem dX5_year_11 : decode cX5_year 11 = .ok (.iload_n 2, 1) := by decide +kernel
theorem dX5_year_12 : decode cX5_year 12 = .ok (.iconst 1, 1) := by decide +kernel
theorem dX5_year_13 : decode cX5_year 13 = .ok (.if_icmp .lt 18, 3) := by decide +kernel
theorem dX5_year_16 : decode cX5_year 16 = .ok (.iload_n 2, 1) := by decide +kernel
theorem dX5_year_17 : decode cX5_year 17 = .ok (.bipush 40, 2) := by decide +kernel
theorem dX5_year_19 : decode cX5_year 19 = .ok (.if_icmp .gt 12, 3) := by decide +kernel
theorem dX5_year_22 : decode cX5_year 22 = .ok (.iload_n 3, 1) := by decide +kernel
theorem dX5_year_23 : decode cX5_year 23 = .ok (.ifCond .lt 8, 3) := by decide +kernel
theorem dX5_year_26 : decode cX5_year 26 = .ok (.iload_n 3, 1) := by decide +kernel
theorem dX5_year_27 : decode cX5_year 27 = .ok (.iconst 1, 1) := by decide +kernel
theorem dX5_year_28 : decode cX5_year 28 = .ok (.if_icmp .le 5, 3) := by decide +kernel
theorem dX5_year_31 : decode cX5_year 31 = .ok (.iconst (-1), 1) := by decide +kernel
theorem dX5_year_32 : decode cX5_year 32 = .ok (.ireturn, 1) := by decide +kernel
theorem dX5_year_33 : decode cX5_year 33 = .ok (.aload_n 0, 1) := by decide +kernel
theorem dX5_year_34 : decode cX5_year 34 = .ok (.getfield 64, 3) := by decide +kernel
theorem dX5_year_37 : decode cX5_year 37 = .ok (.aload_n 0, 1) := by decide +kernel
theorem dX5_year_38 : decode cX5_year 38 = .ok (.getfield 60, 3) := by decide +kernel
theorem dX5_year_41 : decode cX5_year 41 = .ok (.invokevirtual 248, 3) := by decide +kernel
theorem dX5_year_44 : decode cX5_year 44 = .ok (.iconst 0, 1) := by decide +kernel
theorem dX5_year_45 : decode cX5_year 45 = .ok (.istore 4, 2) := by decide +kernel
theorem dX5_year_47 : decode cX5_year 47 = .ok (.iload 4, 2) := by decide +kernel
theorem dX5_year_49 : decode cX5_year 49 = .ok (.iload_n 2, 1) := by decide +kernel
theorem dX5_year_50 : decode cX5_year 50 = .ok (.if_icmp .ge 26, 3) := by decide +kernel
theorem dX5_year_53 : decode cX5_year 53 = .ok (.aload_n 0, 1) := by decide +kernel
theorem dX5_year_54 : decode cX5_year 54 = .ok (.getfield 64, 3) := by decide +kernel
theorem dX5_year_57 : decode cX5_year 57 = .ok (.aload_n 0, 1) := by decide +kernel
theorem dX5_year_58 : decode cX5_year 58 = .ok (.getfield 53, 3) := by decide +kernel
theorem dX5_year_61 : decode cX5_year 61 = .ok (.iload_n 1, 1) := by decide +kernel
theorem dX5_year_62 : decode cX5_year 62 = .ok (.iload 4, 2) := by decide +kernel
theorem dX5_year_64 : decode cX5_year 64 = .ok (.invokestatic 251, 3) := by decide +kernel
theorem dX5_year_67 : decode cX5_year 67 = .ok (.invokevirtual 254, 3) := by decide +kernel
theorem dX5_year_70 : decode cX5_year 70 = .ok (.iinc 4 1, 3) := by decide +kernel
theorem dX5_year_73 : decode cX5_year 73 = .ok (.goto (-26), 3) := by decide +kernel
theorem dX5_year_76 : decode cX5_year 76 = .ok (.iload_n 3, 1) := by decide +kernel
theorem dX5_year_77 : decode cX5_year 77 = .ok (.ifCond .ne 16, 3) := by decide +kernel
theorem dX5_year_80 : decode cX5_year 80 = .ok (.aload_n 0, 1) := by decide +kernel
theorem dX5_year_81 : decode cX5_year 81 = .ok (.getfield 64, 3) := by decide +kernel
theorem dX5_year_84 : decode cX5_year 84 = .ok (.getfield 147, 3) := by decide +kernel
theorem dX5_year_87 : decode cX5_year 87 = .ok (.invokestatic 206, 3) := by decide +kernel
theorem dX5_year_90 : decode cX5_year 90 = .ok (.goto 10, 3) := by decide +kernel
theorem dX5_year_93 : decode cX5_year 93 = .ok (.aload_n 0, 1) := by decide +kernel
theorem dX5_year_94 : decode cX5_year 94 = .ok (.getfield 64, 3) := by decide +kernel
theorem dX5_year_97 : decode cX5_year 97 = .ok (.getfield 187, 3) := by decide +kernel
theorem dX5_year_100 : decode cX5_year 100 = .ok (.ireturn, 1) := by decide +kernel
theorem dX5_keep_0 : decode cX5_keep 0 = .ok (.aload_n 0, 1) := by decide +kernel
theorem dX5_keep_1 : decode cX5_keep 1 = .ok (.getfield 76, 3) := by decide +kernel
theorem dX5_keep_4 : decode cX5_keep 4 = .ok (.getfield 190, 3) := by decide +kernel
theorem dX5_keep_7 : decode cX5_keep 7 = .ok (.iconst 2, 1) := by decide +kernel
theorem dX5_keep_8 : decode cX5_keep 8 = .ok (.if_icmp .lt 6, 3) := by decide +kernel
theorem dX5_keep_11 : decode cX5_keep 11 = .ok (.bipush (-3), 2) := by decide +kernel
theorem dX5_keep_13 : decode cX5_keep 13 = .ok (.ireturn, 1) := by decide +kernel
theorem dX5_keep_14 : decode cX5_keep 14 = .ok (.aload_n 0, 1) := by decide +kernel
theorem dX5_keep_15 : decode cX5_keep 15 = .ok (.getfield 76, 3) := by decide +kernel
theorem dX5_keep_18 : decode cX5_keep 18 = .ok (.aload_n 0, 1) := by decide +kernel
theorem dX5_keep_19 : decode cX5_keep 19 = .ok (.getfield 60, 3) := by decide +kernel
theorem dX5_keep_22 : decode cX5_keep 22 = .ok (.invokevirtual 163, 3) := by decide +kernel
theorem dX5_keep_25 : decode cX5_keep 25 = .ok (.aload_n 0, 1) := by decide +kernel
theorem dX5_keep_26 : decode cX5_keep 26 = .ok (.getfield 76, 3) := by decide +kernel
theorem dX5_keep_29 : decode cX5_keep 29 = .ok (.getfield 190, 3) := by decide +kernel
theorem dX5_keep_32 : decode cX5_keep 32 = .ok (.ireturn, 1) := by decide +kernel
theorem dX5_back_0 : decode cX5_back 0 = .ok (.aload_n 0, 1) := by decide +kernel
theorem dX5_back_1 : decode cX5_back 1 = .ok (.getfield 76, 3) := by decide +kernel
theorem dX5_back_4 : decode cX5_back 4 = .ok (.getfield 190, 3) := by decide +kernel
theorem dX5_back_7 : decode cX5_back 7 = .ok (.ifCond .ne 6, 3) := by decide +kernel
theorem dX5_back_10 : decode cX5_back 10 = .ok (.bipush (-2), 2) := by decide +kernel
theorem dX5_back_12 : decode cX5_back 12 = .ok (.ireturn, 1) := by decide +kernel
theorem dX5_back_13 : decode cX5_back 13 = .ok (.aload_n 0, 1) := by decide +kernel
theorem dX5_back_14 : decode cX5_back 14 = .ok (.getfield 76, 3) := by decide +kernel
theorem dX5_back_17 : decode cX5_back 17 = .ok (.aload_n 0, 1) := by decide +kernel
theorem dX5_back_18 : decode cX5_back 18 = .ok (.getfield 60, 3) := by decide +kernel
theorem dX5_back_21 : decode cX5_back 21 = .ok (.invokevirtual 193, 3) := by decide +kernel
theorem dX5_back_24 : decode cX5_back 24 = .ok (.aload_n 0, 1) := by decide +kernel
theorem dX5_back_25 : decode cX5_back 25 = .ok (.getfield 72, 3) := by decide +kernel
theorem dX5_back_28 : decode cX5_back 28 = .ok (.invokevirtual 85, 3) := by decide +kernel
theorem dX5_back_31 : decode cX5_back 31 = .ok (.aload_n 0, 1) := by decide +kernel
theorem dX5_back_32 : decode cX5_back 32 = .ok (.getfield 76, 3) := by decide +kernel
theorem dX5_back_35 : decode cX5_back 35 = .ok (.getfield 190, 3) := by decide +kernel
theorem dX5_back_38 : decode cX5_back 38 = .ok (.ireturn, 1) := by decide +kernel
theorem dX5_count_0 : decode cX5_count 0 = .ok (.iload_n 1, 1) := by decide +kernel
theorem dX5_count_1 : decode cX5_count 1 = .ok (.tableswitch 169 0 11 #[63, 71, 79, 87, 98, 116, 127, 135, 143, 148, 156, 164], 63) := by decide +kernel
theorem dX5_count_64 : decode cX5_count 64 = .ok (.aload_n 0, 1) := by decide +kernel
theorem dX5_count_65 : decode cX5_count 65 = .ok (.getfield 53, 3) := by decide +kernel
theorem dX5_count_68 : decode cX5_count 68 = .ok (.getfield 79, 3) := by decide +kernel
theorem dX5_count_71 : decode cX5_count 71 = .ok (.ireturn, 1) := by decide +kernel
theorem dX5_count_72 : decode cX5_count 72 = .ok (.aload_n 0, 1) := by decide +kernel
theorem dX5_count_73 : decode cX5_count 73 = .ok (.getfield 53, 3) := by decide +kernel
theorem dX5_count_76 : decode cX5_count 76 = .ok (.getfield 82, 3) := by decide +kernel
theorem dX5_count_79 : decode cX5_count 79 = .ok (.ireturn, 1) := by decide +kernel
theorem dX5_count_80 : decode cX5_count 80 = .ok (.aload_n 0, 1) := by decide +kernel
theorem dX5_count_81 : decode cX5_count 81 = .ok (.getfield 53, 3) := by decide +kernel
theorem dX5_count_84 : decode cX5_count 84 = .ok (.getfield 257, 3) := by decide +kernel
theorem dX5_count_87 : decode cX5_count 87 = .ok (.ireturn, 1) := by decide +kernel
theorem dX5_count_88 : decode cX5_count 88 = .ok (.aload_n 0, 1) := by decide +kernel
theorem dX5_count_89 : decode cX5_count 89 = .ok (.getfield 60, 3) := by decide +kernel
theorem dX5_count_92 : decode cX5_count 92 = .ok (.getfield 110, 3) := by decide +kernel
theorem dX5_count_95 : decode cX5_count 95 = .ok (.invokestatic 206, 3) := by decide +kernel
theorem dX5_count_98 : decode cX5_count 98 = .ok (.ireturn, 1) := by decide +kernel
theorem dX5_count_99 : decode cX5_count 99 = .ok (.aload_n 0, 1) := by decide +kernel
theorem dX5_count_100 : decode cX5_count 100 = .ok (.getfield 53, 3) := by decide +kernel
theorem dX5_count_103 : decode cX5_count 103 = .ok (.aload_n 0, 1) := by decide +kernel
theorem dX5_count_104 : decode cX5_count 104 = .ok (.getfield 60, 3) := by decide +kernel
theorem dX5_count_107 : decode cX5_count 107 = .ok (.getfield 110, 3) := by decide +kernel
theorem dX5_count_110 : decode cX5_count 110 = .ok (.invokevirtual 217, 3) := by decide +kernel
theorem dX5_count_113 : decode cX5_count 113 = .ok (.invokestatic 206, 3) := by decide +kernel
theorem dX5_count_116 : decode cX5_count 116 = .ok (.ireturn, 1) := by decide +kernel
theorem dX5_count_117 : decode cX5_count 117 = .ok (.aload_n 0, 1) := by decide +kernel
theorem dX5_count_118 : decode cX5_count 118 = .ok (.getfield 60, 3) := by decide +kernel
theorem dX5_count_121 : decode cX5_count 121 = .ok (.getfield 147, 3) := by decide +kernel
theorem dX5_count_124 : decode cX5_count 124 = .ok (.invokestatic 206, 3) := by decide +kernel
theorem dX5_count_127 : decode cX5_count 127 = .ok (.ireturn, 1) := by decide +kernel
theorem dX5_count_128 : decode cX5_count 128 = .ok (.aload_n 0, 1) := by decide +kernel
theorem dX5_count_129 : decode cX5_count 129 = .ok (.getfield 60, 3) := by decide +kernel
theorem dX5_count_132 : decode cX5_count 132 = .ok (.getfield 187, 3) := by decide +kernel
theorem dX5_count_135 : decode cX5_count 135 = .ok (.ireturn, 1) := by decide +kernel
theorem dX5_count_136 : decode cX5_count 136 = .ok (.aload_n 0, 1) := by decide +kernel
theorem dX5_count_137 : decode cX5_count 137 = .ok (.getfield 60, 3) := by decide +kernel
theorem dX5_count_140 : decode cX5_count 140 = .ok (.getfield 260, 3) := by decide +kernel
theorem dX5_count_143 : decode cX5_count 143 = .ok (.ireturn, 1) := by decide +kernel
theorem dX5_count_144 : decode cX5_count 144 = .ok (.aload_n 0, 1) := by decide +kernel
theorem dX5_count_145 : decode cX5_count 145 = .ok (.getfield 229, 3) := by decide +kernel
theorem dX5_count_148 : decode cX5_count 148 = .ok (.ireturn, 1) := by decide +kernel
theorem dX5_count_149 : decode cX5_count 149 = .ok (.aload_n 0, 1) := by decide +kernel
theorem dX5_count_150 : decode cX5_count 150 = .ok (.getfield 72, 3) := by decide +kernel
theorem dX5_count_153 : decode cX5_count 153 = .ok (.getfield 190, 3) := by decide +kernel
theorem dX5_count_156 : decode cX5_count 156 = .ok (.ireturn, 1) := by decide +kernel
theorem dX5_count_157 : decode cX5_count 157 = .ok (.aload_n 0, 1) := by decide +kernel
theorem dX5_count_158 : decode cX5_count 158 = .ok (.getfield 76, 3) := by decide +kernel
theorem dX5_count_161 : decode cX5_count 161 = .ok (.getfield 190, 3) := by decide +kernel
theorem dX5_count_164 : decode cX5_count 164 = .ok (.ireturn, 1) := by decide +kernel
theorem dX5_count_165 : decode cX5_count 165 = .ok (.aload_n 0, 1) := by decide +kernel
theorem dX5_count_166 : decode cX5_count 166 = .ok (.getfield 13, 3) := by decide +kernel
theorem dX5_count_169 : decode cX5_count 169 = .ok (.ireturn, 1) := by decide +kernel
theorem dX5_count_170 : decode cX5_count 170 = .ok (.iconst (-1), 1) := by decide +kernel
theorem dX5_count_171 : decode cX5_count 171 = .ok (.ireturn, 1) := by decide +kernel
theorem dX5_roomLeft_0 : decode cX5_roomLeft 0 = .ok (.aload_n 0, 1) := by decide +kernel
theorem dX5_roomLeft_1 : decode cX5_roomLeft 1 = .ok (.getfield 53, 3) := by decide +kernel
theorem dX5_roomLeft_4 : decode cX5_roomLeft 4 = .ok (.getfield 257, 3) := by decide +kernel
theorem dX5_roomLeft_7 : decode cX5_roomLeft 7 = .ok (.aload_n 0, 1) := by decide +kernel
theorem dX5_roomLeft_8 : decode cX5_roomLeft 8 = .ok (.getfield 53, 3) := by decide +kernel
theorem dX5_roomLeft_11 : decode cX5_roomLeft 11 = .ok (.aload_n 0, 1) := by decide +kernel
theorem dX5_roomLeft_12 : decode cX5_roomLeft 12 = .ok (.getfield 60, 3) := by decide +kernel
theorem dX5_roomLeft_15 : decode cX5_roomLeft 15 = .ok (.getfield 110, 3) := by decide +kernel
theorem dX5_roomLeft_18 : decode cX5_roomLeft 18 = .ok (.invokevirtual 150, 3) := by decide +kernel
theorem dX5_roomLeft_21 : decode cX5_roomLeft 21 = .ok (.isub, 1) := by decide +kernel
theorem dX5_roomLeft_22 : decode cX5_roomLeft 22 = .ok (.ireturn, 1) := by decide +kernel
theorem dX5_worthPart_0 : decode cX5_worthPart 0 = .ok (.aload_n 0, 1) := by decide +kernel
theorem dX5_worthPart_1 : decode cX5_worthPart 1 = .ok (.getfield 53, 3) := by decide +kernel
theorem dX5_worthPart_4 : decode cX5_worthPart 4 = .ok (.iload_n 1, 1) := by decide +kernel
theorem dX5_worthPart_5 : decode cX5_worthPart 5 = .ok (.invokevirtual 263, 3) := by decide +kernel
theorem dX5_worthPart_8 : decode cX5_worthPart 8 = .ok (.aload_n 0, 1) := by decide +kernel
theorem dX5_worthPart_9 : decode cX5_worthPart 9 = .ok (.getfield 53, 3) := by decide +kernel
theorem dX5_worthPart_12 : decode cX5_worthPart 12 = .ok (.invokevirtual 266, 3) := by decide +kernel
theorem dX5_worthPart_15 : decode cX5_worthPart 15 = .ok (.iload_n 2, 1) := by decide +kernel
theorem dX5_worthPart_16 : decode cX5_worthPart 16 = .ok (.invokestatic 244, 3) := by decide +kernel
theorem dX5_worthPart_19 : decode cX5_worthPart 19 = .ok (.ireturn, 1) := by decide +kernel
theorem dX5_chanceBehindMoths_0 : decode cX5_chanceBehindMoths 0 = .ok (.aload_n 0, 1) := by decide +kernel
theorem dX5_chanceBehindMoths_1 : decode cX5_chanceBehindMoths 1 = .ok (.getfield 60, 3) := by decide +kernel
theorem dX5_chanceBehindMoths_4 : decode cX5_chanceBehindMoths 4 = .ok (.getfield 110, 3) := by decide +kernel
theorem dX5_chanceBehindMoths_7 : decode cX5_chanceBehindMoths 7 = .ok (.invokestatic 206, 3) := by decide +kernel
theorem dX5_chanceBehindMoths_10 : decode cX5_chanceBehindMoths 10 = .ok (.istore_n 3, 1) := by decide +kernel
theorem dX5_chanceBehindMoths_11 : decode cX5_chanceBehindMoths 11 = .ok (.iconst 0, 1) := by decide +kernel
theorem dX5_chanceBehindMoths_12 : decode cX5_chanceBehindMoths 12 = .ok (.istore 4, 2) := by decide +kernel
theorem dX5_chanceBehindMoths_14 : decode cX5_chanceBehindMoths 14 = .ok (.iconst 0, 1) := by decide +kernel
theorem dX5_chanceBehindMoths_15 : decode cX5_chanceBehindMoths 15 = .ok (.istore 5, 2) := by decide +kernel
theorem dX5_chanceBehindMoths_17 : decode cX5_chanceBehindMoths 17 = .ok (.iload 5, 2) := by decide +kernel
theorem dX5_chanceBehindMoths_19 : decode cX5_chanceBehindMoths 19 = .ok (.aload_n 0, 1) := by decide +kernel
theorem dX5_chanceBehindMoths_20 : decode cX5_chanceBehindMoths 20 = .ok (.getfield 60, 3) := by decide +kernel
theorem dX5_chanceBehindMoths_23 : decode cX5_chanceBehindMoths 23 = .ok (.getfield 110, 3) := by decide +kernel
theorem dX5_chanceBehindMoths_26 : decode cX5_chanceBehindMoths 26 = .ok (.if_icmp .gt 67, 3) := by decide +kernel
theorem dX5_chanceBehindMoths_29 : decode cX5_chanceBehindMoths 29 = .ok (.iload 5, 2) := by decide +kernel
theorem dX5_chanceBehindMoths_31 : decode cX5_chanceBehindMoths 31 = .ok (.aload_n 0, 1) := by decide +kernel
theorem dX5_chanceBehindMoths_32 : decode cX5_chanceBehindMoths 32 = .ok (.getfield 60, 3) := by decide +kernel
theorem dX5_chanceBehindMoths_35 : decode cX5_chanceBehindMoths 35 = .ok (.getfield 110, 3) := by decide +kernel
theorem dX5_chanceBehindMoths_38 : decode cX5_chanceBehindMoths 38 = .ok (.iconst (-1), 1) := by decide +kernel
theorem dX5_chanceBehindMoths_39 : decode cX5_chanceBehindMoths 39 = .ok (.ixor, 1) := by decide +kernel
theorem dX5_chanceBehindMoths_40 : decode cX5_chanceBehindMoths 40 = .ok (.iand, 1) := by decide +kernel
theorem dX5_chanceBehindMoths_41 : decode cX5_chanceBehindMoths 41 = .ok (.ifCond .ne 46, 3) := by decide +kernel
theorem dX5_chanceBehindMoths_44 : decode cX5_chanceBehindMoths 44 = .ok (.aload_n 0, 1) := by decide +kernel
theorem dX5_chanceBehindMoths_45 : decode cX5_chanceBehindMoths 45 = .ok (.getfield 53, 3) := by decide +kernel
theorem dX5_chanceBehindMoths_48 : decode cX5_chanceBehindMoths 48 = .ok (.iload_n 1, 1) := by decide +kernel
theorem dX5_chanceBehindMoths_49 : decode cX5_chanceBehindMoths 49 = .ok (.iload 5, 2) := by decide +kernel
theorem dX5_chanceBehindMoths_51 : decode cX5_chanceBehindMoths 51 = .ok (.invokevirtual 144, 3) := by decide +kernel
theorem dX5_chanceBehindMoths_54 : decode cX5_chanceBehindMoths 54 = .ok (.ifCond .eq 33, 3) := by decide +kernel
theorem dX5_chanceBehindMoths_57 : decode cX5_chanceBehindMoths 57 = .ok (.iload 5, 2) := by decide +kernel
theorem dX5_chanceBehindMoths_59 : decode cX5_chanceBehindMoths 59 = .ok (.invokestatic 206, 3) := by decide +kernel
theorem dX5_chanceBehindMoths_62 : decode cX5_chanceBehindMoths 62 = .ok (.istore 6, 2) := by decide +kernel
theorem dX5_chanceBehindMoths_64 : decode cX5_chanceBehindMoths 64 = .ok (.iload 4, 2) := by decide +kernel
theorem dX5_chanceBehindMoths_66 : decode cX5_chanceBehindMoths 66 = .ok (.bipush 10, 2) := by decide +kernel
theorem dX5_chanceBehindMoths_68 : decode cX5_chanceBehindMoths 68 = .ok (.iload_n 2, 1) := by decide +kernel
theorem dX5_chanceBehindMoths_69 : decode cX5_chanceBehindMoths 69 = .ok (.isub, 1) := by decide +kernel
theorem dX5_chanceBehindMoths_70 : decode cX5_chanceBehindMoths 70 = .ok (.iload 6, 2) := by decide +kernel
theorem dX5_chanceBehindMoths_72 : decode cX5_chanceBehindMoths 72 = .ok (.invokestatic 238, 3) := by decide +kernel
theorem dX5_chanceBehindMoths_75 : decode cX5_chanceBehindMoths 75 = .ok (.iload_n 2, 1) := by decide +kernel
theorem dX5_chanceBehindMoths_76 : decode cX5_chanceBehindMoths 76 = .ok (.iload_n 3, 1) := by decide +kernel
theorem dX5_chanceBehindMoths_77 : decode cX5_chanceBehindMoths 77 = .ok (.iload 6, 2) := by decide +kernel
theorem dX5_chanceBehindMoths_79 : decode cX5_chanceBehindMoths 79 = .ok (.isub, 1) := by decide +kernel
theorem dX5_chanceBehindMoths_80 : decode cX5_chanceBehindMoths 80 = .ok (.invokestatic 238, 3) := by decide +kernel
theorem dX5_chanceBehindMoths_83 : decode cX5_chanceBehindMoths 83 = .ok (.imul, 1) := by decide +kernel
theorem dX5_chanceBehindMoths_84 : decode cX5_chanceBehindMoths 84 = .ok (.iadd, 1) := by decide +kernel
theorem dX5_chanceBehindMoths_85 : decode cX5_chanceBehindMoths 85 = .ok (.istore 4, 2) := by decide +kernel
theorem dX5_chanceBehindMoths_87 : decode cX5_chanceBehindMoths 87 = .ok (.iinc 5 1, 3) := by decide +kernel
theorem dX5_chanceBehindMoths_90 : decode cX5_chanceBehindMoths 90 = .ok (.goto (-73), 3) := by decide +kernel
theorem dX5_chanceBehindMoths_93 : decode cX5_chanceBehindMoths 93 = .ok (.iload 4, 2) := by decide +kernel
theorem dX5_chanceBehindMoths_95 : decode cX5_chanceBehindMoths 95 = .ok (.ireturn, 1) := by decide +kernel
theorem dX5_draw_0 : decode cX5_draw 0 = .ok (.ldc2_w 269, 3) := by decide +kernel
theorem dX5_draw_3 : decode cX5_draw 3 = .ok (.iload_n 0, 1) := by decide +kernel
theorem dX5_draw_4 : decode cX5_draw 4 = .ok (.i2l, 1) := by decide +kernel
theorem dX5_draw_5 : decode cX5_draw 5 = .ok (.lmul, 1) := by decide +kernel
theorem dX5_draw_6 : decode cX5_draw 6 = .ok (.ldc2_w 271, 3) := by decide +kernel
theorem dX5_draw_9 : decode cX5_draw 9 = .ok (.iload_n 1, 1) := by decide +kernel
theorem dX5_draw_10 : decode cX5_draw 10 = .ok (.i2l, 1) := by decide +kernel
theorem dX5_draw_11 : decode cX5_draw 11 = .ok (.lmul, 1) := by decide +kernel
theorem dX5_draw_12 : decode cX5_draw 12 = .ok (.ladd, 1) := by decide +kernel
theorem dX5_draw_13 : decode cX5_draw 13 = .ok (.lconst 1, 1) := by decide +kernel
theorem dX5_draw_14 : decode cX5_draw 14 = .ok (.ladd, 1) := by decide +kernel
theorem dX5_draw_15 : decode cX5_draw 15 = .ok (.lstore_n 2, 1) := by decide +kernel
theorem dX5_draw_16 : decode cX5_draw 16 = .ok (.lload_n 2, 1) := by decide +kernel
theorem dX5_draw_17 : decode cX5_draw 17 = .ok (.lload_n 2, 1) := by decide +kernel
theorem dX5_draw_18 : decode cX5_draw 18 = .ok (.lmul, 1) := by decide +kernel
theorem dX5_draw_19 : decode cX5_draw 19 = .ok (.ldc2_w 273, 3) := by decide +kernel
theorem dX5_draw_22 : decode cX5_draw 22 = .ok (.lrem, 1) := by decide +kernel
theorem dX5_draw_23 : decode cX5_draw 23 = .ok (.l2i, 1) := by decide +kernel
theorem dX5_draw_24 : decode cX5_draw 24 = .ok (.ireturn, 1) := by decide +kernel
theorem dX5_isPart_0 : decode cX5_isPart 0 = .ok (.iload_n 0, 1) := by decide +kernel
theorem dX5_isPart_1 : decode cX5_isPart 1 = .ok (.ifCond .eq 8, 3) := by decide +kernel
theorem dX5_isPart_4 : decode cX5_isPart 4 = .ok (.iload_n 0, 1) := by decide +kernel
theorem dX5_isPart_5 : decode cX5_isPart 5 = .ok (.iconst 1, 1) := by decide +kernel
theorem dX5_isPart_6 : decode cX5_isPart 6 = .ok (.if_icmp .ne 7, 3) := by decide +kernel
theorem dX5_isPart_9 : decode cX5_isPart 9 = .ok (.iconst 1, 1) := by decide +kernel
theorem dX5_isPart_10 : decode cX5_isPart 10 = .ok (.goto 4, 3) := by decide +kernel
theorem dX5_isPart_13 : decode cX5_isPart 13 = .ok (.iconst 0, 1) := by decide +kernel
theorem dX5_isPart_14 : decode cX5_isPart 14 = .ok (.ireturn, 1) := by decide +kernel
theorem dX5_bit_0 : decode cX5_bit 0 = .ok (.iload_n 0, 1) := by decide +kernel
theorem dX5_bit_1 : decode cX5_bit 1 = .ok (.ifCond .eq 7, 3) := by decide +kernel
theorem dX5_bit_4 : decode cX5_bit 4 = .ok (.iconst 1, 1) := by decide +kernel
theorem dX5_bit_5 : decode cX5_bit 5 = .ok (.goto 4, 3) := by decide +kernel
theorem dX5_bit_8 : decode cX5_bit 8 = .ok (.iconst 0, 1) := by decide +kernel
theorem dX5_bit_9 : decode cX5_bit 9 = .ok (.ireturn, 1) := by decide +kernel
theorem dX5_has_0 : decode cX5_has 0 = .ok (.iload_n 0, 1) := by decide +kernel
theorem dX5_has_1 : decode cX5_has 1 = .ok (.iload_n 1, 1) := by decide +kernel
theorem dX5_has_2 : decode cX5_has 2 = .ok (.ishr, 1) := by decide +kernel
theorem dX5_has_3 : decode cX5_has 3 = .ok (.iconst 1, 1) := by decide +kernel
theorem dX5_has_4 : decode cX5_has 4 = .ok (.iand, 1) := by decide +kernel
theorem dX5_has_5 : decode cX5_has 5 = .ok (.iconst 1, 1) := by decide +kernel
theorem dX5_has_6 : decode cX5_has 6 = .ok (.if_icmp .ne 7, 3) := by decide +kernel
theorem dX5_has_9 : decode cX5_has 9 = .ok (.iconst 1, 1) := by decide +kernel
theorem dX5_has_10 : decode cX5_has 10 = .ok (.goto 4, 3) := by decide +kernel
theorem dX5_has_13 : decode cX5_has 13 = .ok (.iconst 0, 1) := by decide +kernel
theorem dX5_has_14 : decode cX5_has 14 = .ok (.ireturn, 1) := by decide +kernel
theorem dX5_at_0 : decode cX5_at 0 = .ok (.iload_n 1, 1) := by decide +kernel
theorem dX5_at_1 : decode cX5_at 1 = .ok (.ifCond .lt 15, 3) := by decide +kernel
theorem dX5_at_4 : decode cX5_at 4 = .ok (.iload_n 1, 1) := by decide +kernel
theorem dX5_at_5 : decode cX5_at 5 = .ok (.aload_n 0, 1) := by decide +kernel
theorem dX5_at_6 : decode cX5_at 6 = .ok (.arraylength, 1) := by decide +kernel
theorem dX5_at_7 : decode cX5_at 7 = .ok (.if_icmp .ge 9, 3) := by decide +kernel
theorem dX5_at_10 : decode cX5_at 10 = .ok (.aload_n 0, 1) := by decide +kernel
theorem dX5_at_11 : decode cX5_at 11 = .ok (.iload_n 1, 1) := by decide +kernel
theorem dX5_at_12 : decode cX5_at 12 = .ok (.iaload, 1) := by decide +kernel
theorem dX5_at_13 : decode cX5_at 13 = .ok (.goto 4, 3) := by decide +kernel
theorem dX5_at_16 : decode cX5_at 16 = .ok (.iconst 0, 1) := by decide +kernel
theorem dX5_at_17 : decode cX5_at 17 = .ok (.ireturn, 1) := by decide +kernel
theorem dX5_store_0 : decode cX5_store 0 = .ok (.iload_n 1, 1) := by decide +kernel
theorem dX5_store_1 : decode cX5_store 1 = .ok (.ifCond .lt 13, 3) := by decide +kernel
theorem dX5_store_4 : decode cX5_store 4 = .ok (.iload_n 1, 1) := by decide +kernel
theorem dX5_store_5 : decode cX5_store 5 = .ok (.aload_n 0, 1) := by decide +kernel
theorem dX5_store_6 : decode cX5_store 6 = .ok (.arraylength, 1) := by decide +kernel
theorem dX5_store_7 : decode cX5_store 7 = .ok (.if_icmp .ge 7, 3) := by decide +kernel
theorem dX5_store_10 : decode cX5_store 10 = .ok (.aload_n 0, 1) := by decide +kernel
theorem dX5_store_11 : decode cX5_store 11 = .ok (.iload_n 1, 1) := by decide +kernel
theorem dX5_store_12 : decode cX5_store 12 = .ok (.iload_n 2, 1) := by decide +kernel
theorem dX5_store_13 : decode cX5_store 13 = .ok (.iastore, 1) := by decide +kernel
theorem dX5_store_14 : decode cX5_store 14 = .ok (.return_, 1) := by decide +kernel
theorem dX5_power_0 : decode cX5_power 0 = .ok (.iconst 1, 1) := by decide +kernel
theorem dX5_power_1 : decode cX5_power 1 = .ok (.istore_n 2, 1) := by decide +kernel
theorem dX5_power_2 : decode cX5_power 2 = .ok (.iconst 0, 1) := by decide +kernel
theorem dX5_power_3 : decode cX5_power 3 = .ok (.istore_n 3, 1) := by decide +kernel
theorem dX5_power_4 : decode cX5_power 4 = .ok (.iload_n 3, 1) := by decide +kernel
theorem dX5_power_5 : decode cX5_power 5 = .ok (.iload_n 1, 1) := by decide +kernel
theorem dX5_power_6 : decode cX5_power 6 = .ok (.if_icmp .ge 13, 3) := by decide +kernel
theorem dX5_power_9 : decode cX5_power 9 = .ok (.iload_n 2, 1) := by decide +kernel
theorem dX5_power_10 : decode cX5_power 10 = .ok (.iload_n 0, 1) := by decide +kernel
theorem dX5_power_11 : decode cX5_power 11 = .ok (.imul, 1) := by decide +kernel
theorem dX5_power_12 : decode cX5_power 12 = .ok (.istore_n 2, 1) := by decide +kernel
theorem dX5_power_13 : decode cX5_power 13 = .ok (.iinc 3 1, 3) := by decide +kernel
theorem dX5_power_16 : decode cX5_power 16 = .ok (.goto (-12), 3) := by decide +kernel
theorem dX5_power_19 : decode cX5_power 19 = .ok (.iload_n 2, 1) := by decide +kernel
theorem dX5_power_20 : decode cX5_power 20 = .ok (.ireturn, 1) := by decide +kernel
theorem dX5_lowestTerms_0 : decode cX5_lowestTerms 0 = .ok (.iload_n 0, 1) := by decide +kernel
theorem dX5_lowestTerms_1 : decode cX5_lowestTerms 1 = .ok (.iload_n 1, 1) := by decide +kernel
theorem dX5_lowestTerms_2 : decode cX5_lowestTerms 2 = .ok (.invokestatic 275, 3) := by decide +kernel
theorem dX5_lowestTerms_5 : decode cX5_lowestTerms 5 = .ok (.istore_n 3, 1) := by decide +kernel
theorem dX5_lowestTerms_6 : decode cX5_lowestTerms 6 = .ok (.iload_n 1, 1) := by decide +kernel
theorem dX5_lowestTerms_7 : decode cX5_lowestTerms 7 = .ok (.ifCond .eq 7, 3) := by decide +kernel
theorem dX5_lowestTerms_10 : decode cX5_lowestTerms 10 = .ok (.iload_n 3, 1) := by decide +kernel
theorem dX5_lowestTerms_11 : decode cX5_lowestTerms 11 = .ok (.ifCond .ne 5, 3) := by decide +kernel
theorem dX5_lowestTerms_14 : decode cX5_lowestTerms 14 = .ok (.iload_n 2, 1) := by decide +kernel
theorem dX5_lowestTerms_15 : decode cX5_lowestTerms 15 = .ok (.ireturn, 1) := by decide +kernel
theorem dX5_lowestTerms_16 : decode cX5_lowestTerms 16 = .ok (.iload_n 2, 1) := by decide +kernel
theorem dX5_lowestTerms_17 : decode cX5_lowestTerms 17 = .ok (.ifCond .ne 9, 3) := by decide +kernel
theorem dX5_lowestTerms_20 : decode cX5_lowestTerms 20 = .ok (.iload_n 0, 1) := by decide +kernel
theorem dX5_lowestTerms_21 : decode cX5_lowestTerms 21 = .ok (.iload_n 3, 1) := by decide +kernel
theorem dX5_lowestTerms_22 : decode cX5_lowestTerms 22 = .ok (.idiv, 1) := by decide +kernel
theorem dX5_lowestTerms_23 : decode cX5_lowestTerms 23 = .ok (.goto 6, 3) := by decide +kernel
theorem dX5_lowestTerms_26 : decode cX5_lowestTerms 26 = .ok (.iload_n 1, 1) := by decide +kernel
theorem dX5_lowestTerms_27 : decode cX5_lowestTerms 27 = .ok (.iload_n 3, 1) := by decide +kernel
theorem dX5_lowestTerms_28 : decode cX5_lowestTerms 28 = .ok (.idiv, 1) := by decide +kernel
theorem dX5_lowestTerms_29 : decode cX5_lowestTerms 29 = .ok (.ireturn, 1) := by decide +kernel
theorem dX5_commonDivisor_0 : decode cX5_commonDivisor 0 = .ok (.iload_n 0, 1) := by decide +kernel
theorem dX5_commonDivisor_1 : decode cX5_commonDivisor 1 = .ok (.istore_n 2, 1) := by decide +kernel
theorem dX5_commonDivisor_2 : decode cX5_commonDivisor 2 = .ok (.iload_n 1, 1) := by decide +kernel
theorem dX5_commonDivisor_3 : decode cX5_commonDivisor 3 = .ok (.istore_n 3, 1) := by decide +kernel
theorem dX5_commonDivisor_4 : decode cX5_commonDivisor 4 = .ok (.iconst 0, 1) := by decide +kernel
theorem dX5_commonDivisor_5 : decode cX5_commonDivisor 5 = .ok (.istore 4, 2) := by decide +kernel
theorem dX5_commonDivisor_7 : decode cX5_commonDivisor 7 = .ok (.iload 4, 2) := by decide +kernel
theorem dX5_commonDivisor_9 : decode cX5_commonDivisor 9 = .ok (.bipush 64, 2) := by decide +kernel
theorem dX5_commonDivisor_11 : decode cX5_commonDivisor 11 = .ok (.if_icmp .ge 23, 3) := by decide +kernel
theorem dX5_commonDivisor_14 : decode cX5_commonDivisor 14 = .ok (.iload_n 3, 1) := by decide +kernel
theorem dX5_commonDivisor_15 : decode cX5_commonDivisor 15 = .ok (.ifCond .eq 19, 3) := by decide +kernel
theorem dX5_commonDivisor_18 : decode cX5_commonDivisor 18 = .ok (.iload_n 2, 1) := by decide +kernel
theorem dX5_commonDivisor_19 : decode cX5_commonDivisor 19 = .ok (.iload_n 3, 1) := by decide +kernel
theorem dX5_commonDivisor_20 : decode cX5_commonDivisor 20 = .ok (.irem, 1) := by decide +kernel
theorem dX5_commonDivisor_21 : decode cX5_commonDivisor 21 = .ok (.istore 5, 2) := by decide +kernel
theorem dX5_commonDivisor_23 : decode cX5_commonDivisor 23 = .ok (.iload_n 3, 1) := by decide +kernel
theorem dX5_commonDivisor_24 : decode cX5_commonDivisor 24 = .ok (.istore_n 2, 1) := by decide +kernel
theorem dX5_commonDivisor_25 : decode cX5_commonDivisor 25 = .ok (.iload 5, 2) := by decide +kernel
theorem dX5_commonDivisor_27 : decode cX5_commonDivisor 27 = .ok (.istore_n 3, 1) := by decide +kernel
theorem dX5_commonDivisor_28 : decode cX5_commonDivisor 28 = .ok (.iinc 4 1, 3) := by decide +kernel
theorem dX5_commonDivisor_31 : decode cX5_commonDivisor 31 = .ok (.goto (-24), 3) := by decide +kernel
theorem dX5_commonDivisor_34 : decode cX5_commonDivisor 34 = .ok (.iload_n 2, 1) := by decide +kernel
theorem dX5_commonDivisor_35 : decode cX5_commonDivisor 35 = .ok (.ireturn, 1) := by decide +kernel
theorem dJ6_bitCount_0f7a4_0 : decode cJ6_bitCount_0f7a4 0 = .ok (.iload_n 0, 1) := by decide +kernel
theorem dJ6_bitCount_0f7a4_1 : decode cJ6_bitCount_0f7a4 1 = .ok (.iload_n 0, 1) := by decide +kernel
theorem dJ6_bitCount_0f7a4_2 : decode cJ6_bitCount_0f7a4 2 = .ok (.iconst 1, 1) := by decide +kernel
theorem dJ6_bitCount_0f7a4_3 : decode cJ6_bitCount_0f7a4 3 = .ok (.iushr, 1) := by decide +kernel
theorem dJ6_bitCount_0f7a4_4 : decode cJ6_bitCount_0f7a4 4 = .ok (.ldc_w 265, 3) := by decide +kernel
theorem dJ6_bitCount_0f7a4_7 : decode cJ6_bitCount_0f7a4 7 = .ok (.iand, 1) := by decide +kernel
theorem dJ6_bitCount_0f7a4_8 : decode cJ6_bitCount_0f7a4 8 = .ok (.isub, 1) := by decide +kernel
theorem dJ6_bitCount_0f7a4_9 : decode cJ6_bitCount_0f7a4 9 = .ok (.istore_n 0, 1) := by decide +kernel
theorem dJ6_bitCount_0f7a4_10 : decode cJ6_bitCount_0f7a4 10 = .ok (.iload_n 0, 1) := by decide +kernel
theorem dJ6_bitCount_0f7a4_11 : decode cJ6_bitCount_0f7a4 11 = .ok (.ldc_w 266, 3) := by decide +kernel
theorem dJ6_bitCount_0f7a4_14 : decode cJ6_bitCount_0f7a4 14 = .ok (.iand, 1) := by decide +kernel
theorem dJ6_bitCount_0f7a4_15 : decode cJ6_bitCount_0f7a4 15 = .ok (.iload_n 0, 1) := by decide +kernel
theorem dJ6_bitCount_0f7a4_16 : decode cJ6_bitCount_0f7a4 16 = .ok (.iconst 2, 1) := by decide +kernel
theorem dJ6_bitCount_0f7a4_17 : decode cJ6_bitCount_0f7a4 17 = .ok (.iushr, 1) := by decide +kernel
theorem dJ6_bitCount_0f7a4_18 : decode cJ6_bitCount_0f7a4 18 = .ok (.ldc_w 266, 3) := by decide +kernel
theorem dJ6_bitCount_0f7a4_21 : decode cJ6_bitCount_0f7a4 21 = .ok (.iand, 1) := by decide +kernel
theorem dJ6_bitCount_0f7a4_22 : decode cJ6_bitCount_0f7a4 22 = .ok (.iadd, 1) := by decide +kernel
theorem dJ6_bitCount_0f7a4_23 : decode cJ6_bitCount_0f7a4 23 = .ok (.istore_n 0, 1) := by decide +kernel
theorem dJ6_bitCount_0f7a4_24 : decode cJ6_bitCount_0f7a4 24 = .ok (.iload_n 0, 1) := by decide +kernel
theorem dJ6_bitCount_0f7a4_25 : decode cJ6_bitCount_0f7a4 25 = .ok (.iload_n 0, 1) := by decide +kernel
theorem dJ6_bitCount_0f7a4_26 : decode cJ6_bitCount_0f7a4 26 = .ok (.iconst 4, 1) := by decide +kernel
theorem dJ6_bitCount_0f7a4_27 : decode cJ6_bitCount_0f7a4 27 = .ok (.iushr, 1) := by decide +kernel
theorem dJ6_bitCount_0f7a4_28 : decode cJ6_bitCount_0f7a4 28 = .ok (.iadd, 1) := by decide +kernel
theorem dJ6_bitCount_0f7a4_29 : decode cJ6_bitCount_0f7a4 29 = .ok (.ldc_w 267, 3) := by decide +kernel
theorem dJ6_bitCount_0f7a4_32 : decode cJ6_bitCount_0f7a4 32 = .ok (.iand, 1) := by decide +kernel
theorem dJ6_bitCount_0f7a4_33 : decode cJ6_bitCount_0f7a4 33 = .ok (.istore_n 0, 1) := by decide +kernel
theorem dJ6_bitCount_0f7a4_34 : decode cJ6_bitCount_0f7a4 34 = .ok (.iload_n 0, 1) := by decide +kernel
theorem dJ6_bitCount_0f7a4_35 : decode cJ6_bitCount_0f7a4 35 = .ok (.iload_n 0, 1) := by decide +kernel
theorem dJ6_bitCount_0f7a4_36 : decode cJ6_bitCount_0f7a4 36 = .ok (.bipush 8, 2) := by decide +kernel
theorem dJ6_bitCount_0f7a4_38 : decode cJ6_bitCount_0f7a4 38 = .ok (.iushr, 1) := by decide +kernel
theorem dJ6_bitCount_0f7a4_39 : decode cJ6_bitCount_0f7a4 39 = .ok (.iadd, 1) := by decide +kernel
theorem dJ6_bitCount_0f7a4_40 : decode cJ6_bitCount_0f7a4 40 = .ok (.istore_n 0, 1) := by decide +kernel
theorem dJ6_bitCount_0f7a4_41 : decode cJ6_bitCount_0f7a4 41 = .ok (.iload_n 0, 1) := by decide +kernel
theorem dJ6_bitCount_0f7a4_42 : decode cJ6_bitCount_0f7a4 42 = .ok (.iload_n 0, 1) := by decide +kernel
theorem dJ6_bitCount_0f7a4_43 : decode cJ6_bitCount_0f7a4 43 = .ok (.bipush 16, 2) := by decide +kernel
theorem dJ6_bitCount_0f7a4_45 : decode cJ6_bitCount_0f7a4 45 = .ok (.iushr, 1) := by decide +kernel
theorem dJ6_bitCount_0f7a4_46 : decode cJ6_bitCount_0f7a4 46 = .ok (.iadd, 1) := by decide +kernel
theorem dJ6_bitCount_0f7a4_47 : decode cJ6_bitCount_0f7a4 47 = .ok (.istore_n 0, 1) := by decide +kernel
theorem dJ6_bitCount_0f7a4_48 : decode cJ6_bitCount_0f7a4 48 = .ok (.iload_n 0, 1) := by decide +kernel
theorem dJ6_bitCount_0f7a4_49 : decode cJ6_bitCount_0f7a4 49 = .ok (.bipush 63, 2) := by decide +kernel
theorem dJ6_bitCount_0f7a4_51 : decode cJ6_bitCount_0f7a4 51 = .ok (.iand, 1) := by decide +kernel
theorem dJ6_bitCount_0f7a4_52 : decode cJ6_bitCount_0f7a4 52 = .ok (.ireturn, 1) := by decide +kernel
theorem dJ9_max_7cf53_0 : decode cJ9_max_7cf53 0 = .ok (.iload_n 0, 1) := by decide +kernel
theorem dJ9_max_7cf53_1 : decode cJ9_max_7cf53 1 = .ok (.iload_n 1, 1) := by decide +kernel
theorem dJ9_max_7cf53_2 : decode cJ9_max_7cf53 2 = .ok (.if_icmp .lt 7, 3) := by decide +kernel
theorem dJ9_max_7cf53_5 : decode cJ9_max_7cf53 5 = .ok (.iload_n 0, 1) := by decide +kernel
theorem dJ9_max_7cf53_6 : decode cJ9_max_7cf53 6 = .ok (.goto 4, 3) := by decide +kernel
theorem dJ9_max_7cf53_9 : decode cJ9_max_7cf53 9 = .ok (.iload_n 1, 1) := by decide +kernel
theorem dJ9_max_7cf53_10 : decode cJ9_max_7cf53 10 = .ok (.ireturn, 1) := by decide +kernel
theorem dJ9_min_7cf53_0 : decode cJ9_min_7cf53 0 = .ok (.iload_n 0, 1) := by decide +kernel
theorem dJ9_min_7cf53_1 : decode cJ9_min_7cf53 1 = .ok (.iload_n 1, 1) := by decide +kernel
theorem dJ9_min_7cf53_2 : decode cJ9_min_7cf53 2 = .ok (.if_icmp .gt 7, 3) := by decide +kernel
theorem dJ9_min_7cf53_5 : decode cJ9_min_7cf53 5 = .ok (.iload_n 0, 1) := by decide +kernel
theorem dJ9_min_7cf53_6 : decode cJ9_min_7cf53 6 = .ok (.goto 4, 3) := by decide +kernel
theorem dJ9_min_7cf53_9 : decode cJ9_min_7cf53 9 = .ok (.iload_n 1, 1) := by decide +kernel
theorem dJ9_min_7cf53_10 : decode cJ9_min_7cf53 10 = .ok (.ireturn, 1) := by decide +kernel
theorem dJ0_toCharArray_70df3_0 : decode cJ0_toCharArray_70df3 0 = .ok (.aload_n 0, 1) := by decide +kernel
theorem dJ0_toCharArray_70df3_1 : decode cJ0_toCharArray_70df3 1 = .ok (.invokevirtual 492, 3) := by decide +kernel
theorem dJ0_toCharArray_70df3_4 : decode cJ0_toCharArray_70df3 4 = .ok (.ifCond .eq 13, 3) := by decide +kernel
theorem dJ0_toCharArray_70df3_7 : decode cJ0_toCharArray_70df3 7 = .ok (.aload_n 0, 1) := by decide +kernel
theorem dJ0_toCharArray_70df3_8 : decode cJ0_toCharArray_70df3 8 = .ok (.getfield 9, 3) := by decide +kernel
theorem dJ0_toCharArray_70df3_11 : decode cJ0_toCharArray_70df3 11 = .ok (.invokestatic 299, 3) := by decide +kernel
theorem dJ0_toCharArray_70df3_14 : decode cJ0_toCharArray_70df3 14 = .ok (.goto 10, 3) := by decide +kernel
theorem dJ0_toCharArray_70df3_17 : decode cJ0_toCharArray_70df3 17 = .ok (.aload_n 0, 1) := by decide +kernel
theorem dJ0_toCharArray_70df3_18 : decode cJ0_toCharArray_70df3 18 = .ok (.getfield 9, 3) := by decide +kernel
theorem dJ0_toCharArray_70df3_21 : decode cJ0_toCharArray_70df3 21 = .ok (.invokestatic 303, 3) := by decide +kernel
theorem dJ0_toCharArray_70df3_24 : decode cJ0_toCharArray_70df3 24 = .ok (.areturn, 1) := by decide +kernel
theorem dJ0_isLatin1_aae02_0 : decode cJ0_isLatin1_aae02 0 = .ok (.getstatic 38, 3) := by decide +kernel
theorem dJ0_isLatin1_aae02_3 : decode cJ0_isLatin1_aae02 3 = .ok (.ifCond .eq 14, 3) := by decide +kernel
theorem dJ0_isLatin1_aae02_6 : decode cJ0_isLatin1_aae02 6 = .ok (.aload_n 0, 1) := by decide +kernel
theorem dJ0_isLatin1_aae02_7 : decode cJ0_isLatin1_aae02 7 = .ok (.getfield 15, 3) := by decide +kernel
theorem dJ0_isLatin1_aae02_10 : decode cJ0_isLatin1_aae02 10 = .ok (.ifCond .ne 7, 3) := by decide +kernel
theorem dJ0_isLatin1_aae02_13 : decode cJ0_isLatin1_aae02 13 = .ok (.iconst 1, 1) := by decide +kernel
theorem dJ0_isLatin1_aae02_14 : decode cJ0_isLatin1_aae02 14 = .ok (.goto 4, 3) := by decide +kernel
theorem dJ0_isLatin1_aae02_17 : decode cJ0_isLatin1_aae02 17 = .ok (.iconst 0, 1) := by decide +kernel
theorem dJ0_isLatin1_aae02_18 : decode cJ0_isLatin1_aae02 18 = .ok (.ireturn, 1) := by decide +kernel
theorem dJ0_checkBoundsOffCount_cabcc_0 : decode cJ0_checkBoundsOffCount_cabcc 0 = .ok (.iload_n 0, 1) := by decide +kernel
theorem dJ0_checkBoundsOffCount_cabcc_1 : decode cJ0_checkBoundsOffCount_cabcc 1 = .ok (.iload_n 1, 1) := by decide +kernel
theorem dJ0_checkBoundsOffCount_cabcc_2 : decode cJ0_checkBoundsOffCount_cabcc 2 = .ok (.iload_n 2, 1) := by decide +kernel
theorem dJ0_checkBoundsOffCount_cabcc_3 : decode cJ0_checkBoundsOffCount_cabcc 3 = .ok (.getstatic 1053, 3) := by decide +kernel
theorem dJ0_checkBoundsOffCount_cabcc_6 : decode cJ0_checkBoundsOffCount_cabcc 6 = .ok (.invokestatic 1065, 3) := by decide +kernel
theorem dJ0_checkBoundsOffCount_cabcc_9 : decode cJ0_checkBoundsOffCount_cabcc 9 = .ok (.ireturn, 1) := by decide +kernel
theorem dJ1_toChars_9d188_0 : decode cJ1_toChars_9d188 0 = .ok (.aload_n 0, 1) := by decide +kernel
theorem dJ1_toChars_9d188_1 : decode cJ1_toChars_9d188 1 = .ok (.arraylength, 1) := by decide +kernel
theorem dJ1_toChars_9d188_2 : decode cJ1_toChars_9d188 2 = .ok (.newarray .char, 2) := by decide +kernel
theorem dJ1_toChars_9d188_4 : decode cJ1_toChars_9d188 4 = .ok (.astore_n 1, 1) := by decide +kernel
theorem dJ1_toChars_9d188_5 : decode cJ1_toChars_9d188 5 = .ok (.aload_n 0, 1) := by decide +kernel
theorem dJ1_toChars_9d188_6 : decode cJ1_toChars_9d188 6 = .ok (.iconst 0, 1) := by decide +kernel
theorem dJ1_toChars_9d188_7 : decode cJ1_toChars_9d188 7 = .ok (.aload_n 1, 1) := by decide +kernel
theorem dJ1_toChars_9d188_8 : decode cJ1_toChars_9d188 8 = .ok (.iconst 0, 1) := by decide +kernel
theorem dJ1_toChars_9d188_9 : decode cJ1_toChars_9d188 9 = .ok (.aload_n 0, 1) := by decide +kernel
theorem dJ1_toChars_9d188_10 : decode cJ1_toChars_9d188 10 = .ok (.arraylength, 1) := by decide +kernel
theorem dJ1_toChars_9d188_11 : decode cJ1_toChars_9d188 11 = .ok (.invokestatic 13, 3) := by decide +kernel
theorem dJ1_toChars_9d188_14 : decode cJ1_toChars_9d188 14 = .ok (.aload_n 1, 1) := by decide +kernel
theorem dJ1_toChars_9d188_15 : decode cJ1_toChars_9d188 15 = .ok (.areturn, 1) := by decide +kernel
theorem dJ1_inflate_03870_0 : decode cJ1_inflate_03870 0 = .ok (.iconst 0, 1) := by decide +kernel
theorem dJ1_inflate_03870_1 : decode cJ1_inflate_03870 1 = .ok (.istore 5, 2) := by decide +kernel
theorem dJ1_inflate_03870_3 : decode cJ1_inflate_03870 3 = .ok (.iload 5, 2) := by decide +kernel
theorem dJ1_inflate_03870_5 : decode cJ1_inflate_03870 5 = .ok (.iload 4, 2) := by decide +kernel
theorem dJ1_inflate_03870_7 : decode cJ1_inflate_03870 7 = .ok (.if_icmp .ge 26, 3) := by decide +kernel
theorem dJ1_inflate_03870_10 : decode cJ1_inflate_03870 10 = .ok (.aload_n 2, 1) := by decide +kernel
theorem dJ1_inflate_03870_11 : decode cJ1_inflate_03870 11 = .ok (.iload_n 3, 1) := by decide +kernel
theorem dJ1_inflate_03870_12 : decode cJ1_inflate_03870 12 = .ok (.iinc 3 1, 3) := by decide +kernel
theorem dJ1_inflate_03870_15 : decode cJ1_inflate_03870 15 = .ok (.aload_n 0, 1) := by decide +kernel
theorem dJ1_inflate_03870_16 : decode cJ1_inflate_03870 16 = .ok (.iload_n 1, 1) := by decide +kernel
theorem dJ1_inflate_03870_17 : decode cJ1_inflate_03870 17 = .ok (.iinc 1 1, 3) := by decide +kernel
theorem dJ1_inflate_03870_20 : decode cJ1_inflate_03870 20 = .ok (.baload, 1) := by decide +kernel
theorem dJ1_inflate_03870_21 : decode cJ1_inflate_03870 21 = .ok (.sipush 255, 3) := by decide +kernel
theorem dJ1_inflate_03870_24 : decode cJ1_inflate_03870 24 = .ok (.iand, 1) := by decide +kernel
theorem dJ1_inflate_03870_25 : decode cJ1_inflate_03870 25 = .ok (.i2c, 1) := by decide +kernel
theorem dJ1_inflate_03870_26 : decode cJ1_inflate_03870 26 = .ok (.castore, 1) := by decide +kernel
theorem dJ1_inflate_03870_27 : decode cJ1_inflate_03870 27 = .ok (.iinc 5 1, 3) := by decide +kernel
theorem dJ1_inflate_03870_30 : decode cJ1_inflate_03870 30 = .ok (.goto (-27), 3) := by decide +kernel
theorem dJ1_inflate_03870_33 : decode cJ1_inflate_03870 33 = .ok (.return_, 1) := by decide +kernel
theorem dJ2_getChar_3b067_0 : decode cJ2_getChar_3b067 0 = .ok (.getstatic 44, 3) := by decide +kernel
theorem dJ2_getChar_3b067_3 : decode cJ2_getChar_3b067 3 = .ok (.ifCond .ne 25, 3) := by decide +kernel
theorem dJ2_getChar_3b067_6 : decode cJ2_getChar_3b067 6 = .ok (.iload_n 1, 1) := by decide +kernel
theorem dJ2_getChar_3b067_7 : decode cJ2_getChar_3b067 7 = .ok (.ifCond .lt 11, 3) := by decide +kernel
theorem dJ2_getChar_3b067_10 : decode cJ2_getChar_3b067 10 = .ok (.iload_n 1, 1) := by decide +kernel
theorem dJ2_getChar_3b067_11 : decode cJ2_getChar_3b067 11 = .ok (.aload_n 0, 1) := by decide +kernel
theorem dJ2_getChar_3b067_12 : decode cJ2_getChar_3b067 12 = .ok (.invokestatic 48, 3) := by decide +kernel
theorem dJ2_getChar_3b067_15 : decode cJ2_getChar_3b067 15 = .ok (.if_icmp .lt 13, 3) := by decide +kernel
theorem dJ2_getChar_3b067_18 : decode cJ2_getChar_3b067 18 = .ok (.new 52, 3) := by decide +kernel
theorem dJ2_getChar_3b067_21 : decode cJ2_getChar_3b067 21 = .ok (.dup, 1) := by decide +kernel
theorem dJ2_getChar_3b067_22 : decode cJ2_getChar_3b067 22 = .ok (.ldc 54, 2) := by decide +kernel
theorem dJ2_getChar_3b067_24 : decode cJ2_getChar_3b067 24 = .ok (.invokespecial 56, 3) := by decide +kernel
theorem dJ2_getChar_3b067_27 : decode cJ2_getChar_3b067 27 = .ok (.athrow, 1) := by decide +kernel
theorem dJ2_getChar_3b067_28 : decode cJ2_getChar_3b067 28 = .ok (.iload_n 1, 1) := by decide +kernel
theorem dJ2_getChar_3b067_29 : decode cJ2_getChar_3b067 29 = .ok (.iconst 1, 1) := by decide +kernel
theorem dJ2_getChar_3b067_30 : decode cJ2_getChar_3b067 30 = .ok (.ishl, 1) := by decide +kernel
theorem dJ2_getChar_3b067_31 : decode cJ2_getChar_3b067 31 = .ok (.istore_n 1, 1) := by decide +kernel
theorem dJ2_getChar_3b067_32 : decode cJ2_getChar_3b067 32 = .ok (.aload_n 0, 1) := by decide +kernel
theorem dJ2_getChar_3b067_33 : decode cJ2_getChar_3b067 33 = .ok (.iload_n 1, 1) := by decide +kernel
theorem dJ2_getChar_3b067_34 : decode cJ2_getChar_3b067 34 = .ok (.iinc 1 1, 3) := by decide +kernel
theorem dJ2_getChar_3b067_37 : decode cJ2_getChar_3b067 37 = .ok (.baload, 1) := by decide +kernel
theorem dJ2_getChar_3b067_38 : decode cJ2_getChar_3b067 38 = .ok (.sipush 255, 3) := by decide +kernel
theorem dJ2_getChar_3b067_41 : decode cJ2_getChar_3b067 41 = .ok (.iand, 1) := by decide +kernel
theorem dJ2_getChar_3b067_42 : decode cJ2_getChar_3b067 42 = .ok (.getstatic 59, 3) := by decide +kernel
theorem dJ2_getChar_3b067_45 : decode cJ2_getChar_3b067 45 = .ok (.ishl, 1) := by decide +kernel
theorem dJ2_getChar_3b067_46 : decode cJ2_getChar_3b067 46 = .ok (.aload_n 0, 1) := by decide +kernel
theorem dJ2_getChar_3b067_47 : decode cJ2_getChar_3b067 47 = .ok (.iload_n 1, 1) := by decide +kernel
theorem dJ2_getChar_3b067_48 : decode cJ2_getChar_3b067 48 = .ok (.baload, 1) := by decide +kernel
theorem dJ2_getChar_3b067_49 : decode cJ2_getChar_3b067 49 = .ok (.sipush 255, 3) := by decide +kernel
theorem dJ2_getChar_3b067_52 : decode cJ2_getChar_3b067 52 = .ok (.iand, 1) := by decide +kernel
theorem dJ2_getChar_3b067_53 : decode cJ2_getChar_3b067 53 = .ok (.getstatic 63, 3) := by decide +kernel
theorem dJ2_getChar_3b067_56 : decode cJ2_getChar_3b067 56 = .ok (.ishl, 1) := by decide +kernel
theorem dJ2_getChar_3b067_57 : decode cJ2_getChar_3b067 57 = .ok (.ior, 1) := by decide +kernel
theorem dJ2_getChar_3b067_58 : decode cJ2_getChar_3b067 58 = .ok (.i2c, 1) := by decide +kernel
theorem dJ2_getChar_3b067_59 : decode cJ2_getChar_3b067 59 = .ok (.ireturn, 1) := by decide +kernel
theorem dJ2_length_9d52b_0 : decode cJ2_length_9d52b 0 = .ok (.aload_n 0, 1) := by decide +kernel
theorem dJ2_length_9d52b_1 : decode cJ2_length_9d52b 1 = .ok (.arraylength, 1) := by decide +kernel
theorem dJ2_length_9d52b_2 : decode cJ2_length_9d52b 2 = .ok (.iconst 1, 1) := by decide +kernel
theorem dJ2_length_9d52b_3 : decode cJ2_length_9d52b 3 = .ok (.ishr, 1) := by decide +kernel
theorem dJ2_length_9d52b_4 : decode cJ2_length_9d52b 4 = .ok (.ireturn, 1) := by decide +kernel
theorem dJ2_toChars_9d188_0 : decode cJ2_toChars_9d188 0 = .ok (.aload_n 0, 1) := by decide +kernel
theorem dJ2_toChars_9d188_1 : decode cJ2_toChars_9d188 1 = .ok (.arraylength, 1) := by decide +kernel
theorem dJ2_toChars_9d188_2 : decode cJ2_toChars_9d188 2 = .ok (.iconst 1, 1) := by decide +kernel
theorem dJ2_toChars_9d188_3 : decode cJ2_toChars_9d188 3 = .ok (.ishr, 1) := by decide +kernel
theorem dJ2_toChars_9d188_4 : decode cJ2_toChars_9d188 4 = .ok (.newarray .char, 2) := by decide +kernel
theorem dJ2_toChars_9d188_6 : decode cJ2_toChars_9d188 6 = .ok (.astore_n 1, 1) := by decide +kernel
theorem dJ2_toChars_9d188_7 : decode cJ2_toChars_9d188 7 = .ok (.aload_n 0, 1) := by decide +kernel
theorem dJ2_toChars_9d188_8 : decode cJ2_toChars_9d188 8 = .ok (.iconst 0, 1) := by decide +kernel
theorem dJ2_toChars_9d188_9 : decode cJ2_toChars_9d188 9 = .ok (.aload_n 1, 1) := by decide +kernel
theorem dJ2_toChars_9d188_10 : decode cJ2_toChars_9d188 10 = .ok (.arraylength, 1) := by decide +kernel
theorem dJ2_toChars_9d188_11 : decode cJ2_toChars_9d188 11 = .ok (.aload_n 1, 1) := by decide +kernel
theorem dJ2_toChars_9d188_12 : decode cJ2_toChars_9d188 12 = .ok (.iconst 0, 1) := by decide +kernel
theorem dJ2_toChars_9d188_13 : decode cJ2_toChars_9d188 13 = .ok (.invokestatic 103, 3) := by decide +kernel
theorem dJ2_toChars_9d188_16 : decode cJ2_toChars_9d188 16 = .ok (.aload_n 1, 1) := by decide +kernel
theorem dJ2_toChars_9d188_17 : decode cJ2_toChars_9d188 17 = .ok (.areturn, 1) := by decide +kernel
theorem dJ2_getChars_a1a8b_0 : decode cJ2_getChars_a1a8b 0 = .ok (.iload_n 1, 1) := by decide +kernel
theorem dJ2_getChars_a1a8b_1 : decode cJ2_getChars_a1a8b 1 = .ok (.iload_n 2, 1) := by decide +kernel
theorem dJ2_getChars_a1a8b_2 : decode cJ2_getChars_a1a8b 2 = .ok (.if_icmp .ge 11, 3) := by decide +kernel
theorem dJ2_getChars_a1a8b_5 : decode cJ2_getChars_a1a8b 5 = .ok (.iload_n 1, 1) := by decide +kernel
theorem dJ2_getChars_a1a8b_6 : decode cJ2_getChars_a1a8b 6 = .ok (.iload_n 2, 1) := by decide +kernel
theorem dJ2_getChars_a1a8b_7 : decode cJ2_getChars_a1a8b 7 = .ok (.iload_n 1, 1) := by decide +kernel
theorem dJ2_getChars_a1a8b_8 : decode cJ2_getChars_a1a8b 8 = .ok (.isub, 1) := by decide +kernel
theorem dJ2_getChars_a1a8b_9 : decode cJ2_getChars_a1a8b 9 = .ok (.aload_n 0, 1) := by decide +kernel
theorem dJ2_getChars_a1a8b_10 : decode cJ2_getChars_a1a8b 10 = .ok (.invokestatic 173, 3) := by decide +kernel
theorem dJ2_getChars_a1a8b_13 : decode cJ2_getChars_a1a8b 13 = .ok (.iload_n 1, 1) := by decide +kernel
theorem dJ2_getChars_a1a8b_14 : decode cJ2_getChars_a1a8b 14 = .ok (.istore 5, 2) := by decide +kernel
theorem dJ2_getChars_a1a8b_16 : decode cJ2_getChars_a1a8b 16 = .ok (.iload 5, 2) := by decide +kernel
theorem dJ2_getChars_a1a8b_18 : decode cJ2_getChars_a1a8b 18 = .ok (.iload_n 2, 1) := by decide +kernel
theorem dJ2_getChars_a1a8b_19 : decode cJ2_getChars_a1a8b 19 = .ok (.if_icmp .ge 22, 3) := by decide +kernel
theorem dJ2_getChars_a1a8b_22 : decode cJ2_getChars_a1a8b 22 = .ok (.aload_n 3, 1) := by decide +kernel
theorem dJ2_getChars_a1a8b_23 : decode cJ2_getChars_a1a8b 23 = .ok (.iload 4, 2) := by decide +kernel
theorem dJ2_getChars_a1a8b_25 : decode cJ2_getChars_a1a8b 25 = .ok (.iinc 4 1, 3) := by decide +kernel
theorem dJ2_getChars_a1a8b_28 : decode cJ2_getChars_a1a8b 28 = .ok (.aload_n 0, 1) := by decide +kernel
theorem dJ2_getChars_a1a8b_29 : decode cJ2_getChars_a1a8b 29 = .ok (.iload 5, 2) := by decide +kernel
theorem dJ2_getChars_a1a8b_31 : decode cJ2_getChars_a1a8b 31 = .ok (.invokestatic 71, 3) := by decide +kernel
theorem dJ2_getChars_a1a8b_34 : decode cJ2_getChars_a1a8b 34 = .ok (.castore, 1) := by decide +kernel
theorem dJ2_getChars_a1a8b_35 : decode cJ2_getChars_a1a8b 35 = .ok (.iinc 5 1, 3) := by decide +kernel
theorem dJ2_getChars_a1a8b_38 : decode cJ2_getChars_a1a8b 38 = .ok (.goto (-22), 3) := by decide +kernel
theorem dJ2_getChars_a1a8b_41 : decode cJ2_getChars_a1a8b 41 = .ok (.return_, 1) := by decide +kernel
theorem dJ2_checkBoundsOffCount_d044e_0 : decode cJ2_checkBoundsOffCount_d044e 0 = .ok (.iload_n 0, 1) := by decide +kernel
theorem dJ2_checkBoundsOffCount_d044e_1 : decode cJ2_checkBoundsOffCount_d044e 1 = .ok (.iload_n 1, 1) := by decide +kernel
theorem dJ2_checkBoundsOffCount_d044e_2 : decode cJ2_checkBoundsOffCount_d044e 2 = .ok (.aload_n 2, 1) := by decide +kernel
theorem dJ2_checkBoundsOffCount_d044e_3 : decode cJ2_checkBoundsOffCount_d044e 3 = .ok (.invokestatic 48, 3) := by decide +kernel
theorem dJ2_checkBoundsOffCount_d044e_6 : decode cJ2_checkBoundsOffCount_d044e 6 = .ok (.invokestatic 419, 3) := by decide +kernel
theorem dJ2_checkBoundsOffCount_d044e_9 : decode cJ2_checkBoundsOffCount_d044e 9 = .ok (.pop, 1) := by decide +kernel
theorem dJ2_checkBoundsOffCount_d044e_10 : decode cJ2_checkBoundsOffCount_d044e 10 = .ok (.return_, 1) := by decide +kernel
theorem dJ3_checkFromIndexSize_8c36e_0 : decode cJ3_checkFromIndexSize_8c36e 0 = .ok (.iload_n 2, 1) := by decide +kernel
theorem dJ3_checkFromIndexSize_8c36e_1 : decode cJ3_checkFromIndexSize_8c36e 1 = .ok (.iload_n 0, 1) := by decide +kernel
theorem dJ3_checkFromIndexSize_8c36e_2 : decode cJ3_checkFromIndexSize_8c36e 2 = .ok (.ior, 1) := by decide +kernel
theorem dJ3_checkFromIndexSize_8c36e_3 : decode cJ3_checkFromIndexSize_8c36e 3 = .ok (.iload_n 1, 1) := by decide +kernel
theorem dJ3_checkFromIndexSize_8c36e_4 : decode cJ3_checkFromIndexSize_8c36e 4 = .ok (.ior, 1) := by decide +kernel
theorem dJ3_checkFromIndexSize_8c36e_5 : decode cJ3_checkFromIndexSize_8c36e 5 = .ok (.ifCond .lt 10, 3) := by decide +kernel
theorem dJ3_checkFromIndexSize_8c36e_8 : decode cJ3_checkFromIndexSize_8c36e 8 = .ok (.iload_n 1, 1) := by decide +kernel
theorem dJ3_checkFromIndexSize_8c36e_9 : decode cJ3_checkFromIndexSize_8c36e 9 = .ok (.iload_n 2, 1) := by decide +kernel
theorem dJ3_checkFromIndexSize_8c36e_10 : decode cJ3_checkFromIndexSize_8c36e 10 = .ok (.iload_n 0, 1) := by decide +kernel
theorem dJ3_checkFromIndexSize_8c36e_11 : decode cJ3_checkFromIndexSize_8c36e 11 = .ok (.isub, 1) := by decide +kernel
theorem dJ3_checkFromIndexSize_8c36e_12 : decode cJ3_checkFromIndexSize_8c36e 12 = .ok (.if_icmp .le 11, 3) := by decide +kernel
theorem dJ3_checkFromIndexSize_8c36e_15 : decode cJ3_checkFromIndexSize_8c36e 15 = .ok (.aload_n 3, 1) := by decide +kernel
theorem dJ3_checkFromIndexSize_8c36e_16 : decode cJ3_checkFromIndexSize_8c36e 16 = .ok (.iload_n 0, 1) := by decide +kernel
theorem dJ3_checkFromIndexSize_8c36e_17 : decode cJ3_checkFromIndexSize_8c36e 17 = .ok (.iload_n 1, 1) := by decide +kernel
theorem dJ3_checkFromIndexSize_8c36e_18 : decode cJ3_checkFromIndexSize_8c36e 18 = .ok (.iload_n 2, 1) := by decide +kernel
theorem dJ3_checkFromIndexSize_8c36e_19 : decode cJ3_checkFromIndexSize_8c36e 19 = .ok (.invokestatic 103, 3) := by decide +kernel
theorem dJ3_checkFromIndexSize_8c36e_22 : decode cJ3_checkFromIndexSize_8c36e 22 = .ok (.athrow, 1) := by decide +kernel
theorem dJ3_checkFromIndexSize_8c36e_23 : decode cJ3_checkFromIndexSize_8c36e 23 = .ok (.iload_n 0, 1) := by decide +kernel
theorem dJ3_checkFromIndexSize_8c36e_24 : decode cJ3_checkFromIndexSize_8c36e 24 = .ok (.ireturn, 1) := by decide +kernel
