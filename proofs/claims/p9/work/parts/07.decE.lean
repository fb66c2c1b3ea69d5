theorem dX5_findWorth_192 : decode cX5_findWorth 192 = .ok (.aload_n 0, 1) := by decide +kernel
theorem dX5_findWorth_193 : decode cX5_findWorth 193 = .ok (.getfield 108, 3) := by decide +kernel
theorem dX5_findWorth_196 : decode cX5_findWorth 196 = .ok (.lmul, 1) := by decide +kernel
theorem dX5_findWorth_197 : decode cX5_findWorth 197 = .ok (.invokevirtual 100, 3) := by decide +kernel
theorem dX5_findWorth_200 : decode cX5_findWorth 200 = .ok (.aload_n 0, 1) := by decide +kernel
theorem dX5_findWorth_201 : decode cX5_findWorth 201 = .ok (.getfield 104, 3) := by decide +kernel
theorem dX5_findWorth_204 : decode cX5_findWorth 204 = .ok (.lstore_n 1, 1) := by decide +kernel
theorem dX5_findWorth_205 : decode cX5_findWorth 205 = .ok (.aload_n 0, 1) := by decide +kernel
theorem dX5_findWorth_206 : decode cX5_findWorth 206 = .ok (.getfield 108, 3) := by decide +kernel
theorem dX5_findWorth_209 : decode cX5_findWorth 209 = .ok (.lstore_n 3, 1) := by decide +kernel
theorem dX5_findWorth_210 : decode cX5_findWorth 210 = .ok (.iinc 5 1, 3) := by decide +kernel
theorem dX5_findWorth_213 : decode cX5_findWorth 213 = .ok (.goto (-206), 3) := by decide +kernel
theorem dX5_findWorth_216 : decode cX5_findWorth 216 = .ok (.aload_n 0, 1) := by decide +kernel
theorem dX5_findWorth_217 : decode cX5_findWorth 217 = .ok (.lload_n 1, 1) := by decide +kernel
theorem dX5_findWorth_218 : decode cX5_findWorth 218 = .ok (.putfield 104, 3) := by decide +kernel
theorem dX5_findWorth_221 : decode cX5_findWorth 221 = .ok (.aload_n 0, 1) := by decide +kernel
theorem dX5_findWorth_222 : decode cX5_findWorth 222 = .ok (.lload_n 3, 1) := by decide +kernel
theorem dX5_findWorth_223 : decode cX5_findWorth 223 = .ok (.putfield 108, 3) := by decide +kernel
theorem dX5_findWorth_226 : decode cX5_findWorth 226 = .ok (.return_, 1) := by decide +kernel
theorem dX5_nextChoice_0 : decode cX5_nextChoice 0 = .ok (.iconst 1, 1) := by decide +kernel
theorem dX5_nextChoice_1 : decode cX5_nextChoice 1 = .ok (.istore_n 1, 1) := by decide +kernel
theorem dX5_nextChoice_2 : decode cX5_nextChoice 2 = .ok (.iload_n 1, 1) := by decide +kernel
theorem dX5_nextChoice_3 : decode cX5_nextChoice 3 = .ok (.aload_n 0, 1) := by decide +kernel
theorem dX5_nextChoice_4 : decode cX5_nextChoice 4 = .ok (.getfield 7, 3) := by decide +kernel
theorem dX5_nextChoice_7 : decode cX5_nextChoice 7 = .ok (.iconst 0, 1) := by decide +kernel
theorem dX5_nextChoice_8 : decode cX5_nextChoice 8 = .ok (.iaload, 1) := by decide +kernel
theorem dX5_nextChoice_9 : decode cX5_nextChoice 9 = .ok (.iconst 1, 1) := by decide +kernel
theorem dX5_nextChoice_10 : decode cX5_nextChoice 10 = .ok (.isub, 1) := by decide +kernel
theorem dX5_nextChoice_11 : decode cX5_nextChoice 11 = .ok (.if_icmp .ge 101, 3) := by decide +kernel
theorem dX5_nextChoice_14 : decode cX5_nextChoice 14 = .ok (.aload_n 0, 1) := by decide +kernel
theorem dX5_nextChoice_15 : decode cX5_nextChoice 15 = .ok (.getfield 62, 3) := by decide +kernel
theorem dX5_nextChoice_18 : decode cX5_nextChoice 18 = .ok (.iload_n 1, 1) := by decide +kernel
theorem dX5_nextChoice_19 : decode cX5_nextChoice 19 = .ok (.dup2, 1) := by decide +kernel
theorem dX5_nextChoice_20 : decode cX5_nextChoice 20 = .ok (.iaload, 1) := by decide +kernel
theorem dX5_nextChoice_21 : decode cX5_nextChoice 21 = .ok (.iconst 1, 1) := by decide +kernel
theorem dX5_nextChoice_22 : decode cX5_nextChoice 22 = .ok (.iadd, 1) := by decide +kernel
theorem dX5_nextChoice_23 : decode cX5_nextChoice 23 = .ok (.iastore, 1) := by decide +kernel
theorem dX5_nextChoice_24 : decode cX5_nextChoice 24 = .ok (.aload_n 0, 1) := by decide +kernel
theorem dX5_nextChoice_25 : decode cX5_nextChoice 25 = .ok (.getfield 62, 3) := by decide +kernel
theorem dX5_nextChoice_28 : decode cX5_nextChoice 28 = .ok (.iload_n 1, 1) := by decide +kernel
theorem dX5_nextChoice_29 : decode cX5_nextChoice 29 = .ok (.iaload, 1) := by decide +kernel
theorem dX5_nextChoice_30 : decode cX5_nextChoice 30 = .ok (.aload_n 0, 1) := by decide +kernel
theorem dX5_nextChoice_31 : decode cX5_nextChoice 31 = .ok (.getfield 13, 3) := by decide +kernel
theorem dX5_nextChoice_34 : decode cX5_nextChoice 34 = .ok (.iconst 0, 1) := by decide +kernel
theorem dX5_nextChoice_35 : decode cX5_nextChoice 35 = .ok (.iaload, 1) := by decide +kernel
theorem dX5_nextChoice_36 : decode cX5_nextChoice 36 = .ok (.if_icmp .ge 46, 3) := by decide +kernel
theorem dX5_nextChoice_39 : decode cX5_nextChoice 39 = .ok (.aload_n 0, 1) := by decide +kernel
theorem dX5_nextChoice_40 : decode cX5_nextChoice 40 = .ok (.getfield 16, 3) := by decide +kernel
theorem dX5_nextChoice_43 : decode cX5_nextChoice 43 = .ok (.aload_n 0, 1) := by decide +kernel
theorem dX5_nextChoice_44 : decode cX5_nextChoice 44 = .ok (.getfield 62, 3) := by decide +kernel
theorem dX5_nextChoice_47 : decode cX5_nextChoice 47 = .ok (.iload_n 1, 1) := by decide +kernel
theorem dX5_nextChoice_48 : decode cX5_nextChoice 48 = .ok (.iaload, 1) := by decide +kernel
theorem dX5_nextChoice_49 : decode cX5_nextChoice 49 = .ok (.iaload, 1) := by decide +kernel
theorem dX5_nextChoice_50 : decode cX5_nextChoice 50 = .ok (.iload_n 1, 1) := by decide +kernel
theorem dX5_nextChoice_51 : decode cX5_nextChoice 51 = .ok (.if_icmp .eq 31, 3) := by decide +kernel
theorem dX5_nextChoice_54 : decode cX5_nextChoice 54 = .ok (.aload_n 0, 1) := by decide +kernel
theorem dX5_nextChoice_55 : decode cX5_nextChoice 55 = .ok (.getfield 19, 3) := by decide +kernel
theorem dX5_nextChoice_58 : decode cX5_nextChoice 58 = .ok (.aload_n 0, 1) := by decide +kernel
theorem dX5_nextChoice_59 : decode cX5_nextChoice 59 = .ok (.getfield 62, 3) := by decide +kernel
theorem dX5_nextChoice_62 : decode cX5_nextChoice 62 = .ok (.iload_n 1, 1) := by decide +kernel
theorem dX5_nextChoice_63 : decode cX5_nextChoice 63 = .ok (.iaload, 1) := by decide +kernel
theorem dX5_nextChoice_64 : decode cX5_nextChoice 64 = .ok (.iaload, 1) := by decide +kernel
theorem dX5_nextChoice_65 : decode cX5_nextChoice 65 = .ok (.iload_n 1, 1) := by decide +kernel
theorem dX5_nextChoice_66 : decode cX5_nextChoice 66 = .ok (.if_icmp .eq 16, 3) := by decide +kernel
theorem dX5_nextChoice_69 : decode cX5_nextChoice 69 = .ok (.aload_n 0, 1) := by decide +kernel
theorem dX5_nextChoice_70 : decode cX5_nextChoice 70 = .ok (.getfield 62, 3) := by decide +kernel
theorem dX5_nextChoice_73 : decode cX5_nextChoice 73 = .ok (.iload_n 1, 1) := by decide +kernel
theorem dX5_nextChoice_74 : decode cX5_nextChoice 74 = .ok (.dup2, 1) := by decide +kernel
theorem dX5_nextChoice_75 : decode cX5_nextChoice 75 = .ok (.iaload, 1) := by decide +kernel
theorem dX5_nextChoice_76 : decode cX5_nextChoice 76 = .ok (.iconst 1, 1) := by decide +kernel
theorem dX5_nextChoice_77 : decode cX5_nextChoice 77 = .ok (.iadd, 1) := by decide +kernel
theorem dX5_nextChoice_78 : decode cX5_nextChoice 78 = .ok (.iastore, 1) := by decide +kernel
theorem dX5_nextChoice_79 : decode cX5_nextChoice 79 = .ok (.goto (-55), 3) := by decide +kernel
theorem dX5_nextChoice_82 : decode cX5_nextChoice 82 = .ok (.aload_n 0, 1) := by decide +kernel
theorem dX5_nextChoice_83 : decode cX5_nextChoice 83 = .ok (.getfield 62, 3) := by decide +kernel
theorem dX5_nextChoice_86 : decode cX5_nextChoice 86 = .ok (.iload_n 1, 1) := by decide +kernel
theorem dX5_nextChoice_87 : decode cX5_nextChoice 87 = .ok (.iaload, 1) := by decide +kernel
theorem dX5_nextChoice_88 : decode cX5_nextChoice 88 = .ok (.aload_n 0, 1) := by decide +kernel
theorem dX5_nextChoice_89 : decode cX5_nextChoice 89 = .ok (.getfield 13, 3) := by decide +kernel
theorem dX5_nextChoice_92 : decode cX5_nextChoice 92 = .ok (.iconst 0, 1) := by decide +kernel
theorem dX5_nextChoice_93 : decode cX5_nextChoice 93 = .ok (.iaload, 1) := by decide +kernel
theorem dX5_nextChoice_94 : decode cX5_nextChoice 94 = .ok (.if_icmp .ge 5, 3) := by decide +kernel
theorem dX5_nextChoice_97 : decode cX5_nextChoice 97 = .ok (.iconst 1, 1) := by decide +kernel
theorem dX5_nextChoice_98 : decode cX5_nextChoice 98 = .ok (.ireturn, 1) := by decide +kernel
theorem dX5_nextChoice_99 : decode cX5_nextChoice 99 = .ok (.aload_n 0, 1) := by decide +kernel
theorem dX5_nextChoice_100 : decode cX5_nextChoice 100 = .ok (.getfield 62, 3) := by decide +kernel
theorem dX5_nextChoice_103 : decode cX5_nextChoice 103 = .ok (.iload_n 1, 1) := by decide +kernel
theorem dX5_nextChoice_104 : decode cX5_nextChoice 104 = .ok (.iconst (-1), 1) := by decide +kernel
theorem dX5_nextChoice_105 : decode cX5_nextChoice 105 = .ok (.iastore, 1) := by decide +kernel
theorem dX5_nextChoice_106 : decode cX5_nextChoice 106 = .ok (.iinc 1 1, 3) := by decide +kernel
theorem dX5_nextChoice_109 : decode cX5_nextChoice 109 = .ok (.goto (-107), 3) := by decide +kernel
theorem dX5_nextChoice_112 : decode cX5_nextChoice 112 = .ok (.iconst 0, 1) := by decide +kernel
theorem dX5_nextChoice_113 : decode cX5_nextChoice 113 = .ok (.ireturn, 1) := by decide +kernel
theorem dX5_findMost_0 : decode cX5_findMost 0 = .ok (.iconst 0, 1) := by decide +kernel
theorem dX5_findMost_1 : decode cX5_findMost 1 = .ok (.istore_n 1, 1) := by decide +kernel
theorem dX5_findMost_2 : decode cX5_findMost 2 = .ok (.iload_n 1, 1) := by decide +kernel
theorem dX5_findMost_3 : decode cX5_findMost 3 = .ok (.iconst 5, 1) := by decide +kernel
theorem dX5_findMost_4 : decode cX5_findMost 4 = .ok (.if_icmp .ge 16, 3) := by decide +kernel
theorem dX5_findMost_7 : decode cX5_findMost 7 = .ok (.aload_n 0, 1) := by decide +kernel
theorem dX5_findMost_8 : decode cX5_findMost 8 = .ok (.getfield 62, 3) := by decide +kernel
theorem dX5_findMost_11 : decode cX5_findMost 11 = .ok (.iload_n 1, 1) := by decide +kernel
theorem dX5_findMost_12 : decode cX5_findMost 12 = .ok (.iconst (-1), 1) := by decide +kernel
theorem dX5_findMost_13 : decode cX5_findMost 13 = .ok (.iastore, 1) := by decide +kernel
theorem dX5_findMost_14 : decode cX5_findMost 14 = .ok (.iinc 1 1, 3) := by decide +kernel
theorem dX5_findMost_17 : decode cX5_findMost 17 = .ok (.goto (-15), 3) := by decide +kernel
theorem dX5_findMost_20 : decode cX5_findMost 20 = .ok (.iconst 0, 1) := by decide +kernel
theorem dX5_findMost_21 : decode cX5_findMost 21 = .ok (.istore_n 1, 1) := by decide +kernel
theorem dX5_findMost_22 : decode cX5_findMost 22 = .ok (.iconst 1, 1) := by decide +kernel
theorem dX5_findMost_23 : decode cX5_findMost 23 = .ok (.istore_n 2, 1) := by decide +kernel
theorem dX5_findMost_24 : decode cX5_findMost 24 = .ok (.iload_n 2, 1) := by decide +kernel
theorem dX5_findMost_25 : decode cX5_findMost 25 = .ok (.ifCond .eq 66, 3) := by decide +kernel
theorem dX5_findMost_28 : decode cX5_findMost 28 = .ok (.aload_n 0, 1) := by decide +kernel
theorem dX5_findMost_29 : decode cX5_findMost 29 = .ok (.invokevirtual 115, 3) := by decide +kernel
theorem dX5_findMost_32 : decode cX5_findMost 32 = .ok (.ifCond .eq 51, 3) := by decide +kernel
theorem dX5_findMost_35 : decode cX5_findMost 35 = .ok (.aload_n 0, 1) := by decide +kernel
theorem dX5_findMost_36 : decode cX5_findMost 36 = .ok (.invokevirtual 119, 3) := by decide +kernel
theorem dX5_findMost_39 : decode cX5_findMost 39 = .ok (.iload_n 1, 1) := by decide +kernel
theorem dX5_findMost_40 : decode cX5_findMost 40 = .ok (.ifCond .eq 25, 3) := by decide +kernel
theorem dX5_findMost_43 : decode cX5_findMost 43 = .ok (.aload_n 0, 1) := by decide +kernel
theorem dX5_findMost_44 : decode cX5_findMost 44 = .ok (.getfield 104, 3) := by decide +kernel
theorem dX5_findMost_47 : decode cX5_findMost 47 = .ok (.aload_n 0, 1) := by decide +kernel
theorem dX5_findMost_48 : decode cX5_findMost 48 = .ok (.getfield 108, 3) := by decide +kernel
theorem dX5_findMost_51 : decode cX5_findMost 51 = .ok (.aload_n 0, 1) := by decide +kernel
theorem dX5_findMost_52 : decode cX5_findMost 52 = .ok (.getfield 122, 3) := by decide +kernel
theorem dX5_findMost_55 : decode cX5_findMost 55 = .ok (.aload_n 0, 1) := by decide +kernel
theorem dX5_findMost_56 : decode cX5_findMost 56 = .ok (.getfield 125, 3) := by decide +kernel
theorem dX5_findMost_59 : decode cX5_findMost 59 = .ok (.invokestatic 128, 3) := by decide +kernel
theorem dX5_findMost_62 : decode cX5_findMost 62 = .ok (.ifCond .eq 21, 3) := by decide +kernel
theorem dX5_findMost_65 : decode cX5_findMost 65 = .ok (.aload_n 0, 1) := by decide +kernel
theorem dX5_findMost_66 : decode cX5_findMost 66 = .ok (.aload_n 0, 1) := by decide +kernel
theorem dX5_findMost_67 : decode cX5_findMost 67 = .ok (.getfield 104, 3) := by decide +kernel
theorem dX5_findMost_70 : decode cX5_findMost 70 = .ok (.putfield 122, 3) := by decide +kernel
theorem dX5_findMost_73 : decode cX5_findMost 73 = .ok (.aload_n 0, 1) := by decide +kernel
theorem dX5_findMost_74 : decode cX5_findMost 74 = .ok (.aload_n 0, 1) := by decide +kernel
theorem dX5_findMost_75 : decode cX5_findMost 75 = .ok (.getfield 108, 3) := by decide +kernel
theorem dX5_findMost_78 : decode cX5_findMost 78 = .ok (.putfield 125, 3) := by decide +kernel
theorem dX5_findMost_81 : decode cX5_findMost 81 = .ok (.iconst 1, 1) := by decide +kernel
theorem dX5_findMost_82 : decode cX5_findMost 82 = .ok (.istore_n 1, 1) := by decide +kernel
theorem dX5_findMost_83 : decode cX5_findMost 83 = .ok (.aload_n 0, 1) := by decide +kernel
theorem dX5_findMost_84 : decode cX5_findMost 84 = .ok (.invokevirtual 132, 3) := by decide +kernel
theorem dX5_findMost_87 : decode cX5_findMost 87 = .ok (.istore_n 2, 1) := by decide +kernel
theorem dX5_findMost_88 : decode cX5_findMost 88 = .ok (.goto (-64), 3) := by decide +kernel
theorem dX5_findMost_91 : decode cX5_findMost 91 = .ok (.return_, 1) := by decide +kernel
theorem dX5_most_0 : decode cX5_most 0 = .ok (.aload_n 0, 1) := by decide +kernel
theorem dX5_most_1 : decode cX5_most 1 = .ok (.iconst 0, 1) := by decide +kernel
theorem dX5_most_2 : decode cX5_most 2 = .ok (.putfield 81, 3) := by decide +kernel
theorem dX5_most_5 : decode cX5_most 5 = .ok (.iload_n 1, 1) := by decide +kernel
theorem dX5_most_6 : decode cX5_most 6 = .ok (.iconst 0, 1) := by decide +kernel
theorem dX5_most_7 : decode cX5_most 7 = .ok (.iconst 2, 1) := by decide +kernel
theorem dX5_most_8 : decode cX5_most 8 = .ok (.invokestatic 89, 3) := by decide +kernel
theorem dX5_most_11 : decode cX5_most 11 = .ok (.ifCond .ne 7, 3) := by decide +kernel
theorem dX5_most_14 : decode cX5_most 14 = .ok (.ldc2_w 135, 3) := by decide +kernel
theorem dX5_most_17 : decode cX5_most 17 = .ok (.lreturn, 1) := by decide +kernel
theorem dX5_most_18 : decode cX5_most 18 = .ok (.aload_n 0, 1) := by decide +kernel
theorem dX5_most_19 : decode cX5_most 19 = .ok (.iload_n 1, 1) := by decide +kernel
theorem dX5_most_20 : decode cX5_most 20 = .ok (.invokevirtual 137, 3) := by decide +kernel
theorem dX5_most_23 : decode cX5_most 23 = .ok (.aload_n 0, 1) := by decide +kernel
theorem dX5_most_24 : decode cX5_most 24 = .ok (.invokevirtual 141, 3) := by decide +kernel
theorem dX5_most_27 : decode cX5_most 27 = .ok (.iload_n 2, 1) := by decide +kernel
theorem dX5_most_28 : decode cX5_most 28 = .ok (.ifCond .eq 10, 3) := by decide +kernel
theorem dX5_most_31 : decode cX5_most 31 = .ok (.aload_n 0, 1) := by decide +kernel
theorem dX5_most_32 : decode cX5_most 32 = .ok (.getfield 125, 3) := by decide +kernel
theorem dX5_most_35 : decode cX5_most 35 = .ok (.goto 7, 3) := by decide +kernel
theorem dX5_most_38 : decode cX5_most 38 = .ok (.aload_n 0, 1) := by decide +kernel
theorem dX5_most_39 : decode cX5_most 39 = .ok (.getfield 122, 3) := by decide +kernel
theorem dX5_most_42 : decode cX5_most 42 = .ok (.lreturn, 1) := by decide +kernel
theorem dX5_more_0 : decode cX5_more 0 = .ok (.aload_n 0, 1) := by decide +kernel
theorem dX5_more_1 : decode cX5_more 1 = .ok (.iconst 0, 1) := by decide +kernel
theorem dX5_more_2 : decode cX5_more 2 = .ok (.putfield 81, 3) := by decide +kernel
theorem dX5_more_5 : decode cX5_more 5 = .ok (.aload_n 0, 1) := by decide +kernel
theorem dX5_more_6 : decode cX5_more 6 = .ok (.iload_n 1, 1) := by decide +kernel
theorem dX5_more_7 : decode cX5_more 7 = .ok (.invokevirtual 97, 3) := by decide +kernel
theorem dX5_more_10 : decode cX5_more 10 = .ok (.ifCond .eq 13, 3) := by decide +kernel
theorem dX5_more_13 : decode cX5_more 13 = .ok (.iload_n 2, 1) := by decide +kernel
theorem dX5_more_14 : decode cX5_more 14 = .ok (.iconst 0, 1) := by decide +kernel
theorem dX5_more_15 : decode cX5_more 15 = .ok (.bipush 100, 2) := by decide +kernel
theorem dX5_more_17 : decode cX5_more 17 = .ok (.invokestatic 89, 3) := by decide +kernel
theorem dX5_more_20 : decode cX5_more 20 = .ok (.ifCond .ne 5, 3) := by decide +kernel
theorem dX5_more_23 : decode cX5_more 23 = .ok (.lconst 0, 1) := by decide +kernel
theorem dX5_more_24 : decode cX5_more 24 = .ok (.lreturn, 1) := by decide +kernel
theorem dX5_more_25 : decode cX5_more 25 = .ok (.aload_n 0, 1) := by decide +kernel
theorem dX5_more_26 : decode cX5_more 26 = .ok (.iconst 0, 1) := by decide +kernel
theorem dX5_more_27 : decode cX5_more 27 = .ok (.invokevirtual 137, 3) := by decide +kernel
theorem dX5_more_30 : decode cX5_more 30 = .ok (.aload_n 0, 1) := by decide +kernel
theorem dX5_more_31 : decode cX5_more 31 = .ok (.invokevirtual 141, 3) := by decide +kernel
theorem dX5_more_34 : decode cX5_more 34 = .ok (.aload_n 0, 1) := by decide +kernel
theorem dX5_more_35 : decode cX5_more 35 = .ok (.getfield 122, 3) := by decide +kernel
theorem dX5_more_38 : decode cX5_more 38 = .ok (.lstore 4, 2) := by decide +kernel
theorem dX5_more_40 : decode cX5_more 40 = .ok (.aload_n 0, 1) := by decide +kernel
theorem dX5_more_41 : decode cX5_more 41 = .ok (.getfield 125, 3) := by decide +kernel
theorem dX5_more_44 : decode cX5_more 44 = .ok (.lstore 6, 2) := by decide +kernel
theorem dX5_more_46 : decode cX5_more 46 = .ok (.aload_n 0, 1) := by decide +kernel
theorem dX5_more_47 : decode cX5_more 47 = .ok (.getfield 59, 3) := by decide +kernel
theorem dX5_more_50 : decode cX5_more 50 = .ok (.iload_n 1, 1) := by decide +kernel
theorem dX5_more_51 : decode cX5_more 51 = .ok (.iload_n 2, 1) := by decide +kernel
theorem dX5_more_52 : decode cX5_more 52 = .ok (.iastore, 1) := by decide +kernel
theorem dX5_more_53 : decode cX5_more 53 = .ok (.aload_n 0, 1) := by decide +kernel
theorem dX5_more_54 : decode cX5_more 54 = .ok (.invokevirtual 141, 3) := by decide +kernel
theorem dX5_more_57 : decode cX5_more 57 = .ok (.lload 6, 2) := by decide +kernel
theorem dX5_more_59 : decode cX5_more 59 = .ok (.aload_n 0, 1) := by decide +kernel
theorem dX5_more_60 : decode cX5_more 60 = .ok (.getfield 125, 3) := by decide +kernel
theorem dX5_more_63 : decode cX5_more 63 = .ok (.invokestatic 111, 3) := by decide +kernel
theorem dX5_more_66 : decode cX5_more 66 = .ok (.lstore 8, 2) := by decide +kernel
theorem dX5_more_68 : decode cX5_more 68 = .ok (.aload_n 0, 1) := by decide +kernel
theorem dX5_more_69 : decode cX5_more 69 = .ok (.aload_n 0, 1) := by decide +kernel
theorem dX5_more_70 : decode cX5_more 70 = .ok (.getfield 122, 3) := by decide +kernel
theorem dX5_more_73 : decode cX5_more 73 = .ok (.lload 6, 2) := by decide +kernel
theorem dX5_more_75 : decode cX5_more 75 = .ok (.lload 8, 2) := by decide +kernel
theorem dX5_more_77 : decode cX5_more 77 = .ok (.ldiv, 1) := by decide +kernel
theorem dX5_more_78 : decode cX5_more 78 = .ok (.lmul, 1) := by decide +kernel
theorem dX5_more_79 : decode cX5_more 79 = .ok (.lload 4, 2) := by decide +kernel
theorem dX5_more_81 : decode cX5_more 81 = .ok (.aload_n 0, 1) := by decide +kernel
theorem dX5_more_82 : decode cX5_more 82 = .ok (.getfield 125, 3) := by decide +kernel
theorem dX5_more_85 : decode cX5_more 85 = .ok (.lload 8, 2) := by decide +kernel
theorem dX5_more_87 : decode cX5_more 87 = .ok (.ldiv, 1) := by decide +kernel
theorem dX5_more_88 : decode cX5_more 88 = .ok (.lmul, 1) := by decide +kernel
theorem dX5_more_89 : decode cX5_more 89 = .ok (.lsub, 1) := by decide +kernel
theorem dX5_more_90 : decode cX5_more 90 = .ok (.aload_n 0, 1) := by decide +kernel
theorem dX5_more_91 : decode cX5_more 91 = .ok (.getfield 125, 3) := by decide +kernel
theorem dX5_more_94 : decode cX5_more 94 = .ok (.lload 8, 2) := by decide +kernel
theorem dX5_more_96 : decode cX5_more 96 = .ok (.ldiv, 1) := by decide +kernel
theorem dX5_more_97 : decode cX5_more 97 = .ok (.lload 6, 2) := by decide +kernel
theorem dX5_more_99 : decode cX5_more 99 = .ok (.lmul, 1) := by decide +kernel
theorem dX5_more_100 : decode cX5_more 100 = .ok (.invokevirtual 100, 3) := by decide +kernel
theorem dX5_more_103 : decode cX5_more 103 = .ok (.iload_n 3, 1) := by decide +kernel
theorem dX5_more_104 : decode cX5_more 104 = .ok (.ifCond .eq 10, 3) := by decide +kernel
theorem dX5_more_107 : decode cX5_more 107 = .ok (.aload_n 0, 1) := by decide +kernel
theorem dX5_more_108 : decode cX5_more 108 = .ok (.getfield 108, 3) := by decide +kernel
theorem dX5_more_111 : decode cX5_more 111 = .ok (.goto 7, 3) := by decide +kernel
theorem dX5_more_114 : decode cX5_more 114 = .ok (.aload_n 0, 1) := by decide +kernel
theorem dX5_more_115 : decode cX5_more 115 = .ok (.getfield 104, 3) := by decide +kernel
theorem dX5_more_118 : decode cX5_more 118 = .ok (.lreturn, 1) := by decide +kernel
theorem dX5_productUp_0 : decode cX5_productUp 0 = .ok (.lconst 1, 1) := by decide +kernel
theorem dX5_productUp_1 : decode cX5_productUp 1 = .ok (.lstore_n 2, 1) := by decide +kernel
theorem dX5_productUp_2 : decode cX5_productUp 2 = .ok (.iconst 0, 1) := by decide +kernel
theorem dX5_productUp_3 : decode cX5_productUp 3 = .ok (.istore 4, 2) := by decide +kernel
theorem dX5_productUp_5 : decode cX5_productUp 5 = .ok (.iload 4, 2) := by decide +kernel
theorem dX5_productUp_7 : decode cX5_productUp 7 = .ok (.iload_n 1, 1) := by decide +kernel
theorem dX5_productUp_8 : decode cX5_productUp 8 = .ok (.if_icmp .ge 25, 3) := by decide +kernel
theorem dX5_productUp_11 : decode cX5_productUp 11 = .ok (.lload_n 2, 1) := by decide +kernel
theorem dX5_productUp_12 : decode cX5_productUp 12 = .ok (.aload_n 0, 1) := by decide +kernel
theorem dX5_productUp_13 : decode cX5_productUp 13 = .ok (.getfield 25, 3) := by decide +kernel
theorem dX5_productUp_16 : decode cX5_productUp 16 = .ok (.aload_n 0, 1) := by decide +kernel
theorem dX5_productUp_17 : decode cX5_productUp 17 = .ok (.getfield 71, 3) := by decide +kernel
theorem dX5_productUp_20 : decode cX5_productUp 20 = .ok (.iload 4, 2) := by decide +kernel
theorem dX5_productUp_22 : decode cX5_productUp 22 = .ok (.iaload, 1) := by decide +kernel
theorem dX5_productUp_23 : decode cX5_productUp 23 = .ok (.iaload, 1) := by decide +kernel
theorem dX5_productUp_24 : decode cX5_productUp 24 = .ok (.i2l, 1) := by decide +kernel
theorem dX5_productUp_25 : decode cX5_productUp 25 = .ok (.lmul, 1) := by decide +kernel
theorem dX5_productUp_26 : decode cX5_productUp 26 = .ok (.lstore_n 2, 1) := by decide +kernel
theorem dX5_productUp_27 : decode cX5_productUp 27 = .ok (.iinc 4 1, 3) := by decide +kernel
theorem dX5_productUp_30 : decode cX5_productUp 30 = .ok (.goto (-25), 3) := by decide +kernel
theorem dX5_productUp_33 : decode cX5_productUp 33 = .ok (.lload_n 2, 1) := by decide +kernel
theorem dX5_productUp_34 : decode cX5_productUp 34 = .ok (.lreturn, 1) := by decide +kernel
theorem dX5_productDown_0 : decode cX5_productDown 0 = .ok (.lconst 1, 1) := by decide +kernel
theorem dX5_productDown_1 : decode cX5_productDown 1 = .ok (.lstore_n 2, 1) := by decide +kernel
theorem dX5_productDown_2 : decode cX5_productDown 2 = .ok (.iconst 0, 1) := by decide +kernel
theorem dX5_productDown_3 : decode cX5_productDown 3 = .ok (.istore 4, 2) := by decide +kernel
theorem dX5_productDown_5 : decode cX5_productDown 5 = .ok (.iload 4, 2) := by decide +kernel
theorem dX5_productDown_7 : decode cX5_productDown 7 = .ok (.iload_n 1, 1) := by decide +kernel
theorem dX5_productDown_8 : decode cX5_productDown 8 = .ok (.if_icmp .ge 25, 3) := by decide +kernel
theorem dX5_productDown_11 : decode cX5_productDown 11 = .ok (.lload_n 2, 1) := by decide +kernel
theorem dX5_productDown_12 : decode cX5_productDown 12 = .ok (.aload_n 0, 1) := by decide +kernel
theorem dX5_productDown_13 : decode cX5_productDown 13 = .ok (.getfield 28, 3) := by decide +kernel
theorem dX5_productDown_16 : decode cX5_productDown 16 = .ok (.aload_n 0, 1) := by decide +kernel
theorem dX5_productDown_17 : decode cX5_productDown 17 = .ok (.getfield 71, 3) := by decide +kernel
theorem dX5_productDown_20 : decode cX5_productDown 20 = .ok (.iload 4, 2) := by decide +kernel
theorem dX5_productDown_22 : decode cX5_productDown 22 = .ok (.iaload, 1) := by decide +kernel
theorem dX5_productDown_23 : decode cX5_productDown 23 = .ok (.iaload, 1) := by decide +kernel
theorem dX5_productDown_24 : decode cX5_productDown 24 = .ok (.i2l, 1) := by decide +kernel
theorem dX5_productDown_25 : decode cX5_productDown 25 = .ok (.lmul, 1) := by decide +kernel
theorem dX5_productDown_26 : decode cX5_productDown 26 = .ok (.lstore_n 2, 1) := by decide +kernel
theorem dX5_productDown_27 : decode cX5_productDown 27 = .ok (.iinc 4 1, 3) := by decide +kernel
theorem dX5_productDown_30 : decode cX5_productDown 30 = .ok (.goto (-25), 3) := by decide +kernel
theorem dX5_productDown_33 : decode cX5_productDown 33 = .ok (.lload_n 2, 1) := by decide +kernel
theorem dX5_productDown_34 : decode cX5_productDown 34 = .ok (.lreturn, 1) := by decide +kernel
theorem dX5_takes_0 : decode cX5_takes 0 = .ok (.aload_n 0, 1) := by decide +kernel
theorem dX5_takes_1 : decode cX5_takes 1 = .ok (.iload_n 1, 1) := by decide +kernel
theorem dX5_takes_2 : decode cX5_takes 2 = .ok (.invokevirtual 144, 3) := by decide +kernel
theorem dX5_takes_5 : decode cX5_takes 5 = .ok (.lstore_n 2, 1) := by decide +kernel
theorem dX5_takes_6 : decode cX5_takes 6 = .ok (.aload_n 0, 1) := by decide +kernel
theorem dX5_takes_7 : decode cX5_takes 7 = .ok (.iload_n 1, 1) := by decide +kernel
theorem dX5_takes_8 : decode cX5_takes 8 = .ok (.invokevirtual 148, 3) := by decide +kernel
theorem dX5_takes_11 : decode cX5_takes 11 = .ok (.lstore 4, 2) := by decide +kernel
theorem dX5_takes_13 : decode cX5_takes 13 = .ok (.aload_n 0, 1) := by decide +kernel
theorem dX5_takes_14 : decode cX5_takes 14 = .ok (.getfield 151, 3) := by decide +kernel
theorem dX5_takes_17 : decode cX5_takes 17 = .ok (.ifCond .eq 20, 3) := by decide +kernel
theorem dX5_takes_20 : decode cX5_takes 20 = .ok (.lload_n 2, 1) := by decide +kernel
theorem dX5_takes_21 : decode cX5_takes 21 = .ok (.aload_n 0, 1) := by decide +kernel
theorem dX5_takes_22 : decode cX5_takes 22 = .ok (.getfield 154, 3) := by decide +kernel
theorem dX5_takes_25 : decode cX5_takes 25 = .ok (.lmul, 1) := by decide +kernel
theorem dX5_takes_26 : decode cX5_takes 26 = .ok (.aload_n 0, 1) := by decide +kernel
theorem dX5_takes_27 : decode cX5_takes 27 = .ok (.getfield 157, 3) := by decide +kernel
theorem dX5_takes_30 : decode cX5_takes 30 = .ok (.lload 4, 2) := by decide +kernel
theorem dX5_takes_32 : decode cX5_takes 32 = .ok (.lmul, 1) := by decide +kernel
theorem dX5_takes_33 : decode cX5_takes 33 = .ok (.lcmp, 1) := by decide +kernel
theorem dX5_takes_34 : decode cX5_takes 34 = .ok (.ifCond .le 7, 3) := by decide +kernel
theorem dX5_takes_37 : decode cX5_takes 37 = .ok (.iconst 1, 1) := by decide +kernel
theorem dX5_takes_38 : decode cX5_takes 38 = .ok (.goto 4, 3) := by decide +kernel
theorem dX5_takes_41 : decode cX5_takes 41 = .ok (.iconst 0, 1) := by decide +kernel
theorem dX5_takes_42 : decode cX5_takes 42 = .ok (.istore 6, 2) := by decide +kernel
theorem dX5_takes_44 : decode cX5_takes 44 = .ok (.iload 6, 2) := by decide +kernel
theorem dX5_takes_46 : decode cX5_takes 46 = .ok (.ifCond .ne 105, 3) := by decide +kernel
theorem dX5_takes_49 : decode cX5_takes 49 = .ok (.lload_n 2, 1) := by decide +kernel
theorem dX5_takes_50 : decode cX5_takes 50 = .ok (.aload_n 0, 1) := by decide +kernel
theorem dX5_takes_51 : decode cX5_takes 51 = .ok (.getfield 154, 3) := by decide +kernel
theorem dX5_takes_54 : decode cX5_takes 54 = .ok (.lmul, 1) := by decide +kernel
theorem dX5_takes_55 : decode cX5_takes 55 = .ok (.aload_n 0, 1) := by decide +kernel
theorem dX5_takes_56 : decode cX5_takes 56 = .ok (.getfield 157, 3) := by decide +kernel
theorem dX5_takes_59 : decode cX5_takes 59 = .ok (.lload 4, 2) := by decide +kernel
theorem dX5_takes_61 : decode cX5_takes 61 = .ok (.lmul, 1) := by decide +kernel
theorem dX5_takes_62 : decode cX5_takes 62 = .ok (.lcmp, 1) := by decide +kernel
theorem dX5_takes_63 : decode cX5_takes 63 = .ok (.ifCond .ne 88, 3) := by decide +kernel
theorem dX5_takes_66 : decode cX5_takes 66 = .ok (.iload_n 1, 1) := by decide +kernel
theorem dX5_takes_67 : decode cX5_takes 67 = .ok (.aload_n 0, 1) := by decide +kernel
theorem dX5_takes_68 : decode cX5_takes 68 = .ok (.getfield 151, 3) := by decide +kernel
theorem dX5_takes_71 : decode cX5_takes 71 = .ok (.if_icmp .ge 7, 3) := by decide +kernel
theorem dX5_takes_74 : decode cX5_takes 74 = .ok (.iconst 1, 1) := by decide +kernel
theorem dX5_takes_75 : decode cX5_takes 75 = .ok (.goto 4, 3) := by decide +kernel
theorem dX5_takes_78 : decode cX5_takes 78 = .ok (.iconst 0, 1) := by decide +kernel
theorem dX5_takes_79 : decode cX5_takes 79 = .ok (.istore 6, 2) := by decide +kernel
theorem dX5_takes_81 : decode cX5_takes 81 = .ok (.iload_n 1, 1) := by decide +kernel
theorem dX5_takes_82 : decode cX5_takes 82 = .ok (.aload_n 0, 1) := by decide +kernel
theorem dX5_takes_83 : decode cX5_takes 83 = .ok (.getfield 151, 3) := by decide +kernel
theorem dX5_takes_86 : decode cX5_takes 86 = .ok (.if_icmp .ne 65, 3) := by decide +kernel
theorem dX5_takes_89 : decode cX5_takes 89 = .ok (.iconst 0, 1) := by decide +kernel
theorem dX5_takes_90 : decode cX5_takes 90 = .ok (.istore 7, 2) := by decide +kernel
theorem dX5_takes_92 : decode cX5_takes 92 = .ok (.iload 7, 2) := by decide +kernel
theorem dX5_takes_94 : decode cX5_takes 94 = .ok (.iload_n 1, 1) := by decide +kernel
theorem dX5_takes_95 : decode cX5_takes 95 = .ok (.if_icmp .ge 26, 3) := by decide +kernel
theorem dX5_takes_98 : decode cX5_takes 98 = .ok (.aload_n 0, 1) := by decide +kernel
theorem dX5_takes_99 : decode cX5_takes 99 = .ok (.getfield 71, 3) := by decide +kernel
theorem dX5_takes_102 : decode cX5_takes 102 = .ok (.iload 7, 2) := by decide +kernel
theorem dX5_takes_104 : decode cX5_takes 104 = .ok (.iaload, 1) := by decide +kernel
theorem dX5_takes_105 : decode cX5_takes 105 = .ok (.aload_n 0, 1) := by decide +kernel
theorem dX5_takes_106 : decode cX5_takes 106 = .ok (.getfield 74, 3) := by decide +kernel
theorem dX5_takes_109 : decode cX5_takes 109 = .ok (.iload 7, 2) := by decide +kernel
theorem dX5_takes_111 : decode cX5_takes 111 = .ok (.iaload, 1) := by decide +kernel
theorem dX5_takes_112 : decode cX5_takes 112 = .ok (.if_icmp .ne 9, 3) := by decide +kernel
theorem dX5_takes_115 : decode cX5_takes 115 = .ok (.iinc 7 1, 3) := by decide +kernel
theorem dX5_takes_118 : decode cX5_takes 118 = .ok (.goto (-26), 3) := by decide +kernel
theorem dX5_takes_121 : decode cX5_takes 121 = .ok (.iload 7, 2) := by decide +kernel
theorem dX5_takes_123 : decode cX5_takes 123 = .ok (.iload_n 1, 1) := by decide +kernel
theorem dX5_takes_124 : decode cX5_takes 124 = .ok (.if_icmp .ge 24, 3) := by decide +kernel
theorem dX5_takes_127 : decode cX5_takes 127 = .ok (.aload_n 0, 1) := by decide +kernel
theorem dX5_takes_128 : decode cX5_takes 128 = .ok (.getfield 71, 3) := by decide +kernel
theorem dX5_takes_131 : decode cX5_takes 131 = .ok (.iload 7, 2) := by decide +kernel
theorem dX5_takes_133 : decode cX5_takes 133 = .ok (.iaload, 1) := by decide +kernel
theorem dX5_takes_134 : decode cX5_takes 134 = .ok (.aload_n 0, 1) := by decide +kernel
theorem dX5_takes_135 : decode cX5_takes 135 = .ok (.getfield 74, 3) := by decide +kernel
theorem dX5_takes_138 : decode cX5_takes 138 = .ok (.iload 7, 2) := by decide +kernel
theorem dX5_takes_140 : decode cX5_takes 140 = .ok (.iaload, 1) := by decide +kernel
theorem dX5_takes_141 : decode cX5_takes 141 = .ok (.if_icmp .ge 7, 3) := by decide +kernel
theorem dX5_takes_144 : decode cX5_takes 144 = .ok (.iconst 1, 1) := by decide +kernel
theorem dX5_takes_145 : decode cX5_takes 145 = .ok (.goto 4, 3) := by decide +kernel
theorem dX5_takes_148 : decode cX5_takes 148 = .ok (.iconst 0, 1) := by decide +kernel
theorem dX5_takes_149 : decode cX5_takes 149 = .ok (.istore 6, 2) := by decide +kernel
theorem dX5_takes_151 : decode cX5_takes 151 = .ok (.iload 6, 2) := by decide +kernel
theorem dX5_takes_153 : decode cX5_takes 153 = .ok (.ifCond .eq 48, 3) := by decide +kernel
theorem dX5_takes_156 : decode cX5_takes 156 = .ok (.aload_n 0, 1) := by decide +kernel
theorem dX5_takes_157 : decode cX5_takes 157 = .ok (.iload_n 1, 1) := by decide +kernel
theorem dX5_takes_158 : decode cX5_takes 158 = .ok (.putfield 151, 3) := by decide +kernel
theorem dX5_takes_161 : decode cX5_takes 161 = .ok (.aload_n 0, 1) := by decide +kernel
theorem dX5_takes_162 : decode cX5_takes 162 = .ok (.lload_n 2, 1) := by decide +kernel
theorem dX5_takes_163 : decode cX5_takes 163 = .ok (.putfield 157, 3) := by decide +kernel
theorem dX5_takes_166 : decode cX5_takes 166 = .ok (.aload_n 0, 1) := by decide +kernel
theorem dX5_takes_167 : decode cX5_takes 167 = .ok (.lload 4, 2) := by decide +kernel
theorem dX5_takes_169 : decode cX5_takes 169 = .ok (.putfield 154, 3) := by decide +kernel
theorem dX5_takes_172 : decode cX5_takes 172 = .ok (.iconst 0, 1) := by decide +kernel
theorem dX5_takes_173 : decode cX5_takes 173 = .ok (.istore 7, 2) := by decide +kernel
theorem dX5_takes_175 : decode cX5_takes 175 = .ok (.iload 7, 2) := by decide +kernel
theorem dX5_takes_177 : decode cX5_takes 177 = .ok (.iload_n 1, 1) := by decide +kernel
theorem dX5_takes_178 : decode cX5_takes 178 = .ok (.if_icmp .ge 23, 3) := by decide +kernel
theorem dX5_takes_181 : decode cX5_takes 181 = .ok (.aload_n 0, 1) := by decide +kernel
theorem dX5_takes_182 : decode cX5_takes 182 = .ok (.getfield 74, 3) := by decide +kernel
theorem dX5_takes_185 : decode cX5_takes 185 = .ok (.iload 7, 2) := by decide +kernel
theorem dX5_takes_187 : decode cX5_takes 187 = .ok (.aload_n 0, 1) := by decide +kernel
theorem dX5_takes_188 : decode cX5_takes 188 = .ok (.getfield 71, 3) := by decide +kernel
theorem dX5_takes_191 : decode cX5_takes 191 = .ok (.iload 7, 2) := by decide +kernel
theorem dX5_takes_193 : decode cX5_takes 193 = .ok (.iaload, 1) := by decide +kernel
theorem dX5_takes_194 : decode cX5_takes 194 = .ok (.iastore, 1) := by decide +kernel
theorem dX5_takes_195 : decode cX5_takes 195 = .ok (.iinc 7 1, 3) := by decide +kernel
theorem dX5_takes_198 : decode cX5_takes 198 = .ok (.goto (-23), 3) := by decide +kernel
theorem dX5_takes_201 : decode cX5_takes 201 = .ok (.return_, 1) := by decide +kernel
theorem dX5_isOn_0 : decode cX5_isOn 0 = .ok (.iconst 0, 1) := by decide +kernel
theorem dX5_isOn_1 : decode cX5_isOn 1 = .ok (.istore_n 3, 1) := by decide +kernel
theorem dX5_isOn_2 : decode cX5_isOn 2 = .ok (.iload_n 3, 1) := by decide +kernel
theorem dX5_isOn_3 : decode cX5_isOn 3 = .ok (.iload_n 1, 1) := by decide +kernel
theorem dX5_isOn_4 : decode cX5_isOn 4 = .ok (.if_icmp .ge 26, 3) := by decide +kernel
theorem dX5_isOn_7 : decode cX5_isOn 7 = .ok (.aload_n 0, 1) := by decide +kernel
theorem dX5_isOn_8 : decode cX5_isOn 8 = .ok (.getfield 16, 3) := by decide +kernel
theorem dX5_isOn_11 : decode cX5_isOn 11 = .ok (.aload_n 0, 1) := by decide +kernel
theorem dX5_isOn_12 : decode cX5_isOn 12 = .ok (.getfield 71, 3) := by decide +kernel
theorem dX5_isOn_15 : decode cX5_isOn 15 = .ok (.iload_n 3, 1) := by decide +kernel
theorem dX5_isOn_16 : decode cX5_isOn 16 = .ok (.iaload, 1) := by decide +kernel
theorem dX5_isOn_17 : decode cX5_isOn 17 = .ok (.iaload, 1) := by decide +kernel
theorem dX5_isOn_18 : decode cX5_isOn 18 = .ok (.iload_n 2, 1) := by decide +kernel
theorem dX5_isOn_19 : decode cX5_isOn 19 = .ok (.if_icmp .ne 5, 3) := by decide +kernel
theorem dX5_isOn_22 : decode cX5_isOn 22 = .ok (.iconst 1, 1) := by decide +kernel
theorem dX5_isOn_23 : decode cX5_isOn 23 = .ok (.ireturn, 1) := by decide +kernel
theorem dX5_isOn_24 : decode cX5_isOn 24 = .ok (.iinc 3 1, 3) := by decide +kernel
theorem dX5_isOn_27 : decode cX5_isOn 27 = .ok (.goto (-25), 3) := by decide +kernel
theorem dX5_isOn_30 : decode cX5_isOn 30 = .ok (.iconst 0, 1) := by decide +kernel
theorem dX5_isOn_31 : decode cX5_isOn 31 = .ok (.ireturn, 1) := by decide +kernel
theorem dX5_goAll_0 : decode cX5_goAll 0 = .ok (.iconst 0, 1) := by decide +kernel
theorem dX5_goAll_1 : decode cX5_goAll 1 = .ok (.istore 4, 2) := by decide +kernel
theorem dX5_goAll_3 : decode cX5_goAll 3 = .ok (.aload_n 0, 1) := by decide +kernel
theorem dX5_goAll_4 : decode cX5_goAll 4 = .ok (.getfield 71, 3) := by decide +kernel
theorem dX5_goAll_7 : decode cX5_goAll 7 = .ok (.iconst 0, 1) := by decide +kernel
theorem dX5_goAll_8 : decode cX5_goAll 8 = .ok (.iconst (-1), 1) := by decide +kernel
theorem dX5_goAll_9 : decode cX5_goAll 9 = .ok (.iastore, 1) := by decide +kernel
theorem dX5_goAll_10 : decode cX5_goAll 10 = .ok (.iload 4, 2) := by decide +kernel
theorem dX5_goAll_12 : decode cX5_goAll 12 = .ok (.ifCond .lt 210, 3) := by decide +kernel
theorem dX5_goAll_15 : decode cX5_goAll 15 = .ok (.aload_n 0, 1) := by decide +kernel
theorem dX5_goAll_16 : decode cX5_goAll 16 = .ok (.getfield 71, 3) := by decide +kernel
theorem dX5_goAll_19 : decode cX5_goAll 19 = .ok (.iload 4, 2) := by decide +kernel
theorem dX5_goAll_21 : decode cX5_goAll 21 = .ok (.dup2, 1) := by decide +kernel
theorem dX5_goAll_22 : decode cX5_goAll 22 = .ok (.iaload, 1) := by decide +kernel
theorem dX5_goAll_23 : decode cX5_goAll 23 = .ok (.iconst 1, 1) := by decide +kernel
theorem dX5_goAll_24 : decode cX5_goAll 24 = .ok (.iadd, 1) := by decide +kernel
theorem dX5_goAll_25 : decode cX5_goAll 25 = .ok (.iastore, 1) := by decide +kernel
theorem dX5_goAll_26 : decode cX5_goAll 26 = .ok (.aload_n 0, 1) := by decide +kernel
theorem dX5_goAll_27 : decode cX5_goAll 27 = .ok (.getfield 71, 3) := by decide +kernel
theorem dX5_goAll_30 : decode cX5_goAll 30 = .ok (.iload 4, 2) := by decide +kernel
theorem dX5_goAll_32 : decode cX5_goAll 32 = .ok (.iaload, 1) := by decide +kernel
theorem dX5_goAll_33 : decode cX5_goAll 33 = .ok (.aload_n 0, 1) := by decide +kernel
theorem dX5_goAll_34 : decode cX5_goAll 34 = .ok (.getfield 13, 3) := by decide +kernel
theorem dX5_goAll_37 : decode cX5_goAll 37 = .ok (.iconst 0, 1) := by decide +kernel
theorem dX5_goAll_38 : decode cX5_goAll 38 = .ok (.iaload, 1) := by decide +kernel
theorem dX5_goAll_39 : decode cX5_goAll 39 = .ok (.if_icmp .lt 9, 3) := by decide +kernel
theorem dX5_goAll_42 : decode cX5_goAll 42 = .ok (.iinc 4 (-1), 3) := by decide +kernel
theorem dX5_goAll_45 : decode cX5_goAll 45 = .ok (.goto (-35), 3) := by decide +kernel
theorem dX5_goAll_48 : decode cX5_goAll 48 = .ok (.iload 4, 2) := by decide +kernel
theorem dX5_goAll_50 : decode cX5_goAll 50 = .ok (.ifCond .ne 7, 3) := by decide +kernel
theorem dX5_goAll_53 : decode cX5_goAll 53 = .ok (.iload_n 1, 1) := by decide +kernel
theorem dX5_goAll_54 : decode cX5_goAll 54 = .ok (.goto 17, 3) := by decide +kernel
theorem dX5_goAll_57 : decode cX5_goAll 57 = .ok (.aload_n 0, 1) := by decide +kernel
theorem dX5_goAll_58 : decode cX5_goAll 58 = .ok (.getfield 19, 3) := by decide +kernel
theorem dX5_goAll_61 : decode cX5_goAll 61 = .ok (.aload_n 0, 1) := by decide +kernel
theorem dX5_goAll_62 : decode cX5_goAll 62 = .ok (.getfield 71, 3) := by decide +kernel
theorem dX5_goAll_65 : decode cX5_goAll 65 = .ok (.iload 4, 2) := by decide +kernel
theorem dX5_goAll_67 : decode cX5_goAll 67 = .ok (.iconst 1, 1) := by decide +kernel
theorem dX5_goAll_68 : decode cX5_goAll 68 = .ok (.isub, 1) := by decide +kernel
theorem dX5_goAll_69 : decode cX5_goAll 69 = .ok (.iaload, 1) := by decide +kernel
theorem dX5_goAll_70 : decode cX5_goAll 70 = .ok (.iaload, 1) := by decide +kernel
theorem dX5_goAll_71 : decode cX5_goAll 71 = .ok (.istore 5, 2) := by decide +kernel
theorem dX5_goAll_73 : decode cX5_goAll 73 = .ok (.aload_n 0, 1) := by decide +kernel
theorem dX5_goAll_74 : decode cX5_goAll 74 = .ok (.getfield 19, 3) := by decide +kernel
theorem dX5_goAll_77 : decode cX5_goAll 77 = .ok (.aload_n 0, 1) := by decide +kernel
theorem dX5_goAll_78 : decode cX5_goAll 78 = .ok (.getfield 71, 3) := by decide +kernel
theorem dX5_goAll_81 : decode cX5_goAll 81 = .ok (.iload 4, 2) := by decide +kernel
theorem dX5_goAll_83 : decode cX5_goAll 83 = .ok (.iaload, 1) := by decide +kernel
theorem dX5_goAll_84 : decode cX5_goAll 84 = .ok (.iaload, 1) := by decide +kernel
theorem dX5_goAll_85 : decode cX5_goAll 85 = .ok (.istore 6, 2) := by decide +kernel
theorem dX5_goAll_87 : decode cX5_goAll 87 = .ok (.aload_n 0, 1) := by decide +kernel
theorem dX5_goAll_88 : decode cX5_goAll 88 = .ok (.getfield 16, 3) := by decide +kernel
theorem dX5_goAll_91 : decode cX5_goAll 91 = .ok (.aload_n 0, 1) := by decide +kernel
theorem dX5_goAll_92 : decode cX5_goAll 92 = .ok (.getfield 71, 3) := by decide +kernel
theorem dX5_goAll_95 : decode cX5_goAll 95 = .ok (.iload 4, 2) := by decide +kernel
theorem dX5_goAll_97 : decode cX5_goAll 97 = .ok (.iaload, 1) := by decide +kernel
theorem dX5_goAll_98 : decode cX5_goAll 98 = .ok (.iaload, 1) := by decide +kernel
theorem dX5_goAll_99 : decode cX5_goAll 99 = .ok (.iload 5, 2) := by decide +kernel
theorem dX5_goAll_101 : decode cX5_goAll 101 = .ok (.if_icmp .eq 6, 3) := by decide +kernel
theorem dX5_goAll_104 : decode cX5_goAll 104 = .ok (.goto (-94), 3) := by decide +kernel
theorem dX5_goAll_107 : decode cX5_goAll 107 = .ok (.iload 6, 2) := by decide +kernel
theorem dX5_goAll_109 : decode cX5_goAll 109 = .ok (.iload_n 2, 1) := by decide +kernel
theorem dX5_goAll_110 : decode cX5_goAll 110 = .ok (.if_icmp .ne 69, 3) := by decide +kernel
theorem dX5_goAll_113 : decode cX5_goAll 113 = .ok (.iload_n 3, 1) := by decide +kernel
theorem dX5_goAll_114 : decode cX5_goAll 114 = .ok (.ifCond .ne 14, 3) := by decide +kernel
theorem dX5_goAll_117 : decode cX5_goAll 117 = .ok (.aload_n 0, 1) := by decide +kernel
theorem dX5_goAll_118 : decode cX5_goAll 118 = .ok (.iload 4, 2) := by decide +kernel
theorem dX5_goAll_120 : decode cX5_goAll 120 = .ok (.iconst 1, 1) := by decide +kernel
theorem dX5_goAll_121 : decode cX5_goAll 121 = .ok (.iadd, 1) := by decide +kernel
theorem dX5_goAll_122 : decode cX5_goAll 122 = .ok (.invokevirtual 160, 3) := by decide +kernel
theorem dX5_goAll_125 : decode cX5_goAll 125 = .ok (.goto 94, 3) := by decide +kernel
theorem dX5_goAll_128 : decode cX5_goAll 128 = .ok (.aload_n 0, 1) := by decide +kernel
theorem dX5_goAll_129 : decode cX5_goAll 129 = .ok (.dup, 1) := by decide +kernel
theorem dX5_goAll_130 : decode cX5_goAll 130 = .ok (.getfield 163, 3) := by decide +kernel
theorem dX5_goAll_133 : decode cX5_goAll 133 = .ok (.iconst 1, 1) := by decide +kernel
theorem dX5_goAll_134 : decode cX5_goAll 134 = .ok (.iadd, 1) := by decide +kernel
theorem dX5_goAll_135 : decode cX5_goAll 135 = .ok (.putfield 163, 3) := by decide +kernel
theorem dX5_goAll_138 : decode cX5_goAll 138 = .ok (.aload_n 0, 1) := by decide +kernel
theorem dX5_goAll_139 : decode cX5_goAll 139 = .ok (.iload 4, 2) := by decide +kernel
theorem dX5_goAll_141 : decode cX5_goAll 141 = .ok (.iconst 1, 1) := by decide +kernel
theorem dX5_goAll_142 : decode cX5_goAll 142 = .ok (.iadd, 1) := by decide +kernel
theorem dX5_goAll_143 : decode cX5_goAll 143 = .ok (.invokevirtual 144, 3) := by decide +kernel
theorem dX5_goAll_146 : decode cX5_goAll 146 = .ok (.aload_n 0, 1) := by decide +kernel
theorem dX5_goAll_147 : decode cX5_goAll 147 = .ok (.iload 4, 2) := by decide +kernel
theorem dX5_goAll_149 : decode cX5_goAll 149 = .ok (.iconst 1, 1) := by decide +kernel
theorem dX5_goAll_150 : decode cX5_goAll 150 = .ok (.iadd, 1) := by decide +kernel
theorem dX5_goAll_151 : decode cX5_goAll 151 = .ok (.invokevirtual 148, 3) := by decide +kernel
theorem dX5_goAll_154 : decode cX5_goAll 154 = .ok (.lcmp, 1) := by decide +kernel
theorem dX5_goAll_155 : decode cX5_goAll 155 = .ok (.ifCond .le 64, 3) := by decide +kernel
theorem dX5_goAll_158 : decode cX5_goAll 158 = .ok (.aload_n 0, 1) := by decide +kernel
theorem dX5_goAll_159 : decode cX5_goAll 159 = .ok (.dup, 1) := by decide +kernel
theorem dX5_goAll_160 : decode cX5_goAll 160 = .ok (.getfield 166, 3) := by decide +kernel
theorem dX5_goAll_163 : decode cX5_goAll 163 = .ok (.iconst 1, 1) := by decide +kernel
theorem dX5_goAll_164 : decode cX5_goAll 164 = .ok (.iadd, 1) := by decide +kernel
theorem dX5_goAll_165 : decode cX5_goAll 165 = .ok (.putfield 166, 3) := by decide +kernel
theorem dX5_goAll_168 : decode cX5_goAll 168 = .ok (.aload_n 0, 1) := by decide +kernel
theorem dX5_goAll_169 : decode cX5_goAll 169 = .ok (.iload 4, 2) := by decide +kernel
theorem dX5_goAll_171 : decode cX5_goAll 171 = .ok (.iconst 1, 1) := by decide +kernel
theorem dX5_goAll_172 : decode cX5_goAll 172 = .ok (.iadd, 1) := by decide +kernel
theorem dX5_goAll_173 : decode cX5_goAll 173 = .ok (.invokevirtual 160, 3) := by decide +kernel
theorem dX5_goAll_176 : decode cX5_goAll 176 = .ok (.goto 43, 3) := by decide +kernel
theorem dX5_goAll_179 : decode cX5_goAll 179 = .ok (.aload_n 0, 1) := by decide +kernel
theorem dX5_goAll_180 : decode cX5_goAll 180 = .ok (.iload 4, 2) := by decide +kernel
theorem dX5_goAll_182 : decode cX5_goAll 182 = .ok (.iconst 1, 1) := by decide +kernel
theorem dX5_goAll_183 : decode cX5_goAll 183 = .ok (.iadd, 1) := by decide +kernel
theorem dX5_goAll_184 : decode cX5_goAll 184 = .ok (.iload 6, 2) := by decide +kernel
theorem dX5_goAll_186 : decode cX5_goAll 186 = .ok (.invokevirtual 169, 3) := by decide +kernel
theorem dX5_goAll_189 : decode cX5_goAll 189 = .ok (.ifCond .ne 30, 3) := by decide +kernel
theorem dX5_goAll_192 : decode cX5_goAll 192 = .ok (.iload_n 3, 1) := by decide +kernel
theorem dX5_goAll_193 : decode cX5_goAll 193 = .ok (.ifCond .eq 9, 3) := by decide +kernel
theorem dX5_goAll_196 : decode cX5_goAll 196 = .ok (.iload 6, 2) := by decide +kernel
theorem dX5_goAll_198 : decode cX5_goAll 198 = .ok (.iload_n 1, 1) := by decide +kernel
theorem dX5_goAll_199 : decode cX5_goAll 199 = .ok (.if_icmp .le 20, 3) := by decide +kernel
theorem dX5_goAll_202 : decode cX5_goAll 202 = .ok (.iload 4, 2) := by decide +kernel
theorem dX5_goAll_204 : decode cX5_goAll 204 = .ok (.iconst 4, 1) := by decide +kernel
theorem dX5_goAll_205 : decode cX5_goAll 205 = .ok (.if_icmp .ge 14, 3) := by decide +kernel
theorem dX5_goAll_208 : decode cX5_goAll 208 = .ok (.iinc 4 1, 3) := by decide +kernel
theorem dX5_goAll_211 : decode cX5_goAll 211 = .ok (.aload_n 0, 1) := by decide +kernel
theorem dX5_goAll_212 : decode cX5_goAll 212 = .ok (.getfield 71, 3) := by decide +kernel
theorem dX5_goAll_215 : decode cX5_goAll 215 = .ok (.iload 4, 2) := by decide +kernel
theorem dX5_goAll_217 : decode cX5_goAll 217 = .ok (.iconst (-1), 1) := by decide +kernel
theorem dX5_goAll_218 : decode cX5_goAll 218 = .ok (.iastore, 1) := by decide +kernel
theorem dX5_goAll_219 : decode cX5_goAll 219 = .ok (.goto (-209), 3) := by decide +kernel
theorem dX5_goAll_222 : decode cX5_goAll 222 = .ok (.return_, 1) := by decide +kernel
theorem dX5_keep_0 : decode cX5_keep 0 = .ok (.aload_n 0, 1) := by decide +kernel
theorem dX5_keep_1 : decode cX5_keep 1 = .ok (.getfield 40, 3) := by decide +kernel
theorem dX5_keep_4 : decode cX5_keep 4 = .ok (.iconst 0, 1) := by decide +kernel
theorem dX5_keep_5 : decode cX5_keep 5 = .ok (.aload_n 0, 1) := by decide +kernel
theorem dX5_keep_6 : decode cX5_keep 6 = .ok (.getfield 151, 3) := by decide +kernel
theorem dX5_keep_9 : decode cX5_keep 9 = .ok (.iastore, 1) := by decide +kernel
theorem dX5_keep_10 : decode cX5_keep 10 = .ok (.aload_n 0, 1) := by decide +kernel
theorem dX5_keep_11 : decode cX5_keep 11 = .ok (.getfield 151, 3) := by decide +kernel
theorem dX5_keep_14 : decode cX5_keep 14 = .ok (.ifCond .ne 5, 3) := by decide +kernel
theorem dX5_keep_17 : decode cX5_keep 17 = .ok (.iconst (-1), 1) := by decide +kernel
theorem dX5_keep_18 : decode cX5_keep 18 = .ok (.ireturn, 1) := by decide +kernel
theorem dX5_keep_19 : decode cX5_keep 19 = .ok (.iconst 0, 1) := by decide +kernel
theorem dX5_keep_20 : decode cX5_keep 20 = .ok (.istore_n 1, 1) := by decide +kernel
theorem dX5_keep_21 : decode cX5_keep 21 = .ok (.iload_n 1, 1) := by decide +kernel
theorem dX5_keep_22 : decode cX5_keep 22 = .ok (.aload_n 0, 1) := by decide +kernel
theorem dX5_keep_23 : decode cX5_keep 23 = .ok (.getfield 151, 3) := by decide +kernel
theorem dX5_keep_26 : decode cX5_keep 26 = .ok (.if_icmp .ge 21, 3) := by decide +kernel
theorem dX5_keep_29 : decode cX5_keep 29 = .ok (.aload_n 0, 1) := by decide +kernel
theorem dX5_keep_30 : decode cX5_keep 30 = .ok (.getfield 43, 3) := by decide +kernel
theorem dX5_keep_33 : decode cX5_keep 33 = .ok (.iload_n 1, 1) := by decide +kernel
theorem dX5_keep_34 : decode cX5_keep 34 = .ok (.aload_n 0, 1) := by decide +kernel
theorem dX5_keep_35 : decode cX5_keep 35 = .ok (.getfield 74, 3) := by decide +kernel
theorem dX5_keep_38 : decode cX5_keep 38 = .ok (.iload_n 1, 1) := by decide +kernel
theorem dX5_keep_39 : decode cX5_keep 39 = .ok (.iaload, 1) := by decide +kernel
theorem dX5_keep_40 : decode cX5_keep 40 = .ok (.iastore, 1) := by decide +kernel
theorem dX5_keep_41 : decode cX5_keep 41 = .ok (.iinc 1 1, 3) := by decide +kernel
theorem dX5_keep_44 : decode cX5_keep 44 = .ok (.goto (-23), 3) := by decide +kernel
theorem dX5_keep_47 : decode cX5_keep 47 = .ok (.aload_n 0, 1) := by decide +kernel
theorem dX5_keep_48 : decode cX5_keep 48 = .ok (.aload_n 0, 1) := by decide +kernel
theorem dX5_keep_49 : decode cX5_keep 49 = .ok (.getfield 157, 3) := by decide +kernel
theorem dX5_keep_52 : decode cX5_keep 52 = .ok (.aload_n 0, 1) := by decide +kernel
theorem dX5_keep_53 : decode cX5_keep 53 = .ok (.getfield 154, 3) := by decide +kernel
theorem dX5_keep_56 : decode cX5_keep 56 = .ok (.invokevirtual 100, 3) := by decide +kernel
theorem dX5_keep_59 : decode cX5_keep 59 = .ok (.aload_n 0, 1) := by decide +kernel
theorem dX5_keep_60 : decode cX5_keep 60 = .ok (.getfield 46, 3) := by decide +kernel
theorem dX5_keep_63 : decode cX5_keep 63 = .ok (.iconst 0, 1) := by decide +kernel
theorem dX5_keep_64 : decode cX5_keep 64 = .ok (.aload_n 0, 1) := by decide +kernel
theorem dX5_keep_65 : decode cX5_keep 65 = .ok (.getfield 104, 3) := by decide +kernel
theorem dX5_keep_68 : decode cX5_keep 68 = .ok (.lastore, 1) := by decide +kernel
theorem dX5_keep_69 : decode cX5_keep 69 = .ok (.aload_n 0, 1) := by decide +kernel
theorem dX5_keep_70 : decode cX5_keep 70 = .ok (.getfield 50, 3) := by decide +kernel
theorem dX5_keep_73 : decode cX5_keep 73 = .ok (.iconst 0, 1) := by decide +kernel
theorem dX5_keep_74 : decode cX5_keep 74 = .ok (.aload_n 0, 1) := by decide +kernel
theorem dX5_keep_75 : decode cX5_keep 75 = .ok (.getfield 108, 3) := by decide +kernel
theorem dX5_keep_78 : decode cX5_keep 78 = .ok (.lastore, 1) := by decide +kernel
theorem dX5_keep_79 : decode cX5_keep 79 = .ok (.aload_n 0, 1) := by decide +kernel
theorem dX5_keep_80 : decode cX5_keep 80 = .ok (.getfield 151, 3) := by decide +kernel
theorem dX5_keep_83 : decode cX5_keep 83 = .ok (.ireturn, 1) := by decide +kernel
theorem dX5_way_0 : decode cX5_way 0 = .ok (.aload_n 0, 1) := by decide +kernel
theorem dX5_way_1 : decode cX5_way 1 = .ok (.iconst 0, 1) := by decide +kernel
theorem dX5_way_2 : decode cX5_way 2 = .ok (.putfield 81, 3) := by decide +kernel
theorem dX5_way_5 : decode cX5_way 5 = .ok (.aload_n 0, 1) := by decide +kernel
theorem dX5_way_6 : decode cX5_way 6 = .ok (.iconst 0, 1) := by decide +kernel
theorem dX5_way_7 : decode cX5_way 7 = .ok (.putfield 151, 3) := by decide +kernel
theorem dX5_way_10 : decode cX5_way 10 = .ok (.aload_n 0, 1) := by decide +kernel
theorem dX5_way_11 : decode cX5_way 11 = .ok (.iload_n 1, 1) := by decide +kernel
theorem dX5_way_12 : decode cX5_way 12 = .ok (.invokevirtual 93, 3) := by decide +kernel
theorem dX5_way_15 : decode cX5_way 15 = .ok (.ifCond .eq 23, 3) := by decide +kernel
theorem dX5_way_18 : decode cX5_way 18 = .ok (.aload_n 0, 1) := by decide +kernel
theorem dX5_way_19 : decode cX5_way 19 = .ok (.iload_n 2, 1) := by decide +kernel
theorem dX5_way_20 : decode cX5_way 20 = .ok (.invokevirtual 93, 3) := by decide +kernel
theorem dX5_way_23 : decode cX5_way 23 = .ok (.ifCond .eq 15, 3) := by decide +kernel
theorem dX5_way_26 : decode cX5_way 26 = .ok (.iload_n 1, 1) := by decide +kernel
theorem dX5_way_27 : decode cX5_way 27 = .ok (.iload_n 2, 1) := by decide +kernel
theorem dX5_way_28 : decode cX5_way 28 = .ok (.if_icmp .eq 10, 3) := by decide +kernel
theorem dX5_way_31 : decode cX5_way 31 = .ok (.aload_n 0, 1) := by decide +kernel
theorem dX5_way_32 : decode cX5_way 32 = .ok (.iload_n 1, 1) := by decide +kernel
theorem dX5_way_33 : decode cX5_way 33 = .ok (.iload_n 2, 1) := by decide +kernel
theorem dX5_way_34 : decode cX5_way 34 = .ok (.iconst 0, 1) := by decide +kernel
theorem dX5_way_35 : decode cX5_way 35 = .ok (.invokevirtual 173, 3) := by decide +kernel
theorem dX5_way_38 : decode cX5_way 38 = .ok (.aload_n 0, 1) := by decide +kernel
theorem dX5_way_39 : decode cX5_way 39 = .ok (.invokevirtual 177, 3) := by decide +kernel
theorem dX5_way_42 : decode cX5_way 42 = .ok (.ireturn, 1) := by decide +kernel
theorem dX5_findRings_0 : decode cX5_findRings 0 = .ok (.aload_n 0, 1) := by decide +kernel
theorem dX5_findRings_1 : decode cX5_findRings 1 = .ok (.iconst 0, 1) := by decide +kernel
theorem dX5_findRings_2 : decode cX5_findRings 2 = .ok (.putfield 151, 3) := by decide +kernel
theorem dX5_findRings_5 : decode cX5_findRings 5 = .ok (.aload_n 0, 1) := by decide +kernel
theorem dX5_findRings_6 : decode cX5_findRings 6 = .ok (.iconst 0, 1) := by decide +kernel
theorem dX5_findRings_7 : decode cX5_findRings 7 = .ok (.putfield 163, 3) := by decide +kernel
theorem dX5_findRings_10 : decode cX5_findRings 10 = .ok (.aload_n 0, 1) := by decide +kernel
theorem dX5_findRings_11 : decode cX5_findRings 11 = .ok (.iconst 0, 1) := by decide +kernel
theorem dX5_findRings_12 : decode cX5_findRings 12 = .ok (.putfield 166, 3) := by decide +kernel
theorem dX5_findRings_15 : decode cX5_findRings 15 = .ok (.iconst 1, 1) := by decide +kernel
theorem dX5_findRings_16 : decode cX5_findRings 16 = .ok (.istore_n 1, 1) := by decide +kernel
theorem dX5_findRings_17 : decode cX5_findRings 17 = .ok (.iload_n 1, 1) := by decide +kernel
theorem dX5_findRings_18 : decode cX5_findRings 18 = .ok (.aload_n 0, 1) := by decide +kernel
theorem dX5_findRings_19 : decode cX5_findRings 19 = .ok (.getfield 7, 3) := by decide +kernel
theorem dX5_findRings_22 : decode cX5_findRings 22 = .ok (.iconst 0, 1) := by decide +kernel
theorem dX5_findRings_23 : decode cX5_findRings 23 = .ok (.iaload, 1) := by decide +kernel
theorem dX5_findRings_24 : decode cX5_findRings 24 = .ok (.iconst 1, 1) := by decide +kernel
theorem dX5_findRings_25 : decode cX5_findRings 25 = .ok (.isub, 1) := by decide +kernel
theorem dX5_findRings_26 : decode cX5_findRings 26 = .ok (.if_icmp .ge 16, 3) := by decide +kernel
theorem dX5_findRings_29 : decode cX5_findRings 29 = .ok (.aload_n 0, 1) := by decide +kernel
theorem dX5_findRings_30 : decode cX5_findRings 30 = .ok (.iload_n 1, 1) := by decide +kernel
theorem dX5_findRings_31 : decode cX5_findRings 31 = .ok (.iload_n 1, 1) := by decide +kernel
theorem dX5_findRings_32 : decode cX5_findRings 32 = .ok (.iconst 1, 1) := by decide +kernel
theorem dX5_findRings_33 : decode cX5_findRings 33 = .ok (.invokevirtual 173, 3) := by decide +kernel
theorem dX5_findRings_36 : decode cX5_findRings 36 = .ok (.iinc 1 1, 3) := by decide +kernel
theorem dX5_findRings_39 : decode cX5_findRings 39 = .ok (.goto (-22), 3) := by decide +kernel
theorem dX5_findRings_42 : decode cX5_findRings 42 = .ok (.return_, 1) := by decide +kernel
theorem dX5_ring_0 : decode cX5_ring 0 = .ok (.aload_n 0, 1) := by decide +kernel
theorem dX5_ring_1 : decode cX5_ring 1 = .ok (.iconst 0, 1) := by decide +kernel
theorem dX5_ring_2 : decode cX5_ring 2 = .ok (.putfield 81, 3) := by decide +kernel
theorem dX5_ring_5 : decode cX5_ring 5 = .ok (.aload_n 0, 1) := by decide +kernel
theorem dX5_ring_6 : decode cX5_ring 6 = .ok (.invokevirtual 181, 3) := by decide +kernel
theorem dX5_ring_9 : decode cX5_ring 9 = .ok (.aload_n 0, 1) := by decide +kernel
theorem dX5_ring_10 : decode cX5_ring 10 = .ok (.invokevirtual 177, 3) := by decide +kernel
theorem dX5_ring_13 : decode cX5_ring 13 = .ok (.ireturn, 1) := by decide +kernel
theorem dX5_row_0 : decode cX5_row 0 = .ok (.aload_n 0, 1) := by decide +kernel
theorem dX5_row_1 : decode cX5_row 1 = .ok (.iconst 0, 1) := by decide +kernel
theorem dX5_row_2 : decode cX5_row 2 = .ok (.putfield 81, 3) := by decide +kernel
theorem dX5_row_5 : decode cX5_row 5 = .ok (.iload_n 1, 1) := by decide +kernel
theorem dX5_row_6 : decode cX5_row 6 = .ok (.iconst 0, 1) := by decide +kernel
theorem dX5_row_7 : decode cX5_row 7 = .ok (.aload_n 0, 1) := by decide +kernel
theorem dX5_row_8 : decode cX5_row 8 = .ok (.getfield 40, 3) := by decide +kernel
theorem dX5_row_11 : decode cX5_row 11 = .ok (.iconst 0, 1) := by decide +kernel
theorem dX5_row_12 : decode cX5_row 12 = .ok (.iaload, 1) := by decide +kernel
theorem dX5_row_13 : decode cX5_row 13 = .ok (.iconst 1, 1) := by decide +kernel
theorem dX5_row_14 : decode cX5_row 14 = .ok (.isub, 1) := by decide +kernel
theorem dX5_row_15 : decode cX5_row 15 = .ok (.invokestatic 89, 3) := by decide +kernel
theorem dX5_row_18 : decode cX5_row 18 = .ok (.ifCond .eq 12, 3) := by decide +kernel
theorem dX5_row_21 : decode cX5_row 21 = .ok (.aload_n 0, 1) := by decide +kernel
theorem dX5_row_22 : decode cX5_row 22 = .ok (.getfield 43, 3) := by decide +kernel
theorem dX5_row_25 : decode cX5_row 25 = .ok (.iload_n 1, 1) := by decide +kernel
theorem dX5_row_26 : decode cX5_row 26 = .ok (.iaload, 1) := by decide +kernel
theorem dX5_row_27 : decode cX5_row 27 = .ok (.goto 4, 3) := by decide +kernel
theorem dX5_row_30 : decode cX5_row 30 = .ok (.iconst (-1), 1) := by decide +kernel
theorem dX5_row_31 : decode cX5_row 31 = .ok (.ireturn, 1) := by decide +kernel
theorem dX5_gain_0 : decode cX5_gain 0 = .ok (.aload_n 0, 1) := by decide +kernel
theorem dX5_gain_1 : decode cX5_gain 1 = .ok (.iconst 0, 1) := by decide +kernel
theorem dX5_gain_2 : decode cX5_gain 2 = .ok (.putfield 81, 3) := by decide +kernel
theorem dX5_gain_5 : decode cX5_gain 5 = .ok (.aload_n 0, 1) := by decide +kernel
theorem dX5_gain_6 : decode cX5_gain 6 = .ok (.getfield 40, 3) := by decide +kernel
theorem dX5_gain_9 : decode cX5_gain 9 = .ok (.iconst 0, 1) := by decide +kernel
theorem dX5_gain_10 : decode cX5_gain 10 = .ok (.iaload, 1) := by decide +kernel
theorem dX5_gain_11 : decode cX5_gain 11 = .ok (.ifCond .ne 7, 3) := by decide +kernel
theorem dX5_gain_14 : decode cX5_gain 14 = .ok (.lconst 0, 1) := by decide +kernel
theorem dX5_gain_15 : decode cX5_gain 15 = .ok (.goto 22, 3) := by decide +kernel
theorem dX5_gain_18 : decode cX5_gain 18 = .ok (.iload_n 1, 1) := by decide +kernel
theorem dX5_gain_19 : decode cX5_gain 19 = .ok (.ifCond .eq 12, 3) := by decide +kernel
theorem dX5_gain_22 : decode cX5_gain 22 = .ok (.aload_n 0, 1) := by decide +kernel
theorem dX5_gain_23 : decode cX5_gain 23 = .ok (.getfield 50, 3) := by decide +kernel
theorem dX5_gain_26 : decode cX5_gain 26 = .ok (.iconst 0, 1) := by decide +kernel
theorem dX5_gain_27 : decode cX5_gain 27 = .ok (.laload, 1) := by decide +kernel
theorem dX5_gain_28 : decode cX5_gain 28 = .ok (.goto 9, 3) := by decide +kernel
theorem dX5_gain_31 : decode cX5_gain 31 = .ok (.aload_n 0, 1) := by decide +kernel
theorem dX5_gain_32 : decode cX5_gain 32 = .ok (.getfield 46, 3) := by decide +kernel
theorem dX5_gain_35 : decode cX5_gain 35 = .ok (.iconst 0, 1) := by decide +kernel
theorem dX5_gain_36 : decode cX5_gain 36 = .ok (.laload, 1) := by decide +kernel
theorem dX5_gain_37 : decode cX5_gain 37 = .ok (.lreturn, 1) := by decide +kernel
theorem dX5_send_0 : decode cX5_send 0 = .ok (.aload_n 0, 1) := by decide +kernel
theorem dX5_send_1 : decode cX5_send 1 = .ok (.iconst 0, 1) := by decide +kernel
theorem dX5_send_2 : decode cX5_send 2 = .ok (.putfield 81, 3) := by decide +kernel
theorem dX5_send_5 : decode cX5_send 5 = .ok (.aload_n 0, 1) := by decide +kernel
theorem dX5_send_6 : decode cX5_send 6 = .ok (.iload_n 1, 1) := by decide +kernel
theorem dX5_send_7 : decode cX5_send 7 = .ok (.invokevirtual 97, 3) := by decide +kernel
theorem dX5_send_10 : decode cX5_send 10 = .ok (.ifCond .eq 24, 3) := by decide +kernel
theorem dX5_send_13 : decode cX5_send 13 = .ok (.iload_n 2, 1) := by decide +kernel
theorem dX5_send_14 : decode cX5_send 14 = .ok (.iconst 0, 1) := by decide +kernel
theorem dX5_send_15 : decode cX5_send 15 = .ok (.sipush 1000, 3) := by decide +kernel
theorem dX5_send_18 : decode cX5_send 18 = .ok (.invokestatic 89, 3) := by decide +kernel
theorem dX5_send_21 : decode cX5_send 21 = .ok (.ifCond .eq 13, 3) := by decide +kernel
theorem dX5_send_24 : decode cX5_send 24 = .ok (.iload_n 3, 1) := by decide +kernel
theorem dX5_send_25 : decode cX5_send 25 = .ok (.iconst 1, 1) := by decide +kernel
theorem dX5_send_26 : decode cX5_send 26 = .ok (.bipush 9, 2) := by decide +kernel
theorem dX5_send_28 : decode cX5_send 28 = .ok (.invokestatic 89, 3) := by decide +kernel
theorem dX5_send_31 : decode cX5_send 31 = .ok (.ifCond .ne 5, 3) := by decide +kernel
theorem dX5_send_34 : decode cX5_send 34 = .ok (.iconst 0, 1) := by decide +kernel
theorem dX5_send_35 : decode cX5_send 35 = .ok (.ireturn, 1) := by decide +kernel
theorem dX5_send_36 : decode cX5_send 36 = .ok (.aload_n 0, 1) := by decide +kernel
theorem dX5_send_37 : decode cX5_send 37 = .ok (.getfield 34, 3) := by decide +kernel
theorem dX5_send_40 : decode cX5_send 40 = .ok (.iload_n 1, 1) := by decide +kernel
theorem dX5_send_41 : decode cX5_send 41 = .ok (.iload_n 2, 1) := by decide +kernel
theorem dX5_send_42 : decode cX5_send 42 = .ok (.iastore, 1) := by decide +kernel
theorem dX5_send_43 : decode cX5_send 43 = .ok (.aload_n 0, 1) := by decide +kernel
theorem dX5_send_44 : decode cX5_send 44 = .ok (.getfield 37, 3) := by decide +kernel
theorem dX5_send_47 : decode cX5_send 47 = .ok (.iload_n 1, 1) := by decide +kernel
theorem dX5_send_48 : decode cX5_send 48 = .ok (.iload_n 3, 1) := by decide +kernel
theorem dX5_send_49 : decode cX5_send 49 = .ok (.iastore, 1) := by decide +kernel
theorem dX5_send_50 : decode cX5_send 50 = .ok (.iconst 1, 1) := by decide +kernel
theorem dX5_send_51 : decode cX5_send 51 = .ok (.ireturn, 1) := by decide +kernel
theorem dX5_arrives_0 : decode cX5_arrives 0 = .ok (.lconst 0, 1) := by decide +kernel
theorem dX5_arrives_1 : decode cX5_arrives 1 = .ok (.lstore_n 2, 1) := by decide +kernel
theorem dX5_arrives_2 : decode cX5_arrives 2 = .ok (.iconst 0, 1) := by decide +kernel
theorem dX5_arrives_3 : decode cX5_arrives 3 = .ok (.istore 4, 2) := by decide +kernel
theorem dX5_arrives_5 : decode cX5_arrives 5 = .ok (.iload 4, 2) := by decide +kernel
theorem dX5_arrives_7 : decode cX5_arrives 7 = .ok (.aload_n 0, 1) := by decide +kernel
theorem dX5_arrives_8 : decode cX5_arrives 8 = .ok (.getfield 13, 3) := by decide +kernel
theorem dX5_arrives_11 : decode cX5_arrives 11 = .ok (.iconst 0, 1) := by decide +kernel
theorem dX5_arrives_12 : decode cX5_arrives 12 = .ok (.iaload, 1) := by decide +kernel
theorem dX5_arrives_13 : decode cX5_arrives 13 = .ok (.if_icmp .ge 65, 3) := by decide +kernel
theorem dX5_arrives_16 : decode cX5_arrives 16 = .ok (.lload_n 2, 1) := by decide +kernel
theorem dX5_arrives_17 : decode cX5_arrives 17 = .ok (.aload_n 0, 1) := by decide +kernel
theorem dX5_arrives_18 : decode cX5_arrives 18 = .ok (.getfield 19, 3) := by decide +kernel
theorem dX5_arrives_21 : decode cX5_arrives 21 = .ok (.iload 4, 2) := by decide +kernel
theorem dX5_arrives_23 : decode cX5_arrives 23 = .ok (.iaload, 1) := by decide +kernel
theorem dX5_arrives_24 : decode cX5_arrives 24 = .ok (.iload_n 1, 1) := by decide +kernel
theorem dX5_arrives_25 : decode cX5_arrives 25 = .ok (.if_icmp .ne 44, 3) := by decide +kernel
theorem dX5_arrives_28 : decode cX5_arrives 28 = .ok (.ldc2_w 184, 3) := by decide +kernel
theorem dX5_arrives_31 : decode cX5_arrives 31 = .ok (.aload_n 0, 1) := by decide +kernel
theorem dX5_arrives_32 : decode cX5_arrives 32 = .ok (.getfield 37, 3) := by decide +kernel
theorem dX5_arrives_35 : decode cX5_arrives 35 = .ok (.iload 4, 2) := by decide +kernel
theorem dX5_arrives_37 : decode cX5_arrives 37 = .ok (.iaload, 1) := by decide +kernel
theorem dX5_arrives_38 : decode cX5_arrives 38 = .ok (.aload_n 0, 1) := by decide +kernel
theorem dX5_arrives_39 : decode cX5_arrives 39 = .ok (.getfield 28, 3) := by decide +kernel
theorem dX5_arrives_42 : decode cX5_arrives 42 = .ok (.iload 4, 2) := by decide +kernel
theorem dX5_arrives_44 : decode cX5_arrives 44 = .ok (.iaload, 1) := by decide +kernel
theorem dX5_arrives_45 : decode cX5_arrives 45 = .ok (.imul, 1) := by decide +kernel
theorem dX5_arrives_46 : decode cX5_arrives 46 = .ok (.i2l, 1) := by decide +kernel
theorem dX5_arrives_47 : decode cX5_arrives 47 = .ok (.ldiv, 1) := by decide +kernel
theorem dX5_arrives_48 : decode cX5_arrives 48 = .ok (.aload_n 0, 1) := by decide +kernel
theorem dX5_arrives_49 : decode cX5_arrives 49 = .ok (.getfield 34, 3) := by decide +kernel
theorem dX5_arrives_52 : decode cX5_arrives 52 = .ok (.iload 4, 2) := by decide +kernel
theorem dX5_arrives_54 : decode cX5_arrives 54 = .ok (.iaload, 1) := by decide +kernel
theorem dX5_arrives_55 : decode cX5_arrives 55 = .ok (.i2l, 1) := by decide +kernel
theorem dX5_arrives_56 : decode cX5_arrives 56 = .ok (.lmul, 1) := by decide +kernel
theorem dX5_arrives_57 : decode cX5_arrives 57 = .ok (.aload_n 0, 1) := by decide +kernel
theorem dX5_arrives_58 : decode cX5_arrives 58 = .ok (.getfield 25, 3) := by decide +kernel
theorem dX5_arrives_61 : decode cX5_arrives 61 = .ok (.iload 4, 2) := by decide +kernel
theorem dX5_arrives_63 : decode cX5_arrives 63 = .ok (.iaload, 1) := by decide +kernel
theorem dX5_arrives_64 : decode cX5_arrives 64 = .ok (.i2l, 1) := by decide +kernel
theorem dX5_arrives_65 : decode cX5_arrives 65 = .ok (.lmul, 1) := by decide +kernel
theorem dX5_arrives_66 : decode cX5_arrives 66 = .ok (.goto 4, 3) := by decide +kernel
theorem dX5_arrives_69 : decode cX5_arrives 69 = .ok (.lconst 0, 1) := by decide +kernel
theorem dX5_arrives_70 : decode cX5_arrives 70 = .ok (.ladd, 1) := by decide +kernel
theorem dX5_arrives_71 : decode cX5_arrives 71 = .ok (.lstore_n 2, 1) := by decide +kernel
theorem dX5_arrives_72 : decode cX5_arrives 72 = .ok (.iinc 4 1, 3) := by decide +kernel
theorem dX5_arrives_75 : decode cX5_arrives 75 = .ok (.goto (-70), 3) := by decide +kernel
theorem dX5_arrives_78 : decode cX5_arrives 78 = .ok (.lload_n 2, 1) := by decide +kernel
theorem dX5_arrives_79 : decode cX5_arrives 79 = .ok (.lreturn, 1) := by decide +kernel
theorem dX5_leaves_0 : decode cX5_leaves 0 = .ok (.lconst 0, 1) := by decide +kernel
theorem dX5_leaves_1 : decode cX5_leaves 1 = .ok (.lstore_n 2, 1) := by decide +kernel
theorem dX5_leaves_2 : decode cX5_leaves 2 = .ok (.iconst 0, 1) := by decide +kernel
theorem dX5_leaves_3 : decode cX5_leaves 3 = .ok (.istore 4, 2) := by decide +kernel
theorem dX5_leaves_5 : decode cX5_leaves 5 = .ok (.iload 4, 2) := by decide +kernel
theorem dX5_leaves_7 : decode cX5_leaves 7 = .ok (.aload_n 0, 1) := by decide +kernel
theorem dX5_leaves_8 : decode cX5_leaves 8 = .ok (.getfield 13, 3) := by decide +kernel
theorem dX5_leaves_11 : decode cX5_leaves 11 = .ok (.iconst 0, 1) := by decide +kernel
theorem dX5_leaves_12 : decode cX5_leaves 12 = .ok (.iaload, 1) := by decide +kernel
theorem dX5_leaves_13 : decode cX5_leaves 13 = .ok (.if_icmp .ge 48, 3) := by decide +kernel
theorem dX5_leaves_16 : decode cX5_leaves 16 = .ok (.lload_n 2, 1) := by decide +kernel
theorem dX5_leaves_17 : decode cX5_leaves 17 = .ok (.aload_n 0, 1) := by decide +kernel
theorem dX5_leaves_18 : decode cX5_leaves 18 = .ok (.getfield 16, 3) := by decide +kernel
theorem dX5_leaves_21 : decode cX5_leaves 21 = .ok (.iload 4, 2) := by decide +kernel
theorem dX5_leaves_23 : decode cX5_leaves 23 = .ok (.iaload, 1) := by decide +kernel
theorem dX5_leaves_24 : decode cX5_leaves 24 = .ok (.iload_n 1, 1) := by decide +kernel
theorem dX5_leaves_25 : decode cX5_leaves 25 = .ok (.if_icmp .ne 27, 3) := by decide +kernel
theorem dX5_leaves_28 : decode cX5_leaves 28 = .ok (.ldc2_w 184, 3) := by decide +kernel
theorem dX5_leaves_31 : decode cX5_leaves 31 = .ok (.aload_n 0, 1) := by decide +kernel
theorem dX5_leaves_32 : decode cX5_leaves 32 = .ok (.getfield 37, 3) := by decide +kernel
theorem dX5_leaves_35 : decode cX5_leaves 35 = .ok (.iload 4, 2) := by decide +kernel
theorem dX5_leaves_37 : decode cX5_leaves 37 = .ok (.iaload, 1) := by decide +kernel
theorem dX5_leaves_38 : decode cX5_leaves 38 = .ok (.i2l, 1) := by decide +kernel
theorem dX5_leaves_39 : decode cX5_leaves 39 = .ok (.ldiv, 1) := by decide +kernel
theorem dX5_leaves_40 : decode cX5_leaves 40 = .ok (.aload_n 0, 1) := by decide +kernel
theorem dX5_leaves_41 : decode cX5_leaves 41 = .ok (.getfield 34, 3) := by decide +kernel
theorem dX5_leaves_44 : decode cX5_leaves 44 = .ok (.iload 4, 2) := by decide +kernel
theorem dX5_leaves_46 : decode cX5_leaves 46 = .ok (.iaload, 1) := by decide +kernel
theorem dX5_leaves_47 : decode cX5_leaves 47 = .ok (.i2l, 1) := by decide +kernel
theorem dX5_leaves_48 : decode cX5_leaves 48 = .ok (.lmul, 1) := by decide +kernel
theorem dX5_leaves_49 : decode cX5_leaves 49 = .ok (.goto 4, 3) := by decide +kernel
theorem dX5_leaves_52 : decode cX5_leaves 52 = .ok (.lconst 0, 1) := by decide +kernel
theorem dX5_leaves_53 : decode cX5_leaves 53 = .ok (.ladd, 1) := by decide +kernel
theorem dX5_leaves_54 : decode cX5_leaves 54 = .ok (.lstore_n 2, 1) := by decide +kernel
theorem dX5_leaves_55 : decode cX5_leaves 55 = .ok (.iinc 4 1, 3) := by decide +kernel
theorem dX5_leaves_58 : decode cX5_leaves 58 = .ok (.goto (-53), 3) := by decide +kernel
theorem dX5_leaves_61 : decode cX5_leaves 61 = .ok (.lload_n 2, 1) := by decide +kernel
theorem dX5_leaves_62 : decode cX5_leaves 62 = .ok (.lreturn, 1) := by decide +kernel
theorem dX5_right_0 : decode cX5_right 0 = .ok (.aload_n 0, 1) := by decide +kernel
theorem dX5_right_1 : decode cX5_right 1 = .ok (.iconst 0, 1) := by decide +kernel
theorem dX5_right_2 : decode cX5_right 2 = .ok (.putfield 81, 3) := by decide +kernel
theorem dX5_right_5 : decode cX5_right 5 = .ok (.iconst 0, 1) := by decide +kernel
theorem dX5_right_6 : decode cX5_right 6 = .ok (.istore_n 1, 1) := by decide +kernel
theorem dX5_right_7 : decode cX5_right 7 = .ok (.iload_n 1, 1) := by decide +kernel
theorem dX5_right_8 : decode cX5_right 8 = .ok (.aload_n 0, 1) := by decide +kernel
theorem dX5_right_9 : decode cX5_right 9 = .ok (.getfield 13, 3) := by decide +kernel
theorem dX5_right_12 : decode cX5_right 12 = .ok (.iconst 0, 1) := by decide +kernel
theorem dX5_right_13 : decode cX5_right 13 = .ok (.iaload, 1) := by decide +kernel
theorem dX5_right_14 : decode cX5_right 14 = .ok (.if_icmp .ge 33, 3) := by decide +kernel
theorem dX5_right_17 : decode cX5_right 17 = .ok (.aload_n 0, 1) := by decide +kernel
theorem dX5_right_18 : decode cX5_right 18 = .ok (.getfield 34, 3) := by decide +kernel
theorem dX5_right_21 : decode cX5_right 21 = .ok (.iload_n 1, 1) := by decide +kernel
theorem dX5_right_22 : decode cX5_right 22 = .ok (.iaload, 1) := by decide +kernel
theorem dX5_right_23 : decode cX5_right 23 = .ok (.aload_n 0, 1) := by decide +kernel
theorem dX5_right_24 : decode cX5_right 24 = .ok (.getfield 22, 3) := by decide +kernel
theorem dX5_right_27 : decode cX5_right 27 = .ok (.iload_n 1, 1) := by decide +kernel
theorem dX5_right_28 : decode cX5_right 28 = .ok (.iaload, 1) := by decide +kernel
theorem dX5_right_29 : decode cX5_right 29 = .ok (.aload_n 0, 1) := by decide +kernel
theorem dX5_right_30 : decode cX5_right 30 = .ok (.getfield 37, 3) := by decide +kernel
theorem dX5_right_33 : decode cX5_right 33 = .ok (.iload_n 1, 1) := by decide +kernel
theorem dX5_right_34 : decode cX5_right 34 = .ok (.iaload, 1) := by decide +kernel
theorem dX5_right_35 : decode cX5_right 35 = .ok (.imul, 1) := by decide +kernel
theorem dX5_right_36 : decode cX5_right 36 = .ok (.if_icmp .le 5, 3) := by decide +kernel
theorem dX5_right_39 : decode cX5_right 39 = .ok (.iconst 0, 1) := by decide +kernel
theorem dX5_right_40 : decode cX5_right 40 = .ok (.ireturn, 1) := by decide +kernel
theorem dX5_right_41 : decode cX5_right 41 = .ok (.iinc 1 1, 3) := by decide +kernel
theorem dX5_right_44 : decode cX5_right 44 = .ok (.goto (-37), 3) := by decide +kernel
theorem dX5_right_47 : decode cX5_right 47 = .ok (.iconst 1, 1) := by decide +kernel
theorem dX5_right_48 : decode cX5_right 48 = .ok (.istore_n 1, 1) := by decide +kernel
theorem dX5_right_49 : decode cX5_right 49 = .ok (.iload_n 1, 1) := by decide +kernel
theorem dX5_right_50 : decode cX5_right 50 = .ok (.aload_n 0, 1) := by decide +kernel
theorem dX5_right_51 : decode cX5_right 51 = .ok (.getfield 7, 3) := by decide +kernel
theorem dX5_right_54 : decode cX5_right 54 = .ok (.iconst 0, 1) := by decide +kernel
theorem dX5_right_55 : decode cX5_right 55 = .ok (.iaload, 1) := by decide +kernel
theorem dX5_right_56 : decode cX5_right 56 = .ok (.iconst 1, 1) := by decide +kernel
theorem dX5_right_57 : decode cX5_right 57 = .ok (.isub, 1) := by decide +kernel
theorem dX5_right_58 : decode cX5_right 58 = .ok (.if_icmp .ge 25, 3) := by decide +kernel
theorem dX5_right_61 : decode cX5_right 61 = .ok (.aload_n 0, 1) := by decide +kernel
theorem dX5_right_62 : decode cX5_right 62 = .ok (.iload_n 1, 1) := by decide +kernel
theorem dX5_right_63 : decode cX5_right 63 = .ok (.invokevirtual 186, 3) := by decide +kernel
theorem dX5_right_66 : decode cX5_right 66 = .ok (.aload_n 0, 1) := by decide +kernel
theorem dX5_right_67 : decode cX5_right 67 = .ok (.iload_n 1, 1) := by decide +kernel
theorem dX5_right_68 : decode cX5_right 68 = .ok (.invokevirtual 189, 3) := by decide +kernel
theorem dX5_right_71 : decode cX5_right 71 = .ok (.lcmp, 1) := by decide +kernel
theorem dX5_right_72 : decode cX5_right 72 = .ok (.ifCond .ge 5, 3) := by decide +kernel
theorem dX5_right_75 : decode cX5_right 75 = .ok (.iconst 0, 1) := by decide +kernel
theorem dX5_right_76 : decode cX5_right 76 = .ok (.ireturn, 1) := by decide +kernel
theorem dX5_right_77 : decode cX5_right 77 = .ok (.iinc 1 1, 3) := by decide +kernel
theorem dX5_right_80 : decode cX5_right 80 = .ok (.goto (-31), 3) := by decide +kernel
theorem dX5_right_83 : decode cX5_right 83 = .ok (.iconst 1, 1) := by decide +kernel
theorem dX5_right_84 : decode cX5_right 84 = .ok (.ireturn, 1) := by decide +kernel
theorem dX5_left_0 : decode cX5_left 0 = .ok (.aload_n 0, 1) := by decide +kernel
theorem dX5_left_1 : decode cX5_left 1 = .ok (.iconst 0, 1) := by decide +kernel
theorem dX5_left_2 : decode cX5_left 2 = .ok (.putfield 81, 3) := by decide +kernel
theorem dX5_left_5 : decode cX5_left 5 = .ok (.aload_n 0, 1) := by decide +kernel
theorem dX5_left_6 : decode cX5_left 6 = .ok (.iload_n 1, 1) := by decide +kernel
theorem dX5_left_7 : decode cX5_left 7 = .ok (.invokevirtual 93, 3) := by decide +kernel
theorem dX5_left_10 : decode cX5_left 10 = .ok (.ifCond .ne 5, 3) := by decide +kernel
theorem dX5_left_13 : decode cX5_left 13 = .ok (.lconst 0, 1) := by decide +kernel
theorem dX5_left_14 : decode cX5_left 14 = .ok (.lreturn, 1) := by decide +kernel
theorem dX5_left_15 : decode cX5_left 15 = .ok (.iload_n 1, 1) := by decide +kernel
theorem dX5_left_16 : decode cX5_left 16 = .ok (.ifCond .ne 11, 3) := by decide +kernel
theorem dX5_left_19 : decode cX5_left 19 = .ok (.aload_n 0, 1) := by decide +kernel
theorem dX5_left_20 : decode cX5_left 20 = .ok (.iconst 0, 1) := by decide +kernel
theorem dX5_left_21 : decode cX5_left 21 = .ok (.invokevirtual 189, 3) := by decide +kernel
theorem dX5_left_24 : decode cX5_left 24 = .ok (.goto 34, 3) := by decide +kernel
theorem dX5_left_27 : decode cX5_left 27 = .ok (.iload_n 1, 1) := by decide +kernel
theorem dX5_left_28 : decode cX5_left 28 = .ok (.aload_n 0, 1) := by decide +kernel
theorem dX5_left_29 : decode cX5_left 29 = .ok (.getfield 7, 3) := by decide +kernel
theorem dX5_left_32 : decode cX5_left 32 = .ok (.iconst 0, 1) := by decide +kernel
theorem dX5_left_33 : decode cX5_left 33 = .ok (.iaload, 1) := by decide +kernel
theorem dX5_left_34 : decode cX5_left 34 = .ok (.iconst 1, 1) := by decide +kernel
theorem dX5_left_35 : decode cX5_left 35 = .ok (.isub, 1) := by decide +kernel
theorem dX5_left_36 : decode cX5_left 36 = .ok (.if_icmp .ne 11, 3) := by decide +kernel
theorem dX5_left_39 : decode cX5_left 39 = .ok (.aload_n 0, 1) := by decide +kernel
theorem dX5_left_40 : decode cX5_left 40 = .ok (.iload_n 1, 1) := by decide +kernel
theorem dX5_left_41 : decode cX5_left 41 = .ok (.invokevirtual 186, 3) := by decide +kernel
theorem dX5_left_44 : decode cX5_left 44 = .ok (.goto 14, 3) := by decide +kernel
theorem dX5_left_47 : decode cX5_left 47 = .ok (.aload_n 0, 1) := by decide +kernel
theorem dX5_left_48 : decode cX5_left 48 = .ok (.iload_n 1, 1) := by decide +kernel
theorem dX5_left_49 : decode cX5_left 49 = .ok (.invokevirtual 186, 3) := by decide +kernel
theorem dX5_left_52 : decode cX5_left 52 = .ok (.aload_n 0, 1) := by decide +kernel
theorem dX5_left_53 : decode cX5_left 53 = .ok (.iload_n 1, 1) := by decide +kernel
theorem dX5_left_54 : decode cX5_left 54 = .ok (.invokevirtual 189, 3) := by decide +kernel
theorem dX5_left_57 : decode cX5_left 57 = .ok (.lsub, 1) := by decide +kernel
theorem dX5_left_58 : decode cX5_left 58 = .ok (.lstore_n 3, 1) := by decide +kernel
theorem dX5_left_59 : decode cX5_left 59 = .ok (.aload_n 0, 1) := by decide +kernel
theorem dX5_left_60 : decode cX5_left 60 = .ok (.lload_n 3, 1) := by decide +kernel
theorem dX5_left_61 : decode cX5_left 61 = .ok (.ldc2_w 184, 3) := by decide +kernel
theorem dX5_left_64 : decode cX5_left 64 = .ok (.invokevirtual 100, 3) := by decide +kernel
theorem dX5_left_67 : decode cX5_left 67 = .ok (.iload_n 2, 1) := by decide +kernel
theorem dX5_left_68 : decode cX5_left 68 = .ok (.ifCond .eq 10, 3) := by decide +kernel
theorem dX5_left_71 : decode cX5_left 71 = .ok (.aload_n 0, 1) := by decide +kernel
theorem dX5_left_72 : decode cX5_left 72 = .ok (.getfield 108, 3) := by decide +kernel
theorem dX5_left_75 : decode cX5_left 75 = .ok (.goto 7, 3) := by decide +kernel
theorem dX5_left_78 : decode cX5_left 78 = .ok (.aload_n 0, 1) := by decide +kernel
theorem dX5_left_79 : decode cX5_left 79 = .ok (.getfield 104, 3) := by decide +kernel
theorem dX5_left_82 : decode cX5_left 82 = .ok (.lreturn, 1) := by decide +kernel
theorem dX5_count_0 : decode cX5_count 0 = .ok (.aload_n 0, 1) := by decide +kernel
theorem dX5_count_1 : decode cX5_count 1 = .ok (.iconst 0, 1) := by decide +kernel
theorem dX5_count_2 : decode cX5_count 2 = .ok (.putfield 81, 3) := by decide +kernel
theorem dX5_count_5 : decode cX5_count 5 = .ok (.iload_n 1, 1) := by decide +kernel
theorem dX5_count_6 : decode cX5_count 6 = .ok (.tableswitch 76 0 4 #[34, 41, 48, 48, 69], 34) := by decide +kernel
theorem dX5_count_40 : decode cX5_count 40 = .ok (.aload_n 0, 1) := by decide +kernel
theorem dX5_count_41 : decode cX5_count 41 = .ok (.getfield 7, 3) := by decide +kernel
theorem dX5_count_44 : decode cX5_count 44 = .ok (.iconst 0, 1) := by decide +kernel
theorem dX5_count_45 : decode cX5_count 45 = .ok (.iaload, 1) := by decide +kernel
theorem dX5_count_46 : decode cX5_count 46 = .ok (.ireturn, 1) := by decide +kernel
theorem dX5_count_47 : decode cX5_count 47 = .ok (.aload_n 0, 1) := by decide +kernel
theorem dX5_count_48 : decode cX5_count 48 = .ok (.getfield 13, 3) := by decide +kernel
theorem dX5_count_51 : decode cX5_count 51 = .ok (.iconst 0, 1) := by decide +kernel
theorem dX5_count_52 : decode cX5_count 52 = .ok (.iaload, 1) := by decide +kernel
theorem dX5_count_53 : decode cX5_count 53 = .ok (.ireturn, 1) := by decide +kernel
theorem dX5_count_54 : decode cX5_count 54 = .ok (.aload_n 0, 1) := by decide +kernel
theorem dX5_count_55 : decode cX5_count 55 = .ok (.invokevirtual 181, 3) := by decide +kernel
theorem dX5_count_58 : decode cX5_count 58 = .ok (.iload_n 1, 1) := by decide +kernel
theorem dX5_count_59 : decode cX5_count 59 = .ok (.iconst 2, 1) := by decide +kernel
theorem dX5_count_60 : decode cX5_count 60 = .ok (.if_icmp .ne 10, 3) := by decide +kernel
theorem dX5_count_63 : decode cX5_count 63 = .ok (.aload_n 0, 1) := by decide +kernel
theorem dX5_count_64 : decode cX5_count 64 = .ok (.getfield 163, 3) := by decide +kernel
theorem dX5_count_67 : decode cX5_count 67 = .ok (.goto 7, 3) := by decide +kernel
theorem dX5_count_70 : decode cX5_count 70 = .ok (.aload_n 0, 1) := by decide +kernel
theorem dX5_count_71 : decode cX5_count 71 = .ok (.getfield 166, 3) := by decide +kernel
theorem dX5_count_74 : decode cX5_count 74 = .ok (.ireturn, 1) := by decide +kernel
theorem dX5_count_75 : decode cX5_count 75 = .ok (.aload_n 0, 1) := by decide +kernel
theorem dX5_count_76 : decode cX5_count 76 = .ok (.getfield 40, 3) := by decide +kernel
theorem dX5_count_79 : decode cX5_count 79 = .ok (.iconst 0, 1) := by decide +kernel
theorem dX5_count_80 : decode cX5_count 80 = .ok (.iaload, 1) := by decide +kernel
theorem dX5_count_81 : decode cX5_count 81 = .ok (.ireturn, 1) := by decide +kernel
theorem dX5_count_82 : decode cX5_count 82 = .ok (.iconst (-1), 1) := by decide +kernel
theorem dX5_count_83 : decode cX5_count 83 = .ok (.ireturn, 1) := by decide +kernel
theorem dX5_image_0 : decode cX5_image 0 = .ok (.aload_n 0, 1) := by decide +kernel
theorem dX5_image_1 : decode cX5_image 1 = .ok (.iconst 0, 1) := by decide +kernel
theorem dX5_image_2 : decode cX5_image 2 = .ok (.putfield 81, 3) := by decide +kernel
theorem dX5_image_5 : decode cX5_image 5 = .ok (.iload_n 1, 1) := by decide +kernel
theorem dX5_image_6 : decode cX5_image 6 = .ok (.iconst 0, 1) := by decide +kernel
theorem dX5_image_7 : decode cX5_image 7 = .ok (.iconst 2, 1) := by decide +kernel
theorem dX5_image_8 : decode cX5_image 8 = .ok (.invokestatic 89, 3) := by decide +kernel
theorem dX5_image_11 : decode cX5_image 11 = .ok (.ifCond .ne 5, 3) := by decide +kernel
theorem dX5_image_14 : decode cX5_image 14 = .ok (.iconst 0, 1) := by decide +kernel
theorem dX5_image_15 : decode cX5_image 15 = .ok (.ireturn, 1) := by decide +kernel
theorem dX5_image_16 : decode cX5_image 16 = .ok (.aload_n 0, 1) := by decide +kernel
theorem dX5_image_17 : decode cX5_image 17 = .ok (.iconst 0, 1) := by decide +kernel
theorem dX5_image_18 : decode cX5_image 18 = .ok (.iload_n 1, 1) := by decide +kernel
theorem dX5_image_19 : decode cX5_image 19 = .ok (.iconst 1, 1) := by decide +kernel
theorem dX5_image_20 : decode cX5_image 20 = .ok (.iadd, 1) := by decide +kernel
theorem dX5_image_21 : decode cX5_image 21 = .ok (.invokevirtual 192, 3) := by decide +kernel
theorem dX5_image_24 : decode cX5_image 24 = .ok (.aload_n 0, 1) := by decide +kernel
theorem dX5_image_25 : decode cX5_image 25 = .ok (.getfield 77, 3) := by decide +kernel
theorem dX5_image_28 : decode cX5_image 28 = .ok (.iload_n 1, 1) := by decide +kernel
theorem dX5_image_29 : decode cX5_image 29 = .ok (.iconst 1, 1) := by decide +kernel
theorem dX5_image_30 : decode cX5_image 30 = .ok (.bastore, 1) := by decide +kernel
theorem dX5_image_31 : decode cX5_image 31 = .ok (.iconst 1, 1) := by decide +kernel
theorem dX5_image_32 : decode cX5_image 32 = .ok (.ireturn, 1) := by decide +kernel
theorem dX5_again_0 : decode cX5_again 0 = .ok (.aload_n 0, 1) := by decide +kernel
theorem dX5_again_1 : decode cX5_again 1 = .ok (.iconst 0, 1) := by decide +kernel
theorem dX5_again_2 : decode cX5_again 2 = .ok (.putfield 81, 3) := by decide +kernel
theorem dX5_again_5 : decode cX5_again 5 = .ok (.iload_n 1, 1) := by decide +kernel
theorem dX5_again_6 : decode cX5_again 6 = .ok (.iconst 0, 1) := by decide +kernel
theorem dX5_again_7 : decode cX5_again 7 = .ok (.iconst 2, 1) := by decide +kernel
theorem dX5_again_8 : decode cX5_again 8 = .ok (.invokestatic 89, 3) := by decide +kernel
theorem dX5_again_11 : decode cX5_again 11 = .ok (.ifCond .eq 12, 3) := by decide +kernel
theorem dX5_again_14 : decode cX5_again 14 = .ok (.aload_n 0, 1) := by decide +kernel
theorem dX5_again_15 : decode cX5_again 15 = .ok (.getfield 77, 3) := by decide +kernel
theorem dX5_again_18 : decode cX5_again 18 = .ok (.iload_n 1, 1) := by decide +kernel
theorem dX5_again_19 : decode cX5_again 19 = .ok (.baload, 1) := by decide +kernel
theorem dX5_again_20 : decode cX5_again 20 = .ok (.ifCond .ne 5, 3) := by decide +kernel
theorem dX5_again_23 : decode cX5_again 23 = .ok (.iconst 0, 1) := by decide +kernel
theorem dX5_again_24 : decode cX5_again 24 = .ok (.ireturn, 1) := by decide +kernel
theorem dX5_again_25 : decode cX5_again 25 = .ok (.aload_n 0, 1) := by decide +kernel
theorem dX5_again_26 : decode cX5_again 26 = .ok (.iload_n 1, 1) := by decide +kernel
theorem dX5_again_27 : decode cX5_again 27 = .ok (.iconst 1, 1) := by decide +kernel
theorem dX5_again_28 : decode cX5_again 28 = .ok (.iadd, 1) := by decide +kernel
theorem dX5_again_29 : decode cX5_again 29 = .ok (.iconst 0, 1) := by decide +kernel
theorem dX5_again_30 : decode cX5_again 30 = .ok (.invokevirtual 192, 3) := by decide +kernel
theorem dX5_again_33 : decode cX5_again 33 = .ok (.iconst 1, 1) := by decide +kernel
theorem dX5_again_34 : decode cX5_again 34 = .ok (.ireturn, 1) := by decide +kernel
