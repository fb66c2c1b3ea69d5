theorem dX2_init_0 : decode cX2_init 0 = .ok (.aload_n 0, 1) := by decide +kernel
theorem dX2_init_1 : decode cX2_init 1 = .ok (.invokespecial 3, 3) := by decide +kernel
theorem dX2_init_4 : decode cX2_init 4 = .ok (.aload_n 0, 1) := by decide +kernel
theorem dX2_init_5 : decode cX2_init 5 = .ok (.bipush 10, 2) := by decide +kernel
theorem dX2_init_7 : decode cX2_init 7 = .ok (.newarray .int, 2) := by decide +kernel
theorem dX2_init_9 : decode cX2_init 9 = .ok (.putfield 9, 3) := by decide +kernel
theorem dX2_init_12 : decode cX2_init 12 = .ok (.aload_n 0, 1) := by decide +kernel
theorem dX2_init_13 : decode cX2_init 13 = .ok (.bipush 10, 2) := by decide +kernel
theorem dX2_init_15 : decode cX2_init 15 = .ok (.newarray .int, 2) := by decide +kernel
theorem dX2_init_17 : decode cX2_init 17 = .ok (.putfield 15, 3) := by decide +kernel
theorem dX2_init_20 : decode cX2_init 20 = .ok (.aload_n 0, 1) := by decide +kernel
theorem dX2_init_21 : decode cX2_init 21 = .ok (.bipush 10, 2) := by decide +kernel
theorem dX2_init_23 : decode cX2_init 23 = .ok (.newarray .int, 2) := by decide +kernel
theorem dX2_init_25 : decode cX2_init 25 = .ok (.putfield 18, 3) := by decide +kernel
theorem dX2_init_28 : decode cX2_init 28 = .ok (.aload_n 0, 1) := by decide +kernel
theorem dX2_init_29 : decode cX2_init 29 = .ok (.bipush 10, 2) := by decide +kernel
theorem dX2_init_31 : decode cX2_init 31 = .ok (.newarray .int, 2) := by decide +kernel
theorem dX2_init_33 : decode cX2_init 33 = .ok (.putfield 21, 3) := by decide +kernel
theorem dX2_init_36 : decode cX2_init 36 = .ok (.aload_n 0, 1) := by decide +kernel
theorem dX2_init_37 : decode cX2_init 37 = .ok (.bipush 10, 2) := by decide +kernel
theorem dX2_init_39 : decode cX2_init 39 = .ok (.newarray .int, 2) := by decide +kernel
theorem dX2_init_41 : decode cX2_init 41 = .ok (.putfield 24, 3) := by decide +kernel
theorem dX2_init_44 : decode cX2_init 44 = .ok (.aload_n 0, 1) := by decide +kernel
theorem dX2_init_45 : decode cX2_init 45 = .ok (.iconst 0, 1) := by decide +kernel
theorem dX2_init_46 : decode cX2_init 46 = .ok (.putfield 27, 3) := by decide +kernel
theorem dX2_init_49 : decode cX2_init 49 = .ok (.aload_n 0, 1) := by decide +kernel
theorem dX2_init_50 : decode cX2_init 50 = .ok (.bipush 13, 2) := by decide +kernel
theorem dX2_init_52 : decode cX2_init 52 = .ok (.iconst 5, 1) := by decide +kernel
theorem dX2_init_53 : decode cX2_init 53 = .ok (.multianewarray 31 2, 4) := by decide +kernel
theorem dX2_init_57 : decode cX2_init 57 = .ok (.putfield 33, 3) := by decide +kernel
theorem dX2_init_60 : decode cX2_init 60 = .ok (.aload_n 0, 1) := by decide +kernel
theorem dX2_init_61 : decode cX2_init 61 = .ok (.iconst 0, 1) := by decide +kernel
theorem dX2_init_62 : decode cX2_init 62 = .ok (.putfield 36, 3) := by decide +kernel
theorem dX2_init_65 : decode cX2_init 65 = .ok (.aload_n 0, 1) := by decide +kernel
theorem dX2_init_66 : decode cX2_init 66 = .ok (.iconst 5, 1) := by decide +kernel
theorem dX2_init_67 : decode cX2_init 67 = .ok (.newarray .long, 2) := by decide +kernel
theorem dX2_init_69 : decode cX2_init 69 = .ok (.putfield 39, 3) := by decide +kernel
theorem dX2_init_72 : decode cX2_init 72 = .ok (.aload_n 0, 1) := by decide +kernel
theorem dX2_init_73 : decode cX2_init 73 = .ok (.lconst 0, 1) := by decide +kernel
theorem dX2_init_74 : decode cX2_init 74 = .ok (.putfield 43, 3) := by decide +kernel
theorem dX2_init_77 : decode cX2_init 77 = .ok (.aload_n 0, 1) := by decide +kernel
theorem dX2_init_78 : decode cX2_init 78 = .ok (.lconst 0, 1) := by decide +kernel
theorem dX2_init_79 : decode cX2_init 79 = .ok (.putfield 47, 3) := by decide +kernel
theorem dX2_init_82 : decode cX2_init 82 = .ok (.aload_n 0, 1) := by decide +kernel
theorem dX2_init_83 : decode cX2_init 83 = .ok (.lconst 0, 1) := by decide +kernel
theorem dX2_init_84 : decode cX2_init 84 = .ok (.putfield 50, 3) := by decide +kernel
theorem dX2_init_87 : decode cX2_init 87 = .ok (.aload_n 0, 1) := by decide +kernel
theorem dX2_init_88 : decode cX2_init 88 = .ok (.lconst 0, 1) := by decide +kernel
theorem dX2_init_89 : decode cX2_init 89 = .ok (.putfield 53, 3) := by decide +kernel
theorem dX2_init_92 : decode cX2_init 92 = .ok (.aload_n 0, 1) := by decide +kernel
theorem dX2_init_93 : decode cX2_init 93 = .ok (.lconst 0, 1) := by decide +kernel
theorem dX2_init_94 : decode cX2_init 94 = .ok (.putfield 56, 3) := by decide +kernel
theorem dX2_init_97 : decode cX2_init 97 = .ok (.aload_n 0, 1) := by decide +kernel
theorem dX2_init_98 : decode cX2_init 98 = .ok (.lconst 0, 1) := by decide +kernel
theorem dX2_init_99 : decode cX2_init 99 = .ok (.putfield 59, 3) := by decide +kernel
theorem dX2_init_102 : decode cX2_init 102 = .ok (.aload_n 0, 1) := by decide +kernel
theorem dX2_init_103 : decode cX2_init 103 = .ok (.lconst 0, 1) := by decide +kernel
theorem dX2_init_104 : decode cX2_init 104 = .ok (.putfield 62, 3) := by decide +kernel
theorem dX2_init_107 : decode cX2_init 107 = .ok (.aload_n 0, 1) := by decide +kernel
theorem dX2_init_108 : decode cX2_init 108 = .ok (.lconst 0, 1) := by decide +kernel
theorem dX2_init_109 : decode cX2_init 109 = .ok (.putfield 65, 3) := by decide +kernel
theorem dX2_init_112 : decode cX2_init 112 = .ok (.return_, 1) := by decide +kernel
theorem dX2_load_0 : decode cX2_load 0 = .ok (.aload_n 0, 1) := by decide +kernel
theorem dX2_load_1 : decode cX2_load 1 = .ok (.aload_n 1, 1) := by decide +kernel
theorem dX2_load_2 : decode cX2_load 2 = .ok (.getfield 68, 3) := by decide +kernel
theorem dX2_load_5 : decode cX2_load 5 = .ok (.putfield 27, 3) := by decide +kernel
theorem dX2_load_8 : decode cX2_load 8 = .ok (.iconst 0, 1) := by decide +kernel
theorem dX2_load_9 : decode cX2_load 9 = .ok (.istore_n 3, 1) := by decide +kernel
theorem dX2_load_10 : decode cX2_load 10 = .ok (.iload_n 3, 1) := by decide +kernel
theorem dX2_load_11 : decode cX2_load 11 = .ok (.aload_n 0, 1) := by decide +kernel
theorem dX2_load_12 : decode cX2_load 12 = .ok (.getfield 27, 3) := by decide +kernel
theorem dX2_load_15 : decode cX2_load 15 = .ok (.if_icmp .ge 84, 3) := by decide +kernel
theorem dX2_load_18 : decode cX2_load 18 = .ok (.aload_n 1, 1) := by decide +kernel
theorem dX2_load_19 : decode cX2_load 19 = .ok (.getfield 71, 3) := by decide +kernel
theorem dX2_load_22 : decode cX2_load 22 = .ok (.iload_n 3, 1) := by decide +kernel
theorem dX2_load_23 : decode cX2_load 23 = .ok (.aaload, 1) := by decide +kernel
theorem dX2_load_24 : decode cX2_load 24 = .ok (.astore 4, 2) := by decide +kernel
theorem dX2_load_26 : decode cX2_load 26 = .ok (.aload_n 0, 1) := by decide +kernel
theorem dX2_load_27 : decode cX2_load 27 = .ok (.getfield 9, 3) := by decide +kernel
theorem dX2_load_30 : decode cX2_load 30 = .ok (.iload_n 3, 1) := by decide +kernel
theorem dX2_load_31 : decode cX2_load 31 = .ok (.aload 4, 2) := by decide +kernel
theorem dX2_load_33 : decode cX2_load 33 = .ok (.iconst 0, 1) := by decide +kernel
theorem dX2_load_34 : decode cX2_load 34 = .ok (.iaload, 1) := by decide +kernel
theorem dX2_load_35 : decode cX2_load 35 = .ok (.iastore, 1) := by decide +kernel
theorem dX2_load_36 : decode cX2_load 36 = .ok (.aload_n 0, 1) := by decide +kernel
theorem dX2_load_37 : decode cX2_load 37 = .ok (.getfield 15, 3) := by decide +kernel
theorem dX2_load_40 : decode cX2_load 40 = .ok (.iload_n 3, 1) := by decide +kernel
theorem dX2_load_41 : decode cX2_load 41 = .ok (.aload 4, 2) := by decide +kernel
theorem dX2_load_43 : decode cX2_load 43 = .ok (.iconst 1, 1) := by decide +kernel
theorem dX2_load_44 : decode cX2_load 44 = .ok (.iaload, 1) := by decide +kernel
theorem dX2_load_45 : decode cX2_load 45 = .ok (.aload_n 1, 1) := by decide +kernel
theorem dX2_load_46 : decode cX2_load 46 = .ok (.invokevirtual 74, 3) := by decide +kernel
theorem dX2_load_49 : decode cX2_load 49 = .ok (.if_icmp .ne 7, 3) := by decide +kernel
theorem dX2_load_52 : decode cX2_load 52 = .ok (.iconst 4, 1) := by decide +kernel
theorem dX2_load_53 : decode cX2_load 53 = .ok (.goto 7, 3) := by decide +kernel
theorem dX2_load_56 : decode cX2_load 56 = .ok (.aload 4, 2) := by decide +kernel
theorem dX2_load_58 : decode cX2_load 58 = .ok (.iconst 1, 1) := by decide +kernel
theorem dX2_load_59 : decode cX2_load 59 = .ok (.iaload, 1) := by decide +kernel
theorem dX2_load_60 : decode cX2_load 60 = .ok (.iastore, 1) := by decide +kernel
theorem dX2_load_61 : decode cX2_load 61 = .ok (.aload_n 0, 1) := by decide +kernel
theorem dX2_load_62 : decode cX2_load 62 = .ok (.getfield 18, 3) := by decide +kernel
theorem dX2_load_65 : decode cX2_load 65 = .ok (.iload_n 3, 1) := by decide +kernel
theorem dX2_load_66 : decode cX2_load 66 = .ok (.aload 4, 2) := by decide +kernel
theorem dX2_load_68 : decode cX2_load 68 = .ok (.iconst 2, 1) := by decide +kernel
theorem dX2_load_69 : decode cX2_load 69 = .ok (.iaload, 1) := by decide +kernel
theorem dX2_load_70 : decode cX2_load 70 = .ok (.iastore, 1) := by decide +kernel
theorem dX2_load_71 : decode cX2_load 71 = .ok (.aload_n 0, 1) := by decide +kernel
theorem dX2_load_72 : decode cX2_load 72 = .ok (.getfield 21, 3) := by decide +kernel
theorem dX2_load_75 : decode cX2_load 75 = .ok (.iload_n 3, 1) := by decide +kernel
theorem dX2_load_76 : decode cX2_load 76 = .ok (.aload 4, 2) := by decide +kernel
theorem dX2_load_78 : decode cX2_load 78 = .ok (.iload_n 2, 1) := by decide +kernel
theorem dX2_load_79 : decode cX2_load 79 = .ok (.invokestatic 78, 3) := by decide +kernel
theorem dX2_load_82 : decode cX2_load 82 = .ok (.iastore, 1) := by decide +kernel
theorem dX2_load_83 : decode cX2_load 83 = .ok (.aload_n 0, 1) := by decide +kernel
theorem dX2_load_84 : decode cX2_load 84 = .ok (.getfield 24, 3) := by decide +kernel
theorem dX2_load_87 : decode cX2_load 87 = .ok (.iload_n 3, 1) := by decide +kernel
theorem dX2_load_88 : decode cX2_load 88 = .ok (.aload 4, 2) := by decide +kernel
theorem dX2_load_90 : decode cX2_load 90 = .ok (.iconst 4, 1) := by decide +kernel
theorem dX2_load_91 : decode cX2_load 91 = .ok (.iaload, 1) := by decide +kernel
theorem dX2_load_92 : decode cX2_load 92 = .ok (.iastore, 1) := by decide +kernel
theorem dX2_load_93 : decode cX2_load 93 = .ok (.iinc 3 1, 3) := by decide +kernel
theorem dX2_load_96 : decode cX2_load 96 = .ok (.goto (-86), 3) := by decide +kernel
theorem dX2_load_99 : decode cX2_load 99 = .ok (.return_, 1) := by decide +kernel
theorem dX2_changeRoom_0 : decode cX2_changeRoom 0 = .ok (.aload_n 0, 1) := by decide +kernel
theorem dX2_changeRoom_1 : decode cX2_changeRoom 1 = .ok (.getfield 18, 3) := by decide +kernel
theorem dX2_changeRoom_4 : decode cX2_changeRoom 4 = .ok (.iload_n 1, 1) := by decide +kernel
theorem dX2_changeRoom_5 : decode cX2_changeRoom 5 = .ok (.iload_n 2, 1) := by decide +kernel
theorem dX2_changeRoom_6 : decode cX2_changeRoom 6 = .ok (.iastore, 1) := by decide +kernel
theorem dX2_changeRoom_7 : decode cX2_changeRoom 7 = .ok (.return_, 1) := by decide +kernel
theorem dX2_findLeast_0 : decode cX2_findLeast 0 = .ok (.aload_n 0, 1) := by decide +kernel
theorem dX2_findLeast_1 : decode cX2_findLeast 1 = .ok (.invokevirtual 82, 3) := by decide +kernel
theorem dX2_findLeast_4 : decode cX2_findLeast 4 = .ok (.aload_n 0, 1) := by decide +kernel
theorem dX2_findLeast_5 : decode cX2_findLeast 5 = .ok (.lconst 0, 1) := by decide +kernel
theorem dX2_findLeast_6 : decode cX2_findLeast 6 = .ok (.putfield 65, 3) := by decide +kernel
theorem dX2_findLeast_9 : decode cX2_findLeast 9 = .ok (.iconst 0, 1) := by decide +kernel
theorem dX2_findLeast_10 : decode cX2_findLeast 10 = .ok (.istore_n 2, 1) := by decide +kernel
theorem dX2_findLeast_11 : decode cX2_findLeast 11 = .ok (.iload_n 2, 1) := by decide +kernel
theorem dX2_findLeast_12 : decode cX2_findLeast 12 = .ok (.aload_n 0, 1) := by decide +kernel
theorem dX2_findLeast_13 : decode cX2_findLeast 13 = .ok (.getfield 36, 3) := by decide +kernel
theorem dX2_findLeast_16 : decode cX2_findLeast 16 = .ok (.if_icmp .ge 81, 3) := by decide +kernel
theorem dX2_findLeast_19 : decode cX2_findLeast 19 = .ok (.iload_n 2, 1) := by decide +kernel
theorem dX2_findLeast_20 : decode cX2_findLeast 20 = .ok (.iconst 1, 1) := by decide +kernel
theorem dX2_findLeast_21 : decode cX2_findLeast 21 = .ok (.iadd, 1) := by decide +kernel
theorem dX2_findLeast_22 : decode cX2_findLeast 22 = .ok (.istore_n 3, 1) := by decide +kernel
theorem dX2_findLeast_23 : decode cX2_findLeast 23 = .ok (.iload_n 3, 1) := by decide +kernel
theorem dX2_findLeast_24 : decode cX2_findLeast 24 = .ok (.aload_n 0, 1) := by decide +kernel
theorem dX2_findLeast_25 : decode cX2_findLeast 25 = .ok (.getfield 36, 3) := by decide +kernel
theorem dX2_findLeast_28 : decode cX2_findLeast 28 = .ok (.if_icmp .ge 63, 3) := by decide +kernel
theorem dX2_findLeast_31 : decode cX2_findLeast 31 = .ok (.aload_n 0, 1) := by decide +kernel
theorem dX2_findLeast_32 : decode cX2_findLeast 32 = .ok (.aload_n 0, 1) := by decide +kernel
theorem dX2_findLeast_33 : decode cX2_findLeast 33 = .ok (.getfield 33, 3) := by decide +kernel
theorem dX2_findLeast_36 : decode cX2_findLeast 36 = .ok (.iload_n 2, 1) := by decide +kernel
theorem dX2_findLeast_37 : decode cX2_findLeast 37 = .ok (.aaload, 1) := by decide +kernel
theorem dX2_findLeast_38 : decode cX2_findLeast 38 = .ok (.aload_n 0, 1) := by decide +kernel
theorem dX2_findLeast_39 : decode cX2_findLeast 39 = .ok (.getfield 33, 3) := by decide +kernel
theorem dX2_findLeast_42 : decode cX2_findLeast 42 = .ok (.iload_n 3, 1) := by decide +kernel
theorem dX2_findLeast_43 : decode cX2_findLeast 43 = .ok (.aaload, 1) := by decide +kernel
theorem dX2_findLeast_44 : decode cX2_findLeast 44 = .ok (.invokevirtual 85, 3) := by decide +kernel
theorem dX2_findLeast_47 : decode cX2_findLeast 47 = .ok (.iload_n 3, 1) := by decide +kernel
theorem dX2_findLeast_48 : decode cX2_findLeast 48 = .ok (.iconst 1, 1) := by decide +kernel
theorem dX2_findLeast_49 : decode cX2_findLeast 49 = .ok (.iadd, 1) := by decide +kernel
theorem dX2_findLeast_50 : decode cX2_findLeast 50 = .ok (.istore 4, 2) := by decide +kernel
theorem dX2_findLeast_52 : decode cX2_findLeast 52 = .ok (.iload 4, 2) := by decide +kernel
theorem dX2_findLeast_54 : decode cX2_findLeast 54 = .ok (.aload_n 0, 1) := by decide +kernel
theorem dX2_findLeast_55 : decode cX2_findLeast 55 = .ok (.getfield 36, 3) := by decide +kernel
theorem dX2_findLeast_58 : decode cX2_findLeast 58 = .ok (.if_icmp .ge 27, 3) := by decide +kernel
theorem dX2_findLeast_61 : decode cX2_findLeast 61 = .ok (.aload_n 0, 1) := by decide +kernel
theorem dX2_findLeast_62 : decode cX2_findLeast 62 = .ok (.aload_n 0, 1) := by decide +kernel
theorem dX2_findLeast_63 : decode cX2_findLeast 63 = .ok (.getfield 33, 3) := by decide +kernel
theorem dX2_findLeast_66 : decode cX2_findLeast 66 = .ok (.iload 4, 2) := by decide +kernel
theorem dX2_findLeast_68 : decode cX2_findLeast 68 = .ok (.aaload, 1) := by decide +kernel
theorem dX2_findLeast_69 : decode cX2_findLeast 69 = .ok (.invokevirtual 89, 3) := by decide +kernel
theorem dX2_findLeast_72 : decode cX2_findLeast 72 = .ok (.ifCond .eq 7, 3) := by decide +kernel
theorem dX2_findLeast_75 : decode cX2_findLeast 75 = .ok (.aload_n 0, 1) := by decide +kernel
theorem dX2_findLeast_76 : decode cX2_findLeast 76 = .ok (.invokevirtual 93, 3) := by decide +kernel
theorem dX2_findLeast_79 : decode cX2_findLeast 79 = .ok (.iinc 4 1, 3) := by decide +kernel
theorem dX2_findLeast_82 : decode cX2_findLeast 82 = .ok (.goto (-30), 3) := by decide +kernel
theorem dX2_findLeast_85 : decode cX2_findLeast 85 = .ok (.iinc 3 1, 3) := by decide +kernel
theorem dX2_findLeast_88 : decode cX2_findLeast 88 = .ok (.goto (-65), 3) := by decide +kernel
theorem dX2_findLeast_91 : decode cX2_findLeast 91 = .ok (.iinc 2 1, 3) := by decide +kernel
theorem dX2_findLeast_94 : decode cX2_findLeast 94 = .ok (.goto (-83), 3) := by decide +kernel
theorem dX2_findLeast_97 : decode cX2_findLeast 97 = .ok (.aload_n 1, 1) := by decide +kernel
theorem dX2_findLeast_98 : decode cX2_findLeast 98 = .ok (.aload_n 0, 1) := by decide +kernel
theorem dX2_findLeast_99 : decode cX2_findLeast 99 = .ok (.getfield 62, 3) := by decide +kernel
theorem dX2_findLeast_102 : decode cX2_findLeast 102 = .ok (.ldc2_w 96, 3) := by decide +kernel
theorem dX2_findLeast_105 : decode cX2_findLeast 105 = .ok (.aload_n 0, 1) := by decide +kernel
theorem dX2_findLeast_106 : decode cX2_findLeast 106 = .ok (.getfield 65, 3) := by decide +kernel
theorem dX2_findLeast_109 : decode cX2_findLeast 109 = .ok (.lmul, 1) := by decide +kernel
theorem dX2_findLeast_110 : decode cX2_findLeast 110 = .ok (.invokevirtual 98, 3) := by decide +kernel
theorem dX2_findLeast_113 : decode cX2_findLeast 113 = .ok (.return_, 1) := by decide +kernel
theorem dX2_upperOfShare_0 : decode cX2_upperOfShare 0 = .ok (.iload_n 1, 1) := by decide +kernel
theorem dX2_upperOfShare_1 : decode cX2_upperOfShare 1 = .ok (.iconst 1, 1) := by decide +kernel
theorem dX2_upperOfShare_2 : decode cX2_upperOfShare 2 = .ok (.if_icmp .ne 15, 3) := by decide +kernel
theorem dX2_upperOfShare_5 : decode cX2_upperOfShare 5 = .ok (.iconst 0, 1) := by decide +kernel
theorem dX2_upperOfShare_6 : decode cX2_upperOfShare 6 = .ok (.aload_n 0, 1) := by decide +kernel
theorem dX2_upperOfShare_7 : decode cX2_upperOfShare 7 = .ok (.iconst 3, 1) := by decide +kernel
theorem dX2_upperOfShare_8 : decode cX2_upperOfShare 8 = .ok (.iaload, 1) := by decide +kernel
theorem dX2_upperOfShare_9 : decode cX2_upperOfShare 9 = .ok (.aload_n 0, 1) := by decide +kernel
theorem dX2_upperOfShare_10 : decode cX2_upperOfShare 10 = .ok (.iconst 5, 1) := by decide +kernel
theorem dX2_upperOfShare_11 : decode cX2_upperOfShare 11 = .ok (.iaload, 1) := by decide +kernel
theorem dX2_upperOfShare_12 : decode cX2_upperOfShare 12 = .ok (.isub, 1) := by decide +kernel
theorem dX2_upperOfShare_13 : decode cX2_upperOfShare 13 = .ok (.invokestatic 104, 3) := by decide +kernel
theorem dX2_upperOfShare_16 : decode cX2_upperOfShare 16 = .ok (.ireturn, 1) := by decide +kernel
theorem dX2_upperOfShare_17 : decode cX2_upperOfShare 17 = .ok (.iload_n 1, 1) := by decide +kernel
theorem dX2_upperOfShare_18 : decode cX2_upperOfShare 18 = .ok (.iconst 2, 1) := by decide +kernel
theorem dX2_upperOfShare_19 : decode cX2_upperOfShare 19 = .ok (.if_icmp .ne 13, 3) := by decide +kernel
theorem dX2_upperOfShare_22 : decode cX2_upperOfShare 22 = .ok (.aload_n 0, 1) := by decide +kernel
theorem dX2_upperOfShare_23 : decode cX2_upperOfShare 23 = .ok (.iconst 3, 1) := by decide +kernel
theorem dX2_upperOfShare_24 : decode cX2_upperOfShare 24 = .ok (.iaload, 1) := by decide +kernel
theorem dX2_upperOfShare_25 : decode cX2_upperOfShare 25 = .ok (.aload_n 0, 1) := by decide +kernel
theorem dX2_upperOfShare_26 : decode cX2_upperOfShare 26 = .ok (.iconst 5, 1) := by decide +kernel
theorem dX2_upperOfShare_27 : decode cX2_upperOfShare 27 = .ok (.iaload, 1) := by decide +kernel
theorem dX2_upperOfShare_28 : decode cX2_upperOfShare 28 = .ok (.iadd, 1) := by decide +kernel
theorem dX2_upperOfShare_29 : decode cX2_upperOfShare 29 = .ok (.goto 6, 3) := by decide +kernel
theorem dX2_upperOfShare_32 : decode cX2_upperOfShare 32 = .ok (.aload_n 0, 1) := by decide +kernel
theorem dX2_upperOfShare_33 : decode cX2_upperOfShare 33 = .ok (.iconst 3, 1) := by decide +kernel
theorem dX2_upperOfShare_34 : decode cX2_upperOfShare 34 = .ok (.iaload, 1) := by decide +kernel
theorem dX2_upperOfShare_35 : decode cX2_upperOfShare 35 = .ok (.ireturn, 1) := by decide +kernel
theorem dX2_layPlanes_0 : decode cX2_layPlanes 0 = .ok (.aload_n 0, 1) := by decide +kernel
theorem dX2_layPlanes_1 : decode cX2_layPlanes 1 = .ok (.iconst 0, 1) := by decide +kernel
theorem dX2_layPlanes_2 : decode cX2_layPlanes 2 = .ok (.putfield 36, 3) := by decide +kernel
theorem dX2_layPlanes_5 : decode cX2_layPlanes 5 = .ok (.iconst 1, 1) := by decide +kernel
theorem dX2_layPlanes_6 : decode cX2_layPlanes 6 = .ok (.istore_n 1, 1) := by decide +kernel
theorem dX2_layPlanes_7 : decode cX2_layPlanes 7 = .ok (.iload_n 1, 1) := by decide +kernel
theorem dX2_layPlanes_8 : decode cX2_layPlanes 8 = .ok (.iconst 4, 1) := by decide +kernel
theorem dX2_layPlanes_9 : decode cX2_layPlanes 9 = .ok (.if_icmp .ge 16, 3) := by decide +kernel
theorem dX2_layPlanes_12 : decode cX2_layPlanes 12 = .ok (.aload_n 0, 1) := by decide +kernel
theorem dX2_layPlanes_13 : decode cX2_layPlanes 13 = .ok (.invokevirtual 110, 3) := by decide +kernel
theorem dX2_layPlanes_16 : decode cX2_layPlanes 16 = .ok (.iload_n 1, 1) := by decide +kernel
theorem dX2_layPlanes_17 : decode cX2_layPlanes 17 = .ok (.iconst 1, 1) := by decide +kernel
theorem dX2_layPlanes_18 : decode cX2_layPlanes 18 = .ok (.iastore, 1) := by decide +kernel
theorem dX2_layPlanes_19 : decode cX2_layPlanes 19 = .ok (.iinc 1 1, 3) := by decide +kernel
theorem dX2_layPlanes_22 : decode cX2_layPlanes 22 = .ok (.goto (-15), 3) := by decide +kernel
theorem dX2_layPlanes_25 : decode cX2_layPlanes 25 = .ok (.iconst 0, 1) := by decide +kernel
theorem dX2_layPlanes_26 : decode cX2_layPlanes 26 = .ok (.istore_n 1, 1) := by decide +kernel
theorem dX2_layPlanes_27 : decode cX2_layPlanes 27 = .ok (.iload_n 1, 1) := by decide +kernel
theorem dX2_layPlanes_28 : decode cX2_layPlanes 28 = .ok (.aload_n 0, 1) := by decide +kernel
theorem dX2_layPlanes_29 : decode cX2_layPlanes 29 = .ok (.getfield 27, 3) := by decide +kernel
theorem dX2_layPlanes_32 : decode cX2_layPlanes 32 = .ok (.if_icmp .ge 51, 3) := by decide +kernel
theorem dX2_layPlanes_35 : decode cX2_layPlanes 35 = .ok (.aload_n 0, 1) := by decide +kernel
theorem dX2_layPlanes_36 : decode cX2_layPlanes 36 = .ok (.iload_n 1, 1) := by decide +kernel
theorem dX2_layPlanes_37 : decode cX2_layPlanes 37 = .ok (.invokevirtual 114, 3) := by decide +kernel
theorem dX2_layPlanes_40 : decode cX2_layPlanes 40 = .ok (.ifCond .eq 37, 3) := by decide +kernel
theorem dX2_layPlanes_43 : decode cX2_layPlanes 43 = .ok (.aload_n 0, 1) := by decide +kernel
theorem dX2_layPlanes_44 : decode cX2_layPlanes 44 = .ok (.invokevirtual 110, 3) := by decide +kernel
theorem dX2_layPlanes_47 : decode cX2_layPlanes 47 = .ok (.astore_n 2, 1) := by decide +kernel
theorem dX2_layPlanes_48 : decode cX2_layPlanes 48 = .ok (.aload_n 2, 1) := by decide +kernel
theorem dX2_layPlanes_49 : decode cX2_layPlanes 49 = .ok (.aload_n 0, 1) := by decide +kernel
theorem dX2_layPlanes_50 : decode cX2_layPlanes 50 = .ok (.getfield 15, 3) := by decide +kernel
theorem dX2_layPlanes_53 : decode cX2_layPlanes 53 = .ok (.iload_n 1, 1) := by decide +kernel
theorem dX2_layPlanes_54 : decode cX2_layPlanes 54 = .ok (.iaload, 1) := by decide +kernel
theorem dX2_layPlanes_55 : decode cX2_layPlanes 55 = .ok (.aload_n 0, 1) := by decide +kernel
theorem dX2_layPlanes_56 : decode cX2_layPlanes 56 = .ok (.getfield 21, 3) := by decide +kernel
theorem dX2_layPlanes_59 : decode cX2_layPlanes 59 = .ok (.iload_n 1, 1) := by decide +kernel
theorem dX2_layPlanes_60 : decode cX2_layPlanes 60 = .ok (.iaload, 1) := by decide +kernel
theorem dX2_layPlanes_61 : decode cX2_layPlanes 61 = .ok (.iastore, 1) := by decide +kernel
theorem dX2_layPlanes_62 : decode cX2_layPlanes 62 = .ok (.aload_n 2, 1) := by decide +kernel
theorem dX2_layPlanes_63 : decode cX2_layPlanes 63 = .ok (.aload_n 0, 1) := by decide +kernel
theorem dX2_layPlanes_64 : decode cX2_layPlanes 64 = .ok (.getfield 9, 3) := by decide +kernel
theorem dX2_layPlanes_67 : decode cX2_layPlanes 67 = .ok (.iload_n 1, 1) := by decide +kernel
theorem dX2_layPlanes_68 : decode cX2_layPlanes 68 = .ok (.iaload, 1) := by decide +kernel
theorem dX2_layPlanes_69 : decode cX2_layPlanes 69 = .ok (.aload_n 0, 1) := by decide +kernel
theorem dX2_layPlanes_70 : decode cX2_layPlanes 70 = .ok (.getfield 24, 3) := by decide +kernel
theorem dX2_layPlanes_73 : decode cX2_layPlanes 73 = .ok (.iload_n 1, 1) := by decide +kernel
theorem dX2_layPlanes_74 : decode cX2_layPlanes 74 = .ok (.iaload, 1) := by decide +kernel
theorem dX2_layPlanes_75 : decode cX2_layPlanes 75 = .ok (.ineg, 1) := by decide +kernel
theorem dX2_layPlanes_76 : decode cX2_layPlanes 76 = .ok (.iastore, 1) := by decide +kernel
theorem dX2_layPlanes_77 : decode cX2_layPlanes 77 = .ok (.iinc 1 1, 3) := by decide +kernel
theorem dX2_layPlanes_80 : decode cX2_layPlanes 80 = .ok (.goto (-53), 3) := by decide +kernel
theorem dX2_layPlanes_83 : decode cX2_layPlanes 83 = .ok (.return_, 1) := by decide +kernel
theorem dX2_emptyPlane_0 : decode cX2_emptyPlane 0 = .ok (.aload_n 0, 1) := by decide +kernel
theorem dX2_emptyPlane_1 : decode cX2_emptyPlane 1 = .ok (.getfield 33, 3) := by decide +kernel
theorem dX2_emptyPlane_4 : decode cX2_emptyPlane 4 = .ok (.aload_n 0, 1) := by decide +kernel
theorem dX2_emptyPlane_5 : decode cX2_emptyPlane 5 = .ok (.getfield 36, 3) := by decide +kernel
theorem dX2_emptyPlane_8 : decode cX2_emptyPlane 8 = .ok (.aaload, 1) := by decide +kernel
theorem dX2_emptyPlane_9 : decode cX2_emptyPlane 9 = .ok (.astore_n 1, 1) := by decide +kernel
theorem dX2_emptyPlane_10 : decode cX2_emptyPlane 10 = .ok (.aload_n 0, 1) := by decide +kernel
theorem dX2_emptyPlane_11 : decode cX2_emptyPlane 11 = .ok (.dup, 1) := by decide +kernel
theorem dX2_emptyPlane_12 : decode cX2_emptyPlane 12 = .ok (.getfield 36, 3) := by decide +kernel
theorem dX2_emptyPlane_15 : decode cX2_emptyPlane 15 = .ok (.iconst 1, 1) := by decide +kernel
theorem dX2_emptyPlane_16 : decode cX2_emptyPlane 16 = .ok (.iadd, 1) := by decide +kernel
theorem dX2_emptyPlane_17 : decode cX2_emptyPlane 17 = .ok (.putfield 36, 3) := by decide +kernel
theorem dX2_emptyPlane_20 : decode cX2_emptyPlane 20 = .ok (.iconst 0, 1) := by decide +kernel
theorem dX2_emptyPlane_21 : decode cX2_emptyPlane 21 = .ok (.istore_n 2, 1) := by decide +kernel
theorem dX2_emptyPlane_22 : decode cX2_emptyPlane 22 = .ok (.iload_n 2, 1) := by decide +kernel
theorem dX2_emptyPlane_23 : decode cX2_emptyPlane 23 = .ok (.iconst 5, 1) := by decide +kernel
theorem dX2_emptyPlane_24 : decode cX2_emptyPlane 24 = .ok (.if_icmp .ge 13, 3) := by decide +kernel
theorem dX2_emptyPlane_27 : decode cX2_emptyPlane 27 = .ok (.aload_n 1, 1) := by decide +kernel
theorem dX2_emptyPlane_28 : decode cX2_emptyPlane 28 = .ok (.iload_n 2, 1) := by decide +kernel
theorem dX2_emptyPlane_29 : decode cX2_emptyPlane 29 = .ok (.iconst 0, 1) := by decide +kernel
theorem dX2_emptyPlane_30 : decode cX2_emptyPlane 30 = .ok (.iastore, 1) := by decide +kernel
theorem dX2_emptyPlane_31 : decode cX2_emptyPlane 31 = .ok (.iinc 2 1, 3) := by decide +kernel
theorem dX2_emptyPlane_34 : decode cX2_emptyPlane 34 = .ok (.goto (-12), 3) := by decide +kernel
theorem dX2_emptyPlane_37 : decode cX2_emptyPlane 37 = .ok (.aload_n 1, 1) := by decide +kernel
theorem dX2_emptyPlane_38 : decode cX2_emptyPlane 38 = .ok (.areturn, 1) := by decide +kernel
theorem dX2_bendsTheSum_0 : decode cX2_bendsTheSum 0 = .ok (.aload_n 0, 1) := by decide +kernel
theorem dX2_bendsTheSum_1 : decode cX2_bendsTheSum 1 = .ok (.getfield 9, 3) := by decide +kernel
theorem dX2_bendsTheSum_4 : decode cX2_bendsTheSum 4 = .ok (.iload_n 1, 1) := by decide +kernel
theorem dX2_bendsTheSum_5 : decode cX2_bendsTheSum 5 = .ok (.iaload, 1) := by decide +kernel
theorem dX2_bendsTheSum_6 : decode cX2_bendsTheSum 6 = .ok (.ifCond .eq 25, 3) := by decide +kernel
theorem dX2_bendsTheSum_9 : decode cX2_bendsTheSum 9 = .ok (.aload_n 0, 1) := by decide +kernel
theorem dX2_bendsTheSum_10 : decode cX2_bendsTheSum 10 = .ok (.getfield 18, 3) := by decide +kernel
theorem dX2_bendsTheSum_13 : decode cX2_bendsTheSum 13 = .ok (.iload_n 1, 1) := by decide +kernel
theorem dX2_bendsTheSum_14 : decode cX2_bendsTheSum 14 = .ok (.iaload, 1) := by decide +kernel
theorem dX2_bendsTheSum_15 : decode cX2_bendsTheSum 15 = .ok (.ifCond .le 16, 3) := by decide +kernel
theorem dX2_bendsTheSum_18 : decode cX2_bendsTheSum 18 = .ok (.aload_n 0, 1) := by decide +kernel
theorem dX2_bendsTheSum_19 : decode cX2_bendsTheSum 19 = .ok (.getfield 21, 3) := by decide +kernel
theorem dX2_bendsTheSum_22 : decode cX2_bendsTheSum 22 = .ok (.iload_n 1, 1) := by decide +kernel
theorem dX2_bendsTheSum_23 : decode cX2_bendsTheSum 23 = .ok (.iaload, 1) := by decide +kernel
theorem dX2_bendsTheSum_24 : decode cX2_bendsTheSum 24 = .ok (.ifCond .le 7, 3) := by decide +kernel
theorem dX2_bendsTheSum_27 : decode cX2_bendsTheSum 27 = .ok (.iconst 1, 1) := by decide +kernel
theorem dX2_bendsTheSum_28 : decode cX2_bendsTheSum 28 = .ok (.goto 4, 3) := by decide +kernel
theorem dX2_bendsTheSum_31 : decode cX2_bendsTheSum 31 = .ok (.iconst 0, 1) := by decide +kernel
theorem dX2_bendsTheSum_32 : decode cX2_bendsTheSum 32 = .ok (.ireturn, 1) := by decide +kernel
theorem dX2_crossTwo_0 : decode cX2_crossTwo 0 = .ok (.aload_n 0, 1) := by decide +kernel
theorem dX2_crossTwo_1 : decode cX2_crossTwo 1 = .ok (.aload_n 1, 1) := by decide +kernel
theorem dX2_crossTwo_2 : decode cX2_crossTwo 2 = .ok (.iconst 1, 1) := by decide +kernel
theorem dX2_crossTwo_3 : decode cX2_crossTwo 3 = .ok (.iaload, 1) := by decide +kernel
theorem dX2_crossTwo_4 : decode cX2_crossTwo 4 = .ok (.aload_n 2, 1) := by decide +kernel
theorem dX2_crossTwo_5 : decode cX2_crossTwo 5 = .ok (.iconst 2, 1) := by decide +kernel
theorem dX2_crossTwo_6 : decode cX2_crossTwo 6 = .ok (.iaload, 1) := by decide +kernel
theorem dX2_crossTwo_7 : decode cX2_crossTwo 7 = .ok (.imul, 1) := by decide +kernel
theorem dX2_crossTwo_8 : decode cX2_crossTwo 8 = .ok (.aload_n 1, 1) := by decide +kernel
theorem dX2_crossTwo_9 : decode cX2_crossTwo 9 = .ok (.iconst 2, 1) := by decide +kernel
theorem dX2_crossTwo_10 : decode cX2_crossTwo 10 = .ok (.iaload, 1) := by decide +kernel
theorem dX2_crossTwo_11 : decode cX2_crossTwo 11 = .ok (.aload_n 2, 1) := by decide +kernel
theorem dX2_crossTwo_12 : decode cX2_crossTwo 12 = .ok (.iconst 1, 1) := by decide +kernel
theorem dX2_crossTwo_13 : decode cX2_crossTwo 13 = .ok (.iaload, 1) := by decide +kernel
theorem dX2_crossTwo_14 : decode cX2_crossTwo 14 = .ok (.imul, 1) := by decide +kernel
theorem dX2_crossTwo_15 : decode cX2_crossTwo 15 = .ok (.isub, 1) := by decide +kernel
theorem dX2_crossTwo_16 : decode cX2_crossTwo 16 = .ok (.i2l, 1) := by decide +kernel
theorem dX2_crossTwo_17 : decode cX2_crossTwo 17 = .ok (.putfield 43, 3) := by decide +kernel
theorem dX2_crossTwo_20 : decode cX2_crossTwo 20 = .ok (.aload_n 0, 1) := by decide +kernel
theorem dX2_crossTwo_21 : decode cX2_crossTwo 21 = .ok (.aload_n 1, 1) := by decide +kernel
theorem dX2_crossTwo_22 : decode cX2_crossTwo 22 = .ok (.iconst 1, 1) := by decide +kernel
theorem dX2_crossTwo_23 : decode cX2_crossTwo 23 = .ok (.iaload, 1) := by decide +kernel
theorem dX2_crossTwo_24 : decode cX2_crossTwo 24 = .ok (.aload_n 2, 1) := by decide +kernel
theorem dX2_crossTwo_25 : decode cX2_crossTwo 25 = .ok (.iconst 3, 1) := by decide +kernel
theorem dX2_crossTwo_26 : decode cX2_crossTwo 26 = .ok (.iaload, 1) := by decide +kernel
theorem dX2_crossTwo_27 : decode cX2_crossTwo 27 = .ok (.imul, 1) := by decide +kernel
theorem dX2_crossTwo_28 : decode cX2_crossTwo 28 = .ok (.aload_n 1, 1) := by decide +kernel
theorem dX2_crossTwo_29 : decode cX2_crossTwo 29 = .ok (.iconst 3, 1) := by decide +kernel
theorem dX2_crossTwo_30 : decode cX2_crossTwo 30 = .ok (.iaload, 1) := by decide +kernel
theorem dX2_crossTwo_31 : decode cX2_crossTwo 31 = .ok (.aload_n 2, 1) := by decide +kernel
theorem dX2_crossTwo_32 : decode cX2_crossTwo 32 = .ok (.iconst 1, 1) := by decide +kernel
theorem dX2_crossTwo_33 : decode cX2_crossTwo 33 = .ok (.iaload, 1) := by decide +kernel
theorem dX2_crossTwo_34 : decode cX2_crossTwo 34 = .ok (.imul, 1) := by decide +kernel
theorem dX2_crossTwo_35 : decode cX2_crossTwo 35 = .ok (.isub, 1) := by decide +kernel
theorem dX2_crossTwo_36 : decode cX2_crossTwo 36 = .ok (.i2l, 1) := by decide +kernel
theorem dX2_crossTwo_37 : decode cX2_crossTwo 37 = .ok (.putfield 47, 3) := by decide +kernel
theorem dX2_crossTwo_40 : decode cX2_crossTwo 40 = .ok (.aload_n 0, 1) := by decide +kernel
theorem dX2_crossTwo_41 : decode cX2_crossTwo 41 = .ok (.aload_n 1, 1) := by decide +kernel
theorem dX2_crossTwo_42 : decode cX2_crossTwo 42 = .ok (.iconst 1, 1) := by decide +kernel
theorem dX2_crossTwo_43 : decode cX2_crossTwo 43 = .ok (.iaload, 1) := by decide +kernel
theorem dX2_crossTwo_44 : decode cX2_crossTwo 44 = .ok (.aload_n 2, 1) := by decide +kernel
theorem dX2_crossTwo_45 : decode cX2_crossTwo 45 = .ok (.iconst 4, 1) := by decide +kernel
theorem dX2_crossTwo_46 : decode cX2_crossTwo 46 = .ok (.iaload, 1) := by decide +kernel
theorem dX2_crossTwo_47 : decode cX2_crossTwo 47 = .ok (.imul, 1) := by decide +kernel
theorem dX2_crossTwo_48 : decode cX2_crossTwo 48 = .ok (.aload_n 1, 1) := by decide +kernel
theorem dX2_crossTwo_49 : decode cX2_crossTwo 49 = .ok (.iconst 4, 1) := by decide +kernel
theorem dX2_crossTwo_50 : decode cX2_crossTwo 50 = .ok (.iaload, 1) := by decide +kernel
theorem dX2_crossTwo_51 : decode cX2_crossTwo 51 = .ok (.aload_n 2, 1) := by decide +kernel
theorem dX2_crossTwo_52 : decode cX2_crossTwo 52 = .ok (.iconst 1, 1) := by decide +kernel
theorem dX2_crossTwo_53 : decode cX2_crossTwo 53 = .ok (.iaload, 1) := by decide +kernel
theorem dX2_crossTwo_54 : decode cX2_crossTwo 54 = .ok (.imul, 1) := by decide +kernel
theorem dX2_crossTwo_55 : decode cX2_crossTwo 55 = .ok (.isub, 1) := by decide +kernel
theorem dX2_crossTwo_56 : decode cX2_crossTwo 56 = .ok (.i2l, 1) := by decide +kernel
theorem dX2_crossTwo_57 : decode cX2_crossTwo 57 = .ok (.putfield 50, 3) := by decide +kernel
theorem dX2_crossTwo_60 : decode cX2_crossTwo 60 = .ok (.aload_n 0, 1) := by decide +kernel
theorem dX2_crossTwo_61 : decode cX2_crossTwo 61 = .ok (.aload_n 1, 1) := by decide +kernel
theorem dX2_crossTwo_62 : decode cX2_crossTwo 62 = .ok (.iconst 2, 1) := by decide +kernel
theorem dX2_crossTwo_63 : decode cX2_crossTwo 63 = .ok (.iaload, 1) := by decide +kernel
theorem dX2_crossTwo_64 : decode cX2_crossTwo 64 = .ok (.aload_n 2, 1) := by decide +kernel
theorem dX2_crossTwo_65 : decode cX2_crossTwo 65 = .ok (.iconst 3, 1) := by decide +kernel
theorem dX2_crossTwo_66 : decode cX2_crossTwo 66 = .ok (.iaload, 1) := by decide +kernel
theorem dX2_crossTwo_67 : decode cX2_crossTwo 67 = .ok (.imul, 1) := by decide +kernel
theorem dX2_crossTwo_68 : decode cX2_crossTwo 68 = .ok (.aload_n 1, 1) := by decide +kernel
theorem dX2_crossTwo_69 : decode cX2_crossTwo 69 = .ok (.iconst 3, 1) := by decide +kernel
theorem dX2_crossTwo_70 : decode cX2_crossTwo 70 = .ok (.iaload, 1) := by decide +kernel
theorem dX2_crossTwo_71 : decode cX2_crossTwo 71 = .ok (.aload_n 2, 1) := by decide +kernel
theorem dX2_crossTwo_72 : decode cX2_crossTwo 72 = .ok (.iconst 2, 1) := by decide +kernel
theorem dX2_crossTwo_73 : decode cX2_crossTwo 73 = .ok (.iaload, 1) := by decide +kernel
theorem dX2_crossTwo_74 : decode cX2_crossTwo 74 = .ok (.imul, 1) := by decide +kernel
theorem dX2_crossTwo_75 : decode cX2_crossTwo 75 = .ok (.isub, 1) := by decide +kernel
theorem dX2_crossTwo_76 : decode cX2_crossTwo 76 = .ok (.i2l, 1) := by decide +kernel
theorem dX2_crossTwo_77 : decode cX2_crossTwo 77 = .ok (.putfield 53, 3) := by decide +kernel
theorem dX2_crossTwo_80 : decode cX2_crossTwo 80 = .ok (.aload_n 0, 1) := by decide +kernel
theorem dX2_crossTwo_81 : decode cX2_crossTwo 81 = .ok (.aload_n 1, 1) := by decide +kernel
theorem dX2_crossTwo_82 : decode cX2_crossTwo 82 = .ok (.iconst 2, 1) := by decide +kernel
theorem dX2_crossTwo_83 : decode cX2_crossTwo 83 = .ok (.iaload, 1) := by decide +kernel
theorem dX2_crossTwo_84 : decode cX2_crossTwo 84 = .ok (.aload_n 2, 1) := by decide +kernel
theorem dX2_crossTwo_85 : decode cX2_crossTwo 85 = .ok (.iconst 4, 1) := by decide +kernel
theorem dX2_crossTwo_86 : decode cX2_crossTwo 86 = .ok (.iaload, 1) := by decide +kernel
theorem dX2_crossTwo_87 : decode cX2_crossTwo 87 = .ok (.imul, 1) := by decide +kernel
theorem dX2_crossTwo_88 : decode cX2_crossTwo 88 = .ok (.aload_n 1, 1) := by decide +kernel
theorem dX2_crossTwo_89 : decode cX2_crossTwo 89 = .ok (.iconst 4, 1) := by decide +kernel
theorem dX2_crossTwo_90 : decode cX2_crossTwo 90 = .ok (.iaload, 1) := by decide +kernel
theorem dX2_crossTwo_91 : decode cX2_crossTwo 91 = .ok (.aload_n 2, 1) := by decide +kernel
theorem dX2_crossTwo_92 : decode cX2_crossTwo 92 = .ok (.iconst 2, 1) := by decide +kernel
theorem dX2_crossTwo_93 : decode cX2_crossTwo 93 = .ok (.iaload, 1) := by decide +kernel
theorem dX2_crossTwo_94 : decode cX2_crossTwo 94 = .ok (.imul, 1) := by decide +kernel
theorem dX2_crossTwo_95 : decode cX2_crossTwo 95 = .ok (.isub, 1) := by decide +kernel
theorem dX2_crossTwo_96 : decode cX2_crossTwo 96 = .ok (.i2l, 1) := by decide +kernel
theorem dX2_crossTwo_97 : decode cX2_crossTwo 97 = .ok (.putfield 56, 3) := by decide +kernel
theorem dX2_crossTwo_100 : decode cX2_crossTwo 100 = .ok (.aload_n 0, 1) := by decide +kernel
theorem dX2_crossTwo_101 : decode cX2_crossTwo 101 = .ok (.aload_n 1, 1) := by decide +kernel
theorem dX2_crossTwo_102 : decode cX2_crossTwo 102 = .ok (.iconst 3, 1) := by decide +kernel
theorem dX2_crossTwo_103 : decode cX2_crossTwo 103 = .ok (.iaload, 1) := by decide +kernel
theorem dX2_crossTwo_104 : decode cX2_crossTwo 104 = .ok (.aload_n 2, 1) := by decide +kernel
theorem dX2_crossTwo_105 : decode cX2_crossTwo 105 = .ok (.iconst 4, 1) := by decide +kernel
theorem dX2_crossTwo_106 : decode cX2_crossTwo 106 = .ok (.iaload, 1) := by decide +kernel
theorem dX2_crossTwo_107 : decode cX2_crossTwo 107 = .ok (.imul, 1) := by decide +kernel
theorem dX2_crossTwo_108 : decode cX2_crossTwo 108 = .ok (.aload_n 1, 1) := by decide +kernel
theorem dX2_crossTwo_109 : decode cX2_crossTwo 109 = .ok (.iconst 4, 1) := by decide +kernel
theorem dX2_crossTwo_110 : decode cX2_crossTwo 110 = .ok (.iaload, 1) := by decide +kernel
theorem dX2_crossTwo_111 : decode cX2_crossTwo 111 = .ok (.aload_n 2, 1) := by decide +kernel
theorem dX2_crossTwo_112 : decode cX2_crossTwo 112 = .ok (.iconst 3, 1) := by decide +kernel
theorem dX2_crossTwo_113 : decode cX2_crossTwo 113 = .ok (.iaload, 1) := by decide +kernel
theorem dX2_crossTwo_114 : decode cX2_crossTwo 114 = .ok (.imul, 1) := by decide +kernel
theorem dX2_crossTwo_115 : decode cX2_crossTwo 115 = .ok (.isub, 1) := by decide +kernel
theorem dX2_crossTwo_116 : decode cX2_crossTwo 116 = .ok (.i2l, 1) := by decide +kernel
theorem dX2_crossTwo_117 : decode cX2_crossTwo 117 = .ok (.putfield 59, 3) := by decide +kernel
theorem dX2_crossTwo_120 : decode cX2_crossTwo 120 = .ok (.return_, 1) := by decide +kernel
theorem dX2_meetsAtCorner_0 : decode cX2_meetsAtCorner 0 = .ok (.aload_n 1, 1) := by decide +kernel
theorem dX2_meetsAtCorner_1 : decode cX2_meetsAtCorner 1 = .ok (.iconst 2, 1) := by decide +kernel
theorem dX2_meetsAtCorner_2 : decode cX2_meetsAtCorner 2 = .ok (.iaload, 1) := by decide +kernel
theorem dX2_meetsAtCorner_3 : decode cX2_meetsAtCorner 3 = .ok (.i2l, 1) := by decide +kernel
theorem dX2_meetsAtCorner_4 : decode cX2_meetsAtCorner 4 = .ok (.aload_n 0, 1) := by decide +kernel
theorem dX2_meetsAtCorner_5 : decode cX2_meetsAtCorner 5 = .ok (.getfield 47, 3) := by decide +kernel
theorem dX2_meetsAtCorner_8 : decode cX2_meetsAtCorner 8 = .ok (.lmul, 1) := by decide +kernel
theorem dX2_meetsAtCorner_9 : decode cX2_meetsAtCorner 9 = .ok (.aload_n 1, 1) := by decide +kernel
theorem dX2_meetsAtCorner_10 : decode cX2_meetsAtCorner 10 = .ok (.iconst 1, 1) := by decide +kernel
theorem dX2_meetsAtCorner_11 : decode cX2_meetsAtCorner 11 = .ok (.iaload, 1) := by decide +kernel
theorem dX2_meetsAtCorner_12 : decode cX2_meetsAtCorner 12 = .ok (.i2l, 1) := by decide +kernel
theorem dX2_meetsAtCorner_13 : decode cX2_meetsAtCorner 13 = .ok (.aload_n 0, 1) := by decide +kernel
theorem dX2_meetsAtCorner_14 : decode cX2_meetsAtCorner 14 = .ok (.getfield 53, 3) := by decide +kernel
theorem dX2_meetsAtCorner_17 : decode cX2_meetsAtCorner 17 = .ok (.lmul, 1) := by decide +kernel
theorem dX2_meetsAtCorner_18 : decode cX2_meetsAtCorner 18 = .ok (.lsub, 1) := by decide +kernel
theorem dX2_meetsAtCorner_19 : decode cX2_meetsAtCorner 19 = .ok (.aload_n 1, 1) := by decide +kernel
theorem dX2_meetsAtCorner_20 : decode cX2_meetsAtCorner 20 = .ok (.iconst 3, 1) := by decide +kernel
theorem dX2_meetsAtCorner_21 : decode cX2_meetsAtCorner 21 = .ok (.iaload, 1) := by decide +kernel
theorem dX2_meetsAtCorner_22 : decode cX2_meetsAtCorner 22 = .ok (.i2l, 1) := by decide +kernel
theorem dX2_meetsAtCorner_23 : decode cX2_meetsAtCorner 23 = .ok (.aload_n 0, 1) := by decide +kernel
theorem dX2_meetsAtCorner_24 : decode cX2_meetsAtCorner 24 = .ok (.getfield 43, 3) := by decide +kernel
theorem dX2_meetsAtCorner_27 : decode cX2_meetsAtCorner 27 = .ok (.lmul, 1) := by decide +kernel
theorem dX2_meetsAtCorner_28 : decode cX2_meetsAtCorner 28 = .ok (.lsub, 1) := by decide +kernel
theorem dX2_meetsAtCorner_29 : decode cX2_meetsAtCorner 29 = .ok (.lstore_n 2, 1) := by decide +kernel
theorem dX2_meetsAtCorner_30 : decode cX2_meetsAtCorner 30 = .ok (.lload_n 2, 1) := by decide +kernel
theorem dX2_meetsAtCorner_31 : decode cX2_meetsAtCorner 31 = .ok (.lconst 0, 1) := by decide +kernel
theorem dX2_meetsAtCorner_32 : decode cX2_meetsAtCorner 32 = .ok (.lcmp, 1) := by decide +kernel
theorem dX2_meetsAtCorner_33 : decode cX2_meetsAtCorner 33 = .ok (.ifCond .ne 5, 3) := by decide +kernel
theorem dX2_meetsAtCorner_36 : decode cX2_meetsAtCorner 36 = .ok (.iconst 0, 1) := by decide +kernel
theorem dX2_meetsAtCorner_37 : decode cX2_meetsAtCorner 37 = .ok (.ireturn, 1) := by decide +kernel
theorem dX2_meetsAtCorner_38 : decode cX2_meetsAtCorner 38 = .ok (.lload_n 2, 1) := by decide +kernel
theorem dX2_meetsAtCorner_39 : decode cX2_meetsAtCorner 39 = .ok (.lconst 0, 1) := by decide +kernel
theorem dX2_meetsAtCorner_40 : decode cX2_meetsAtCorner 40 = .ok (.lcmp, 1) := by decide +kernel
theorem dX2_meetsAtCorner_41 : decode cX2_meetsAtCorner 41 = .ok (.ifCond .le 7, 3) := by decide +kernel
theorem dX2_meetsAtCorner_44 : decode cX2_meetsAtCorner 44 = .ok (.iconst 1, 1) := by decide +kernel
theorem dX2_meetsAtCorner_45 : decode cX2_meetsAtCorner 45 = .ok (.goto 4, 3) := by decide +kernel
theorem dX2_meetsAtCorner_48 : decode cX2_meetsAtCorner 48 = .ok (.iconst (-1), 1) := by decide +kernel
theorem dX2_meetsAtCorner_49 : decode cX2_meetsAtCorner 49 = .ok (.istore 4, 2) := by decide +kernel
theorem dX2_meetsAtCorner_51 : decode cX2_meetsAtCorner 51 = .ok (.aload_n 0, 1) := by decide +kernel
theorem dX2_meetsAtCorner_52 : decode cX2_meetsAtCorner 52 = .ok (.getfield 39, 3) := by decide +kernel
theorem dX2_meetsAtCorner_55 : decode cX2_meetsAtCorner 55 = .ok (.iconst 1, 1) := by decide +kernel
theorem dX2_meetsAtCorner_56 : decode cX2_meetsAtCorner 56 = .ok (.iload 4, 2) := by decide +kernel
theorem dX2_meetsAtCorner_58 : decode cX2_meetsAtCorner 58 = .ok (.i2l, 1) := by decide +kernel
theorem dX2_meetsAtCorner_59 : decode cX2_meetsAtCorner 59 = .ok (.aload_n 1, 1) := by decide +kernel
theorem dX2_meetsAtCorner_60 : decode cX2_meetsAtCorner 60 = .ok (.iconst 2, 1) := by decide +kernel
theorem dX2_meetsAtCorner_61 : decode cX2_meetsAtCorner 61 = .ok (.iaload, 1) := by decide +kernel
theorem dX2_meetsAtCorner_62 : decode cX2_meetsAtCorner 62 = .ok (.i2l, 1) := by decide +kernel
theorem dX2_meetsAtCorner_63 : decode cX2_meetsAtCorner 63 = .ok (.aload_n 0, 1) := by decide +kernel
theorem dX2_meetsAtCorner_64 : decode cX2_meetsAtCorner 64 = .ok (.getfield 59, 3) := by decide +kernel
theorem dX2_meetsAtCorner_67 : decode cX2_meetsAtCorner 67 = .ok (.lmul, 1) := by decide +kernel
theorem dX2_meetsAtCorner_68 : decode cX2_meetsAtCorner 68 = .ok (.aload_n 1, 1) := by decide +kernel
theorem dX2_meetsAtCorner_69 : decode cX2_meetsAtCorner 69 = .ok (.iconst 3, 1) := by decide +kernel
theorem dX2_meetsAtCorner_70 : decode cX2_meetsAtCorner 70 = .ok (.iaload, 1) := by decide +kernel
theorem dX2_meetsAtCorner_71 : decode cX2_meetsAtCorner 71 = .ok (.i2l, 1) := by decide +kernel
theorem dX2_meetsAtCorner_72 : decode cX2_meetsAtCorner 72 = .ok (.aload_n 0, 1) := by decide +kernel
theorem dX2_meetsAtCorner_73 : decode cX2_meetsAtCorner 73 = .ok (.getfield 56, 3) := by decide +kernel
theorem dX2_meetsAtCorner_76 : decode cX2_meetsAtCorner 76 = .ok (.lmul, 1) := by decide +kernel
theorem dX2_meetsAtCorner_77 : decode cX2_meetsAtCorner 77 = .ok (.lsub, 1) := by decide +kernel
theorem dX2_meetsAtCorner_78 : decode cX2_meetsAtCorner 78 = .ok (.aload_n 1, 1) := by decide +kernel
theorem dX2_meetsAtCorner_79 : decode cX2_meetsAtCorner 79 = .ok (.iconst 4, 1) := by decide +kernel
theorem dX2_meetsAtCorner_80 : decode cX2_meetsAtCorner 80 = .ok (.iaload, 1) := by decide +kernel
theorem dX2_meetsAtCorner_81 : decode cX2_meetsAtCorner 81 = .ok (.i2l, 1) := by decide +kernel
theorem dX2_meetsAtCorner_82 : decode cX2_meetsAtCorner 82 = .ok (.aload_n 0, 1) := by decide +kernel
theorem dX2_meetsAtCorner_83 : decode cX2_meetsAtCorner 83 = .ok (.getfield 53, 3) := by decide +kernel
theorem dX2_meetsAtCorner_86 : decode cX2_meetsAtCorner 86 = .ok (.lmul, 1) := by decide +kernel
theorem dX2_meetsAtCorner_87 : decode cX2_meetsAtCorner 87 = .ok (.ladd, 1) := by decide +kernel
theorem dX2_meetsAtCorner_88 : decode cX2_meetsAtCorner 88 = .ok (.lmul, 1) := by decide +kernel
theorem dX2_meetsAtCorner_89 : decode cX2_meetsAtCorner 89 = .ok (.lastore, 1) := by decide +kernel
theorem dX2_meetsAtCorner_90 : decode cX2_meetsAtCorner 90 = .ok (.aload_n 0, 1) := by decide +kernel
theorem dX2_meetsAtCorner_91 : decode cX2_meetsAtCorner 91 = .ok (.getfield 39, 3) := by decide +kernel
theorem dX2_meetsAtCorner_94 : decode cX2_meetsAtCorner 94 = .ok (.iconst 2, 1) := by decide +kernel
theorem dX2_meetsAtCorner_95 : decode cX2_meetsAtCorner 95 = .ok (.iload 4, 2) := by decide +kernel
theorem dX2_meetsAtCorner_97 : decode cX2_meetsAtCorner 97 = .ok (.i2l, 1) := by decide +kernel
theorem dX2_meetsAtCorner_98 : decode cX2_meetsAtCorner 98 = .ok (.aload_n 1, 1) := by decide +kernel
theorem dX2_meetsAtCorner_99 : decode cX2_meetsAtCorner 99 = .ok (.iconst 3, 1) := by decide +kernel
theorem dX2_meetsAtCorner_100 : decode cX2_meetsAtCorner 100 = .ok (.iaload, 1) := by decide +kernel
theorem dX2_meetsAtCorner_101 : decode cX2_meetsAtCorner 101 = .ok (.i2l, 1) := by decide +kernel
theorem dX2_meetsAtCorner_102 : decode cX2_meetsAtCorner 102 = .ok (.aload_n 0, 1) := by decide +kernel
theorem dX2_meetsAtCorner_103 : decode cX2_meetsAtCorner 103 = .ok (.getfield 50, 3) := by decide +kernel
theorem dX2_meetsAtCorner_106 : decode cX2_meetsAtCorner 106 = .ok (.lmul, 1) := by decide +kernel
theorem dX2_meetsAtCorner_107 : decode cX2_meetsAtCorner 107 = .ok (.aload_n 1, 1) := by decide +kernel
theorem dX2_meetsAtCorner_108 : decode cX2_meetsAtCorner 108 = .ok (.iconst 1, 1) := by decide +kernel
theorem dX2_meetsAtCorner_109 : decode cX2_meetsAtCorner 109 = .ok (.iaload, 1) := by decide +kernel
theorem dX2_meetsAtCorner_110 : decode cX2_meetsAtCorner 110 = .ok (.i2l, 1) := by decide +kernel
theorem dX2_meetsAtCorner_111 : decode cX2_meetsAtCorner 111 = .ok (.aload_n 0, 1) := by decide +kernel
theorem dX2_meetsAtCorner_112 : decode cX2_meetsAtCorner 112 = .ok (.getfield 59, 3) := by decide +kernel
theorem dX2_meetsAtCorner_115 : decode cX2_meetsAtCorner 115 = .ok (.lmul, 1) := by decide +kernel
theorem dX2_meetsAtCorner_116 : decode cX2_meetsAtCorner 116 = .ok (.lsub, 1) := by decide +kernel
theorem dX2_meetsAtCorner_117 : decode cX2_meetsAtCorner 117 = .ok (.aload_n 1, 1) := by decide +kernel
theorem dX2_meetsAtCorner_118 : decode cX2_meetsAtCorner 118 = .ok (.iconst 4, 1) := by decide +kernel
theorem dX2_meetsAtCorner_119 : decode cX2_meetsAtCorner 119 = .ok (.iaload, 1) := by decide +kernel
theorem dX2_meetsAtCorner_120 : decode cX2_meetsAtCorner 120 = .ok (.i2l, 1) := by decide +kernel
theorem dX2_meetsAtCorner_121 : decode cX2_meetsAtCorner 121 = .ok (.aload_n 0, 1) := by decide +kernel
theorem dX2_meetsAtCorner_122 : decode cX2_meetsAtCorner 122 = .ok (.getfield 47, 3) := by decide +kernel
theorem dX2_meetsAtCorner_125 : decode cX2_meetsAtCorner 125 = .ok (.lmul, 1) := by decide +kernel
theorem dX2_meetsAtCorner_126 : decode cX2_meetsAtCorner 126 = .ok (.lsub, 1) := by decide +kernel
theorem dX2_meetsAtCorner_127 : decode cX2_meetsAtCorner 127 = .ok (.lmul, 1) := by decide +kernel
theorem dX2_meetsAtCorner_128 : decode cX2_meetsAtCorner 128 = .ok (.lastore, 1) := by decide +kernel
theorem dX2_meetsAtCorner_129 : decode cX2_meetsAtCorner 129 = .ok (.aload_n 0, 1) := by decide +kernel
theorem dX2_meetsAtCorner_130 : decode cX2_meetsAtCorner 130 = .ok (.getfield 39, 3) := by decide +kernel
theorem dX2_meetsAtCorner_133 : decode cX2_meetsAtCorner 133 = .ok (.iconst 3, 1) := by decide +kernel
theorem dX2_meetsAtCorner_134 : decode cX2_meetsAtCorner 134 = .ok (.iload 4, 2) := by decide +kernel
theorem dX2_meetsAtCorner_136 : decode cX2_meetsAtCorner 136 = .ok (.i2l, 1) := by decide +kernel
theorem dX2_meetsAtCorner_137 : decode cX2_meetsAtCorner 137 = .ok (.aload_n 1, 1) := by decide +kernel
theorem dX2_meetsAtCorner_138 : decode cX2_meetsAtCorner 138 = .ok (.iconst 1, 1) := by decide +kernel
theorem dX2_meetsAtCorner_139 : decode cX2_meetsAtCorner 139 = .ok (.iaload, 1) := by decide +kernel
theorem dX2_meetsAtCorner_140 : decode cX2_meetsAtCorner 140 = .ok (.i2l, 1) := by decide +kernel
theorem dX2_meetsAtCorner_141 : decode cX2_meetsAtCorner 141 = .ok (.aload_n 0, 1) := by decide +kernel
theorem dX2_meetsAtCorner_142 : decode cX2_meetsAtCorner 142 = .ok (.getfield 56, 3) := by decide +kernel
theorem dX2_meetsAtCorner_145 : decode cX2_meetsAtCorner 145 = .ok (.lmul, 1) := by decide +kernel
theorem dX2_meetsAtCorner_146 : decode cX2_meetsAtCorner 146 = .ok (.aload_n 1, 1) := by decide +kernel
theorem dX2_meetsAtCorner_147 : decode cX2_meetsAtCorner 147 = .ok (.iconst 2, 1) := by decide +kernel
theorem dX2_meetsAtCorner_148 : decode cX2_meetsAtCorner 148 = .ok (.iaload, 1) := by decide +kernel
theorem dX2_meetsAtCorner_149 : decode cX2_meetsAtCorner 149 = .ok (.i2l, 1) := by decide +kernel
theorem dX2_meetsAtCorner_150 : decode cX2_meetsAtCorner 150 = .ok (.aload_n 0, 1) := by decide +kernel
theorem dX2_meetsAtCorner_151 : decode cX2_meetsAtCorner 151 = .ok (.getfield 50, 3) := by decide +kernel
theorem dX2_meetsAtCorner_154 : decode cX2_meetsAtCorner 154 = .ok (.lmul, 1) := by decide +kernel
theorem dX2_meetsAtCorner_155 : decode cX2_meetsAtCorner 155 = .ok (.lsub, 1) := by decide +kernel
theorem dX2_meetsAtCorner_156 : decode cX2_meetsAtCorner 156 = .ok (.aload_n 1, 1) := by decide +kernel
theorem dX2_meetsAtCorner_157 : decode cX2_meetsAtCorner 157 = .ok (.iconst 4, 1) := by decide +kernel
theorem dX2_meetsAtCorner_158 : decode cX2_meetsAtCorner 158 = .ok (.iaload, 1) := by decide +kernel
theorem dX2_meetsAtCorner_159 : decode cX2_meetsAtCorner 159 = .ok (.i2l, 1) := by decide +kernel
theorem dX2_meetsAtCorner_160 : decode cX2_meetsAtCorner 160 = .ok (.aload_n 0, 1) := by decide +kernel
theorem dX2_meetsAtCorner_161 : decode cX2_meetsAtCorner 161 = .ok (.getfield 43, 3) := by decide +kernel
theorem dX2_meetsAtCorner_164 : decode cX2_meetsAtCorner 164 = .ok (.lmul, 1) := by decide +kernel
theorem dX2_meetsAtCorner_165 : decode cX2_meetsAtCorner 165 = .ok (.ladd, 1) := by decide +kernel
theorem dX2_meetsAtCorner_166 : decode cX2_meetsAtCorner 166 = .ok (.lmul, 1) := by decide +kernel
theorem dX2_meetsAtCorner_167 : decode cX2_meetsAtCorner 167 = .ok (.lastore, 1) := by decide +kernel
theorem dX2_meetsAtCorner_168 : decode cX2_meetsAtCorner 168 = .ok (.aload_n 0, 1) := by decide +kernel
theorem dX2_meetsAtCorner_169 : decode cX2_meetsAtCorner 169 = .ok (.getfield 39, 3) := by decide +kernel
theorem dX2_meetsAtCorner_172 : decode cX2_meetsAtCorner 172 = .ok (.iconst 4, 1) := by decide +kernel
theorem dX2_meetsAtCorner_173 : decode cX2_meetsAtCorner 173 = .ok (.iload 4, 2) := by decide +kernel
theorem dX2_meetsAtCorner_175 : decode cX2_meetsAtCorner 175 = .ok (.i2l, 1) := by decide +kernel
theorem dX2_meetsAtCorner_176 : decode cX2_meetsAtCorner 176 = .ok (.lload_n 2, 1) := by decide +kernel
theorem dX2_meetsAtCorner_177 : decode cX2_meetsAtCorner 177 = .ok (.lmul, 1) := by decide +kernel
theorem dX2_meetsAtCorner_178 : decode cX2_meetsAtCorner 178 = .ok (.lastore, 1) := by decide +kernel
theorem dX2_meetsAtCorner_179 : decode cX2_meetsAtCorner 179 = .ok (.iconst 1, 1) := by decide +kernel
theorem dX2_meetsAtCorner_180 : decode cX2_meetsAtCorner 180 = .ok (.ireturn, 1) := by decide +kernel
theorem dX2_weighCorner_0 : decode cX2_weighCorner 0 = .ok (.lconst 0, 1) := by decide +kernel
theorem dX2_weighCorner_1 : decode cX2_weighCorner 1 = .ok (.lstore_n 1, 1) := by decide +kernel
theorem dX2_weighCorner_2 : decode cX2_weighCorner 2 = .ok (.iconst 0, 1) := by decide +kernel
theorem dX2_weighCorner_3 : decode cX2_weighCorner 3 = .ok (.istore_n 3, 1) := by decide +kernel
theorem dX2_weighCorner_4 : decode cX2_weighCorner 4 = .ok (.iload_n 3, 1) := by decide +kernel
theorem dX2_weighCorner_5 : decode cX2_weighCorner 5 = .ok (.aload_n 0, 1) := by decide +kernel
theorem dX2_weighCorner_6 : decode cX2_weighCorner 6 = .ok (.getfield 27, 3) := by decide +kernel
theorem dX2_weighCorner_9 : decode cX2_weighCorner 9 = .ok (.if_icmp .ge 80, 3) := by decide +kernel
theorem dX2_weighCorner_12 : decode cX2_weighCorner 12 = .ok (.aload_n 0, 1) := by decide +kernel
theorem dX2_weighCorner_13 : decode cX2_weighCorner 13 = .ok (.getfield 21, 3) := by decide +kernel
theorem dX2_weighCorner_16 : decode cX2_weighCorner 16 = .ok (.iload_n 3, 1) := by decide +kernel
theorem dX2_weighCorner_17 : decode cX2_weighCorner 17 = .ok (.iaload, 1) := by decide +kernel
theorem dX2_weighCorner_18 : decode cX2_weighCorner 18 = .ok (.i2l, 1) := by decide +kernel
theorem dX2_weighCorner_19 : decode cX2_weighCorner 19 = .ok (.aload_n 0, 1) := by decide +kernel
theorem dX2_weighCorner_20 : decode cX2_weighCorner 20 = .ok (.getfield 39, 3) := by decide +kernel
theorem dX2_weighCorner_23 : decode cX2_weighCorner 23 = .ok (.aload_n 0, 1) := by decide +kernel
theorem dX2_weighCorner_24 : decode cX2_weighCorner 24 = .ok (.getfield 15, 3) := by decide +kernel
theorem dX2_weighCorner_27 : decode cX2_weighCorner 27 = .ok (.iload_n 3, 1) := by decide +kernel
theorem dX2_weighCorner_28 : decode cX2_weighCorner 28 = .ok (.iaload, 1) := by decide +kernel
theorem dX2_weighCorner_29 : decode cX2_weighCorner 29 = .ok (.laload, 1) := by decide +kernel
theorem dX2_weighCorner_30 : decode cX2_weighCorner 30 = .ok (.lmul, 1) := by decide +kernel
theorem dX2_weighCorner_31 : decode cX2_weighCorner 31 = .ok (.aload_n 0, 1) := by decide +kernel
theorem dX2_weighCorner_32 : decode cX2_weighCorner 32 = .ok (.getfield 24, 3) := by decide +kernel
theorem dX2_weighCorner_35 : decode cX2_weighCorner 35 = .ok (.iload_n 3, 1) := by decide +kernel
theorem dX2_weighCorner_36 : decode cX2_weighCorner 36 = .ok (.iaload, 1) := by decide +kernel
theorem dX2_weighCorner_37 : decode cX2_weighCorner 37 = .ok (.i2l, 1) := by decide +kernel
theorem dX2_weighCorner_38 : decode cX2_weighCorner 38 = .ok (.aload_n 0, 1) := by decide +kernel
theorem dX2_weighCorner_39 : decode cX2_weighCorner 39 = .ok (.getfield 39, 3) := by decide +kernel
theorem dX2_weighCorner_42 : decode cX2_weighCorner 42 = .ok (.aload_n 0, 1) := by decide +kernel
theorem dX2_weighCorner_43 : decode cX2_weighCorner 43 = .ok (.getfield 9, 3) := by decide +kernel
theorem dX2_weighCorner_46 : decode cX2_weighCorner 46 = .ok (.iload_n 3, 1) := by decide +kernel
theorem dX2_weighCorner_47 : decode cX2_weighCorner 47 = .ok (.iaload, 1) := by decide +kernel
theorem dX2_weighCorner_48 : decode cX2_weighCorner 48 = .ok (.laload, 1) := by decide +kernel
theorem dX2_weighCorner_49 : decode cX2_weighCorner 49 = .ok (.lmul, 1) := by decide +kernel
theorem dX2_weighCorner_50 : decode cX2_weighCorner 50 = .ok (.lsub, 1) := by decide +kernel
theorem dX2_weighCorner_51 : decode cX2_weighCorner 51 = .ok (.lstore 4, 2) := by decide +kernel
theorem dX2_weighCorner_53 : decode cX2_weighCorner 53 = .ok (.lload 4, 2) := by decide +kernel
theorem dX2_weighCorner_55 : decode cX2_weighCorner 55 = .ok (.lconst 0, 1) := by decide +kernel
theorem dX2_weighCorner_56 : decode cX2_weighCorner 56 = .ok (.lcmp, 1) := by decide +kernel
theorem dX2_weighCorner_57 : decode cX2_weighCorner 57 = .ok (.ifCond .le 26, 3) := by decide +kernel
theorem dX2_weighCorner_60 : decode cX2_weighCorner 60 = .ok (.lload_n 1, 1) := by decide +kernel
theorem dX2_weighCorner_61 : decode cX2_weighCorner 61 = .ok (.aload_n 0, 1) := by decide +kernel
theorem dX2_weighCorner_62 : decode cX2_weighCorner 62 = .ok (.getfield 18, 3) := by decide +kernel
theorem dX2_weighCorner_65 : decode cX2_weighCorner 65 = .ok (.iload_n 3, 1) := by decide +kernel
theorem dX2_weighCorner_66 : decode cX2_weighCorner 66 = .ok (.iaload, 1) := by decide +kernel
theorem dX2_weighCorner_67 : decode cX2_weighCorner 67 = .ok (.aload_n 0, 1) := by decide +kernel
theorem dX2_weighCorner_68 : decode cX2_weighCorner 68 = .ok (.getfield 24, 3) := by decide +kernel
theorem dX2_weighCorner_71 : decode cX2_weighCorner 71 = .ok (.iload_n 3, 1) := by decide +kernel
theorem dX2_weighCorner_72 : decode cX2_weighCorner 72 = .ok (.iaload, 1) := by decide +kernel
theorem dX2_weighCorner_73 : decode cX2_weighCorner 73 = .ok (.invokestatic 118, 3) := by decide +kernel
theorem dX2_weighCorner_76 : decode cX2_weighCorner 76 = .ok (.imul, 1) := by decide +kernel
theorem dX2_weighCorner_77 : decode cX2_weighCorner 77 = .ok (.i2l, 1) := by decide +kernel
theorem dX2_weighCorner_78 : decode cX2_weighCorner 78 = .ok (.lload 4, 2) := by decide +kernel
theorem dX2_weighCorner_80 : decode cX2_weighCorner 80 = .ok (.lmul, 1) := by decide +kernel
theorem dX2_weighCorner_81 : decode cX2_weighCorner 81 = .ok (.ladd, 1) := by decide +kernel
theorem dX2_weighCorner_82 : decode cX2_weighCorner 82 = .ok (.lstore_n 1, 1) := by decide +kernel
theorem dX2_weighCorner_83 : decode cX2_weighCorner 83 = .ok (.iinc 3 1, 3) := by decide +kernel
theorem dX2_weighCorner_86 : decode cX2_weighCorner 86 = .ok (.goto (-82), 3) := by decide +kernel
theorem dX2_weighCorner_89 : decode cX2_weighCorner 89 = .ok (.aload_n 0, 1) := by decide +kernel
theorem dX2_weighCorner_90 : decode cX2_weighCorner 90 = .ok (.getfield 65, 3) := by decide +kernel
theorem dX2_weighCorner_93 : decode cX2_weighCorner 93 = .ok (.lconst 0, 1) := by decide +kernel
theorem dX2_weighCorner_94 : decode cX2_weighCorner 94 = .ok (.lcmp, 1) := by decide +kernel
theorem dX2_weighCorner_95 : decode cX2_weighCorner 95 = .ok (.ifCond .eq 24, 3) := by decide +kernel
theorem dX2_weighCorner_98 : decode cX2_weighCorner 98 = .ok (.lload_n 1, 1) := by decide +kernel
theorem dX2_weighCorner_99 : decode cX2_weighCorner 99 = .ok (.aload_n 0, 1) := by decide +kernel
theorem dX2_weighCorner_100 : decode cX2_weighCorner 100 = .ok (.getfield 65, 3) := by decide +kernel
theorem dX2_weighCorner_103 : decode cX2_weighCorner 103 = .ok (.lmul, 1) := by decide +kernel
theorem dX2_weighCorner_104 : decode cX2_weighCorner 104 = .ok (.aload_n 0, 1) := by decide +kernel
theorem dX2_weighCorner_105 : decode cX2_weighCorner 105 = .ok (.getfield 62, 3) := by decide +kernel
theorem dX2_weighCorner_108 : decode cX2_weighCorner 108 = .ok (.aload_n 0, 1) := by decide +kernel
theorem dX2_weighCorner_109 : decode cX2_weighCorner 109 = .ok (.getfield 39, 3) := by decide +kernel
theorem dX2_weighCorner_112 : decode cX2_weighCorner 112 = .ok (.iconst 4, 1) := by decide +kernel
theorem dX2_weighCorner_113 : decode cX2_weighCorner 113 = .ok (.laload, 1) := by decide +kernel
theorem dX2_weighCorner_114 : decode cX2_weighCorner 114 = .ok (.lmul, 1) := by decide +kernel
theorem dX2_weighCorner_115 : decode cX2_weighCorner 115 = .ok (.lcmp, 1) := by decide +kernel
theorem dX2_weighCorner_116 : decode cX2_weighCorner 116 = .ok (.ifCond .ge 18, 3) := by decide +kernel
theorem dX2_weighCorner_119 : decode cX2_weighCorner 119 = .ok (.aload_n 0, 1) := by decide +kernel
theorem dX2_weighCorner_120 : decode cX2_weighCorner 120 = .ok (.lload_n 1, 1) := by decide +kernel
theorem dX2_weighCorner_121 : decode cX2_weighCorner 121 = .ok (.putfield 62, 3) := by decide +kernel
theorem dX2_weighCorner_124 : decode cX2_weighCorner 124 = .ok (.aload_n 0, 1) := by decide +kernel
theorem dX2_weighCorner_125 : decode cX2_weighCorner 125 = .ok (.aload_n 0, 1) := by decide +kernel
theorem dX2_weighCorner_126 : decode cX2_weighCorner 126 = .ok (.getfield 39, 3) := by decide +kernel
theorem dX2_weighCorner_129 : decode cX2_weighCorner 129 = .ok (.iconst 4, 1) := by decide +kernel
theorem dX2_weighCorner_130 : decode cX2_weighCorner 130 = .ok (.laload, 1) := by decide +kernel
theorem dX2_weighCorner_131 : decode cX2_weighCorner 131 = .ok (.putfield 65, 3) := by decide +kernel
theorem dX2_weighCorner_134 : decode cX2_weighCorner 134 = .ok (.return_, 1) := by decide +kernel
