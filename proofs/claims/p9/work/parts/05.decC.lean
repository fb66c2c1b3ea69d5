theorem dX4_init_0 : decode cX4_init 0 = .ok (.aload_n 0, 1) := by decide +kernel
theorem dX4_init_1 : decode cX4_init 1 = .ok (.invokespecial 3, 3) := by decide +kernel
theorem dX4_init_4 : decode cX4_init 4 = .ok (.aload_n 0, 1) := by decide +kernel
theorem dX4_init_5 : decode cX4_init 5 = .ok (.new 9, 3) := by decide +kernel
theorem dX4_init_8 : decode cX4_init 8 = .ok (.dup, 1) := by decide +kernel
theorem dX4_init_9 : decode cX4_init 9 = .ok (.invokespecial 11, 3) := by decide +kernel
theorem dX4_init_12 : decode cX4_init 12 = .ok (.putfield 12, 3) := by decide +kernel
theorem dX4_init_15 : decode cX4_init 15 = .ok (.aload_n 0, 1) := by decide +kernel
theorem dX4_init_16 : decode cX4_init 16 = .ok (.iconst 3, 1) := by decide +kernel
theorem dX4_init_17 : decode cX4_init 17 = .ok (.anewarray 9, 3) := by decide +kernel
theorem dX4_init_20 : decode cX4_init 20 = .ok (.putfield 16, 3) := by decide +kernel
theorem dX4_init_23 : decode cX4_init 23 = .ok (.aload_n 0, 1) := by decide +kernel
theorem dX4_init_24 : decode cX4_init 24 = .ok (.iconst 3, 1) := by decide +kernel
theorem dX4_init_25 : decode cX4_init 25 = .ok (.newarray .boolean, 2) := by decide +kernel
theorem dX4_init_27 : decode cX4_init 27 = .ok (.putfield 20, 3) := by decide +kernel
theorem dX4_init_30 : decode cX4_init 30 = .ok (.aload_n 0, 1) := by decide +kernel
theorem dX4_init_31 : decode cX4_init 31 = .ok (.new 24, 3) := by decide +kernel
theorem dX4_init_34 : decode cX4_init 34 = .ok (.dup, 1) := by decide +kernel
theorem dX4_init_35 : decode cX4_init 35 = .ok (.invokespecial 26, 3) := by decide +kernel
theorem dX4_init_38 : decode cX4_init 38 = .ok (.putfield 27, 3) := by decide +kernel
theorem dX4_init_41 : decode cX4_init 41 = .ok (.aload_n 0, 1) := by decide +kernel
theorem dX4_init_42 : decode cX4_init 42 = .ok (.new 31, 3) := by decide +kernel
theorem dX4_init_45 : decode cX4_init 45 = .ok (.dup, 1) := by decide +kernel
theorem dX4_init_46 : decode cX4_init 46 = .ok (.invokespecial 33, 3) := by decide +kernel
theorem dX4_init_49 : decode cX4_init 49 = .ok (.putfield 34, 3) := by decide +kernel
theorem dX4_init_52 : decode cX4_init 52 = .ok (.aload_n 0, 1) := by decide +kernel
theorem dX4_init_53 : decode cX4_init 53 = .ok (.new 38, 3) := by decide +kernel
theorem dX4_init_56 : decode cX4_init 56 = .ok (.dup, 1) := by decide +kernel
theorem dX4_init_57 : decode cX4_init 57 = .ok (.invokespecial 40, 3) := by decide +kernel
theorem dX4_init_60 : decode cX4_init 60 = .ok (.putfield 41, 3) := by decide +kernel
theorem dX4_init_63 : decode cX4_init 63 = .ok (.aload_n 0, 1) := by decide +kernel
theorem dX4_init_64 : decode cX4_init 64 = .ok (.new 38, 3) := by decide +kernel
theorem dX4_init_67 : decode cX4_init 67 = .ok (.dup, 1) := by decide +kernel
theorem dX4_init_68 : decode cX4_init 68 = .ok (.invokespecial 40, 3) := by decide +kernel
theorem dX4_init_71 : decode cX4_init 71 = .ok (.putfield 45, 3) := by decide +kernel
theorem dX4_init_74 : decode cX4_init 74 = .ok (.aload_n 0, 1) := by decide +kernel
theorem dX4_init_75 : decode cX4_init 75 = .ok (.new 38, 3) := by decide +kernel
theorem dX4_init_78 : decode cX4_init 78 = .ok (.dup, 1) := by decide +kernel
theorem dX4_init_79 : decode cX4_init 79 = .ok (.invokespecial 40, 3) := by decide +kernel
theorem dX4_init_82 : decode cX4_init 82 = .ok (.putfield 48, 3) := by decide +kernel
theorem dX4_init_85 : decode cX4_init 85 = .ok (.iconst 0, 1) := by decide +kernel
theorem dX4_init_86 : decode cX4_init 86 = .ok (.istore_n 1, 1) := by decide +kernel
theorem dX4_init_87 : decode cX4_init 87 = .ok (.iload_n 1, 1) := by decide +kernel
theorem dX4_init_88 : decode cX4_init 88 = .ok (.iconst 3, 1) := by decide +kernel
theorem dX4_init_89 : decode cX4_init 89 = .ok (.if_icmp .ge 22, 3) := by decide +kernel
theorem dX4_init_92 : decode cX4_init 92 = .ok (.aload_n 0, 1) := by decide +kernel
theorem dX4_init_93 : decode cX4_init 93 = .ok (.getfield 16, 3) := by decide +kernel
theorem dX4_init_96 : decode cX4_init 96 = .ok (.iload_n 1, 1) := by decide +kernel
theorem dX4_init_97 : decode cX4_init 97 = .ok (.new 9, 3) := by decide +kernel
theorem dX4_init_100 : decode cX4_init 100 = .ok (.dup, 1) := by decide +kernel
theorem dX4_init_101 : decode cX4_init 101 = .ok (.invokespecial 11, 3) := by decide +kernel
theorem dX4_init_104 : decode cX4_init 104 = .ok (.aastore, 1) := by decide +kernel
theorem dX4_init_105 : decode cX4_init 105 = .ok (.iinc 1 1, 3) := by decide +kernel
theorem dX4_init_108 : decode cX4_init 108 = .ok (.goto (-21), 3) := by decide +kernel
theorem dX4_init_111 : decode cX4_init 111 = .ok (.return_, 1) := by decide +kernel
theorem dX4_posts_0 : decode cX4_posts 0 = .ok (.iload_n 1, 1) := by decide +kernel
theorem dX4_posts_1 : decode cX4_posts 1 = .ok (.iconst 2, 1) := by decide +kernel
theorem dX4_posts_2 : decode cX4_posts 2 = .ok (.iconst 5, 1) := by decide +kernel
theorem dX4_posts_3 : decode cX4_posts 3 = .ok (.invokestatic 51, 3) := by decide +kernel
theorem dX4_posts_6 : decode cX4_posts 6 = .ok (.ifCond .ne 5, 3) := by decide +kernel
theorem dX4_posts_9 : decode cX4_posts 9 = .ok (.iconst 0, 1) := by decide +kernel
theorem dX4_posts_10 : decode cX4_posts 10 = .ok (.ireturn, 1) := by decide +kernel
theorem dX4_posts_11 : decode cX4_posts 11 = .ok (.aload_n 0, 1) := by decide +kernel
theorem dX4_posts_12 : decode cX4_posts 12 = .ok (.getfield 12, 3) := by decide +kernel
theorem dX4_posts_15 : decode cX4_posts 15 = .ok (.iload_n 1, 1) := by decide +kernel
theorem dX4_posts_16 : decode cX4_posts 16 = .ok (.putfield 55, 3) := by decide +kernel
theorem dX4_posts_19 : decode cX4_posts 19 = .ok (.aload_n 0, 1) := by decide +kernel
theorem dX4_posts_20 : decode cX4_posts 20 = .ok (.getfield 12, 3) := by decide +kernel
theorem dX4_posts_23 : decode cX4_posts 23 = .ok (.iconst 0, 1) := by decide +kernel
theorem dX4_posts_24 : decode cX4_posts 24 = .ok (.putfield 59, 3) := by decide +kernel
theorem dX4_posts_27 : decode cX4_posts 27 = .ok (.aload_n 0, 1) := by decide +kernel
theorem dX4_posts_28 : decode cX4_posts 28 = .ok (.getfield 12, 3) := by decide +kernel
theorem dX4_posts_31 : decode cX4_posts 31 = .ok (.invokevirtual 62, 3) := by decide +kernel
theorem dX4_posts_34 : decode cX4_posts 34 = .ok (.iconst 1, 1) := by decide +kernel
theorem dX4_posts_35 : decode cX4_posts 35 = .ok (.ireturn, 1) := by decide +kernel
theorem dX4_lane_0 : decode cX4_lane 0 = .ok (.aload_n 0, 1) := by decide +kernel
theorem dX4_lane_1 : decode cX4_lane 1 = .ok (.getfield 12, 3) := by decide +kernel
theorem dX4_lane_4 : decode cX4_lane 4 = .ok (.getfield 59, 3) := by decide +kernel
theorem dX4_lane_7 : decode cX4_lane 7 = .ok (.bipush 10, 2) := by decide +kernel
theorem dX4_lane_9 : decode cX4_lane 9 = .ok (.if_icmp .ge 15, 3) := by decide +kernel
theorem dX4_lane_12 : decode cX4_lane 12 = .ok (.aload_n 0, 1) := by decide +kernel
theorem dX4_lane_13 : decode cX4_lane 13 = .ok (.getfield 12, 3) := by decide +kernel
theorem dX4_lane_16 : decode cX4_lane 16 = .ok (.iload_n 1, 1) := by decide +kernel
theorem dX4_lane_17 : decode cX4_lane 17 = .ok (.iload_n 2, 1) := by decide +kernel
theorem dX4_lane_18 : decode cX4_lane 18 = .ok (.invokevirtual 65, 3) := by decide +kernel
theorem dX4_lane_21 : decode cX4_lane 21 = .ok (.ifCond .ne 5, 3) := by decide +kernel
theorem dX4_lane_24 : decode cX4_lane 24 = .ok (.iconst (-1), 1) := by decide +kernel
theorem dX4_lane_25 : decode cX4_lane 25 = .ok (.ireturn, 1) := by decide +kernel
theorem dX4_lane_26 : decode cX4_lane 26 = .ok (.iload_n 3, 1) := by decide +kernel
theorem dX4_lane_27 : decode cX4_lane 27 = .ok (.invokestatic 69, 3) := by decide +kernel
theorem dX4_lane_30 : decode cX4_lane 30 = .ok (.ifCond .eq 13, 3) := by decide +kernel
theorem dX4_lane_33 : decode cX4_lane 33 = .ok (.iload 4, 2) := by decide +kernel
theorem dX4_lane_35 : decode cX4_lane 35 = .ok (.iload 5, 2) := by decide +kernel
theorem dX4_lane_37 : decode cX4_lane 37 = .ok (.invokestatic 73, 3) := by decide +kernel
theorem dX4_lane_40 : decode cX4_lane 40 = .ok (.ifCond .ne 5, 3) := by decide +kernel
theorem dX4_lane_43 : decode cX4_lane 43 = .ok (.iconst (-1), 1) := by decide +kernel
theorem dX4_lane_44 : decode cX4_lane 44 = .ok (.ireturn, 1) := by decide +kernel
theorem dX4_lane_45 : decode cX4_lane 45 = .ok (.aload_n 0, 1) := by decide +kernel
theorem dX4_lane_46 : decode cX4_lane 46 = .ok (.getfield 12, 3) := by decide +kernel
theorem dX4_lane_49 : decode cX4_lane 49 = .ok (.getfield 59, 3) := by decide +kernel
theorem dX4_lane_52 : decode cX4_lane 52 = .ok (.istore 6, 2) := by decide +kernel
theorem dX4_lane_54 : decode cX4_lane 54 = .ok (.aload_n 0, 1) := by decide +kernel
theorem dX4_lane_55 : decode cX4_lane 55 = .ok (.getfield 12, 3) := by decide +kernel
theorem dX4_lane_58 : decode cX4_lane 58 = .ok (.getfield 76, 3) := by decide +kernel
theorem dX4_lane_61 : decode cX4_lane 61 = .ok (.iload 6, 2) := by decide +kernel
theorem dX4_lane_63 : decode cX4_lane 63 = .ok (.aaload, 1) := by decide +kernel
theorem dX4_lane_64 : decode cX4_lane 64 = .ok (.astore 7, 2) := by decide +kernel
theorem dX4_lane_66 : decode cX4_lane 66 = .ok (.aload 7, 2) := by decide +kernel
theorem dX4_lane_68 : decode cX4_lane 68 = .ok (.iconst 0, 1) := by decide +kernel
theorem dX4_lane_69 : decode cX4_lane 69 = .ok (.iload_n 1, 1) := by decide +kernel
theorem dX4_lane_70 : decode cX4_lane 70 = .ok (.iastore, 1) := by decide +kernel
theorem dX4_lane_71 : decode cX4_lane 71 = .ok (.aload 7, 2) := by decide +kernel
theorem dX4_lane_73 : decode cX4_lane 73 = .ok (.iconst 1, 1) := by decide +kernel
theorem dX4_lane_74 : decode cX4_lane 74 = .ok (.iload_n 2, 1) := by decide +kernel
theorem dX4_lane_75 : decode cX4_lane 75 = .ok (.iastore, 1) := by decide +kernel
theorem dX4_lane_76 : decode cX4_lane 76 = .ok (.aload 7, 2) := by decide +kernel
theorem dX4_lane_78 : decode cX4_lane 78 = .ok (.iconst 2, 1) := by decide +kernel
theorem dX4_lane_79 : decode cX4_lane 79 = .ok (.iload_n 3, 1) := by decide +kernel
theorem dX4_lane_80 : decode cX4_lane 80 = .ok (.iastore, 1) := by decide +kernel
theorem dX4_lane_81 : decode cX4_lane 81 = .ok (.aload 7, 2) := by decide +kernel
theorem dX4_lane_83 : decode cX4_lane 83 = .ok (.iconst 3, 1) := by decide +kernel
theorem dX4_lane_84 : decode cX4_lane 84 = .ok (.iload 4, 2) := by decide +kernel
theorem dX4_lane_86 : decode cX4_lane 86 = .ok (.iastore, 1) := by decide +kernel
theorem dX4_lane_87 : decode cX4_lane 87 = .ok (.aload 7, 2) := by decide +kernel
theorem dX4_lane_89 : decode cX4_lane 89 = .ok (.iconst 4, 1) := by decide +kernel
theorem dX4_lane_90 : decode cX4_lane 90 = .ok (.iload 5, 2) := by decide +kernel
theorem dX4_lane_92 : decode cX4_lane 92 = .ok (.iastore, 1) := by decide +kernel
theorem dX4_lane_93 : decode cX4_lane 93 = .ok (.aload 7, 2) := by decide +kernel
theorem dX4_lane_95 : decode cX4_lane 95 = .ok (.iconst 5, 1) := by decide +kernel
theorem dX4_lane_96 : decode cX4_lane 96 = .ok (.iconst 0, 1) := by decide +kernel
theorem dX4_lane_97 : decode cX4_lane 97 = .ok (.iastore, 1) := by decide +kernel
theorem dX4_lane_98 : decode cX4_lane 98 = .ok (.aload 7, 2) := by decide +kernel
theorem dX4_lane_100 : decode cX4_lane 100 = .ok (.bipush 6, 2) := by decide +kernel
theorem dX4_lane_102 : decode cX4_lane 102 = .ok (.iconst 0, 1) := by decide +kernel
theorem dX4_lane_103 : decode cX4_lane 103 = .ok (.iastore, 1) := by decide +kernel
theorem dX4_lane_104 : decode cX4_lane 104 = .ok (.aload 7, 2) := by decide +kernel
theorem dX4_lane_106 : decode cX4_lane 106 = .ok (.bipush 7, 2) := by decide +kernel
theorem dX4_lane_108 : decode cX4_lane 108 = .ok (.iconst 1, 1) := by decide +kernel
theorem dX4_lane_109 : decode cX4_lane 109 = .ok (.iastore, 1) := by decide +kernel
theorem dX4_lane_110 : decode cX4_lane 110 = .ok (.aload_n 0, 1) := by decide +kernel
theorem dX4_lane_111 : decode cX4_lane 111 = .ok (.getfield 12, 3) := by decide +kernel
theorem dX4_lane_114 : decode cX4_lane 114 = .ok (.iload 6, 2) := by decide +kernel
theorem dX4_lane_116 : decode cX4_lane 116 = .ok (.iconst 1, 1) := by decide +kernel
theorem dX4_lane_117 : decode cX4_lane 117 = .ok (.iadd, 1) := by decide +kernel
theorem dX4_lane_118 : decode cX4_lane 118 = .ok (.putfield 59, 3) := by decide +kernel
theorem dX4_lane_121 : decode cX4_lane 121 = .ok (.iload 6, 2) := by decide +kernel
theorem dX4_lane_123 : decode cX4_lane 123 = .ok (.ireturn, 1) := by decide +kernel
theorem dX4_room_0 : decode cX4_room 0 = .ok (.aload_n 0, 1) := by decide +kernel
theorem dX4_room_1 : decode cX4_room 1 = .ok (.getfield 12, 3) := by decide +kernel
theorem dX4_room_4 : decode cX4_room 4 = .ok (.iload_n 1, 1) := by decide +kernel
theorem dX4_room_5 : decode cX4_room 5 = .ok (.invokevirtual 80, 3) := by decide +kernel
theorem dX4_room_8 : decode cX4_room 8 = .ok (.ifCond .eq 10, 3) := by decide +kernel
theorem dX4_room_11 : decode cX4_room 11 = .ok (.iload_n 2, 1) := by decide +kernel
theorem dX4_room_12 : decode cX4_room 12 = .ok (.invokestatic 69, 3) := by decide +kernel
theorem dX4_room_15 : decode cX4_room 15 = .ok (.ifCond .ne 5, 3) := by decide +kernel
theorem dX4_room_18 : decode cX4_room 18 = .ok (.iconst 0, 1) := by decide +kernel
theorem dX4_room_19 : decode cX4_room 19 = .ok (.ireturn, 1) := by decide +kernel
theorem dX4_room_20 : decode cX4_room 20 = .ok (.aload_n 0, 1) := by decide +kernel
theorem dX4_room_21 : decode cX4_room 21 = .ok (.getfield 12, 3) := by decide +kernel
theorem dX4_room_24 : decode cX4_room 24 = .ok (.getfield 76, 3) := by decide +kernel
theorem dX4_room_27 : decode cX4_room 27 = .ok (.iload_n 1, 1) := by decide +kernel
theorem dX4_room_28 : decode cX4_room 28 = .ok (.aaload, 1) := by decide +kernel
theorem dX4_room_29 : decode cX4_room 29 = .ok (.iconst 2, 1) := by decide +kernel
theorem dX4_room_30 : decode cX4_room 30 = .ok (.iload_n 2, 1) := by decide +kernel
theorem dX4_room_31 : decode cX4_room 31 = .ok (.iastore, 1) := by decide +kernel
theorem dX4_room_32 : decode cX4_room 32 = .ok (.iconst 1, 1) := by decide +kernel
theorem dX4_room_33 : decode cX4_room 33 = .ok (.ireturn, 1) := by decide +kernel
theorem dX4_share_0 : decode cX4_share 0 = .ok (.aload_n 0, 1) := by decide +kernel
theorem dX4_share_1 : decode cX4_share 1 = .ok (.getfield 12, 3) := by decide +kernel
theorem dX4_share_4 : decode cX4_share 4 = .ok (.iload_n 1, 1) := by decide +kernel
theorem dX4_share_5 : decode cX4_share 5 = .ok (.invokevirtual 80, 3) := by decide +kernel
theorem dX4_share_8 : decode cX4_share 8 = .ok (.ifCond .eq 22, 3) := by decide +kernel
theorem dX4_share_11 : decode cX4_share 11 = .ok (.iload_n 2, 1) := by decide +kernel
theorem dX4_share_12 : decode cX4_share 12 = .ok (.iload_n 3, 1) := by decide +kernel
theorem dX4_share_13 : decode cX4_share 13 = .ok (.invokestatic 73, 3) := by decide +kernel
theorem dX4_share_16 : decode cX4_share 16 = .ok (.ifCond .eq 14, 3) := by decide +kernel
theorem dX4_share_19 : decode cX4_share 19 = .ok (.iload 4, 2) := by decide +kernel
theorem dX4_share_21 : decode cX4_share 21 = .ok (.iconst 0, 1) := by decide +kernel
theorem dX4_share_22 : decode cX4_share 22 = .ok (.bipush 8, 2) := by decide +kernel
theorem dX4_share_24 : decode cX4_share 24 = .ok (.invokestatic 51, 3) := by decide +kernel
theorem dX4_share_27 : decode cX4_share 27 = .ok (.ifCond .ne 5, 3) := by decide +kernel
theorem dX4_share_30 : decode cX4_share 30 = .ok (.iconst 0, 1) := by decide +kernel
theorem dX4_share_31 : decode cX4_share 31 = .ok (.ireturn, 1) := by decide +kernel
theorem dX4_share_32 : decode cX4_share 32 = .ok (.aload_n 0, 1) := by decide +kernel
theorem dX4_share_33 : decode cX4_share 33 = .ok (.getfield 12, 3) := by decide +kernel
theorem dX4_share_36 : decode cX4_share 36 = .ok (.getfield 76, 3) := by decide +kernel
theorem dX4_share_39 : decode cX4_share 39 = .ok (.iload_n 1, 1) := by decide +kernel
theorem dX4_share_40 : decode cX4_share 40 = .ok (.aaload, 1) := by decide +kernel
theorem dX4_share_41 : decode cX4_share 41 = .ok (.iconst 3, 1) := by decide +kernel
theorem dX4_share_42 : decode cX4_share 42 = .ok (.iload_n 2, 1) := by decide +kernel
theorem dX4_share_43 : decode cX4_share 43 = .ok (.iastore, 1) := by decide +kernel
theorem dX4_share_44 : decode cX4_share 44 = .ok (.aload_n 0, 1) := by decide +kernel
theorem dX4_share_45 : decode cX4_share 45 = .ok (.getfield 12, 3) := by decide +kernel
theorem dX4_share_48 : decode cX4_share 48 = .ok (.getfield 76, 3) := by decide +kernel
theorem dX4_share_51 : decode cX4_share 51 = .ok (.iload_n 1, 1) := by decide +kernel
theorem dX4_share_52 : decode cX4_share 52 = .ok (.aaload, 1) := by decide +kernel
theorem dX4_share_53 : decode cX4_share 53 = .ok (.iconst 4, 1) := by decide +kernel
theorem dX4_share_54 : decode cX4_share 54 = .ok (.iload_n 3, 1) := by decide +kernel
theorem dX4_share_55 : decode cX4_share 55 = .ok (.iastore, 1) := by decide +kernel
theorem dX4_share_56 : decode cX4_share 56 = .ok (.aload_n 0, 1) := by decide +kernel
theorem dX4_share_57 : decode cX4_share 57 = .ok (.getfield 12, 3) := by decide +kernel
theorem dX4_share_60 : decode cX4_share 60 = .ok (.getfield 76, 3) := by decide +kernel
theorem dX4_share_63 : decode cX4_share 63 = .ok (.iload_n 1, 1) := by decide +kernel
theorem dX4_share_64 : decode cX4_share 64 = .ok (.aaload, 1) := by decide +kernel
theorem dX4_share_65 : decode cX4_share 65 = .ok (.iconst 5, 1) := by decide +kernel
theorem dX4_share_66 : decode cX4_share 66 = .ok (.iload 4, 2) := by decide +kernel
theorem dX4_share_68 : decode cX4_share 68 = .ok (.iastore, 1) := by decide +kernel
theorem dX4_share_69 : decode cX4_share 69 = .ok (.iconst 1, 1) := by decide +kernel
theorem dX4_share_70 : decode cX4_share 70 = .ok (.ireturn, 1) := by decide +kernel
theorem dX4_tell_0 : decode cX4_tell 0 = .ok (.aload_n 0, 1) := by decide +kernel
theorem dX4_tell_1 : decode cX4_tell 1 = .ok (.getfield 12, 3) := by decide +kernel
theorem dX4_tell_4 : decode cX4_tell 4 = .ok (.iload_n 1, 1) := by decide +kernel
theorem dX4_tell_5 : decode cX4_tell 5 = .ok (.invokevirtual 80, 3) := by decide +kernel
theorem dX4_tell_8 : decode cX4_tell 8 = .ok (.ifCond .eq 13, 3) := by decide +kernel
theorem dX4_tell_11 : decode cX4_tell 11 = .ok (.iload_n 2, 1) := by decide +kernel
theorem dX4_tell_12 : decode cX4_tell 12 = .ok (.iconst 0, 1) := by decide +kernel
theorem dX4_tell_13 : decode cX4_tell 13 = .ok (.bipush 7, 2) := by decide +kernel
theorem dX4_tell_15 : decode cX4_tell 15 = .ok (.invokestatic 51, 3) := by decide +kernel
theorem dX4_tell_18 : decode cX4_tell 18 = .ok (.ifCond .ne 5, 3) := by decide +kernel
theorem dX4_tell_21 : decode cX4_tell 21 = .ok (.iconst (-1), 1) := by decide +kernel
theorem dX4_tell_22 : decode cX4_tell 22 = .ok (.ireturn, 1) := by decide +kernel
theorem dX4_tell_23 : decode cX4_tell 23 = .ok (.aload_n 0, 1) := by decide +kernel
theorem dX4_tell_24 : decode cX4_tell 24 = .ok (.getfield 12, 3) := by decide +kernel
theorem dX4_tell_27 : decode cX4_tell 27 = .ok (.getfield 76, 3) := by decide +kernel
theorem dX4_tell_30 : decode cX4_tell 30 = .ok (.iload_n 1, 1) := by decide +kernel
theorem dX4_tell_31 : decode cX4_tell 31 = .ok (.aaload, 1) := by decide +kernel
theorem dX4_tell_32 : decode cX4_tell 32 = .ok (.iload_n 2, 1) := by decide +kernel
theorem dX4_tell_33 : decode cX4_tell 33 = .ok (.iaload, 1) := by decide +kernel
theorem dX4_tell_34 : decode cX4_tell 34 = .ok (.ireturn, 1) := by decide +kernel
theorem dX4_most_0 : decode cX4_most 0 = .ok (.iload_n 1, 1) := by decide +kernel
theorem dX4_most_1 : decode cX4_most 1 = .ok (.iconst 0, 1) := by decide +kernel
theorem dX4_most_2 : decode cX4_most 2 = .ok (.iconst 2, 1) := by decide +kernel
theorem dX4_most_3 : decode cX4_most 3 = .ok (.invokestatic 51, 3) := by decide +kernel
theorem dX4_most_6 : decode cX4_most 6 = .ok (.ifCond .ne 7, 3) := by decide +kernel
theorem dX4_most_9 : decode cX4_most 9 = .ok (.ldc2_w 83, 3) := by decide +kernel
theorem dX4_most_12 : decode cX4_most 12 = .ok (.lreturn, 1) := by decide +kernel
theorem dX4_most_13 : decode cX4_most 13 = .ok (.aload_n 0, 1) := by decide +kernel
theorem dX4_most_14 : decode cX4_most 14 = .ok (.getfield 34, 3) := by decide +kernel
theorem dX4_most_17 : decode cX4_most 17 = .ok (.aload_n 0, 1) := by decide +kernel
theorem dX4_most_18 : decode cX4_most 18 = .ok (.getfield 12, 3) := by decide +kernel
theorem dX4_most_21 : decode cX4_most 21 = .ok (.iload_n 1, 1) := by decide +kernel
theorem dX4_most_22 : decode cX4_most 22 = .ok (.invokevirtual 85, 3) := by decide +kernel
theorem dX4_most_25 : decode cX4_most 25 = .ok (.aload_n 0, 1) := by decide +kernel
theorem dX4_most_26 : decode cX4_most 26 = .ok (.getfield 34, 3) := by decide +kernel
theorem dX4_most_29 : decode cX4_most 29 = .ok (.aload_n 0, 1) := by decide +kernel
theorem dX4_most_30 : decode cX4_most 30 = .ok (.getfield 41, 3) := by decide +kernel
theorem dX4_most_33 : decode cX4_most 33 = .ok (.invokevirtual 89, 3) := by decide +kernel
theorem dX4_most_36 : decode cX4_most 36 = .ok (.aload_n 0, 1) := by decide +kernel
theorem dX4_most_37 : decode cX4_most 37 = .ok (.getfield 41, 3) := by decide +kernel
theorem dX4_most_40 : decode cX4_most 40 = .ok (.iload_n 2, 1) := by decide +kernel
theorem dX4_most_41 : decode cX4_most 41 = .ok (.invokevirtual 93, 3) := by decide +kernel
theorem dX4_most_44 : decode cX4_most 44 = .ok (.lreturn, 1) := by decide +kernel
theorem dX4_more_0 : decode cX4_more 0 = .ok (.aload_n 0, 1) := by decide +kernel
theorem dX4_more_1 : decode cX4_more 1 = .ok (.getfield 12, 3) := by decide +kernel
theorem dX4_more_4 : decode cX4_more 4 = .ok (.iload_n 1, 1) := by decide +kernel
theorem dX4_more_5 : decode cX4_more 5 = .ok (.invokevirtual 80, 3) := by decide +kernel
theorem dX4_more_8 : decode cX4_more 8 = .ok (.ifCond .eq 10, 3) := by decide +kernel
theorem dX4_more_11 : decode cX4_more 11 = .ok (.iload_n 2, 1) := by decide +kernel
theorem dX4_more_12 : decode cX4_more 12 = .ok (.invokestatic 69, 3) := by decide +kernel
theorem dX4_more_15 : decode cX4_more 15 = .ok (.ifCond .ne 5, 3) := by decide +kernel
theorem dX4_more_18 : decode cX4_more 18 = .ok (.lconst 0, 1) := by decide +kernel
theorem dX4_more_19 : decode cX4_more 19 = .ok (.lreturn, 1) := by decide +kernel
theorem dX4_more_20 : decode cX4_more 20 = .ok (.aload_n 0, 1) := by decide +kernel
theorem dX4_more_21 : decode cX4_more 21 = .ok (.getfield 34, 3) := by decide +kernel
theorem dX4_more_24 : decode cX4_more 24 = .ok (.aload_n 0, 1) := by decide +kernel
theorem dX4_more_25 : decode cX4_more 25 = .ok (.getfield 12, 3) := by decide +kernel
theorem dX4_more_28 : decode cX4_more 28 = .ok (.iconst 0, 1) := by decide +kernel
theorem dX4_more_29 : decode cX4_more 29 = .ok (.invokevirtual 85, 3) := by decide +kernel
theorem dX4_more_32 : decode cX4_more 32 = .ok (.aload_n 0, 1) := by decide +kernel
theorem dX4_more_33 : decode cX4_more 33 = .ok (.getfield 34, 3) := by decide +kernel
theorem dX4_more_36 : decode cX4_more 36 = .ok (.aload_n 0, 1) := by decide +kernel
theorem dX4_more_37 : decode cX4_more 37 = .ok (.getfield 45, 3) := by decide +kernel
theorem dX4_more_40 : decode cX4_more 40 = .ok (.invokevirtual 89, 3) := by decide +kernel
theorem dX4_more_43 : decode cX4_more 43 = .ok (.aload_n 0, 1) := by decide +kernel
theorem dX4_more_44 : decode cX4_more 44 = .ok (.getfield 34, 3) := by decide +kernel
theorem dX4_more_47 : decode cX4_more 47 = .ok (.iload_n 1, 1) := by decide +kernel
theorem dX4_more_48 : decode cX4_more 48 = .ok (.iload_n 2, 1) := by decide +kernel
theorem dX4_more_49 : decode cX4_more 49 = .ok (.invokevirtual 97, 3) := by decide +kernel
theorem dX4_more_52 : decode cX4_more 52 = .ok (.aload_n 0, 1) := by decide +kernel
theorem dX4_more_53 : decode cX4_more 53 = .ok (.getfield 34, 3) := by decide +kernel
theorem dX4_more_56 : decode cX4_more 56 = .ok (.aload_n 0, 1) := by decide +kernel
theorem dX4_more_57 : decode cX4_more 57 = .ok (.getfield 48, 3) := by decide +kernel
theorem dX4_more_60 : decode cX4_more 60 = .ok (.invokevirtual 89, 3) := by decide +kernel
theorem dX4_more_63 : decode cX4_more 63 = .ok (.aload_n 0, 1) := by decide +kernel
theorem dX4_more_64 : decode cX4_more 64 = .ok (.getfield 41, 3) := by decide +kernel
theorem dX4_more_67 : decode cX4_more 67 = .ok (.aload_n 0, 1) := by decide +kernel
theorem dX4_more_68 : decode cX4_more 68 = .ok (.getfield 48, 3) := by decide +kernel
theorem dX4_more_71 : decode cX4_more 71 = .ok (.aload_n 0, 1) := by decide +kernel
theorem dX4_more_72 : decode cX4_more 72 = .ok (.getfield 45, 3) := by decide +kernel
theorem dX4_more_75 : decode cX4_more 75 = .ok (.invokevirtual 101, 3) := by decide +kernel
theorem dX4_more_78 : decode cX4_more 78 = .ok (.aload_n 0, 1) := by decide +kernel
theorem dX4_more_79 : decode cX4_more 79 = .ok (.getfield 41, 3) := by decide +kernel
theorem dX4_more_82 : decode cX4_more 82 = .ok (.iload_n 3, 1) := by decide +kernel
theorem dX4_more_83 : decode cX4_more 83 = .ok (.invokevirtual 93, 3) := by decide +kernel
theorem dX4_more_86 : decode cX4_more 86 = .ok (.lreturn, 1) := by decide +kernel
theorem dX4_way_0 : decode cX4_way 0 = .ok (.aload_n 0, 1) := by decide +kernel
theorem dX4_way_1 : decode cX4_way 1 = .ok (.getfield 12, 3) := by decide +kernel
theorem dX4_way_4 : decode cX4_way 4 = .ok (.invokevirtual 62, 3) := by decide +kernel
theorem dX4_way_7 : decode cX4_way 7 = .ok (.aload_n 0, 1) := by decide +kernel
theorem dX4_way_8 : decode cX4_way 8 = .ok (.getfield 12, 3) := by decide +kernel
theorem dX4_way_11 : decode cX4_way 11 = .ok (.iload_n 1, 1) := by decide +kernel
theorem dX4_way_12 : decode cX4_way 12 = .ok (.invokevirtual 105, 3) := by decide +kernel
theorem dX4_way_15 : decode cX4_way 15 = .ok (.ifCond .eq 19, 3) := by decide +kernel
theorem dX4_way_18 : decode cX4_way 18 = .ok (.aload_n 0, 1) := by decide +kernel
theorem dX4_way_19 : decode cX4_way 19 = .ok (.getfield 12, 3) := by decide +kernel
theorem dX4_way_22 : decode cX4_way 22 = .ok (.iload_n 2, 1) := by decide +kernel
theorem dX4_way_23 : decode cX4_way 23 = .ok (.invokevirtual 105, 3) := by decide +kernel
theorem dX4_way_26 : decode cX4_way 26 = .ok (.ifCond .eq 8, 3) := by decide +kernel
theorem dX4_way_29 : decode cX4_way 29 = .ok (.iload_n 1, 1) := by decide +kernel
theorem dX4_way_30 : decode cX4_way 30 = .ok (.iload_n 2, 1) := by decide +kernel
theorem dX4_way_31 : decode cX4_way 31 = .ok (.if_icmp .ne 5, 3) := by decide +kernel
theorem dX4_way_34 : decode cX4_way 34 = .ok (.iconst (-1), 1) := by decide +kernel
theorem dX4_way_35 : decode cX4_way 35 = .ok (.ireturn, 1) := by decide +kernel
theorem dX4_way_36 : decode cX4_way 36 = .ok (.aload_n 0, 1) := by decide +kernel
theorem dX4_way_37 : decode cX4_way 37 = .ok (.getfield 27, 3) := by decide +kernel
theorem dX4_way_40 : decode cX4_way 40 = .ok (.aload_n 0, 1) := by decide +kernel
theorem dX4_way_41 : decode cX4_way 41 = .ok (.getfield 12, 3) := by decide +kernel
theorem dX4_way_44 : decode cX4_way 44 = .ok (.iload_n 1, 1) := by decide +kernel
theorem dX4_way_45 : decode cX4_way 45 = .ok (.iload_n 2, 1) := by decide +kernel
theorem dX4_way_46 : decode cX4_way 46 = .ok (.invokevirtual 108, 3) := by decide +kernel
theorem dX4_way_49 : decode cX4_way 49 = .ok (.aload_n 0, 1) := by decide +kernel
theorem dX4_way_50 : decode cX4_way 50 = .ok (.invokevirtual 112, 3) := by decide +kernel
theorem dX4_way_53 : decode cX4_way 53 = .ok (.ireturn, 1) := by decide +kernel
theorem dX4_ring_0 : decode cX4_ring 0 = .ok (.aload_n 0, 1) := by decide +kernel
theorem dX4_ring_1 : decode cX4_ring 1 = .ok (.getfield 12, 3) := by decide +kernel
theorem dX4_ring_4 : decode cX4_ring 4 = .ok (.invokevirtual 62, 3) := by decide +kernel
theorem dX4_ring_7 : decode cX4_ring 7 = .ok (.aload_n 0, 1) := by decide +kernel
theorem dX4_ring_8 : decode cX4_ring 8 = .ok (.getfield 27, 3) := by decide +kernel
theorem dX4_ring_11 : decode cX4_ring 11 = .ok (.aload_n 0, 1) := by decide +kernel
theorem dX4_ring_12 : decode cX4_ring 12 = .ok (.getfield 12, 3) := by decide +kernel
theorem dX4_ring_15 : decode cX4_ring 15 = .ok (.invokevirtual 116, 3) := by decide +kernel
theorem dX4_ring_18 : decode cX4_ring 18 = .ok (.aload_n 0, 1) := by decide +kernel
theorem dX4_ring_19 : decode cX4_ring 19 = .ok (.invokevirtual 112, 3) := by decide +kernel
theorem dX4_ring_22 : decode cX4_ring 22 = .ok (.ireturn, 1) := by decide +kernel
theorem dX4_row_0 : decode cX4_row 0 = .ok (.iload_n 1, 1) := by decide +kernel
theorem dX4_row_1 : decode cX4_row 1 = .ok (.iconst 0, 1) := by decide +kernel
theorem dX4_row_2 : decode cX4_row 2 = .ok (.aload_n 0, 1) := by decide +kernel
theorem dX4_row_3 : decode cX4_row 3 = .ok (.getfield 12, 3) := by decide +kernel
theorem dX4_row_6 : decode cX4_row 6 = .ok (.getfield 120, 3) := by decide +kernel
theorem dX4_row_9 : decode cX4_row 9 = .ok (.iconst 1, 1) := by decide +kernel
theorem dX4_row_10 : decode cX4_row 10 = .ok (.isub, 1) := by decide +kernel
theorem dX4_row_11 : decode cX4_row 11 = .ok (.invokestatic 51, 3) := by decide +kernel
theorem dX4_row_14 : decode cX4_row 14 = .ok (.ifCond .eq 15, 3) := by decide +kernel
theorem dX4_row_17 : decode cX4_row 17 = .ok (.aload_n 0, 1) := by decide +kernel
theorem dX4_row_18 : decode cX4_row 18 = .ok (.getfield 12, 3) := by decide +kernel
theorem dX4_row_21 : decode cX4_row 21 = .ok (.getfield 123, 3) := by decide +kernel
theorem dX4_row_24 : decode cX4_row 24 = .ok (.iload_n 1, 1) := by decide +kernel
theorem dX4_row_25 : decode cX4_row 25 = .ok (.iaload, 1) := by decide +kernel
theorem dX4_row_26 : decode cX4_row 26 = .ok (.goto 4, 3) := by decide +kernel
theorem dX4_row_29 : decode cX4_row 29 = .ok (.iconst (-1), 1) := by decide +kernel
theorem dX4_row_30 : decode cX4_row 30 = .ok (.ireturn, 1) := by decide +kernel
theorem dX4_gain_0 : decode cX4_gain 0 = .ok (.aload_n 0, 1) := by decide +kernel
theorem dX4_gain_1 : decode cX4_gain 1 = .ok (.getfield 12, 3) := by decide +kernel
theorem dX4_gain_4 : decode cX4_gain 4 = .ok (.getfield 120, 3) := by decide +kernel
theorem dX4_gain_7 : decode cX4_gain 7 = .ok (.ifCond .ne 5, 3) := by decide +kernel
theorem dX4_gain_10 : decode cX4_gain 10 = .ok (.lconst 0, 1) := by decide +kernel
theorem dX4_gain_11 : decode cX4_gain 11 = .ok (.lreturn, 1) := by decide +kernel
theorem dX4_gain_12 : decode cX4_gain 12 = .ok (.aload_n 0, 1) := by decide +kernel
theorem dX4_gain_13 : decode cX4_gain 13 = .ok (.getfield 12, 3) := by decide +kernel
theorem dX4_gain_16 : decode cX4_gain 16 = .ok (.aload_n 0, 1) := by decide +kernel
theorem dX4_gain_17 : decode cX4_gain 17 = .ok (.getfield 12, 3) := by decide +kernel
theorem dX4_gain_20 : decode cX4_gain 20 = .ok (.getfield 123, 3) := by decide +kernel
theorem dX4_gain_23 : decode cX4_gain 23 = .ok (.aload_n 0, 1) := by decide +kernel
theorem dX4_gain_24 : decode cX4_gain 24 = .ok (.getfield 12, 3) := by decide +kernel
theorem dX4_gain_27 : decode cX4_gain 27 = .ok (.getfield 120, 3) := by decide +kernel
theorem dX4_gain_30 : decode cX4_gain 30 = .ok (.aload_n 0, 1) := by decide +kernel
theorem dX4_gain_31 : decode cX4_gain 31 = .ok (.getfield 41, 3) := by decide +kernel
theorem dX4_gain_34 : decode cX4_gain 34 = .ok (.invokevirtual 127, 3) := by decide +kernel
theorem dX4_gain_37 : decode cX4_gain 37 = .ok (.aload_n 0, 1) := by decide +kernel
theorem dX4_gain_38 : decode cX4_gain 38 = .ok (.getfield 41, 3) := by decide +kernel
theorem dX4_gain_41 : decode cX4_gain 41 = .ok (.iload_n 1, 1) := by decide +kernel
theorem dX4_gain_42 : decode cX4_gain 42 = .ok (.invokevirtual 93, 3) := by decide +kernel
theorem dX4_gain_45 : decode cX4_gain 45 = .ok (.lreturn, 1) := by decide +kernel
theorem dX4_send_0 : decode cX4_send 0 = .ok (.aload_n 0, 1) := by decide +kernel
theorem dX4_send_1 : decode cX4_send 1 = .ok (.getfield 12, 3) := by decide +kernel
theorem dX4_send_4 : decode cX4_send 4 = .ok (.iload_n 1, 1) := by decide +kernel
theorem dX4_send_5 : decode cX4_send 5 = .ok (.invokevirtual 80, 3) := by decide +kernel
theorem dX4_send_8 : decode cX4_send 8 = .ok (.ifCond .ne 5, 3) := by decide +kernel
theorem dX4_send_11 : decode cX4_send 11 = .ok (.iconst 0, 1) := by decide +kernel
theorem dX4_send_12 : decode cX4_send 12 = .ok (.ireturn, 1) := by decide +kernel
theorem dX4_send_13 : decode cX4_send 13 = .ok (.iload_n 2, 1) := by decide +kernel
theorem dX4_send_14 : decode cX4_send 14 = .ok (.iconst 0, 1) := by decide +kernel
theorem dX4_send_15 : decode cX4_send 15 = .ok (.sipush 1000, 3) := by decide +kernel
theorem dX4_send_18 : decode cX4_send 18 = .ok (.invokestatic 51, 3) := by decide +kernel
theorem dX4_send_21 : decode cX4_send 21 = .ok (.ifCond .eq 13, 3) := by decide +kernel
theorem dX4_send_24 : decode cX4_send 24 = .ok (.iload_n 3, 1) := by decide +kernel
theorem dX4_send_25 : decode cX4_send 25 = .ok (.iconst 1, 1) := by decide +kernel
theorem dX4_send_26 : decode cX4_send 26 = .ok (.bipush 9, 2) := by decide +kernel
theorem dX4_send_28 : decode cX4_send 28 = .ok (.invokestatic 51, 3) := by decide +kernel
theorem dX4_send_31 : decode cX4_send 31 = .ok (.ifCond .ne 5, 3) := by decide +kernel
theorem dX4_send_34 : decode cX4_send 34 = .ok (.iconst 0, 1) := by decide +kernel
theorem dX4_send_35 : decode cX4_send 35 = .ok (.ireturn, 1) := by decide +kernel
theorem dX4_send_36 : decode cX4_send 36 = .ok (.aload_n 0, 1) := by decide +kernel
theorem dX4_send_37 : decode cX4_send 37 = .ok (.getfield 41, 3) := by decide +kernel
theorem dX4_send_40 : decode cX4_send 40 = .ok (.iload_n 2, 1) := by decide +kernel
theorem dX4_send_41 : decode cX4_send 41 = .ok (.i2l, 1) := by decide +kernel
theorem dX4_send_42 : decode cX4_send 42 = .ok (.iload_n 3, 1) := by decide +kernel
theorem dX4_send_43 : decode cX4_send 43 = .ok (.i2l, 1) := by decide +kernel
theorem dX4_send_44 : decode cX4_send 44 = .ok (.invokevirtual 131, 3) := by decide +kernel
theorem dX4_send_47 : decode cX4_send 47 = .ok (.aload_n 0, 1) := by decide +kernel
theorem dX4_send_48 : decode cX4_send 48 = .ok (.getfield 12, 3) := by decide +kernel
theorem dX4_send_51 : decode cX4_send 51 = .ok (.getfield 76, 3) := by decide +kernel
theorem dX4_send_54 : decode cX4_send 54 = .ok (.iload_n 1, 1) := by decide +kernel
theorem dX4_send_55 : decode cX4_send 55 = .ok (.aaload, 1) := by decide +kernel
theorem dX4_send_56 : decode cX4_send 56 = .ok (.bipush 6, 2) := by decide +kernel
theorem dX4_send_58 : decode cX4_send 58 = .ok (.aload_n 0, 1) := by decide +kernel
theorem dX4_send_59 : decode cX4_send 59 = .ok (.getfield 41, 3) := by decide +kernel
theorem dX4_send_62 : decode cX4_send 62 = .ok (.iconst 0, 1) := by decide +kernel
theorem dX4_send_63 : decode cX4_send 63 = .ok (.invokevirtual 93, 3) := by decide +kernel
theorem dX4_send_66 : decode cX4_send 66 = .ok (.l2i, 1) := by decide +kernel
theorem dX4_send_67 : decode cX4_send 67 = .ok (.iastore, 1) := by decide +kernel
theorem dX4_send_68 : decode cX4_send 68 = .ok (.aload_n 0, 1) := by decide +kernel
theorem dX4_send_69 : decode cX4_send 69 = .ok (.getfield 12, 3) := by decide +kernel
theorem dX4_send_72 : decode cX4_send 72 = .ok (.getfield 76, 3) := by decide +kernel
theorem dX4_send_75 : decode cX4_send 75 = .ok (.iload_n 1, 1) := by decide +kernel
theorem dX4_send_76 : decode cX4_send 76 = .ok (.aaload, 1) := by decide +kernel
theorem dX4_send_77 : decode cX4_send 77 = .ok (.bipush 7, 2) := by decide +kernel
theorem dX4_send_79 : decode cX4_send 79 = .ok (.aload_n 0, 1) := by decide +kernel
theorem dX4_send_80 : decode cX4_send 80 = .ok (.getfield 41, 3) := by decide +kernel
theorem dX4_send_83 : decode cX4_send 83 = .ok (.iconst 1, 1) := by decide +kernel
theorem dX4_send_84 : decode cX4_send 84 = .ok (.invokevirtual 93, 3) := by decide +kernel
theorem dX4_send_87 : decode cX4_send 87 = .ok (.l2i, 1) := by decide +kernel
theorem dX4_send_88 : decode cX4_send 88 = .ok (.iastore, 1) := by decide +kernel
theorem dX4_send_89 : decode cX4_send 89 = .ok (.iconst 1, 1) := by decide +kernel
theorem dX4_send_90 : decode cX4_send 90 = .ok (.ireturn, 1) := by decide +kernel
theorem dX4_right_0 : decode cX4_right 0 = .ok (.iconst 0, 1) := by decide +kernel
theorem dX4_right_1 : decode cX4_right 1 = .ok (.istore_n 1, 1) := by decide +kernel
theorem dX4_right_2 : decode cX4_right 2 = .ok (.iload_n 1, 1) := by decide +kernel
theorem dX4_right_3 : decode cX4_right 3 = .ok (.aload_n 0, 1) := by decide +kernel
theorem dX4_right_4 : decode cX4_right 4 = .ok (.getfield 12, 3) := by decide +kernel
theorem dX4_right_7 : decode cX4_right 7 = .ok (.getfield 59, 3) := by decide +kernel
theorem dX4_right_10 : decode cX4_right 10 = .ok (.if_icmp .ge 36, 3) := by decide +kernel
theorem dX4_right_13 : decode cX4_right 13 = .ok (.aload_n 0, 1) := by decide +kernel
theorem dX4_right_14 : decode cX4_right 14 = .ok (.getfield 12, 3) := by decide +kernel
theorem dX4_right_17 : decode cX4_right 17 = .ok (.getfield 76, 3) := by decide +kernel
theorem dX4_right_20 : decode cX4_right 20 = .ok (.iload_n 1, 1) := by decide +kernel
theorem dX4_right_21 : decode cX4_right 21 = .ok (.aaload, 1) := by decide +kernel
theorem dX4_right_22 : decode cX4_right 22 = .ok (.astore_n 2, 1) := by decide +kernel
theorem dX4_right_23 : decode cX4_right 23 = .ok (.aload_n 2, 1) := by decide +kernel
theorem dX4_right_24 : decode cX4_right 24 = .ok (.bipush 6, 2) := by decide +kernel
theorem dX4_right_26 : decode cX4_right 26 = .ok (.iaload, 1) := by decide +kernel
theorem dX4_right_27 : decode cX4_right 27 = .ok (.aload_n 2, 1) := by decide +kernel
theorem dX4_right_28 : decode cX4_right 28 = .ok (.iconst 2, 1) := by decide +kernel
theorem dX4_right_29 : decode cX4_right 29 = .ok (.iaload, 1) := by decide +kernel
theorem dX4_right_30 : decode cX4_right 30 = .ok (.aload_n 2, 1) := by decide +kernel
theorem dX4_right_31 : decode cX4_right 31 = .ok (.bipush 7, 2) := by decide +kernel
theorem dX4_right_33 : decode cX4_right 33 = .ok (.iaload, 1) := by decide +kernel
theorem dX4_right_34 : decode cX4_right 34 = .ok (.imul, 1) := by decide +kernel
theorem dX4_right_35 : decode cX4_right 35 = .ok (.if_icmp .le 5, 3) := by decide +kernel
theorem dX4_right_38 : decode cX4_right 38 = .ok (.iconst 0, 1) := by decide +kernel
theorem dX4_right_39 : decode cX4_right 39 = .ok (.ireturn, 1) := by decide +kernel
theorem dX4_right_40 : decode cX4_right 40 = .ok (.iinc 1 1, 3) := by decide +kernel
theorem dX4_right_43 : decode cX4_right 43 = .ok (.goto (-41), 3) := by decide +kernel
theorem dX4_right_46 : decode cX4_right 46 = .ok (.iconst 1, 1) := by decide +kernel
theorem dX4_right_47 : decode cX4_right 47 = .ok (.istore_n 1, 1) := by decide +kernel
theorem dX4_right_48 : decode cX4_right 48 = .ok (.iload_n 1, 1) := by decide +kernel
theorem dX4_right_49 : decode cX4_right 49 = .ok (.aload_n 0, 1) := by decide +kernel
theorem dX4_right_50 : decode cX4_right 50 = .ok (.getfield 12, 3) := by decide +kernel
theorem dX4_right_53 : decode cX4_right 53 = .ok (.invokevirtual 135, 3) := by decide +kernel
theorem dX4_right_56 : decode cX4_right 56 = .ok (.if_icmp .ge 24, 3) := by decide +kernel
theorem dX4_right_59 : decode cX4_right 59 = .ok (.aload_n 0, 1) := by decide +kernel
theorem dX4_right_60 : decode cX4_right 60 = .ok (.getfield 12, 3) := by decide +kernel
theorem dX4_right_63 : decode cX4_right 63 = .ok (.iload_n 1, 1) := by decide +kernel
theorem dX4_right_64 : decode cX4_right 64 = .ok (.invokevirtual 138, 3) := by decide +kernel
theorem dX4_right_67 : decode cX4_right 67 = .ok (.lconst 0, 1) := by decide +kernel
theorem dX4_right_68 : decode cX4_right 68 = .ok (.lcmp, 1) := by decide +kernel
theorem dX4_right_69 : decode cX4_right 69 = .ok (.ifCond .ge 5, 3) := by decide +kernel
theorem dX4_right_72 : decode cX4_right 72 = .ok (.iconst 0, 1) := by decide +kernel
theorem dX4_right_73 : decode cX4_right 73 = .ok (.ireturn, 1) := by decide +kernel
theorem dX4_right_74 : decode cX4_right 74 = .ok (.iinc 1 1, 3) := by decide +kernel
theorem dX4_right_77 : decode cX4_right 77 = .ok (.goto (-29), 3) := by decide +kernel
theorem dX4_right_80 : decode cX4_right 80 = .ok (.iconst 1, 1) := by decide +kernel
theorem dX4_right_81 : decode cX4_right 81 = .ok (.ireturn, 1) := by decide +kernel
theorem dX4_left_0 : decode cX4_left 0 = .ok (.aload_n 0, 1) := by decide +kernel
theorem dX4_left_1 : decode cX4_left 1 = .ok (.getfield 12, 3) := by decide +kernel
theorem dX4_left_4 : decode cX4_left 4 = .ok (.iload_n 1, 1) := by decide +kernel
theorem dX4_left_5 : decode cX4_left 5 = .ok (.invokevirtual 105, 3) := by decide +kernel
theorem dX4_left_8 : decode cX4_left 8 = .ok (.ifCond .ne 5, 3) := by decide +kernel
theorem dX4_left_11 : decode cX4_left 11 = .ok (.lconst 0, 1) := by decide +kernel
theorem dX4_left_12 : decode cX4_left 12 = .ok (.lreturn, 1) := by decide +kernel
theorem dX4_left_13 : decode cX4_left 13 = .ok (.aload_n 0, 1) := by decide +kernel
theorem dX4_left_14 : decode cX4_left 14 = .ok (.getfield 12, 3) := by decide +kernel
theorem dX4_left_17 : decode cX4_left 17 = .ok (.iload_n 1, 1) := by decide +kernel
theorem dX4_left_18 : decode cX4_left 18 = .ok (.invokevirtual 138, 3) := by decide +kernel
theorem dX4_left_21 : decode cX4_left 21 = .ok (.lstore_n 3, 1) := by decide +kernel
theorem dX4_left_22 : decode cX4_left 22 = .ok (.aload_n 0, 1) := by decide +kernel
theorem dX4_left_23 : decode cX4_left 23 = .ok (.getfield 41, 3) := by decide +kernel
theorem dX4_left_26 : decode cX4_left 26 = .ok (.iload_n 1, 1) := by decide +kernel
theorem dX4_left_27 : decode cX4_left 27 = .ok (.ifCond .ne 8, 3) := by decide +kernel
theorem dX4_left_30 : decode cX4_left 30 = .ok (.lload_n 3, 1) := by decide +kernel
theorem dX4_left_31 : decode cX4_left 31 = .ok (.lneg, 1) := by decide +kernel
theorem dX4_left_32 : decode cX4_left 32 = .ok (.goto 4, 3) := by decide +kernel
theorem dX4_left_35 : decode cX4_left 35 = .ok (.lload_n 3, 1) := by decide +kernel
theorem dX4_left_36 : decode cX4_left 36 = .ok (.ldc2_w 142, 3) := by decide +kernel
theorem dX4_left_39 : decode cX4_left 39 = .ok (.invokevirtual 131, 3) := by decide +kernel
theorem dX4_left_42 : decode cX4_left 42 = .ok (.aload_n 0, 1) := by decide +kernel
theorem dX4_left_43 : decode cX4_left 43 = .ok (.getfield 41, 3) := by decide +kernel
theorem dX4_left_46 : decode cX4_left 46 = .ok (.iload_n 2, 1) := by decide +kernel
theorem dX4_left_47 : decode cX4_left 47 = .ok (.invokevirtual 93, 3) := by decide +kernel
theorem dX4_left_50 : decode cX4_left 50 = .ok (.lreturn, 1) := by decide +kernel
theorem dX4_count_0 : decode cX4_count 0 = .ok (.iload_n 1, 1) := by decide +kernel
theorem dX4_count_1 : decode cX4_count 1 = .ok (.tableswitch 97 0 4 #[35, 43, 51, 70, 89], 35) := by decide +kernel
theorem dX4_count_36 : decode cX4_count 36 = .ok (.aload_n 0, 1) := by decide +kernel
theorem dX4_count_37 : decode cX4_count 37 = .ok (.getfield 12, 3) := by decide +kernel
theorem dX4_count_40 : decode cX4_count 40 = .ok (.getfield 55, 3) := by decide +kernel
theorem dX4_count_43 : decode cX4_count 43 = .ok (.ireturn, 1) := by decide +kernel
theorem dX4_count_44 : decode cX4_count 44 = .ok (.aload_n 0, 1) := by decide +kernel
theorem dX4_count_45 : decode cX4_count 45 = .ok (.getfield 12, 3) := by decide +kernel
theorem dX4_count_48 : decode cX4_count 48 = .ok (.getfield 59, 3) := by decide +kernel
theorem dX4_count_51 : decode cX4_count 51 = .ok (.ireturn, 1) := by decide +kernel
theorem dX4_count_52 : decode cX4_count 52 = .ok (.aload_n 0, 1) := by decide +kernel
theorem dX4_count_53 : decode cX4_count 53 = .ok (.getfield 27, 3) := by decide +kernel
theorem dX4_count_56 : decode cX4_count 56 = .ok (.aload_n 0, 1) := by decide +kernel
theorem dX4_count_57 : decode cX4_count 57 = .ok (.getfield 12, 3) := by decide +kernel
theorem dX4_count_60 : decode cX4_count 60 = .ok (.invokevirtual 116, 3) := by decide +kernel
theorem dX4_count_63 : decode cX4_count 63 = .ok (.aload_n 0, 1) := by decide +kernel
theorem dX4_count_64 : decode cX4_count 64 = .ok (.getfield 27, 3) := by decide +kernel
theorem dX4_count_67 : decode cX4_count 67 = .ok (.getfield 144, 3) := by decide +kernel
theorem dX4_count_70 : decode cX4_count 70 = .ok (.ireturn, 1) := by decide +kernel
theorem dX4_count_71 : decode cX4_count 71 = .ok (.aload_n 0, 1) := by decide +kernel
theorem dX4_count_72 : decode cX4_count 72 = .ok (.getfield 27, 3) := by decide +kernel
theorem dX4_count_75 : decode cX4_count 75 = .ok (.aload_n 0, 1) := by decide +kernel
theorem dX4_count_76 : decode cX4_count 76 = .ok (.getfield 12, 3) := by decide +kernel
theorem dX4_count_79 : decode cX4_count 79 = .ok (.invokevirtual 116, 3) := by decide +kernel
theorem dX4_count_82 : decode cX4_count 82 = .ok (.aload_n 0, 1) := by decide +kernel
theorem dX4_count_83 : decode cX4_count 83 = .ok (.getfield 27, 3) := by decide +kernel
theorem dX4_count_86 : decode cX4_count 86 = .ok (.getfield 147, 3) := by decide +kernel
theorem dX4_count_89 : decode cX4_count 89 = .ok (.ireturn, 1) := by decide +kernel
theorem dX4_count_90 : decode cX4_count 90 = .ok (.aload_n 0, 1) := by decide +kernel
theorem dX4_count_91 : decode cX4_count 91 = .ok (.getfield 12, 3) := by decide +kernel
theorem dX4_count_94 : decode cX4_count 94 = .ok (.getfield 120, 3) := by decide +kernel
theorem dX4_count_97 : decode cX4_count 97 = .ok (.ireturn, 1) := by decide +kernel
theorem dX4_count_98 : decode cX4_count 98 = .ok (.iconst (-1), 1) := by decide +kernel
theorem dX4_count_99 : decode cX4_count 99 = .ok (.ireturn, 1) := by decide +kernel
theorem dX4_image_0 : decode cX4_image 0 = .ok (.iload_n 1, 1) := by decide +kernel
theorem dX4_image_1 : decode cX4_image 1 = .ok (.iconst 0, 1) := by decide +kernel
theorem dX4_image_2 : decode cX4_image 2 = .ok (.iconst 2, 1) := by decide +kernel
theorem dX4_image_3 : decode cX4_image 3 = .ok (.invokestatic 51, 3) := by decide +kernel
theorem dX4_image_6 : decode cX4_image 6 = .ok (.ifCond .ne 5, 3) := by decide +kernel
theorem dX4_image_9 : decode cX4_image 9 = .ok (.iconst 0, 1) := by decide +kernel
theorem dX4_image_10 : decode cX4_image 10 = .ok (.ireturn, 1) := by decide +kernel
theorem dX4_image_11 : decode cX4_image 11 = .ok (.aload_n 0, 1) := by decide +kernel
theorem dX4_image_12 : decode cX4_image 12 = .ok (.getfield 16, 3) := by decide +kernel
theorem dX4_image_15 : decode cX4_image 15 = .ok (.iload_n 1, 1) := by decide +kernel
theorem dX4_image_16 : decode cX4_image 16 = .ok (.aaload, 1) := by decide +kernel
theorem dX4_image_17 : decode cX4_image 17 = .ok (.aload_n 0, 1) := by decide +kernel
theorem dX4_image_18 : decode cX4_image 18 = .ok (.getfield 12, 3) := by decide +kernel
theorem dX4_image_21 : decode cX4_image 21 = .ok (.invokevirtual 150, 3) := by decide +kernel
theorem dX4_image_24 : decode cX4_image 24 = .ok (.aload_n 0, 1) := by decide +kernel
theorem dX4_image_25 : decode cX4_image 25 = .ok (.getfield 20, 3) := by decide +kernel
theorem dX4_image_28 : decode cX4_image 28 = .ok (.iload_n 1, 1) := by decide +kernel
theorem dX4_image_29 : decode cX4_image 29 = .ok (.iconst 1, 1) := by decide +kernel
theorem dX4_image_30 : decode cX4_image 30 = .ok (.bastore, 1) := by decide +kernel
theorem dX4_image_31 : decode cX4_image 31 = .ok (.iconst 1, 1) := by decide +kernel
theorem dX4_image_32 : decode cX4_image 32 = .ok (.ireturn, 1) := by decide +kernel
theorem dX4_again_0 : decode cX4_again 0 = .ok (.iload_n 1, 1) := by decide +kernel
theorem dX4_again_1 : decode cX4_again 1 = .ok (.iconst 0, 1) := by decide +kernel
theorem dX4_again_2 : decode cX4_again 2 = .ok (.iconst 2, 1) := by decide +kernel
theorem dX4_again_3 : decode cX4_again 3 = .ok (.invokestatic 51, 3) := by decide +kernel
theorem dX4_again_6 : decode cX4_again 6 = .ok (.ifCond .eq 12, 3) := by decide +kernel
theorem dX4_again_9 : decode cX4_again 9 = .ok (.aload_n 0, 1) := by decide +kernel
theorem dX4_again_10 : decode cX4_again 10 = .ok (.getfield 20, 3) := by decide +kernel
theorem dX4_again_13 : decode cX4_again 13 = .ok (.iload_n 1, 1) := by decide +kernel
theorem dX4_again_14 : decode cX4_again 14 = .ok (.baload, 1) := by decide +kernel
theorem dX4_again_15 : decode cX4_again 15 = .ok (.ifCond .ne 5, 3) := by decide +kernel
theorem dX4_again_18 : decode cX4_again 18 = .ok (.iconst 0, 1) := by decide +kernel
theorem dX4_again_19 : decode cX4_again 19 = .ok (.ireturn, 1) := by decide +kernel
theorem dX4_again_20 : decode cX4_again 20 = .ok (.aload_n 0, 1) := by decide +kernel
theorem dX4_again_21 : decode cX4_again 21 = .ok (.getfield 12, 3) := by decide +kernel
theorem dX4_again_24 : decode cX4_again 24 = .ok (.aload_n 0, 1) := by decide +kernel
theorem dX4_again_25 : decode cX4_again 25 = .ok (.getfield 16, 3) := by decide +kernel
theorem dX4_again_28 : decode cX4_again 28 = .ok (.iload_n 1, 1) := by decide +kernel
theorem dX4_again_29 : decode cX4_again 29 = .ok (.aaload, 1) := by decide +kernel
theorem dX4_again_30 : decode cX4_again 30 = .ok (.invokevirtual 150, 3) := by decide +kernel
theorem dX4_again_33 : decode cX4_again 33 = .ok (.iconst 1, 1) := by decide +kernel
theorem dX4_again_34 : decode cX4_again 34 = .ok (.ireturn, 1) := by decide +kernel
theorem dX4_takeBestRow_0 : decode cX4_takeBestRow 0 = .ok (.aload_n 0, 1) := by decide +kernel
theorem dX4_takeBestRow_1 : decode cX4_takeBestRow 1 = .ok (.getfield 27, 3) := by decide +kernel
theorem dX4_takeBestRow_4 : decode cX4_takeBestRow 4 = .ok (.getfield 153, 3) := by decide +kernel
theorem dX4_takeBestRow_7 : decode cX4_takeBestRow 7 = .ok (.ifCond .ne 5, 3) := by decide +kernel
theorem dX4_takeBestRow_10 : decode cX4_takeBestRow 10 = .ok (.iconst (-1), 1) := by decide +kernel
theorem dX4_takeBestRow_11 : decode cX4_takeBestRow 11 = .ok (.ireturn, 1) := by decide +kernel
theorem dX4_takeBestRow_12 : decode cX4_takeBestRow 12 = .ok (.aload_n 0, 1) := by decide +kernel
theorem dX4_takeBestRow_13 : decode cX4_takeBestRow 13 = .ok (.getfield 12, 3) := by decide +kernel
theorem dX4_takeBestRow_16 : decode cX4_takeBestRow 16 = .ok (.aload_n 0, 1) := by decide +kernel
theorem dX4_takeBestRow_17 : decode cX4_takeBestRow 17 = .ok (.getfield 27, 3) := by decide +kernel
theorem dX4_takeBestRow_20 : decode cX4_takeBestRow 20 = .ok (.getfield 156, 3) := by decide +kernel
theorem dX4_takeBestRow_23 : decode cX4_takeBestRow 23 = .ok (.aload_n 0, 1) := by decide +kernel
theorem dX4_takeBestRow_24 : decode cX4_takeBestRow 24 = .ok (.getfield 27, 3) := by decide +kernel
theorem dX4_takeBestRow_27 : decode cX4_takeBestRow 27 = .ok (.getfield 153, 3) := by decide +kernel
theorem dX4_takeBestRow_30 : decode cX4_takeBestRow 30 = .ok (.invokevirtual 159, 3) := by decide +kernel
theorem dX4_takeBestRow_33 : decode cX4_takeBestRow 33 = .ok (.aload_n 0, 1) := by decide +kernel
theorem dX4_takeBestRow_34 : decode cX4_takeBestRow 34 = .ok (.getfield 27, 3) := by decide +kernel
theorem dX4_takeBestRow_37 : decode cX4_takeBestRow 37 = .ok (.getfield 153, 3) := by decide +kernel
theorem dX4_takeBestRow_40 : decode cX4_takeBestRow 40 = .ok (.ireturn, 1) := by decide +kernel
theorem dX4_within_0 : decode cX4_within 0 = .ok (.iload_n 0, 1) := by decide +kernel
theorem dX4_within_1 : decode cX4_within 1 = .ok (.iload_n 1, 1) := by decide +kernel
theorem dX4_within_2 : decode cX4_within 2 = .ok (.if_icmp .lt 12, 3) := by decide +kernel
theorem dX4_within_5 : decode cX4_within 5 = .ok (.iload_n 0, 1) := by decide +kernel
theorem dX4_within_6 : decode cX4_within 6 = .ok (.iload_n 2, 1) := by decide +kernel
theorem dX4_within_7 : decode cX4_within 7 = .ok (.if_icmp .gt 7, 3) := by decide +kernel
theorem dX4_within_10 : decode cX4_within 10 = .ok (.iconst 1, 1) := by decide +kernel
theorem dX4_within_11 : decode cX4_within 11 = .ok (.goto 4, 3) := by decide +kernel
theorem dX4_within_14 : decode cX4_within 14 = .ok (.iconst 0, 1) := by decide +kernel
theorem dX4_within_15 : decode cX4_within 15 = .ok (.ireturn, 1) := by decide +kernel
theorem dX4_isRoom_0 : decode cX4_isRoom 0 = .ok (.iload_n 0, 1) := by decide +kernel
theorem dX4_isRoom_1 : decode cX4_isRoom 1 = .ok (.iconst 0, 1) := by decide +kernel
theorem dX4_isRoom_2 : decode cX4_isRoom 2 = .ok (.bipush 100, 2) := by decide +kernel
theorem dX4_isRoom_4 : decode cX4_isRoom 4 = .ok (.invokestatic 51, 3) := by decide +kernel
theorem dX4_isRoom_7 : decode cX4_isRoom 7 = .ok (.ireturn, 1) := by decide +kernel
theorem dX4_isShare_0 : decode cX4_isShare 0 = .ok (.iload_n 0, 1) := by decide +kernel
theorem dX4_isShare_1 : decode cX4_isShare 1 = .ok (.iconst 1, 1) := by decide +kernel
theorem dX4_isShare_2 : decode cX4_isShare 2 = .ok (.bipush 9, 2) := by decide +kernel
theorem dX4_isShare_4 : decode cX4_isShare 4 = .ok (.invokestatic 51, 3) := by decide +kernel
theorem dX4_isShare_7 : decode cX4_isShare 7 = .ok (.ifCond .eq 17, 3) := by decide +kernel
theorem dX4_isShare_10 : decode cX4_isShare 10 = .ok (.iload_n 1, 1) := by decide +kernel
theorem dX4_isShare_11 : decode cX4_isShare 11 = .ok (.iconst 1, 1) := by decide +kernel
theorem dX4_isShare_12 : decode cX4_isShare 12 = .ok (.bipush 9, 2) := by decide +kernel
theorem dX4_isShare_14 : decode cX4_isShare 14 = .ok (.invokestatic 51, 3) := by decide +kernel
theorem dX4_isShare_17 : decode cX4_isShare 17 = .ok (.ifCond .eq 7, 3) := by decide +kernel
theorem dX4_isShare_20 : decode cX4_isShare 20 = .ok (.iconst 1, 1) := by decide +kernel
theorem dX4_isShare_21 : decode cX4_isShare 21 = .ok (.goto 4, 3) := by decide +kernel
theorem dX4_isShare_24 : decode cX4_isShare 24 = .ok (.iconst 0, 1) := by decide +kernel
theorem dX4_isShare_25 : decode cX4_isShare 25 = .ok (.ireturn, 1) := by decide +kernel
theorem dX4_partsOfOne_0 : decode cX4_partsOfOne 0 = .ok (.iload_n 0, 1) := by decide +kernel
theorem dX4_partsOfOne_1 : decode cX4_partsOfOne 1 = .ok (.iconst 1, 1) := by decide +kernel
theorem dX4_partsOfOne_2 : decode cX4_partsOfOne 2 = .ok (.if_icmp .ge 7, 3) := by decide +kernel
theorem dX4_partsOfOne_5 : decode cX4_partsOfOne 5 = .ok (.iconst 0, 1) := by decide +kernel
theorem dX4_partsOfOne_6 : decode cX4_partsOfOne 6 = .ok (.goto 8, 3) := by decide +kernel
theorem dX4_partsOfOne_9 : decode cX4_partsOfOne 9 = .ok (.sipush 2520, 3) := by decide +kernel
theorem dX4_partsOfOne_12 : decode cX4_partsOfOne 12 = .ok (.iload_n 0, 1) := by decide +kernel
theorem dX4_partsOfOne_13 : decode cX4_partsOfOne 13 = .ok (.idiv, 1) := by decide +kernel
theorem dX4_partsOfOne_14 : decode cX4_partsOfOne 14 = .ok (.ireturn, 1) := by decide +kernel
