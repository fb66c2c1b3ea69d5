theorem dX0_init_0 : decode cX0_init 0 = .ok (.aload_n 0, 1) := by decide +kernel
theorem dX0_init_1 : decode cX0_init 1 = .ok (.invokespecial 1, 3) := by decide +kernel
theorem dX0_init_4 : decode cX0_init 4 = .ok (.aload_n 0, 1) := by decide +kernel
theorem dX0_init_5 : decode cX0_init 5 = .ok (.lconst 0, 1) := by decide +kernel
theorem dX0_init_6 : decode cX0_init 6 = .ok (.putfield 7, 3) := by decide +kernel
theorem dX0_init_9 : decode cX0_init 9 = .ok (.aload_n 0, 1) := by decide +kernel
theorem dX0_init_10 : decode cX0_init 10 = .ok (.lconst 1, 1) := by decide +kernel
theorem dX0_init_11 : decode cX0_init 11 = .ok (.putfield 13, 3) := by decide +kernel
theorem dX0_init_14 : decode cX0_init 14 = .ok (.return_, 1) := by decide +kernel
theorem dX0_set_0 : decode cX0_set 0 = .ok (.lload_n 1, 1) := by decide +kernel
theorem dX0_set_1 : decode cX0_set 1 = .ok (.invokestatic 16, 3) := by decide +kernel
theorem dX0_set_4 : decode cX0_set 4 = .ok (.lload_n 3, 1) := by decide +kernel
theorem dX0_set_5 : decode cX0_set 5 = .ok (.invokestatic 22, 3) := by decide +kernel
theorem dX0_set_8 : decode cX0_set 8 = .ok (.lstore 5, 2) := by decide +kernel
theorem dX0_set_10 : decode cX0_set 10 = .ok (.aload_n 0, 1) := by decide +kernel
theorem dX0_set_11 : decode cX0_set 11 = .ok (.lload_n 1, 1) := by decide +kernel
theorem dX0_set_12 : decode cX0_set 12 = .ok (.lload 5, 2) := by decide +kernel
theorem dX0_set_14 : decode cX0_set 14 = .ok (.ldiv, 1) := by decide +kernel
theorem dX0_set_15 : decode cX0_set 15 = .ok (.putfield 7, 3) := by decide +kernel
theorem dX0_set_18 : decode cX0_set 18 = .ok (.aload_n 0, 1) := by decide +kernel
theorem dX0_set_19 : decode cX0_set 19 = .ok (.lload_n 3, 1) := by decide +kernel
theorem dX0_set_20 : decode cX0_set 20 = .ok (.lload 5, 2) := by decide +kernel
theorem dX0_set_22 : decode cX0_set 22 = .ok (.ldiv, 1) := by decide +kernel
theorem dX0_set_23 : decode cX0_set 23 = .ok (.putfield 13, 3) := by decide +kernel
theorem dX0_set_26 : decode cX0_set 26 = .ok (.return_, 1) := by decide +kernel
theorem dX0_setDifference_0 : decode cX0_setDifference 0 = .ok (.aload_n 0, 1) := by decide +kernel
theorem dX0_setDifference_1 : decode cX0_setDifference 1 = .ok (.aload_n 1, 1) := by decide +kernel
theorem dX0_setDifference_2 : decode cX0_setDifference 2 = .ok (.getfield 7, 3) := by decide +kernel
theorem dX0_setDifference_5 : decode cX0_setDifference 5 = .ok (.aload_n 2, 1) := by decide +kernel
theorem dX0_setDifference_6 : decode cX0_setDifference 6 = .ok (.getfield 13, 3) := by decide +kernel
theorem dX0_setDifference_9 : decode cX0_setDifference 9 = .ok (.lmul, 1) := by decide +kernel
theorem dX0_setDifference_10 : decode cX0_setDifference 10 = .ok (.aload_n 2, 1) := by decide +kernel
theorem dX0_setDifference_11 : decode cX0_setDifference 11 = .ok (.getfield 7, 3) := by decide +kernel
theorem dX0_setDifference_14 : decode cX0_setDifference 14 = .ok (.aload_n 1, 1) := by decide +kernel
theorem dX0_setDifference_15 : decode cX0_setDifference 15 = .ok (.getfield 13, 3) := by decide +kernel
theorem dX0_setDifference_18 : decode cX0_setDifference 18 = .ok (.lmul, 1) := by decide +kernel
theorem dX0_setDifference_19 : decode cX0_setDifference 19 = .ok (.lsub, 1) := by decide +kernel
theorem dX0_setDifference_20 : decode cX0_setDifference 20 = .ok (.aload_n 1, 1) := by decide +kernel
theorem dX0_setDifference_21 : decode cX0_setDifference 21 = .ok (.getfield 13, 3) := by decide +kernel
theorem dX0_setDifference_24 : decode cX0_setDifference 24 = .ok (.aload_n 2, 1) := by decide +kernel
theorem dX0_setDifference_25 : decode cX0_setDifference 25 = .ok (.getfield 13, 3) := by decide +kernel
theorem dX0_setDifference_28 : decode cX0_setDifference 28 = .ok (.lmul, 1) := by decide +kernel
theorem dX0_setDifference_29 : decode cX0_setDifference 29 = .ok (.invokevirtual 26, 3) := by decide +kernel
theorem dX0_setDifference_32 : decode cX0_setDifference 32 = .ok (.return_, 1) := by decide +kernel
theorem dX0_number_0 : decode cX0_number 0 = .ok (.iload_n 1, 1) := by decide +kernel
theorem dX0_number_1 : decode cX0_number 1 = .ok (.ifCond .eq 10, 3) := by decide +kernel
theorem dX0_number_4 : decode cX0_number 4 = .ok (.aload_n 0, 1) := by decide +kernel
theorem dX0_number_5 : decode cX0_number 5 = .ok (.getfield 13, 3) := by decide +kernel
theorem dX0_number_8 : decode cX0_number 8 = .ok (.goto 7, 3) := by decide +kernel
theorem dX0_number_11 : decode cX0_number 11 = .ok (.aload_n 0, 1) := by decide +kernel
theorem dX0_number_12 : decode cX0_number 12 = .ok (.getfield 7, 3) := by decide +kernel
theorem dX0_number_15 : decode cX0_number 15 = .ok (.lreturn, 1) := by decide +kernel
theorem dX0_isAboveOne_0 : decode cX0_isAboveOne 0 = .ok (.aload_n 0, 1) := by decide +kernel
theorem dX0_isAboveOne_1 : decode cX0_isAboveOne 1 = .ok (.getfield 7, 3) := by decide +kernel
theorem dX0_isAboveOne_4 : decode cX0_isAboveOne 4 = .ok (.aload_n 0, 1) := by decide +kernel
theorem dX0_isAboveOne_5 : decode cX0_isAboveOne 5 = .ok (.getfield 13, 3) := by decide +kernel
theorem dX0_isAboveOne_8 : decode cX0_isAboveOne 8 = .ok (.lcmp, 1) := by decide +kernel
theorem dX0_isAboveOne_9 : decode cX0_isAboveOne 9 = .ok (.ifCond .le 7, 3) := by decide +kernel
theorem dX0_isAboveOne_12 : decode cX0_isAboveOne 12 = .ok (.iconst 1, 1) := by decide +kernel
theorem dX0_isAboveOne_13 : decode cX0_isAboveOne 13 = .ok (.goto 4, 3) := by decide +kernel
theorem dX0_isAboveOne_16 : decode cX0_isAboveOne 16 = .ok (.iconst 0, 1) := by decide +kernel
theorem dX0_isAboveOne_17 : decode cX0_isAboveOne 17 = .ok (.ireturn, 1) := by decide +kernel
theorem dX0_compareWith_0 : decode cX0_compareWith 0 = .ok (.aload_n 0, 1) := by decide +kernel
theorem dX0_compareWith_1 : decode cX0_compareWith 1 = .ok (.getfield 7, 3) := by decide +kernel
theorem dX0_compareWith_4 : decode cX0_compareWith 4 = .ok (.aload_n 1, 1) := by decide +kernel
theorem dX0_compareWith_5 : decode cX0_compareWith 5 = .ok (.getfield 13, 3) := by decide +kernel
theorem dX0_compareWith_8 : decode cX0_compareWith 8 = .ok (.lmul, 1) := by decide +kernel
theorem dX0_compareWith_9 : decode cX0_compareWith 9 = .ok (.aload_n 1, 1) := by decide +kernel
theorem dX0_compareWith_10 : decode cX0_compareWith 10 = .ok (.getfield 7, 3) := by decide +kernel
theorem dX0_compareWith_13 : decode cX0_compareWith 13 = .ok (.aload_n 0, 1) := by decide +kernel
theorem dX0_compareWith_14 : decode cX0_compareWith 14 = .ok (.getfield 13, 3) := by decide +kernel
theorem dX0_compareWith_17 : decode cX0_compareWith 17 = .ok (.lmul, 1) := by decide +kernel
theorem dX0_compareWith_18 : decode cX0_compareWith 18 = .ok (.lsub, 1) := by decide +kernel
theorem dX0_compareWith_19 : decode cX0_compareWith 19 = .ok (.lreturn, 1) := by decide +kernel
theorem dX0_commonDivisor_0 : decode cX0_commonDivisor 0 = .ok (.lload_n 0, 1) := by decide +kernel
theorem dX0_commonDivisor_1 : decode cX0_commonDivisor 1 = .ok (.lstore 4, 2) := by decide +kernel
theorem dX0_commonDivisor_3 : decode cX0_commonDivisor 3 = .ok (.lload_n 2, 1) := by decide +kernel
theorem dX0_commonDivisor_4 : decode cX0_commonDivisor 4 = .ok (.lstore 6, 2) := by decide +kernel
theorem dX0_commonDivisor_6 : decode cX0_commonDivisor 6 = .ok (.iconst 0, 1) := by decide +kernel
theorem dX0_commonDivisor_7 : decode cX0_commonDivisor 7 = .ok (.istore 8, 2) := by decide +kernel
theorem dX0_commonDivisor_9 : decode cX0_commonDivisor 9 = .ok (.iload 8, 2) := by decide +kernel
theorem dX0_commonDivisor_11 : decode cX0_commonDivisor 11 = .ok (.sipush 200, 3) := by decide +kernel
theorem dX0_commonDivisor_14 : decode cX0_commonDivisor 14 = .ok (.if_icmp .ge 31, 3) := by decide +kernel
theorem dX0_commonDivisor_17 : decode cX0_commonDivisor 17 = .ok (.lload 6, 2) := by decide +kernel
theorem dX0_commonDivisor_19 : decode cX0_commonDivisor 19 = .ok (.lconst 0, 1) := by decide +kernel
theorem dX0_commonDivisor_20 : decode cX0_commonDivisor 20 = .ok (.lcmp, 1) := by decide +kernel
theorem dX0_commonDivisor_21 : decode cX0_commonDivisor 21 = .ok (.ifCond .eq 24, 3) := by decide +kernel
theorem dX0_commonDivisor_24 : decode cX0_commonDivisor 24 = .ok (.lload 4, 2) := by decide +kernel
theorem dX0_commonDivisor_26 : decode cX0_commonDivisor 26 = .ok (.lload 6, 2) := by decide +kernel
theorem dX0_commonDivisor_28 : decode cX0_commonDivisor 28 = .ok (.lrem, 1) := by decide +kernel
theorem dX0_commonDivisor_29 : decode cX0_commonDivisor 29 = .ok (.lstore 9, 2) := by decide +kernel
theorem dX0_commonDivisor_31 : decode cX0_commonDivisor 31 = .ok (.lload 6, 2) := by decide +kernel
theorem dX0_commonDivisor_33 : decode cX0_commonDivisor 33 = .ok (.lstore 4, 2) := by decide +kernel
theorem dX0_commonDivisor_35 : decode cX0_commonDivisor 35 = .ok (.lload 9, 2) := by decide +kernel
theorem dX0_commonDivisor_37 : decode cX0_commonDivisor 37 = .ok (.lstore 6, 2) := by decide +kernel
theorem dX0_commonDivisor_39 : decode cX0_commonDivisor 39 = .ok (.iinc 8 1, 3) := by decide +kernel
theorem dX0_commonDivisor_42 : decode cX0_commonDivisor 42 = .ok (.goto (-33), 3) := by decide +kernel
theorem dX0_commonDivisor_45 : decode cX0_commonDivisor 45 = .ok (.lload 4, 2) := by decide +kernel
theorem dX0_commonDivisor_47 : decode cX0_commonDivisor 47 = .ok (.lconst 1, 1) := by decide +kernel
theorem dX0_commonDivisor_48 : decode cX0_commonDivisor 48 = .ok (.lcmp, 1) := by decide +kernel
theorem dX0_commonDivisor_49 : decode cX0_commonDivisor 49 = .ok (.ifCond .ge 7, 3) := by decide +kernel
theorem dX0_commonDivisor_52 : decode cX0_commonDivisor 52 = .ok (.lconst 1, 1) := by decide +kernel
theorem dX0_commonDivisor_53 : decode cX0_commonDivisor 53 = .ok (.goto 5, 3) := by decide +kernel
theorem dX0_commonDivisor_56 : decode cX0_commonDivisor 56 = .ok (.lload 4, 2) := by decide +kernel
theorem dX0_commonDivisor_58 : decode cX0_commonDivisor 58 = .ok (.lreturn, 1) := by decide +kernel
theorem dX1_init_0 : decode cX1_init 0 = .ok (.aload_n 0, 1) := by decide +kernel
theorem dX1_init_1 : decode cX1_init 1 = .ok (.invokespecial 3, 3) := by decide +kernel
theorem dX1_init_4 : decode cX1_init 4 = .ok (.aload_n 0, 1) := by decide +kernel
theorem dX1_init_5 : decode cX1_init 5 = .ok (.iconst 2, 1) := by decide +kernel
theorem dX1_init_6 : decode cX1_init 6 = .ok (.putfield 9, 3) := by decide +kernel
theorem dX1_init_9 : decode cX1_init 9 = .ok (.aload_n 0, 1) := by decide +kernel
theorem dX1_init_10 : decode cX1_init 10 = .ok (.iconst 0, 1) := by decide +kernel
theorem dX1_init_11 : decode cX1_init 11 = .ok (.putfield 15, 3) := by decide +kernel
theorem dX1_init_14 : decode cX1_init 14 = .ok (.aload_n 0, 1) := by decide +kernel
theorem dX1_init_15 : decode cX1_init 15 = .ok (.bipush 10, 2) := by decide +kernel
theorem dX1_init_17 : decode cX1_init 17 = .ok (.bipush 8, 2) := by decide +kernel
theorem dX1_init_19 : decode cX1_init 19 = .ok (.multianewarray 18 2, 4) := by decide +kernel
theorem dX1_init_23 : decode cX1_init 23 = .ok (.putfield 20, 3) := by decide +kernel
theorem dX1_init_26 : decode cX1_init 26 = .ok (.aload_n 0, 1) := by decide +kernel
theorem dX1_init_27 : decode cX1_init 27 = .ok (.iconst 4, 1) := by decide +kernel
theorem dX1_init_28 : decode cX1_init 28 = .ok (.newarray .int, 2) := by decide +kernel
theorem dX1_init_30 : decode cX1_init 30 = .ok (.putfield 23, 3) := by decide +kernel
theorem dX1_init_33 : decode cX1_init 33 = .ok (.aload_n 0, 1) := by decide +kernel
theorem dX1_init_34 : decode cX1_init 34 = .ok (.iconst 0, 1) := by decide +kernel
theorem dX1_init_35 : decode cX1_init 35 = .ok (.putfield 27, 3) := by decide +kernel
theorem dX1_init_38 : decode cX1_init 38 = .ok (.return_, 1) := by decide +kernel
theorem dX1_take_0 : decode cX1_take 0 = .ok (.aload_n 0, 1) := by decide +kernel
theorem dX1_take_1 : decode cX1_take 1 = .ok (.aload_n 1, 1) := by decide +kernel
theorem dX1_take_2 : decode cX1_take 2 = .ok (.getfield 9, 3) := by decide +kernel
theorem dX1_take_5 : decode cX1_take 5 = .ok (.putfield 9, 3) := by decide +kernel
theorem dX1_take_8 : decode cX1_take 8 = .ok (.aload_n 0, 1) := by decide +kernel
theorem dX1_take_9 : decode cX1_take 9 = .ok (.aload_n 1, 1) := by decide +kernel
theorem dX1_take_10 : decode cX1_take 10 = .ok (.getfield 15, 3) := by decide +kernel
theorem dX1_take_13 : decode cX1_take 13 = .ok (.putfield 15, 3) := by decide +kernel
theorem dX1_take_16 : decode cX1_take 16 = .ok (.iconst 0, 1) := by decide +kernel
theorem dX1_take_17 : decode cX1_take 17 = .ok (.istore_n 2, 1) := by decide +kernel
theorem dX1_take_18 : decode cX1_take 18 = .ok (.iload_n 2, 1) := by decide +kernel
theorem dX1_take_19 : decode cX1_take 19 = .ok (.aload_n 0, 1) := by decide +kernel
theorem dX1_take_20 : decode cX1_take 20 = .ok (.getfield 15, 3) := by decide +kernel
theorem dX1_take_23 : decode cX1_take 23 = .ok (.if_icmp .ge 28, 3) := by decide +kernel
theorem dX1_take_26 : decode cX1_take 26 = .ok (.aload_n 1, 1) := by decide +kernel
theorem dX1_take_27 : decode cX1_take 27 = .ok (.getfield 20, 3) := by decide +kernel
theorem dX1_take_30 : decode cX1_take 30 = .ok (.iload_n 2, 1) := by decide +kernel
theorem dX1_take_31 : decode cX1_take 31 = .ok (.aaload, 1) := by decide +kernel
theorem dX1_take_32 : decode cX1_take 32 = .ok (.iconst 0, 1) := by decide +kernel
theorem dX1_take_33 : decode cX1_take 33 = .ok (.aload_n 0, 1) := by decide +kernel
theorem dX1_take_34 : decode cX1_take 34 = .ok (.getfield 20, 3) := by decide +kernel
theorem dX1_take_37 : decode cX1_take 37 = .ok (.iload_n 2, 1) := by decide +kernel
theorem dX1_take_38 : decode cX1_take 38 = .ok (.aaload, 1) := by decide +kernel
theorem dX1_take_39 : decode cX1_take 39 = .ok (.iconst 0, 1) := by decide +kernel
theorem dX1_take_40 : decode cX1_take 40 = .ok (.bipush 8, 2) := by decide +kernel
theorem dX1_take_42 : decode cX1_take 42 = .ok (.invokestatic 30, 3) := by decide +kernel
theorem dX1_take_45 : decode cX1_take 45 = .ok (.iinc 2 1, 3) := by decide +kernel
theorem dX1_take_48 : decode cX1_take 48 = .ok (.goto (-30), 3) := by decide +kernel
theorem dX1_take_51 : decode cX1_take 51 = .ok (.aload_n 0, 1) := by decide +kernel
theorem dX1_take_52 : decode cX1_take 52 = .ok (.aload_n 1, 1) := by decide +kernel
theorem dX1_take_53 : decode cX1_take 53 = .ok (.getfield 23, 3) := by decide +kernel
theorem dX1_take_56 : decode cX1_take 56 = .ok (.aload_n 1, 1) := by decide +kernel
theorem dX1_take_57 : decode cX1_take 57 = .ok (.getfield 27, 3) := by decide +kernel
theorem dX1_take_60 : decode cX1_take 60 = .ok (.invokevirtual 36, 3) := by decide +kernel
theorem dX1_take_63 : decode cX1_take 63 = .ok (.return_, 1) := by decide +kernel
theorem dX1_takeRow_0 : decode cX1_takeRow 0 = .ok (.aload_n 1, 1) := by decide +kernel
theorem dX1_takeRow_1 : decode cX1_takeRow 1 = .ok (.iconst 0, 1) := by decide +kernel
theorem dX1_takeRow_2 : decode cX1_takeRow 2 = .ok (.aload_n 0, 1) := by decide +kernel
theorem dX1_takeRow_3 : decode cX1_takeRow 3 = .ok (.getfield 23, 3) := by decide +kernel
theorem dX1_takeRow_6 : decode cX1_takeRow 6 = .ok (.iconst 0, 1) := by decide +kernel
theorem dX1_takeRow_7 : decode cX1_takeRow 7 = .ok (.iconst 4, 1) := by decide +kernel
theorem dX1_takeRow_8 : decode cX1_takeRow 8 = .ok (.invokestatic 30, 3) := by decide +kernel
theorem dX1_takeRow_11 : decode cX1_takeRow 11 = .ok (.aload_n 0, 1) := by decide +kernel
theorem dX1_takeRow_12 : decode cX1_takeRow 12 = .ok (.iload_n 2, 1) := by decide +kernel
theorem dX1_takeRow_13 : decode cX1_takeRow 13 = .ok (.putfield 27, 3) := by decide +kernel
theorem dX1_takeRow_16 : decode cX1_takeRow 16 = .ok (.return_, 1) := by decide +kernel
theorem dX1_dropRow_0 : decode cX1_dropRow 0 = .ok (.aload_n 0, 1) := by decide +kernel
theorem dX1_dropRow_1 : decode cX1_dropRow 1 = .ok (.iconst 0, 1) := by decide +kernel
theorem dX1_dropRow_2 : decode cX1_dropRow 2 = .ok (.putfield 27, 3) := by decide +kernel
theorem dX1_dropRow_5 : decode cX1_dropRow 5 = .ok (.return_, 1) := by decide +kernel
theorem dX1_lastPost_0 : decode cX1_lastPost 0 = .ok (.aload_n 0, 1) := by decide +kernel
theorem dX1_lastPost_1 : decode cX1_lastPost 1 = .ok (.getfield 9, 3) := by decide +kernel
theorem dX1_lastPost_4 : decode cX1_lastPost 4 = .ok (.iconst 1, 1) := by decide +kernel
theorem dX1_lastPost_5 : decode cX1_lastPost 5 = .ok (.isub, 1) := by decide +kernel
theorem dX1_lastPost_6 : decode cX1_lastPost 6 = .ok (.ireturn, 1) := by decide +kernel
theorem dX1_hasPost_0 : decode cX1_hasPost 0 = .ok (.iload_n 1, 1) := by decide +kernel
theorem dX1_hasPost_1 : decode cX1_hasPost 1 = .ok (.iconst 0, 1) := by decide +kernel
theorem dX1_hasPost_2 : decode cX1_hasPost 2 = .ok (.aload_n 0, 1) := by decide +kernel
theorem dX1_hasPost_3 : decode cX1_hasPost 3 = .ok (.invokevirtual 40, 3) := by decide +kernel
theorem dX1_hasPost_6 : decode cX1_hasPost 6 = .ok (.invokestatic 44, 3) := by decide +kernel
theorem dX1_hasPost_9 : decode cX1_hasPost 9 = .ok (.ireturn, 1) := by decide +kernel
theorem dX1_hasLane_0 : decode cX1_hasLane 0 = .ok (.iload_n 1, 1) := by decide +kernel
theorem dX1_hasLane_1 : decode cX1_hasLane 1 = .ok (.iconst 0, 1) := by decide +kernel
theorem dX1_hasLane_2 : decode cX1_hasLane 2 = .ok (.aload_n 0, 1) := by decide +kernel
theorem dX1_hasLane_3 : decode cX1_hasLane 3 = .ok (.getfield 15, 3) := by decide +kernel
theorem dX1_hasLane_6 : decode cX1_hasLane 6 = .ok (.iconst 1, 1) := by decide +kernel
theorem dX1_hasLane_7 : decode cX1_hasLane 7 = .ok (.isub, 1) := by decide +kernel
theorem dX1_hasLane_8 : decode cX1_hasLane 8 = .ok (.invokestatic 44, 3) := by decide +kernel
theorem dX1_hasLane_11 : decode cX1_hasLane 11 = .ok (.ireturn, 1) := by decide +kernel
theorem dX1_canLead_0 : decode cX1_canLead 0 = .ok (.aload_n 0, 1) := by decide +kernel
theorem dX1_canLead_1 : decode cX1_canLead 1 = .ok (.iload_n 1, 1) := by decide +kernel
theorem dX1_canLead_2 : decode cX1_canLead 2 = .ok (.invokevirtual 48, 3) := by decide +kernel
theorem dX1_canLead_5 : decode cX1_canLead 5 = .ok (.ifCond .eq 32, 3) := by decide +kernel
theorem dX1_canLead_8 : decode cX1_canLead 8 = .ok (.aload_n 0, 1) := by decide +kernel
theorem dX1_canLead_9 : decode cX1_canLead 9 = .ok (.iload_n 2, 1) := by decide +kernel
theorem dX1_canLead_10 : decode cX1_canLead 10 = .ok (.invokevirtual 48, 3) := by decide +kernel
theorem dX1_canLead_13 : decode cX1_canLead 13 = .ok (.ifCond .eq 24, 3) := by decide +kernel
theorem dX1_canLead_16 : decode cX1_canLead 16 = .ok (.iload_n 1, 1) := by decide +kernel
theorem dX1_canLead_17 : decode cX1_canLead 17 = .ok (.iload_n 2, 1) := by decide +kernel
theorem dX1_canLead_18 : decode cX1_canLead 18 = .ok (.if_icmp .eq 19, 3) := by decide +kernel
theorem dX1_canLead_21 : decode cX1_canLead 21 = .ok (.iload_n 2, 1) := by decide +kernel
theorem dX1_canLead_22 : decode cX1_canLead 22 = .ok (.ifCond .eq 15, 3) := by decide +kernel
theorem dX1_canLead_25 : decode cX1_canLead 25 = .ok (.iload_n 1, 1) := by decide +kernel
theorem dX1_canLead_26 : decode cX1_canLead 26 = .ok (.aload_n 0, 1) := by decide +kernel
theorem dX1_canLead_27 : decode cX1_canLead 27 = .ok (.invokevirtual 40, 3) := by decide +kernel
theorem dX1_canLead_30 : decode cX1_canLead 30 = .ok (.if_icmp .eq 7, 3) := by decide +kernel
theorem dX1_canLead_33 : decode cX1_canLead 33 = .ok (.iconst 1, 1) := by decide +kernel
theorem dX1_canLead_34 : decode cX1_canLead 34 = .ok (.goto 4, 3) := by decide +kernel
theorem dX1_canLead_37 : decode cX1_canLead 37 = .ok (.iconst 0, 1) := by decide +kernel
theorem dX1_canLead_38 : decode cX1_canLead 38 = .ok (.ireturn, 1) := by decide +kernel
theorem dX1_balance_0 : decode cX1_balance 0 = .ok (.lconst 0, 1) := by decide +kernel
theorem dX1_balance_1 : decode cX1_balance 1 = .ok (.lstore_n 2, 1) := by decide +kernel
theorem dX1_balance_2 : decode cX1_balance 2 = .ok (.iconst 0, 1) := by decide +kernel
theorem dX1_balance_3 : decode cX1_balance 3 = .ok (.istore 4, 2) := by decide +kernel
theorem dX1_balance_5 : decode cX1_balance 5 = .ok (.iload 4, 2) := by decide +kernel
theorem dX1_balance_7 : decode cX1_balance 7 = .ok (.aload_n 0, 1) := by decide +kernel
theorem dX1_balance_8 : decode cX1_balance 8 = .ok (.getfield 15, 3) := by decide +kernel
theorem dX1_balance_11 : decode cX1_balance 11 = .ok (.if_icmp .ge 81, 3) := by decide +kernel
theorem dX1_balance_14 : decode cX1_balance 14 = .ok (.aload_n 0, 1) := by decide +kernel
theorem dX1_balance_15 : decode cX1_balance 15 = .ok (.getfield 20, 3) := by decide +kernel
theorem dX1_balance_18 : decode cX1_balance 18 = .ok (.iload 4, 2) := by decide +kernel
theorem dX1_balance_20 : decode cX1_balance 20 = .ok (.aaload, 1) := by decide +kernel
theorem dX1_balance_21 : decode cX1_balance 21 = .ok (.astore 5, 2) := by decide +kernel
theorem dX1_balance_23 : decode cX1_balance 23 = .ok (.aload 5, 2) := by decide +kernel
theorem dX1_balance_25 : decode cX1_balance 25 = .ok (.bipush 6, 2) := by decide +kernel
theorem dX1_balance_27 : decode cX1_balance 27 = .ok (.iaload, 1) := by decide +kernel
theorem dX1_balance_28 : decode cX1_balance 28 = .ok (.i2l, 1) := by decide +kernel
theorem dX1_balance_29 : decode cX1_balance 29 = .ok (.aload 5, 2) := by decide +kernel
theorem dX1_balance_31 : decode cX1_balance 31 = .ok (.bipush 7, 2) := by decide +kernel
theorem dX1_balance_33 : decode cX1_balance 33 = .ok (.iaload, 1) := by decide +kernel
theorem dX1_balance_34 : decode cX1_balance 34 = .ok (.invokestatic 52, 3) := by decide +kernel
theorem dX1_balance_37 : decode cX1_balance 37 = .ok (.i2l, 1) := by decide +kernel
theorem dX1_balance_38 : decode cX1_balance 38 = .ok (.lmul, 1) := by decide +kernel
theorem dX1_balance_39 : decode cX1_balance 39 = .ok (.lstore 6, 2) := by decide +kernel
theorem dX1_balance_41 : decode cX1_balance 41 = .ok (.aload 5, 2) := by decide +kernel
theorem dX1_balance_43 : decode cX1_balance 43 = .ok (.iconst 1, 1) := by decide +kernel
theorem dX1_balance_44 : decode cX1_balance 44 = .ok (.iaload, 1) := by decide +kernel
theorem dX1_balance_45 : decode cX1_balance 45 = .ok (.iload_n 1, 1) := by decide +kernel
theorem dX1_balance_46 : decode cX1_balance 46 = .ok (.if_icmp .ne 23, 3) := by decide +kernel
theorem dX1_balance_49 : decode cX1_balance 49 = .ok (.lload_n 2, 1) := by decide +kernel
theorem dX1_balance_50 : decode cX1_balance 50 = .ok (.lload 6, 2) := by decide +kernel
theorem dX1_balance_52 : decode cX1_balance 52 = .ok (.aload 5, 2) := by decide +kernel
theorem dX1_balance_54 : decode cX1_balance 54 = .ok (.iconst 3, 1) := by decide +kernel
theorem dX1_balance_55 : decode cX1_balance 55 = .ok (.iaload, 1) := by decide +kernel
theorem dX1_balance_56 : decode cX1_balance 56 = .ok (.i2l, 1) := by decide +kernel
theorem dX1_balance_57 : decode cX1_balance 57 = .ok (.lmul, 1) := by decide +kernel
theorem dX1_balance_58 : decode cX1_balance 58 = .ok (.aload 5, 2) := by decide +kernel
theorem dX1_balance_60 : decode cX1_balance 60 = .ok (.iconst 4, 1) := by decide +kernel
theorem dX1_balance_61 : decode cX1_balance 61 = .ok (.iaload, 1) := by decide +kernel
theorem dX1_balance_62 : decode cX1_balance 62 = .ok (.invokestatic 52, 3) := by decide +kernel
theorem dX1_balance_65 : decode cX1_balance 65 = .ok (.i2l, 1) := by decide +kernel
theorem dX1_balance_66 : decode cX1_balance 66 = .ok (.lmul, 1) := by decide +kernel
theorem dX1_balance_67 : decode cX1_balance 67 = .ok (.ladd, 1) := by decide +kernel
theorem dX1_balance_68 : decode cX1_balance 68 = .ok (.lstore_n 2, 1) := by decide +kernel
theorem dX1_balance_69 : decode cX1_balance 69 = .ok (.aload 5, 2) := by decide +kernel
theorem dX1_balance_71 : decode cX1_balance 71 = .ok (.iconst 0, 1) := by decide +kernel
theorem dX1_balance_72 : decode cX1_balance 72 = .ok (.iaload, 1) := by decide +kernel
theorem dX1_balance_73 : decode cX1_balance 73 = .ok (.iload_n 1, 1) := by decide +kernel
theorem dX1_balance_74 : decode cX1_balance 74 = .ok (.if_icmp .ne 12, 3) := by decide +kernel
theorem dX1_balance_77 : decode cX1_balance 77 = .ok (.lload_n 2, 1) := by decide +kernel
theorem dX1_balance_78 : decode cX1_balance 78 = .ok (.lload 6, 2) := by decide +kernel
theorem dX1_balance_80 : decode cX1_balance 80 = .ok (.ldc2_w 56, 3) := by decide +kernel
theorem dX1_balance_83 : decode cX1_balance 83 = .ok (.lmul, 1) := by decide +kernel
theorem dX1_balance_84 : decode cX1_balance 84 = .ok (.lsub, 1) := by decide +kernel
theorem dX1_balance_85 : decode cX1_balance 85 = .ok (.lstore_n 2, 1) := by decide +kernel
theorem dX1_balance_86 : decode cX1_balance 86 = .ok (.iinc 4 1, 3) := by decide +kernel
theorem dX1_balance_89 : decode cX1_balance 89 = .ok (.goto (-84), 3) := by decide +kernel
theorem dX1_balance_92 : decode cX1_balance 92 = .ok (.lload_n 2, 1) := by decide +kernel
theorem dX1_balance_93 : decode cX1_balance 93 = .ok (.lreturn, 1) := by decide +kernel
theorem dX1_multiplyShares_0 : decode cX1_multiplyShares 0 = .ok (.lconst 1, 1) := by decide +kernel
theorem dX1_multiplyShares_1 : decode cX1_multiplyShares 1 = .ok (.lstore 4, 2) := by decide +kernel
theorem dX1_multiplyShares_3 : decode cX1_multiplyShares 3 = .ok (.lconst 1, 1) := by decide +kernel
theorem dX1_multiplyShares_4 : decode cX1_multiplyShares 4 = .ok (.lstore 6, 2) := by decide +kernel
theorem dX1_multiplyShares_6 : decode cX1_multiplyShares 6 = .ok (.iconst 0, 1) := by decide +kernel
theorem dX1_multiplyShares_7 : decode cX1_multiplyShares 7 = .ok (.istore 8, 2) := by decide +kernel
theorem dX1_multiplyShares_9 : decode cX1_multiplyShares 9 = .ok (.iload 8, 2) := by decide +kernel
theorem dX1_multiplyShares_11 : decode cX1_multiplyShares 11 = .ok (.iload_n 2, 1) := by decide +kernel
theorem dX1_multiplyShares_12 : decode cX1_multiplyShares 12 = .ok (.if_icmp .ge 43, 3) := by decide +kernel
theorem dX1_multiplyShares_15 : decode cX1_multiplyShares 15 = .ok (.lload 4, 2) := by decide +kernel
theorem dX1_multiplyShares_17 : decode cX1_multiplyShares 17 = .ok (.aload_n 0, 1) := by decide +kernel
theorem dX1_multiplyShares_18 : decode cX1_multiplyShares 18 = .ok (.getfield 20, 3) := by decide +kernel
theorem dX1_multiplyShares_21 : decode cX1_multiplyShares 21 = .ok (.aload_n 1, 1) := by decide +kernel
theorem dX1_multiplyShares_22 : decode cX1_multiplyShares 22 = .ok (.iload 8, 2) := by decide +kernel
theorem dX1_multiplyShares_24 : decode cX1_multiplyShares 24 = .ok (.iaload, 1) := by decide +kernel
theorem dX1_multiplyShares_25 : decode cX1_multiplyShares 25 = .ok (.aaload, 1) := by decide +kernel
theorem dX1_multiplyShares_26 : decode cX1_multiplyShares 26 = .ok (.iconst 3, 1) := by decide +kernel
theorem dX1_multiplyShares_27 : decode cX1_multiplyShares 27 = .ok (.iaload, 1) := by decide +kernel
theorem dX1_multiplyShares_28 : decode cX1_multiplyShares 28 = .ok (.i2l, 1) := by decide +kernel
theorem dX1_multiplyShares_29 : decode cX1_multiplyShares 29 = .ok (.lmul, 1) := by decide +kernel
theorem dX1_multiplyShares_30 : decode cX1_multiplyShares 30 = .ok (.lstore 4, 2) := by decide +kernel
theorem dX1_multiplyShares_32 : decode cX1_multiplyShares 32 = .ok (.lload 6, 2) := by decide +kernel
theorem dX1_multiplyShares_34 : decode cX1_multiplyShares 34 = .ok (.aload_n 0, 1) := by decide +kernel
theorem dX1_multiplyShares_35 : decode cX1_multiplyShares 35 = .ok (.getfield 20, 3) := by decide +kernel
theorem dX1_multiplyShares_38 : decode cX1_multiplyShares 38 = .ok (.aload_n 1, 1) := by decide +kernel
theorem dX1_multiplyShares_39 : decode cX1_multiplyShares 39 = .ok (.iload 8, 2) := by decide +kernel
theorem dX1_multiplyShares_41 : decode cX1_multiplyShares 41 = .ok (.iaload, 1) := by decide +kernel
theorem dX1_multiplyShares_42 : decode cX1_multiplyShares 42 = .ok (.aaload, 1) := by decide +kernel
theorem dX1_multiplyShares_43 : decode cX1_multiplyShares 43 = .ok (.iconst 4, 1) := by decide +kernel
theorem dX1_multiplyShares_44 : decode cX1_multiplyShares 44 = .ok (.iaload, 1) := by decide +kernel
theorem dX1_multiplyShares_45 : decode cX1_multiplyShares 45 = .ok (.i2l, 1) := by decide +kernel
theorem dX1_multiplyShares_46 : decode cX1_multiplyShares 46 = .ok (.lmul, 1) := by decide +kernel
theorem dX1_multiplyShares_47 : decode cX1_multiplyShares 47 = .ok (.lstore 6, 2) := by decide +kernel
theorem dX1_multiplyShares_49 : decode cX1_multiplyShares 49 = .ok (.iinc 8 1, 3) := by decide +kernel
theorem dX1_multiplyShares_52 : decode cX1_multiplyShares 52 = .ok (.goto (-43), 3) := by decide +kernel
theorem dX1_multiplyShares_55 : decode cX1_multiplyShares 55 = .ok (.aload_n 3, 1) := by decide +kernel
theorem dX1_multiplyShares_56 : decode cX1_multiplyShares 56 = .ok (.lload 4, 2) := by decide +kernel
theorem dX1_multiplyShares_58 : decode cX1_multiplyShares 58 = .ok (.lload 6, 2) := by decide +kernel
theorem dX1_multiplyShares_60 : decode cX1_multiplyShares 60 = .ok (.invokevirtual 58, 3) := by decide +kernel
theorem dX1_multiplyShares_63 : decode cX1_multiplyShares 63 = .ok (.return_, 1) := by decide +kernel
theorem dX3_init_0 : decode cX3_init 0 = .ok (.aload_n 0, 1) := by decide +kernel
theorem dX3_init_1 : decode cX3_init 1 = .ok (.invokespecial 3, 3) := by decide +kernel
theorem dX3_init_4 : decode cX3_init 4 = .ok (.aload_n 0, 1) := by decide +kernel
theorem dX3_init_5 : decode cX3_init 5 = .ok (.iconst 4, 1) := by decide +kernel
theorem dX3_init_6 : decode cX3_init 6 = .ok (.newarray .int, 2) := by decide +kernel
theorem dX3_init_8 : decode cX3_init 8 = .ok (.putfield 9, 3) := by decide +kernel
theorem dX3_init_11 : decode cX3_init 11 = .ok (.aload_n 0, 1) := by decide +kernel
theorem dX3_init_12 : decode cX3_init 12 = .ok (.new 15, 3) := by decide +kernel
theorem dX3_init_15 : decode cX3_init 15 = .ok (.dup, 1) := by decide +kernel
theorem dX3_init_16 : decode cX3_init 16 = .ok (.invokespecial 17, 3) := by decide +kernel
theorem dX3_init_19 : decode cX3_init 19 = .ok (.putfield 18, 3) := by decide +kernel
theorem dX3_init_22 : decode cX3_init 22 = .ok (.aload_n 0, 1) := by decide +kernel
theorem dX3_init_23 : decode cX3_init 23 = .ok (.iconst 4, 1) := by decide +kernel
theorem dX3_init_24 : decode cX3_init 24 = .ok (.newarray .int, 2) := by decide +kernel
theorem dX3_init_26 : decode cX3_init 26 = .ok (.putfield 22, 3) := by decide +kernel
theorem dX3_init_29 : decode cX3_init 29 = .ok (.aload_n 0, 1) := by decide +kernel
theorem dX3_init_30 : decode cX3_init 30 = .ok (.new 15, 3) := by decide +kernel
theorem dX3_init_33 : decode cX3_init 33 = .ok (.dup, 1) := by decide +kernel
theorem dX3_init_34 : decode cX3_init 34 = .ok (.invokespecial 17, 3) := by decide +kernel
theorem dX3_init_37 : decode cX3_init 37 = .ok (.putfield 25, 3) := by decide +kernel
theorem dX3_init_40 : decode cX3_init 40 = .ok (.aload_n 0, 1) := by decide +kernel
theorem dX3_init_41 : decode cX3_init 41 = .ok (.iconst 0, 1) := by decide +kernel
theorem dX3_init_42 : decode cX3_init 42 = .ok (.putfield 28, 3) := by decide +kernel
theorem dX3_init_45 : decode cX3_init 45 = .ok (.aload_n 0, 1) := by decide +kernel
theorem dX3_init_46 : decode cX3_init 46 = .ok (.iconst 0, 1) := by decide +kernel
theorem dX3_init_47 : decode cX3_init 47 = .ok (.putfield 32, 3) := by decide +kernel
theorem dX3_init_50 : decode cX3_init 50 = .ok (.aload_n 0, 1) := by decide +kernel
theorem dX3_init_51 : decode cX3_init 51 = .ok (.iconst 0, 1) := by decide +kernel
theorem dX3_init_52 : decode cX3_init 52 = .ok (.putfield 35, 3) := by decide +kernel
theorem dX3_init_55 : decode cX3_init 55 = .ok (.aload_n 0, 1) := by decide +kernel
theorem dX3_init_56 : decode cX3_init 56 = .ok (.iconst 0, 1) := by decide +kernel
theorem dX3_init_57 : decode cX3_init 57 = .ok (.putfield 39, 3) := by decide +kernel
theorem dX3_init_60 : decode cX3_init 60 = .ok (.aload_n 0, 1) := by decide +kernel
theorem dX3_init_61 : decode cX3_init 61 = .ok (.iconst 0, 1) := by decide +kernel
theorem dX3_init_62 : decode cX3_init 62 = .ok (.putfield 42, 3) := by decide +kernel
theorem dX3_init_65 : decode cX3_init 65 = .ok (.return_, 1) := by decide +kernel
theorem dX3_findWays_0 : decode cX3_findWays 0 = .ok (.aload_n 0, 1) := by decide +kernel
theorem dX3_findWays_1 : decode cX3_findWays 1 = .ok (.iconst 0, 1) := by decide +kernel
theorem dX3_findWays_2 : decode cX3_findWays 2 = .ok (.invokevirtual 45, 3) := by decide +kernel
theorem dX3_findWays_5 : decode cX3_findWays 5 = .ok (.aload_n 0, 1) := by decide +kernel
theorem dX3_findWays_6 : decode cX3_findWays 6 = .ok (.iload_n 3, 1) := by decide +kernel
theorem dX3_findWays_7 : decode cX3_findWays 7 = .ok (.putfield 32, 3) := by decide +kernel
theorem dX3_findWays_10 : decode cX3_findWays 10 = .ok (.aload_n 0, 1) := by decide +kernel
theorem dX3_findWays_11 : decode cX3_findWays 11 = .ok (.aload_n 1, 1) := by decide +kernel
theorem dX3_findWays_12 : decode cX3_findWays 12 = .ok (.iload_n 2, 1) := by decide +kernel
theorem dX3_findWays_13 : decode cX3_findWays 13 = .ok (.iconst 0, 1) := by decide +kernel
theorem dX3_findWays_14 : decode cX3_findWays 14 = .ok (.iconst 1, 1) := by decide +kernel
theorem dX3_findWays_15 : decode cX3_findWays 15 = .ok (.iload_n 2, 1) := by decide +kernel
theorem dX3_findWays_16 : decode cX3_findWays 16 = .ok (.ishl, 1) := by decide +kernel
theorem dX3_findWays_17 : decode cX3_findWays 17 = .ok (.invokevirtual 49, 3) := by decide +kernel
theorem dX3_findWays_20 : decode cX3_findWays 20 = .ok (.return_, 1) := by decide +kernel
theorem dX3_findRings_0 : decode cX3_findRings 0 = .ok (.aload_n 0, 1) := by decide +kernel
theorem dX3_findRings_1 : decode cX3_findRings 1 = .ok (.iconst 1, 1) := by decide +kernel
theorem dX3_findRings_2 : decode cX3_findRings 2 = .ok (.invokevirtual 45, 3) := by decide +kernel
theorem dX3_findRings_5 : decode cX3_findRings 5 = .ok (.iconst 0, 1) := by decide +kernel
theorem dX3_findRings_6 : decode cX3_findRings 6 = .ok (.istore_n 2, 1) := by decide +kernel
theorem dX3_findRings_7 : decode cX3_findRings 7 = .ok (.iload_n 2, 1) := by decide +kernel
theorem dX3_findRings_8 : decode cX3_findRings 8 = .ok (.aload_n 1, 1) := by decide +kernel
theorem dX3_findRings_9 : decode cX3_findRings 9 = .ok (.getfield 53, 3) := by decide +kernel
theorem dX3_findRings_12 : decode cX3_findRings 12 = .ok (.if_icmp .ge 26, 3) := by decide +kernel
theorem dX3_findRings_15 : decode cX3_findRings 15 = .ok (.aload_n 0, 1) := by decide +kernel
theorem dX3_findRings_16 : decode cX3_findRings 16 = .ok (.iload_n 2, 1) := by decide +kernel
theorem dX3_findRings_17 : decode cX3_findRings 17 = .ok (.putfield 32, 3) := by decide +kernel
theorem dX3_findRings_20 : decode cX3_findRings 20 = .ok (.aload_n 0, 1) := by decide +kernel
theorem dX3_findRings_21 : decode cX3_findRings 21 = .ok (.aload_n 1, 1) := by decide +kernel
theorem dX3_findRings_22 : decode cX3_findRings 22 = .ok (.iload_n 2, 1) := by decide +kernel
theorem dX3_findRings_23 : decode cX3_findRings 23 = .ok (.iconst 0, 1) := by decide +kernel
theorem dX3_findRings_24 : decode cX3_findRings 24 = .ok (.iconst 2, 1) := by decide +kernel
theorem dX3_findRings_25 : decode cX3_findRings 25 = .ok (.iload_n 2, 1) := by decide +kernel
theorem dX3_findRings_26 : decode cX3_findRings 26 = .ok (.ishl, 1) := by decide +kernel
theorem dX3_findRings_27 : decode cX3_findRings 27 = .ok (.iconst 1, 1) := by decide +kernel
theorem dX3_findRings_28 : decode cX3_findRings 28 = .ok (.isub, 1) := by decide +kernel
theorem dX3_findRings_29 : decode cX3_findRings 29 = .ok (.invokevirtual 49, 3) := by decide +kernel
theorem dX3_findRings_32 : decode cX3_findRings 32 = .ok (.iinc 2 1, 3) := by decide +kernel
theorem dX3_findRings_35 : decode cX3_findRings 35 = .ok (.goto (-28), 3) := by decide +kernel
theorem dX3_findRings_38 : decode cX3_findRings 38 = .ok (.return_, 1) := by decide +kernel
theorem dX3_begin_0 : decode cX3_begin 0 = .ok (.aload_n 0, 1) := by decide +kernel
theorem dX3_begin_1 : decode cX3_begin 1 = .ok (.iload_n 1, 1) := by decide +kernel
theorem dX3_begin_2 : decode cX3_begin 2 = .ok (.putfield 35, 3) := by decide +kernel
theorem dX3_begin_5 : decode cX3_begin 5 = .ok (.aload_n 0, 1) := by decide +kernel
theorem dX3_begin_6 : decode cX3_begin 6 = .ok (.iconst 0, 1) := by decide +kernel
theorem dX3_begin_7 : decode cX3_begin 7 = .ok (.putfield 28, 3) := by decide +kernel
theorem dX3_begin_10 : decode cX3_begin 10 = .ok (.aload_n 0, 1) := by decide +kernel
theorem dX3_begin_11 : decode cX3_begin 11 = .ok (.iconst 0, 1) := by decide +kernel
theorem dX3_begin_12 : decode cX3_begin 12 = .ok (.putfield 39, 3) := by decide +kernel
theorem dX3_begin_15 : decode cX3_begin 15 = .ok (.aload_n 0, 1) := by decide +kernel
theorem dX3_begin_16 : decode cX3_begin 16 = .ok (.iconst 0, 1) := by decide +kernel
theorem dX3_begin_17 : decode cX3_begin 17 = .ok (.putfield 42, 3) := by decide +kernel
theorem dX3_begin_20 : decode cX3_begin 20 = .ok (.return_, 1) := by decide +kernel
theorem dX3_walk_0 : decode cX3_walk 0 = .ok (.iload_n 3, 1) := by decide +kernel
theorem dX3_walk_1 : decode cX3_walk 1 = .ok (.iconst 4, 1) := by decide +kernel
theorem dX3_walk_2 : decode cX3_walk 2 = .ok (.if_icmp .lt 4, 3) := by decide +kernel
theorem dX3_walk_5 : decode cX3_walk 5 = .ok (.return_, 1) := by decide +kernel
theorem dX3_walk_6 : decode cX3_walk 6 = .ok (.iconst 0, 1) := by decide +kernel
theorem dX3_walk_7 : decode cX3_walk 7 = .ok (.istore 5, 2) := by decide +kernel
theorem dX3_walk_9 : decode cX3_walk 9 = .ok (.iload 5, 2) := by decide +kernel
theorem dX3_walk_11 : decode cX3_walk 11 = .ok (.aload_n 1, 1) := by decide +kernel
theorem dX3_walk_12 : decode cX3_walk 12 = .ok (.getfield 58, 3) := by decide +kernel
theorem dX3_walk_15 : decode cX3_walk 15 = .ok (.if_icmp .ge 90, 3) := by decide +kernel
theorem dX3_walk_18 : decode cX3_walk 18 = .ok (.aload_n 1, 1) := by decide +kernel
theorem dX3_walk_19 : decode cX3_walk 19 = .ok (.getfield 61, 3) := by decide +kernel
theorem dX3_walk_22 : decode cX3_walk 22 = .ok (.iload 5, 2) := by decide +kernel
theorem dX3_walk_24 : decode cX3_walk 24 = .ok (.aaload, 1) := by decide +kernel
theorem dX3_walk_25 : decode cX3_walk 25 = .ok (.astore 6, 2) := by decide +kernel
theorem dX3_walk_27 : decode cX3_walk 27 = .ok (.aload 6, 2) := by decide +kernel
theorem dX3_walk_29 : decode cX3_walk 29 = .ok (.iconst 0, 1) := by decide +kernel
theorem dX3_walk_30 : decode cX3_walk 30 = .ok (.iaload, 1) := by decide +kernel
theorem dX3_walk_31 : decode cX3_walk 31 = .ok (.iload_n 2, 1) := by decide +kernel
theorem dX3_walk_32 : decode cX3_walk 32 = .ok (.if_icmp .eq 6, 3) := by decide +kernel
theorem dX3_walk_35 : decode cX3_walk 35 = .ok (.goto 64, 3) := by decide +kernel
theorem dX3_walk_38 : decode cX3_walk 38 = .ok (.aload 6, 2) := by decide +kernel
theorem dX3_walk_40 : decode cX3_walk 40 = .ok (.iconst 1, 1) := by decide +kernel
theorem dX3_walk_41 : decode cX3_walk 41 = .ok (.iaload, 1) := by decide +kernel
theorem dX3_walk_42 : decode cX3_walk 42 = .ok (.istore 7, 2) := by decide +kernel
theorem dX3_walk_44 : decode cX3_walk 44 = .ok (.aload_n 0, 1) := by decide +kernel
theorem dX3_walk_45 : decode cX3_walk 45 = .ok (.getfield 9, 3) := by decide +kernel
theorem dX3_walk_48 : decode cX3_walk 48 = .ok (.iload_n 3, 1) := by decide +kernel
theorem dX3_walk_49 : decode cX3_walk 49 = .ok (.iload 5, 2) := by decide +kernel
theorem dX3_walk_51 : decode cX3_walk 51 = .ok (.iastore, 1) := by decide +kernel
theorem dX3_walk_52 : decode cX3_walk 52 = .ok (.iload 7, 2) := by decide +kernel
theorem dX3_walk_54 : decode cX3_walk 54 = .ok (.aload_n 0, 1) := by decide +kernel
theorem dX3_walk_55 : decode cX3_walk 55 = .ok (.getfield 32, 3) := by decide +kernel
theorem dX3_walk_58 : decode cX3_walk 58 = .ok (.if_icmp .ne 14, 3) := by decide +kernel
theorem dX3_walk_61 : decode cX3_walk 61 = .ok (.aload_n 0, 1) := by decide +kernel
theorem dX3_walk_62 : decode cX3_walk 62 = .ok (.aload_n 1, 1) := by decide +kernel
theorem dX3_walk_63 : decode cX3_walk 63 = .ok (.iload_n 3, 1) := by decide +kernel
theorem dX3_walk_64 : decode cX3_walk 64 = .ok (.iconst 1, 1) := by decide +kernel
theorem dX3_walk_65 : decode cX3_walk 65 = .ok (.iadd, 1) := by decide +kernel
theorem dX3_walk_66 : decode cX3_walk 66 = .ok (.invokevirtual 65, 3) := by decide +kernel
theorem dX3_walk_69 : decode cX3_walk 69 = .ok (.goto 30, 3) := by decide +kernel
theorem dX3_walk_72 : decode cX3_walk 72 = .ok (.iload 4, 2) := by decide +kernel
theorem dX3_walk_74 : decode cX3_walk 74 = .ok (.iconst 1, 1) := by decide +kernel
theorem dX3_walk_75 : decode cX3_walk 75 = .ok (.iload 7, 2) := by decide +kernel
theorem dX3_walk_77 : decode cX3_walk 77 = .ok (.ishl, 1) := by decide +kernel
theorem dX3_walk_78 : decode cX3_walk 78 = .ok (.iand, 1) := by decide +kernel
theorem dX3_walk_79 : decode cX3_walk 79 = .ok (.ifCond .ne 20, 3) := by decide +kernel
theorem dX3_walk_82 : decode cX3_walk 82 = .ok (.aload_n 0, 1) := by decide +kernel
theorem dX3_walk_83 : decode cX3_walk 83 = .ok (.aload_n 1, 1) := by decide +kernel
theorem dX3_walk_84 : decode cX3_walk 84 = .ok (.iload 7, 2) := by decide +kernel
theorem dX3_walk_86 : decode cX3_walk 86 = .ok (.iload_n 3, 1) := by decide +kernel
theorem dX3_walk_87 : decode cX3_walk 87 = .ok (.iconst 1, 1) := by decide +kernel
theorem dX3_walk_88 : decode cX3_walk 88 = .ok (.iadd, 1) := by decide +kernel
theorem dX3_walk_89 : decode cX3_walk 89 = .ok (.iload 4, 2) := by decide +kernel
theorem dX3_walk_91 : decode cX3_walk 91 = .ok (.iconst 1, 1) := by decide +kernel
theorem dX3_walk_92 : decode cX3_walk 92 = .ok (.iload 7, 2) := by decide +kernel
theorem dX3_walk_94 : decode cX3_walk 94 = .ok (.ishl, 1) := by decide +kernel
theorem dX3_walk_95 : decode cX3_walk 95 = .ok (.ior, 1) := by decide +kernel
theorem dX3_walk_96 : decode cX3_walk 96 = .ok (.invokevirtual 49, 3) := by decide +kernel
theorem dX3_walk_99 : decode cX3_walk 99 = .ok (.iinc 5 1, 3) := by decide +kernel
theorem dX3_walk_102 : decode cX3_walk 102 = .ok (.goto (-93), 3) := by decide +kernel
theorem dX3_walk_105 : decode cX3_walk 105 = .ok (.return_, 1) := by decide +kernel
theorem dX3_weigh_0 : decode cX3_weigh 0 = .ok (.aload_n 1, 1) := by decide +kernel
theorem dX3_weigh_1 : decode cX3_weigh 1 = .ok (.aload_n 0, 1) := by decide +kernel
theorem dX3_weigh_2 : decode cX3_weigh 2 = .ok (.getfield 9, 3) := by decide +kernel
theorem dX3_weigh_5 : decode cX3_weigh 5 = .ok (.iload_n 2, 1) := by decide +kernel
theorem dX3_weigh_6 : decode cX3_weigh 6 = .ok (.aload_n 0, 1) := by decide +kernel
theorem dX3_weigh_7 : decode cX3_weigh 7 = .ok (.getfield 18, 3) := by decide +kernel
theorem dX3_weigh_10 : decode cX3_weigh 10 = .ok (.invokevirtual 69, 3) := by decide +kernel
theorem dX3_weigh_13 : decode cX3_weigh 13 = .ok (.aload_n 0, 1) := by decide +kernel
theorem dX3_weigh_14 : decode cX3_weigh 14 = .ok (.dup, 1) := by decide +kernel
theorem dX3_weigh_15 : decode cX3_weigh 15 = .ok (.getfield 39, 3) := by decide +kernel
theorem dX3_weigh_18 : decode cX3_weigh 18 = .ok (.iconst 1, 1) := by decide +kernel
theorem dX3_weigh_19 : decode cX3_weigh 19 = .ok (.iadd, 1) := by decide +kernel
theorem dX3_weigh_20 : decode cX3_weigh 20 = .ok (.putfield 39, 3) := by decide +kernel
theorem dX3_weigh_23 : decode cX3_weigh 23 = .ok (.aload_n 0, 1) := by decide +kernel
theorem dX3_weigh_24 : decode cX3_weigh 24 = .ok (.getfield 18, 3) := by decide +kernel
theorem dX3_weigh_27 : decode cX3_weigh 27 = .ok (.invokevirtual 73, 3) := by decide +kernel
theorem dX3_weigh_30 : decode cX3_weigh 30 = .ok (.ifCond .eq 16, 3) := by decide +kernel
theorem dX3_weigh_33 : decode cX3_weigh 33 = .ok (.aload_n 0, 1) := by decide +kernel
theorem dX3_weigh_34 : decode cX3_weigh 34 = .ok (.dup, 1) := by decide +kernel
theorem dX3_weigh_35 : decode cX3_weigh 35 = .ok (.getfield 42, 3) := by decide +kernel
theorem dX3_weigh_38 : decode cX3_weigh 38 = .ok (.iconst 1, 1) := by decide +kernel
theorem dX3_weigh_39 : decode cX3_weigh 39 = .ok (.iadd, 1) := by decide +kernel
theorem dX3_weigh_40 : decode cX3_weigh 40 = .ok (.putfield 42, 3) := by decide +kernel
theorem dX3_weigh_43 : decode cX3_weigh 43 = .ok (.goto 11, 3) := by decide +kernel
theorem dX3_weigh_46 : decode cX3_weigh 46 = .ok (.aload_n 0, 1) := by decide +kernel
theorem dX3_weigh_47 : decode cX3_weigh 47 = .ok (.getfield 35, 3) := by decide +kernel
theorem dX3_weigh_50 : decode cX3_weigh 50 = .ok (.ifCond .eq 4, 3) := by decide +kernel
theorem dX3_weigh_53 : decode cX3_weigh 53 = .ok (.return_, 1) := by decide +kernel
theorem dX3_weigh_54 : decode cX3_weigh 54 = .ok (.aload_n 0, 1) := by decide +kernel
theorem dX3_weigh_55 : decode cX3_weigh 55 = .ok (.getfield 28, 3) := by decide +kernel
theorem dX3_weigh_58 : decode cX3_weigh 58 = .ok (.ifCond .eq 11, 3) := by decide +kernel
theorem dX3_weigh_61 : decode cX3_weigh 61 = .ok (.aload_n 0, 1) := by decide +kernel
theorem dX3_weigh_62 : decode cX3_weigh 62 = .ok (.iload_n 2, 1) := by decide +kernel
theorem dX3_weigh_63 : decode cX3_weigh 63 = .ok (.invokevirtual 77, 3) := by decide +kernel
theorem dX3_weigh_66 : decode cX3_weigh 66 = .ok (.ifCond .eq 35, 3) := by decide +kernel
theorem dX3_weigh_69 : decode cX3_weigh 69 = .ok (.aload_n 0, 1) := by decide +kernel
theorem dX3_weigh_70 : decode cX3_weigh 70 = .ok (.getfield 9, 3) := by decide +kernel
theorem dX3_weigh_73 : decode cX3_weigh 73 = .ok (.iconst 0, 1) := by decide +kernel
theorem dX3_weigh_74 : decode cX3_weigh 74 = .ok (.aload_n 0, 1) := by decide +kernel
theorem dX3_weigh_75 : decode cX3_weigh 75 = .ok (.getfield 22, 3) := by decide +kernel
theorem dX3_weigh_78 : decode cX3_weigh 78 = .ok (.iconst 0, 1) := by decide +kernel
theorem dX3_weigh_79 : decode cX3_weigh 79 = .ok (.iload_n 2, 1) := by decide +kernel
theorem dX3_weigh_80 : decode cX3_weigh 80 = .ok (.invokestatic 81, 3) := by decide +kernel
theorem dX3_weigh_83 : decode cX3_weigh 83 = .ok (.aload_n 1, 1) := by decide +kernel
theorem dX3_weigh_84 : decode cX3_weigh 84 = .ok (.aload_n 0, 1) := by decide +kernel
theorem dX3_weigh_85 : decode cX3_weigh 85 = .ok (.getfield 22, 3) := by decide +kernel
theorem dX3_weigh_88 : decode cX3_weigh 88 = .ok (.iload_n 2, 1) := by decide +kernel
theorem dX3_weigh_89 : decode cX3_weigh 89 = .ok (.aload_n 0, 1) := by decide +kernel
theorem dX3_weigh_90 : decode cX3_weigh 90 = .ok (.getfield 25, 3) := by decide +kernel
theorem dX3_weigh_93 : decode cX3_weigh 93 = .ok (.invokevirtual 69, 3) := by decide +kernel
theorem dX3_weigh_96 : decode cX3_weigh 96 = .ok (.aload_n 0, 1) := by decide +kernel
theorem dX3_weigh_97 : decode cX3_weigh 97 = .ok (.iload_n 2, 1) := by decide +kernel
theorem dX3_weigh_98 : decode cX3_weigh 98 = .ok (.putfield 28, 3) := by decide +kernel
theorem dX3_weigh_101 : decode cX3_weigh 101 = .ok (.return_, 1) := by decide +kernel
theorem dX3_trailIsBetter_0 : decode cX3_trailIsBetter 0 = .ok (.aload_n 0, 1) := by decide +kernel
theorem dX3_trailIsBetter_1 : decode cX3_trailIsBetter 1 = .ok (.getfield 18, 3) := by decide +kernel
theorem dX3_trailIsBetter_4 : decode cX3_trailIsBetter 4 = .ok (.aload_n 0, 1) := by decide +kernel
theorem dX3_trailIsBetter_5 : decode cX3_trailIsBetter 5 = .ok (.getfield 25, 3) := by decide +kernel
theorem dX3_trailIsBetter_8 : decode cX3_trailIsBetter 8 = .ok (.invokevirtual 87, 3) := by decide +kernel
theorem dX3_trailIsBetter_11 : decode cX3_trailIsBetter 11 = .ok (.lstore_n 2, 1) := by decide +kernel
theorem dX3_trailIsBetter_12 : decode cX3_trailIsBetter 12 = .ok (.lload_n 2, 1) := by decide +kernel
theorem dX3_trailIsBetter_13 : decode cX3_trailIsBetter 13 = .ok (.lconst 0, 1) := by decide +kernel
theorem dX3_trailIsBetter_14 : decode cX3_trailIsBetter 14 = .ok (.lcmp, 1) := by decide +kernel
theorem dX3_trailIsBetter_15 : decode cX3_trailIsBetter 15 = .ok (.ifCond .eq 15, 3) := by decide +kernel
theorem dX3_trailIsBetter_18 : decode cX3_trailIsBetter 18 = .ok (.lload_n 2, 1) := by decide +kernel
theorem dX3_trailIsBetter_19 : decode cX3_trailIsBetter 19 = .ok (.lconst 0, 1) := by decide +kernel
theorem dX3_trailIsBetter_20 : decode cX3_trailIsBetter 20 = .ok (.lcmp, 1) := by decide +kernel
theorem dX3_trailIsBetter_21 : decode cX3_trailIsBetter 21 = .ok (.ifCond .le 7, 3) := by decide +kernel
theorem dX3_trailIsBetter_24 : decode cX3_trailIsBetter 24 = .ok (.iconst 1, 1) := by decide +kernel
theorem dX3_trailIsBetter_25 : decode cX3_trailIsBetter 25 = .ok (.goto 4, 3) := by decide +kernel
theorem dX3_trailIsBetter_28 : decode cX3_trailIsBetter 28 = .ok (.iconst 0, 1) := by decide +kernel
theorem dX3_trailIsBetter_29 : decode cX3_trailIsBetter 29 = .ok (.ireturn, 1) := by decide +kernel
theorem dX3_trailIsBetter_30 : decode cX3_trailIsBetter 30 = .ok (.iload_n 1, 1) := by decide +kernel
theorem dX3_trailIsBetter_31 : decode cX3_trailIsBetter 31 = .ok (.aload_n 0, 1) := by decide +kernel
theorem dX3_trailIsBetter_32 : decode cX3_trailIsBetter 32 = .ok (.getfield 28, 3) := by decide +kernel
theorem dX3_trailIsBetter_35 : decode cX3_trailIsBetter 35 = .ok (.if_icmp .eq 17, 3) := by decide +kernel
theorem dX3_trailIsBetter_38 : decode cX3_trailIsBetter 38 = .ok (.iload_n 1, 1) := by decide +kernel
theorem dX3_trailIsBetter_39 : decode cX3_trailIsBetter 39 = .ok (.aload_n 0, 1) := by decide +kernel
theorem dX3_trailIsBetter_40 : decode cX3_trailIsBetter 40 = .ok (.getfield 28, 3) := by decide +kernel
theorem dX3_trailIsBetter_43 : decode cX3_trailIsBetter 43 = .ok (.if_icmp .ge 7, 3) := by decide +kernel
theorem dX3_trailIsBetter_46 : decode cX3_trailIsBetter 46 = .ok (.iconst 1, 1) := by decide +kernel
theorem dX3_trailIsBetter_47 : decode cX3_trailIsBetter 47 = .ok (.goto 4, 3) := by decide +kernel
theorem dX3_trailIsBetter_50 : decode cX3_trailIsBetter 50 = .ok (.iconst 0, 1) := by decide +kernel
theorem dX3_trailIsBetter_51 : decode cX3_trailIsBetter 51 = .ok (.ireturn, 1) := by decide +kernel
theorem dX3_trailIsBetter_52 : decode cX3_trailIsBetter 52 = .ok (.iconst 0, 1) := by decide +kernel
theorem dX3_trailIsBetter_53 : decode cX3_trailIsBetter 53 = .ok (.istore 4, 2) := by decide +kernel
theorem dX3_trailIsBetter_55 : decode cX3_trailIsBetter 55 = .ok (.iload 4, 2) := by decide +kernel
theorem dX3_trailIsBetter_57 : decode cX3_trailIsBetter 57 = .ok (.iload_n 1, 1) := by decide +kernel
theorem dX3_trailIsBetter_58 : decode cX3_trailIsBetter 58 = .ok (.if_icmp .ge 49, 3) := by decide +kernel
theorem dX3_trailIsBetter_61 : decode cX3_trailIsBetter 61 = .ok (.aload_n 0, 1) := by decide +kernel
theorem dX3_trailIsBetter_62 : decode cX3_trailIsBetter 62 = .ok (.getfield 9, 3) := by decide +kernel
theorem dX3_trailIsBetter_65 : decode cX3_trailIsBetter 65 = .ok (.iload 4, 2) := by decide +kernel
theorem dX3_trailIsBetter_67 : decode cX3_trailIsBetter 67 = .ok (.iaload, 1) := by decide +kernel
theorem dX3_trailIsBetter_68 : decode cX3_trailIsBetter 68 = .ok (.aload_n 0, 1) := by decide +kernel
theorem dX3_trailIsBetter_69 : decode cX3_trailIsBetter 69 = .ok (.getfield 22, 3) := by decide +kernel
theorem dX3_trailIsBetter_72 : decode cX3_trailIsBetter 72 = .ok (.iload 4, 2) := by decide +kernel
theorem dX3_trailIsBetter_74 : decode cX3_trailIsBetter 74 = .ok (.iaload, 1) := by decide +kernel
theorem dX3_trailIsBetter_75 : decode cX3_trailIsBetter 75 = .ok (.if_icmp .eq 26, 3) := by decide +kernel
theorem dX3_trailIsBetter_78 : decode cX3_trailIsBetter 78 = .ok (.aload_n 0, 1) := by decide +kernel
theorem dX3_trailIsBetter_79 : decode cX3_trailIsBetter 79 = .ok (.getfield 9, 3) := by decide +kernel
theorem dX3_trailIsBetter_82 : decode cX3_trailIsBetter 82 = .ok (.iload 4, 2) := by decide +kernel
theorem dX3_trailIsBetter_84 : decode cX3_trailIsBetter 84 = .ok (.iaload, 1) := by decide +kernel
theorem dX3_trailIsBetter_85 : decode cX3_trailIsBetter 85 = .ok (.aload_n 0, 1) := by decide +kernel
theorem dX3_trailIsBetter_86 : decode cX3_trailIsBetter 86 = .ok (.getfield 22, 3) := by decide +kernel
theorem dX3_trailIsBetter_89 : decode cX3_trailIsBetter 89 = .ok (.iload 4, 2) := by decide +kernel
theorem dX3_trailIsBetter_91 : decode cX3_trailIsBetter 91 = .ok (.iaload, 1) := by decide +kernel
theorem dX3_trailIsBetter_92 : decode cX3_trailIsBetter 92 = .ok (.if_icmp .ge 7, 3) := by decide +kernel
theorem dX3_trailIsBetter_95 : decode cX3_trailIsBetter 95 = .ok (.iconst 1, 1) := by decide +kernel
theorem dX3_trailIsBetter_96 : decode cX3_trailIsBetter 96 = .ok (.goto 4, 3) := by decide +kernel
theorem dX3_trailIsBetter_99 : decode cX3_trailIsBetter 99 = .ok (.iconst 0, 1) := by decide +kernel
theorem dX3_trailIsBetter_100 : decode cX3_trailIsBetter 100 = .ok (.ireturn, 1) := by decide +kernel
theorem dX3_trailIsBetter_101 : decode cX3_trailIsBetter 101 = .ok (.iinc 4 1, 3) := by decide +kernel
theorem dX3_trailIsBetter_104 : decode cX3_trailIsBetter 104 = .ok (.goto (-49), 3) := by decide +kernel
theorem dX3_trailIsBetter_107 : decode cX3_trailIsBetter 107 = .ok (.iconst 0, 1) := by decide +kernel
theorem dX3_trailIsBetter_108 : decode cX3_trailIsBetter 108 = .ok (.ireturn, 1) := by decide +kernel
