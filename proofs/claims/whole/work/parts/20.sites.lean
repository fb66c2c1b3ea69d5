theorem tbm {w : Cond} (i : Nat) (h : tables_1[i]? = some w) : w ∈ lw_tbl := List.mem_append_right (k2_sels lw_privs) (List.mem_of_getElem? h)
theorem tbs {w : Cond} (i : Nat) (h : (k2_sels lw_privs)[i]? = some w) : w ∈ lw_tbl := List.mem_append_left tables_1 (List.mem_of_getElem? h)
theorem fl_X1_9 : FL RX1 9 TX1 0 := Or.inl (tbm 25 (by decide +kernel))
theorem fk_X1_9 : Cond.fieldLink RX1 9 (TX1 0).1 (TX1 0).2.1 (TX1 0).2.2.1 ∈ lw_tbl := tbm 25 (by decide +kernel)
theorem fl_X4_55 : FL RX4 55 TX1 0 := Or.inr (tbm 26 (by decide +kernel))
theorem fl_X3_53 : FL RX3 53 TX1 0 := Or.inr (tbm 27 (by decide +kernel))
theorem fl_X1_15 : FL RX1 15 TX1 1 := Or.inl (tbm 28 (by decide +kernel))
theorem fk_X1_15 : Cond.fieldLink RX1 15 (TX1 1).1 (TX1 1).2.1 (TX1 1).2.2.1 ∈ lw_tbl := tbm 28 (by decide +kernel)
theorem fl_X2_68 : FL RX2 68 TX1 1 := Or.inr (tbm 29 (by decide +kernel))
theorem fl_X4_59 : FL RX4 59 TX1 1 := Or.inr (tbm 30 (by decide +kernel))
theorem fl_X3_58 : FL RX3 58 TX1 1 := Or.inr (tbm 31 (by decide +kernel))
theorem fl_X1_20 : FL RX1 20 TX1 2 := Or.inl (tbm 32 (by decide +kernel))
theorem fk_X1_20 : Cond.fieldLink RX1 20 (TX1 2).1 (TX1 2).2.1 (TX1 2).2.2.1 ∈ lw_tbl := tbm 32 (by decide +kernel)
theorem fl_X2_71 : FL RX2 71 TX1 2 := Or.inr (tbm 33 (by decide +kernel))
theorem fl_X4_76 : FL RX4 76 TX1 2 := Or.inr (tbm 34 (by decide +kernel))
theorem fl_X3_61 : FL RX3 61 TX1 2 := Or.inr (tbm 35 (by decide +kernel))
theorem fl_X1_23 : FL RX1 23 TX1 3 := Or.inl (tbm 36 (by decide +kernel))
theorem fk_X1_23 : Cond.fieldLink RX1 23 (TX1 3).1 (TX1 3).2.1 (TX1 3).2.2.1 ∈ lw_tbl := tbm 36 (by decide +kernel)
theorem fl_X4_123 : FL RX4 123 TX1 3 := Or.inr (tbm 37 (by decide +kernel))
theorem fl_X1_27 : FL RX1 27 TX1 4 := Or.inl (tbm 38 (by decide +kernel))
theorem fk_X1_27 : Cond.fieldLink RX1 27 (TX1 4).1 (TX1 4).2.1 (TX1 4).2.2.1 ∈ lw_tbl := tbm 38 (by decide +kernel)
theorem fl_X4_120 : FL RX4 120 TX1 4 := Or.inr (tbm 39 (by decide +kernel))
theorem fl_X0_7 : FL RX0 7 TX0 0 := Or.inl (tbm 65 (by decide +kernel))
theorem fk_X0_7 : Cond.fieldLink RX0 7 (TX0 0).1 (TX0 0).2.1 (TX0 0).2.2.1 ∈ lw_tbl := tbm 65 (by decide +kernel)
theorem fl_X0_13 : FL RX0 13 TX0 1 := Or.inl (tbm 66 (by decide +kernel))
theorem fk_X0_13 : Cond.fieldLink RX0 13 (TX0 1).1 (TX0 1).2.1 (TX0 1).2.2.1 ∈ lw_tbl := tbm 66 (by decide +kernel)
theorem fl_X3_9 : FL RX3 9 TX3 0 := Or.inl (tbm 73 (by decide +kernel))
theorem fk_X3_9 : Cond.fieldLink RX3 9 (TX3 0).1 (TX3 0).2.1 (TX3 0).2.2.1 ∈ lw_tbl := tbm 73 (by decide +kernel)
theorem fl_X3_18 : FL RX3 18 TX3 1 := Or.inl (tbm 74 (by decide +kernel))
theorem fk_X3_18 : Cond.fieldLink RX3 18 (TX3 1).1 (TX3 1).2.1 (TX3 1).2.2.1 ∈ lw_tbl := tbm 74 (by decide +kernel)
theorem fl_X3_22 : FL RX3 22 TX3 2 := Or.inl (tbm 75 (by decide +kernel))
theorem fk_X3_22 : Cond.fieldLink RX3 22 (TX3 2).1 (TX3 2).2.1 (TX3 2).2.2.1 ∈ lw_tbl := tbm 75 (by decide +kernel)
theorem fl_X4_156 : FL RX4 156 TX3 2 := Or.inr (tbm 76 (by decide +kernel))
theorem fl_X3_25 : FL RX3 25 TX3 3 := Or.inl (tbm 77 (by decide +kernel))
theorem fk_X3_25 : Cond.fieldLink RX3 25 (TX3 3).1 (TX3 3).2.1 (TX3 3).2.2.1 ∈ lw_tbl := tbm 77 (by decide +kernel)
theorem fl_X3_28 : FL RX3 28 TX3 4 := Or.inl (tbm 78 (by decide +kernel))
theorem fk_X3_28 : Cond.fieldLink RX3 28 (TX3 4).1 (TX3 4).2.1 (TX3 4).2.2.1 ∈ lw_tbl := tbm 78 (by decide +kernel)
theorem fl_X4_153 : FL RX4 153 TX3 4 := Or.inr (tbm 79 (by decide +kernel))
theorem fl_X3_32 : FL RX3 32 TX3 5 := Or.inl (tbm 80 (by decide +kernel))
theorem fk_X3_32 : Cond.fieldLink RX3 32 (TX3 5).1 (TX3 5).2.1 (TX3 5).2.2.1 ∈ lw_tbl := tbm 80 (by decide +kernel)
theorem fl_X3_35 : FL RX3 35 TX3 6 := Or.inl (tbm 81 (by decide +kernel))
theorem fk_X3_35 : Cond.fieldLink RX3 35 (TX3 6).1 (TX3 6).2.1 (TX3 6).2.2.1 ∈ lw_tbl := tbm 81 (by decide +kernel)
theorem fl_X3_39 : FL RX3 39 TX3 7 := Or.inl (tbm 82 (by decide +kernel))
theorem fk_X3_39 : Cond.fieldLink RX3 39 (TX3 7).1 (TX3 7).2.1 (TX3 7).2.2.1 ∈ lw_tbl := tbm 82 (by decide +kernel)
theorem fl_X4_144 : FL RX4 144 TX3 7 := Or.inr (tbm 83 (by decide +kernel))
theorem fl_X3_42 : FL RX3 42 TX3 8 := Or.inl (tbm 84 (by decide +kernel))
theorem fk_X3_42 : Cond.fieldLink RX3 42 (TX3 8).1 (TX3 8).2.1 (TX3 8).2.2.1 ∈ lw_tbl := tbm 84 (by decide +kernel)
theorem fl_X4_147 : FL RX4 147 TX3 8 := Or.inr (tbm 85 (by decide +kernel))
theorem fl_X2_9 : FL RX2 9 TX2 0 := Or.inl (tbm 112 (by decide +kernel))
theorem fk_X2_9 : Cond.fieldLink RX2 9 (TX2 0).1 (TX2 0).2.1 (TX2 0).2.2.1 ∈ lw_tbl := tbm 112 (by decide +kernel)
theorem fl_X2_15 : FL RX2 15 TX2 1 := Or.inl (tbm 113 (by decide +kernel))
theorem fk_X2_15 : Cond.fieldLink RX2 15 (TX2 1).1 (TX2 1).2.1 (TX2 1).2.2.1 ∈ lw_tbl := tbm 113 (by decide +kernel)
theorem fl_X2_18 : FL RX2 18 TX2 2 := Or.inl (tbm 114 (by decide +kernel))
theorem fk_X2_18 : Cond.fieldLink RX2 18 (TX2 2).1 (TX2 2).2.1 (TX2 2).2.2.1 ∈ lw_tbl := tbm 114 (by decide +kernel)
theorem fl_X2_21 : FL RX2 21 TX2 3 := Or.inl (tbm 115 (by decide +kernel))
theorem fk_X2_21 : Cond.fieldLink RX2 21 (TX2 3).1 (TX2 3).2.1 (TX2 3).2.2.1 ∈ lw_tbl := tbm 115 (by decide +kernel)
theorem fl_X2_24 : FL RX2 24 TX2 4 := Or.inl (tbm 116 (by decide +kernel))
theorem fk_X2_24 : Cond.fieldLink RX2 24 (TX2 4).1 (TX2 4).2.1 (TX2 4).2.2.1 ∈ lw_tbl := tbm 116 (by decide +kernel)
theorem fl_X2_27 : FL RX2 27 TX2 5 := Or.inl (tbm 117 (by decide +kernel))
theorem fk_X2_27 : Cond.fieldLink RX2 27 (TX2 5).1 (TX2 5).2.1 (TX2 5).2.2.1 ∈ lw_tbl := tbm 117 (by decide +kernel)
theorem fl_X2_33 : FL RX2 33 TX2 6 := Or.inl (tbm 118 (by decide +kernel))
theorem fk_X2_33 : Cond.fieldLink RX2 33 (TX2 6).1 (TX2 6).2.1 (TX2 6).2.2.1 ∈ lw_tbl := tbm 118 (by decide +kernel)
theorem fl_X2_36 : FL RX2 36 TX2 7 := Or.inl (tbm 119 (by decide +kernel))
theorem fk_X2_36 : Cond.fieldLink RX2 36 (TX2 7).1 (TX2 7).2.1 (TX2 7).2.2.1 ∈ lw_tbl := tbm 119 (by decide +kernel)
theorem fl_X2_39 : FL RX2 39 TX2 8 := Or.inl (tbm 120 (by decide +kernel))
theorem fk_X2_39 : Cond.fieldLink RX2 39 (TX2 8).1 (TX2 8).2.1 (TX2 8).2.2.1 ∈ lw_tbl := tbm 120 (by decide +kernel)
theorem fl_X2_43 : FL RX2 43 TX2 9 := Or.inl (tbm 121 (by decide +kernel))
theorem fk_X2_43 : Cond.fieldLink RX2 43 (TX2 9).1 (TX2 9).2.1 (TX2 9).2.2.1 ∈ lw_tbl := tbm 121 (by decide +kernel)
theorem fl_X2_47 : FL RX2 47 TX2 10 := Or.inl (tbm 122 (by decide +kernel))
theorem fk_X2_47 : Cond.fieldLink RX2 47 (TX2 10).1 (TX2 10).2.1 (TX2 10).2.2.1 ∈ lw_tbl := tbm 122 (by decide +kernel)
theorem fl_X2_50 : FL RX2 50 TX2 11 := Or.inl (tbm 123 (by decide +kernel))
theorem fk_X2_50 : Cond.fieldLink RX2 50 (TX2 11).1 (TX2 11).2.1 (TX2 11).2.2.1 ∈ lw_tbl := tbm 123 (by decide +kernel)
theorem fl_X2_53 : FL RX2 53 TX2 12 := Or.inl (tbm 124 (by decide +kernel))
theorem fk_X2_53 : Cond.fieldLink RX2 53 (TX2 12).1 (TX2 12).2.1 (TX2 12).2.2.1 ∈ lw_tbl := tbm 124 (by decide +kernel)
theorem fl_X2_56 : FL RX2 56 TX2 13 := Or.inl (tbm 125 (by decide +kernel))
theorem fk_X2_56 : Cond.fieldLink RX2 56 (TX2 13).1 (TX2 13).2.1 (TX2 13).2.2.1 ∈ lw_tbl := tbm 125 (by decide +kernel)
theorem fl_X2_59 : FL RX2 59 TX2 14 := Or.inl (tbm 126 (by decide +kernel))
theorem fk_X2_59 : Cond.fieldLink RX2 59 (TX2 14).1 (TX2 14).2.1 (TX2 14).2.2.1 ∈ lw_tbl := tbm 126 (by decide +kernel)
theorem fl_X2_62 : FL RX2 62 TX2 15 := Or.inl (tbm 127 (by decide +kernel))
theorem fk_X2_62 : Cond.fieldLink RX2 62 (TX2 15).1 (TX2 15).2.1 (TX2 15).2.2.1 ∈ lw_tbl := tbm 127 (by decide +kernel)
theorem fl_X2_65 : FL RX2 65 TX2 16 := Or.inl (tbm 128 (by decide +kernel))
theorem fk_X2_65 : Cond.fieldLink RX2 65 (TX2 16).1 (TX2 16).2.1 (TX2 16).2.2.1 ∈ lw_tbl := tbm 128 (by decide +kernel)
theorem fl_X4_12 : FL RX4 12 TX4 0 := Or.inl (tbm 167 (by decide +kernel))
theorem fk_X4_12 : Cond.fieldLink RX4 12 (TX4 0).1 (TX4 0).2.1 (TX4 0).2.2.1 ∈ lw_tbl := tbm 167 (by decide +kernel)
theorem fl_X4_16 : FL RX4 16 TX4 1 := Or.inl (tbm 168 (by decide +kernel))
theorem fk_X4_16 : Cond.fieldLink RX4 16 (TX4 1).1 (TX4 1).2.1 (TX4 1).2.2.1 ∈ lw_tbl := tbm 168 (by decide +kernel)
theorem fl_X4_20 : FL RX4 20 TX4 2 := Or.inl (tbm 169 (by decide +kernel))
theorem fk_X4_20 : Cond.fieldLink RX4 20 (TX4 2).1 (TX4 2).2.1 (TX4 2).2.2.1 ∈ lw_tbl := tbm 169 (by decide +kernel)
theorem fl_X4_27 : FL RX4 27 TX4 3 := Or.inl (tbm 170 (by decide +kernel))
theorem fk_X4_27 : Cond.fieldLink RX4 27 (TX4 3).1 (TX4 3).2.1 (TX4 3).2.2.1 ∈ lw_tbl := tbm 170 (by decide +kernel)
theorem fl_X4_34 : FL RX4 34 TX4 4 := Or.inl (tbm 171 (by decide +kernel))
theorem fk_X4_34 : Cond.fieldLink RX4 34 (TX4 4).1 (TX4 4).2.1 (TX4 4).2.2.1 ∈ lw_tbl := tbm 171 (by decide +kernel)
theorem fl_X4_41 : FL RX4 41 TX4 5 := Or.inl (tbm 172 (by decide +kernel))
theorem fk_X4_41 : Cond.fieldLink RX4 41 (TX4 5).1 (TX4 5).2.1 (TX4 5).2.2.1 ∈ lw_tbl := tbm 172 (by decide +kernel)
theorem fl_X4_45 : FL RX4 45 TX4 6 := Or.inl (tbm 173 (by decide +kernel))
theorem fk_X4_45 : Cond.fieldLink RX4 45 (TX4 6).1 (TX4 6).2.1 (TX4 6).2.2.1 ∈ lw_tbl := tbm 173 (by decide +kernel)
theorem fl_X4_48 : FL RX4 48 TX4 7 := Or.inl (tbm 174 (by decide +kernel))
theorem fk_X4_48 : Cond.fieldLink RX4 48 (TX4 7).1 (TX4 7).2.1 (TX4 7).2.2.1 ∈ lw_tbl := tbm 174 (by decide +kernel)
theorem fl_X5_81 : FL RX5 81 TX5 0 := Or.inl (tbm 428 (by decide +kernel))
theorem fk_X5_81 : Cond.fieldLink RX5 81 (TX5 0).1 (TX5 0).2.1 (TX5 0).2.2.1 ∈ lw_tbl := tbm 428 (by decide +kernel)
theorem fl_X5_7 : FL RX5 7 TX5 1 := Or.inl (tbm 429 (by decide +kernel))
theorem fk_X5_7 : Cond.fieldLink RX5 7 (TX5 1).1 (TX5 1).2.1 (TX5 1).2.2.1 ∈ lw_tbl := tbm 429 (by decide +kernel)
theorem fl_X5_13 : FL RX5 13 TX5 2 := Or.inl (tbm 430 (by decide +kernel))
theorem fk_X5_13 : Cond.fieldLink RX5 13 (TX5 2).1 (TX5 2).2.1 (TX5 2).2.2.1 ∈ lw_tbl := tbm 430 (by decide +kernel)
theorem fl_X5_16 : FL RX5 16 TX5 3 := Or.inl (tbm 431 (by decide +kernel))
theorem fk_X5_16 : Cond.fieldLink RX5 16 (TX5 3).1 (TX5 3).2.1 (TX5 3).2.2.1 ∈ lw_tbl := tbm 431 (by decide +kernel)
theorem fl_X5_19 : FL RX5 19 TX5 4 := Or.inl (tbm 432 (by decide +kernel))
theorem fk_X5_19 : Cond.fieldLink RX5 19 (TX5 4).1 (TX5 4).2.1 (TX5 4).2.2.1 ∈ lw_tbl := tbm 432 (by decide +kernel)
theorem fl_X5_22 : FL RX5 22 TX5 5 := Or.inl (tbm 433 (by decide +kernel))
theorem fk_X5_22 : Cond.fieldLink RX5 22 (TX5 5).1 (TX5 5).2.1 (TX5 5).2.2.1 ∈ lw_tbl := tbm 433 (by decide +kernel)
theorem fl_X5_25 : FL RX5 25 TX5 6 := Or.inl (tbm 434 (by decide +kernel))
theorem fk_X5_25 : Cond.fieldLink RX5 25 (TX5 6).1 (TX5 6).2.1 (TX5 6).2.2.1 ∈ lw_tbl := tbm 434 (by decide +kernel)
theorem fl_X5_28 : FL RX5 28 TX5 7 := Or.inl (tbm 435 (by decide +kernel))
theorem fk_X5_28 : Cond.fieldLink RX5 28 (TX5 7).1 (TX5 7).2.1 (TX5 7).2.2.1 ∈ lw_tbl := tbm 435 (by decide +kernel)
theorem fl_X5_31 : FL RX5 31 TX5 8 := Or.inl (tbm 436 (by decide +kernel))
theorem fk_X5_31 : Cond.fieldLink RX5 31 (TX5 8).1 (TX5 8).2.1 (TX5 8).2.2.1 ∈ lw_tbl := tbm 436 (by decide +kernel)
theorem fl_X5_34 : FL RX5 34 TX5 9 := Or.inl (tbm 437 (by decide +kernel))
theorem fk_X5_34 : Cond.fieldLink RX5 34 (TX5 9).1 (TX5 9).2.1 (TX5 9).2.2.1 ∈ lw_tbl := tbm 437 (by decide +kernel)
theorem fl_X5_37 : FL RX5 37 TX5 10 := Or.inl (tbm 438 (by decide +kernel))
theorem fk_X5_37 : Cond.fieldLink RX5 37 (TX5 10).1 (TX5 10).2.1 (TX5 10).2.2.1 ∈ lw_tbl := tbm 438 (by decide +kernel)
theorem fl_X5_40 : FL RX5 40 TX5 11 := Or.inl (tbm 439 (by decide +kernel))
theorem fk_X5_40 : Cond.fieldLink RX5 40 (TX5 11).1 (TX5 11).2.1 (TX5 11).2.2.1 ∈ lw_tbl := tbm 439 (by decide +kernel)
theorem fl_X5_43 : FL RX5 43 TX5 12 := Or.inl (tbm 440 (by decide +kernel))
theorem fk_X5_43 : Cond.fieldLink RX5 43 (TX5 12).1 (TX5 12).2.1 (TX5 12).2.2.1 ∈ lw_tbl := tbm 440 (by decide +kernel)
theorem fl_X5_46 : FL RX5 46 TX5 13 := Or.inl (tbm 441 (by decide +kernel))
theorem fk_X5_46 : Cond.fieldLink RX5 46 (TX5 13).1 (TX5 13).2.1 (TX5 13).2.2.1 ∈ lw_tbl := tbm 441 (by decide +kernel)
theorem fl_X5_50 : FL RX5 50 TX5 14 := Or.inl (tbm 442 (by decide +kernel))
theorem fk_X5_50 : Cond.fieldLink RX5 50 (TX5 14).1 (TX5 14).2.1 (TX5 14).2.2.1 ∈ lw_tbl := tbm 442 (by decide +kernel)
theorem fl_X5_104 : FL RX5 104 TX5 15 := Or.inl (tbm 443 (by decide +kernel))
theorem fk_X5_104 : Cond.fieldLink RX5 104 (TX5 15).1 (TX5 15).2.1 (TX5 15).2.2.1 ∈ lw_tbl := tbm 443 (by decide +kernel)
theorem fl_X5_108 : FL RX5 108 TX5 16 := Or.inl (tbm 444 (by decide +kernel))
theorem fk_X5_108 : Cond.fieldLink RX5 108 (TX5 16).1 (TX5 16).2.1 (TX5 16).2.2.1 ∈ lw_tbl := tbm 444 (by decide +kernel)
theorem fl_X5_53 : FL RX5 53 TX5 17 := Or.inl (tbm 445 (by decide +kernel))
theorem fk_X5_53 : Cond.fieldLink RX5 53 (TX5 17).1 (TX5 17).2.1 (TX5 17).2.2.1 ∈ lw_tbl := tbm 445 (by decide +kernel)
theorem fl_X5_56 : FL RX5 56 TX5 18 := Or.inl (tbm 446 (by decide +kernel))
theorem fk_X5_56 : Cond.fieldLink RX5 56 (TX5 18).1 (TX5 18).2.1 (TX5 18).2.2.1 ∈ lw_tbl := tbm 446 (by decide +kernel)
theorem fl_X5_59 : FL RX5 59 TX5 19 := Or.inl (tbm 447 (by decide +kernel))
theorem fk_X5_59 : Cond.fieldLink RX5 59 (TX5 19).1 (TX5 19).2.1 (TX5 19).2.2.1 ∈ lw_tbl := tbm 447 (by decide +kernel)
theorem fl_X5_62 : FL RX5 62 TX5 20 := Or.inl (tbm 448 (by decide +kernel))
theorem fk_X5_62 : Cond.fieldLink RX5 62 (TX5 20).1 (TX5 20).2.1 (TX5 20).2.2.1 ∈ lw_tbl := tbm 448 (by decide +kernel)
theorem fl_X5_65 : FL RX5 65 TX5 21 := Or.inl (tbm 449 (by decide +kernel))
theorem fk_X5_65 : Cond.fieldLink RX5 65 (TX5 21).1 (TX5 21).2.1 (TX5 21).2.2.1 ∈ lw_tbl := tbm 449 (by decide +kernel)
theorem fl_X5_68 : FL RX5 68 TX5 22 := Or.inl (tbm 450 (by decide +kernel))
theorem fk_X5_68 : Cond.fieldLink RX5 68 (TX5 22).1 (TX5 22).2.1 (TX5 22).2.2.1 ∈ lw_tbl := tbm 450 (by decide +kernel)
theorem fl_X5_122 : FL RX5 122 TX5 23 := Or.inl (tbm 451 (by decide +kernel))
theorem fk_X5_122 : Cond.fieldLink RX5 122 (TX5 23).1 (TX5 23).2.1 (TX5 23).2.2.1 ∈ lw_tbl := tbm 451 (by decide +kernel)
theorem fl_X5_125 : FL RX5 125 TX5 24 := Or.inl (tbm 452 (by decide +kernel))
theorem fk_X5_125 : Cond.fieldLink RX5 125 (TX5 24).1 (TX5 24).2.1 (TX5 24).2.2.1 ∈ lw_tbl := tbm 452 (by decide +kernel)
theorem fl_X5_71 : FL RX5 71 TX5 25 := Or.inl (tbm 453 (by decide +kernel))
theorem fk_X5_71 : Cond.fieldLink RX5 71 (TX5 25).1 (TX5 25).2.1 (TX5 25).2.2.1 ∈ lw_tbl := tbm 453 (by decide +kernel)
theorem fl_X5_74 : FL RX5 74 TX5 26 := Or.inl (tbm 454 (by decide +kernel))
theorem fk_X5_74 : Cond.fieldLink RX5 74 (TX5 26).1 (TX5 26).2.1 (TX5 26).2.2.1 ∈ lw_tbl := tbm 454 (by decide +kernel)
theorem fl_X5_151 : FL RX5 151 TX5 27 := Or.inl (tbm 455 (by decide +kernel))
theorem fk_X5_151 : Cond.fieldLink RX5 151 (TX5 27).1 (TX5 27).2.1 (TX5 27).2.2.1 ∈ lw_tbl := tbm 455 (by decide +kernel)
theorem fl_X5_157 : FL RX5 157 TX5 28 := Or.inl (tbm 456 (by decide +kernel))
theorem fk_X5_157 : Cond.fieldLink RX5 157 (TX5 28).1 (TX5 28).2.1 (TX5 28).2.2.1 ∈ lw_tbl := tbm 456 (by decide +kernel)
theorem fl_X5_154 : FL RX5 154 TX5 29 := Or.inl (tbm 457 (by decide +kernel))
theorem fk_X5_154 : Cond.fieldLink RX5 154 (TX5 29).1 (TX5 29).2.1 (TX5 29).2.2.1 ∈ lw_tbl := tbm 457 (by decide +kernel)
theorem fl_X5_163 : FL RX5 163 TX5 30 := Or.inl (tbm 458 (by decide +kernel))
theorem fk_X5_163 : Cond.fieldLink RX5 163 (TX5 30).1 (TX5 30).2.1 (TX5 30).2.2.1 ∈ lw_tbl := tbm 458 (by decide +kernel)
theorem fl_X5_166 : FL RX5 166 TX5 31 := Or.inl (tbm 459 (by decide +kernel))
theorem fk_X5_166 : Cond.fieldLink RX5 166 (TX5 31).1 (TX5 31).2.1 (TX5 31).2.2.1 ∈ lw_tbl := tbm 459 (by decide +kernel)
theorem fl_X5_77 : FL RX5 77 TX5 32 := Or.inl (tbm 460 (by decide +kernel))
theorem fk_X5_77 : Cond.fieldLink RX5 77 (TX5 32).1 (TX5 32).2.1 (TX5 32).2.2.1 ∈ lw_tbl := tbm 460 (by decide +kernel)
theorem mi_X4_init : MI yX4_init cX4_init 2 none 0 := ⟨tbm 13 (by decide +kernel), tbm 1 (by decide +kernel), by decide +kernel, by decide +kernel, by decide +kernel, by decide⟩
theorem mn_X4_init : Cond.instanceMethod yX4_init ∈ lw_tbl := tbm 12 (by decide +kernel)
theorem mi_X1_init : MI yX1_init cX1_init 1 none 0 := ⟨tbm 21 (by decide +kernel), tbm 2 (by decide +kernel), by decide +kernel, by decide +kernel, by decide +kernel, by decide⟩
theorem mn_X1_init : Cond.instanceMethod yX1_init ∈ lw_tbl := tbm 20 (by decide +kernel)
theorem mi_X3_init : MI yX3_init cX3_init 1 none 0 := ⟨tbm 57 (by decide +kernel), tbm 3 (by decide +kernel), by decide +kernel, by decide +kernel, by decide +kernel, by decide⟩
theorem mn_X3_init : Cond.instanceMethod yX3_init ∈ lw_tbl := tbm 56 (by decide +kernel)
theorem mi_X0_init : MI yX0_init cX0_init 1 none 0 := ⟨tbm 63 (by decide +kernel), tbm 4 (by decide +kernel), by decide +kernel, by decide +kernel, by decide +kernel, by decide⟩
theorem mn_X0_init : Cond.instanceMethod yX0_init ∈ lw_tbl := tbm 62 (by decide +kernel)
theorem mi_X2_init : MI yX2_init cX2_init 1 none 0 := ⟨tbm 109 (by decide +kernel), tbm 5 (by decide +kernel), by decide +kernel, by decide +kernel, by decide +kernel, by decide⟩
theorem mn_X2_init : Cond.instanceMethod yX2_init ∈ lw_tbl := tbm 108 (by decide +kernel)
theorem mi_X4_posts : MI yX4_posts cX4_posts 2 (some .boolean) 1 := ⟨tbm 195 (by decide +kernel), tbm 1 (by decide +kernel), by decide +kernel, by decide +kernel, by decide +kernel, by decide⟩
theorem mn_X4_posts : Cond.instanceMethod yX4_posts ∈ lw_tbl := tbm 193 (by decide +kernel)
theorem mv_X4_posts : MV yX4_posts := ⟨mn_X4_posts, tbm 194 (by decide +kernel)⟩
theorem mi_X4_within : MI yX4_within cX4_within 3 (some .boolean) 3 := ⟨tbm 198 (by decide +kernel), tbm 1 (by decide +kernel), by decide +kernel, by decide +kernel, by decide +kernel, by decide⟩
theorem ms_X4_within : Cond.static yX4_within ∈ lw_tbl := tbm 197 (by decide +kernel)
theorem mi_X1_dropRow : MI yX1_dropRow cX1_dropRow 1 none 0 := ⟨tbm 202 (by decide +kernel), tbm 2 (by decide +kernel), by decide +kernel, by decide +kernel, by decide +kernel, by decide⟩
theorem mn_X1_dropRow : Cond.instanceMethod yX1_dropRow ∈ lw_tbl := tbm 200 (by decide +kernel)
theorem mv_X1_dropRow : MV yX1_dropRow := ⟨mn_X1_dropRow, tbm 201 (by decide +kernel)⟩
theorem mi_X4_lane : MI yX4_lane cX4_lane 8 (some .int) 5 := ⟨tbm 206 (by decide +kernel), tbm 1 (by decide +kernel), by decide +kernel, by decide +kernel, by decide +kernel, by decide⟩
theorem mn_X4_lane : Cond.instanceMethod yX4_lane ∈ lw_tbl := tbm 204 (by decide +kernel)
theorem mv_X4_lane : MV yX4_lane := ⟨mn_X4_lane, tbm 205 (by decide +kernel)⟩
theorem mi_X1_canLead : MI yX1_canLead cX1_canLead 3 (some .boolean) 2 := ⟨tbm 210 (by decide +kernel), tbm 2 (by decide +kernel), by decide +kernel, by decide +kernel, by decide +kernel, by decide⟩
theorem mn_X1_canLead : Cond.instanceMethod yX1_canLead ∈ lw_tbl := tbm 208 (by decide +kernel)
theorem mv_X1_canLead : MV yX1_canLead := ⟨mn_X1_canLead, tbm 209 (by decide +kernel)⟩
theorem mi_X1_hasPost : MI yX1_hasPost cX1_hasPost 2 (some .boolean) 1 := ⟨tbm 214 (by decide +kernel), tbm 2 (by decide +kernel), by decide +kernel, by decide +kernel, by decide +kernel, by decide⟩
theorem mn_X1_hasPost : Cond.instanceMethod yX1_hasPost ∈ lw_tbl := tbm 212 (by decide +kernel)
theorem mv_X1_hasPost : MV yX1_hasPost := ⟨mn_X1_hasPost, tbm 213 (by decide +kernel)⟩
theorem mi_X1_lastPost : MI yX1_lastPost cX1_lastPost 1 (some .int) 0 := ⟨tbm 218 (by decide +kernel), tbm 2 (by decide +kernel), by decide +kernel, by decide +kernel, by decide +kernel, by decide⟩
theorem mn_X1_lastPost : Cond.instanceMethod yX1_lastPost ∈ lw_tbl := tbm 216 (by decide +kernel)
theorem mv_X1_lastPost : MV yX1_lastPost := ⟨mn_X1_lastPost, tbm 217 (by decide +kernel)⟩
theorem mi_X4_isRoom : MI yX4_isRoom cX4_isRoom 1 (some .boolean) 1 := ⟨tbm 222 (by decide +kernel), tbm 1 (by decide +kernel), by decide +kernel, by decide +kernel, by decide +kernel, by decide⟩
theorem ms_X4_isRoom : Cond.static yX4_isRoom ∈ lw_tbl := tbm 221 (by decide +kernel)
theorem mi_X4_isShare : MI yX4_isShare cX4_isShare 2 (some .boolean) 2 := ⟨tbm 225 (by decide +kernel), tbm 1 (by decide +kernel), by decide +kernel, by decide +kernel, by decide +kernel, by decide⟩
theorem ms_X4_isShare : Cond.static yX4_isShare ∈ lw_tbl := tbm 224 (by decide +kernel)
theorem mi_X4_room : MI yX4_room cX4_room 3 (some .boolean) 2 := ⟨tbm 229 (by decide +kernel), tbm 1 (by decide +kernel), by decide +kernel, by decide +kernel, by decide +kernel, by decide⟩
theorem mn_X4_room : Cond.instanceMethod yX4_room ∈ lw_tbl := tbm 227 (by decide +kernel)
theorem mv_X4_room : MV yX4_room := ⟨mn_X4_room, tbm 228 (by decide +kernel)⟩
theorem mi_X1_hasLane : MI yX1_hasLane cX1_hasLane 2 (some .boolean) 1 := ⟨tbm 233 (by decide +kernel), tbm 2 (by decide +kernel), by decide +kernel, by decide +kernel, by decide +kernel, by decide⟩
theorem mn_X1_hasLane : Cond.instanceMethod yX1_hasLane ∈ lw_tbl := tbm 231 (by decide +kernel)
theorem mv_X1_hasLane : MV yX1_hasLane := ⟨mn_X1_hasLane, tbm 232 (by decide +kernel)⟩
theorem mi_X4_share : MI yX4_share cX4_share 5 (some .boolean) 4 := ⟨tbm 237 (by decide +kernel), tbm 1 (by decide +kernel), by decide +kernel, by decide +kernel, by decide +kernel, by decide⟩
theorem mn_X4_share : Cond.instanceMethod yX4_share ∈ lw_tbl := tbm 235 (by decide +kernel)
theorem mv_X4_share : MV yX4_share := ⟨mn_X4_share, tbm 236 (by decide +kernel)⟩
theorem mi_X4_tell : MI yX4_tell cX4_tell 3 (some .int) 2 := ⟨tbm 241 (by decide +kernel), tbm 1 (by decide +kernel), by decide +kernel, by decide +kernel, by decide +kernel, by decide⟩
theorem mn_X4_tell : Cond.instanceMethod yX4_tell ∈ lw_tbl := tbm 239 (by decide +kernel)
theorem mv_X4_tell : MV yX4_tell := ⟨mn_X4_tell, tbm 240 (by decide +kernel)⟩
theorem mi_X4_most : MI yX4_most cX4_most 3 (some .long) 2 := ⟨tbm 245 (by decide +kernel), tbm 1 (by decide +kernel), by decide +kernel, by decide +kernel, by decide +kernel, by decide⟩
theorem mn_X4_most : Cond.instanceMethod yX4_most ∈ lw_tbl := tbm 243 (by decide +kernel)
theorem mv_X4_most : MV yX4_most := ⟨mn_X4_most, tbm 244 (by decide +kernel)⟩
theorem mi_X2_load : MI yX2_load cX2_load 5 none 2 := ⟨tbm 250 (by decide +kernel), tbm 5 (by decide +kernel), by decide +kernel, by decide +kernel, by decide +kernel, by decide⟩
theorem mn_X2_load : Cond.instanceMethod yX2_load ∈ lw_tbl := tbm 248 (by decide +kernel)
theorem mv_X2_load : MV yX2_load := ⟨mn_X2_load, tbm 249 (by decide +kernel)⟩
theorem mi_X2_upperOfShare : MI yX2_upperOfShare cX2_upperOfShare 2 (some .int) 2 := ⟨tbm 254 (by decide +kernel), tbm 5 (by decide +kernel), by decide +kernel, by decide +kernel, by decide +kernel, by decide⟩
theorem ms_X2_upperOfShare : Cond.static yX2_upperOfShare ∈ lw_tbl := tbm 253 (by decide +kernel)
theorem mi_X2_findLeast : MI yX2_findLeast cX2_findLeast 5 none 1 := ⟨tbm 261 (by decide +kernel), tbm 5 (by decide +kernel), by decide +kernel, by decide +kernel, by decide +kernel, by decide⟩
theorem mn_X2_findLeast : Cond.instanceMethod yX2_findLeast ∈ lw_tbl := tbm 259 (by decide +kernel)
theorem mv_X2_findLeast : MV yX2_findLeast := ⟨mn_X2_findLeast, tbm 260 (by decide +kernel)⟩
theorem mi_X2_layPlanes : MI yX2_layPlanes cX2_layPlanes 3 none 0 := ⟨tbm 265 (by decide +kernel), tbm 5 (by decide +kernel), by decide +kernel, by decide +kernel, by decide +kernel, by decide⟩
theorem mn_X2_layPlanes : Cond.instanceMethod yX2_layPlanes ∈ lw_tbl := tbm 264 (by decide +kernel)
theorem mv_X2_layPlanes : MV yX2_layPlanes := ⟨mn_X2_layPlanes, tbs 0 (by decide +kernel)⟩
theorem mi_X2_emptyPlane : MI yX2_emptyPlane cX2_emptyPlane 3 (some (.array .int)) 0 := ⟨tbm 269 (by decide +kernel), tbm 5 (by decide +kernel), by decide +kernel, by decide +kernel, by decide +kernel, by decide⟩
theorem mn_X2_emptyPlane : Cond.instanceMethod yX2_emptyPlane ∈ lw_tbl := tbm 268 (by decide +kernel)
theorem mv_X2_emptyPlane : MV yX2_emptyPlane := ⟨mn_X2_emptyPlane, tbs 1 (by decide +kernel)⟩
theorem mi_X2_bendsTheSum : MI yX2_bendsTheSum cX2_bendsTheSum 2 (some .boolean) 1 := ⟨tbm 273 (by decide +kernel), tbm 5 (by decide +kernel), by decide +kernel, by decide +kernel, by decide +kernel, by decide⟩
theorem mn_X2_bendsTheSum : Cond.instanceMethod yX2_bendsTheSum ∈ lw_tbl := tbm 272 (by decide +kernel)
theorem mv_X2_bendsTheSum : MV yX2_bendsTheSum := ⟨mn_X2_bendsTheSum, tbs 2 (by decide +kernel)⟩
theorem mi_X2_crossTwo : MI yX2_crossTwo cX2_crossTwo 3 none 2 := ⟨tbm 277 (by decide +kernel), tbm 5 (by decide +kernel), by decide +kernel, by decide +kernel, by decide +kernel, by decide⟩
theorem mn_X2_crossTwo : Cond.instanceMethod yX2_crossTwo ∈ lw_tbl := tbm 276 (by decide +kernel)
theorem mv_X2_crossTwo : MV yX2_crossTwo := ⟨mn_X2_crossTwo, tbs 3 (by decide +kernel)⟩
theorem mi_X2_meetsAtCorner : MI yX2_meetsAtCorner cX2_meetsAtCorner 5 (some .boolean) 1 := ⟨tbm 281 (by decide +kernel), tbm 5 (by decide +kernel), by decide +kernel, by decide +kernel, by decide +kernel, by decide⟩
theorem mn_X2_meetsAtCorner : Cond.instanceMethod yX2_meetsAtCorner ∈ lw_tbl := tbm 280 (by decide +kernel)
theorem mv_X2_meetsAtCorner : MV yX2_meetsAtCorner := ⟨mn_X2_meetsAtCorner, tbs 4 (by decide +kernel)⟩
theorem mi_X2_weighCorner : MI yX2_weighCorner cX2_weighCorner 6 none 0 := ⟨tbm 285 (by decide +kernel), tbm 5 (by decide +kernel), by decide +kernel, by decide +kernel, by decide +kernel, by decide⟩
theorem mn_X2_weighCorner : Cond.instanceMethod yX2_weighCorner ∈ lw_tbl := tbm 284 (by decide +kernel)
theorem mv_X2_weighCorner : MV yX2_weighCorner := ⟨mn_X2_weighCorner, tbs 5 (by decide +kernel)⟩
theorem mi_X4_partsOfOne : MI yX4_partsOfOne cX4_partsOfOne 1 (some .int) 1 := ⟨tbm 288 (by decide +kernel), tbm 1 (by decide +kernel), by decide +kernel, by decide +kernel, by decide +kernel, by decide⟩
theorem ms_X4_partsOfOne : Cond.static yX4_partsOfOne ∈ lw_tbl := tbm 287 (by decide +kernel)
theorem mi_X0_set : MI yX0_set cX0_set 7 none 2 := ⟨tbm 293 (by decide +kernel), tbm 4 (by decide +kernel), by decide +kernel, by decide +kernel, by decide +kernel, by decide⟩
theorem mn_X0_set : Cond.instanceMethod yX0_set ∈ lw_tbl := tbm 291 (by decide +kernel)
theorem mv_X0_set : MV yX0_set := ⟨mn_X0_set, tbm 292 (by decide +kernel)⟩
theorem mi_X0_commonDivisor : MI yX0_commonDivisor cX0_commonDivisor 11 (some .long) 2 := ⟨tbm 299 (by decide +kernel), tbm 4 (by decide +kernel), by decide +kernel, by decide +kernel, by decide +kernel, by decide⟩
theorem ms_X0_commonDivisor : Cond.static yX0_commonDivisor ∈ lw_tbl := tbm 298 (by decide +kernel)
theorem mi_X0_number : MI yX0_number cX0_number 2 (some .long) 1 := ⟨tbm 303 (by decide +kernel), tbm 4 (by decide +kernel), by decide +kernel, by decide +kernel, by decide +kernel, by decide⟩
theorem mn_X0_number : Cond.instanceMethod yX0_number ∈ lw_tbl := tbm 301 (by decide +kernel)
theorem mv_X0_number : MV yX0_number := ⟨mn_X0_number, tbm 302 (by decide +kernel)⟩
theorem mi_X4_more : MI yX4_more cX4_more 4 (some .long) 3 := ⟨tbm 307 (by decide +kernel), tbm 1 (by decide +kernel), by decide +kernel, by decide +kernel, by decide +kernel, by decide⟩
theorem mn_X4_more : Cond.instanceMethod yX4_more ∈ lw_tbl := tbm 305 (by decide +kernel)
theorem mv_X4_more : MV yX4_more := ⟨mn_X4_more, tbm 306 (by decide +kernel)⟩
theorem mi_X2_changeRoom : MI yX2_changeRoom cX2_changeRoom 3 none 2 := ⟨tbm 311 (by decide +kernel), tbm 5 (by decide +kernel), by decide +kernel, by decide +kernel, by decide +kernel, by decide⟩
theorem mn_X2_changeRoom : Cond.instanceMethod yX2_changeRoom ∈ lw_tbl := tbm 309 (by decide +kernel)
theorem mv_X2_changeRoom : MV yX2_changeRoom := ⟨mn_X2_changeRoom, tbm 310 (by decide +kernel)⟩
theorem mi_X0_setDifference : MI yX0_setDifference cX0_setDifference 3 none 2 := ⟨tbm 315 (by decide +kernel), tbm 4 (by decide +kernel), by decide +kernel, by decide +kernel, by decide +kernel, by decide⟩
theorem mn_X0_setDifference : Cond.instanceMethod yX0_setDifference ∈ lw_tbl := tbm 313 (by decide +kernel)
theorem mv_X0_setDifference : MV yX0_setDifference := ⟨mn_X0_setDifference, tbm 314 (by decide +kernel)⟩
theorem mi_X4_way : MI yX4_way cX4_way 3 (some .int) 2 := ⟨tbm 320 (by decide +kernel), tbm 1 (by decide +kernel), by decide +kernel, by decide +kernel, by decide +kernel, by decide⟩
theorem mn_X4_way : Cond.instanceMethod yX4_way ∈ lw_tbl := tbm 318 (by decide +kernel)
theorem mv_X4_way : MV yX4_way := ⟨mn_X4_way, tbm 319 (by decide +kernel)⟩
theorem mi_X3_findWays : MI yX3_findWays cX3_findWays 4 none 3 := ⟨tbm 325 (by decide +kernel), tbm 3 (by decide +kernel), by decide +kernel, by decide +kernel, by decide +kernel, by decide⟩
theorem mn_X3_findWays : Cond.instanceMethod yX3_findWays ∈ lw_tbl := tbm 323 (by decide +kernel)
theorem mv_X3_findWays : MV yX3_findWays := ⟨mn_X3_findWays, tbm 324 (by decide +kernel)⟩
theorem mi_X3_begin : MI yX3_begin cX3_begin 2 none 1 := ⟨tbm 329 (by decide +kernel), tbm 3 (by decide +kernel), by decide +kernel, by decide +kernel, by decide +kernel, by decide⟩
theorem mn_X3_begin : Cond.instanceMethod yX3_begin ∈ lw_tbl := tbm 328 (by decide +kernel)
theorem mv_X3_begin : MV yX3_begin := ⟨mn_X3_begin, tbs 6 (by decide +kernel)⟩
theorem mi_X3_walk : MI yX3_walk cX3_walk 8 none 4 := ⟨tbm 333 (by decide +kernel), tbm 3 (by decide +kernel), by decide +kernel, by decide +kernel, by decide +kernel, by decide⟩
theorem mn_X3_walk : Cond.instanceMethod yX3_walk ∈ lw_tbl := tbm 332 (by decide +kernel)
theorem mv_X3_walk : MV yX3_walk := ⟨mn_X3_walk, tbs 7 (by decide +kernel)⟩
theorem mi_X3_weigh : MI yX3_weigh cX3_weigh 3 none 2 := ⟨tbm 337 (by decide +kernel), tbm 3 (by decide +kernel), by decide +kernel, by decide +kernel, by decide +kernel, by decide⟩
theorem mn_X3_weigh : Cond.instanceMethod yX3_weigh ∈ lw_tbl := tbm 336 (by decide +kernel)
theorem mv_X3_weigh : MV yX3_weigh := ⟨mn_X3_weigh, tbs 8 (by decide +kernel)⟩
theorem mi_X1_multiplyShares : MI yX1_multiplyShares cX1_multiplyShares 9 none 3 := ⟨tbm 341 (by decide +kernel), tbm 2 (by decide +kernel), by decide +kernel, by decide +kernel, by decide +kernel, by decide⟩
theorem mn_X1_multiplyShares : Cond.instanceMethod yX1_multiplyShares ∈ lw_tbl := tbm 339 (by decide +kernel)
theorem mv_X1_multiplyShares : MV yX1_multiplyShares := ⟨mn_X1_multiplyShares, tbm 340 (by decide +kernel)⟩
theorem mi_X0_isAboveOne : MI yX0_isAboveOne cX0_isAboveOne 1 (some .boolean) 0 := ⟨tbm 346 (by decide +kernel), tbm 4 (by decide +kernel), by decide +kernel, by decide +kernel, by decide +kernel, by decide⟩
theorem mn_X0_isAboveOne : Cond.instanceMethod yX0_isAboveOne ∈ lw_tbl := tbm 344 (by decide +kernel)
theorem mv_X0_isAboveOne : MV yX0_isAboveOne := ⟨mn_X0_isAboveOne, tbm 345 (by decide +kernel)⟩
theorem mi_X3_trailIsBetter : MI yX3_trailIsBetter cX3_trailIsBetter 5 (some .boolean) 1 := ⟨tbm 350 (by decide +kernel), tbm 3 (by decide +kernel), by decide +kernel, by decide +kernel, by decide +kernel, by decide⟩
theorem mn_X3_trailIsBetter : Cond.instanceMethod yX3_trailIsBetter ∈ lw_tbl := tbm 349 (by decide +kernel)
theorem mv_X3_trailIsBetter : MV yX3_trailIsBetter := ⟨mn_X3_trailIsBetter, tbs 9 (by decide +kernel)⟩
theorem mi_X0_compareWith : MI yX0_compareWith cX0_compareWith 2 (some .long) 1 := ⟨tbm 354 (by decide +kernel), tbm 4 (by decide +kernel), by decide +kernel, by decide +kernel, by decide +kernel, by decide⟩
theorem mn_X0_compareWith : Cond.instanceMethod yX0_compareWith ∈ lw_tbl := tbm 352 (by decide +kernel)
theorem mv_X0_compareWith : MV yX0_compareWith := ⟨mn_X0_compareWith, tbm 353 (by decide +kernel)⟩
theorem mi_X4_takeBestRow : MI yX4_takeBestRow cX4_takeBestRow 1 (some .int) 0 := ⟨tbm 361 (by decide +kernel), tbm 1 (by decide +kernel), by decide +kernel, by decide +kernel, by decide +kernel, by decide⟩
theorem mn_X4_takeBestRow : Cond.instanceMethod yX4_takeBestRow ∈ lw_tbl := tbm 360 (by decide +kernel)
theorem mv_X4_takeBestRow : MV yX4_takeBestRow := ⟨mn_X4_takeBestRow, tbs 10 (by decide +kernel)⟩
theorem mi_X1_takeRow : MI yX1_takeRow cX1_takeRow 3 none 2 := ⟨tbm 365 (by decide +kernel), tbm 2 (by decide +kernel), by decide +kernel, by decide +kernel, by decide +kernel, by decide⟩
theorem mn_X1_takeRow : Cond.instanceMethod yX1_takeRow ∈ lw_tbl := tbm 363 (by decide +kernel)
theorem mv_X1_takeRow : MV yX1_takeRow := ⟨mn_X1_takeRow, tbm 364 (by decide +kernel)⟩
theorem mi_X4_ring : MI yX4_ring cX4_ring 1 (some .int) 0 := ⟨tbm 370 (by decide +kernel), tbm 1 (by decide +kernel), by decide +kernel, by decide +kernel, by decide +kernel, by decide⟩
theorem mn_X4_ring : Cond.instanceMethod yX4_ring ∈ lw_tbl := tbm 368 (by decide +kernel)
theorem mv_X4_ring : MV yX4_ring := ⟨mn_X4_ring, tbm 369 (by decide +kernel)⟩
theorem mi_X3_findRings : MI yX3_findRings cX3_findRings 3 none 1 := ⟨tbm 374 (by decide +kernel), tbm 3 (by decide +kernel), by decide +kernel, by decide +kernel, by decide +kernel, by decide⟩
theorem mn_X3_findRings : Cond.instanceMethod yX3_findRings ∈ lw_tbl := tbm 372 (by decide +kernel)
theorem mv_X3_findRings : MV yX3_findRings := ⟨mn_X3_findRings, tbm 373 (by decide +kernel)⟩
theorem mi_X4_row : MI yX4_row cX4_row 2 (some .int) 1 := ⟨tbm 378 (by decide +kernel), tbm 1 (by decide +kernel), by decide +kernel, by decide +kernel, by decide +kernel, by decide⟩
theorem mn_X4_row : Cond.instanceMethod yX4_row ∈ lw_tbl := tbm 376 (by decide +kernel)
theorem mv_X4_row : MV yX4_row := ⟨mn_X4_row, tbm 377 (by decide +kernel)⟩
theorem mi_X4_gain : MI yX4_gain cX4_gain 2 (some .long) 1 := ⟨tbm 382 (by decide +kernel), tbm 1 (by decide +kernel), by decide +kernel, by decide +kernel, by decide +kernel, by decide⟩
theorem mn_X4_gain : Cond.instanceMethod yX4_gain ∈ lw_tbl := tbm 380 (by decide +kernel)
theorem mv_X4_gain : MV yX4_gain := ⟨mn_X4_gain, tbm 381 (by decide +kernel)⟩
theorem mi_X4_send : MI yX4_send cX4_send 4 (some .boolean) 3 := ⟨tbm 387 (by decide +kernel), tbm 1 (by decide +kernel), by decide +kernel, by decide +kernel, by decide +kernel, by decide⟩
theorem mn_X4_send : Cond.instanceMethod yX4_send ∈ lw_tbl := tbm 385 (by decide +kernel)
theorem mv_X4_send : MV yX4_send := ⟨mn_X4_send, tbm 386 (by decide +kernel)⟩
theorem mi_X4_right : MI yX4_right cX4_right 3 (some .boolean) 0 := ⟨tbm 392 (by decide +kernel), tbm 1 (by decide +kernel), by decide +kernel, by decide +kernel, by decide +kernel, by decide⟩
theorem mn_X4_right : Cond.instanceMethod yX4_right ∈ lw_tbl := tbm 390 (by decide +kernel)
theorem mv_X4_right : MV yX4_right := ⟨mn_X4_right, tbm 391 (by decide +kernel)⟩
theorem mi_X1_balance : MI yX1_balance cX1_balance 8 (some .long) 1 := ⟨tbm 397 (by decide +kernel), tbm 2 (by decide +kernel), by decide +kernel, by decide +kernel, by decide +kernel, by decide⟩
theorem mn_X1_balance : Cond.instanceMethod yX1_balance ∈ lw_tbl := tbm 395 (by decide +kernel)
theorem mv_X1_balance : MV yX1_balance := ⟨mn_X1_balance, tbm 396 (by decide +kernel)⟩
theorem mi_X4_left : MI yX4_left cX4_left 5 (some .long) 2 := ⟨tbm 403 (by decide +kernel), tbm 1 (by decide +kernel), by decide +kernel, by decide +kernel, by decide +kernel, by decide⟩
theorem mn_X4_left : Cond.instanceMethod yX4_left ∈ lw_tbl := tbm 401 (by decide +kernel)
theorem mv_X4_left : MV yX4_left := ⟨mn_X4_left, tbm 402 (by decide +kernel)⟩
theorem mi_X4_count : MI yX4_count cX4_count 2 (some .int) 1 := ⟨tbm 408 (by decide +kernel), tbm 1 (by decide +kernel), by decide +kernel, by decide +kernel, by decide +kernel, by decide⟩
theorem mn_X4_count : Cond.instanceMethod yX4_count ∈ lw_tbl := tbm 406 (by decide +kernel)
theorem mv_X4_count : MV yX4_count := ⟨mn_X4_count, tbm 407 (by decide +kernel)⟩
theorem mi_X4_image : MI yX4_image cX4_image 2 (some .boolean) 1 := ⟨tbm 412 (by decide +kernel), tbm 1 (by decide +kernel), by decide +kernel, by decide +kernel, by decide +kernel, by decide⟩
theorem mn_X4_image : Cond.instanceMethod yX4_image ∈ lw_tbl := tbm 410 (by decide +kernel)
theorem mv_X4_image : MV yX4_image := ⟨mn_X4_image, tbm 411 (by decide +kernel)⟩
theorem mi_X1_take : MI yX1_take cX1_take 3 none 1 := ⟨tbm 416 (by decide +kernel), tbm 2 (by decide +kernel), by decide +kernel, by decide +kernel, by decide +kernel, by decide⟩
theorem mn_X1_take : Cond.instanceMethod yX1_take ∈ lw_tbl := tbm 414 (by decide +kernel)
theorem mv_X1_take : MV yX1_take := ⟨mn_X1_take, tbm 415 (by decide +kernel)⟩
theorem mi_X4_again : MI yX4_again cX4_again 2 (some .boolean) 1 := ⟨tbm 421 (by decide +kernel), tbm 1 (by decide +kernel), by decide +kernel, by decide +kernel, by decide +kernel, by decide⟩
theorem mn_X4_again : Cond.instanceMethod yX4_again ∈ lw_tbl := tbm 419 (by decide +kernel)
theorem mv_X4_again : MV yX4_again := ⟨mn_X4_again, tbm 420 (by decide +kernel)⟩
theorem mi_X5_init : MI yX5_init cX5_init 1 none 0 := ⟨tbm 426 (by decide +kernel), tbm 6 (by decide +kernel), by decide +kernel, by decide +kernel, by decide +kernel, by decide⟩
theorem mn_X5_init : Cond.instanceMethod yX5_init ∈ lw_tbl := tbm 425 (by decide +kernel)
theorem mi_X5_posts : MI yX5_posts cX5_posts 2 (some .boolean) 1 := ⟨tbm 531 (by decide +kernel), tbm 6 (by decide +kernel), by decide +kernel, by decide +kernel, by decide +kernel, by decide⟩
theorem mn_X5_posts : Cond.instanceMethod yX5_posts ∈ lw_tbl := tbm 529 (by decide +kernel)
theorem mv_X5_posts : MV yX5_posts := ⟨mn_X5_posts, tbm 530 (by decide +kernel)⟩
theorem mi_X5_in : MI yX5_in cX5_in 3 (some .boolean) 3 := ⟨tbm 534 (by decide +kernel), tbm 6 (by decide +kernel), by decide +kernel, by decide +kernel, by decide +kernel, by decide⟩
theorem ms_X5_in : Cond.static yX5_in ∈ lw_tbl := tbm 533 (by decide +kernel)
theorem mi_X5_lane : MI yX5_lane cX5_lane 7 (some .int) 5 := ⟨tbm 538 (by decide +kernel), tbm 6 (by decide +kernel), by decide +kernel, by decide +kernel, by decide +kernel, by decide⟩
theorem mn_X5_lane : Cond.instanceMethod yX5_lane ∈ lw_tbl := tbm 536 (by decide +kernel)
theorem mv_X5_lane : MV yX5_lane := ⟨mn_X5_lane, tbm 537 (by decide +kernel)⟩
theorem mi_X5_isPost : MI yX5_isPost cX5_isPost 2 (some .boolean) 1 := ⟨tbm 542 (by decide +kernel), tbm 6 (by decide +kernel), by decide +kernel, by decide +kernel, by decide +kernel, by decide⟩
theorem mn_X5_isPost : Cond.instanceMethod yX5_isPost ∈ lw_tbl := tbm 541 (by decide +kernel)
theorem mv_X5_isPost : MV yX5_isPost := ⟨mn_X5_isPost, tbs 11 (by decide +kernel)⟩
theorem mi_X5_room : MI yX5_room cX5_room 3 (some .boolean) 2 := ⟨tbm 546 (by decide +kernel), tbm 6 (by decide +kernel), by decide +kernel, by decide +kernel, by decide +kernel, by decide⟩
theorem mn_X5_room : Cond.instanceMethod yX5_room ∈ lw_tbl := tbm 544 (by decide +kernel)
theorem mv_X5_room : MV yX5_room := ⟨mn_X5_room, tbm 545 (by decide +kernel)⟩
theorem mi_X5_isLane : MI yX5_isLane cX5_isLane 2 (some .boolean) 1 := ⟨tbm 550 (by decide +kernel), tbm 6 (by decide +kernel), by decide +kernel, by decide +kernel, by decide +kernel, by decide⟩
theorem mn_X5_isLane : Cond.instanceMethod yX5_isLane ∈ lw_tbl := tbm 549 (by decide +kernel)
theorem mv_X5_isLane : MV yX5_isLane := ⟨mn_X5_isLane, tbs 12 (by decide +kernel)⟩
theorem mi_X5_share : MI yX5_share cX5_share 5 (some .boolean) 4 := ⟨tbm 554 (by decide +kernel), tbm 6 (by decide +kernel), by decide +kernel, by decide +kernel, by decide +kernel, by decide⟩
theorem mn_X5_share : Cond.instanceMethod yX5_share ∈ lw_tbl := tbm 552 (by decide +kernel)
theorem mv_X5_share : MV yX5_share := ⟨mn_X5_share, tbm 553 (by decide +kernel)⟩
theorem mi_X5_tell : MI yX5_tell cX5_tell 3 (some .int) 2 := ⟨tbm 558 (by decide +kernel), tbm 6 (by decide +kernel), by decide +kernel, by decide +kernel, by decide +kernel, by decide⟩
theorem mn_X5_tell : Cond.instanceMethod yX5_tell ∈ lw_tbl := tbm 556 (by decide +kernel)
theorem mv_X5_tell : MV yX5_tell := ⟨mn_X5_tell, tbm 557 (by decide +kernel)⟩
theorem mi_X5_put : MI yX5_put cX5_put 7 none 2 := ⟨tbm 562 (by decide +kernel), tbm 6 (by decide +kernel), by decide +kernel, by decide +kernel, by decide +kernel, by decide⟩
theorem mn_X5_put : Cond.instanceMethod yX5_put ∈ lw_tbl := tbm 561 (by decide +kernel)
theorem mv_X5_put : MV yX5_put := ⟨mn_X5_put, tbs 13 (by decide +kernel)⟩
theorem mi_X5_gcd : MI yX5_gcd cX5_gcd 10 (some .long) 2 := ⟨tbm 565 (by decide +kernel), tbm 6 (by decide +kernel), by decide +kernel, by decide +kernel, by decide +kernel, by decide⟩
theorem ms_X5_gcd : Cond.static yX5_gcd ∈ lw_tbl := tbm 564 (by decide +kernel)
theorem mi_X5_most : MI yX5_most cX5_most 3 (some .long) 2 := ⟨tbm 569 (by decide +kernel), tbm 6 (by decide +kernel), by decide +kernel, by decide +kernel, by decide +kernel, by decide⟩
theorem mn_X5_most : Cond.instanceMethod yX5_most ∈ lw_tbl := tbm 567 (by decide +kernel)
theorem mv_X5_most : MV yX5_most := ⟨mn_X5_most, tbm 568 (by decide +kernel)⟩
theorem mi_X5_setShares : MI yX5_setShares cX5_setShares 4 none 1 := ⟨tbm 574 (by decide +kernel), tbm 6 (by decide +kernel), by decide +kernel, by decide +kernel, by decide +kernel, by decide⟩
theorem mn_X5_setShares : Cond.instanceMethod yX5_setShares ∈ lw_tbl := tbm 573 (by decide +kernel)
theorem mv_X5_setShares : MV yX5_setShares := ⟨mn_X5_setShares, tbs 14 (by decide +kernel)⟩
theorem mi_X5_findMost : MI yX5_findMost cX5_findMost 3 none 0 := ⟨tbm 578 (by decide +kernel), tbm 6 (by decide +kernel), by decide +kernel, by decide +kernel, by decide +kernel, by decide⟩
theorem mn_X5_findMost : Cond.instanceMethod yX5_findMost ∈ lw_tbl := tbm 577 (by decide +kernel)
theorem mv_X5_findMost : MV yX5_findMost := ⟨mn_X5_findMost, tbs 15 (by decide +kernel)⟩
theorem mi_X5_findPrices : MI yX5_findPrices cX5_findPrices 6 (some .boolean) 0 := ⟨tbm 582 (by decide +kernel), tbm 6 (by decide +kernel), by decide +kernel, by decide +kernel, by decide +kernel, by decide⟩
theorem mn_X5_findPrices : Cond.instanceMethod yX5_findPrices ∈ lw_tbl := tbm 581 (by decide +kernel)
theorem mv_X5_findPrices : MV yX5_findPrices := ⟨mn_X5_findPrices, tbs 16 (by decide +kernel)⟩
theorem mi_X5_findWorth : MI yX5_findWorth cX5_findWorth 10 none 0 := ⟨tbm 586 (by decide +kernel), tbm 6 (by decide +kernel), by decide +kernel, by decide +kernel, by decide +kernel, by decide⟩
theorem mn_X5_findWorth : Cond.instanceMethod yX5_findWorth ∈ lw_tbl := tbm 585 (by decide +kernel)
theorem mv_X5_findWorth : MV yX5_findWorth := ⟨mn_X5_findWorth, tbs 17 (by decide +kernel)⟩
theorem mi_X5_isLess : MI yX5_isLess cX5_isLess 24 (some .boolean) 4 := ⟨tbm 589 (by decide +kernel), tbm 6 (by decide +kernel), by decide +kernel, by decide +kernel, by decide +kernel, by decide⟩
theorem ms_X5_isLess : Cond.static yX5_isLess ∈ lw_tbl := tbm 588 (by decide +kernel)
theorem mi_X5_nextChoice : MI yX5_nextChoice cX5_nextChoice 2 (some .boolean) 0 := ⟨tbm 593 (by decide +kernel), tbm 6 (by decide +kernel), by decide +kernel, by decide +kernel, by decide +kernel, by decide⟩
theorem mn_X5_nextChoice : Cond.instanceMethod yX5_nextChoice ∈ lw_tbl := tbm 592 (by decide +kernel)
theorem mv_X5_nextChoice : MV yX5_nextChoice := ⟨mn_X5_nextChoice, tbs 18 (by decide +kernel)⟩
theorem mi_X5_more : MI yX5_more cX5_more 10 (some .long) 3 := ⟨tbm 597 (by decide +kernel), tbm 6 (by decide +kernel), by decide +kernel, by decide +kernel, by decide +kernel, by decide⟩
theorem mn_X5_more : Cond.instanceMethod yX5_more ∈ lw_tbl := tbm 595 (by decide +kernel)
theorem mv_X5_more : MV yX5_more := ⟨mn_X5_more, tbm 596 (by decide +kernel)⟩
theorem mi_X5_way : MI yX5_way cX5_way 3 (some .int) 2 := ⟨tbm 601 (by decide +kernel), tbm 6 (by decide +kernel), by decide +kernel, by decide +kernel, by decide +kernel, by decide⟩
theorem mn_X5_way : Cond.instanceMethod yX5_way ∈ lw_tbl := tbm 599 (by decide +kernel)
theorem mv_X5_way : MV yX5_way := ⟨mn_X5_way, tbm 600 (by decide +kernel)⟩
theorem mi_X5_goAll : MI yX5_goAll cX5_goAll 7 none 3 := ⟨tbm 605 (by decide +kernel), tbm 6 (by decide +kernel), by decide +kernel, by decide +kernel, by decide +kernel, by decide⟩
theorem mn_X5_goAll : Cond.instanceMethod yX5_goAll ∈ lw_tbl := tbm 604 (by decide +kernel)
theorem mv_X5_goAll : MV yX5_goAll := ⟨mn_X5_goAll, tbs 19 (by decide +kernel)⟩
theorem mi_X5_takes : MI yX5_takes cX5_takes 8 none 1 := ⟨tbm 609 (by decide +kernel), tbm 6 (by decide +kernel), by decide +kernel, by decide +kernel, by decide +kernel, by decide⟩
theorem mn_X5_takes : Cond.instanceMethod yX5_takes ∈ lw_tbl := tbm 608 (by decide +kernel)
theorem mv_X5_takes : MV yX5_takes := ⟨mn_X5_takes, tbs 20 (by decide +kernel)⟩
theorem mi_X5_productUp : MI yX5_productUp cX5_productUp 5 (some .long) 1 := ⟨tbm 613 (by decide +kernel), tbm 6 (by decide +kernel), by decide +kernel, by decide +kernel, by decide +kernel, by decide⟩
theorem mn_X5_productUp : Cond.instanceMethod yX5_productUp ∈ lw_tbl := tbm 612 (by decide +kernel)
theorem mv_X5_productUp : MV yX5_productUp := ⟨mn_X5_productUp, tbs 21 (by decide +kernel)⟩
theorem mi_X5_productDown : MI yX5_productDown cX5_productDown 5 (some .long) 1 := ⟨tbm 617 (by decide +kernel), tbm 6 (by decide +kernel), by decide +kernel, by decide +kernel, by decide +kernel, by decide⟩
theorem mn_X5_productDown : Cond.instanceMethod yX5_productDown ∈ lw_tbl := tbm 616 (by decide +kernel)
theorem mv_X5_productDown : MV yX5_productDown := ⟨mn_X5_productDown, tbs 22 (by decide +kernel)⟩
theorem mi_X5_isOn : MI yX5_isOn cX5_isOn 4 (some .boolean) 2 := ⟨tbm 621 (by decide +kernel), tbm 6 (by decide +kernel), by decide +kernel, by decide +kernel, by decide +kernel, by decide⟩
theorem mn_X5_isOn : Cond.instanceMethod yX5_isOn ∈ lw_tbl := tbm 620 (by decide +kernel)
theorem mv_X5_isOn : MV yX5_isOn := ⟨mn_X5_isOn, tbs 23 (by decide +kernel)⟩
theorem mi_X5_keep : MI yX5_keep cX5_keep 2 (some .int) 0 := ⟨tbm 625 (by decide +kernel), tbm 6 (by decide +kernel), by decide +kernel, by decide +kernel, by decide +kernel, by decide⟩
theorem mn_X5_keep : Cond.instanceMethod yX5_keep ∈ lw_tbl := tbm 624 (by decide +kernel)
theorem mv_X5_keep : MV yX5_keep := ⟨mn_X5_keep, tbs 24 (by decide +kernel)⟩
theorem mi_X5_ring : MI yX5_ring cX5_ring 1 (some .int) 0 := ⟨tbm 629 (by decide +kernel), tbm 6 (by decide +kernel), by decide +kernel, by decide +kernel, by decide +kernel, by decide⟩
theorem mn_X5_ring : Cond.instanceMethod yX5_ring ∈ lw_tbl := tbm 627 (by decide +kernel)
theorem mv_X5_ring : MV yX5_ring := ⟨mn_X5_ring, tbm 628 (by decide +kernel)⟩
theorem mi_X5_findRings : MI yX5_findRings cX5_findRings 2 none 0 := ⟨tbm 633 (by decide +kernel), tbm 6 (by decide +kernel), by decide +kernel, by decide +kernel, by decide +kernel, by decide⟩
theorem mn_X5_findRings : Cond.instanceMethod yX5_findRings ∈ lw_tbl := tbm 632 (by decide +kernel)
theorem mv_X5_findRings : MV yX5_findRings := ⟨mn_X5_findRings, tbs 25 (by decide +kernel)⟩
theorem mi_X5_row : MI yX5_row cX5_row 2 (some .int) 1 := ⟨tbm 637 (by decide +kernel), tbm 6 (by decide +kernel), by decide +kernel, by decide +kernel, by decide +kernel, by decide⟩
theorem mn_X5_row : Cond.instanceMethod yX5_row ∈ lw_tbl := tbm 635 (by decide +kernel)
theorem mv_X5_row : MV yX5_row := ⟨mn_X5_row, tbm 636 (by decide +kernel)⟩
theorem mi_X5_gain : MI yX5_gain cX5_gain 2 (some .long) 1 := ⟨tbm 641 (by decide +kernel), tbm 6 (by decide +kernel), by decide +kernel, by decide +kernel, by decide +kernel, by decide⟩
theorem mn_X5_gain : Cond.instanceMethod yX5_gain ∈ lw_tbl := tbm 639 (by decide +kernel)
theorem mv_X5_gain : MV yX5_gain := ⟨mn_X5_gain, tbm 640 (by decide +kernel)⟩
theorem mi_X5_send : MI yX5_send cX5_send 4 (some .boolean) 3 := ⟨tbm 645 (by decide +kernel), tbm 6 (by decide +kernel), by decide +kernel, by decide +kernel, by decide +kernel, by decide⟩
theorem mn_X5_send : Cond.instanceMethod yX5_send ∈ lw_tbl := tbm 643 (by decide +kernel)
theorem mv_X5_send : MV yX5_send := ⟨mn_X5_send, tbm 644 (by decide +kernel)⟩
theorem mi_X5_right : MI yX5_right cX5_right 2 (some .boolean) 0 := ⟨tbm 649 (by decide +kernel), tbm 6 (by decide +kernel), by decide +kernel, by decide +kernel, by decide +kernel, by decide⟩
theorem mn_X5_right : Cond.instanceMethod yX5_right ∈ lw_tbl := tbm 647 (by decide +kernel)
theorem mv_X5_right : MV yX5_right := ⟨mn_X5_right, tbm 648 (by decide +kernel)⟩
theorem mi_X5_arrives : MI yX5_arrives cX5_arrives 5 (some .long) 1 := ⟨tbm 653 (by decide +kernel), tbm 6 (by decide +kernel), by decide +kernel, by decide +kernel, by decide +kernel, by decide⟩
theorem mn_X5_arrives : Cond.instanceMethod yX5_arrives ∈ lw_tbl := tbm 652 (by decide +kernel)
theorem mv_X5_arrives : MV yX5_arrives := ⟨mn_X5_arrives, tbs 26 (by decide +kernel)⟩
theorem mi_X5_leaves : MI yX5_leaves cX5_leaves 5 (some .long) 1 := ⟨tbm 658 (by decide +kernel), tbm 6 (by decide +kernel), by decide +kernel, by decide +kernel, by decide +kernel, by decide⟩
theorem mn_X5_leaves : Cond.instanceMethod yX5_leaves ∈ lw_tbl := tbm 657 (by decide +kernel)
theorem mv_X5_leaves : MV yX5_leaves := ⟨mn_X5_leaves, tbs 27 (by decide +kernel)⟩
theorem mi_X5_left : MI yX5_left cX5_left 5 (some .long) 2 := ⟨tbm 662 (by decide +kernel), tbm 6 (by decide +kernel), by decide +kernel, by decide +kernel, by decide +kernel, by decide⟩
theorem mn_X5_left : Cond.instanceMethod yX5_left ∈ lw_tbl := tbm 660 (by decide +kernel)
theorem mv_X5_left : MV yX5_left := ⟨mn_X5_left, tbm 661 (by decide +kernel)⟩
theorem mi_X5_count : MI yX5_count cX5_count 2 (some .int) 1 := ⟨tbm 666 (by decide +kernel), tbm 6 (by decide +kernel), by decide +kernel, by decide +kernel, by decide +kernel, by decide⟩
theorem mn_X5_count : Cond.instanceMethod yX5_count ∈ lw_tbl := tbm 664 (by decide +kernel)
theorem mv_X5_count : MV yX5_count := ⟨mn_X5_count, tbm 665 (by decide +kernel)⟩
theorem mi_X5_image : MI yX5_image cX5_image 2 (some .boolean) 1 := ⟨tbm 670 (by decide +kernel), tbm 6 (by decide +kernel), by decide +kernel, by decide +kernel, by decide +kernel, by decide⟩
theorem mn_X5_image : Cond.instanceMethod yX5_image ∈ lw_tbl := tbm 668 (by decide +kernel)
theorem mv_X5_image : MV yX5_image := ⟨mn_X5_image, tbm 669 (by decide +kernel)⟩
theorem mi_X5_copy : MI yX5_copy cX5_copy 3 none 2 := ⟨tbm 674 (by decide +kernel), tbm 6 (by decide +kernel), by decide +kernel, by decide +kernel, by decide +kernel, by decide⟩
theorem mn_X5_copy : Cond.instanceMethod yX5_copy ∈ lw_tbl := tbm 673 (by decide +kernel)
theorem mv_X5_copy : MV yX5_copy := ⟨mn_X5_copy, tbs 28 (by decide +kernel)⟩
theorem mi_X5_move : MI yX5_move cX5_move 5 none 4 := ⟨tbm 677 (by decide +kernel), tbm 6 (by decide +kernel), by decide +kernel, by decide +kernel, by decide +kernel, by decide⟩
theorem ms_X5_move : Cond.static yX5_move ∈ lw_tbl := tbm 676 (by decide +kernel)
theorem mi_X5_again : MI yX5_again cX5_again 2 (some .boolean) 1 := ⟨tbm 681 (by decide +kernel), tbm 6 (by decide +kernel), by decide +kernel, by decide +kernel, by decide +kernel, by decide⟩
theorem mn_X5_again : Cond.instanceMethod yX5_again ∈ lw_tbl := tbm 679 (by decide +kernel)
theorem mv_X5_again : MV yX5_again := ⟨mn_X5_again, tbm 680 (by decide +kernel)⟩
theorem cs_L_9 : CS RL 9 yX4_init := Or.inl (tbm 11 (by decide +kernel))
theorem cj_X4_3 : Cond.methodLink RX4 3 objectInit ∈ lw_tbl := tbm 14 (by decide +kernel)
theorem cs_X4_11 : CS RX4 11 yX1_init := Or.inr (tbm 19 (by decide +kernel))
theorem cj_X1_3 : Cond.methodLink RX1 3 objectInit ∈ lw_tbl := tbm 22 (by decide +kernel)
theorem cs_X4_26 : CS RX4 26 yX3_init := Or.inr (tbm 55 (by decide +kernel))
theorem cj_X3_3 : Cond.methodLink RX3 3 objectInit ∈ lw_tbl := tbm 58 (by decide +kernel)
theorem cs_X3_17 : CS RX3 17 yX0_init := Or.inr (tbm 61 (by decide +kernel))
theorem cj_X0_1 : Cond.methodLink RX0 1 objectInit ∈ lw_tbl := tbm 64 (by decide +kernel)
theorem cs_X4_33 : CS RX4 33 yX2_init := Or.inr (tbm 107 (by decide +kernel))
theorem cj_X2_3 : Cond.methodLink RX2 3 objectInit ∈ lw_tbl := tbm 110 (by decide +kernel)
theorem cs_X4_40 : CS RX4 40 yX0_init := Or.inr (tbm 166 (by decide +kernel))
theorem cs_L_13 : CS RL 13 yX4_posts := Or.inl (tbm 192 (by decide +kernel))
theorem cs_X4_51 : CS RX4 51 yX4_within := Or.inl (tbm 196 (by decide +kernel))
theorem cs_X4_62 : CS RX4 62 yX1_dropRow := Or.inl (tbm 199 (by decide +kernel))
theorem cs_L_18 : CS RL 18 yX4_lane := Or.inl (tbm 203 (by decide +kernel))
theorem cs_X4_65 : CS RX4 65 yX1_canLead := Or.inl (tbm 207 (by decide +kernel))
theorem cs_X1_48 : CS RX1 48 yX1_hasPost := Or.inl (tbm 211 (by decide +kernel))
theorem cs_X1_40 : CS RX1 40 yX1_lastPost := Or.inl (tbm 215 (by decide +kernel))
theorem cs_X1_44 : CS RX1 44 yX4_within := Or.inr (tbm 219 (by decide +kernel))
theorem cs_X4_69 : CS RX4 69 yX4_isRoom := Or.inl (tbm 220 (by decide +kernel))
theorem cs_X4_73 : CS RX4 73 yX4_isShare := Or.inl (tbm 223 (by decide +kernel))
theorem cs_L_23 : CS RL 23 yX4_room := Or.inl (tbm 226 (by decide +kernel))
theorem cs_X4_80 : CS RX4 80 yX1_hasLane := Or.inl (tbm 230 (by decide +kernel))
theorem cs_L_28 : CS RL 28 yX4_share := Or.inl (tbm 234 (by decide +kernel))
theorem cs_L_33 : CS RL 33 yX4_tell := Or.inl (tbm 238 (by decide +kernel))
theorem cs_L_38 : CS RL 38 yX4_most := Or.inl (tbm 242 (by decide +kernel))
theorem cs_X4_85 : CS RX4 85 yX2_load := Or.inl (tbm 247 (by decide +kernel))
theorem cs_X2_74 : CS RX2 74 yX1_lastPost := Or.inl (tbm 251 (by decide +kernel))
theorem cs_X2_78 : CS RX2 78 yX2_upperOfShare := Or.inl (tbm 252 (by decide +kernel))
theorem cj_X2_104 : Cond.methodLink RX2 104 Lib.Math.max.name ∈ lw_tbl := tbm 255 (by decide +kernel)
theorem cs_X4_89 : CS RX4 89 yX2_findLeast := Or.inl (tbm 258 (by decide +kernel))
theorem cs_X2_82 : CS RX2 82 yX2_layPlanes := Or.inl (tbm 262 (by decide +kernel))
theorem cs_X2_110 : CS RX2 110 yX2_emptyPlane := Or.inl (tbm 266 (by decide +kernel))
theorem cs_X2_114 : CS RX2 114 yX2_bendsTheSum := Or.inl (tbm 270 (by decide +kernel))
theorem cs_X2_85 : CS RX2 85 yX2_crossTwo := Or.inl (tbm 274 (by decide +kernel))
theorem cs_X2_89 : CS RX2 89 yX2_meetsAtCorner := Or.inl (tbm 278 (by decide +kernel))
theorem cs_X2_93 : CS RX2 93 yX2_weighCorner := Or.inl (tbm 282 (by decide +kernel))
theorem cs_X2_118 : CS RX2 118 yX4_partsOfOne := Or.inr (tbm 286 (by decide +kernel))
theorem cs_X2_98 : CS RX2 98 yX0_set := Or.inl (tbm 290 (by decide +kernel))
theorem cj_X0_16 : Cond.methodLink RX0 16 Lib.MathLoose.abs_long.x ∈ lw_tbl := tbm 294 (by decide +kernel)
theorem cs_X0_22 : CS RX0 22 yX0_commonDivisor := Or.inl (tbm 297 (by decide +kernel))
theorem cs_X4_93 : CS RX4 93 yX0_number := Or.inl (tbm 300 (by decide +kernel))
theorem cs_L_43 : CS RL 43 yX4_more := Or.inl (tbm 304 (by decide +kernel))
theorem cs_X4_97 : CS RX4 97 yX2_changeRoom := Or.inl (tbm 308 (by decide +kernel))
theorem cs_X4_101 : CS RX4 101 yX0_setDifference := Or.inl (tbm 312 (by decide +kernel))
theorem cs_X0_26 : CS RX0 26 yX0_set := Or.inl (tbm 316 (by decide +kernel))
theorem cs_L_48 : CS RL 48 yX4_way := Or.inl (tbm 317 (by decide +kernel))
theorem cs_X4_105 : CS RX4 105 yX1_hasPost := Or.inl (tbm 321 (by decide +kernel))
theorem cs_X4_108 : CS RX4 108 yX3_findWays := Or.inl (tbm 322 (by decide +kernel))
theorem cs_X3_45 : CS RX3 45 yX3_begin := Or.inl (tbm 326 (by decide +kernel))
theorem cs_X3_49 : CS RX3 49 yX3_walk := Or.inl (tbm 330 (by decide +kernel))
theorem cs_X3_65 : CS RX3 65 yX3_weigh := Or.inl (tbm 334 (by decide +kernel))
theorem cs_X3_69 : CS RX3 69 yX1_multiplyShares := Or.inl (tbm 338 (by decide +kernel))
theorem cs_X1_58 : CS RX1 58 yX0_set := Or.inl (tbm 342 (by decide +kernel))
theorem cs_X3_73 : CS RX3 73 yX0_isAboveOne := Or.inl (tbm 343 (by decide +kernel))
theorem cs_X3_77 : CS RX3 77 yX3_trailIsBetter := Or.inl (tbm 347 (by decide +kernel))
theorem cs_X3_87 : CS RX3 87 yX0_compareWith := Or.inl (tbm 351 (by decide +kernel))
theorem cj_X3_81 : Cond.methodLink RX3 81 arraycopyName ∈ lw_tbl := tbm 355 (by decide +kernel)
theorem cs_X4_112 : CS RX4 112 yX4_takeBestRow := Or.inl (tbm 358 (by decide +kernel))
theorem cs_X4_159 : CS RX4 159 yX1_takeRow := Or.inl (tbm 362 (by decide +kernel))
theorem cj_X1_30 : Cond.methodLink RX1 30 arraycopyName ∈ lw_tbl := tbm 366 (by decide +kernel)
theorem cs_L_52 : CS RL 52 yX4_ring := Or.inl (tbm 367 (by decide +kernel))
theorem cs_X4_116 : CS RX4 116 yX3_findRings := Or.inl (tbm 371 (by decide +kernel))
theorem cs_L_57 : CS RL 57 yX4_row := Or.inl (tbm 375 (by decide +kernel))
theorem cs_L_62 : CS RL 62 yX4_gain := Or.inl (tbm 379 (by decide +kernel))
theorem cs_X4_127 : CS RX4 127 yX1_multiplyShares := Or.inl (tbm 383 (by decide +kernel))
theorem cs_L_67 : CS RL 67 yX4_send := Or.inl (tbm 384 (by decide +kernel))
theorem cs_X4_131 : CS RX4 131 yX0_set := Or.inl (tbm 388 (by decide +kernel))
theorem cs_L_72 : CS RL 72 yX4_right := Or.inl (tbm 389 (by decide +kernel))
theorem cs_X4_135 : CS RX4 135 yX1_lastPost := Or.inl (tbm 393 (by decide +kernel))
theorem cs_X4_138 : CS RX4 138 yX1_balance := Or.inl (tbm 394 (by decide +kernel))
theorem cs_X1_52 : CS RX1 52 yX4_partsOfOne := Or.inr (tbm 398 (by decide +kernel))
theorem cs_L_77 : CS RL 77 yX4_left := Or.inl (tbm 400 (by decide +kernel))
theorem cs_L_81 : CS RL 81 yX4_count := Or.inl (tbm 405 (by decide +kernel))
theorem cs_L_85 : CS RL 85 yX4_image := Or.inl (tbm 409 (by decide +kernel))
theorem cs_X4_150 : CS RX4 150 yX1_take := Or.inl (tbm 413 (by decide +kernel))
theorem cs_X1_36 : CS RX1 36 yX1_takeRow := Or.inl (tbm 417 (by decide +kernel))
theorem cs_L_89 : CS RL 89 yX4_again := Or.inl (tbm 418 (by decide +kernel))
theorem cs_L_12 : CS RL 12 yX5_init := Or.inl (tbm 424 (by decide +kernel))
theorem cj_X5_1 : Cond.methodLink RX5 1 objectInit ∈ lw_tbl := tbm 427 (by decide +kernel)
theorem cs_L_17 : CS RL 17 yX5_posts := Or.inl (tbm 528 (by decide +kernel))
theorem cs_X5_89 : CS RX5 89 yX5_in := Or.inl (tbm 532 (by decide +kernel))
theorem cs_L_22 : CS RL 22 yX5_lane := Or.inl (tbm 535 (by decide +kernel))
theorem cs_X5_93 : CS RX5 93 yX5_isPost := Or.inl (tbm 539 (by decide +kernel))
theorem cs_L_27 : CS RL 27 yX5_room := Or.inl (tbm 543 (by decide +kernel))
theorem cs_X5_97 : CS RX5 97 yX5_isLane := Or.inl (tbm 547 (by decide +kernel))
theorem cs_L_32 : CS RL 32 yX5_share := Or.inl (tbm 551 (by decide +kernel))
theorem cs_L_37 : CS RL 37 yX5_tell := Or.inl (tbm 555 (by decide +kernel))
theorem cs_X5_100 : CS RX5 100 yX5_put := Or.inl (tbm 559 (by decide +kernel))
theorem cs_X5_111 : CS RX5 111 yX5_gcd := Or.inl (tbm 563 (by decide +kernel))
theorem cs_L_42 : CS RL 42 yX5_most := Or.inl (tbm 566 (by decide +kernel))
theorem cs_X5_137 : CS RX5 137 yX5_setShares := Or.inl (tbm 571 (by decide +kernel))
theorem cs_X5_141 : CS RX5 141 yX5_findMost := Or.inl (tbm 575 (by decide +kernel))
theorem cs_X5_115 : CS RX5 115 yX5_findPrices := Or.inl (tbm 579 (by decide +kernel))
theorem cs_X5_119 : CS RX5 119 yX5_findWorth := Or.inl (tbm 583 (by decide +kernel))
theorem cs_X5_128 : CS RX5 128 yX5_isLess := Or.inl (tbm 587 (by decide +kernel))
theorem cs_X5_132 : CS RX5 132 yX5_nextChoice := Or.inl (tbm 590 (by decide +kernel))
theorem cs_L_47 : CS RL 47 yX5_more := Or.inl (tbm 594 (by decide +kernel))
theorem cs_L_51 : CS RL 51 yX5_way := Or.inl (tbm 598 (by decide +kernel))
theorem cs_X5_173 : CS RX5 173 yX5_goAll := Or.inl (tbm 602 (by decide +kernel))
theorem cs_X5_160 : CS RX5 160 yX5_takes := Or.inl (tbm 606 (by decide +kernel))
theorem cs_X5_144 : CS RX5 144 yX5_productUp := Or.inl (tbm 610 (by decide +kernel))
theorem cs_X5_148 : CS RX5 148 yX5_productDown := Or.inl (tbm 614 (by decide +kernel))
theorem cs_X5_169 : CS RX5 169 yX5_isOn := Or.inl (tbm 618 (by decide +kernel))
theorem cs_X5_177 : CS RX5 177 yX5_keep := Or.inl (tbm 622 (by decide +kernel))
theorem cs_L_56 : CS RL 56 yX5_ring := Or.inl (tbm 626 (by decide +kernel))
theorem cs_X5_181 : CS RX5 181 yX5_findRings := Or.inl (tbm 630 (by decide +kernel))
theorem cs_L_61 : CS RL 61 yX5_row := Or.inl (tbm 634 (by decide +kernel))
theorem cs_L_66 : CS RL 66 yX5_gain := Or.inl (tbm 638 (by decide +kernel))
theorem cs_L_71 : CS RL 71 yX5_send := Or.inl (tbm 642 (by decide +kernel))
theorem cs_L_76 : CS RL 76 yX5_right := Or.inl (tbm 646 (by decide +kernel))
theorem cs_X5_186 : CS RX5 186 yX5_arrives := Or.inl (tbm 650 (by decide +kernel))
theorem cs_X5_189 : CS RX5 189 yX5_leaves := Or.inl (tbm 655 (by decide +kernel))
theorem cs_L_80 : CS RL 80 yX5_left := Or.inl (tbm 659 (by decide +kernel))
theorem cs_L_84 : CS RL 84 yX5_count := Or.inl (tbm 663 (by decide +kernel))
theorem cs_L_88 : CS RL 88 yX5_image := Or.inl (tbm 667 (by decide +kernel))
theorem cs_X5_192 : CS RX5 192 yX5_copy := Or.inl (tbm 671 (by decide +kernel))
theorem cs_X5_85 : CS RX5 85 yX5_move := Or.inl (tbm 675 (by decide +kernel))
theorem cs_L_92 : CS RL 92 yX5_again := Or.inl (tbm 678 (by decide +kernel))
theorem lk_X4_83 : Cond.constantLong RX4 83 (Int64.ofInt (-1)) ∈ lw_tbl := tbm 246 (by decide +kernel)
theorem lk_X2_96 : Cond.constantLong RX2 96 (Int64.ofInt (2520)) ∈ lw_tbl := tbm 289 (by decide +kernel)
theorem lk_X1_56 : Cond.constantLong RX1 56 (Int64.ofInt (2520)) ∈ lw_tbl := tbm 399 (by decide +kernel)
theorem lk_X4_142 : Cond.constantLong RX4 142 (Int64.ofInt (6350400)) ∈ lw_tbl := tbm 404 (by decide +kernel)
theorem lk_X5_135 : Cond.constantLong RX5 135 (Int64.ofInt (-1)) ∈ lw_tbl := tbm 570 (by decide +kernel)
theorem lk_X5_184 : Cond.constantLong RX5 184 (Int64.ofInt (6350400)) ∈ lw_tbl := tbm 654 (by decide +kernel)
theorem j_max1 : Cond.static Lib.Math.max.name ∈ lw_tbl := tbm 256 (by decide +kernel)
theorem j_max2 : Cond.code Lib.Math.max.name Lib.Math.max.code 2 (some .int) ∈ lw_tbl := tbm 257 (by decide +kernel)
theorem j_abs1 : Cond.static Lib.MathLoose.abs_long.x ∈ lw_tbl := tbm 295 (by decide +kernel)
theorem j_abs2 : Cond.code Lib.MathLoose.abs_long.x Lib.MathLoose.abs_long.code 2 (some .long) ∈ lw_tbl := tbm 296 (by decide +kernel)
theorem j_math : Cond.initialized "java/lang/Math" ∈ lw_tbl := tbm 7 (by decide +kernel)
theorem j_sys : Cond.initialized "java/lang/System" ∈ lw_tbl := tbm 8 (by decide +kernel)
theorem j_cp1 : Cond.native arraycopyName ∈ lw_tbl := tbm 357 (by decide +kernel)
theorem j_cp2 : Cond.static arraycopyName ∈ lw_tbl := tbm 356 (by decide +kernel)
section FRW
variable {G : GG} {E : EE} {cc : ByteArray} {nL : Nat} {n0 d kc wc pc : Nat} {lv st : List Value} {n k w : Nat} {rf : RF} {M : MM}
theorem gf_X1_9 (A : Am G E cc nL RX1 n0 d kc wc) {a len : Nat} (D : decode cc pc = .ok (.getfield 9, 3)) (hl : ly a = (1, len)) (ha : a < n) (kk : AW G E nL (pc + 3) lv (vi (M a 0) :: st) n k w rf M) : AW G E nL pc lv (.ref a :: st) n k w rf M := a_getI A cf1 hl ha 0 (by decide) fl_X1_9 (Or.inl rfl) D kk
theorem pf_X1_9 (A : Am G E cc nL RX1 n0 d kc wc) {a len : Nat} {x : Int} (D : decode cc pc = .ok (.putfield 9, 3)) (hl : ly a = (1, len)) (ha : a < n) (kk : AW G E nL (pc + 3) lv st n k w rf (up2 M a 0 x)) : AW G E nL pc lv (vi x :: .ref a :: st) n k w rf M := a_putI A cf1 hl ha 0 (by decide) fl_X1_9 rfl rfl D kk
theorem gf_X4_55 (A : Am G E cc nL RX4 n0 d kc wc) {a len : Nat} (D : decode cc pc = .ok (.getfield 55, 3)) (hl : ly a = (1, len)) (ha : a < n) (kk : AW G E nL (pc + 3) lv (vi (M a 0) :: st) n k w rf M) : AW G E nL pc lv (.ref a :: st) n k w rf M := a_getI A cf1 hl ha 0 (by decide) fl_X4_55 (Or.inl rfl) D kk
theorem pf_X4_55 (A : Am G E cc nL RX4 n0 d kc wc) {a len : Nat} {x : Int} (D : decode cc pc = .ok (.putfield 55, 3)) (hl : ly a = (1, len)) (ha : a < n) (kk : AW G E nL (pc + 3) lv st n k w rf (up2 M a 0 x)) : AW G E nL pc lv (vi x :: .ref a :: st) n k w rf M := a_putI A cf1 hl ha 0 (by decide) fl_X4_55 rfl rfl D kk
theorem gf_X3_53 (A : Am G E cc nL RX3 n0 d kc wc) {a len : Nat} (D : decode cc pc = .ok (.getfield 53, 3)) (hl : ly a = (1, len)) (ha : a < n) (kk : AW G E nL (pc + 3) lv (vi (M a 0) :: st) n k w rf M) : AW G E nL pc lv (.ref a :: st) n k w rf M := a_getI A cf1 hl ha 0 (by decide) fl_X3_53 (Or.inl rfl) D kk
theorem pf_X3_53 (A : Am G E cc nL RX3 n0 d kc wc) {a len : Nat} {x : Int} (D : decode cc pc = .ok (.putfield 53, 3)) (hl : ly a = (1, len)) (ha : a < n) (kk : AW G E nL (pc + 3) lv st n k w rf (up2 M a 0 x)) : AW G E nL pc lv (vi x :: .ref a :: st) n k w rf M := a_putI A cf1 hl ha 0 (by decide) fl_X3_53 rfl rfl D kk
theorem gf_X1_15 (A : Am G E cc nL RX1 n0 d kc wc) {a len : Nat} (D : decode cc pc = .ok (.getfield 15, 3)) (hl : ly a = (1, len)) (ha : a < n) (kk : AW G E nL (pc + 3) lv (vi (M a 1) :: st) n k w rf M) : AW G E nL pc lv (.ref a :: st) n k w rf M := a_getI A cf1 hl ha 1 (by decide) fl_X1_15 (Or.inl rfl) D kk
theorem pf_X1_15 (A : Am G E cc nL RX1 n0 d kc wc) {a len : Nat} {x : Int} (D : decode cc pc = .ok (.putfield 15, 3)) (hl : ly a = (1, len)) (ha : a < n) (kk : AW G E nL (pc + 3) lv st n k w rf (up2 M a 1 x)) : AW G E nL pc lv (vi x :: .ref a :: st) n k w rf M := a_putI A cf1 hl ha 1 (by decide) fl_X1_15 rfl rfl D kk
theorem gf_X2_68 (A : Am G E cc nL RX2 n0 d kc wc) {a len : Nat} (D : decode cc pc = .ok (.getfield 68, 3)) (hl : ly a = (1, len)) (ha : a < n) (kk : AW G E nL (pc + 3) lv (vi (M a 1) :: st) n k w rf M) : AW G E nL pc lv (.ref a :: st) n k w rf M := a_getI A cf1 hl ha 1 (by decide) fl_X2_68 (Or.inl rfl) D kk
theorem pf_X2_68 (A : Am G E cc nL RX2 n0 d kc wc) {a len : Nat} {x : Int} (D : decode cc pc = .ok (.putfield 68, 3)) (hl : ly a = (1, len)) (ha : a < n) (kk : AW G E nL (pc + 3) lv st n k w rf (up2 M a 1 x)) : AW G E nL pc lv (vi x :: .ref a :: st) n k w rf M := a_putI A cf1 hl ha 1 (by decide) fl_X2_68 rfl rfl D kk
theorem gf_X4_59 (A : Am G E cc nL RX4 n0 d kc wc) {a len : Nat} (D : decode cc pc = .ok (.getfield 59, 3)) (hl : ly a = (1, len)) (ha : a < n) (kk : AW G E nL (pc + 3) lv (vi (M a 1) :: st) n k w rf M) : AW G E nL pc lv (.ref a :: st) n k w rf M := a_getI A cf1 hl ha 1 (by decide) fl_X4_59 (Or.inl rfl) D kk
theorem pf_X4_59 (A : Am G E cc nL RX4 n0 d kc wc) {a len : Nat} {x : Int} (D : decode cc pc = .ok (.putfield 59, 3)) (hl : ly a = (1, len)) (ha : a < n) (kk : AW G E nL (pc + 3) lv st n k w rf (up2 M a 1 x)) : AW G E nL pc lv (vi x :: .ref a :: st) n k w rf M := a_putI A cf1 hl ha 1 (by decide) fl_X4_59 rfl rfl D kk
theorem gf_X3_58 (A : Am G E cc nL RX3 n0 d kc wc) {a len : Nat} (D : decode cc pc = .ok (.getfield 58, 3)) (hl : ly a = (1, len)) (ha : a < n) (kk : AW G E nL (pc + 3) lv (vi (M a 1) :: st) n k w rf M) : AW G E nL pc lv (.ref a :: st) n k w rf M := a_getI A cf1 hl ha 1 (by decide) fl_X3_58 (Or.inl rfl) D kk
theorem pf_X3_58 (A : Am G E cc nL RX3 n0 d kc wc) {a len : Nat} {x : Int} (D : decode cc pc = .ok (.putfield 58, 3)) (hl : ly a = (1, len)) (ha : a < n) (kk : AW G E nL (pc + 3) lv st n k w rf (up2 M a 1 x)) : AW G E nL pc lv (vi x :: .ref a :: st) n k w rf M := a_putI A cf1 hl ha 1 (by decide) fl_X3_58 rfl rfl D kk
theorem gf_X1_20 (A : Am G E cc nL RX1 n0 d kc wc) {a len r : Nat} (D : decode cc pc = .ok (.getfield 20, 3)) (hl : ly a = (1, len)) (ha : a < n) (hr : rf a 2 = some r) (kk : AW G E nL (pc + 3) lv (.ref r :: st) n k w rf M) : AW G E nL pc lv (.ref a :: st) n k w rf M := a_getR A cf1 hl ha 2 (by decide) fl_X1_20 (Or.inr ⟨_, rfl⟩) hr D kk
theorem pf_X1_20 (A : Am G E cc nL RX1 n0 d kc wc) {a len r : Nat} (hm : (eT E).name = "<init>") (D : decode cc pc = .ok (.putfield 20, 3)) (hl : ly a = (1, len)) (ha : a < n) (kk : AW G E nL (pc + 3) lv st n k w (upr rf a 2 (some r)) M) : AW G E nL pc lv (.ref r :: .ref a :: st) n k w rf M := a_putR A cf1 hl ha 2 (by decide) fk_X1_20 (Or.inr ⟨_, rfl⟩) rfl hm rfl D kk
theorem gf_X2_71 (A : Am G E cc nL RX2 n0 d kc wc) {a len r : Nat} (D : decode cc pc = .ok (.getfield 71, 3)) (hl : ly a = (1, len)) (ha : a < n) (hr : rf a 2 = some r) (kk : AW G E nL (pc + 3) lv (.ref r :: st) n k w rf M) : AW G E nL pc lv (.ref a :: st) n k w rf M := a_getR A cf1 hl ha 2 (by decide) fl_X2_71 (Or.inr ⟨_, rfl⟩) hr D kk
theorem gf_X4_76 (A : Am G E cc nL RX4 n0 d kc wc) {a len r : Nat} (D : decode cc pc = .ok (.getfield 76, 3)) (hl : ly a = (1, len)) (ha : a < n) (hr : rf a 2 = some r) (kk : AW G E nL (pc + 3) lv (.ref r :: st) n k w rf M) : AW G E nL pc lv (.ref a :: st) n k w rf M := a_getR A cf1 hl ha 2 (by decide) fl_X4_76 (Or.inr ⟨_, rfl⟩) hr D kk
theorem gf_X3_61 (A : Am G E cc nL RX3 n0 d kc wc) {a len r : Nat} (D : decode cc pc = .ok (.getfield 61, 3)) (hl : ly a = (1, len)) (ha : a < n) (hr : rf a 2 = some r) (kk : AW G E nL (pc + 3) lv (.ref r :: st) n k w rf M) : AW G E nL pc lv (.ref a :: st) n k w rf M := a_getR A cf1 hl ha 2 (by decide) fl_X3_61 (Or.inr ⟨_, rfl⟩) hr D kk
theorem gf_X1_23 (A : Am G E cc nL RX1 n0 d kc wc) {a len r : Nat} (D : decode cc pc = .ok (.getfield 23, 3)) (hl : ly a = (1, len)) (ha : a < n) (hr : rf a 3 = some r) (kk : AW G E nL (pc + 3) lv (.ref r :: st) n k w rf M) : AW G E nL pc lv (.ref a :: st) n k w rf M := a_getR A cf1 hl ha 3 (by decide) fl_X1_23 (Or.inr ⟨_, rfl⟩) hr D kk
theorem pf_X1_23 (A : Am G E cc nL RX1 n0 d kc wc) {a len r : Nat} (hm : (eT E).name = "<init>") (D : decode cc pc = .ok (.putfield 23, 3)) (hl : ly a = (1, len)) (ha : a < n) (kk : AW G E nL (pc + 3) lv st n k w (upr rf a 3 (some r)) M) : AW G E nL pc lv (.ref r :: .ref a :: st) n k w rf M := a_putR A cf1 hl ha 3 (by decide) fk_X1_23 (Or.inr ⟨_, rfl⟩) rfl hm rfl D kk
theorem gf_X4_123 (A : Am G E cc nL RX4 n0 d kc wc) {a len r : Nat} (D : decode cc pc = .ok (.getfield 123, 3)) (hl : ly a = (1, len)) (ha : a < n) (hr : rf a 3 = some r) (kk : AW G E nL (pc + 3) lv (.ref r :: st) n k w rf M) : AW G E nL pc lv (.ref a :: st) n k w rf M := a_getR A cf1 hl ha 3 (by decide) fl_X4_123 (Or.inr ⟨_, rfl⟩) hr D kk
theorem gf_X1_27 (A : Am G E cc nL RX1 n0 d kc wc) {a len : Nat} (D : decode cc pc = .ok (.getfield 27, 3)) (hl : ly a = (1, len)) (ha : a < n) (kk : AW G E nL (pc + 3) lv (vi (M a 4) :: st) n k w rf M) : AW G E nL pc lv (.ref a :: st) n k w rf M := a_getI A cf1 hl ha 4 (by decide) fl_X1_27 (Or.inl rfl) D kk
theorem pf_X1_27 (A : Am G E cc nL RX1 n0 d kc wc) {a len : Nat} {x : Int} (D : decode cc pc = .ok (.putfield 27, 3)) (hl : ly a = (1, len)) (ha : a < n) (kk : AW G E nL (pc + 3) lv st n k w rf (up2 M a 4 x)) : AW G E nL pc lv (vi x :: .ref a :: st) n k w rf M := a_putI A cf1 hl ha 4 (by decide) fl_X1_27 rfl rfl D kk
theorem gf_X4_120 (A : Am G E cc nL RX4 n0 d kc wc) {a len : Nat} (D : decode cc pc = .ok (.getfield 120, 3)) (hl : ly a = (1, len)) (ha : a < n) (kk : AW G E nL (pc + 3) lv (vi (M a 4) :: st) n k w rf M) : AW G E nL pc lv (.ref a :: st) n k w rf M := a_getI A cf1 hl ha 4 (by decide) fl_X4_120 (Or.inl rfl) D kk
theorem pf_X4_120 (A : Am G E cc nL RX4 n0 d kc wc) {a len : Nat} {x : Int} (D : decode cc pc = .ok (.putfield 120, 3)) (hl : ly a = (1, len)) (ha : a < n) (kk : AW G E nL (pc + 3) lv st n k w rf (up2 M a 4 x)) : AW G E nL pc lv (vi x :: .ref a :: st) n k w rf M := a_putI A cf1 hl ha 4 (by decide) fl_X4_120 rfl rfl D kk
theorem gf_X0_7 (A : Am G E cc nL RX0 n0 d kc wc) {a len : Nat} (D : decode cc pc = .ok (.getfield 7, 3)) (hl : ly a = (0, len)) (ha : a < n) (kk : AW G E nL (pc + 3) lv (vl (M a 0) :: st) n k w rf M) : AW G E nL pc lv (.ref a :: st) n k w rf M := a_getL A cf0 hl ha 0 (by decide) fl_X0_7 rfl D kk
theorem pf_X0_7 (A : Am G E cc nL RX0 n0 d kc wc) {a len : Nat} {x : Int} (D : decode cc pc = .ok (.putfield 7, 3)) (hl : ly a = (0, len)) (ha : a < n) (kk : AW G E nL (pc + 3) lv st n k w rf (up2 M a 0 x)) : AW G E nL pc lv (vl x :: .ref a :: st) n k w rf M := a_putL A cf0 hl ha 0 (by decide) fl_X0_7 rfl rfl D kk
theorem gf_X0_13 (A : Am G E cc nL RX0 n0 d kc wc) {a len : Nat} (D : decode cc pc = .ok (.getfield 13, 3)) (hl : ly a = (0, len)) (ha : a < n) (kk : AW G E nL (pc + 3) lv (vl (M a 1) :: st) n k w rf M) : AW G E nL pc lv (.ref a :: st) n k w rf M := a_getL A cf0 hl ha 1 (by decide) fl_X0_13 rfl D kk
theorem pf_X0_13 (A : Am G E cc nL RX0 n0 d kc wc) {a len : Nat} {x : Int} (D : decode cc pc = .ok (.putfield 13, 3)) (hl : ly a = (0, len)) (ha : a < n) (kk : AW G E nL (pc + 3) lv st n k w rf (up2 M a 1 x)) : AW G E nL pc lv (vl x :: .ref a :: st) n k w rf M := a_putL A cf0 hl ha 1 (by decide) fl_X0_13 rfl rfl D kk
theorem gf_X3_9 (A : Am G E cc nL RX3 n0 d kc wc) {a len r : Nat} (D : decode cc pc = .ok (.getfield 9, 3)) (hl : ly a = (3, len)) (ha : a < n) (hr : rf a 0 = some r) (kk : AW G E nL (pc + 3) lv (.ref r :: st) n k w rf M) : AW G E nL pc lv (.ref a :: st) n k w rf M := a_getR A cf3 hl ha 0 (by decide) fl_X3_9 (Or.inr ⟨_, rfl⟩) hr D kk
theorem pf_X3_9 (A : Am G E cc nL RX3 n0 d kc wc) {a len r : Nat} (hm : (eT E).name = "<init>") (D : decode cc pc = .ok (.putfield 9, 3)) (hl : ly a = (3, len)) (ha : a < n) (kk : AW G E nL (pc + 3) lv st n k w (upr rf a 0 (some r)) M) : AW G E nL pc lv (.ref r :: .ref a :: st) n k w rf M := a_putR A cf3 hl ha 0 (by decide) fk_X3_9 (Or.inr ⟨_, rfl⟩) rfl hm rfl D kk
theorem gf_X3_18 (A : Am G E cc nL RX3 n0 d kc wc) {a len r : Nat} (D : decode cc pc = .ok (.getfield 18, 3)) (hl : ly a = (3, len)) (ha : a < n) (hr : rf a 1 = some r) (kk : AW G E nL (pc + 3) lv (.ref r :: st) n k w rf M) : AW G E nL pc lv (.ref a :: st) n k w rf M := a_getR A cf3 hl ha 1 (by decide) fl_X3_18 (Or.inl ⟨_, rfl⟩) hr D kk
theorem pf_X3_18 (A : Am G E cc nL RX3 n0 d kc wc) {a len r : Nat} (hm : (eT E).name = "<init>") (D : decode cc pc = .ok (.putfield 18, 3)) (hl : ly a = (3, len)) (ha : a < n) (kk : AW G E nL (pc + 3) lv st n k w (upr rf a 1 (some r)) M) : AW G E nL pc lv (.ref r :: .ref a :: st) n k w rf M := a_putR A cf3 hl ha 1 (by decide) fk_X3_18 (Or.inl ⟨_, rfl⟩) rfl hm rfl D kk
theorem gf_X3_22 (A : Am G E cc nL RX3 n0 d kc wc) {a len r : Nat} (D : decode cc pc = .ok (.getfield 22, 3)) (hl : ly a = (3, len)) (ha : a < n) (hr : rf a 2 = some r) (kk : AW G E nL (pc + 3) lv (.ref r :: st) n k w rf M) : AW G E nL pc lv (.ref a :: st) n k w rf M := a_getR A cf3 hl ha 2 (by decide) fl_X3_22 (Or.inr ⟨_, rfl⟩) hr D kk
theorem pf_X3_22 (A : Am G E cc nL RX3 n0 d kc wc) {a len r : Nat} (hm : (eT E).name = "<init>") (D : decode cc pc = .ok (.putfield 22, 3)) (hl : ly a = (3, len)) (ha : a < n) (kk : AW G E nL (pc + 3) lv st n k w (upr rf a 2 (some r)) M) : AW G E nL pc lv (.ref r :: .ref a :: st) n k w rf M := a_putR A cf3 hl ha 2 (by decide) fk_X3_22 (Or.inr ⟨_, rfl⟩) rfl hm rfl D kk
theorem gf_X4_156 (A : Am G E cc nL RX4 n0 d kc wc) {a len r : Nat} (D : decode cc pc = .ok (.getfield 156, 3)) (hl : ly a = (3, len)) (ha : a < n) (hr : rf a 2 = some r) (kk : AW G E nL (pc + 3) lv (.ref r :: st) n k w rf M) : AW G E nL pc lv (.ref a :: st) n k w rf M := a_getR A cf3 hl ha 2 (by decide) fl_X4_156 (Or.inr ⟨_, rfl⟩) hr D kk
theorem gf_X3_25 (A : Am G E cc nL RX3 n0 d kc wc) {a len r : Nat} (D : decode cc pc = .ok (.getfield 25, 3)) (hl : ly a = (3, len)) (ha : a < n) (hr : rf a 3 = some r) (kk : AW G E nL (pc + 3) lv (.ref r :: st) n k w rf M) : AW G E nL pc lv (.ref a :: st) n k w rf M := a_getR A cf3 hl ha 3 (by decide) fl_X3_25 (Or.inl ⟨_, rfl⟩) hr D kk
theorem pf_X3_25 (A : Am G E cc nL RX3 n0 d kc wc) {a len r : Nat} (hm : (eT E).name = "<init>") (D : decode cc pc = .ok (.putfield 25, 3)) (hl : ly a = (3, len)) (ha : a < n) (kk : AW G E nL (pc + 3) lv st n k w (upr rf a 3 (some r)) M) : AW G E nL pc lv (.ref r :: .ref a :: st) n k w rf M := a_putR A cf3 hl ha 3 (by decide) fk_X3_25 (Or.inl ⟨_, rfl⟩) rfl hm rfl D kk
theorem gf_X3_28 (A : Am G E cc nL RX3 n0 d kc wc) {a len : Nat} (D : decode cc pc = .ok (.getfield 28, 3)) (hl : ly a = (3, len)) (ha : a < n) (kk : AW G E nL (pc + 3) lv (vi (M a 4) :: st) n k w rf M) : AW G E nL pc lv (.ref a :: st) n k w rf M := a_getI A cf3 hl ha 4 (by decide) fl_X3_28 (Or.inl rfl) D kk
theorem pf_X3_28 (A : Am G E cc nL RX3 n0 d kc wc) {a len : Nat} {x : Int} (D : decode cc pc = .ok (.putfield 28, 3)) (hl : ly a = (3, len)) (ha : a < n) (kk : AW G E nL (pc + 3) lv st n k w rf (up2 M a 4 x)) : AW G E nL pc lv (vi x :: .ref a :: st) n k w rf M := a_putI A cf3 hl ha 4 (by decide) fl_X3_28 rfl rfl D kk
theorem gf_X4_153 (A : Am G E cc nL RX4 n0 d kc wc) {a len : Nat} (D : decode cc pc = .ok (.getfield 153, 3)) (hl : ly a = (3, len)) (ha : a < n) (kk : AW G E nL (pc + 3) lv (vi (M a 4) :: st) n k w rf M) : AW G E nL pc lv (.ref a :: st) n k w rf M := a_getI A cf3 hl ha 4 (by decide) fl_X4_153 (Or.inl rfl) D kk
theorem pf_X4_153 (A : Am G E cc nL RX4 n0 d kc wc) {a len : Nat} {x : Int} (D : decode cc pc = .ok (.putfield 153, 3)) (hl : ly a = (3, len)) (ha : a < n) (kk : AW G E nL (pc + 3) lv st n k w rf (up2 M a 4 x)) : AW G E nL pc lv (vi x :: .ref a :: st) n k w rf M := a_putI A cf3 hl ha 4 (by decide) fl_X4_153 rfl rfl D kk
theorem gf_X3_32 (A : Am G E cc nL RX3 n0 d kc wc) {a len : Nat} (D : decode cc pc = .ok (.getfield 32, 3)) (hl : ly a = (3, len)) (ha : a < n) (kk : AW G E nL (pc + 3) lv (vi (M a 5) :: st) n k w rf M) : AW G E nL pc lv (.ref a :: st) n k w rf M := a_getI A cf3 hl ha 5 (by decide) fl_X3_32 (Or.inl rfl) D kk
theorem pf_X3_32 (A : Am G E cc nL RX3 n0 d kc wc) {a len : Nat} {x : Int} (D : decode cc pc = .ok (.putfield 32, 3)) (hl : ly a = (3, len)) (ha : a < n) (kk : AW G E nL (pc + 3) lv st n k w rf (up2 M a 5 x)) : AW G E nL pc lv (vi x :: .ref a :: st) n k w rf M := a_putI A cf3 hl ha 5 (by decide) fl_X3_32 rfl rfl D kk
theorem gf_X3_35 (A : Am G E cc nL RX3 n0 d kc wc) {a len : Nat} (D : decode cc pc = .ok (.getfield 35, 3)) (hl : ly a = (3, len)) (ha : a < n) (kk : AW G E nL (pc + 3) lv (vi (M a 6) :: st) n k w rf M) : AW G E nL pc lv (.ref a :: st) n k w rf M := a_getI A cf3 hl ha 6 (by decide) fl_X3_35 (Or.inr rfl) D kk
theorem pf_X3_35 (A : Am G E cc nL RX3 n0 d kc wc) {a len : Nat} {x : Int} (D : decode cc pc = .ok (.putfield 35, 3)) (hl : ly a = (3, len)) (ha : a < n) (hx : x = 0 ∨ x = 1) (kk : AW G E nL (pc + 3) lv st n k w rf (up2 M a 6 x)) : AW G E nL pc lv (vi x :: .ref a :: st) n k w rf M := a_putZ A cf3 hl ha 6 (by decide) fl_X3_35 rfl rfl D hx kk
theorem gf_X3_39 (A : Am G E cc nL RX3 n0 d kc wc) {a len : Nat} (D : decode cc pc = .ok (.getfield 39, 3)) (hl : ly a = (3, len)) (ha : a < n) (kk : AW G E nL (pc + 3) lv (vi (M a 7) :: st) n k w rf M) : AW G E nL pc lv (.ref a :: st) n k w rf M := a_getI A cf3 hl ha 7 (by decide) fl_X3_39 (Or.inl rfl) D kk
theorem pf_X3_39 (A : Am G E cc nL RX3 n0 d kc wc) {a len : Nat} {x : Int} (D : decode cc pc = .ok (.putfield 39, 3)) (hl : ly a = (3, len)) (ha : a < n) (kk : AW G E nL (pc + 3) lv st n k w rf (up2 M a 7 x)) : AW G E nL pc lv (vi x :: .ref a :: st) n k w rf M := a_putI A cf3 hl ha 7 (by decide) fl_X3_39 rfl rfl D kk
theorem gf_X4_144 (A : Am G E cc nL RX4 n0 d kc wc) {a len : Nat} (D : decode cc pc = .ok (.getfield 144, 3)) (hl : ly a = (3, len)) (ha : a < n) (kk : AW G E nL (pc + 3) lv (vi (M a 7) :: st) n k w rf M) : AW G E nL pc lv (.ref a :: st) n k w rf M := a_getI A cf3 hl ha 7 (by decide) fl_X4_144 (Or.inl rfl) D kk
theorem pf_X4_144 (A : Am G E cc nL RX4 n0 d kc wc) {a len : Nat} {x : Int} (D : decode cc pc = .ok (.putfield 144, 3)) (hl : ly a = (3, len)) (ha : a < n) (kk : AW G E nL (pc + 3) lv st n k w rf (up2 M a 7 x)) : AW G E nL pc lv (vi x :: .ref a :: st) n k w rf M := a_putI A cf3 hl ha 7 (by decide) fl_X4_144 rfl rfl D kk
theorem gf_X3_42 (A : Am G E cc nL RX3 n0 d kc wc) {a len : Nat} (D : decode cc pc = .ok (.getfield 42, 3)) (hl : ly a = (3, len)) (ha : a < n) (kk : AW G E nL (pc + 3) lv (vi (M a 8) :: st) n k w rf M) : AW G E nL pc lv (.ref a :: st) n k w rf M := a_getI A cf3 hl ha 8 (by decide) fl_X3_42 (Or.inl rfl) D kk
theorem pf_X3_42 (A : Am G E cc nL RX3 n0 d kc wc) {a len : Nat} {x : Int} (D : decode cc pc = .ok (.putfield 42, 3)) (hl : ly a = (3, len)) (ha : a < n) (kk : AW G E nL (pc + 3) lv st n k w rf (up2 M a 8 x)) : AW G E nL pc lv (vi x :: .ref a :: st) n k w rf M := a_putI A cf3 hl ha 8 (by decide) fl_X3_42 rfl rfl D kk
theorem gf_X4_147 (A : Am G E cc nL RX4 n0 d kc wc) {a len : Nat} (D : decode cc pc = .ok (.getfield 147, 3)) (hl : ly a = (3, len)) (ha : a < n) (kk : AW G E nL (pc + 3) lv (vi (M a 8) :: st) n k w rf M) : AW G E nL pc lv (.ref a :: st) n k w rf M := a_getI A cf3 hl ha 8 (by decide) fl_X4_147 (Or.inl rfl) D kk
theorem pf_X4_147 (A : Am G E cc nL RX4 n0 d kc wc) {a len : Nat} {x : Int} (D : decode cc pc = .ok (.putfield 147, 3)) (hl : ly a = (3, len)) (ha : a < n) (kk : AW G E nL (pc + 3) lv st n k w rf (up2 M a 8 x)) : AW G E nL pc lv (vi x :: .ref a :: st) n k w rf M := a_putI A cf3 hl ha 8 (by decide) fl_X4_147 rfl rfl D kk
theorem gf_X2_9 (A : Am G E cc nL RX2 n0 d kc wc) {a len r : Nat} (D : decode cc pc = .ok (.getfield 9, 3)) (hl : ly a = (2, len)) (ha : a < n) (hr : rf a 0 = some r) (kk : AW G E nL (pc + 3) lv (.ref r :: st) n k w rf M) : AW G E nL pc lv (.ref a :: st) n k w rf M := a_getR A cf2 hl ha 0 (by decide) fl_X2_9 (Or.inr ⟨_, rfl⟩) hr D kk
theorem pf_X2_9 (A : Am G E cc nL RX2 n0 d kc wc) {a len r : Nat} (hm : (eT E).name = "<init>") (D : decode cc pc = .ok (.putfield 9, 3)) (hl : ly a = (2, len)) (ha : a < n) (kk : AW G E nL (pc + 3) lv st n k w (upr rf a 0 (some r)) M) : AW G E nL pc lv (.ref r :: .ref a :: st) n k w rf M := a_putR A cf2 hl ha 0 (by decide) fk_X2_9 (Or.inr ⟨_, rfl⟩) rfl hm rfl D kk
theorem gf_X2_15 (A : Am G E cc nL RX2 n0 d kc wc) {a len r : Nat} (D : decode cc pc = .ok (.getfield 15, 3)) (hl : ly a = (2, len)) (ha : a < n) (hr : rf a 1 = some r) (kk : AW G E nL (pc + 3) lv (.ref r :: st) n k w rf M) : AW G E nL pc lv (.ref a :: st) n k w rf M := a_getR A cf2 hl ha 1 (by decide) fl_X2_15 (Or.inr ⟨_, rfl⟩) hr D kk
theorem pf_X2_15 (A : Am G E cc nL RX2 n0 d kc wc) {a len r : Nat} (hm : (eT E).name = "<init>") (D : decode cc pc = .ok (.putfield 15, 3)) (hl : ly a = (2, len)) (ha : a < n) (kk : AW G E nL (pc + 3) lv st n k w (upr rf a 1 (some r)) M) : AW G E nL pc lv (.ref r :: .ref a :: st) n k w rf M := a_putR A cf2 hl ha 1 (by decide) fk_X2_15 (Or.inr ⟨_, rfl⟩) rfl hm rfl D kk
theorem gf_X2_18 (A : Am G E cc nL RX2 n0 d kc wc) {a len r : Nat} (D : decode cc pc = .ok (.getfield 18, 3)) (hl : ly a = (2, len)) (ha : a < n) (hr : rf a 2 = some r) (kk : AW G E nL (pc + 3) lv (.ref r :: st) n k w rf M) : AW G E nL pc lv (.ref a :: st) n k w rf M := a_getR A cf2 hl ha 2 (by decide) fl_X2_18 (Or.inr ⟨_, rfl⟩) hr D kk
theorem pf_X2_18 (A : Am G E cc nL RX2 n0 d kc wc) {a len r : Nat} (hm : (eT E).name = "<init>") (D : decode cc pc = .ok (.putfield 18, 3)) (hl : ly a = (2, len)) (ha : a < n) (kk : AW G E nL (pc + 3) lv st n k w (upr rf a 2 (some r)) M) : AW G E nL pc lv (.ref r :: .ref a :: st) n k w rf M := a_putR A cf2 hl ha 2 (by decide) fk_X2_18 (Or.inr ⟨_, rfl⟩) rfl hm rfl D kk
theorem gf_X2_21 (A : Am G E cc nL RX2 n0 d kc wc) {a len r : Nat} (D : decode cc pc = .ok (.getfield 21, 3)) (hl : ly a = (2, len)) (ha : a < n) (hr : rf a 3 = some r) (kk : AW G E nL (pc + 3) lv (.ref r :: st) n k w rf M) : AW G E nL pc lv (.ref a :: st) n k w rf M := a_getR A cf2 hl ha 3 (by decide) fl_X2_21 (Or.inr ⟨_, rfl⟩) hr D kk
theorem pf_X2_21 (A : Am G E cc nL RX2 n0 d kc wc) {a len r : Nat} (hm : (eT E).name = "<init>") (D : decode cc pc = .ok (.putfield 21, 3)) (hl : ly a = (2, len)) (ha : a < n) (kk : AW G E nL (pc + 3) lv st n k w (upr rf a 3 (some r)) M) : AW G E nL pc lv (.ref r :: .ref a :: st) n k w rf M := a_putR A cf2 hl ha 3 (by decide) fk_X2_21 (Or.inr ⟨_, rfl⟩) rfl hm rfl D kk
theorem gf_X2_24 (A : Am G E cc nL RX2 n0 d kc wc) {a len r : Nat} (D : decode cc pc = .ok (.getfield 24, 3)) (hl : ly a = (2, len)) (ha : a < n) (hr : rf a 4 = some r) (kk : AW G E nL (pc + 3) lv (.ref r :: st) n k w rf M) : AW G E nL pc lv (.ref a :: st) n k w rf M := a_getR A cf2 hl ha 4 (by decide) fl_X2_24 (Or.inr ⟨_, rfl⟩) hr D kk
theorem pf_X2_24 (A : Am G E cc nL RX2 n0 d kc wc) {a len r : Nat} (hm : (eT E).name = "<init>") (D : decode cc pc = .ok (.putfield 24, 3)) (hl : ly a = (2, len)) (ha : a < n) (kk : AW G E nL (pc + 3) lv st n k w (upr rf a 4 (some r)) M) : AW G E nL pc lv (.ref r :: .ref a :: st) n k w rf M := a_putR A cf2 hl ha 4 (by decide) fk_X2_24 (Or.inr ⟨_, rfl⟩) rfl hm rfl D kk
theorem gf_X2_27 (A : Am G E cc nL RX2 n0 d kc wc) {a len : Nat} (D : decode cc pc = .ok (.getfield 27, 3)) (hl : ly a = (2, len)) (ha : a < n) (kk : AW G E nL (pc + 3) lv (vi (M a 5) :: st) n k w rf M) : AW G E nL pc lv (.ref a :: st) n k w rf M := a_getI A cf2 hl ha 5 (by decide) fl_X2_27 (Or.inl rfl) D kk
theorem pf_X2_27 (A : Am G E cc nL RX2 n0 d kc wc) {a len : Nat} {x : Int} (D : decode cc pc = .ok (.putfield 27, 3)) (hl : ly a = (2, len)) (ha : a < n) (kk : AW G E nL (pc + 3) lv st n k w rf (up2 M a 5 x)) : AW G E nL pc lv (vi x :: .ref a :: st) n k w rf M := a_putI A cf2 hl ha 5 (by decide) fl_X2_27 rfl rfl D kk
theorem gf_X2_33 (A : Am G E cc nL RX2 n0 d kc wc) {a len r : Nat} (D : decode cc pc = .ok (.getfield 33, 3)) (hl : ly a = (2, len)) (ha : a < n) (hr : rf a 6 = some r) (kk : AW G E nL (pc + 3) lv (.ref r :: st) n k w rf M) : AW G E nL pc lv (.ref a :: st) n k w rf M := a_getR A cf2 hl ha 6 (by decide) fl_X2_33 (Or.inr ⟨_, rfl⟩) hr D kk
theorem pf_X2_33 (A : Am G E cc nL RX2 n0 d kc wc) {a len r : Nat} (hm : (eT E).name = "<init>") (D : decode cc pc = .ok (.putfield 33, 3)) (hl : ly a = (2, len)) (ha : a < n) (kk : AW G E nL (pc + 3) lv st n k w (upr rf a 6 (some r)) M) : AW G E nL pc lv (.ref r :: .ref a :: st) n k w rf M := a_putR A cf2 hl ha 6 (by decide) fk_X2_33 (Or.inr ⟨_, rfl⟩) rfl hm rfl D kk
theorem gf_X2_36 (A : Am G E cc nL RX2 n0 d kc wc) {a len : Nat} (D : decode cc pc = .ok (.getfield 36, 3)) (hl : ly a = (2, len)) (ha : a < n) (kk : AW G E nL (pc + 3) lv (vi (M a 7) :: st) n k w rf M) : AW G E nL pc lv (.ref a :: st) n k w rf M := a_getI A cf2 hl ha 7 (by decide) fl_X2_36 (Or.inl rfl) D kk
theorem pf_X2_36 (A : Am G E cc nL RX2 n0 d kc wc) {a len : Nat} {x : Int} (D : decode cc pc = .ok (.putfield 36, 3)) (hl : ly a = (2, len)) (ha : a < n) (kk : AW G E nL (pc + 3) lv st n k w rf (up2 M a 7 x)) : AW G E nL pc lv (vi x :: .ref a :: st) n k w rf M := a_putI A cf2 hl ha 7 (by decide) fl_X2_36 rfl rfl D kk
theorem gf_X2_39 (A : Am G E cc nL RX2 n0 d kc wc) {a len r : Nat} (D : decode cc pc = .ok (.getfield 39, 3)) (hl : ly a = (2, len)) (ha : a < n) (hr : rf a 8 = some r) (kk : AW G E nL (pc + 3) lv (.ref r :: st) n k w rf M) : AW G E nL pc lv (.ref a :: st) n k w rf M := a_getR A cf2 hl ha 8 (by decide) fl_X2_39 (Or.inr ⟨_, rfl⟩) hr D kk
theorem pf_X2_39 (A : Am G E cc nL RX2 n0 d kc wc) {a len r : Nat} (hm : (eT E).name = "<init>") (D : decode cc pc = .ok (.putfield 39, 3)) (hl : ly a = (2, len)) (ha : a < n) (kk : AW G E nL (pc + 3) lv st n k w (upr rf a 8 (some r)) M) : AW G E nL pc lv (.ref r :: .ref a :: st) n k w rf M := a_putR A cf2 hl ha 8 (by decide) fk_X2_39 (Or.inr ⟨_, rfl⟩) rfl hm rfl D kk
theorem gf_X2_43 (A : Am G E cc nL RX2 n0 d kc wc) {a len : Nat} (D : decode cc pc = .ok (.getfield 43, 3)) (hl : ly a = (2, len)) (ha : a < n) (kk : AW G E nL (pc + 3) lv (vl (M a 9) :: st) n k w rf M) : AW G E nL pc lv (.ref a :: st) n k w rf M := a_getL A cf2 hl ha 9 (by decide) fl_X2_43 rfl D kk
theorem pf_X2_43 (A : Am G E cc nL RX2 n0 d kc wc) {a len : Nat} {x : Int} (D : decode cc pc = .ok (.putfield 43, 3)) (hl : ly a = (2, len)) (ha : a < n) (kk : AW G E nL (pc + 3) lv st n k w rf (up2 M a 9 x)) : AW G E nL pc lv (vl x :: .ref a :: st) n k w rf M := a_putL A cf2 hl ha 9 (by decide) fl_X2_43 rfl rfl D kk
theorem gf_X2_47 (A : Am G E cc nL RX2 n0 d kc wc) {a len : Nat} (D : decode cc pc = .ok (.getfield 47, 3)) (hl : ly a = (2, len)) (ha : a < n) (kk : AW G E nL (pc + 3) lv (vl (M a 10) :: st) n k w rf M) : AW G E nL pc lv (.ref a :: st) n k w rf M := a_getL A cf2 hl ha 10 (by decide) fl_X2_47 rfl D kk
theorem pf_X2_47 (A : Am G E cc nL RX2 n0 d kc wc) {a len : Nat} {x : Int} (D : decode cc pc = .ok (.putfield 47, 3)) (hl : ly a = (2, len)) (ha : a < n) (kk : AW G E nL (pc + 3) lv st n k w rf (up2 M a 10 x)) : AW G E nL pc lv (vl x :: .ref a :: st) n k w rf M := a_putL A cf2 hl ha 10 (by decide) fl_X2_47 rfl rfl D kk
theorem gf_X2_50 (A : Am G E cc nL RX2 n0 d kc wc) {a len : Nat} (D : decode cc pc = .ok (.getfield 50, 3)) (hl : ly a = (2, len)) (ha : a < n) (kk : AW G E nL (pc + 3) lv (vl (M a 11) :: st) n k w rf M) : AW G E nL pc lv (.ref a :: st) n k w rf M := a_getL A cf2 hl ha 11 (by decide) fl_X2_50 rfl D kk
theorem pf_X2_50 (A : Am G E cc nL RX2 n0 d kc wc) {a len : Nat} {x : Int} (D : decode cc pc = .ok (.putfield 50, 3)) (hl : ly a = (2, len)) (ha : a < n) (kk : AW G E nL (pc + 3) lv st n k w rf (up2 M a 11 x)) : AW G E nL pc lv (vl x :: .ref a :: st) n k w rf M := a_putL A cf2 hl ha 11 (by decide) fl_X2_50 rfl rfl D kk
theorem gf_X2_53 (A : Am G E cc nL RX2 n0 d kc wc) {a len : Nat} (D : decode cc pc = .ok (.getfield 53, 3)) (hl : ly a = (2, len)) (ha : a < n) (kk : AW G E nL (pc + 3) lv (vl (M a 12) :: st) n k w rf M) : AW G E nL pc lv (.ref a :: st) n k w rf M := a_getL A cf2 hl ha 12 (by decide) fl_X2_53 rfl D kk
theorem pf_X2_53 (A : Am G E cc nL RX2 n0 d kc wc) {a len : Nat} {x : Int} (D : decode cc pc = .ok (.putfield 53, 3)) (hl : ly a = (2, len)) (ha : a < n) (kk : AW G E nL (pc + 3) lv st n k w rf (up2 M a 12 x)) : AW G E nL pc lv (vl x :: .ref a :: st) n k w rf M := a_putL A cf2 hl ha 12 (by decide) fl_X2_53 rfl rfl D kk
theorem gf_X2_56 (A : Am G E cc nL RX2 n0 d kc wc) {a len : Nat} (D : decode cc pc = .ok (.getfield 56, 3)) (hl : ly a = (2, len)) (ha : a < n) (kk : AW G E nL (pc + 3) lv (vl (M a 13) :: st) n k w rf M) : AW G E nL pc lv (.ref a :: st) n k w rf M := a_getL A cf2 hl ha 13 (by decide) fl_X2_56 rfl D kk
theorem pf_X2_56 (A : Am G E cc nL RX2 n0 d kc wc) {a len : Nat} {x : Int} (D : decode cc pc = .ok (.putfield 56, 3)) (hl : ly a = (2, len)) (ha : a < n) (kk : AW G E nL (pc + 3) lv st n k w rf (up2 M a 13 x)) : AW G E nL pc lv (vl x :: .ref a :: st) n k w rf M := a_putL A cf2 hl ha 13 (by decide) fl_X2_56 rfl rfl D kk
theorem gf_X2_59 (A : Am G E cc nL RX2 n0 d kc wc) {a len : Nat} (D : decode cc pc = .ok (.getfield 59, 3)) (hl : ly a = (2, len)) (ha : a < n) (kk : AW G E nL (pc + 3) lv (vl (M a 14) :: st) n k w rf M) : AW G E nL pc lv (.ref a :: st) n k w rf M := a_getL A cf2 hl ha 14 (by decide) fl_X2_59 rfl D kk
theorem pf_X2_59 (A : Am G E cc nL RX2 n0 d kc wc) {a len : Nat} {x : Int} (D : decode cc pc = .ok (.putfield 59, 3)) (hl : ly a = (2, len)) (ha : a < n) (kk : AW G E nL (pc + 3) lv st n k w rf (up2 M a 14 x)) : AW G E nL pc lv (vl x :: .ref a :: st) n k w rf M := a_putL A cf2 hl ha 14 (by decide) fl_X2_59 rfl rfl D kk
theorem gf_X2_62 (A : Am G E cc nL RX2 n0 d kc wc) {a len : Nat} (D : decode cc pc = .ok (.getfield 62, 3)) (hl : ly a = (2, len)) (ha : a < n) (kk : AW G E nL (pc + 3) lv (vl (M a 15) :: st) n k w rf M) : AW G E nL pc lv (.ref a :: st) n k w rf M := a_getL A cf2 hl ha 15 (by decide) fl_X2_62 rfl D kk
theorem pf_X2_62 (A : Am G E cc nL RX2 n0 d kc wc) {a len : Nat} {x : Int} (D : decode cc pc = .ok (.putfield 62, 3)) (hl : ly a = (2, len)) (ha : a < n) (kk : AW G E nL (pc + 3) lv st n k w rf (up2 M a 15 x)) : AW G E nL pc lv (vl x :: .ref a :: st) n k w rf M := a_putL A cf2 hl ha 15 (by decide) fl_X2_62 rfl rfl D kk
theorem gf_X2_65 (A : Am G E cc nL RX2 n0 d kc wc) {a len : Nat} (D : decode cc pc = .ok (.getfield 65, 3)) (hl : ly a = (2, len)) (ha : a < n) (kk : AW G E nL (pc + 3) lv (vl (M a 16) :: st) n k w rf M) : AW G E nL pc lv (.ref a :: st) n k w rf M := a_getL A cf2 hl ha 16 (by decide) fl_X2_65 rfl D kk
theorem pf_X2_65 (A : Am G E cc nL RX2 n0 d kc wc) {a len : Nat} {x : Int} (D : decode cc pc = .ok (.putfield 65, 3)) (hl : ly a = (2, len)) (ha : a < n) (kk : AW G E nL (pc + 3) lv st n k w rf (up2 M a 16 x)) : AW G E nL pc lv (vl x :: .ref a :: st) n k w rf M := a_putL A cf2 hl ha 16 (by decide) fl_X2_65 rfl rfl D kk
theorem gf_X4_12 (A : Am G E cc nL RX4 n0 d kc wc) {a len r : Nat} (D : decode cc pc = .ok (.getfield 12, 3)) (hl : ly a = (4, len)) (ha : a < n) (hr : rf a 0 = some r) (kk : AW G E nL (pc + 3) lv (.ref r :: st) n k w rf M) : AW G E nL pc lv (.ref a :: st) n k w rf M := a_getR A cf4 hl ha 0 (by decide) fl_X4_12 (Or.inl ⟨_, rfl⟩) hr D kk
theorem pf_X4_12 (A : Am G E cc nL RX4 n0 d kc wc) {a len r : Nat} (hm : (eT E).name = "<init>") (D : decode cc pc = .ok (.putfield 12, 3)) (hl : ly a = (4, len)) (ha : a < n) (kk : AW G E nL (pc + 3) lv st n k w (upr rf a 0 (some r)) M) : AW G E nL pc lv (.ref r :: .ref a :: st) n k w rf M := a_putR A cf4 hl ha 0 (by decide) fk_X4_12 (Or.inl ⟨_, rfl⟩) rfl hm rfl D kk
theorem gf_X4_16 (A : Am G E cc nL RX4 n0 d kc wc) {a len r : Nat} (D : decode cc pc = .ok (.getfield 16, 3)) (hl : ly a = (4, len)) (ha : a < n) (hr : rf a 1 = some r) (kk : AW G E nL (pc + 3) lv (.ref r :: st) n k w rf M) : AW G E nL pc lv (.ref a :: st) n k w rf M := a_getR A cf4 hl ha 1 (by decide) fl_X4_16 (Or.inr ⟨_, rfl⟩) hr D kk
theorem pf_X4_16 (A : Am G E cc nL RX4 n0 d kc wc) {a len r : Nat} (hm : (eT E).name = "<init>") (D : decode cc pc = .ok (.putfield 16, 3)) (hl : ly a = (4, len)) (ha : a < n) (kk : AW G E nL (pc + 3) lv st n k w (upr rf a 1 (some r)) M) : AW G E nL pc lv (.ref r :: .ref a :: st) n k w rf M := a_putR A cf4 hl ha 1 (by decide) fk_X4_16 (Or.inr ⟨_, rfl⟩) rfl hm rfl D kk
theorem gf_X4_20 (A : Am G E cc nL RX4 n0 d kc wc) {a len r : Nat} (D : decode cc pc = .ok (.getfield 20, 3)) (hl : ly a = (4, len)) (ha : a < n) (hr : rf a 2 = some r) (kk : AW G E nL (pc + 3) lv (.ref r :: st) n k w rf M) : AW G E nL pc lv (.ref a :: st) n k w rf M := a_getR A cf4 hl ha 2 (by decide) fl_X4_20 (Or.inr ⟨_, rfl⟩) hr D kk
theorem pf_X4_20 (A : Am G E cc nL RX4 n0 d kc wc) {a len r : Nat} (hm : (eT E).name = "<init>") (D : decode cc pc = .ok (.putfield 20, 3)) (hl : ly a = (4, len)) (ha : a < n) (kk : AW G E nL (pc + 3) lv st n k w (upr rf a 2 (some r)) M) : AW G E nL pc lv (.ref r :: .ref a :: st) n k w rf M := a_putR A cf4 hl ha 2 (by decide) fk_X4_20 (Or.inr ⟨_, rfl⟩) rfl hm rfl D kk
theorem gf_X4_27 (A : Am G E cc nL RX4 n0 d kc wc) {a len r : Nat} (D : decode cc pc = .ok (.getfield 27, 3)) (hl : ly a = (4, len)) (ha : a < n) (hr : rf a 3 = some r) (kk : AW G E nL (pc + 3) lv (.ref r :: st) n k w rf M) : AW G E nL pc lv (.ref a :: st) n k w rf M := a_getR A cf4 hl ha 3 (by decide) fl_X4_27 (Or.inl ⟨_, rfl⟩) hr D kk
theorem pf_X4_27 (A : Am G E cc nL RX4 n0 d kc wc) {a len r : Nat} (hm : (eT E).name = "<init>") (D : decode cc pc = .ok (.putfield 27, 3)) (hl : ly a = (4, len)) (ha : a < n) (kk : AW G E nL (pc + 3) lv st n k w (upr rf a 3 (some r)) M) : AW G E nL pc lv (.ref r :: .ref a :: st) n k w rf M := a_putR A cf4 hl ha 3 (by decide) fk_X4_27 (Or.inl ⟨_, rfl⟩) rfl hm rfl D kk
theorem gf_X4_34 (A : Am G E cc nL RX4 n0 d kc wc) {a len r : Nat} (D : decode cc pc = .ok (.getfield 34, 3)) (hl : ly a = (4, len)) (ha : a < n) (hr : rf a 4 = some r) (kk : AW G E nL (pc + 3) lv (.ref r :: st) n k w rf M) : AW G E nL pc lv (.ref a :: st) n k w rf M := a_getR A cf4 hl ha 4 (by decide) fl_X4_34 (Or.inl ⟨_, rfl⟩) hr D kk
theorem pf_X4_34 (A : Am G E cc nL RX4 n0 d kc wc) {a len r : Nat} (hm : (eT E).name = "<init>") (D : decode cc pc = .ok (.putfield 34, 3)) (hl : ly a = (4, len)) (ha : a < n) (kk : AW G E nL (pc + 3) lv st n k w (upr rf a 4 (some r)) M) : AW G E nL pc lv (.ref r :: .ref a :: st) n k w rf M := a_putR A cf4 hl ha 4 (by decide) fk_X4_34 (Or.inl ⟨_, rfl⟩) rfl hm rfl D kk
theorem gf_X4_41 (A : Am G E cc nL RX4 n0 d kc wc) {a len r : Nat} (D : decode cc pc = .ok (.getfield 41, 3)) (hl : ly a = (4, len)) (ha : a < n) (hr : rf a 5 = some r) (kk : AW G E nL (pc + 3) lv (.ref r :: st) n k w rf M) : AW G E nL pc lv (.ref a :: st) n k w rf M := a_getR A cf4 hl ha 5 (by decide) fl_X4_41 (Or.inl ⟨_, rfl⟩) hr D kk
theorem pf_X4_41 (A : Am G E cc nL RX4 n0 d kc wc) {a len r : Nat} (hm : (eT E).name = "<init>") (D : decode cc pc = .ok (.putfield 41, 3)) (hl : ly a = (4, len)) (ha : a < n) (kk : AW G E nL (pc + 3) lv st n k w (upr rf a 5 (some r)) M) : AW G E nL pc lv (.ref r :: .ref a :: st) n k w rf M := a_putR A cf4 hl ha 5 (by decide) fk_X4_41 (Or.inl ⟨_, rfl⟩) rfl hm rfl D kk
theorem gf_X4_45 (A : Am G E cc nL RX4 n0 d kc wc) {a len r : Nat} (D : decode cc pc = .ok (.getfield 45, 3)) (hl : ly a = (4, len)) (ha : a < n) (hr : rf a 6 = some r) (kk : AW G E nL (pc + 3) lv (.ref r :: st) n k w rf M) : AW G E nL pc lv (.ref a :: st) n k w rf M := a_getR A cf4 hl ha 6 (by decide) fl_X4_45 (Or.inl ⟨_, rfl⟩) hr D kk
theorem pf_X4_45 (A : Am G E cc nL RX4 n0 d kc wc) {a len r : Nat} (hm : (eT E).name = "<init>") (D : decode cc pc = .ok (.putfield 45, 3)) (hl : ly a = (4, len)) (ha : a < n) (kk : AW G E nL (pc + 3) lv st n k w (upr rf a 6 (some r)) M) : AW G E nL pc lv (.ref r :: .ref a :: st) n k w rf M := a_putR A cf4 hl ha 6 (by decide) fk_X4_45 (Or.inl ⟨_, rfl⟩) rfl hm rfl D kk
theorem gf_X4_48 (A : Am G E cc nL RX4 n0 d kc wc) {a len r : Nat} (D : decode cc pc = .ok (.getfield 48, 3)) (hl : ly a = (4, len)) (ha : a < n) (hr : rf a 7 = some r) (kk : AW G E nL (pc + 3) lv (.ref r :: st) n k w rf M) : AW G E nL pc lv (.ref a :: st) n k w rf M := a_getR A cf4 hl ha 7 (by decide) fl_X4_48 (Or.inl ⟨_, rfl⟩) hr D kk
theorem pf_X4_48 (A : Am G E cc nL RX4 n0 d kc wc) {a len r : Nat} (hm : (eT E).name = "<init>") (D : decode cc pc = .ok (.putfield 48, 3)) (hl : ly a = (4, len)) (ha : a < n) (kk : AW G E nL (pc + 3) lv st n k w (upr rf a 7 (some r)) M) : AW G E nL pc lv (.ref r :: .ref a :: st) n k w rf M := a_putR A cf4 hl ha 7 (by decide) fk_X4_48 (Or.inl ⟨_, rfl⟩) rfl hm rfl D kk
theorem gf_X5_81 (A : Am G E cc nL RX5 n0 d kc wc) {a len : Nat} (D : decode cc pc = .ok (.getfield 81, 3)) (hl : ly a = (5, len)) (ha : a < n) (kk : AW G E nL (pc + 3) lv (vi (M a 0) :: st) n k w rf M) : AW G E nL pc lv (.ref a :: st) n k w rf M := a_getI A cf5 hl ha 0 (by decide) fl_X5_81 (Or.inl rfl) D kk
theorem pf_X5_81 (A : Am G E cc nL RX5 n0 d kc wc) {a len : Nat} {x : Int} (D : decode cc pc = .ok (.putfield 81, 3)) (hl : ly a = (5, len)) (ha : a < n) (kk : AW G E nL (pc + 3) lv st n k w rf (up2 M a 0 x)) : AW G E nL pc lv (vi x :: .ref a :: st) n k w rf M := a_putI A cf5 hl ha 0 (by decide) fl_X5_81 rfl rfl D kk
theorem gf_X5_7 (A : Am G E cc nL RX5 n0 d kc wc) {a len r : Nat} (D : decode cc pc = .ok (.getfield 7, 3)) (hl : ly a = (5, len)) (ha : a < n) (hr : rf a 1 = some r) (kk : AW G E nL (pc + 3) lv (.ref r :: st) n k w rf M) : AW G E nL pc lv (.ref a :: st) n k w rf M := a_getR A cf5 hl ha 1 (by decide) fl_X5_7 (Or.inr ⟨_, rfl⟩) hr D kk
theorem pf_X5_7 (A : Am G E cc nL RX5 n0 d kc wc) {a len r : Nat} (hm : (eT E).name = "<init>") (D : decode cc pc = .ok (.putfield 7, 3)) (hl : ly a = (5, len)) (ha : a < n) (kk : AW G E nL (pc + 3) lv st n k w (upr rf a 1 (some r)) M) : AW G E nL pc lv (.ref r :: .ref a :: st) n k w rf M := a_putR A cf5 hl ha 1 (by decide) fk_X5_7 (Or.inr ⟨_, rfl⟩) rfl hm rfl D kk
theorem gf_X5_13 (A : Am G E cc nL RX5 n0 d kc wc) {a len r : Nat} (D : decode cc pc = .ok (.getfield 13, 3)) (hl : ly a = (5, len)) (ha : a < n) (hr : rf a 2 = some r) (kk : AW G E nL (pc + 3) lv (.ref r :: st) n k w rf M) : AW G E nL pc lv (.ref a :: st) n k w rf M := a_getR A cf5 hl ha 2 (by decide) fl_X5_13 (Or.inr ⟨_, rfl⟩) hr D kk
theorem pf_X5_13 (A : Am G E cc nL RX5 n0 d kc wc) {a len r : Nat} (hm : (eT E).name = "<init>") (D : decode cc pc = .ok (.putfield 13, 3)) (hl : ly a = (5, len)) (ha : a < n) (kk : AW G E nL (pc + 3) lv st n k w (upr rf a 2 (some r)) M) : AW G E nL pc lv (.ref r :: .ref a :: st) n k w rf M := a_putR A cf5 hl ha 2 (by decide) fk_X5_13 (Or.inr ⟨_, rfl⟩) rfl hm rfl D kk
theorem gf_X5_16 (A : Am G E cc nL RX5 n0 d kc wc) {a len r : Nat} (D : decode cc pc = .ok (.getfield 16, 3)) (hl : ly a = (5, len)) (ha : a < n) (hr : rf a 3 = some r) (kk : AW G E nL (pc + 3) lv (.ref r :: st) n k w rf M) : AW G E nL pc lv (.ref a :: st) n k w rf M := a_getR A cf5 hl ha 3 (by decide) fl_X5_16 (Or.inr ⟨_, rfl⟩) hr D kk
theorem pf_X5_16 (A : Am G E cc nL RX5 n0 d kc wc) {a len r : Nat} (hm : (eT E).name = "<init>") (D : decode cc pc = .ok (.putfield 16, 3)) (hl : ly a = (5, len)) (ha : a < n) (kk : AW G E nL (pc + 3) lv st n k w (upr rf a 3 (some r)) M) : AW G E nL pc lv (.ref r :: .ref a :: st) n k w rf M := a_putR A cf5 hl ha 3 (by decide) fk_X5_16 (Or.inr ⟨_, rfl⟩) rfl hm rfl D kk
theorem gf_X5_19 (A : Am G E cc nL RX5 n0 d kc wc) {a len r : Nat} (D : decode cc pc = .ok (.getfield 19, 3)) (hl : ly a = (5, len)) (ha : a < n) (hr : rf a 4 = some r) (kk : AW G E nL (pc + 3) lv (.ref r :: st) n k w rf M) : AW G E nL pc lv (.ref a :: st) n k w rf M := a_getR A cf5 hl ha 4 (by decide) fl_X5_19 (Or.inr ⟨_, rfl⟩) hr D kk
theorem pf_X5_19 (A : Am G E cc nL RX5 n0 d kc wc) {a len r : Nat} (hm : (eT E).name = "<init>") (D : decode cc pc = .ok (.putfield 19, 3)) (hl : ly a = (5, len)) (ha : a < n) (kk : AW G E nL (pc + 3) lv st n k w (upr rf a 4 (some r)) M) : AW G E nL pc lv (.ref r :: .ref a :: st) n k w rf M := a_putR A cf5 hl ha 4 (by decide) fk_X5_19 (Or.inr ⟨_, rfl⟩) rfl hm rfl D kk
theorem gf_X5_22 (A : Am G E cc nL RX5 n0 d kc wc) {a len r : Nat} (D : decode cc pc = .ok (.getfield 22, 3)) (hl : ly a = (5, len)) (ha : a < n) (hr : rf a 5 = some r) (kk : AW G E nL (pc + 3) lv (.ref r :: st) n k w rf M) : AW G E nL pc lv (.ref a :: st) n k w rf M := a_getR A cf5 hl ha 5 (by decide) fl_X5_22 (Or.inr ⟨_, rfl⟩) hr D kk
theorem pf_X5_22 (A : Am G E cc nL RX5 n0 d kc wc) {a len r : Nat} (hm : (eT E).name = "<init>") (D : decode cc pc = .ok (.putfield 22, 3)) (hl : ly a = (5, len)) (ha : a < n) (kk : AW G E nL (pc + 3) lv st n k w (upr rf a 5 (some r)) M) : AW G E nL pc lv (.ref r :: .ref a :: st) n k w rf M := a_putR A cf5 hl ha 5 (by decide) fk_X5_22 (Or.inr ⟨_, rfl⟩) rfl hm rfl D kk
theorem gf_X5_25 (A : Am G E cc nL RX5 n0 d kc wc) {a len r : Nat} (D : decode cc pc = .ok (.getfield 25, 3)) (hl : ly a = (5, len)) (ha : a < n) (hr : rf a 6 = some r) (kk : AW G E nL (pc + 3) lv (.ref r :: st) n k w rf M) : AW G E nL pc lv (.ref a :: st) n k w rf M := a_getR A cf5 hl ha 6 (by decide) fl_X5_25 (Or.inr ⟨_, rfl⟩) hr D kk
theorem pf_X5_25 (A : Am G E cc nL RX5 n0 d kc wc) {a len r : Nat} (hm : (eT E).name = "<init>") (D : decode cc pc = .ok (.putfield 25, 3)) (hl : ly a = (5, len)) (ha : a < n) (kk : AW G E nL (pc + 3) lv st n k w (upr rf a 6 (some r)) M) : AW G E nL pc lv (.ref r :: .ref a :: st) n k w rf M := a_putR A cf5 hl ha 6 (by decide) fk_X5_25 (Or.inr ⟨_, rfl⟩) rfl hm rfl D kk
theorem gf_X5_28 (A : Am G E cc nL RX5 n0 d kc wc) {a len r : Nat} (D : decode cc pc = .ok (.getfield 28, 3)) (hl : ly a = (5, len)) (ha : a < n) (hr : rf a 7 = some r) (kk : AW G E nL (pc + 3) lv (.ref r :: st) n k w rf M) : AW G E nL pc lv (.ref a :: st) n k w rf M := a_getR A cf5 hl ha 7 (by decide) fl_X5_28 (Or.inr ⟨_, rfl⟩) hr D kk
theorem pf_X5_28 (A : Am G E cc nL RX5 n0 d kc wc) {a len r : Nat} (hm : (eT E).name = "<init>") (D : decode cc pc = .ok (.putfield 28, 3)) (hl : ly a = (5, len)) (ha : a < n) (kk : AW G E nL (pc + 3) lv st n k w (upr rf a 7 (some r)) M) : AW G E nL pc lv (.ref r :: .ref a :: st) n k w rf M := a_putR A cf5 hl ha 7 (by decide) fk_X5_28 (Or.inr ⟨_, rfl⟩) rfl hm rfl D kk
theorem gf_X5_31 (A : Am G E cc nL RX5 n0 d kc wc) {a len r : Nat} (D : decode cc pc = .ok (.getfield 31, 3)) (hl : ly a = (5, len)) (ha : a < n) (hr : rf a 8 = some r) (kk : AW G E nL (pc + 3) lv (.ref r :: st) n k w rf M) : AW G E nL pc lv (.ref a :: st) n k w rf M := a_getR A cf5 hl ha 8 (by decide) fl_X5_31 (Or.inr ⟨_, rfl⟩) hr D kk
theorem pf_X5_31 (A : Am G E cc nL RX5 n0 d kc wc) {a len r : Nat} (hm : (eT E).name = "<init>") (D : decode cc pc = .ok (.putfield 31, 3)) (hl : ly a = (5, len)) (ha : a < n) (kk : AW G E nL (pc + 3) lv st n k w (upr rf a 8 (some r)) M) : AW G E nL pc lv (.ref r :: .ref a :: st) n k w rf M := a_putR A cf5 hl ha 8 (by decide) fk_X5_31 (Or.inr ⟨_, rfl⟩) rfl hm rfl D kk
theorem gf_X5_34 (A : Am G E cc nL RX5 n0 d kc wc) {a len r : Nat} (D : decode cc pc = .ok (.getfield 34, 3)) (hl : ly a = (5, len)) (ha : a < n) (hr : rf a 9 = some r) (kk : AW G E nL (pc + 3) lv (.ref r :: st) n k w rf M) : AW G E nL pc lv (.ref a :: st) n k w rf M := a_getR A cf5 hl ha 9 (by decide) fl_X5_34 (Or.inr ⟨_, rfl⟩) hr D kk
theorem pf_X5_34 (A : Am G E cc nL RX5 n0 d kc wc) {a len r : Nat} (hm : (eT E).name = "<init>") (D : decode cc pc = .ok (.putfield 34, 3)) (hl : ly a = (5, len)) (ha : a < n) (kk : AW G E nL (pc + 3) lv st n k w (upr rf a 9 (some r)) M) : AW G E nL pc lv (.ref r :: .ref a :: st) n k w rf M := a_putR A cf5 hl ha 9 (by decide) fk_X5_34 (Or.inr ⟨_, rfl⟩) rfl hm rfl D kk
theorem gf_X5_37 (A : Am G E cc nL RX5 n0 d kc wc) {a len r : Nat} (D : decode cc pc = .ok (.getfield 37, 3)) (hl : ly a = (5, len)) (ha : a < n) (hr : rf a 10 = some r) (kk : AW G E nL (pc + 3) lv (.ref r :: st) n k w rf M) : AW G E nL pc lv (.ref a :: st) n k w rf M := a_getR A cf5 hl ha 10 (by decide) fl_X5_37 (Or.inr ⟨_, rfl⟩) hr D kk
theorem pf_X5_37 (A : Am G E cc nL RX5 n0 d kc wc) {a len r : Nat} (hm : (eT E).name = "<init>") (D : decode cc pc = .ok (.putfield 37, 3)) (hl : ly a = (5, len)) (ha : a < n) (kk : AW G E nL (pc + 3) lv st n k w (upr rf a 10 (some r)) M) : AW G E nL pc lv (.ref r :: .ref a :: st) n k w rf M := a_putR A cf5 hl ha 10 (by decide) fk_X5_37 (Or.inr ⟨_, rfl⟩) rfl hm rfl D kk
theorem gf_X5_40 (A : Am G E cc nL RX5 n0 d kc wc) {a len r : Nat} (D : decode cc pc = .ok (.getfield 40, 3)) (hl : ly a = (5, len)) (ha : a < n) (hr : rf a 11 = some r) (kk : AW G E nL (pc + 3) lv (.ref r :: st) n k w rf M) : AW G E nL pc lv (.ref a :: st) n k w rf M := a_getR A cf5 hl ha 11 (by decide) fl_X5_40 (Or.inr ⟨_, rfl⟩) hr D kk
theorem pf_X5_40 (A : Am G E cc nL RX5 n0 d kc wc) {a len r : Nat} (hm : (eT E).name = "<init>") (D : decode cc pc = .ok (.putfield 40, 3)) (hl : ly a = (5, len)) (ha : a < n) (kk : AW G E nL (pc + 3) lv st n k w (upr rf a 11 (some r)) M) : AW G E nL pc lv (.ref r :: .ref a :: st) n k w rf M := a_putR A cf5 hl ha 11 (by decide) fk_X5_40 (Or.inr ⟨_, rfl⟩) rfl hm rfl D kk
theorem gf_X5_43 (A : Am G E cc nL RX5 n0 d kc wc) {a len r : Nat} (D : decode cc pc = .ok (.getfield 43, 3)) (hl : ly a = (5, len)) (ha : a < n) (hr : rf a 12 = some r) (kk : AW G E nL (pc + 3) lv (.ref r :: st) n k w rf M) : AW G E nL pc lv (.ref a :: st) n k w rf M := a_getR A cf5 hl ha 12 (by decide) fl_X5_43 (Or.inr ⟨_, rfl⟩) hr D kk
theorem pf_X5_43 (A : Am G E cc nL RX5 n0 d kc wc) {a len r : Nat} (hm : (eT E).name = "<init>") (D : decode cc pc = .ok (.putfield 43, 3)) (hl : ly a = (5, len)) (ha : a < n) (kk : AW G E nL (pc + 3) lv st n k w (upr rf a 12 (some r)) M) : AW G E nL pc lv (.ref r :: .ref a :: st) n k w rf M := a_putR A cf5 hl ha 12 (by decide) fk_X5_43 (Or.inr ⟨_, rfl⟩) rfl hm rfl D kk
theorem gf_X5_46 (A : Am G E cc nL RX5 n0 d kc wc) {a len r : Nat} (D : decode cc pc = .ok (.getfield 46, 3)) (hl : ly a = (5, len)) (ha : a < n) (hr : rf a 13 = some r) (kk : AW G E nL (pc + 3) lv (.ref r :: st) n k w rf M) : AW G E nL pc lv (.ref a :: st) n k w rf M := a_getR A cf5 hl ha 13 (by decide) fl_X5_46 (Or.inr ⟨_, rfl⟩) hr D kk
theorem pf_X5_46 (A : Am G E cc nL RX5 n0 d kc wc) {a len r : Nat} (hm : (eT E).name = "<init>") (D : decode cc pc = .ok (.putfield 46, 3)) (hl : ly a = (5, len)) (ha : a < n) (kk : AW G E nL (pc + 3) lv st n k w (upr rf a 13 (some r)) M) : AW G E nL pc lv (.ref r :: .ref a :: st) n k w rf M := a_putR A cf5 hl ha 13 (by decide) fk_X5_46 (Or.inr ⟨_, rfl⟩) rfl hm rfl D kk
theorem gf_X5_50 (A : Am G E cc nL RX5 n0 d kc wc) {a len r : Nat} (D : decode cc pc = .ok (.getfield 50, 3)) (hl : ly a = (5, len)) (ha : a < n) (hr : rf a 14 = some r) (kk : AW G E nL (pc + 3) lv (.ref r :: st) n k w rf M) : AW G E nL pc lv (.ref a :: st) n k w rf M := a_getR A cf5 hl ha 14 (by decide) fl_X5_50 (Or.inr ⟨_, rfl⟩) hr D kk
theorem pf_X5_50 (A : Am G E cc nL RX5 n0 d kc wc) {a len r : Nat} (hm : (eT E).name = "<init>") (D : decode cc pc = .ok (.putfield 50, 3)) (hl : ly a = (5, len)) (ha : a < n) (kk : AW G E nL (pc + 3) lv st n k w (upr rf a 14 (some r)) M) : AW G E nL pc lv (.ref r :: .ref a :: st) n k w rf M := a_putR A cf5 hl ha 14 (by decide) fk_X5_50 (Or.inr ⟨_, rfl⟩) rfl hm rfl D kk
theorem gf_X5_104 (A : Am G E cc nL RX5 n0 d kc wc) {a len : Nat} (D : decode cc pc = .ok (.getfield 104, 3)) (hl : ly a = (5, len)) (ha : a < n) (kk : AW G E nL (pc + 3) lv (vl (M a 15) :: st) n k w rf M) : AW G E nL pc lv (.ref a :: st) n k w rf M := a_getL A cf5 hl ha 15 (by decide) fl_X5_104 rfl D kk
theorem pf_X5_104 (A : Am G E cc nL RX5 n0 d kc wc) {a len : Nat} {x : Int} (D : decode cc pc = .ok (.putfield 104, 3)) (hl : ly a = (5, len)) (ha : a < n) (kk : AW G E nL (pc + 3) lv st n k w rf (up2 M a 15 x)) : AW G E nL pc lv (vl x :: .ref a :: st) n k w rf M := a_putL A cf5 hl ha 15 (by decide) fl_X5_104 rfl rfl D kk
theorem gf_X5_108 (A : Am G E cc nL RX5 n0 d kc wc) {a len : Nat} (D : decode cc pc = .ok (.getfield 108, 3)) (hl : ly a = (5, len)) (ha : a < n) (kk : AW G E nL (pc + 3) lv (vl (M a 16) :: st) n k w rf M) : AW G E nL pc lv (.ref a :: st) n k w rf M := a_getL A cf5 hl ha 16 (by decide) fl_X5_108 rfl D kk
theorem pf_X5_108 (A : Am G E cc nL RX5 n0 d kc wc) {a len : Nat} {x : Int} (D : decode cc pc = .ok (.putfield 108, 3)) (hl : ly a = (5, len)) (ha : a < n) (kk : AW G E nL (pc + 3) lv st n k w rf (up2 M a 16 x)) : AW G E nL pc lv (vl x :: .ref a :: st) n k w rf M := a_putL A cf5 hl ha 16 (by decide) fl_X5_108 rfl rfl D kk
theorem gf_X5_53 (A : Am G E cc nL RX5 n0 d kc wc) {a len r : Nat} (D : decode cc pc = .ok (.getfield 53, 3)) (hl : ly a = (5, len)) (ha : a < n) (hr : rf a 17 = some r) (kk : AW G E nL (pc + 3) lv (.ref r :: st) n k w rf M) : AW G E nL pc lv (.ref a :: st) n k w rf M := a_getR A cf5 hl ha 17 (by decide) fl_X5_53 (Or.inr ⟨_, rfl⟩) hr D kk
theorem pf_X5_53 (A : Am G E cc nL RX5 n0 d kc wc) {a len r : Nat} (hm : (eT E).name = "<init>") (D : decode cc pc = .ok (.putfield 53, 3)) (hl : ly a = (5, len)) (ha : a < n) (kk : AW G E nL (pc + 3) lv st n k w (upr rf a 17 (some r)) M) : AW G E nL pc lv (.ref r :: .ref a :: st) n k w rf M := a_putR A cf5 hl ha 17 (by decide) fk_X5_53 (Or.inr ⟨_, rfl⟩) rfl hm rfl D kk
theorem gf_X5_56 (A : Am G E cc nL RX5 n0 d kc wc) {a len r : Nat} (D : decode cc pc = .ok (.getfield 56, 3)) (hl : ly a = (5, len)) (ha : a < n) (hr : rf a 18 = some r) (kk : AW G E nL (pc + 3) lv (.ref r :: st) n k w rf M) : AW G E nL pc lv (.ref a :: st) n k w rf M := a_getR A cf5 hl ha 18 (by decide) fl_X5_56 (Or.inr ⟨_, rfl⟩) hr D kk
theorem pf_X5_56 (A : Am G E cc nL RX5 n0 d kc wc) {a len r : Nat} (hm : (eT E).name = "<init>") (D : decode cc pc = .ok (.putfield 56, 3)) (hl : ly a = (5, len)) (ha : a < n) (kk : AW G E nL (pc + 3) lv st n k w (upr rf a 18 (some r)) M) : AW G E nL pc lv (.ref r :: .ref a :: st) n k w rf M := a_putR A cf5 hl ha 18 (by decide) fk_X5_56 (Or.inr ⟨_, rfl⟩) rfl hm rfl D kk
theorem gf_X5_59 (A : Am G E cc nL RX5 n0 d kc wc) {a len r : Nat} (D : decode cc pc = .ok (.getfield 59, 3)) (hl : ly a = (5, len)) (ha : a < n) (hr : rf a 19 = some r) (kk : AW G E nL (pc + 3) lv (.ref r :: st) n k w rf M) : AW G E nL pc lv (.ref a :: st) n k w rf M := a_getR A cf5 hl ha 19 (by decide) fl_X5_59 (Or.inr ⟨_, rfl⟩) hr D kk
theorem pf_X5_59 (A : Am G E cc nL RX5 n0 d kc wc) {a len r : Nat} (hm : (eT E).name = "<init>") (D : decode cc pc = .ok (.putfield 59, 3)) (hl : ly a = (5, len)) (ha : a < n) (kk : AW G E nL (pc + 3) lv st n k w (upr rf a 19 (some r)) M) : AW G E nL pc lv (.ref r :: .ref a :: st) n k w rf M := a_putR A cf5 hl ha 19 (by decide) fk_X5_59 (Or.inr ⟨_, rfl⟩) rfl hm rfl D kk
theorem gf_X5_62 (A : Am G E cc nL RX5 n0 d kc wc) {a len r : Nat} (D : decode cc pc = .ok (.getfield 62, 3)) (hl : ly a = (5, len)) (ha : a < n) (hr : rf a 20 = some r) (kk : AW G E nL (pc + 3) lv (.ref r :: st) n k w rf M) : AW G E nL pc lv (.ref a :: st) n k w rf M := a_getR A cf5 hl ha 20 (by decide) fl_X5_62 (Or.inr ⟨_, rfl⟩) hr D kk
theorem pf_X5_62 (A : Am G E cc nL RX5 n0 d kc wc) {a len r : Nat} (hm : (eT E).name = "<init>") (D : decode cc pc = .ok (.putfield 62, 3)) (hl : ly a = (5, len)) (ha : a < n) (kk : AW G E nL (pc + 3) lv st n k w (upr rf a 20 (some r)) M) : AW G E nL pc lv (.ref r :: .ref a :: st) n k w rf M := a_putR A cf5 hl ha 20 (by decide) fk_X5_62 (Or.inr ⟨_, rfl⟩) rfl hm rfl D kk
theorem gf_X5_65 (A : Am G E cc nL RX5 n0 d kc wc) {a len r : Nat} (D : decode cc pc = .ok (.getfield 65, 3)) (hl : ly a = (5, len)) (ha : a < n) (hr : rf a 21 = some r) (kk : AW G E nL (pc + 3) lv (.ref r :: st) n k w rf M) : AW G E nL pc lv (.ref a :: st) n k w rf M := a_getR A cf5 hl ha 21 (by decide) fl_X5_65 (Or.inr ⟨_, rfl⟩) hr D kk
theorem pf_X5_65 (A : Am G E cc nL RX5 n0 d kc wc) {a len r : Nat} (hm : (eT E).name = "<init>") (D : decode cc pc = .ok (.putfield 65, 3)) (hl : ly a = (5, len)) (ha : a < n) (kk : AW G E nL (pc + 3) lv st n k w (upr rf a 21 (some r)) M) : AW G E nL pc lv (.ref r :: .ref a :: st) n k w rf M := a_putR A cf5 hl ha 21 (by decide) fk_X5_65 (Or.inr ⟨_, rfl⟩) rfl hm rfl D kk
theorem gf_X5_68 (A : Am G E cc nL RX5 n0 d kc wc) {a len r : Nat} (D : decode cc pc = .ok (.getfield 68, 3)) (hl : ly a = (5, len)) (ha : a < n) (hr : rf a 22 = some r) (kk : AW G E nL (pc + 3) lv (.ref r :: st) n k w rf M) : AW G E nL pc lv (.ref a :: st) n k w rf M := a_getR A cf5 hl ha 22 (by decide) fl_X5_68 (Or.inr ⟨_, rfl⟩) hr D kk
theorem pf_X5_68 (A : Am G E cc nL RX5 n0 d kc wc) {a len r : Nat} (hm : (eT E).name = "<init>") (D : decode cc pc = .ok (.putfield 68, 3)) (hl : ly a = (5, len)) (ha : a < n) (kk : AW G E nL (pc + 3) lv st n k w (upr rf a 22 (some r)) M) : AW G E nL pc lv (.ref r :: .ref a :: st) n k w rf M := a_putR A cf5 hl ha 22 (by decide) fk_X5_68 (Or.inr ⟨_, rfl⟩) rfl hm rfl D kk
theorem gf_X5_122 (A : Am G E cc nL RX5 n0 d kc wc) {a len : Nat} (D : decode cc pc = .ok (.getfield 122, 3)) (hl : ly a = (5, len)) (ha : a < n) (kk : AW G E nL (pc + 3) lv (vl (M a 23) :: st) n k w rf M) : AW G E nL pc lv (.ref a :: st) n k w rf M := a_getL A cf5 hl ha 23 (by decide) fl_X5_122 rfl D kk
theorem pf_X5_122 (A : Am G E cc nL RX5 n0 d kc wc) {a len : Nat} {x : Int} (D : decode cc pc = .ok (.putfield 122, 3)) (hl : ly a = (5, len)) (ha : a < n) (kk : AW G E nL (pc + 3) lv st n k w rf (up2 M a 23 x)) : AW G E nL pc lv (vl x :: .ref a :: st) n k w rf M := a_putL A cf5 hl ha 23 (by decide) fl_X5_122 rfl rfl D kk
theorem gf_X5_125 (A : Am G E cc nL RX5 n0 d kc wc) {a len : Nat} (D : decode cc pc = .ok (.getfield 125, 3)) (hl : ly a = (5, len)) (ha : a < n) (kk : AW G E nL (pc + 3) lv (vl (M a 24) :: st) n k w rf M) : AW G E nL pc lv (.ref a :: st) n k w rf M := a_getL A cf5 hl ha 24 (by decide) fl_X5_125 rfl D kk
theorem pf_X5_125 (A : Am G E cc nL RX5 n0 d kc wc) {a len : Nat} {x : Int} (D : decode cc pc = .ok (.putfield 125, 3)) (hl : ly a = (5, len)) (ha : a < n) (kk : AW G E nL (pc + 3) lv st n k w rf (up2 M a 24 x)) : AW G E nL pc lv (vl x :: .ref a :: st) n k w rf M := a_putL A cf5 hl ha 24 (by decide) fl_X5_125 rfl rfl D kk
theorem gf_X5_71 (A : Am G E cc nL RX5 n0 d kc wc) {a len r : Nat} (D : decode cc pc = .ok (.getfield 71, 3)) (hl : ly a = (5, len)) (ha : a < n) (hr : rf a 25 = some r) (kk : AW G E nL (pc + 3) lv (.ref r :: st) n k w rf M) : AW G E nL pc lv (.ref a :: st) n k w rf M := a_getR A cf5 hl ha 25 (by decide) fl_X5_71 (Or.inr ⟨_, rfl⟩) hr D kk
theorem pf_X5_71 (A : Am G E cc nL RX5 n0 d kc wc) {a len r : Nat} (hm : (eT E).name = "<init>") (D : decode cc pc = .ok (.putfield 71, 3)) (hl : ly a = (5, len)) (ha : a < n) (kk : AW G E nL (pc + 3) lv st n k w (upr rf a 25 (some r)) M) : AW G E nL pc lv (.ref r :: .ref a :: st) n k w rf M := a_putR A cf5 hl ha 25 (by decide) fk_X5_71 (Or.inr ⟨_, rfl⟩) rfl hm rfl D kk
theorem gf_X5_74 (A : Am G E cc nL RX5 n0 d kc wc) {a len r : Nat} (D : decode cc pc = .ok (.getfield 74, 3)) (hl : ly a = (5, len)) (ha : a < n) (hr : rf a 26 = some r) (kk : AW G E nL (pc + 3) lv (.ref r :: st) n k w rf M) : AW G E nL pc lv (.ref a :: st) n k w rf M := a_getR A cf5 hl ha 26 (by decide) fl_X5_74 (Or.inr ⟨_, rfl⟩) hr D kk
theorem pf_X5_74 (A : Am G E cc nL RX5 n0 d kc wc) {a len r : Nat} (hm : (eT E).name = "<init>") (D : decode cc pc = .ok (.putfield 74, 3)) (hl : ly a = (5, len)) (ha : a < n) (kk : AW G E nL (pc + 3) lv st n k w (upr rf a 26 (some r)) M) : AW G E nL pc lv (.ref r :: .ref a :: st) n k w rf M := a_putR A cf5 hl ha 26 (by decide) fk_X5_74 (Or.inr ⟨_, rfl⟩) rfl hm rfl D kk
theorem gf_X5_151 (A : Am G E cc nL RX5 n0 d kc wc) {a len : Nat} (D : decode cc pc = .ok (.getfield 151, 3)) (hl : ly a = (5, len)) (ha : a < n) (kk : AW G E nL (pc + 3) lv (vi (M a 27) :: st) n k w rf M) : AW G E nL pc lv (.ref a :: st) n k w rf M := a_getI A cf5 hl ha 27 (by decide) fl_X5_151 (Or.inl rfl) D kk
theorem pf_X5_151 (A : Am G E cc nL RX5 n0 d kc wc) {a len : Nat} {x : Int} (D : decode cc pc = .ok (.putfield 151, 3)) (hl : ly a = (5, len)) (ha : a < n) (kk : AW G E nL (pc + 3) lv st n k w rf (up2 M a 27 x)) : AW G E nL pc lv (vi x :: .ref a :: st) n k w rf M := a_putI A cf5 hl ha 27 (by decide) fl_X5_151 rfl rfl D kk
theorem gf_X5_157 (A : Am G E cc nL RX5 n0 d kc wc) {a len : Nat} (D : decode cc pc = .ok (.getfield 157, 3)) (hl : ly a = (5, len)) (ha : a < n) (kk : AW G E nL (pc + 3) lv (vl (M a 28) :: st) n k w rf M) : AW G E nL pc lv (.ref a :: st) n k w rf M := a_getL A cf5 hl ha 28 (by decide) fl_X5_157 rfl D kk
theorem pf_X5_157 (A : Am G E cc nL RX5 n0 d kc wc) {a len : Nat} {x : Int} (D : decode cc pc = .ok (.putfield 157, 3)) (hl : ly a = (5, len)) (ha : a < n) (kk : AW G E nL (pc + 3) lv st n k w rf (up2 M a 28 x)) : AW G E nL pc lv (vl x :: .ref a :: st) n k w rf M := a_putL A cf5 hl ha 28 (by decide) fl_X5_157 rfl rfl D kk
theorem gf_X5_154 (A : Am G E cc nL RX5 n0 d kc wc) {a len : Nat} (D : decode cc pc = .ok (.getfield 154, 3)) (hl : ly a = (5, len)) (ha : a < n) (kk : AW G E nL (pc + 3) lv (vl (M a 29) :: st) n k w rf M) : AW G E nL pc lv (.ref a :: st) n k w rf M := a_getL A cf5 hl ha 29 (by decide) fl_X5_154 rfl D kk
theorem pf_X5_154 (A : Am G E cc nL RX5 n0 d kc wc) {a len : Nat} {x : Int} (D : decode cc pc = .ok (.putfield 154, 3)) (hl : ly a = (5, len)) (ha : a < n) (kk : AW G E nL (pc + 3) lv st n k w rf (up2 M a 29 x)) : AW G E nL pc lv (vl x :: .ref a :: st) n k w rf M := a_putL A cf5 hl ha 29 (by decide) fl_X5_154 rfl rfl D kk
theorem gf_X5_163 (A : Am G E cc nL RX5 n0 d kc wc) {a len : Nat} (D : decode cc pc = .ok (.getfield 163, 3)) (hl : ly a = (5, len)) (ha : a < n) (kk : AW G E nL (pc + 3) lv (vi (M a 30) :: st) n k w rf M) : AW G E nL pc lv (.ref a :: st) n k w rf M := a_getI A cf5 hl ha 30 (by decide) fl_X5_163 (Or.inl rfl) D kk
theorem pf_X5_163 (A : Am G E cc nL RX5 n0 d kc wc) {a len : Nat} {x : Int} (D : decode cc pc = .ok (.putfield 163, 3)) (hl : ly a = (5, len)) (ha : a < n) (kk : AW G E nL (pc + 3) lv st n k w rf (up2 M a 30 x)) : AW G E nL pc lv (vi x :: .ref a :: st) n k w rf M := a_putI A cf5 hl ha 30 (by decide) fl_X5_163 rfl rfl D kk
theorem gf_X5_166 (A : Am G E cc nL RX5 n0 d kc wc) {a len : Nat} (D : decode cc pc = .ok (.getfield 166, 3)) (hl : ly a = (5, len)) (ha : a < n) (kk : AW G E nL (pc + 3) lv (vi (M a 31) :: st) n k w rf M) : AW G E nL pc lv (.ref a :: st) n k w rf M := a_getI A cf5 hl ha 31 (by decide) fl_X5_166 (Or.inl rfl) D kk
theorem pf_X5_166 (A : Am G E cc nL RX5 n0 d kc wc) {a len : Nat} {x : Int} (D : decode cc pc = .ok (.putfield 166, 3)) (hl : ly a = (5, len)) (ha : a < n) (kk : AW G E nL (pc + 3) lv st n k w rf (up2 M a 31 x)) : AW G E nL pc lv (vi x :: .ref a :: st) n k w rf M := a_putI A cf5 hl ha 31 (by decide) fl_X5_166 rfl rfl D kk
theorem gf_X5_77 (A : Am G E cc nL RX5 n0 d kc wc) {a len r : Nat} (D : decode cc pc = .ok (.getfield 77, 3)) (hl : ly a = (5, len)) (ha : a < n) (hr : rf a 32 = some r) (kk : AW G E nL (pc + 3) lv (.ref r :: st) n k w rf M) : AW G E nL pc lv (.ref a :: st) n k w rf M := a_getR A cf5 hl ha 32 (by decide) fl_X5_77 (Or.inr ⟨_, rfl⟩) hr D kk
theorem pf_X5_77 (A : Am G E cc nL RX5 n0 d kc wc) {a len r : Nat} (hm : (eT E).name = "<init>") (D : decode cc pc = .ok (.putfield 77, 3)) (hl : ly a = (5, len)) (ha : a < n) (kk : AW G E nL (pc + 3) lv st n k w (upr rf a 32 (some r)) M) : AW G E nL pc lv (.ref r :: .ref a :: st) n k w rf M := a_putR A cf5 hl ha 32 (by decide) fk_X5_77 (Or.inr ⟨_, rfl⟩) rfl hm rfl D kk
end FRW
