theorem dX5_init_0 : decode cX5_init 0 = .ok (.aload_n 0, 1) := by decide +kernel
theorem dX5_init_1 : decode cX5_init 1 = .ok (.invokespecial 1, 3) := by decide +kernel
theorem dX5_init_4 : decode cX5_init 4 = .ok (.aload_n 0, 1) := by decide +kernel
theorem dX5_init_5 : decode cX5_init 5 = .ok (.iconst 4, 1) := by decide +kernel
theorem dX5_init_6 : decode cX5_init 6 = .ok (.newarray .int, 2) := by decide +kernel
theorem dX5_init_8 : decode cX5_init 8 = .ok (.putfield 7, 3) := by decide +kernel
theorem dX5_init_11 : decode cX5_init 11 = .ok (.aload_n 0, 1) := by decide +kernel
theorem dX5_init_12 : decode cX5_init 12 = .ok (.iconst 4, 1) := by decide +kernel
theorem dX5_init_13 : decode cX5_init 13 = .ok (.newarray .int, 2) := by decide +kernel
theorem dX5_init_15 : decode cX5_init 15 = .ok (.putfield 13, 3) := by decide +kernel
theorem dX5_init_18 : decode cX5_init 18 = .ok (.aload_n 0, 1) := by decide +kernel
theorem dX5_init_19 : decode cX5_init 19 = .ok (.bipush 40, 2) := by decide +kernel
theorem dX5_init_21 : decode cX5_init 21 = .ok (.newarray .int, 2) := by decide +kernel
theorem dX5_init_23 : decode cX5_init 23 = .ok (.putfield 16, 3) := by decide +kernel
theorem dX5_init_26 : decode cX5_init 26 = .ok (.aload_n 0, 1) := by decide +kernel
theorem dX5_init_27 : decode cX5_init 27 = .ok (.bipush 40, 2) := by decide +kernel
theorem dX5_init_29 : decode cX5_init 29 = .ok (.newarray .int, 2) := by decide +kernel
theorem dX5_init_31 : decode cX5_init 31 = .ok (.putfield 19, 3) := by decide +kernel
theorem dX5_init_34 : decode cX5_init 34 = .ok (.aload_n 0, 1) := by decide +kernel
theorem dX5_init_35 : decode cX5_init 35 = .ok (.bipush 40, 2) := by decide +kernel
theorem dX5_init_37 : decode cX5_init 37 = .ok (.newarray .int, 2) := by decide +kernel
theorem dX5_init_39 : decode cX5_init 39 = .ok (.putfield 22, 3) := by decide +kernel
theorem dX5_init_42 : decode cX5_init 42 = .ok (.aload_n 0, 1) := by decide +kernel
theorem dX5_init_43 : decode cX5_init 43 = .ok (.bipush 40, 2) := by decide +kernel
theorem dX5_init_45 : decode cX5_init 45 = .ok (.newarray .int, 2) := by decide +kernel
theorem dX5_init_47 : decode cX5_init 47 = .ok (.putfield 25, 3) := by decide +kernel
theorem dX5_init_50 : decode cX5_init 50 = .ok (.aload_n 0, 1) := by decide +kernel
theorem dX5_init_51 : decode cX5_init 51 = .ok (.bipush 40, 2) := by decide +kernel
theorem dX5_init_53 : decode cX5_init 53 = .ok (.newarray .int, 2) := by decide +kernel
theorem dX5_init_55 : decode cX5_init 55 = .ok (.putfield 28, 3) := by decide +kernel
theorem dX5_init_58 : decode cX5_init 58 = .ok (.aload_n 0, 1) := by decide +kernel
theorem dX5_init_59 : decode cX5_init 59 = .ok (.bipush 40, 2) := by decide +kernel
theorem dX5_init_61 : decode cX5_init 61 = .ok (.newarray .int, 2) := by decide +kernel
theorem dX5_init_63 : decode cX5_init 63 = .ok (.putfield 31, 3) := by decide +kernel
theorem dX5_init_66 : decode cX5_init 66 = .ok (.aload_n 0, 1) := by decide +kernel
theorem dX5_init_67 : decode cX5_init 67 = .ok (.bipush 40, 2) := by decide +kernel
theorem dX5_init_69 : decode cX5_init 69 = .ok (.newarray .int, 2) := by decide +kernel
theorem dX5_init_71 : decode cX5_init 71 = .ok (.putfield 34, 3) := by decide +kernel
theorem dX5_init_74 : decode cX5_init 74 = .ok (.aload_n 0, 1) := by decide +kernel
theorem dX5_init_75 : decode cX5_init 75 = .ok (.bipush 40, 2) := by decide +kernel
theorem dX5_init_77 : decode cX5_init 77 = .ok (.newarray .int, 2) := by decide +kernel
theorem dX5_init_79 : decode cX5_init 79 = .ok (.putfield 37, 3) := by decide +kernel
theorem dX5_init_82 : decode cX5_init 82 = .ok (.aload_n 0, 1) := by decide +kernel
theorem dX5_init_83 : decode cX5_init 83 = .ok (.iconst 4, 1) := by decide +kernel
theorem dX5_init_84 : decode cX5_init 84 = .ok (.newarray .int, 2) := by decide +kernel
theorem dX5_init_86 : decode cX5_init 86 = .ok (.putfield 40, 3) := by decide +kernel
theorem dX5_init_89 : decode cX5_init 89 = .ok (.aload_n 0, 1) := by decide +kernel
theorem dX5_init_90 : decode cX5_init 90 = .ok (.bipush 20, 2) := by decide +kernel
theorem dX5_init_92 : decode cX5_init 92 = .ok (.newarray .int, 2) := by decide +kernel
theorem dX5_init_94 : decode cX5_init 94 = .ok (.putfield 43, 3) := by decide +kernel
theorem dX5_init_97 : decode cX5_init 97 = .ok (.aload_n 0, 1) := by decide +kernel
theorem dX5_init_98 : decode cX5_init 98 = .ok (.iconst 4, 1) := by decide +kernel
theorem dX5_init_99 : decode cX5_init 99 = .ok (.newarray .long, 2) := by decide +kernel
theorem dX5_init_101 : decode cX5_init 101 = .ok (.putfield 46, 3) := by decide +kernel
theorem dX5_init_104 : decode cX5_init 104 = .ok (.aload_n 0, 1) := by decide +kernel
theorem dX5_init_105 : decode cX5_init 105 = .ok (.iconst 4, 1) := by decide +kernel
theorem dX5_init_106 : decode cX5_init 106 = .ok (.newarray .long, 2) := by decide +kernel
theorem dX5_init_108 : decode cX5_init 108 = .ok (.putfield 50, 3) := by decide +kernel
theorem dX5_init_111 : decode cX5_init 111 = .ok (.aload_n 0, 1) := by decide +kernel
theorem dX5_init_112 : decode cX5_init 112 = .ok (.bipush 10, 2) := by decide +kernel
theorem dX5_init_114 : decode cX5_init 114 = .ok (.newarray .int, 2) := by decide +kernel
theorem dX5_init_116 : decode cX5_init 116 = .ok (.putfield 53, 3) := by decide +kernel
theorem dX5_init_119 : decode cX5_init 119 = .ok (.aload_n 0, 1) := by decide +kernel
theorem dX5_init_120 : decode cX5_init 120 = .ok (.bipush 10, 2) := by decide +kernel
theorem dX5_init_122 : decode cX5_init 122 = .ok (.newarray .int, 2) := by decide +kernel
theorem dX5_init_124 : decode cX5_init 124 = .ok (.putfield 56, 3) := by decide +kernel
theorem dX5_init_127 : decode cX5_init 127 = .ok (.aload_n 0, 1) := by decide +kernel
theorem dX5_init_128 : decode cX5_init 128 = .ok (.bipush 10, 2) := by decide +kernel
theorem dX5_init_130 : decode cX5_init 130 = .ok (.newarray .int, 2) := by decide +kernel
theorem dX5_init_132 : decode cX5_init 132 = .ok (.putfield 59, 3) := by decide +kernel
theorem dX5_init_135 : decode cX5_init 135 = .ok (.aload_n 0, 1) := by decide +kernel
theorem dX5_init_136 : decode cX5_init 136 = .ok (.iconst 5, 1) := by decide +kernel
theorem dX5_init_137 : decode cX5_init 137 = .ok (.newarray .int, 2) := by decide +kernel
theorem dX5_init_139 : decode cX5_init 139 = .ok (.putfield 62, 3) := by decide +kernel
theorem dX5_init_142 : decode cX5_init 142 = .ok (.aload_n 0, 1) := by decide +kernel
theorem dX5_init_143 : decode cX5_init 143 = .ok (.iconst 5, 1) := by decide +kernel
theorem dX5_init_144 : decode cX5_init 144 = .ok (.newarray .long, 2) := by decide +kernel
theorem dX5_init_146 : decode cX5_init 146 = .ok (.putfield 65, 3) := by decide +kernel
theorem dX5_init_149 : decode cX5_init 149 = .ok (.aload_n 0, 1) := by decide +kernel
theorem dX5_init_150 : decode cX5_init 150 = .ok (.iconst 5, 1) := by decide +kernel
theorem dX5_init_151 : decode cX5_init 151 = .ok (.newarray .long, 2) := by decide +kernel
theorem dX5_init_153 : decode cX5_init 153 = .ok (.putfield 68, 3) := by decide +kernel
theorem dX5_init_156 : decode cX5_init 156 = .ok (.aload_n 0, 1) := by decide +kernel
theorem dX5_init_157 : decode cX5_init 157 = .ok (.iconst 5, 1) := by decide +kernel
theorem dX5_init_158 : decode cX5_init 158 = .ok (.newarray .int, 2) := by decide +kernel
theorem dX5_init_160 : decode cX5_init 160 = .ok (.putfield 71, 3) := by decide +kernel
theorem dX5_init_163 : decode cX5_init 163 = .ok (.aload_n 0, 1) := by decide +kernel
theorem dX5_init_164 : decode cX5_init 164 = .ok (.iconst 5, 1) := by decide +kernel
theorem dX5_init_165 : decode cX5_init 165 = .ok (.newarray .int, 2) := by decide +kernel
theorem dX5_init_167 : decode cX5_init 167 = .ok (.putfield 74, 3) := by decide +kernel
theorem dX5_init_170 : decode cX5_init 170 = .ok (.aload_n 0, 1) := by decide +kernel
theorem dX5_init_171 : decode cX5_init 171 = .ok (.iconst 3, 1) := by decide +kernel
theorem dX5_init_172 : decode cX5_init 172 = .ok (.newarray .boolean, 2) := by decide +kernel
theorem dX5_init_174 : decode cX5_init 174 = .ok (.putfield 77, 3) := by decide +kernel
theorem dX5_init_177 : decode cX5_init 177 = .ok (.aload_n 0, 1) := by decide +kernel
theorem dX5_init_178 : decode cX5_init 178 = .ok (.getfield 7, 3) := by decide +kernel
theorem dX5_init_181 : decode cX5_init 181 = .ok (.iconst 0, 1) := by decide +kernel
theorem dX5_init_182 : decode cX5_init 182 = .ok (.iconst 2, 1) := by decide +kernel
theorem dX5_init_183 : decode cX5_init 183 = .ok (.iastore, 1) := by decide +kernel
theorem dX5_init_184 : decode cX5_init 184 = .ok (.return_, 1) := by decide +kernel
theorem dX5_in_0 : decode cX5_in 0 = .ok (.iload_n 0, 1) := by decide +kernel
theorem dX5_in_1 : decode cX5_in 1 = .ok (.iload_n 1, 1) := by decide +kernel
theorem dX5_in_2 : decode cX5_in 2 = .ok (.if_icmp .lt 12, 3) := by decide +kernel
theorem dX5_in_5 : decode cX5_in 5 = .ok (.iload_n 0, 1) := by decide +kernel
theorem dX5_in_6 : decode cX5_in 6 = .ok (.iload_n 2, 1) := by decide +kernel
theorem dX5_in_7 : decode cX5_in 7 = .ok (.if_icmp .gt 7, 3) := by decide +kernel
theorem dX5_in_10 : decode cX5_in 10 = .ok (.iconst 1, 1) := by decide +kernel
theorem dX5_in_11 : decode cX5_in 11 = .ok (.goto 4, 3) := by decide +kernel
theorem dX5_in_14 : decode cX5_in 14 = .ok (.iconst 0, 1) := by decide +kernel
theorem dX5_in_15 : decode cX5_in 15 = .ok (.ireturn, 1) := by decide +kernel
theorem dX5_move_0 : decode cX5_move 0 = .ok (.iconst 0, 1) := by decide +kernel
theorem dX5_move_1 : decode cX5_move 1 = .ok (.istore 4, 2) := by decide +kernel
theorem dX5_move_3 : decode cX5_move 3 = .ok (.iload 4, 2) := by decide +kernel
theorem dX5_move_5 : decode cX5_move 5 = .ok (.iload_n 1, 1) := by decide +kernel
theorem dX5_move_6 : decode cX5_move 6 = .ok (.if_icmp .ge 25, 3) := by decide +kernel
theorem dX5_move_9 : decode cX5_move 9 = .ok (.aload_n 0, 1) := by decide +kernel
theorem dX5_move_10 : decode cX5_move 10 = .ok (.iload_n 1, 1) := by decide +kernel
theorem dX5_move_11 : decode cX5_move 11 = .ok (.iload_n 3, 1) := by decide +kernel
theorem dX5_move_12 : decode cX5_move 12 = .ok (.imul, 1) := by decide +kernel
theorem dX5_move_13 : decode cX5_move 13 = .ok (.iload 4, 2) := by decide +kernel
theorem dX5_move_15 : decode cX5_move 15 = .ok (.iadd, 1) := by decide +kernel
theorem dX5_move_16 : decode cX5_move 16 = .ok (.aload_n 0, 1) := by decide +kernel
theorem dX5_move_17 : decode cX5_move 17 = .ok (.iload_n 1, 1) := by decide +kernel
theorem dX5_move_18 : decode cX5_move 18 = .ok (.iload_n 2, 1) := by decide +kernel
theorem dX5_move_19 : decode cX5_move 19 = .ok (.imul, 1) := by decide +kernel
theorem dX5_move_20 : decode cX5_move 20 = .ok (.iload 4, 2) := by decide +kernel
theorem dX5_move_22 : decode cX5_move 22 = .ok (.iadd, 1) := by decide +kernel
theorem dX5_move_23 : decode cX5_move 23 = .ok (.iaload, 1) := by decide +kernel
theorem dX5_move_24 : decode cX5_move 24 = .ok (.iastore, 1) := by decide +kernel
theorem dX5_move_25 : decode cX5_move 25 = .ok (.iinc 4 1, 3) := by decide +kernel
theorem dX5_move_28 : decode cX5_move 28 = .ok (.goto (-25), 3) := by decide +kernel
theorem dX5_move_31 : decode cX5_move 31 = .ok (.return_, 1) := by decide +kernel
theorem dX5_copy_0 : decode cX5_copy 0 = .ok (.aload_n 0, 1) := by decide +kernel
theorem dX5_copy_1 : decode cX5_copy 1 = .ok (.getfield 7, 3) := by decide +kernel
theorem dX5_copy_4 : decode cX5_copy 4 = .ok (.iconst 1, 1) := by decide +kernel
theorem dX5_copy_5 : decode cX5_copy 5 = .ok (.iload_n 1, 1) := by decide +kernel
theorem dX5_copy_6 : decode cX5_copy 6 = .ok (.iload_n 2, 1) := by decide +kernel
theorem dX5_copy_7 : decode cX5_copy 7 = .ok (.invokestatic 85, 3) := by decide +kernel
theorem dX5_copy_10 : decode cX5_copy 10 = .ok (.aload_n 0, 1) := by decide +kernel
theorem dX5_copy_11 : decode cX5_copy 11 = .ok (.getfield 13, 3) := by decide +kernel
theorem dX5_copy_14 : decode cX5_copy 14 = .ok (.iconst 1, 1) := by decide +kernel
theorem dX5_copy_15 : decode cX5_copy 15 = .ok (.iload_n 1, 1) := by decide +kernel
theorem dX5_copy_16 : decode cX5_copy 16 = .ok (.iload_n 2, 1) := by decide +kernel
theorem dX5_copy_17 : decode cX5_copy 17 = .ok (.invokestatic 85, 3) := by decide +kernel
theorem dX5_copy_20 : decode cX5_copy 20 = .ok (.aload_n 0, 1) := by decide +kernel
theorem dX5_copy_21 : decode cX5_copy 21 = .ok (.getfield 16, 3) := by decide +kernel
theorem dX5_copy_24 : decode cX5_copy 24 = .ok (.bipush 10, 2) := by decide +kernel
theorem dX5_copy_26 : decode cX5_copy 26 = .ok (.iload_n 1, 1) := by decide +kernel
theorem dX5_copy_27 : decode cX5_copy 27 = .ok (.iload_n 2, 1) := by decide +kernel
theorem dX5_copy_28 : decode cX5_copy 28 = .ok (.invokestatic 85, 3) := by decide +kernel
theorem dX5_copy_31 : decode cX5_copy 31 = .ok (.aload_n 0, 1) := by decide +kernel
theorem dX5_copy_32 : decode cX5_copy 32 = .ok (.getfield 19, 3) := by decide +kernel
theorem dX5_copy_35 : decode cX5_copy 35 = .ok (.bipush 10, 2) := by decide +kernel
theorem dX5_copy_37 : decode cX5_copy 37 = .ok (.iload_n 1, 1) := by decide +kernel
theorem dX5_copy_38 : decode cX5_copy 38 = .ok (.iload_n 2, 1) := by decide +kernel
theorem dX5_copy_39 : decode cX5_copy 39 = .ok (.invokestatic 85, 3) := by decide +kernel
theorem dX5_copy_42 : decode cX5_copy 42 = .ok (.aload_n 0, 1) := by decide +kernel
theorem dX5_copy_43 : decode cX5_copy 43 = .ok (.getfield 22, 3) := by decide +kernel
theorem dX5_copy_46 : decode cX5_copy 46 = .ok (.bipush 10, 2) := by decide +kernel
theorem dX5_copy_48 : decode cX5_copy 48 = .ok (.iload_n 1, 1) := by decide +kernel
theorem dX5_copy_49 : decode cX5_copy 49 = .ok (.iload_n 2, 1) := by decide +kernel
theorem dX5_copy_50 : decode cX5_copy 50 = .ok (.invokestatic 85, 3) := by decide +kernel
theorem dX5_copy_53 : decode cX5_copy 53 = .ok (.aload_n 0, 1) := by decide +kernel
theorem dX5_copy_54 : decode cX5_copy 54 = .ok (.getfield 25, 3) := by decide +kernel
theorem dX5_copy_57 : decode cX5_copy 57 = .ok (.bipush 10, 2) := by decide +kernel
theorem dX5_copy_59 : decode cX5_copy 59 = .ok (.iload_n 1, 1) := by decide +kernel
theorem dX5_copy_60 : decode cX5_copy 60 = .ok (.iload_n 2, 1) := by decide +kernel
theorem dX5_copy_61 : decode cX5_copy 61 = .ok (.invokestatic 85, 3) := by decide +kernel
theorem dX5_copy_64 : decode cX5_copy 64 = .ok (.aload_n 0, 1) := by decide +kernel
theorem dX5_copy_65 : decode cX5_copy 65 = .ok (.getfield 28, 3) := by decide +kernel
theorem dX5_copy_68 : decode cX5_copy 68 = .ok (.bipush 10, 2) := by decide +kernel
theorem dX5_copy_70 : decode cX5_copy 70 = .ok (.iload_n 1, 1) := by decide +kernel
theorem dX5_copy_71 : decode cX5_copy 71 = .ok (.iload_n 2, 1) := by decide +kernel
theorem dX5_copy_72 : decode cX5_copy 72 = .ok (.invokestatic 85, 3) := by decide +kernel
theorem dX5_copy_75 : decode cX5_copy 75 = .ok (.aload_n 0, 1) := by decide +kernel
theorem dX5_copy_76 : decode cX5_copy 76 = .ok (.getfield 31, 3) := by decide +kernel
theorem dX5_copy_79 : decode cX5_copy 79 = .ok (.bipush 10, 2) := by decide +kernel
theorem dX5_copy_81 : decode cX5_copy 81 = .ok (.iload_n 1, 1) := by decide +kernel
theorem dX5_copy_82 : decode cX5_copy 82 = .ok (.iload_n 2, 1) := by decide +kernel
theorem dX5_copy_83 : decode cX5_copy 83 = .ok (.invokestatic 85, 3) := by decide +kernel
theorem dX5_copy_86 : decode cX5_copy 86 = .ok (.aload_n 0, 1) := by decide +kernel
theorem dX5_copy_87 : decode cX5_copy 87 = .ok (.getfield 34, 3) := by decide +kernel
theorem dX5_copy_90 : decode cX5_copy 90 = .ok (.bipush 10, 2) := by decide +kernel
theorem dX5_copy_92 : decode cX5_copy 92 = .ok (.iload_n 1, 1) := by decide +kernel
theorem dX5_copy_93 : decode cX5_copy 93 = .ok (.iload_n 2, 1) := by decide +kernel
theorem dX5_copy_94 : decode cX5_copy 94 = .ok (.invokestatic 85, 3) := by decide +kernel
theorem dX5_copy_97 : decode cX5_copy 97 = .ok (.aload_n 0, 1) := by decide +kernel
theorem dX5_copy_98 : decode cX5_copy 98 = .ok (.getfield 37, 3) := by decide +kernel
theorem dX5_copy_101 : decode cX5_copy 101 = .ok (.bipush 10, 2) := by decide +kernel
theorem dX5_copy_103 : decode cX5_copy 103 = .ok (.iload_n 1, 1) := by decide +kernel
theorem dX5_copy_104 : decode cX5_copy 104 = .ok (.iload_n 2, 1) := by decide +kernel
theorem dX5_copy_105 : decode cX5_copy 105 = .ok (.invokestatic 85, 3) := by decide +kernel
theorem dX5_copy_108 : decode cX5_copy 108 = .ok (.aload_n 0, 1) := by decide +kernel
theorem dX5_copy_109 : decode cX5_copy 109 = .ok (.getfield 40, 3) := by decide +kernel
theorem dX5_copy_112 : decode cX5_copy 112 = .ok (.iconst 1, 1) := by decide +kernel
theorem dX5_copy_113 : decode cX5_copy 113 = .ok (.iload_n 1, 1) := by decide +kernel
theorem dX5_copy_114 : decode cX5_copy 114 = .ok (.iload_n 2, 1) := by decide +kernel
theorem dX5_copy_115 : decode cX5_copy 115 = .ok (.invokestatic 85, 3) := by decide +kernel
theorem dX5_copy_118 : decode cX5_copy 118 = .ok (.aload_n 0, 1) := by decide +kernel
theorem dX5_copy_119 : decode cX5_copy 119 = .ok (.getfield 43, 3) := by decide +kernel
theorem dX5_copy_122 : decode cX5_copy 122 = .ok (.iconst 5, 1) := by decide +kernel
theorem dX5_copy_123 : decode cX5_copy 123 = .ok (.iload_n 1, 1) := by decide +kernel
theorem dX5_copy_124 : decode cX5_copy 124 = .ok (.iload_n 2, 1) := by decide +kernel
theorem dX5_copy_125 : decode cX5_copy 125 = .ok (.invokestatic 85, 3) := by decide +kernel
theorem dX5_copy_128 : decode cX5_copy 128 = .ok (.aload_n 0, 1) := by decide +kernel
theorem dX5_copy_129 : decode cX5_copy 129 = .ok (.getfield 46, 3) := by decide +kernel
theorem dX5_copy_132 : decode cX5_copy 132 = .ok (.iload_n 2, 1) := by decide +kernel
theorem dX5_copy_133 : decode cX5_copy 133 = .ok (.aload_n 0, 1) := by decide +kernel
theorem dX5_copy_134 : decode cX5_copy 134 = .ok (.getfield 46, 3) := by decide +kernel
theorem dX5_copy_137 : decode cX5_copy 137 = .ok (.iload_n 1, 1) := by decide +kernel
theorem dX5_copy_138 : decode cX5_copy 138 = .ok (.laload, 1) := by decide +kernel
theorem dX5_copy_139 : decode cX5_copy 139 = .ok (.lastore, 1) := by decide +kernel
theorem dX5_copy_140 : decode cX5_copy 140 = .ok (.aload_n 0, 1) := by decide +kernel
theorem dX5_copy_141 : decode cX5_copy 141 = .ok (.getfield 50, 3) := by decide +kernel
theorem dX5_copy_144 : decode cX5_copy 144 = .ok (.iload_n 2, 1) := by decide +kernel
theorem dX5_copy_145 : decode cX5_copy 145 = .ok (.aload_n 0, 1) := by decide +kernel
theorem dX5_copy_146 : decode cX5_copy 146 = .ok (.getfield 50, 3) := by decide +kernel
theorem dX5_copy_149 : decode cX5_copy 149 = .ok (.iload_n 1, 1) := by decide +kernel
theorem dX5_copy_150 : decode cX5_copy 150 = .ok (.laload, 1) := by decide +kernel
theorem dX5_copy_151 : decode cX5_copy 151 = .ok (.lastore, 1) := by decide +kernel
theorem dX5_copy_152 : decode cX5_copy 152 = .ok (.return_, 1) := by decide +kernel
theorem dX5_isLane_0 : decode cX5_isLane 0 = .ok (.iload_n 1, 1) := by decide +kernel
theorem dX5_isLane_1 : decode cX5_isLane 1 = .ok (.iconst 0, 1) := by decide +kernel
theorem dX5_isLane_2 : decode cX5_isLane 2 = .ok (.aload_n 0, 1) := by decide +kernel
theorem dX5_isLane_3 : decode cX5_isLane 3 = .ok (.getfield 13, 3) := by decide +kernel
theorem dX5_isLane_6 : decode cX5_isLane 6 = .ok (.iconst 0, 1) := by decide +kernel
theorem dX5_isLane_7 : decode cX5_isLane 7 = .ok (.iaload, 1) := by decide +kernel
theorem dX5_isLane_8 : decode cX5_isLane 8 = .ok (.iconst 1, 1) := by decide +kernel
theorem dX5_isLane_9 : decode cX5_isLane 9 = .ok (.isub, 1) := by decide +kernel
theorem dX5_isLane_10 : decode cX5_isLane 10 = .ok (.invokestatic 89, 3) := by decide +kernel
theorem dX5_isLane_13 : decode cX5_isLane 13 = .ok (.ireturn, 1) := by decide +kernel
theorem dX5_isPost_0 : decode cX5_isPost 0 = .ok (.iload_n 1, 1) := by decide +kernel
theorem dX5_isPost_1 : decode cX5_isPost 1 = .ok (.iconst 0, 1) := by decide +kernel
theorem dX5_isPost_2 : decode cX5_isPost 2 = .ok (.aload_n 0, 1) := by decide +kernel
theorem dX5_isPost_3 : decode cX5_isPost 3 = .ok (.getfield 7, 3) := by decide +kernel
theorem dX5_isPost_6 : decode cX5_isPost 6 = .ok (.iconst 0, 1) := by decide +kernel
theorem dX5_isPost_7 : decode cX5_isPost 7 = .ok (.iaload, 1) := by decide +kernel
theorem dX5_isPost_8 : decode cX5_isPost 8 = .ok (.iconst 1, 1) := by decide +kernel
theorem dX5_isPost_9 : decode cX5_isPost 9 = .ok (.isub, 1) := by decide +kernel
theorem dX5_isPost_10 : decode cX5_isPost 10 = .ok (.invokestatic 89, 3) := by decide +kernel
theorem dX5_isPost_13 : decode cX5_isPost 13 = .ok (.ireturn, 1) := by decide +kernel
theorem dX5_posts_0 : decode cX5_posts 0 = .ok (.aload_n 0, 1) := by decide +kernel
theorem dX5_posts_1 : decode cX5_posts 1 = .ok (.iconst 0, 1) := by decide +kernel
theorem dX5_posts_2 : decode cX5_posts 2 = .ok (.putfield 81, 3) := by decide +kernel
theorem dX5_posts_5 : decode cX5_posts 5 = .ok (.iload_n 1, 1) := by decide +kernel
theorem dX5_posts_6 : decode cX5_posts 6 = .ok (.iconst 2, 1) := by decide +kernel
theorem dX5_posts_7 : decode cX5_posts 7 = .ok (.iconst 5, 1) := by decide +kernel
theorem dX5_posts_8 : decode cX5_posts 8 = .ok (.invokestatic 89, 3) := by decide +kernel
theorem dX5_posts_11 : decode cX5_posts 11 = .ok (.ifCond .ne 5, 3) := by decide +kernel
theorem dX5_posts_14 : decode cX5_posts 14 = .ok (.iconst 0, 1) := by decide +kernel
theorem dX5_posts_15 : decode cX5_posts 15 = .ok (.ireturn, 1) := by decide +kernel
theorem dX5_posts_16 : decode cX5_posts 16 = .ok (.aload_n 0, 1) := by decide +kernel
theorem dX5_posts_17 : decode cX5_posts 17 = .ok (.getfield 7, 3) := by decide +kernel
theorem dX5_posts_20 : decode cX5_posts 20 = .ok (.iconst 0, 1) := by decide +kernel
theorem dX5_posts_21 : decode cX5_posts 21 = .ok (.iload_n 1, 1) := by decide +kernel
theorem dX5_posts_22 : decode cX5_posts 22 = .ok (.iastore, 1) := by decide +kernel
theorem dX5_posts_23 : decode cX5_posts 23 = .ok (.aload_n 0, 1) := by decide +kernel
theorem dX5_posts_24 : decode cX5_posts 24 = .ok (.getfield 13, 3) := by decide +kernel
theorem dX5_posts_27 : decode cX5_posts 27 = .ok (.iconst 0, 1) := by decide +kernel
theorem dX5_posts_28 : decode cX5_posts 28 = .ok (.iconst 0, 1) := by decide +kernel
theorem dX5_posts_29 : decode cX5_posts 29 = .ok (.iastore, 1) := by decide +kernel
theorem dX5_posts_30 : decode cX5_posts 30 = .ok (.aload_n 0, 1) := by decide +kernel
theorem dX5_posts_31 : decode cX5_posts 31 = .ok (.getfield 40, 3) := by decide +kernel
theorem dX5_posts_34 : decode cX5_posts 34 = .ok (.iconst 0, 1) := by decide +kernel
theorem dX5_posts_35 : decode cX5_posts 35 = .ok (.iconst 0, 1) := by decide +kernel
theorem dX5_posts_36 : decode cX5_posts 36 = .ok (.iastore, 1) := by decide +kernel
theorem dX5_posts_37 : decode cX5_posts 37 = .ok (.iconst 1, 1) := by decide +kernel
theorem dX5_posts_38 : decode cX5_posts 38 = .ok (.ireturn, 1) := by decide +kernel
theorem dX5_lane_0 : decode cX5_lane 0 = .ok (.aload_n 0, 1) := by decide +kernel
theorem dX5_lane_1 : decode cX5_lane 1 = .ok (.iconst 0, 1) := by decide +kernel
theorem dX5_lane_2 : decode cX5_lane 2 = .ok (.putfield 81, 3) := by decide +kernel
theorem dX5_lane_5 : decode cX5_lane 5 = .ok (.aload_n 0, 1) := by decide +kernel
theorem dX5_lane_6 : decode cX5_lane 6 = .ok (.getfield 13, 3) := by decide +kernel
theorem dX5_lane_9 : decode cX5_lane 9 = .ok (.iconst 0, 1) := by decide +kernel
theorem dX5_lane_10 : decode cX5_lane 10 = .ok (.iaload, 1) := by decide +kernel
theorem dX5_lane_11 : decode cX5_lane 11 = .ok (.bipush 10, 2) := by decide +kernel
theorem dX5_lane_13 : decode cX5_lane 13 = .ok (.if_icmp .eq 72, 3) := by decide +kernel
theorem dX5_lane_16 : decode cX5_lane 16 = .ok (.aload_n 0, 1) := by decide +kernel
theorem dX5_lane_17 : decode cX5_lane 17 = .ok (.iload_n 1, 1) := by decide +kernel
theorem dX5_lane_18 : decode cX5_lane 18 = .ok (.invokevirtual 93, 3) := by decide +kernel
theorem dX5_lane_21 : decode cX5_lane 21 = .ok (.ifCond .eq 64, 3) := by decide +kernel
theorem dX5_lane_24 : decode cX5_lane 24 = .ok (.aload_n 0, 1) := by decide +kernel
theorem dX5_lane_25 : decode cX5_lane 25 = .ok (.iload_n 2, 1) := by decide +kernel
theorem dX5_lane_26 : decode cX5_lane 26 = .ok (.invokevirtual 93, 3) := by decide +kernel
theorem dX5_lane_29 : decode cX5_lane 29 = .ok (.ifCond .eq 56, 3) := by decide +kernel
theorem dX5_lane_32 : decode cX5_lane 32 = .ok (.iload_n 1, 1) := by decide +kernel
theorem dX5_lane_33 : decode cX5_lane 33 = .ok (.iload_n 2, 1) := by decide +kernel
theorem dX5_lane_34 : decode cX5_lane 34 = .ok (.if_icmp .eq 51, 3) := by decide +kernel
theorem dX5_lane_37 : decode cX5_lane 37 = .ok (.iload_n 2, 1) := by decide +kernel
theorem dX5_lane_38 : decode cX5_lane 38 = .ok (.ifCond .eq 47, 3) := by decide +kernel
theorem dX5_lane_41 : decode cX5_lane 41 = .ok (.iload_n 1, 1) := by decide +kernel
theorem dX5_lane_42 : decode cX5_lane 42 = .ok (.aload_n 0, 1) := by decide +kernel
theorem dX5_lane_43 : decode cX5_lane 43 = .ok (.getfield 7, 3) := by decide +kernel
theorem dX5_lane_46 : decode cX5_lane 46 = .ok (.iconst 0, 1) := by decide +kernel
theorem dX5_lane_47 : decode cX5_lane 47 = .ok (.iaload, 1) := by decide +kernel
theorem dX5_lane_48 : decode cX5_lane 48 = .ok (.iconst 1, 1) := by decide +kernel
theorem dX5_lane_49 : decode cX5_lane 49 = .ok (.isub, 1) := by decide +kernel
theorem dX5_lane_50 : decode cX5_lane 50 = .ok (.if_icmp .eq 35, 3) := by decide +kernel
theorem dX5_lane_53 : decode cX5_lane 53 = .ok (.iload_n 3, 1) := by decide +kernel
theorem dX5_lane_54 : decode cX5_lane 54 = .ok (.iconst 0, 1) := by decide +kernel
theorem dX5_lane_55 : decode cX5_lane 55 = .ok (.bipush 100, 2) := by decide +kernel
theorem dX5_lane_57 : decode cX5_lane 57 = .ok (.invokestatic 89, 3) := by decide +kernel
theorem dX5_lane_60 : decode cX5_lane 60 = .ok (.ifCond .eq 25, 3) := by decide +kernel
theorem dX5_lane_63 : decode cX5_lane 63 = .ok (.iload 4, 2) := by decide +kernel
theorem dX5_lane_65 : decode cX5_lane 65 = .ok (.iconst 1, 1) := by decide +kernel
theorem dX5_lane_66 : decode cX5_lane 66 = .ok (.bipush 9, 2) := by decide +kernel
theorem dX5_lane_68 : decode cX5_lane 68 = .ok (.invokestatic 89, 3) := by decide +kernel
theorem dX5_lane_71 : decode cX5_lane 71 = .ok (.ifCond .eq 14, 3) := by decide +kernel
theorem dX5_lane_74 : decode cX5_lane 74 = .ok (.iload 5, 2) := by decide +kernel
theorem dX5_lane_76 : decode cX5_lane 76 = .ok (.iconst 1, 1) := by decide +kernel
theorem dX5_lane_77 : decode cX5_lane 77 = .ok (.bipush 9, 2) := by decide +kernel
theorem dX5_lane_79 : decode cX5_lane 79 = .ok (.invokestatic 89, 3) := by decide +kernel
theorem dX5_lane_82 : decode cX5_lane 82 = .ok (.ifCond .ne 5, 3) := by decide +kernel
theorem dX5_lane_85 : decode cX5_lane 85 = .ok (.iconst (-1), 1) := by decide +kernel
theorem dX5_lane_86 : decode cX5_lane 86 = .ok (.ireturn, 1) := by decide +kernel
theorem dX5_lane_87 : decode cX5_lane 87 = .ok (.aload_n 0, 1) := by decide +kernel
theorem dX5_lane_88 : decode cX5_lane 88 = .ok (.getfield 13, 3) := by decide +kernel
theorem dX5_lane_91 : decode cX5_lane 91 = .ok (.iconst 0, 1) := by decide +kernel
theorem dX5_lane_92 : decode cX5_lane 92 = .ok (.iaload, 1) := by decide +kernel
theorem dX5_lane_93 : decode cX5_lane 93 = .ok (.istore 6, 2) := by decide +kernel
theorem dX5_lane_95 : decode cX5_lane 95 = .ok (.aload_n 0, 1) := by decide +kernel
theorem dX5_lane_96 : decode cX5_lane 96 = .ok (.getfield 13, 3) := by decide +kernel
theorem dX5_lane_99 : decode cX5_lane 99 = .ok (.iconst 0, 1) := by decide +kernel
theorem dX5_lane_100 : decode cX5_lane 100 = .ok (.dup2, 1) := by decide +kernel
theorem dX5_lane_101 : decode cX5_lane 101 = .ok (.iaload, 1) := by decide +kernel
theorem dX5_lane_102 : decode cX5_lane 102 = .ok (.iconst 1, 1) := by decide +kernel
theorem dX5_lane_103 : decode cX5_lane 103 = .ok (.iadd, 1) := by decide +kernel
theorem dX5_lane_104 : decode cX5_lane 104 = .ok (.iastore, 1) := by decide +kernel
theorem dX5_lane_105 : decode cX5_lane 105 = .ok (.aload_n 0, 1) := by decide +kernel
theorem dX5_lane_106 : decode cX5_lane 106 = .ok (.getfield 16, 3) := by decide +kernel
theorem dX5_lane_109 : decode cX5_lane 109 = .ok (.iload 6, 2) := by decide +kernel
theorem dX5_lane_111 : decode cX5_lane 111 = .ok (.iload_n 1, 1) := by decide +kernel
theorem dX5_lane_112 : decode cX5_lane 112 = .ok (.iastore, 1) := by decide +kernel
theorem dX5_lane_113 : decode cX5_lane 113 = .ok (.aload_n 0, 1) := by decide +kernel
theorem dX5_lane_114 : decode cX5_lane 114 = .ok (.getfield 19, 3) := by decide +kernel
theorem dX5_lane_117 : decode cX5_lane 117 = .ok (.iload 6, 2) := by decide +kernel
theorem dX5_lane_119 : decode cX5_lane 119 = .ok (.iload_n 2, 1) := by decide +kernel
theorem dX5_lane_120 : decode cX5_lane 120 = .ok (.iastore, 1) := by decide +kernel
theorem dX5_lane_121 : decode cX5_lane 121 = .ok (.aload_n 0, 1) := by decide +kernel
theorem dX5_lane_122 : decode cX5_lane 122 = .ok (.getfield 22, 3) := by decide +kernel
theorem dX5_lane_125 : decode cX5_lane 125 = .ok (.iload 6, 2) := by decide +kernel
theorem dX5_lane_127 : decode cX5_lane 127 = .ok (.iload_n 3, 1) := by decide +kernel
theorem dX5_lane_128 : decode cX5_lane 128 = .ok (.iastore, 1) := by decide +kernel
theorem dX5_lane_129 : decode cX5_lane 129 = .ok (.aload_n 0, 1) := by decide +kernel
theorem dX5_lane_130 : decode cX5_lane 130 = .ok (.getfield 25, 3) := by decide +kernel
theorem dX5_lane_133 : decode cX5_lane 133 = .ok (.iload 6, 2) := by decide +kernel
theorem dX5_lane_135 : decode cX5_lane 135 = .ok (.iload 4, 2) := by decide +kernel
theorem dX5_lane_137 : decode cX5_lane 137 = .ok (.iastore, 1) := by decide +kernel
theorem dX5_lane_138 : decode cX5_lane 138 = .ok (.aload_n 0, 1) := by decide +kernel
theorem dX5_lane_139 : decode cX5_lane 139 = .ok (.getfield 28, 3) := by decide +kernel
theorem dX5_lane_142 : decode cX5_lane 142 = .ok (.iload 6, 2) := by decide +kernel
theorem dX5_lane_144 : decode cX5_lane 144 = .ok (.iload 5, 2) := by decide +kernel
theorem dX5_lane_146 : decode cX5_lane 146 = .ok (.iastore, 1) := by decide +kernel
theorem dX5_lane_147 : decode cX5_lane 147 = .ok (.aload_n 0, 1) := by decide +kernel
theorem dX5_lane_148 : decode cX5_lane 148 = .ok (.getfield 31, 3) := by decide +kernel
theorem dX5_lane_151 : decode cX5_lane 151 = .ok (.iload 6, 2) := by decide +kernel
theorem dX5_lane_153 : decode cX5_lane 153 = .ok (.iconst 0, 1) := by decide +kernel
theorem dX5_lane_154 : decode cX5_lane 154 = .ok (.iastore, 1) := by decide +kernel
theorem dX5_lane_155 : decode cX5_lane 155 = .ok (.aload_n 0, 1) := by decide +kernel
theorem dX5_lane_156 : decode cX5_lane 156 = .ok (.getfield 34, 3) := by decide +kernel
theorem dX5_lane_159 : decode cX5_lane 159 = .ok (.iload 6, 2) := by decide +kernel
theorem dX5_lane_161 : decode cX5_lane 161 = .ok (.iconst 0, 1) := by decide +kernel
theorem dX5_lane_162 : decode cX5_lane 162 = .ok (.iastore, 1) := by decide +kernel
theorem dX5_lane_163 : decode cX5_lane 163 = .ok (.aload_n 0, 1) := by decide +kernel
theorem dX5_lane_164 : decode cX5_lane 164 = .ok (.getfield 37, 3) := by decide +kernel
theorem dX5_lane_167 : decode cX5_lane 167 = .ok (.iload 6, 2) := by decide +kernel
theorem dX5_lane_169 : decode cX5_lane 169 = .ok (.iconst 1, 1) := by decide +kernel
theorem dX5_lane_170 : decode cX5_lane 170 = .ok (.iastore, 1) := by decide +kernel
theorem dX5_lane_171 : decode cX5_lane 171 = .ok (.iload 6, 2) := by decide +kernel
theorem dX5_lane_173 : decode cX5_lane 173 = .ok (.ireturn, 1) := by decide +kernel
theorem dX5_room_0 : decode cX5_room 0 = .ok (.aload_n 0, 1) := by decide +kernel
theorem dX5_room_1 : decode cX5_room 1 = .ok (.iconst 0, 1) := by decide +kernel
theorem dX5_room_2 : decode cX5_room 2 = .ok (.putfield 81, 3) := by decide +kernel
theorem dX5_room_5 : decode cX5_room 5 = .ok (.aload_n 0, 1) := by decide +kernel
theorem dX5_room_6 : decode cX5_room 6 = .ok (.iload_n 1, 1) := by decide +kernel
theorem dX5_room_7 : decode cX5_room 7 = .ok (.invokevirtual 97, 3) := by decide +kernel
theorem dX5_room_10 : decode cX5_room 10 = .ok (.ifCond .eq 13, 3) := by decide +kernel
theorem dX5_room_13 : decode cX5_room 13 = .ok (.iload_n 2, 1) := by decide +kernel
theorem dX5_room_14 : decode cX5_room 14 = .ok (.iconst 0, 1) := by decide +kernel
theorem dX5_room_15 : decode cX5_room 15 = .ok (.bipush 100, 2) := by decide +kernel
theorem dX5_room_17 : decode cX5_room 17 = .ok (.invokestatic 89, 3) := by decide +kernel
theorem dX5_room_20 : decode cX5_room 20 = .ok (.ifCond .ne 5, 3) := by decide +kernel
theorem dX5_room_23 : decode cX5_room 23 = .ok (.iconst 0, 1) := by decide +kernel
theorem dX5_room_24 : decode cX5_room 24 = .ok (.ireturn, 1) := by decide +kernel
theorem dX5_room_25 : decode cX5_room 25 = .ok (.aload_n 0, 1) := by decide +kernel
theorem dX5_room_26 : decode cX5_room 26 = .ok (.getfield 22, 3) := by decide +kernel
theorem dX5_room_29 : decode cX5_room 29 = .ok (.iload_n 1, 1) := by decide +kernel
theorem dX5_room_30 : decode cX5_room 30 = .ok (.iload_n 2, 1) := by decide +kernel
theorem dX5_room_31 : decode cX5_room 31 = .ok (.iastore, 1) := by decide +kernel
theorem dX5_room_32 : decode cX5_room 32 = .ok (.iconst 1, 1) := by decide +kernel
theorem dX5_room_33 : decode cX5_room 33 = .ok (.ireturn, 1) := by decide +kernel
theorem dX5_share_0 : decode cX5_share 0 = .ok (.aload_n 0, 1) := by decide +kernel
theorem dX5_share_1 : decode cX5_share 1 = .ok (.iconst 0, 1) := by decide +kernel
theorem dX5_share_2 : decode cX5_share 2 = .ok (.putfield 81, 3) := by decide +kernel
theorem dX5_share_5 : decode cX5_share 5 = .ok (.aload_n 0, 1) := by decide +kernel
theorem dX5_share_6 : decode cX5_share 6 = .ok (.iload_n 1, 1) := by decide +kernel
theorem dX5_share_7 : decode cX5_share 7 = .ok (.invokevirtual 97, 3) := by decide +kernel
theorem dX5_share_10 : decode cX5_share 10 = .ok (.ifCond .eq 34, 3) := by decide +kernel
theorem dX5_share_13 : decode cX5_share 13 = .ok (.iload_n 2, 1) := by decide +kernel
theorem dX5_share_14 : decode cX5_share 14 = .ok (.iconst 1, 1) := by decide +kernel
theorem dX5_share_15 : decode cX5_share 15 = .ok (.bipush 9, 2) := by decide +kernel
theorem dX5_share_17 : decode cX5_share 17 = .ok (.invokestatic 89, 3) := by decide +kernel
theorem dX5_share_20 : decode cX5_share 20 = .ok (.ifCond .eq 24, 3) := by decide +kernel
theorem dX5_share_23 : decode cX5_share 23 = .ok (.iload_n 3, 1) := by decide +kernel
theorem dX5_share_24 : decode cX5_share 24 = .ok (.iconst 1, 1) := by decide +kernel
theorem dX5_share_25 : decode cX5_share 25 = .ok (.bipush 9, 2) := by decide +kernel
theorem dX5_share_27 : decode cX5_share 27 = .ok (.invokestatic 89, 3) := by decide +kernel
theorem dX5_share_30 : decode cX5_share 30 = .ok (.ifCond .eq 14, 3) := by decide +kernel
theorem dX5_share_33 : decode cX5_share 33 = .ok (.iload 4, 2) := by decide +kernel
theorem dX5_share_35 : decode cX5_share 35 = .ok (.iconst 0, 1) := by decide +kernel
theorem dX5_share_36 : decode cX5_share 36 = .ok (.bipush 8, 2) := by decide +kernel
theorem dX5_share_38 : decode cX5_share 38 = .ok (.invokestatic 89, 3) := by decide +kernel
theorem dX5_share_41 : decode cX5_share 41 = .ok (.ifCond .ne 5, 3) := by decide +kernel
theorem dX5_share_44 : decode cX5_share 44 = .ok (.iconst 0, 1) := by decide +kernel
theorem dX5_share_45 : decode cX5_share 45 = .ok (.ireturn, 1) := by decide +kernel
theorem dX5_share_46 : decode cX5_share 46 = .ok (.aload_n 0, 1) := by decide +kernel
theorem dX5_share_47 : decode cX5_share 47 = .ok (.getfield 25, 3) := by decide +kernel
theorem dX5_share_50 : decode cX5_share 50 = .ok (.iload_n 1, 1) := by decide +kernel
theorem dX5_share_51 : decode cX5_share 51 = .ok (.iload_n 2, 1) := by decide +kernel
theorem dX5_share_52 : decode cX5_share 52 = .ok (.iastore, 1) := by decide +kernel
theorem dX5_share_53 : decode cX5_share 53 = .ok (.aload_n 0, 1) := by decide +kernel
theorem dX5_share_54 : decode cX5_share 54 = .ok (.getfield 28, 3) := by decide +kernel
theorem dX5_share_57 : decode cX5_share 57 = .ok (.iload_n 1, 1) := by decide +kernel
theorem dX5_share_58 : decode cX5_share 58 = .ok (.iload_n 3, 1) := by decide +kernel
theorem dX5_share_59 : decode cX5_share 59 = .ok (.iastore, 1) := by decide +kernel
theorem dX5_share_60 : decode cX5_share 60 = .ok (.aload_n 0, 1) := by decide +kernel
theorem dX5_share_61 : decode cX5_share 61 = .ok (.getfield 31, 3) := by decide +kernel
theorem dX5_share_64 : decode cX5_share 64 = .ok (.iload_n 1, 1) := by decide +kernel
theorem dX5_share_65 : decode cX5_share 65 = .ok (.iload 4, 2) := by decide +kernel
theorem dX5_share_67 : decode cX5_share 67 = .ok (.iastore, 1) := by decide +kernel
theorem dX5_share_68 : decode cX5_share 68 = .ok (.iconst 1, 1) := by decide +kernel
theorem dX5_share_69 : decode cX5_share 69 = .ok (.ireturn, 1) := by decide +kernel
theorem dX5_tell_0 : decode cX5_tell 0 = .ok (.aload_n 0, 1) := by decide +kernel
theorem dX5_tell_1 : decode cX5_tell 1 = .ok (.iconst 0, 1) := by decide +kernel
theorem dX5_tell_2 : decode cX5_tell 2 = .ok (.putfield 81, 3) := by decide +kernel
theorem dX5_tell_5 : decode cX5_tell 5 = .ok (.aload_n 0, 1) := by decide +kernel
theorem dX5_tell_6 : decode cX5_tell 6 = .ok (.iload_n 1, 1) := by decide +kernel
theorem dX5_tell_7 : decode cX5_tell 7 = .ok (.invokevirtual 97, 3) := by decide +kernel
theorem dX5_tell_10 : decode cX5_tell 10 = .ok (.ifCond .ne 5, 3) := by decide +kernel
theorem dX5_tell_13 : decode cX5_tell 13 = .ok (.iconst (-1), 1) := by decide +kernel
theorem dX5_tell_14 : decode cX5_tell 14 = .ok (.ireturn, 1) := by decide +kernel
theorem dX5_tell_15 : decode cX5_tell 15 = .ok (.iload_n 2, 1) := by decide +kernel
theorem dX5_tell_16 : decode cX5_tell 16 = .ok (.tableswitch 127 0 7 #[48, 55, 62, 69, 76, 83, 90, 90], 48) := by decide +kernel
theorem dX5_tell_64 : decode cX5_tell 64 = .ok (.aload_n 0, 1) := by decide +kernel
theorem dX5_tell_65 : decode cX5_tell 65 = .ok (.getfield 16, 3) := by decide +kernel
theorem dX5_tell_68 : decode cX5_tell 68 = .ok (.iload_n 1, 1) := by decide +kernel
theorem dX5_tell_69 : decode cX5_tell 69 = .ok (.iaload, 1) := by decide +kernel
theorem dX5_tell_70 : decode cX5_tell 70 = .ok (.ireturn, 1) := by decide +kernel
theorem dX5_tell_71 : decode cX5_tell 71 = .ok (.aload_n 0, 1) := by decide +kernel
theorem dX5_tell_72 : decode cX5_tell 72 = .ok (.getfield 19, 3) := by decide +kernel
theorem dX5_tell_75 : decode cX5_tell 75 = .ok (.iload_n 1, 1) := by decide +kernel
theorem dX5_tell_76 : decode cX5_tell 76 = .ok (.iaload, 1) := by decide +kernel
theorem dX5_tell_77 : decode cX5_tell 77 = .ok (.ireturn, 1) := by decide +kernel
theorem dX5_tell_78 : decode cX5_tell 78 = .ok (.aload_n 0, 1) := by decide +kernel
theorem dX5_tell_79 : decode cX5_tell 79 = .ok (.getfield 22, 3) := by decide +kernel
theorem dX5_tell_82 : decode cX5_tell 82 = .ok (.iload_n 1, 1) := by decide +kernel
theorem dX5_tell_83 : decode cX5_tell 83 = .ok (.iaload, 1) := by decide +kernel
theorem dX5_tell_84 : decode cX5_tell 84 = .ok (.ireturn, 1) := by decide +kernel
theorem dX5_tell_85 : decode cX5_tell 85 = .ok (.aload_n 0, 1) := by decide +kernel
theorem dX5_tell_86 : decode cX5_tell 86 = .ok (.getfield 25, 3) := by decide +kernel
theorem dX5_tell_89 : decode cX5_tell 89 = .ok (.iload_n 1, 1) := by decide +kernel
theorem dX5_tell_90 : decode cX5_tell 90 = .ok (.iaload, 1) := by decide +kernel
theorem dX5_tell_91 : decode cX5_tell 91 = .ok (.ireturn, 1) := by decide +kernel
theorem dX5_tell_92 : decode cX5_tell 92 = .ok (.aload_n 0, 1) := by decide +kernel
theorem dX5_tell_93 : decode cX5_tell 93 = .ok (.getfield 28, 3) := by decide +kernel
theorem dX5_tell_96 : decode cX5_tell 96 = .ok (.iload_n 1, 1) := by decide +kernel
theorem dX5_tell_97 : decode cX5_tell 97 = .ok (.iaload, 1) := by decide +kernel
theorem dX5_tell_98 : decode cX5_tell 98 = .ok (.ireturn, 1) := by decide +kernel
theorem dX5_tell_99 : decode cX5_tell 99 = .ok (.aload_n 0, 1) := by decide +kernel
theorem dX5_tell_100 : decode cX5_tell 100 = .ok (.getfield 31, 3) := by decide +kernel
theorem dX5_tell_103 : decode cX5_tell 103 = .ok (.iload_n 1, 1) := by decide +kernel
theorem dX5_tell_104 : decode cX5_tell 104 = .ok (.iaload, 1) := by decide +kernel
theorem dX5_tell_105 : decode cX5_tell 105 = .ok (.ireturn, 1) := by decide +kernel
theorem dX5_tell_106 : decode cX5_tell 106 = .ok (.aload_n 0, 1) := by decide +kernel
theorem dX5_tell_107 : decode cX5_tell 107 = .ok (.aload_n 0, 1) := by decide +kernel
theorem dX5_tell_108 : decode cX5_tell 108 = .ok (.getfield 34, 3) := by decide +kernel
theorem dX5_tell_111 : decode cX5_tell 111 = .ok (.iload_n 1, 1) := by decide +kernel
theorem dX5_tell_112 : decode cX5_tell 112 = .ok (.iaload, 1) := by decide +kernel
theorem dX5_tell_113 : decode cX5_tell 113 = .ok (.i2l, 1) := by decide +kernel
theorem dX5_tell_114 : decode cX5_tell 114 = .ok (.aload_n 0, 1) := by decide +kernel
theorem dX5_tell_115 : decode cX5_tell 115 = .ok (.getfield 37, 3) := by decide +kernel
theorem dX5_tell_118 : decode cX5_tell 118 = .ok (.iload_n 1, 1) := by decide +kernel
theorem dX5_tell_119 : decode cX5_tell 119 = .ok (.iaload, 1) := by decide +kernel
theorem dX5_tell_120 : decode cX5_tell 120 = .ok (.i2l, 1) := by decide +kernel
theorem dX5_tell_121 : decode cX5_tell 121 = .ok (.invokevirtual 100, 3) := by decide +kernel
theorem dX5_tell_124 : decode cX5_tell 124 = .ok (.iload_n 2, 1) := by decide +kernel
theorem dX5_tell_125 : decode cX5_tell 125 = .ok (.bipush 6, 2) := by decide +kernel
theorem dX5_tell_127 : decode cX5_tell 127 = .ok (.if_icmp .ne 10, 3) := by decide +kernel
theorem dX5_tell_130 : decode cX5_tell 130 = .ok (.aload_n 0, 1) := by decide +kernel
theorem dX5_tell_131 : decode cX5_tell 131 = .ok (.getfield 104, 3) := by decide +kernel
theorem dX5_tell_134 : decode cX5_tell 134 = .ok (.goto 7, 3) := by decide +kernel
theorem dX5_tell_137 : decode cX5_tell 137 = .ok (.aload_n 0, 1) := by decide +kernel
theorem dX5_tell_138 : decode cX5_tell 138 = .ok (.getfield 108, 3) := by decide +kernel
theorem dX5_tell_141 : decode cX5_tell 141 = .ok (.l2i, 1) := by decide +kernel
theorem dX5_tell_142 : decode cX5_tell 142 = .ok (.ireturn, 1) := by decide +kernel
theorem dX5_tell_143 : decode cX5_tell 143 = .ok (.iconst (-1), 1) := by decide +kernel
theorem dX5_tell_144 : decode cX5_tell 144 = .ok (.ireturn, 1) := by decide +kernel
theorem dX5_gcd_0 : decode cX5_gcd 0 = .ok (.lload_n 0, 1) := by decide +kernel
theorem dX5_gcd_1 : decode cX5_gcd 1 = .ok (.lconst 0, 1) := by decide +kernel
theorem dX5_gcd_2 : decode cX5_gcd 2 = .ok (.lcmp, 1) := by decide +kernel
theorem dX5_gcd_3 : decode cX5_gcd 3 = .ok (.ifCond .ge 8, 3) := by decide +kernel
theorem dX5_gcd_6 : decode cX5_gcd 6 = .ok (.lload_n 0, 1) := by decide +kernel
theorem dX5_gcd_7 : decode cX5_gcd 7 = .ok (.lneg, 1) := by decide +kernel
theorem dX5_gcd_8 : decode cX5_gcd 8 = .ok (.goto 4, 3) := by decide +kernel
theorem dX5_gcd_11 : decode cX5_gcd 11 = .ok (.lload_n 0, 1) := by decide +kernel
theorem dX5_gcd_12 : decode cX5_gcd 12 = .ok (.lstore 4, 2) := by decide +kernel
theorem dX5_gcd_14 : decode cX5_gcd 14 = .ok (.lload_n 2, 1) := by decide +kernel
theorem dX5_gcd_15 : decode cX5_gcd 15 = .ok (.lstore 6, 2) := by decide +kernel
theorem dX5_gcd_17 : decode cX5_gcd 17 = .ok (.lload 6, 2) := by decide +kernel
theorem dX5_gcd_19 : decode cX5_gcd 19 = .ok (.lconst 0, 1) := by decide +kernel
theorem dX5_gcd_20 : decode cX5_gcd 20 = .ok (.lcmp, 1) := by decide +kernel
theorem dX5_gcd_21 : decode cX5_gcd 21 = .ok (.ifCond .eq 21, 3) := by decide +kernel
theorem dX5_gcd_24 : decode cX5_gcd 24 = .ok (.lload 4, 2) := by decide +kernel
theorem dX5_gcd_26 : decode cX5_gcd 26 = .ok (.lload 6, 2) := by decide +kernel
theorem dX5_gcd_28 : decode cX5_gcd 28 = .ok (.lrem, 1) := by decide +kernel
theorem dX5_gcd_29 : decode cX5_gcd 29 = .ok (.lstore 8, 2) := by decide +kernel
theorem dX5_gcd_31 : decode cX5_gcd 31 = .ok (.lload 6, 2) := by decide +kernel
theorem dX5_gcd_33 : decode cX5_gcd 33 = .ok (.lstore 4, 2) := by decide +kernel
theorem dX5_gcd_35 : decode cX5_gcd 35 = .ok (.lload 8, 2) := by decide +kernel
theorem dX5_gcd_37 : decode cX5_gcd 37 = .ok (.lstore 6, 2) := by decide +kernel
theorem dX5_gcd_39 : decode cX5_gcd 39 = .ok (.goto (-22), 3) := by decide +kernel
theorem dX5_gcd_42 : decode cX5_gcd 42 = .ok (.lload 4, 2) := by decide +kernel
theorem dX5_gcd_44 : decode cX5_gcd 44 = .ok (.lreturn, 1) := by decide +kernel
theorem dX5_put_0 : decode cX5_put 0 = .ok (.lload_n 1, 1) := by decide +kernel
theorem dX5_put_1 : decode cX5_put 1 = .ok (.lload_n 3, 1) := by decide +kernel
theorem dX5_put_2 : decode cX5_put 2 = .ok (.invokestatic 111, 3) := by decide +kernel
theorem dX5_put_5 : decode cX5_put 5 = .ok (.lstore 5, 2) := by decide +kernel
theorem dX5_put_7 : decode cX5_put 7 = .ok (.aload_n 0, 1) := by decide +kernel
theorem dX5_put_8 : decode cX5_put 8 = .ok (.lload_n 1, 1) := by decide +kernel
theorem dX5_put_9 : decode cX5_put 9 = .ok (.lload 5, 2) := by decide +kernel
theorem dX5_put_11 : decode cX5_put 11 = .ok (.ldiv, 1) := by decide +kernel
theorem dX5_put_12 : decode cX5_put 12 = .ok (.putfield 104, 3) := by decide +kernel
theorem dX5_put_15 : decode cX5_put 15 = .ok (.aload_n 0, 1) := by decide +kernel
theorem dX5_put_16 : decode cX5_put 16 = .ok (.lload_n 3, 1) := by decide +kernel
theorem dX5_put_17 : decode cX5_put 17 = .ok (.lload 5, 2) := by decide +kernel
theorem dX5_put_19 : decode cX5_put 19 = .ok (.ldiv, 1) := by decide +kernel
theorem dX5_put_20 : decode cX5_put 20 = .ok (.putfield 108, 3) := by decide +kernel
theorem dX5_put_23 : decode cX5_put 23 = .ok (.return_, 1) := by decide +kernel
theorem dX5_isLess_0 : decode cX5_isLess 0 = .ok (.lload_n 0, 1) := by decide +kernel
theorem dX5_isLess_1 : decode cX5_isLess 1 = .ok (.lstore 8, 2) := by decide +kernel
theorem dX5_isLess_3 : decode cX5_isLess 3 = .ok (.lload_n 2, 1) := by decide +kernel
theorem dX5_isLess_4 : decode cX5_isLess 4 = .ok (.lstore 10, 2) := by decide +kernel
theorem dX5_isLess_6 : decode cX5_isLess 6 = .ok (.lload 4, 2) := by decide +kernel
theorem dX5_isLess_8 : decode cX5_isLess 8 = .ok (.lstore 12, 2) := by decide +kernel
theorem dX5_isLess_10 : decode cX5_isLess 10 = .ok (.lload 6, 2) := by decide +kernel
theorem dX5_isLess_12 : decode cX5_isLess 12 = .ok (.lstore 14, 2) := by decide +kernel
theorem dX5_isLess_14 : decode cX5_isLess 14 = .ok (.lload 8, 2) := by decide +kernel
theorem dX5_isLess_16 : decode cX5_isLess 16 = .ok (.lload 10, 2) := by decide +kernel
theorem dX5_isLess_18 : decode cX5_isLess 18 = .ok (.ldiv, 1) := by decide +kernel
theorem dX5_isLess_19 : decode cX5_isLess 19 = .ok (.lstore 16, 2) := by decide +kernel
theorem dX5_isLess_21 : decode cX5_isLess 21 = .ok (.lload 12, 2) := by decide +kernel
theorem dX5_isLess_23 : decode cX5_isLess 23 = .ok (.lload 14, 2) := by decide +kernel
theorem dX5_isLess_25 : decode cX5_isLess 25 = .ok (.ldiv, 1) := by decide +kernel
theorem dX5_isLess_26 : decode cX5_isLess 26 = .ok (.lstore 18, 2) := by decide +kernel
theorem dX5_isLess_28 : decode cX5_isLess 28 = .ok (.lload 16, 2) := by decide +kernel
theorem dX5_isLess_30 : decode cX5_isLess 30 = .ok (.lload 18, 2) := by decide +kernel
theorem dX5_isLess_32 : decode cX5_isLess 32 = .ok (.lcmp, 1) := by decide +kernel
theorem dX5_isLess_33 : decode cX5_isLess 33 = .ok (.ifCond .eq 17, 3) := by decide +kernel
theorem dX5_isLess_36 : decode cX5_isLess 36 = .ok (.lload 16, 2) := by decide +kernel
theorem dX5_isLess_38 : decode cX5_isLess 38 = .ok (.lload 18, 2) := by decide +kernel
theorem dX5_isLess_40 : decode cX5_isLess 40 = .ok (.lcmp, 1) := by decide +kernel
theorem dX5_isLess_41 : decode cX5_isLess 41 = .ok (.ifCond .ge 7, 3) := by decide +kernel
theorem dX5_isLess_44 : decode cX5_isLess 44 = .ok (.iconst 1, 1) := by decide +kernel
theorem dX5_isLess_45 : decode cX5_isLess 45 = .ok (.goto 4, 3) := by decide +kernel
theorem dX5_isLess_48 : decode cX5_isLess 48 = .ok (.iconst 0, 1) := by decide +kernel
theorem dX5_isLess_49 : decode cX5_isLess 49 = .ok (.ireturn, 1) := by decide +kernel
theorem dX5_isLess_50 : decode cX5_isLess 50 = .ok (.lload 8, 2) := by decide +kernel
theorem dX5_isLess_52 : decode cX5_isLess 52 = .ok (.lload 16, 2) := by decide +kernel
theorem dX5_isLess_54 : decode cX5_isLess 54 = .ok (.lload 10, 2) := by decide +kernel
theorem dX5_isLess_56 : decode cX5_isLess 56 = .ok (.lmul, 1) := by decide +kernel
theorem dX5_isLess_57 : decode cX5_isLess 57 = .ok (.lsub, 1) := by decide +kernel
theorem dX5_isLess_58 : decode cX5_isLess 58 = .ok (.lstore 8, 2) := by decide +kernel
theorem dX5_isLess_60 : decode cX5_isLess 60 = .ok (.lload 12, 2) := by decide +kernel
theorem dX5_isLess_62 : decode cX5_isLess 62 = .ok (.lload 18, 2) := by decide +kernel
theorem dX5_isLess_64 : decode cX5_isLess 64 = .ok (.lload 14, 2) := by decide +kernel
theorem dX5_isLess_66 : decode cX5_isLess 66 = .ok (.lmul, 1) := by decide +kernel
theorem dX5_isLess_67 : decode cX5_isLess 67 = .ok (.lsub, 1) := by decide +kernel
theorem dX5_isLess_68 : decode cX5_isLess 68 = .ok (.lstore 12, 2) := by decide +kernel
theorem dX5_isLess_70 : decode cX5_isLess 70 = .ok (.lload 8, 2) := by decide +kernel
theorem dX5_isLess_72 : decode cX5_isLess 72 = .ok (.lconst 0, 1) := by decide +kernel
theorem dX5_isLess_73 : decode cX5_isLess 73 = .ok (.lcmp, 1) := by decide +kernel
theorem dX5_isLess_74 : decode cX5_isLess 74 = .ok (.ifCond .eq 10, 3) := by decide +kernel
theorem dX5_isLess_77 : decode cX5_isLess 77 = .ok (.lload 12, 2) := by decide +kernel
theorem dX5_isLess_79 : decode cX5_isLess 79 = .ok (.lconst 0, 1) := by decide +kernel
theorem dX5_isLess_80 : decode cX5_isLess 80 = .ok (.lcmp, 1) := by decide +kernel
theorem dX5_isLess_81 : decode cX5_isLess 81 = .ok (.ifCond .ne 23, 3) := by decide +kernel
theorem dX5_isLess_84 : decode cX5_isLess 84 = .ok (.lload 8, 2) := by decide +kernel
theorem dX5_isLess_86 : decode cX5_isLess 86 = .ok (.lconst 0, 1) := by decide +kernel
theorem dX5_isLess_87 : decode cX5_isLess 87 = .ok (.lcmp, 1) := by decide +kernel
theorem dX5_isLess_88 : decode cX5_isLess 88 = .ok (.ifCond .ne 14, 3) := by decide +kernel
theorem dX5_isLess_91 : decode cX5_isLess 91 = .ok (.lload 12, 2) := by decide +kernel
theorem dX5_isLess_93 : decode cX5_isLess 93 = .ok (.lconst 0, 1) := by decide +kernel
theorem dX5_isLess_94 : decode cX5_isLess 94 = .ok (.lcmp, 1) := by decide +kernel
theorem dX5_isLess_95 : decode cX5_isLess 95 = .ok (.ifCond .le 7, 3) := by decide +kernel
theorem dX5_isLess_98 : decode cX5_isLess 98 = .ok (.iconst 1, 1) := by decide +kernel
theorem dX5_isLess_99 : decode cX5_isLess 99 = .ok (.goto 4, 3) := by decide +kernel
theorem dX5_isLess_102 : decode cX5_isLess 102 = .ok (.iconst 0, 1) := by decide +kernel
theorem dX5_isLess_103 : decode cX5_isLess 103 = .ok (.ireturn, 1) := by decide +kernel
theorem dX5_isLess_104 : decode cX5_isLess 104 = .ok (.lload 8, 2) := by decide +kernel
theorem dX5_isLess_106 : decode cX5_isLess 106 = .ok (.lstore 20, 2) := by decide +kernel
theorem dX5_isLess_108 : decode cX5_isLess 108 = .ok (.lload 10, 2) := by decide +kernel
theorem dX5_isLess_110 : decode cX5_isLess 110 = .ok (.lstore 22, 2) := by decide +kernel
theorem dX5_isLess_112 : decode cX5_isLess 112 = .ok (.lload 14, 2) := by decide +kernel
theorem dX5_isLess_114 : decode cX5_isLess 114 = .ok (.lstore 8, 2) := by decide +kernel
theorem dX5_isLess_116 : decode cX5_isLess 116 = .ok (.lload 12, 2) := by decide +kernel
theorem dX5_isLess_118 : decode cX5_isLess 118 = .ok (.lstore 10, 2) := by decide +kernel
theorem dX5_isLess_120 : decode cX5_isLess 120 = .ok (.lload 22, 2) := by decide +kernel
theorem dX5_isLess_122 : decode cX5_isLess 122 = .ok (.lstore 12, 2) := by decide +kernel
theorem dX5_isLess_124 : decode cX5_isLess 124 = .ok (.lload 20, 2) := by decide +kernel
theorem dX5_isLess_126 : decode cX5_isLess 126 = .ok (.lstore 14, 2) := by decide +kernel
theorem dX5_isLess_128 : decode cX5_isLess 128 = .ok (.goto (-114), 3) := by decide +kernel
theorem dX5_setShares_0 : decode cX5_setShares 0 = .ok (.iconst 0, 1) := by decide +kernel
theorem dX5_setShares_1 : decode cX5_setShares 1 = .ok (.istore_n 2, 1) := by decide +kernel
theorem dX5_setShares_2 : decode cX5_setShares 2 = .ok (.iload_n 2, 1) := by decide +kernel
theorem dX5_setShares_3 : decode cX5_setShares 3 = .ok (.aload_n 0, 1) := by decide +kernel
theorem dX5_setShares_4 : decode cX5_setShares 4 = .ok (.getfield 13, 3) := by decide +kernel
theorem dX5_setShares_7 : decode cX5_setShares 7 = .ok (.iconst 0, 1) := by decide +kernel
theorem dX5_setShares_8 : decode cX5_setShares 8 = .ok (.iaload, 1) := by decide +kernel
theorem dX5_setShares_9 : decode cX5_setShares 9 = .ok (.if_icmp .ge 92, 3) := by decide +kernel
theorem dX5_setShares_12 : decode cX5_setShares 12 = .ok (.iload_n 1, 1) := by decide +kernel
theorem dX5_setShares_13 : decode cX5_setShares 13 = .ok (.ifCond .ne 7, 3) := by decide +kernel
theorem dX5_setShares_16 : decode cX5_setShares 16 = .ok (.iconst 0, 1) := by decide +kernel
theorem dX5_setShares_17 : decode cX5_setShares 17 = .ok (.goto 24, 3) := by decide +kernel
theorem dX5_setShares_20 : decode cX5_setShares 20 = .ok (.iload_n 1, 1) := by decide +kernel
theorem dX5_setShares_21 : decode cX5_setShares 21 = .ok (.iconst 1, 1) := by decide +kernel
theorem dX5_setShares_22 : decode cX5_setShares 22 = .ok (.if_icmp .ne 13, 3) := by decide +kernel
theorem dX5_setShares_25 : decode cX5_setShares 25 = .ok (.aload_n 0, 1) := by decide +kernel
theorem dX5_setShares_26 : decode cX5_setShares 26 = .ok (.getfield 31, 3) := by decide +kernel
theorem dX5_setShares_29 : decode cX5_setShares 29 = .ok (.iload_n 2, 1) := by decide +kernel
theorem dX5_setShares_30 : decode cX5_setShares 30 = .ok (.iaload, 1) := by decide +kernel
theorem dX5_setShares_31 : decode cX5_setShares 31 = .ok (.ineg, 1) := by decide +kernel
theorem dX5_setShares_32 : decode cX5_setShares 32 = .ok (.goto 9, 3) := by decide +kernel
theorem dX5_setShares_35 : decode cX5_setShares 35 = .ok (.aload_n 0, 1) := by decide +kernel
theorem dX5_setShares_36 : decode cX5_setShares 36 = .ok (.getfield 31, 3) := by decide +kernel
theorem dX5_setShares_39 : decode cX5_setShares 39 = .ok (.iload_n 2, 1) := by decide +kernel
theorem dX5_setShares_40 : decode cX5_setShares 40 = .ok (.iaload, 1) := by decide +kernel
theorem dX5_setShares_41 : decode cX5_setShares 41 = .ok (.istore_n 3, 1) := by decide +kernel
theorem dX5_setShares_42 : decode cX5_setShares 42 = .ok (.aload_n 0, 1) := by decide +kernel
theorem dX5_setShares_43 : decode cX5_setShares 43 = .ok (.getfield 53, 3) := by decide +kernel
theorem dX5_setShares_46 : decode cX5_setShares 46 = .ok (.iload_n 2, 1) := by decide +kernel
theorem dX5_setShares_47 : decode cX5_setShares 47 = .ok (.aload_n 0, 1) := by decide +kernel
theorem dX5_setShares_48 : decode cX5_setShares 48 = .ok (.getfield 25, 3) := by decide +kernel
theorem dX5_setShares_51 : decode cX5_setShares 51 = .ok (.iload_n 2, 1) := by decide +kernel
theorem dX5_setShares_52 : decode cX5_setShares 52 = .ok (.iaload, 1) := by decide +kernel
theorem dX5_setShares_53 : decode cX5_setShares 53 = .ok (.iload_n 3, 1) := by decide +kernel
theorem dX5_setShares_54 : decode cX5_setShares 54 = .ok (.iadd, 1) := by decide +kernel
theorem dX5_setShares_55 : decode cX5_setShares 55 = .ok (.ifCond .ge 7, 3) := by decide +kernel
theorem dX5_setShares_58 : decode cX5_setShares 58 = .ok (.iconst 0, 1) := by decide +kernel
theorem dX5_setShares_59 : decode cX5_setShares 59 = .ok (.goto 11, 3) := by decide +kernel
theorem dX5_setShares_62 : decode cX5_setShares 62 = .ok (.aload_n 0, 1) := by decide +kernel
theorem dX5_setShares_63 : decode cX5_setShares 63 = .ok (.getfield 25, 3) := by decide +kernel
theorem dX5_setShares_66 : decode cX5_setShares 66 = .ok (.iload_n 2, 1) := by decide +kernel
theorem dX5_setShares_67 : decode cX5_setShares 67 = .ok (.iaload, 1) := by decide +kernel
theorem dX5_setShares_68 : decode cX5_setShares 68 = .ok (.iload_n 3, 1) := by decide +kernel
theorem dX5_setShares_69 : decode cX5_setShares 69 = .ok (.iadd, 1) := by decide +kernel
theorem dX5_setShares_70 : decode cX5_setShares 70 = .ok (.iastore, 1) := by decide +kernel
theorem dX5_setShares_71 : decode cX5_setShares 71 = .ok (.aload_n 0, 1) := by decide +kernel
theorem dX5_setShares_72 : decode cX5_setShares 72 = .ok (.getfield 56, 3) := by decide +kernel
theorem dX5_setShares_75 : decode cX5_setShares 75 = .ok (.iload_n 2, 1) := by decide +kernel
theorem dX5_setShares_76 : decode cX5_setShares 76 = .ok (.aload_n 0, 1) := by decide +kernel
theorem dX5_setShares_77 : decode cX5_setShares 77 = .ok (.getfield 28, 3) := by decide +kernel
theorem dX5_setShares_80 : decode cX5_setShares 80 = .ok (.iload_n 2, 1) := by decide +kernel
theorem dX5_setShares_81 : decode cX5_setShares 81 = .ok (.iaload, 1) := by decide +kernel
theorem dX5_setShares_82 : decode cX5_setShares 82 = .ok (.iastore, 1) := by decide +kernel
theorem dX5_setShares_83 : decode cX5_setShares 83 = .ok (.aload_n 0, 1) := by decide +kernel
theorem dX5_setShares_84 : decode cX5_setShares 84 = .ok (.getfield 59, 3) := by decide +kernel
theorem dX5_setShares_87 : decode cX5_setShares 87 = .ok (.iload_n 2, 1) := by decide +kernel
theorem dX5_setShares_88 : decode cX5_setShares 88 = .ok (.aload_n 0, 1) := by decide +kernel
theorem dX5_setShares_89 : decode cX5_setShares 89 = .ok (.getfield 22, 3) := by decide +kernel
theorem dX5_setShares_92 : decode cX5_setShares 92 = .ok (.iload_n 2, 1) := by decide +kernel
theorem dX5_setShares_93 : decode cX5_setShares 93 = .ok (.iaload, 1) := by decide +kernel
theorem dX5_setShares_94 : decode cX5_setShares 94 = .ok (.iastore, 1) := by decide +kernel
theorem dX5_setShares_95 : decode cX5_setShares 95 = .ok (.iinc 2 1, 3) := by decide +kernel
theorem dX5_setShares_98 : decode cX5_setShares 98 = .ok (.goto (-96), 3) := by decide +kernel
theorem dX5_setShares_101 : decode cX5_setShares 101 = .ok (.return_, 1) := by decide +kernel
theorem dX5_findPrices_0 : decode cX5_findPrices 0 = .ok (.aload_n 0, 1) := by decide +kernel
theorem dX5_findPrices_1 : decode cX5_findPrices 1 = .ok (.getfield 7, 3) := by decide +kernel
theorem dX5_findPrices_4 : decode cX5_findPrices 4 = .ok (.iconst 0, 1) := by decide +kernel
theorem dX5_findPrices_5 : decode cX5_findPrices 5 = .ok (.iaload, 1) := by decide +kernel
theorem dX5_findPrices_6 : decode cX5_findPrices 6 = .ok (.iconst 1, 1) := by decide +kernel
theorem dX5_findPrices_7 : decode cX5_findPrices 7 = .ok (.isub, 1) := by decide +kernel
theorem dX5_findPrices_8 : decode cX5_findPrices 8 = .ok (.istore_n 1, 1) := by decide +kernel
theorem dX5_findPrices_9 : decode cX5_findPrices 9 = .ok (.iconst 0, 1) := by decide +kernel
theorem dX5_findPrices_10 : decode cX5_findPrices 10 = .ok (.istore_n 2, 1) := by decide +kernel
theorem dX5_findPrices_11 : decode cX5_findPrices 11 = .ok (.iload_n 2, 1) := by decide +kernel
theorem dX5_findPrices_12 : decode cX5_findPrices 12 = .ok (.iload_n 1, 1) := by decide +kernel
theorem dX5_findPrices_13 : decode cX5_findPrices 13 = .ok (.if_icmp .gt 55, 3) := by decide +kernel
theorem dX5_findPrices_16 : decode cX5_findPrices 16 = .ok (.aload_n 0, 1) := by decide +kernel
theorem dX5_findPrices_17 : decode cX5_findPrices 17 = .ok (.getfield 65, 3) := by decide +kernel
theorem dX5_findPrices_20 : decode cX5_findPrices 20 = .ok (.iload_n 2, 1) := by decide +kernel
theorem dX5_findPrices_21 : decode cX5_findPrices 21 = .ok (.iload_n 2, 1) := by decide +kernel
theorem dX5_findPrices_22 : decode cX5_findPrices 22 = .ok (.iload_n 1, 1) := by decide +kernel
theorem dX5_findPrices_23 : decode cX5_findPrices 23 = .ok (.if_icmp .ne 7, 3) := by decide +kernel
theorem dX5_findPrices_26 : decode cX5_findPrices 26 = .ok (.lconst 1, 1) := by decide +kernel
theorem dX5_findPrices_27 : decode cX5_findPrices 27 = .ok (.goto 4, 3) := by decide +kernel
theorem dX5_findPrices_30 : decode cX5_findPrices 30 = .ok (.lconst 0, 1) := by decide +kernel
theorem dX5_findPrices_31 : decode cX5_findPrices 31 = .ok (.lastore, 1) := by decide +kernel
theorem dX5_findPrices_32 : decode cX5_findPrices 32 = .ok (.aload_n 0, 1) := by decide +kernel
theorem dX5_findPrices_33 : decode cX5_findPrices 33 = .ok (.getfield 68, 3) := by decide +kernel
theorem dX5_findPrices_36 : decode cX5_findPrices 36 = .ok (.iload_n 2, 1) := by decide +kernel
theorem dX5_findPrices_37 : decode cX5_findPrices 37 = .ok (.iload_n 2, 1) := by decide +kernel
theorem dX5_findPrices_38 : decode cX5_findPrices 38 = .ok (.iload_n 1, 1) := by decide +kernel
theorem dX5_findPrices_39 : decode cX5_findPrices 39 = .ok (.if_icmp .eq 17, 3) := by decide +kernel
theorem dX5_findPrices_42 : decode cX5_findPrices 42 = .ok (.iload_n 2, 1) := by decide +kernel
theorem dX5_findPrices_43 : decode cX5_findPrices 43 = .ok (.ifCond .eq 13, 3) := by decide +kernel
theorem dX5_findPrices_46 : decode cX5_findPrices 46 = .ok (.aload_n 0, 1) := by decide +kernel
theorem dX5_findPrices_47 : decode cX5_findPrices 47 = .ok (.getfield 62, 3) := by decide +kernel
theorem dX5_findPrices_50 : decode cX5_findPrices 50 = .ok (.iload_n 2, 1) := by decide +kernel
theorem dX5_findPrices_51 : decode cX5_findPrices 51 = .ok (.iaload, 1) := by decide +kernel
theorem dX5_findPrices_52 : decode cX5_findPrices 52 = .ok (.iconst (-1), 1) := by decide +kernel
theorem dX5_findPrices_53 : decode cX5_findPrices 53 = .ok (.if_icmp .ne 7, 3) := by decide +kernel
theorem dX5_findPrices_56 : decode cX5_findPrices 56 = .ok (.lconst 1, 1) := by decide +kernel
theorem dX5_findPrices_57 : decode cX5_findPrices 57 = .ok (.goto 4, 3) := by decide +kernel
theorem dX5_findPrices_60 : decode cX5_findPrices 60 = .ok (.lconst 0, 1) := by decide +kernel
theorem dX5_findPrices_61 : decode cX5_findPrices 61 = .ok (.lastore, 1) := by decide +kernel
theorem dX5_findPrices_62 : decode cX5_findPrices 62 = .ok (.iinc 2 1, 3) := by decide +kernel
theorem dX5_findPrices_65 : decode cX5_findPrices 65 = .ok (.goto (-54), 3) := by decide +kernel
theorem dX5_findPrices_68 : decode cX5_findPrices 68 = .ok (.iconst 0, 1) := by decide +kernel
theorem dX5_findPrices_69 : decode cX5_findPrices 69 = .ok (.istore_n 2, 1) := by decide +kernel
theorem dX5_findPrices_70 : decode cX5_findPrices 70 = .ok (.iload_n 2, 1) := by decide +kernel
theorem dX5_findPrices_71 : decode cX5_findPrices 71 = .ok (.iconst 3, 1) := by decide +kernel
theorem dX5_findPrices_72 : decode cX5_findPrices 72 = .ok (.if_icmp .ge 207, 3) := by decide +kernel
theorem dX5_findPrices_75 : decode cX5_findPrices 75 = .ok (.iconst 1, 1) := by decide +kernel
theorem dX5_findPrices_76 : decode cX5_findPrices 76 = .ok (.istore_n 3, 1) := by decide +kernel
theorem dX5_findPrices_77 : decode cX5_findPrices 77 = .ok (.iload_n 3, 1) := by decide +kernel
theorem dX5_findPrices_78 : decode cX5_findPrices 78 = .ok (.iload_n 1, 1) := by decide +kernel
theorem dX5_findPrices_79 : decode cX5_findPrices 79 = .ok (.if_icmp .ge 194, 3) := by decide +kernel
theorem dX5_findPrices_82 : decode cX5_findPrices 82 = .ok (.aload_n 0, 1) := by decide +kernel
theorem dX5_findPrices_83 : decode cX5_findPrices 83 = .ok (.getfield 68, 3) := by decide +kernel
theorem dX5_findPrices_86 : decode cX5_findPrices 86 = .ok (.iload_n 3, 1) := by decide +kernel
theorem dX5_findPrices_87 : decode cX5_findPrices 87 = .ok (.laload, 1) := by decide +kernel
theorem dX5_findPrices_88 : decode cX5_findPrices 88 = .ok (.lconst 0, 1) := by decide +kernel
theorem dX5_findPrices_89 : decode cX5_findPrices 89 = .ok (.lcmp, 1) := by decide +kernel
theorem dX5_findPrices_90 : decode cX5_findPrices 90 = .ok (.ifCond .le 6, 3) := by decide +kernel
theorem dX5_findPrices_93 : decode cX5_findPrices 93 = .ok (.goto 174, 3) := by decide +kernel
theorem dX5_findPrices_96 : decode cX5_findPrices 96 = .ok (.aload_n 0, 1) := by decide +kernel
theorem dX5_findPrices_97 : decode cX5_findPrices 97 = .ok (.getfield 62, 3) := by decide +kernel
theorem dX5_findPrices_100 : decode cX5_findPrices 100 = .ok (.iload_n 3, 1) := by decide +kernel
theorem dX5_findPrices_101 : decode cX5_findPrices 101 = .ok (.iaload, 1) := by decide +kernel
theorem dX5_findPrices_102 : decode cX5_findPrices 102 = .ok (.istore 4, 2) := by decide +kernel
theorem dX5_findPrices_104 : decode cX5_findPrices 104 = .ok (.aload_n 0, 1) := by decide +kernel
theorem dX5_findPrices_105 : decode cX5_findPrices 105 = .ok (.getfield 16, 3) := by decide +kernel
theorem dX5_findPrices_108 : decode cX5_findPrices 108 = .ok (.iload 4, 2) := by decide +kernel
theorem dX5_findPrices_110 : decode cX5_findPrices 110 = .ok (.iaload, 1) := by decide +kernel
theorem dX5_findPrices_111 : decode cX5_findPrices 111 = .ok (.iload_n 3, 1) := by decide +kernel
theorem dX5_findPrices_112 : decode cX5_findPrices 112 = .ok (.if_icmp .ne 13, 3) := by decide +kernel
theorem dX5_findPrices_115 : decode cX5_findPrices 115 = .ok (.aload_n 0, 1) := by decide +kernel
theorem dX5_findPrices_116 : decode cX5_findPrices 116 = .ok (.getfield 19, 3) := by decide +kernel
theorem dX5_findPrices_119 : decode cX5_findPrices 119 = .ok (.iload 4, 2) := by decide +kernel
theorem dX5_findPrices_121 : decode cX5_findPrices 121 = .ok (.iaload, 1) := by decide +kernel
theorem dX5_findPrices_122 : decode cX5_findPrices 122 = .ok (.goto 10, 3) := by decide +kernel
theorem dX5_findPrices_125 : decode cX5_findPrices 125 = .ok (.aload_n 0, 1) := by decide +kernel
theorem dX5_findPrices_126 : decode cX5_findPrices 126 = .ok (.getfield 16, 3) := by decide +kernel
theorem dX5_findPrices_129 : decode cX5_findPrices 129 = .ok (.iload 4, 2) := by decide +kernel
theorem dX5_findPrices_131 : decode cX5_findPrices 131 = .ok (.iaload, 1) := by decide +kernel
theorem dX5_findPrices_132 : decode cX5_findPrices 132 = .ok (.istore 5, 2) := by decide +kernel
theorem dX5_findPrices_134 : decode cX5_findPrices 134 = .ok (.aload_n 0, 1) := by decide +kernel
theorem dX5_findPrices_135 : decode cX5_findPrices 135 = .ok (.getfield 68, 3) := by decide +kernel
theorem dX5_findPrices_138 : decode cX5_findPrices 138 = .ok (.iload 5, 2) := by decide +kernel
theorem dX5_findPrices_140 : decode cX5_findPrices 140 = .ok (.laload, 1) := by decide +kernel
theorem dX5_findPrices_141 : decode cX5_findPrices 141 = .ok (.lconst 0, 1) := by decide +kernel
theorem dX5_findPrices_142 : decode cX5_findPrices 142 = .ok (.lcmp, 1) := by decide +kernel
theorem dX5_findPrices_143 : decode cX5_findPrices 143 = .ok (.ifCond .ne 6, 3) := by decide +kernel
theorem dX5_findPrices_146 : decode cX5_findPrices 146 = .ok (.goto 121, 3) := by decide +kernel
theorem dX5_findPrices_149 : decode cX5_findPrices 149 = .ok (.aload_n 0, 1) := by decide +kernel
theorem dX5_findPrices_150 : decode cX5_findPrices 150 = .ok (.getfield 16, 3) := by decide +kernel
theorem dX5_findPrices_153 : decode cX5_findPrices 153 = .ok (.iload 4, 2) := by decide +kernel
theorem dX5_findPrices_155 : decode cX5_findPrices 155 = .ok (.iaload, 1) := by decide +kernel
theorem dX5_findPrices_156 : decode cX5_findPrices 156 = .ok (.iload_n 3, 1) := by decide +kernel
theorem dX5_findPrices_157 : decode cX5_findPrices 157 = .ok (.if_icmp .ne 42, 3) := by decide +kernel
theorem dX5_findPrices_160 : decode cX5_findPrices 160 = .ok (.aload_n 0, 1) := by decide +kernel
theorem dX5_findPrices_161 : decode cX5_findPrices 161 = .ok (.aload_n 0, 1) := by decide +kernel
theorem dX5_findPrices_162 : decode cX5_findPrices 162 = .ok (.getfield 65, 3) := by decide +kernel
theorem dX5_findPrices_165 : decode cX5_findPrices 165 = .ok (.iload 5, 2) := by decide +kernel
theorem dX5_findPrices_167 : decode cX5_findPrices 167 = .ok (.laload, 1) := by decide +kernel
theorem dX5_findPrices_168 : decode cX5_findPrices 168 = .ok (.aload_n 0, 1) := by decide +kernel
theorem dX5_findPrices_169 : decode cX5_findPrices 169 = .ok (.getfield 53, 3) := by decide +kernel
theorem dX5_findPrices_172 : decode cX5_findPrices 172 = .ok (.iload 4, 2) := by decide +kernel
theorem dX5_findPrices_174 : decode cX5_findPrices 174 = .ok (.iaload, 1) := by decide +kernel
theorem dX5_findPrices_175 : decode cX5_findPrices 175 = .ok (.i2l, 1) := by decide +kernel
theorem dX5_findPrices_176 : decode cX5_findPrices 176 = .ok (.lmul, 1) := by decide +kernel
theorem dX5_findPrices_177 : decode cX5_findPrices 177 = .ok (.aload_n 0, 1) := by decide +kernel
theorem dX5_findPrices_178 : decode cX5_findPrices 178 = .ok (.getfield 68, 3) := by decide +kernel
theorem dX5_findPrices_181 : decode cX5_findPrices 181 = .ok (.iload 5, 2) := by decide +kernel
theorem dX5_findPrices_183 : decode cX5_findPrices 183 = .ok (.laload, 1) := by decide +kernel
theorem dX5_findPrices_184 : decode cX5_findPrices 184 = .ok (.aload_n 0, 1) := by decide +kernel
theorem dX5_findPrices_185 : decode cX5_findPrices 185 = .ok (.getfield 56, 3) := by decide +kernel
theorem dX5_findPrices_188 : decode cX5_findPrices 188 = .ok (.iload 4, 2) := by decide +kernel
theorem dX5_findPrices_190 : decode cX5_findPrices 190 = .ok (.iaload, 1) := by decide +kernel
theorem dX5_findPrices_191 : decode cX5_findPrices 191 = .ok (.i2l, 1) := by decide +kernel
theorem dX5_findPrices_192 : decode cX5_findPrices 192 = .ok (.lmul, 1) := by decide +kernel
theorem dX5_findPrices_193 : decode cX5_findPrices 193 = .ok (.invokevirtual 100, 3) := by decide +kernel
theorem dX5_findPrices_196 : decode cX5_findPrices 196 = .ok (.goto 51, 3) := by decide +kernel
theorem dX5_findPrices_199 : decode cX5_findPrices 199 = .ok (.aload_n 0, 1) := by decide +kernel
theorem dX5_findPrices_200 : decode cX5_findPrices 200 = .ok (.getfield 53, 3) := by decide +kernel
theorem dX5_findPrices_203 : decode cX5_findPrices 203 = .ok (.iload 4, 2) := by decide +kernel
theorem dX5_findPrices_205 : decode cX5_findPrices 205 = .ok (.iaload, 1) := by decide +kernel
theorem dX5_findPrices_206 : decode cX5_findPrices 206 = .ok (.ifCond .ne 5, 3) := by decide +kernel
theorem dX5_findPrices_209 : decode cX5_findPrices 209 = .ok (.iconst 0, 1) := by decide +kernel
theorem dX5_findPrices_210 : decode cX5_findPrices 210 = .ok (.ireturn, 1) := by decide +kernel
theorem dX5_findPrices_211 : decode cX5_findPrices 211 = .ok (.aload_n 0, 1) := by decide +kernel
theorem dX5_findPrices_212 : decode cX5_findPrices 212 = .ok (.aload_n 0, 1) := by decide +kernel
theorem dX5_findPrices_213 : decode cX5_findPrices 213 = .ok (.getfield 65, 3) := by decide +kernel
theorem dX5_findPrices_216 : decode cX5_findPrices 216 = .ok (.iload 5, 2) := by decide +kernel
theorem dX5_findPrices_218 : decode cX5_findPrices 218 = .ok (.laload, 1) := by decide +kernel
theorem dX5_findPrices_219 : decode cX5_findPrices 219 = .ok (.aload_n 0, 1) := by decide +kernel
theorem dX5_findPrices_220 : decode cX5_findPrices 220 = .ok (.getfield 56, 3) := by decide +kernel
theorem dX5_findPrices_223 : decode cX5_findPrices 223 = .ok (.iload 4, 2) := by decide +kernel
theorem dX5_findPrices_225 : decode cX5_findPrices 225 = .ok (.iaload, 1) := by decide +kernel
theorem dX5_findPrices_226 : decode cX5_findPrices 226 = .ok (.i2l, 1) := by decide +kernel
theorem dX5_findPrices_227 : decode cX5_findPrices 227 = .ok (.lmul, 1) := by decide +kernel
theorem dX5_findPrices_228 : decode cX5_findPrices 228 = .ok (.aload_n 0, 1) := by decide +kernel
theorem dX5_findPrices_229 : decode cX5_findPrices 229 = .ok (.getfield 68, 3) := by decide +kernel
theorem dX5_findPrices_232 : decode cX5_findPrices 232 = .ok (.iload 5, 2) := by decide +kernel
theorem dX5_findPrices_234 : decode cX5_findPrices 234 = .ok (.laload, 1) := by decide +kernel
theorem dX5_findPrices_235 : decode cX5_findPrices 235 = .ok (.aload_n 0, 1) := by decide +kernel
theorem dX5_findPrices_236 : decode cX5_findPrices 236 = .ok (.getfield 53, 3) := by decide +kernel
theorem dX5_findPrices_239 : decode cX5_findPrices 239 = .ok (.iload 4, 2) := by decide +kernel
theorem dX5_findPrices_241 : decode cX5_findPrices 241 = .ok (.iaload, 1) := by decide +kernel
theorem dX5_findPrices_242 : decode cX5_findPrices 242 = .ok (.i2l, 1) := by decide +kernel
theorem dX5_findPrices_243 : decode cX5_findPrices 243 = .ok (.lmul, 1) := by decide +kernel
theorem dX5_findPrices_244 : decode cX5_findPrices 244 = .ok (.invokevirtual 100, 3) := by decide +kernel
theorem dX5_findPrices_247 : decode cX5_findPrices 247 = .ok (.aload_n 0, 1) := by decide +kernel
theorem dX5_findPrices_248 : decode cX5_findPrices 248 = .ok (.getfield 65, 3) := by decide +kernel
theorem dX5_findPrices_251 : decode cX5_findPrices 251 = .ok (.iload_n 3, 1) := by decide +kernel
theorem dX5_findPrices_252 : decode cX5_findPrices 252 = .ok (.aload_n 0, 1) := by decide +kernel
theorem dX5_findPrices_253 : decode cX5_findPrices 253 = .ok (.getfield 104, 3) := by decide +kernel
theorem dX5_findPrices_256 : decode cX5_findPrices 256 = .ok (.lastore, 1) := by decide +kernel
theorem dX5_findPrices_257 : decode cX5_findPrices 257 = .ok (.aload_n 0, 1) := by decide +kernel
theorem dX5_findPrices_258 : decode cX5_findPrices 258 = .ok (.getfield 68, 3) := by decide +kernel
theorem dX5_findPrices_261 : decode cX5_findPrices 261 = .ok (.iload_n 3, 1) := by decide +kernel
theorem dX5_findPrices_262 : decode cX5_findPrices 262 = .ok (.aload_n 0, 1) := by decide +kernel
theorem dX5_findPrices_263 : decode cX5_findPrices 263 = .ok (.getfield 108, 3) := by decide +kernel
theorem dX5_findPrices_266 : decode cX5_findPrices 266 = .ok (.lastore, 1) := by decide +kernel
theorem dX5_findPrices_267 : decode cX5_findPrices 267 = .ok (.iinc 3 1, 3) := by decide +kernel
theorem dX5_findPrices_270 : decode cX5_findPrices 270 = .ok (.goto (-193), 3) := by decide +kernel
theorem dX5_findPrices_273 : decode cX5_findPrices 273 = .ok (.iinc 2 1, 3) := by decide +kernel
theorem dX5_findPrices_276 : decode cX5_findPrices 276 = .ok (.goto (-206), 3) := by decide +kernel
theorem dX5_findPrices_279 : decode cX5_findPrices 279 = .ok (.iconst 1, 1) := by decide +kernel
theorem dX5_findPrices_280 : decode cX5_findPrices 280 = .ok (.istore_n 2, 1) := by decide +kernel
theorem dX5_findPrices_281 : decode cX5_findPrices 281 = .ok (.iload_n 2, 1) := by decide +kernel
theorem dX5_findPrices_282 : decode cX5_findPrices 282 = .ok (.iload_n 1, 1) := by decide +kernel
theorem dX5_findPrices_283 : decode cX5_findPrices 283 = .ok (.if_icmp .ge 22, 3) := by decide +kernel
theorem dX5_findPrices_286 : decode cX5_findPrices 286 = .ok (.aload_n 0, 1) := by decide +kernel
theorem dX5_findPrices_287 : decode cX5_findPrices 287 = .ok (.getfield 68, 3) := by decide +kernel
theorem dX5_findPrices_290 : decode cX5_findPrices 290 = .ok (.iload_n 2, 1) := by decide +kernel
theorem dX5_findPrices_291 : decode cX5_findPrices 291 = .ok (.laload, 1) := by decide +kernel
theorem dX5_findPrices_292 : decode cX5_findPrices 292 = .ok (.lconst 0, 1) := by decide +kernel
theorem dX5_findPrices_293 : decode cX5_findPrices 293 = .ok (.lcmp, 1) := by decide +kernel
theorem dX5_findPrices_294 : decode cX5_findPrices 294 = .ok (.ifCond .ne 5, 3) := by decide +kernel
theorem dX5_findPrices_297 : decode cX5_findPrices 297 = .ok (.iconst 0, 1) := by decide +kernel
theorem dX5_findPrices_298 : decode cX5_findPrices 298 = .ok (.ireturn, 1) := by decide +kernel
theorem dX5_findPrices_299 : decode cX5_findPrices 299 = .ok (.iinc 2 1, 3) := by decide +kernel
theorem dX5_findPrices_302 : decode cX5_findPrices 302 = .ok (.goto (-21), 3) := by decide +kernel
theorem dX5_findPrices_305 : decode cX5_findPrices 305 = .ok (.iconst 1, 1) := by decide +kernel
theorem dX5_findPrices_306 : decode cX5_findPrices 306 = .ok (.ireturn, 1) := by decide +kernel
theorem dX5_findWorth_0 : decode cX5_findWorth 0 = .ok (.lconst 0, 1) := by decide +kernel
theorem dX5_findWorth_1 : decode cX5_findWorth 1 = .ok (.lstore_n 1, 1) := by decide +kernel
theorem dX5_findWorth_2 : decode cX5_findWorth 2 = .ok (.lconst 1, 1) := by decide +kernel
theorem dX5_findWorth_3 : decode cX5_findWorth 3 = .ok (.lstore_n 3, 1) := by decide +kernel
theorem dX5_findWorth_4 : decode cX5_findWorth 4 = .ok (.iconst 0, 1) := by decide +kernel
theorem dX5_findWorth_5 : decode cX5_findWorth 5 = .ok (.istore 5, 2) := by decide +kernel
theorem dX5_findWorth_7 : decode cX5_findWorth 7 = .ok (.iload 5, 2) := by decide +kernel
theorem dX5_findWorth_9 : decode cX5_findWorth 9 = .ok (.aload_n 0, 1) := by decide +kernel
theorem dX5_findWorth_10 : decode cX5_findWorth 10 = .ok (.getfield 13, 3) := by decide +kernel
theorem dX5_findWorth_13 : decode cX5_findWorth 13 = .ok (.iconst 0, 1) := by decide +kernel
theorem dX5_findWorth_14 : decode cX5_findWorth 14 = .ok (.iaload, 1) := by decide +kernel
theorem dX5_findWorth_15 : decode cX5_findWorth 15 = .ok (.if_icmp .ge 201, 3) := by decide +kernel
theorem dX5_findWorth_18 : decode cX5_findWorth 18 = .ok (.aload_n 0, 1) := by decide +kernel
theorem dX5_findWorth_19 : decode cX5_findWorth 19 = .ok (.getfield 53, 3) := by decide +kernel
theorem dX5_findWorth_22 : decode cX5_findWorth 22 = .ok (.iload 5, 2) := by decide +kernel
theorem dX5_findWorth_24 : decode cX5_findWorth 24 = .ok (.iaload, 1) := by decide +kernel
theorem dX5_findWorth_25 : decode cX5_findWorth 25 = .ok (.i2l, 1) := by decide +kernel
theorem dX5_findWorth_26 : decode cX5_findWorth 26 = .ok (.aload_n 0, 1) := by decide +kernel
theorem dX5_findWorth_27 : decode cX5_findWorth 27 = .ok (.getfield 65, 3) := by decide +kernel
theorem dX5_findWorth_30 : decode cX5_findWorth 30 = .ok (.aload_n 0, 1) := by decide +kernel
theorem dX5_findWorth_31 : decode cX5_findWorth 31 = .ok (.getfield 19, 3) := by decide +kernel
theorem dX5_findWorth_34 : decode cX5_findWorth 34 = .ok (.iload 5, 2) := by decide +kernel
theorem dX5_findWorth_36 : decode cX5_findWorth 36 = .ok (.iaload, 1) := by decide +kernel
theorem dX5_findWorth_37 : decode cX5_findWorth 37 = .ok (.laload, 1) := by decide +kernel
theorem dX5_findWorth_38 : decode cX5_findWorth 38 = .ok (.lmul, 1) := by decide +kernel
theorem dX5_findWorth_39 : decode cX5_findWorth 39 = .ok (.aload_n 0, 1) := by decide +kernel
theorem dX5_findWorth_40 : decode cX5_findWorth 40 = .ok (.getfield 68, 3) := by decide +kernel
theorem dX5_findWorth_43 : decode cX5_findWorth 43 = .ok (.aload_n 0, 1) := by decide +kernel
theorem dX5_findWorth_44 : decode cX5_findWorth 44 = .ok (.getfield 16, 3) := by decide +kernel
theorem dX5_findWorth_47 : decode cX5_findWorth 47 = .ok (.iload 5, 2) := by decide +kernel
theorem dX5_findWorth_49 : decode cX5_findWorth 49 = .ok (.iaload, 1) := by decide +kernel
theorem dX5_findWorth_50 : decode cX5_findWorth 50 = .ok (.laload, 1) := by decide +kernel
theorem dX5_findWorth_51 : decode cX5_findWorth 51 = .ok (.lmul, 1) := by decide +kernel
theorem dX5_findWorth_52 : decode cX5_findWorth 52 = .ok (.aload_n 0, 1) := by decide +kernel
theorem dX5_findWorth_53 : decode cX5_findWorth 53 = .ok (.getfield 65, 3) := by decide +kernel
theorem dX5_findWorth_56 : decode cX5_findWorth 56 = .ok (.aload_n 0, 1) := by decide +kernel
theorem dX5_findWorth_57 : decode cX5_findWorth 57 = .ok (.getfield 16, 3) := by decide +kernel
theorem dX5_findWorth_60 : decode cX5_findWorth 60 = .ok (.iload 5, 2) := by decide +kernel
theorem dX5_findWorth_62 : decode cX5_findWorth 62 = .ok (.iaload, 1) := by decide +kernel
theorem dX5_findWorth_63 : decode cX5_findWorth 63 = .ok (.laload, 1) := by decide +kernel
theorem dX5_findWorth_64 : decode cX5_findWorth 64 = .ok (.aload_n 0, 1) := by decide +kernel
theorem dX5_findWorth_65 : decode cX5_findWorth 65 = .ok (.getfield 56, 3) := by decide +kernel
theorem dX5_findWorth_68 : decode cX5_findWorth 68 = .ok (.iload 5, 2) := by decide +kernel
theorem dX5_findWorth_70 : decode cX5_findWorth 70 = .ok (.iaload, 1) := by decide +kernel
theorem dX5_findWorth_71 : decode cX5_findWorth 71 = .ok (.i2l, 1) := by decide +kernel
theorem dX5_findWorth_72 : decode cX5_findWorth 72 = .ok (.lmul, 1) := by decide +kernel
theorem dX5_findWorth_73 : decode cX5_findWorth 73 = .ok (.aload_n 0, 1) := by decide +kernel
theorem dX5_findWorth_74 : decode cX5_findWorth 74 = .ok (.getfield 68, 3) := by decide +kernel
theorem dX5_findWorth_77 : decode cX5_findWorth 77 = .ok (.aload_n 0, 1) := by decide +kernel
theorem dX5_findWorth_78 : decode cX5_findWorth 78 = .ok (.getfield 19, 3) := by decide +kernel
theorem dX5_findWorth_81 : decode cX5_findWorth 81 = .ok (.iload 5, 2) := by decide +kernel
theorem dX5_findWorth_83 : decode cX5_findWorth 83 = .ok (.iaload, 1) := by decide +kernel
theorem dX5_findWorth_84 : decode cX5_findWorth 84 = .ok (.laload, 1) := by decide +kernel
theorem dX5_findWorth_85 : decode cX5_findWorth 85 = .ok (.lmul, 1) := by decide +kernel
theorem dX5_findWorth_86 : decode cX5_findWorth 86 = .ok (.lsub, 1) := by decide +kernel
theorem dX5_findWorth_87 : decode cX5_findWorth 87 = .ok (.lstore 6, 2) := by decide +kernel
theorem dX5_findWorth_89 : decode cX5_findWorth 89 = .ok (.lload 6, 2) := by decide +kernel
theorem dX5_findWorth_91 : decode cX5_findWorth 91 = .ok (.lconst 0, 1) := by decide +kernel
theorem dX5_findWorth_92 : decode cX5_findWorth 92 = .ok (.lcmp, 1) := by decide +kernel
theorem dX5_findWorth_93 : decode cX5_findWorth 93 = .ok (.ifCond .le 117, 3) := by decide +kernel
theorem dX5_findWorth_96 : decode cX5_findWorth 96 = .ok (.aload_n 0, 1) := by decide +kernel
theorem dX5_findWorth_97 : decode cX5_findWorth 97 = .ok (.getfield 59, 3) := by decide +kernel
theorem dX5_findWorth_100 : decode cX5_findWorth 100 = .ok (.iload 5, 2) := by decide +kernel
theorem dX5_findWorth_102 : decode cX5_findWorth 102 = .ok (.iaload, 1) := by decide +kernel
theorem dX5_findWorth_103 : decode cX5_findWorth 103 = .ok (.ifCond .ne 6, 3) := by decide +kernel
theorem dX5_findWorth_106 : decode cX5_findWorth 106 = .ok (.goto 104, 3) := by decide +kernel
theorem dX5_findWorth_109 : decode cX5_findWorth 109 = .ok (.aload_n 0, 1) := by decide +kernel
theorem dX5_findWorth_110 : decode cX5_findWorth 110 = .ok (.lload 6, 2) := by decide +kernel
theorem dX5_findWorth_112 : decode cX5_findWorth 112 = .ok (.aload_n 0, 1) := by decide +kernel
theorem dX5_findWorth_113 : decode cX5_findWorth 113 = .ok (.getfield 59, 3) := by decide +kernel
theorem dX5_findWorth_116 : decode cX5_findWorth 116 = .ok (.iload 5, 2) := by decide +kernel
theorem dX5_findWorth_118 : decode cX5_findWorth 118 = .ok (.iaload, 1) := by decide +kernel
theorem dX5_findWorth_119 : decode cX5_findWorth 119 = .ok (.i2l, 1) := by decide +kernel
theorem dX5_findWorth_120 : decode cX5_findWorth 120 = .ok (.lmul, 1) := by decide +kernel
theorem dX5_findWorth_121 : decode cX5_findWorth 121 = .ok (.aload_n 0, 1) := by decide +kernel
theorem dX5_findWorth_122 : decode cX5_findWorth 122 = .ok (.getfield 56, 3) := by decide +kernel
theorem dX5_findWorth_125 : decode cX5_findWorth 125 = .ok (.iload 5, 2) := by decide +kernel
theorem dX5_findWorth_127 : decode cX5_findWorth 127 = .ok (.iaload, 1) := by decide +kernel
theorem dX5_findWorth_128 : decode cX5_findWorth 128 = .ok (.i2l, 1) := by decide +kernel
theorem dX5_findWorth_129 : decode cX5_findWorth 129 = .ok (.aload_n 0, 1) := by decide +kernel
theorem dX5_findWorth_130 : decode cX5_findWorth 130 = .ok (.getfield 68, 3) := by decide +kernel
theorem dX5_findWorth_133 : decode cX5_findWorth 133 = .ok (.aload_n 0, 1) := by decide +kernel
theorem dX5_findWorth_134 : decode cX5_findWorth 134 = .ok (.getfield 19, 3) := by decide +kernel
theorem dX5_findWorth_137 : decode cX5_findWorth 137 = .ok (.iload 5, 2) := by decide +kernel
theorem dX5_findWorth_139 : decode cX5_findWorth 139 = .ok (.iaload, 1) := by decide +kernel
theorem dX5_findWorth_140 : decode cX5_findWorth 140 = .ok (.laload, 1) := by decide +kernel
theorem dX5_findWorth_141 : decode cX5_findWorth 141 = .ok (.lmul, 1) := by decide +kernel
theorem dX5_findWorth_142 : decode cX5_findWorth 142 = .ok (.aload_n 0, 1) := by decide +kernel
theorem dX5_findWorth_143 : decode cX5_findWorth 143 = .ok (.getfield 68, 3) := by decide +kernel
theorem dX5_findWorth_146 : decode cX5_findWorth 146 = .ok (.aload_n 0, 1) := by decide +kernel
theorem dX5_findWorth_147 : decode cX5_findWorth 147 = .ok (.getfield 16, 3) := by decide +kernel
theorem dX5_findWorth_150 : decode cX5_findWorth 150 = .ok (.iload 5, 2) := by decide +kernel
theorem dX5_findWorth_152 : decode cX5_findWorth 152 = .ok (.iaload, 1) := by decide +kernel
theorem dX5_findWorth_153 : decode cX5_findWorth 153 = .ok (.laload, 1) := by decide +kernel
theorem dX5_findWorth_154 : decode cX5_findWorth 154 = .ok (.lmul, 1) := by decide +kernel
theorem dX5_findWorth_155 : decode cX5_findWorth 155 = .ok (.invokevirtual 100, 3) := by decide +kernel
theorem dX5_findWorth_158 : decode cX5_findWorth 158 = .ok (.lload_n 3, 1) := by decide +kernel
theorem dX5_findWorth_159 : decode cX5_findWorth 159 = .ok (.aload_n 0, 1) := by decide +kernel
theorem dX5_findWorth_160 : decode cX5_findWorth 160 = .ok (.getfield 108, 3) := by decide +kernel
theorem dX5_findWorth_163 : decode cX5_findWorth 163 = .ok (.invokestatic 111, 3) := by decide +kernel
theorem dX5_findWorth_166 : decode cX5_findWorth 166 = .ok (.lstore 8, 2) := by decide +kernel
theorem dX5_findWorth_168 : decode cX5_findWorth 168 = .ok (.aload_n 0, 1) := by decide +kernel
theorem dX5_findWorth_169 : decode cX5_findWorth 169 = .ok (.lload_n 1, 1) := by decide +kernel
theorem dX5_findWorth_170 : decode cX5_findWorth 170 = .ok (.aload_n 0, 1) := by decide +kernel
theorem dX5_findWorth_171 : decode cX5_findWorth 171 = .ok (.getfield 108, 3) := by decide +kernel
theorem dX5_findWorth_174 : decode cX5_findWorth 174 = .ok (.lload 8, 2) := by decide +kernel
theorem dX5_findWorth_176 : decode cX5_findWorth 176 = .ok (.ldiv, 1) := by decide +kernel
theorem dX5_findWorth_177 : decode cX5_findWorth 177 = .ok (.lmul, 1) := by decide +kernel
theorem dX5_findWorth_178 : decode cX5_findWorth 178 = .ok (.aload_n 0, 1) := by decide +kernel
theorem dX5_findWorth_179 : decode cX5_findWorth 179 = .ok (.getfield 104, 3) := by decide +kernel
theorem dX5_findWorth_182 : decode cX5_findWorth 182 = .ok (.lload_n 3, 1) := by decide +kernel
theorem dX5_findWorth_183 : decode cX5_findWorth 183 = .ok (.lload 8, 2) := by decide +kernel
theorem dX5_findWorth_185 : decode cX5_findWorth 185 = .ok (.ldiv, 1) := by decide +kernel
theorem dX5_findWorth_186 : decode cX5_findWorth 186 = .ok (.lmul, 1) := by decide +kernel
theorem dX5_findWorth_187 : decode cX5_findWorth 187 = .ok (.ladd, 1) := by decide +kernel
theorem dX5_findWorth_188 : decode cX5_findWorth 188 = .ok (.lload_n 3, 1) := by decide +kernel
theorem dX5_findWorth_189 : decode cX5_findWorth 189 = .ok (.lload 8, 2) := by decide +kernel
theorem dX5_findWorth_191 : decode cX5_findWorth 191 = .ok (.ldiv, 1) := by decide +kernel
