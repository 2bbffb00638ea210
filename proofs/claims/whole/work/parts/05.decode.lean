theorem dX4_init_0 : decode cX4_init 0 = .ok (.aload_n 0, 1) := by decide +kernel
theorem dX4_init_1 : decode cX4_init 1 = .ok (.invokespecial 1, 3) := by decide +kernel
theorem dX4_init_4 : decode cX4_init 4 = .ok (.aload_n 0, 1) := by decide +kernel
theorem dX4_init_5 : decode cX4_init 5 = .ok (.iconst 4, 1) := by decide +kernel
theorem dX4_init_6 : decode cX4_init 6 = .ok (.newarray .int, 2) := by decide +kernel
theorem dX4_init_8 : decode cX4_init 8 = .ok (.dup, 1) := by decide +kernel
theorem dX4_init_9 : decode cX4_init 9 = .ok (.iconst 0, 1) := by decide +kernel
theorem dX4_init_10 : decode cX4_init 10 = .ok (.bipush (-9), 2) := by decide +kernel
theorem dX4_init_12 : decode cX4_init 12 = .ok (.iastore, 1) := by decide +kernel
theorem dX4_init_13 : decode cX4_init 13 = .ok (.dup, 1) := by decide +kernel
theorem dX4_init_14 : decode cX4_init 14 = .ok (.iconst 1, 1) := by decide +kernel
theorem dX4_init_15 : decode cX4_init 15 = .ok (.bipush (-9), 2) := by decide +kernel
theorem dX4_init_17 : decode cX4_init 17 = .ok (.iastore, 1) := by decide +kernel
theorem dX4_init_18 : decode cX4_init 18 = .ok (.dup, 1) := by decide +kernel
theorem dX4_init_19 : decode cX4_init 19 = .ok (.iconst 2, 1) := by decide +kernel
theorem dX4_init_20 : decode cX4_init 20 = .ok (.bipush (-9), 2) := by decide +kernel
theorem dX4_init_22 : decode cX4_init 22 = .ok (.iastore, 1) := by decide +kernel
theorem dX4_init_23 : decode cX4_init 23 = .ok (.dup, 1) := by decide +kernel
theorem dX4_init_24 : decode cX4_init 24 = .ok (.iconst 3, 1) := by decide +kernel
theorem dX4_init_25 : decode cX4_init 25 = .ok (.bipush (-9), 2) := by decide +kernel
theorem dX4_init_27 : decode cX4_init 27 = .ok (.iastore, 1) := by decide +kernel
theorem dX4_init_28 : decode cX4_init 28 = .ok (.putfield 9, 3) := by decide +kernel
theorem dX4_init_31 : decode cX4_init 31 = .ok (.aload_n 0, 1) := by decide +kernel
theorem dX4_init_32 : decode cX4_init 32 = .ok (.iconst 4, 1) := by decide +kernel
theorem dX4_init_33 : decode cX4_init 33 = .ok (.newarray .int, 2) := by decide +kernel
theorem dX4_init_35 : decode cX4_init 35 = .ok (.putfield 13, 3) := by decide +kernel
theorem dX4_init_38 : decode cX4_init 38 = .ok (.aload_n 0, 1) := by decide +kernel
theorem dX4_init_39 : decode cX4_init 39 = .ok (.sipush 240, 3) := by decide +kernel
theorem dX4_init_42 : decode cX4_init 42 = .ok (.newarray .int, 2) := by decide +kernel
theorem dX4_init_44 : decode cX4_init 44 = .ok (.putfield 16, 3) := by decide +kernel
theorem dX4_init_47 : decode cX4_init 47 = .ok (.aload_n 0, 1) := by decide +kernel
theorem dX4_init_48 : decode cX4_init 48 = .ok (.bipush 6, 2) := by decide +kernel
theorem dX4_init_50 : decode cX4_init 50 = .ok (.newarray .int, 2) := by decide +kernel
theorem dX4_init_52 : decode cX4_init 52 = .ok (.putfield 19, 3) := by decide +kernel
theorem dX4_init_55 : decode cX4_init 55 = .ok (.aload_n 0, 1) := by decide +kernel
theorem dX4_init_56 : decode cX4_init 56 = .ok (.bipush 6, 2) := by decide +kernel
theorem dX4_init_58 : decode cX4_init 58 = .ok (.newarray .int, 2) := by decide +kernel
theorem dX4_init_60 : decode cX4_init 60 = .ok (.putfield 22, 3) := by decide +kernel
theorem dX4_init_63 : decode cX4_init 63 = .ok (.aload_n 0, 1) := by decide +kernel
theorem dX4_init_64 : decode cX4_init 64 = .ok (.bipush 6, 2) := by decide +kernel
theorem dX4_init_66 : decode cX4_init 66 = .ok (.newarray .int, 2) := by decide +kernel
theorem dX4_init_68 : decode cX4_init 68 = .ok (.putfield 25, 3) := by decide +kernel
theorem dX4_init_71 : decode cX4_init 71 = .ok (.aload_n 0, 1) := by decide +kernel
theorem dX4_init_72 : decode cX4_init 72 = .ok (.bipush 6, 2) := by decide +kernel
theorem dX4_init_74 : decode cX4_init 74 = .ok (.newarray .int, 2) := by decide +kernel
theorem dX4_init_76 : decode cX4_init 76 = .ok (.putfield 28, 3) := by decide +kernel
theorem dX4_init_79 : decode cX4_init 79 = .ok (.aload_n 0, 1) := by decide +kernel
theorem dX4_init_80 : decode cX4_init 80 = .ok (.bipush 12, 2) := by decide +kernel
theorem dX4_init_82 : decode cX4_init 82 = .ok (.newarray .int, 2) := by decide +kernel
theorem dX4_init_84 : decode cX4_init 84 = .ok (.putfield 31, 3) := by decide +kernel
theorem dX4_init_87 : decode cX4_init 87 = .ok (.aload_n 0, 1) := by decide +kernel
theorem dX4_init_88 : decode cX4_init 88 = .ok (.bipush 6, 2) := by decide +kernel
theorem dX4_init_90 : decode cX4_init 90 = .ok (.newarray .int, 2) := by decide +kernel
theorem dX4_init_92 : decode cX4_init 92 = .ok (.putfield 34, 3) := by decide +kernel
theorem dX4_init_95 : decode cX4_init 95 = .ok (.aload_n 0, 1) := by decide +kernel
theorem dX4_init_96 : decode cX4_init 96 = .ok (.bipush 6, 2) := by decide +kernel
theorem dX4_init_98 : decode cX4_init 98 = .ok (.newarray .int, 2) := by decide +kernel
theorem dX4_init_100 : decode cX4_init 100 = .ok (.putfield 37, 3) := by decide +kernel
theorem dX4_init_103 : decode cX4_init 103 = .ok (.aload_n 0, 1) := by decide +kernel
theorem dX4_init_104 : decode cX4_init 104 = .ok (.bipush 6, 2) := by decide +kernel
theorem dX4_init_106 : decode cX4_init 106 = .ok (.newarray .int, 2) := by decide +kernel
theorem dX4_init_108 : decode cX4_init 108 = .ok (.putfield 40, 3) := by decide +kernel
theorem dX4_init_111 : decode cX4_init 111 = .ok (.aload_n 0, 1) := by decide +kernel
theorem dX4_init_112 : decode cX4_init 112 = .ok (.bipush 6, 2) := by decide +kernel
theorem dX4_init_114 : decode cX4_init 114 = .ok (.newarray .int, 2) := by decide +kernel
theorem dX4_init_116 : decode cX4_init 116 = .ok (.putfield 43, 3) := by decide +kernel
theorem dX4_init_119 : decode cX4_init 119 = .ok (.aload_n 0, 1) := by decide +kernel
theorem dX4_init_120 : decode cX4_init 120 = .ok (.bipush 12, 2) := by decide +kernel
theorem dX4_init_122 : decode cX4_init 122 = .ok (.newarray .int, 2) := by decide +kernel
theorem dX4_init_124 : decode cX4_init 124 = .ok (.putfield 46, 3) := by decide +kernel
theorem dX4_init_127 : decode cX4_init 127 = .ok (.aload_n 0, 1) := by decide +kernel
theorem dX4_init_128 : decode cX4_init 128 = .ok (.bipush 6, 2) := by decide +kernel
theorem dX4_init_130 : decode cX4_init 130 = .ok (.newarray .int, 2) := by decide +kernel
theorem dX4_init_132 : decode cX4_init 132 = .ok (.putfield 49, 3) := by decide +kernel
theorem dX4_init_135 : decode cX4_init 135 = .ok (.aload_n 0, 1) := by decide +kernel
theorem dX4_init_136 : decode cX4_init 136 = .ok (.bipush 6, 2) := by decide +kernel
theorem dX4_init_138 : decode cX4_init 138 = .ok (.newarray .int, 2) := by decide +kernel
theorem dX4_init_140 : decode cX4_init 140 = .ok (.putfield 52, 3) := by decide +kernel
theorem dX4_init_143 : decode cX4_init 143 = .ok (.aload_n 0, 1) := by decide +kernel
theorem dX4_init_144 : decode cX4_init 144 = .ok (.bipush 6, 2) := by decide +kernel
theorem dX4_init_146 : decode cX4_init 146 = .ok (.newarray .int, 2) := by decide +kernel
theorem dX4_init_148 : decode cX4_init 148 = .ok (.putfield 55, 3) := by decide +kernel
theorem dX4_init_151 : decode cX4_init 151 = .ok (.aload_n 0, 1) := by decide +kernel
theorem dX4_init_152 : decode cX4_init 152 = .ok (.bipush 6, 2) := by decide +kernel
theorem dX4_init_154 : decode cX4_init 154 = .ok (.newarray .int, 2) := by decide +kernel
theorem dX4_init_156 : decode cX4_init 156 = .ok (.putfield 58, 3) := by decide +kernel
theorem dX4_init_159 : decode cX4_init 159 = .ok (.aload_n 0, 1) := by decide +kernel
theorem dX4_init_160 : decode cX4_init 160 = .ok (.bipush 24, 2) := by decide +kernel
theorem dX4_init_162 : decode cX4_init 162 = .ok (.newarray .int, 2) := by decide +kernel
theorem dX4_init_164 : decode cX4_init 164 = .ok (.putfield 61, 3) := by decide +kernel
theorem dX4_init_167 : decode cX4_init 167 = .ok (.aload_n 0, 1) := by decide +kernel
theorem dX4_init_168 : decode cX4_init 168 = .ok (.bipush 6, 2) := by decide +kernel
theorem dX4_init_170 : decode cX4_init 170 = .ok (.newarray .int, 2) := by decide +kernel
theorem dX4_init_172 : decode cX4_init 172 = .ok (.putfield 64, 3) := by decide +kernel
theorem dX4_init_175 : decode cX4_init 175 = .ok (.aload_n 0, 1) := by decide +kernel
theorem dX4_init_176 : decode cX4_init 176 = .ok (.bipush 6, 2) := by decide +kernel
theorem dX4_init_178 : decode cX4_init 178 = .ok (.newarray .int, 2) := by decide +kernel
theorem dX4_init_180 : decode cX4_init 180 = .ok (.putfield 67, 3) := by decide +kernel
theorem dX4_init_183 : decode cX4_init 183 = .ok (.aload_n 0, 1) := by decide +kernel
theorem dX4_init_184 : decode cX4_init 184 = .ok (.bipush 8, 2) := by decide +kernel
theorem dX4_init_186 : decode cX4_init 186 = .ok (.newarray .int, 2) := by decide +kernel
theorem dX4_init_188 : decode cX4_init 188 = .ok (.putfield 70, 3) := by decide +kernel
theorem dX4_init_191 : decode cX4_init 191 = .ok (.aload_n 0, 1) := by decide +kernel
theorem dX4_init_192 : decode cX4_init 192 = .ok (.bipush 8, 2) := by decide +kernel
theorem dX4_init_194 : decode cX4_init 194 = .ok (.newarray .int, 2) := by decide +kernel
theorem dX4_init_196 : decode cX4_init 196 = .ok (.putfield 73, 3) := by decide +kernel
theorem dX4_init_199 : decode cX4_init 199 = .ok (.return_, 1) := by decide +kernel
theorem dX4_fails_0 : decode cX4_fails 0 = .ok (.aload_n 0, 1) := by decide +kernel
theorem dX4_fails_1 : decode cX4_fails 1 = .ok (.iload_n 1, 1) := by decide +kernel
theorem dX4_fails_2 : decode cX4_fails 2 = .ok (.putfield 76, 3) := by decide +kernel
theorem dX4_fails_5 : decode cX4_fails 5 = .ok (.bipush (-10), 2) := by decide +kernel
theorem dX4_fails_7 : decode cX4_fails 7 = .ok (.iload_n 1, 1) := by decide +kernel
theorem dX4_fails_8 : decode cX4_fails 8 = .ok (.isub, 1) := by decide +kernel
theorem dX4_fails_9 : decode cX4_fails 9 = .ok (.ireturn, 1) := by decide +kernel
theorem dX4_lost_0 : decode cX4_lost 0 = .ok (.aload_n 0, 1) := by decide +kernel
theorem dX4_lost_1 : decode cX4_lost 1 = .ok (.iload_n 1, 1) := by decide +kernel
theorem dX4_lost_2 : decode cX4_lost 2 = .ok (.putfield 76, 3) := by decide +kernel
theorem dX4_lost_5 : decode cX4_lost 5 = .ok (.ldc2_w 80, 3) := by decide +kernel
theorem dX4_lost_8 : decode cX4_lost 8 = .ok (.lreturn, 1) := by decide +kernel
theorem dX4_within_0 : decode cX4_within 0 = .ok (.iload_n 0, 1) := by decide +kernel
theorem dX4_within_1 : decode cX4_within 1 = .ok (.iload_n 1, 1) := by decide +kernel
theorem dX4_within_2 : decode cX4_within 2 = .ok (.if_icmp .lt 12, 3) := by decide +kernel
theorem dX4_within_5 : decode cX4_within 5 = .ok (.iload_n 0, 1) := by decide +kernel
theorem dX4_within_6 : decode cX4_within 6 = .ok (.iload_n 2, 1) := by decide +kernel
theorem dX4_within_7 : decode cX4_within 7 = .ok (.if_icmp .gt 7, 3) := by decide +kernel
theorem dX4_within_10 : decode cX4_within 10 = .ok (.iconst 1, 1) := by decide +kernel
theorem dX4_within_11 : decode cX4_within 11 = .ok (.goto 4, 3) := by decide +kernel
theorem dX4_within_14 : decode cX4_within 14 = .ok (.iconst 0, 1) := by decide +kernel
theorem dX4_within_15 : decode cX4_within 15 = .ok (.ireturn, 1) := by decide +kernel
theorem dX4_isSheet_0 : decode cX4_isSheet 0 = .ok (.iload_n 0, 1) := by decide +kernel
theorem dX4_isSheet_1 : decode cX4_isSheet 1 = .ok (.iconst 0, 1) := by decide +kernel
theorem dX4_isSheet_2 : decode cX4_isSheet 2 = .ok (.iconst 3, 1) := by decide +kernel
theorem dX4_isSheet_3 : decode cX4_isSheet 3 = .ok (.invokestatic 82, 3) := by decide +kernel
theorem dX4_isSheet_6 : decode cX4_isSheet 6 = .ok (.ireturn, 1) := by decide +kernel
theorem dX4_isSort_0 : decode cX4_isSort 0 = .ok (.iload_n 0, 1) := by decide +kernel
theorem dX4_isSort_1 : decode cX4_isSort 1 = .ok (.iconst 0, 1) := by decide +kernel
theorem dX4_isSort_2 : decode cX4_isSort 2 = .ok (.iconst 2, 1) := by decide +kernel
theorem dX4_isSort_3 : decode cX4_isSort 3 = .ok (.invokestatic 82, 3) := by decide +kernel
theorem dX4_isSort_6 : decode cX4_isSort 6 = .ok (.ireturn, 1) := by decide +kernel
theorem dX4_against_0 : decode cX4_against 0 = .ok (.aload_n 0, 1) := by decide +kernel
theorem dX4_against_1 : decode cX4_against 1 = .ok (.getfield 9, 3) := by decide +kernel
theorem dX4_against_4 : decode cX4_against 4 = .ok (.iload_n 1, 1) := by decide +kernel
theorem dX4_against_5 : decode cX4_against 5 = .ok (.iaload, 1) := by decide +kernel
theorem dX4_against_6 : decode cX4_against 6 = .ok (.bipush (-9), 2) := by decide +kernel
theorem dX4_against_8 : decode cX4_against 8 = .ok (.if_icmp .eq 15, 3) := by decide +kernel
theorem dX4_against_11 : decode cX4_against 11 = .ok (.aload_n 0, 1) := by decide +kernel
theorem dX4_against_12 : decode cX4_against 12 = .ok (.getfield 9, 3) := by decide +kernel
theorem dX4_against_15 : decode cX4_against 15 = .ok (.iload_n 1, 1) := by decide +kernel
theorem dX4_against_16 : decode cX4_against 16 = .ok (.iaload, 1) := by decide +kernel
theorem dX4_against_17 : decode cX4_against 17 = .ok (.iload_n 2, 1) := by decide +kernel
theorem dX4_against_18 : decode cX4_against 18 = .ok (.if_icmp .eq 5, 3) := by decide +kernel
theorem dX4_against_21 : decode cX4_against 21 = .ok (.iconst 2, 1) := by decide +kernel
theorem dX4_against_22 : decode cX4_against 22 = .ok (.ireturn, 1) := by decide +kernel
theorem dX4_against_23 : decode cX4_against 23 = .ok (.aload_n 0, 1) := by decide +kernel
theorem dX4_against_24 : decode cX4_against 24 = .ok (.getfield 9, 3) := by decide +kernel
theorem dX4_against_27 : decode cX4_against 27 = .ok (.iload_n 1, 1) := by decide +kernel
theorem dX4_against_28 : decode cX4_against 28 = .ok (.iaload, 1) := by decide +kernel
theorem dX4_against_29 : decode cX4_against 29 = .ok (.bipush (-9), 2) := by decide +kernel
theorem dX4_against_31 : decode cX4_against 31 = .ok (.if_icmp .ne 5, 3) := by decide +kernel
theorem dX4_against_34 : decode cX4_against 34 = .ok (.iconst 1, 1) := by decide +kernel
theorem dX4_against_35 : decode cX4_against 35 = .ok (.ireturn, 1) := by decide +kernel
theorem dX4_against_36 : decode cX4_against 36 = .ok (.iload 4, 2) := by decide +kernel
theorem dX4_against_38 : decode cX4_against 38 = .ok (.ifCond .ge 5, 3) := by decide +kernel
theorem dX4_against_41 : decode cX4_against 41 = .ok (.iconst 4, 1) := by decide +kernel
theorem dX4_against_42 : decode cX4_against 42 = .ok (.ireturn, 1) := by decide +kernel
theorem dX4_against_43 : decode cX4_against 43 = .ok (.iload_n 3, 1) := by decide +kernel
theorem dX4_against_44 : decode cX4_against 44 = .ok (.ifCond .lt 26, 3) := by decide +kernel
theorem dX4_against_47 : decode cX4_against 47 = .ok (.iload_n 3, 1) := by decide +kernel
theorem dX4_against_48 : decode cX4_against 48 = .ok (.aload_n 0, 1) := by decide +kernel
theorem dX4_against_49 : decode cX4_against 49 = .ok (.getfield 13, 3) := by decide +kernel
theorem dX4_against_52 : decode cX4_against 52 = .ok (.iload_n 1, 1) := by decide +kernel
theorem dX4_against_53 : decode cX4_against 53 = .ok (.iaload, 1) := by decide +kernel
theorem dX4_against_54 : decode cX4_against 54 = .ok (.if_icmp .gt 16, 3) := by decide +kernel
theorem dX4_against_57 : decode cX4_against 57 = .ok (.iload 4, 2) := by decide +kernel
theorem dX4_against_59 : decode cX4_against 59 = .ok (.aload_n 0, 1) := by decide +kernel
theorem dX4_against_60 : decode cX4_against 60 = .ok (.getfield 13, 3) := by decide +kernel
theorem dX4_against_63 : decode cX4_against 63 = .ok (.iload_n 1, 1) := by decide +kernel
theorem dX4_against_64 : decode cX4_against 64 = .ok (.iaload, 1) := by decide +kernel
theorem dX4_against_65 : decode cX4_against 65 = .ok (.iload_n 3, 1) := by decide +kernel
theorem dX4_against_66 : decode cX4_against 66 = .ok (.isub, 1) := by decide +kernel
theorem dX4_against_67 : decode cX4_against 67 = .ok (.if_icmp .le 7, 3) := by decide +kernel
theorem dX4_against_70 : decode cX4_against 70 = .ok (.iconst 3, 1) := by decide +kernel
theorem dX4_against_71 : decode cX4_against 71 = .ok (.goto 4, 3) := by decide +kernel
theorem dX4_against_74 : decode cX4_against 74 = .ok (.iconst 0, 1) := by decide +kernel
theorem dX4_against_75 : decode cX4_against 75 = .ok (.ireturn, 1) := by decide +kernel
theorem dX4_isArea_0 : decode cX4_isArea 0 = .ok (.iload_n 1, 1) := by decide +kernel
theorem dX4_isArea_1 : decode cX4_isArea 1 = .ok (.ifCond .lt 15, 3) := by decide +kernel
theorem dX4_isArea_4 : decode cX4_isArea 4 = .ok (.iload_n 1, 1) := by decide +kernel
theorem dX4_isArea_5 : decode cX4_isArea 5 = .ok (.aload_n 0, 1) := by decide +kernel
theorem dX4_isArea_6 : decode cX4_isArea 6 = .ok (.getfield 86, 3) := by decide +kernel
theorem dX4_isArea_9 : decode cX4_isArea 9 = .ok (.if_icmp .ge 7, 3) := by decide +kernel
theorem dX4_isArea_12 : decode cX4_isArea 12 = .ok (.iconst 1, 1) := by decide +kernel
theorem dX4_isArea_13 : decode cX4_isArea 13 = .ok (.goto 4, 3) := by decide +kernel
theorem dX4_isArea_16 : decode cX4_isArea 16 = .ok (.iconst 0, 1) := by decide +kernel
theorem dX4_isArea_17 : decode cX4_isArea 17 = .ok (.ireturn, 1) := by decide +kernel
theorem dX4_size_0 : decode cX4_size 0 = .ok (.iconst 0, 1) := by decide +kernel
theorem dX4_size_1 : decode cX4_size 1 = .ok (.istore_n 1, 1) := by decide +kernel
theorem dX4_size_2 : decode cX4_size 2 = .ok (.iload_n 0, 1) := by decide +kernel
theorem dX4_size_3 : decode cX4_size 3 = .ok (.istore_n 2, 1) := by decide +kernel
theorem dX4_size_4 : decode cX4_size 4 = .ok (.iload_n 2, 1) := by decide +kernel
theorem dX4_size_5 : decode cX4_size 5 = .ok (.ifCond .le 16, 3) := by decide +kernel
theorem dX4_size_8 : decode cX4_size 8 = .ok (.iload_n 1, 1) := by decide +kernel
theorem dX4_size_9 : decode cX4_size 9 = .ok (.iload_n 2, 1) := by decide +kernel
theorem dX4_size_10 : decode cX4_size 10 = .ok (.iconst 1, 1) := by decide +kernel
theorem dX4_size_11 : decode cX4_size 11 = .ok (.iand, 1) := by decide +kernel
theorem dX4_size_12 : decode cX4_size 12 = .ok (.iadd, 1) := by decide +kernel
theorem dX4_size_13 : decode cX4_size 13 = .ok (.istore_n 1, 1) := by decide +kernel
theorem dX4_size_14 : decode cX4_size 14 = .ok (.iload_n 2, 1) := by decide +kernel
theorem dX4_size_15 : decode cX4_size 15 = .ok (.iconst 1, 1) := by decide +kernel
theorem dX4_size_16 : decode cX4_size 16 = .ok (.ishr, 1) := by decide +kernel
theorem dX4_size_17 : decode cX4_size 17 = .ok (.istore_n 2, 1) := by decide +kernel
theorem dX4_size_18 : decode cX4_size 18 = .ok (.goto (-14), 3) := by decide +kernel
theorem dX4_size_21 : decode cX4_size 21 = .ok (.iload_n 1, 1) := by decide +kernel
theorem dX4_size_22 : decode cX4_size 22 = .ok (.ireturn, 1) := by decide +kernel
theorem dX4_digit_0 : decode cX4_digit 0 = .ok (.aload_n 0, 1) := by decide +kernel
theorem dX4_digit_1 : decode cX4_digit 1 = .ok (.getfield 89, 3) := by decide +kernel
theorem dX4_digit_4 : decode cX4_digit 4 = .ok (.iload_n 1, 1) := by decide +kernel
theorem dX4_digit_5 : decode cX4_digit 5 = .ok (.if_icmp .ge 26, 3) := by decide +kernel
theorem dX4_digit_8 : decode cX4_digit 8 = .ok (.aload_n 0, 1) := by decide +kernel
theorem dX4_digit_9 : decode cX4_digit 9 = .ok (.getfield 16, 3) := by decide +kernel
theorem dX4_digit_12 : decode cX4_digit 12 = .ok (.aload_n 0, 1) := by decide +kernel
theorem dX4_digit_13 : decode cX4_digit 13 = .ok (.getfield 89, 3) := by decide +kernel
theorem dX4_digit_16 : decode cX4_digit 16 = .ok (.iaload, 1) := by decide +kernel
theorem dX4_digit_17 : decode cX4_digit 17 = .ok (.bipush 48, 2) := by decide +kernel
theorem dX4_digit_19 : decode cX4_digit 19 = .ok (.iload_n 2, 1) := by decide +kernel
theorem dX4_digit_20 : decode cX4_digit 20 = .ok (.iadd, 1) := by decide +kernel
theorem dX4_digit_21 : decode cX4_digit 21 = .ok (.bipush 48, 2) := by decide +kernel
theorem dX4_digit_23 : decode cX4_digit 23 = .ok (.iload_n 3, 1) := by decide +kernel
theorem dX4_digit_24 : decode cX4_digit 24 = .ok (.iadd, 1) := by decide +kernel
theorem dX4_digit_25 : decode cX4_digit 25 = .ok (.invokestatic 82, 3) := by decide +kernel
theorem dX4_digit_28 : decode cX4_digit 28 = .ok (.ifCond .ne 6, 3) := by decide +kernel
theorem dX4_digit_31 : decode cX4_digit 31 = .ok (.bipush (-9), 2) := by decide +kernel
theorem dX4_digit_33 : decode cX4_digit 33 = .ok (.ireturn, 1) := by decide +kernel
theorem dX4_digit_34 : decode cX4_digit 34 = .ok (.aload_n 0, 1) := by decide +kernel
theorem dX4_digit_35 : decode cX4_digit 35 = .ok (.dup, 1) := by decide +kernel
theorem dX4_digit_36 : decode cX4_digit 36 = .ok (.getfield 89, 3) := by decide +kernel
theorem dX4_digit_39 : decode cX4_digit 39 = .ok (.iconst 1, 1) := by decide +kernel
theorem dX4_digit_40 : decode cX4_digit 40 = .ok (.iadd, 1) := by decide +kernel
theorem dX4_digit_41 : decode cX4_digit 41 = .ok (.putfield 89, 3) := by decide +kernel
theorem dX4_digit_44 : decode cX4_digit 44 = .ok (.aload_n 0, 1) := by decide +kernel
theorem dX4_digit_45 : decode cX4_digit 45 = .ok (.getfield 16, 3) := by decide +kernel
theorem dX4_digit_48 : decode cX4_digit 48 = .ok (.aload_n 0, 1) := by decide +kernel
theorem dX4_digit_49 : decode cX4_digit 49 = .ok (.getfield 89, 3) := by decide +kernel
theorem dX4_digit_52 : decode cX4_digit 52 = .ok (.iconst 1, 1) := by decide +kernel
theorem dX4_digit_53 : decode cX4_digit 53 = .ok (.isub, 1) := by decide +kernel
theorem dX4_digit_54 : decode cX4_digit 54 = .ok (.iaload, 1) := by decide +kernel
theorem dX4_digit_55 : decode cX4_digit 55 = .ok (.bipush 48, 2) := by decide +kernel
theorem dX4_digit_57 : decode cX4_digit 57 = .ok (.isub, 1) := by decide +kernel
theorem dX4_digit_58 : decode cX4_digit 58 = .ok (.ireturn, 1) := by decide +kernel
theorem dX4_isSign_0 : decode cX4_isSign 0 = .ok (.aload_n 0, 1) := by decide +kernel
theorem dX4_isSign_1 : decode cX4_isSign 1 = .ok (.getfield 89, 3) := by decide +kernel
theorem dX4_isSign_4 : decode cX4_isSign 4 = .ok (.iload_n 1, 1) := by decide +kernel
theorem dX4_isSign_5 : decode cX4_isSign 5 = .ok (.if_icmp .ge 16, 3) := by decide +kernel
theorem dX4_isSign_8 : decode cX4_isSign 8 = .ok (.aload_n 0, 1) := by decide +kernel
theorem dX4_isSign_9 : decode cX4_isSign 9 = .ok (.getfield 16, 3) := by decide +kernel
theorem dX4_isSign_12 : decode cX4_isSign 12 = .ok (.aload_n 0, 1) := by decide +kernel
theorem dX4_isSign_13 : decode cX4_isSign 13 = .ok (.getfield 89, 3) := by decide +kernel
theorem dX4_isSign_16 : decode cX4_isSign 16 = .ok (.iaload, 1) := by decide +kernel
theorem dX4_isSign_17 : decode cX4_isSign 17 = .ok (.iload_n 2, 1) := by decide +kernel
theorem dX4_isSign_18 : decode cX4_isSign 18 = .ok (.if_icmp .eq 5, 3) := by decide +kernel
theorem dX4_isSign_21 : decode cX4_isSign 21 = .ok (.iconst 0, 1) := by decide +kernel
theorem dX4_isSign_22 : decode cX4_isSign 22 = .ok (.ireturn, 1) := by decide +kernel
theorem dX4_isSign_23 : decode cX4_isSign 23 = .ok (.aload_n 0, 1) := by decide +kernel
theorem dX4_isSign_24 : decode cX4_isSign 24 = .ok (.dup, 1) := by decide +kernel
theorem dX4_isSign_25 : decode cX4_isSign 25 = .ok (.getfield 89, 3) := by decide +kernel
theorem dX4_isSign_28 : decode cX4_isSign 28 = .ok (.iconst 1, 1) := by decide +kernel
theorem dX4_isSign_29 : decode cX4_isSign 29 = .ok (.iadd, 1) := by decide +kernel
theorem dX4_isSign_30 : decode cX4_isSign 30 = .ok (.putfield 89, 3) := by decide +kernel
theorem dX4_isSign_33 : decode cX4_isSign 33 = .ok (.iconst 1, 1) := by decide +kernel
theorem dX4_isSign_34 : decode cX4_isSign 34 = .ok (.ireturn, 1) := by decide +kernel
theorem dX4_map_0 : decode cX4_map 0 = .ok (.aload_n 0, 1) := by decide +kernel
theorem dX4_map_1 : decode cX4_map 1 = .ok (.iconst 0, 1) := by decide +kernel
theorem dX4_map_2 : decode cX4_map 2 = .ok (.putfield 76, 3) := by decide +kernel
theorem dX4_map_5 : decode cX4_map 5 = .ok (.iload_n 1, 1) := by decide +kernel
theorem dX4_map_6 : decode cX4_map 6 = .ok (.invokestatic 92, 3) := by decide +kernel
theorem dX4_map_9 : decode cX4_map 9 = .ok (.ifCond .ne 5, 3) := by decide +kernel
theorem dX4_map_12 : decode cX4_map 12 = .ok (.iconst (-1), 1) := by decide +kernel
theorem dX4_map_13 : decode cX4_map 13 = .ok (.ireturn, 1) := by decide +kernel
theorem dX4_map_14 : decode cX4_map 14 = .ok (.iload_n 2, 1) := by decide +kernel
theorem dX4_map_15 : decode cX4_map 15 = .ok (.invokestatic 96, 3) := by decide +kernel
theorem dX4_map_18 : decode cX4_map 18 = .ok (.ifCond .ne 6, 3) := by decide +kernel
theorem dX4_map_21 : decode cX4_map 21 = .ok (.bipush (-2), 2) := by decide +kernel
theorem dX4_map_23 : decode cX4_map 23 = .ok (.ireturn, 1) := by decide +kernel
theorem dX4_map_24 : decode cX4_map 24 = .ok (.aload_n 0, 1) := by decide +kernel
theorem dX4_map_25 : decode cX4_map 25 = .ok (.iload_n 1, 1) := by decide +kernel
theorem dX4_map_26 : decode cX4_map 26 = .ok (.iload_n 2, 1) := by decide +kernel
theorem dX4_map_27 : decode cX4_map 27 = .ok (.iload_n 3, 1) := by decide +kernel
theorem dX4_map_28 : decode cX4_map 28 = .ok (.iload 4, 2) := by decide +kernel
theorem dX4_map_30 : decode cX4_map 30 = .ok (.invokevirtual 99, 3) := by decide +kernel
theorem dX4_map_33 : decode cX4_map 33 = .ok (.istore 5, 2) := by decide +kernel
theorem dX4_map_35 : decode cX4_map 35 = .ok (.iload 5, 2) := by decide +kernel
theorem dX4_map_37 : decode cX4_map 37 = .ok (.ifCond .eq 10, 3) := by decide +kernel
theorem dX4_map_40 : decode cX4_map 40 = .ok (.aload_n 0, 1) := by decide +kernel
theorem dX4_map_41 : decode cX4_map 41 = .ok (.iload 5, 2) := by decide +kernel
theorem dX4_map_43 : decode cX4_map 43 = .ok (.invokevirtual 103, 3) := by decide +kernel
theorem dX4_map_46 : decode cX4_map 46 = .ok (.ireturn, 1) := by decide +kernel
theorem dX4_map_47 : decode cX4_map 47 = .ok (.bipush 60, 2) := by decide +kernel
theorem dX4_map_49 : decode cX4_map 49 = .ok (.iload_n 1, 1) := by decide +kernel
theorem dX4_map_50 : decode cX4_map 50 = .ok (.imul, 1) := by decide +kernel
theorem dX4_map_51 : decode cX4_map 51 = .ok (.iload_n 3, 1) := by decide +kernel
theorem dX4_map_52 : decode cX4_map 52 = .ok (.iadd, 1) := by decide +kernel
theorem dX4_map_53 : decode cX4_map 53 = .ok (.istore 6, 2) := by decide +kernel
theorem dX4_map_55 : decode cX4_map 55 = .ok (.aload_n 0, 1) := by decide +kernel
theorem dX4_map_56 : decode cX4_map 56 = .ok (.iload 6, 2) := by decide +kernel
theorem dX4_map_58 : decode cX4_map 58 = .ok (.putfield 89, 3) := by decide +kernel
theorem dX4_map_61 : decode cX4_map 61 = .ok (.aload_n 0, 1) := by decide +kernel
theorem dX4_map_62 : decode cX4_map 62 = .ok (.iload 6, 2) := by decide +kernel
theorem dX4_map_64 : decode cX4_map 64 = .ok (.iload 4, 2) := by decide +kernel
theorem dX4_map_66 : decode cX4_map 66 = .ok (.iadd, 1) := by decide +kernel
theorem dX4_map_67 : decode cX4_map 67 = .ok (.invokevirtual 107, 3) := by decide +kernel
theorem dX4_map_70 : decode cX4_map 70 = .ok (.ifCond .ne 14, 3) := by decide +kernel
theorem dX4_map_73 : decode cX4_map 73 = .ok (.bipush (-100), 2) := by decide +kernel
theorem dX4_map_75 : decode cX4_map 75 = .ok (.aload_n 0, 1) := by decide +kernel
theorem dX4_map_76 : decode cX4_map 76 = .ok (.getfield 89, 3) := by decide +kernel
theorem dX4_map_79 : decode cX4_map 79 = .ok (.iload 6, 2) := by decide +kernel
theorem dX4_map_81 : decode cX4_map 81 = .ok (.isub, 1) := by decide +kernel
theorem dX4_map_82 : decode cX4_map 82 = .ok (.isub, 1) := by decide +kernel
theorem dX4_map_83 : decode cX4_map 83 = .ok (.ireturn, 1) := by decide +kernel
theorem dX4_map_84 : decode cX4_map 84 = .ok (.aload_n 0, 1) := by decide +kernel
theorem dX4_map_85 : decode cX4_map 85 = .ok (.aload_n 0, 1) := by decide +kernel
theorem dX4_map_86 : decode cX4_map 86 = .ok (.getfield 110, 3) := by decide +kernel
theorem dX4_map_89 : decode cX4_map 89 = .ok (.putfield 86, 3) := by decide +kernel
theorem dX4_map_92 : decode cX4_map 92 = .ok (.iconst 0, 1) := by decide +kernel
theorem dX4_map_93 : decode cX4_map 93 = .ok (.istore 7, 2) := by decide +kernel
theorem dX4_map_95 : decode cX4_map 95 = .ok (.iload 7, 2) := by decide +kernel
theorem dX4_map_97 : decode cX4_map 97 = .ok (.aload_n 0, 1) := by decide +kernel
theorem dX4_map_98 : decode cX4_map 98 = .ok (.getfield 86, 3) := by decide +kernel
theorem dX4_map_101 : decode cX4_map 101 = .ok (.if_icmp .ge 99, 3) := by decide +kernel
theorem dX4_map_104 : decode cX4_map 104 = .ok (.aload_n 0, 1) := by decide +kernel
theorem dX4_map_105 : decode cX4_map 105 = .ok (.getfield 19, 3) := by decide +kernel
theorem dX4_map_108 : decode cX4_map 108 = .ok (.iload 7, 2) := by decide +kernel
theorem dX4_map_110 : decode cX4_map 110 = .ok (.aload_n 0, 1) := by decide +kernel
theorem dX4_map_111 : decode cX4_map 111 = .ok (.getfield 34, 3) := by decide +kernel
theorem dX4_map_114 : decode cX4_map 114 = .ok (.iload 7, 2) := by decide +kernel
theorem dX4_map_116 : decode cX4_map 116 = .ok (.iaload, 1) := by decide +kernel
theorem dX4_map_117 : decode cX4_map 117 = .ok (.iastore, 1) := by decide +kernel
theorem dX4_map_118 : decode cX4_map 118 = .ok (.aload_n 0, 1) := by decide +kernel
theorem dX4_map_119 : decode cX4_map 119 = .ok (.getfield 22, 3) := by decide +kernel
theorem dX4_map_122 : decode cX4_map 122 = .ok (.iload 7, 2) := by decide +kernel
theorem dX4_map_124 : decode cX4_map 124 = .ok (.aload_n 0, 1) := by decide +kernel
theorem dX4_map_125 : decode cX4_map 125 = .ok (.getfield 37, 3) := by decide +kernel
theorem dX4_map_128 : decode cX4_map 128 = .ok (.iload 7, 2) := by decide +kernel
theorem dX4_map_130 : decode cX4_map 130 = .ok (.iaload, 1) := by decide +kernel
theorem dX4_map_131 : decode cX4_map 131 = .ok (.iastore, 1) := by decide +kernel
theorem dX4_map_132 : decode cX4_map 132 = .ok (.aload_n 0, 1) := by decide +kernel
theorem dX4_map_133 : decode cX4_map 133 = .ok (.getfield 25, 3) := by decide +kernel
theorem dX4_map_136 : decode cX4_map 136 = .ok (.iload 7, 2) := by decide +kernel
theorem dX4_map_138 : decode cX4_map 138 = .ok (.aload_n 0, 1) := by decide +kernel
theorem dX4_map_139 : decode cX4_map 139 = .ok (.getfield 40, 3) := by decide +kernel
theorem dX4_map_142 : decode cX4_map 142 = .ok (.iload 7, 2) := by decide +kernel
theorem dX4_map_144 : decode cX4_map 144 = .ok (.iaload, 1) := by decide +kernel
theorem dX4_map_145 : decode cX4_map 145 = .ok (.iastore, 1) := by decide +kernel
theorem dX4_map_146 : decode cX4_map 146 = .ok (.aload_n 0, 1) := by decide +kernel
theorem dX4_map_147 : decode cX4_map 147 = .ok (.getfield 28, 3) := by decide +kernel
theorem dX4_map_150 : decode cX4_map 150 = .ok (.iload 7, 2) := by decide +kernel
theorem dX4_map_152 : decode cX4_map 152 = .ok (.aload_n 0, 1) := by decide +kernel
theorem dX4_map_153 : decode cX4_map 153 = .ok (.getfield 43, 3) := by decide +kernel
theorem dX4_map_156 : decode cX4_map 156 = .ok (.iload 7, 2) := by decide +kernel
theorem dX4_map_158 : decode cX4_map 158 = .ok (.iaload, 1) := by decide +kernel
theorem dX4_map_159 : decode cX4_map 159 = .ok (.iastore, 1) := by decide +kernel
theorem dX4_map_160 : decode cX4_map 160 = .ok (.aload_n 0, 1) := by decide +kernel
theorem dX4_map_161 : decode cX4_map 161 = .ok (.getfield 31, 3) := by decide +kernel
theorem dX4_map_164 : decode cX4_map 164 = .ok (.iload 7, 2) := by decide +kernel
theorem dX4_map_166 : decode cX4_map 166 = .ok (.aload_n 0, 1) := by decide +kernel
theorem dX4_map_167 : decode cX4_map 167 = .ok (.getfield 46, 3) := by decide +kernel
theorem dX4_map_170 : decode cX4_map 170 = .ok (.iload 7, 2) := by decide +kernel
theorem dX4_map_172 : decode cX4_map 172 = .ok (.iaload, 1) := by decide +kernel
theorem dX4_map_173 : decode cX4_map 173 = .ok (.iastore, 1) := by decide +kernel
theorem dX4_map_174 : decode cX4_map 174 = .ok (.aload_n 0, 1) := by decide +kernel
theorem dX4_map_175 : decode cX4_map 175 = .ok (.getfield 31, 3) := by decide +kernel
theorem dX4_map_178 : decode cX4_map 178 = .ok (.bipush 6, 2) := by decide +kernel
theorem dX4_map_180 : decode cX4_map 180 = .ok (.iload 7, 2) := by decide +kernel
theorem dX4_map_182 : decode cX4_map 182 = .ok (.iadd, 1) := by decide +kernel
theorem dX4_map_183 : decode cX4_map 183 = .ok (.aload_n 0, 1) := by decide +kernel
theorem dX4_map_184 : decode cX4_map 184 = .ok (.getfield 46, 3) := by decide +kernel
theorem dX4_map_187 : decode cX4_map 187 = .ok (.bipush 6, 2) := by decide +kernel
theorem dX4_map_189 : decode cX4_map 189 = .ok (.iload 7, 2) := by decide +kernel
theorem dX4_map_191 : decode cX4_map 191 = .ok (.iadd, 1) := by decide +kernel
theorem dX4_map_192 : decode cX4_map 192 = .ok (.iaload, 1) := by decide +kernel
theorem dX4_map_193 : decode cX4_map 193 = .ok (.iastore, 1) := by decide +kernel
theorem dX4_map_194 : decode cX4_map 194 = .ok (.iinc 7 1, 3) := by decide +kernel
theorem dX4_map_197 : decode cX4_map 197 = .ok (.goto (-102), 3) := by decide +kernel
theorem dX4_map_200 : decode cX4_map 200 = .ok (.aload_n 0, 1) := by decide +kernel
theorem dX4_map_201 : decode cX4_map 201 = .ok (.iconst 0, 1) := by decide +kernel
theorem dX4_map_202 : decode cX4_map 202 = .ok (.putfield 113, 3) := by decide +kernel
theorem dX4_map_205 : decode cX4_map 205 = .ok (.aload_n 0, 1) := by decide +kernel
theorem dX4_map_206 : decode cX4_map 206 = .ok (.getfield 86, 3) := by decide +kernel
theorem dX4_map_209 : decode cX4_map 209 = .ok (.ireturn, 1) := by decide +kernel
theorem dX4_readAll_0 : decode cX4_readAll 0 = .ok (.aload_n 0, 1) := by decide +kernel
theorem dX4_readAll_1 : decode cX4_readAll 1 = .ok (.iconst 0, 1) := by decide +kernel
theorem dX4_readAll_2 : decode cX4_readAll 2 = .ok (.putfield 110, 3) := by decide +kernel
theorem dX4_readAll_5 : decode cX4_readAll 5 = .ok (.aload_n 0, 1) := by decide +kernel
theorem dX4_readAll_6 : decode cX4_readAll 6 = .ok (.iload_n 1, 1) := by decide +kernel
theorem dX4_readAll_7 : decode cX4_readAll 7 = .ok (.bipush 109, 2) := by decide +kernel
theorem dX4_readAll_9 : decode cX4_readAll 9 = .ok (.invokevirtual 116, 3) := by decide +kernel
theorem dX4_readAll_12 : decode cX4_readAll 12 = .ok (.ifCond .ne 5, 3) := by decide +kernel
theorem dX4_readAll_15 : decode cX4_readAll 15 = .ok (.iconst 0, 1) := by decide +kernel
theorem dX4_readAll_16 : decode cX4_readAll 16 = .ok (.ireturn, 1) := by decide +kernel
theorem dX4_readAll_17 : decode cX4_readAll 17 = .ok (.aload_n 0, 1) := by decide +kernel
theorem dX4_readAll_18 : decode cX4_readAll 18 = .ok (.getfield 110, 3) := by decide +kernel
theorem dX4_readAll_21 : decode cX4_readAll 21 = .ok (.ifCond .eq 34, 3) := by decide +kernel
theorem dX4_readAll_24 : decode cX4_readAll 24 = .ok (.aload_n 0, 1) := by decide +kernel
theorem dX4_readAll_25 : decode cX4_readAll 25 = .ok (.getfield 110, 3) := by decide +kernel
theorem dX4_readAll_28 : decode cX4_readAll 28 = .ok (.bipush 6, 2) := by decide +kernel
theorem dX4_readAll_30 : decode cX4_readAll 30 = .ok (.if_icmp .ge 45, 3) := by decide +kernel
theorem dX4_readAll_33 : decode cX4_readAll 33 = .ok (.aload_n 0, 1) := by decide +kernel
theorem dX4_readAll_34 : decode cX4_readAll 34 = .ok (.getfield 89, 3) := by decide +kernel
theorem dX4_readAll_37 : decode cX4_readAll 37 = .ok (.iload_n 1, 1) := by decide +kernel
theorem dX4_readAll_38 : decode cX4_readAll 38 = .ok (.if_icmp .ge 37, 3) := by decide +kernel
theorem dX4_readAll_41 : decode cX4_readAll 41 = .ok (.aload_n 0, 1) := by decide +kernel
theorem dX4_readAll_42 : decode cX4_readAll 42 = .ok (.getfield 16, 3) := by decide +kernel
theorem dX4_readAll_45 : decode cX4_readAll 45 = .ok (.aload_n 0, 1) := by decide +kernel
theorem dX4_readAll_46 : decode cX4_readAll 46 = .ok (.getfield 89, 3) := by decide +kernel
theorem dX4_readAll_49 : decode cX4_readAll 49 = .ok (.iaload, 1) := by decide +kernel
theorem dX4_readAll_50 : decode cX4_readAll 50 = .ok (.bipush 59, 2) := by decide +kernel
theorem dX4_readAll_52 : decode cX4_readAll 52 = .ok (.if_icmp .ne 23, 3) := by decide +kernel
theorem dX4_readAll_55 : decode cX4_readAll 55 = .ok (.aload_n 0, 1) := by decide +kernel
theorem dX4_readAll_56 : decode cX4_readAll 56 = .ok (.iload_n 1, 1) := by decide +kernel
theorem dX4_readAll_57 : decode cX4_readAll 57 = .ok (.bipush 59, 2) := by decide +kernel
theorem dX4_readAll_59 : decode cX4_readAll 59 = .ok (.invokevirtual 116, 3) := by decide +kernel
theorem dX4_readAll_62 : decode cX4_readAll 62 = .ok (.ifCond .eq 11, 3) := by decide +kernel
theorem dX4_readAll_65 : decode cX4_readAll 65 = .ok (.aload_n 0, 1) := by decide +kernel
theorem dX4_readAll_66 : decode cX4_readAll 66 = .ok (.iload_n 1, 1) := by decide +kernel
theorem dX4_readAll_67 : decode cX4_readAll 67 = .ok (.invokevirtual 120, 3) := by decide +kernel
theorem dX4_readAll_70 : decode cX4_readAll 70 = .ok (.ifCond .ne (-53), 3) := by decide +kernel
theorem dX4_readAll_73 : decode cX4_readAll 73 = .ok (.iconst 0, 1) := by decide +kernel
theorem dX4_readAll_74 : decode cX4_readAll 74 = .ok (.ireturn, 1) := by decide +kernel
theorem dX4_readAll_75 : decode cX4_readAll 75 = .ok (.aload_n 0, 1) := by decide +kernel
theorem dX4_readAll_76 : decode cX4_readAll 76 = .ok (.iload_n 1, 1) := by decide +kernel
theorem dX4_readAll_77 : decode cX4_readAll 77 = .ok (.iconst 0, 1) := by decide +kernel
theorem dX4_readAll_78 : decode cX4_readAll 78 = .ok (.invokevirtual 122, 3) := by decide +kernel
theorem dX4_readAll_81 : decode cX4_readAll 81 = .ok (.ifCond .eq 25, 3) := by decide +kernel
theorem dX4_readAll_84 : decode cX4_readAll 84 = .ok (.aload_n 0, 1) := by decide +kernel
theorem dX4_readAll_85 : decode cX4_readAll 85 = .ok (.iload_n 1, 1) := by decide +kernel
theorem dX4_readAll_86 : decode cX4_readAll 86 = .ok (.bipush 6, 2) := by decide +kernel
theorem dX4_readAll_88 : decode cX4_readAll 88 = .ok (.invokevirtual 122, 3) := by decide +kernel
theorem dX4_readAll_91 : decode cX4_readAll 91 = .ok (.ifCond .eq 15, 3) := by decide +kernel
theorem dX4_readAll_94 : decode cX4_readAll 94 = .ok (.aload_n 0, 1) := by decide +kernel
theorem dX4_readAll_95 : decode cX4_readAll 95 = .ok (.getfield 89, 3) := by decide +kernel
theorem dX4_readAll_98 : decode cX4_readAll 98 = .ok (.iload_n 1, 1) := by decide +kernel
theorem dX4_readAll_99 : decode cX4_readAll 99 = .ok (.if_icmp .ne 7, 3) := by decide +kernel
theorem dX4_readAll_102 : decode cX4_readAll 102 = .ok (.iconst 1, 1) := by decide +kernel
theorem dX4_readAll_103 : decode cX4_readAll 103 = .ok (.goto 4, 3) := by decide +kernel
theorem dX4_readAll_106 : decode cX4_readAll 106 = .ok (.iconst 0, 1) := by decide +kernel
theorem dX4_readAll_107 : decode cX4_readAll 107 = .ok (.ireturn, 1) := by decide +kernel
theorem dX4_readArea_0 : decode cX4_readArea 0 = .ok (.aload_n 0, 1) := by decide +kernel
theorem dX4_readArea_1 : decode cX4_readArea 1 = .ok (.getfield 89, 3) := by decide +kernel
theorem dX4_readArea_4 : decode cX4_readArea 4 = .ok (.iload_n 1, 1) := by decide +kernel
theorem dX4_readArea_5 : decode cX4_readArea 5 = .ok (.if_icmp .ge 15, 3) := by decide +kernel
theorem dX4_readArea_8 : decode cX4_readArea 8 = .ok (.aload_n 0, 1) := by decide +kernel
theorem dX4_readArea_9 : decode cX4_readArea 9 = .ok (.getfield 16, 3) := by decide +kernel
theorem dX4_readArea_12 : decode cX4_readArea 12 = .ok (.aload_n 0, 1) := by decide +kernel
theorem dX4_readArea_13 : decode cX4_readArea 13 = .ok (.getfield 89, 3) := by decide +kernel
theorem dX4_readArea_16 : decode cX4_readArea 16 = .ok (.iaload, 1) := by decide +kernel
theorem dX4_readArea_17 : decode cX4_readArea 17 = .ok (.goto 4, 3) := by decide +kernel
theorem dX4_readArea_20 : decode cX4_readArea 20 = .ok (.iconst 0, 1) := by decide +kernel
theorem dX4_readArea_21 : decode cX4_readArea 21 = .ok (.istore_n 2, 1) := by decide +kernel
theorem dX4_readArea_22 : decode cX4_readArea 22 = .ok (.aload_n 0, 1) := by decide +kernel
theorem dX4_readArea_23 : decode cX4_readArea 23 = .ok (.getfield 34, 3) := by decide +kernel
theorem dX4_readArea_26 : decode cX4_readArea 26 = .ok (.aload_n 0, 1) := by decide +kernel
theorem dX4_readArea_27 : decode cX4_readArea 27 = .ok (.getfield 110, 3) := by decide +kernel
theorem dX4_readArea_30 : decode cX4_readArea 30 = .ok (.iload_n 2, 1) := by decide +kernel
theorem dX4_readArea_31 : decode cX4_readArea 31 = .ok (.bipush 112, 2) := by decide +kernel
theorem dX4_readArea_33 : decode cX4_readArea 33 = .ok (.if_icmp .ne 7, 3) := by decide +kernel
theorem dX4_readArea_36 : decode cX4_readArea 36 = .ok (.iconst 0, 1) := by decide +kernel
theorem dX4_readArea_37 : decode cX4_readArea 37 = .ok (.goto 25, 3) := by decide +kernel
theorem dX4_readArea_40 : decode cX4_readArea 40 = .ok (.iload_n 2, 1) := by decide +kernel
theorem dX4_readArea_41 : decode cX4_readArea 41 = .ok (.bipush 98, 2) := by decide +kernel
theorem dX4_readArea_43 : decode cX4_readArea 43 = .ok (.if_icmp .ne 7, 3) := by decide +kernel
theorem dX4_readArea_46 : decode cX4_readArea 46 = .ok (.iconst 1, 1) := by decide +kernel
theorem dX4_readArea_47 : decode cX4_readArea 47 = .ok (.goto 15, 3) := by decide +kernel
theorem dX4_readArea_50 : decode cX4_readArea 50 = .ok (.iload_n 2, 1) := by decide +kernel
theorem dX4_readArea_51 : decode cX4_readArea 51 = .ok (.bipush 100, 2) := by decide +kernel
theorem dX4_readArea_53 : decode cX4_readArea 53 = .ok (.if_icmp .ne 7, 3) := by decide +kernel
theorem dX4_readArea_56 : decode cX4_readArea 56 = .ok (.iconst 2, 1) := by decide +kernel
theorem dX4_readArea_57 : decode cX4_readArea 57 = .ok (.goto 5, 3) := by decide +kernel
theorem dX4_readArea_60 : decode cX4_readArea 60 = .ok (.bipush (-9), 2) := by decide +kernel
theorem dX4_readArea_62 : decode cX4_readArea 62 = .ok (.iastore, 1) := by decide +kernel
theorem dX4_readArea_63 : decode cX4_readArea 63 = .ok (.aload_n 0, 1) := by decide +kernel
theorem dX4_readArea_64 : decode cX4_readArea 64 = .ok (.getfield 34, 3) := by decide +kernel
theorem dX4_readArea_67 : decode cX4_readArea 67 = .ok (.aload_n 0, 1) := by decide +kernel
theorem dX4_readArea_68 : decode cX4_readArea 68 = .ok (.getfield 110, 3) := by decide +kernel
theorem dX4_readArea_71 : decode cX4_readArea 71 = .ok (.iaload, 1) := by decide +kernel
theorem dX4_readArea_72 : decode cX4_readArea 72 = .ok (.bipush (-9), 2) := by decide +kernel
theorem dX4_readArea_74 : decode cX4_readArea 74 = .ok (.if_icmp .ne 5, 3) := by decide +kernel
theorem dX4_readArea_77 : decode cX4_readArea 77 = .ok (.iconst 0, 1) := by decide +kernel
theorem dX4_readArea_78 : decode cX4_readArea 78 = .ok (.ireturn, 1) := by decide +kernel
theorem dX4_readArea_79 : decode cX4_readArea 79 = .ok (.aload_n 0, 1) := by decide +kernel
theorem dX4_readArea_80 : decode cX4_readArea 80 = .ok (.dup, 1) := by decide +kernel
theorem dX4_readArea_81 : decode cX4_readArea 81 = .ok (.getfield 89, 3) := by decide +kernel
theorem dX4_readArea_84 : decode cX4_readArea 84 = .ok (.iconst 1, 1) := by decide +kernel
theorem dX4_readArea_85 : decode cX4_readArea 85 = .ok (.iadd, 1) := by decide +kernel
theorem dX4_readArea_86 : decode cX4_readArea 86 = .ok (.putfield 89, 3) := by decide +kernel
theorem dX4_readArea_89 : decode cX4_readArea 89 = .ok (.aload_n 0, 1) := by decide +kernel
theorem dX4_readArea_90 : decode cX4_readArea 90 = .ok (.getfield 37, 3) := by decide +kernel
theorem dX4_readArea_93 : decode cX4_readArea 93 = .ok (.aload_n 0, 1) := by decide +kernel
theorem dX4_readArea_94 : decode cX4_readArea 94 = .ok (.getfield 110, 3) := by decide +kernel
theorem dX4_readArea_97 : decode cX4_readArea 97 = .ok (.aload_n 0, 1) := by decide +kernel
theorem dX4_readArea_98 : decode cX4_readArea 98 = .ok (.iload_n 1, 1) := by decide +kernel
theorem dX4_readArea_99 : decode cX4_readArea 99 = .ok (.iconst 1, 1) := by decide +kernel
theorem dX4_readArea_100 : decode cX4_readArea 100 = .ok (.bipush 9, 2) := by decide +kernel
theorem dX4_readArea_102 : decode cX4_readArea 102 = .ok (.invokevirtual 125, 3) := by decide +kernel
theorem dX4_readArea_105 : decode cX4_readArea 105 = .ok (.iastore, 1) := by decide +kernel
theorem dX4_readArea_106 : decode cX4_readArea 106 = .ok (.aload_n 0, 1) := by decide +kernel
theorem dX4_readArea_107 : decode cX4_readArea 107 = .ok (.getfield 37, 3) := by decide +kernel
theorem dX4_readArea_110 : decode cX4_readArea 110 = .ok (.aload_n 0, 1) := by decide +kernel
theorem dX4_readArea_111 : decode cX4_readArea 111 = .ok (.getfield 110, 3) := by decide +kernel
theorem dX4_readArea_114 : decode cX4_readArea 114 = .ok (.iaload, 1) := by decide +kernel
theorem dX4_readArea_115 : decode cX4_readArea 115 = .ok (.bipush (-9), 2) := by decide +kernel
theorem dX4_readArea_117 : decode cX4_readArea 117 = .ok (.if_icmp .ne 5, 3) := by decide +kernel
theorem dX4_readArea_120 : decode cX4_readArea 120 = .ok (.iconst 0, 1) := by decide +kernel
theorem dX4_readArea_121 : decode cX4_readArea 121 = .ok (.ireturn, 1) := by decide +kernel
theorem dX4_readArea_122 : decode cX4_readArea 122 = .ok (.aload_n 0, 1) := by decide +kernel
theorem dX4_readArea_123 : decode cX4_readArea 123 = .ok (.getfield 40, 3) := by decide +kernel
theorem dX4_readArea_126 : decode cX4_readArea 126 = .ok (.aload_n 0, 1) := by decide +kernel
theorem dX4_readArea_127 : decode cX4_readArea 127 = .ok (.getfield 110, 3) := by decide +kernel
theorem dX4_readArea_130 : decode cX4_readArea 130 = .ok (.aload_n 0, 1) := by decide +kernel
theorem dX4_readArea_131 : decode cX4_readArea 131 = .ok (.iload_n 1, 1) := by decide +kernel
theorem dX4_readArea_132 : decode cX4_readArea 132 = .ok (.iconst 1, 1) := by decide +kernel
theorem dX4_readArea_133 : decode cX4_readArea 133 = .ok (.bipush 9, 2) := by decide +kernel
theorem dX4_readArea_135 : decode cX4_readArea 135 = .ok (.invokevirtual 125, 3) := by decide +kernel
theorem dX4_readArea_138 : decode cX4_readArea 138 = .ok (.iastore, 1) := by decide +kernel
theorem dX4_readArea_139 : decode cX4_readArea 139 = .ok (.aload_n 0, 1) := by decide +kernel
theorem dX4_readArea_140 : decode cX4_readArea 140 = .ok (.getfield 40, 3) := by decide +kernel
theorem dX4_readArea_143 : decode cX4_readArea 143 = .ok (.aload_n 0, 1) := by decide +kernel
theorem dX4_readArea_144 : decode cX4_readArea 144 = .ok (.getfield 110, 3) := by decide +kernel
theorem dX4_readArea_147 : decode cX4_readArea 147 = .ok (.iaload, 1) := by decide +kernel
theorem dX4_readArea_148 : decode cX4_readArea 148 = .ok (.bipush (-9), 2) := by decide +kernel
theorem dX4_readArea_150 : decode cX4_readArea 150 = .ok (.if_icmp .ne 5, 3) := by decide +kernel
theorem dX4_readArea_153 : decode cX4_readArea 153 = .ok (.iconst 0, 1) := by decide +kernel
theorem dX4_readArea_154 : decode cX4_readArea 154 = .ok (.ireturn, 1) := by decide +kernel
theorem dX4_readArea_155 : decode cX4_readArea 155 = .ok (.aload_n 0, 1) := by decide +kernel
theorem dX4_readArea_156 : decode cX4_readArea 156 = .ok (.dup, 1) := by decide +kernel
theorem dX4_readArea_157 : decode cX4_readArea 157 = .ok (.getfield 129, 3) := by decide +kernel
theorem dX4_readArea_160 : decode cX4_readArea 160 = .ok (.iconst 1, 1) := by decide +kernel
theorem dX4_readArea_161 : decode cX4_readArea 161 = .ok (.iadd, 1) := by decide +kernel
theorem dX4_readArea_162 : decode cX4_readArea 162 = .ok (.putfield 129, 3) := by decide +kernel
theorem dX4_readArea_165 : decode cX4_readArea 165 = .ok (.aload_n 0, 1) := by decide +kernel
theorem dX4_readArea_166 : decode cX4_readArea 166 = .ok (.getfield 43, 3) := by decide +kernel
theorem dX4_readArea_169 : decode cX4_readArea 169 = .ok (.aload_n 0, 1) := by decide +kernel
theorem dX4_readArea_170 : decode cX4_readArea 170 = .ok (.getfield 110, 3) := by decide +kernel
theorem dX4_readArea_173 : decode cX4_readArea 173 = .ok (.aload_n 0, 1) := by decide +kernel
theorem dX4_readArea_174 : decode cX4_readArea 174 = .ok (.getfield 129, 3) := by decide +kernel
theorem dX4_readArea_177 : decode cX4_readArea 177 = .ok (.iastore, 1) := by decide +kernel
theorem dX4_readArea_178 : decode cX4_readArea 178 = .ok (.aload_n 0, 1) := by decide +kernel
theorem dX4_readArea_179 : decode cX4_readArea 179 = .ok (.dup, 1) := by decide +kernel
theorem dX4_readArea_180 : decode cX4_readArea 180 = .ok (.getfield 110, 3) := by decide +kernel
theorem dX4_readArea_183 : decode cX4_readArea 183 = .ok (.iconst 1, 1) := by decide +kernel
theorem dX4_readArea_184 : decode cX4_readArea 184 = .ok (.iadd, 1) := by decide +kernel
theorem dX4_readArea_185 : decode cX4_readArea 185 = .ok (.putfield 110, 3) := by decide +kernel
theorem dX4_readArea_188 : decode cX4_readArea 188 = .ok (.iconst 1, 1) := by decide +kernel
theorem dX4_readArea_189 : decode cX4_readArea 189 = .ok (.ireturn, 1) := by decide +kernel
theorem dX4_readOrderNext_0 : decode cX4_readOrderNext 0 = .ok (.aload_n 0, 1) := by decide +kernel
theorem dX4_readOrderNext_1 : decode cX4_readOrderNext 1 = .ok (.iload_n 1, 1) := by decide +kernel
theorem dX4_readOrderNext_2 : decode cX4_readOrderNext 2 = .ok (.bipush 44, 2) := by decide +kernel
theorem dX4_readOrderNext_4 : decode cX4_readOrderNext 4 = .ok (.invokevirtual 116, 3) := by decide +kernel
theorem dX4_readOrderNext_7 : decode cX4_readOrderNext 7 = .ok (.ifCond .ne 5, 3) := by decide +kernel
theorem dX4_readOrderNext_10 : decode cX4_readOrderNext 10 = .ok (.iconst 0, 1) := by decide +kernel
theorem dX4_readOrderNext_11 : decode cX4_readOrderNext 11 = .ok (.ireturn, 1) := by decide +kernel
theorem dX4_readOrderNext_12 : decode cX4_readOrderNext 12 = .ok (.iconst 0, 1) := by decide +kernel
theorem dX4_readOrderNext_13 : decode cX4_readOrderNext 13 = .ok (.istore_n 3, 1) := by decide +kernel
theorem dX4_readOrderNext_14 : decode cX4_readOrderNext 14 = .ok (.iconst 0, 1) := by decide +kernel
theorem dX4_readOrderNext_15 : decode cX4_readOrderNext 15 = .ok (.istore 4, 2) := by decide +kernel
theorem dX4_readOrderNext_17 : decode cX4_readOrderNext 17 = .ok (.iload 4, 2) := by decide +kernel
theorem dX4_readOrderNext_19 : decode cX4_readOrderNext 19 = .ok (.aload_n 0, 1) := by decide +kernel
theorem dX4_readOrderNext_20 : decode cX4_readOrderNext 20 = .ok (.getfield 110, 3) := by decide +kernel
theorem dX4_readOrderNext_23 : decode cX4_readOrderNext 23 = .ok (.if_icmp .ge 91, 3) := by decide +kernel
theorem dX4_readOrderNext_26 : decode cX4_readOrderNext 26 = .ok (.aload_n 0, 1) := by decide +kernel
theorem dX4_readOrderNext_27 : decode cX4_readOrderNext 27 = .ok (.getfield 89, 3) := by decide +kernel
theorem dX4_readOrderNext_30 : decode cX4_readOrderNext 30 = .ok (.iload_n 1, 1) := by decide +kernel
theorem dX4_readOrderNext_31 : decode cX4_readOrderNext 31 = .ok (.if_icmp .ge 18, 3) := by decide +kernel
theorem dX4_readOrderNext_34 : decode cX4_readOrderNext 34 = .ok (.aload_n 0, 1) := by decide +kernel
theorem dX4_readOrderNext_35 : decode cX4_readOrderNext 35 = .ok (.getfield 16, 3) := by decide +kernel
theorem dX4_readOrderNext_38 : decode cX4_readOrderNext 38 = .ok (.aload_n 0, 1) := by decide +kernel
theorem dX4_readOrderNext_39 : decode cX4_readOrderNext 39 = .ok (.getfield 89, 3) := by decide +kernel
theorem dX4_readOrderNext_42 : decode cX4_readOrderNext 42 = .ok (.iaload, 1) := by decide +kernel
theorem dX4_readOrderNext_43 : decode cX4_readOrderNext 43 = .ok (.bipush 48, 2) := by decide +kernel
theorem dX4_readOrderNext_45 : decode cX4_readOrderNext 45 = .ok (.isub, 1) := by decide +kernel
theorem dX4_readOrderNext_46 : decode cX4_readOrderNext 46 = .ok (.goto 5, 3) := by decide +kernel
theorem dX4_readOrderNext_49 : decode cX4_readOrderNext 49 = .ok (.bipush (-9), 2) := by decide +kernel
theorem dX4_readOrderNext_51 : decode cX4_readOrderNext 51 = .ok (.istore 5, 2) := by decide +kernel
theorem dX4_readOrderNext_53 : decode cX4_readOrderNext 53 = .ok (.iload 5, 2) := by decide +kernel
theorem dX4_readOrderNext_55 : decode cX4_readOrderNext 55 = .ok (.iconst 0, 1) := by decide +kernel
theorem dX4_readOrderNext_56 : decode cX4_readOrderNext 56 = .ok (.aload_n 0, 1) := by decide +kernel
theorem dX4_readOrderNext_57 : decode cX4_readOrderNext 57 = .ok (.getfield 110, 3) := by decide +kernel
theorem dX4_readOrderNext_60 : decode cX4_readOrderNext 60 = .ok (.iconst 1, 1) := by decide +kernel
theorem dX4_readOrderNext_61 : decode cX4_readOrderNext 61 = .ok (.isub, 1) := by decide +kernel
theorem dX4_readOrderNext_62 : decode cX4_readOrderNext 62 = .ok (.invokestatic 82, 3) := by decide +kernel
theorem dX4_readOrderNext_65 : decode cX4_readOrderNext 65 = .ok (.ifCond .eq 13, 3) := by decide +kernel
theorem dX4_readOrderNext_68 : decode cX4_readOrderNext 68 = .ok (.iload_n 3, 1) := by decide +kernel
theorem dX4_readOrderNext_69 : decode cX4_readOrderNext 69 = .ok (.iload 5, 2) := by decide +kernel
theorem dX4_readOrderNext_71 : decode cX4_readOrderNext 71 = .ok (.ishr, 1) := by decide +kernel
theorem dX4_readOrderNext_72 : decode cX4_readOrderNext 72 = .ok (.iconst 1, 1) := by decide +kernel
theorem dX4_readOrderNext_73 : decode cX4_readOrderNext 73 = .ok (.iand, 1) := by decide +kernel
theorem dX4_readOrderNext_74 : decode cX4_readOrderNext 74 = .ok (.iconst 1, 1) := by decide +kernel
theorem dX4_readOrderNext_75 : decode cX4_readOrderNext 75 = .ok (.if_icmp .ne 5, 3) := by decide +kernel
theorem dX4_readOrderNext_78 : decode cX4_readOrderNext 78 = .ok (.iconst 0, 1) := by decide +kernel
theorem dX4_readOrderNext_79 : decode cX4_readOrderNext 79 = .ok (.ireturn, 1) := by decide +kernel
theorem dX4_readOrderNext_80 : decode cX4_readOrderNext 80 = .ok (.iload_n 3, 1) := by decide +kernel
theorem dX4_readOrderNext_81 : decode cX4_readOrderNext 81 = .ok (.iconst 1, 1) := by decide +kernel
theorem dX4_readOrderNext_82 : decode cX4_readOrderNext 82 = .ok (.iload 5, 2) := by decide +kernel
theorem dX4_readOrderNext_84 : decode cX4_readOrderNext 84 = .ok (.ishl, 1) := by decide +kernel
theorem dX4_readOrderNext_85 : decode cX4_readOrderNext 85 = .ok (.ior, 1) := by decide +kernel
theorem dX4_readOrderNext_86 : decode cX4_readOrderNext 86 = .ok (.istore_n 3, 1) := by decide +kernel
theorem dX4_readOrderNext_87 : decode cX4_readOrderNext 87 = .ok (.aload_n 0, 1) := by decide +kernel
theorem dX4_readOrderNext_88 : decode cX4_readOrderNext 88 = .ok (.getfield 46, 3) := by decide +kernel
theorem dX4_readOrderNext_91 : decode cX4_readOrderNext 91 = .ok (.iload_n 2, 1) := by decide +kernel
theorem dX4_readOrderNext_92 : decode cX4_readOrderNext 92 = .ok (.iload 4, 2) := by decide +kernel
theorem dX4_readOrderNext_94 : decode cX4_readOrderNext 94 = .ok (.iadd, 1) := by decide +kernel
theorem dX4_readOrderNext_95 : decode cX4_readOrderNext 95 = .ok (.iload 5, 2) := by decide +kernel
theorem dX4_readOrderNext_97 : decode cX4_readOrderNext 97 = .ok (.iastore, 1) := by decide +kernel
theorem dX4_readOrderNext_98 : decode cX4_readOrderNext 98 = .ok (.aload_n 0, 1) := by decide +kernel
theorem dX4_readOrderNext_99 : decode cX4_readOrderNext 99 = .ok (.dup, 1) := by decide +kernel
theorem dX4_readOrderNext_100 : decode cX4_readOrderNext 100 = .ok (.getfield 89, 3) := by decide +kernel
theorem dX4_readOrderNext_103 : decode cX4_readOrderNext 103 = .ok (.iconst 1, 1) := by decide +kernel
theorem dX4_readOrderNext_104 : decode cX4_readOrderNext 104 = .ok (.iadd, 1) := by decide +kernel
theorem dX4_readOrderNext_105 : decode cX4_readOrderNext 105 = .ok (.putfield 89, 3) := by decide +kernel
theorem dX4_readOrderNext_108 : decode cX4_readOrderNext 108 = .ok (.iinc 4 1, 3) := by decide +kernel
theorem dX4_readOrderNext_111 : decode cX4_readOrderNext 111 = .ok (.goto (-94), 3) := by decide +kernel
theorem dX4_readOrderNext_114 : decode cX4_readOrderNext 114 = .ok (.iconst 1, 1) := by decide +kernel
theorem dX4_readOrderNext_115 : decode cX4_readOrderNext 115 = .ok (.ireturn, 1) := by decide +kernel
theorem dX4_heightOf_0 : decode cX4_heightOf 0 = .ok (.aload_n 0, 1) := by decide +kernel
theorem dX4_heightOf_1 : decode cX4_heightOf 1 = .ok (.getfield 19, 3) := by decide +kernel
theorem dX4_heightOf_4 : decode cX4_heightOf 4 = .ok (.iload_n 1, 1) := by decide +kernel
theorem dX4_heightOf_5 : decode cX4_heightOf 5 = .ok (.iaload, 1) := by decide +kernel
theorem dX4_heightOf_6 : decode cX4_heightOf 6 = .ok (.ifCond .ne 12, 3) := by decide +kernel
theorem dX4_heightOf_9 : decode cX4_heightOf 9 = .ok (.aload_n 0, 1) := by decide +kernel
theorem dX4_heightOf_10 : decode cX4_heightOf 10 = .ok (.getfield 22, 3) := by decide +kernel
theorem dX4_heightOf_13 : decode cX4_heightOf 13 = .ok (.iload_n 1, 1) := by decide +kernel
theorem dX4_heightOf_14 : decode cX4_heightOf 14 = .ok (.iaload, 1) := by decide +kernel
theorem dX4_heightOf_15 : decode cX4_heightOf 15 = .ok (.goto 32, 3) := by decide +kernel
theorem dX4_heightOf_18 : decode cX4_heightOf 18 = .ok (.aload_n 0, 1) := by decide +kernel
theorem dX4_heightOf_19 : decode cX4_heightOf 19 = .ok (.getfield 19, 3) := by decide +kernel
theorem dX4_heightOf_22 : decode cX4_heightOf 22 = .ok (.iload_n 1, 1) := by decide +kernel
theorem dX4_heightOf_23 : decode cX4_heightOf 23 = .ok (.iaload, 1) := by decide +kernel
theorem dX4_heightOf_24 : decode cX4_heightOf 24 = .ok (.iconst 1, 1) := by decide +kernel
theorem dX4_heightOf_25 : decode cX4_heightOf 25 = .ok (.if_icmp .ne 14, 3) := by decide +kernel
theorem dX4_heightOf_28 : decode cX4_heightOf 28 = .ok (.aload_n 0, 1) := by decide +kernel
theorem dX4_heightOf_29 : decode cX4_heightOf 29 = .ok (.getfield 22, 3) := by decide +kernel
theorem dX4_heightOf_32 : decode cX4_heightOf 32 = .ok (.iload_n 1, 1) := by decide +kernel
theorem dX4_heightOf_33 : decode cX4_heightOf 33 = .ok (.iaload, 1) := by decide +kernel
theorem dX4_heightOf_34 : decode cX4_heightOf 34 = .ok (.iconst 1, 1) := by decide +kernel
theorem dX4_heightOf_35 : decode cX4_heightOf 35 = .ok (.iadd, 1) := by decide +kernel
theorem dX4_heightOf_36 : decode cX4_heightOf 36 = .ok (.goto 11, 3) := by decide +kernel
theorem dX4_heightOf_39 : decode cX4_heightOf 39 = .ok (.iconst 2, 1) := by decide +kernel
theorem dX4_heightOf_40 : decode cX4_heightOf 40 = .ok (.aload_n 0, 1) := by decide +kernel
theorem dX4_heightOf_41 : decode cX4_heightOf 41 = .ok (.getfield 22, 3) := by decide +kernel
theorem dX4_heightOf_44 : decode cX4_heightOf 44 = .ok (.iload_n 1, 1) := by decide +kernel
theorem dX4_heightOf_45 : decode cX4_heightOf 45 = .ok (.iaload, 1) := by decide +kernel
theorem dX4_heightOf_46 : decode cX4_heightOf 46 = .ok (.imul, 1) := by decide +kernel
theorem dX4_heightOf_47 : decode cX4_heightOf 47 = .ok (.istore_n 2, 1) := by decide +kernel
theorem dX4_heightOf_48 : decode cX4_heightOf 48 = .ok (.iload_n 2, 1) := by decide +kernel
theorem dX4_heightOf_49 : decode cX4_heightOf 49 = .ok (.aload_n 0, 1) := by decide +kernel
theorem dX4_heightOf_50 : decode cX4_heightOf 50 = .ok (.getfield 25, 3) := by decide +kernel
theorem dX4_heightOf_53 : decode cX4_heightOf 53 = .ok (.iload_n 1, 1) := by decide +kernel
theorem dX4_heightOf_54 : decode cX4_heightOf 54 = .ok (.iaload, 1) := by decide +kernel
theorem dX4_heightOf_55 : decode cX4_heightOf 55 = .ok (.iadd, 1) := by decide +kernel
theorem dX4_heightOf_56 : decode cX4_heightOf 56 = .ok (.iconst 1, 1) := by decide +kernel
theorem dX4_heightOf_57 : decode cX4_heightOf 57 = .ok (.isub, 1) := by decide +kernel
theorem dX4_heightOf_58 : decode cX4_heightOf 58 = .ok (.aload_n 0, 1) := by decide +kernel
theorem dX4_heightOf_59 : decode cX4_heightOf 59 = .ok (.getfield 25, 3) := by decide +kernel
theorem dX4_heightOf_62 : decode cX4_heightOf 62 = .ok (.iload_n 1, 1) := by decide +kernel
theorem dX4_heightOf_63 : decode cX4_heightOf 63 = .ok (.iaload, 1) := by decide +kernel
theorem dX4_heightOf_64 : decode cX4_heightOf 64 = .ok (.idiv, 1) := by decide +kernel
theorem dX4_heightOf_65 : decode cX4_heightOf 65 = .ok (.ireturn, 1) := by decide +kernel
theorem dX4_placeIn_0 : decode cX4_placeIn 0 = .ok (.iconst 0, 1) := by decide +kernel
theorem dX4_placeIn_1 : decode cX4_placeIn 1 = .ok (.istore_n 3, 1) := by decide +kernel
theorem dX4_placeIn_2 : decode cX4_placeIn 2 = .ok (.aload_n 0, 1) := by decide +kernel
theorem dX4_placeIn_3 : decode cX4_placeIn 3 = .ok (.getfield 31, 3) := by decide +kernel
theorem dX4_placeIn_6 : decode cX4_placeIn 6 = .ok (.iload_n 1, 1) := by decide +kernel
theorem dX4_placeIn_7 : decode cX4_placeIn 7 = .ok (.iload_n 3, 1) := by decide +kernel
theorem dX4_placeIn_8 : decode cX4_placeIn 8 = .ok (.iadd, 1) := by decide +kernel
theorem dX4_placeIn_9 : decode cX4_placeIn 9 = .ok (.iaload, 1) := by decide +kernel
theorem dX4_placeIn_10 : decode cX4_placeIn 10 = .ok (.iload_n 2, 1) := by decide +kernel
theorem dX4_placeIn_11 : decode cX4_placeIn 11 = .ok (.if_icmp .eq 9, 3) := by decide +kernel
theorem dX4_placeIn_14 : decode cX4_placeIn 14 = .ok (.iinc 3 1, 3) := by decide +kernel
theorem dX4_placeIn_17 : decode cX4_placeIn 17 = .ok (.goto (-15), 3) := by decide +kernel
theorem dX4_placeIn_20 : decode cX4_placeIn 20 = .ok (.iload_n 3, 1) := by decide +kernel
theorem dX4_placeIn_21 : decode cX4_placeIn 21 = .ok (.ireturn, 1) := by decide +kernel
theorem dX4_isLeft_0 : decode cX4_isLeft 0 = .ok (.iload_n 1, 1) := by decide +kernel
theorem dX4_isLeft_1 : decode cX4_isLeft 1 = .ok (.iload_n 2, 1) := by decide +kernel
theorem dX4_isLeft_2 : decode cX4_isLeft 2 = .ok (.if_icmp .eq 39, 3) := by decide +kernel
theorem dX4_isLeft_5 : decode cX4_isLeft 5 = .ok (.aload_n 0, 1) := by decide +kernel
theorem dX4_isLeft_6 : decode cX4_isLeft 6 = .ok (.iconst 0, 1) := by decide +kernel
theorem dX4_isLeft_7 : decode cX4_isLeft 7 = .ok (.iload_n 1, 1) := by decide +kernel
theorem dX4_isLeft_8 : decode cX4_isLeft 8 = .ok (.invokevirtual 132, 3) := by decide +kernel
theorem dX4_isLeft_11 : decode cX4_isLeft 11 = .ok (.aload_n 0, 1) := by decide +kernel
theorem dX4_isLeft_12 : decode cX4_isLeft 12 = .ok (.iconst 0, 1) := by decide +kernel
theorem dX4_isLeft_13 : decode cX4_isLeft 13 = .ok (.iload_n 2, 1) := by decide +kernel
theorem dX4_isLeft_14 : decode cX4_isLeft 14 = .ok (.invokevirtual 132, 3) := by decide +kernel
theorem dX4_isLeft_17 : decode cX4_isLeft 17 = .ok (.if_icmp .ge 24, 3) := by decide +kernel
theorem dX4_isLeft_20 : decode cX4_isLeft 20 = .ok (.aload_n 0, 1) := by decide +kernel
theorem dX4_isLeft_21 : decode cX4_isLeft 21 = .ok (.bipush 6, 2) := by decide +kernel
theorem dX4_isLeft_23 : decode cX4_isLeft 23 = .ok (.iload_n 1, 1) := by decide +kernel
theorem dX4_isLeft_24 : decode cX4_isLeft 24 = .ok (.invokevirtual 132, 3) := by decide +kernel
theorem dX4_isLeft_27 : decode cX4_isLeft 27 = .ok (.aload_n 0, 1) := by decide +kernel
theorem dX4_isLeft_28 : decode cX4_isLeft 28 = .ok (.bipush 6, 2) := by decide +kernel
theorem dX4_isLeft_30 : decode cX4_isLeft 30 = .ok (.iload_n 2, 1) := by decide +kernel
theorem dX4_isLeft_31 : decode cX4_isLeft 31 = .ok (.invokevirtual 132, 3) := by decide +kernel
theorem dX4_isLeft_34 : decode cX4_isLeft 34 = .ok (.if_icmp .ge 7, 3) := by decide +kernel
theorem dX4_isLeft_37 : decode cX4_isLeft 37 = .ok (.iconst 1, 1) := by decide +kernel
theorem dX4_isLeft_38 : decode cX4_isLeft 38 = .ok (.goto 4, 3) := by decide +kernel
theorem dX4_isLeft_41 : decode cX4_isLeft 41 = .ok (.iconst 0, 1) := by decide +kernel
theorem dX4_isLeft_42 : decode cX4_isLeft 42 = .ok (.ireturn, 1) := by decide +kernel
theorem dX4_isAbove_0 : decode cX4_isAbove 0 = .ok (.aload_n 0, 1) := by decide +kernel
theorem dX4_isAbove_1 : decode cX4_isAbove 1 = .ok (.iconst 0, 1) := by decide +kernel
theorem dX4_isAbove_2 : decode cX4_isAbove 2 = .ok (.iload_n 1, 1) := by decide +kernel
theorem dX4_isAbove_3 : decode cX4_isAbove 3 = .ok (.invokevirtual 132, 3) := by decide +kernel
theorem dX4_isAbove_6 : decode cX4_isAbove 6 = .ok (.aload_n 0, 1) := by decide +kernel
theorem dX4_isAbove_7 : decode cX4_isAbove 7 = .ok (.iconst 0, 1) := by decide +kernel
theorem dX4_isAbove_8 : decode cX4_isAbove 8 = .ok (.iload_n 2, 1) := by decide +kernel
theorem dX4_isAbove_9 : decode cX4_isAbove 9 = .ok (.invokevirtual 132, 3) := by decide +kernel
theorem dX4_isAbove_12 : decode cX4_isAbove 12 = .ok (.if_icmp .ge 24, 3) := by decide +kernel
theorem dX4_isAbove_15 : decode cX4_isAbove 15 = .ok (.aload_n 0, 1) := by decide +kernel
theorem dX4_isAbove_16 : decode cX4_isAbove 16 = .ok (.bipush 6, 2) := by decide +kernel
theorem dX4_isAbove_18 : decode cX4_isAbove 18 = .ok (.iload_n 1, 1) := by decide +kernel
theorem dX4_isAbove_19 : decode cX4_isAbove 19 = .ok (.invokevirtual 132, 3) := by decide +kernel
theorem dX4_isAbove_22 : decode cX4_isAbove 22 = .ok (.aload_n 0, 1) := by decide +kernel
theorem dX4_isAbove_23 : decode cX4_isAbove 23 = .ok (.bipush 6, 2) := by decide +kernel
theorem dX4_isAbove_25 : decode cX4_isAbove 25 = .ok (.iload_n 2, 1) := by decide +kernel
theorem dX4_isAbove_26 : decode cX4_isAbove 26 = .ok (.invokevirtual 132, 3) := by decide +kernel
theorem dX4_isAbove_29 : decode cX4_isAbove 29 = .ok (.if_icmp .le 7, 3) := by decide +kernel
theorem dX4_isAbove_32 : decode cX4_isAbove 32 = .ok (.iconst 1, 1) := by decide +kernel
theorem dX4_isAbove_33 : decode cX4_isAbove 33 = .ok (.goto 4, 3) := by decide +kernel
theorem dX4_isAbove_36 : decode cX4_isAbove 36 = .ok (.iconst 0, 1) := by decide +kernel
theorem dX4_isAbove_37 : decode cX4_isAbove 37 = .ok (.ireturn, 1) := by decide +kernel
theorem dX4_findBreadth_0 : decode cX4_findBreadth 0 = .ok (.aload_n 0, 1) := by decide +kernel
theorem dX4_findBreadth_1 : decode cX4_findBreadth 1 = .ok (.iconst 0, 1) := by decide +kernel
theorem dX4_findBreadth_2 : decode cX4_findBreadth 2 = .ok (.putfield 136, 3) := by decide +kernel
theorem dX4_findBreadth_5 : decode cX4_findBreadth 5 = .ok (.iconst 0, 1) := by decide +kernel
theorem dX4_findBreadth_6 : decode cX4_findBreadth 6 = .ok (.istore_n 1, 1) := by decide +kernel
theorem dX4_findBreadth_7 : decode cX4_findBreadth 7 = .ok (.iload_n 1, 1) := by decide +kernel
theorem dX4_findBreadth_8 : decode cX4_findBreadth 8 = .ok (.aload_n 0, 1) := by decide +kernel
theorem dX4_findBreadth_9 : decode cX4_findBreadth 9 = .ok (.getfield 86, 3) := by decide +kernel
theorem dX4_findBreadth_12 : decode cX4_findBreadth 12 = .ok (.if_icmp .ge 158, 3) := by decide +kernel
theorem dX4_findBreadth_15 : decode cX4_findBreadth 15 = .ok (.aload_n 0, 1) := by decide +kernel
theorem dX4_findBreadth_16 : decode cX4_findBreadth 16 = .ok (.getfield 31, 3) := by decide +kernel
theorem dX4_findBreadth_19 : decode cX4_findBreadth 19 = .ok (.iload_n 1, 1) := by decide +kernel
theorem dX4_findBreadth_20 : decode cX4_findBreadth 20 = .ok (.iaload, 1) := by decide +kernel
theorem dX4_findBreadth_21 : decode cX4_findBreadth 21 = .ok (.istore_n 2, 1) := by decide +kernel
theorem dX4_findBreadth_22 : decode cX4_findBreadth 22 = .ok (.aload_n 0, 1) := by decide +kernel
theorem dX4_findBreadth_23 : decode cX4_findBreadth 23 = .ok (.getfield 49, 3) := by decide +kernel
theorem dX4_findBreadth_26 : decode cX4_findBreadth 26 = .ok (.iload_n 2, 1) := by decide +kernel
theorem dX4_findBreadth_27 : decode cX4_findBreadth 27 = .ok (.iconst 0, 1) := by decide +kernel
theorem dX4_findBreadth_28 : decode cX4_findBreadth 28 = .ok (.iastore, 1) := by decide +kernel
theorem dX4_findBreadth_29 : decode cX4_findBreadth 29 = .ok (.iconst 0, 1) := by decide +kernel
theorem dX4_findBreadth_30 : decode cX4_findBreadth 30 = .ok (.istore_n 3, 1) := by decide +kernel
theorem dX4_findBreadth_31 : decode cX4_findBreadth 31 = .ok (.iload_n 3, 1) := by decide +kernel
theorem dX4_findBreadth_32 : decode cX4_findBreadth 32 = .ok (.iload_n 1, 1) := by decide +kernel
theorem dX4_findBreadth_33 : decode cX4_findBreadth 33 = .ok (.if_icmp .ge 87, 3) := by decide +kernel
theorem dX4_findBreadth_36 : decode cX4_findBreadth 36 = .ok (.aload_n 0, 1) := by decide +kernel
theorem dX4_findBreadth_37 : decode cX4_findBreadth 37 = .ok (.getfield 31, 3) := by decide +kernel
theorem dX4_findBreadth_40 : decode cX4_findBreadth 40 = .ok (.iload_n 3, 1) := by decide +kernel
theorem dX4_findBreadth_41 : decode cX4_findBreadth 41 = .ok (.iaload, 1) := by decide +kernel
theorem dX4_findBreadth_42 : decode cX4_findBreadth 42 = .ok (.istore 4, 2) := by decide +kernel
theorem dX4_findBreadth_44 : decode cX4_findBreadth 44 = .ok (.aload_n 0, 1) := by decide +kernel
theorem dX4_findBreadth_45 : decode cX4_findBreadth 45 = .ok (.getfield 49, 3) := by decide +kernel
theorem dX4_findBreadth_48 : decode cX4_findBreadth 48 = .ok (.iload_n 2, 1) := by decide +kernel
theorem dX4_findBreadth_49 : decode cX4_findBreadth 49 = .ok (.aload_n 0, 1) := by decide +kernel
theorem dX4_findBreadth_50 : decode cX4_findBreadth 50 = .ok (.getfield 55, 3) := by decide +kernel
theorem dX4_findBreadth_53 : decode cX4_findBreadth 53 = .ok (.iload 4, 2) := by decide +kernel
theorem dX4_findBreadth_55 : decode cX4_findBreadth 55 = .ok (.iaload, 1) := by decide +kernel
theorem dX4_findBreadth_56 : decode cX4_findBreadth 56 = .ok (.aload_n 0, 1) := by decide +kernel
theorem dX4_findBreadth_57 : decode cX4_findBreadth 57 = .ok (.getfield 55, 3) := by decide +kernel
theorem dX4_findBreadth_60 : decode cX4_findBreadth 60 = .ok (.iload_n 2, 1) := by decide +kernel
theorem dX4_findBreadth_61 : decode cX4_findBreadth 61 = .ok (.iaload, 1) := by decide +kernel
theorem dX4_findBreadth_62 : decode cX4_findBreadth 62 = .ok (.if_icmp .ge 45, 3) := by decide +kernel
theorem dX4_findBreadth_65 : decode cX4_findBreadth 65 = .ok (.aload_n 0, 1) := by decide +kernel
theorem dX4_findBreadth_66 : decode cX4_findBreadth 66 = .ok (.getfield 49, 3) := by decide +kernel
theorem dX4_findBreadth_69 : decode cX4_findBreadth 69 = .ok (.iload 4, 2) := by decide +kernel
theorem dX4_findBreadth_71 : decode cX4_findBreadth 71 = .ok (.iaload, 1) := by decide +kernel
theorem dX4_findBreadth_72 : decode cX4_findBreadth 72 = .ok (.aload_n 0, 1) := by decide +kernel
theorem dX4_findBreadth_73 : decode cX4_findBreadth 73 = .ok (.getfield 25, 3) := by decide +kernel
theorem dX4_findBreadth_76 : decode cX4_findBreadth 76 = .ok (.iload 4, 2) := by decide +kernel
theorem dX4_findBreadth_78 : decode cX4_findBreadth 78 = .ok (.iaload, 1) := by decide +kernel
theorem dX4_findBreadth_79 : decode cX4_findBreadth 79 = .ok (.iadd, 1) := by decide +kernel
theorem dX4_findBreadth_80 : decode cX4_findBreadth 80 = .ok (.aload_n 0, 1) := by decide +kernel
theorem dX4_findBreadth_81 : decode cX4_findBreadth 81 = .ok (.getfield 49, 3) := by decide +kernel
theorem dX4_findBreadth_84 : decode cX4_findBreadth 84 = .ok (.iload_n 2, 1) := by decide +kernel
theorem dX4_findBreadth_85 : decode cX4_findBreadth 85 = .ok (.iaload, 1) := by decide +kernel
theorem dX4_findBreadth_86 : decode cX4_findBreadth 86 = .ok (.if_icmp .le 21, 3) := by decide +kernel
theorem dX4_findBreadth_89 : decode cX4_findBreadth 89 = .ok (.aload_n 0, 1) := by decide +kernel
theorem dX4_findBreadth_90 : decode cX4_findBreadth 90 = .ok (.getfield 49, 3) := by decide +kernel
theorem dX4_findBreadth_93 : decode cX4_findBreadth 93 = .ok (.iload 4, 2) := by decide +kernel
theorem dX4_findBreadth_95 : decode cX4_findBreadth 95 = .ok (.iaload, 1) := by decide +kernel
theorem dX4_findBreadth_96 : decode cX4_findBreadth 96 = .ok (.aload_n 0, 1) := by decide +kernel
theorem dX4_findBreadth_97 : decode cX4_findBreadth 97 = .ok (.getfield 25, 3) := by decide +kernel
theorem dX4_findBreadth_100 : decode cX4_findBreadth 100 = .ok (.iload 4, 2) := by decide +kernel
theorem dX4_findBreadth_102 : decode cX4_findBreadth 102 = .ok (.iaload, 1) := by decide +kernel
theorem dX4_findBreadth_103 : decode cX4_findBreadth 103 = .ok (.iadd, 1) := by decide +kernel
theorem dX4_findBreadth_104 : decode cX4_findBreadth 104 = .ok (.goto 9, 3) := by decide +kernel
theorem dX4_findBreadth_107 : decode cX4_findBreadth 107 = .ok (.aload_n 0, 1) := by decide +kernel
theorem dX4_findBreadth_108 : decode cX4_findBreadth 108 = .ok (.getfield 49, 3) := by decide +kernel
theorem dX4_findBreadth_111 : decode cX4_findBreadth 111 = .ok (.iload_n 2, 1) := by decide +kernel
theorem dX4_findBreadth_112 : decode cX4_findBreadth 112 = .ok (.iaload, 1) := by decide +kernel
theorem dX4_findBreadth_113 : decode cX4_findBreadth 113 = .ok (.iastore, 1) := by decide +kernel
theorem dX4_findBreadth_114 : decode cX4_findBreadth 114 = .ok (.iinc 3 1, 3) := by decide +kernel
theorem dX4_findBreadth_117 : decode cX4_findBreadth 117 = .ok (.goto (-86), 3) := by decide +kernel
theorem dX4_findBreadth_120 : decode cX4_findBreadth 120 = .ok (.aload_n 0, 1) := by decide +kernel
theorem dX4_findBreadth_121 : decode cX4_findBreadth 121 = .ok (.aload_n 0, 1) := by decide +kernel
theorem dX4_findBreadth_122 : decode cX4_findBreadth 122 = .ok (.getfield 49, 3) := by decide +kernel
theorem dX4_findBreadth_125 : decode cX4_findBreadth 125 = .ok (.iload_n 2, 1) := by decide +kernel
theorem dX4_findBreadth_126 : decode cX4_findBreadth 126 = .ok (.iaload, 1) := by decide +kernel
theorem dX4_findBreadth_127 : decode cX4_findBreadth 127 = .ok (.aload_n 0, 1) := by decide +kernel
theorem dX4_findBreadth_128 : decode cX4_findBreadth 128 = .ok (.getfield 25, 3) := by decide +kernel
theorem dX4_findBreadth_131 : decode cX4_findBreadth 131 = .ok (.iload_n 2, 1) := by decide +kernel
theorem dX4_findBreadth_132 : decode cX4_findBreadth 132 = .ok (.iaload, 1) := by decide +kernel
theorem dX4_findBreadth_133 : decode cX4_findBreadth 133 = .ok (.iadd, 1) := by decide +kernel
theorem dX4_findBreadth_134 : decode cX4_findBreadth 134 = .ok (.aload_n 0, 1) := by decide +kernel
theorem dX4_findBreadth_135 : decode cX4_findBreadth 135 = .ok (.getfield 136, 3) := by decide +kernel
theorem dX4_findBreadth_138 : decode cX4_findBreadth 138 = .ok (.if_icmp .le 19, 3) := by decide +kernel
theorem dX4_findBreadth_141 : decode cX4_findBreadth 141 = .ok (.aload_n 0, 1) := by decide +kernel
theorem dX4_findBreadth_142 : decode cX4_findBreadth 142 = .ok (.getfield 49, 3) := by decide +kernel
theorem dX4_findBreadth_145 : decode cX4_findBreadth 145 = .ok (.iload_n 2, 1) := by decide +kernel
theorem dX4_findBreadth_146 : decode cX4_findBreadth 146 = .ok (.iaload, 1) := by decide +kernel
theorem dX4_findBreadth_147 : decode cX4_findBreadth 147 = .ok (.aload_n 0, 1) := by decide +kernel
theorem dX4_findBreadth_148 : decode cX4_findBreadth 148 = .ok (.getfield 25, 3) := by decide +kernel
theorem dX4_findBreadth_151 : decode cX4_findBreadth 151 = .ok (.iload_n 2, 1) := by decide +kernel
theorem dX4_findBreadth_152 : decode cX4_findBreadth 152 = .ok (.iaload, 1) := by decide +kernel
theorem dX4_findBreadth_153 : decode cX4_findBreadth 153 = .ok (.iadd, 1) := by decide +kernel
theorem dX4_findBreadth_154 : decode cX4_findBreadth 154 = .ok (.goto 7, 3) := by decide +kernel
theorem dX4_findBreadth_157 : decode cX4_findBreadth 157 = .ok (.aload_n 0, 1) := by decide +kernel
theorem dX4_findBreadth_158 : decode cX4_findBreadth 158 = .ok (.getfield 136, 3) := by decide +kernel
theorem dX4_findBreadth_161 : decode cX4_findBreadth 161 = .ok (.putfield 136, 3) := by decide +kernel
theorem dX4_findBreadth_164 : decode cX4_findBreadth 164 = .ok (.iinc 1 1, 3) := by decide +kernel
theorem dX4_findBreadth_167 : decode cX4_findBreadth 167 = .ok (.goto (-160), 3) := by decide +kernel
theorem dX4_findBreadth_170 : decode cX4_findBreadth 170 = .ok (.return_, 1) := by decide +kernel
theorem dX4_findDepth_0 : decode cX4_findDepth 0 = .ok (.aload_n 0, 1) := by decide +kernel
theorem dX4_findDepth_1 : decode cX4_findDepth 1 = .ok (.iconst 0, 1) := by decide +kernel
theorem dX4_findDepth_2 : decode cX4_findDepth 2 = .ok (.putfield 139, 3) := by decide +kernel
theorem dX4_findDepth_5 : decode cX4_findDepth 5 = .ok (.iconst 0, 1) := by decide +kernel
theorem dX4_findDepth_6 : decode cX4_findDepth 6 = .ok (.istore_n 1, 1) := by decide +kernel
theorem dX4_findDepth_7 : decode cX4_findDepth 7 = .ok (.iload_n 1, 1) := by decide +kernel
theorem dX4_findDepth_8 : decode cX4_findDepth 8 = .ok (.aload_n 0, 1) := by decide +kernel
theorem dX4_findDepth_9 : decode cX4_findDepth 9 = .ok (.getfield 86, 3) := by decide +kernel
theorem dX4_findDepth_12 : decode cX4_findDepth 12 = .ok (.if_icmp .ge 154, 3) := by decide +kernel
theorem dX4_findDepth_15 : decode cX4_findDepth 15 = .ok (.aload_n 0, 1) := by decide +kernel
theorem dX4_findDepth_16 : decode cX4_findDepth 16 = .ok (.getfield 31, 3) := by decide +kernel
theorem dX4_findDepth_19 : decode cX4_findDepth 19 = .ok (.iload_n 1, 1) := by decide +kernel
theorem dX4_findDepth_20 : decode cX4_findDepth 20 = .ok (.iaload, 1) := by decide +kernel
theorem dX4_findDepth_21 : decode cX4_findDepth 21 = .ok (.istore_n 2, 1) := by decide +kernel
theorem dX4_findDepth_22 : decode cX4_findDepth 22 = .ok (.aload_n 0, 1) := by decide +kernel
theorem dX4_findDepth_23 : decode cX4_findDepth 23 = .ok (.getfield 52, 3) := by decide +kernel
theorem dX4_findDepth_26 : decode cX4_findDepth 26 = .ok (.iload_n 2, 1) := by decide +kernel
theorem dX4_findDepth_27 : decode cX4_findDepth 27 = .ok (.iconst 0, 1) := by decide +kernel
theorem dX4_findDepth_28 : decode cX4_findDepth 28 = .ok (.iastore, 1) := by decide +kernel
theorem dX4_findDepth_29 : decode cX4_findDepth 29 = .ok (.iconst 0, 1) := by decide +kernel
theorem dX4_findDepth_30 : decode cX4_findDepth 30 = .ok (.istore_n 3, 1) := by decide +kernel
theorem dX4_findDepth_31 : decode cX4_findDepth 31 = .ok (.iload_n 3, 1) := by decide +kernel
theorem dX4_findDepth_32 : decode cX4_findDepth 32 = .ok (.iload_n 1, 1) := by decide +kernel
theorem dX4_findDepth_33 : decode cX4_findDepth 33 = .ok (.if_icmp .ge 85, 3) := by decide +kernel
theorem dX4_findDepth_36 : decode cX4_findDepth 36 = .ok (.aload_n 0, 1) := by decide +kernel
theorem dX4_findDepth_37 : decode cX4_findDepth 37 = .ok (.getfield 31, 3) := by decide +kernel
theorem dX4_findDepth_40 : decode cX4_findDepth 40 = .ok (.iload_n 3, 1) := by decide +kernel
theorem dX4_findDepth_41 : decode cX4_findDepth 41 = .ok (.iaload, 1) := by decide +kernel
theorem dX4_findDepth_42 : decode cX4_findDepth 42 = .ok (.istore 4, 2) := by decide +kernel
theorem dX4_findDepth_44 : decode cX4_findDepth 44 = .ok (.aload_n 0, 1) := by decide +kernel
theorem dX4_findDepth_45 : decode cX4_findDepth 45 = .ok (.getfield 52, 3) := by decide +kernel
theorem dX4_findDepth_48 : decode cX4_findDepth 48 = .ok (.iload_n 2, 1) := by decide +kernel
theorem dX4_findDepth_49 : decode cX4_findDepth 49 = .ok (.aload_n 0, 1) := by decide +kernel
theorem dX4_findDepth_50 : decode cX4_findDepth 50 = .ok (.getfield 55, 3) := by decide +kernel
theorem dX4_findDepth_53 : decode cX4_findDepth 53 = .ok (.iload 4, 2) := by decide +kernel
theorem dX4_findDepth_55 : decode cX4_findDepth 55 = .ok (.iaload, 1) := by decide +kernel
theorem dX4_findDepth_56 : decode cX4_findDepth 56 = .ok (.aload_n 0, 1) := by decide +kernel
theorem dX4_findDepth_57 : decode cX4_findDepth 57 = .ok (.getfield 55, 3) := by decide +kernel
theorem dX4_findDepth_60 : decode cX4_findDepth 60 = .ok (.iload_n 2, 1) := by decide +kernel
theorem dX4_findDepth_61 : decode cX4_findDepth 61 = .ok (.iaload, 1) := by decide +kernel
theorem dX4_findDepth_62 : decode cX4_findDepth 62 = .ok (.if_icmp .le 43, 3) := by decide +kernel
theorem dX4_findDepth_65 : decode cX4_findDepth 65 = .ok (.aload_n 0, 1) := by decide +kernel
theorem dX4_findDepth_66 : decode cX4_findDepth 66 = .ok (.getfield 52, 3) := by decide +kernel
theorem dX4_findDepth_69 : decode cX4_findDepth 69 = .ok (.iload 4, 2) := by decide +kernel
theorem dX4_findDepth_71 : decode cX4_findDepth 71 = .ok (.iaload, 1) := by decide +kernel
theorem dX4_findDepth_72 : decode cX4_findDepth 72 = .ok (.aload_n 0, 1) := by decide +kernel
theorem dX4_findDepth_73 : decode cX4_findDepth 73 = .ok (.iload 4, 2) := by decide +kernel
theorem dX4_findDepth_75 : decode cX4_findDepth 75 = .ok (.invokevirtual 142, 3) := by decide +kernel
theorem dX4_findDepth_78 : decode cX4_findDepth 78 = .ok (.iadd, 1) := by decide +kernel
theorem dX4_findDepth_79 : decode cX4_findDepth 79 = .ok (.aload_n 0, 1) := by decide +kernel
theorem dX4_findDepth_80 : decode cX4_findDepth 80 = .ok (.getfield 52, 3) := by decide +kernel
theorem dX4_findDepth_83 : decode cX4_findDepth 83 = .ok (.iload_n 2, 1) := by decide +kernel
theorem dX4_findDepth_84 : decode cX4_findDepth 84 = .ok (.iaload, 1) := by decide +kernel
theorem dX4_findDepth_85 : decode cX4_findDepth 85 = .ok (.if_icmp .le 20, 3) := by decide +kernel
theorem dX4_findDepth_88 : decode cX4_findDepth 88 = .ok (.aload_n 0, 1) := by decide +kernel
theorem dX4_findDepth_89 : decode cX4_findDepth 89 = .ok (.getfield 52, 3) := by decide +kernel
theorem dX4_findDepth_92 : decode cX4_findDepth 92 = .ok (.iload 4, 2) := by decide +kernel
theorem dX4_findDepth_94 : decode cX4_findDepth 94 = .ok (.iaload, 1) := by decide +kernel
theorem dX4_findDepth_95 : decode cX4_findDepth 95 = .ok (.aload_n 0, 1) := by decide +kernel
theorem dX4_findDepth_96 : decode cX4_findDepth 96 = .ok (.iload 4, 2) := by decide +kernel
theorem dX4_findDepth_98 : decode cX4_findDepth 98 = .ok (.invokevirtual 142, 3) := by decide +kernel
theorem dX4_findDepth_101 : decode cX4_findDepth 101 = .ok (.iadd, 1) := by decide +kernel
theorem dX4_findDepth_102 : decode cX4_findDepth 102 = .ok (.goto 9, 3) := by decide +kernel
theorem dX4_findDepth_105 : decode cX4_findDepth 105 = .ok (.aload_n 0, 1) := by decide +kernel
theorem dX4_findDepth_106 : decode cX4_findDepth 106 = .ok (.getfield 52, 3) := by decide +kernel
theorem dX4_findDepth_109 : decode cX4_findDepth 109 = .ok (.iload_n 2, 1) := by decide +kernel
theorem dX4_findDepth_110 : decode cX4_findDepth 110 = .ok (.iaload, 1) := by decide +kernel
theorem dX4_findDepth_111 : decode cX4_findDepth 111 = .ok (.iastore, 1) := by decide +kernel
theorem dX4_findDepth_112 : decode cX4_findDepth 112 = .ok (.iinc 3 1, 3) := by decide +kernel
theorem dX4_findDepth_115 : decode cX4_findDepth 115 = .ok (.goto (-84), 3) := by decide +kernel
theorem dX4_findDepth_118 : decode cX4_findDepth 118 = .ok (.aload_n 0, 1) := by decide +kernel
theorem dX4_findDepth_119 : decode cX4_findDepth 119 = .ok (.aload_n 0, 1) := by decide +kernel
theorem dX4_findDepth_120 : decode cX4_findDepth 120 = .ok (.getfield 52, 3) := by decide +kernel
theorem dX4_findDepth_123 : decode cX4_findDepth 123 = .ok (.iload_n 2, 1) := by decide +kernel
theorem dX4_findDepth_124 : decode cX4_findDepth 124 = .ok (.iaload, 1) := by decide +kernel
theorem dX4_findDepth_125 : decode cX4_findDepth 125 = .ok (.aload_n 0, 1) := by decide +kernel
theorem dX4_findDepth_126 : decode cX4_findDepth 126 = .ok (.iload_n 2, 1) := by decide +kernel
theorem dX4_findDepth_127 : decode cX4_findDepth 127 = .ok (.invokevirtual 142, 3) := by decide +kernel
theorem dX4_findDepth_130 : decode cX4_findDepth 130 = .ok (.iadd, 1) := by decide +kernel
theorem dX4_findDepth_131 : decode cX4_findDepth 131 = .ok (.aload_n 0, 1) := by decide +kernel
theorem dX4_findDepth_132 : decode cX4_findDepth 132 = .ok (.getfield 139, 3) := by decide +kernel
theorem dX4_findDepth_135 : decode cX4_findDepth 135 = .ok (.if_icmp .le 18, 3) := by decide +kernel
theorem dX4_findDepth_138 : decode cX4_findDepth 138 = .ok (.aload_n 0, 1) := by decide +kernel
theorem dX4_findDepth_139 : decode cX4_findDepth 139 = .ok (.getfield 52, 3) := by decide +kernel
theorem dX4_findDepth_142 : decode cX4_findDepth 142 = .ok (.iload_n 2, 1) := by decide +kernel
theorem dX4_findDepth_143 : decode cX4_findDepth 143 = .ok (.iaload, 1) := by decide +kernel
theorem dX4_findDepth_144 : decode cX4_findDepth 144 = .ok (.aload_n 0, 1) := by decide +kernel
theorem dX4_findDepth_145 : decode cX4_findDepth 145 = .ok (.iload_n 2, 1) := by decide +kernel
theorem dX4_findDepth_146 : decode cX4_findDepth 146 = .ok (.invokevirtual 142, 3) := by decide +kernel
theorem dX4_findDepth_149 : decode cX4_findDepth 149 = .ok (.iadd, 1) := by decide +kernel
theorem dX4_findDepth_150 : decode cX4_findDepth 150 = .ok (.goto 7, 3) := by decide +kernel
theorem dX4_findDepth_153 : decode cX4_findDepth 153 = .ok (.aload_n 0, 1) := by decide +kernel
theorem dX4_findDepth_154 : decode cX4_findDepth 154 = .ok (.getfield 139, 3) := by decide +kernel
theorem dX4_findDepth_157 : decode cX4_findDepth 157 = .ok (.putfield 139, 3) := by decide +kernel
theorem dX4_findDepth_160 : decode cX4_findDepth 160 = .ok (.iinc 1 1, 3) := by decide +kernel
theorem dX4_findDepth_163 : decode cX4_findDepth 163 = .ok (.goto (-156), 3) := by decide +kernel
theorem dX4_findDepth_166 : decode cX4_findDepth 166 = .ok (.return_, 1) := by decide +kernel
theorem dX4_findPlaces_0 : decode cX4_findPlaces 0 = .ok (.iconst 0, 1) := by decide +kernel
theorem dX4_findPlaces_1 : decode cX4_findPlaces 1 = .ok (.istore_n 1, 1) := by decide +kernel
theorem dX4_findPlaces_2 : decode cX4_findPlaces 2 = .ok (.iload_n 1, 1) := by decide +kernel
theorem dX4_findPlaces_3 : decode cX4_findPlaces 3 = .ok (.aload_n 0, 1) := by decide +kernel
theorem dX4_findPlaces_4 : decode cX4_findPlaces 4 = .ok (.getfield 86, 3) := by decide +kernel
theorem dX4_findPlaces_7 : decode cX4_findPlaces 7 = .ok (.if_icmp .ge 24, 3) := by decide +kernel
theorem dX4_findPlaces_10 : decode cX4_findPlaces 10 = .ok (.aload_n 0, 1) := by decide +kernel
theorem dX4_findPlaces_11 : decode cX4_findPlaces 11 = .ok (.getfield 55, 3) := by decide +kernel
theorem dX4_findPlaces_14 : decode cX4_findPlaces 14 = .ok (.aload_n 0, 1) := by decide +kernel
theorem dX4_findPlaces_15 : decode cX4_findPlaces 15 = .ok (.getfield 31, 3) := by decide +kernel
theorem dX4_findPlaces_18 : decode cX4_findPlaces 18 = .ok (.bipush 6, 2) := by decide +kernel
theorem dX4_findPlaces_20 : decode cX4_findPlaces 20 = .ok (.iload_n 1, 1) := by decide +kernel
theorem dX4_findPlaces_21 : decode cX4_findPlaces 21 = .ok (.iadd, 1) := by decide +kernel
theorem dX4_findPlaces_22 : decode cX4_findPlaces 22 = .ok (.iaload, 1) := by decide +kernel
theorem dX4_findPlaces_23 : decode cX4_findPlaces 23 = .ok (.iload_n 1, 1) := by decide +kernel
theorem dX4_findPlaces_24 : decode cX4_findPlaces 24 = .ok (.iastore, 1) := by decide +kernel
theorem dX4_findPlaces_25 : decode cX4_findPlaces 25 = .ok (.iinc 1 1, 3) := by decide +kernel
theorem dX4_findPlaces_28 : decode cX4_findPlaces 28 = .ok (.goto (-26), 3) := by decide +kernel
theorem dX4_findPlaces_31 : decode cX4_findPlaces 31 = .ok (.aload_n 0, 1) := by decide +kernel
theorem dX4_findPlaces_32 : decode cX4_findPlaces 32 = .ok (.invokevirtual 145, 3) := by decide +kernel
theorem dX4_findPlaces_35 : decode cX4_findPlaces 35 = .ok (.aload_n 0, 1) := by decide +kernel
theorem dX4_findPlaces_36 : decode cX4_findPlaces 36 = .ok (.invokevirtual 148, 3) := by decide +kernel
theorem dX4_findPlaces_39 : decode cX4_findPlaces 39 = .ok (.return_, 1) := by decide +kernel
theorem dX4_waste_0 : decode cX4_waste 0 = .ok (.aload_n 0, 1) := by decide +kernel
theorem dX4_waste_1 : decode cX4_waste 1 = .ok (.getfield 136, 3) := by decide +kernel
theorem dX4_waste_4 : decode cX4_waste 4 = .ok (.aload_n 0, 1) := by decide +kernel
theorem dX4_waste_5 : decode cX4_waste 5 = .ok (.getfield 139, 3) := by decide +kernel
theorem dX4_waste_8 : decode cX4_waste 8 = .ok (.imul, 1) := by decide +kernel
theorem dX4_waste_9 : decode cX4_waste 9 = .ok (.istore_n 1, 1) := by decide +kernel
theorem dX4_waste_10 : decode cX4_waste 10 = .ok (.iconst 0, 1) := by decide +kernel
theorem dX4_waste_11 : decode cX4_waste 11 = .ok (.istore_n 2, 1) := by decide +kernel
theorem dX4_waste_12 : decode cX4_waste 12 = .ok (.iload_n 2, 1) := by decide +kernel
theorem dX4_waste_13 : decode cX4_waste 13 = .ok (.aload_n 0, 1) := by decide +kernel
theorem dX4_waste_14 : decode cX4_waste 14 = .ok (.getfield 86, 3) := by decide +kernel
theorem dX4_waste_17 : decode cX4_waste 17 = .ok (.if_icmp .ge 24, 3) := by decide +kernel
theorem dX4_waste_20 : decode cX4_waste 20 = .ok (.iload_n 1, 1) := by decide +kernel
theorem dX4_waste_21 : decode cX4_waste 21 = .ok (.aload_n 0, 1) := by decide +kernel
theorem dX4_waste_22 : decode cX4_waste 22 = .ok (.getfield 25, 3) := by decide +kernel
theorem dX4_waste_25 : decode cX4_waste 25 = .ok (.iload_n 2, 1) := by decide +kernel
theorem dX4_waste_26 : decode cX4_waste 26 = .ok (.iaload, 1) := by decide +kernel
theorem dX4_waste_27 : decode cX4_waste 27 = .ok (.aload_n 0, 1) := by decide +kernel
theorem dX4_waste_28 : decode cX4_waste 28 = .ok (.iload_n 2, 1) := by decide +kernel
theorem dX4_waste_29 : decode cX4_waste 29 = .ok (.invokevirtual 142, 3) := by decide +kernel
theorem dX4_waste_32 : decode cX4_waste 32 = .ok (.imul, 1) := by decide +kernel
theorem dX4_waste_33 : decode cX4_waste 33 = .ok (.isub, 1) := by decide +kernel
theorem dX4_waste_34 : decode cX4_waste 34 = .ok (.istore_n 1, 1) := by decide +kernel
theorem dX4_waste_35 : decode cX4_waste 35 = .ok (.iinc 2 1, 3) := by decide +kernel
theorem dX4_waste_38 : decode cX4_waste 38 = .ok (.goto (-26), 3) := by decide +kernel
theorem dX4_waste_41 : decode cX4_waste 41 = .ok (.iload_n 1, 1) := by decide +kernel
theorem dX4_waste_42 : decode cX4_waste 42 = .ok (.ireturn, 1) := by decide +kernel
theorem dX4_share_0 : decode cX4_share 0 = .ok (.iload_n 0, 1) := by decide +kernel
theorem dX4_share_1 : decode cX4_share 1 = .ok (.iload_n 2, 1) := by decide +kernel
theorem dX4_share_2 : decode cX4_share 2 = .ok (.iload_n 3, 1) := by decide +kernel
theorem dX4_share_3 : decode cX4_share 3 = .ok (.iadd, 1) := by decide +kernel
theorem dX4_share_4 : decode cX4_share 4 = .ok (.if_icmp .ge 14, 3) := by decide +kernel
theorem dX4_share_7 : decode cX4_share 7 = .ok (.iload_n 2, 1) := by decide +kernel
theorem dX4_share_8 : decode cX4_share 8 = .ok (.iload_n 0, 1) := by decide +kernel
theorem dX4_share_9 : decode cX4_share 9 = .ok (.iload_n 1, 1) := by decide +kernel
theorem dX4_share_10 : decode cX4_share 10 = .ok (.iadd, 1) := by decide +kernel
theorem dX4_share_11 : decode cX4_share 11 = .ok (.if_icmp .ge 7, 3) := by decide +kernel
theorem dX4_share_14 : decode cX4_share 14 = .ok (.iconst 1, 1) := by decide +kernel
theorem dX4_share_15 : decode cX4_share 15 = .ok (.goto 4, 3) := by decide +kernel
theorem dX4_share_18 : decode cX4_share 18 = .ok (.iconst 0, 1) := by decide +kernel
theorem dX4_share_19 : decode cX4_share 19 = .ok (.ireturn, 1) := by decide +kernel
theorem dX4_doTouch_0 : decode cX4_doTouch 0 = .ok (.aload_n 0, 1) := by decide +kernel
theorem dX4_doTouch_1 : decode cX4_doTouch 1 = .ok (.getfield 49, 3) := by decide +kernel
theorem dX4_doTouch_4 : decode cX4_doTouch 4 = .ok (.iload_n 1, 1) := by decide +kernel
theorem dX4_doTouch_5 : decode cX4_doTouch 5 = .ok (.iaload, 1) := by decide +kernel
theorem dX4_doTouch_6 : decode cX4_doTouch 6 = .ok (.aload_n 0, 1) := by decide +kernel
theorem dX4_doTouch_7 : decode cX4_doTouch 7 = .ok (.getfield 25, 3) := by decide +kernel
theorem dX4_doTouch_10 : decode cX4_doTouch 10 = .ok (.iload_n 1, 1) := by decide +kernel
theorem dX4_doTouch_11 : decode cX4_doTouch 11 = .ok (.iaload, 1) := by decide +kernel
theorem dX4_doTouch_12 : decode cX4_doTouch 12 = .ok (.iadd, 1) := by decide +kernel
theorem dX4_doTouch_13 : decode cX4_doTouch 13 = .ok (.aload_n 0, 1) := by decide +kernel
theorem dX4_doTouch_14 : decode cX4_doTouch 14 = .ok (.getfield 49, 3) := by decide +kernel
theorem dX4_doTouch_17 : decode cX4_doTouch 17 = .ok (.iload_n 2, 1) := by decide +kernel
theorem dX4_doTouch_18 : decode cX4_doTouch 18 = .ok (.iaload, 1) := by decide +kernel
theorem dX4_doTouch_19 : decode cX4_doTouch 19 = .ok (.if_icmp .eq 25, 3) := by decide +kernel
theorem dX4_doTouch_22 : decode cX4_doTouch 22 = .ok (.aload_n 0, 1) := by decide +kernel
theorem dX4_doTouch_23 : decode cX4_doTouch 23 = .ok (.getfield 49, 3) := by decide +kernel
theorem dX4_doTouch_26 : decode cX4_doTouch 26 = .ok (.iload_n 2, 1) := by decide +kernel
theorem dX4_doTouch_27 : decode cX4_doTouch 27 = .ok (.iaload, 1) := by decide +kernel
theorem dX4_doTouch_28 : decode cX4_doTouch 28 = .ok (.aload_n 0, 1) := by decide +kernel
theorem dX4_doTouch_29 : decode cX4_doTouch 29 = .ok (.getfield 25, 3) := by decide +kernel
theorem dX4_doTouch_32 : decode cX4_doTouch 32 = .ok (.iload_n 2, 1) := by decide +kernel
theorem dX4_doTouch_33 : decode cX4_doTouch 33 = .ok (.iaload, 1) := by decide +kernel
theorem dX4_doTouch_34 : decode cX4_doTouch 34 = .ok (.iadd, 1) := by decide +kernel
theorem dX4_doTouch_35 : decode cX4_doTouch 35 = .ok (.aload_n 0, 1) := by decide +kernel
theorem dX4_doTouch_36 : decode cX4_doTouch 36 = .ok (.getfield 49, 3) := by decide +kernel
theorem dX4_doTouch_39 : decode cX4_doTouch 39 = .ok (.iload_n 1, 1) := by decide +kernel
theorem dX4_doTouch_40 : decode cX4_doTouch 40 = .ok (.iaload, 1) := by decide +kernel
theorem dX4_doTouch_41 : decode cX4_doTouch 41 = .ok (.if_icmp .ne 7, 3) := by decide +kernel
theorem dX4_doTouch_44 : decode cX4_doTouch 44 = .ok (.iconst 1, 1) := by decide +kernel
theorem dX4_doTouch_45 : decode cX4_doTouch 45 = .ok (.goto 4, 3) := by decide +kernel
theorem dX4_doTouch_48 : decode cX4_doTouch 48 = .ok (.iconst 0, 1) := by decide +kernel
theorem dX4_doTouch_49 : decode cX4_doTouch 49 = .ok (.istore_n 3, 1) := by decide +kernel
theorem dX4_doTouch_50 : decode cX4_doTouch 50 = .ok (.aload_n 0, 1) := by decide +kernel
theorem dX4_doTouch_51 : decode cX4_doTouch 51 = .ok (.getfield 52, 3) := by decide +kernel
theorem dX4_doTouch_54 : decode cX4_doTouch 54 = .ok (.iload_n 1, 1) := by decide +kernel
theorem dX4_doTouch_55 : decode cX4_doTouch 55 = .ok (.iaload, 1) := by decide +kernel
theorem dX4_doTouch_56 : decode cX4_doTouch 56 = .ok (.aload_n 0, 1) := by decide +kernel
theorem dX4_doTouch_57 : decode cX4_doTouch 57 = .ok (.iload_n 1, 1) := by decide +kernel
theorem dX4_doTouch_58 : decode cX4_doTouch 58 = .ok (.invokevirtual 142, 3) := by decide +kernel
theorem dX4_doTouch_61 : decode cX4_doTouch 61 = .ok (.iadd, 1) := by decide +kernel
theorem dX4_doTouch_62 : decode cX4_doTouch 62 = .ok (.aload_n 0, 1) := by decide +kernel
theorem dX4_doTouch_63 : decode cX4_doTouch 63 = .ok (.getfield 52, 3) := by decide +kernel
theorem dX4_doTouch_66 : decode cX4_doTouch 66 = .ok (.iload_n 2, 1) := by decide +kernel
theorem dX4_doTouch_67 : decode cX4_doTouch 67 = .ok (.iaload, 1) := by decide +kernel
theorem dX4_doTouch_68 : decode cX4_doTouch 68 = .ok (.if_icmp .eq 24, 3) := by decide +kernel
theorem dX4_doTouch_71 : decode cX4_doTouch 71 = .ok (.aload_n 0, 1) := by decide +kernel
theorem dX4_doTouch_72 : decode cX4_doTouch 72 = .ok (.getfield 52, 3) := by decide +kernel
theorem dX4_doTouch_75 : decode cX4_doTouch 75 = .ok (.iload_n 2, 1) := by decide +kernel
theorem dX4_doTouch_76 : decode cX4_doTouch 76 = .ok (.iaload, 1) := by decide +kernel
theorem dX4_doTouch_77 : decode cX4_doTouch 77 = .ok (.aload_n 0, 1) := by decide +kernel
theorem dX4_doTouch_78 : decode cX4_doTouch 78 = .ok (.iload_n 2, 1) := by decide +kernel
theorem dX4_doTouch_79 : decode cX4_doTouch 79 = .ok (.invokevirtual 142, 3) := by decide +kernel
theorem dX4_doTouch_82 : decode cX4_doTouch 82 = .ok (.iadd, 1) := by decide +kernel
theorem dX4_doTouch_83 : decode cX4_doTouch 83 = .ok (.aload_n 0, 1) := by decide +kernel
theorem dX4_doTouch_84 : decode cX4_doTouch 84 = .ok (.getfield 52, 3) := by decide +kernel
theorem dX4_doTouch_87 : decode cX4_doTouch 87 = .ok (.iload_n 1, 1) := by decide +kernel
theorem dX4_doTouch_88 : decode cX4_doTouch 88 = .ok (.iaload, 1) := by decide +kernel
theorem dX4_doTouch_89 : decode cX4_doTouch 89 = .ok (.if_icmp .ne 7, 3) := by decide +kernel
theorem dX4_doTouch_92 : decode cX4_doTouch 92 = .ok (.iconst 1, 1) := by decide +kernel
theorem dX4_doTouch_93 : decode cX4_doTouch 93 = .ok (.goto 4, 3) := by decide +kernel
theorem dX4_doTouch_96 : decode cX4_doTouch 96 = .ok (.iconst 0, 1) := by decide +kernel
theorem dX4_doTouch_97 : decode cX4_doTouch 97 = .ok (.istore 4, 2) := by decide +kernel
theorem dX4_doTouch_99 : decode cX4_doTouch 99 = .ok (.iload_n 1, 1) := by decide +kernel
theorem dX4_doTouch_100 : decode cX4_doTouch 100 = .ok (.iload_n 2, 1) := by decide +kernel
theorem dX4_doTouch_101 : decode cX4_doTouch 101 = .ok (.if_icmp .eq 74, 3) := by decide +kernel
theorem dX4_doTouch_104 : decode cX4_doTouch 104 = .ok (.iload_n 3, 1) := by decide +kernel
theorem dX4_doTouch_105 : decode cX4_doTouch 105 = .ok (.ifCond .eq 31, 3) := by decide +kernel
theorem dX4_doTouch_108 : decode cX4_doTouch 108 = .ok (.aload_n 0, 1) := by decide +kernel
theorem dX4_doTouch_109 : decode cX4_doTouch 109 = .ok (.getfield 52, 3) := by decide +kernel
theorem dX4_doTouch_112 : decode cX4_doTouch 112 = .ok (.iload_n 1, 1) := by decide +kernel
theorem dX4_doTouch_113 : decode cX4_doTouch 113 = .ok (.iaload, 1) := by decide +kernel
theorem dX4_doTouch_114 : decode cX4_doTouch 114 = .ok (.aload_n 0, 1) := by decide +kernel
theorem dX4_doTouch_115 : decode cX4_doTouch 115 = .ok (.iload_n 1, 1) := by decide +kernel
theorem dX4_doTouch_116 : decode cX4_doTouch 116 = .ok (.invokevirtual 142, 3) := by decide +kernel
theorem dX4_doTouch_119 : decode cX4_doTouch 119 = .ok (.aload_n 0, 1) := by decide +kernel
theorem dX4_doTouch_120 : decode cX4_doTouch 120 = .ok (.getfield 52, 3) := by decide +kernel
theorem dX4_doTouch_123 : decode cX4_doTouch 123 = .ok (.iload_n 2, 1) := by decide +kernel
theorem dX4_doTouch_124 : decode cX4_doTouch 124 = .ok (.iaload, 1) := by decide +kernel
theorem dX4_doTouch_125 : decode cX4_doTouch 125 = .ok (.aload_n 0, 1) := by decide +kernel
theorem dX4_doTouch_126 : decode cX4_doTouch 126 = .ok (.iload_n 2, 1) := by decide +kernel
theorem dX4_doTouch_127 : decode cX4_doTouch 127 = .ok (.invokevirtual 142, 3) := by decide +kernel
theorem dX4_doTouch_130 : decode cX4_doTouch 130 = .ok (.invokestatic 151, 3) := by decide +kernel
theorem dX4_doTouch_133 : decode cX4_doTouch 133 = .ok (.ifCond .ne 38, 3) := by decide +kernel
theorem dX4_doTouch_136 : decode cX4_doTouch 136 = .ok (.iload 4, 2) := by decide +kernel
theorem dX4_doTouch_138 : decode cX4_doTouch 138 = .ok (.ifCond .eq 37, 3) := by decide +kernel
theorem dX4_doTouch_141 : decode cX4_doTouch 141 = .ok (.aload_n 0, 1) := by decide +kernel
theorem dX4_doTouch_142 : decode cX4_doTouch 142 = .ok (.getfield 49, 3) := by decide +kernel
theorem dX4_doTouch_145 : decode cX4_doTouch 145 = .ok (.iload_n 1, 1) := by decide +kernel
theorem dX4_doTouch_146 : decode cX4_doTouch 146 = .ok (.iaload, 1) := by decide +kernel
theorem dX4_doTouch_147 : decode cX4_doTouch 147 = .ok (.aload_n 0, 1) := by decide +kernel
theorem dX4_doTouch_148 : decode cX4_doTouch 148 = .ok (.getfield 25, 3) := by decide +kernel
theorem dX4_doTouch_151 : decode cX4_doTouch 151 = .ok (.iload_n 1, 1) := by decide +kernel
theorem dX4_doTouch_152 : decode cX4_doTouch 152 = .ok (.iaload, 1) := by decide +kernel
theorem dX4_doTouch_153 : decode cX4_doTouch 153 = .ok (.aload_n 0, 1) := by decide +kernel
theorem dX4_doTouch_154 : decode cX4_doTouch 154 = .ok (.getfield 49, 3) := by decide +kernel
theorem dX4_doTouch_157 : decode cX4_doTouch 157 = .ok (.iload_n 2, 1) := by decide +kernel
theorem dX4_doTouch_158 : decode cX4_doTouch 158 = .ok (.iaload, 1) := by decide +kernel
theorem dX4_doTouch_159 : decode cX4_doTouch 159 = .ok (.aload_n 0, 1) := by decide +kernel
theorem dX4_doTouch_160 : decode cX4_doTouch 160 = .ok (.getfield 25, 3) := by decide +kernel
theorem dX4_doTouch_163 : decode cX4_doTouch 163 = .ok (.iload_n 2, 1) := by decide +kernel
theorem dX4_doTouch_164 : decode cX4_doTouch 164 = .ok (.iaload, 1) := by decide +kernel
theorem dX4_doTouch_165 : decode cX4_doTouch 165 = .ok (.invokestatic 151, 3) := by decide +kernel
theorem dX4_doTouch_168 : decode cX4_doTouch 168 = .ok (.ifCond .eq 7, 3) := by decide +kernel
theorem dX4_doTouch_171 : decode cX4_doTouch 171 = .ok (.iconst 1, 1) := by decide +kernel
theorem dX4_doTouch_172 : decode cX4_doTouch 172 = .ok (.goto 4, 3) := by decide +kernel
theorem dX4_doTouch_175 : decode cX4_doTouch 175 = .ok (.iconst 0, 1) := by decide +kernel
theorem dX4_doTouch_176 : decode cX4_doTouch 176 = .ok (.ireturn, 1) := by decide +kernel
theorem dX4_touching_0 : decode cX4_touching 0 = .ok (.iconst 0, 1) := by decide +kernel
theorem dX4_touching_1 : decode cX4_touching 1 = .ok (.istore_n 2, 1) := by decide +kernel
theorem dX4_touching_2 : decode cX4_touching 2 = .ok (.iconst 0, 1) := by decide +kernel
theorem dX4_touching_3 : decode cX4_touching 3 = .ok (.istore_n 3, 1) := by decide +kernel
theorem dX4_touching_4 : decode cX4_touching 4 = .ok (.iload_n 3, 1) := by decide +kernel
theorem dX4_touching_5 : decode cX4_touching 5 = .ok (.aload_n 0, 1) := by decide +kernel
theorem dX4_touching_6 : decode cX4_touching 6 = .ok (.getfield 86, 3) := by decide +kernel
theorem dX4_touching_9 : decode cX4_touching 9 = .ok (.if_icmp .ge 28, 3) := by decide +kernel
theorem dX4_touching_12 : decode cX4_touching 12 = .ok (.iload_n 2, 1) := by decide +kernel
theorem dX4_touching_13 : decode cX4_touching 13 = .ok (.aload_n 0, 1) := by decide +kernel
theorem dX4_touching_14 : decode cX4_touching 14 = .ok (.iload_n 1, 1) := by decide +kernel
theorem dX4_touching_15 : decode cX4_touching 15 = .ok (.iload_n 3, 1) := by decide +kernel
theorem dX4_touching_16 : decode cX4_touching 16 = .ok (.invokevirtual 155, 3) := by decide +kernel
theorem dX4_touching_19 : decode cX4_touching 19 = .ok (.ifCond .eq 9, 3) := by decide +kernel
theorem dX4_touching_22 : decode cX4_touching 22 = .ok (.iconst 1, 1) := by decide +kernel
theorem dX4_touching_23 : decode cX4_touching 23 = .ok (.iload_n 3, 1) := by decide +kernel
theorem dX4_touching_24 : decode cX4_touching 24 = .ok (.ishl, 1) := by decide +kernel
theorem dX4_touching_25 : decode cX4_touching 25 = .ok (.goto 4, 3) := by decide +kernel
theorem dX4_touching_28 : decode cX4_touching 28 = .ok (.iconst 0, 1) := by decide +kernel
theorem dX4_touching_29 : decode cX4_touching 29 = .ok (.ior, 1) := by decide +kernel
theorem dX4_touching_30 : decode cX4_touching 30 = .ok (.istore_n 2, 1) := by decide +kernel
theorem dX4_touching_31 : decode cX4_touching 31 = .ok (.iinc 3 1, 3) := by decide +kernel
theorem dX4_touching_34 : decode cX4_touching 34 = .ok (.goto (-30), 3) := by decide +kernel
theorem dX4_touching_37 : decode cX4_touching 37 = .ok (.iload_n 2, 1) := by decide +kernel
theorem dX4_touching_38 : decode cX4_touching 38 = .ok (.ireturn, 1) := by decide +kernel
theorem dX4_manyTouch_0 : decode cX4_manyTouch 0 = .ok (.iconst 0, 1) := by decide +kernel
theorem dX4_manyTouch_1 : decode cX4_manyTouch 1 = .ok (.istore_n 1, 1) := by decide +kernel
theorem dX4_manyTouch_2 : decode cX4_manyTouch 2 = .ok (.iconst 0, 1) := by decide +kernel
theorem dX4_manyTouch_3 : decode cX4_manyTouch 3 = .ok (.istore_n 2, 1) := by decide +kernel
theorem dX4_manyTouch_4 : decode cX4_manyTouch 4 = .ok (.iload_n 2, 1) := by decide +kernel
theorem dX4_manyTouch_5 : decode cX4_manyTouch 5 = .ok (.aload_n 0, 1) := by decide +kernel
theorem dX4_manyTouch_6 : decode cX4_manyTouch 6 = .ok (.getfield 86, 3) := by decide +kernel
theorem dX4_manyTouch_9 : decode cX4_manyTouch 9 = .ok (.if_icmp .ge 20, 3) := by decide +kernel
theorem dX4_manyTouch_12 : decode cX4_manyTouch 12 = .ok (.iload_n 1, 1) := by decide +kernel
theorem dX4_manyTouch_13 : decode cX4_manyTouch 13 = .ok (.aload_n 0, 1) := by decide +kernel
theorem dX4_manyTouch_14 : decode cX4_manyTouch 14 = .ok (.iload_n 2, 1) := by decide +kernel
theorem dX4_manyTouch_15 : decode cX4_manyTouch 15 = .ok (.invokevirtual 158, 3) := by decide +kernel
theorem dX4_manyTouch_18 : decode cX4_manyTouch 18 = .ok (.invokestatic 161, 3) := by decide +kernel
theorem dX4_manyTouch_21 : decode cX4_manyTouch 21 = .ok (.iadd, 1) := by decide +kernel
theorem dX4_manyTouch_22 : decode cX4_manyTouch 22 = .ok (.istore_n 1, 1) := by decide +kernel
theorem dX4_manyTouch_23 : decode cX4_manyTouch 23 = .ok (.iinc 2 1, 3) := by decide +kernel
theorem dX4_manyTouch_26 : decode cX4_manyTouch 26 = .ok (.goto (-22), 3) := by decide +kernel
theorem dX4_manyTouch_29 : decode cX4_manyTouch 29 = .ok (.iload_n 1, 1) := by decide +kernel
theorem dX4_manyTouch_30 : decode cX4_manyTouch 30 = .ok (.iconst 2, 1) := by decide +kernel
theorem dX4_manyTouch_31 : decode cX4_manyTouch 31 = .ok (.idiv, 1) := by decide +kernel
theorem dX4_manyTouch_32 : decode cX4_manyTouch 32 = .ok (.ireturn, 1) := by decide +kernel
theorem dX4_critical_0 : decode cX4_critical 0 = .ok (.aload_n 0, 1) := by decide +kernel
theorem dX4_critical_1 : decode cX4_critical 1 = .ok (.invokevirtual 164, 3) := by decide +kernel
theorem dX4_critical_4 : decode cX4_critical 4 = .ok (.aload_n 0, 1) := by decide +kernel
theorem dX4_critical_5 : decode cX4_critical 5 = .ok (.getfield 136, 3) := by decide +kernel
theorem dX4_critical_8 : decode cX4_critical 8 = .ok (.istore_n 1, 1) := by decide +kernel
theorem dX4_critical_9 : decode cX4_critical 9 = .ok (.iconst 0, 1) := by decide +kernel
theorem dX4_critical_10 : decode cX4_critical 10 = .ok (.istore_n 2, 1) := by decide +kernel
theorem dX4_critical_11 : decode cX4_critical 11 = .ok (.iconst 0, 1) := by decide +kernel
theorem dX4_critical_12 : decode cX4_critical 12 = .ok (.istore_n 3, 1) := by decide +kernel
theorem dX4_critical_13 : decode cX4_critical 13 = .ok (.iload_n 3, 1) := by decide +kernel
theorem dX4_critical_14 : decode cX4_critical 14 = .ok (.aload_n 0, 1) := by decide +kernel
theorem dX4_critical_15 : decode cX4_critical 15 = .ok (.getfield 86, 3) := by decide +kernel
theorem dX4_critical_18 : decode cX4_critical 18 = .ok (.if_icmp .ge 51, 3) := by decide +kernel
theorem dX4_critical_21 : decode cX4_critical 21 = .ok (.aload_n 0, 1) := by decide +kernel
theorem dX4_critical_22 : decode cX4_critical 22 = .ok (.getfield 25, 3) := by decide +kernel
theorem dX4_critical_25 : decode cX4_critical 25 = .ok (.iload_n 3, 1) := by decide +kernel
theorem dX4_critical_26 : decode cX4_critical 26 = .ok (.dup2, 1) := by decide +kernel
theorem dX4_critical_27 : decode cX4_critical 27 = .ok (.iaload, 1) := by decide +kernel
theorem dX4_critical_28 : decode cX4_critical 28 = .ok (.iconst 1, 1) := by decide +kernel
theorem dX4_critical_29 : decode cX4_critical 29 = .ok (.isub, 1) := by decide +kernel
theorem dX4_critical_30 : decode cX4_critical 30 = .ok (.iastore, 1) := by decide +kernel
theorem dX4_critical_31 : decode cX4_critical 31 = .ok (.aload_n 0, 1) := by decide +kernel
theorem dX4_critical_32 : decode cX4_critical 32 = .ok (.invokevirtual 145, 3) := by decide +kernel
theorem dX4_critical_35 : decode cX4_critical 35 = .ok (.iload_n 2, 1) := by decide +kernel
theorem dX4_critical_36 : decode cX4_critical 36 = .ok (.aload_n 0, 1) := by decide +kernel
theorem dX4_critical_37 : decode cX4_critical 37 = .ok (.getfield 136, 3) := by decide +kernel
theorem dX4_critical_40 : decode cX4_critical 40 = .ok (.iload_n 1, 1) := by decide +kernel
theorem dX4_critical_41 : decode cX4_critical 41 = .ok (.if_icmp .ge 9, 3) := by decide +kernel
theorem dX4_critical_44 : decode cX4_critical 44 = .ok (.iconst 1, 1) := by decide +kernel
theorem dX4_critical_45 : decode cX4_critical 45 = .ok (.iload_n 3, 1) := by decide +kernel
theorem dX4_critical_46 : decode cX4_critical 46 = .ok (.ishl, 1) := by decide +kernel
theorem dX4_critical_47 : decode cX4_critical 47 = .ok (.goto 4, 3) := by decide +kernel
theorem dX4_critical_50 : decode cX4_critical 50 = .ok (.iconst 0, 1) := by decide +kernel
theorem dX4_critical_51 : decode cX4_critical 51 = .ok (.ior, 1) := by decide +kernel
theorem dX4_critical_52 : decode cX4_critical 52 = .ok (.istore_n 2, 1) := by decide +kernel
theorem dX4_critical_53 : decode cX4_critical 53 = .ok (.aload_n 0, 1) := by decide +kernel
theorem dX4_critical_54 : decode cX4_critical 54 = .ok (.getfield 25, 3) := by decide +kernel
theorem dX4_critical_57 : decode cX4_critical 57 = .ok (.iload_n 3, 1) := by decide +kernel
theorem dX4_critical_58 : decode cX4_critical 58 = .ok (.dup2, 1) := by decide +kernel
theorem dX4_critical_59 : decode cX4_critical 59 = .ok (.iaload, 1) := by decide +kernel
theorem dX4_critical_60 : decode cX4_critical 60 = .ok (.iconst 1, 1) := by decide +kernel
theorem dX4_critical_61 : decode cX4_critical 61 = .ok (.iadd, 1) := by decide +kernel
theorem dX4_critical_62 : decode cX4_critical 62 = .ok (.iastore, 1) := by decide +kernel
theorem dX4_critical_63 : decode cX4_critical 63 = .ok (.iinc 3 1, 3) := by decide +kernel
theorem dX4_critical_66 : decode cX4_critical 66 = .ok (.goto (-53), 3) := by decide +kernel
theorem dX4_critical_69 : decode cX4_critical 69 = .ok (.aload_n 0, 1) := by decide +kernel
theorem dX4_critical_70 : decode cX4_critical 70 = .ok (.invokevirtual 145, 3) := by decide +kernel
theorem dX4_critical_73 : decode cX4_critical 73 = .ok (.iload_n 2, 1) := by decide +kernel
theorem dX4_critical_74 : decode cX4_critical 74 = .ok (.ireturn, 1) := by decide +kernel
theorem dX4_leftOf_0 : decode cX4_leftOf 0 = .ok (.iconst 0, 1) := by decide +kernel
theorem dX4_leftOf_1 : decode cX4_leftOf 1 = .ok (.istore_n 2, 1) := by decide +kernel
theorem dX4_leftOf_2 : decode cX4_leftOf 2 = .ok (.iconst 0, 1) := by decide +kernel
theorem dX4_leftOf_3 : decode cX4_leftOf 3 = .ok (.istore_n 3, 1) := by decide +kernel
theorem dX4_leftOf_4 : decode cX4_leftOf 4 = .ok (.iload_n 3, 1) := by decide +kernel
theorem dX4_leftOf_5 : decode cX4_leftOf 5 = .ok (.aload_n 0, 1) := by decide +kernel
theorem dX4_leftOf_6 : decode cX4_leftOf 6 = .ok (.getfield 86, 3) := by decide +kernel
theorem dX4_leftOf_9 : decode cX4_leftOf 9 = .ok (.if_icmp .ge 28, 3) := by decide +kernel
theorem dX4_leftOf_12 : decode cX4_leftOf 12 = .ok (.iload_n 2, 1) := by decide +kernel
theorem dX4_leftOf_13 : decode cX4_leftOf 13 = .ok (.aload_n 0, 1) := by decide +kernel
theorem dX4_leftOf_14 : decode cX4_leftOf 14 = .ok (.iload_n 3, 1) := by decide +kernel
theorem dX4_leftOf_15 : decode cX4_leftOf 15 = .ok (.iload_n 1, 1) := by decide +kernel
theorem dX4_leftOf_16 : decode cX4_leftOf 16 = .ok (.invokevirtual 167, 3) := by decide +kernel
theorem dX4_leftOf_19 : decode cX4_leftOf 19 = .ok (.ifCond .eq 9, 3) := by decide +kernel
theorem dX4_leftOf_22 : decode cX4_leftOf 22 = .ok (.iconst 1, 1) := by decide +kernel
theorem dX4_leftOf_23 : decode cX4_leftOf 23 = .ok (.iload_n 3, 1) := by decide +kernel
theorem dX4_leftOf_24 : decode cX4_leftOf 24 = .ok (.ishl, 1) := by decide +kernel
theorem dX4_leftOf_25 : decode cX4_leftOf 25 = .ok (.goto 4, 3) := by decide +kernel
theorem dX4_leftOf_28 : decode cX4_leftOf 28 = .ok (.iconst 0, 1) := by decide +kernel
theorem dX4_leftOf_29 : decode cX4_leftOf 29 = .ok (.ior, 1) := by decide +kernel
theorem dX4_leftOf_30 : decode cX4_leftOf 30 = .ok (.istore_n 2, 1) := by decide +kernel
theorem dX4_leftOf_31 : decode cX4_leftOf 31 = .ok (.iinc 3 1, 3) := by decide +kernel
theorem dX4_leftOf_34 : decode cX4_leftOf 34 = .ok (.goto (-30), 3) := by decide +kernel
theorem dX4_leftOf_37 : decode cX4_leftOf 37 = .ok (.iload_n 2, 1) := by decide +kernel
theorem dX4_leftOf_38 : decode cX4_leftOf 38 = .ok (.ireturn, 1) := by decide +kernel
theorem dX4_aboveOf_0 : decode cX4_aboveOf 0 = .ok (.iconst 0, 1) := by decide +kernel
theorem dX4_aboveOf_1 : decode cX4_aboveOf 1 = .ok (.istore_n 2, 1) := by decide +kernel
theorem dX4_aboveOf_2 : decode cX4_aboveOf 2 = .ok (.iconst 0, 1) := by decide +kernel
theorem dX4_aboveOf_3 : decode cX4_aboveOf 3 = .ok (.istore_n 3, 1) := by decide +kernel
theorem dX4_aboveOf_4 : decode cX4_aboveOf 4 = .ok (.iload_n 3, 1) := by decide +kernel
theorem dX4_aboveOf_5 : decode cX4_aboveOf 5 = .ok (.aload_n 0, 1) := by decide +kernel
theorem dX4_aboveOf_6 : decode cX4_aboveOf 6 = .ok (.getfield 86, 3) := by decide +kernel
theorem dX4_aboveOf_9 : decode cX4_aboveOf 9 = .ok (.if_icmp .ge 28, 3) := by decide +kernel
theorem dX4_aboveOf_12 : decode cX4_aboveOf 12 = .ok (.iload_n 2, 1) := by decide +kernel
theorem dX4_aboveOf_13 : decode cX4_aboveOf 13 = .ok (.aload_n 0, 1) := by decide +kernel
theorem dX4_aboveOf_14 : decode cX4_aboveOf 14 = .ok (.iload_n 3, 1) := by decide +kernel
theorem dX4_aboveOf_15 : decode cX4_aboveOf 15 = .ok (.iload_n 1, 1) := by decide +kernel
theorem dX4_aboveOf_16 : decode cX4_aboveOf 16 = .ok (.invokevirtual 170, 3) := by decide +kernel
theorem dX4_aboveOf_19 : decode cX4_aboveOf 19 = .ok (.ifCond .eq 9, 3) := by decide +kernel
theorem dX4_aboveOf_22 : decode cX4_aboveOf 22 = .ok (.iconst 1, 1) := by decide +kernel
theorem dX4_aboveOf_23 : decode cX4_aboveOf 23 = .ok (.iload_n 3, 1) := by decide +kernel
theorem dX4_aboveOf_24 : decode cX4_aboveOf 24 = .ok (.ishl, 1) := by decide +kernel
theorem dX4_aboveOf_25 : decode cX4_aboveOf 25 = .ok (.goto 4, 3) := by decide +kernel
theorem dX4_aboveOf_28 : decode cX4_aboveOf 28 = .ok (.iconst 0, 1) := by decide +kernel
theorem dX4_aboveOf_29 : decode cX4_aboveOf 29 = .ok (.ior, 1) := by decide +kernel
theorem dX4_aboveOf_30 : decode cX4_aboveOf 30 = .ok (.istore_n 2, 1) := by decide +kernel
theorem dX4_aboveOf_31 : decode cX4_aboveOf 31 = .ok (.iinc 3 1, 3) := by decide +kernel
theorem dX4_aboveOf_34 : decode cX4_aboveOf 34 = .ok (.goto (-30), 3) := by decide +kernel
theorem dX4_aboveOf_37 : decode cX4_aboveOf 37 = .ok (.iload_n 2, 1) := by decide +kernel
theorem dX4_aboveOf_38 : decode cX4_aboveOf 38 = .ok (.ireturn, 1) := by decide +kernel
theorem dX4_ofArea_0 : decode cX4_ofArea 0 = .ok (.aload_n 0, 1) := by decide +kernel
theorem dX4_ofArea_1 : decode cX4_ofArea 1 = .ok (.iload_n 1, 1) := by decide +kernel
theorem dX4_ofArea_2 : decode cX4_ofArea 2 = .ok (.invokevirtual 173, 3) := by decide +kernel
theorem dX4_ofArea_5 : decode cX4_ofArea 5 = .ok (.ifCond .ne 5, 3) := by decide +kernel
theorem dX4_ofArea_8 : decode cX4_ofArea 8 = .ok (.iconst (-1), 1) := by decide +kernel
theorem dX4_ofArea_9 : decode cX4_ofArea 9 = .ok (.ireturn, 1) := by decide +kernel
theorem dX4_ofArea_10 : decode cX4_ofArea 10 = .ok (.aload_n 0, 1) := by decide +kernel
theorem dX4_ofArea_11 : decode cX4_ofArea 11 = .ok (.invokevirtual 164, 3) := by decide +kernel
theorem dX4_ofArea_14 : decode cX4_ofArea 14 = .ok (.iload_n 2, 1) := by decide +kernel
theorem dX4_ofArea_15 : decode cX4_ofArea 15 = .ok (.tableswitch 155 0 12 #[65, 72, 79, 86, 92, 99, 106, 112, 118, 124, 133, 140, 147], 65) := by decide +kernel
theorem dX4_ofArea_80 : decode cX4_ofArea 80 = .ok (.aload_n 0, 1) := by decide +kernel
theorem dX4_ofArea_81 : decode cX4_ofArea 81 = .ok (.getfield 19, 3) := by decide +kernel
theorem dX4_ofArea_84 : decode cX4_ofArea 84 = .ok (.iload_n 1, 1) := by decide +kernel
theorem dX4_ofArea_85 : decode cX4_ofArea 85 = .ok (.iaload, 1) := by decide +kernel
theorem dX4_ofArea_86 : decode cX4_ofArea 86 = .ok (.ireturn, 1) := by decide +kernel
theorem dX4_ofArea_87 : decode cX4_ofArea 87 = .ok (.aload_n 0, 1) := by decide +kernel
theorem dX4_ofArea_88 : decode cX4_ofArea 88 = .ok (.getfield 22, 3) := by decide +kernel
theorem dX4_ofArea_91 : decode cX4_ofArea 91 = .ok (.iload_n 1, 1) := by decide +kernel
theorem dX4_ofArea_92 : decode cX4_ofArea 92 = .ok (.iaload, 1) := by decide +kernel
theorem dX4_ofArea_93 : decode cX4_ofArea 93 = .ok (.ireturn, 1) := by decide +kernel
theorem dX4_ofArea_94 : decode cX4_ofArea 94 = .ok (.aload_n 0, 1) := by decide +kernel
theorem dX4_ofArea_95 : decode cX4_ofArea 95 = .ok (.getfield 25, 3) := by decide +kernel
theorem dX4_ofArea_98 : decode cX4_ofArea 98 = .ok (.iload_n 1, 1) := by decide +kernel
theorem dX4_ofArea_99 : decode cX4_ofArea 99 = .ok (.iaload, 1) := by decide +kernel
theorem dX4_ofArea_100 : decode cX4_ofArea 100 = .ok (.ireturn, 1) := by decide +kernel
theorem dX4_ofArea_101 : decode cX4_ofArea 101 = .ok (.aload_n 0, 1) := by decide +kernel
theorem dX4_ofArea_102 : decode cX4_ofArea 102 = .ok (.iload_n 1, 1) := by decide +kernel
theorem dX4_ofArea_103 : decode cX4_ofArea 103 = .ok (.invokevirtual 142, 3) := by decide +kernel
theorem dX4_ofArea_106 : decode cX4_ofArea 106 = .ok (.ireturn, 1) := by decide +kernel
theorem dX4_ofArea_107 : decode cX4_ofArea 107 = .ok (.aload_n 0, 1) := by decide +kernel
theorem dX4_ofArea_108 : decode cX4_ofArea 108 = .ok (.getfield 49, 3) := by decide +kernel
theorem dX4_ofArea_111 : decode cX4_ofArea 111 = .ok (.iload_n 1, 1) := by decide +kernel
theorem dX4_ofArea_112 : decode cX4_ofArea 112 = .ok (.iaload, 1) := by decide +kernel
theorem dX4_ofArea_113 : decode cX4_ofArea 113 = .ok (.ireturn, 1) := by decide +kernel
theorem dX4_ofArea_114 : decode cX4_ofArea 114 = .ok (.aload_n 0, 1) := by decide +kernel
theorem dX4_ofArea_115 : decode cX4_ofArea 115 = .ok (.getfield 52, 3) := by decide +kernel
theorem dX4_ofArea_118 : decode cX4_ofArea 118 = .ok (.iload_n 1, 1) := by decide +kernel
theorem dX4_ofArea_119 : decode cX4_ofArea 119 = .ok (.iaload, 1) := by decide +kernel
theorem dX4_ofArea_120 : decode cX4_ofArea 120 = .ok (.ireturn, 1) := by decide +kernel
theorem dX4_ofArea_121 : decode cX4_ofArea 121 = .ok (.aload_n 0, 1) := by decide +kernel
theorem dX4_ofArea_122 : decode cX4_ofArea 122 = .ok (.iload_n 1, 1) := by decide +kernel
theorem dX4_ofArea_123 : decode cX4_ofArea 123 = .ok (.invokevirtual 176, 3) := by decide +kernel
theorem dX4_ofArea_126 : decode cX4_ofArea 126 = .ok (.ireturn, 1) := by decide +kernel
theorem dX4_ofArea_127 : decode cX4_ofArea 127 = .ok (.aload_n 0, 1) := by decide +kernel
theorem dX4_ofArea_128 : decode cX4_ofArea 128 = .ok (.iload_n 1, 1) := by decide +kernel
theorem dX4_ofArea_129 : decode cX4_ofArea 129 = .ok (.invokevirtual 179, 3) := by decide +kernel
theorem dX4_ofArea_132 : decode cX4_ofArea 132 = .ok (.ireturn, 1) := by decide +kernel
theorem dX4_ofArea_133 : decode cX4_ofArea 133 = .ok (.aload_n 0, 1) := by decide +kernel
theorem dX4_ofArea_134 : decode cX4_ofArea 134 = .ok (.iload_n 1, 1) := by decide +kernel
theorem dX4_ofArea_135 : decode cX4_ofArea 135 = .ok (.invokevirtual 158, 3) := by decide +kernel
theorem dX4_ofArea_138 : decode cX4_ofArea 138 = .ok (.ireturn, 1) := by decide +kernel
theorem dX4_ofArea_139 : decode cX4_ofArea 139 = .ok (.aload_n 0, 1) := by decide +kernel
theorem dX4_ofArea_140 : decode cX4_ofArea 140 = .ok (.invokevirtual 182, 3) := by decide +kernel
theorem dX4_ofArea_143 : decode cX4_ofArea 143 = .ok (.iload_n 1, 1) := by decide +kernel
theorem dX4_ofArea_144 : decode cX4_ofArea 144 = .ok (.ishr, 1) := by decide +kernel
theorem dX4_ofArea_145 : decode cX4_ofArea 145 = .ok (.iconst 1, 1) := by decide +kernel
theorem dX4_ofArea_146 : decode cX4_ofArea 146 = .ok (.iand, 1) := by decide +kernel
theorem dX4_ofArea_147 : decode cX4_ofArea 147 = .ok (.ireturn, 1) := by decide +kernel
theorem dX4_ofArea_148 : decode cX4_ofArea 148 = .ok (.aload_n 0, 1) := by decide +kernel
theorem dX4_ofArea_149 : decode cX4_ofArea 149 = .ok (.getfield 28, 3) := by decide +kernel
theorem dX4_ofArea_152 : decode cX4_ofArea 152 = .ok (.iload_n 1, 1) := by decide +kernel
theorem dX4_ofArea_153 : decode cX4_ofArea 153 = .ok (.iaload, 1) := by decide +kernel
theorem dX4_ofArea_154 : decode cX4_ofArea 154 = .ok (.ireturn, 1) := by decide +kernel
theorem dX4_ofArea_155 : decode cX4_ofArea 155 = .ok (.aload_n 0, 1) := by decide +kernel
theorem dX4_ofArea_156 : decode cX4_ofArea 156 = .ok (.iconst 0, 1) := by decide +kernel
theorem dX4_ofArea_157 : decode cX4_ofArea 157 = .ok (.iload_n 1, 1) := by decide +kernel
theorem dX4_ofArea_158 : decode cX4_ofArea 158 = .ok (.invokevirtual 132, 3) := by decide +kernel
theorem dX4_ofArea_161 : decode cX4_ofArea 161 = .ok (.ireturn, 1) := by decide +kernel
theorem dX4_ofArea_162 : decode cX4_ofArea 162 = .ok (.aload_n 0, 1) := by decide +kernel
theorem dX4_ofArea_163 : decode cX4_ofArea 163 = .ok (.bipush 6, 2) := by decide +kernel
theorem dX4_ofArea_165 : decode cX4_ofArea 165 = .ok (.iload_n 1, 1) := by decide +kernel
theorem dX4_ofArea_166 : decode cX4_ofArea 166 = .ok (.invokevirtual 132, 3) := by decide +kernel
theorem dX4_ofArea_169 : decode cX4_ofArea 169 = .ok (.ireturn, 1) := by decide +kernel
theorem dX4_ofArea_170 : decode cX4_ofArea 170 = .ok (.bipush (-2), 2) := by decide +kernel
theorem dX4_ofArea_172 : decode cX4_ofArea 172 = .ok (.ireturn, 1) := by decide +kernel
theorem dX4_width_0 : decode cX4_width 0 = .ok (.aload_n 0, 1) := by decide +kernel
theorem dX4_width_1 : decode cX4_width 1 = .ok (.iload_n 1, 1) := by decide +kernel
theorem dX4_width_2 : decode cX4_width 2 = .ok (.invokevirtual 173, 3) := by decide +kernel
theorem dX4_width_5 : decode cX4_width 5 = .ok (.ifCond .ne 5, 3) := by decide +kernel
theorem dX4_width_8 : decode cX4_width 8 = .ok (.iconst (-1), 1) := by decide +kernel
theorem dX4_width_9 : decode cX4_width 9 = .ok (.ireturn, 1) := by decide +kernel
theorem dX4_width_10 : decode cX4_width 10 = .ok (.iload_n 2, 1) := by decide +kernel
theorem dX4_width_11 : decode cX4_width 11 = .ok (.iconst 1, 1) := by decide +kernel
theorem dX4_width_12 : decode cX4_width 12 = .ok (.bipush 9, 2) := by decide +kernel
theorem dX4_width_14 : decode cX4_width 14 = .ok (.invokestatic 82, 3) := by decide +kernel
theorem dX4_width_17 : decode cX4_width 17 = .ok (.ifCond .ne 6, 3) := by decide +kernel
theorem dX4_width_20 : decode cX4_width 20 = .ok (.bipush (-2), 2) := by decide +kernel
theorem dX4_width_22 : decode cX4_width 22 = .ok (.ireturn, 1) := by decide +kernel
theorem dX4_width_23 : decode cX4_width 23 = .ok (.aload_n 0, 1) := by decide +kernel
theorem dX4_width_24 : decode cX4_width 24 = .ok (.getfield 25, 3) := by decide +kernel
theorem dX4_width_27 : decode cX4_width 27 = .ok (.iload_n 1, 1) := by decide +kernel
theorem dX4_width_28 : decode cX4_width 28 = .ok (.iaload, 1) := by decide +kernel
theorem dX4_width_29 : decode cX4_width 29 = .ok (.istore_n 3, 1) := by decide +kernel
theorem dX4_width_30 : decode cX4_width 30 = .ok (.aload_n 0, 1) := by decide +kernel
theorem dX4_width_31 : decode cX4_width 31 = .ok (.getfield 25, 3) := by decide +kernel
theorem dX4_width_34 : decode cX4_width 34 = .ok (.iload_n 1, 1) := by decide +kernel
theorem dX4_width_35 : decode cX4_width 35 = .ok (.iload_n 2, 1) := by decide +kernel
theorem dX4_width_36 : decode cX4_width 36 = .ok (.iastore, 1) := by decide +kernel
theorem dX4_width_37 : decode cX4_width 37 = .ok (.iload_n 3, 1) := by decide +kernel
theorem dX4_width_38 : decode cX4_width 38 = .ok (.ireturn, 1) := by decide +kernel
theorem dX4_plot_0 : decode cX4_plot 0 = .ok (.aload_n 0, 1) := by decide +kernel
theorem dX4_plot_1 : decode cX4_plot 1 = .ok (.iload_n 1, 1) := by decide +kernel
theorem dX4_plot_2 : decode cX4_plot 2 = .ok (.invokevirtual 173, 3) := by decide +kernel
theorem dX4_plot_5 : decode cX4_plot 5 = .ok (.ifCond .ne 5, 3) := by decide +kernel
theorem dX4_plot_8 : decode cX4_plot 8 = .ok (.iconst (-1), 1) := by decide +kernel
theorem dX4_plot_9 : decode cX4_plot 9 = .ok (.ireturn, 1) := by decide +kernel
theorem dX4_plot_10 : decode cX4_plot 10 = .ok (.iload_n 2, 1) := by decide +kernel
theorem dX4_plot_11 : decode cX4_plot 11 = .ok (.iconst 1, 1) := by decide +kernel
theorem dX4_plot_12 : decode cX4_plot 12 = .ok (.bipush 9, 2) := by decide +kernel
theorem dX4_plot_14 : decode cX4_plot 14 = .ok (.invokestatic 82, 3) := by decide +kernel
theorem dX4_plot_17 : decode cX4_plot 17 = .ok (.ifCond .ne 6, 3) := by decide +kernel
theorem dX4_plot_20 : decode cX4_plot 20 = .ok (.bipush (-2), 2) := by decide +kernel
theorem dX4_plot_22 : decode cX4_plot 22 = .ok (.ireturn, 1) := by decide +kernel
theorem dX4_plot_23 : decode cX4_plot 23 = .ok (.aload_n 0, 1) := by decide +kernel
theorem dX4_plot_24 : decode cX4_plot 24 = .ok (.getfield 22, 3) := by decide +kernel
theorem dX4_plot_27 : decode cX4_plot 27 = .ok (.iload_n 1, 1) := by decide +kernel
theorem dX4_plot_28 : decode cX4_plot 28 = .ok (.iaload, 1) := by decide +kernel
theorem dX4_plot_29 : decode cX4_plot 29 = .ok (.istore_n 3, 1) := by decide +kernel
theorem dX4_plot_30 : decode cX4_plot 30 = .ok (.aload_n 0, 1) := by decide +kernel
theorem dX4_plot_31 : decode cX4_plot 31 = .ok (.getfield 22, 3) := by decide +kernel
theorem dX4_plot_34 : decode cX4_plot 34 = .ok (.iload_n 1, 1) := by decide +kernel
theorem dX4_plot_35 : decode cX4_plot 35 = .ok (.iload_n 2, 1) := by decide +kernel
theorem dX4_plot_36 : decode cX4_plot 36 = .ok (.iastore, 1) := by decide +kernel
theorem dX4_plot_37 : decode cX4_plot 37 = .ok (.iload_n 3, 1) := by decide +kernel
theorem dX4_plot_38 : decode cX4_plot 38 = .ok (.ireturn, 1) := by decide +kernel
theorem dX4_turns_0 : decode cX4_turns 0 = .ok (.bipush 6, 2) := by decide +kernel
theorem dX4_turns_2 : decode cX4_turns 2 = .ok (.iload_n 1, 1) := by decide +kernel
theorem dX4_turns_3 : decode cX4_turns 3 = .ok (.imul, 1) := by decide +kernel
theorem dX4_turns_4 : decode cX4_turns 4 = .ok (.iload_n 2, 1) := by decide +kernel
theorem dX4_turns_5 : decode cX4_turns 5 = .ok (.iadd, 1) := by decide +kernel
theorem dX4_turns_6 : decode cX4_turns 6 = .ok (.istore_n 3, 1) := by decide +kernel
theorem dX4_turns_7 : decode cX4_turns 7 = .ok (.aload_n 0, 1) := by decide +kernel
theorem dX4_turns_8 : decode cX4_turns 8 = .ok (.getfield 31, 3) := by decide +kernel
theorem dX4_turns_11 : decode cX4_turns 11 = .ok (.iload_n 3, 1) := by decide +kernel
theorem dX4_turns_12 : decode cX4_turns 12 = .ok (.iaload, 1) := by decide +kernel
theorem dX4_turns_13 : decode cX4_turns 13 = .ok (.istore 4, 2) := by decide +kernel
theorem dX4_turns_15 : decode cX4_turns 15 = .ok (.aload_n 0, 1) := by decide +kernel
theorem dX4_turns_16 : decode cX4_turns 16 = .ok (.getfield 31, 3) := by decide +kernel
theorem dX4_turns_19 : decode cX4_turns 19 = .ok (.iload_n 3, 1) := by decide +kernel
theorem dX4_turns_20 : decode cX4_turns 20 = .ok (.aload_n 0, 1) := by decide +kernel
theorem dX4_turns_21 : decode cX4_turns 21 = .ok (.getfield 31, 3) := by decide +kernel
theorem dX4_turns_24 : decode cX4_turns 24 = .ok (.iload_n 3, 1) := by decide +kernel
theorem dX4_turns_25 : decode cX4_turns 25 = .ok (.iconst 1, 1) := by decide +kernel
theorem dX4_turns_26 : decode cX4_turns 26 = .ok (.iadd, 1) := by decide +kernel
theorem dX4_turns_27 : decode cX4_turns 27 = .ok (.iaload, 1) := by decide +kernel
theorem dX4_turns_28 : decode cX4_turns 28 = .ok (.iastore, 1) := by decide +kernel
theorem dX4_turns_29 : decode cX4_turns 29 = .ok (.aload_n 0, 1) := by decide +kernel
theorem dX4_turns_30 : decode cX4_turns 30 = .ok (.getfield 31, 3) := by decide +kernel
theorem dX4_turns_33 : decode cX4_turns 33 = .ok (.iload_n 3, 1) := by decide +kernel
theorem dX4_turns_34 : decode cX4_turns 34 = .ok (.iconst 1, 1) := by decide +kernel
theorem dX4_turns_35 : decode cX4_turns 35 = .ok (.iadd, 1) := by decide +kernel
theorem dX4_turns_36 : decode cX4_turns 36 = .ok (.iload 4, 2) := by decide +kernel
theorem dX4_turns_38 : decode cX4_turns 38 = .ok (.iastore, 1) := by decide +kernel
theorem dX4_turns_39 : decode cX4_turns 39 = .ok (.return_, 1) := by decide +kernel
theorem dX4_turn_0 : decode cX4_turn 0 = .ok (.iload_n 1, 1) := by decide +kernel
theorem dX4_turn_1 : decode cX4_turn 1 = .ok (.iconst 0, 1) := by decide +kernel
theorem dX4_turn_2 : decode cX4_turn 2 = .ok (.iconst 1, 1) := by decide +kernel
theorem dX4_turn_3 : decode cX4_turn 3 = .ok (.invokestatic 82, 3) := by decide +kernel
theorem dX4_turn_6 : decode cX4_turn 6 = .ok (.ifCond .ne 6, 3) := by decide +kernel
theorem dX4_turn_9 : decode cX4_turn 9 = .ok (.bipush (-2), 2) := by decide +kernel
theorem dX4_turn_11 : decode cX4_turn 11 = .ok (.ireturn, 1) := by decide +kernel
theorem dX4_turn_12 : decode cX4_turn 12 = .ok (.iload_n 2, 1) := by decide +kernel
theorem dX4_turn_13 : decode cX4_turn 13 = .ok (.ifCond .lt 13, 3) := by decide +kernel
theorem dX4_turn_16 : decode cX4_turn 16 = .ok (.iload_n 2, 1) := by decide +kernel
theorem dX4_turn_17 : decode cX4_turn 17 = .ok (.aload_n 0, 1) := by decide +kernel
theorem dX4_turn_18 : decode cX4_turn 18 = .ok (.getfield 86, 3) := by decide +kernel
theorem dX4_turn_21 : decode cX4_turn 21 = .ok (.iconst 2, 1) := by decide +kernel
theorem dX4_turn_22 : decode cX4_turn 22 = .ok (.isub, 1) := by decide +kernel
theorem dX4_turn_23 : decode cX4_turn 23 = .ok (.if_icmp .le 5, 3) := by decide +kernel
theorem dX4_turn_26 : decode cX4_turn 26 = .ok (.iconst (-1), 1) := by decide +kernel
theorem dX4_turn_27 : decode cX4_turn 27 = .ok (.ireturn, 1) := by decide +kernel
theorem dX4_turn_28 : decode cX4_turn 28 = .ok (.aload_n 0, 1) := by decide +kernel
theorem dX4_turn_29 : decode cX4_turn 29 = .ok (.iload_n 1, 1) := by decide +kernel
theorem dX4_turn_30 : decode cX4_turn 30 = .ok (.iload_n 2, 1) := by decide +kernel
theorem dX4_turn_31 : decode cX4_turn 31 = .ok (.invokevirtual 186, 3) := by decide +kernel
theorem dX4_turn_34 : decode cX4_turn 34 = .ok (.aload_n 0, 1) := by decide +kernel
theorem dX4_turn_35 : decode cX4_turn 35 = .ok (.getfield 31, 3) := by decide +kernel
theorem dX4_turn_38 : decode cX4_turn 38 = .ok (.bipush 6, 2) := by decide +kernel
theorem dX4_turn_40 : decode cX4_turn 40 = .ok (.iload_n 1, 1) := by decide +kernel
theorem dX4_turn_41 : decode cX4_turn 41 = .ok (.imul, 1) := by decide +kernel
theorem dX4_turn_42 : decode cX4_turn 42 = .ok (.iload_n 2, 1) := by decide +kernel
theorem dX4_turn_43 : decode cX4_turn 43 = .ok (.iadd, 1) := by decide +kernel
theorem dX4_turn_44 : decode cX4_turn 44 = .ok (.iaload, 1) := by decide +kernel
theorem dX4_turn_45 : decode cX4_turn 45 = .ok (.ireturn, 1) := by decide +kernel
theorem dX4_whole_0 : decode cX4_whole 0 = .ok (.iload_n 1, 1) := by decide +kernel
theorem dX4_whole_1 : decode cX4_whole 1 = .ok (.iconst 0, 1) := by decide +kernel
theorem dX4_whole_2 : decode cX4_whole 2 = .ok (.iconst 5, 1) := by decide +kernel
theorem dX4_whole_3 : decode cX4_whole 3 = .ok (.invokestatic 82, 3) := by decide +kernel
theorem dX4_whole_6 : decode cX4_whole 6 = .ok (.ifCond .ne 6, 3) := by decide +kernel
theorem dX4_whole_9 : decode cX4_whole 9 = .ok (.bipush (-2), 2) := by decide +kernel
theorem dX4_whole_11 : decode cX4_whole 11 = .ok (.ireturn, 1) := by decide +kernel
theorem dX4_whole_12 : decode cX4_whole 12 = .ok (.iload_n 1, 1) := by decide +kernel
theorem dX4_whole_13 : decode cX4_whole 13 = .ok (.iconst 5, 1) := by decide +kernel
theorem dX4_whole_14 : decode cX4_whole 14 = .ok (.if_icmp .ne 8, 3) := by decide +kernel
theorem dX4_whole_17 : decode cX4_whole 17 = .ok (.aload_n 0, 1) := by decide +kernel
theorem dX4_whole_18 : decode cX4_whole 18 = .ok (.getfield 129, 3) := by decide +kernel
theorem dX4_whole_21 : decode cX4_whole 21 = .ok (.ireturn, 1) := by decide +kernel
theorem dX4_whole_22 : decode cX4_whole 22 = .ok (.aload_n 0, 1) := by decide +kernel
theorem dX4_whole_23 : decode cX4_whole 23 = .ok (.getfield 86, 3) := by decide +kernel
theorem dX4_whole_26 : decode cX4_whole 26 = .ok (.ifCond .ne 6, 3) := by decide +kernel
theorem dX4_whole_29 : decode cX4_whole 29 = .ok (.bipush (-3), 2) := by decide +kernel
theorem dX4_whole_31 : decode cX4_whole 31 = .ok (.ireturn, 1) := by decide +kernel
theorem dX4_whole_32 : decode cX4_whole 32 = .ok (.aload_n 0, 1) := by decide +kernel
theorem dX4_whole_33 : decode cX4_whole 33 = .ok (.invokevirtual 164, 3) := by decide +kernel
theorem dX4_whole_36 : decode cX4_whole 36 = .ok (.iload_n 1, 1) := by decide +kernel
theorem dX4_whole_37 : decode cX4_whole 37 = .ok (.ifCond .ne 10, 3) := by decide +kernel
theorem dX4_whole_40 : decode cX4_whole 40 = .ok (.aload_n 0, 1) := by decide +kernel
theorem dX4_whole_41 : decode cX4_whole 41 = .ok (.getfield 136, 3) := by decide +kernel
theorem dX4_whole_44 : decode cX4_whole 44 = .ok (.goto 43, 3) := by decide +kernel
theorem dX4_whole_47 : decode cX4_whole 47 = .ok (.iload_n 1, 1) := by decide +kernel
theorem dX4_whole_48 : decode cX4_whole 48 = .ok (.iconst 1, 1) := by decide +kernel
theorem dX4_whole_49 : decode cX4_whole 49 = .ok (.if_icmp .ne 10, 3) := by decide +kernel
theorem dX4_whole_52 : decode cX4_whole 52 = .ok (.aload_n 0, 1) := by decide +kernel
theorem dX4_whole_53 : decode cX4_whole 53 = .ok (.getfield 139, 3) := by decide +kernel
theorem dX4_whole_56 : decode cX4_whole 56 = .ok (.goto 31, 3) := by decide +kernel
theorem dX4_whole_59 : decode cX4_whole 59 = .ok (.iload_n 1, 1) := by decide +kernel
theorem dX4_whole_60 : decode cX4_whole 60 = .ok (.iconst 2, 1) := by decide +kernel
theorem dX4_whole_61 : decode cX4_whole 61 = .ok (.if_icmp .ne 10, 3) := by decide +kernel
theorem dX4_whole_64 : decode cX4_whole 64 = .ok (.aload_n 0, 1) := by decide +kernel
theorem dX4_whole_65 : decode cX4_whole 65 = .ok (.invokevirtual 190, 3) := by decide +kernel
theorem dX4_whole_68 : decode cX4_whole 68 = .ok (.goto 19, 3) := by decide +kernel
theorem dX4_whole_71 : decode cX4_whole 71 = .ok (.iload_n 1, 1) := by decide +kernel
theorem dX4_whole_72 : decode cX4_whole 72 = .ok (.iconst 3, 1) := by decide +kernel
theorem dX4_whole_73 : decode cX4_whole 73 = .ok (.if_icmp .ne 10, 3) := by decide +kernel
theorem dX4_whole_76 : decode cX4_whole 76 = .ok (.aload_n 0, 1) := by decide +kernel
theorem dX4_whole_77 : decode cX4_whole 77 = .ok (.invokevirtual 193, 3) := by decide +kernel
theorem dX4_whole_80 : decode cX4_whole 80 = .ok (.goto 7, 3) := by decide +kernel
theorem dX4_whole_83 : decode cX4_whole 83 = .ok (.aload_n 0, 1) := by decide +kernel
theorem dX4_whole_84 : decode cX4_whole 84 = .ok (.invokevirtual 182, 3) := by decide +kernel
theorem dX4_whole_87 : decode cX4_whole 87 = .ok (.ireturn, 1) := by decide +kernel
theorem dX4_widestOf_0 : decode cX4_widestOf 0 = .ok (.bipush (-9), 2) := by decide +kernel
theorem dX4_widestOf_2 : decode cX4_widestOf 2 = .ok (.istore_n 2, 1) := by decide +kernel
theorem dX4_widestOf_3 : decode cX4_widestOf 3 = .ok (.iconst 0, 1) := by decide +kernel
theorem dX4_widestOf_4 : decode cX4_widestOf 4 = .ok (.istore_n 3, 1) := by decide +kernel
theorem dX4_widestOf_5 : decode cX4_widestOf 5 = .ok (.iload_n 3, 1) := by decide +kernel
theorem dX4_widestOf_6 : decode cX4_widestOf 6 = .ok (.aload_n 0, 1) := by decide +kernel
theorem dX4_widestOf_7 : decode cX4_widestOf 7 = .ok (.getfield 86, 3) := by decide +kernel
theorem dX4_widestOf_10 : decode cX4_widestOf 10 = .ok (.if_icmp .ge 67, 3) := by decide +kernel
theorem dX4_widestOf_13 : decode cX4_widestOf 13 = .ok (.iload_n 1, 1) := by decide +kernel
theorem dX4_widestOf_14 : decode cX4_widestOf 14 = .ok (.iload_n 3, 1) := by decide +kernel
theorem dX4_widestOf_15 : decode cX4_widestOf 15 = .ok (.ishr, 1) := by decide +kernel
theorem dX4_widestOf_16 : decode cX4_widestOf 16 = .ok (.iconst 1, 1) := by decide +kernel
theorem dX4_widestOf_17 : decode cX4_widestOf 17 = .ok (.iand, 1) := by decide +kernel
theorem dX4_widestOf_18 : decode cX4_widestOf 18 = .ok (.iconst 1, 1) := by decide +kernel
theorem dX4_widestOf_19 : decode cX4_widestOf 19 = .ok (.if_icmp .ne 17, 3) := by decide +kernel
theorem dX4_widestOf_22 : decode cX4_widestOf 22 = .ok (.aload_n 0, 1) := by decide +kernel
theorem dX4_widestOf_23 : decode cX4_widestOf 23 = .ok (.getfield 25, 3) := by decide +kernel
theorem dX4_widestOf_26 : decode cX4_widestOf 26 = .ok (.iload_n 3, 1) := by decide +kernel
theorem dX4_widestOf_27 : decode cX4_widestOf 27 = .ok (.iaload, 1) := by decide +kernel
theorem dX4_widestOf_28 : decode cX4_widestOf 28 = .ok (.iconst 1, 1) := by decide +kernel
theorem dX4_widestOf_29 : decode cX4_widestOf 29 = .ok (.if_icmp .le 7, 3) := by decide +kernel
theorem dX4_widestOf_32 : decode cX4_widestOf 32 = .ok (.iconst 1, 1) := by decide +kernel
theorem dX4_widestOf_33 : decode cX4_widestOf 33 = .ok (.goto 4, 3) := by decide +kernel
theorem dX4_widestOf_36 : decode cX4_widestOf 36 = .ok (.iconst 0, 1) := by decide +kernel
theorem dX4_widestOf_37 : decode cX4_widestOf 37 = .ok (.istore 4, 2) := by decide +kernel
theorem dX4_widestOf_39 : decode cX4_widestOf 39 = .ok (.iload 4, 2) := by decide +kernel
theorem dX4_widestOf_41 : decode cX4_widestOf 41 = .ok (.ifCond .eq 28, 3) := by decide +kernel
theorem dX4_widestOf_44 : decode cX4_widestOf 44 = .ok (.iload_n 2, 1) := by decide +kernel
theorem dX4_widestOf_45 : decode cX4_widestOf 45 = .ok (.bipush (-9), 2) := by decide +kernel
theorem dX4_widestOf_47 : decode cX4_widestOf 47 = .ok (.if_icmp .eq 18, 3) := by decide +kernel
