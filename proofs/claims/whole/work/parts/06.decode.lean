theorem dX4_widestOf_50 : decode cX4_widestOf 50 = .ok (.aload_n 0, 1) := by decide +kernel
theorem dX4_widestOf_51 : decode cX4_widestOf 51 = .ok (.getfield 25, 3) := by decide +kernel
theorem dX4_widestOf_54 : decode cX4_widestOf 54 = .ok (.iload_n 3, 1) := by decide +kernel
theorem dX4_widestOf_55 : decode cX4_widestOf 55 = .ok (.iaload, 1) := by decide +kernel
theorem dX4_widestOf_56 : decode cX4_widestOf 56 = .ok (.aload_n 0, 1) := by decide +kernel
theorem dX4_widestOf_57 : decode cX4_widestOf 57 = .ok (.getfield 25, 3) := by decide +kernel
theorem dX4_widestOf_60 : decode cX4_widestOf 60 = .ok (.iload_n 2, 1) := by decide +kernel
theorem dX4_widestOf_61 : decode cX4_widestOf 61 = .ok (.iaload, 1) := by decide +kernel
theorem dX4_widestOf_62 : decode cX4_widestOf 62 = .ok (.if_icmp .le 7, 3) := by decide +kernel
theorem dX4_widestOf_65 : decode cX4_widestOf 65 = .ok (.iload_n 3, 1) := by decide +kernel
theorem dX4_widestOf_66 : decode cX4_widestOf 66 = .ok (.goto 4, 3) := by decide +kernel
theorem dX4_widestOf_69 : decode cX4_widestOf 69 = .ok (.iload_n 2, 1) := by decide +kernel
theorem dX4_widestOf_70 : decode cX4_widestOf 70 = .ok (.istore_n 2, 1) := by decide +kernel
theorem dX4_widestOf_71 : decode cX4_widestOf 71 = .ok (.iinc 3 1, 3) := by decide +kernel
theorem dX4_widestOf_74 : decode cX4_widestOf 74 = .ok (.goto (-69), 3) := by decide +kernel
theorem dX4_widestOf_77 : decode cX4_widestOf 77 = .ok (.iload_n 2, 1) := by decide +kernel
theorem dX4_widestOf_78 : decode cX4_widestOf 78 = .ok (.ireturn, 1) := by decide +kernel
theorem dX4_squeeze_0 : decode cX4_squeeze 0 = .ok (.iload_n 1, 1) := by decide +kernel
theorem dX4_squeeze_1 : decode cX4_squeeze 1 = .ok (.iconst 1, 1) := by decide +kernel
theorem dX4_squeeze_2 : decode cX4_squeeze 2 = .ok (.bipush 60, 2) := by decide +kernel
theorem dX4_squeeze_4 : decode cX4_squeeze 4 = .ok (.invokestatic 82, 3) := by decide +kernel
theorem dX4_squeeze_7 : decode cX4_squeeze 7 = .ok (.ifCond .ne 6, 3) := by decide +kernel
theorem dX4_squeeze_10 : decode cX4_squeeze 10 = .ok (.bipush (-2), 2) := by decide +kernel
theorem dX4_squeeze_12 : decode cX4_squeeze 12 = .ok (.ireturn, 1) := by decide +kernel
theorem dX4_squeeze_13 : decode cX4_squeeze 13 = .ok (.aload_n 0, 1) := by decide +kernel
theorem dX4_squeeze_14 : decode cX4_squeeze 14 = .ok (.getfield 86, 3) := by decide +kernel
theorem dX4_squeeze_17 : decode cX4_squeeze 17 = .ok (.ifCond .ne 6, 3) := by decide +kernel
theorem dX4_squeeze_20 : decode cX4_squeeze 20 = .ok (.bipush (-3), 2) := by decide +kernel
theorem dX4_squeeze_22 : decode cX4_squeeze 22 = .ok (.ireturn, 1) := by decide +kernel
theorem dX4_squeeze_23 : decode cX4_squeeze 23 = .ok (.iconst 0, 1) := by decide +kernel
theorem dX4_squeeze_24 : decode cX4_squeeze 24 = .ok (.istore_n 2, 1) := by decide +kernel
theorem dX4_squeeze_25 : decode cX4_squeeze 25 = .ok (.iload_n 2, 1) := by decide +kernel
theorem dX4_squeeze_26 : decode cX4_squeeze 26 = .ok (.aload_n 0, 1) := by decide +kernel
theorem dX4_squeeze_27 : decode cX4_squeeze 27 = .ok (.getfield 86, 3) := by decide +kernel
theorem dX4_squeeze_30 : decode cX4_squeeze 30 = .ok (.if_icmp .ge 21, 3) := by decide +kernel
theorem dX4_squeeze_33 : decode cX4_squeeze 33 = .ok (.aload_n 0, 1) := by decide +kernel
theorem dX4_squeeze_34 : decode cX4_squeeze 34 = .ok (.getfield 58, 3) := by decide +kernel
theorem dX4_squeeze_37 : decode cX4_squeeze 37 = .ok (.iload_n 2, 1) := by decide +kernel
theorem dX4_squeeze_38 : decode cX4_squeeze 38 = .ok (.aload_n 0, 1) := by decide +kernel
theorem dX4_squeeze_39 : decode cX4_squeeze 39 = .ok (.getfield 25, 3) := by decide +kernel
theorem dX4_squeeze_42 : decode cX4_squeeze 42 = .ok (.iload_n 2, 1) := by decide +kernel
theorem dX4_squeeze_43 : decode cX4_squeeze 43 = .ok (.iaload, 1) := by decide +kernel
theorem dX4_squeeze_44 : decode cX4_squeeze 44 = .ok (.iastore, 1) := by decide +kernel
theorem dX4_squeeze_45 : decode cX4_squeeze 45 = .ok (.iinc 2 1, 3) := by decide +kernel
theorem dX4_squeeze_48 : decode cX4_squeeze 48 = .ok (.goto (-23), 3) := by decide +kernel
theorem dX4_squeeze_51 : decode cX4_squeeze 51 = .ok (.iconst 0, 1) := by decide +kernel
theorem dX4_squeeze_52 : decode cX4_squeeze 52 = .ok (.istore_n 2, 1) := by decide +kernel
theorem dX4_squeeze_53 : decode cX4_squeeze 53 = .ok (.aload_n 0, 1) := by decide +kernel
theorem dX4_squeeze_54 : decode cX4_squeeze 54 = .ok (.invokevirtual 182, 3) := by decide +kernel
theorem dX4_squeeze_57 : decode cX4_squeeze 57 = .ok (.istore_n 3, 1) := by decide +kernel
theorem dX4_squeeze_58 : decode cX4_squeeze 58 = .ok (.aload_n 0, 1) := by decide +kernel
theorem dX4_squeeze_59 : decode cX4_squeeze 59 = .ok (.getfield 136, 3) := by decide +kernel
theorem dX4_squeeze_62 : decode cX4_squeeze 62 = .ok (.iload_n 1, 1) := by decide +kernel
theorem dX4_squeeze_63 : decode cX4_squeeze 63 = .ok (.if_icmp .le 100, 3) := by decide +kernel
theorem dX4_squeeze_66 : decode cX4_squeeze 66 = .ok (.aload_n 0, 1) := by decide +kernel
theorem dX4_squeeze_67 : decode cX4_squeeze 67 = .ok (.iload_n 3, 1) := by decide +kernel
theorem dX4_squeeze_68 : decode cX4_squeeze 68 = .ok (.invokevirtual 196, 3) := by decide +kernel
theorem dX4_squeeze_71 : decode cX4_squeeze 71 = .ok (.istore 4, 2) := by decide +kernel
theorem dX4_squeeze_73 : decode cX4_squeeze 73 = .ok (.iload 4, 2) := by decide +kernel
theorem dX4_squeeze_75 : decode cX4_squeeze 75 = .ok (.bipush (-9), 2) := by decide +kernel
theorem dX4_squeeze_77 : decode cX4_squeeze 77 = .ok (.if_icmp .ne 18, 3) := by decide +kernel
theorem dX4_squeeze_80 : decode cX4_squeeze 80 = .ok (.aload_n 0, 1) := by decide +kernel
theorem dX4_squeeze_81 : decode cX4_squeeze 81 = .ok (.iconst 1, 1) := by decide +kernel
theorem dX4_squeeze_82 : decode cX4_squeeze 82 = .ok (.aload_n 0, 1) := by decide +kernel
theorem dX4_squeeze_83 : decode cX4_squeeze 83 = .ok (.getfield 86, 3) := by decide +kernel
theorem dX4_squeeze_86 : decode cX4_squeeze 86 = .ok (.ishl, 1) := by decide +kernel
theorem dX4_squeeze_87 : decode cX4_squeeze 87 = .ok (.iconst 1, 1) := by decide +kernel
theorem dX4_squeeze_88 : decode cX4_squeeze 88 = .ok (.isub, 1) := by decide +kernel
theorem dX4_squeeze_89 : decode cX4_squeeze 89 = .ok (.invokevirtual 196, 3) := by decide +kernel
theorem dX4_squeeze_92 : decode cX4_squeeze 92 = .ok (.goto 5, 3) := by decide +kernel
theorem dX4_squeeze_95 : decode cX4_squeeze 95 = .ok (.iload 4, 2) := by decide +kernel
theorem dX4_squeeze_97 : decode cX4_squeeze 97 = .ok (.istore 4, 2) := by decide +kernel
theorem dX4_squeeze_99 : decode cX4_squeeze 99 = .ok (.iload 4, 2) := by decide +kernel
theorem dX4_squeeze_101 : decode cX4_squeeze 101 = .ok (.bipush (-9), 2) := by decide +kernel
theorem dX4_squeeze_103 : decode cX4_squeeze 103 = .ok (.if_icmp .ne 38, 3) := by decide +kernel
theorem dX4_squeeze_106 : decode cX4_squeeze 106 = .ok (.iconst 0, 1) := by decide +kernel
theorem dX4_squeeze_107 : decode cX4_squeeze 107 = .ok (.istore 5, 2) := by decide +kernel
theorem dX4_squeeze_109 : decode cX4_squeeze 109 = .ok (.iload 5, 2) := by decide +kernel
theorem dX4_squeeze_111 : decode cX4_squeeze 111 = .ok (.aload_n 0, 1) := by decide +kernel
theorem dX4_squeeze_112 : decode cX4_squeeze 112 = .ok (.getfield 86, 3) := by decide +kernel
theorem dX4_squeeze_115 : decode cX4_squeeze 115 = .ok (.if_icmp .ge 23, 3) := by decide +kernel
theorem dX4_squeeze_118 : decode cX4_squeeze 118 = .ok (.aload_n 0, 1) := by decide +kernel
theorem dX4_squeeze_119 : decode cX4_squeeze 119 = .ok (.getfield 25, 3) := by decide +kernel
theorem dX4_squeeze_122 : decode cX4_squeeze 122 = .ok (.iload 5, 2) := by decide +kernel
theorem dX4_squeeze_124 : decode cX4_squeeze 124 = .ok (.aload_n 0, 1) := by decide +kernel
theorem dX4_squeeze_125 : decode cX4_squeeze 125 = .ok (.getfield 58, 3) := by decide +kernel
theorem dX4_squeeze_128 : decode cX4_squeeze 128 = .ok (.iload 5, 2) := by decide +kernel
theorem dX4_squeeze_130 : decode cX4_squeeze 130 = .ok (.iaload, 1) := by decide +kernel
theorem dX4_squeeze_131 : decode cX4_squeeze 131 = .ok (.iastore, 1) := by decide +kernel
theorem dX4_squeeze_132 : decode cX4_squeeze 132 = .ok (.iinc 5 1, 3) := by decide +kernel
theorem dX4_squeeze_135 : decode cX4_squeeze 135 = .ok (.goto (-26), 3) := by decide +kernel
theorem dX4_squeeze_138 : decode cX4_squeeze 138 = .ok (.bipush (-9), 2) := by decide +kernel
theorem dX4_squeeze_140 : decode cX4_squeeze 140 = .ok (.ireturn, 1) := by decide +kernel
theorem dX4_squeeze_141 : decode cX4_squeeze 141 = .ok (.aload_n 0, 1) := by decide +kernel
theorem dX4_squeeze_142 : decode cX4_squeeze 142 = .ok (.getfield 25, 3) := by decide +kernel
theorem dX4_squeeze_145 : decode cX4_squeeze 145 = .ok (.iload 4, 2) := by decide +kernel
theorem dX4_squeeze_147 : decode cX4_squeeze 147 = .ok (.dup2, 1) := by decide +kernel
theorem dX4_squeeze_148 : decode cX4_squeeze 148 = .ok (.iaload, 1) := by decide +kernel
theorem dX4_squeeze_149 : decode cX4_squeeze 149 = .ok (.iconst 1, 1) := by decide +kernel
theorem dX4_squeeze_150 : decode cX4_squeeze 150 = .ok (.isub, 1) := by decide +kernel
theorem dX4_squeeze_151 : decode cX4_squeeze 151 = .ok (.iastore, 1) := by decide +kernel
theorem dX4_squeeze_152 : decode cX4_squeeze 152 = .ok (.iinc 2 1, 3) := by decide +kernel
theorem dX4_squeeze_155 : decode cX4_squeeze 155 = .ok (.aload_n 0, 1) := by decide +kernel
theorem dX4_squeeze_156 : decode cX4_squeeze 156 = .ok (.invokevirtual 182, 3) := by decide +kernel
theorem dX4_squeeze_159 : decode cX4_squeeze 159 = .ok (.istore_n 3, 1) := by decide +kernel
theorem dX4_squeeze_160 : decode cX4_squeeze 160 = .ok (.goto (-102), 3) := by decide +kernel
theorem dX4_squeeze_163 : decode cX4_squeeze 163 = .ok (.iload_n 2, 1) := by decide +kernel
theorem dX4_squeeze_164 : decode cX4_squeeze 164 = .ok (.ireturn, 1) := by decide +kernel
theorem dX4_keep_0 : decode cX4_keep 0 = .ok (.iconst 0, 1) := by decide +kernel
theorem dX4_keep_1 : decode cX4_keep 1 = .ok (.istore_n 1, 1) := by decide +kernel
theorem dX4_keep_2 : decode cX4_keep 2 = .ok (.iload_n 1, 1) := by decide +kernel
theorem dX4_keep_3 : decode cX4_keep 3 = .ok (.bipush 6, 2) := by decide +kernel
theorem dX4_keep_5 : decode cX4_keep 5 = .ok (.if_icmp .ge 36, 3) := by decide +kernel
theorem dX4_keep_8 : decode cX4_keep 8 = .ok (.aload_n 0, 1) := by decide +kernel
theorem dX4_keep_9 : decode cX4_keep 9 = .ok (.getfield 61, 3) := by decide +kernel
theorem dX4_keep_12 : decode cX4_keep 12 = .ok (.iload_n 1, 1) := by decide +kernel
theorem dX4_keep_13 : decode cX4_keep 13 = .ok (.aload_n 0, 1) := by decide +kernel
theorem dX4_keep_14 : decode cX4_keep 14 = .ok (.getfield 22, 3) := by decide +kernel
theorem dX4_keep_17 : decode cX4_keep 17 = .ok (.iload_n 1, 1) := by decide +kernel
theorem dX4_keep_18 : decode cX4_keep 18 = .ok (.iaload, 1) := by decide +kernel
theorem dX4_keep_19 : decode cX4_keep 19 = .ok (.iastore, 1) := by decide +kernel
theorem dX4_keep_20 : decode cX4_keep 20 = .ok (.aload_n 0, 1) := by decide +kernel
theorem dX4_keep_21 : decode cX4_keep 21 = .ok (.getfield 61, 3) := by decide +kernel
theorem dX4_keep_24 : decode cX4_keep 24 = .ok (.bipush 6, 2) := by decide +kernel
theorem dX4_keep_26 : decode cX4_keep 26 = .ok (.iload_n 1, 1) := by decide +kernel
theorem dX4_keep_27 : decode cX4_keep 27 = .ok (.iadd, 1) := by decide +kernel
theorem dX4_keep_28 : decode cX4_keep 28 = .ok (.aload_n 0, 1) := by decide +kernel
theorem dX4_keep_29 : decode cX4_keep 29 = .ok (.getfield 25, 3) := by decide +kernel
theorem dX4_keep_32 : decode cX4_keep 32 = .ok (.iload_n 1, 1) := by decide +kernel
theorem dX4_keep_33 : decode cX4_keep 33 = .ok (.iaload, 1) := by decide +kernel
theorem dX4_keep_34 : decode cX4_keep 34 = .ok (.iastore, 1) := by decide +kernel
theorem dX4_keep_35 : decode cX4_keep 35 = .ok (.iinc 1 1, 3) := by decide +kernel
theorem dX4_keep_38 : decode cX4_keep 38 = .ok (.goto (-36), 3) := by decide +kernel
theorem dX4_keep_41 : decode cX4_keep 41 = .ok (.iconst 0, 1) := by decide +kernel
theorem dX4_keep_42 : decode cX4_keep 42 = .ok (.istore_n 1, 1) := by decide +kernel
theorem dX4_keep_43 : decode cX4_keep 43 = .ok (.iload_n 1, 1) := by decide +kernel
theorem dX4_keep_44 : decode cX4_keep 44 = .ok (.bipush 12, 2) := by decide +kernel
theorem dX4_keep_46 : decode cX4_keep 46 = .ok (.if_icmp .ge 24, 3) := by decide +kernel
theorem dX4_keep_49 : decode cX4_keep 49 = .ok (.aload_n 0, 1) := by decide +kernel
theorem dX4_keep_50 : decode cX4_keep 50 = .ok (.getfield 61, 3) := by decide +kernel
theorem dX4_keep_53 : decode cX4_keep 53 = .ok (.bipush 12, 2) := by decide +kernel
theorem dX4_keep_55 : decode cX4_keep 55 = .ok (.iload_n 1, 1) := by decide +kernel
theorem dX4_keep_56 : decode cX4_keep 56 = .ok (.iadd, 1) := by decide +kernel
theorem dX4_keep_57 : decode cX4_keep 57 = .ok (.aload_n 0, 1) := by decide +kernel
theorem dX4_keep_58 : decode cX4_keep 58 = .ok (.getfield 31, 3) := by decide +kernel
theorem dX4_keep_61 : decode cX4_keep 61 = .ok (.iload_n 1, 1) := by decide +kernel
theorem dX4_keep_62 : decode cX4_keep 62 = .ok (.iaload, 1) := by decide +kernel
theorem dX4_keep_63 : decode cX4_keep 63 = .ok (.iastore, 1) := by decide +kernel
theorem dX4_keep_64 : decode cX4_keep 64 = .ok (.iinc 1 1, 3) := by decide +kernel
theorem dX4_keep_67 : decode cX4_keep 67 = .ok (.goto (-24), 3) := by decide +kernel
theorem dX4_keep_70 : decode cX4_keep 70 = .ok (.return_, 1) := by decide +kernel
theorem dX4_putBack_0 : decode cX4_putBack 0 = .ok (.iconst 0, 1) := by decide +kernel
theorem dX4_putBack_1 : decode cX4_putBack 1 = .ok (.istore_n 1, 1) := by decide +kernel
theorem dX4_putBack_2 : decode cX4_putBack 2 = .ok (.iload_n 1, 1) := by decide +kernel
theorem dX4_putBack_3 : decode cX4_putBack 3 = .ok (.bipush 6, 2) := by decide +kernel
theorem dX4_putBack_5 : decode cX4_putBack 5 = .ok (.if_icmp .ge 36, 3) := by decide +kernel
theorem dX4_putBack_8 : decode cX4_putBack 8 = .ok (.aload_n 0, 1) := by decide +kernel
theorem dX4_putBack_9 : decode cX4_putBack 9 = .ok (.getfield 22, 3) := by decide +kernel
theorem dX4_putBack_12 : decode cX4_putBack 12 = .ok (.iload_n 1, 1) := by decide +kernel
theorem dX4_putBack_13 : decode cX4_putBack 13 = .ok (.aload_n 0, 1) := by decide +kernel
theorem dX4_putBack_14 : decode cX4_putBack 14 = .ok (.getfield 61, 3) := by decide +kernel
theorem dX4_putBack_17 : decode cX4_putBack 17 = .ok (.iload_n 1, 1) := by decide +kernel
theorem dX4_putBack_18 : decode cX4_putBack 18 = .ok (.iaload, 1) := by decide +kernel
theorem dX4_putBack_19 : decode cX4_putBack 19 = .ok (.iastore, 1) := by decide +kernel
theorem dX4_putBack_20 : decode cX4_putBack 20 = .ok (.aload_n 0, 1) := by decide +kernel
theorem dX4_putBack_21 : decode cX4_putBack 21 = .ok (.getfield 25, 3) := by decide +kernel
theorem dX4_putBack_24 : decode cX4_putBack 24 = .ok (.iload_n 1, 1) := by decide +kernel
theorem dX4_putBack_25 : decode cX4_putBack 25 = .ok (.aload_n 0, 1) := by decide +kernel
theorem dX4_putBack_26 : decode cX4_putBack 26 = .ok (.getfield 61, 3) := by decide +kernel
theorem dX4_putBack_29 : decode cX4_putBack 29 = .ok (.bipush 6, 2) := by decide +kernel
theorem dX4_putBack_31 : decode cX4_putBack 31 = .ok (.iload_n 1, 1) := by decide +kernel
theorem dX4_putBack_32 : decode cX4_putBack 32 = .ok (.iadd, 1) := by decide +kernel
theorem dX4_putBack_33 : decode cX4_putBack 33 = .ok (.iaload, 1) := by decide +kernel
theorem dX4_putBack_34 : decode cX4_putBack 34 = .ok (.iastore, 1) := by decide +kernel
theorem dX4_putBack_35 : decode cX4_putBack 35 = .ok (.iinc 1 1, 3) := by decide +kernel
theorem dX4_putBack_38 : decode cX4_putBack 38 = .ok (.goto (-36), 3) := by decide +kernel
theorem dX4_putBack_41 : decode cX4_putBack 41 = .ok (.iconst 0, 1) := by decide +kernel
theorem dX4_putBack_42 : decode cX4_putBack 42 = .ok (.istore_n 1, 1) := by decide +kernel
theorem dX4_putBack_43 : decode cX4_putBack 43 = .ok (.iload_n 1, 1) := by decide +kernel
theorem dX4_putBack_44 : decode cX4_putBack 44 = .ok (.bipush 12, 2) := by decide +kernel
theorem dX4_putBack_46 : decode cX4_putBack 46 = .ok (.if_icmp .ge 24, 3) := by decide +kernel
theorem dX4_putBack_49 : decode cX4_putBack 49 = .ok (.aload_n 0, 1) := by decide +kernel
theorem dX4_putBack_50 : decode cX4_putBack 50 = .ok (.getfield 31, 3) := by decide +kernel
theorem dX4_putBack_53 : decode cX4_putBack 53 = .ok (.iload_n 1, 1) := by decide +kernel
theorem dX4_putBack_54 : decode cX4_putBack 54 = .ok (.aload_n 0, 1) := by decide +kernel
theorem dX4_putBack_55 : decode cX4_putBack 55 = .ok (.getfield 61, 3) := by decide +kernel
theorem dX4_putBack_58 : decode cX4_putBack 58 = .ok (.bipush 12, 2) := by decide +kernel
theorem dX4_putBack_60 : decode cX4_putBack 60 = .ok (.iload_n 1, 1) := by decide +kernel
theorem dX4_putBack_61 : decode cX4_putBack 61 = .ok (.iadd, 1) := by decide +kernel
theorem dX4_putBack_62 : decode cX4_putBack 62 = .ok (.iaload, 1) := by decide +kernel
theorem dX4_putBack_63 : decode cX4_putBack 63 = .ok (.iastore, 1) := by decide +kernel
theorem dX4_putBack_64 : decode cX4_putBack 64 = .ok (.iinc 1 1, 3) := by decide +kernel
theorem dX4_putBack_67 : decode cX4_putBack 67 = .ok (.goto (-24), 3) := by decide +kernel
theorem dX4_putBack_70 : decode cX4_putBack 70 = .ok (.return_, 1) := by decide +kernel
theorem dX4_does_0 : decode cX4_does 0 = .ok (.iload_n 1, 1) := by decide +kernel
theorem dX4_does_1 : decode cX4_does 1 = .ok (.iconst 2, 1) := by decide +kernel
theorem dX4_does_2 : decode cX4_does 2 = .ok (.if_icmp .ne 36, 3) := by decide +kernel
theorem dX4_does_5 : decode cX4_does 5 = .ok (.iload_n 2, 1) := by decide +kernel
theorem dX4_does_6 : decode cX4_does 6 = .ok (.iconst 0, 1) := by decide +kernel
theorem dX4_does_7 : decode cX4_does 7 = .ok (.iconst 1, 1) := by decide +kernel
theorem dX4_does_8 : decode cX4_does 8 = .ok (.invokestatic 82, 3) := by decide +kernel
theorem dX4_does_11 : decode cX4_does 11 = .ok (.ifCond .eq 17, 3) := by decide +kernel
theorem dX4_does_14 : decode cX4_does 14 = .ok (.iload_n 3, 1) := by decide +kernel
theorem dX4_does_15 : decode cX4_does 15 = .ok (.ifCond .lt 13, 3) := by decide +kernel
theorem dX4_does_18 : decode cX4_does 18 = .ok (.iload_n 3, 1) := by decide +kernel
theorem dX4_does_19 : decode cX4_does 19 = .ok (.aload_n 0, 1) := by decide +kernel
theorem dX4_does_20 : decode cX4_does 20 = .ok (.getfield 86, 3) := by decide +kernel
theorem dX4_does_23 : decode cX4_does 23 = .ok (.iconst 2, 1) := by decide +kernel
theorem dX4_does_24 : decode cX4_does 24 = .ok (.isub, 1) := by decide +kernel
theorem dX4_does_25 : decode cX4_does 25 = .ok (.if_icmp .le 5, 3) := by decide +kernel
theorem dX4_does_28 : decode cX4_does 28 = .ok (.iconst 0, 1) := by decide +kernel
theorem dX4_does_29 : decode cX4_does 29 = .ok (.ireturn, 1) := by decide +kernel
theorem dX4_does_30 : decode cX4_does 30 = .ok (.aload_n 0, 1) := by decide +kernel
theorem dX4_does_31 : decode cX4_does 31 = .ok (.iload_n 2, 1) := by decide +kernel
theorem dX4_does_32 : decode cX4_does 32 = .ok (.iload_n 3, 1) := by decide +kernel
theorem dX4_does_33 : decode cX4_does 33 = .ok (.invokevirtual 186, 3) := by decide +kernel
theorem dX4_does_36 : decode cX4_does 36 = .ok (.iconst 1, 1) := by decide +kernel
theorem dX4_does_37 : decode cX4_does 37 = .ok (.ireturn, 1) := by decide +kernel
theorem dX4_does_38 : decode cX4_does 38 = .ok (.aload_n 0, 1) := by decide +kernel
theorem dX4_does_39 : decode cX4_does 39 = .ok (.iload_n 2, 1) := by decide +kernel
theorem dX4_does_40 : decode cX4_does 40 = .ok (.invokevirtual 173, 3) := by decide +kernel
theorem dX4_does_43 : decode cX4_does 43 = .ok (.ifCond .eq 13, 3) := by decide +kernel
theorem dX4_does_46 : decode cX4_does 46 = .ok (.iload_n 3, 1) := by decide +kernel
theorem dX4_does_47 : decode cX4_does 47 = .ok (.iconst 1, 1) := by decide +kernel
theorem dX4_does_48 : decode cX4_does 48 = .ok (.bipush 9, 2) := by decide +kernel
theorem dX4_does_50 : decode cX4_does 50 = .ok (.invokestatic 82, 3) := by decide +kernel
theorem dX4_does_53 : decode cX4_does 53 = .ok (.ifCond .ne 5, 3) := by decide +kernel
theorem dX4_does_56 : decode cX4_does 56 = .ok (.iconst 0, 1) := by decide +kernel
theorem dX4_does_57 : decode cX4_does 57 = .ok (.ireturn, 1) := by decide +kernel
theorem dX4_does_58 : decode cX4_does 58 = .ok (.iload_n 1, 1) := by decide +kernel
theorem dX4_does_59 : decode cX4_does 59 = .ok (.ifCond .ne 13, 3) := by decide +kernel
theorem dX4_does_62 : decode cX4_does 62 = .ok (.aload_n 0, 1) := by decide +kernel
theorem dX4_does_63 : decode cX4_does 63 = .ok (.getfield 25, 3) := by decide +kernel
theorem dX4_does_66 : decode cX4_does 66 = .ok (.iload_n 2, 1) := by decide +kernel
theorem dX4_does_67 : decode cX4_does 67 = .ok (.iload_n 3, 1) := by decide +kernel
theorem dX4_does_68 : decode cX4_does 68 = .ok (.iastore, 1) := by decide +kernel
theorem dX4_does_69 : decode cX4_does 69 = .ok (.goto 10, 3) := by decide +kernel
theorem dX4_does_72 : decode cX4_does 72 = .ok (.aload_n 0, 1) := by decide +kernel
theorem dX4_does_73 : decode cX4_does 73 = .ok (.getfield 22, 3) := by decide +kernel
theorem dX4_does_76 : decode cX4_does 76 = .ok (.iload_n 2, 1) := by decide +kernel
theorem dX4_does_77 : decode cX4_does 77 = .ok (.iload_n 3, 1) := by decide +kernel
theorem dX4_does_78 : decode cX4_does 78 = .ok (.iastore, 1) := by decide +kernel
theorem dX4_does_79 : decode cX4_does 79 = .ok (.iconst 1, 1) := by decide +kernel
theorem dX4_does_80 : decode cX4_does 80 = .ok (.ireturn, 1) := by decide +kernel
theorem dX4_goDay_0 : decode cX4_goDay 0 = .ok (.iconst 0, 1) := by decide +kernel
theorem dX4_goDay_1 : decode cX4_goDay 1 = .ok (.istore_n 3, 1) := by decide +kernel
theorem dX4_goDay_2 : decode cX4_goDay 2 = .ok (.iload_n 3, 1) := by decide +kernel
theorem dX4_goDay_3 : decode cX4_goDay 3 = .ok (.iload_n 2, 1) := by decide +kernel
theorem dX4_goDay_4 : decode cX4_goDay 4 = .ok (.if_icmp .ge 52, 3) := by decide +kernel
theorem dX4_goDay_7 : decode cX4_goDay 7 = .ok (.aload_n 0, 1) := by decide +kernel
theorem dX4_goDay_8 : decode cX4_goDay 8 = .ok (.aload_n 0, 1) := by decide +kernel
theorem dX4_goDay_9 : decode cX4_goDay 9 = .ok (.getfield 16, 3) := by decide +kernel
theorem dX4_goDay_12 : decode cX4_goDay 12 = .ok (.iload_n 1, 1) := by decide +kernel
theorem dX4_goDay_13 : decode cX4_goDay 13 = .ok (.iconst 3, 1) := by decide +kernel
theorem dX4_goDay_14 : decode cX4_goDay 14 = .ok (.iload_n 3, 1) := by decide +kernel
theorem dX4_goDay_15 : decode cX4_goDay 15 = .ok (.imul, 1) := by decide +kernel
theorem dX4_goDay_16 : decode cX4_goDay 16 = .ok (.iadd, 1) := by decide +kernel
theorem dX4_goDay_17 : decode cX4_goDay 17 = .ok (.iaload, 1) := by decide +kernel
theorem dX4_goDay_18 : decode cX4_goDay 18 = .ok (.aload_n 0, 1) := by decide +kernel
theorem dX4_goDay_19 : decode cX4_goDay 19 = .ok (.getfield 16, 3) := by decide +kernel
theorem dX4_goDay_22 : decode cX4_goDay 22 = .ok (.iload_n 1, 1) := by decide +kernel
theorem dX4_goDay_23 : decode cX4_goDay 23 = .ok (.iconst 3, 1) := by decide +kernel
theorem dX4_goDay_24 : decode cX4_goDay 24 = .ok (.iload_n 3, 1) := by decide +kernel
theorem dX4_goDay_25 : decode cX4_goDay 25 = .ok (.imul, 1) := by decide +kernel
theorem dX4_goDay_26 : decode cX4_goDay 26 = .ok (.iadd, 1) := by decide +kernel
theorem dX4_goDay_27 : decode cX4_goDay 27 = .ok (.iconst 1, 1) := by decide +kernel
theorem dX4_goDay_28 : decode cX4_goDay 28 = .ok (.iadd, 1) := by decide +kernel
theorem dX4_goDay_29 : decode cX4_goDay 29 = .ok (.iaload, 1) := by decide +kernel
theorem dX4_goDay_30 : decode cX4_goDay 30 = .ok (.aload_n 0, 1) := by decide +kernel
theorem dX4_goDay_31 : decode cX4_goDay 31 = .ok (.getfield 16, 3) := by decide +kernel
theorem dX4_goDay_34 : decode cX4_goDay 34 = .ok (.iload_n 1, 1) := by decide +kernel
theorem dX4_goDay_35 : decode cX4_goDay 35 = .ok (.iconst 3, 1) := by decide +kernel
theorem dX4_goDay_36 : decode cX4_goDay 36 = .ok (.iload_n 3, 1) := by decide +kernel
theorem dX4_goDay_37 : decode cX4_goDay 37 = .ok (.imul, 1) := by decide +kernel
theorem dX4_goDay_38 : decode cX4_goDay 38 = .ok (.iadd, 1) := by decide +kernel
theorem dX4_goDay_39 : decode cX4_goDay 39 = .ok (.iconst 2, 1) := by decide +kernel
theorem dX4_goDay_40 : decode cX4_goDay 40 = .ok (.iadd, 1) := by decide +kernel
theorem dX4_goDay_41 : decode cX4_goDay 41 = .ok (.iaload, 1) := by decide +kernel
theorem dX4_goDay_42 : decode cX4_goDay 42 = .ok (.invokevirtual 199, 3) := by decide +kernel
theorem dX4_goDay_45 : decode cX4_goDay 45 = .ok (.ifCond .ne 5, 3) := by decide +kernel
theorem dX4_goDay_48 : decode cX4_goDay 48 = .ok (.iload_n 3, 1) := by decide +kernel
theorem dX4_goDay_49 : decode cX4_goDay 49 = .ok (.ireturn, 1) := by decide +kernel
theorem dX4_goDay_50 : decode cX4_goDay 50 = .ok (.iinc 3 1, 3) := by decide +kernel
theorem dX4_goDay_53 : decode cX4_goDay 53 = .ok (.goto (-51), 3) := by decide +kernel
theorem dX4_goDay_56 : decode cX4_goDay 56 = .ok (.bipush (-9), 2) := by decide +kernel
theorem dX4_goDay_58 : decode cX4_goDay 58 = .ok (.ireturn, 1) := by decide +kernel
theorem dX4_day_0 : decode cX4_day 0 = .ok (.aload_n 0, 1) := by decide +kernel
theorem dX4_day_1 : decode cX4_day 1 = .ok (.iconst 0, 1) := by decide +kernel
theorem dX4_day_2 : decode cX4_day 2 = .ok (.putfield 76, 3) := by decide +kernel
theorem dX4_day_5 : decode cX4_day 5 = .ok (.iload_n 1, 1) := by decide +kernel
theorem dX4_day_6 : decode cX4_day 6 = .ok (.invokestatic 92, 3) := by decide +kernel
theorem dX4_day_9 : decode cX4_day 9 = .ok (.ifCond .ne 5, 3) := by decide +kernel
theorem dX4_day_12 : decode cX4_day 12 = .ok (.iconst (-1), 1) := by decide +kernel
theorem dX4_day_13 : decode cX4_day 13 = .ok (.ireturn, 1) := by decide +kernel
theorem dX4_day_14 : decode cX4_day 14 = .ok (.iload_n 2, 1) := by decide +kernel
theorem dX4_day_15 : decode cX4_day 15 = .ok (.invokestatic 96, 3) := by decide +kernel
theorem dX4_day_18 : decode cX4_day 18 = .ok (.ifCond .eq 36, 3) := by decide +kernel
theorem dX4_day_21 : decode cX4_day 21 = .ok (.iload 4, 2) := by decide +kernel
theorem dX4_day_23 : decode cX4_day 23 = .ok (.iconst 0, 1) := by decide +kernel
theorem dX4_day_24 : decode cX4_day 24 = .ok (.bipush 20, 2) := by decide +kernel
theorem dX4_day_26 : decode cX4_day 26 = .ok (.invokestatic 82, 3) := by decide +kernel
theorem dX4_day_29 : decode cX4_day 29 = .ok (.ifCond .eq 25, 3) := by decide +kernel
theorem dX4_day_32 : decode cX4_day 32 = .ok (.iload 5, 2) := by decide +kernel
theorem dX4_day_34 : decode cX4_day 34 = .ok (.iconst 0, 1) := by decide +kernel
theorem dX4_day_35 : decode cX4_day 35 = .ok (.iconst 4, 1) := by decide +kernel
theorem dX4_day_36 : decode cX4_day 36 = .ok (.invokestatic 82, 3) := by decide +kernel
theorem dX4_day_39 : decode cX4_day 39 = .ok (.ifCond .ne 18, 3) := by decide +kernel
theorem dX4_day_42 : decode cX4_day 42 = .ok (.iload 5, 2) := by decide +kernel
theorem dX4_day_44 : decode cX4_day 44 = .ok (.bipush 10, 2) := by decide +kernel
theorem dX4_day_46 : decode cX4_day 46 = .ok (.bipush 15, 2) := by decide +kernel
theorem dX4_day_48 : decode cX4_day 48 = .ok (.invokestatic 82, 3) := by decide +kernel
theorem dX4_day_51 : decode cX4_day 51 = .ok (.ifCond .ne 6, 3) := by decide +kernel
theorem dX4_day_54 : decode cX4_day 54 = .ok (.bipush (-2), 2) := by decide +kernel
theorem dX4_day_56 : decode cX4_day 56 = .ok (.ireturn, 1) := by decide +kernel
theorem dX4_day_57 : decode cX4_day 57 = .ok (.aload_n 0, 1) := by decide +kernel
theorem dX4_day_58 : decode cX4_day 58 = .ok (.iload_n 1, 1) := by decide +kernel
theorem dX4_day_59 : decode cX4_day 59 = .ok (.iload_n 2, 1) := by decide +kernel
theorem dX4_day_60 : decode cX4_day 60 = .ok (.iload_n 3, 1) := by decide +kernel
theorem dX4_day_61 : decode cX4_day 61 = .ok (.iconst 3, 1) := by decide +kernel
theorem dX4_day_62 : decode cX4_day 62 = .ok (.iload 4, 2) := by decide +kernel
theorem dX4_day_64 : decode cX4_day 64 = .ok (.imul, 1) := by decide +kernel
theorem dX4_day_65 : decode cX4_day 65 = .ok (.invokevirtual 99, 3) := by decide +kernel
theorem dX4_day_68 : decode cX4_day 68 = .ok (.istore 6, 2) := by decide +kernel
theorem dX4_day_70 : decode cX4_day 70 = .ok (.iload 6, 2) := by decide +kernel
theorem dX4_day_72 : decode cX4_day 72 = .ok (.ifCond .eq 10, 3) := by decide +kernel
theorem dX4_day_75 : decode cX4_day 75 = .ok (.aload_n 0, 1) := by decide +kernel
theorem dX4_day_76 : decode cX4_day 76 = .ok (.iload 6, 2) := by decide +kernel
theorem dX4_day_78 : decode cX4_day 78 = .ok (.invokevirtual 103, 3) := by decide +kernel
theorem dX4_day_81 : decode cX4_day 81 = .ok (.ireturn, 1) := by decide +kernel
theorem dX4_day_82 : decode cX4_day 82 = .ok (.aload_n 0, 1) := by decide +kernel
theorem dX4_day_83 : decode cX4_day 83 = .ok (.getfield 86, 3) := by decide +kernel
theorem dX4_day_86 : decode cX4_day 86 = .ok (.ifCond .ne 6, 3) := by decide +kernel
theorem dX4_day_89 : decode cX4_day 89 = .ok (.bipush (-3), 2) := by decide +kernel
theorem dX4_day_91 : decode cX4_day 91 = .ok (.ireturn, 1) := by decide +kernel
theorem dX4_day_92 : decode cX4_day 92 = .ok (.bipush 60, 2) := by decide +kernel
theorem dX4_day_94 : decode cX4_day 94 = .ok (.iload_n 1, 1) := by decide +kernel
theorem dX4_day_95 : decode cX4_day 95 = .ok (.imul, 1) := by decide +kernel
theorem dX4_day_96 : decode cX4_day 96 = .ok (.iload_n 3, 1) := by decide +kernel
theorem dX4_day_97 : decode cX4_day 97 = .ok (.iadd, 1) := by decide +kernel
theorem dX4_day_98 : decode cX4_day 98 = .ok (.istore 7, 2) := by decide +kernel
theorem dX4_day_100 : decode cX4_day 100 = .ok (.iconst 0, 1) := by decide +kernel
theorem dX4_day_101 : decode cX4_day 101 = .ok (.istore 8, 2) := by decide +kernel
theorem dX4_day_103 : decode cX4_day 103 = .ok (.iload 8, 2) := by decide +kernel
theorem dX4_day_105 : decode cX4_day 105 = .ok (.iload 4, 2) := by decide +kernel
theorem dX4_day_107 : decode cX4_day 107 = .ok (.if_icmp .ge 32, 3) := by decide +kernel
theorem dX4_day_110 : decode cX4_day 110 = .ok (.aload_n 0, 1) := by decide +kernel
theorem dX4_day_111 : decode cX4_day 111 = .ok (.getfield 16, 3) := by decide +kernel
theorem dX4_day_114 : decode cX4_day 114 = .ok (.iload 7, 2) := by decide +kernel
theorem dX4_day_116 : decode cX4_day 116 = .ok (.iconst 3, 1) := by decide +kernel
theorem dX4_day_117 : decode cX4_day 117 = .ok (.iload 8, 2) := by decide +kernel
theorem dX4_day_119 : decode cX4_day 119 = .ok (.imul, 1) := by decide +kernel
theorem dX4_day_120 : decode cX4_day 120 = .ok (.iadd, 1) := by decide +kernel
theorem dX4_day_121 : decode cX4_day 121 = .ok (.iaload, 1) := by decide +kernel
theorem dX4_day_122 : decode cX4_day 122 = .ok (.iconst 0, 1) := by decide +kernel
theorem dX4_day_123 : decode cX4_day 123 = .ok (.iconst 2, 1) := by decide +kernel
theorem dX4_day_124 : decode cX4_day 124 = .ok (.invokestatic 82, 3) := by decide +kernel
theorem dX4_day_127 : decode cX4_day 127 = .ok (.ifCond .ne 6, 3) := by decide +kernel
theorem dX4_day_130 : decode cX4_day 130 = .ok (.bipush (-2), 2) := by decide +kernel
theorem dX4_day_132 : decode cX4_day 132 = .ok (.ireturn, 1) := by decide +kernel
theorem dX4_day_133 : decode cX4_day 133 = .ok (.iinc 8 1, 3) := by decide +kernel
theorem dX4_day_136 : decode cX4_day 136 = .ok (.goto (-33), 3) := by decide +kernel
theorem dX4_day_139 : decode cX4_day 139 = .ok (.aload_n 0, 1) := by decide +kernel
theorem dX4_day_140 : decode cX4_day 140 = .ok (.invokevirtual 202, 3) := by decide +kernel
theorem dX4_day_143 : decode cX4_day 143 = .ok (.aload_n 0, 1) := by decide +kernel
theorem dX4_day_144 : decode cX4_day 144 = .ok (.iload 7, 2) := by decide +kernel
theorem dX4_day_146 : decode cX4_day 146 = .ok (.iload 4, 2) := by decide +kernel
theorem dX4_day_148 : decode cX4_day 148 = .ok (.invokevirtual 205, 3) := by decide +kernel
theorem dX4_day_151 : decode cX4_day 151 = .ok (.istore 8, 2) := by decide +kernel
theorem dX4_day_153 : decode cX4_day 153 = .ok (.aload_n 0, 1) := by decide +kernel
theorem dX4_day_154 : decode cX4_day 154 = .ok (.iload 5, 2) := by decide +kernel
theorem dX4_day_156 : decode cX4_day 156 = .ok (.invokevirtual 208, 3) := by decide +kernel
theorem dX4_day_159 : decode cX4_day 159 = .ok (.istore 9, 2) := by decide +kernel
theorem dX4_day_161 : decode cX4_day 161 = .ok (.aload_n 0, 1) := by decide +kernel
theorem dX4_day_162 : decode cX4_day 162 = .ok (.invokevirtual 211, 3) := by decide +kernel
theorem dX4_day_165 : decode cX4_day 165 = .ok (.iload 5, 2) := by decide +kernel
theorem dX4_day_167 : decode cX4_day 167 = .ok (.iconst 1, 1) := by decide +kernel
theorem dX4_day_168 : decode cX4_day 168 = .ok (.if_icmp .ne 8, 3) := by decide +kernel
theorem dX4_day_171 : decode cX4_day 171 = .ok (.iload 8, 2) := by decide +kernel
theorem dX4_day_173 : decode cX4_day 173 = .ok (.goto 20, 3) := by decide +kernel
theorem dX4_day_176 : decode cX4_day 176 = .ok (.iload 8, 2) := by decide +kernel
theorem dX4_day_178 : decode cX4_day 178 = .ok (.bipush (-9), 2) := by decide +kernel
theorem dX4_day_180 : decode cX4_day 180 = .ok (.if_icmp .ne 8, 3) := by decide +kernel
theorem dX4_day_183 : decode cX4_day 183 = .ok (.iload 9, 2) := by decide +kernel
theorem dX4_day_185 : decode cX4_day 185 = .ok (.goto 8, 3) := by decide +kernel
theorem dX4_day_188 : decode cX4_day 188 = .ok (.bipush (-100), 2) := by decide +kernel
theorem dX4_day_190 : decode cX4_day 190 = .ok (.iload 8, 2) := by decide +kernel
theorem dX4_day_192 : decode cX4_day 192 = .ok (.isub, 1) := by decide +kernel
theorem dX4_day_193 : decode cX4_day 193 = .ok (.ireturn, 1) := by decide +kernel
theorem dX4_tellDay_0 : decode cX4_tellDay 0 = .ok (.aload_n 0, 1) := by decide +kernel
theorem dX4_tellDay_1 : decode cX4_tellDay 1 = .ok (.invokevirtual 164, 3) := by decide +kernel
theorem dX4_tellDay_4 : decode cX4_tellDay 4 = .ok (.iload_n 1, 1) := by decide +kernel
theorem dX4_tellDay_5 : decode cX4_tellDay 5 = .ok (.bipush 10, 2) := by decide +kernel
theorem dX4_tellDay_7 : decode cX4_tellDay 7 = .ok (.if_icmp .lt 29, 3) := by decide +kernel
theorem dX4_tellDay_10 : decode cX4_tellDay 10 = .ok (.aload_n 0, 1) := by decide +kernel
theorem dX4_tellDay_11 : decode cX4_tellDay 11 = .ok (.iload_n 1, 1) := by decide +kernel
theorem dX4_tellDay_12 : decode cX4_tellDay 12 = .ok (.bipush 10, 2) := by decide +kernel
theorem dX4_tellDay_14 : decode cX4_tellDay 14 = .ok (.isub, 1) := by decide +kernel
theorem dX4_tellDay_15 : decode cX4_tellDay 15 = .ok (.invokevirtual 173, 3) := by decide +kernel
theorem dX4_tellDay_18 : decode cX4_tellDay 18 = .ok (.ifCond .eq 15, 3) := by decide +kernel
theorem dX4_tellDay_21 : decode cX4_tellDay 21 = .ok (.aload_n 0, 1) := by decide +kernel
theorem dX4_tellDay_22 : decode cX4_tellDay 22 = .ok (.getfield 49, 3) := by decide +kernel
theorem dX4_tellDay_25 : decode cX4_tellDay 25 = .ok (.iload_n 1, 1) := by decide +kernel
theorem dX4_tellDay_26 : decode cX4_tellDay 26 = .ok (.bipush 10, 2) := by decide +kernel
theorem dX4_tellDay_28 : decode cX4_tellDay 28 = .ok (.isub, 1) := by decide +kernel
theorem dX4_tellDay_29 : decode cX4_tellDay 29 = .ok (.iaload, 1) := by decide +kernel
theorem dX4_tellDay_30 : decode cX4_tellDay 30 = .ok (.goto 5, 3) := by decide +kernel
theorem dX4_tellDay_33 : decode cX4_tellDay 33 = .ok (.bipush (-9), 2) := by decide +kernel
theorem dX4_tellDay_35 : decode cX4_tellDay 35 = .ok (.ireturn, 1) := by decide +kernel
theorem dX4_tellDay_36 : decode cX4_tellDay 36 = .ok (.iload_n 1, 1) := by decide +kernel
theorem dX4_tellDay_37 : decode cX4_tellDay 37 = .ok (.ifCond .ne 10, 3) := by decide +kernel
theorem dX4_tellDay_40 : decode cX4_tellDay 40 = .ok (.aload_n 0, 1) := by decide +kernel
theorem dX4_tellDay_41 : decode cX4_tellDay 41 = .ok (.getfield 136, 3) := by decide +kernel
theorem dX4_tellDay_44 : decode cX4_tellDay 44 = .ok (.goto 31, 3) := by decide +kernel
theorem dX4_tellDay_47 : decode cX4_tellDay 47 = .ok (.iload_n 1, 1) := by decide +kernel
theorem dX4_tellDay_48 : decode cX4_tellDay 48 = .ok (.iconst 2, 1) := by decide +kernel
theorem dX4_tellDay_49 : decode cX4_tellDay 49 = .ok (.if_icmp .ne 10, 3) := by decide +kernel
theorem dX4_tellDay_52 : decode cX4_tellDay 52 = .ok (.aload_n 0, 1) := by decide +kernel
theorem dX4_tellDay_53 : decode cX4_tellDay 53 = .ok (.getfield 139, 3) := by decide +kernel
theorem dX4_tellDay_56 : decode cX4_tellDay 56 = .ok (.goto 19, 3) := by decide +kernel
theorem dX4_tellDay_59 : decode cX4_tellDay 59 = .ok (.iload_n 1, 1) := by decide +kernel
theorem dX4_tellDay_60 : decode cX4_tellDay 60 = .ok (.iconst 3, 1) := by decide +kernel
theorem dX4_tellDay_61 : decode cX4_tellDay 61 = .ok (.if_icmp .ne 10, 3) := by decide +kernel
theorem dX4_tellDay_64 : decode cX4_tellDay 64 = .ok (.aload_n 0, 1) := by decide +kernel
theorem dX4_tellDay_65 : decode cX4_tellDay 65 = .ok (.invokevirtual 190, 3) := by decide +kernel
theorem dX4_tellDay_68 : decode cX4_tellDay 68 = .ok (.goto 7, 3) := by decide +kernel
theorem dX4_tellDay_71 : decode cX4_tellDay 71 = .ok (.aload_n 0, 1) := by decide +kernel
theorem dX4_tellDay_72 : decode cX4_tellDay 72 = .ok (.invokevirtual 193, 3) := by decide +kernel
theorem dX4_tellDay_75 : decode cX4_tellDay 75 = .ok (.ireturn, 1) := by decide +kernel
theorem dX4_goesOn_0 : decode cX4_goesOn 0 = .ok (.aload_n 0, 1) := by decide +kernel
theorem dX4_goesOn_1 : decode cX4_goesOn 1 = .ok (.getfield 86, 3) := by decide +kernel
theorem dX4_goesOn_4 : decode cX4_goesOn 4 = .ok (.iconst 2, 1) := by decide +kernel
theorem dX4_goesOn_5 : decode cX4_goesOn 5 = .ok (.isub, 1) := by decide +kernel
theorem dX4_goesOn_6 : decode cX4_goesOn 6 = .ok (.istore_n 1, 1) := by decide +kernel
theorem dX4_goesOn_7 : decode cX4_goesOn 7 = .ok (.iload_n 1, 1) := by decide +kernel
theorem dX4_goesOn_8 : decode cX4_goesOn 8 = .ok (.ifCond .lt 32, 3) := by decide +kernel
theorem dX4_goesOn_11 : decode cX4_goesOn 11 = .ok (.aload_n 0, 1) := by decide +kernel
theorem dX4_goesOn_12 : decode cX4_goesOn 12 = .ok (.getfield 31, 3) := by decide +kernel
theorem dX4_goesOn_15 : decode cX4_goesOn 15 = .ok (.bipush 6, 2) := by decide +kernel
theorem dX4_goesOn_17 : decode cX4_goesOn 17 = .ok (.iload_n 1, 1) := by decide +kernel
theorem dX4_goesOn_18 : decode cX4_goesOn 18 = .ok (.iadd, 1) := by decide +kernel
theorem dX4_goesOn_19 : decode cX4_goesOn 19 = .ok (.iaload, 1) := by decide +kernel
theorem dX4_goesOn_20 : decode cX4_goesOn 20 = .ok (.aload_n 0, 1) := by decide +kernel
theorem dX4_goesOn_21 : decode cX4_goesOn 21 = .ok (.getfield 31, 3) := by decide +kernel
theorem dX4_goesOn_24 : decode cX4_goesOn 24 = .ok (.bipush 6, 2) := by decide +kernel
theorem dX4_goesOn_26 : decode cX4_goesOn 26 = .ok (.iload_n 1, 1) := by decide +kernel
theorem dX4_goesOn_27 : decode cX4_goesOn 27 = .ok (.iadd, 1) := by decide +kernel
theorem dX4_goesOn_28 : decode cX4_goesOn 28 = .ok (.iconst 1, 1) := by decide +kernel
theorem dX4_goesOn_29 : decode cX4_goesOn 29 = .ok (.iadd, 1) := by decide +kernel
theorem dX4_goesOn_30 : decode cX4_goesOn 30 = .ok (.iaload, 1) := by decide +kernel
theorem dX4_goesOn_31 : decode cX4_goesOn 31 = .ok (.if_icmp .le 9, 3) := by decide +kernel
theorem dX4_goesOn_34 : decode cX4_goesOn 34 = .ok (.iinc 1 (-1), 3) := by decide +kernel
theorem dX4_goesOn_37 : decode cX4_goesOn 37 = .ok (.goto (-30), 3) := by decide +kernel
theorem dX4_goesOn_40 : decode cX4_goesOn 40 = .ok (.iload_n 1, 1) := by decide +kernel
theorem dX4_goesOn_41 : decode cX4_goesOn 41 = .ok (.ifCond .ge 5, 3) := by decide +kernel
theorem dX4_goesOn_44 : decode cX4_goesOn 44 = .ok (.iconst 0, 1) := by decide +kernel
theorem dX4_goesOn_45 : decode cX4_goesOn 45 = .ok (.ireturn, 1) := by decide +kernel
theorem dX4_goesOn_46 : decode cX4_goesOn 46 = .ok (.aload_n 0, 1) := by decide +kernel
theorem dX4_goesOn_47 : decode cX4_goesOn 47 = .ok (.getfield 86, 3) := by decide +kernel
theorem dX4_goesOn_50 : decode cX4_goesOn 50 = .ok (.iconst 1, 1) := by decide +kernel
theorem dX4_goesOn_51 : decode cX4_goesOn 51 = .ok (.isub, 1) := by decide +kernel
theorem dX4_goesOn_52 : decode cX4_goesOn 52 = .ok (.istore_n 2, 1) := by decide +kernel
theorem dX4_goesOn_53 : decode cX4_goesOn 53 = .ok (.aload_n 0, 1) := by decide +kernel
theorem dX4_goesOn_54 : decode cX4_goesOn 54 = .ok (.getfield 31, 3) := by decide +kernel
theorem dX4_goesOn_57 : decode cX4_goesOn 57 = .ok (.bipush 6, 2) := by decide +kernel
theorem dX4_goesOn_59 : decode cX4_goesOn 59 = .ok (.iload_n 2, 1) := by decide +kernel
theorem dX4_goesOn_60 : decode cX4_goesOn 60 = .ok (.iadd, 1) := by decide +kernel
theorem dX4_goesOn_61 : decode cX4_goesOn 61 = .ok (.iaload, 1) := by decide +kernel
theorem dX4_goesOn_62 : decode cX4_goesOn 62 = .ok (.aload_n 0, 1) := by decide +kernel
theorem dX4_goesOn_63 : decode cX4_goesOn 63 = .ok (.getfield 31, 3) := by decide +kernel
theorem dX4_goesOn_66 : decode cX4_goesOn 66 = .ok (.bipush 6, 2) := by decide +kernel
theorem dX4_goesOn_68 : decode cX4_goesOn 68 = .ok (.iload_n 1, 1) := by decide +kernel
theorem dX4_goesOn_69 : decode cX4_goesOn 69 = .ok (.iadd, 1) := by decide +kernel
theorem dX4_goesOn_70 : decode cX4_goesOn 70 = .ok (.iaload, 1) := by decide +kernel
theorem dX4_goesOn_71 : decode cX4_goesOn 71 = .ok (.if_icmp .ge 9, 3) := by decide +kernel
theorem dX4_goesOn_74 : decode cX4_goesOn 74 = .ok (.iinc 2 (-1), 3) := by decide +kernel
theorem dX4_goesOn_77 : decode cX4_goesOn 77 = .ok (.goto (-24), 3) := by decide +kernel
theorem dX4_goesOn_80 : decode cX4_goesOn 80 = .ok (.aload_n 0, 1) := by decide +kernel
theorem dX4_goesOn_81 : decode cX4_goesOn 81 = .ok (.getfield 31, 3) := by decide +kernel
theorem dX4_goesOn_84 : decode cX4_goesOn 84 = .ok (.bipush 6, 2) := by decide +kernel
theorem dX4_goesOn_86 : decode cX4_goesOn 86 = .ok (.iload_n 1, 1) := by decide +kernel
theorem dX4_goesOn_87 : decode cX4_goesOn 87 = .ok (.iadd, 1) := by decide +kernel
theorem dX4_goesOn_88 : decode cX4_goesOn 88 = .ok (.iaload, 1) := by decide +kernel
theorem dX4_goesOn_89 : decode cX4_goesOn 89 = .ok (.istore_n 3, 1) := by decide +kernel
theorem dX4_goesOn_90 : decode cX4_goesOn 90 = .ok (.aload_n 0, 1) := by decide +kernel
theorem dX4_goesOn_91 : decode cX4_goesOn 91 = .ok (.getfield 31, 3) := by decide +kernel
theorem dX4_goesOn_94 : decode cX4_goesOn 94 = .ok (.bipush 6, 2) := by decide +kernel
theorem dX4_goesOn_96 : decode cX4_goesOn 96 = .ok (.iload_n 1, 1) := by decide +kernel
theorem dX4_goesOn_97 : decode cX4_goesOn 97 = .ok (.iadd, 1) := by decide +kernel
theorem dX4_goesOn_98 : decode cX4_goesOn 98 = .ok (.aload_n 0, 1) := by decide +kernel
theorem dX4_goesOn_99 : decode cX4_goesOn 99 = .ok (.getfield 31, 3) := by decide +kernel
theorem dX4_goesOn_102 : decode cX4_goesOn 102 = .ok (.bipush 6, 2) := by decide +kernel
theorem dX4_goesOn_104 : decode cX4_goesOn 104 = .ok (.iload_n 2, 1) := by decide +kernel
theorem dX4_goesOn_105 : decode cX4_goesOn 105 = .ok (.iadd, 1) := by decide +kernel
theorem dX4_goesOn_106 : decode cX4_goesOn 106 = .ok (.iaload, 1) := by decide +kernel
theorem dX4_goesOn_107 : decode cX4_goesOn 107 = .ok (.iastore, 1) := by decide +kernel
theorem dX4_goesOn_108 : decode cX4_goesOn 108 = .ok (.aload_n 0, 1) := by decide +kernel
theorem dX4_goesOn_109 : decode cX4_goesOn 109 = .ok (.getfield 31, 3) := by decide +kernel
theorem dX4_goesOn_112 : decode cX4_goesOn 112 = .ok (.bipush 6, 2) := by decide +kernel
theorem dX4_goesOn_114 : decode cX4_goesOn 114 = .ok (.iload_n 2, 1) := by decide +kernel
theorem dX4_goesOn_115 : decode cX4_goesOn 115 = .ok (.iadd, 1) := by decide +kernel
theorem dX4_goesOn_116 : decode cX4_goesOn 116 = .ok (.iload_n 3, 1) := by decide +kernel
theorem dX4_goesOn_117 : decode cX4_goesOn 117 = .ok (.iastore, 1) := by decide +kernel
theorem dX4_goesOn_118 : decode cX4_goesOn 118 = .ok (.iload_n 1, 1) := by decide +kernel
theorem dX4_goesOn_119 : decode cX4_goesOn 119 = .ok (.iconst 1, 1) := by decide +kernel
theorem dX4_goesOn_120 : decode cX4_goesOn 120 = .ok (.iadd, 1) := by decide +kernel
theorem dX4_goesOn_121 : decode cX4_goesOn 121 = .ok (.istore 4, 2) := by decide +kernel
theorem dX4_goesOn_123 : decode cX4_goesOn 123 = .ok (.aload_n 0, 1) := by decide +kernel
theorem dX4_goesOn_124 : decode cX4_goesOn 124 = .ok (.getfield 86, 3) := by decide +kernel
theorem dX4_goesOn_127 : decode cX4_goesOn 127 = .ok (.iconst 1, 1) := by decide +kernel
theorem dX4_goesOn_128 : decode cX4_goesOn 128 = .ok (.isub, 1) := by decide +kernel
theorem dX4_goesOn_129 : decode cX4_goesOn 129 = .ok (.istore 5, 2) := by decide +kernel
theorem dX4_goesOn_131 : decode cX4_goesOn 131 = .ok (.iload 4, 2) := by decide +kernel
theorem dX4_goesOn_133 : decode cX4_goesOn 133 = .ok (.iload 5, 2) := by decide +kernel
theorem dX4_goesOn_135 : decode cX4_goesOn 135 = .ok (.if_icmp .ge 20, 3) := by decide +kernel
theorem dX4_goesOn_138 : decode cX4_goesOn 138 = .ok (.aload_n 0, 1) := by decide +kernel
theorem dX4_goesOn_139 : decode cX4_goesOn 139 = .ok (.iload 4, 2) := by decide +kernel
theorem dX4_goesOn_141 : decode cX4_goesOn 141 = .ok (.iload 5, 2) := by decide +kernel
theorem dX4_goesOn_143 : decode cX4_goesOn 143 = .ok (.invokevirtual 214, 3) := by decide +kernel
theorem dX4_goesOn_146 : decode cX4_goesOn 146 = .ok (.iinc 4 1, 3) := by decide +kernel
theorem dX4_goesOn_149 : decode cX4_goesOn 149 = .ok (.iinc 5 (-1), 3) := by decide +kernel
theorem dX4_goesOn_152 : decode cX4_goesOn 152 = .ok (.goto (-21), 3) := by decide +kernel
theorem dX4_goesOn_155 : decode cX4_goesOn 155 = .ok (.iconst 1, 1) := by decide +kernel
theorem dX4_goesOn_156 : decode cX4_goesOn 156 = .ok (.ireturn, 1) := by decide +kernel
theorem dX4_turnsAbout_0 : decode cX4_turnsAbout 0 = .ok (.aload_n 0, 1) := by decide +kernel
theorem dX4_turnsAbout_1 : decode cX4_turnsAbout 1 = .ok (.getfield 31, 3) := by decide +kernel
theorem dX4_turnsAbout_4 : decode cX4_turnsAbout 4 = .ok (.bipush 6, 2) := by decide +kernel
theorem dX4_turnsAbout_6 : decode cX4_turnsAbout 6 = .ok (.iload_n 1, 1) := by decide +kernel
theorem dX4_turnsAbout_7 : decode cX4_turnsAbout 7 = .ok (.iadd, 1) := by decide +kernel
theorem dX4_turnsAbout_8 : decode cX4_turnsAbout 8 = .ok (.iaload, 1) := by decide +kernel
theorem dX4_turnsAbout_9 : decode cX4_turnsAbout 9 = .ok (.istore_n 3, 1) := by decide +kernel
theorem dX4_turnsAbout_10 : decode cX4_turnsAbout 10 = .ok (.aload_n 0, 1) := by decide +kernel
theorem dX4_turnsAbout_11 : decode cX4_turnsAbout 11 = .ok (.getfield 31, 3) := by decide +kernel
theorem dX4_turnsAbout_14 : decode cX4_turnsAbout 14 = .ok (.bipush 6, 2) := by decide +kernel
theorem dX4_turnsAbout_16 : decode cX4_turnsAbout 16 = .ok (.iload_n 1, 1) := by decide +kernel
theorem dX4_turnsAbout_17 : decode cX4_turnsAbout 17 = .ok (.iadd, 1) := by decide +kernel
theorem dX4_turnsAbout_18 : decode cX4_turnsAbout 18 = .ok (.aload_n 0, 1) := by decide +kernel
theorem dX4_turnsAbout_19 : decode cX4_turnsAbout 19 = .ok (.getfield 31, 3) := by decide +kernel
theorem dX4_turnsAbout_22 : decode cX4_turnsAbout 22 = .ok (.bipush 6, 2) := by decide +kernel
theorem dX4_turnsAbout_24 : decode cX4_turnsAbout 24 = .ok (.iload_n 2, 1) := by decide +kernel
theorem dX4_turnsAbout_25 : decode cX4_turnsAbout 25 = .ok (.iadd, 1) := by decide +kernel
theorem dX4_turnsAbout_26 : decode cX4_turnsAbout 26 = .ok (.iaload, 1) := by decide +kernel
theorem dX4_turnsAbout_27 : decode cX4_turnsAbout 27 = .ok (.iastore, 1) := by decide +kernel
theorem dX4_turnsAbout_28 : decode cX4_turnsAbout 28 = .ok (.aload_n 0, 1) := by decide +kernel
theorem dX4_turnsAbout_29 : decode cX4_turnsAbout 29 = .ok (.getfield 31, 3) := by decide +kernel
theorem dX4_turnsAbout_32 : decode cX4_turnsAbout 32 = .ok (.bipush 6, 2) := by decide +kernel
theorem dX4_turnsAbout_34 : decode cX4_turnsAbout 34 = .ok (.iload_n 2, 1) := by decide +kernel
theorem dX4_turnsAbout_35 : decode cX4_turnsAbout 35 = .ok (.iadd, 1) := by decide +kernel
theorem dX4_turnsAbout_36 : decode cX4_turnsAbout 36 = .ok (.iload_n 3, 1) := by decide +kernel
theorem dX4_turnsAbout_37 : decode cX4_turnsAbout 37 = .ok (.iastore, 1) := by decide +kernel
theorem dX4_turnsAbout_38 : decode cX4_turnsAbout 38 = .ok (.return_, 1) := by decide +kernel
theorem dX4_findLeast_0 : decode cX4_findLeast 0 = .ok (.iconst 0, 1) := by decide +kernel
theorem dX4_findLeast_1 : decode cX4_findLeast 1 = .ok (.istore_n 2, 1) := by decide +kernel
theorem dX4_findLeast_2 : decode cX4_findLeast 2 = .ok (.iload_n 2, 1) := by decide +kernel
theorem dX4_findLeast_3 : decode cX4_findLeast 3 = .ok (.aload_n 0, 1) := by decide +kernel
theorem dX4_findLeast_4 : decode cX4_findLeast 4 = .ok (.getfield 86, 3) := by decide +kernel
theorem dX4_findLeast_7 : decode cX4_findLeast 7 = .ok (.if_icmp .ge 34, 3) := by decide +kernel
theorem dX4_findLeast_10 : decode cX4_findLeast 10 = .ok (.aload_n 0, 1) := by decide +kernel
theorem dX4_findLeast_11 : decode cX4_findLeast 11 = .ok (.getfield 64, 3) := by decide +kernel
theorem dX4_findLeast_14 : decode cX4_findLeast 14 = .ok (.iload_n 2, 1) := by decide +kernel
theorem dX4_findLeast_15 : decode cX4_findLeast 15 = .ok (.aload_n 0, 1) := by decide +kernel
theorem dX4_findLeast_16 : decode cX4_findLeast 16 = .ok (.getfield 31, 3) := by decide +kernel
theorem dX4_findLeast_19 : decode cX4_findLeast 19 = .ok (.bipush 6, 2) := by decide +kernel
theorem dX4_findLeast_21 : decode cX4_findLeast 21 = .ok (.iload_n 2, 1) := by decide +kernel
theorem dX4_findLeast_22 : decode cX4_findLeast 22 = .ok (.iadd, 1) := by decide +kernel
theorem dX4_findLeast_23 : decode cX4_findLeast 23 = .ok (.iaload, 1) := by decide +kernel
theorem dX4_findLeast_24 : decode cX4_findLeast 24 = .ok (.iastore, 1) := by decide +kernel
theorem dX4_findLeast_25 : decode cX4_findLeast 25 = .ok (.aload_n 0, 1) := by decide +kernel
theorem dX4_findLeast_26 : decode cX4_findLeast 26 = .ok (.getfield 31, 3) := by decide +kernel
theorem dX4_findLeast_29 : decode cX4_findLeast 29 = .ok (.bipush 6, 2) := by decide +kernel
theorem dX4_findLeast_31 : decode cX4_findLeast 31 = .ok (.iload_n 2, 1) := by decide +kernel
theorem dX4_findLeast_32 : decode cX4_findLeast 32 = .ok (.iadd, 1) := by decide +kernel
theorem dX4_findLeast_33 : decode cX4_findLeast 33 = .ok (.iload_n 2, 1) := by decide +kernel
theorem dX4_findLeast_34 : decode cX4_findLeast 34 = .ok (.iastore, 1) := by decide +kernel
theorem dX4_findLeast_35 : decode cX4_findLeast 35 = .ok (.iinc 2 1, 3) := by decide +kernel
theorem dX4_findLeast_38 : decode cX4_findLeast 38 = .ok (.goto (-36), 3) := by decide +kernel
theorem dX4_findLeast_41 : decode cX4_findLeast 41 = .ok (.aload_n 0, 1) := by decide +kernel
theorem dX4_findLeast_42 : decode cX4_findLeast 42 = .ok (.bipush (-9), 2) := by decide +kernel
theorem dX4_findLeast_44 : decode cX4_findLeast 44 = .ok (.putfield 217, 3) := by decide +kernel
theorem dX4_findLeast_47 : decode cX4_findLeast 47 = .ok (.aload_n 0, 1) := by decide +kernel
theorem dX4_findLeast_48 : decode cX4_findLeast 48 = .ok (.iconst 0, 1) := by decide +kernel
theorem dX4_findLeast_49 : decode cX4_findLeast 49 = .ok (.putfield 220, 3) := by decide +kernel
theorem dX4_findLeast_52 : decode cX4_findLeast 52 = .ok (.aload_n 0, 1) := by decide +kernel
theorem dX4_findLeast_53 : decode cX4_findLeast 53 = .ok (.iconst 0, 1) := by decide +kernel
theorem dX4_findLeast_54 : decode cX4_findLeast 54 = .ok (.putfield 223, 3) := by decide +kernel
theorem dX4_findLeast_57 : decode cX4_findLeast 57 = .ok (.iconst 1, 1) := by decide +kernel
theorem dX4_findLeast_58 : decode cX4_findLeast 58 = .ok (.istore_n 2, 1) := by decide +kernel
theorem dX4_findLeast_59 : decode cX4_findLeast 59 = .ok (.iload_n 2, 1) := by decide +kernel
theorem dX4_findLeast_60 : decode cX4_findLeast 60 = .ok (.ifCond .eq 121, 3) := by decide +kernel
theorem dX4_findLeast_63 : decode cX4_findLeast 63 = .ok (.aload_n 0, 1) := by decide +kernel
theorem dX4_findLeast_64 : decode cX4_findLeast 64 = .ok (.invokevirtual 164, 3) := by decide +kernel
theorem dX4_findLeast_67 : decode cX4_findLeast 67 = .ok (.aload_n 0, 1) := by decide +kernel
theorem dX4_findLeast_68 : decode cX4_findLeast 68 = .ok (.dup, 1) := by decide +kernel
theorem dX4_findLeast_69 : decode cX4_findLeast 69 = .ok (.getfield 220, 3) := by decide +kernel
theorem dX4_findLeast_72 : decode cX4_findLeast 72 = .ok (.iconst 1, 1) := by decide +kernel
theorem dX4_findLeast_73 : decode cX4_findLeast 73 = .ok (.iadd, 1) := by decide +kernel
theorem dX4_findLeast_74 : decode cX4_findLeast 74 = .ok (.putfield 220, 3) := by decide +kernel
theorem dX4_findLeast_77 : decode cX4_findLeast 77 = .ok (.aload_n 0, 1) := by decide +kernel
theorem dX4_findLeast_78 : decode cX4_findLeast 78 = .ok (.dup, 1) := by decide +kernel
theorem dX4_findLeast_79 : decode cX4_findLeast 79 = .ok (.getfield 223, 3) := by decide +kernel
theorem dX4_findLeast_82 : decode cX4_findLeast 82 = .ok (.aload_n 0, 1) := by decide +kernel
theorem dX4_findLeast_83 : decode cX4_findLeast 83 = .ok (.getfield 136, 3) := by decide +kernel
theorem dX4_findLeast_86 : decode cX4_findLeast 86 = .ok (.aload_n 0, 1) := by decide +kernel
theorem dX4_findLeast_87 : decode cX4_findLeast 87 = .ok (.getfield 139, 3) := by decide +kernel
theorem dX4_findLeast_90 : decode cX4_findLeast 90 = .ok (.imul, 1) := by decide +kernel
theorem dX4_findLeast_91 : decode cX4_findLeast 91 = .ok (.iload_n 1, 1) := by decide +kernel
theorem dX4_findLeast_92 : decode cX4_findLeast 92 = .ok (.if_icmp .gt 7, 3) := by decide +kernel
theorem dX4_findLeast_95 : decode cX4_findLeast 95 = .ok (.iconst 1, 1) := by decide +kernel
theorem dX4_findLeast_96 : decode cX4_findLeast 96 = .ok (.goto 4, 3) := by decide +kernel
theorem dX4_findLeast_99 : decode cX4_findLeast 99 = .ok (.iconst 0, 1) := by decide +kernel
theorem dX4_findLeast_100 : decode cX4_findLeast 100 = .ok (.iadd, 1) := by decide +kernel
theorem dX4_findLeast_101 : decode cX4_findLeast 101 = .ok (.putfield 223, 3) := by decide +kernel
theorem dX4_findLeast_104 : decode cX4_findLeast 104 = .ok (.aload_n 0, 1) := by decide +kernel
theorem dX4_findLeast_105 : decode cX4_findLeast 105 = .ok (.getfield 217, 3) := by decide +kernel
theorem dX4_findLeast_108 : decode cX4_findLeast 108 = .ok (.bipush (-9), 2) := by decide +kernel
theorem dX4_findLeast_110 : decode cX4_findLeast 110 = .ok (.if_icmp .eq 19, 3) := by decide +kernel
theorem dX4_findLeast_113 : decode cX4_findLeast 113 = .ok (.aload_n 0, 1) := by decide +kernel
theorem dX4_findLeast_114 : decode cX4_findLeast 114 = .ok (.getfield 136, 3) := by decide +kernel
theorem dX4_findLeast_117 : decode cX4_findLeast 117 = .ok (.aload_n 0, 1) := by decide +kernel
theorem dX4_findLeast_118 : decode cX4_findLeast 118 = .ok (.getfield 139, 3) := by decide +kernel
theorem dX4_findLeast_121 : decode cX4_findLeast 121 = .ok (.imul, 1) := by decide +kernel
theorem dX4_findLeast_122 : decode cX4_findLeast 122 = .ok (.aload_n 0, 1) := by decide +kernel
theorem dX4_findLeast_123 : decode cX4_findLeast 123 = .ok (.getfield 217, 3) := by decide +kernel
theorem dX4_findLeast_126 : decode cX4_findLeast 126 = .ok (.if_icmp .ge 47, 3) := by decide +kernel
theorem dX4_findLeast_129 : decode cX4_findLeast 129 = .ok (.aload_n 0, 1) := by decide +kernel
theorem dX4_findLeast_130 : decode cX4_findLeast 130 = .ok (.aload_n 0, 1) := by decide +kernel
theorem dX4_findLeast_131 : decode cX4_findLeast 131 = .ok (.getfield 136, 3) := by decide +kernel
theorem dX4_findLeast_134 : decode cX4_findLeast 134 = .ok (.aload_n 0, 1) := by decide +kernel
theorem dX4_findLeast_135 : decode cX4_findLeast 135 = .ok (.getfield 139, 3) := by decide +kernel
theorem dX4_findLeast_138 : decode cX4_findLeast 138 = .ok (.imul, 1) := by decide +kernel
theorem dX4_findLeast_139 : decode cX4_findLeast 139 = .ok (.putfield 217, 3) := by decide +kernel
theorem dX4_findLeast_142 : decode cX4_findLeast 142 = .ok (.iconst 0, 1) := by decide +kernel
theorem dX4_findLeast_143 : decode cX4_findLeast 143 = .ok (.istore_n 3, 1) := by decide +kernel
theorem dX4_findLeast_144 : decode cX4_findLeast 144 = .ok (.iload_n 3, 1) := by decide +kernel
theorem dX4_findLeast_145 : decode cX4_findLeast 145 = .ok (.aload_n 0, 1) := by decide +kernel
theorem dX4_findLeast_146 : decode cX4_findLeast 146 = .ok (.getfield 86, 3) := by decide +kernel
theorem dX4_findLeast_149 : decode cX4_findLeast 149 = .ok (.if_icmp .ge 24, 3) := by decide +kernel
theorem dX4_findLeast_152 : decode cX4_findLeast 152 = .ok (.aload_n 0, 1) := by decide +kernel
theorem dX4_findLeast_153 : decode cX4_findLeast 153 = .ok (.getfield 67, 3) := by decide +kernel
theorem dX4_findLeast_156 : decode cX4_findLeast 156 = .ok (.iload_n 3, 1) := by decide +kernel
theorem dX4_findLeast_157 : decode cX4_findLeast 157 = .ok (.aload_n 0, 1) := by decide +kernel
theorem dX4_findLeast_158 : decode cX4_findLeast 158 = .ok (.getfield 31, 3) := by decide +kernel
theorem dX4_findLeast_161 : decode cX4_findLeast 161 = .ok (.bipush 6, 2) := by decide +kernel
theorem dX4_findLeast_163 : decode cX4_findLeast 163 = .ok (.iload_n 3, 1) := by decide +kernel
theorem dX4_findLeast_164 : decode cX4_findLeast 164 = .ok (.iadd, 1) := by decide +kernel
theorem dX4_findLeast_165 : decode cX4_findLeast 165 = .ok (.iaload, 1) := by decide +kernel
theorem dX4_findLeast_166 : decode cX4_findLeast 166 = .ok (.iastore, 1) := by decide +kernel
theorem dX4_findLeast_167 : decode cX4_findLeast 167 = .ok (.iinc 3 1, 3) := by decide +kernel
theorem dX4_findLeast_170 : decode cX4_findLeast 170 = .ok (.goto (-26), 3) := by decide +kernel
theorem dX4_findLeast_173 : decode cX4_findLeast 173 = .ok (.aload_n 0, 1) := by decide +kernel
theorem dX4_findLeast_174 : decode cX4_findLeast 174 = .ok (.invokevirtual 226, 3) := by decide +kernel
theorem dX4_findLeast_177 : decode cX4_findLeast 177 = .ok (.istore_n 2, 1) := by decide +kernel
theorem dX4_findLeast_178 : decode cX4_findLeast 178 = .ok (.goto (-119), 3) := by decide +kernel
theorem dX4_findLeast_181 : decode cX4_findLeast 181 = .ok (.iconst 0, 1) := by decide +kernel
theorem dX4_findLeast_182 : decode cX4_findLeast 182 = .ok (.istore_n 3, 1) := by decide +kernel
theorem dX4_findLeast_183 : decode cX4_findLeast 183 = .ok (.iload_n 3, 1) := by decide +kernel
theorem dX4_findLeast_184 : decode cX4_findLeast 184 = .ok (.aload_n 0, 1) := by decide +kernel
theorem dX4_findLeast_185 : decode cX4_findLeast 185 = .ok (.getfield 86, 3) := by decide +kernel
theorem dX4_findLeast_188 : decode cX4_findLeast 188 = .ok (.if_icmp .ge 24, 3) := by decide +kernel
theorem dX4_findLeast_191 : decode cX4_findLeast 191 = .ok (.aload_n 0, 1) := by decide +kernel
theorem dX4_findLeast_192 : decode cX4_findLeast 192 = .ok (.getfield 31, 3) := by decide +kernel
theorem dX4_findLeast_195 : decode cX4_findLeast 195 = .ok (.bipush 6, 2) := by decide +kernel
theorem dX4_findLeast_197 : decode cX4_findLeast 197 = .ok (.iload_n 3, 1) := by decide +kernel
theorem dX4_findLeast_198 : decode cX4_findLeast 198 = .ok (.iadd, 1) := by decide +kernel
theorem dX4_findLeast_199 : decode cX4_findLeast 199 = .ok (.aload_n 0, 1) := by decide +kernel
theorem dX4_findLeast_200 : decode cX4_findLeast 200 = .ok (.getfield 64, 3) := by decide +kernel
theorem dX4_findLeast_203 : decode cX4_findLeast 203 = .ok (.iload_n 3, 1) := by decide +kernel
theorem dX4_findLeast_204 : decode cX4_findLeast 204 = .ok (.iaload, 1) := by decide +kernel
theorem dX4_findLeast_205 : decode cX4_findLeast 205 = .ok (.iastore, 1) := by decide +kernel
theorem dX4_findLeast_206 : decode cX4_findLeast 206 = .ok (.iinc 3 1, 3) := by decide +kernel
theorem dX4_findLeast_209 : decode cX4_findLeast 209 = .ok (.goto (-26), 3) := by decide +kernel
theorem dX4_findLeast_212 : decode cX4_findLeast 212 = .ok (.return_, 1) := by decide +kernel
theorem dX4_least_0 : decode cX4_least 0 = .ok (.iload_n 1, 1) := by decide +kernel
theorem dX4_least_1 : decode cX4_least 1 = .ok (.iconst (-1), 1) := by decide +kernel
theorem dX4_least_2 : decode cX4_least 2 = .ok (.iconst 5, 1) := by decide +kernel
theorem dX4_least_3 : decode cX4_least 3 = .ok (.invokestatic 82, 3) := by decide +kernel
theorem dX4_least_6 : decode cX4_least 6 = .ok (.ifCond .ne 6, 3) := by decide +kernel
theorem dX4_least_9 : decode cX4_least 9 = .ok (.bipush (-2), 2) := by decide +kernel
theorem dX4_least_11 : decode cX4_least 11 = .ok (.ireturn, 1) := by decide +kernel
theorem dX4_least_12 : decode cX4_least 12 = .ok (.aload_n 0, 1) := by decide +kernel
theorem dX4_least_13 : decode cX4_least 13 = .ok (.getfield 86, 3) := by decide +kernel
theorem dX4_least_16 : decode cX4_least 16 = .ok (.ifCond .ne 6, 3) := by decide +kernel
theorem dX4_least_19 : decode cX4_least 19 = .ok (.bipush (-3), 2) := by decide +kernel
theorem dX4_least_21 : decode cX4_least 21 = .ok (.ireturn, 1) := by decide +kernel
theorem dX4_least_22 : decode cX4_least 22 = .ok (.aload_n 0, 1) := by decide +kernel
theorem dX4_least_23 : decode cX4_least 23 = .ok (.iconst 0, 1) := by decide +kernel
theorem dX4_least_24 : decode cX4_least 24 = .ok (.invokevirtual 230, 3) := by decide +kernel
theorem dX4_least_27 : decode cX4_least 27 = .ok (.iload_n 1, 1) := by decide +kernel
theorem dX4_least_28 : decode cX4_least 28 = .ok (.iconst (-1), 1) := by decide +kernel
theorem dX4_least_29 : decode cX4_least 29 = .ok (.if_icmp .ne 10, 3) := by decide +kernel
theorem dX4_least_32 : decode cX4_least 32 = .ok (.aload_n 0, 1) := by decide +kernel
theorem dX4_least_33 : decode cX4_least 33 = .ok (.getfield 217, 3) := by decide +kernel
theorem dX4_least_36 : decode cX4_least 36 = .ok (.goto 22, 3) := by decide +kernel
theorem dX4_least_39 : decode cX4_least 39 = .ok (.iload_n 1, 1) := by decide +kernel
theorem dX4_least_40 : decode cX4_least 40 = .ok (.aload_n 0, 1) := by decide +kernel
theorem dX4_least_41 : decode cX4_least 41 = .ok (.getfield 86, 3) := by decide +kernel
theorem dX4_least_44 : decode cX4_least 44 = .ok (.if_icmp .ge 12, 3) := by decide +kernel
theorem dX4_least_47 : decode cX4_least 47 = .ok (.aload_n 0, 1) := by decide +kernel
theorem dX4_least_48 : decode cX4_least 48 = .ok (.getfield 67, 3) := by decide +kernel
theorem dX4_least_51 : decode cX4_least 51 = .ok (.iload_n 1, 1) := by decide +kernel
theorem dX4_least_52 : decode cX4_least 52 = .ok (.iaload, 1) := by decide +kernel
theorem dX4_least_53 : decode cX4_least 53 = .ok (.goto 5, 3) := by decide +kernel
theorem dX4_least_56 : decode cX4_least 56 = .ok (.bipush (-9), 2) := by decide +kernel
theorem dX4_least_58 : decode cX4_least 58 = .ok (.ireturn, 1) := by decide +kernel
theorem dX4_wishes_0 : decode cX4_wishes 0 = .ok (.aload_n 0, 1) := by decide +kernel
theorem dX4_wishes_1 : decode cX4_wishes 1 = .ok (.iconst 0, 1) := by decide +kernel
theorem dX4_wishes_2 : decode cX4_wishes 2 = .ok (.putfield 76, 3) := by decide +kernel
theorem dX4_wishes_5 : decode cX4_wishes 5 = .ok (.iload_n 1, 1) := by decide +kernel
theorem dX4_wishes_6 : decode cX4_wishes 6 = .ok (.invokestatic 92, 3) := by decide +kernel
theorem dX4_wishes_9 : decode cX4_wishes 9 = .ok (.ifCond .ne 5, 3) := by decide +kernel
theorem dX4_wishes_12 : decode cX4_wishes 12 = .ok (.iconst (-1), 1) := by decide +kernel
theorem dX4_wishes_13 : decode cX4_wishes 13 = .ok (.ireturn, 1) := by decide +kernel
theorem dX4_wishes_14 : decode cX4_wishes 14 = .ok (.iload_n 2, 1) := by decide +kernel
theorem dX4_wishes_15 : decode cX4_wishes 15 = .ok (.invokestatic 96, 3) := by decide +kernel
theorem dX4_wishes_18 : decode cX4_wishes 18 = .ok (.ifCond .eq 14, 3) := by decide +kernel
theorem dX4_wishes_21 : decode cX4_wishes 21 = .ok (.iload 4, 2) := by decide +kernel
theorem dX4_wishes_23 : decode cX4_wishes 23 = .ok (.iconst 0, 1) := by decide +kernel
theorem dX4_wishes_24 : decode cX4_wishes 24 = .ok (.bipush 20, 2) := by decide +kernel
theorem dX4_wishes_26 : decode cX4_wishes 26 = .ok (.invokestatic 82, 3) := by decide +kernel
theorem dX4_wishes_29 : decode cX4_wishes 29 = .ok (.ifCond .ne 6, 3) := by decide +kernel
theorem dX4_wishes_32 : decode cX4_wishes 32 = .ok (.bipush (-2), 2) := by decide +kernel
theorem dX4_wishes_34 : decode cX4_wishes 34 = .ok (.ireturn, 1) := by decide +kernel
theorem dX4_wishes_35 : decode cX4_wishes 35 = .ok (.aload_n 0, 1) := by decide +kernel
theorem dX4_wishes_36 : decode cX4_wishes 36 = .ok (.iload_n 1, 1) := by decide +kernel
theorem dX4_wishes_37 : decode cX4_wishes 37 = .ok (.iload_n 2, 1) := by decide +kernel
theorem dX4_wishes_38 : decode cX4_wishes 38 = .ok (.iload_n 3, 1) := by decide +kernel
theorem dX4_wishes_39 : decode cX4_wishes 39 = .ok (.iconst 2, 1) := by decide +kernel
theorem dX4_wishes_40 : decode cX4_wishes 40 = .ok (.iload 4, 2) := by decide +kernel
theorem dX4_wishes_42 : decode cX4_wishes 42 = .ok (.imul, 1) := by decide +kernel
theorem dX4_wishes_43 : decode cX4_wishes 43 = .ok (.invokevirtual 99, 3) := by decide +kernel
theorem dX4_wishes_46 : decode cX4_wishes 46 = .ok (.istore 5, 2) := by decide +kernel
theorem dX4_wishes_48 : decode cX4_wishes 48 = .ok (.iload 5, 2) := by decide +kernel
theorem dX4_wishes_50 : decode cX4_wishes 50 = .ok (.ifCond .eq 10, 3) := by decide +kernel
theorem dX4_wishes_53 : decode cX4_wishes 53 = .ok (.aload_n 0, 1) := by decide +kernel
theorem dX4_wishes_54 : decode cX4_wishes 54 = .ok (.iload 5, 2) := by decide +kernel
theorem dX4_wishes_56 : decode cX4_wishes 56 = .ok (.invokevirtual 103, 3) := by decide +kernel
theorem dX4_wishes_59 : decode cX4_wishes 59 = .ok (.ireturn, 1) := by decide +kernel
theorem dX4_wishes_60 : decode cX4_wishes 60 = .ok (.aload_n 0, 1) := by decide +kernel
theorem dX4_wishes_61 : decode cX4_wishes 61 = .ok (.getfield 86, 3) := by decide +kernel
theorem dX4_wishes_64 : decode cX4_wishes 64 = .ok (.ifCond .ne 6, 3) := by decide +kernel
theorem dX4_wishes_67 : decode cX4_wishes 67 = .ok (.bipush (-3), 2) := by decide +kernel
theorem dX4_wishes_69 : decode cX4_wishes 69 = .ok (.ireturn, 1) := by decide +kernel
theorem dX4_wishes_70 : decode cX4_wishes 70 = .ok (.bipush 60, 2) := by decide +kernel
theorem dX4_wishes_72 : decode cX4_wishes 72 = .ok (.iload_n 1, 1) := by decide +kernel
theorem dX4_wishes_73 : decode cX4_wishes 73 = .ok (.imul, 1) := by decide +kernel
theorem dX4_wishes_74 : decode cX4_wishes 74 = .ok (.iload_n 3, 1) := by decide +kernel
theorem dX4_wishes_75 : decode cX4_wishes 75 = .ok (.iadd, 1) := by decide +kernel
theorem dX4_wishes_76 : decode cX4_wishes 76 = .ok (.istore 6, 2) := by decide +kernel
theorem dX4_wishes_78 : decode cX4_wishes 78 = .ok (.iconst 0, 1) := by decide +kernel
theorem dX4_wishes_79 : decode cX4_wishes 79 = .ok (.istore 7, 2) := by decide +kernel
theorem dX4_wishes_81 : decode cX4_wishes 81 = .ok (.iload 7, 2) := by decide +kernel
theorem dX4_wishes_83 : decode cX4_wishes 83 = .ok (.iconst 2, 1) := by decide +kernel
theorem dX4_wishes_84 : decode cX4_wishes 84 = .ok (.iload 4, 2) := by decide +kernel
theorem dX4_wishes_86 : decode cX4_wishes 86 = .ok (.imul, 1) := by decide +kernel
theorem dX4_wishes_87 : decode cX4_wishes 87 = .ok (.if_icmp .ge 28, 3) := by decide +kernel
theorem dX4_wishes_90 : decode cX4_wishes 90 = .ok (.aload_n 0, 1) := by decide +kernel
theorem dX4_wishes_91 : decode cX4_wishes 91 = .ok (.aload_n 0, 1) := by decide +kernel
theorem dX4_wishes_92 : decode cX4_wishes 92 = .ok (.getfield 16, 3) := by decide +kernel
theorem dX4_wishes_95 : decode cX4_wishes 95 = .ok (.iload 6, 2) := by decide +kernel
theorem dX4_wishes_97 : decode cX4_wishes 97 = .ok (.iload 7, 2) := by decide +kernel
theorem dX4_wishes_99 : decode cX4_wishes 99 = .ok (.iadd, 1) := by decide +kernel
theorem dX4_wishes_100 : decode cX4_wishes 100 = .ok (.iaload, 1) := by decide +kernel
theorem dX4_wishes_101 : decode cX4_wishes 101 = .ok (.invokevirtual 173, 3) := by decide +kernel
theorem dX4_wishes_104 : decode cX4_wishes 104 = .ok (.ifCond .ne 5, 3) := by decide +kernel
theorem dX4_wishes_107 : decode cX4_wishes 107 = .ok (.iconst (-1), 1) := by decide +kernel
theorem dX4_wishes_108 : decode cX4_wishes 108 = .ok (.ireturn, 1) := by decide +kernel
theorem dX4_wishes_109 : decode cX4_wishes 109 = .ok (.iinc 7 1, 3) := by decide +kernel
theorem dX4_wishes_112 : decode cX4_wishes 112 = .ok (.goto (-31), 3) := by decide +kernel
theorem dX4_wishes_115 : decode cX4_wishes 115 = .ok (.aload_n 0, 1) := by decide +kernel
theorem dX4_wishes_116 : decode cX4_wishes 116 = .ok (.invokevirtual 164, 3) := by decide +kernel
theorem dX4_wishes_119 : decode cX4_wishes 119 = .ok (.iconst 0, 1) := by decide +kernel
theorem dX4_wishes_120 : decode cX4_wishes 120 = .ok (.istore 7, 2) := by decide +kernel
theorem dX4_wishes_122 : decode cX4_wishes 122 = .ok (.iconst 0, 1) := by decide +kernel
theorem dX4_wishes_123 : decode cX4_wishes 123 = .ok (.istore 8, 2) := by decide +kernel
theorem dX4_wishes_125 : decode cX4_wishes 125 = .ok (.iload 8, 2) := by decide +kernel
theorem dX4_wishes_127 : decode cX4_wishes 127 = .ok (.iload 4, 2) := by decide +kernel
theorem dX4_wishes_129 : decode cX4_wishes 129 = .ok (.if_icmp .ge 52, 3) := by decide +kernel
theorem dX4_wishes_132 : decode cX4_wishes 132 = .ok (.iload 7, 2) := by decide +kernel
theorem dX4_wishes_134 : decode cX4_wishes 134 = .ok (.aload_n 0, 1) := by decide +kernel
theorem dX4_wishes_135 : decode cX4_wishes 135 = .ok (.aload_n 0, 1) := by decide +kernel
theorem dX4_wishes_136 : decode cX4_wishes 136 = .ok (.getfield 16, 3) := by decide +kernel
theorem dX4_wishes_139 : decode cX4_wishes 139 = .ok (.iload 6, 2) := by decide +kernel
theorem dX4_wishes_141 : decode cX4_wishes 141 = .ok (.iconst 2, 1) := by decide +kernel
theorem dX4_wishes_142 : decode cX4_wishes 142 = .ok (.iload 8, 2) := by decide +kernel
theorem dX4_wishes_144 : decode cX4_wishes 144 = .ok (.imul, 1) := by decide +kernel
theorem dX4_wishes_145 : decode cX4_wishes 145 = .ok (.iadd, 1) := by decide +kernel
theorem dX4_wishes_146 : decode cX4_wishes 146 = .ok (.iaload, 1) := by decide +kernel
theorem dX4_wishes_147 : decode cX4_wishes 147 = .ok (.aload_n 0, 1) := by decide +kernel
theorem dX4_wishes_148 : decode cX4_wishes 148 = .ok (.getfield 16, 3) := by decide +kernel
theorem dX4_wishes_151 : decode cX4_wishes 151 = .ok (.iload 6, 2) := by decide +kernel
theorem dX4_wishes_153 : decode cX4_wishes 153 = .ok (.iconst 2, 1) := by decide +kernel
theorem dX4_wishes_154 : decode cX4_wishes 154 = .ok (.iload 8, 2) := by decide +kernel
theorem dX4_wishes_156 : decode cX4_wishes 156 = .ok (.imul, 1) := by decide +kernel
theorem dX4_wishes_157 : decode cX4_wishes 157 = .ok (.iadd, 1) := by decide +kernel
theorem dX4_wishes_158 : decode cX4_wishes 158 = .ok (.iconst 1, 1) := by decide +kernel
theorem dX4_wishes_159 : decode cX4_wishes 159 = .ok (.iadd, 1) := by decide +kernel
theorem dX4_wishes_160 : decode cX4_wishes 160 = .ok (.iaload, 1) := by decide +kernel
theorem dX4_wishes_161 : decode cX4_wishes 161 = .ok (.invokevirtual 155, 3) := by decide +kernel
theorem dX4_wishes_164 : decode cX4_wishes 164 = .ok (.ifCond .eq 7, 3) := by decide +kernel
theorem dX4_wishes_167 : decode cX4_wishes 167 = .ok (.iconst 1, 1) := by decide +kernel
theorem dX4_wishes_168 : decode cX4_wishes 168 = .ok (.goto 4, 3) := by decide +kernel
theorem dX4_wishes_171 : decode cX4_wishes 171 = .ok (.iconst 0, 1) := by decide +kernel
theorem dX4_wishes_172 : decode cX4_wishes 172 = .ok (.iadd, 1) := by decide +kernel
theorem dX4_wishes_173 : decode cX4_wishes 173 = .ok (.istore 7, 2) := by decide +kernel
theorem dX4_wishes_175 : decode cX4_wishes 175 = .ok (.iinc 8 1, 3) := by decide +kernel
theorem dX4_wishes_178 : decode cX4_wishes 178 = .ok (.goto (-53), 3) := by decide +kernel
theorem dX4_wishes_181 : decode cX4_wishes 181 = .ok (.iload 7, 2) := by decide +kernel
theorem dX4_wishes_183 : decode cX4_wishes 183 = .ok (.ireturn, 1) := by decide +kernel
theorem dX4_reading_0 : decode cX4_reading 0 = .ok (.aload_n 0, 1) := by decide +kernel
theorem dX4_reading_1 : decode cX4_reading 1 = .ok (.iload_n 1, 1) := by decide +kernel
theorem dX4_reading_2 : decode cX4_reading 2 = .ok (.invokevirtual 173, 3) := by decide +kernel
theorem dX4_reading_5 : decode cX4_reading 5 = .ok (.ifCond .ne 5, 3) := by decide +kernel
theorem dX4_reading_8 : decode cX4_reading 8 = .ok (.iconst (-1), 1) := by decide +kernel
theorem dX4_reading_9 : decode cX4_reading 9 = .ok (.ireturn, 1) := by decide +kernel
theorem dX4_reading_10 : decode cX4_reading 10 = .ok (.iload_n 2, 1) := by decide +kernel
theorem dX4_reading_11 : decode cX4_reading 11 = .ok (.iconst 0, 1) := by decide +kernel
theorem dX4_reading_12 : decode cX4_reading 12 = .ok (.bipush 120, 2) := by decide +kernel
theorem dX4_reading_14 : decode cX4_reading 14 = .ok (.invokestatic 82, 3) := by decide +kernel
theorem dX4_reading_17 : decode cX4_reading 17 = .ok (.ifCond .ne 6, 3) := by decide +kernel
theorem dX4_reading_20 : decode cX4_reading 20 = .ok (.bipush (-2), 2) := by decide +kernel
theorem dX4_reading_22 : decode cX4_reading 22 = .ok (.ireturn, 1) := by decide +kernel
theorem dX4_reading_23 : decode cX4_reading 23 = .ok (.aload_n 0, 1) := by decide +kernel
theorem dX4_reading_24 : decode cX4_reading 24 = .ok (.getfield 113, 3) := by decide +kernel
theorem dX4_reading_27 : decode cX4_reading 27 = .ok (.bipush 8, 2) := by decide +kernel
theorem dX4_reading_29 : decode cX4_reading 29 = .ok (.if_icmp .ne 6, 3) := by decide +kernel
theorem dX4_reading_32 : decode cX4_reading 32 = .ok (.bipush (-4), 2) := by decide +kernel
theorem dX4_reading_34 : decode cX4_reading 34 = .ok (.ireturn, 1) := by decide +kernel
theorem dX4_reading_35 : decode cX4_reading 35 = .ok (.aload_n 0, 1) := by decide +kernel
theorem dX4_reading_36 : decode cX4_reading 36 = .ok (.getfield 70, 3) := by decide +kernel
theorem dX4_reading_39 : decode cX4_reading 39 = .ok (.aload_n 0, 1) := by decide +kernel
theorem dX4_reading_40 : decode cX4_reading 40 = .ok (.getfield 113, 3) := by decide +kernel
theorem dX4_reading_43 : decode cX4_reading 43 = .ok (.iload_n 1, 1) := by decide +kernel
theorem dX4_reading_44 : decode cX4_reading 44 = .ok (.iastore, 1) := by decide +kernel
theorem dX4_reading_45 : decode cX4_reading 45 = .ok (.aload_n 0, 1) := by decide +kernel
theorem dX4_reading_46 : decode cX4_reading 46 = .ok (.getfield 73, 3) := by decide +kernel
theorem dX4_reading_49 : decode cX4_reading 49 = .ok (.aload_n 0, 1) := by decide +kernel
theorem dX4_reading_50 : decode cX4_reading 50 = .ok (.getfield 113, 3) := by decide +kernel
theorem dX4_reading_53 : decode cX4_reading 53 = .ok (.iload_n 2, 1) := by decide +kernel
theorem dX4_reading_54 : decode cX4_reading 54 = .ok (.iastore, 1) := by decide +kernel
theorem dX4_reading_55 : decode cX4_reading 55 = .ok (.aload_n 0, 1) := by decide +kernel
theorem dX4_reading_56 : decode cX4_reading 56 = .ok (.dup, 1) := by decide +kernel
theorem dX4_reading_57 : decode cX4_reading 57 = .ok (.getfield 113, 3) := by decide +kernel
theorem dX4_reading_60 : decode cX4_reading 60 = .ok (.iconst 1, 1) := by decide +kernel
theorem dX4_reading_61 : decode cX4_reading 61 = .ok (.iadd, 1) := by decide +kernel
theorem dX4_reading_62 : decode cX4_reading 62 = .ok (.putfield 113, 3) := by decide +kernel
theorem dX4_reading_65 : decode cX4_reading 65 = .ok (.aload_n 0, 1) := by decide +kernel
theorem dX4_reading_66 : decode cX4_reading 66 = .ok (.getfield 113, 3) := by decide +kernel
theorem dX4_reading_69 : decode cX4_reading 69 = .ok (.iconst 1, 1) := by decide +kernel
theorem dX4_reading_70 : decode cX4_reading 70 = .ok (.isub, 1) := by decide +kernel
theorem dX4_reading_71 : decode cX4_reading 71 = .ok (.ireturn, 1) := by decide +kernel
theorem dX4_back_0 : decode cX4_back 0 = .ok (.iload_n 1, 1) := by decide +kernel
theorem dX4_back_1 : decode cX4_back 1 = .ok (.iconst 0, 1) := by decide +kernel
theorem dX4_back_2 : decode cX4_back 2 = .ok (.aload_n 0, 1) := by decide +kernel
theorem dX4_back_3 : decode cX4_back 3 = .ok (.getfield 113, 3) := by decide +kernel
theorem dX4_back_6 : decode cX4_back 6 = .ok (.invokestatic 82, 3) := by decide +kernel
theorem dX4_back_9 : decode cX4_back 9 = .ok (.ifCond .ne 6, 3) := by decide +kernel
theorem dX4_back_12 : decode cX4_back 12 = .ok (.bipush (-2), 2) := by decide +kernel
theorem dX4_back_14 : decode cX4_back 14 = .ok (.ireturn, 1) := by decide +kernel
theorem dX4_back_15 : decode cX4_back 15 = .ok (.aload_n 0, 1) := by decide +kernel
theorem dX4_back_16 : decode cX4_back 16 = .ok (.dup, 1) := by decide +kernel
theorem dX4_back_17 : decode cX4_back 17 = .ok (.getfield 113, 3) := by decide +kernel
theorem dX4_back_20 : decode cX4_back 20 = .ok (.iload_n 1, 1) := by decide +kernel
theorem dX4_back_21 : decode cX4_back 21 = .ok (.isub, 1) := by decide +kernel
theorem dX4_back_22 : decode cX4_back 22 = .ok (.putfield 113, 3) := by decide +kernel
theorem dX4_back_25 : decode cX4_back 25 = .ok (.aload_n 0, 1) := by decide +kernel
theorem dX4_back_26 : decode cX4_back 26 = .ok (.getfield 113, 3) := by decide +kernel
theorem dX4_back_29 : decode cX4_back 29 = .ok (.ireturn, 1) := by decide +kernel
theorem dX4_areSo_0 : decode cX4_areSo 0 = .ok (.aload_n 0, 1) := by decide +kernel
theorem dX4_areSo_1 : decode cX4_areSo 1 = .ok (.invokevirtual 164, 3) := by decide +kernel
theorem dX4_areSo_4 : decode cX4_areSo 4 = .ok (.iconst 0, 1) := by decide +kernel
theorem dX4_areSo_5 : decode cX4_areSo 5 = .ok (.istore_n 1, 1) := by decide +kernel
theorem dX4_areSo_6 : decode cX4_areSo 6 = .ok (.iload_n 1, 1) := by decide +kernel
theorem dX4_areSo_7 : decode cX4_areSo 7 = .ok (.aload_n 0, 1) := by decide +kernel
theorem dX4_areSo_8 : decode cX4_areSo 8 = .ok (.getfield 113, 3) := by decide +kernel
theorem dX4_areSo_11 : decode cX4_areSo 11 = .ok (.if_icmp .ge 31, 3) := by decide +kernel
theorem dX4_areSo_14 : decode cX4_areSo 14 = .ok (.aload_n 0, 1) := by decide +kernel
theorem dX4_areSo_15 : decode cX4_areSo 15 = .ok (.getfield 52, 3) := by decide +kernel
theorem dX4_areSo_18 : decode cX4_areSo 18 = .ok (.aload_n 0, 1) := by decide +kernel
theorem dX4_areSo_19 : decode cX4_areSo 19 = .ok (.getfield 70, 3) := by decide +kernel
theorem dX4_areSo_22 : decode cX4_areSo 22 = .ok (.iload_n 1, 1) := by decide +kernel
theorem dX4_areSo_23 : decode cX4_areSo 23 = .ok (.iaload, 1) := by decide +kernel
theorem dX4_areSo_24 : decode cX4_areSo 24 = .ok (.iaload, 1) := by decide +kernel
theorem dX4_areSo_25 : decode cX4_areSo 25 = .ok (.aload_n 0, 1) := by decide +kernel
theorem dX4_areSo_26 : decode cX4_areSo 26 = .ok (.getfield 73, 3) := by decide +kernel
theorem dX4_areSo_29 : decode cX4_areSo 29 = .ok (.iload_n 1, 1) := by decide +kernel
theorem dX4_areSo_30 : decode cX4_areSo 30 = .ok (.iaload, 1) := by decide +kernel
theorem dX4_areSo_31 : decode cX4_areSo 31 = .ok (.if_icmp .eq 5, 3) := by decide +kernel
theorem dX4_areSo_34 : decode cX4_areSo 34 = .ok (.iconst 0, 1) := by decide +kernel
theorem dX4_areSo_35 : decode cX4_areSo 35 = .ok (.ireturn, 1) := by decide +kernel
theorem dX4_areSo_36 : decode cX4_areSo 36 = .ok (.iinc 1 1, 3) := by decide +kernel
theorem dX4_areSo_39 : decode cX4_areSo 39 = .ok (.goto (-33), 3) := by decide +kernel
theorem dX4_areSo_42 : decode cX4_areSo 42 = .ok (.iconst 1, 1) := by decide +kernel
theorem dX4_areSo_43 : decode cX4_areSo 43 = .ok (.ireturn, 1) := by decide +kernel
theorem dX4_kinds_0 : decode cX4_kinds 0 = .ok (.aload_n 0, 1) := by decide +kernel
theorem dX4_kinds_1 : decode cX4_kinds 1 = .ok (.iload_n 1, 1) := by decide +kernel
theorem dX4_kinds_2 : decode cX4_kinds 2 = .ok (.invokevirtual 173, 3) := by decide +kernel
theorem dX4_kinds_5 : decode cX4_kinds 5 = .ok (.ifCond .ne 5, 3) := by decide +kernel
theorem dX4_kinds_8 : decode cX4_kinds 8 = .ok (.iconst (-1), 1) := by decide +kernel
theorem dX4_kinds_9 : decode cX4_kinds 9 = .ok (.ireturn, 1) := by decide +kernel
theorem dX4_kinds_10 : decode cX4_kinds 10 = .ok (.aload_n 0, 1) := by decide +kernel
theorem dX4_kinds_11 : decode cX4_kinds 11 = .ok (.getfield 19, 3) := by decide +kernel
theorem dX4_kinds_14 : decode cX4_kinds 14 = .ok (.iload_n 1, 1) := by decide +kernel
theorem dX4_kinds_15 : decode cX4_kinds 15 = .ok (.iaload, 1) := by decide +kernel
theorem dX4_kinds_16 : decode cX4_kinds 16 = .ok (.istore_n 2, 1) := by decide +kernel
theorem dX4_kinds_17 : decode cX4_kinds 17 = .ok (.iconst 0, 1) := by decide +kernel
theorem dX4_kinds_18 : decode cX4_kinds 18 = .ok (.istore_n 3, 1) := by decide +kernel
theorem dX4_kinds_19 : decode cX4_kinds 19 = .ok (.iconst 0, 1) := by decide +kernel
theorem dX4_kinds_20 : decode cX4_kinds 20 = .ok (.istore 4, 2) := by decide +kernel
theorem dX4_kinds_22 : decode cX4_kinds 22 = .ok (.iload 4, 2) := by decide +kernel
theorem dX4_kinds_24 : decode cX4_kinds 24 = .ok (.iconst 3, 1) := by decide +kernel
theorem dX4_kinds_25 : decode cX4_kinds 25 = .ok (.if_icmp .ge 35, 3) := by decide +kernel
theorem dX4_kinds_28 : decode cX4_kinds 28 = .ok (.aload_n 0, 1) := by decide +kernel
theorem dX4_kinds_29 : decode cX4_kinds 29 = .ok (.getfield 19, 3) := by decide +kernel
theorem dX4_kinds_32 : decode cX4_kinds 32 = .ok (.iload_n 1, 1) := by decide +kernel
theorem dX4_kinds_33 : decode cX4_kinds 33 = .ok (.iload 4, 2) := by decide +kernel
theorem dX4_kinds_35 : decode cX4_kinds 35 = .ok (.iastore, 1) := by decide +kernel
theorem dX4_kinds_36 : decode cX4_kinds 36 = .ok (.iload_n 3, 1) := by decide +kernel
theorem dX4_kinds_37 : decode cX4_kinds 37 = .ok (.aload_n 0, 1) := by decide +kernel
theorem dX4_kinds_38 : decode cX4_kinds 38 = .ok (.invokevirtual 234, 3) := by decide +kernel
theorem dX4_kinds_41 : decode cX4_kinds 41 = .ok (.ifCond .eq 10, 3) := by decide +kernel
theorem dX4_kinds_44 : decode cX4_kinds 44 = .ok (.iconst 1, 1) := by decide +kernel
theorem dX4_kinds_45 : decode cX4_kinds 45 = .ok (.iload 4, 2) := by decide +kernel
theorem dX4_kinds_47 : decode cX4_kinds 47 = .ok (.ishl, 1) := by decide +kernel
theorem dX4_kinds_48 : decode cX4_kinds 48 = .ok (.goto 4, 3) := by decide +kernel
theorem dX4_kinds_51 : decode cX4_kinds 51 = .ok (.iconst 0, 1) := by decide +kernel
theorem dX4_kinds_52 : decode cX4_kinds 52 = .ok (.ior, 1) := by decide +kernel
theorem dX4_kinds_53 : decode cX4_kinds 53 = .ok (.istore_n 3, 1) := by decide +kernel
theorem dX4_kinds_54 : decode cX4_kinds 54 = .ok (.iinc 4 1, 3) := by decide +kernel
theorem dX4_kinds_57 : decode cX4_kinds 57 = .ok (.goto (-35), 3) := by decide +kernel
theorem dX4_kinds_60 : decode cX4_kinds 60 = .ok (.aload_n 0, 1) := by decide +kernel
theorem dX4_kinds_61 : decode cX4_kinds 61 = .ok (.getfield 19, 3) := by decide +kernel
theorem dX4_kinds_64 : decode cX4_kinds 64 = .ok (.iload_n 1, 1) := by decide +kernel
theorem dX4_kinds_65 : decode cX4_kinds 65 = .ok (.iload_n 2, 1) := by decide +kernel
theorem dX4_kinds_66 : decode cX4_kinds 66 = .ok (.iastore, 1) := by decide +kernel
theorem dX4_kinds_67 : decode cX4_kinds 67 = .ok (.iload_n 3, 1) := by decide +kernel
theorem dX4_kinds_68 : decode cX4_kinds 68 = .ok (.ireturn, 1) := by decide +kernel
theorem dX4_widths_0 : decode cX4_widths 0 = .ok (.aload_n 0, 1) := by decide +kernel
theorem dX4_widths_1 : decode cX4_widths 1 = .ok (.iload_n 1, 1) := by decide +kernel
theorem dX4_widths_2 : decode cX4_widths 2 = .ok (.invokevirtual 173, 3) := by decide +kernel
theorem dX4_widths_5 : decode cX4_widths 5 = .ok (.ifCond .ne 5, 3) := by decide +kernel
theorem dX4_widths_8 : decode cX4_widths 8 = .ok (.iconst (-1), 1) := by decide +kernel
theorem dX4_widths_9 : decode cX4_widths 9 = .ok (.ireturn, 1) := by decide +kernel
theorem dX4_widths_10 : decode cX4_widths 10 = .ok (.aload_n 0, 1) := by decide +kernel
theorem dX4_widths_11 : decode cX4_widths 11 = .ok (.getfield 25, 3) := by decide +kernel
theorem dX4_widths_14 : decode cX4_widths 14 = .ok (.iload_n 1, 1) := by decide +kernel
theorem dX4_widths_15 : decode cX4_widths 15 = .ok (.iaload, 1) := by decide +kernel
theorem dX4_widths_16 : decode cX4_widths 16 = .ok (.istore_n 2, 1) := by decide +kernel
theorem dX4_widths_17 : decode cX4_widths 17 = .ok (.iconst 0, 1) := by decide +kernel
theorem dX4_widths_18 : decode cX4_widths 18 = .ok (.istore_n 3, 1) := by decide +kernel
theorem dX4_widths_19 : decode cX4_widths 19 = .ok (.iconst 1, 1) := by decide +kernel
theorem dX4_widths_20 : decode cX4_widths 20 = .ok (.istore 4, 2) := by decide +kernel
theorem dX4_widths_22 : decode cX4_widths 22 = .ok (.iload 4, 2) := by decide +kernel
theorem dX4_widths_24 : decode cX4_widths 24 = .ok (.bipush 9, 2) := by decide +kernel
theorem dX4_widths_26 : decode cX4_widths 26 = .ok (.if_icmp .gt 35, 3) := by decide +kernel
theorem dX4_widths_29 : decode cX4_widths 29 = .ok (.aload_n 0, 1) := by decide +kernel
theorem dX4_widths_30 : decode cX4_widths 30 = .ok (.getfield 25, 3) := by decide +kernel
theorem dX4_widths_33 : decode cX4_widths 33 = .ok (.iload_n 1, 1) := by decide +kernel
theorem dX4_widths_34 : decode cX4_widths 34 = .ok (.iload 4, 2) := by decide +kernel
theorem dX4_widths_36 : decode cX4_widths 36 = .ok (.iastore, 1) := by decide +kernel
theorem dX4_widths_37 : decode cX4_widths 37 = .ok (.iload_n 3, 1) := by decide +kernel
theorem dX4_widths_38 : decode cX4_widths 38 = .ok (.aload_n 0, 1) := by decide +kernel
theorem dX4_widths_39 : decode cX4_widths 39 = .ok (.invokevirtual 234, 3) := by decide +kernel
theorem dX4_widths_42 : decode cX4_widths 42 = .ok (.ifCond .eq 10, 3) := by decide +kernel
theorem dX4_widths_45 : decode cX4_widths 45 = .ok (.iconst 1, 1) := by decide +kernel
theorem dX4_widths_46 : decode cX4_widths 46 = .ok (.iload 4, 2) := by decide +kernel
theorem dX4_widths_48 : decode cX4_widths 48 = .ok (.ishl, 1) := by decide +kernel
theorem dX4_widths_49 : decode cX4_widths 49 = .ok (.goto 4, 3) := by decide +kernel
theorem dX4_widths_52 : decode cX4_widths 52 = .ok (.iconst 0, 1) := by decide +kernel
theorem dX4_widths_53 : decode cX4_widths 53 = .ok (.ior, 1) := by decide +kernel
theorem dX4_widths_54 : decode cX4_widths 54 = .ok (.istore_n 3, 1) := by decide +kernel
theorem dX4_widths_55 : decode cX4_widths 55 = .ok (.iinc 4 1, 3) := by decide +kernel
theorem dX4_widths_58 : decode cX4_widths 58 = .ok (.goto (-36), 3) := by decide +kernel
theorem dX4_widths_61 : decode cX4_widths 61 = .ok (.aload_n 0, 1) := by decide +kernel
theorem dX4_widths_62 : decode cX4_widths 62 = .ok (.getfield 25, 3) := by decide +kernel
theorem dX4_widths_65 : decode cX4_widths 65 = .ok (.iload_n 1, 1) := by decide +kernel
theorem dX4_widths_66 : decode cX4_widths 66 = .ok (.iload_n 2, 1) := by decide +kernel
theorem dX4_widths_67 : decode cX4_widths 67 = .ok (.iastore, 1) := by decide +kernel
theorem dX4_widths_68 : decode cX4_widths 68 = .ok (.iload_n 3, 1) := by decide +kernel
theorem dX4_widths_69 : decode cX4_widths 69 = .ok (.ireturn, 1) := by decide +kernel
theorem dX4_inLeastTerms_0 : decode cX4_inLeastTerms 0 = .ok (.lload_n 0, 1) := by decide +kernel
theorem dX4_inLeastTerms_1 : decode cX4_inLeastTerms 1 = .ok (.lstore 5, 2) := by decide +kernel
theorem dX4_inLeastTerms_3 : decode cX4_inLeastTerms 3 = .ok (.lload_n 2, 1) := by decide +kernel
theorem dX4_inLeastTerms_4 : decode cX4_inLeastTerms 4 = .ok (.lstore 7, 2) := by decide +kernel
theorem dX4_inLeastTerms_6 : decode cX4_inLeastTerms 6 = .ok (.lload 7, 2) := by decide +kernel
theorem dX4_inLeastTerms_8 : decode cX4_inLeastTerms 8 = .ok (.lconst 0, 1) := by decide +kernel
theorem dX4_inLeastTerms_9 : decode cX4_inLeastTerms 9 = .ok (.lcmp, 1) := by decide +kernel
theorem dX4_inLeastTerms_10 : decode cX4_inLeastTerms 10 = .ok (.ifCond .eq 21, 3) := by decide +kernel
theorem dX4_inLeastTerms_13 : decode cX4_inLeastTerms 13 = .ok (.lload 5, 2) := by decide +kernel
theorem dX4_inLeastTerms_15 : decode cX4_inLeastTerms 15 = .ok (.lload 7, 2) := by decide +kernel
theorem dX4_inLeastTerms_17 : decode cX4_inLeastTerms 17 = .ok (.lrem, 1) := by decide +kernel
theorem dX4_inLeastTerms_18 : decode cX4_inLeastTerms 18 = .ok (.lstore 9, 2) := by decide +kernel
theorem dX4_inLeastTerms_20 : decode cX4_inLeastTerms 20 = .ok (.lload 7, 2) := by decide +kernel
theorem dX4_inLeastTerms_22 : decode cX4_inLeastTerms 22 = .ok (.lstore 5, 2) := by decide +kernel
theorem dX4_inLeastTerms_24 : decode cX4_inLeastTerms 24 = .ok (.lload 9, 2) := by decide +kernel
theorem dX4_inLeastTerms_26 : decode cX4_inLeastTerms 26 = .ok (.lstore 7, 2) := by decide +kernel
theorem dX4_inLeastTerms_28 : decode cX4_inLeastTerms 28 = .ok (.goto (-22), 3) := by decide +kernel
theorem dX4_inLeastTerms_31 : decode cX4_inLeastTerms 31 = .ok (.iload 4, 2) := by decide +kernel
theorem dX4_inLeastTerms_33 : decode cX4_inLeastTerms 33 = .ok (.ifCond .ne 10, 3) := by decide +kernel
theorem dX4_inLeastTerms_36 : decode cX4_inLeastTerms 36 = .ok (.lload_n 0, 1) := by decide +kernel
theorem dX4_inLeastTerms_37 : decode cX4_inLeastTerms 37 = .ok (.lload 5, 2) := by decide +kernel
theorem dX4_inLeastTerms_39 : decode cX4_inLeastTerms 39 = .ok (.ldiv, 1) := by decide +kernel
theorem dX4_inLeastTerms_40 : decode cX4_inLeastTerms 40 = .ok (.goto 7, 3) := by decide +kernel
theorem dX4_inLeastTerms_43 : decode cX4_inLeastTerms 43 = .ok (.lload_n 2, 1) := by decide +kernel
theorem dX4_inLeastTerms_44 : decode cX4_inLeastTerms 44 = .ok (.lload 5, 2) := by decide +kernel
theorem dX4_inLeastTerms_46 : decode cX4_inLeastTerms 46 = .ok (.ldiv, 1) := by decide +kernel
theorem dX4_inLeastTerms_47 : decode cX4_inLeastTerms 47 = .ok (.lreturn, 1) := by decide +kernel
theorem dX4_odds_0 : decode cX4_odds 0 = .ok (.iload_n 1, 1) := by decide +kernel
theorem dX4_odds_1 : decode cX4_odds 1 = .ok (.iconst 0, 1) := by decide +kernel
theorem dX4_odds_2 : decode cX4_odds 2 = .ok (.sipush 9999, 3) := by decide +kernel
theorem dX4_odds_5 : decode cX4_odds 5 = .ok (.invokestatic 82, 3) := by decide +kernel
theorem dX4_odds_8 : decode cX4_odds 8 = .ok (.ifCond .eq 19, 3) := by decide +kernel
theorem dX4_odds_11 : decode cX4_odds 11 = .ok (.iload_n 2, 1) := by decide +kernel
theorem dX4_odds_12 : decode cX4_odds 12 = .ok (.iconst 0, 1) := by decide +kernel
theorem dX4_odds_13 : decode cX4_odds 13 = .ok (.iconst 1, 1) := by decide +kernel
theorem dX4_odds_14 : decode cX4_odds 14 = .ok (.invokestatic 82, 3) := by decide +kernel
theorem dX4_odds_17 : decode cX4_odds 17 = .ok (.ifCond .eq 10, 3) := by decide +kernel
theorem dX4_odds_20 : decode cX4_odds 20 = .ok (.aload_n 0, 1) := by decide +kernel
theorem dX4_odds_21 : decode cX4_odds 21 = .ok (.getfield 86, 3) := by decide +kernel
theorem dX4_odds_24 : decode cX4_odds 24 = .ok (.ifCond .ne 7, 3) := by decide +kernel
theorem dX4_odds_27 : decode cX4_odds 27 = .ok (.ldc2_w 80, 3) := by decide +kernel
theorem dX4_odds_30 : decode cX4_odds 30 = .ok (.lreturn, 1) := by decide +kernel
theorem dX4_odds_31 : decode cX4_odds 31 = .ok (.aload_n 0, 1) := by decide +kernel
theorem dX4_odds_32 : decode cX4_odds 32 = .ok (.iload_n 1, 1) := by decide +kernel
theorem dX4_odds_33 : decode cX4_odds 33 = .ok (.invokevirtual 230, 3) := by decide +kernel
theorem dX4_odds_36 : decode cX4_odds 36 = .ok (.aload_n 0, 1) := by decide +kernel
theorem dX4_odds_37 : decode cX4_odds 37 = .ok (.getfield 223, 3) := by decide +kernel
theorem dX4_odds_40 : decode cX4_odds 40 = .ok (.i2l, 1) := by decide +kernel
theorem dX4_odds_41 : decode cX4_odds 41 = .ok (.aload_n 0, 1) := by decide +kernel
theorem dX4_odds_42 : decode cX4_odds 42 = .ok (.getfield 220, 3) := by decide +kernel
theorem dX4_odds_45 : decode cX4_odds 45 = .ok (.i2l, 1) := by decide +kernel
theorem dX4_odds_46 : decode cX4_odds 46 = .ok (.iload_n 2, 1) := by decide +kernel
theorem dX4_odds_47 : decode cX4_odds 47 = .ok (.invokestatic 237, 3) := by decide +kernel
theorem dX4_odds_50 : decode cX4_odds 50 = .ok (.lreturn, 1) := by decide +kernel
theorem dX4_sheet_0 : decode cX4_sheet 0 = .ok (.aload_n 0, 1) := by decide +kernel
theorem dX4_sheet_1 : decode cX4_sheet 1 = .ok (.iconst 0, 1) := by decide +kernel
theorem dX4_sheet_2 : decode cX4_sheet 2 = .ok (.putfield 76, 3) := by decide +kernel
theorem dX4_sheet_5 : decode cX4_sheet 5 = .ok (.iload_n 1, 1) := by decide +kernel
theorem dX4_sheet_6 : decode cX4_sheet 6 = .ok (.invokestatic 92, 3) := by decide +kernel
theorem dX4_sheet_9 : decode cX4_sheet 9 = .ok (.ifCond .ne 5, 3) := by decide +kernel
theorem dX4_sheet_12 : decode cX4_sheet 12 = .ok (.iconst (-1), 1) := by decide +kernel
theorem dX4_sheet_13 : decode cX4_sheet 13 = .ok (.ireturn, 1) := by decide +kernel
theorem dX4_sheet_14 : decode cX4_sheet 14 = .ok (.iload_n 2, 1) := by decide +kernel
theorem dX4_sheet_15 : decode cX4_sheet 15 = .ok (.invokestatic 96, 3) := by decide +kernel
theorem dX4_sheet_18 : decode cX4_sheet 18 = .ok (.ifCond .eq 9, 3) := by decide +kernel
theorem dX4_sheet_21 : decode cX4_sheet 21 = .ok (.iload_n 3, 1) := by decide +kernel
theorem dX4_sheet_22 : decode cX4_sheet 22 = .ok (.bipush 60, 2) := by decide +kernel
theorem dX4_sheet_24 : decode cX4_sheet 24 = .ok (.if_icmp .le 6, 3) := by decide +kernel
theorem dX4_sheet_27 : decode cX4_sheet 27 = .ok (.bipush (-2), 2) := by decide +kernel
theorem dX4_sheet_29 : decode cX4_sheet 29 = .ok (.ireturn, 1) := by decide +kernel
theorem dX4_sheet_30 : decode cX4_sheet 30 = .ok (.iload_n 3, 1) := by decide +kernel
theorem dX4_sheet_31 : decode cX4_sheet 31 = .ok (.ifCond .ge 9, 3) := by decide +kernel
theorem dX4_sheet_34 : decode cX4_sheet 34 = .ok (.aload_n 0, 1) := by decide +kernel
theorem dX4_sheet_35 : decode cX4_sheet 35 = .ok (.iconst 4, 1) := by decide +kernel
theorem dX4_sheet_36 : decode cX4_sheet 36 = .ok (.invokevirtual 103, 3) := by decide +kernel
theorem dX4_sheet_39 : decode cX4_sheet 39 = .ok (.ireturn, 1) := by decide +kernel
theorem dX4_sheet_40 : decode cX4_sheet 40 = .ok (.aload_n 0, 1) := by decide +kernel
theorem dX4_sheet_41 : decode cX4_sheet 41 = .ok (.getfield 9, 3) := by decide +kernel
theorem dX4_sheet_44 : decode cX4_sheet 44 = .ok (.iload_n 1, 1) := by decide +kernel
theorem dX4_sheet_45 : decode cX4_sheet 45 = .ok (.iload_n 2, 1) := by decide +kernel
theorem dX4_sheet_46 : decode cX4_sheet 46 = .ok (.iastore, 1) := by decide +kernel
theorem dX4_sheet_47 : decode cX4_sheet 47 = .ok (.aload_n 0, 1) := by decide +kernel
theorem dX4_sheet_48 : decode cX4_sheet 48 = .ok (.getfield 13, 3) := by decide +kernel
theorem dX4_sheet_51 : decode cX4_sheet 51 = .ok (.iload_n 1, 1) := by decide +kernel
theorem dX4_sheet_52 : decode cX4_sheet 52 = .ok (.iload_n 3, 1) := by decide +kernel
theorem dX4_sheet_53 : decode cX4_sheet 53 = .ok (.iastore, 1) := by decide +kernel
theorem dX4_sheet_54 : decode cX4_sheet 54 = .ok (.iconst 0, 1) := by decide +kernel
theorem dX4_sheet_55 : decode cX4_sheet 55 = .ok (.istore 4, 2) := by decide +kernel
theorem dX4_sheet_57 : decode cX4_sheet 57 = .ok (.iload 4, 2) := by decide +kernel
theorem dX4_sheet_59 : decode cX4_sheet 59 = .ok (.bipush 60, 2) := by decide +kernel
theorem dX4_sheet_61 : decode cX4_sheet 61 = .ok (.if_icmp .ge 22, 3) := by decide +kernel
theorem dX4_sheet_64 : decode cX4_sheet 64 = .ok (.aload_n 0, 1) := by decide +kernel
theorem dX4_sheet_65 : decode cX4_sheet 65 = .ok (.getfield 16, 3) := by decide +kernel
theorem dX4_sheet_68 : decode cX4_sheet 68 = .ok (.bipush 60, 2) := by decide +kernel
theorem dX4_sheet_70 : decode cX4_sheet 70 = .ok (.iload_n 1, 1) := by decide +kernel
theorem dX4_sheet_71 : decode cX4_sheet 71 = .ok (.imul, 1) := by decide +kernel
theorem dX4_sheet_72 : decode cX4_sheet 72 = .ok (.iload 4, 2) := by decide +kernel
theorem dX4_sheet_74 : decode cX4_sheet 74 = .ok (.iadd, 1) := by decide +kernel
theorem dX4_sheet_75 : decode cX4_sheet 75 = .ok (.iconst 0, 1) := by decide +kernel
theorem dX4_sheet_76 : decode cX4_sheet 76 = .ok (.iastore, 1) := by decide +kernel
theorem dX4_sheet_77 : decode cX4_sheet 77 = .ok (.iinc 4 1, 3) := by decide +kernel
theorem dX4_sheet_80 : decode cX4_sheet 80 = .ok (.goto (-23), 3) := by decide +kernel
theorem dX4_sheet_83 : decode cX4_sheet 83 = .ok (.iconst 1, 1) := by decide +kernel
theorem dX4_sheet_84 : decode cX4_sheet 84 = .ok (.ireturn, 1) := by decide +kernel
theorem dX4_lose_0 : decode cX4_lose 0 = .ok (.iload_n 1, 1) := by decide +kernel
theorem dX4_lose_1 : decode cX4_lose 1 = .ok (.invokestatic 92, 3) := by decide +kernel
theorem dX4_lose_4 : decode cX4_lose 4 = .ok (.ifCond .ne 5, 3) := by decide +kernel
theorem dX4_lose_7 : decode cX4_lose 7 = .ok (.iconst (-1), 1) := by decide +kernel
theorem dX4_lose_8 : decode cX4_lose 8 = .ok (.ireturn, 1) := by decide +kernel
theorem dX4_lose_9 : decode cX4_lose 9 = .ok (.aload_n 0, 1) := by decide +kernel
theorem dX4_lose_10 : decode cX4_lose 10 = .ok (.getfield 9, 3) := by decide +kernel
theorem dX4_lose_13 : decode cX4_lose 13 = .ok (.iload_n 1, 1) := by decide +kernel
theorem dX4_lose_14 : decode cX4_lose 14 = .ok (.iaload, 1) := by decide +kernel
theorem dX4_lose_15 : decode cX4_lose 15 = .ok (.bipush (-9), 2) := by decide +kernel
theorem dX4_lose_17 : decode cX4_lose 17 = .ok (.if_icmp .ne 7, 3) := by decide +kernel
theorem dX4_lose_20 : decode cX4_lose 20 = .ok (.iconst 0, 1) := by decide +kernel
theorem dX4_lose_21 : decode cX4_lose 21 = .ok (.goto 4, 3) := by decide +kernel
theorem dX4_lose_24 : decode cX4_lose 24 = .ok (.iconst 1, 1) := by decide +kernel
theorem dX4_lose_25 : decode cX4_lose 25 = .ok (.istore_n 2, 1) := by decide +kernel
theorem dX4_lose_26 : decode cX4_lose 26 = .ok (.aload_n 0, 1) := by decide +kernel
theorem dX4_lose_27 : decode cX4_lose 27 = .ok (.getfield 9, 3) := by decide +kernel
theorem dX4_lose_30 : decode cX4_lose 30 = .ok (.iload_n 1, 1) := by decide +kernel
theorem dX4_lose_31 : decode cX4_lose 31 = .ok (.bipush (-9), 2) := by decide +kernel
theorem dX4_lose_33 : decode cX4_lose 33 = .ok (.iastore, 1) := by decide +kernel
theorem dX4_lose_34 : decode cX4_lose 34 = .ok (.iload_n 2, 1) := by decide +kernel
theorem dX4_lose_35 : decode cX4_lose 35 = .ok (.ireturn, 1) := by decide +kernel
theorem dX4_put_0 : decode cX4_put 0 = .ok (.aload_n 0, 1) := by decide +kernel
theorem dX4_put_1 : decode cX4_put 1 = .ok (.iconst 0, 1) := by decide +kernel
theorem dX4_put_2 : decode cX4_put 2 = .ok (.putfield 76, 3) := by decide +kernel
theorem dX4_put_5 : decode cX4_put 5 = .ok (.iload_n 1, 1) := by decide +kernel
theorem dX4_put_6 : decode cX4_put 6 = .ok (.invokestatic 92, 3) := by decide +kernel
theorem dX4_put_9 : decode cX4_put 9 = .ok (.ifCond .ne 5, 3) := by decide +kernel
theorem dX4_put_12 : decode cX4_put 12 = .ok (.iconst (-1), 1) := by decide +kernel
theorem dX4_put_13 : decode cX4_put 13 = .ok (.ireturn, 1) := by decide +kernel
theorem dX4_put_14 : decode cX4_put 14 = .ok (.aload_n 0, 1) := by decide +kernel
theorem dX4_put_15 : decode cX4_put 15 = .ok (.getfield 9, 3) := by decide +kernel
theorem dX4_put_18 : decode cX4_put 18 = .ok (.iload_n 1, 1) := by decide +kernel
theorem dX4_put_19 : decode cX4_put 19 = .ok (.iaload, 1) := by decide +kernel
theorem dX4_put_20 : decode cX4_put 20 = .ok (.bipush (-9), 2) := by decide +kernel
theorem dX4_put_22 : decode cX4_put 22 = .ok (.if_icmp .ne 9, 3) := by decide +kernel
theorem dX4_put_25 : decode cX4_put 25 = .ok (.aload_n 0, 1) := by decide +kernel
theorem dX4_put_26 : decode cX4_put 26 = .ok (.iconst 1, 1) := by decide +kernel
theorem dX4_put_27 : decode cX4_put 27 = .ok (.invokevirtual 103, 3) := by decide +kernel
theorem dX4_put_30 : decode cX4_put 30 = .ok (.ireturn, 1) := by decide +kernel
theorem dX4_put_31 : decode cX4_put 31 = .ok (.iload_n 2, 1) := by decide +kernel
theorem dX4_put_32 : decode cX4_put 32 = .ok (.iconst 0, 1) := by decide +kernel
theorem dX4_put_33 : decode cX4_put 33 = .ok (.aload_n 0, 1) := by decide +kernel
theorem dX4_put_34 : decode cX4_put 34 = .ok (.getfield 13, 3) := by decide +kernel
theorem dX4_put_37 : decode cX4_put 37 = .ok (.iload_n 1, 1) := by decide +kernel
theorem dX4_put_38 : decode cX4_put 38 = .ok (.iaload, 1) := by decide +kernel
theorem dX4_put_39 : decode cX4_put 39 = .ok (.iconst 1, 1) := by decide +kernel
theorem dX4_put_40 : decode cX4_put 40 = .ok (.isub, 1) := by decide +kernel
theorem dX4_put_41 : decode cX4_put 41 = .ok (.invokestatic 82, 3) := by decide +kernel
theorem dX4_put_44 : decode cX4_put 44 = .ok (.ifCond .ne 9, 3) := by decide +kernel
theorem dX4_put_47 : decode cX4_put 47 = .ok (.aload_n 0, 1) := by decide +kernel
theorem dX4_put_48 : decode cX4_put 48 = .ok (.iconst 3, 1) := by decide +kernel
theorem dX4_put_49 : decode cX4_put 49 = .ok (.invokevirtual 103, 3) := by decide +kernel
theorem dX4_put_52 : decode cX4_put 52 = .ok (.ireturn, 1) := by decide +kernel
theorem dX4_put_53 : decode cX4_put 53 = .ok (.aload_n 0, 1) := by decide +kernel
theorem dX4_put_54 : decode cX4_put 54 = .ok (.getfield 16, 3) := by decide +kernel
theorem dX4_put_57 : decode cX4_put 57 = .ok (.bipush 60, 2) := by decide +kernel
theorem dX4_put_59 : decode cX4_put 59 = .ok (.iload_n 1, 1) := by decide +kernel
theorem dX4_put_60 : decode cX4_put 60 = .ok (.imul, 1) := by decide +kernel
theorem dX4_put_61 : decode cX4_put 61 = .ok (.iload_n 2, 1) := by decide +kernel
theorem dX4_put_62 : decode cX4_put 62 = .ok (.iadd, 1) := by decide +kernel
theorem dX4_put_63 : decode cX4_put 63 = .ok (.aload_n 0, 1) := by decide +kernel
theorem dX4_put_64 : decode cX4_put 64 = .ok (.getfield 9, 3) := by decide +kernel
theorem dX4_put_67 : decode cX4_put 67 = .ok (.iload_n 1, 1) := by decide +kernel
theorem dX4_put_68 : decode cX4_put 68 = .ok (.iaload, 1) := by decide +kernel
theorem dX4_put_69 : decode cX4_put 69 = .ok (.ifCond .ne 8, 3) := by decide +kernel
theorem dX4_put_72 : decode cX4_put 72 = .ok (.iload_n 3, 1) := by decide +kernel
theorem dX4_put_73 : decode cX4_put 73 = .ok (.i2b, 1) := by decide +kernel
theorem dX4_put_74 : decode cX4_put 74 = .ok (.goto 19, 3) := by decide +kernel
theorem dX4_put_77 : decode cX4_put 77 = .ok (.aload_n 0, 1) := by decide +kernel
theorem dX4_put_78 : decode cX4_put 78 = .ok (.getfield 9, 3) := by decide +kernel
theorem dX4_put_81 : decode cX4_put 81 = .ok (.iload_n 1, 1) := by decide +kernel
theorem dX4_put_82 : decode cX4_put 82 = .ok (.iaload, 1) := by decide +kernel
theorem dX4_put_83 : decode cX4_put 83 = .ok (.iconst 1, 1) := by decide +kernel
theorem dX4_put_84 : decode cX4_put 84 = .ok (.if_icmp .ne 8, 3) := by decide +kernel
theorem dX4_put_87 : decode cX4_put 87 = .ok (.iload_n 3, 1) := by decide +kernel
theorem dX4_put_88 : decode cX4_put 88 = .ok (.i2s, 1) := by decide +kernel
theorem dX4_put_89 : decode cX4_put 89 = .ok (.goto 4, 3) := by decide +kernel
theorem dX4_put_92 : decode cX4_put 92 = .ok (.iload_n 3, 1) := by decide +kernel
theorem dX4_put_93 : decode cX4_put 93 = .ok (.iastore, 1) := by decide +kernel
theorem dX4_put_94 : decode cX4_put 94 = .ok (.iconst 1, 1) := by decide +kernel
theorem dX4_put_95 : decode cX4_put 95 = .ok (.ireturn, 1) := by decide +kernel
theorem dX4_cell_0 : decode cX4_cell 0 = .ok (.aload_n 0, 1) := by decide +kernel
theorem dX4_cell_1 : decode cX4_cell 1 = .ok (.iconst 0, 1) := by decide +kernel
theorem dX4_cell_2 : decode cX4_cell 2 = .ok (.putfield 76, 3) := by decide +kernel
theorem dX4_cell_5 : decode cX4_cell 5 = .ok (.iload_n 1, 1) := by decide +kernel
theorem dX4_cell_6 : decode cX4_cell 6 = .ok (.invokestatic 92, 3) := by decide +kernel
theorem dX4_cell_9 : decode cX4_cell 9 = .ok (.ifCond .eq 10, 3) := by decide +kernel
theorem dX4_cell_12 : decode cX4_cell 12 = .ok (.iload_n 3, 1) := by decide +kernel
theorem dX4_cell_13 : decode cX4_cell 13 = .ok (.invokestatic 96, 3) := by decide +kernel
theorem dX4_cell_16 : decode cX4_cell 16 = .ok (.ifCond .ne 7, 3) := by decide +kernel
theorem dX4_cell_19 : decode cX4_cell 19 = .ok (.ldc2_w 80, 3) := by decide +kernel
theorem dX4_cell_22 : decode cX4_cell 22 = .ok (.lreturn, 1) := by decide +kernel
theorem dX4_cell_23 : decode cX4_cell 23 = .ok (.aload_n 0, 1) := by decide +kernel
theorem dX4_cell_24 : decode cX4_cell 24 = .ok (.getfield 9, 3) := by decide +kernel
theorem dX4_cell_27 : decode cX4_cell 27 = .ok (.iload_n 1, 1) := by decide +kernel
theorem dX4_cell_28 : decode cX4_cell 28 = .ok (.iaload, 1) := by decide +kernel
theorem dX4_cell_29 : decode cX4_cell 29 = .ok (.bipush (-9), 2) := by decide +kernel
theorem dX4_cell_31 : decode cX4_cell 31 = .ok (.if_icmp .eq 19, 3) := by decide +kernel
theorem dX4_cell_34 : decode cX4_cell 34 = .ok (.aload_n 0, 1) := by decide +kernel
theorem dX4_cell_35 : decode cX4_cell 35 = .ok (.getfield 9, 3) := by decide +kernel
theorem dX4_cell_38 : decode cX4_cell 38 = .ok (.iload_n 1, 1) := by decide +kernel
theorem dX4_cell_39 : decode cX4_cell 39 = .ok (.iaload, 1) := by decide +kernel
theorem dX4_cell_40 : decode cX4_cell 40 = .ok (.iload_n 3, 1) := by decide +kernel
theorem dX4_cell_41 : decode cX4_cell 41 = .ok (.if_icmp .eq 9, 3) := by decide +kernel
theorem dX4_cell_44 : decode cX4_cell 44 = .ok (.aload_n 0, 1) := by decide +kernel
theorem dX4_cell_45 : decode cX4_cell 45 = .ok (.iconst 2, 1) := by decide +kernel
theorem dX4_cell_46 : decode cX4_cell 46 = .ok (.invokevirtual 241, 3) := by decide +kernel
theorem dX4_cell_49 : decode cX4_cell 49 = .ok (.lreturn, 1) := by decide +kernel
theorem dX4_cell_50 : decode cX4_cell 50 = .ok (.aload_n 0, 1) := by decide +kernel
theorem dX4_cell_51 : decode cX4_cell 51 = .ok (.getfield 9, 3) := by decide +kernel
theorem dX4_cell_54 : decode cX4_cell 54 = .ok (.iload_n 1, 1) := by decide +kernel
theorem dX4_cell_55 : decode cX4_cell 55 = .ok (.iaload, 1) := by decide +kernel
theorem dX4_cell_56 : decode cX4_cell 56 = .ok (.bipush (-9), 2) := by decide +kernel
theorem dX4_cell_58 : decode cX4_cell 58 = .ok (.if_icmp .ne 9, 3) := by decide +kernel
theorem dX4_cell_61 : decode cX4_cell 61 = .ok (.aload_n 0, 1) := by decide +kernel
theorem dX4_cell_62 : decode cX4_cell 62 = .ok (.iconst 1, 1) := by decide +kernel
theorem dX4_cell_63 : decode cX4_cell 63 = .ok (.invokevirtual 241, 3) := by decide +kernel
theorem dX4_cell_66 : decode cX4_cell 66 = .ok (.lreturn, 1) := by decide +kernel
theorem dX4_cell_67 : decode cX4_cell 67 = .ok (.iload_n 2, 1) := by decide +kernel
theorem dX4_cell_68 : decode cX4_cell 68 = .ok (.iconst 0, 1) := by decide +kernel
theorem dX4_cell_69 : decode cX4_cell 69 = .ok (.aload_n 0, 1) := by decide +kernel
theorem dX4_cell_70 : decode cX4_cell 70 = .ok (.getfield 13, 3) := by decide +kernel
theorem dX4_cell_73 : decode cX4_cell 73 = .ok (.iload_n 1, 1) := by decide +kernel
theorem dX4_cell_74 : decode cX4_cell 74 = .ok (.iaload, 1) := by decide +kernel
theorem dX4_cell_75 : decode cX4_cell 75 = .ok (.iconst 1, 1) := by decide +kernel
theorem dX4_cell_76 : decode cX4_cell 76 = .ok (.isub, 1) := by decide +kernel
theorem dX4_cell_77 : decode cX4_cell 77 = .ok (.invokestatic 82, 3) := by decide +kernel
theorem dX4_cell_80 : decode cX4_cell 80 = .ok (.ifCond .ne 9, 3) := by decide +kernel
theorem dX4_cell_83 : decode cX4_cell 83 = .ok (.aload_n 0, 1) := by decide +kernel
theorem dX4_cell_84 : decode cX4_cell 84 = .ok (.iconst 3, 1) := by decide +kernel
theorem dX4_cell_85 : decode cX4_cell 85 = .ok (.invokevirtual 241, 3) := by decide +kernel
theorem dX4_cell_88 : decode cX4_cell 88 = .ok (.lreturn, 1) := by decide +kernel
theorem dX4_cell_89 : decode cX4_cell 89 = .ok (.aload_n 0, 1) := by decide +kernel
theorem dX4_cell_90 : decode cX4_cell 90 = .ok (.getfield 16, 3) := by decide +kernel
theorem dX4_cell_93 : decode cX4_cell 93 = .ok (.bipush 60, 2) := by decide +kernel
theorem dX4_cell_95 : decode cX4_cell 95 = .ok (.iload_n 1, 1) := by decide +kernel
theorem dX4_cell_96 : decode cX4_cell 96 = .ok (.imul, 1) := by decide +kernel
theorem dX4_cell_97 : decode cX4_cell 97 = .ok (.iload_n 2, 1) := by decide +kernel
theorem dX4_cell_98 : decode cX4_cell 98 = .ok (.iadd, 1) := by decide +kernel
theorem dX4_cell_99 : decode cX4_cell 99 = .ok (.iaload, 1) := by decide +kernel
theorem dX4_cell_100 : decode cX4_cell 100 = .ok (.i2l, 1) := by decide +kernel
theorem dX4_cell_101 : decode cX4_cell 101 = .ok (.lreturn, 1) := by decide +kernel
theorem dX4_copy_0 : decode cX4_copy 0 = .ok (.aload_n 0, 1) := by decide +kernel
theorem dX4_copy_1 : decode cX4_copy 1 = .ok (.iconst 0, 1) := by decide +kernel
theorem dX4_copy_2 : decode cX4_copy 2 = .ok (.putfield 76, 3) := by decide +kernel
theorem dX4_copy_5 : decode cX4_copy 5 = .ok (.iload_n 1, 1) := by decide +kernel
theorem dX4_copy_6 : decode cX4_copy 6 = .ok (.invokestatic 92, 3) := by decide +kernel
theorem dX4_copy_9 : decode cX4_copy 9 = .ok (.ifCond .eq 10, 3) := by decide +kernel
theorem dX4_copy_12 : decode cX4_copy 12 = .ok (.iload_n 3, 1) := by decide +kernel
theorem dX4_copy_13 : decode cX4_copy 13 = .ok (.invokestatic 92, 3) := by decide +kernel
theorem dX4_copy_16 : decode cX4_copy 16 = .ok (.ifCond .ne 5, 3) := by decide +kernel
theorem dX4_copy_19 : decode cX4_copy 19 = .ok (.iconst (-1), 1) := by decide +kernel
theorem dX4_copy_20 : decode cX4_copy 20 = .ok (.ireturn, 1) := by decide +kernel
theorem dX4_copy_21 : decode cX4_copy 21 = .ok (.aload_n 0, 1) := by decide +kernel
theorem dX4_copy_22 : decode cX4_copy 22 = .ok (.getfield 9, 3) := by decide +kernel
theorem dX4_copy_25 : decode cX4_copy 25 = .ok (.iload_n 1, 1) := by decide +kernel
theorem dX4_copy_26 : decode cX4_copy 26 = .ok (.iaload, 1) := by decide +kernel
theorem dX4_copy_27 : decode cX4_copy 27 = .ok (.bipush (-9), 2) := by decide +kernel
theorem dX4_copy_29 : decode cX4_copy 29 = .ok (.if_icmp .eq 14, 3) := by decide +kernel
theorem dX4_copy_32 : decode cX4_copy 32 = .ok (.aload_n 0, 1) := by decide +kernel
theorem dX4_copy_33 : decode cX4_copy 33 = .ok (.getfield 9, 3) := by decide +kernel
theorem dX4_copy_36 : decode cX4_copy 36 = .ok (.iload_n 3, 1) := by decide +kernel
theorem dX4_copy_37 : decode cX4_copy 37 = .ok (.iaload, 1) := by decide +kernel
theorem dX4_copy_38 : decode cX4_copy 38 = .ok (.bipush (-9), 2) := by decide +kernel
theorem dX4_copy_40 : decode cX4_copy 40 = .ok (.if_icmp .ne 9, 3) := by decide +kernel
theorem dX4_copy_43 : decode cX4_copy 43 = .ok (.aload_n 0, 1) := by decide +kernel
theorem dX4_copy_44 : decode cX4_copy 44 = .ok (.iconst 1, 1) := by decide +kernel
theorem dX4_copy_45 : decode cX4_copy 45 = .ok (.invokevirtual 103, 3) := by decide +kernel
theorem dX4_copy_48 : decode cX4_copy 48 = .ok (.ireturn, 1) := by decide +kernel
theorem dX4_copy_49 : decode cX4_copy 49 = .ok (.aload_n 0, 1) := by decide +kernel
theorem dX4_copy_50 : decode cX4_copy 50 = .ok (.getfield 9, 3) := by decide +kernel
theorem dX4_copy_53 : decode cX4_copy 53 = .ok (.iload_n 1, 1) := by decide +kernel
theorem dX4_copy_54 : decode cX4_copy 54 = .ok (.iaload, 1) := by decide +kernel
theorem dX4_copy_55 : decode cX4_copy 55 = .ok (.aload_n 0, 1) := by decide +kernel
theorem dX4_copy_56 : decode cX4_copy 56 = .ok (.getfield 9, 3) := by decide +kernel
theorem dX4_copy_59 : decode cX4_copy 59 = .ok (.iload_n 3, 1) := by decide +kernel
theorem dX4_copy_60 : decode cX4_copy 60 = .ok (.iaload, 1) := by decide +kernel
theorem dX4_copy_61 : decode cX4_copy 61 = .ok (.if_icmp .eq 9, 3) := by decide +kernel
theorem dX4_copy_64 : decode cX4_copy 64 = .ok (.aload_n 0, 1) := by decide +kernel
theorem dX4_copy_65 : decode cX4_copy 65 = .ok (.iconst 2, 1) := by decide +kernel
theorem dX4_copy_66 : decode cX4_copy 66 = .ok (.invokevirtual 103, 3) := by decide +kernel
theorem dX4_copy_69 : decode cX4_copy 69 = .ok (.ireturn, 1) := by decide +kernel
theorem dX4_copy_70 : decode cX4_copy 70 = .ok (.iload_n 2, 1) := by decide +kernel
theorem dX4_copy_71 : decode cX4_copy 71 = .ok (.ifCond .lt 38, 3) := by decide +kernel
theorem dX4_copy_74 : decode cX4_copy 74 = .ok (.iload 4, 2) := by decide +kernel
theorem dX4_copy_76 : decode cX4_copy 76 = .ok (.ifCond .lt 33, 3) := by decide +kernel
theorem dX4_copy_79 : decode cX4_copy 79 = .ok (.iload 5, 2) := by decide +kernel
theorem dX4_copy_81 : decode cX4_copy 81 = .ok (.ifCond .lt 28, 3) := by decide +kernel
theorem dX4_copy_84 : decode cX4_copy 84 = .ok (.iload_n 2, 1) := by decide +kernel
theorem dX4_copy_85 : decode cX4_copy 85 = .ok (.aload_n 0, 1) := by decide +kernel
theorem dX4_copy_86 : decode cX4_copy 86 = .ok (.getfield 13, 3) := by decide +kernel
theorem dX4_copy_89 : decode cX4_copy 89 = .ok (.iload_n 1, 1) := by decide +kernel
theorem dX4_copy_90 : decode cX4_copy 90 = .ok (.iaload, 1) := by decide +kernel
theorem dX4_copy_91 : decode cX4_copy 91 = .ok (.if_icmp .gt 18, 3) := by decide +kernel
theorem dX4_copy_94 : decode cX4_copy 94 = .ok (.iload 4, 2) := by decide +kernel
theorem dX4_copy_96 : decode cX4_copy 96 = .ok (.aload_n 0, 1) := by decide +kernel
theorem dX4_copy_97 : decode cX4_copy 97 = .ok (.getfield 13, 3) := by decide +kernel
theorem dX4_copy_100 : decode cX4_copy 100 = .ok (.iload_n 3, 1) := by decide +kernel
theorem dX4_copy_101 : decode cX4_copy 101 = .ok (.iaload, 1) := by decide +kernel
theorem dX4_copy_102 : decode cX4_copy 102 = .ok (.if_icmp .gt 7, 3) := by decide +kernel
theorem dX4_copy_105 : decode cX4_copy 105 = .ok (.iconst 1, 1) := by decide +kernel
theorem dX4_copy_106 : decode cX4_copy 106 = .ok (.goto 4, 3) := by decide +kernel
theorem dX4_copy_109 : decode cX4_copy 109 = .ok (.iconst 0, 1) := by decide +kernel
theorem dX4_copy_110 : decode cX4_copy 110 = .ok (.istore 6, 2) := by decide +kernel
theorem dX4_copy_112 : decode cX4_copy 112 = .ok (.iload 6, 2) := by decide +kernel
theorem dX4_copy_114 : decode cX4_copy 114 = .ok (.ifCond .eq 30, 3) := by decide +kernel
theorem dX4_copy_117 : decode cX4_copy 117 = .ok (.iload 5, 2) := by decide +kernel
theorem dX4_copy_119 : decode cX4_copy 119 = .ok (.aload_n 0, 1) := by decide +kernel
theorem dX4_copy_120 : decode cX4_copy 120 = .ok (.getfield 13, 3) := by decide +kernel
theorem dX4_copy_123 : decode cX4_copy 123 = .ok (.iload_n 1, 1) := by decide +kernel
theorem dX4_copy_124 : decode cX4_copy 124 = .ok (.iaload, 1) := by decide +kernel
theorem dX4_copy_125 : decode cX4_copy 125 = .ok (.iload_n 2, 1) := by decide +kernel
theorem dX4_copy_126 : decode cX4_copy 126 = .ok (.isub, 1) := by decide +kernel
theorem dX4_copy_127 : decode cX4_copy 127 = .ok (.if_icmp .gt 17, 3) := by decide +kernel
theorem dX4_copy_130 : decode cX4_copy 130 = .ok (.iload 5, 2) := by decide +kernel
theorem dX4_copy_132 : decode cX4_copy 132 = .ok (.aload_n 0, 1) := by decide +kernel
theorem dX4_copy_133 : decode cX4_copy 133 = .ok (.getfield 13, 3) := by decide +kernel
theorem dX4_copy_136 : decode cX4_copy 136 = .ok (.iload_n 3, 1) := by decide +kernel
theorem dX4_copy_137 : decode cX4_copy 137 = .ok (.iaload, 1) := by decide +kernel
theorem dX4_copy_138 : decode cX4_copy 138 = .ok (.iload 4, 2) := by decide +kernel
theorem dX4_copy_140 : decode cX4_copy 140 = .ok (.isub, 1) := by decide +kernel
theorem dX4_copy_141 : decode cX4_copy 141 = .ok (.if_icmp .le 9, 3) := by decide +kernel
theorem dX4_copy_144 : decode cX4_copy 144 = .ok (.aload_n 0, 1) := by decide +kernel
theorem dX4_copy_145 : decode cX4_copy 145 = .ok (.iconst 3, 1) := by decide +kernel
theorem dX4_copy_146 : decode cX4_copy 146 = .ok (.invokevirtual 103, 3) := by decide +kernel
theorem dX4_copy_149 : decode cX4_copy 149 = .ok (.ireturn, 1) := by decide +kernel
theorem dX4_copy_150 : decode cX4_copy 150 = .ok (.iload_n 2, 1) := by decide +kernel
theorem dX4_copy_151 : decode cX4_copy 151 = .ok (.iload 4, 2) := by decide +kernel
theorem dX4_copy_153 : decode cX4_copy 153 = .ok (.if_icmp .ge 7, 3) := by decide +kernel
theorem dX4_copy_156 : decode cX4_copy 156 = .ok (.iconst 1, 1) := by decide +kernel
theorem dX4_copy_157 : decode cX4_copy 157 = .ok (.goto 4, 3) := by decide +kernel
theorem dX4_copy_160 : decode cX4_copy 160 = .ok (.iconst 0, 1) := by decide +kernel
theorem dX4_copy_161 : decode cX4_copy 161 = .ok (.istore 7, 2) := by decide +kernel
theorem dX4_copy_163 : decode cX4_copy 163 = .ok (.iconst 0, 1) := by decide +kernel
theorem dX4_copy_164 : decode cX4_copy 164 = .ok (.istore 8, 2) := by decide +kernel
theorem dX4_copy_166 : decode cX4_copy 166 = .ok (.iload 8, 2) := by decide +kernel
theorem dX4_copy_168 : decode cX4_copy 168 = .ok (.iload 5, 2) := by decide +kernel
theorem dX4_copy_170 : decode cX4_copy 170 = .ok (.if_icmp .ge 57, 3) := by decide +kernel
theorem dX4_copy_173 : decode cX4_copy 173 = .ok (.iload 7, 2) := by decide +kernel
theorem dX4_copy_175 : decode cX4_copy 175 = .ok (.ifCond .eq 13, 3) := by decide +kernel
theorem dX4_copy_178 : decode cX4_copy 178 = .ok (.iload 5, 2) := by decide +kernel
theorem dX4_copy_180 : decode cX4_copy 180 = .ok (.iconst 1, 1) := by decide +kernel
theorem dX4_copy_181 : decode cX4_copy 181 = .ok (.isub, 1) := by decide +kernel
theorem dX4_copy_182 : decode cX4_copy 182 = .ok (.iload 8, 2) := by decide +kernel
theorem dX4_copy_184 : decode cX4_copy 184 = .ok (.isub, 1) := by decide +kernel
theorem dX4_copy_185 : decode cX4_copy 185 = .ok (.goto 5, 3) := by decide +kernel
theorem dX4_copy_188 : decode cX4_copy 188 = .ok (.iload 8, 2) := by decide +kernel
theorem dX4_copy_190 : decode cX4_copy 190 = .ok (.istore 9, 2) := by decide +kernel
theorem dX4_copy_192 : decode cX4_copy 192 = .ok (.aload_n 0, 1) := by decide +kernel
theorem dX4_copy_193 : decode cX4_copy 193 = .ok (.getfield 16, 3) := by decide +kernel
theorem dX4_copy_196 : decode cX4_copy 196 = .ok (.bipush 60, 2) := by decide +kernel
theorem dX4_copy_198 : decode cX4_copy 198 = .ok (.iload_n 3, 1) := by decide +kernel
theorem dX4_copy_199 : decode cX4_copy 199 = .ok (.imul, 1) := by decide +kernel
theorem dX4_copy_200 : decode cX4_copy 200 = .ok (.iload 4, 2) := by decide +kernel
theorem dX4_copy_202 : decode cX4_copy 202 = .ok (.iadd, 1) := by decide +kernel
theorem dX4_copy_203 : decode cX4_copy 203 = .ok (.iload 9, 2) := by decide +kernel
theorem dX4_copy_205 : decode cX4_copy 205 = .ok (.iadd, 1) := by decide +kernel
theorem dX4_copy_206 : decode cX4_copy 206 = .ok (.aload_n 0, 1) := by decide +kernel
theorem dX4_copy_207 : decode cX4_copy 207 = .ok (.getfield 16, 3) := by decide +kernel
theorem dX4_copy_210 : decode cX4_copy 210 = .ok (.bipush 60, 2) := by decide +kernel
theorem dX4_copy_212 : decode cX4_copy 212 = .ok (.iload_n 1, 1) := by decide +kernel
theorem dX4_copy_213 : decode cX4_copy 213 = .ok (.imul, 1) := by decide +kernel
theorem dX4_copy_214 : decode cX4_copy 214 = .ok (.iload_n 2, 1) := by decide +kernel
theorem dX4_copy_215 : decode cX4_copy 215 = .ok (.iadd, 1) := by decide +kernel
theorem dX4_copy_216 : decode cX4_copy 216 = .ok (.iload 9, 2) := by decide +kernel
theorem dX4_copy_218 : decode cX4_copy 218 = .ok (.iadd, 1) := by decide +kernel
theorem dX4_copy_219 : decode cX4_copy 219 = .ok (.iaload, 1) := by decide +kernel
theorem dX4_copy_220 : decode cX4_copy 220 = .ok (.iastore, 1) := by decide +kernel
theorem dX4_copy_221 : decode cX4_copy 221 = .ok (.iinc 8 1, 3) := by decide +kernel
theorem dX4_copy_224 : decode cX4_copy 224 = .ok (.goto (-58), 3) := by decide +kernel
theorem dX4_copy_227 : decode cX4_copy 227 = .ok (.iload 5, 2) := by decide +kernel
theorem dX4_copy_229 : decode cX4_copy 229 = .ok (.ireturn, 1) := by decide +kernel
theorem dX4_begins_0 : decode cX4_begins 0 = .ok (.aload_n 0, 1) := by decide +kernel
theorem dX4_begins_1 : decode cX4_begins 1 = .ok (.bipush 31, 2) := by decide +kernel
theorem dX4_begins_3 : decode cX4_begins 3 = .ok (.aload_n 0, 1) := by decide +kernel
theorem dX4_begins_4 : decode cX4_begins 4 = .ok (.getfield 245, 3) := by decide +kernel
theorem dX4_begins_7 : decode cX4_begins 7 = .ok (.imul, 1) := by decide +kernel
theorem dX4_begins_8 : decode cX4_begins 8 = .ok (.iload_n 1, 1) := by decide +kernel
theorem dX4_begins_9 : decode cX4_begins 9 = .ok (.iadd, 1) := by decide +kernel
theorem dX4_begins_10 : decode cX4_begins 10 = .ok (.putfield 245, 3) := by decide +kernel
theorem dX4_begins_13 : decode cX4_begins 13 = .ok (.return_, 1) := by decide +kernel
theorem dX4_tell_0 : decode cX4_tell 0 = .ok (.aload_n 0, 1) := by decide +kernel
theorem dX4_tell_1 : decode cX4_tell 1 = .ok (.iload_n 1, 1) := by decide +kernel
theorem dX4_tell_2 : decode cX4_tell 2 = .ok (.invokevirtual 173, 3) := by decide +kernel
theorem dX4_tell_5 : decode cX4_tell 5 = .ok (.ifCond .ne 5, 3) := by decide +kernel
theorem dX4_tell_8 : decode cX4_tell 8 = .ok (.iconst (-1), 1) := by decide +kernel
theorem dX4_tell_9 : decode cX4_tell 9 = .ok (.ireturn, 1) := by decide +kernel
theorem dX4_tell_10 : decode cX4_tell 10 = .ok (.aload_n 0, 1) := by decide +kernel
theorem dX4_tell_11 : decode cX4_tell 11 = .ok (.getfield 22, 3) := by decide +kernel
theorem dX4_tell_14 : decode cX4_tell 14 = .ok (.iload_n 1, 1) := by decide +kernel
theorem dX4_tell_15 : decode cX4_tell 15 = .ok (.iaload, 1) := by decide +kernel
theorem dX4_tell_16 : decode cX4_tell 16 = .ok (.istore_n 2, 1) := by decide +kernel
theorem dX4_tell_17 : decode cX4_tell 17 = .ok (.aload_n 0, 1) := by decide +kernel
theorem dX4_tell_18 : decode cX4_tell 18 = .ok (.getfield 19, 3) := by decide +kernel
theorem dX4_tell_21 : decode cX4_tell 21 = .ok (.iload_n 1, 1) := by decide +kernel
theorem dX4_tell_22 : decode cX4_tell 22 = .ok (.iaload, 1) := by decide +kernel
theorem dX4_tell_23 : decode cX4_tell 23 = .ok (.lookupswitch 67 #[(1, 25), (2, 40)], 25) := by decide +kernel
theorem dX4_tell_48 : decode cX4_tell 48 = .ok (.aload_n 0, 1) := by decide +kernel
theorem dX4_tell_49 : decode cX4_tell 49 = .ok (.iconst 2, 1) := by decide +kernel
theorem dX4_tell_50 : decode cX4_tell 50 = .ok (.invokevirtual 248, 3) := by decide +kernel
theorem dX4_tell_53 : decode cX4_tell 53 = .ok (.aload_n 0, 1) := by decide +kernel
theorem dX4_tell_54 : decode cX4_tell 54 = .ok (.iconst 1, 1) := by decide +kernel
theorem dX4_tell_55 : decode cX4_tell 55 = .ok (.invokevirtual 248, 3) := by decide +kernel
theorem dX4_tell_58 : decode cX4_tell 58 = .ok (.iload_n 2, 1) := by decide +kernel
theorem dX4_tell_59 : decode cX4_tell 59 = .ok (.bipush 100, 2) := by decide +kernel
theorem dX4_tell_61 : decode cX4_tell 61 = .ok (.iadd, 1) := by decide +kernel
theorem dX4_tell_62 : decode cX4_tell 62 = .ok (.ireturn, 1) := by decide +kernel
theorem dX4_tell_63 : decode cX4_tell 63 = .ok (.aload_n 0, 1) := by decide +kernel
theorem dX4_tell_64 : decode cX4_tell 64 = .ok (.iconst 3, 1) := by decide +kernel
theorem dX4_tell_65 : decode cX4_tell 65 = .ok (.invokevirtual 248, 3) := by decide +kernel
theorem dX4_tell_68 : decode cX4_tell 68 = .ok (.aload_n 0, 1) := by decide +kernel
theorem dX4_tell_69 : decode cX4_tell 69 = .ok (.iconst 2, 1) := by decide +kernel
theorem dX4_tell_70 : decode cX4_tell 70 = .ok (.invokevirtual 248, 3) := by decide +kernel
theorem dX4_tell_73 : decode cX4_tell 73 = .ok (.aload_n 0, 1) := by decide +kernel
theorem dX4_tell_74 : decode cX4_tell 74 = .ok (.iconst 1, 1) := by decide +kernel
theorem dX4_tell_75 : decode cX4_tell 75 = .ok (.invokevirtual 248, 3) := by decide +kernel
theorem dX4_tell_78 : decode cX4_tell 78 = .ok (.aload_n 0, 1) := by decide +kernel
theorem dX4_tell_79 : decode cX4_tell 79 = .ok (.iconst 1, 1) := by decide +kernel
theorem dX4_tell_80 : decode cX4_tell 80 = .ok (.invokevirtual 248, 3) := by decide +kernel
theorem dX4_tell_83 : decode cX4_tell 83 = .ok (.iconst 2, 1) := by decide +kernel
theorem dX4_tell_84 : decode cX4_tell 84 = .ok (.iload_n 2, 1) := by decide +kernel
theorem dX4_tell_85 : decode cX4_tell 85 = .ok (.imul, 1) := by decide +kernel
theorem dX4_tell_86 : decode cX4_tell 86 = .ok (.bipush 100, 2) := by decide +kernel
theorem dX4_tell_88 : decode cX4_tell 88 = .ok (.iadd, 1) := by decide +kernel
theorem dX4_tell_89 : decode cX4_tell 89 = .ok (.ireturn, 1) := by decide +kernel
theorem dX4_tell_90 : decode cX4_tell 90 = .ok (.aload_n 0, 1) := by decide +kernel
theorem dX4_tell_91 : decode cX4_tell 91 = .ok (.iconst 1, 1) := by decide +kernel
theorem dX4_tell_92 : decode cX4_tell 92 = .ok (.invokevirtual 248, 3) := by decide +kernel
theorem dX4_tell_95 : decode cX4_tell 95 = .ok (.iload_n 2, 1) := by decide +kernel
theorem dX4_tell_96 : decode cX4_tell 96 = .ok (.ireturn, 1) := by decide +kernel
theorem dX4_survey_0 : decode cX4_survey 0 = .ok (.aload_n 0, 1) := by decide +kernel
theorem dX4_survey_1 : decode cX4_survey 1 = .ok (.iload_n 1, 1) := by decide +kernel
theorem dX4_survey_2 : decode cX4_survey 2 = .ok (.invokevirtual 173, 3) := by decide +kernel
theorem dX4_survey_5 : decode cX4_survey 5 = .ok (.ifCond .ne 5, 3) := by decide +kernel
theorem dX4_survey_8 : decode cX4_survey 8 = .ok (.iconst (-1), 1) := by decide +kernel
theorem dX4_survey_9 : decode cX4_survey 9 = .ok (.ireturn, 1) := by decide +kernel
theorem dX4_survey_10 : decode cX4_survey 10 = .ok (.aload_n 0, 1) := by decide +kernel
theorem dX4_survey_11 : decode cX4_survey 11 = .ok (.getfield 19, 3) := by decide +kernel
theorem dX4_survey_14 : decode cX4_survey 14 = .ok (.iload_n 1, 1) := by decide +kernel
theorem dX4_survey_15 : decode cX4_survey 15 = .ok (.iaload, 1) := by decide +kernel
theorem dX4_survey_16 : decode cX4_survey 16 = .ok (.iconst 2, 1) := by decide +kernel
theorem dX4_survey_17 : decode cX4_survey 17 = .ok (.if_icmp .ne 8, 3) := by decide +kernel
theorem dX4_survey_20 : decode cX4_survey 20 = .ok (.aload_n 0, 1) := by decide +kernel
theorem dX4_survey_21 : decode cX4_survey 21 = .ok (.iconst 5, 1) := by decide +kernel
theorem dX4_survey_22 : decode cX4_survey 22 = .ok (.invokevirtual 248, 3) := by decide +kernel
theorem dX4_survey_25 : decode cX4_survey 25 = .ok (.aload_n 0, 1) := by decide +kernel
theorem dX4_survey_26 : decode cX4_survey 26 = .ok (.iconst 4, 1) := by decide +kernel
theorem dX4_survey_27 : decode cX4_survey 27 = .ok (.invokevirtual 248, 3) := by decide +kernel
theorem dX4_survey_30 : decode cX4_survey 30 = .ok (.aload_n 0, 1) := by decide +kernel
theorem dX4_survey_31 : decode cX4_survey 31 = .ok (.getfield 19, 3) := by decide +kernel
theorem dX4_survey_34 : decode cX4_survey 34 = .ok (.iload_n 1, 1) := by decide +kernel
theorem dX4_survey_35 : decode cX4_survey 35 = .ok (.iaload, 1) := by decide +kernel
theorem dX4_survey_36 : decode cX4_survey 36 = .ok (.iconst 2, 1) := by decide +kernel
theorem dX4_survey_37 : decode cX4_survey 37 = .ok (.if_icmp .ne 15, 3) := by decide +kernel
theorem dX4_survey_40 : decode cX4_survey 40 = .ok (.aload_n 0, 1) := by decide +kernel
theorem dX4_survey_41 : decode cX4_survey 41 = .ok (.getfield 25, 3) := by decide +kernel
theorem dX4_survey_44 : decode cX4_survey 44 = .ok (.iload_n 1, 1) := by decide +kernel
theorem dX4_survey_45 : decode cX4_survey 45 = .ok (.iaload, 1) := by decide +kernel
theorem dX4_survey_46 : decode cX4_survey 46 = .ok (.bipush 30, 2) := by decide +kernel
theorem dX4_survey_48 : decode cX4_survey 48 = .ok (.iadd, 1) := by decide +kernel
theorem dX4_survey_49 : decode cX4_survey 49 = .ok (.goto 9, 3) := by decide +kernel
theorem dX4_survey_52 : decode cX4_survey 52 = .ok (.aload_n 0, 1) := by decide +kernel
theorem dX4_survey_53 : decode cX4_survey 53 = .ok (.getfield 25, 3) := by decide +kernel
theorem dX4_survey_56 : decode cX4_survey 56 = .ok (.iload_n 1, 1) := by decide +kernel
theorem dX4_survey_57 : decode cX4_survey 57 = .ok (.iaload, 1) := by decide +kernel
theorem dX4_survey_58 : decode cX4_survey 58 = .ok (.ireturn, 1) := by decide +kernel
theorem dX4_as_0 : decode cX4_as 0 = .ok (.aload_n 0, 1) := by decide +kernel
theorem dX4_as_1 : decode cX4_as 1 = .ok (.iconst 0, 1) := by decide +kernel
theorem dX4_as_2 : decode cX4_as 2 = .ok (.putfield 76, 3) := by decide +kernel
theorem dX4_as_5 : decode cX4_as 5 = .ok (.aload_n 0, 1) := by decide +kernel
theorem dX4_as_6 : decode cX4_as 6 = .ok (.iload_n 1, 1) := by decide +kernel
theorem dX4_as_7 : decode cX4_as 7 = .ok (.invokevirtual 173, 3) := by decide +kernel
theorem dX4_as_10 : decode cX4_as 10 = .ok (.ifCond .ne 5, 3) := by decide +kernel
theorem dX4_as_13 : decode cX4_as 13 = .ok (.iconst (-1), 1) := by decide +kernel
theorem dX4_as_14 : decode cX4_as 14 = .ok (.ireturn, 1) := by decide +kernel
theorem dX4_as_15 : decode cX4_as 15 = .ok (.iload_n 2, 1) := by decide +kernel
theorem dX4_as_16 : decode cX4_as 16 = .ok (.iconst 0, 1) := by decide +kernel
theorem dX4_as_17 : decode cX4_as 17 = .ok (.iconst 2, 1) := by decide +kernel
theorem dX4_as_18 : decode cX4_as 18 = .ok (.invokestatic 82, 3) := by decide +kernel
theorem dX4_as_21 : decode cX4_as 21 = .ok (.ifCond .ne 6, 3) := by decide +kernel
theorem dX4_as_24 : decode cX4_as 24 = .ok (.bipush (-2), 2) := by decide +kernel
theorem dX4_as_26 : decode cX4_as 26 = .ok (.ireturn, 1) := by decide +kernel
theorem dX4_as_27 : decode cX4_as 27 = .ok (.aload_n 0, 1) := by decide +kernel
theorem dX4_as_28 : decode cX4_as 28 = .ok (.getfield 19, 3) := by decide +kernel
theorem dX4_as_31 : decode cX4_as 31 = .ok (.iload_n 1, 1) := by decide +kernel
theorem dX4_as_32 : decode cX4_as 32 = .ok (.iaload, 1) := by decide +kernel
theorem dX4_as_33 : decode cX4_as 33 = .ok (.iload_n 2, 1) := by decide +kernel
theorem dX4_as_34 : decode cX4_as 34 = .ok (.if_icmp .lt 7, 3) := by decide +kernel
theorem dX4_as_37 : decode cX4_as 37 = .ok (.iconst 1, 1) := by decide +kernel
theorem dX4_as_38 : decode cX4_as 38 = .ok (.goto 8, 3) := by decide +kernel
theorem dX4_as_41 : decode cX4_as 41 = .ok (.aload_n 0, 1) := by decide +kernel
theorem dX4_as_42 : decode cX4_as 42 = .ok (.iconst 2, 1) := by decide +kernel
theorem dX4_as_43 : decode cX4_as 43 = .ok (.invokevirtual 103, 3) := by decide +kernel
theorem dX4_as_46 : decode cX4_as 46 = .ok (.ireturn, 1) := by decide +kernel
theorem dX4_trace_0 : decode cX4_trace 0 = .ok (.aload_n 0, 1) := by decide +kernel
theorem dX4_trace_1 : decode cX4_trace 1 = .ok (.getfield 245, 3) := by decide +kernel
theorem dX4_trace_4 : decode cX4_trace 4 = .ok (.ireturn, 1) := by decide +kernel
theorem dX4_fault_0 : decode cX4_fault 0 = .ok (.aload_n 0, 1) := by decide +kernel
theorem dX4_fault_1 : decode cX4_fault 1 = .ok (.getfield 76, 3) := by decide +kernel
theorem dX4_fault_4 : decode cX4_fault 4 = .ok (.ireturn, 1) := by decide +kernel
theorem dX4_many_0 : decode cX4_many 0 = .ok (.aload_n 0, 1) := by decide +kernel
theorem dX4_many_1 : decode cX4_many 1 = .ok (.invokevirtual 164, 3) := by decide +kernel
theorem dX4_many_4 : decode cX4_many 4 = .ok (.iload_n 1, 1) := by decide +kernel
theorem dX4_many_5 : decode cX4_many 5 = .ok (.tableswitch 51 0 3 #[31, 36, 41, 46], 31) := by decide +kernel
theorem dX4_many_36 : decode cX4_many 36 = .ok (.aload_n 0, 1) := by decide +kernel
theorem dX4_many_37 : decode cX4_many 37 = .ok (.getfield 86, 3) := by decide +kernel
theorem dX4_many_40 : decode cX4_many 40 = .ok (.ireturn, 1) := by decide +kernel
theorem dX4_many_41 : decode cX4_many 41 = .ok (.aload_n 0, 1) := by decide +kernel
theorem dX4_many_42 : decode cX4_many 42 = .ok (.getfield 136, 3) := by decide +kernel
theorem dX4_many_45 : decode cX4_many 45 = .ok (.ireturn, 1) := by decide +kernel
theorem dX4_many_46 : decode cX4_many 46 = .ok (.aload_n 0, 1) := by decide +kernel
theorem dX4_many_47 : decode cX4_many 47 = .ok (.getfield 139, 3) := by decide +kernel
theorem dX4_many_50 : decode cX4_many 50 = .ok (.ireturn, 1) := by decide +kernel
theorem dX4_many_51 : decode cX4_many 51 = .ok (.aload_n 0, 1) := by decide +kernel
theorem dX4_many_52 : decode cX4_many 52 = .ok (.getfield 113, 3) := by decide +kernel
theorem dX4_many_55 : decode cX4_many 55 = .ok (.ireturn, 1) := by decide +kernel
theorem dX4_many_56 : decode cX4_many 56 = .ok (.bipush (-2), 2) := by decide +kernel
theorem dX4_many_58 : decode cX4_many 58 = .ok (.ireturn, 1) := by decide +kernel
