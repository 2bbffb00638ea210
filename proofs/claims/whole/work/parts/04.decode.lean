theorem dX3_init_0 : decode cX3_init 0 = .ok (.aload_n 0, 1) := by decide +kernel
theorem dX3_init_1 : decode cX3_init 1 = .ok (.invokespecial 5, 3) := by decide +kernel
theorem dX3_init_4 : decode cX3_init 4 = .ok (.aload_n 0, 1) := by decide +kernel
theorem dX3_init_5 : decode cX3_init 5 = .ok (.new 11, 3) := by decide +kernel
theorem dX3_init_8 : decode cX3_init 8 = .ok (.dup, 1) := by decide +kernel
theorem dX3_init_9 : decode cX3_init 9 = .ok (.invokespecial 13, 3) := by decide +kernel
theorem dX3_init_12 : decode cX3_init 12 = .ok (.putfield 14, 3) := by decide +kernel
theorem dX3_init_15 : decode cX3_init 15 = .ok (.aload_n 0, 1) := by decide +kernel
theorem dX3_init_16 : decode cX3_init 16 = .ok (.new 11, 3) := by decide +kernel
theorem dX3_init_19 : decode cX3_init 19 = .ok (.dup, 1) := by decide +kernel
theorem dX3_init_20 : decode cX3_init 20 = .ok (.invokespecial 13, 3) := by decide +kernel
theorem dX3_init_23 : decode cX3_init 23 = .ok (.putfield 18, 3) := by decide +kernel
theorem dX3_init_26 : decode cX3_init 26 = .ok (.aload_n 0, 1) := by decide +kernel
theorem dX3_init_27 : decode cX3_init 27 = .ok (.new 21, 3) := by decide +kernel
theorem dX3_init_30 : decode cX3_init 30 = .ok (.dup, 1) := by decide +kernel
theorem dX3_init_31 : decode cX3_init 31 = .ok (.invokespecial 23, 3) := by decide +kernel
theorem dX3_init_34 : decode cX3_init 34 = .ok (.putfield 24, 3) := by decide +kernel
theorem dX3_init_37 : decode cX3_init 37 = .ok (.aload_n 0, 1) := by decide +kernel
theorem dX3_init_38 : decode cX3_init 38 = .ok (.iconst 4, 1) := by decide +kernel
theorem dX3_init_39 : decode cX3_init 39 = .ok (.anewarray 28, 3) := by decide +kernel
theorem dX3_init_42 : decode cX3_init 42 = .ok (.putfield 30, 3) := by decide +kernel
theorem dX3_init_45 : decode cX3_init 45 = .ok (.aload_n 0, 1) := by decide +kernel
theorem dX3_init_46 : decode cX3_init 46 = .ok (.bipush 6, 2) := by decide +kernel
theorem dX3_init_48 : decode cX3_init 48 = .ok (.newarray .int, 2) := by decide +kernel
theorem dX3_init_50 : decode cX3_init 50 = .ok (.putfield 34, 3) := by decide +kernel
theorem dX3_init_53 : decode cX3_init 53 = .ok (.aload_n 0, 1) := by decide +kernel
theorem dX3_init_54 : decode cX3_init 54 = .ok (.bipush 8, 2) := by decide +kernel
theorem dX3_init_56 : decode cX3_init 56 = .ok (.newarray .int, 2) := by decide +kernel
theorem dX3_init_58 : decode cX3_init 58 = .ok (.putfield 38, 3) := by decide +kernel
theorem dX3_init_61 : decode cX3_init 61 = .ok (.aload_n 0, 1) := by decide +kernel
theorem dX3_init_62 : decode cX3_init 62 = .ok (.bipush 8, 2) := by decide +kernel
theorem dX3_init_64 : decode cX3_init 64 = .ok (.newarray .int, 2) := by decide +kernel
theorem dX3_init_66 : decode cX3_init 66 = .ok (.putfield 41, 3) := by decide +kernel
theorem dX3_init_69 : decode cX3_init 69 = .ok (.iconst 0, 1) := by decide +kernel
theorem dX3_init_70 : decode cX3_init 70 = .ok (.istore_n 1, 1) := by decide +kernel
theorem dX3_init_71 : decode cX3_init 71 = .ok (.iload_n 1, 1) := by decide +kernel
theorem dX3_init_72 : decode cX3_init 72 = .ok (.iconst 4, 1) := by decide +kernel
theorem dX3_init_73 : decode cX3_init 73 = .ok (.if_icmp .ge 22, 3) := by decide +kernel
theorem dX3_init_76 : decode cX3_init 76 = .ok (.aload_n 0, 1) := by decide +kernel
theorem dX3_init_77 : decode cX3_init 77 = .ok (.getfield 30, 3) := by decide +kernel
theorem dX3_init_80 : decode cX3_init 80 = .ok (.iload_n 1, 1) := by decide +kernel
theorem dX3_init_81 : decode cX3_init 81 = .ok (.new 28, 3) := by decide +kernel
theorem dX3_init_84 : decode cX3_init 84 = .ok (.dup, 1) := by decide +kernel
theorem dX3_init_85 : decode cX3_init 85 = .ok (.invokespecial 44, 3) := by decide +kernel
theorem dX3_init_88 : decode cX3_init 88 = .ok (.aastore, 1) := by decide +kernel
theorem dX3_init_89 : decode cX3_init 89 = .ok (.iinc 1 1, 3) := by decide +kernel
theorem dX3_init_92 : decode cX3_init 92 = .ok (.goto (-21), 3) := by decide +kernel
theorem dX3_init_95 : decode cX3_init 95 = .ok (.return_, 1) := by decide +kernel
theorem dX3_map_0 : decode cX3_map 0 = .ok (.aload_n 0, 1) := by decide +kernel
theorem dX3_map_1 : decode cX3_map 1 = .ok (.iconst 0, 1) := by decide +kernel
theorem dX3_map_2 : decode cX3_map 2 = .ok (.putfield 45, 3) := by decide +kernel
theorem dX3_map_5 : decode cX3_map 5 = .ok (.iload_n 1, 1) := by decide +kernel
theorem dX3_map_6 : decode cX3_map 6 = .ok (.invokestatic 49, 3) := by decide +kernel
theorem dX3_map_9 : decode cX3_map 9 = .ok (.ifCond .ne 5, 3) := by decide +kernel
theorem dX3_map_12 : decode cX3_map 12 = .ok (.iconst (-1), 1) := by decide +kernel
theorem dX3_map_13 : decode cX3_map 13 = .ok (.ireturn, 1) := by decide +kernel
theorem dX3_map_14 : decode cX3_map 14 = .ok (.iload_n 2, 1) := by decide +kernel
theorem dX3_map_15 : decode cX3_map 15 = .ok (.invokestatic 53, 3) := by decide +kernel
theorem dX3_map_18 : decode cX3_map 18 = .ok (.ifCond .ne 6, 3) := by decide +kernel
theorem dX3_map_21 : decode cX3_map 21 = .ok (.bipush (-2), 2) := by decide +kernel
theorem dX3_map_23 : decode cX3_map 23 = .ok (.ireturn, 1) := by decide +kernel
theorem dX3_map_24 : decode cX3_map 24 = .ok (.aload_n 0, 1) := by decide +kernel
theorem dX3_map_25 : decode cX3_map 25 = .ok (.getfield 30, 3) := by decide +kernel
theorem dX3_map_28 : decode cX3_map 28 = .ok (.iload_n 1, 1) := by decide +kernel
theorem dX3_map_29 : decode cX3_map 29 = .ok (.aaload, 1) := by decide +kernel
theorem dX3_map_30 : decode cX3_map 30 = .ok (.astore 5, 2) := by decide +kernel
theorem dX3_map_32 : decode cX3_map 32 = .ok (.aload 5, 2) := by decide +kernel
theorem dX3_map_34 : decode cX3_map 34 = .ok (.iload_n 2, 1) := by decide +kernel
theorem dX3_map_35 : decode cX3_map 35 = .ok (.invokevirtual 56, 3) := by decide +kernel
theorem dX3_map_38 : decode cX3_map 38 = .ok (.istore 6, 2) := by decide +kernel
theorem dX3_map_40 : decode cX3_map 40 = .ok (.iload 6, 2) := by decide +kernel
theorem dX3_map_42 : decode cX3_map 42 = .ok (.ifCond .ne 11, 3) := by decide +kernel
theorem dX3_map_45 : decode cX3_map 45 = .ok (.iload 4, 2) := by decide +kernel
theorem dX3_map_47 : decode cX3_map 47 = .ok (.ifCond .ge 6, 3) := by decide +kernel
theorem dX3_map_50 : decode cX3_map 50 = .ok (.iconst 4, 1) := by decide +kernel
theorem dX3_map_51 : decode cX3_map 51 = .ok (.istore 6, 2) := by decide +kernel
theorem dX3_map_53 : decode cX3_map 53 = .ok (.iload 6, 2) := by decide +kernel
theorem dX3_map_55 : decode cX3_map 55 = .ok (.ifCond .ne 17, 3) := by decide +kernel
theorem dX3_map_58 : decode cX3_map 58 = .ok (.aload 5, 2) := by decide +kernel
theorem dX3_map_60 : decode cX3_map 60 = .ok (.iload_n 3, 1) := by decide +kernel
theorem dX3_map_61 : decode cX3_map 61 = .ok (.iload 4, 2) := by decide +kernel
theorem dX3_map_63 : decode cX3_map 63 = .ok (.invokevirtual 60, 3) := by decide +kernel
theorem dX3_map_66 : decode cX3_map 66 = .ok (.ifCond .ne 6, 3) := by decide +kernel
theorem dX3_map_69 : decode cX3_map 69 = .ok (.iconst 3, 1) := by decide +kernel
theorem dX3_map_70 : decode cX3_map 70 = .ok (.istore 6, 2) := by decide +kernel
theorem dX3_map_72 : decode cX3_map 72 = .ok (.iload 6, 2) := by decide +kernel
theorem dX3_map_74 : decode cX3_map 74 = .ok (.ifCond .eq 10, 3) := by decide +kernel
theorem dX3_map_77 : decode cX3_map 77 = .ok (.aload_n 0, 1) := by decide +kernel
theorem dX3_map_78 : decode cX3_map 78 = .ok (.iload 6, 2) := by decide +kernel
theorem dX3_map_80 : decode cX3_map 80 = .ok (.invokevirtual 64, 3) := by decide +kernel
theorem dX3_map_83 : decode cX3_map 83 = .ok (.ireturn, 1) := by decide +kernel
theorem dX3_map_84 : decode cX3_map 84 = .ok (.aload_n 0, 1) := by decide +kernel
theorem dX3_map_85 : decode cX3_map 85 = .ok (.getfield 24, 3) := by decide +kernel
theorem dX3_map_88 : decode cX3_map 88 = .ok (.aload 5, 2) := by decide +kernel
theorem dX3_map_90 : decode cX3_map 90 = .ok (.getfield 67, 3) := by decide +kernel
theorem dX3_map_93 : decode cX3_map 93 = .ok (.iload_n 3, 1) := by decide +kernel
theorem dX3_map_94 : decode cX3_map 94 = .ok (.iload 4, 2) := by decide +kernel
theorem dX3_map_96 : decode cX3_map 96 = .ok (.invokevirtual 70, 3) := by decide +kernel
theorem dX3_map_99 : decode cX3_map 99 = .ok (.ifCond .ne 14, 3) := by decide +kernel
theorem dX3_map_102 : decode cX3_map 102 = .ok (.bipush (-100), 2) := by decide +kernel
theorem dX3_map_104 : decode cX3_map 104 = .ok (.aload_n 0, 1) := by decide +kernel
theorem dX3_map_105 : decode cX3_map 105 = .ok (.getfield 24, 3) := by decide +kernel
theorem dX3_map_108 : decode cX3_map 108 = .ok (.getfield 74, 3) := by decide +kernel
theorem dX3_map_111 : decode cX3_map 111 = .ok (.isub, 1) := by decide +kernel
theorem dX3_map_112 : decode cX3_map 112 = .ok (.ireturn, 1) := by decide +kernel
theorem dX3_map_113 : decode cX3_map 113 = .ok (.aload_n 0, 1) := by decide +kernel
theorem dX3_map_114 : decode cX3_map 114 = .ok (.getfield 14, 3) := by decide +kernel
theorem dX3_map_117 : decode cX3_map 117 = .ok (.aload_n 0, 1) := by decide +kernel
theorem dX3_map_118 : decode cX3_map 118 = .ok (.getfield 24, 3) := by decide +kernel
theorem dX3_map_121 : decode cX3_map 121 = .ok (.getfield 77, 3) := by decide +kernel
theorem dX3_map_124 : decode cX3_map 124 = .ok (.invokevirtual 80, 3) := by decide +kernel
theorem dX3_map_127 : decode cX3_map 127 = .ok (.aload_n 0, 1) := by decide +kernel
theorem dX3_map_128 : decode cX3_map 128 = .ok (.iconst 0, 1) := by decide +kernel
theorem dX3_map_129 : decode cX3_map 129 = .ok (.putfield 84, 3) := by decide +kernel
theorem dX3_map_132 : decode cX3_map 132 = .ok (.aload_n 0, 1) := by decide +kernel
theorem dX3_map_133 : decode cX3_map 133 = .ok (.getfield 14, 3) := by decide +kernel
theorem dX3_map_136 : decode cX3_map 136 = .ok (.getfield 87, 3) := by decide +kernel
theorem dX3_map_139 : decode cX3_map 139 = .ok (.ireturn, 1) := by decide +kernel
theorem dX3_ofArea_0 : decode cX3_ofArea 0 = .ok (.aload_n 0, 1) := by decide +kernel
theorem dX3_ofArea_1 : decode cX3_ofArea 1 = .ok (.getfield 14, 3) := by decide +kernel
theorem dX3_ofArea_4 : decode cX3_ofArea 4 = .ok (.iload_n 1, 1) := by decide +kernel
theorem dX3_ofArea_5 : decode cX3_ofArea 5 = .ok (.invokevirtual 90, 3) := by decide +kernel
theorem dX3_ofArea_8 : decode cX3_ofArea 8 = .ok (.ifCond .ne 5, 3) := by decide +kernel
theorem dX3_ofArea_11 : decode cX3_ofArea 11 = .ok (.iconst (-1), 1) := by decide +kernel
theorem dX3_ofArea_12 : decode cX3_ofArea 12 = .ok (.ireturn, 1) := by decide +kernel
theorem dX3_ofArea_13 : decode cX3_ofArea 13 = .ok (.iload_n 2, 1) := by decide +kernel
theorem dX3_ofArea_14 : decode cX3_ofArea 14 = .ok (.tableswitch 204 0 12 #[66, 76, 86, 96, 106, 116, 126, 135, 144, 153, 170, 180, 192], 66) := by decide +kernel
theorem dX3_ofArea_80 : decode cX3_ofArea 80 = .ok (.aload_n 0, 1) := by decide +kernel
theorem dX3_ofArea_81 : decode cX3_ofArea 81 = .ok (.getfield 14, 3) := by decide +kernel
theorem dX3_ofArea_84 : decode cX3_ofArea 84 = .ok (.getfield 93, 3) := by decide +kernel
theorem dX3_ofArea_87 : decode cX3_ofArea 87 = .ok (.iload_n 1, 1) := by decide +kernel
theorem dX3_ofArea_88 : decode cX3_ofArea 88 = .ok (.iaload, 1) := by decide +kernel
theorem dX3_ofArea_89 : decode cX3_ofArea 89 = .ok (.ireturn, 1) := by decide +kernel
theorem dX3_ofArea_90 : decode cX3_ofArea 90 = .ok (.aload_n 0, 1) := by decide +kernel
theorem dX3_ofArea_91 : decode cX3_ofArea 91 = .ok (.getfield 14, 3) := by decide +kernel
theorem dX3_ofArea_94 : decode cX3_ofArea 94 = .ok (.getfield 96, 3) := by decide +kernel
theorem dX3_ofArea_97 : decode cX3_ofArea 97 = .ok (.iload_n 1, 1) := by decide +kernel
theorem dX3_ofArea_98 : decode cX3_ofArea 98 = .ok (.iaload, 1) := by decide +kernel
theorem dX3_ofArea_99 : decode cX3_ofArea 99 = .ok (.ireturn, 1) := by decide +kernel
theorem dX3_ofArea_100 : decode cX3_ofArea 100 = .ok (.aload_n 0, 1) := by decide +kernel
theorem dX3_ofArea_101 : decode cX3_ofArea 101 = .ok (.getfield 14, 3) := by decide +kernel
theorem dX3_ofArea_104 : decode cX3_ofArea 104 = .ok (.getfield 99, 3) := by decide +kernel
theorem dX3_ofArea_107 : decode cX3_ofArea 107 = .ok (.iload_n 1, 1) := by decide +kernel
theorem dX3_ofArea_108 : decode cX3_ofArea 108 = .ok (.iaload, 1) := by decide +kernel
theorem dX3_ofArea_109 : decode cX3_ofArea 109 = .ok (.ireturn, 1) := by decide +kernel
theorem dX3_ofArea_110 : decode cX3_ofArea 110 = .ok (.aload_n 0, 1) := by decide +kernel
theorem dX3_ofArea_111 : decode cX3_ofArea 111 = .ok (.getfield 14, 3) := by decide +kernel
theorem dX3_ofArea_114 : decode cX3_ofArea 114 = .ok (.getfield 102, 3) := by decide +kernel
theorem dX3_ofArea_117 : decode cX3_ofArea 117 = .ok (.iload_n 1, 1) := by decide +kernel
theorem dX3_ofArea_118 : decode cX3_ofArea 118 = .ok (.iaload, 1) := by decide +kernel
theorem dX3_ofArea_119 : decode cX3_ofArea 119 = .ok (.ireturn, 1) := by decide +kernel
theorem dX3_ofArea_120 : decode cX3_ofArea 120 = .ok (.aload_n 0, 1) := by decide +kernel
theorem dX3_ofArea_121 : decode cX3_ofArea 121 = .ok (.getfield 14, 3) := by decide +kernel
theorem dX3_ofArea_124 : decode cX3_ofArea 124 = .ok (.getfield 105, 3) := by decide +kernel
theorem dX3_ofArea_127 : decode cX3_ofArea 127 = .ok (.iload_n 1, 1) := by decide +kernel
theorem dX3_ofArea_128 : decode cX3_ofArea 128 = .ok (.iaload, 1) := by decide +kernel
theorem dX3_ofArea_129 : decode cX3_ofArea 129 = .ok (.ireturn, 1) := by decide +kernel
theorem dX3_ofArea_130 : decode cX3_ofArea 130 = .ok (.aload_n 0, 1) := by decide +kernel
theorem dX3_ofArea_131 : decode cX3_ofArea 131 = .ok (.getfield 14, 3) := by decide +kernel
theorem dX3_ofArea_134 : decode cX3_ofArea 134 = .ok (.getfield 108, 3) := by decide +kernel
theorem dX3_ofArea_137 : decode cX3_ofArea 137 = .ok (.iload_n 1, 1) := by decide +kernel
theorem dX3_ofArea_138 : decode cX3_ofArea 138 = .ok (.iaload, 1) := by decide +kernel
theorem dX3_ofArea_139 : decode cX3_ofArea 139 = .ok (.ireturn, 1) := by decide +kernel
theorem dX3_ofArea_140 : decode cX3_ofArea 140 = .ok (.aload_n 0, 1) := by decide +kernel
theorem dX3_ofArea_141 : decode cX3_ofArea 141 = .ok (.getfield 14, 3) := by decide +kernel
theorem dX3_ofArea_144 : decode cX3_ofArea 144 = .ok (.iload_n 1, 1) := by decide +kernel
theorem dX3_ofArea_145 : decode cX3_ofArea 145 = .ok (.invokevirtual 111, 3) := by decide +kernel
theorem dX3_ofArea_148 : decode cX3_ofArea 148 = .ok (.ireturn, 1) := by decide +kernel
theorem dX3_ofArea_149 : decode cX3_ofArea 149 = .ok (.aload_n 0, 1) := by decide +kernel
theorem dX3_ofArea_150 : decode cX3_ofArea 150 = .ok (.getfield 14, 3) := by decide +kernel
theorem dX3_ofArea_153 : decode cX3_ofArea 153 = .ok (.iload_n 1, 1) := by decide +kernel
theorem dX3_ofArea_154 : decode cX3_ofArea 154 = .ok (.invokevirtual 114, 3) := by decide +kernel
theorem dX3_ofArea_157 : decode cX3_ofArea 157 = .ok (.ireturn, 1) := by decide +kernel
theorem dX3_ofArea_158 : decode cX3_ofArea 158 = .ok (.aload_n 0, 1) := by decide +kernel
theorem dX3_ofArea_159 : decode cX3_ofArea 159 = .ok (.getfield 14, 3) := by decide +kernel
theorem dX3_ofArea_162 : decode cX3_ofArea 162 = .ok (.iload_n 1, 1) := by decide +kernel
theorem dX3_ofArea_163 : decode cX3_ofArea 163 = .ok (.invokevirtual 117, 3) := by decide +kernel
theorem dX3_ofArea_166 : decode cX3_ofArea 166 = .ok (.ireturn, 1) := by decide +kernel
theorem dX3_ofArea_167 : decode cX3_ofArea 167 = .ok (.aload_n 0, 1) := by decide +kernel
theorem dX3_ofArea_168 : decode cX3_ofArea 168 = .ok (.getfield 14, 3) := by decide +kernel
theorem dX3_ofArea_171 : decode cX3_ofArea 171 = .ok (.iload_n 1, 1) := by decide +kernel
theorem dX3_ofArea_172 : decode cX3_ofArea 172 = .ok (.invokevirtual 120, 3) := by decide +kernel
theorem dX3_ofArea_175 : decode cX3_ofArea 175 = .ok (.ifCond .eq 7, 3) := by decide +kernel
theorem dX3_ofArea_178 : decode cX3_ofArea 178 = .ok (.iconst 1, 1) := by decide +kernel
theorem dX3_ofArea_179 : decode cX3_ofArea 179 = .ok (.goto 4, 3) := by decide +kernel
theorem dX3_ofArea_182 : decode cX3_ofArea 182 = .ok (.iconst 0, 1) := by decide +kernel
theorem dX3_ofArea_183 : decode cX3_ofArea 183 = .ok (.ireturn, 1) := by decide +kernel
theorem dX3_ofArea_184 : decode cX3_ofArea 184 = .ok (.aload_n 0, 1) := by decide +kernel
theorem dX3_ofArea_185 : decode cX3_ofArea 185 = .ok (.getfield 14, 3) := by decide +kernel
theorem dX3_ofArea_188 : decode cX3_ofArea 188 = .ok (.getfield 123, 3) := by decide +kernel
theorem dX3_ofArea_191 : decode cX3_ofArea 191 = .ok (.iload_n 1, 1) := by decide +kernel
theorem dX3_ofArea_192 : decode cX3_ofArea 192 = .ok (.iaload, 1) := by decide +kernel
theorem dX3_ofArea_193 : decode cX3_ofArea 193 = .ok (.ireturn, 1) := by decide +kernel
theorem dX3_ofArea_194 : decode cX3_ofArea 194 = .ok (.aload_n 0, 1) := by decide +kernel
theorem dX3_ofArea_195 : decode cX3_ofArea 195 = .ok (.getfield 14, 3) := by decide +kernel
theorem dX3_ofArea_198 : decode cX3_ofArea 198 = .ok (.getfield 126, 3) := by decide +kernel
theorem dX3_ofArea_201 : decode cX3_ofArea 201 = .ok (.iconst 0, 1) := by decide +kernel
theorem dX3_ofArea_202 : decode cX3_ofArea 202 = .ok (.aaload, 1) := by decide +kernel
theorem dX3_ofArea_203 : decode cX3_ofArea 203 = .ok (.iload_n 1, 1) := by decide +kernel
theorem dX3_ofArea_204 : decode cX3_ofArea 204 = .ok (.iaload, 1) := by decide +kernel
theorem dX3_ofArea_205 : decode cX3_ofArea 205 = .ok (.ireturn, 1) := by decide +kernel
theorem dX3_ofArea_206 : decode cX3_ofArea 206 = .ok (.aload_n 0, 1) := by decide +kernel
theorem dX3_ofArea_207 : decode cX3_ofArea 207 = .ok (.getfield 14, 3) := by decide +kernel
theorem dX3_ofArea_210 : decode cX3_ofArea 210 = .ok (.getfield 126, 3) := by decide +kernel
theorem dX3_ofArea_213 : decode cX3_ofArea 213 = .ok (.iconst 1, 1) := by decide +kernel
theorem dX3_ofArea_214 : decode cX3_ofArea 214 = .ok (.aaload, 1) := by decide +kernel
theorem dX3_ofArea_215 : decode cX3_ofArea 215 = .ok (.iload_n 1, 1) := by decide +kernel
theorem dX3_ofArea_216 : decode cX3_ofArea 216 = .ok (.iaload, 1) := by decide +kernel
theorem dX3_ofArea_217 : decode cX3_ofArea 217 = .ok (.ireturn, 1) := by decide +kernel
theorem dX3_ofArea_218 : decode cX3_ofArea 218 = .ok (.bipush (-2), 2) := by decide +kernel
theorem dX3_ofArea_220 : decode cX3_ofArea 220 = .ok (.ireturn, 1) := by decide +kernel
theorem dX3_width_0 : decode cX3_width 0 = .ok (.aload_n 0, 1) := by decide +kernel
theorem dX3_width_1 : decode cX3_width 1 = .ok (.getfield 14, 3) := by decide +kernel
theorem dX3_width_4 : decode cX3_width 4 = .ok (.iload_n 1, 1) := by decide +kernel
theorem dX3_width_5 : decode cX3_width 5 = .ok (.invokevirtual 90, 3) := by decide +kernel
theorem dX3_width_8 : decode cX3_width 8 = .ok (.ifCond .ne 5, 3) := by decide +kernel
theorem dX3_width_11 : decode cX3_width 11 = .ok (.iconst (-1), 1) := by decide +kernel
theorem dX3_width_12 : decode cX3_width 12 = .ok (.ireturn, 1) := by decide +kernel
theorem dX3_width_13 : decode cX3_width 13 = .ok (.iload_n 2, 1) := by decide +kernel
theorem dX3_width_14 : decode cX3_width 14 = .ok (.invokestatic 130, 3) := by decide +kernel
theorem dX3_width_17 : decode cX3_width 17 = .ok (.ifCond .ne 6, 3) := by decide +kernel
theorem dX3_width_20 : decode cX3_width 20 = .ok (.bipush (-2), 2) := by decide +kernel
theorem dX3_width_22 : decode cX3_width 22 = .ok (.ireturn, 1) := by decide +kernel
theorem dX3_width_23 : decode cX3_width 23 = .ok (.aload_n 0, 1) := by decide +kernel
theorem dX3_width_24 : decode cX3_width 24 = .ok (.getfield 14, 3) := by decide +kernel
theorem dX3_width_27 : decode cX3_width 27 = .ok (.getfield 99, 3) := by decide +kernel
theorem dX3_width_30 : decode cX3_width 30 = .ok (.iload_n 1, 1) := by decide +kernel
theorem dX3_width_31 : decode cX3_width 31 = .ok (.iaload, 1) := by decide +kernel
theorem dX3_width_32 : decode cX3_width 32 = .ok (.istore_n 3, 1) := by decide +kernel
theorem dX3_width_33 : decode cX3_width 33 = .ok (.aload_n 0, 1) := by decide +kernel
theorem dX3_width_34 : decode cX3_width 34 = .ok (.getfield 14, 3) := by decide +kernel
theorem dX3_width_37 : decode cX3_width 37 = .ok (.getfield 99, 3) := by decide +kernel
theorem dX3_width_40 : decode cX3_width 40 = .ok (.iload_n 1, 1) := by decide +kernel
theorem dX3_width_41 : decode cX3_width 41 = .ok (.iload_n 2, 1) := by decide +kernel
theorem dX3_width_42 : decode cX3_width 42 = .ok (.iastore, 1) := by decide +kernel
theorem dX3_width_43 : decode cX3_width 43 = .ok (.aload_n 0, 1) := by decide +kernel
theorem dX3_width_44 : decode cX3_width 44 = .ok (.getfield 14, 3) := by decide +kernel
theorem dX3_width_47 : decode cX3_width 47 = .ok (.invokevirtual 133, 3) := by decide +kernel
theorem dX3_width_50 : decode cX3_width 50 = .ok (.iload_n 3, 1) := by decide +kernel
theorem dX3_width_51 : decode cX3_width 51 = .ok (.ireturn, 1) := by decide +kernel
theorem dX3_plot_0 : decode cX3_plot 0 = .ok (.aload_n 0, 1) := by decide +kernel
theorem dX3_plot_1 : decode cX3_plot 1 = .ok (.getfield 14, 3) := by decide +kernel
theorem dX3_plot_4 : decode cX3_plot 4 = .ok (.iload_n 1, 1) := by decide +kernel
theorem dX3_plot_5 : decode cX3_plot 5 = .ok (.invokevirtual 90, 3) := by decide +kernel
theorem dX3_plot_8 : decode cX3_plot 8 = .ok (.ifCond .ne 5, 3) := by decide +kernel
theorem dX3_plot_11 : decode cX3_plot 11 = .ok (.iconst (-1), 1) := by decide +kernel
theorem dX3_plot_12 : decode cX3_plot 12 = .ok (.ireturn, 1) := by decide +kernel
theorem dX3_plot_13 : decode cX3_plot 13 = .ok (.iload_n 2, 1) := by decide +kernel
theorem dX3_plot_14 : decode cX3_plot 14 = .ok (.invokestatic 136, 3) := by decide +kernel
theorem dX3_plot_17 : decode cX3_plot 17 = .ok (.ifCond .ne 6, 3) := by decide +kernel
theorem dX3_plot_20 : decode cX3_plot 20 = .ok (.bipush (-2), 2) := by decide +kernel
theorem dX3_plot_22 : decode cX3_plot 22 = .ok (.ireturn, 1) := by decide +kernel
theorem dX3_plot_23 : decode cX3_plot 23 = .ok (.aload_n 0, 1) := by decide +kernel
theorem dX3_plot_24 : decode cX3_plot 24 = .ok (.getfield 14, 3) := by decide +kernel
theorem dX3_plot_27 : decode cX3_plot 27 = .ok (.getfield 96, 3) := by decide +kernel
theorem dX3_plot_30 : decode cX3_plot 30 = .ok (.iload_n 1, 1) := by decide +kernel
theorem dX3_plot_31 : decode cX3_plot 31 = .ok (.iaload, 1) := by decide +kernel
theorem dX3_plot_32 : decode cX3_plot 32 = .ok (.istore_n 3, 1) := by decide +kernel
theorem dX3_plot_33 : decode cX3_plot 33 = .ok (.aload_n 0, 1) := by decide +kernel
theorem dX3_plot_34 : decode cX3_plot 34 = .ok (.getfield 14, 3) := by decide +kernel
theorem dX3_plot_37 : decode cX3_plot 37 = .ok (.getfield 96, 3) := by decide +kernel
theorem dX3_plot_40 : decode cX3_plot 40 = .ok (.iload_n 1, 1) := by decide +kernel
theorem dX3_plot_41 : decode cX3_plot 41 = .ok (.iload_n 2, 1) := by decide +kernel
theorem dX3_plot_42 : decode cX3_plot 42 = .ok (.iastore, 1) := by decide +kernel
theorem dX3_plot_43 : decode cX3_plot 43 = .ok (.aload_n 0, 1) := by decide +kernel
theorem dX3_plot_44 : decode cX3_plot 44 = .ok (.getfield 14, 3) := by decide +kernel
theorem dX3_plot_47 : decode cX3_plot 47 = .ok (.invokevirtual 133, 3) := by decide +kernel
theorem dX3_plot_50 : decode cX3_plot 50 = .ok (.iload_n 3, 1) := by decide +kernel
theorem dX3_plot_51 : decode cX3_plot 51 = .ok (.ireturn, 1) := by decide +kernel
theorem dX3_turn_0 : decode cX3_turn 0 = .ok (.iload_n 1, 1) := by decide +kernel
theorem dX3_turn_1 : decode cX3_turn 1 = .ok (.invokestatic 139, 3) := by decide +kernel
theorem dX3_turn_4 : decode cX3_turn 4 = .ok (.ifCond .ne 6, 3) := by decide +kernel
theorem dX3_turn_7 : decode cX3_turn 7 = .ok (.bipush (-2), 2) := by decide +kernel
theorem dX3_turn_9 : decode cX3_turn 9 = .ok (.ireturn, 1) := by decide +kernel
theorem dX3_turn_10 : decode cX3_turn 10 = .ok (.aload_n 0, 1) := by decide +kernel
theorem dX3_turn_11 : decode cX3_turn 11 = .ok (.getfield 14, 3) := by decide +kernel
theorem dX3_turn_14 : decode cX3_turn 14 = .ok (.iload_n 2, 1) := by decide +kernel
theorem dX3_turn_15 : decode cX3_turn 15 = .ok (.invokevirtual 142, 3) := by decide +kernel
theorem dX3_turn_18 : decode cX3_turn 18 = .ok (.ifCond .ne 5, 3) := by decide +kernel
theorem dX3_turn_21 : decode cX3_turn 21 = .ok (.iconst (-1), 1) := by decide +kernel
theorem dX3_turn_22 : decode cX3_turn 22 = .ok (.ireturn, 1) := by decide +kernel
theorem dX3_turn_23 : decode cX3_turn 23 = .ok (.aload_n 0, 1) := by decide +kernel
theorem dX3_turn_24 : decode cX3_turn 24 = .ok (.getfield 14, 3) := by decide +kernel
theorem dX3_turn_27 : decode cX3_turn 27 = .ok (.iload_n 1, 1) := by decide +kernel
theorem dX3_turn_28 : decode cX3_turn 28 = .ok (.iload_n 2, 1) := by decide +kernel
theorem dX3_turn_29 : decode cX3_turn 29 = .ok (.invokevirtual 145, 3) := by decide +kernel
theorem dX3_turn_32 : decode cX3_turn 32 = .ok (.aload_n 0, 1) := by decide +kernel
theorem dX3_turn_33 : decode cX3_turn 33 = .ok (.getfield 14, 3) := by decide +kernel
theorem dX3_turn_36 : decode cX3_turn 36 = .ok (.invokevirtual 133, 3) := by decide +kernel
theorem dX3_turn_39 : decode cX3_turn 39 = .ok (.aload_n 0, 1) := by decide +kernel
theorem dX3_turn_40 : decode cX3_turn 40 = .ok (.getfield 14, 3) := by decide +kernel
theorem dX3_turn_43 : decode cX3_turn 43 = .ok (.getfield 149, 3) := by decide +kernel
theorem dX3_turn_46 : decode cX3_turn 46 = .ok (.iload_n 1, 1) := by decide +kernel
theorem dX3_turn_47 : decode cX3_turn 47 = .ok (.aaload, 1) := by decide +kernel
theorem dX3_turn_48 : decode cX3_turn 48 = .ok (.iload_n 2, 1) := by decide +kernel
theorem dX3_turn_49 : decode cX3_turn 49 = .ok (.iaload, 1) := by decide +kernel
theorem dX3_turn_50 : decode cX3_turn 50 = .ok (.ireturn, 1) := by decide +kernel
theorem dX3_whole_0 : decode cX3_whole 0 = .ok (.iload_n 1, 1) := by decide +kernel
theorem dX3_whole_1 : decode cX3_whole 1 = .ok (.ifCond .lt 8, 3) := by decide +kernel
theorem dX3_whole_4 : decode cX3_whole 4 = .ok (.iload_n 1, 1) := by decide +kernel
theorem dX3_whole_5 : decode cX3_whole 5 = .ok (.iconst 5, 1) := by decide +kernel
theorem dX3_whole_6 : decode cX3_whole 6 = .ok (.if_icmp .le 6, 3) := by decide +kernel
theorem dX3_whole_9 : decode cX3_whole 9 = .ok (.bipush (-2), 2) := by decide +kernel
theorem dX3_whole_11 : decode cX3_whole 11 = .ok (.ireturn, 1) := by decide +kernel
theorem dX3_whole_12 : decode cX3_whole 12 = .ok (.iload_n 1, 1) := by decide +kernel
theorem dX3_whole_13 : decode cX3_whole 13 = .ok (.iconst 5, 1) := by decide +kernel
theorem dX3_whole_14 : decode cX3_whole 14 = .ok (.if_icmp .ne 11, 3) := by decide +kernel
theorem dX3_whole_17 : decode cX3_whole 17 = .ok (.aload_n 0, 1) := by decide +kernel
theorem dX3_whole_18 : decode cX3_whole 18 = .ok (.getfield 24, 3) := by decide +kernel
theorem dX3_whole_21 : decode cX3_whole 21 = .ok (.getfield 152, 3) := by decide +kernel
theorem dX3_whole_24 : decode cX3_whole 24 = .ok (.ireturn, 1) := by decide +kernel
theorem dX3_whole_25 : decode cX3_whole 25 = .ok (.aload_n 0, 1) := by decide +kernel
theorem dX3_whole_26 : decode cX3_whole 26 = .ok (.getfield 14, 3) := by decide +kernel
theorem dX3_whole_29 : decode cX3_whole 29 = .ok (.getfield 87, 3) := by decide +kernel
theorem dX3_whole_32 : decode cX3_whole 32 = .ok (.ifCond .ne 6, 3) := by decide +kernel
theorem dX3_whole_35 : decode cX3_whole 35 = .ok (.bipush (-3), 2) := by decide +kernel
theorem dX3_whole_37 : decode cX3_whole 37 = .ok (.ireturn, 1) := by decide +kernel
theorem dX3_whole_38 : decode cX3_whole 38 = .ok (.iload_n 1, 1) := by decide +kernel
theorem dX3_whole_39 : decode cX3_whole 39 = .ok (.tableswitch 61 0 3 #[29, 37, 45, 53], 29) := by decide +kernel
theorem dX3_whole_68 : decode cX3_whole 68 = .ok (.aload_n 0, 1) := by decide +kernel
theorem dX3_whole_69 : decode cX3_whole 69 = .ok (.getfield 14, 3) := by decide +kernel
theorem dX3_whole_72 : decode cX3_whole 72 = .ok (.getfield 155, 3) := by decide +kernel
theorem dX3_whole_75 : decode cX3_whole 75 = .ok (.ireturn, 1) := by decide +kernel
theorem dX3_whole_76 : decode cX3_whole 76 = .ok (.aload_n 0, 1) := by decide +kernel
theorem dX3_whole_77 : decode cX3_whole 77 = .ok (.getfield 14, 3) := by decide +kernel
theorem dX3_whole_80 : decode cX3_whole 80 = .ok (.getfield 158, 3) := by decide +kernel
theorem dX3_whole_83 : decode cX3_whole 83 = .ok (.ireturn, 1) := by decide +kernel
theorem dX3_whole_84 : decode cX3_whole 84 = .ok (.aload_n 0, 1) := by decide +kernel
theorem dX3_whole_85 : decode cX3_whole 85 = .ok (.getfield 14, 3) := by decide +kernel
theorem dX3_whole_88 : decode cX3_whole 88 = .ok (.invokevirtual 161, 3) := by decide +kernel
theorem dX3_whole_91 : decode cX3_whole 91 = .ok (.ireturn, 1) := by decide +kernel
theorem dX3_whole_92 : decode cX3_whole 92 = .ok (.aload_n 0, 1) := by decide +kernel
theorem dX3_whole_93 : decode cX3_whole 93 = .ok (.getfield 14, 3) := by decide +kernel
theorem dX3_whole_96 : decode cX3_whole 96 = .ok (.invokevirtual 165, 3) := by decide +kernel
theorem dX3_whole_99 : decode cX3_whole 99 = .ok (.ireturn, 1) := by decide +kernel
theorem dX3_whole_100 : decode cX3_whole 100 = .ok (.aload_n 0, 1) := by decide +kernel
theorem dX3_whole_101 : decode cX3_whole 101 = .ok (.getfield 14, 3) := by decide +kernel
theorem dX3_whole_104 : decode cX3_whole 104 = .ok (.invokevirtual 168, 3) := by decide +kernel
theorem dX3_whole_107 : decode cX3_whole 107 = .ok (.ireturn, 1) := by decide +kernel
theorem dX3_squeeze_0 : decode cX3_squeeze 0 = .ok (.iload_n 1, 1) := by decide +kernel
theorem dX3_squeeze_1 : decode cX3_squeeze 1 = .ok (.iconst 1, 1) := by decide +kernel
theorem dX3_squeeze_2 : decode cX3_squeeze 2 = .ok (.if_icmp .lt 9, 3) := by decide +kernel
theorem dX3_squeeze_5 : decode cX3_squeeze 5 = .ok (.iload_n 1, 1) := by decide +kernel
theorem dX3_squeeze_6 : decode cX3_squeeze 6 = .ok (.bipush 60, 2) := by decide +kernel
theorem dX3_squeeze_8 : decode cX3_squeeze 8 = .ok (.if_icmp .le 6, 3) := by decide +kernel
theorem dX3_squeeze_11 : decode cX3_squeeze 11 = .ok (.bipush (-2), 2) := by decide +kernel
theorem dX3_squeeze_13 : decode cX3_squeeze 13 = .ok (.ireturn, 1) := by decide +kernel
theorem dX3_squeeze_14 : decode cX3_squeeze 14 = .ok (.aload_n 0, 1) := by decide +kernel
theorem dX3_squeeze_15 : decode cX3_squeeze 15 = .ok (.getfield 14, 3) := by decide +kernel
theorem dX3_squeeze_18 : decode cX3_squeeze 18 = .ok (.getfield 87, 3) := by decide +kernel
theorem dX3_squeeze_21 : decode cX3_squeeze 21 = .ok (.ifCond .ne 6, 3) := by decide +kernel
theorem dX3_squeeze_24 : decode cX3_squeeze 24 = .ok (.bipush (-3), 2) := by decide +kernel
theorem dX3_squeeze_26 : decode cX3_squeeze 26 = .ok (.ireturn, 1) := by decide +kernel
theorem dX3_squeeze_27 : decode cX3_squeeze 27 = .ok (.aload_n 0, 1) := by decide +kernel
theorem dX3_squeeze_28 : decode cX3_squeeze 28 = .ok (.getfield 18, 3) := by decide +kernel
theorem dX3_squeeze_31 : decode cX3_squeeze 31 = .ok (.aload_n 0, 1) := by decide +kernel
theorem dX3_squeeze_32 : decode cX3_squeeze 32 = .ok (.getfield 14, 3) := by decide +kernel
theorem dX3_squeeze_35 : decode cX3_squeeze 35 = .ok (.invokevirtual 80, 3) := by decide +kernel
theorem dX3_squeeze_38 : decode cX3_squeeze 38 = .ok (.iconst 0, 1) := by decide +kernel
theorem dX3_squeeze_39 : decode cX3_squeeze 39 = .ok (.istore_n 2, 1) := by decide +kernel
theorem dX3_squeeze_40 : decode cX3_squeeze 40 = .ok (.iload_n 2, 1) := by decide +kernel
theorem dX3_squeeze_41 : decode cX3_squeeze 41 = .ok (.bipush 48, 2) := by decide +kernel
theorem dX3_squeeze_43 : decode cX3_squeeze 43 = .ok (.if_icmp .gt 69, 3) := by decide +kernel
theorem dX3_squeeze_46 : decode cX3_squeeze 46 = .ok (.aload_n 0, 1) := by decide +kernel
theorem dX3_squeeze_47 : decode cX3_squeeze 47 = .ok (.getfield 18, 3) := by decide +kernel
theorem dX3_squeeze_50 : decode cX3_squeeze 50 = .ok (.getfield 155, 3) := by decide +kernel
theorem dX3_squeeze_53 : decode cX3_squeeze 53 = .ok (.iload_n 1, 1) := by decide +kernel
theorem dX3_squeeze_54 : decode cX3_squeeze 54 = .ok (.if_icmp .gt 16, 3) := by decide +kernel
theorem dX3_squeeze_57 : decode cX3_squeeze 57 = .ok (.aload_n 0, 1) := by decide +kernel
theorem dX3_squeeze_58 : decode cX3_squeeze 58 = .ok (.getfield 14, 3) := by decide +kernel
theorem dX3_squeeze_61 : decode cX3_squeeze 61 = .ok (.aload_n 0, 1) := by decide +kernel
theorem dX3_squeeze_62 : decode cX3_squeeze 62 = .ok (.getfield 18, 3) := by decide +kernel
theorem dX3_squeeze_65 : decode cX3_squeeze 65 = .ok (.invokevirtual 80, 3) := by decide +kernel
theorem dX3_squeeze_68 : decode cX3_squeeze 68 = .ok (.iload_n 2, 1) := by decide +kernel
theorem dX3_squeeze_69 : decode cX3_squeeze 69 = .ok (.ireturn, 1) := by decide +kernel
theorem dX3_squeeze_70 : decode cX3_squeeze 70 = .ok (.aload_n 0, 1) := by decide +kernel
theorem dX3_squeeze_71 : decode cX3_squeeze 71 = .ok (.getfield 18, 3) := by decide +kernel
theorem dX3_squeeze_74 : decode cX3_squeeze 74 = .ok (.invokevirtual 171, 3) := by decide +kernel
theorem dX3_squeeze_77 : decode cX3_squeeze 77 = .ok (.istore_n 3, 1) := by decide +kernel
theorem dX3_squeeze_78 : decode cX3_squeeze 78 = .ok (.iload_n 3, 1) := by decide +kernel
theorem dX3_squeeze_79 : decode cX3_squeeze 79 = .ok (.iconst (-1), 1) := by decide +kernel
theorem dX3_squeeze_80 : decode cX3_squeeze 80 = .ok (.if_icmp .ne 6, 3) := by decide +kernel
theorem dX3_squeeze_83 : decode cX3_squeeze 83 = .ok (.bipush (-9), 2) := by decide +kernel
theorem dX3_squeeze_85 : decode cX3_squeeze 85 = .ok (.ireturn, 1) := by decide +kernel
theorem dX3_squeeze_86 : decode cX3_squeeze 86 = .ok (.aload_n 0, 1) := by decide +kernel
theorem dX3_squeeze_87 : decode cX3_squeeze 87 = .ok (.getfield 18, 3) := by decide +kernel
theorem dX3_squeeze_90 : decode cX3_squeeze 90 = .ok (.getfield 99, 3) := by decide +kernel
theorem dX3_squeeze_93 : decode cX3_squeeze 93 = .ok (.iload_n 3, 1) := by decide +kernel
theorem dX3_squeeze_94 : decode cX3_squeeze 94 = .ok (.dup2, 1) := by decide +kernel
theorem dX3_squeeze_95 : decode cX3_squeeze 95 = .ok (.iaload, 1) := by decide +kernel
theorem dX3_squeeze_96 : decode cX3_squeeze 96 = .ok (.iconst 1, 1) := by decide +kernel
theorem dX3_squeeze_97 : decode cX3_squeeze 97 = .ok (.isub, 1) := by decide +kernel
theorem dX3_squeeze_98 : decode cX3_squeeze 98 = .ok (.iastore, 1) := by decide +kernel
theorem dX3_squeeze_99 : decode cX3_squeeze 99 = .ok (.aload_n 0, 1) := by decide +kernel
theorem dX3_squeeze_100 : decode cX3_squeeze 100 = .ok (.getfield 18, 3) := by decide +kernel
theorem dX3_squeeze_103 : decode cX3_squeeze 103 = .ok (.invokevirtual 133, 3) := by decide +kernel
theorem dX3_squeeze_106 : decode cX3_squeeze 106 = .ok (.iinc 2 1, 3) := by decide +kernel
theorem dX3_squeeze_109 : decode cX3_squeeze 109 = .ok (.goto (-69), 3) := by decide +kernel
theorem dX3_squeeze_112 : decode cX3_squeeze 112 = .ok (.bipush (-9), 2) := by decide +kernel
theorem dX3_squeeze_114 : decode cX3_squeeze 114 = .ok (.ireturn, 1) := by decide +kernel
theorem dX3_day_0 : decode cX3_day 0 = .ok (.aload_n 0, 1) := by decide +kernel
theorem dX3_day_1 : decode cX3_day 1 = .ok (.iconst 0, 1) := by decide +kernel
theorem dX3_day_2 : decode cX3_day 2 = .ok (.putfield 45, 3) := by decide +kernel
theorem dX3_day_5 : decode cX3_day 5 = .ok (.iload_n 1, 1) := by decide +kernel
theorem dX3_day_6 : decode cX3_day 6 = .ok (.invokestatic 49, 3) := by decide +kernel
theorem dX3_day_9 : decode cX3_day 9 = .ok (.ifCond .ne 5, 3) := by decide +kernel
theorem dX3_day_12 : decode cX3_day 12 = .ok (.iconst (-1), 1) := by decide +kernel
theorem dX3_day_13 : decode cX3_day 13 = .ok (.ireturn, 1) := by decide +kernel
theorem dX3_day_14 : decode cX3_day 14 = .ok (.iload_n 2, 1) := by decide +kernel
theorem dX3_day_15 : decode cX3_day 15 = .ok (.invokestatic 53, 3) := by decide +kernel
theorem dX3_day_18 : decode cX3_day 18 = .ok (.ifCond .eq 19, 3) := by decide +kernel
theorem dX3_day_21 : decode cX3_day 21 = .ok (.iload 4, 2) := by decide +kernel
theorem dX3_day_23 : decode cX3_day 23 = .ok (.invokestatic 174, 3) := by decide +kernel
theorem dX3_day_26 : decode cX3_day 26 = .ok (.ifCond .eq 11, 3) := by decide +kernel
theorem dX3_day_29 : decode cX3_day 29 = .ok (.iload 5, 2) := by decide +kernel
theorem dX3_day_31 : decode cX3_day 31 = .ok (.invokestatic 177, 3) := by decide +kernel
theorem dX3_day_34 : decode cX3_day 34 = .ok (.ifCond .ne 6, 3) := by decide +kernel
theorem dX3_day_37 : decode cX3_day 37 = .ok (.bipush (-2), 2) := by decide +kernel
theorem dX3_day_39 : decode cX3_day 39 = .ok (.ireturn, 1) := by decide +kernel
theorem dX3_day_40 : decode cX3_day 40 = .ok (.aload_n 0, 1) := by decide +kernel
theorem dX3_day_41 : decode cX3_day 41 = .ok (.getfield 30, 3) := by decide +kernel
theorem dX3_day_44 : decode cX3_day 44 = .ok (.iload_n 1, 1) := by decide +kernel
theorem dX3_day_45 : decode cX3_day 45 = .ok (.aaload, 1) := by decide +kernel
theorem dX3_day_46 : decode cX3_day 46 = .ok (.astore 6, 2) := by decide +kernel
theorem dX3_day_48 : decode cX3_day 48 = .ok (.aload 6, 2) := by decide +kernel
theorem dX3_day_50 : decode cX3_day 50 = .ok (.iload_n 2, 1) := by decide +kernel
theorem dX3_day_51 : decode cX3_day 51 = .ok (.iload_n 3, 1) := by decide +kernel
theorem dX3_day_52 : decode cX3_day 52 = .ok (.iconst 3, 1) := by decide +kernel
theorem dX3_day_53 : decode cX3_day 53 = .ok (.iload 4, 2) := by decide +kernel
theorem dX3_day_55 : decode cX3_day 55 = .ok (.imul, 1) := by decide +kernel
theorem dX3_day_56 : decode cX3_day 56 = .ok (.invokestatic 180, 3) := by decide +kernel
theorem dX3_day_59 : decode cX3_day 59 = .ok (.istore 7, 2) := by decide +kernel
theorem dX3_day_61 : decode cX3_day 61 = .ok (.iload 7, 2) := by decide +kernel
theorem dX3_day_63 : decode cX3_day 63 = .ok (.ifCond .eq 10, 3) := by decide +kernel
theorem dX3_day_66 : decode cX3_day 66 = .ok (.aload_n 0, 1) := by decide +kernel
theorem dX3_day_67 : decode cX3_day 67 = .ok (.iload 7, 2) := by decide +kernel
theorem dX3_day_69 : decode cX3_day 69 = .ok (.invokevirtual 64, 3) := by decide +kernel
theorem dX3_day_72 : decode cX3_day 72 = .ok (.ireturn, 1) := by decide +kernel
theorem dX3_day_73 : decode cX3_day 73 = .ok (.aload_n 0, 1) := by decide +kernel
theorem dX3_day_74 : decode cX3_day 74 = .ok (.getfield 14, 3) := by decide +kernel
theorem dX3_day_77 : decode cX3_day 77 = .ok (.getfield 87, 3) := by decide +kernel
theorem dX3_day_80 : decode cX3_day 80 = .ok (.ifCond .ne 6, 3) := by decide +kernel
theorem dX3_day_83 : decode cX3_day 83 = .ok (.bipush (-3), 2) := by decide +kernel
theorem dX3_day_85 : decode cX3_day 85 = .ok (.ireturn, 1) := by decide +kernel
theorem dX3_day_86 : decode cX3_day 86 = .ok (.aload 6, 2) := by decide +kernel
theorem dX3_day_88 : decode cX3_day 88 = .ok (.getfield 67, 3) := by decide +kernel
theorem dX3_day_91 : decode cX3_day 91 = .ok (.iload_n 3, 1) := by decide +kernel
theorem dX3_day_92 : decode cX3_day 92 = .ok (.iload 4, 2) := by decide +kernel
theorem dX3_day_94 : decode cX3_day 94 = .ok (.invokestatic 184, 3) := by decide +kernel
theorem dX3_day_97 : decode cX3_day 97 = .ok (.ifCond .ne 6, 3) := by decide +kernel
theorem dX3_day_100 : decode cX3_day 100 = .ok (.bipush (-2), 2) := by decide +kernel
theorem dX3_day_102 : decode cX3_day 102 = .ok (.ireturn, 1) := by decide +kernel
theorem dX3_day_103 : decode cX3_day 103 = .ok (.aload_n 0, 1) := by decide +kernel
theorem dX3_day_104 : decode cX3_day 104 = .ok (.aload 6, 2) := by decide +kernel
theorem dX3_day_106 : decode cX3_day 106 = .ok (.getfield 67, 3) := by decide +kernel
theorem dX3_day_109 : decode cX3_day 109 = .ok (.iload_n 3, 1) := by decide +kernel
theorem dX3_day_110 : decode cX3_day 110 = .ok (.iload 4, 2) := by decide +kernel
theorem dX3_day_112 : decode cX3_day 112 = .ok (.invokevirtual 187, 3) := by decide +kernel
theorem dX3_day_115 : decode cX3_day 115 = .ok (.istore 8, 2) := by decide +kernel
theorem dX3_day_117 : decode cX3_day 117 = .ok (.iload 5, 2) := by decide +kernel
theorem dX3_day_119 : decode cX3_day 119 = .ok (.iconst 1, 1) := by decide +kernel
theorem dX3_day_120 : decode cX3_day 120 = .ok (.if_icmp .ne 6, 3) := by decide +kernel
theorem dX3_day_123 : decode cX3_day 123 = .ok (.iload 8, 2) := by decide +kernel
theorem dX3_day_125 : decode cX3_day 125 = .ok (.ireturn, 1) := by decide +kernel
theorem dX3_day_126 : decode cX3_day 126 = .ok (.iload 8, 2) := by decide +kernel
theorem dX3_day_128 : decode cX3_day 128 = .ok (.bipush (-9), 2) := by decide +kernel
theorem dX3_day_130 : decode cX3_day 130 = .ok (.if_icmp .ne 12, 3) := by decide +kernel
theorem dX3_day_133 : decode cX3_day 133 = .ok (.aload_n 0, 1) := by decide +kernel
theorem dX3_day_134 : decode cX3_day 134 = .ok (.iload 5, 2) := by decide +kernel
theorem dX3_day_136 : decode cX3_day 136 = .ok (.invokevirtual 191, 3) := by decide +kernel
theorem dX3_day_139 : decode cX3_day 139 = .ok (.goto 8, 3) := by decide +kernel
theorem dX3_day_142 : decode cX3_day 142 = .ok (.bipush (-100), 2) := by decide +kernel
theorem dX3_day_144 : decode cX3_day 144 = .ok (.iload 8, 2) := by decide +kernel
theorem dX3_day_146 : decode cX3_day 146 = .ok (.isub, 1) := by decide +kernel
theorem dX3_day_147 : decode cX3_day 147 = .ok (.ireturn, 1) := by decide +kernel
theorem dX3_least_0 : decode cX3_least 0 = .ok (.iload_n 1, 1) := by decide +kernel
theorem dX3_least_1 : decode cX3_least 1 = .ok (.iconst (-1), 1) := by decide +kernel
theorem dX3_least_2 : decode cX3_least 2 = .ok (.if_icmp .lt 9, 3) := by decide +kernel
theorem dX3_least_5 : decode cX3_least 5 = .ok (.iload_n 1, 1) := by decide +kernel
theorem dX3_least_6 : decode cX3_least 6 = .ok (.bipush 6, 2) := by decide +kernel
theorem dX3_least_8 : decode cX3_least 8 = .ok (.if_icmp .lt 6, 3) := by decide +kernel
theorem dX3_least_11 : decode cX3_least 11 = .ok (.bipush (-2), 2) := by decide +kernel
theorem dX3_least_13 : decode cX3_least 13 = .ok (.ireturn, 1) := by decide +kernel
theorem dX3_least_14 : decode cX3_least 14 = .ok (.aload_n 0, 1) := by decide +kernel
theorem dX3_least_15 : decode cX3_least 15 = .ok (.getfield 14, 3) := by decide +kernel
theorem dX3_least_18 : decode cX3_least 18 = .ok (.getfield 87, 3) := by decide +kernel
theorem dX3_least_21 : decode cX3_least 21 = .ok (.ifCond .ne 6, 3) := by decide +kernel
theorem dX3_least_24 : decode cX3_least 24 = .ok (.bipush (-3), 2) := by decide +kernel
theorem dX3_least_26 : decode cX3_least 26 = .ok (.ireturn, 1) := by decide +kernel
theorem dX3_least_27 : decode cX3_least 27 = .ok (.aload_n 0, 1) := by decide +kernel
theorem dX3_least_28 : decode cX3_least 28 = .ok (.invokevirtual 194, 3) := by decide +kernel
theorem dX3_least_31 : decode cX3_least 31 = .ok (.istore_n 2, 1) := by decide +kernel
theorem dX3_least_32 : decode cX3_least 32 = .ok (.iload_n 1, 1) := by decide +kernel
theorem dX3_least_33 : decode cX3_least 33 = .ok (.iconst (-1), 1) := by decide +kernel
theorem dX3_least_34 : decode cX3_least 34 = .ok (.if_icmp .ne 5, 3) := by decide +kernel
theorem dX3_least_37 : decode cX3_least 37 = .ok (.iload_n 2, 1) := by decide +kernel
theorem dX3_least_38 : decode cX3_least 38 = .ok (.ireturn, 1) := by decide +kernel
theorem dX3_least_39 : decode cX3_least 39 = .ok (.iload_n 1, 1) := by decide +kernel
theorem dX3_least_40 : decode cX3_least 40 = .ok (.aload_n 0, 1) := by decide +kernel
theorem dX3_least_41 : decode cX3_least 41 = .ok (.getfield 14, 3) := by decide +kernel
theorem dX3_least_44 : decode cX3_least 44 = .ok (.getfield 87, 3) := by decide +kernel
theorem dX3_least_47 : decode cX3_least 47 = .ok (.if_icmp .ge 12, 3) := by decide +kernel
theorem dX3_least_50 : decode cX3_least 50 = .ok (.aload_n 0, 1) := by decide +kernel
theorem dX3_least_51 : decode cX3_least 51 = .ok (.getfield 34, 3) := by decide +kernel
theorem dX3_least_54 : decode cX3_least 54 = .ok (.iload_n 1, 1) := by decide +kernel
theorem dX3_least_55 : decode cX3_least 55 = .ok (.iaload, 1) := by decide +kernel
theorem dX3_least_56 : decode cX3_least 56 = .ok (.goto 5, 3) := by decide +kernel
theorem dX3_least_59 : decode cX3_least 59 = .ok (.bipush (-9), 2) := by decide +kernel
theorem dX3_least_61 : decode cX3_least 61 = .ok (.ireturn, 1) := by decide +kernel
theorem dX3_wishes_0 : decode cX3_wishes 0 = .ok (.aload_n 0, 1) := by decide +kernel
theorem dX3_wishes_1 : decode cX3_wishes 1 = .ok (.iconst 0, 1) := by decide +kernel
theorem dX3_wishes_2 : decode cX3_wishes 2 = .ok (.putfield 45, 3) := by decide +kernel
theorem dX3_wishes_5 : decode cX3_wishes 5 = .ok (.iload_n 1, 1) := by decide +kernel
theorem dX3_wishes_6 : decode cX3_wishes 6 = .ok (.invokestatic 49, 3) := by decide +kernel
theorem dX3_wishes_9 : decode cX3_wishes 9 = .ok (.ifCond .ne 5, 3) := by decide +kernel
theorem dX3_wishes_12 : decode cX3_wishes 12 = .ok (.iconst (-1), 1) := by decide +kernel
theorem dX3_wishes_13 : decode cX3_wishes 13 = .ok (.ireturn, 1) := by decide +kernel
theorem dX3_wishes_14 : decode cX3_wishes 14 = .ok (.iload_n 2, 1) := by decide +kernel
theorem dX3_wishes_15 : decode cX3_wishes 15 = .ok (.invokestatic 53, 3) := by decide +kernel
theorem dX3_wishes_18 : decode cX3_wishes 18 = .ok (.ifCond .eq 11, 3) := by decide +kernel
theorem dX3_wishes_21 : decode cX3_wishes 21 = .ok (.iload 4, 2) := by decide +kernel
theorem dX3_wishes_23 : decode cX3_wishes 23 = .ok (.invokestatic 174, 3) := by decide +kernel
theorem dX3_wishes_26 : decode cX3_wishes 26 = .ok (.ifCond .ne 6, 3) := by decide +kernel
theorem dX3_wishes_29 : decode cX3_wishes 29 = .ok (.bipush (-2), 2) := by decide +kernel
theorem dX3_wishes_31 : decode cX3_wishes 31 = .ok (.ireturn, 1) := by decide +kernel
theorem dX3_wishes_32 : decode cX3_wishes 32 = .ok (.aload_n 0, 1) := by decide +kernel
theorem dX3_wishes_33 : decode cX3_wishes 33 = .ok (.getfield 30, 3) := by decide +kernel
theorem dX3_wishes_36 : decode cX3_wishes 36 = .ok (.iload_n 1, 1) := by decide +kernel
theorem dX3_wishes_37 : decode cX3_wishes 37 = .ok (.aaload, 1) := by decide +kernel
theorem dX3_wishes_38 : decode cX3_wishes 38 = .ok (.astore 5, 2) := by decide +kernel
theorem dX3_wishes_40 : decode cX3_wishes 40 = .ok (.aload 5, 2) := by decide +kernel
theorem dX3_wishes_42 : decode cX3_wishes 42 = .ok (.iload_n 2, 1) := by decide +kernel
theorem dX3_wishes_43 : decode cX3_wishes 43 = .ok (.iload_n 3, 1) := by decide +kernel
theorem dX3_wishes_44 : decode cX3_wishes 44 = .ok (.iconst 2, 1) := by decide +kernel
theorem dX3_wishes_45 : decode cX3_wishes 45 = .ok (.iload 4, 2) := by decide +kernel
theorem dX3_wishes_47 : decode cX3_wishes 47 = .ok (.imul, 1) := by decide +kernel
theorem dX3_wishes_48 : decode cX3_wishes 48 = .ok (.invokestatic 180, 3) := by decide +kernel
theorem dX3_wishes_51 : decode cX3_wishes 51 = .ok (.istore 6, 2) := by decide +kernel
theorem dX3_wishes_53 : decode cX3_wishes 53 = .ok (.iload 6, 2) := by decide +kernel
theorem dX3_wishes_55 : decode cX3_wishes 55 = .ok (.ifCond .eq 10, 3) := by decide +kernel
theorem dX3_wishes_58 : decode cX3_wishes 58 = .ok (.aload_n 0, 1) := by decide +kernel
theorem dX3_wishes_59 : decode cX3_wishes 59 = .ok (.iload 6, 2) := by decide +kernel
theorem dX3_wishes_61 : decode cX3_wishes 61 = .ok (.invokevirtual 64, 3) := by decide +kernel
theorem dX3_wishes_64 : decode cX3_wishes 64 = .ok (.ireturn, 1) := by decide +kernel
theorem dX3_wishes_65 : decode cX3_wishes 65 = .ok (.aload_n 0, 1) := by decide +kernel
theorem dX3_wishes_66 : decode cX3_wishes 66 = .ok (.getfield 14, 3) := by decide +kernel
theorem dX3_wishes_69 : decode cX3_wishes 69 = .ok (.getfield 87, 3) := by decide +kernel
theorem dX3_wishes_72 : decode cX3_wishes 72 = .ok (.ifCond .ne 6, 3) := by decide +kernel
theorem dX3_wishes_75 : decode cX3_wishes 75 = .ok (.bipush (-3), 2) := by decide +kernel
theorem dX3_wishes_77 : decode cX3_wishes 77 = .ok (.ireturn, 1) := by decide +kernel
theorem dX3_wishes_78 : decode cX3_wishes 78 = .ok (.aload_n 0, 1) := by decide +kernel
theorem dX3_wishes_79 : decode cX3_wishes 79 = .ok (.aload 5, 2) := by decide +kernel
theorem dX3_wishes_81 : decode cX3_wishes 81 = .ok (.getfield 67, 3) := by decide +kernel
theorem dX3_wishes_84 : decode cX3_wishes 84 = .ok (.iload_n 3, 1) := by decide +kernel
theorem dX3_wishes_85 : decode cX3_wishes 85 = .ok (.iconst 2, 1) := by decide +kernel
theorem dX3_wishes_86 : decode cX3_wishes 86 = .ok (.iload 4, 2) := by decide +kernel
theorem dX3_wishes_88 : decode cX3_wishes 88 = .ok (.imul, 1) := by decide +kernel
theorem dX3_wishes_89 : decode cX3_wishes 89 = .ok (.invokevirtual 197, 3) := by decide +kernel
theorem dX3_wishes_92 : decode cX3_wishes 92 = .ok (.ifCond .ne 5, 3) := by decide +kernel
theorem dX3_wishes_95 : decode cX3_wishes 95 = .ok (.iconst (-1), 1) := by decide +kernel
theorem dX3_wishes_96 : decode cX3_wishes 96 = .ok (.ireturn, 1) := by decide +kernel
theorem dX3_wishes_97 : decode cX3_wishes 97 = .ok (.iconst 0, 1) := by decide +kernel
theorem dX3_wishes_98 : decode cX3_wishes 98 = .ok (.istore 7, 2) := by decide +kernel
theorem dX3_wishes_100 : decode cX3_wishes 100 = .ok (.iconst 0, 1) := by decide +kernel
theorem dX3_wishes_101 : decode cX3_wishes 101 = .ok (.istore 8, 2) := by decide +kernel
theorem dX3_wishes_103 : decode cX3_wishes 103 = .ok (.iload 8, 2) := by decide +kernel
theorem dX3_wishes_105 : decode cX3_wishes 105 = .ok (.iload 4, 2) := by decide +kernel
theorem dX3_wishes_107 : decode cX3_wishes 107 = .ok (.if_icmp .ge 48, 3) := by decide +kernel
theorem dX3_wishes_110 : decode cX3_wishes 110 = .ok (.aload_n 0, 1) := by decide +kernel
theorem dX3_wishes_111 : decode cX3_wishes 111 = .ok (.getfield 14, 3) := by decide +kernel
theorem dX3_wishes_114 : decode cX3_wishes 114 = .ok (.aload 5, 2) := by decide +kernel
theorem dX3_wishes_116 : decode cX3_wishes 116 = .ok (.getfield 67, 3) := by decide +kernel
theorem dX3_wishes_119 : decode cX3_wishes 119 = .ok (.iload_n 3, 1) := by decide +kernel
theorem dX3_wishes_120 : decode cX3_wishes 120 = .ok (.iconst 2, 1) := by decide +kernel
theorem dX3_wishes_121 : decode cX3_wishes 121 = .ok (.iload 8, 2) := by decide +kernel
theorem dX3_wishes_123 : decode cX3_wishes 123 = .ok (.imul, 1) := by decide +kernel
theorem dX3_wishes_124 : decode cX3_wishes 124 = .ok (.iadd, 1) := by decide +kernel
theorem dX3_wishes_125 : decode cX3_wishes 125 = .ok (.iaload, 1) := by decide +kernel
theorem dX3_wishes_126 : decode cX3_wishes 126 = .ok (.aload 5, 2) := by decide +kernel
theorem dX3_wishes_128 : decode cX3_wishes 128 = .ok (.getfield 67, 3) := by decide +kernel
theorem dX3_wishes_131 : decode cX3_wishes 131 = .ok (.iload_n 3, 1) := by decide +kernel
theorem dX3_wishes_132 : decode cX3_wishes 132 = .ok (.iconst 2, 1) := by decide +kernel
theorem dX3_wishes_133 : decode cX3_wishes 133 = .ok (.iload 8, 2) := by decide +kernel
theorem dX3_wishes_135 : decode cX3_wishes 135 = .ok (.imul, 1) := by decide +kernel
theorem dX3_wishes_136 : decode cX3_wishes 136 = .ok (.iadd, 1) := by decide +kernel
theorem dX3_wishes_137 : decode cX3_wishes 137 = .ok (.iconst 1, 1) := by decide +kernel
theorem dX3_wishes_138 : decode cX3_wishes 138 = .ok (.iadd, 1) := by decide +kernel
theorem dX3_wishes_139 : decode cX3_wishes 139 = .ok (.iaload, 1) := by decide +kernel
theorem dX3_wishes_140 : decode cX3_wishes 140 = .ok (.invokevirtual 200, 3) := by decide +kernel
theorem dX3_wishes_143 : decode cX3_wishes 143 = .ok (.ifCond .eq 6, 3) := by decide +kernel
theorem dX3_wishes_146 : decode cX3_wishes 146 = .ok (.iinc 7 1, 3) := by decide +kernel
theorem dX3_wishes_149 : decode cX3_wishes 149 = .ok (.iinc 8 1, 3) := by decide +kernel
theorem dX3_wishes_152 : decode cX3_wishes 152 = .ok (.goto (-49), 3) := by decide +kernel
theorem dX3_wishes_155 : decode cX3_wishes 155 = .ok (.iload 7, 2) := by decide +kernel
theorem dX3_wishes_157 : decode cX3_wishes 157 = .ok (.ireturn, 1) := by decide +kernel
theorem dX3_reading_0 : decode cX3_reading 0 = .ok (.aload_n 0, 1) := by decide +kernel
theorem dX3_reading_1 : decode cX3_reading 1 = .ok (.getfield 14, 3) := by decide +kernel
theorem dX3_reading_4 : decode cX3_reading 4 = .ok (.iload_n 1, 1) := by decide +kernel
theorem dX3_reading_5 : decode cX3_reading 5 = .ok (.invokevirtual 90, 3) := by decide +kernel
theorem dX3_reading_8 : decode cX3_reading 8 = .ok (.ifCond .ne 5, 3) := by decide +kernel
theorem dX3_reading_11 : decode cX3_reading 11 = .ok (.iconst (-1), 1) := by decide +kernel
theorem dX3_reading_12 : decode cX3_reading 12 = .ok (.ireturn, 1) := by decide +kernel
theorem dX3_reading_13 : decode cX3_reading 13 = .ok (.iload_n 2, 1) := by decide +kernel
theorem dX3_reading_14 : decode cX3_reading 14 = .ok (.ifCond .lt 9, 3) := by decide +kernel
theorem dX3_reading_17 : decode cX3_reading 17 = .ok (.iload_n 2, 1) := by decide +kernel
theorem dX3_reading_18 : decode cX3_reading 18 = .ok (.bipush 120, 2) := by decide +kernel
theorem dX3_reading_20 : decode cX3_reading 20 = .ok (.if_icmp .le 6, 3) := by decide +kernel
theorem dX3_reading_23 : decode cX3_reading 23 = .ok (.bipush (-2), 2) := by decide +kernel
theorem dX3_reading_25 : decode cX3_reading 25 = .ok (.ireturn, 1) := by decide +kernel
theorem dX3_reading_26 : decode cX3_reading 26 = .ok (.aload_n 0, 1) := by decide +kernel
theorem dX3_reading_27 : decode cX3_reading 27 = .ok (.getfield 84, 3) := by decide +kernel
theorem dX3_reading_30 : decode cX3_reading 30 = .ok (.bipush 8, 2) := by decide +kernel
theorem dX3_reading_32 : decode cX3_reading 32 = .ok (.if_icmp .lt 6, 3) := by decide +kernel
theorem dX3_reading_35 : decode cX3_reading 35 = .ok (.bipush (-4), 2) := by decide +kernel
theorem dX3_reading_37 : decode cX3_reading 37 = .ok (.ireturn, 1) := by decide +kernel
theorem dX3_reading_38 : decode cX3_reading 38 = .ok (.aload_n 0, 1) := by decide +kernel
theorem dX3_reading_39 : decode cX3_reading 39 = .ok (.getfield 84, 3) := by decide +kernel
theorem dX3_reading_42 : decode cX3_reading 42 = .ok (.istore_n 3, 1) := by decide +kernel
theorem dX3_reading_43 : decode cX3_reading 43 = .ok (.aload_n 0, 1) := by decide +kernel
theorem dX3_reading_44 : decode cX3_reading 44 = .ok (.getfield 38, 3) := by decide +kernel
theorem dX3_reading_47 : decode cX3_reading 47 = .ok (.iload_n 3, 1) := by decide +kernel
theorem dX3_reading_48 : decode cX3_reading 48 = .ok (.iload_n 1, 1) := by decide +kernel
theorem dX3_reading_49 : decode cX3_reading 49 = .ok (.iastore, 1) := by decide +kernel
theorem dX3_reading_50 : decode cX3_reading 50 = .ok (.aload_n 0, 1) := by decide +kernel
theorem dX3_reading_51 : decode cX3_reading 51 = .ok (.getfield 41, 3) := by decide +kernel
theorem dX3_reading_54 : decode cX3_reading 54 = .ok (.iload_n 3, 1) := by decide +kernel
theorem dX3_reading_55 : decode cX3_reading 55 = .ok (.iload_n 2, 1) := by decide +kernel
theorem dX3_reading_56 : decode cX3_reading 56 = .ok (.iastore, 1) := by decide +kernel
theorem dX3_reading_57 : decode cX3_reading 57 = .ok (.aload_n 0, 1) := by decide +kernel
theorem dX3_reading_58 : decode cX3_reading 58 = .ok (.iload_n 3, 1) := by decide +kernel
theorem dX3_reading_59 : decode cX3_reading 59 = .ok (.iconst 1, 1) := by decide +kernel
theorem dX3_reading_60 : decode cX3_reading 60 = .ok (.iadd, 1) := by decide +kernel
theorem dX3_reading_61 : decode cX3_reading 61 = .ok (.putfield 84, 3) := by decide +kernel
theorem dX3_reading_64 : decode cX3_reading 64 = .ok (.iload_n 3, 1) := by decide +kernel
theorem dX3_reading_65 : decode cX3_reading 65 = .ok (.ireturn, 1) := by decide +kernel
theorem dX3_back_0 : decode cX3_back 0 = .ok (.iload_n 1, 1) := by decide +kernel
theorem dX3_back_1 : decode cX3_back 1 = .ok (.ifCond .lt 11, 3) := by decide +kernel
theorem dX3_back_4 : decode cX3_back 4 = .ok (.iload_n 1, 1) := by decide +kernel
theorem dX3_back_5 : decode cX3_back 5 = .ok (.aload_n 0, 1) := by decide +kernel
theorem dX3_back_6 : decode cX3_back 6 = .ok (.getfield 84, 3) := by decide +kernel
theorem dX3_back_9 : decode cX3_back 9 = .ok (.if_icmp .le 6, 3) := by decide +kernel
theorem dX3_back_12 : decode cX3_back 12 = .ok (.bipush (-2), 2) := by decide +kernel
theorem dX3_back_14 : decode cX3_back 14 = .ok (.ireturn, 1) := by decide +kernel
theorem dX3_back_15 : decode cX3_back 15 = .ok (.aload_n 0, 1) := by decide +kernel
theorem dX3_back_16 : decode cX3_back 16 = .ok (.dup, 1) := by decide +kernel
theorem dX3_back_17 : decode cX3_back 17 = .ok (.getfield 84, 3) := by decide +kernel
theorem dX3_back_20 : decode cX3_back 20 = .ok (.iload_n 1, 1) := by decide +kernel
theorem dX3_back_21 : decode cX3_back 21 = .ok (.isub, 1) := by decide +kernel
theorem dX3_back_22 : decode cX3_back 22 = .ok (.putfield 84, 3) := by decide +kernel
theorem dX3_back_25 : decode cX3_back 25 = .ok (.aload_n 0, 1) := by decide +kernel
theorem dX3_back_26 : decode cX3_back 26 = .ok (.getfield 84, 3) := by decide +kernel
theorem dX3_back_29 : decode cX3_back 29 = .ok (.ireturn, 1) := by decide +kernel
theorem dX3_kinds_0 : decode cX3_kinds 0 = .ok (.aload_n 0, 1) := by decide +kernel
theorem dX3_kinds_1 : decode cX3_kinds 1 = .ok (.getfield 14, 3) := by decide +kernel
theorem dX3_kinds_4 : decode cX3_kinds 4 = .ok (.iload_n 1, 1) := by decide +kernel
theorem dX3_kinds_5 : decode cX3_kinds 5 = .ok (.invokevirtual 90, 3) := by decide +kernel
theorem dX3_kinds_8 : decode cX3_kinds 8 = .ok (.ifCond .ne 5, 3) := by decide +kernel
theorem dX3_kinds_11 : decode cX3_kinds 11 = .ok (.iconst (-1), 1) := by decide +kernel
theorem dX3_kinds_12 : decode cX3_kinds 12 = .ok (.ireturn, 1) := by decide +kernel
theorem dX3_kinds_13 : decode cX3_kinds 13 = .ok (.aload_n 0, 1) := by decide +kernel
theorem dX3_kinds_14 : decode cX3_kinds 14 = .ok (.getfield 18, 3) := by decide +kernel
theorem dX3_kinds_17 : decode cX3_kinds 17 = .ok (.aload_n 0, 1) := by decide +kernel
theorem dX3_kinds_18 : decode cX3_kinds 18 = .ok (.getfield 14, 3) := by decide +kernel
theorem dX3_kinds_21 : decode cX3_kinds 21 = .ok (.invokevirtual 80, 3) := by decide +kernel
theorem dX3_kinds_24 : decode cX3_kinds 24 = .ok (.iconst 0, 1) := by decide +kernel
theorem dX3_kinds_25 : decode cX3_kinds 25 = .ok (.istore_n 2, 1) := by decide +kernel
theorem dX3_kinds_26 : decode cX3_kinds 26 = .ok (.iconst 0, 1) := by decide +kernel
theorem dX3_kinds_27 : decode cX3_kinds 27 = .ok (.istore_n 3, 1) := by decide +kernel
theorem dX3_kinds_28 : decode cX3_kinds 28 = .ok (.iload_n 3, 1) := by decide +kernel
theorem dX3_kinds_29 : decode cX3_kinds 29 = .ok (.iconst 2, 1) := by decide +kernel
theorem dX3_kinds_30 : decode cX3_kinds 30 = .ok (.if_icmp .gt 39, 3) := by decide +kernel
theorem dX3_kinds_33 : decode cX3_kinds 33 = .ok (.aload_n 0, 1) := by decide +kernel
theorem dX3_kinds_34 : decode cX3_kinds 34 = .ok (.getfield 18, 3) := by decide +kernel
theorem dX3_kinds_37 : decode cX3_kinds 37 = .ok (.getfield 93, 3) := by decide +kernel
theorem dX3_kinds_40 : decode cX3_kinds 40 = .ok (.iload_n 1, 1) := by decide +kernel
theorem dX3_kinds_41 : decode cX3_kinds 41 = .ok (.iload_n 3, 1) := by decide +kernel
theorem dX3_kinds_42 : decode cX3_kinds 42 = .ok (.iastore, 1) := by decide +kernel
theorem dX3_kinds_43 : decode cX3_kinds 43 = .ok (.aload_n 0, 1) := by decide +kernel
theorem dX3_kinds_44 : decode cX3_kinds 44 = .ok (.getfield 18, 3) := by decide +kernel
theorem dX3_kinds_47 : decode cX3_kinds 47 = .ok (.invokevirtual 133, 3) := by decide +kernel
theorem dX3_kinds_50 : decode cX3_kinds 50 = .ok (.aload_n 0, 1) := by decide +kernel
theorem dX3_kinds_51 : decode cX3_kinds 51 = .ok (.invokevirtual 203, 3) := by decide +kernel
theorem dX3_kinds_54 : decode cX3_kinds 54 = .ok (.ifCond .eq 9, 3) := by decide +kernel
theorem dX3_kinds_57 : decode cX3_kinds 57 = .ok (.iload_n 2, 1) := by decide +kernel
theorem dX3_kinds_58 : decode cX3_kinds 58 = .ok (.iconst 1, 1) := by decide +kernel
theorem dX3_kinds_59 : decode cX3_kinds 59 = .ok (.iload_n 3, 1) := by decide +kernel
theorem dX3_kinds_60 : decode cX3_kinds 60 = .ok (.ishl, 1) := by decide +kernel
theorem dX3_kinds_61 : decode cX3_kinds 61 = .ok (.ior, 1) := by decide +kernel
theorem dX3_kinds_62 : decode cX3_kinds 62 = .ok (.istore_n 2, 1) := by decide +kernel
theorem dX3_kinds_63 : decode cX3_kinds 63 = .ok (.iinc 3 1, 3) := by decide +kernel
theorem dX3_kinds_66 : decode cX3_kinds 66 = .ok (.goto (-38), 3) := by decide +kernel
theorem dX3_kinds_69 : decode cX3_kinds 69 = .ok (.iload_n 2, 1) := by decide +kernel
theorem dX3_kinds_70 : decode cX3_kinds 70 = .ok (.ireturn, 1) := by decide +kernel
theorem dX3_widths_0 : decode cX3_widths 0 = .ok (.aload_n 0, 1) := by decide +kernel
theorem dX3_widths_1 : decode cX3_widths 1 = .ok (.getfield 14, 3) := by decide +kernel
theorem dX3_widths_4 : decode cX3_widths 4 = .ok (.iload_n 1, 1) := by decide +kernel
theorem dX3_widths_5 : decode cX3_widths 5 = .ok (.invokevirtual 90, 3) := by decide +kernel
theorem dX3_widths_8 : decode cX3_widths 8 = .ok (.ifCond .ne 5, 3) := by decide +kernel
theorem dX3_widths_11 : decode cX3_widths 11 = .ok (.iconst (-1), 1) := by decide +kernel
theorem dX3_widths_12 : decode cX3_widths 12 = .ok (.ireturn, 1) := by decide +kernel
theorem dX3_widths_13 : decode cX3_widths 13 = .ok (.aload_n 0, 1) := by decide +kernel
theorem dX3_widths_14 : decode cX3_widths 14 = .ok (.getfield 18, 3) := by decide +kernel
theorem dX3_widths_17 : decode cX3_widths 17 = .ok (.aload_n 0, 1) := by decide +kernel
theorem dX3_widths_18 : decode cX3_widths 18 = .ok (.getfield 14, 3) := by decide +kernel
theorem dX3_widths_21 : decode cX3_widths 21 = .ok (.invokevirtual 80, 3) := by decide +kernel
theorem dX3_widths_24 : decode cX3_widths 24 = .ok (.iconst 0, 1) := by decide +kernel
theorem dX3_widths_25 : decode cX3_widths 25 = .ok (.istore_n 2, 1) := by decide +kernel
theorem dX3_widths_26 : decode cX3_widths 26 = .ok (.iconst 1, 1) := by decide +kernel
theorem dX3_widths_27 : decode cX3_widths 27 = .ok (.istore_n 3, 1) := by decide +kernel
theorem dX3_widths_28 : decode cX3_widths 28 = .ok (.iload_n 3, 1) := by decide +kernel
theorem dX3_widths_29 : decode cX3_widths 29 = .ok (.bipush 9, 2) := by decide +kernel
theorem dX3_widths_31 : decode cX3_widths 31 = .ok (.if_icmp .gt 39, 3) := by decide +kernel
theorem dX3_widths_34 : decode cX3_widths 34 = .ok (.aload_n 0, 1) := by decide +kernel
theorem dX3_widths_35 : decode cX3_widths 35 = .ok (.getfield 18, 3) := by decide +kernel
theorem dX3_widths_38 : decode cX3_widths 38 = .ok (.getfield 99, 3) := by decide +kernel
theorem dX3_widths_41 : decode cX3_widths 41 = .ok (.iload_n 1, 1) := by decide +kernel
theorem dX3_widths_42 : decode cX3_widths 42 = .ok (.iload_n 3, 1) := by decide +kernel
theorem dX3_widths_43 : decode cX3_widths 43 = .ok (.iastore, 1) := by decide +kernel
theorem dX3_widths_44 : decode cX3_widths 44 = .ok (.aload_n 0, 1) := by decide +kernel
theorem dX3_widths_45 : decode cX3_widths 45 = .ok (.getfield 18, 3) := by decide +kernel
theorem dX3_widths_48 : decode cX3_widths 48 = .ok (.invokevirtual 133, 3) := by decide +kernel
theorem dX3_widths_51 : decode cX3_widths 51 = .ok (.aload_n 0, 1) := by decide +kernel
theorem dX3_widths_52 : decode cX3_widths 52 = .ok (.invokevirtual 203, 3) := by decide +kernel
theorem dX3_widths_55 : decode cX3_widths 55 = .ok (.ifCond .eq 9, 3) := by decide +kernel
theorem dX3_widths_58 : decode cX3_widths 58 = .ok (.iload_n 2, 1) := by decide +kernel
theorem dX3_widths_59 : decode cX3_widths 59 = .ok (.iconst 1, 1) := by decide +kernel
theorem dX3_widths_60 : decode cX3_widths 60 = .ok (.iload_n 3, 1) := by decide +kernel
theorem dX3_widths_61 : decode cX3_widths 61 = .ok (.ishl, 1) := by decide +kernel
theorem dX3_widths_62 : decode cX3_widths 62 = .ok (.ior, 1) := by decide +kernel
theorem dX3_widths_63 : decode cX3_widths 63 = .ok (.istore_n 2, 1) := by decide +kernel
theorem dX3_widths_64 : decode cX3_widths 64 = .ok (.iinc 3 1, 3) := by decide +kernel
theorem dX3_widths_67 : decode cX3_widths 67 = .ok (.goto (-39), 3) := by decide +kernel
theorem dX3_widths_70 : decode cX3_widths 70 = .ok (.iload_n 2, 1) := by decide +kernel
theorem dX3_widths_71 : decode cX3_widths 71 = .ok (.ireturn, 1) := by decide +kernel
theorem dX3_odds_0 : decode cX3_odds 0 = .ok (.iload_n 1, 1) := by decide +kernel
theorem dX3_odds_1 : decode cX3_odds 1 = .ok (.ifCond .lt 19, 3) := by decide +kernel
theorem dX3_odds_4 : decode cX3_odds 4 = .ok (.iload_n 1, 1) := by decide +kernel
theorem dX3_odds_5 : decode cX3_odds 5 = .ok (.sipush 9999, 3) := by decide +kernel
theorem dX3_odds_8 : decode cX3_odds 8 = .ok (.if_icmp .gt 12, 3) := by decide +kernel
theorem dX3_odds_11 : decode cX3_odds 11 = .ok (.iload_n 2, 1) := by decide +kernel
theorem dX3_odds_12 : decode cX3_odds 12 = .ok (.ifCond .lt 8, 3) := by decide +kernel
theorem dX3_odds_15 : decode cX3_odds 15 = .ok (.iload_n 2, 1) := by decide +kernel
theorem dX3_odds_16 : decode cX3_odds 16 = .ok (.iconst 1, 1) := by decide +kernel
theorem dX3_odds_17 : decode cX3_odds 17 = .ok (.if_icmp .le 7, 3) := by decide +kernel
theorem dX3_odds_20 : decode cX3_odds 20 = .ok (.ldc2_w 207, 3) := by decide +kernel
theorem dX3_odds_23 : decode cX3_odds 23 = .ok (.lreturn, 1) := by decide +kernel
theorem dX3_odds_24 : decode cX3_odds 24 = .ok (.aload_n 0, 1) := by decide +kernel
theorem dX3_odds_25 : decode cX3_odds 25 = .ok (.getfield 14, 3) := by decide +kernel
theorem dX3_odds_28 : decode cX3_odds 28 = .ok (.getfield 87, 3) := by decide +kernel
theorem dX3_odds_31 : decode cX3_odds 31 = .ok (.ifCond .ne 7, 3) := by decide +kernel
theorem dX3_odds_34 : decode cX3_odds 34 = .ok (.ldc2_w 207, 3) := by decide +kernel
theorem dX3_odds_37 : decode cX3_odds 37 = .ok (.lreturn, 1) := by decide +kernel
theorem dX3_odds_38 : decode cX3_odds 38 = .ok (.getstatic 209, 3) := by decide +kernel
theorem dX3_odds_41 : decode cX3_odds 41 = .ok (.aload_n 0, 1) := by decide +kernel
theorem dX3_odds_42 : decode cX3_odds 42 = .ok (.getfield 14, 3) := by decide +kernel
theorem dX3_odds_45 : decode cX3_odds 45 = .ok (.getfield 87, 3) := by decide +kernel
theorem dX3_odds_48 : decode cX3_odds 48 = .ok (.iaload, 1) := by decide +kernel
theorem dX3_odds_49 : decode cX3_odds 49 = .ok (.istore_n 3, 1) := by decide +kernel
theorem dX3_odds_50 : decode cX3_odds 50 = .ok (.aload_n 0, 1) := by decide +kernel
theorem dX3_odds_51 : decode cX3_odds 51 = .ok (.iload_n 1, 1) := by decide +kernel
theorem dX3_odds_52 : decode cX3_odds 52 = .ok (.invokevirtual 212, 3) := by decide +kernel
theorem dX3_odds_55 : decode cX3_odds 55 = .ok (.istore 4, 2) := by decide +kernel
theorem dX3_odds_57 : decode cX3_odds 57 = .ok (.iload 4, 2) := by decide +kernel
theorem dX3_odds_59 : decode cX3_odds 59 = .ok (.iload_n 3, 1) := by decide +kernel
theorem dX3_odds_60 : decode cX3_odds 60 = .ok (.invokestatic 215, 3) := by decide +kernel
theorem dX3_odds_63 : decode cX3_odds 63 = .ok (.istore 5, 2) := by decide +kernel
theorem dX3_odds_65 : decode cX3_odds 65 = .ok (.iload 5, 2) := by decide +kernel
theorem dX3_odds_67 : decode cX3_odds 67 = .ok (.iconst 1, 1) := by decide +kernel
theorem dX3_odds_68 : decode cX3_odds 68 = .ok (.if_icmp .ge 7, 3) := by decide +kernel
theorem dX3_odds_71 : decode cX3_odds 71 = .ok (.ldc2_w 207, 3) := by decide +kernel
theorem dX3_odds_74 : decode cX3_odds 74 = .ok (.lreturn, 1) := by decide +kernel
theorem dX3_odds_75 : decode cX3_odds 75 = .ok (.iload_n 2, 1) := by decide +kernel
theorem dX3_odds_76 : decode cX3_odds 76 = .ok (.ifCond .ne 12, 3) := by decide +kernel
theorem dX3_odds_79 : decode cX3_odds 79 = .ok (.iload 4, 2) := by decide +kernel
theorem dX3_odds_81 : decode cX3_odds 81 = .ok (.iload 5, 2) := by decide +kernel
theorem dX3_odds_83 : decode cX3_odds 83 = .ok (.idiv, 1) := by decide +kernel
theorem dX3_odds_84 : decode cX3_odds 84 = .ok (.i2l, 1) := by decide +kernel
theorem dX3_odds_85 : decode cX3_odds 85 = .ok (.goto 8, 3) := by decide +kernel
theorem dX3_odds_88 : decode cX3_odds 88 = .ok (.iload_n 3, 1) := by decide +kernel
theorem dX3_odds_89 : decode cX3_odds 89 = .ok (.iload 5, 2) := by decide +kernel
theorem dX3_odds_91 : decode cX3_odds 91 = .ok (.idiv, 1) := by decide +kernel
theorem dX3_odds_92 : decode cX3_odds 92 = .ok (.i2l, 1) := by decide +kernel
theorem dX3_odds_93 : decode cX3_odds 93 = .ok (.lreturn, 1) := by decide +kernel
theorem dX3_sheet_0 : decode cX3_sheet 0 = .ok (.aload_n 0, 1) := by decide +kernel
theorem dX3_sheet_1 : decode cX3_sheet 1 = .ok (.iconst 0, 1) := by decide +kernel
theorem dX3_sheet_2 : decode cX3_sheet 2 = .ok (.putfield 45, 3) := by decide +kernel
theorem dX3_sheet_5 : decode cX3_sheet 5 = .ok (.iload_n 1, 1) := by decide +kernel
theorem dX3_sheet_6 : decode cX3_sheet 6 = .ok (.invokestatic 49, 3) := by decide +kernel
theorem dX3_sheet_9 : decode cX3_sheet 9 = .ok (.ifCond .ne 5, 3) := by decide +kernel
theorem dX3_sheet_12 : decode cX3_sheet 12 = .ok (.iconst (-1), 1) := by decide +kernel
theorem dX3_sheet_13 : decode cX3_sheet 13 = .ok (.ireturn, 1) := by decide +kernel
theorem dX3_sheet_14 : decode cX3_sheet 14 = .ok (.iload_n 2, 1) := by decide +kernel
theorem dX3_sheet_15 : decode cX3_sheet 15 = .ok (.invokestatic 53, 3) := by decide +kernel
theorem dX3_sheet_18 : decode cX3_sheet 18 = .ok (.ifCond .eq 9, 3) := by decide +kernel
theorem dX3_sheet_21 : decode cX3_sheet 21 = .ok (.iload_n 3, 1) := by decide +kernel
theorem dX3_sheet_22 : decode cX3_sheet 22 = .ok (.bipush 60, 2) := by decide +kernel
theorem dX3_sheet_24 : decode cX3_sheet 24 = .ok (.if_icmp .le 6, 3) := by decide +kernel
theorem dX3_sheet_27 : decode cX3_sheet 27 = .ok (.bipush (-2), 2) := by decide +kernel
theorem dX3_sheet_29 : decode cX3_sheet 29 = .ok (.ireturn, 1) := by decide +kernel
theorem dX3_sheet_30 : decode cX3_sheet 30 = .ok (.iload_n 3, 1) := by decide +kernel
theorem dX3_sheet_31 : decode cX3_sheet 31 = .ok (.ifCond .ge 9, 3) := by decide +kernel
theorem dX3_sheet_34 : decode cX3_sheet 34 = .ok (.aload_n 0, 1) := by decide +kernel
theorem dX3_sheet_35 : decode cX3_sheet 35 = .ok (.iconst 4, 1) := by decide +kernel
theorem dX3_sheet_36 : decode cX3_sheet 36 = .ok (.invokevirtual 64, 3) := by decide +kernel
theorem dX3_sheet_39 : decode cX3_sheet 39 = .ok (.ireturn, 1) := by decide +kernel
theorem dX3_sheet_40 : decode cX3_sheet 40 = .ok (.aload_n 0, 1) := by decide +kernel
theorem dX3_sheet_41 : decode cX3_sheet 41 = .ok (.getfield 30, 3) := by decide +kernel
theorem dX3_sheet_44 : decode cX3_sheet 44 = .ok (.iload_n 1, 1) := by decide +kernel
theorem dX3_sheet_45 : decode cX3_sheet 45 = .ok (.aaload, 1) := by decide +kernel
theorem dX3_sheet_46 : decode cX3_sheet 46 = .ok (.iload_n 2, 1) := by decide +kernel
theorem dX3_sheet_47 : decode cX3_sheet 47 = .ok (.iload_n 3, 1) := by decide +kernel
theorem dX3_sheet_48 : decode cX3_sheet 48 = .ok (.invokevirtual 219, 3) := by decide +kernel
theorem dX3_sheet_51 : decode cX3_sheet 51 = .ok (.iconst 1, 1) := by decide +kernel
theorem dX3_sheet_52 : decode cX3_sheet 52 = .ok (.ireturn, 1) := by decide +kernel
theorem dX3_lose_0 : decode cX3_lose 0 = .ok (.iload_n 1, 1) := by decide +kernel
theorem dX3_lose_1 : decode cX3_lose 1 = .ok (.invokestatic 49, 3) := by decide +kernel
theorem dX3_lose_4 : decode cX3_lose 4 = .ok (.ifCond .ne 5, 3) := by decide +kernel
theorem dX3_lose_7 : decode cX3_lose 7 = .ok (.iconst (-1), 1) := by decide +kernel
theorem dX3_lose_8 : decode cX3_lose 8 = .ok (.ireturn, 1) := by decide +kernel
theorem dX3_lose_9 : decode cX3_lose 9 = .ok (.aload_n 0, 1) := by decide +kernel
theorem dX3_lose_10 : decode cX3_lose 10 = .ok (.getfield 30, 3) := by decide +kernel
theorem dX3_lose_13 : decode cX3_lose 13 = .ok (.iload_n 1, 1) := by decide +kernel
theorem dX3_lose_14 : decode cX3_lose 14 = .ok (.aaload, 1) := by decide +kernel
theorem dX3_lose_15 : decode cX3_lose 15 = .ok (.getfield 222, 3) := by decide +kernel
theorem dX3_lose_18 : decode cX3_lose 18 = .ok (.istore_n 2, 1) := by decide +kernel
theorem dX3_lose_19 : decode cX3_lose 19 = .ok (.aload_n 0, 1) := by decide +kernel
theorem dX3_lose_20 : decode cX3_lose 20 = .ok (.getfield 30, 3) := by decide +kernel
theorem dX3_lose_23 : decode cX3_lose 23 = .ok (.iload_n 1, 1) := by decide +kernel
theorem dX3_lose_24 : decode cX3_lose 24 = .ok (.aaload, 1) := by decide +kernel
theorem dX3_lose_25 : decode cX3_lose 25 = .ok (.iconst 0, 1) := by decide +kernel
theorem dX3_lose_26 : decode cX3_lose 26 = .ok (.putfield 222, 3) := by decide +kernel
theorem dX3_lose_29 : decode cX3_lose 29 = .ok (.iload_n 2, 1) := by decide +kernel
theorem dX3_lose_30 : decode cX3_lose 30 = .ok (.ifCond .eq 7, 3) := by decide +kernel
theorem dX3_lose_33 : decode cX3_lose 33 = .ok (.iconst 1, 1) := by decide +kernel
theorem dX3_lose_34 : decode cX3_lose 34 = .ok (.goto 4, 3) := by decide +kernel
theorem dX3_lose_37 : decode cX3_lose 37 = .ok (.iconst 0, 1) := by decide +kernel
theorem dX3_lose_38 : decode cX3_lose 38 = .ok (.ireturn, 1) := by decide +kernel
theorem dX3_put_0 : decode cX3_put 0 = .ok (.aload_n 0, 1) := by decide +kernel
theorem dX3_put_1 : decode cX3_put 1 = .ok (.iconst 0, 1) := by decide +kernel
theorem dX3_put_2 : decode cX3_put 2 = .ok (.putfield 45, 3) := by decide +kernel
theorem dX3_put_5 : decode cX3_put 5 = .ok (.iload_n 1, 1) := by decide +kernel
theorem dX3_put_6 : decode cX3_put 6 = .ok (.invokestatic 49, 3) := by decide +kernel
theorem dX3_put_9 : decode cX3_put 9 = .ok (.ifCond .ne 5, 3) := by decide +kernel
theorem dX3_put_12 : decode cX3_put 12 = .ok (.iconst (-1), 1) := by decide +kernel
theorem dX3_put_13 : decode cX3_put 13 = .ok (.ireturn, 1) := by decide +kernel
theorem dX3_put_14 : decode cX3_put 14 = .ok (.aload_n 0, 1) := by decide +kernel
theorem dX3_put_15 : decode cX3_put 15 = .ok (.getfield 30, 3) := by decide +kernel
theorem dX3_put_18 : decode cX3_put 18 = .ok (.iload_n 1, 1) := by decide +kernel
theorem dX3_put_19 : decode cX3_put 19 = .ok (.aaload, 1) := by decide +kernel
theorem dX3_put_20 : decode cX3_put 20 = .ok (.astore 4, 2) := by decide +kernel
theorem dX3_put_22 : decode cX3_put 22 = .ok (.aload 4, 2) := by decide +kernel
theorem dX3_put_24 : decode cX3_put 24 = .ok (.getfield 222, 3) := by decide +kernel
theorem dX3_put_27 : decode cX3_put 27 = .ok (.ifCond .ne 9, 3) := by decide +kernel
theorem dX3_put_30 : decode cX3_put 30 = .ok (.aload_n 0, 1) := by decide +kernel
theorem dX3_put_31 : decode cX3_put 31 = .ok (.iconst 1, 1) := by decide +kernel
theorem dX3_put_32 : decode cX3_put 32 = .ok (.invokevirtual 64, 3) := by decide +kernel
theorem dX3_put_35 : decode cX3_put 35 = .ok (.ireturn, 1) := by decide +kernel
theorem dX3_put_36 : decode cX3_put 36 = .ok (.aload 4, 2) := by decide +kernel
theorem dX3_put_38 : decode cX3_put 38 = .ok (.iload_n 2, 1) := by decide +kernel
theorem dX3_put_39 : decode cX3_put 39 = .ok (.invokevirtual 226, 3) := by decide +kernel
theorem dX3_put_42 : decode cX3_put 42 = .ok (.ifCond .ne 9, 3) := by decide +kernel
theorem dX3_put_45 : decode cX3_put 45 = .ok (.aload_n 0, 1) := by decide +kernel
theorem dX3_put_46 : decode cX3_put 46 = .ok (.iconst 3, 1) := by decide +kernel
theorem dX3_put_47 : decode cX3_put 47 = .ok (.invokevirtual 64, 3) := by decide +kernel
theorem dX3_put_50 : decode cX3_put 50 = .ok (.ireturn, 1) := by decide +kernel
theorem dX3_put_51 : decode cX3_put 51 = .ok (.aload 4, 2) := by decide +kernel
theorem dX3_put_53 : decode cX3_put 53 = .ok (.getfield 67, 3) := by decide +kernel
theorem dX3_put_56 : decode cX3_put 56 = .ok (.iload_n 2, 1) := by decide +kernel
theorem dX3_put_57 : decode cX3_put 57 = .ok (.aload 4, 2) := by decide +kernel
theorem dX3_put_59 : decode cX3_put 59 = .ok (.getfield 229, 3) := by decide +kernel
theorem dX3_put_62 : decode cX3_put 62 = .ok (.iload_n 3, 1) := by decide +kernel
theorem dX3_put_63 : decode cX3_put 63 = .ok (.invokestatic 232, 3) := by decide +kernel
theorem dX3_put_66 : decode cX3_put 66 = .ok (.iastore, 1) := by decide +kernel
theorem dX3_put_67 : decode cX3_put 67 = .ok (.iconst 1, 1) := by decide +kernel
theorem dX3_put_68 : decode cX3_put 68 = .ok (.ireturn, 1) := by decide +kernel
theorem dX3_cell_0 : decode cX3_cell 0 = .ok (.aload_n 0, 1) := by decide +kernel
theorem dX3_cell_1 : decode cX3_cell 1 = .ok (.iconst 0, 1) := by decide +kernel
theorem dX3_cell_2 : decode cX3_cell 2 = .ok (.putfield 45, 3) := by decide +kernel
theorem dX3_cell_5 : decode cX3_cell 5 = .ok (.iload_n 1, 1) := by decide +kernel
theorem dX3_cell_6 : decode cX3_cell 6 = .ok (.invokestatic 49, 3) := by decide +kernel
theorem dX3_cell_9 : decode cX3_cell 9 = .ok (.ifCond .eq 10, 3) := by decide +kernel
theorem dX3_cell_12 : decode cX3_cell 12 = .ok (.iload_n 3, 1) := by decide +kernel
theorem dX3_cell_13 : decode cX3_cell 13 = .ok (.invokestatic 53, 3) := by decide +kernel
theorem dX3_cell_16 : decode cX3_cell 16 = .ok (.ifCond .ne 7, 3) := by decide +kernel
theorem dX3_cell_19 : decode cX3_cell 19 = .ok (.ldc2_w 207, 3) := by decide +kernel
theorem dX3_cell_22 : decode cX3_cell 22 = .ok (.lreturn, 1) := by decide +kernel
theorem dX3_cell_23 : decode cX3_cell 23 = .ok (.aload_n 0, 1) := by decide +kernel
theorem dX3_cell_24 : decode cX3_cell 24 = .ok (.getfield 30, 3) := by decide +kernel
theorem dX3_cell_27 : decode cX3_cell 27 = .ok (.iload_n 1, 1) := by decide +kernel
theorem dX3_cell_28 : decode cX3_cell 28 = .ok (.aaload, 1) := by decide +kernel
theorem dX3_cell_29 : decode cX3_cell 29 = .ok (.astore 4, 2) := by decide +kernel
theorem dX3_cell_31 : decode cX3_cell 31 = .ok (.aload 4, 2) := by decide +kernel
theorem dX3_cell_33 : decode cX3_cell 33 = .ok (.iload_n 3, 1) := by decide +kernel
theorem dX3_cell_34 : decode cX3_cell 34 = .ok (.invokevirtual 56, 3) := by decide +kernel
theorem dX3_cell_37 : decode cX3_cell 37 = .ok (.istore 5, 2) := by decide +kernel
theorem dX3_cell_39 : decode cX3_cell 39 = .ok (.iload 5, 2) := by decide +kernel
theorem dX3_cell_41 : decode cX3_cell 41 = .ok (.ifCond .ne 15, 3) := by decide +kernel
theorem dX3_cell_44 : decode cX3_cell 44 = .ok (.aload 4, 2) := by decide +kernel
theorem dX3_cell_46 : decode cX3_cell 46 = .ok (.iload_n 2, 1) := by decide +kernel
theorem dX3_cell_47 : decode cX3_cell 47 = .ok (.invokevirtual 226, 3) := by decide +kernel
theorem dX3_cell_50 : decode cX3_cell 50 = .ok (.ifCond .ne 6, 3) := by decide +kernel
theorem dX3_cell_53 : decode cX3_cell 53 = .ok (.iconst 3, 1) := by decide +kernel
theorem dX3_cell_54 : decode cX3_cell 54 = .ok (.istore 5, 2) := by decide +kernel
theorem dX3_cell_56 : decode cX3_cell 56 = .ok (.iload 5, 2) := by decide +kernel
theorem dX3_cell_58 : decode cX3_cell 58 = .ok (.ifCond .eq 13, 3) := by decide +kernel
theorem dX3_cell_61 : decode cX3_cell 61 = .ok (.aload_n 0, 1) := by decide +kernel
theorem dX3_cell_62 : decode cX3_cell 62 = .ok (.iload 5, 2) := by decide +kernel
theorem dX3_cell_64 : decode cX3_cell 64 = .ok (.putfield 45, 3) := by decide +kernel
theorem dX3_cell_67 : decode cX3_cell 67 = .ok (.ldc2_w 207, 3) := by decide +kernel
theorem dX3_cell_70 : decode cX3_cell 70 = .ok (.lreturn, 1) := by decide +kernel
theorem dX3_cell_71 : decode cX3_cell 71 = .ok (.aload 4, 2) := by decide +kernel
theorem dX3_cell_73 : decode cX3_cell 73 = .ok (.getfield 67, 3) := by decide +kernel
theorem dX3_cell_76 : decode cX3_cell 76 = .ok (.iload_n 2, 1) := by decide +kernel
theorem dX3_cell_77 : decode cX3_cell 77 = .ok (.iaload, 1) := by decide +kernel
theorem dX3_cell_78 : decode cX3_cell 78 = .ok (.i2l, 1) := by decide +kernel
theorem dX3_cell_79 : decode cX3_cell 79 = .ok (.lreturn, 1) := by decide +kernel
theorem dX3_copy_0 : decode cX3_copy 0 = .ok (.aload_n 0, 1) := by decide +kernel
theorem dX3_copy_1 : decode cX3_copy 1 = .ok (.iconst 0, 1) := by decide +kernel
theorem dX3_copy_2 : decode cX3_copy 2 = .ok (.putfield 45, 3) := by decide +kernel
theorem dX3_copy_5 : decode cX3_copy 5 = .ok (.iload_n 1, 1) := by decide +kernel
theorem dX3_copy_6 : decode cX3_copy 6 = .ok (.invokestatic 49, 3) := by decide +kernel
theorem dX3_copy_9 : decode cX3_copy 9 = .ok (.ifCond .eq 10, 3) := by decide +kernel
theorem dX3_copy_12 : decode cX3_copy 12 = .ok (.iload_n 3, 1) := by decide +kernel
theorem dX3_copy_13 : decode cX3_copy 13 = .ok (.invokestatic 49, 3) := by decide +kernel
theorem dX3_copy_16 : decode cX3_copy 16 = .ok (.ifCond .ne 5, 3) := by decide +kernel
theorem dX3_copy_19 : decode cX3_copy 19 = .ok (.iconst (-1), 1) := by decide +kernel
theorem dX3_copy_20 : decode cX3_copy 20 = .ok (.ireturn, 1) := by decide +kernel
theorem dX3_copy_21 : decode cX3_copy 21 = .ok (.aload_n 0, 1) := by decide +kernel
theorem dX3_copy_22 : decode cX3_copy 22 = .ok (.getfield 30, 3) := by decide +kernel
theorem dX3_copy_25 : decode cX3_copy 25 = .ok (.iload_n 1, 1) := by decide +kernel
theorem dX3_copy_26 : decode cX3_copy 26 = .ok (.aaload, 1) := by decide +kernel
theorem dX3_copy_27 : decode cX3_copy 27 = .ok (.astore 6, 2) := by decide +kernel
theorem dX3_copy_29 : decode cX3_copy 29 = .ok (.aload_n 0, 1) := by decide +kernel
theorem dX3_copy_30 : decode cX3_copy 30 = .ok (.getfield 30, 3) := by decide +kernel
theorem dX3_copy_33 : decode cX3_copy 33 = .ok (.iload_n 3, 1) := by decide +kernel
theorem dX3_copy_34 : decode cX3_copy 34 = .ok (.aaload, 1) := by decide +kernel
theorem dX3_copy_35 : decode cX3_copy 35 = .ok (.astore 7, 2) := by decide +kernel
theorem dX3_copy_37 : decode cX3_copy 37 = .ok (.aload 6, 2) := by decide +kernel
theorem dX3_copy_39 : decode cX3_copy 39 = .ok (.getfield 222, 3) := by decide +kernel
theorem dX3_copy_42 : decode cX3_copy 42 = .ok (.ifCond .eq 11, 3) := by decide +kernel
theorem dX3_copy_45 : decode cX3_copy 45 = .ok (.aload 7, 2) := by decide +kernel
theorem dX3_copy_47 : decode cX3_copy 47 = .ok (.getfield 222, 3) := by decide +kernel
theorem dX3_copy_50 : decode cX3_copy 50 = .ok (.ifCond .ne 9, 3) := by decide +kernel
theorem dX3_copy_53 : decode cX3_copy 53 = .ok (.aload_n 0, 1) := by decide +kernel
theorem dX3_copy_54 : decode cX3_copy 54 = .ok (.iconst 1, 1) := by decide +kernel
theorem dX3_copy_55 : decode cX3_copy 55 = .ok (.invokevirtual 64, 3) := by decide +kernel
theorem dX3_copy_58 : decode cX3_copy 58 = .ok (.ireturn, 1) := by decide +kernel
theorem dX3_copy_59 : decode cX3_copy 59 = .ok (.aload 6, 2) := by decide +kernel
theorem dX3_copy_61 : decode cX3_copy 61 = .ok (.getfield 229, 3) := by decide +kernel
theorem dX3_copy_64 : decode cX3_copy 64 = .ok (.aload 7, 2) := by decide +kernel
theorem dX3_copy_66 : decode cX3_copy 66 = .ok (.getfield 229, 3) := by decide +kernel
theorem dX3_copy_69 : decode cX3_copy 69 = .ok (.if_icmp .eq 9, 3) := by decide +kernel
theorem dX3_copy_72 : decode cX3_copy 72 = .ok (.aload_n 0, 1) := by decide +kernel
theorem dX3_copy_73 : decode cX3_copy 73 = .ok (.iconst 2, 1) := by decide +kernel
theorem dX3_copy_74 : decode cX3_copy 74 = .ok (.invokevirtual 64, 3) := by decide +kernel
theorem dX3_copy_77 : decode cX3_copy 77 = .ok (.ireturn, 1) := by decide +kernel
theorem dX3_copy_78 : decode cX3_copy 78 = .ok (.aload 6, 2) := by decide +kernel
theorem dX3_copy_80 : decode cX3_copy 80 = .ok (.iload_n 2, 1) := by decide +kernel
theorem dX3_copy_81 : decode cX3_copy 81 = .ok (.iload 5, 2) := by decide +kernel
theorem dX3_copy_83 : decode cX3_copy 83 = .ok (.invokevirtual 60, 3) := by decide +kernel
theorem dX3_copy_86 : decode cX3_copy 86 = .ok (.ifCond .eq 15, 3) := by decide +kernel
theorem dX3_copy_89 : decode cX3_copy 89 = .ok (.aload 7, 2) := by decide +kernel
theorem dX3_copy_91 : decode cX3_copy 91 = .ok (.iload 4, 2) := by decide +kernel
theorem dX3_copy_93 : decode cX3_copy 93 = .ok (.iload 5, 2) := by decide +kernel
theorem dX3_copy_95 : decode cX3_copy 95 = .ok (.invokevirtual 60, 3) := by decide +kernel
theorem dX3_copy_98 : decode cX3_copy 98 = .ok (.ifCond .ne 9, 3) := by decide +kernel
theorem dX3_copy_101 : decode cX3_copy 101 = .ok (.aload_n 0, 1) := by decide +kernel
theorem dX3_copy_102 : decode cX3_copy 102 = .ok (.iconst 3, 1) := by decide +kernel
theorem dX3_copy_103 : decode cX3_copy 103 = .ok (.invokevirtual 64, 3) := by decide +kernel
theorem dX3_copy_106 : decode cX3_copy 106 = .ok (.ireturn, 1) := by decide +kernel
theorem dX3_copy_107 : decode cX3_copy 107 = .ok (.aload 6, 2) := by decide +kernel
theorem dX3_copy_109 : decode cX3_copy 109 = .ok (.getfield 67, 3) := by decide +kernel
theorem dX3_copy_112 : decode cX3_copy 112 = .ok (.iload_n 2, 1) := by decide +kernel
theorem dX3_copy_113 : decode cX3_copy 113 = .ok (.aload 7, 2) := by decide +kernel
theorem dX3_copy_115 : decode cX3_copy 115 = .ok (.getfield 67, 3) := by decide +kernel
theorem dX3_copy_118 : decode cX3_copy 118 = .ok (.iload 4, 2) := by decide +kernel
theorem dX3_copy_120 : decode cX3_copy 120 = .ok (.iload 5, 2) := by decide +kernel
theorem dX3_copy_122 : decode cX3_copy 122 = .ok (.invokestatic 235, 3) := by decide +kernel
theorem dX3_copy_125 : decode cX3_copy 125 = .ok (.iload 5, 2) := by decide +kernel
theorem dX3_copy_127 : decode cX3_copy 127 = .ok (.ireturn, 1) := by decide +kernel
theorem dX3_tell_0 : decode cX3_tell 0 = .ok (.aload_n 0, 1) := by decide +kernel
theorem dX3_tell_1 : decode cX3_tell 1 = .ok (.getfield 14, 3) := by decide +kernel
theorem dX3_tell_4 : decode cX3_tell 4 = .ok (.iload_n 1, 1) := by decide +kernel
theorem dX3_tell_5 : decode cX3_tell 5 = .ok (.invokevirtual 90, 3) := by decide +kernel
theorem dX3_tell_8 : decode cX3_tell 8 = .ok (.ifCond .ne 5, 3) := by decide +kernel
theorem dX3_tell_11 : decode cX3_tell 11 = .ok (.iconst (-1), 1) := by decide +kernel
theorem dX3_tell_12 : decode cX3_tell 12 = .ok (.ireturn, 1) := by decide +kernel
theorem dX3_tell_13 : decode cX3_tell 13 = .ok (.aload_n 0, 1) := by decide +kernel
theorem dX3_tell_14 : decode cX3_tell 14 = .ok (.getfield 14, 3) := by decide +kernel
theorem dX3_tell_17 : decode cX3_tell 17 = .ok (.getfield 93, 3) := by decide +kernel
theorem dX3_tell_20 : decode cX3_tell 20 = .ok (.iload_n 1, 1) := by decide +kernel
theorem dX3_tell_21 : decode cX3_tell 21 = .ok (.iaload, 1) := by decide +kernel
theorem dX3_tell_22 : decode cX3_tell 22 = .ok (.lookupswitch 38 #[(1, 32), (2, 26)], 26) := by decide +kernel
theorem dX3_tell_48 : decode cX3_tell 48 = .ok (.aload_n 0, 1) := by decide +kernel
theorem dX3_tell_49 : decode cX3_tell 49 = .ok (.iload_n 1, 1) := by decide +kernel
theorem dX3_tell_50 : decode cX3_tell 50 = .ok (.invokevirtual 241, 3) := by decide +kernel
theorem dX3_tell_53 : decode cX3_tell 53 = .ok (.ireturn, 1) := by decide +kernel
theorem dX3_tell_54 : decode cX3_tell 54 = .ok (.aload_n 0, 1) := by decide +kernel
theorem dX3_tell_55 : decode cX3_tell 55 = .ok (.iload_n 1, 1) := by decide +kernel
theorem dX3_tell_56 : decode cX3_tell 56 = .ok (.invokevirtual 244, 3) := by decide +kernel
theorem dX3_tell_59 : decode cX3_tell 59 = .ok (.ireturn, 1) := by decide +kernel
theorem dX3_tell_60 : decode cX3_tell 60 = .ok (.aload_n 0, 1) := by decide +kernel
theorem dX3_tell_61 : decode cX3_tell 61 = .ok (.iload_n 1, 1) := by decide +kernel
theorem dX3_tell_62 : decode cX3_tell 62 = .ok (.invokevirtual 247, 3) := by decide +kernel
theorem dX3_tell_65 : decode cX3_tell 65 = .ok (.ireturn, 1) := by decide +kernel
theorem dX3_survey_0 : decode cX3_survey 0 = .ok (.aload_n 0, 1) := by decide +kernel
theorem dX3_survey_1 : decode cX3_survey 1 = .ok (.getfield 14, 3) := by decide +kernel
theorem dX3_survey_4 : decode cX3_survey 4 = .ok (.iload_n 1, 1) := by decide +kernel
theorem dX3_survey_5 : decode cX3_survey 5 = .ok (.invokevirtual 90, 3) := by decide +kernel
theorem dX3_survey_8 : decode cX3_survey 8 = .ok (.ifCond .ne 5, 3) := by decide +kernel
theorem dX3_survey_11 : decode cX3_survey 11 = .ok (.iconst (-1), 1) := by decide +kernel
theorem dX3_survey_12 : decode cX3_survey 12 = .ok (.ireturn, 1) := by decide +kernel
theorem dX3_survey_13 : decode cX3_survey 13 = .ok (.aload_n 0, 1) := by decide +kernel
theorem dX3_survey_14 : decode cX3_survey 14 = .ok (.getfield 14, 3) := by decide +kernel
theorem dX3_survey_17 : decode cX3_survey 17 = .ok (.getfield 93, 3) := by decide +kernel
theorem dX3_survey_20 : decode cX3_survey 20 = .ok (.iload_n 1, 1) := by decide +kernel
theorem dX3_survey_21 : decode cX3_survey 21 = .ok (.iaload, 1) := by decide +kernel
theorem dX3_survey_22 : decode cX3_survey 22 = .ok (.iconst 2, 1) := by decide +kernel
theorem dX3_survey_23 : decode cX3_survey 23 = .ok (.if_icmp .ne 11, 3) := by decide +kernel
theorem dX3_survey_26 : decode cX3_survey 26 = .ok (.aload_n 0, 1) := by decide +kernel
theorem dX3_survey_27 : decode cX3_survey 27 = .ok (.iload_n 1, 1) := by decide +kernel
theorem dX3_survey_28 : decode cX3_survey 28 = .ok (.invokevirtual 250, 3) := by decide +kernel
theorem dX3_survey_31 : decode cX3_survey 31 = .ok (.goto 8, 3) := by decide +kernel
theorem dX3_survey_34 : decode cX3_survey 34 = .ok (.aload_n 0, 1) := by decide +kernel
theorem dX3_survey_35 : decode cX3_survey 35 = .ok (.iload_n 1, 1) := by decide +kernel
theorem dX3_survey_36 : decode cX3_survey 36 = .ok (.invokevirtual 253, 3) := by decide +kernel
theorem dX3_survey_39 : decode cX3_survey 39 = .ok (.ireturn, 1) := by decide +kernel
theorem dX3_as_0 : decode cX3_as 0 = .ok (.aload_n 0, 1) := by decide +kernel
theorem dX3_as_1 : decode cX3_as 1 = .ok (.iconst 0, 1) := by decide +kernel
theorem dX3_as_2 : decode cX3_as 2 = .ok (.putfield 45, 3) := by decide +kernel
theorem dX3_as_5 : decode cX3_as 5 = .ok (.aload_n 0, 1) := by decide +kernel
theorem dX3_as_6 : decode cX3_as 6 = .ok (.getfield 14, 3) := by decide +kernel
theorem dX3_as_9 : decode cX3_as 9 = .ok (.iload_n 1, 1) := by decide +kernel
theorem dX3_as_10 : decode cX3_as 10 = .ok (.invokevirtual 90, 3) := by decide +kernel
theorem dX3_as_13 : decode cX3_as 13 = .ok (.ifCond .ne 5, 3) := by decide +kernel
theorem dX3_as_16 : decode cX3_as 16 = .ok (.iconst (-1), 1) := by decide +kernel
theorem dX3_as_17 : decode cX3_as 17 = .ok (.ireturn, 1) := by decide +kernel
theorem dX3_as_18 : decode cX3_as 18 = .ok (.iload_n 2, 1) := by decide +kernel
theorem dX3_as_19 : decode cX3_as 19 = .ok (.ifCond .lt 8, 3) := by decide +kernel
theorem dX3_as_22 : decode cX3_as 22 = .ok (.iload_n 2, 1) := by decide +kernel
theorem dX3_as_23 : decode cX3_as 23 = .ok (.iconst 2, 1) := by decide +kernel
theorem dX3_as_24 : decode cX3_as 24 = .ok (.if_icmp .le 6, 3) := by decide +kernel
theorem dX3_as_27 : decode cX3_as 27 = .ok (.bipush (-2), 2) := by decide +kernel
theorem dX3_as_29 : decode cX3_as 29 = .ok (.ireturn, 1) := by decide +kernel
theorem dX3_as_30 : decode cX3_as 30 = .ok (.aload_n 0, 1) := by decide +kernel
theorem dX3_as_31 : decode cX3_as 31 = .ok (.getfield 14, 3) := by decide +kernel
theorem dX3_as_34 : decode cX3_as 34 = .ok (.getfield 93, 3) := by decide +kernel
theorem dX3_as_37 : decode cX3_as 37 = .ok (.iload_n 1, 1) := by decide +kernel
theorem dX3_as_38 : decode cX3_as 38 = .ok (.iaload, 1) := by decide +kernel
theorem dX3_as_39 : decode cX3_as 39 = .ok (.iload_n 2, 1) := by decide +kernel
theorem dX3_as_40 : decode cX3_as 40 = .ok (.if_icmp .ge 11, 3) := by decide +kernel
theorem dX3_as_43 : decode cX3_as 43 = .ok (.aload_n 0, 1) := by decide +kernel
theorem dX3_as_44 : decode cX3_as 44 = .ok (.iconst 2, 1) := by decide +kernel
theorem dX3_as_45 : decode cX3_as 45 = .ok (.invokevirtual 64, 3) := by decide +kernel
theorem dX3_as_48 : decode cX3_as 48 = .ok (.goto 4, 3) := by decide +kernel
theorem dX3_as_51 : decode cX3_as 51 = .ok (.iconst 1, 1) := by decide +kernel
theorem dX3_as_52 : decode cX3_as 52 = .ok (.ireturn, 1) := by decide +kernel
theorem dX3_trace_0 : decode cX3_trace 0 = .ok (.aload_n 0, 1) := by decide +kernel
theorem dX3_trace_1 : decode cX3_trace 1 = .ok (.getfield 256, 3) := by decide +kernel
theorem dX3_trace_4 : decode cX3_trace 4 = .ok (.ireturn, 1) := by decide +kernel
theorem dX3_fault_0 : decode cX3_fault 0 = .ok (.aload_n 0, 1) := by decide +kernel
theorem dX3_fault_1 : decode cX3_fault 1 = .ok (.getfield 45, 3) := by decide +kernel
theorem dX3_fault_4 : decode cX3_fault 4 = .ok (.ireturn, 1) := by decide +kernel
theorem dX3_many_0 : decode cX3_many 0 = .ok (.iload_n 1, 1) := by decide +kernel
theorem dX3_many_1 : decode cX3_many 1 = .ok (.tableswitch 60 0 3 #[31, 39, 47, 55], 31) := by decide +kernel
theorem dX3_many_32 : decode cX3_many 32 = .ok (.aload_n 0, 1) := by decide +kernel
theorem dX3_many_33 : decode cX3_many 33 = .ok (.getfield 14, 3) := by decide +kernel
theorem dX3_many_36 : decode cX3_many 36 = .ok (.getfield 87, 3) := by decide +kernel
theorem dX3_many_39 : decode cX3_many 39 = .ok (.ireturn, 1) := by decide +kernel
theorem dX3_many_40 : decode cX3_many 40 = .ok (.aload_n 0, 1) := by decide +kernel
theorem dX3_many_41 : decode cX3_many 41 = .ok (.getfield 14, 3) := by decide +kernel
theorem dX3_many_44 : decode cX3_many 44 = .ok (.getfield 155, 3) := by decide +kernel
theorem dX3_many_47 : decode cX3_many 47 = .ok (.ireturn, 1) := by decide +kernel
theorem dX3_many_48 : decode cX3_many 48 = .ok (.aload_n 0, 1) := by decide +kernel
theorem dX3_many_49 : decode cX3_many 49 = .ok (.getfield 14, 3) := by decide +kernel
theorem dX3_many_52 : decode cX3_many 52 = .ok (.getfield 158, 3) := by decide +kernel
theorem dX3_many_55 : decode cX3_many 55 = .ok (.ireturn, 1) := by decide +kernel
theorem dX3_many_56 : decode cX3_many 56 = .ok (.aload_n 0, 1) := by decide +kernel
theorem dX3_many_57 : decode cX3_many 57 = .ok (.getfield 84, 3) := by decide +kernel
theorem dX3_many_60 : decode cX3_many 60 = .ok (.ireturn, 1) := by decide +kernel
theorem dX3_many_61 : decode cX3_many 61 = .ok (.bipush (-2), 2) := by decide +kernel
theorem dX3_many_63 : decode cX3_many 63 = .ok (.ireturn, 1) := by decide +kernel
theorem dX3_isSheet_0 : decode cX3_isSheet 0 = .ok (.iload_n 0, 1) := by decide +kernel
theorem dX3_isSheet_1 : decode cX3_isSheet 1 = .ok (.ifCond .lt 12, 3) := by decide +kernel
theorem dX3_isSheet_4 : decode cX3_isSheet 4 = .ok (.iload_n 0, 1) := by decide +kernel
theorem dX3_isSheet_5 : decode cX3_isSheet 5 = .ok (.iconst 4, 1) := by decide +kernel
theorem dX3_isSheet_6 : decode cX3_isSheet 6 = .ok (.if_icmp .ge 7, 3) := by decide +kernel
theorem dX3_isSheet_9 : decode cX3_isSheet 9 = .ok (.iconst 1, 1) := by decide +kernel
theorem dX3_isSheet_10 : decode cX3_isSheet 10 = .ok (.goto 4, 3) := by decide +kernel
theorem dX3_isSheet_13 : decode cX3_isSheet 13 = .ok (.iconst 0, 1) := by decide +kernel
theorem dX3_isSheet_14 : decode cX3_isSheet 14 = .ok (.ireturn, 1) := by decide +kernel
theorem dX3_isLane_0 : decode cX3_isLane 0 = .ok (.iload_n 0, 1) := by decide +kernel
theorem dX3_isLane_1 : decode cX3_isLane 1 = .ok (.ifCond .lt 12, 3) := by decide +kernel
theorem dX3_isLane_4 : decode cX3_isLane 4 = .ok (.iload_n 0, 1) := by decide +kernel
theorem dX3_isLane_5 : decode cX3_isLane 5 = .ok (.iconst 2, 1) := by decide +kernel
theorem dX3_isLane_6 : decode cX3_isLane 6 = .ok (.if_icmp .gt 7, 3) := by decide +kernel
theorem dX3_isLane_9 : decode cX3_isLane 9 = .ok (.iconst 1, 1) := by decide +kernel
theorem dX3_isLane_10 : decode cX3_isLane 10 = .ok (.goto 4, 3) := by decide +kernel
theorem dX3_isLane_13 : decode cX3_isLane 13 = .ok (.iconst 0, 1) := by decide +kernel
theorem dX3_isLane_14 : decode cX3_isLane 14 = .ok (.ireturn, 1) := by decide +kernel
theorem dX3_isOrder_0 : decode cX3_isOrder 0 = .ok (.iload_n 0, 1) := by decide +kernel
theorem dX3_isOrder_1 : decode cX3_isOrder 1 = .ok (.ifCond .eq 8, 3) := by decide +kernel
theorem dX3_isOrder_4 : decode cX3_isOrder 4 = .ok (.iload_n 0, 1) := by decide +kernel
theorem dX3_isOrder_5 : decode cX3_isOrder 5 = .ok (.iconst 1, 1) := by decide +kernel
theorem dX3_isOrder_6 : decode cX3_isOrder 6 = .ok (.if_icmp .ne 7, 3) := by decide +kernel
theorem dX3_isOrder_9 : decode cX3_isOrder 9 = .ok (.iconst 1, 1) := by decide +kernel
theorem dX3_isOrder_10 : decode cX3_isOrder 10 = .ok (.goto 4, 3) := by decide +kernel
theorem dX3_isOrder_13 : decode cX3_isOrder 13 = .ok (.iconst 0, 1) := by decide +kernel
theorem dX3_isOrder_14 : decode cX3_isOrder 14 = .ok (.ireturn, 1) := by decide +kernel
theorem dX3_isWidth_0 : decode cX3_isWidth 0 = .ok (.iload_n 0, 1) := by decide +kernel
theorem dX3_isWidth_1 : decode cX3_isWidth 1 = .ok (.iconst 1, 1) := by decide +kernel
theorem dX3_isWidth_2 : decode cX3_isWidth 2 = .ok (.if_icmp .lt 13, 3) := by decide +kernel
theorem dX3_isWidth_5 : decode cX3_isWidth 5 = .ok (.iload_n 0, 1) := by decide +kernel
theorem dX3_isWidth_6 : decode cX3_isWidth 6 = .ok (.bipush 9, 2) := by decide +kernel
theorem dX3_isWidth_8 : decode cX3_isWidth 8 = .ok (.if_icmp .gt 7, 3) := by decide +kernel
theorem dX3_isWidth_11 : decode cX3_isWidth 11 = .ok (.iconst 1, 1) := by decide +kernel
theorem dX3_isWidth_12 : decode cX3_isWidth 12 = .ok (.goto 4, 3) := by decide +kernel
theorem dX3_isWidth_15 : decode cX3_isWidth 15 = .ok (.iconst 0, 1) := by decide +kernel
theorem dX3_isWidth_16 : decode cX3_isWidth 16 = .ok (.ireturn, 1) := by decide +kernel
theorem dX3_isPlot_0 : decode cX3_isPlot 0 = .ok (.iload_n 0, 1) := by decide +kernel
theorem dX3_isPlot_1 : decode cX3_isPlot 1 = .ok (.iconst 1, 1) := by decide +kernel
theorem dX3_isPlot_2 : decode cX3_isPlot 2 = .ok (.if_icmp .lt 13, 3) := by decide +kernel
theorem dX3_isPlot_5 : decode cX3_isPlot 5 = .ok (.iload_n 0, 1) := by decide +kernel
theorem dX3_isPlot_6 : decode cX3_isPlot 6 = .ok (.bipush 9, 2) := by decide +kernel
theorem dX3_isPlot_8 : decode cX3_isPlot 8 = .ok (.if_icmp .gt 7, 3) := by decide +kernel
theorem dX3_isPlot_11 : decode cX3_isPlot 11 = .ok (.iconst 1, 1) := by decide +kernel
theorem dX3_isPlot_12 : decode cX3_isPlot 12 = .ok (.goto 4, 3) := by decide +kernel
theorem dX3_isPlot_15 : decode cX3_isPlot 15 = .ok (.iconst 0, 1) := by decide +kernel
theorem dX3_isPlot_16 : decode cX3_isPlot 16 = .ok (.ireturn, 1) := by decide +kernel
theorem dX3_isTold_0 : decode cX3_isTold 0 = .ok (.iload_n 0, 1) := by decide +kernel
theorem dX3_isTold_1 : decode cX3_isTold 1 = .ok (.ifCond .lt 13, 3) := by decide +kernel
theorem dX3_isTold_4 : decode cX3_isTold 4 = .ok (.iload_n 0, 1) := by decide +kernel
theorem dX3_isTold_5 : decode cX3_isTold 5 = .ok (.bipush 20, 2) := by decide +kernel
theorem dX3_isTold_7 : decode cX3_isTold 7 = .ok (.if_icmp .gt 7, 3) := by decide +kernel
theorem dX3_isTold_10 : decode cX3_isTold 10 = .ok (.iconst 1, 1) := by decide +kernel
theorem dX3_isTold_11 : decode cX3_isTold 11 = .ok (.goto 4, 3) := by decide +kernel
theorem dX3_isTold_14 : decode cX3_isTold 14 = .ok (.iconst 0, 1) := by decide +kernel
theorem dX3_isTold_15 : decode cX3_isTold 15 = .ok (.ireturn, 1) := by decide +kernel
theorem dX3_isAskedOfDay_0 : decode cX3_isAskedOfDay 0 = .ok (.iload_n 0, 1) := by decide +kernel
theorem dX3_isAskedOfDay_1 : decode cX3_isAskedOfDay 1 = .ok (.ifCond .lt 8, 3) := by decide +kernel
theorem dX3_isAskedOfDay_4 : decode cX3_isAskedOfDay 4 = .ok (.iload_n 0, 1) := by decide +kernel
theorem dX3_isAskedOfDay_5 : decode cX3_isAskedOfDay 5 = .ok (.iconst 4, 1) := by decide +kernel
theorem dX3_isAskedOfDay_6 : decode cX3_isAskedOfDay 6 = .ok (.if_icmp .le 15, 3) := by decide +kernel
theorem dX3_isAskedOfDay_9 : decode cX3_isAskedOfDay 9 = .ok (.iload_n 0, 1) := by decide +kernel
theorem dX3_isAskedOfDay_10 : decode cX3_isAskedOfDay 10 = .ok (.bipush 10, 2) := by decide +kernel
theorem dX3_isAskedOfDay_12 : decode cX3_isAskedOfDay 12 = .ok (.if_icmp .lt 13, 3) := by decide +kernel
theorem dX3_isAskedOfDay_15 : decode cX3_isAskedOfDay 15 = .ok (.iload_n 0, 1) := by decide +kernel
theorem dX3_isAskedOfDay_16 : decode cX3_isAskedOfDay 16 = .ok (.bipush 16, 2) := by decide +kernel
theorem dX3_isAskedOfDay_18 : decode cX3_isAskedOfDay 18 = .ok (.if_icmp .ge 7, 3) := by decide +kernel
theorem dX3_isAskedOfDay_21 : decode cX3_isAskedOfDay 21 = .ok (.iconst 1, 1) := by decide +kernel
theorem dX3_isAskedOfDay_22 : decode cX3_isAskedOfDay 22 = .ok (.goto 4, 3) := by decide +kernel
theorem dX3_isAskedOfDay_25 : decode cX3_isAskedOfDay 25 = .ok (.iconst 0, 1) := by decide +kernel
theorem dX3_isAskedOfDay_26 : decode cX3_isAskedOfDay 26 = .ok (.ireturn, 1) := by decide +kernel
theorem dX3_cutTo_0 : decode cX3_cutTo 0 = .ok (.iload_n 0, 1) := by decide +kernel
theorem dX3_cutTo_1 : decode cX3_cutTo 1 = .ok (.lookupswitch 33 #[(0, 27), (1, 30)], 27) := by decide +kernel
theorem dX3_cutTo_28 : decode cX3_cutTo 28 = .ok (.iload_n 1, 1) := by decide +kernel
theorem dX3_cutTo_29 : decode cX3_cutTo 29 = .ok (.i2b, 1) := by decide +kernel
theorem dX3_cutTo_30 : decode cX3_cutTo 30 = .ok (.ireturn, 1) := by decide +kernel
theorem dX3_cutTo_31 : decode cX3_cutTo 31 = .ok (.iload_n 1, 1) := by decide +kernel
theorem dX3_cutTo_32 : decode cX3_cutTo 32 = .ok (.i2s, 1) := by decide +kernel
theorem dX3_cutTo_33 : decode cX3_cutTo 33 = .ok (.ireturn, 1) := by decide +kernel
theorem dX3_cutTo_34 : decode cX3_cutTo 34 = .ok (.iload_n 1, 1) := by decide +kernel
theorem dX3_cutTo_35 : decode cX3_cutTo 35 = .ok (.ireturn, 1) := by decide +kernel
theorem dX3_failed_0 : decode cX3_failed 0 = .ok (.aload_n 0, 1) := by decide +kernel
theorem dX3_failed_1 : decode cX3_failed 1 = .ok (.iload_n 1, 1) := by decide +kernel
theorem dX3_failed_2 : decode cX3_failed 2 = .ok (.putfield 45, 3) := by decide +kernel
theorem dX3_failed_5 : decode cX3_failed 5 = .ok (.bipush (-10), 2) := by decide +kernel
theorem dX3_failed_7 : decode cX3_failed 7 = .ok (.iload_n 1, 1) := by decide +kernel
theorem dX3_failed_8 : decode cX3_failed 8 = .ok (.isub, 1) := by decide +kernel
theorem dX3_failed_9 : decode cX3_failed 9 = .ok (.ireturn, 1) := by decide +kernel
theorem dX3_faultOfRow_0 : decode cX3_faultOfRow 0 = .ok (.aload_n 0, 1) := by decide +kernel
theorem dX3_faultOfRow_1 : decode cX3_faultOfRow 1 = .ok (.iload_n 1, 1) := by decide +kernel
theorem dX3_faultOfRow_2 : decode cX3_faultOfRow 2 = .ok (.invokevirtual 56, 3) := by decide +kernel
theorem dX3_faultOfRow_5 : decode cX3_faultOfRow 5 = .ok (.istore 4, 2) := by decide +kernel
theorem dX3_faultOfRow_7 : decode cX3_faultOfRow 7 = .ok (.iload 4, 2) := by decide +kernel
theorem dX3_faultOfRow_9 : decode cX3_faultOfRow 9 = .ok (.ifCond .eq 6, 3) := by decide +kernel
theorem dX3_faultOfRow_12 : decode cX3_faultOfRow 12 = .ok (.iload 4, 2) := by decide +kernel
theorem dX3_faultOfRow_14 : decode cX3_faultOfRow 14 = .ok (.ireturn, 1) := by decide +kernel
theorem dX3_faultOfRow_15 : decode cX3_faultOfRow 15 = .ok (.aload_n 0, 1) := by decide +kernel
theorem dX3_faultOfRow_16 : decode cX3_faultOfRow 16 = .ok (.iload_n 2, 1) := by decide +kernel
theorem dX3_faultOfRow_17 : decode cX3_faultOfRow 17 = .ok (.iload_n 3, 1) := by decide +kernel
theorem dX3_faultOfRow_18 : decode cX3_faultOfRow 18 = .ok (.invokevirtual 60, 3) := by decide +kernel
theorem dX3_faultOfRow_21 : decode cX3_faultOfRow 21 = .ok (.ifCond .eq 7, 3) := by decide +kernel
theorem dX3_faultOfRow_24 : decode cX3_faultOfRow 24 = .ok (.iconst 0, 1) := by decide +kernel
theorem dX3_faultOfRow_25 : decode cX3_faultOfRow 25 = .ok (.goto 4, 3) := by decide +kernel
theorem dX3_faultOfRow_28 : decode cX3_faultOfRow 28 = .ok (.iconst 3, 1) := by decide +kernel
theorem dX3_faultOfRow_29 : decode cX3_faultOfRow 29 = .ok (.ireturn, 1) := by decide +kernel
theorem dX3_sortsAreKnown_0 : decode cX3_sortsAreKnown 0 = .ok (.iconst 0, 1) := by decide +kernel
theorem dX3_sortsAreKnown_1 : decode cX3_sortsAreKnown 1 = .ok (.istore_n 3, 1) := by decide +kernel
theorem dX3_sortsAreKnown_2 : decode cX3_sortsAreKnown 2 = .ok (.iload_n 3, 1) := by decide +kernel
theorem dX3_sortsAreKnown_3 : decode cX3_sortsAreKnown 3 = .ok (.iload_n 2, 1) := by decide +kernel
theorem dX3_sortsAreKnown_4 : decode cX3_sortsAreKnown 4 = .ok (.if_icmp .ge 31, 3) := by decide +kernel
theorem dX3_sortsAreKnown_7 : decode cX3_sortsAreKnown 7 = .ok (.aload_n 0, 1) := by decide +kernel
theorem dX3_sortsAreKnown_8 : decode cX3_sortsAreKnown 8 = .ok (.iload_n 1, 1) := by decide +kernel
theorem dX3_sortsAreKnown_9 : decode cX3_sortsAreKnown 9 = .ok (.iconst 3, 1) := by decide +kernel
theorem dX3_sortsAreKnown_10 : decode cX3_sortsAreKnown 10 = .ok (.iload_n 3, 1) := by decide +kernel
theorem dX3_sortsAreKnown_11 : decode cX3_sortsAreKnown 11 = .ok (.imul, 1) := by decide +kernel
theorem dX3_sortsAreKnown_12 : decode cX3_sortsAreKnown 12 = .ok (.iadd, 1) := by decide +kernel
theorem dX3_sortsAreKnown_13 : decode cX3_sortsAreKnown 13 = .ok (.iaload, 1) := by decide +kernel
theorem dX3_sortsAreKnown_14 : decode cX3_sortsAreKnown 14 = .ok (.istore 4, 2) := by decide +kernel
theorem dX3_sortsAreKnown_16 : decode cX3_sortsAreKnown 16 = .ok (.iload 4, 2) := by decide +kernel
theorem dX3_sortsAreKnown_18 : decode cX3_sortsAreKnown 18 = .ok (.ifCond .lt 9, 3) := by decide +kernel
theorem dX3_sortsAreKnown_21 : decode cX3_sortsAreKnown 21 = .ok (.iload 4, 2) := by decide +kernel
theorem dX3_sortsAreKnown_23 : decode cX3_sortsAreKnown 23 = .ok (.iconst 2, 1) := by decide +kernel
theorem dX3_sortsAreKnown_24 : decode cX3_sortsAreKnown 24 = .ok (.if_icmp .le 5, 3) := by decide +kernel
theorem dX3_sortsAreKnown_27 : decode cX3_sortsAreKnown 27 = .ok (.iconst 0, 1) := by decide +kernel
theorem dX3_sortsAreKnown_28 : decode cX3_sortsAreKnown 28 = .ok (.ireturn, 1) := by decide +kernel
theorem dX3_sortsAreKnown_29 : decode cX3_sortsAreKnown 29 = .ok (.iinc 3 1, 3) := by decide +kernel
theorem dX3_sortsAreKnown_32 : decode cX3_sortsAreKnown 32 = .ok (.goto (-30), 3) := by decide +kernel
theorem dX3_sortsAreKnown_35 : decode cX3_sortsAreKnown 35 = .ok (.iconst 1, 1) := by decide +kernel
theorem dX3_sortsAreKnown_36 : decode cX3_sortsAreKnown 36 = .ok (.ireturn, 1) := by decide +kernel
theorem dX3_firstWrong_0 : decode cX3_firstWrong 0 = .ok (.aload_n 0, 1) := by decide +kernel
theorem dX3_firstWrong_1 : decode cX3_firstWrong 1 = .ok (.getfield 18, 3) := by decide +kernel
theorem dX3_firstWrong_4 : decode cX3_firstWrong 4 = .ok (.aload_n 0, 1) := by decide +kernel
theorem dX3_firstWrong_5 : decode cX3_firstWrong 5 = .ok (.getfield 14, 3) := by decide +kernel
theorem dX3_firstWrong_8 : decode cX3_firstWrong 8 = .ok (.invokevirtual 80, 3) := by decide +kernel
theorem dX3_firstWrong_11 : decode cX3_firstWrong 11 = .ok (.iconst 0, 1) := by decide +kernel
theorem dX3_firstWrong_12 : decode cX3_firstWrong 12 = .ok (.istore 4, 2) := by decide +kernel
theorem dX3_firstWrong_14 : decode cX3_firstWrong 14 = .ok (.iload 4, 2) := by decide +kernel
theorem dX3_firstWrong_16 : decode cX3_firstWrong 16 = .ok (.iload_n 3, 1) := by decide +kernel
theorem dX3_firstWrong_17 : decode cX3_firstWrong 17 = .ok (.if_icmp .ge 43, 3) := by decide +kernel
theorem dX3_firstWrong_20 : decode cX3_firstWrong 20 = .ok (.iload_n 2, 1) := by decide +kernel
theorem dX3_firstWrong_21 : decode cX3_firstWrong 21 = .ok (.iconst 3, 1) := by decide +kernel
theorem dX3_firstWrong_22 : decode cX3_firstWrong 22 = .ok (.iload 4, 2) := by decide +kernel
theorem dX3_firstWrong_24 : decode cX3_firstWrong 24 = .ok (.imul, 1) := by decide +kernel
theorem dX3_firstWrong_25 : decode cX3_firstWrong 25 = .ok (.iadd, 1) := by decide +kernel
theorem dX3_firstWrong_26 : decode cX3_firstWrong 26 = .ok (.istore 5, 2) := by decide +kernel
theorem dX3_firstWrong_28 : decode cX3_firstWrong 28 = .ok (.aload_n 0, 1) := by decide +kernel
theorem dX3_firstWrong_29 : decode cX3_firstWrong 29 = .ok (.aload_n 1, 1) := by decide +kernel
theorem dX3_firstWrong_30 : decode cX3_firstWrong 30 = .ok (.iload 5, 2) := by decide +kernel
theorem dX3_firstWrong_32 : decode cX3_firstWrong 32 = .ok (.iaload, 1) := by decide +kernel
theorem dX3_firstWrong_33 : decode cX3_firstWrong 33 = .ok (.aload_n 1, 1) := by decide +kernel
theorem dX3_firstWrong_34 : decode cX3_firstWrong 34 = .ok (.iload 5, 2) := by decide +kernel
theorem dX3_firstWrong_36 : decode cX3_firstWrong 36 = .ok (.iconst 1, 1) := by decide +kernel
theorem dX3_firstWrong_37 : decode cX3_firstWrong 37 = .ok (.iadd, 1) := by decide +kernel
theorem dX3_firstWrong_38 : decode cX3_firstWrong 38 = .ok (.iaload, 1) := by decide +kernel
theorem dX3_firstWrong_39 : decode cX3_firstWrong 39 = .ok (.aload_n 1, 1) := by decide +kernel
theorem dX3_firstWrong_40 : decode cX3_firstWrong 40 = .ok (.iload 5, 2) := by decide +kernel
theorem dX3_firstWrong_42 : decode cX3_firstWrong 42 = .ok (.iconst 2, 1) := by decide +kernel
theorem dX3_firstWrong_43 : decode cX3_firstWrong 43 = .ok (.iadd, 1) := by decide +kernel
theorem dX3_firstWrong_44 : decode cX3_firstWrong 44 = .ok (.iaload, 1) := by decide +kernel
theorem dX3_firstWrong_45 : decode cX3_firstWrong 45 = .ok (.invokevirtual 259, 3) := by decide +kernel
theorem dX3_firstWrong_48 : decode cX3_firstWrong 48 = .ok (.ifCond .ne 6, 3) := by decide +kernel
theorem dX3_firstWrong_51 : decode cX3_firstWrong 51 = .ok (.iload 4, 2) := by decide +kernel
theorem dX3_firstWrong_53 : decode cX3_firstWrong 53 = .ok (.ireturn, 1) := by decide +kernel
theorem dX3_firstWrong_54 : decode cX3_firstWrong 54 = .ok (.iinc 4 1, 3) := by decide +kernel
theorem dX3_firstWrong_57 : decode cX3_firstWrong 57 = .ok (.goto (-43), 3) := by decide +kernel
theorem dX3_firstWrong_60 : decode cX3_firstWrong 60 = .ok (.aload_n 0, 1) := by decide +kernel
theorem dX3_firstWrong_61 : decode cX3_firstWrong 61 = .ok (.getfield 18, 3) := by decide +kernel
theorem dX3_firstWrong_64 : decode cX3_firstWrong 64 = .ok (.invokevirtual 133, 3) := by decide +kernel
theorem dX3_firstWrong_67 : decode cX3_firstWrong 67 = .ok (.bipush (-9), 2) := by decide +kernel
theorem dX3_firstWrong_69 : decode cX3_firstWrong 69 = .ok (.ireturn, 1) := by decide +kernel
theorem dX3_actOnTrial_0 : decode cX3_actOnTrial 0 = .ok (.iload_n 1, 1) := by decide +kernel
theorem dX3_actOnTrial_1 : decode cX3_actOnTrial 1 = .ok (.iconst 2, 1) := by decide +kernel
theorem dX3_actOnTrial_2 : decode cX3_actOnTrial 2 = .ok (.if_icmp .ne 34, 3) := by decide +kernel
theorem dX3_actOnTrial_5 : decode cX3_actOnTrial 5 = .ok (.iload_n 2, 1) := by decide +kernel
theorem dX3_actOnTrial_6 : decode cX3_actOnTrial 6 = .ok (.invokestatic 139, 3) := by decide +kernel
theorem dX3_actOnTrial_9 : decode cX3_actOnTrial 9 = .ok (.ifCond .eq 14, 3) := by decide +kernel
theorem dX3_actOnTrial_12 : decode cX3_actOnTrial 12 = .ok (.aload_n 0, 1) := by decide +kernel
theorem dX3_actOnTrial_13 : decode cX3_actOnTrial 13 = .ok (.getfield 18, 3) := by decide +kernel
theorem dX3_actOnTrial_16 : decode cX3_actOnTrial 16 = .ok (.iload_n 3, 1) := by decide +kernel
theorem dX3_actOnTrial_17 : decode cX3_actOnTrial 17 = .ok (.invokevirtual 142, 3) := by decide +kernel
theorem dX3_actOnTrial_20 : decode cX3_actOnTrial 20 = .ok (.ifCond .ne 5, 3) := by decide +kernel
theorem dX3_actOnTrial_23 : decode cX3_actOnTrial 23 = .ok (.iconst 0, 1) := by decide +kernel
theorem dX3_actOnTrial_24 : decode cX3_actOnTrial 24 = .ok (.ireturn, 1) := by decide +kernel
theorem dX3_actOnTrial_25 : decode cX3_actOnTrial 25 = .ok (.aload_n 0, 1) := by decide +kernel
theorem dX3_actOnTrial_26 : decode cX3_actOnTrial 26 = .ok (.getfield 18, 3) := by decide +kernel
theorem dX3_actOnTrial_29 : decode cX3_actOnTrial 29 = .ok (.iload_n 2, 1) := by decide +kernel
theorem dX3_actOnTrial_30 : decode cX3_actOnTrial 30 = .ok (.iload_n 3, 1) := by decide +kernel
theorem dX3_actOnTrial_31 : decode cX3_actOnTrial 31 = .ok (.invokevirtual 145, 3) := by decide +kernel
theorem dX3_actOnTrial_34 : decode cX3_actOnTrial 34 = .ok (.iconst 1, 1) := by decide +kernel
theorem dX3_actOnTrial_35 : decode cX3_actOnTrial 35 = .ok (.ireturn, 1) := by decide +kernel
theorem dX3_actOnTrial_36 : decode cX3_actOnTrial 36 = .ok (.aload_n 0, 1) := by decide +kernel
theorem dX3_actOnTrial_37 : decode cX3_actOnTrial 37 = .ok (.getfield 18, 3) := by decide +kernel
theorem dX3_actOnTrial_40 : decode cX3_actOnTrial 40 = .ok (.iload_n 2, 1) := by decide +kernel
theorem dX3_actOnTrial_41 : decode cX3_actOnTrial 41 = .ok (.invokevirtual 90, 3) := by decide +kernel
theorem dX3_actOnTrial_44 : decode cX3_actOnTrial 44 = .ok (.ifCond .ne 5, 3) := by decide +kernel
theorem dX3_actOnTrial_47 : decode cX3_actOnTrial 47 = .ok (.iconst 0, 1) := by decide +kernel
theorem dX3_actOnTrial_48 : decode cX3_actOnTrial 48 = .ok (.ireturn, 1) := by decide +kernel
theorem dX3_actOnTrial_49 : decode cX3_actOnTrial 49 = .ok (.iload_n 1, 1) := by decide +kernel
theorem dX3_actOnTrial_50 : decode cX3_actOnTrial 50 = .ok (.ifCond .ne 24, 3) := by decide +kernel
theorem dX3_actOnTrial_53 : decode cX3_actOnTrial 53 = .ok (.iload_n 3, 1) := by decide +kernel
theorem dX3_actOnTrial_54 : decode cX3_actOnTrial 54 = .ok (.invokestatic 130, 3) := by decide +kernel
theorem dX3_actOnTrial_57 : decode cX3_actOnTrial 57 = .ok (.ifCond .ne 5, 3) := by decide +kernel
theorem dX3_actOnTrial_60 : decode cX3_actOnTrial 60 = .ok (.iconst 0, 1) := by decide +kernel
theorem dX3_actOnTrial_61 : decode cX3_actOnTrial 61 = .ok (.ireturn, 1) := by decide +kernel
theorem dX3_actOnTrial_62 : decode cX3_actOnTrial 62 = .ok (.aload_n 0, 1) := by decide +kernel
theorem dX3_actOnTrial_63 : decode cX3_actOnTrial 63 = .ok (.getfield 18, 3) := by decide +kernel
theorem dX3_actOnTrial_66 : decode cX3_actOnTrial 66 = .ok (.getfield 99, 3) := by decide +kernel
theorem dX3_actOnTrial_69 : decode cX3_actOnTrial 69 = .ok (.iload_n 2, 1) := by decide +kernel
theorem dX3_actOnTrial_70 : decode cX3_actOnTrial 70 = .ok (.iload_n 3, 1) := by decide +kernel
theorem dX3_actOnTrial_71 : decode cX3_actOnTrial 71 = .ok (.iastore, 1) := by decide +kernel
theorem dX3_actOnTrial_72 : decode cX3_actOnTrial 72 = .ok (.iconst 1, 1) := by decide +kernel
theorem dX3_actOnTrial_73 : decode cX3_actOnTrial 73 = .ok (.ireturn, 1) := by decide +kernel
theorem dX3_actOnTrial_74 : decode cX3_actOnTrial 74 = .ok (.iload_n 3, 1) := by decide +kernel
theorem dX3_actOnTrial_75 : decode cX3_actOnTrial 75 = .ok (.invokestatic 136, 3) := by decide +kernel
theorem dX3_actOnTrial_78 : decode cX3_actOnTrial 78 = .ok (.ifCond .ne 5, 3) := by decide +kernel
theorem dX3_actOnTrial_81 : decode cX3_actOnTrial 81 = .ok (.iconst 0, 1) := by decide +kernel
theorem dX3_actOnTrial_82 : decode cX3_actOnTrial 82 = .ok (.ireturn, 1) := by decide +kernel
theorem dX3_actOnTrial_83 : decode cX3_actOnTrial 83 = .ok (.aload_n 0, 1) := by decide +kernel
theorem dX3_actOnTrial_84 : decode cX3_actOnTrial 84 = .ok (.getfield 18, 3) := by decide +kernel
theorem dX3_actOnTrial_87 : decode cX3_actOnTrial 87 = .ok (.getfield 96, 3) := by decide +kernel
theorem dX3_actOnTrial_90 : decode cX3_actOnTrial 90 = .ok (.iload_n 2, 1) := by decide +kernel
theorem dX3_actOnTrial_91 : decode cX3_actOnTrial 91 = .ok (.iload_n 3, 1) := by decide +kernel
theorem dX3_actOnTrial_92 : decode cX3_actOnTrial 92 = .ok (.iastore, 1) := by decide +kernel
theorem dX3_actOnTrial_93 : decode cX3_actOnTrial 93 = .ok (.iconst 1, 1) := by decide +kernel
theorem dX3_actOnTrial_94 : decode cX3_actOnTrial 94 = .ok (.ireturn, 1) := by decide +kernel
theorem dX3_ofTrial_0 : decode cX3_ofTrial 0 = .ok (.iload_n 1, 1) := by decide +kernel
theorem dX3_ofTrial_1 : decode cX3_ofTrial 1 = .ok (.tableswitch 67 0 4 #[35, 67, 43, 51, 59], 35) := by decide +kernel
theorem dX3_ofTrial_36 : decode cX3_ofTrial 36 = .ok (.aload_n 0, 1) := by decide +kernel
theorem dX3_ofTrial_37 : decode cX3_ofTrial 37 = .ok (.getfield 18, 3) := by decide +kernel
theorem dX3_ofTrial_40 : decode cX3_ofTrial 40 = .ok (.getfield 155, 3) := by decide +kernel
theorem dX3_ofTrial_43 : decode cX3_ofTrial 43 = .ok (.ireturn, 1) := by decide +kernel
theorem dX3_ofTrial_44 : decode cX3_ofTrial 44 = .ok (.aload_n 0, 1) := by decide +kernel
theorem dX3_ofTrial_45 : decode cX3_ofTrial 45 = .ok (.getfield 18, 3) := by decide +kernel
theorem dX3_ofTrial_48 : decode cX3_ofTrial 48 = .ok (.getfield 158, 3) := by decide +kernel
theorem dX3_ofTrial_51 : decode cX3_ofTrial 51 = .ok (.ireturn, 1) := by decide +kernel
theorem dX3_ofTrial_52 : decode cX3_ofTrial 52 = .ok (.aload_n 0, 1) := by decide +kernel
theorem dX3_ofTrial_53 : decode cX3_ofTrial 53 = .ok (.getfield 18, 3) := by decide +kernel
theorem dX3_ofTrial_56 : decode cX3_ofTrial 56 = .ok (.invokevirtual 161, 3) := by decide +kernel
theorem dX3_ofTrial_59 : decode cX3_ofTrial 59 = .ok (.ireturn, 1) := by decide +kernel
theorem dX3_ofTrial_60 : decode cX3_ofTrial 60 = .ok (.aload_n 0, 1) := by decide +kernel
theorem dX3_ofTrial_61 : decode cX3_ofTrial 61 = .ok (.getfield 18, 3) := by decide +kernel
theorem dX3_ofTrial_64 : decode cX3_ofTrial 64 = .ok (.invokevirtual 165, 3) := by decide +kernel
theorem dX3_ofTrial_67 : decode cX3_ofTrial 67 = .ok (.ireturn, 1) := by decide +kernel
theorem dX3_ofTrial_68 : decode cX3_ofTrial 68 = .ok (.aload_n 0, 1) := by decide +kernel
theorem dX3_ofTrial_69 : decode cX3_ofTrial 69 = .ok (.getfield 18, 3) := by decide +kernel
theorem dX3_ofTrial_72 : decode cX3_ofTrial 72 = .ok (.iload_n 1, 1) := by decide +kernel
theorem dX3_ofTrial_73 : decode cX3_ofTrial 73 = .ok (.bipush 10, 2) := by decide +kernel
theorem dX3_ofTrial_75 : decode cX3_ofTrial 75 = .ok (.isub, 1) := by decide +kernel
theorem dX3_ofTrial_76 : decode cX3_ofTrial 76 = .ok (.invokevirtual 90, 3) := by decide +kernel
theorem dX3_ofTrial_79 : decode cX3_ofTrial 79 = .ok (.ifCond .eq 18, 3) := by decide +kernel
theorem dX3_ofTrial_82 : decode cX3_ofTrial 82 = .ok (.aload_n 0, 1) := by decide +kernel
theorem dX3_ofTrial_83 : decode cX3_ofTrial 83 = .ok (.getfield 18, 3) := by decide +kernel
theorem dX3_ofTrial_86 : decode cX3_ofTrial 86 = .ok (.getfield 105, 3) := by decide +kernel
theorem dX3_ofTrial_89 : decode cX3_ofTrial 89 = .ok (.iload_n 1, 1) := by decide +kernel
theorem dX3_ofTrial_90 : decode cX3_ofTrial 90 = .ok (.bipush 10, 2) := by decide +kernel
theorem dX3_ofTrial_92 : decode cX3_ofTrial 92 = .ok (.isub, 1) := by decide +kernel
theorem dX3_ofTrial_93 : decode cX3_ofTrial 93 = .ok (.iaload, 1) := by decide +kernel
theorem dX3_ofTrial_94 : decode cX3_ofTrial 94 = .ok (.goto 5, 3) := by decide +kernel
theorem dX3_ofTrial_97 : decode cX3_ofTrial 97 = .ok (.bipush (-9), 2) := by decide +kernel
theorem dX3_ofTrial_99 : decode cX3_ofTrial 99 = .ok (.ireturn, 1) := by decide +kernel
theorem dX3_findLeast_0 : decode cX3_findLeast 0 = .ok (.iconst 0, 1) := by decide +kernel
theorem dX3_findLeast_1 : decode cX3_findLeast 1 = .ok (.istore_n 1, 1) := by decide +kernel
theorem dX3_findLeast_2 : decode cX3_findLeast 2 = .ok (.getstatic 209, 3) := by decide +kernel
theorem dX3_findLeast_5 : decode cX3_findLeast 5 = .ok (.aload_n 0, 1) := by decide +kernel
theorem dX3_findLeast_6 : decode cX3_findLeast 6 = .ok (.getfield 14, 3) := by decide +kernel
theorem dX3_findLeast_9 : decode cX3_findLeast 9 = .ok (.getfield 87, 3) := by decide +kernel
theorem dX3_findLeast_12 : decode cX3_findLeast 12 = .ok (.iaload, 1) := by decide +kernel
theorem dX3_findLeast_13 : decode cX3_findLeast 13 = .ok (.istore_n 2, 1) := by decide +kernel
theorem dX3_findLeast_14 : decode cX3_findLeast 14 = .ok (.aload_n 0, 1) := by decide +kernel
theorem dX3_findLeast_15 : decode cX3_findLeast 15 = .ok (.getfield 18, 3) := by decide +kernel
theorem dX3_findLeast_18 : decode cX3_findLeast 18 = .ok (.aload_n 0, 1) := by decide +kernel
theorem dX3_findLeast_19 : decode cX3_findLeast 19 = .ok (.getfield 14, 3) := by decide +kernel
theorem dX3_findLeast_22 : decode cX3_findLeast 22 = .ok (.invokevirtual 80, 3) := by decide +kernel
theorem dX3_findLeast_25 : decode cX3_findLeast 25 = .ok (.aload_n 0, 1) := by decide +kernel
theorem dX3_findLeast_26 : decode cX3_findLeast 26 = .ok (.getfield 18, 3) := by decide +kernel
theorem dX3_findLeast_29 : decode cX3_findLeast 29 = .ok (.invokevirtual 263, 3) := by decide +kernel
theorem dX3_findLeast_32 : decode cX3_findLeast 32 = .ok (.iconst 0, 1) := by decide +kernel
theorem dX3_findLeast_33 : decode cX3_findLeast 33 = .ok (.istore_n 3, 1) := by decide +kernel
theorem dX3_findLeast_34 : decode cX3_findLeast 34 = .ok (.iload_n 3, 1) := by decide +kernel
theorem dX3_findLeast_35 : decode cX3_findLeast 35 = .ok (.iload_n 2, 1) := by decide +kernel
theorem dX3_findLeast_36 : decode cX3_findLeast 36 = .ok (.if_icmp .ge 78, 3) := by decide +kernel
theorem dX3_findLeast_39 : decode cX3_findLeast 39 = .ok (.aload_n 0, 1) := by decide +kernel
theorem dX3_findLeast_40 : decode cX3_findLeast 40 = .ok (.getfield 18, 3) := by decide +kernel
theorem dX3_findLeast_43 : decode cX3_findLeast 43 = .ok (.invokevirtual 133, 3) := by decide +kernel
theorem dX3_findLeast_46 : decode cX3_findLeast 46 = .ok (.aload_n 0, 1) := by decide +kernel
theorem dX3_findLeast_47 : decode cX3_findLeast 47 = .ok (.getfield 18, 3) := by decide +kernel
theorem dX3_findLeast_50 : decode cX3_findLeast 50 = .ok (.getfield 155, 3) := by decide +kernel
theorem dX3_findLeast_53 : decode cX3_findLeast 53 = .ok (.aload_n 0, 1) := by decide +kernel
theorem dX3_findLeast_54 : decode cX3_findLeast 54 = .ok (.getfield 18, 3) := by decide +kernel
theorem dX3_findLeast_57 : decode cX3_findLeast 57 = .ok (.getfield 158, 3) := by decide +kernel
theorem dX3_findLeast_60 : decode cX3_findLeast 60 = .ok (.imul, 1) := by decide +kernel
theorem dX3_findLeast_61 : decode cX3_findLeast 61 = .ok (.istore 4, 2) := by decide +kernel
theorem dX3_findLeast_63 : decode cX3_findLeast 63 = .ok (.iload_n 3, 1) := by decide +kernel
theorem dX3_findLeast_64 : decode cX3_findLeast 64 = .ok (.ifCond .eq 9, 3) := by decide +kernel
theorem dX3_findLeast_67 : decode cX3_findLeast 67 = .ok (.iload 4, 2) := by decide +kernel
theorem dX3_findLeast_69 : decode cX3_findLeast 69 = .ok (.iload_n 1, 1) := by decide +kernel
theorem dX3_findLeast_70 : decode cX3_findLeast 70 = .ok (.if_icmp .ge 31, 3) := by decide +kernel
theorem dX3_findLeast_73 : decode cX3_findLeast 73 = .ok (.iload 4, 2) := by decide +kernel
theorem dX3_findLeast_75 : decode cX3_findLeast 75 = .ok (.istore_n 1, 1) := by decide +kernel
theorem dX3_findLeast_76 : decode cX3_findLeast 76 = .ok (.aload_n 0, 1) := by decide +kernel
theorem dX3_findLeast_77 : decode cX3_findLeast 77 = .ok (.getfield 18, 3) := by decide +kernel
theorem dX3_findLeast_80 : decode cX3_findLeast 80 = .ok (.getfield 149, 3) := by decide +kernel
theorem dX3_findLeast_83 : decode cX3_findLeast 83 = .ok (.iconst 1, 1) := by decide +kernel
theorem dX3_findLeast_84 : decode cX3_findLeast 84 = .ok (.aaload, 1) := by decide +kernel
theorem dX3_findLeast_85 : decode cX3_findLeast 85 = .ok (.iconst 0, 1) := by decide +kernel
theorem dX3_findLeast_86 : decode cX3_findLeast 86 = .ok (.aload_n 0, 1) := by decide +kernel
theorem dX3_findLeast_87 : decode cX3_findLeast 87 = .ok (.getfield 34, 3) := by decide +kernel
theorem dX3_findLeast_90 : decode cX3_findLeast 90 = .ok (.iconst 0, 1) := by decide +kernel
theorem dX3_findLeast_91 : decode cX3_findLeast 91 = .ok (.aload_n 0, 1) := by decide +kernel
theorem dX3_findLeast_92 : decode cX3_findLeast 92 = .ok (.getfield 18, 3) := by decide +kernel
theorem dX3_findLeast_95 : decode cX3_findLeast 95 = .ok (.getfield 87, 3) := by decide +kernel
theorem dX3_findLeast_98 : decode cX3_findLeast 98 = .ok (.invokestatic 235, 3) := by decide +kernel
theorem dX3_findLeast_101 : decode cX3_findLeast 101 = .ok (.aload_n 0, 1) := by decide +kernel
theorem dX3_findLeast_102 : decode cX3_findLeast 102 = .ok (.getfield 18, 3) := by decide +kernel
theorem dX3_findLeast_105 : decode cX3_findLeast 105 = .ok (.invokevirtual 266, 3) := by decide +kernel
theorem dX3_findLeast_108 : decode cX3_findLeast 108 = .ok (.iinc 3 1, 3) := by decide +kernel
theorem dX3_findLeast_111 : decode cX3_findLeast 111 = .ok (.goto (-77), 3) := by decide +kernel
theorem dX3_findLeast_114 : decode cX3_findLeast 114 = .ok (.iload_n 1, 1) := by decide +kernel
theorem dX3_findLeast_115 : decode cX3_findLeast 115 = .ok (.ireturn, 1) := by decide +kernel
theorem dX3_ordersWithin_0 : decode cX3_ordersWithin 0 = .ok (.iconst 0, 1) := by decide +kernel
theorem dX3_ordersWithin_1 : decode cX3_ordersWithin 1 = .ok (.istore_n 2, 1) := by decide +kernel
theorem dX3_ordersWithin_2 : decode cX3_ordersWithin 2 = .ok (.getstatic 209, 3) := by decide +kernel
theorem dX3_ordersWithin_5 : decode cX3_ordersWithin 5 = .ok (.aload_n 0, 1) := by decide +kernel
theorem dX3_ordersWithin_6 : decode cX3_ordersWithin 6 = .ok (.getfield 14, 3) := by decide +kernel
theorem dX3_ordersWithin_9 : decode cX3_ordersWithin 9 = .ok (.getfield 87, 3) := by decide +kernel
theorem dX3_ordersWithin_12 : decode cX3_ordersWithin 12 = .ok (.iaload, 1) := by decide +kernel
theorem dX3_ordersWithin_13 : decode cX3_ordersWithin 13 = .ok (.istore_n 3, 1) := by decide +kernel
theorem dX3_ordersWithin_14 : decode cX3_ordersWithin 14 = .ok (.aload_n 0, 1) := by decide +kernel
theorem dX3_ordersWithin_15 : decode cX3_ordersWithin 15 = .ok (.getfield 18, 3) := by decide +kernel
theorem dX3_ordersWithin_18 : decode cX3_ordersWithin 18 = .ok (.aload_n 0, 1) := by decide +kernel
theorem dX3_ordersWithin_19 : decode cX3_ordersWithin 19 = .ok (.getfield 14, 3) := by decide +kernel
theorem dX3_ordersWithin_22 : decode cX3_ordersWithin 22 = .ok (.invokevirtual 80, 3) := by decide +kernel
theorem dX3_ordersWithin_25 : decode cX3_ordersWithin 25 = .ok (.aload_n 0, 1) := by decide +kernel
theorem dX3_ordersWithin_26 : decode cX3_ordersWithin 26 = .ok (.getfield 18, 3) := by decide +kernel
theorem dX3_ordersWithin_29 : decode cX3_ordersWithin 29 = .ok (.invokevirtual 263, 3) := by decide +kernel
theorem dX3_ordersWithin_32 : decode cX3_ordersWithin 32 = .ok (.iconst 0, 1) := by decide +kernel
theorem dX3_ordersWithin_33 : decode cX3_ordersWithin 33 = .ok (.istore 4, 2) := by decide +kernel
theorem dX3_ordersWithin_35 : decode cX3_ordersWithin 35 = .ok (.iload 4, 2) := by decide +kernel
theorem dX3_ordersWithin_37 : decode cX3_ordersWithin 37 = .ok (.iload_n 3, 1) := by decide +kernel
theorem dX3_ordersWithin_38 : decode cX3_ordersWithin 38 = .ok (.if_icmp .ge 45, 3) := by decide +kernel
theorem dX3_ordersWithin_41 : decode cX3_ordersWithin 41 = .ok (.aload_n 0, 1) := by decide +kernel
theorem dX3_ordersWithin_42 : decode cX3_ordersWithin 42 = .ok (.getfield 18, 3) := by decide +kernel
theorem dX3_ordersWithin_45 : decode cX3_ordersWithin 45 = .ok (.invokevirtual 133, 3) := by decide +kernel
theorem dX3_ordersWithin_48 : decode cX3_ordersWithin 48 = .ok (.aload_n 0, 1) := by decide +kernel
theorem dX3_ordersWithin_49 : decode cX3_ordersWithin 49 = .ok (.getfield 18, 3) := by decide +kernel
theorem dX3_ordersWithin_52 : decode cX3_ordersWithin 52 = .ok (.getfield 155, 3) := by decide +kernel
theorem dX3_ordersWithin_55 : decode cX3_ordersWithin 55 = .ok (.aload_n 0, 1) := by decide +kernel
theorem dX3_ordersWithin_56 : decode cX3_ordersWithin 56 = .ok (.getfield 18, 3) := by decide +kernel
theorem dX3_ordersWithin_59 : decode cX3_ordersWithin 59 = .ok (.getfield 158, 3) := by decide +kernel
theorem dX3_ordersWithin_62 : decode cX3_ordersWithin 62 = .ok (.imul, 1) := by decide +kernel
theorem dX3_ordersWithin_63 : decode cX3_ordersWithin 63 = .ok (.iload_n 1, 1) := by decide +kernel
theorem dX3_ordersWithin_64 : decode cX3_ordersWithin 64 = .ok (.if_icmp .gt 6, 3) := by decide +kernel
theorem dX3_ordersWithin_67 : decode cX3_ordersWithin 67 = .ok (.iinc 2 1, 3) := by decide +kernel
theorem dX3_ordersWithin_70 : decode cX3_ordersWithin 70 = .ok (.aload_n 0, 1) := by decide +kernel
theorem dX3_ordersWithin_71 : decode cX3_ordersWithin 71 = .ok (.getfield 18, 3) := by decide +kernel
theorem dX3_ordersWithin_74 : decode cX3_ordersWithin 74 = .ok (.invokevirtual 266, 3) := by decide +kernel
theorem dX3_ordersWithin_77 : decode cX3_ordersWithin 77 = .ok (.iinc 4 1, 3) := by decide +kernel
theorem dX3_ordersWithin_80 : decode cX3_ordersWithin 80 = .ok (.goto (-45), 3) := by decide +kernel
theorem dX3_ordersWithin_83 : decode cX3_ordersWithin 83 = .ok (.iload_n 2, 1) := by decide +kernel
theorem dX3_ordersWithin_84 : decode cX3_ordersWithin 84 = .ok (.ireturn, 1) := by decide +kernel
theorem dX3_commonDivisor_0 : decode cX3_commonDivisor 0 = .ok (.iload_n 1, 1) := by decide +kernel
theorem dX3_commonDivisor_1 : decode cX3_commonDivisor 1 = .ok (.istore_n 2, 1) := by decide +kernel
theorem dX3_commonDivisor_2 : decode cX3_commonDivisor 2 = .ok (.iload_n 0, 1) := by decide +kernel
theorem dX3_commonDivisor_3 : decode cX3_commonDivisor 3 = .ok (.istore_n 3, 1) := by decide +kernel
theorem dX3_commonDivisor_4 : decode cX3_commonDivisor 4 = .ok (.iconst 0, 1) := by decide +kernel
theorem dX3_commonDivisor_5 : decode cX3_commonDivisor 5 = .ok (.istore 4, 2) := by decide +kernel
theorem dX3_commonDivisor_7 : decode cX3_commonDivisor 7 = .ok (.iload 4, 2) := by decide +kernel
theorem dX3_commonDivisor_9 : decode cX3_commonDivisor 9 = .ok (.bipush 64, 2) := by decide +kernel
theorem dX3_commonDivisor_11 : decode cX3_commonDivisor 11 = .ok (.if_icmp .ge 23, 3) := by decide +kernel
theorem dX3_commonDivisor_14 : decode cX3_commonDivisor 14 = .ok (.iload_n 3, 1) := by decide +kernel
theorem dX3_commonDivisor_15 : decode cX3_commonDivisor 15 = .ok (.ifCond .eq 19, 3) := by decide +kernel
theorem dX3_commonDivisor_18 : decode cX3_commonDivisor 18 = .ok (.iload_n 2, 1) := by decide +kernel
theorem dX3_commonDivisor_19 : decode cX3_commonDivisor 19 = .ok (.iload_n 3, 1) := by decide +kernel
theorem dX3_commonDivisor_20 : decode cX3_commonDivisor 20 = .ok (.irem, 1) := by decide +kernel
theorem dX3_commonDivisor_21 : decode cX3_commonDivisor 21 = .ok (.istore 5, 2) := by decide +kernel
theorem dX3_commonDivisor_23 : decode cX3_commonDivisor 23 = .ok (.iload_n 3, 1) := by decide +kernel
theorem dX3_commonDivisor_24 : decode cX3_commonDivisor 24 = .ok (.istore_n 2, 1) := by decide +kernel
theorem dX3_commonDivisor_25 : decode cX3_commonDivisor 25 = .ok (.iload 5, 2) := by decide +kernel
theorem dX3_commonDivisor_27 : decode cX3_commonDivisor 27 = .ok (.istore_n 3, 1) := by decide +kernel
theorem dX3_commonDivisor_28 : decode cX3_commonDivisor 28 = .ok (.iinc 4 1, 3) := by decide +kernel
theorem dX3_commonDivisor_31 : decode cX3_commonDivisor 31 = .ok (.goto (-24), 3) := by decide +kernel
theorem dX3_commonDivisor_34 : decode cX3_commonDivisor 34 = .ok (.iload_n 2, 1) := by decide +kernel
theorem dX3_commonDivisor_35 : decode cX3_commonDivisor 35 = .ok (.ireturn, 1) := by decide +kernel
theorem dX3_allAreAreas_0 : decode cX3_allAreAreas 0 = .ok (.iconst 0, 1) := by decide +kernel
theorem dX3_allAreAreas_1 : decode cX3_allAreAreas 1 = .ok (.istore 4, 2) := by decide +kernel
theorem dX3_allAreAreas_3 : decode cX3_allAreAreas 3 = .ok (.iload 4, 2) := by decide +kernel
theorem dX3_allAreAreas_5 : decode cX3_allAreAreas 5 = .ok (.iload_n 3, 1) := by decide +kernel
theorem dX3_allAreAreas_6 : decode cX3_allAreAreas 6 = .ok (.if_icmp .ge 27, 3) := by decide +kernel
theorem dX3_allAreAreas_9 : decode cX3_allAreAreas 9 = .ok (.aload_n 0, 1) := by decide +kernel
theorem dX3_allAreAreas_10 : decode cX3_allAreAreas 10 = .ok (.getfield 14, 3) := by decide +kernel
theorem dX3_allAreAreas_13 : decode cX3_allAreAreas 13 = .ok (.aload_n 1, 1) := by decide +kernel
theorem dX3_allAreAreas_14 : decode cX3_allAreAreas 14 = .ok (.iload_n 2, 1) := by decide +kernel
theorem dX3_allAreAreas_15 : decode cX3_allAreAreas 15 = .ok (.iload 4, 2) := by decide +kernel
theorem dX3_allAreAreas_17 : decode cX3_allAreAreas 17 = .ok (.iadd, 1) := by decide +kernel
theorem dX3_allAreAreas_18 : decode cX3_allAreAreas 18 = .ok (.iaload, 1) := by decide +kernel
theorem dX3_allAreAreas_19 : decode cX3_allAreAreas 19 = .ok (.invokevirtual 90, 3) := by decide +kernel
theorem dX3_allAreAreas_22 : decode cX3_allAreAreas 22 = .ok (.ifCond .ne 5, 3) := by decide +kernel
theorem dX3_allAreAreas_25 : decode cX3_allAreAreas 25 = .ok (.iconst 0, 1) := by decide +kernel
theorem dX3_allAreAreas_26 : decode cX3_allAreAreas 26 = .ok (.ireturn, 1) := by decide +kernel
theorem dX3_allAreAreas_27 : decode cX3_allAreAreas 27 = .ok (.iinc 4 1, 3) := by decide +kernel
theorem dX3_allAreAreas_30 : decode cX3_allAreAreas 30 = .ok (.goto (-27), 3) := by decide +kernel
theorem dX3_allAreAreas_33 : decode cX3_allAreAreas 33 = .ok (.iconst 1, 1) := by decide +kernel
theorem dX3_allAreAreas_34 : decode cX3_allAreAreas 34 = .ok (.ireturn, 1) := by decide +kernel
theorem dX3_readingsHold_0 : decode cX3_readingsHold 0 = .ok (.iconst 0, 1) := by decide +kernel
theorem dX3_readingsHold_1 : decode cX3_readingsHold 1 = .ok (.istore_n 1, 1) := by decide +kernel
theorem dX3_readingsHold_2 : decode cX3_readingsHold 2 = .ok (.iload_n 1, 1) := by decide +kernel
theorem dX3_readingsHold_3 : decode cX3_readingsHold 3 = .ok (.aload_n 0, 1) := by decide +kernel
theorem dX3_readingsHold_4 : decode cX3_readingsHold 4 = .ok (.getfield 84, 3) := by decide +kernel
theorem dX3_readingsHold_7 : decode cX3_readingsHold 7 = .ok (.if_icmp .ge 34, 3) := by decide +kernel
theorem dX3_readingsHold_10 : decode cX3_readingsHold 10 = .ok (.aload_n 0, 1) := by decide +kernel
theorem dX3_readingsHold_11 : decode cX3_readingsHold 11 = .ok (.getfield 18, 3) := by decide +kernel
theorem dX3_readingsHold_14 : decode cX3_readingsHold 14 = .ok (.getfield 108, 3) := by decide +kernel
theorem dX3_readingsHold_17 : decode cX3_readingsHold 17 = .ok (.aload_n 0, 1) := by decide +kernel
theorem dX3_readingsHold_18 : decode cX3_readingsHold 18 = .ok (.getfield 38, 3) := by decide +kernel
theorem dX3_readingsHold_21 : decode cX3_readingsHold 21 = .ok (.iload_n 1, 1) := by decide +kernel
theorem dX3_readingsHold_22 : decode cX3_readingsHold 22 = .ok (.iaload, 1) := by decide +kernel
theorem dX3_readingsHold_23 : decode cX3_readingsHold 23 = .ok (.iaload, 1) := by decide +kernel
theorem dX3_readingsHold_24 : decode cX3_readingsHold 24 = .ok (.aload_n 0, 1) := by decide +kernel
theorem dX3_readingsHold_25 : decode cX3_readingsHold 25 = .ok (.getfield 41, 3) := by decide +kernel
theorem dX3_readingsHold_28 : decode cX3_readingsHold 28 = .ok (.iload_n 1, 1) := by decide +kernel
theorem dX3_readingsHold_29 : decode cX3_readingsHold 29 = .ok (.iaload, 1) := by decide +kernel
theorem dX3_readingsHold_30 : decode cX3_readingsHold 30 = .ok (.if_icmp .eq 5, 3) := by decide +kernel
theorem dX3_readingsHold_33 : decode cX3_readingsHold 33 = .ok (.iconst 0, 1) := by decide +kernel
theorem dX3_readingsHold_34 : decode cX3_readingsHold 34 = .ok (.ireturn, 1) := by decide +kernel
theorem dX3_readingsHold_35 : decode cX3_readingsHold 35 = .ok (.iinc 1 1, 3) := by decide +kernel
theorem dX3_readingsHold_38 : decode cX3_readingsHold 38 = .ok (.goto (-36), 3) := by decide +kernel
theorem dX3_readingsHold_41 : decode cX3_readingsHold 41 = .ok (.iconst 1, 1) := by decide +kernel
theorem dX3_readingsHold_42 : decode cX3_readingsHold 42 = .ok (.ireturn, 1) := by decide +kernel
theorem dX3_leave_0 : decode cX3_leave 0 = .ok (.aload_n 0, 1) := by decide +kernel
theorem dX3_leave_1 : decode cX3_leave 1 = .ok (.bipush 31, 2) := by decide +kernel
theorem dX3_leave_3 : decode cX3_leave 3 = .ok (.aload_n 0, 1) := by decide +kernel
theorem dX3_leave_4 : decode cX3_leave 4 = .ok (.getfield 256, 3) := by decide +kernel
theorem dX3_leave_7 : decode cX3_leave 7 = .ok (.imul, 1) := by decide +kernel
theorem dX3_leave_8 : decode cX3_leave 8 = .ok (.iload_n 1, 1) := by decide +kernel
theorem dX3_leave_9 : decode cX3_leave 9 = .ok (.iadd, 1) := by decide +kernel
theorem dX3_leave_10 : decode cX3_leave 10 = .ok (.putfield 256, 3) := by decide +kernel
theorem dX3_leave_13 : decode cX3_leave 13 = .ok (.return_, 1) := by decide +kernel
theorem dX3_plainBody_0 : decode cX3_plainBody 0 = .ok (.aload_n 0, 1) := by decide +kernel
theorem dX3_plainBody_1 : decode cX3_plainBody 1 = .ok (.iconst 1, 1) := by decide +kernel
theorem dX3_plainBody_2 : decode cX3_plainBody 2 = .ok (.invokevirtual 269, 3) := by decide +kernel
theorem dX3_plainBody_5 : decode cX3_plainBody 5 = .ok (.aload_n 0, 1) := by decide +kernel
theorem dX3_plainBody_6 : decode cX3_plainBody 6 = .ok (.getfield 14, 3) := by decide +kernel
theorem dX3_plainBody_9 : decode cX3_plainBody 9 = .ok (.getfield 96, 3) := by decide +kernel
theorem dX3_plainBody_12 : decode cX3_plainBody 12 = .ok (.iload_n 1, 1) := by decide +kernel
theorem dX3_plainBody_13 : decode cX3_plainBody 13 = .ok (.iaload, 1) := by decide +kernel
theorem dX3_plainBody_14 : decode cX3_plainBody 14 = .ok (.ireturn, 1) := by decide +kernel
theorem dX3_broadBody_0 : decode cX3_broadBody 0 = .ok (.aload_n 0, 1) := by decide +kernel
theorem dX3_broadBody_1 : decode cX3_broadBody 1 = .ok (.iconst 2, 1) := by decide +kernel
theorem dX3_broadBody_2 : decode cX3_broadBody 2 = .ok (.invokevirtual 269, 3) := by decide +kernel
theorem dX3_broadBody_5 : decode cX3_broadBody 5 = .ok (.aload_n 0, 1) := by decide +kernel
theorem dX3_broadBody_6 : decode cX3_broadBody 6 = .ok (.iload_n 1, 1) := by decide +kernel
theorem dX3_broadBody_7 : decode cX3_broadBody 7 = .ok (.invokevirtual 247, 3) := by decide +kernel
theorem dX3_broadBody_10 : decode cX3_broadBody 10 = .ok (.bipush 100, 2) := by decide +kernel
theorem dX3_broadBody_12 : decode cX3_broadBody 12 = .ok (.iadd, 1) := by decide +kernel
theorem dX3_broadBody_13 : decode cX3_broadBody 13 = .ok (.ireturn, 1) := by decide +kernel
theorem dX3_doubleBody_0 : decode cX3_doubleBody 0 = .ok (.aload_n 0, 1) := by decide +kernel
theorem dX3_doubleBody_1 : decode cX3_doubleBody 1 = .ok (.iconst 3, 1) := by decide +kernel
theorem dX3_doubleBody_2 : decode cX3_doubleBody 2 = .ok (.invokevirtual 269, 3) := by decide +kernel
theorem dX3_doubleBody_5 : decode cX3_doubleBody 5 = .ok (.aload_n 0, 1) := by decide +kernel
theorem dX3_doubleBody_6 : decode cX3_doubleBody 6 = .ok (.iload_n 1, 1) := by decide +kernel
theorem dX3_doubleBody_7 : decode cX3_doubleBody 7 = .ok (.invokevirtual 244, 3) := by decide +kernel
theorem dX3_doubleBody_10 : decode cX3_doubleBody 10 = .ok (.istore_n 2, 1) := by decide +kernel
theorem dX3_doubleBody_11 : decode cX3_doubleBody 11 = .ok (.iload_n 2, 1) := by decide +kernel
theorem dX3_doubleBody_12 : decode cX3_doubleBody 12 = .ok (.aload_n 0, 1) := by decide +kernel
theorem dX3_doubleBody_13 : decode cX3_doubleBody 13 = .ok (.iload_n 1, 1) := by decide +kernel
theorem dX3_doubleBody_14 : decode cX3_doubleBody 14 = .ok (.invokevirtual 247, 3) := by decide +kernel
theorem dX3_doubleBody_17 : decode cX3_doubleBody 17 = .ok (.iadd, 1) := by decide +kernel
theorem dX3_doubleBody_18 : decode cX3_doubleBody 18 = .ok (.ireturn, 1) := by decide +kernel
theorem dX3_lentBody_0 : decode cX3_lentBody 0 = .ok (.aload_n 0, 1) := by decide +kernel
theorem dX3_lentBody_1 : decode cX3_lentBody 1 = .ok (.iconst 4, 1) := by decide +kernel
theorem dX3_lentBody_2 : decode cX3_lentBody 2 = .ok (.invokevirtual 269, 3) := by decide +kernel
theorem dX3_lentBody_5 : decode cX3_lentBody 5 = .ok (.aload_n 0, 1) := by decide +kernel
theorem dX3_lentBody_6 : decode cX3_lentBody 6 = .ok (.getfield 14, 3) := by decide +kernel
theorem dX3_lentBody_9 : decode cX3_lentBody 9 = .ok (.getfield 99, 3) := by decide +kernel
theorem dX3_lentBody_12 : decode cX3_lentBody 12 = .ok (.iload_n 1, 1) := by decide +kernel
theorem dX3_lentBody_13 : decode cX3_lentBody 13 = .ok (.iaload, 1) := by decide +kernel
theorem dX3_lentBody_14 : decode cX3_lentBody 14 = .ok (.ireturn, 1) := by decide +kernel
theorem dX3_ownBody_0 : decode cX3_ownBody 0 = .ok (.aload_n 0, 1) := by decide +kernel
theorem dX3_ownBody_1 : decode cX3_ownBody 1 = .ok (.iconst 5, 1) := by decide +kernel
theorem dX3_ownBody_2 : decode cX3_ownBody 2 = .ok (.invokevirtual 269, 3) := by decide +kernel
theorem dX3_ownBody_5 : decode cX3_ownBody 5 = .ok (.aload_n 0, 1) := by decide +kernel
theorem dX3_ownBody_6 : decode cX3_ownBody 6 = .ok (.iload_n 1, 1) := by decide +kernel
theorem dX3_ownBody_7 : decode cX3_ownBody 7 = .ok (.invokevirtual 253, 3) := by decide +kernel
theorem dX3_ownBody_10 : decode cX3_ownBody 10 = .ok (.bipush 30, 2) := by decide +kernel
theorem dX3_ownBody_12 : decode cX3_ownBody 12 = .ok (.iadd, 1) := by decide +kernel
theorem dX3_ownBody_13 : decode cX3_ownBody 13 = .ok (.ireturn, 1) := by decide +kernel
