theorem dX7_init_117 : decode cX7_init 117 = .ok (.new 37, 3) := by decide +kernel
theorem dX7_init_120 : decode cX7_init 120 = .ok (.dup, 1) := by decide +kernel
theorem dX7_init_121 : decode cX7_init 121 = .ok (.bipush 12, 2) := by decide +kernel
theorem dX7_init_123 : decode cX7_init 123 = .ok (.iconst 2, 1) := by decide +kernel
theorem dX7_init_124 : decode cX7_init 124 = .ok (.invokespecial 39, 3) := by decide +kernel
theorem dX7_init_127 : decode cX7_init 127 = .ok (.putfield 66, 3) := by decide +kernel
theorem dX7_init_130 : decode cX7_init 130 = .ok (.aload_n 0, 1) := by decide +kernel
theorem dX7_init_131 : decode cX7_init 131 = .ok (.new 37, 3) := by decide +kernel
theorem dX7_init_134 : decode cX7_init 134 = .ok (.dup, 1) := by decide +kernel
theorem dX7_init_135 : decode cX7_init 135 = .ok (.iconst 5, 1) := by decide +kernel
theorem dX7_init_136 : decode cX7_init 136 = .ok (.iconst 3, 1) := by decide +kernel
theorem dX7_init_137 : decode cX7_init 137 = .ok (.invokespecial 39, 3) := by decide +kernel
theorem dX7_init_140 : decode cX7_init 140 = .ok (.putfield 69, 3) := by decide +kernel
theorem dX7_init_143 : decode cX7_init 143 = .ok (.aload_n 0, 1) := by decide +kernel
theorem dX7_init_144 : decode cX7_init 144 = .ok (.new 72, 3) := by decide +kernel
theorem dX7_init_147 : decode cX7_init 147 = .ok (.dup, 1) := by decide +kernel
theorem dX7_init_148 : decode cX7_init 148 = .ok (.invokespecial 74, 3) := by decide +kernel
theorem dX7_init_151 : decode cX7_init 151 = .ok (.putfield 75, 3) := by decide +kernel
theorem dX7_init_154 : decode cX7_init 154 = .ok (.aload_n 0, 1) := by decide +kernel
theorem dX7_init_155 : decode cX7_init 155 = .ok (.iconst 0, 1) := by decide +kernel
theorem dX7_init_156 : decode cX7_init 156 = .ok (.putfield 79, 3) := by decide +kernel
theorem dX7_init_159 : decode cX7_init 159 = .ok (.aload_n 0, 1) := by decide +kernel
theorem dX7_init_160 : decode cX7_init 160 = .ok (.iconst 0, 1) := by decide +kernel
theorem dX7_init_161 : decode cX7_init 161 = .ok (.putfield 83, 3) := by decide +kernel
theorem dX7_init_164 : decode cX7_init 164 = .ok (.iconst 0, 1) := by decide +kernel
theorem dX7_init_165 : decode cX7_init 165 = .ok (.istore_n 1, 1) := by decide +kernel
theorem dX7_init_166 : decode cX7_init 166 = .ok (.iload_n 1, 1) := by decide +kernel
theorem dX7_init_167 : decode cX7_init 167 = .ok (.iconst 4, 1) := by decide +kernel
theorem dX7_init_168 : decode cX7_init 168 = .ok (.if_icmp .ge 17, 3) := by decide +kernel
theorem dX7_init_171 : decode cX7_init 171 = .ok (.aload_n 0, 1) := by decide +kernel
theorem dX7_init_172 : decode cX7_init 172 = .ok (.getfield 13, 3) := by decide +kernel
theorem dX7_init_175 : decode cX7_init 175 = .ok (.iload_n 1, 1) := by decide +kernel
theorem dX7_init_176 : decode cX7_init 176 = .ok (.bipush 30, 2) := by decide +kernel
theorem dX7_init_178 : decode cX7_init 178 = .ok (.iastore, 1) := by decide +kernel
theorem dX7_init_179 : decode cX7_init 179 = .ok (.iinc 1 1, 3) := by decide +kernel
theorem dX7_init_182 : decode cX7_init 182 = .ok (.goto (-16), 3) := by decide +kernel
theorem dX7_init_185 : decode cX7_init 185 = .ok (.iconst 0, 1) := by decide +kernel
theorem dX7_init_186 : decode cX7_init 186 = .ok (.istore_n 1, 1) := by decide +kernel
theorem dX7_init_187 : decode cX7_init 187 = .ok (.iload_n 1, 1) := by decide +kernel
theorem dX7_init_188 : decode cX7_init 188 = .ok (.bipush 12, 2) := by decide +kernel
theorem dX7_init_190 : decode cX7_init 190 = .ok (.if_icmp .ge 19, 3) := by decide +kernel
theorem dX7_init_193 : decode cX7_init 193 = .ok (.aload_n 0, 1) := by decide +kernel
theorem dX7_init_194 : decode cX7_init 194 = .ok (.getfield 66, 3) := by decide +kernel
theorem dX7_init_197 : decode cX7_init 197 = .ok (.iload_n 1, 1) := by decide +kernel
theorem dX7_init_198 : decode cX7_init 198 = .ok (.iconst 0, 1) := by decide +kernel
theorem dX7_init_199 : decode cX7_init 199 = .ok (.iconst 4, 1) := by decide +kernel
theorem dX7_init_200 : decode cX7_init 200 = .ok (.invokevirtual 86, 3) := by decide +kernel
theorem dX7_init_203 : decode cX7_init 203 = .ok (.iinc 1 1, 3) := by decide +kernel
theorem dX7_init_206 : decode cX7_init 206 = .ok (.goto (-19), 3) := by decide +kernel
theorem dX7_init_209 : decode cX7_init 209 = .ok (.iconst 0, 1) := by decide +kernel
theorem dX7_init_210 : decode cX7_init 210 = .ok (.istore_n 1, 1) := by decide +kernel
theorem dX7_init_211 : decode cX7_init 211 = .ok (.iload_n 1, 1) := by decide +kernel
theorem dX7_init_212 : decode cX7_init 212 = .ok (.iconst 5, 1) := by decide +kernel
theorem dX7_init_213 : decode cX7_init 213 = .ok (.if_icmp .ge 48, 3) := by decide +kernel
theorem dX7_init_216 : decode cX7_init 216 = .ok (.aload_n 0, 1) := by decide +kernel
theorem dX7_init_217 : decode cX7_init 217 = .ok (.getfield 69, 3) := by decide +kernel
theorem dX7_init_220 : decode cX7_init 220 = .ok (.iload_n 1, 1) := by decide +kernel
theorem dX7_init_221 : decode cX7_init 221 = .ok (.iconst 0, 1) := by decide +kernel
theorem dX7_init_222 : decode cX7_init 222 = .ok (.bipush 100, 2) := by decide +kernel
theorem dX7_init_224 : decode cX7_init 224 = .ok (.iload_n 1, 1) := by decide +kernel
theorem dX7_init_225 : decode cX7_init 225 = .ok (.imul, 1) := by decide +kernel
theorem dX7_init_226 : decode cX7_init 226 = .ok (.invokevirtual 86, 3) := by decide +kernel
theorem dX7_init_229 : decode cX7_init 229 = .ok (.aload_n 0, 1) := by decide +kernel
theorem dX7_init_230 : decode cX7_init 230 = .ok (.getfield 69, 3) := by decide +kernel
theorem dX7_init_233 : decode cX7_init 233 = .ok (.iload_n 1, 1) := by decide +kernel
theorem dX7_init_234 : decode cX7_init 234 = .ok (.iconst 1, 1) := by decide +kernel
theorem dX7_init_235 : decode cX7_init 235 = .ok (.bipush 50, 2) := by decide +kernel
theorem dX7_init_237 : decode cX7_init 237 = .ok (.iload_n 1, 1) := by decide +kernel
theorem dX7_init_238 : decode cX7_init 238 = .ok (.imul, 1) := by decide +kernel
theorem dX7_init_239 : decode cX7_init 239 = .ok (.invokevirtual 86, 3) := by decide +kernel
theorem dX7_init_242 : decode cX7_init 242 = .ok (.aload_n 0, 1) := by decide +kernel
theorem dX7_init_243 : decode cX7_init 243 = .ok (.getfield 69, 3) := by decide +kernel
theorem dX7_init_246 : decode cX7_init 246 = .ok (.iload_n 1, 1) := by decide +kernel
theorem dX7_init_247 : decode cX7_init 247 = .ok (.iconst 2, 1) := by decide +kernel
theorem dX7_init_248 : decode cX7_init 248 = .ok (.bipush 80, 2) := by decide +kernel
theorem dX7_init_250 : decode cX7_init 250 = .ok (.iload_n 1, 1) := by decide +kernel
theorem dX7_init_251 : decode cX7_init 251 = .ok (.imul, 1) := by decide +kernel
theorem dX7_init_252 : decode cX7_init 252 = .ok (.invokevirtual 86, 3) := by decide +kernel
theorem dX7_init_255 : decode cX7_init 255 = .ok (.iinc 1 1, 3) := by decide +kernel
theorem dX7_init_258 : decode cX7_init 258 = .ok (.goto (-47), 3) := by decide +kernel
theorem dX7_init_261 : decode cX7_init 261 = .ok (.return_, 1) := by decide +kernel
theorem dX7_buy_0 : decode cX7_buy 0 = .ok (.iload_n 1, 1) := by decide +kernel
theorem dX7_buy_1 : decode cX7_buy 1 = .ok (.iconst 0, 1) := by decide +kernel
theorem dX7_buy_2 : decode cX7_buy 2 = .ok (.iconst 5, 1) := by decide +kernel
theorem dX7_buy_3 : decode cX7_buy 3 = .ok (.invokestatic 90, 3) := by decide +kernel
theorem dX7_buy_6 : decode cX7_buy 6 = .ok (.ifCond .eq 14, 3) := by decide +kernel
theorem dX7_buy_9 : decode cX7_buy 9 = .ok (.iload_n 2, 1) := by decide +kernel
theorem dX7_buy_10 : decode cX7_buy 10 = .ok (.iconst 0, 1) := by decide +kernel
theorem dX7_buy_11 : decode cX7_buy 11 = .ok (.sipush 10000, 3) := by decide +kernel
theorem dX7_buy_14 : decode cX7_buy 14 = .ok (.invokestatic 90, 3) := by decide +kernel
theorem dX7_buy_17 : decode cX7_buy 17 = .ok (.ifCond .ne 6, 3) := by decide +kernel
theorem dX7_buy_20 : decode cX7_buy 20 = .ok (.bipush (-2), 2) := by decide +kernel
theorem dX7_buy_22 : decode cX7_buy 22 = .ok (.ireturn, 1) := by decide +kernel
theorem dX7_buy_23 : decode cX7_buy 23 = .ok (.aload_n 0, 1) := by decide +kernel
theorem dX7_buy_24 : decode cX7_buy 24 = .ok (.getfield 9, 3) := by decide +kernel
theorem dX7_buy_27 : decode cX7_buy 27 = .ok (.iload_n 1, 1) := by decide +kernel
theorem dX7_buy_28 : decode cX7_buy 28 = .ok (.iaload, 1) := by decide +kernel
theorem dX7_buy_29 : decode cX7_buy 29 = .ok (.iload_n 2, 1) := by decide +kernel
theorem dX7_buy_30 : decode cX7_buy 30 = .ok (.iadd, 1) := by decide +kernel
theorem dX7_buy_31 : decode cX7_buy 31 = .ok (.sipush 10000, 3) := by decide +kernel
theorem dX7_buy_34 : decode cX7_buy 34 = .ok (.if_icmp .le 6, 3) := by decide +kernel
theorem dX7_buy_37 : decode cX7_buy 37 = .ok (.bipush (-3), 2) := by decide +kernel
theorem dX7_buy_39 : decode cX7_buy 39 = .ok (.ireturn, 1) := by decide +kernel
theorem dX7_buy_40 : decode cX7_buy 40 = .ok (.aload_n 0, 1) := by decide +kernel
theorem dX7_buy_41 : decode cX7_buy 41 = .ok (.getfield 9, 3) := by decide +kernel
theorem dX7_buy_44 : decode cX7_buy 44 = .ok (.iload_n 1, 1) := by decide +kernel
theorem dX7_buy_45 : decode cX7_buy 45 = .ok (.dup2, 1) := by decide +kernel
theorem dX7_buy_46 : decode cX7_buy 46 = .ok (.iaload, 1) := by decide +kernel
theorem dX7_buy_47 : decode cX7_buy 47 = .ok (.iload_n 2, 1) := by decide +kernel
theorem dX7_buy_48 : decode cX7_buy 48 = .ok (.iadd, 1) := by decide +kernel
theorem dX7_buy_49 : decode cX7_buy 49 = .ok (.iastore, 1) := by decide +kernel
theorem dX7_buy_50 : decode cX7_buy 50 = .ok (.aload_n 0, 1) := by decide +kernel
theorem dX7_buy_51 : decode cX7_buy 51 = .ok (.getfield 9, 3) := by decide +kernel
theorem dX7_buy_54 : decode cX7_buy 54 = .ok (.iload_n 1, 1) := by decide +kernel
theorem dX7_buy_55 : decode cX7_buy 55 = .ok (.iaload, 1) := by decide +kernel
theorem dX7_buy_56 : decode cX7_buy 56 = .ok (.ireturn, 1) := by decide +kernel
theorem dX7_rich_0 : decode cX7_rich 0 = .ok (.iload_n 1, 1) := by decide +kernel
theorem dX7_rich_1 : decode cX7_rich 1 = .ok (.iconst 0, 1) := by decide +kernel
theorem dX7_rich_2 : decode cX7_rich 2 = .ok (.iconst 3, 1) := by decide +kernel
theorem dX7_rich_3 : decode cX7_rich 3 = .ok (.invokestatic 90, 3) := by decide +kernel
theorem dX7_rich_6 : decode cX7_rich 6 = .ok (.ifCond .eq 14, 3) := by decide +kernel
theorem dX7_rich_9 : decode cX7_rich 9 = .ok (.iload_n 2, 1) := by decide +kernel
theorem dX7_rich_10 : decode cX7_rich 10 = .ok (.bipush 10, 2) := by decide +kernel
theorem dX7_rich_12 : decode cX7_rich 12 = .ok (.bipush 60, 2) := by decide +kernel
theorem dX7_rich_14 : decode cX7_rich 14 = .ok (.invokestatic 90, 3) := by decide +kernel
theorem dX7_rich_17 : decode cX7_rich 17 = .ok (.ifCond .ne 6, 3) := by decide +kernel
theorem dX7_rich_20 : decode cX7_rich 20 = .ok (.bipush (-2), 2) := by decide +kernel
theorem dX7_rich_22 : decode cX7_rich 22 = .ok (.ireturn, 1) := by decide +kernel
theorem dX7_rich_23 : decode cX7_rich 23 = .ok (.aload_n 0, 1) := by decide +kernel
theorem dX7_rich_24 : decode cX7_rich 24 = .ok (.getfield 13, 3) := by decide +kernel
theorem dX7_rich_27 : decode cX7_rich 27 = .ok (.iload_n 1, 1) := by decide +kernel
theorem dX7_rich_28 : decode cX7_rich 28 = .ok (.iaload, 1) := by decide +kernel
theorem dX7_rich_29 : decode cX7_rich 29 = .ok (.istore_n 3, 1) := by decide +kernel
theorem dX7_rich_30 : decode cX7_rich 30 = .ok (.aload_n 0, 1) := by decide +kernel
theorem dX7_rich_31 : decode cX7_rich 31 = .ok (.getfield 13, 3) := by decide +kernel
theorem dX7_rich_34 : decode cX7_rich 34 = .ok (.iload_n 1, 1) := by decide +kernel
theorem dX7_rich_35 : decode cX7_rich 35 = .ok (.iload_n 2, 1) := by decide +kernel
theorem dX7_rich_36 : decode cX7_rich 36 = .ok (.iastore, 1) := by decide +kernel
theorem dX7_rich_37 : decode cX7_rich 37 = .ok (.iload_n 3, 1) := by decide +kernel
theorem dX7_rich_38 : decode cX7_rich 38 = .ok (.ireturn, 1) := by decide +kernel
theorem dX7_charge_0 : decode cX7_charge 0 = .ok (.iload_n 1, 1) := by decide +kernel
theorem dX7_charge_1 : decode cX7_charge 1 = .ok (.iconst 1, 1) := by decide +kernel
theorem dX7_charge_2 : decode cX7_charge 2 = .ok (.bipush 60, 2) := by decide +kernel
theorem dX7_charge_4 : decode cX7_charge 4 = .ok (.invokestatic 90, 3) := by decide +kernel
theorem dX7_charge_7 : decode cX7_charge 7 = .ok (.ifCond .eq 12, 3) := by decide +kernel
theorem dX7_charge_10 : decode cX7_charge 10 = .ok (.iload_n 2, 1) := by decide +kernel
theorem dX7_charge_11 : decode cX7_charge 11 = .ok (.iconst 0, 1) := by decide +kernel
theorem dX7_charge_12 : decode cX7_charge 12 = .ok (.iconst 3, 1) := by decide +kernel
theorem dX7_charge_13 : decode cX7_charge 13 = .ok (.invokestatic 90, 3) := by decide +kernel
theorem dX7_charge_16 : decode cX7_charge 16 = .ok (.ifCond .ne 6, 3) := by decide +kernel
theorem dX7_charge_19 : decode cX7_charge 19 = .ok (.bipush (-2), 2) := by decide +kernel
theorem dX7_charge_21 : decode cX7_charge 21 = .ok (.ireturn, 1) := by decide +kernel
theorem dX7_charge_22 : decode cX7_charge 22 = .ok (.iload_n 3, 1) := by decide +kernel
theorem dX7_charge_23 : decode cX7_charge 23 = .ok (.iconst 0, 1) := by decide +kernel
theorem dX7_charge_24 : decode cX7_charge 24 = .ok (.bipush 60, 2) := by decide +kernel
theorem dX7_charge_26 : decode cX7_charge 26 = .ok (.invokestatic 90, 3) := by decide +kernel
theorem dX7_charge_29 : decode cX7_charge 29 = .ok (.ifCond .eq 14, 3) := by decide +kernel
theorem dX7_charge_32 : decode cX7_charge 32 = .ok (.iload 4, 2) := by decide +kernel
theorem dX7_charge_34 : decode cX7_charge 34 = .ok (.iconst 0, 1) := by decide +kernel
theorem dX7_charge_35 : decode cX7_charge 35 = .ok (.bipush 30, 2) := by decide +kernel
theorem dX7_charge_37 : decode cX7_charge 37 = .ok (.invokestatic 90, 3) := by decide +kernel
theorem dX7_charge_40 : decode cX7_charge 40 = .ok (.ifCond .ne 6, 3) := by decide +kernel
theorem dX7_charge_43 : decode cX7_charge 43 = .ok (.bipush (-2), 2) := by decide +kernel
theorem dX7_charge_45 : decode cX7_charge 45 = .ok (.ireturn, 1) := by decide +kernel
theorem dX7_charge_46 : decode cX7_charge 46 = .ok (.iconst 2, 1) := by decide +kernel
theorem dX7_charge_47 : decode cX7_charge 47 = .ok (.iload_n 2, 1) := by decide +kernel
theorem dX7_charge_48 : decode cX7_charge 48 = .ok (.iadd, 1) := by decide +kernel
theorem dX7_charge_49 : decode cX7_charge 49 = .ok (.istore 5, 2) := by decide +kernel
theorem dX7_charge_51 : decode cX7_charge 51 = .ok (.aload_n 0, 1) := by decide +kernel
theorem dX7_charge_52 : decode cX7_charge 52 = .ok (.getfield 9, 3) := by decide +kernel
theorem dX7_charge_55 : decode cX7_charge 55 = .ok (.iconst 0, 1) := by decide +kernel
theorem dX7_charge_56 : decode cX7_charge 56 = .ok (.iaload, 1) := by decide +kernel
theorem dX7_charge_57 : decode cX7_charge 57 = .ok (.iload_n 1, 1) := by decide +kernel
theorem dX7_charge_58 : decode cX7_charge 58 = .ok (.if_icmp .lt 25, 3) := by decide +kernel
theorem dX7_charge_61 : decode cX7_charge 61 = .ok (.aload_n 0, 1) := by decide +kernel
theorem dX7_charge_62 : decode cX7_charge 62 = .ok (.getfield 9, 3) := by decide +kernel
theorem dX7_charge_65 : decode cX7_charge 65 = .ok (.iload 5, 2) := by decide +kernel
theorem dX7_charge_67 : decode cX7_charge 67 = .ok (.iaload, 1) := by decide +kernel
theorem dX7_charge_68 : decode cX7_charge 68 = .ok (.iload_n 3, 1) := by decide +kernel
theorem dX7_charge_69 : decode cX7_charge 69 = .ok (.if_icmp .lt 14, 3) := by decide +kernel
theorem dX7_charge_72 : decode cX7_charge 72 = .ok (.aload_n 0, 1) := by decide +kernel
theorem dX7_charge_73 : decode cX7_charge 73 = .ok (.getfield 9, 3) := by decide +kernel
theorem dX7_charge_76 : decode cX7_charge 76 = .ok (.iconst 1, 1) := by decide +kernel
theorem dX7_charge_77 : decode cX7_charge 77 = .ok (.iaload, 1) := by decide +kernel
theorem dX7_charge_78 : decode cX7_charge 78 = .ok (.iload 4, 2) := by decide +kernel
theorem dX7_charge_80 : decode cX7_charge 80 = .ok (.if_icmp .ge 6, 3) := by decide +kernel
theorem dX7_charge_83 : decode cX7_charge 83 = .ok (.bipush (-3), 2) := by decide +kernel
theorem dX7_charge_85 : decode cX7_charge 85 = .ok (.ireturn, 1) := by decide +kernel
theorem dX7_charge_86 : decode cX7_charge 86 = .ok (.aload_n 0, 1) := by decide +kernel
theorem dX7_charge_87 : decode cX7_charge 87 = .ok (.getfield 19, 3) := by decide +kernel
theorem dX7_charge_90 : decode cX7_charge 90 = .ok (.invokevirtual 94, 3) := by decide +kernel
theorem dX7_charge_93 : decode cX7_charge 93 = .ok (.bipush 12, 2) := by decide +kernel
theorem dX7_charge_95 : decode cX7_charge 95 = .ok (.if_icmp .ge 16, 3) := by decide +kernel
theorem dX7_charge_98 : decode cX7_charge 98 = .ok (.aload_n 0, 1) := by decide +kernel
theorem dX7_charge_99 : decode cX7_charge 99 = .ok (.getfield 19, 3) := by decide +kernel
theorem dX7_charge_102 : decode cX7_charge 102 = .ok (.getfield 98, 3) := by decide +kernel
theorem dX7_charge_105 : decode cX7_charge 105 = .ok (.invokevirtual 101, 3) := by decide +kernel
theorem dX7_charge_108 : decode cX7_charge 108 = .ok (.ifCond .eq 6, 3) := by decide +kernel
theorem dX7_charge_111 : decode cX7_charge 111 = .ok (.bipush (-4), 2) := by decide +kernel
theorem dX7_charge_113 : decode cX7_charge 113 = .ok (.ireturn, 1) := by decide +kernel
theorem dX7_charge_114 : decode cX7_charge 114 = .ok (.aload_n 0, 1) := by decide +kernel
theorem dX7_charge_115 : decode cX7_charge 115 = .ok (.getfield 9, 3) := by decide +kernel
theorem dX7_charge_118 : decode cX7_charge 118 = .ok (.iconst 0, 1) := by decide +kernel
theorem dX7_charge_119 : decode cX7_charge 119 = .ok (.dup2, 1) := by decide +kernel
theorem dX7_charge_120 : decode cX7_charge 120 = .ok (.iaload, 1) := by decide +kernel
theorem dX7_charge_121 : decode cX7_charge 121 = .ok (.iload_n 1, 1) := by decide +kernel
theorem dX7_charge_122 : decode cX7_charge 122 = .ok (.isub, 1) := by decide +kernel
theorem dX7_charge_123 : decode cX7_charge 123 = .ok (.iastore, 1) := by decide +kernel
theorem dX7_charge_124 : decode cX7_charge 124 = .ok (.aload_n 0, 1) := by decide +kernel
theorem dX7_charge_125 : decode cX7_charge 125 = .ok (.getfield 9, 3) := by decide +kernel
theorem dX7_charge_128 : decode cX7_charge 128 = .ok (.iload 5, 2) := by decide +kernel
theorem dX7_charge_130 : decode cX7_charge 130 = .ok (.dup2, 1) := by decide +kernel
theorem dX7_charge_131 : decode cX7_charge 131 = .ok (.iaload, 1) := by decide +kernel
theorem dX7_charge_132 : decode cX7_charge 132 = .ok (.iload_n 3, 1) := by decide +kernel
theorem dX7_charge_133 : decode cX7_charge 133 = .ok (.isub, 1) := by decide +kernel
theorem dX7_charge_134 : decode cX7_charge 134 = .ok (.iastore, 1) := by decide +kernel
theorem dX7_charge_135 : decode cX7_charge 135 = .ok (.aload_n 0, 1) := by decide +kernel
theorem dX7_charge_136 : decode cX7_charge 136 = .ok (.getfield 9, 3) := by decide +kernel
theorem dX7_charge_139 : decode cX7_charge 139 = .ok (.iconst 1, 1) := by decide +kernel
theorem dX7_charge_140 : decode cX7_charge 140 = .ok (.dup2, 1) := by decide +kernel
theorem dX7_charge_141 : decode cX7_charge 141 = .ok (.iaload, 1) := by decide +kernel
theorem dX7_charge_142 : decode cX7_charge 142 = .ok (.iload 4, 2) := by decide +kernel
theorem dX7_charge_144 : decode cX7_charge 144 = .ok (.isub, 1) := by decide +kernel
theorem dX7_charge_145 : decode cX7_charge 145 = .ok (.iastore, 1) := by decide +kernel
theorem dX7_charge_146 : decode cX7_charge 146 = .ok (.aload_n 0, 1) := by decide +kernel
theorem dX7_charge_147 : decode cX7_charge 147 = .ok (.getfield 19, 3) := by decide +kernel
theorem dX7_charge_150 : decode cX7_charge 150 = .ok (.iload_n 1, 1) := by decide +kernel
theorem dX7_charge_151 : decode cX7_charge 151 = .ok (.iload_n 2, 1) := by decide +kernel
theorem dX7_charge_152 : decode cX7_charge 152 = .ok (.iload_n 3, 1) := by decide +kernel
theorem dX7_charge_153 : decode cX7_charge 153 = .ok (.iload 4, 2) := by decide +kernel
theorem dX7_charge_155 : decode cX7_charge 155 = .ok (.invokevirtual 105, 3) := by decide +kernel
theorem dX7_charge_158 : decode cX7_charge 158 = .ok (.ireturn, 1) := by decide +kernel
theorem dX7_chargeAt_0 : decode cX7_chargeAt 0 = .ok (.iload_n 1, 1) := by decide +kernel
theorem dX7_chargeAt_1 : decode cX7_chargeAt 1 = .ok (.ifCond .lt 13, 3) := by decide +kernel
theorem dX7_chargeAt_4 : decode cX7_chargeAt 4 = .ok (.iload_n 2, 1) := by decide +kernel
theorem dX7_chargeAt_5 : decode cX7_chargeAt 5 = .ok (.iconst 0, 1) := by decide +kernel
theorem dX7_chargeAt_6 : decode cX7_chargeAt 6 = .ok (.bipush 6, 2) := by decide +kernel
theorem dX7_chargeAt_8 : decode cX7_chargeAt 8 = .ok (.invokestatic 90, 3) := by decide +kernel
theorem dX7_chargeAt_11 : decode cX7_chargeAt 11 = .ok (.ifCond .ne 6, 3) := by decide +kernel
theorem dX7_chargeAt_14 : decode cX7_chargeAt 14 = .ok (.bipush (-2), 2) := by decide +kernel
theorem dX7_chargeAt_16 : decode cX7_chargeAt 16 = .ok (.ireturn, 1) := by decide +kernel
theorem dX7_chargeAt_17 : decode cX7_chargeAt 17 = .ok (.iload_n 1, 1) := by decide +kernel
theorem dX7_chargeAt_18 : decode cX7_chargeAt 18 = .ok (.aload_n 0, 1) := by decide +kernel
theorem dX7_chargeAt_19 : decode cX7_chargeAt 19 = .ok (.getfield 19, 3) := by decide +kernel
theorem dX7_chargeAt_22 : decode cX7_chargeAt 22 = .ok (.getfield 98, 3) := by decide +kernel
theorem dX7_chargeAt_25 : decode cX7_chargeAt 25 = .ok (.getfield 109, 3) := by decide +kernel
theorem dX7_chargeAt_28 : decode cX7_chargeAt 28 = .ok (.if_icmp .lt 5, 3) := by decide +kernel
theorem dX7_chargeAt_31 : decode cX7_chargeAt 31 = .ok (.iconst (-1), 1) := by decide +kernel
theorem dX7_chargeAt_32 : decode cX7_chargeAt 32 = .ok (.ireturn, 1) := by decide +kernel
theorem dX7_chargeAt_33 : decode cX7_chargeAt 33 = .ok (.aload_n 0, 1) := by decide +kernel
theorem dX7_chargeAt_34 : decode cX7_chargeAt 34 = .ok (.getfield 19, 3) := by decide +kernel
theorem dX7_chargeAt_37 : decode cX7_chargeAt 37 = .ok (.getfield 98, 3) := by decide +kernel
theorem dX7_chargeAt_40 : decode cX7_chargeAt 40 = .ok (.iload_n 1, 1) := by decide +kernel
theorem dX7_chargeAt_41 : decode cX7_chargeAt 41 = .ok (.iload_n 2, 1) := by decide +kernel
theorem dX7_chargeAt_42 : decode cX7_chargeAt 42 = .ok (.invokevirtual 112, 3) := by decide +kernel
theorem dX7_chargeAt_45 : decode cX7_chargeAt 45 = .ok (.ireturn, 1) := by decide +kernel
theorem dX7_when_0 : decode cX7_when 0 = .ok (.iload_n 1, 1) := by decide +kernel
theorem dX7_when_1 : decode cX7_when 1 = .ok (.iconst 0, 1) := by decide +kernel
theorem dX7_when_2 : decode cX7_when 2 = .ok (.aload_n 0, 1) := by decide +kernel
theorem dX7_when_3 : decode cX7_when 3 = .ok (.getfield 19, 3) := by decide +kernel
theorem dX7_when_6 : decode cX7_when 6 = .ok (.getfield 98, 3) := by decide +kernel
theorem dX7_when_9 : decode cX7_when 9 = .ok (.getfield 109, 3) := by decide +kernel
theorem dX7_when_12 : decode cX7_when 12 = .ok (.iconst 1, 1) := by decide +kernel
theorem dX7_when_13 : decode cX7_when 13 = .ok (.isub, 1) := by decide +kernel
theorem dX7_when_14 : decode cX7_when 14 = .ok (.invokestatic 90, 3) := by decide +kernel
theorem dX7_when_17 : decode cX7_when 17 = .ok (.ifCond .ne 6, 3) := by decide +kernel
theorem dX7_when_20 : decode cX7_when 20 = .ok (.bipush (-2), 2) := by decide +kernel
theorem dX7_when_22 : decode cX7_when 22 = .ok (.ireturn, 1) := by decide +kernel
theorem dX7_when_23 : decode cX7_when 23 = .ok (.aload_n 0, 1) := by decide +kernel
theorem dX7_when_24 : decode cX7_when 24 = .ok (.getfield 33, 3) := by decide +kernel
theorem dX7_when_27 : decode cX7_when 27 = .ok (.getfield 116, 3) := by decide +kernel
theorem dX7_when_30 : decode cX7_when 30 = .ok (.istore_n 2, 1) := by decide +kernel
theorem dX7_when_31 : decode cX7_when 31 = .ok (.iload_n 1, 1) := by decide +kernel
theorem dX7_when_32 : decode cX7_when 32 = .ok (.aload_n 0, 1) := by decide +kernel
theorem dX7_when_33 : decode cX7_when 33 = .ok (.getfield 19, 3) := by decide +kernel
theorem dX7_when_36 : decode cX7_when 36 = .ok (.getfield 119, 3) := by decide +kernel
theorem dX7_when_39 : decode cX7_when 39 = .ok (.if_icmp .lt 7, 3) := by decide +kernel
theorem dX7_when_42 : decode cX7_when 42 = .ok (.iload_n 2, 1) := by decide +kernel
theorem dX7_when_43 : decode cX7_when 43 = .ok (.ifCond .gt 5, 3) := by decide +kernel
theorem dX7_when_46 : decode cX7_when 46 = .ok (.iconst (-1), 1) := by decide +kernel
theorem dX7_when_47 : decode cX7_when 47 = .ok (.ireturn, 1) := by decide +kernel
theorem dX7_when_48 : decode cX7_when 48 = .ok (.aload_n 0, 1) := by decide +kernel
theorem dX7_when_49 : decode cX7_when 49 = .ok (.getfield 19, 3) := by decide +kernel
theorem dX7_when_52 : decode cX7_when 52 = .ok (.iload_n 1, 1) := by decide +kernel
theorem dX7_when_53 : decode cX7_when 53 = .ok (.invokevirtual 122, 3) := by decide +kernel
theorem dX7_when_56 : decode cX7_when 56 = .ok (.iload_n 2, 1) := by decide +kernel
theorem dX7_when_57 : decode cX7_when 57 = .ok (.iadd, 1) := by decide +kernel
theorem dX7_when_58 : decode cX7_when 58 = .ok (.iconst 1, 1) := by decide +kernel
theorem dX7_when_59 : decode cX7_when 59 = .ok (.isub, 1) := by decide +kernel
theorem dX7_when_60 : decode cX7_when 60 = .ok (.iload_n 2, 1) := by decide +kernel
theorem dX7_when_61 : decode cX7_when 61 = .ok (.idiv, 1) := by decide +kernel
theorem dX7_when_62 : decode cX7_when 62 = .ok (.ireturn, 1) := by decide +kernel
theorem dX7_blast_0 : decode cX7_blast 0 = .ok (.iload_n 1, 1) := by decide +kernel
theorem dX7_blast_1 : decode cX7_blast 1 = .ok (.iconst 0, 1) := by decide +kernel
theorem dX7_blast_2 : decode cX7_blast 2 = .ok (.bipush 20, 2) := by decide +kernel
theorem dX7_blast_4 : decode cX7_blast 4 = .ok (.invokestatic 90, 3) := by decide +kernel
theorem dX7_blast_7 : decode cX7_blast 7 = .ok (.ifCond .ne 6, 3) := by decide +kernel
theorem dX7_blast_10 : decode cX7_blast 10 = .ok (.bipush (-2), 2) := by decide +kernel
theorem dX7_blast_12 : decode cX7_blast 12 = .ok (.ireturn, 1) := by decide +kernel
theorem dX7_blast_13 : decode cX7_blast 13 = .ok (.aload_n 0, 1) := by decide +kernel
theorem dX7_blast_14 : decode cX7_blast 14 = .ok (.getfield 33, 3) := by decide +kernel
theorem dX7_blast_17 : decode cX7_blast 17 = .ok (.getfield 116, 3) := by decide +kernel
theorem dX7_blast_20 : decode cX7_blast 20 = .ok (.istore_n 2, 1) := by decide +kernel
theorem dX7_blast_21 : decode cX7_blast 21 = .ok (.aload_n 0, 1) := by decide +kernel
theorem dX7_blast_22 : decode cX7_blast 22 = .ok (.getfield 33, 3) := by decide +kernel
theorem dX7_blast_25 : decode cX7_blast 25 = .ok (.iload_n 1, 1) := by decide +kernel
theorem dX7_blast_26 : decode cX7_blast 26 = .ok (.putfield 116, 3) := by decide +kernel
theorem dX7_blast_29 : decode cX7_blast 29 = .ok (.iload_n 2, 1) := by decide +kernel
theorem dX7_blast_30 : decode cX7_blast 30 = .ok (.ireturn, 1) := by decide +kernel
theorem dX7_hearth_0 : decode cX7_hearth 0 = .ok (.iload_n 1, 1) := by decide +kernel
theorem dX7_hearth_1 : decode cX7_hearth 1 = .ok (.iconst 1, 1) := by decide +kernel
theorem dX7_hearth_2 : decode cX7_hearth 2 = .ok (.sipush 500, 3) := by decide +kernel
theorem dX7_hearth_5 : decode cX7_hearth 5 = .ok (.invokestatic 90, 3) := by decide +kernel
theorem dX7_hearth_8 : decode cX7_hearth 8 = .ok (.ifCond .eq 13, 3) := by decide +kernel
theorem dX7_hearth_11 : decode cX7_hearth 11 = .ok (.iload_n 2, 1) := by decide +kernel
theorem dX7_hearth_12 : decode cX7_hearth 12 = .ok (.iconst 1, 1) := by decide +kernel
theorem dX7_hearth_13 : decode cX7_hearth 13 = .ok (.ldc 126, 2) := by decide +kernel
theorem dX7_hearth_15 : decode cX7_hearth 15 = .ok (.invokestatic 90, 3) := by decide +kernel
theorem dX7_hearth_18 : decode cX7_hearth 18 = .ok (.ifCond .ne 6, 3) := by decide +kernel
theorem dX7_hearth_21 : decode cX7_hearth 21 = .ok (.bipush (-2), 2) := by decide +kernel
theorem dX7_hearth_23 : decode cX7_hearth 23 = .ok (.ireturn, 1) := by decide +kernel
theorem dX7_hearth_24 : decode cX7_hearth 24 = .ok (.aload_n 0, 1) := by decide +kernel
theorem dX7_hearth_25 : decode cX7_hearth 25 = .ok (.getfield 26, 3) := by decide +kernel
theorem dX7_hearth_28 : decode cX7_hearth 28 = .ok (.iload_n 1, 1) := by decide +kernel
theorem dX7_hearth_29 : decode cX7_hearth 29 = .ok (.putfield 127, 3) := by decide +kernel
theorem dX7_hearth_32 : decode cX7_hearth 32 = .ok (.aload_n 0, 1) := by decide +kernel
theorem dX7_hearth_33 : decode cX7_hearth 33 = .ok (.getfield 33, 3) := by decide +kernel
theorem dX7_hearth_36 : decode cX7_hearth 36 = .ok (.iload_n 2, 1) := by decide +kernel
theorem dX7_hearth_37 : decode cX7_hearth 37 = .ok (.putfield 130, 3) := by decide +kernel
theorem dX7_hearth_40 : decode cX7_hearth 40 = .ok (.iconst 1, 1) := by decide +kernel
theorem dX7_hearth_41 : decode cX7_hearth 41 = .ok (.ireturn, 1) := by decide +kernel
theorem dX7_tick_0 : decode cX7_tick 0 = .ok (.iload_n 1, 1) := by decide +kernel
theorem dX7_tick_1 : decode cX7_tick 1 = .ok (.iconst 1, 1) := by decide +kernel
theorem dX7_tick_2 : decode cX7_tick 2 = .ok (.bipush 50, 2) := by decide +kernel
theorem dX7_tick_4 : decode cX7_tick 4 = .ok (.invokestatic 90, 3) := by decide +kernel
theorem dX7_tick_7 : decode cX7_tick 7 = .ok (.ifCond .ne 6, 3) := by decide +kernel
theorem dX7_tick_10 : decode cX7_tick 10 = .ok (.bipush (-2), 2) := by decide +kernel
theorem dX7_tick_12 : decode cX7_tick 12 = .ok (.ireturn, 1) := by decide +kernel
theorem dX7_tick_13 : decode cX7_tick 13 = .ok (.aload_n 0, 1) := by decide +kernel
theorem dX7_tick_14 : decode cX7_tick 14 = .ok (.getfield 33, 3) := by decide +kernel
theorem dX7_tick_17 : decode cX7_tick 17 = .ok (.getfield 133, 3) := by decide +kernel
theorem dX7_tick_20 : decode cX7_tick 20 = .ok (.ifCond .eq 6, 3) := by decide +kernel
theorem dX7_tick_23 : decode cX7_tick 23 = .ok (.bipush (-3), 2) := by decide +kernel
theorem dX7_tick_25 : decode cX7_tick 25 = .ok (.ireturn, 1) := by decide +kernel
theorem dX7_tick_26 : decode cX7_tick 26 = .ok (.aload_n 0, 1) := by decide +kernel
theorem dX7_tick_27 : decode cX7_tick 27 = .ok (.getfield 33, 3) := by decide +kernel
theorem dX7_tick_30 : decode cX7_tick 30 = .ok (.getfield 137, 3) := by decide +kernel
theorem dX7_tick_33 : decode cX7_tick 33 = .ok (.iload_n 1, 1) := by decide +kernel
theorem dX7_tick_34 : decode cX7_tick 34 = .ok (.iadd, 1) := by decide +kernel
theorem dX7_tick_35 : decode cX7_tick 35 = .ok (.sipush 5000, 3) := by decide +kernel
theorem dX7_tick_38 : decode cX7_tick 38 = .ok (.if_icmp .le 6, 3) := by decide +kernel
theorem dX7_tick_41 : decode cX7_tick 41 = .ok (.bipush (-4), 2) := by decide +kernel
theorem dX7_tick_43 : decode cX7_tick 43 = .ok (.ireturn, 1) := by decide +kernel
theorem dX7_tick_44 : decode cX7_tick 44 = .ok (.iconst 0, 1) := by decide +kernel
theorem dX7_tick_45 : decode cX7_tick 45 = .ok (.istore_n 2, 1) := by decide +kernel
theorem dX7_tick_46 : decode cX7_tick 46 = .ok (.iconst 0, 1) := by decide +kernel
theorem dX7_tick_47 : decode cX7_tick 47 = .ok (.istore_n 3, 1) := by decide +kernel
theorem dX7_tick_48 : decode cX7_tick 48 = .ok (.iload_n 3, 1) := by decide +kernel
theorem dX7_tick_49 : decode cX7_tick 49 = .ok (.iload_n 1, 1) := by decide +kernel
theorem dX7_tick_50 : decode cX7_tick 50 = .ok (.if_icmp .ge 76, 3) := by decide +kernel
theorem dX7_tick_53 : decode cX7_tick 53 = .ok (.aload_n 0, 1) := by decide +kernel
theorem dX7_tick_54 : decode cX7_tick 54 = .ok (.getfield 33, 3) := by decide +kernel
theorem dX7_tick_57 : decode cX7_tick 57 = .ok (.getfield 133, 3) := by decide +kernel
theorem dX7_tick_60 : decode cX7_tick 60 = .ok (.ifCond .ne 66, 3) := by decide +kernel
theorem dX7_tick_63 : decode cX7_tick 63 = .ok (.aload_n 0, 1) := by decide +kernel
theorem dX7_tick_64 : decode cX7_tick 64 = .ok (.invokevirtual 140, 3) := by decide +kernel
theorem dX7_tick_67 : decode cX7_tick 67 = .ok (.aload_n 0, 1) := by decide +kernel
theorem dX7_tick_68 : decode cX7_tick 68 = .ok (.getfield 33, 3) := by decide +kernel
theorem dX7_tick_71 : decode cX7_tick 71 = .ok (.aload_n 0, 1) := by decide +kernel
theorem dX7_tick_72 : decode cX7_tick 72 = .ok (.getfield 19, 3) := by decide +kernel
theorem dX7_tick_75 : decode cX7_tick 75 = .ok (.aload_n 0, 1) := by decide +kernel
theorem dX7_tick_76 : decode cX7_tick 76 = .ok (.getfield 26, 3) := by decide +kernel
theorem dX7_tick_79 : decode cX7_tick 79 = .ok (.aload_n 0, 1) := by decide +kernel
theorem dX7_tick_80 : decode cX7_tick 80 = .ok (.getfield 13, 3) := by decide +kernel
theorem dX7_tick_83 : decode cX7_tick 83 = .ok (.invokevirtual 143, 3) := by decide +kernel
theorem dX7_tick_86 : decode cX7_tick 86 = .ok (.aload_n 0, 1) := by decide +kernel
theorem dX7_tick_87 : decode cX7_tick 87 = .ok (.getfield 49, 3) := by decide +kernel
theorem dX7_tick_90 : decode cX7_tick 90 = .ok (.aload_n 0, 1) := by decide +kernel
theorem dX7_tick_91 : decode cX7_tick 91 = .ok (.getfield 33, 3) := by decide +kernel
theorem dX7_tick_94 : decode cX7_tick 94 = .ok (.getfield 147, 3) := by decide +kernel
theorem dX7_tick_97 : decode cX7_tick 97 = .ok (.bipush 10, 2) := by decide +kernel
theorem dX7_tick_99 : decode cX7_tick 99 = .ok (.idiv, 1) := by decide +kernel
theorem dX7_tick_100 : decode cX7_tick 100 = .ok (.aload_n 0, 1) := by decide +kernel
theorem dX7_tick_101 : decode cX7_tick 101 = .ok (.getfield 33, 3) := by decide +kernel
theorem dX7_tick_104 : decode cX7_tick 104 = .ok (.getfield 150, 3) := by decide +kernel
theorem dX7_tick_107 : decode cX7_tick 107 = .ok (.aload_n 0, 1) := by decide +kernel
theorem dX7_tick_108 : decode cX7_tick 108 = .ok (.getfield 26, 3) := by decide +kernel
theorem dX7_tick_111 : decode cX7_tick 111 = .ok (.getfield 153, 3) := by decide +kernel
theorem dX7_tick_114 : decode cX7_tick 114 = .ok (.invokevirtual 156, 3) := by decide +kernel
theorem dX7_tick_117 : decode cX7_tick 117 = .ok (.iinc 2 1, 3) := by decide +kernel
theorem dX7_tick_120 : decode cX7_tick 120 = .ok (.iinc 3 1, 3) := by decide +kernel
theorem dX7_tick_123 : decode cX7_tick 123 = .ok (.goto (-75), 3) := by decide +kernel
theorem dX7_tick_126 : decode cX7_tick 126 = .ok (.iload_n 2, 1) := by decide +kernel
theorem dX7_tick_127 : decode cX7_tick 127 = .ok (.ireturn, 1) := by decide +kernel
theorem dX7_tap_0 : decode cX7_tap 0 = .ok (.aload_n 0, 1) := by decide +kernel
theorem dX7_tap_1 : decode cX7_tap 1 = .ok (.invokevirtual 159, 3) := by decide +kernel
theorem dX7_tap_4 : decode cX7_tap 4 = .ok (.ireturn, 1) := by decide +kernel
theorem dX7_about_0 : decode cX7_about 0 = .ok (.iload_n 1, 1) := by decide +kernel
theorem dX7_about_1 : decode cX7_about 1 = .ok (.tableswitch 167 0 11 #[63, 71, 79, 87, 95, 103, 111, 119, 127, 135, 151, 159], 63) := by decide +kernel
theorem dX7_about_64 : decode cX7_about 64 = .ok (.aload_n 0, 1) := by decide +kernel
theorem dX7_about_65 : decode cX7_about 65 = .ok (.getfield 33, 3) := by decide +kernel
theorem dX7_about_68 : decode cX7_about 68 = .ok (.getfield 147, 3) := by decide +kernel
theorem dX7_about_71 : decode cX7_about 71 = .ok (.ireturn, 1) := by decide +kernel
theorem dX7_about_72 : decode cX7_about 72 = .ok (.aload_n 0, 1) := by decide +kernel
theorem dX7_about_73 : decode cX7_about 73 = .ok (.getfield 26, 3) := by decide +kernel
theorem dX7_about_76 : decode cX7_about 76 = .ok (.getfield 153, 3) := by decide +kernel
theorem dX7_about_79 : decode cX7_about 79 = .ok (.ireturn, 1) := by decide +kernel
theorem dX7_about_80 : decode cX7_about 80 = .ok (.aload_n 0, 1) := by decide +kernel
theorem dX7_about_81 : decode cX7_about 81 = .ok (.getfield 33, 3) := by decide +kernel
theorem dX7_about_84 : decode cX7_about 84 = .ok (.getfield 162, 3) := by decide +kernel
theorem dX7_about_87 : decode cX7_about 87 = .ok (.ireturn, 1) := by decide +kernel
theorem dX7_about_88 : decode cX7_about 88 = .ok (.aload_n 0, 1) := by decide +kernel
theorem dX7_about_89 : decode cX7_about 89 = .ok (.getfield 33, 3) := by decide +kernel
theorem dX7_about_92 : decode cX7_about 92 = .ok (.getfield 165, 3) := by decide +kernel
theorem dX7_about_95 : decode cX7_about 95 = .ok (.ireturn, 1) := by decide +kernel
theorem dX7_about_96 : decode cX7_about 96 = .ok (.aload_n 0, 1) := by decide +kernel
theorem dX7_about_97 : decode cX7_about 97 = .ok (.getfield 33, 3) := by decide +kernel
theorem dX7_about_100 : decode cX7_about 100 = .ok (.getfield 137, 3) := by decide +kernel
theorem dX7_about_103 : decode cX7_about 103 = .ok (.ireturn, 1) := by decide +kernel
theorem dX7_about_104 : decode cX7_about 104 = .ok (.aload_n 0, 1) := by decide +kernel
theorem dX7_about_105 : decode cX7_about 105 = .ok (.getfield 19, 3) := by decide +kernel
theorem dX7_about_108 : decode cX7_about 108 = .ok (.invokevirtual 94, 3) := by decide +kernel
theorem dX7_about_111 : decode cX7_about 111 = .ok (.ireturn, 1) := by decide +kernel
theorem dX7_about_112 : decode cX7_about 112 = .ok (.aload_n 0, 1) := by decide +kernel
theorem dX7_about_113 : decode cX7_about 113 = .ok (.getfield 33, 3) := by decide +kernel
theorem dX7_about_116 : decode cX7_about 116 = .ok (.getfield 168, 3) := by decide +kernel
theorem dX7_about_119 : decode cX7_about 119 = .ok (.ireturn, 1) := by decide +kernel
theorem dX7_about_120 : decode cX7_about 120 = .ok (.aload_n 0, 1) := by decide +kernel
theorem dX7_about_121 : decode cX7_about 121 = .ok (.getfield 33, 3) := by decide +kernel
theorem dX7_about_124 : decode cX7_about 124 = .ok (.getfield 171, 3) := by decide +kernel
theorem dX7_about_127 : decode cX7_about 127 = .ok (.ireturn, 1) := by decide +kernel
theorem dX7_about_128 : decode cX7_about 128 = .ok (.aload_n 0, 1) := by decide +kernel
theorem dX7_about_129 : decode cX7_about 129 = .ok (.getfield 26, 3) := by decide +kernel
theorem dX7_about_132 : decode cX7_about 132 = .ok (.getfield 174, 3) := by decide +kernel
theorem dX7_about_135 : decode cX7_about 135 = .ok (.ireturn, 1) := by decide +kernel
theorem dX7_about_136 : decode cX7_about 136 = .ok (.aload_n 0, 1) := by decide +kernel
theorem dX7_about_137 : decode cX7_about 137 = .ok (.getfield 33, 3) := by decide +kernel
theorem dX7_about_140 : decode cX7_about 140 = .ok (.getfield 133, 3) := by decide +kernel
theorem dX7_about_143 : decode cX7_about 143 = .ok (.ifCond .eq 7, 3) := by decide +kernel
theorem dX7_about_146 : decode cX7_about 146 = .ok (.iconst 1, 1) := by decide +kernel
theorem dX7_about_147 : decode cX7_about 147 = .ok (.goto 4, 3) := by decide +kernel
theorem dX7_about_150 : decode cX7_about 150 = .ok (.iconst 0, 1) := by decide +kernel
theorem dX7_about_151 : decode cX7_about 151 = .ok (.ireturn, 1) := by decide +kernel
theorem dX7_about_152 : decode cX7_about 152 = .ok (.aload_n 0, 1) := by decide +kernel
theorem dX7_about_153 : decode cX7_about 153 = .ok (.getfield 26, 3) := by decide +kernel
theorem dX7_about_156 : decode cX7_about 156 = .ok (.getfield 177, 3) := by decide +kernel
theorem dX7_about_159 : decode cX7_about 159 = .ok (.ireturn, 1) := by decide +kernel
theorem dX7_about_160 : decode cX7_about 160 = .ok (.aload_n 0, 1) := by decide +kernel
theorem dX7_about_161 : decode cX7_about 161 = .ok (.getfield 33, 3) := by decide +kernel
theorem dX7_about_164 : decode cX7_about 164 = .ok (.getfield 116, 3) := by decide +kernel
theorem dX7_about_167 : decode cX7_about 167 = .ok (.ireturn, 1) := by decide +kernel
theorem dX7_about_168 : decode cX7_about 168 = .ok (.bipush (-2), 2) := by decide +kernel
theorem dX7_about_170 : decode cX7_about 170 = .ok (.ireturn, 1) := by decide +kernel
theorem dX7_store_0 : decode cX7_store 0 = .ok (.iload_n 1, 1) := by decide +kernel
theorem dX7_store_1 : decode cX7_store 1 = .ok (.iconst 0, 1) := by decide +kernel
theorem dX7_store_2 : decode cX7_store 2 = .ok (.iconst 5, 1) := by decide +kernel
theorem dX7_store_3 : decode cX7_store 3 = .ok (.invokestatic 90, 3) := by decide +kernel
theorem dX7_store_6 : decode cX7_store 6 = .ok (.ifCond .eq 12, 3) := by decide +kernel
theorem dX7_store_9 : decode cX7_store 9 = .ok (.aload_n 0, 1) := by decide +kernel
theorem dX7_store_10 : decode cX7_store 10 = .ok (.getfield 9, 3) := by decide +kernel
theorem dX7_store_13 : decode cX7_store 13 = .ok (.iload_n 1, 1) := by decide +kernel
theorem dX7_store_14 : decode cX7_store 14 = .ok (.iaload, 1) := by decide +kernel
theorem dX7_store_15 : decode cX7_store 15 = .ok (.goto 5, 3) := by decide +kernel
theorem dX7_store_18 : decode cX7_store 18 = .ok (.bipush (-2), 2) := by decide +kernel
theorem dX7_store_20 : decode cX7_store 20 = .ok (.ireturn, 1) := by decide +kernel
theorem dX7_pig_0 : decode cX7_pig 0 = .ok (.iload_n 1, 1) := by decide +kernel
theorem dX7_pig_1 : decode cX7_pig 1 = .ok (.ifCond .lt 12, 3) := by decide +kernel
theorem dX7_pig_4 : decode cX7_pig 4 = .ok (.iload_n 2, 1) := by decide +kernel
theorem dX7_pig_5 : decode cX7_pig 5 = .ok (.iconst 0, 1) := by decide +kernel
theorem dX7_pig_6 : decode cX7_pig 6 = .ok (.iconst 5, 1) := by decide +kernel
theorem dX7_pig_7 : decode cX7_pig 7 = .ok (.invokestatic 90, 3) := by decide +kernel
theorem dX7_pig_10 : decode cX7_pig 10 = .ok (.ifCond .ne 6, 3) := by decide +kernel
theorem dX7_pig_13 : decode cX7_pig 13 = .ok (.bipush (-2), 2) := by decide +kernel
theorem dX7_pig_15 : decode cX7_pig 15 = .ok (.ireturn, 1) := by decide +kernel
theorem dX7_pig_16 : decode cX7_pig 16 = .ok (.iload_n 1, 1) := by decide +kernel
theorem dX7_pig_17 : decode cX7_pig 17 = .ok (.aload_n 0, 1) := by decide +kernel
theorem dX7_pig_18 : decode cX7_pig 18 = .ok (.getfield 42, 3) := by decide +kernel
theorem dX7_pig_21 : decode cX7_pig 21 = .ok (.getfield 109, 3) := by decide +kernel
theorem dX7_pig_24 : decode cX7_pig 24 = .ok (.if_icmp .lt 5, 3) := by decide +kernel
theorem dX7_pig_27 : decode cX7_pig 27 = .ok (.iconst (-1), 1) := by decide +kernel
theorem dX7_pig_28 : decode cX7_pig 28 = .ok (.ireturn, 1) := by decide +kernel
theorem dX7_pig_29 : decode cX7_pig 29 = .ok (.aload_n 0, 1) := by decide +kernel
theorem dX7_pig_30 : decode cX7_pig 30 = .ok (.getfield 42, 3) := by decide +kernel
theorem dX7_pig_33 : decode cX7_pig 33 = .ok (.iload_n 1, 1) := by decide +kernel
theorem dX7_pig_34 : decode cX7_pig 34 = .ok (.iload_n 2, 1) := by decide +kernel
theorem dX7_pig_35 : decode cX7_pig 35 = .ok (.invokevirtual 112, 3) := by decide +kernel
theorem dX7_pig_38 : decode cX7_pig 38 = .ok (.ireturn, 1) := by decide +kernel
theorem dX7_sign_0 : decode cX7_sign 0 = .ok (.iload_n 1, 1) := by decide +kernel
theorem dX7_sign_1 : decode cX7_sign 1 = .ok (.iconst 0, 1) := by decide +kernel
theorem dX7_sign_2 : decode cX7_sign 2 = .ok (.iconst 2, 1) := by decide +kernel
theorem dX7_sign_3 : decode cX7_sign 3 = .ok (.invokestatic 90, 3) := by decide +kernel
theorem dX7_sign_6 : decode cX7_sign 6 = .ok (.ifCond .eq 15, 3) := by decide +kernel
theorem dX7_sign_9 : decode cX7_sign 9 = .ok (.aload_n 0, 1) := by decide +kernel
theorem dX7_sign_10 : decode cX7_sign 10 = .ok (.getfield 49, 3) := by decide +kernel
theorem dX7_sign_13 : decode cX7_sign 13 = .ok (.getfield 180, 3) := by decide +kernel
theorem dX7_sign_16 : decode cX7_sign 16 = .ok (.iload_n 1, 1) := by decide +kernel
theorem dX7_sign_17 : decode cX7_sign 17 = .ok (.iaload, 1) := by decide +kernel
theorem dX7_sign_18 : decode cX7_sign 18 = .ok (.goto 5, 3) := by decide +kernel
theorem dX7_sign_21 : decode cX7_sign 21 = .ok (.bipush (-2), 2) := by decide +kernel
theorem dX7_sign_23 : decode cX7_sign 23 = .ok (.ireturn, 1) := by decide +kernel
theorem dX7_lose_0 : decode cX7_lose 0 = .ok (.iload_n 1, 1) := by decide +kernel
theorem dX7_lose_1 : decode cX7_lose 1 = .ok (.iconst 0, 1) := by decide +kernel
theorem dX7_lose_2 : decode cX7_lose 2 = .ok (.iconst 2, 1) := by decide +kernel
theorem dX7_lose_3 : decode cX7_lose 3 = .ok (.invokestatic 90, 3) := by decide +kernel
theorem dX7_lose_6 : decode cX7_lose 6 = .ok (.ifCond .eq 13, 3) := by decide +kernel
theorem dX7_lose_9 : decode cX7_lose 9 = .ok (.iload_n 2, 1) := by decide +kernel
theorem dX7_lose_10 : decode cX7_lose 10 = .ok (.iconst 0, 1) := by decide +kernel
theorem dX7_lose_11 : decode cX7_lose 11 = .ok (.bipush 50, 2) := by decide +kernel
theorem dX7_lose_13 : decode cX7_lose 13 = .ok (.invokestatic 90, 3) := by decide +kernel
theorem dX7_lose_16 : decode cX7_lose 16 = .ok (.ifCond .ne 6, 3) := by decide +kernel
theorem dX7_lose_19 : decode cX7_lose 19 = .ok (.bipush (-2), 2) := by decide +kernel
theorem dX7_lose_21 : decode cX7_lose 21 = .ok (.ireturn, 1) := by decide +kernel
theorem dX7_lose_22 : decode cX7_lose 22 = .ok (.aload_n 0, 1) := by decide +kernel
theorem dX7_lose_23 : decode cX7_lose 23 = .ok (.getfield 49, 3) := by decide +kernel
theorem dX7_lose_26 : decode cX7_lose 26 = .ok (.getfield 183, 3) := by decide +kernel
theorem dX7_lose_29 : decode cX7_lose 29 = .ok (.iload_n 1, 1) := by decide +kernel
theorem dX7_lose_30 : decode cX7_lose 30 = .ok (.iload_n 2, 1) := by decide +kernel
theorem dX7_lose_31 : decode cX7_lose 31 = .ok (.iastore, 1) := by decide +kernel
theorem dX7_lose_32 : decode cX7_lose 32 = .ok (.iconst 1, 1) := by decide +kernel
theorem dX7_lose_33 : decode cX7_lose 33 = .ok (.ireturn, 1) := by decide +kernel
theorem dX7_rule_0 : decode cX7_rule 0 = .ok (.iload_n 1, 1) := by decide +kernel
theorem dX7_rule_1 : decode cX7_rule 1 = .ok (.iconst 0, 1) := by decide +kernel
theorem dX7_rule_2 : decode cX7_rule 2 = .ok (.iconst 2, 1) := by decide +kernel
theorem dX7_rule_3 : decode cX7_rule 3 = .ok (.invokestatic 90, 3) := by decide +kernel
theorem dX7_rule_6 : decode cX7_rule 6 = .ok (.ifCond .eq 14, 3) := by decide +kernel
theorem dX7_rule_9 : decode cX7_rule 9 = .ok (.iload_n 3, 1) := by decide +kernel
theorem dX7_rule_10 : decode cX7_rule 10 = .ok (.iconst 0, 1) := by decide +kernel
theorem dX7_rule_11 : decode cX7_rule 11 = .ok (.sipush 1000, 3) := by decide +kernel
theorem dX7_rule_14 : decode cX7_rule 14 = .ok (.invokestatic 90, 3) := by decide +kernel
theorem dX7_rule_17 : decode cX7_rule 17 = .ok (.ifCond .ne 6, 3) := by decide +kernel
theorem dX7_rule_20 : decode cX7_rule 20 = .ok (.bipush (-2), 2) := by decide +kernel
theorem dX7_rule_22 : decode cX7_rule 22 = .ok (.ireturn, 1) := by decide +kernel
theorem dX7_rule_23 : decode cX7_rule 23 = .ok (.iload 4, 2) := by decide +kernel
theorem dX7_rule_25 : decode cX7_rule 25 = .ok (.iconst 0, 1) := by decide +kernel
theorem dX7_rule_26 : decode cX7_rule 26 = .ok (.iconst 2, 1) := by decide +kernel
theorem dX7_rule_27 : decode cX7_rule 27 = .ok (.invokestatic 90, 3) := by decide +kernel
theorem dX7_rule_30 : decode cX7_rule 30 = .ok (.ifCond .ne 6, 3) := by decide +kernel
theorem dX7_rule_33 : decode cX7_rule 33 = .ok (.bipush (-2), 2) := by decide +kernel
theorem dX7_rule_35 : decode cX7_rule 35 = .ok (.ireturn, 1) := by decide +kernel
theorem dX7_rule_36 : decode cX7_rule 36 = .ok (.aload_n 0, 1) := by decide +kernel
theorem dX7_rule_37 : decode cX7_rule 37 = .ok (.getfield 53, 3) := by decide +kernel
theorem dX7_rule_40 : decode cX7_rule 40 = .ok (.invokevirtual 101, 3) := by decide +kernel
theorem dX7_rule_43 : decode cX7_rule 43 = .ok (.ifCond .eq 6, 3) := by decide +kernel
theorem dX7_rule_46 : decode cX7_rule 46 = .ok (.bipush (-4), 2) := by decide +kernel
theorem dX7_rule_48 : decode cX7_rule 48 = .ok (.ireturn, 1) := by decide +kernel
theorem dX7_rule_49 : decode cX7_rule 49 = .ok (.aload_n 0, 1) := by decide +kernel
theorem dX7_rule_50 : decode cX7_rule 50 = .ok (.getfield 53, 3) := by decide +kernel
theorem dX7_rule_53 : decode cX7_rule 53 = .ok (.invokevirtual 186, 3) := by decide +kernel
theorem dX7_rule_56 : decode cX7_rule 56 = .ok (.istore 5, 2) := by decide +kernel
theorem dX7_rule_58 : decode cX7_rule 58 = .ok (.aload_n 0, 1) := by decide +kernel
theorem dX7_rule_59 : decode cX7_rule 59 = .ok (.getfield 53, 3) := by decide +kernel
theorem dX7_rule_62 : decode cX7_rule 62 = .ok (.iload 5, 2) := by decide +kernel
theorem dX7_rule_64 : decode cX7_rule 64 = .ok (.iconst 0, 1) := by decide +kernel
theorem dX7_rule_65 : decode cX7_rule 65 = .ok (.iload_n 1, 1) := by decide +kernel
theorem dX7_rule_66 : decode cX7_rule 66 = .ok (.invokevirtual 86, 3) := by decide +kernel
theorem dX7_rule_69 : decode cX7_rule 69 = .ok (.aload_n 0, 1) := by decide +kernel
theorem dX7_rule_70 : decode cX7_rule 70 = .ok (.getfield 53, 3) := by decide +kernel
theorem dX7_rule_73 : decode cX7_rule 73 = .ok (.iload 5, 2) := by decide +kernel
theorem dX7_rule_75 : decode cX7_rule 75 = .ok (.iconst 1, 1) := by decide +kernel
theorem dX7_rule_76 : decode cX7_rule 76 = .ok (.iload_n 2, 1) := by decide +kernel
theorem dX7_rule_77 : decode cX7_rule 77 = .ok (.ifCond .eq 7, 3) := by decide +kernel
theorem dX7_rule_80 : decode cX7_rule 80 = .ok (.iconst 1, 1) := by decide +kernel
theorem dX7_rule_81 : decode cX7_rule 81 = .ok (.goto 4, 3) := by decide +kernel
theorem dX7_rule_84 : decode cX7_rule 84 = .ok (.iconst 0, 1) := by decide +kernel
theorem dX7_rule_85 : decode cX7_rule 85 = .ok (.invokevirtual 86, 3) := by decide +kernel
theorem dX7_rule_88 : decode cX7_rule 88 = .ok (.aload_n 0, 1) := by decide +kernel
theorem dX7_rule_89 : decode cX7_rule 89 = .ok (.getfield 53, 3) := by decide +kernel
theorem dX7_rule_92 : decode cX7_rule 92 = .ok (.iload 5, 2) := by decide +kernel
theorem dX7_rule_94 : decode cX7_rule 94 = .ok (.iconst 2, 1) := by decide +kernel
theorem dX7_rule_95 : decode cX7_rule 95 = .ok (.iload_n 3, 1) := by decide +kernel
theorem dX7_rule_96 : decode cX7_rule 96 = .ok (.invokevirtual 86, 3) := by decide +kernel
theorem dX7_rule_99 : decode cX7_rule 99 = .ok (.aload_n 0, 1) := by decide +kernel
theorem dX7_rule_100 : decode cX7_rule 100 = .ok (.getfield 53, 3) := by decide +kernel
theorem dX7_rule_103 : decode cX7_rule 103 = .ok (.iload 5, 2) := by decide +kernel
theorem dX7_rule_105 : decode cX7_rule 105 = .ok (.iconst 3, 1) := by decide +kernel
theorem dX7_rule_106 : decode cX7_rule 106 = .ok (.iload 4, 2) := by decide +kernel
theorem dX7_rule_108 : decode cX7_rule 108 = .ok (.invokevirtual 86, 3) := by decide +kernel
theorem dX7_rule_111 : decode cX7_rule 111 = .ok (.iload 5, 2) := by decide +kernel
theorem dX7_rule_113 : decode cX7_rule 113 = .ok (.ireturn, 1) := by decide +kernel
theorem dX7_unrule_0 : decode cX7_unrule 0 = .ok (.aload_n 0, 1) := by decide +kernel
theorem dX7_unrule_1 : decode cX7_unrule 1 = .ok (.getfield 53, 3) := by decide +kernel
theorem dX7_unrule_4 : decode cX7_unrule 4 = .ok (.getfield 109, 3) := by decide +kernel
theorem dX7_unrule_7 : decode cX7_unrule 7 = .ok (.istore_n 1, 1) := by decide +kernel
theorem dX7_unrule_8 : decode cX7_unrule 8 = .ok (.aload_n 0, 1) := by decide +kernel
theorem dX7_unrule_9 : decode cX7_unrule 9 = .ok (.getfield 53, 3) := by decide +kernel
theorem dX7_unrule_12 : decode cX7_unrule 12 = .ok (.iconst 0, 1) := by decide +kernel
theorem dX7_unrule_13 : decode cX7_unrule 13 = .ok (.putfield 109, 3) := by decide +kernel
theorem dX7_unrule_16 : decode cX7_unrule 16 = .ok (.iload_n 1, 1) := by decide +kernel
theorem dX7_unrule_17 : decode cX7_unrule 17 = .ok (.ireturn, 1) := by decide +kernel
theorem dX7_forge_0 : decode cX7_forge 0 = .ok (.iload_n 1, 1) := by decide +kernel
theorem dX7_forge_1 : decode cX7_forge 1 = .ok (.iconst 0, 1) := by decide +kernel
theorem dX7_forge_2 : decode cX7_forge 2 = .ok (.bipush 15, 2) := by decide +kernel
theorem dX7_forge_4 : decode cX7_forge 4 = .ok (.invokestatic 90, 3) := by decide +kernel
theorem dX7_forge_7 : decode cX7_forge 7 = .ok (.ifCond .eq 14, 3) := by decide +kernel
theorem dX7_forge_10 : decode cX7_forge 10 = .ok (.iload_n 2, 1) := by decide +kernel
theorem dX7_forge_11 : decode cX7_forge 11 = .ok (.iconst 0, 1) := by decide +kernel
theorem dX7_forge_12 : decode cX7_forge 12 = .ok (.sipush 2000, 3) := by decide +kernel
theorem dX7_forge_15 : decode cX7_forge 15 = .ok (.invokestatic 90, 3) := by decide +kernel
theorem dX7_forge_18 : decode cX7_forge 18 = .ok (.ifCond .ne 6, 3) := by decide +kernel
theorem dX7_forge_21 : decode cX7_forge 21 = .ok (.bipush (-2), 2) := by decide +kernel
theorem dX7_forge_23 : decode cX7_forge 23 = .ok (.ireturn, 1) := by decide +kernel
theorem dX7_forge_24 : decode cX7_forge 24 = .ok (.iload_n 3, 1) := by decide +kernel
theorem dX7_forge_25 : decode cX7_forge 25 = .ok (.iconst 1, 1) := by decide +kernel
theorem dX7_forge_26 : decode cX7_forge 26 = .ok (.bipush 50, 2) := by decide +kernel
theorem dX7_forge_28 : decode cX7_forge 28 = .ok (.invokestatic 90, 3) := by decide +kernel
theorem dX7_forge_31 : decode cX7_forge 31 = .ok (.ifCond .ne 6, 3) := by decide +kernel
theorem dX7_forge_34 : decode cX7_forge 34 = .ok (.bipush (-2), 2) := by decide +kernel
theorem dX7_forge_36 : decode cX7_forge 36 = .ok (.ireturn, 1) := by decide +kernel
theorem dX7_forge_37 : decode cX7_forge 37 = .ok (.aload_n 0, 1) := by decide +kernel
theorem dX7_forge_38 : decode cX7_forge 38 = .ok (.getfield 56, 3) := by decide +kernel
theorem dX7_forge_41 : decode cX7_forge 41 = .ok (.invokevirtual 101, 3) := by decide +kernel
theorem dX7_forge_44 : decode cX7_forge 44 = .ok (.ifCond .eq 6, 3) := by decide +kernel
theorem dX7_forge_47 : decode cX7_forge 47 = .ok (.bipush (-4), 2) := by decide +kernel
theorem dX7_forge_49 : decode cX7_forge 49 = .ok (.ireturn, 1) := by decide +kernel
theorem dX7_forge_50 : decode cX7_forge 50 = .ok (.aload_n 0, 1) := by decide +kernel
theorem dX7_forge_51 : decode cX7_forge 51 = .ok (.getfield 56, 3) := by decide +kernel
theorem dX7_forge_54 : decode cX7_forge 54 = .ok (.invokevirtual 186, 3) := by decide +kernel
theorem dX7_forge_57 : decode cX7_forge 57 = .ok (.istore 4, 2) := by decide +kernel
theorem dX7_forge_59 : decode cX7_forge 59 = .ok (.aload_n 0, 1) := by decide +kernel
theorem dX7_forge_60 : decode cX7_forge 60 = .ok (.getfield 56, 3) := by decide +kernel
theorem dX7_forge_63 : decode cX7_forge 63 = .ok (.iload 4, 2) := by decide +kernel
theorem dX7_forge_65 : decode cX7_forge 65 = .ok (.iconst 0, 1) := by decide +kernel
theorem dX7_forge_66 : decode cX7_forge 66 = .ok (.iload_n 1, 1) := by decide +kernel
theorem dX7_forge_67 : decode cX7_forge 67 = .ok (.invokevirtual 86, 3) := by decide +kernel
theorem dX7_forge_70 : decode cX7_forge 70 = .ok (.aload_n 0, 1) := by decide +kernel
theorem dX7_forge_71 : decode cX7_forge 71 = .ok (.getfield 56, 3) := by decide +kernel
theorem dX7_forge_74 : decode cX7_forge 74 = .ok (.iload 4, 2) := by decide +kernel
theorem dX7_forge_76 : decode cX7_forge 76 = .ok (.iconst 1, 1) := by decide +kernel
theorem dX7_forge_77 : decode cX7_forge 77 = .ok (.iload_n 2, 1) := by decide +kernel
theorem dX7_forge_78 : decode cX7_forge 78 = .ok (.invokevirtual 86, 3) := by decide +kernel
theorem dX7_forge_81 : decode cX7_forge 81 = .ok (.aload_n 0, 1) := by decide +kernel
theorem dX7_forge_82 : decode cX7_forge 82 = .ok (.getfield 56, 3) := by decide +kernel
theorem dX7_forge_85 : decode cX7_forge 85 = .ok (.iload 4, 2) := by decide +kernel
theorem dX7_forge_87 : decode cX7_forge 87 = .ok (.iconst 2, 1) := by decide +kernel
theorem dX7_forge_88 : decode cX7_forge 88 = .ok (.iload_n 3, 1) := by decide +kernel
theorem dX7_forge_89 : decode cX7_forge 89 = .ok (.invokevirtual 86, 3) := by decide +kernel
theorem dX7_forge_92 : decode cX7_forge 92 = .ok (.iload 4, 2) := by decide +kernel
theorem dX7_forge_94 : decode cX7_forge 94 = .ok (.ireturn, 1) := by decide +kernel
theorem dX7_sale_0 : decode cX7_sale 0 = .ok (.aload_n 0, 1) := by decide +kernel
theorem dX7_sale_1 : decode cX7_sale 1 = .ok (.getfield 62, 3) := by decide +kernel
theorem dX7_sale_4 : decode cX7_sale 4 = .ok (.aload_n 0, 1) := by decide +kernel
theorem dX7_sale_5 : decode cX7_sale 5 = .ok (.getfield 42, 3) := by decide +kernel
theorem dX7_sale_8 : decode cX7_sale 8 = .ok (.aload_n 0, 1) := by decide +kernel
theorem dX7_sale_9 : decode cX7_sale 9 = .ok (.getfield 56, 3) := by decide +kernel
theorem dX7_sale_12 : decode cX7_sale 12 = .ok (.invokevirtual 189, 3) := by decide +kernel
theorem dX7_sale_15 : decode cX7_sale 15 = .ok (.aload_n 0, 1) := by decide +kernel
theorem dX7_sale_16 : decode cX7_sale 16 = .ok (.getfield 62, 3) := by decide +kernel
theorem dX7_sale_19 : decode cX7_sale 19 = .ok (.getfield 193, 3) := by decide +kernel
theorem dX7_sale_22 : decode cX7_sale 22 = .ok (.ireturn, 1) := by decide +kernel
theorem dX7_sell_0 : decode cX7_sell 0 = .ok (.aload_n 0, 1) := by decide +kernel
theorem dX7_sell_1 : decode cX7_sell 1 = .ok (.getfield 62, 3) := by decide +kernel
theorem dX7_sell_4 : decode cX7_sell 4 = .ok (.aload_n 0, 1) := by decide +kernel
theorem dX7_sell_5 : decode cX7_sell 5 = .ok (.getfield 42, 3) := by decide +kernel
theorem dX7_sell_8 : decode cX7_sell 8 = .ok (.aload_n 0, 1) := by decide +kernel
theorem dX7_sell_9 : decode cX7_sell 9 = .ok (.getfield 56, 3) := by decide +kernel
theorem dX7_sell_12 : decode cX7_sell 12 = .ok (.invokevirtual 189, 3) := by decide +kernel
theorem dX7_sell_15 : decode cX7_sell 15 = .ok (.iconst 0, 1) := by decide +kernel
theorem dX7_sell_16 : decode cX7_sell 16 = .ok (.istore_n 1, 1) := by decide +kernel
theorem dX7_sell_17 : decode cX7_sell 17 = .ok (.iconst 0, 1) := by decide +kernel
theorem dX7_sell_18 : decode cX7_sell 18 = .ok (.istore_n 2, 1) := by decide +kernel
theorem dX7_sell_19 : decode cX7_sell 19 = .ok (.iload_n 2, 1) := by decide +kernel
theorem dX7_sell_20 : decode cX7_sell 20 = .ok (.aload_n 0, 1) := by decide +kernel
theorem dX7_sell_21 : decode cX7_sell 21 = .ok (.getfield 62, 3) := by decide +kernel
theorem dX7_sell_24 : decode cX7_sell 24 = .ok (.getfield 196, 3) := by decide +kernel
theorem dX7_sell_27 : decode cX7_sell 27 = .ok (.if_icmp .ge 80, 3) := by decide +kernel
theorem dX7_sell_30 : decode cX7_sell 30 = .ok (.aload_n 0, 1) := by decide +kernel
theorem dX7_sell_31 : decode cX7_sell 31 = .ok (.getfield 62, 3) := by decide +kernel
theorem dX7_sell_34 : decode cX7_sell 34 = .ok (.getfield 199, 3) := by decide +kernel
theorem dX7_sell_37 : decode cX7_sell 37 = .ok (.iload_n 2, 1) := by decide +kernel
theorem dX7_sell_38 : decode cX7_sell 38 = .ok (.iaload, 1) := by decide +kernel
theorem dX7_sell_39 : decode cX7_sell 39 = .ok (.istore_n 3, 1) := by decide +kernel
theorem dX7_sell_40 : decode cX7_sell 40 = .ok (.iload_n 3, 1) := by decide +kernel
theorem dX7_sell_41 : decode cX7_sell 41 = .ok (.iconst (-1), 1) := by decide +kernel
theorem dX7_sell_42 : decode cX7_sell 42 = .ok (.if_icmp .ne 6, 3) := by decide +kernel
theorem dX7_sell_45 : decode cX7_sell 45 = .ok (.goto 56, 3) := by decide +kernel
theorem dX7_sell_48 : decode cX7_sell 48 = .ok (.aload_n 0, 1) := by decide +kernel
theorem dX7_sell_49 : decode cX7_sell 49 = .ok (.getfield 56, 3) := by decide +kernel
theorem dX7_sell_52 : decode cX7_sell 52 = .ok (.iload_n 3, 1) := by decide +kernel
theorem dX7_sell_53 : decode cX7_sell 53 = .ok (.iconst 1, 1) := by decide +kernel
theorem dX7_sell_54 : decode cX7_sell 54 = .ok (.invokevirtual 112, 3) := by decide +kernel
theorem dX7_sell_57 : decode cX7_sell 57 = .ok (.istore 4, 2) := by decide +kernel
theorem dX7_sell_59 : decode cX7_sell 59 = .ok (.aload_n 0, 1) := by decide +kernel
theorem dX7_sell_60 : decode cX7_sell 60 = .ok (.getfield 56, 3) := by decide +kernel
theorem dX7_sell_63 : decode cX7_sell 63 = .ok (.iload_n 3, 1) := by decide +kernel
theorem dX7_sell_64 : decode cX7_sell 64 = .ok (.iconst 1, 1) := by decide +kernel
theorem dX7_sell_65 : decode cX7_sell 65 = .ok (.iload 4, 2) := by decide +kernel
theorem dX7_sell_67 : decode cX7_sell 67 = .ok (.aload_n 0, 1) := by decide +kernel
theorem dX7_sell_68 : decode cX7_sell 68 = .ok (.getfield 62, 3) := by decide +kernel
theorem dX7_sell_71 : decode cX7_sell 71 = .ok (.getfield 202, 3) := by decide +kernel
theorem dX7_sell_74 : decode cX7_sell 74 = .ok (.iload_n 2, 1) := by decide +kernel
theorem dX7_sell_75 : decode cX7_sell 75 = .ok (.iaload, 1) := by decide +kernel
theorem dX7_sell_76 : decode cX7_sell 76 = .ok (.isub, 1) := by decide +kernel
theorem dX7_sell_77 : decode cX7_sell 77 = .ok (.invokevirtual 86, 3) := by decide +kernel
theorem dX7_sell_80 : decode cX7_sell 80 = .ok (.aload_n 0, 1) := by decide +kernel
theorem dX7_sell_81 : decode cX7_sell 81 = .ok (.getfield 42, 3) := by decide +kernel
theorem dX7_sell_84 : decode cX7_sell 84 = .ok (.aload_n 0, 1) := by decide +kernel
theorem dX7_sell_85 : decode cX7_sell 85 = .ok (.getfield 62, 3) := by decide +kernel
theorem dX7_sell_88 : decode cX7_sell 88 = .ok (.getfield 205, 3) := by decide +kernel
theorem dX7_sell_91 : decode cX7_sell 91 = .ok (.iload_n 2, 1) := by decide +kernel
theorem dX7_sell_92 : decode cX7_sell 92 = .ok (.iaload, 1) := by decide +kernel
theorem dX7_sell_93 : decode cX7_sell 93 = .ok (.iconst 5, 1) := by decide +kernel
theorem dX7_sell_94 : decode cX7_sell 94 = .ok (.iload_n 3, 1) := by decide +kernel
theorem dX7_sell_95 : decode cX7_sell 95 = .ok (.invokevirtual 86, 3) := by decide +kernel
theorem dX7_sell_98 : decode cX7_sell 98 = .ok (.iinc 1 1, 3) := by decide +kernel
theorem dX7_sell_101 : decode cX7_sell 101 = .ok (.iinc 2 1, 3) := by decide +kernel
theorem dX7_sell_104 : decode cX7_sell 104 = .ok (.goto (-85), 3) := by decide +kernel
theorem dX7_sell_107 : decode cX7_sell 107 = .ok (.aload_n 0, 1) := by decide +kernel
theorem dX7_sell_108 : decode cX7_sell 108 = .ok (.dup, 1) := by decide +kernel
theorem dX7_sell_109 : decode cX7_sell 109 = .ok (.getfield 79, 3) := by decide +kernel
theorem dX7_sell_112 : decode cX7_sell 112 = .ok (.iload_n 1, 1) := by decide +kernel
theorem dX7_sell_113 : decode cX7_sell 113 = .ok (.iadd, 1) := by decide +kernel
theorem dX7_sell_114 : decode cX7_sell 114 = .ok (.putfield 79, 3) := by decide +kernel
theorem dX7_sell_117 : decode cX7_sell 117 = .ok (.aload_n 0, 1) := by decide +kernel
theorem dX7_sell_118 : decode cX7_sell 118 = .ok (.dup, 1) := by decide +kernel
theorem dX7_sell_119 : decode cX7_sell 119 = .ok (.getfield 83, 3) := by decide +kernel
theorem dX7_sell_122 : decode cX7_sell 122 = .ok (.aload_n 0, 1) := by decide +kernel
theorem dX7_sell_123 : decode cX7_sell 123 = .ok (.getfield 62, 3) := by decide +kernel
theorem dX7_sell_126 : decode cX7_sell 126 = .ok (.getfield 193, 3) := by decide +kernel
theorem dX7_sell_129 : decode cX7_sell 129 = .ok (.iadd, 1) := by decide +kernel
theorem dX7_sell_130 : decode cX7_sell 130 = .ok (.putfield 83, 3) := by decide +kernel
theorem dX7_sell_133 : decode cX7_sell 133 = .ok (.iload_n 1, 1) := by decide +kernel
theorem dX7_sell_134 : decode cX7_sell 134 = .ok (.ireturn, 1) := by decide +kernel
theorem dX7_month_0 : decode cX7_month 0 = .ok (.iload_n 1, 1) := by decide +kernel
theorem dX7_month_1 : decode cX7_month 1 = .ok (.iconst 0, 1) := by decide +kernel
theorem dX7_month_2 : decode cX7_month 2 = .ok (.bipush 11, 2) := by decide +kernel
theorem dX7_month_4 : decode cX7_month 4 = .ok (.invokestatic 90, 3) := by decide +kernel
theorem dX7_month_7 : decode cX7_month 7 = .ok (.ifCond .ne 6, 3) := by decide +kernel
theorem dX7_month_10 : decode cX7_month 10 = .ok (.bipush (-2), 2) := by decide +kernel
theorem dX7_month_12 : decode cX7_month 12 = .ok (.ireturn, 1) := by decide +kernel
theorem dX7_month_13 : decode cX7_month 13 = .ok (.iload_n 2, 1) := by decide +kernel
theorem dX7_month_14 : decode cX7_month 14 = .ok (.iconst 0, 1) := by decide +kernel
theorem dX7_month_15 : decode cX7_month 15 = .ok (.iconst 4, 1) := by decide +kernel
theorem dX7_month_16 : decode cX7_month 16 = .ok (.invokestatic 90, 3) := by decide +kernel
theorem dX7_month_19 : decode cX7_month 19 = .ok (.ifCond .eq 14, 3) := by decide +kernel
theorem dX7_month_22 : decode cX7_month 22 = .ok (.iload_n 3, 1) := by decide +kernel
theorem dX7_month_23 : decode cX7_month 23 = .ok (.iconst 0, 1) := by decide +kernel
theorem dX7_month_24 : decode cX7_month 24 = .ok (.sipush 1000, 3) := by decide +kernel
theorem dX7_month_27 : decode cX7_month 27 = .ok (.invokestatic 90, 3) := by decide +kernel
theorem dX7_month_30 : decode cX7_month 30 = .ok (.ifCond .ne 6, 3) := by decide +kernel
theorem dX7_month_33 : decode cX7_month 33 = .ok (.bipush (-2), 2) := by decide +kernel
theorem dX7_month_35 : decode cX7_month 35 = .ok (.ireturn, 1) := by decide +kernel
theorem dX7_month_36 : decode cX7_month 36 = .ok (.aload_n 0, 1) := by decide +kernel
theorem dX7_month_37 : decode cX7_month 37 = .ok (.getfield 66, 3) := by decide +kernel
theorem dX7_month_40 : decode cX7_month 40 = .ok (.iload_n 1, 1) := by decide +kernel
theorem dX7_month_41 : decode cX7_month 41 = .ok (.iconst 0, 1) := by decide +kernel
theorem dX7_month_42 : decode cX7_month 42 = .ok (.iload_n 2, 1) := by decide +kernel
theorem dX7_month_43 : decode cX7_month 43 = .ok (.invokevirtual 86, 3) := by decide +kernel
theorem dX7_month_46 : decode cX7_month 46 = .ok (.aload_n 0, 1) := by decide +kernel
theorem dX7_month_47 : decode cX7_month 47 = .ok (.getfield 66, 3) := by decide +kernel
theorem dX7_month_50 : decode cX7_month 50 = .ok (.iload_n 1, 1) := by decide +kernel
theorem dX7_month_51 : decode cX7_month 51 = .ok (.iconst 1, 1) := by decide +kernel
theorem dX7_month_52 : decode cX7_month 52 = .ok (.iload_n 3, 1) := by decide +kernel
theorem dX7_month_53 : decode cX7_month 53 = .ok (.invokevirtual 86, 3) := by decide +kernel
theorem dX7_month_56 : decode cX7_month 56 = .ok (.iconst 1, 1) := by decide +kernel
theorem dX7_month_57 : decode cX7_month 57 = .ok (.ireturn, 1) := by decide +kernel
theorem dX7_pace_0 : decode cX7_pace 0 = .ok (.iload_n 1, 1) := by decide +kernel
theorem dX7_pace_1 : decode cX7_pace 1 = .ok (.iconst 0, 1) := by decide +kernel
theorem dX7_pace_2 : decode cX7_pace 2 = .ok (.iconst 4, 1) := by decide +kernel
theorem dX7_pace_3 : decode cX7_pace 3 = .ok (.invokestatic 90, 3) := by decide +kernel
theorem dX7_pace_6 : decode cX7_pace 6 = .ok (.ifCond .eq 14, 3) := by decide +kernel
theorem dX7_pace_9 : decode cX7_pace 9 = .ok (.iload_n 2, 1) := by decide +kernel
theorem dX7_pace_10 : decode cX7_pace 10 = .ok (.iconst 0, 1) := by decide +kernel
theorem dX7_pace_11 : decode cX7_pace 11 = .ok (.sipush 1000, 3) := by decide +kernel
theorem dX7_pace_14 : decode cX7_pace 14 = .ok (.invokestatic 90, 3) := by decide +kernel
theorem dX7_pace_17 : decode cX7_pace 17 = .ok (.ifCond .ne 6, 3) := by decide +kernel
theorem dX7_pace_20 : decode cX7_pace 20 = .ok (.bipush (-2), 2) := by decide +kernel
theorem dX7_pace_22 : decode cX7_pace 22 = .ok (.ireturn, 1) := by decide +kernel
theorem dX7_pace_23 : decode cX7_pace 23 = .ok (.iload_n 3, 1) := by decide +kernel
theorem dX7_pace_24 : decode cX7_pace 24 = .ok (.iconst 0, 1) := by decide +kernel
theorem dX7_pace_25 : decode cX7_pace 25 = .ok (.sipush 1000, 3) := by decide +kernel
theorem dX7_pace_28 : decode cX7_pace 28 = .ok (.invokestatic 90, 3) := by decide +kernel
theorem dX7_pace_31 : decode cX7_pace 31 = .ok (.ifCond .eq 15, 3) := by decide +kernel
theorem dX7_pace_34 : decode cX7_pace 34 = .ok (.iload 4, 2) := by decide +kernel
theorem dX7_pace_36 : decode cX7_pace 36 = .ok (.iconst 0, 1) := by decide +kernel
theorem dX7_pace_37 : decode cX7_pace 37 = .ok (.sipush 1000, 3) := by decide +kernel
theorem dX7_pace_40 : decode cX7_pace 40 = .ok (.invokestatic 90, 3) := by decide +kernel
theorem dX7_pace_43 : decode cX7_pace 43 = .ok (.ifCond .ne 6, 3) := by decide +kernel
theorem dX7_pace_46 : decode cX7_pace 46 = .ok (.bipush (-2), 2) := by decide +kernel
theorem dX7_pace_48 : decode cX7_pace 48 = .ok (.ireturn, 1) := by decide +kernel
theorem dX7_pace_49 : decode cX7_pace 49 = .ok (.aload_n 0, 1) := by decide +kernel
theorem dX7_pace_50 : decode cX7_pace 50 = .ok (.getfield 69, 3) := by decide +kernel
theorem dX7_pace_53 : decode cX7_pace 53 = .ok (.iload_n 1, 1) := by decide +kernel
theorem dX7_pace_54 : decode cX7_pace 54 = .ok (.iconst 0, 1) := by decide +kernel
theorem dX7_pace_55 : decode cX7_pace 55 = .ok (.iload_n 2, 1) := by decide +kernel
theorem dX7_pace_56 : decode cX7_pace 56 = .ok (.invokevirtual 86, 3) := by decide +kernel
theorem dX7_pace_59 : decode cX7_pace 59 = .ok (.aload_n 0, 1) := by decide +kernel
theorem dX7_pace_60 : decode cX7_pace 60 = .ok (.getfield 69, 3) := by decide +kernel
theorem dX7_pace_63 : decode cX7_pace 63 = .ok (.iload_n 1, 1) := by decide +kernel
theorem dX7_pace_64 : decode cX7_pace 64 = .ok (.iconst 1, 1) := by decide +kernel
theorem dX7_pace_65 : decode cX7_pace 65 = .ok (.iload_n 3, 1) := by decide +kernel
theorem dX7_pace_66 : decode cX7_pace 66 = .ok (.invokevirtual 86, 3) := by decide +kernel
theorem dX7_pace_69 : decode cX7_pace 69 = .ok (.aload_n 0, 1) := by decide +kernel
theorem dX7_pace_70 : decode cX7_pace 70 = .ok (.getfield 69, 3) := by decide +kernel
theorem dX7_pace_73 : decode cX7_pace 73 = .ok (.iload_n 1, 1) := by decide +kernel
theorem dX7_pace_74 : decode cX7_pace 74 = .ok (.iconst 2, 1) := by decide +kernel
theorem dX7_pace_75 : decode cX7_pace 75 = .ok (.iload 4, 2) := by decide +kernel
theorem dX7_pace_77 : decode cX7_pace 77 = .ok (.invokevirtual 86, 3) := by decide +kernel
theorem dX7_pace_80 : decode cX7_pace 80 = .ok (.iconst 1, 1) := by decide +kernel
theorem dX7_pace_81 : decode cX7_pace 81 = .ok (.ireturn, 1) := by decide +kernel
theorem dX7_plan_0 : decode cX7_plan 0 = .ok (.iload_n 1, 1) := by decide +kernel
theorem dX7_plan_1 : decode cX7_plan 1 = .ok (.iconst 0, 1) := by decide +kernel
theorem dX7_plan_2 : decode cX7_plan 2 = .ok (.bipush 11, 2) := by decide +kernel
theorem dX7_plan_4 : decode cX7_plan 4 = .ok (.invokestatic 90, 3) := by decide +kernel
theorem dX7_plan_7 : decode cX7_plan 7 = .ok (.ifCond .eq 13, 3) := by decide +kernel
theorem dX7_plan_10 : decode cX7_plan 10 = .ok (.iload_n 2, 1) := by decide +kernel
theorem dX7_plan_11 : decode cX7_plan 11 = .ok (.iconst 1, 1) := by decide +kernel
theorem dX7_plan_12 : decode cX7_plan 12 = .ok (.bipush 6, 2) := by decide +kernel
theorem dX7_plan_14 : decode cX7_plan 14 = .ok (.invokestatic 90, 3) := by decide +kernel
theorem dX7_plan_17 : decode cX7_plan 17 = .ok (.ifCond .ne 6, 3) := by decide +kernel
theorem dX7_plan_20 : decode cX7_plan 20 = .ok (.bipush (-2), 2) := by decide +kernel
theorem dX7_plan_22 : decode cX7_plan 22 = .ok (.ireturn, 1) := by decide +kernel
theorem dX7_plan_23 : decode cX7_plan 23 = .ok (.iload_n 3, 1) := by decide +kernel
theorem dX7_plan_24 : decode cX7_plan 24 = .ok (.iconst 0, 1) := by decide +kernel
theorem dX7_plan_25 : decode cX7_plan 25 = .ok (.sipush 10000, 3) := by decide +kernel
theorem dX7_plan_28 : decode cX7_plan 28 = .ok (.invokestatic 90, 3) := by decide +kernel
theorem dX7_plan_31 : decode cX7_plan 31 = .ok (.ifCond .eq 15, 3) := by decide +kernel
theorem dX7_plan_34 : decode cX7_plan 34 = .ok (.iload 4, 2) := by decide +kernel
theorem dX7_plan_36 : decode cX7_plan 36 = .ok (.iconst 0, 1) := by decide +kernel
theorem dX7_plan_37 : decode cX7_plan 37 = .ok (.sipush 10000, 3) := by decide +kernel
theorem dX7_plan_40 : decode cX7_plan 40 = .ok (.invokestatic 90, 3) := by decide +kernel
theorem dX7_plan_43 : decode cX7_plan 43 = .ok (.ifCond .ne 6, 3) := by decide +kernel
theorem dX7_plan_46 : decode cX7_plan 46 = .ok (.bipush (-2), 2) := by decide +kernel
theorem dX7_plan_48 : decode cX7_plan 48 = .ok (.ireturn, 1) := by decide +kernel
theorem dX7_plan_49 : decode cX7_plan 49 = .ok (.aload_n 0, 1) := by decide +kernel
theorem dX7_plan_50 : decode cX7_plan 50 = .ok (.getfield 75, 3) := by decide +kernel
theorem dX7_plan_53 : decode cX7_plan 53 = .ok (.aload_n 0, 1) := by decide +kernel
theorem dX7_plan_54 : decode cX7_plan 54 = .ok (.getfield 66, 3) := by decide +kernel
theorem dX7_plan_57 : decode cX7_plan 57 = .ok (.aload_n 0, 1) := by decide +kernel
theorem dX7_plan_58 : decode cX7_plan 58 = .ok (.getfield 69, 3) := by decide +kernel
theorem dX7_plan_61 : decode cX7_plan 61 = .ok (.iload_n 1, 1) := by decide +kernel
theorem dX7_plan_62 : decode cX7_plan 62 = .ok (.iload_n 2, 1) := by decide +kernel
theorem dX7_plan_63 : decode cX7_plan 63 = .ok (.invokevirtual 208, 3) := by decide +kernel
theorem dX7_plan_66 : decode cX7_plan 66 = .ok (.aload_n 0, 1) := by decide +kernel
theorem dX7_plan_67 : decode cX7_plan 67 = .ok (.getfield 75, 3) := by decide +kernel
theorem dX7_plan_70 : decode cX7_plan 70 = .ok (.aload_n 0, 1) := by decide +kernel
theorem dX7_plan_71 : decode cX7_plan 71 = .ok (.getfield 69, 3) := by decide +kernel
theorem dX7_plan_74 : decode cX7_plan 74 = .ok (.iload_n 3, 1) := by decide +kernel
theorem dX7_plan_75 : decode cX7_plan 75 = .ok (.iload 4, 2) := by decide +kernel
theorem dX7_plan_77 : decode cX7_plan 77 = .ok (.invokevirtual 212, 3) := by decide +kernel
theorem dX7_plan_80 : decode cX7_plan 80 = .ok (.ireturn, 1) := by decide +kernel
theorem dX7_paceAt_0 : decode cX7_paceAt 0 = .ok (.iload_n 1, 1) := by decide +kernel
theorem dX7_paceAt_1 : decode cX7_paceAt 1 = .ok (.iconst 0, 1) := by decide +kernel
theorem dX7_paceAt_2 : decode cX7_paceAt 2 = .ok (.aload_n 0, 1) := by decide +kernel
theorem dX7_paceAt_3 : decode cX7_paceAt 3 = .ok (.getfield 75, 3) := by decide +kernel
theorem dX7_paceAt_6 : decode cX7_paceAt 6 = .ok (.getfield 215, 3) := by decide +kernel
theorem dX7_paceAt_9 : decode cX7_paceAt 9 = .ok (.iconst 1, 1) := by decide +kernel
theorem dX7_paceAt_10 : decode cX7_paceAt 10 = .ok (.isub, 1) := by decide +kernel
theorem dX7_paceAt_11 : decode cX7_paceAt 11 = .ok (.invokestatic 90, 3) := by decide +kernel
theorem dX7_paceAt_14 : decode cX7_paceAt 14 = .ok (.ifCond .eq 15, 3) := by decide +kernel
theorem dX7_paceAt_17 : decode cX7_paceAt 17 = .ok (.aload_n 0, 1) := by decide +kernel
theorem dX7_paceAt_18 : decode cX7_paceAt 18 = .ok (.getfield 75, 3) := by decide +kernel
theorem dX7_paceAt_21 : decode cX7_paceAt 21 = .ok (.getfield 218, 3) := by decide +kernel
theorem dX7_paceAt_24 : decode cX7_paceAt 24 = .ok (.iload_n 1, 1) := by decide +kernel
theorem dX7_paceAt_25 : decode cX7_paceAt 25 = .ok (.iaload, 1) := by decide +kernel
theorem dX7_paceAt_26 : decode cX7_paceAt 26 = .ok (.goto 4, 3) := by decide +kernel
theorem dX7_paceAt_29 : decode cX7_paceAt 29 = .ok (.iconst (-1), 1) := by decide +kernel
theorem dX7_paceAt_30 : decode cX7_paceAt 30 = .ok (.ireturn, 1) := by decide +kernel
theorem dX7_count_0 : decode cX7_count 0 = .ok (.iload_n 1, 1) := by decide +kernel
theorem dX7_count_1 : decode cX7_count 1 = .ok (.tableswitch 84 0 5 #[39, 50, 58, 66, 74, 79], 39) := by decide +kernel
theorem dX7_count_40 : decode cX7_count 40 = .ok (.aload_n 0, 1) := by decide +kernel
theorem dX7_count_41 : decode cX7_count 41 = .ok (.getfield 19, 3) := by decide +kernel
theorem dX7_count_44 : decode cX7_count 44 = .ok (.getfield 98, 3) := by decide +kernel
theorem dX7_count_47 : decode cX7_count 47 = .ok (.getfield 109, 3) := by decide +kernel
theorem dX7_count_50 : decode cX7_count 50 = .ok (.ireturn, 1) := by decide +kernel
theorem dX7_count_51 : decode cX7_count 51 = .ok (.aload_n 0, 1) := by decide +kernel
theorem dX7_count_52 : decode cX7_count 52 = .ok (.getfield 42, 3) := by decide +kernel
theorem dX7_count_55 : decode cX7_count 55 = .ok (.getfield 109, 3) := by decide +kernel
theorem dX7_count_58 : decode cX7_count 58 = .ok (.ireturn, 1) := by decide +kernel
theorem dX7_count_59 : decode cX7_count 59 = .ok (.aload_n 0, 1) := by decide +kernel
theorem dX7_count_60 : decode cX7_count 60 = .ok (.getfield 53, 3) := by decide +kernel
theorem dX7_count_63 : decode cX7_count 63 = .ok (.getfield 109, 3) := by decide +kernel
theorem dX7_count_66 : decode cX7_count 66 = .ok (.ireturn, 1) := by decide +kernel
theorem dX7_count_67 : decode cX7_count 67 = .ok (.aload_n 0, 1) := by decide +kernel
theorem dX7_count_68 : decode cX7_count 68 = .ok (.getfield 56, 3) := by decide +kernel
theorem dX7_count_71 : decode cX7_count 71 = .ok (.getfield 109, 3) := by decide +kernel
theorem dX7_count_74 : decode cX7_count 74 = .ok (.ireturn, 1) := by decide +kernel
theorem dX7_count_75 : decode cX7_count 75 = .ok (.aload_n 0, 1) := by decide +kernel
theorem dX7_count_76 : decode cX7_count 76 = .ok (.getfield 79, 3) := by decide +kernel
theorem dX7_count_79 : decode cX7_count 79 = .ok (.ireturn, 1) := by decide +kernel
theorem dX7_count_80 : decode cX7_count 80 = .ok (.aload_n 0, 1) := by decide +kernel
theorem dX7_count_81 : decode cX7_count 81 = .ok (.getfield 83, 3) := by decide +kernel
theorem dX7_count_84 : decode cX7_count 84 = .ok (.ireturn, 1) := by decide +kernel
theorem dX7_count_85 : decode cX7_count 85 = .ok (.bipush (-2), 2) := by decide +kernel
theorem dX7_count_87 : decode cX7_count 87 = .ok (.ireturn, 1) := by decide +kernel
theorem dX7_digest_0 : decode cX7_digest 0 = .ok (.ldc2_w 219, 3) := by decide +kernel
theorem dX7_digest_3 : decode cX7_digest 3 = .ok (.lstore_n 1, 1) := by decide +kernel
theorem dX7_digest_4 : decode cX7_digest 4 = .ok (.iconst 0, 1) := by decide +kernel
theorem dX7_digest_5 : decode cX7_digest 5 = .ok (.istore_n 3, 1) := by decide +kernel
theorem dX7_digest_6 : decode cX7_digest 6 = .ok (.iload_n 3, 1) := by decide +kernel
theorem dX7_digest_7 : decode cX7_digest 7 = .ok (.bipush 6, 2) := by decide +kernel
theorem dX7_digest_9 : decode cX7_digest 9 = .ok (.if_icmp .ge 22, 3) := by decide +kernel
theorem dX7_digest_12 : decode cX7_digest 12 = .ok (.ldc2_w 221, 3) := by decide +kernel
theorem dX7_digest_15 : decode cX7_digest 15 = .ok (.lload_n 1, 1) := by decide +kernel
theorem dX7_digest_16 : decode cX7_digest 16 = .ok (.lmul, 1) := by decide +kernel
theorem dX7_digest_17 : decode cX7_digest 17 = .ok (.aload_n 0, 1) := by decide +kernel
theorem dX7_digest_18 : decode cX7_digest 18 = .ok (.iload_n 3, 1) := by decide +kernel
theorem dX7_digest_19 : decode cX7_digest 19 = .ok (.invokevirtual 223, 3) := by decide +kernel
theorem dX7_digest_22 : decode cX7_digest 22 = .ok (.i2l, 1) := by decide +kernel
theorem dX7_digest_23 : decode cX7_digest 23 = .ok (.ladd, 1) := by decide +kernel
theorem dX7_digest_24 : decode cX7_digest 24 = .ok (.lstore_n 1, 1) := by decide +kernel
theorem dX7_digest_25 : decode cX7_digest 25 = .ok (.iinc 3 1, 3) := by decide +kernel
theorem dX7_digest_28 : decode cX7_digest 28 = .ok (.goto (-22), 3) := by decide +kernel
theorem dX7_digest_31 : decode cX7_digest 31 = .ok (.iconst 0, 1) := by decide +kernel
theorem dX7_digest_32 : decode cX7_digest 32 = .ok (.istore_n 3, 1) := by decide +kernel
theorem dX7_digest_33 : decode cX7_digest 33 = .ok (.iload_n 3, 1) := by decide +kernel
theorem dX7_digest_34 : decode cX7_digest 34 = .ok (.bipush 12, 2) := by decide +kernel
theorem dX7_digest_36 : decode cX7_digest 36 = .ok (.if_icmp .ge 22, 3) := by decide +kernel
theorem dX7_digest_39 : decode cX7_digest 39 = .ok (.ldc2_w 221, 3) := by decide +kernel
theorem dX7_digest_42 : decode cX7_digest 42 = .ok (.lload_n 1, 1) := by decide +kernel
theorem dX7_digest_43 : decode cX7_digest 43 = .ok (.lmul, 1) := by decide +kernel
theorem dX7_digest_44 : decode cX7_digest 44 = .ok (.aload_n 0, 1) := by decide +kernel
theorem dX7_digest_45 : decode cX7_digest 45 = .ok (.iload_n 3, 1) := by decide +kernel
theorem dX7_digest_46 : decode cX7_digest 46 = .ok (.invokevirtual 226, 3) := by decide +kernel
theorem dX7_digest_49 : decode cX7_digest 49 = .ok (.i2l, 1) := by decide +kernel
theorem dX7_digest_50 : decode cX7_digest 50 = .ok (.ladd, 1) := by decide +kernel
theorem dX7_digest_51 : decode cX7_digest 51 = .ok (.lstore_n 1, 1) := by decide +kernel
theorem dX7_digest_52 : decode cX7_digest 52 = .ok (.iinc 3 1, 3) := by decide +kernel
theorem dX7_digest_55 : decode cX7_digest 55 = .ok (.goto (-22), 3) := by decide +kernel
theorem dX7_digest_58 : decode cX7_digest 58 = .ok (.iconst 0, 1) := by decide +kernel
theorem dX7_digest_59 : decode cX7_digest 59 = .ok (.istore_n 3, 1) := by decide +kernel
theorem dX7_digest_60 : decode cX7_digest 60 = .ok (.iload_n 3, 1) := by decide +kernel
theorem dX7_digest_61 : decode cX7_digest 61 = .ok (.bipush 6, 2) := by decide +kernel
theorem dX7_digest_63 : decode cX7_digest 63 = .ok (.if_icmp .ge 23, 3) := by decide +kernel
theorem dX7_digest_66 : decode cX7_digest 66 = .ok (.ldc2_w 221, 3) := by decide +kernel
theorem dX7_digest_69 : decode cX7_digest 69 = .ok (.lload_n 1, 1) := by decide +kernel
theorem dX7_digest_70 : decode cX7_digest 70 = .ok (.lmul, 1) := by decide +kernel
theorem dX7_digest_71 : decode cX7_digest 71 = .ok (.aload_n 0, 1) := by decide +kernel
theorem dX7_digest_72 : decode cX7_digest 72 = .ok (.getfield 9, 3) := by decide +kernel
theorem dX7_digest_75 : decode cX7_digest 75 = .ok (.iload_n 3, 1) := by decide +kernel
theorem dX7_digest_76 : decode cX7_digest 76 = .ok (.iaload, 1) := by decide +kernel
theorem dX7_digest_77 : decode cX7_digest 77 = .ok (.i2l, 1) := by decide +kernel
theorem dX7_digest_78 : decode cX7_digest 78 = .ok (.ladd, 1) := by decide +kernel
theorem dX7_digest_79 : decode cX7_digest 79 = .ok (.lstore_n 1, 1) := by decide +kernel
theorem dX7_digest_80 : decode cX7_digest 80 = .ok (.iinc 3 1, 3) := by decide +kernel
theorem dX7_digest_83 : decode cX7_digest 83 = .ok (.goto (-23), 3) := by decide +kernel
theorem dX7_digest_86 : decode cX7_digest 86 = .ok (.aload_n 0, 1) := by decide +kernel
theorem dX7_digest_87 : decode cX7_digest 87 = .ok (.getfield 19, 3) := by decide +kernel
theorem dX7_digest_90 : decode cX7_digest 90 = .ok (.getfield 98, 3) := by decide +kernel
theorem dX7_digest_93 : decode cX7_digest 93 = .ok (.lload_n 1, 1) := by decide +kernel
theorem dX7_digest_94 : decode cX7_digest 94 = .ok (.invokevirtual 229, 3) := by decide +kernel
theorem dX7_digest_97 : decode cX7_digest 97 = .ok (.lstore_n 1, 1) := by decide +kernel
theorem dX7_digest_98 : decode cX7_digest 98 = .ok (.aload_n 0, 1) := by decide +kernel
theorem dX7_digest_99 : decode cX7_digest 99 = .ok (.getfield 42, 3) := by decide +kernel
theorem dX7_digest_102 : decode cX7_digest 102 = .ok (.lload_n 1, 1) := by decide +kernel
theorem dX7_digest_103 : decode cX7_digest 103 = .ok (.invokevirtual 229, 3) := by decide +kernel
theorem dX7_digest_106 : decode cX7_digest 106 = .ok (.lstore_n 1, 1) := by decide +kernel
theorem dX7_digest_107 : decode cX7_digest 107 = .ok (.iconst 0, 1) := by decide +kernel
theorem dX7_digest_108 : decode cX7_digest 108 = .ok (.istore_n 3, 1) := by decide +kernel
theorem dX7_digest_109 : decode cX7_digest 109 = .ok (.iload_n 3, 1) := by decide +kernel
theorem dX7_digest_110 : decode cX7_digest 110 = .ok (.iconst 3, 1) := by decide +kernel
theorem dX7_digest_111 : decode cX7_digest 111 = .ok (.if_icmp .ge 26, 3) := by decide +kernel
theorem dX7_digest_114 : decode cX7_digest 114 = .ok (.ldc2_w 221, 3) := by decide +kernel
theorem dX7_digest_117 : decode cX7_digest 117 = .ok (.lload_n 1, 1) := by decide +kernel
theorem dX7_digest_118 : decode cX7_digest 118 = .ok (.lmul, 1) := by decide +kernel
theorem dX7_digest_119 : decode cX7_digest 119 = .ok (.aload_n 0, 1) := by decide +kernel
theorem dX7_digest_120 : decode cX7_digest 120 = .ok (.getfield 49, 3) := by decide +kernel
theorem dX7_digest_123 : decode cX7_digest 123 = .ok (.getfield 180, 3) := by decide +kernel
theorem dX7_digest_126 : decode cX7_digest 126 = .ok (.iload_n 3, 1) := by decide +kernel
theorem dX7_digest_127 : decode cX7_digest 127 = .ok (.iaload, 1) := by decide +kernel
theorem dX7_digest_128 : decode cX7_digest 128 = .ok (.i2l, 1) := by decide +kernel
theorem dX7_digest_129 : decode cX7_digest 129 = .ok (.ladd, 1) := by decide +kernel
theorem dX7_digest_130 : decode cX7_digest 130 = .ok (.lstore_n 1, 1) := by decide +kernel
theorem dX7_digest_131 : decode cX7_digest 131 = .ok (.iinc 3 1, 3) := by decide +kernel
theorem dX7_digest_134 : decode cX7_digest 134 = .ok (.goto (-25), 3) := by decide +kernel
theorem dX7_digest_137 : decode cX7_digest 137 = .ok (.lload_n 1, 1) := by decide +kernel
theorem dX7_digest_138 : decode cX7_digest 138 = .ok (.lreturn, 1) := by decide +kernel
theorem dX7_within_0 : decode cX7_within 0 = .ok (.iload_n 0, 1) := by decide +kernel
theorem dX7_within_1 : decode cX7_within 1 = .ok (.iload_n 1, 1) := by decide +kernel
theorem dX7_within_2 : decode cX7_within 2 = .ok (.if_icmp .lt 12, 3) := by decide +kernel
theorem dX7_within_5 : decode cX7_within 5 = .ok (.iload_n 0, 1) := by decide +kernel
theorem dX7_within_6 : decode cX7_within 6 = .ok (.iload_n 2, 1) := by decide +kernel
theorem dX7_within_7 : decode cX7_within 7 = .ok (.if_icmp .gt 7, 3) := by decide +kernel
theorem dX7_within_10 : decode cX7_within 10 = .ok (.iconst 1, 1) := by decide +kernel
theorem dX7_within_11 : decode cX7_within 11 = .ok (.goto 4, 3) := by decide +kernel
theorem dX7_within_14 : decode cX7_within 14 = .ok (.iconst 0, 1) := by decide +kernel
theorem dX7_within_15 : decode cX7_within 15 = .ok (.ireturn, 1) := by decide +kernel
theorem dX7_castPig_0 : decode cX7_castPig 0 = .ok (.aload_n 0, 1) := by decide +kernel
theorem dX7_castPig_1 : decode cX7_castPig 1 = .ok (.getfield 26, 3) := by decide +kernel
theorem dX7_castPig_4 : decode cX7_castPig 4 = .ok (.getfield 153, 3) := by decide +kernel
theorem dX7_castPig_7 : decode cX7_castPig 7 = .ok (.ifCond .gt 5, 3) := by decide +kernel
theorem dX7_castPig_10 : decode cX7_castPig 10 = .ok (.iconst (-1), 1) := by decide +kernel
theorem dX7_castPig_11 : decode cX7_castPig 11 = .ok (.ireturn, 1) := by decide +kernel
theorem dX7_castPig_12 : decode cX7_castPig 12 = .ok (.aload_n 0, 1) := by decide +kernel
theorem dX7_castPig_13 : decode cX7_castPig 13 = .ok (.getfield 42, 3) := by decide +kernel
theorem dX7_castPig_16 : decode cX7_castPig 16 = .ok (.invokevirtual 101, 3) := by decide +kernel
theorem dX7_castPig_19 : decode cX7_castPig 19 = .ok (.ifCond .eq 6, 3) := by decide +kernel
theorem dX7_castPig_22 : decode cX7_castPig 22 = .ok (.bipush (-4), 2) := by decide +kernel
theorem dX7_castPig_24 : decode cX7_castPig 24 = .ok (.ireturn, 1) := by decide +kernel
theorem dX7_castPig_25 : decode cX7_castPig 25 = .ok (.aload_n 0, 1) := by decide +kernel
theorem dX7_castPig_26 : decode cX7_castPig 26 = .ok (.getfield 42, 3) := by decide +kernel
theorem dX7_castPig_29 : decode cX7_castPig 29 = .ok (.invokevirtual 186, 3) := by decide +kernel
theorem dX7_castPig_32 : decode cX7_castPig 32 = .ok (.istore_n 1, 1) := by decide +kernel
theorem dX7_castPig_33 : decode cX7_castPig 33 = .ok (.aload_n 0, 1) := by decide +kernel
theorem dX7_castPig_34 : decode cX7_castPig 34 = .ok (.getfield 42, 3) := by decide +kernel
theorem dX7_castPig_37 : decode cX7_castPig 37 = .ok (.iload_n 1, 1) := by decide +kernel
theorem dX7_castPig_38 : decode cX7_castPig 38 = .ok (.iconst 0, 1) := by decide +kernel
theorem dX7_castPig_39 : decode cX7_castPig 39 = .ok (.aload_n 0, 1) := by decide +kernel
theorem dX7_castPig_40 : decode cX7_castPig 40 = .ok (.getfield 26, 3) := by decide +kernel
theorem dX7_castPig_43 : decode cX7_castPig 43 = .ok (.getfield 153, 3) := by decide +kernel
theorem dX7_castPig_46 : decode cX7_castPig 46 = .ok (.invokevirtual 86, 3) := by decide +kernel
theorem dX7_castPig_49 : decode cX7_castPig 49 = .ok (.aload_n 0, 1) := by decide +kernel
theorem dX7_castPig_50 : decode cX7_castPig 50 = .ok (.getfield 42, 3) := by decide +kernel
theorem dX7_castPig_53 : decode cX7_castPig 53 = .ok (.iload_n 1, 1) := by decide +kernel
theorem dX7_castPig_54 : decode cX7_castPig 54 = .ok (.iconst 1, 1) := by decide +kernel
theorem dX7_castPig_55 : decode cX7_castPig 55 = .ok (.aload_n 0, 1) := by decide +kernel
theorem dX7_castPig_56 : decode cX7_castPig 56 = .ok (.getfield 26, 3) := by decide +kernel
theorem dX7_castPig_59 : decode cX7_castPig 59 = .ok (.getfield 233, 3) := by decide +kernel
theorem dX7_castPig_62 : decode cX7_castPig 62 = .ok (.invokevirtual 86, 3) := by decide +kernel
theorem dX7_castPig_65 : decode cX7_castPig 65 = .ok (.aload_n 0, 1) := by decide +kernel
theorem dX7_castPig_66 : decode cX7_castPig 66 = .ok (.getfield 42, 3) := by decide +kernel
theorem dX7_castPig_69 : decode cX7_castPig 69 = .ok (.iload_n 1, 1) := by decide +kernel
theorem dX7_castPig_70 : decode cX7_castPig 70 = .ok (.iconst 2, 1) := by decide +kernel
theorem dX7_castPig_71 : decode cX7_castPig 71 = .ok (.aload_n 0, 1) := by decide +kernel
theorem dX7_castPig_72 : decode cX7_castPig 72 = .ok (.getfield 26, 3) := by decide +kernel
theorem dX7_castPig_75 : decode cX7_castPig 75 = .ok (.getfield 236, 3) := by decide +kernel
theorem dX7_castPig_78 : decode cX7_castPig 78 = .ok (.invokevirtual 86, 3) := by decide +kernel
theorem dX7_castPig_81 : decode cX7_castPig 81 = .ok (.aload_n 0, 1) := by decide +kernel
theorem dX7_castPig_82 : decode cX7_castPig 82 = .ok (.getfield 42, 3) := by decide +kernel
theorem dX7_castPig_85 : decode cX7_castPig 85 = .ok (.iload_n 1, 1) := by decide +kernel
theorem dX7_castPig_86 : decode cX7_castPig 86 = .ok (.iconst 3, 1) := by decide +kernel
theorem dX7_castPig_87 : decode cX7_castPig 87 = .ok (.aload_n 0, 1) := by decide +kernel
theorem dX7_castPig_88 : decode cX7_castPig 88 = .ok (.getfield 26, 3) := by decide +kernel
theorem dX7_castPig_91 : decode cX7_castPig 91 = .ok (.getfield 239, 3) := by decide +kernel
theorem dX7_castPig_94 : decode cX7_castPig 94 = .ok (.invokevirtual 86, 3) := by decide +kernel
theorem dX7_castPig_97 : decode cX7_castPig 97 = .ok (.aload_n 0, 1) := by decide +kernel
theorem dX7_castPig_98 : decode cX7_castPig 98 = .ok (.getfield 42, 3) := by decide +kernel
theorem dX7_castPig_101 : decode cX7_castPig 101 = .ok (.iload_n 1, 1) := by decide +kernel
theorem dX7_castPig_102 : decode cX7_castPig 102 = .ok (.iconst 4, 1) := by decide +kernel
theorem dX7_castPig_103 : decode cX7_castPig 103 = .ok (.aload_n 0, 1) := by decide +kernel
theorem dX7_castPig_104 : decode cX7_castPig 104 = .ok (.getfield 33, 3) := by decide +kernel
theorem dX7_castPig_107 : decode cX7_castPig 107 = .ok (.getfield 137, 3) := by decide +kernel
theorem dX7_castPig_110 : decode cX7_castPig 110 = .ok (.invokevirtual 86, 3) := by decide +kernel
theorem dX7_castPig_113 : decode cX7_castPig 113 = .ok (.aload_n 0, 1) := by decide +kernel
theorem dX7_castPig_114 : decode cX7_castPig 114 = .ok (.getfield 42, 3) := by decide +kernel
theorem dX7_castPig_117 : decode cX7_castPig 117 = .ok (.iload_n 1, 1) := by decide +kernel
theorem dX7_castPig_118 : decode cX7_castPig 118 = .ok (.iconst 5, 1) := by decide +kernel
theorem dX7_castPig_119 : decode cX7_castPig 119 = .ok (.iconst (-1), 1) := by decide +kernel
theorem dX7_castPig_120 : decode cX7_castPig 120 = .ok (.invokevirtual 86, 3) := by decide +kernel
theorem dX7_castPig_123 : decode cX7_castPig 123 = .ok (.aload_n 0, 1) := by decide +kernel
theorem dX7_castPig_124 : decode cX7_castPig 124 = .ok (.getfield 26, 3) := by decide +kernel
theorem dX7_castPig_127 : decode cX7_castPig 127 = .ok (.invokevirtual 242, 3) := by decide +kernel
theorem dX7_castPig_130 : decode cX7_castPig 130 = .ok (.iload_n 1, 1) := by decide +kernel
theorem dX7_castPig_131 : decode cX7_castPig 131 = .ok (.ireturn, 1) := by decide +kernel
theorem dX7_followRules_0 : decode cX7_followRules 0 = .ok (.iconst 0, 1) := by decide +kernel
theorem dX7_followRules_1 : decode cX7_followRules 1 = .ok (.istore_n 1, 1) := by decide +kernel
theorem dX7_followRules_2 : decode cX7_followRules 2 = .ok (.iload_n 1, 1) := by decide +kernel
theorem dX7_followRules_3 : decode cX7_followRules 3 = .ok (.aload_n 0, 1) := by decide +kernel
theorem dX7_followRules_4 : decode cX7_followRules 4 = .ok (.getfield 53, 3) := by decide +kernel
theorem dX7_followRules_7 : decode cX7_followRules 7 = .ok (.getfield 109, 3) := by decide +kernel
theorem dX7_followRules_10 : decode cX7_followRules 10 = .ok (.if_icmp .ge 91, 3) := by decide +kernel
theorem dX7_followRules_13 : decode cX7_followRules 13 = .ok (.aload_n 0, 1) := by decide +kernel
theorem dX7_followRules_14 : decode cX7_followRules 14 = .ok (.iload_n 1, 1) := by decide +kernel
theorem dX7_followRules_15 : decode cX7_followRules 15 = .ok (.invokevirtual 245, 3) := by decide +kernel
theorem dX7_followRules_18 : decode cX7_followRules 18 = .ok (.ifCond .ne 6, 3) := by decide +kernel
theorem dX7_followRules_21 : decode cX7_followRules 21 = .ok (.goto 74, 3) := by decide +kernel
theorem dX7_followRules_24 : decode cX7_followRules 24 = .ok (.aload_n 0, 1) := by decide +kernel
theorem dX7_followRules_25 : decode cX7_followRules 25 = .ok (.getfield 53, 3) := by decide +kernel
theorem dX7_followRules_28 : decode cX7_followRules 28 = .ok (.iload_n 1, 1) := by decide +kernel
theorem dX7_followRules_29 : decode cX7_followRules 29 = .ok (.iconst 3, 1) := by decide +kernel
theorem dX7_followRules_30 : decode cX7_followRules 30 = .ok (.invokevirtual 112, 3) := by decide +kernel
theorem dX7_followRules_33 : decode cX7_followRules 33 = .ok (.istore_n 2, 1) := by decide +kernel
theorem dX7_followRules_34 : decode cX7_followRules 34 = .ok (.iload_n 2, 1) := by decide +kernel
theorem dX7_followRules_35 : decode cX7_followRules 35 = .ok (.ifCond .ne 27, 3) := by decide +kernel
theorem dX7_followRules_38 : decode cX7_followRules 38 = .ok (.aload_n 0, 1) := by decide +kernel
theorem dX7_followRules_39 : decode cX7_followRules 39 = .ok (.getfield 33, 3) := by decide +kernel
theorem dX7_followRules_42 : decode cX7_followRules 42 = .ok (.bipush 20, 2) := by decide +kernel
theorem dX7_followRules_44 : decode cX7_followRules 44 = .ok (.aload_n 0, 1) := by decide +kernel
theorem dX7_followRules_45 : decode cX7_followRules 45 = .ok (.getfield 33, 3) := by decide +kernel
theorem dX7_followRules_48 : decode cX7_followRules 48 = .ok (.getfield 116, 3) := by decide +kernel
theorem dX7_followRules_51 : decode cX7_followRules 51 = .ok (.iconst 1, 1) := by decide +kernel
theorem dX7_followRules_52 : decode cX7_followRules 52 = .ok (.iadd, 1) := by decide +kernel
theorem dX7_followRules_53 : decode cX7_followRules 53 = .ok (.invokestatic 249, 3) := by decide +kernel
theorem dX7_followRules_56 : decode cX7_followRules 56 = .ok (.putfield 116, 3) := by decide +kernel
theorem dX7_followRules_59 : decode cX7_followRules 59 = .ok (.goto 36, 3) := by decide +kernel
theorem dX7_followRules_62 : decode cX7_followRules 62 = .ok (.iload_n 2, 1) := by decide +kernel
theorem dX7_followRules_63 : decode cX7_followRules 63 = .ok (.iconst 1, 1) := by decide +kernel
theorem dX7_followRules_64 : decode cX7_followRules 64 = .ok (.if_icmp .ne 26, 3) := by decide +kernel
theorem dX7_followRules_67 : decode cX7_followRules 67 = .ok (.aload_n 0, 1) := by decide +kernel
theorem dX7_followRules_68 : decode cX7_followRules 68 = .ok (.getfield 33, 3) := by decide +kernel
theorem dX7_followRules_71 : decode cX7_followRules 71 = .ok (.iconst 0, 1) := by decide +kernel
theorem dX7_followRules_72 : decode cX7_followRules 72 = .ok (.aload_n 0, 1) := by decide +kernel
theorem dX7_followRules_73 : decode cX7_followRules 73 = .ok (.getfield 33, 3) := by decide +kernel
theorem dX7_followRules_76 : decode cX7_followRules 76 = .ok (.getfield 116, 3) := by decide +kernel
theorem dX7_followRules_79 : decode cX7_followRules 79 = .ok (.iconst 1, 1) := by decide +kernel
theorem dX7_followRules_80 : decode cX7_followRules 80 = .ok (.isub, 1) := by decide +kernel
theorem dX7_followRules_81 : decode cX7_followRules 81 = .ok (.invokestatic 254, 3) := by decide +kernel
theorem dX7_followRules_84 : decode cX7_followRules 84 = .ok (.putfield 116, 3) := by decide +kernel
theorem dX7_followRules_87 : decode cX7_followRules 87 = .ok (.goto 8, 3) := by decide +kernel
theorem dX7_followRules_90 : decode cX7_followRules 90 = .ok (.aload_n 0, 1) := by decide +kernel
theorem dX7_followRules_91 : decode cX7_followRules 91 = .ok (.invokevirtual 159, 3) := by decide +kernel
theorem dX7_followRules_94 : decode cX7_followRules 94 = .ok (.pop, 1) := by decide +kernel
theorem dX7_followRules_95 : decode cX7_followRules 95 = .ok (.iinc 1 1, 3) := by decide +kernel
theorem dX7_followRules_98 : decode cX7_followRules 98 = .ok (.goto (-96), 3) := by decide +kernel
theorem dX7_followRules_101 : decode cX7_followRules 101 = .ok (.return_, 1) := by decide +kernel
theorem dX7_isCalledFor_0 : decode cX7_isCalledFor 0 = .ok (.aload_n 0, 1) := by decide +kernel
theorem dX7_isCalledFor_1 : decode cX7_isCalledFor 1 = .ok (.getfield 53, 3) := by decide +kernel
theorem dX7_isCalledFor_4 : decode cX7_isCalledFor 4 = .ok (.iload_n 1, 1) := by decide +kernel
theorem dX7_isCalledFor_5 : decode cX7_isCalledFor 5 = .ok (.iconst 0, 1) := by decide +kernel
theorem dX7_isCalledFor_6 : decode cX7_isCalledFor 6 = .ok (.invokevirtual 112, 3) := by decide +kernel
theorem dX7_isCalledFor_9 : decode cX7_isCalledFor 9 = .ok (.istore_n 2, 1) := by decide +kernel
theorem dX7_isCalledFor_10 : decode cX7_isCalledFor 10 = .ok (.iload_n 2, 1) := by decide +kernel
theorem dX7_isCalledFor_11 : decode cX7_isCalledFor 11 = .ok (.iconst 0, 1) := by decide +kernel
theorem dX7_isCalledFor_12 : decode cX7_isCalledFor 12 = .ok (.iconst 2, 1) := by decide +kernel
theorem dX7_isCalledFor_13 : decode cX7_isCalledFor 13 = .ok (.invokestatic 90, 3) := by decide +kernel
theorem dX7_isCalledFor_16 : decode cX7_isCalledFor 16 = .ok (.ifCond .ne 5, 3) := by decide +kernel
theorem dX7_isCalledFor_19 : decode cX7_isCalledFor 19 = .ok (.iconst 0, 1) := by decide +kernel
theorem dX7_isCalledFor_20 : decode cX7_isCalledFor 20 = .ok (.ireturn, 1) := by decide +kernel
theorem dX7_isCalledFor_21 : decode cX7_isCalledFor 21 = .ok (.aload_n 0, 1) := by decide +kernel
theorem dX7_isCalledFor_22 : decode cX7_isCalledFor 22 = .ok (.getfield 49, 3) := by decide +kernel
theorem dX7_isCalledFor_25 : decode cX7_isCalledFor 25 = .ok (.getfield 180, 3) := by decide +kernel
theorem dX7_isCalledFor_28 : decode cX7_isCalledFor 28 = .ok (.iload_n 2, 1) := by decide +kernel
theorem dX7_isCalledFor_29 : decode cX7_isCalledFor 29 = .ok (.iaload, 1) := by decide +kernel
theorem dX7_isCalledFor_30 : decode cX7_isCalledFor 30 = .ok (.istore_n 3, 1) := by decide +kernel
theorem dX7_isCalledFor_31 : decode cX7_isCalledFor 31 = .ok (.iload_n 3, 1) := by decide +kernel
theorem dX7_isCalledFor_32 : decode cX7_isCalledFor 32 = .ok (.iconst (-1), 1) := by decide +kernel
theorem dX7_isCalledFor_33 : decode cX7_isCalledFor 33 = .ok (.if_icmp .ne 5, 3) := by decide +kernel
theorem dX7_isCalledFor_36 : decode cX7_isCalledFor 36 = .ok (.iconst 0, 1) := by decide +kernel
theorem dX7_isCalledFor_37 : decode cX7_isCalledFor 37 = .ok (.ireturn, 1) := by decide +kernel
theorem dX7_isCalledFor_38 : decode cX7_isCalledFor 38 = .ok (.aload_n 0, 1) := by decide +kernel
theorem dX7_isCalledFor_39 : decode cX7_isCalledFor 39 = .ok (.getfield 53, 3) := by decide +kernel
theorem dX7_isCalledFor_42 : decode cX7_isCalledFor 42 = .ok (.iload_n 1, 1) := by decide +kernel
theorem dX7_isCalledFor_43 : decode cX7_isCalledFor 43 = .ok (.iconst 2, 1) := by decide +kernel
theorem dX7_isCalledFor_44 : decode cX7_isCalledFor 44 = .ok (.invokevirtual 112, 3) := by decide +kernel
theorem dX7_isCalledFor_47 : decode cX7_isCalledFor 47 = .ok (.istore 4, 2) := by decide +kernel
theorem dX7_isCalledFor_49 : decode cX7_isCalledFor 49 = .ok (.aload_n 0, 1) := by decide +kernel
theorem dX7_isCalledFor_50 : decode cX7_isCalledFor 50 = .ok (.getfield 53, 3) := by decide +kernel
theorem dX7_isCalledFor_53 : decode cX7_isCalledFor 53 = .ok (.iload_n 1, 1) := by decide +kernel
theorem dX7_isCalledFor_54 : decode cX7_isCalledFor 54 = .ok (.iconst 1, 1) := by decide +kernel
theorem dX7_isCalledFor_55 : decode cX7_isCalledFor 55 = .ok (.invokevirtual 112, 3) := by decide +kernel
theorem dX7_isCalledFor_58 : decode cX7_isCalledFor 58 = .ok (.iconst 1, 1) := by decide +kernel
theorem dX7_isCalledFor_59 : decode cX7_isCalledFor 59 = .ok (.if_icmp .ne 17, 3) := by decide +kernel
theorem dX7_isCalledFor_62 : decode cX7_isCalledFor 62 = .ok (.iload_n 3, 1) := by decide +kernel
theorem dX7_isCalledFor_63 : decode cX7_isCalledFor 63 = .ok (.iload 4, 2) := by decide +kernel
theorem dX7_isCalledFor_65 : decode cX7_isCalledFor 65 = .ok (.if_icmp .le 7, 3) := by decide +kernel
theorem dX7_isCalledFor_68 : decode cX7_isCalledFor 68 = .ok (.iconst 1, 1) := by decide +kernel
theorem dX7_isCalledFor_69 : decode cX7_isCalledFor 69 = .ok (.goto 18, 3) := by decide +kernel
theorem dX7_isCalledFor_72 : decode cX7_isCalledFor 72 = .ok (.iconst 0, 1) := by decide +kernel
theorem dX7_isCalledFor_73 : decode cX7_isCalledFor 73 = .ok (.goto 14, 3) := by decide +kernel
theorem dX7_isCalledFor_76 : decode cX7_isCalledFor 76 = .ok (.iload_n 3, 1) := by decide +kernel
theorem dX7_isCalledFor_77 : decode cX7_isCalledFor 77 = .ok (.iload 4, 2) := by decide +kernel
theorem dX7_isCalledFor_79 : decode cX7_isCalledFor 79 = .ok (.if_icmp .ge 7, 3) := by decide +kernel
theorem dX7_isCalledFor_82 : decode cX7_isCalledFor 82 = .ok (.iconst 1, 1) := by decide +kernel
theorem dX7_isCalledFor_83 : decode cX7_isCalledFor 83 = .ok (.goto 4, 3) := by decide +kernel
theorem dX7_isCalledFor_86 : decode cX7_isCalledFor 86 = .ok (.iconst 0, 1) := by decide +kernel
theorem dX7_isCalledFor_87 : decode cX7_isCalledFor 87 = .ok (.ireturn, 1) := by decide +kernel
theorem dX8_init_0 : decode cX8_init 0 = .ok (.aload_n 0, 1) := by decide +kernel
theorem dX8_init_1 : decode cX8_init 1 = .ok (.invokespecial 1, 3) := by decide +kernel
theorem dX8_init_4 : decode cX8_init 4 = .ok (.aload_n 0, 1) := by decide +kernel
theorem dX8_init_5 : decode cX8_init 5 = .ok (.bipush 6, 2) := by decide +kernel
theorem dX8_init_7 : decode cX8_init 7 = .ok (.newarray .int, 2) := by decide +kernel
theorem dX8_init_9 : decode cX8_init 9 = .ok (.putfield 7, 3) := by decide +kernel
theorem dX8_init_12 : decode cX8_init 12 = .ok (.aload_n 0, 1) := by decide +kernel
theorem dX8_init_13 : decode cX8_init 13 = .ok (.iconst 4, 1) := by decide +kernel
theorem dX8_init_14 : decode cX8_init 14 = .ok (.newarray .int, 2) := by decide +kernel
theorem dX8_init_16 : decode cX8_init 16 = .ok (.dup, 1) := by decide +kernel
theorem dX8_init_17 : decode cX8_init 17 = .ok (.iconst 0, 1) := by decide +kernel
theorem dX8_init_18 : decode cX8_init 18 = .ok (.bipush 30, 2) := by decide +kernel
theorem dX8_init_20 : decode cX8_init 20 = .ok (.iastore, 1) := by decide +kernel
theorem dX8_init_21 : decode cX8_init 21 = .ok (.dup, 1) := by decide +kernel
theorem dX8_init_22 : decode cX8_init 22 = .ok (.iconst 1, 1) := by decide +kernel
theorem dX8_init_23 : decode cX8_init 23 = .ok (.bipush 30, 2) := by decide +kernel
theorem dX8_init_25 : decode cX8_init 25 = .ok (.iastore, 1) := by decide +kernel
theorem dX8_init_26 : decode cX8_init 26 = .ok (.dup, 1) := by decide +kernel
theorem dX8_init_27 : decode cX8_init 27 = .ok (.iconst 2, 1) := by decide +kernel
theorem dX8_init_28 : decode cX8_init 28 = .ok (.bipush 30, 2) := by decide +kernel
theorem dX8_init_30 : decode cX8_init 30 = .ok (.iastore, 1) := by decide +kernel
theorem dX8_init_31 : decode cX8_init 31 = .ok (.dup, 1) := by decide +kernel
theorem dX8_init_32 : decode cX8_init 32 = .ok (.iconst 3, 1) := by decide +kernel
theorem dX8_init_33 : decode cX8_init 33 = .ok (.bipush 30, 2) := by decide +kernel
theorem dX8_init_35 : decode cX8_init 35 = .ok (.iastore, 1) := by decide +kernel
theorem dX8_init_36 : decode cX8_init 36 = .ok (.putfield 13, 3) := by decide +kernel
theorem dX8_init_39 : decode cX8_init 39 = .ok (.aload_n 0, 1) := by decide +kernel
theorem dX8_init_40 : decode cX8_init 40 = .ok (.sipush 400, 3) := by decide +kernel
theorem dX8_init_43 : decode cX8_init 43 = .ok (.newarray .int, 2) := by decide +kernel
theorem dX8_init_45 : decode cX8_init 45 = .ok (.putfield 16, 3) := by decide +kernel
theorem dX8_init_48 : decode cX8_init 48 = .ok (.aload_n 0, 1) := by decide +kernel
theorem dX8_init_49 : decode cX8_init 49 = .ok (.sipush 400, 3) := by decide +kernel
theorem dX8_init_52 : decode cX8_init 52 = .ok (.newarray .int, 2) := by decide +kernel
theorem dX8_init_54 : decode cX8_init 54 = .ok (.putfield 19, 3) := by decide +kernel
theorem dX8_init_57 : decode cX8_init 57 = .ok (.aload_n 0, 1) := by decide +kernel
theorem dX8_init_58 : decode cX8_init 58 = .ok (.sipush 400, 3) := by decide +kernel
theorem dX8_init_61 : decode cX8_init 61 = .ok (.newarray .int, 2) := by decide +kernel
theorem dX8_init_63 : decode cX8_init 63 = .ok (.putfield 22, 3) := by decide +kernel
theorem dX8_init_66 : decode cX8_init 66 = .ok (.aload_n 0, 1) := by decide +kernel
theorem dX8_init_67 : decode cX8_init 67 = .ok (.sipush 400, 3) := by decide +kernel
theorem dX8_init_70 : decode cX8_init 70 = .ok (.newarray .int, 2) := by decide +kernel
theorem dX8_init_72 : decode cX8_init 72 = .ok (.putfield 25, 3) := by decide +kernel
theorem dX8_init_75 : decode cX8_init 75 = .ok (.aload_n 0, 1) := by decide +kernel
theorem dX8_init_76 : decode cX8_init 76 = .ok (.sipush 400, 3) := by decide +kernel
theorem dX8_init_79 : decode cX8_init 79 = .ok (.newarray .int, 2) := by decide +kernel
theorem dX8_init_81 : decode cX8_init 81 = .ok (.putfield 28, 3) := by decide +kernel
theorem dX8_init_84 : decode cX8_init 84 = .ok (.aload_n 0, 1) := by decide +kernel
theorem dX8_init_85 : decode cX8_init 85 = .ok (.sipush 400, 3) := by decide +kernel
theorem dX8_init_88 : decode cX8_init 88 = .ok (.newarray .int, 2) := by decide +kernel
theorem dX8_init_90 : decode cX8_init 90 = .ok (.putfield 31, 3) := by decide +kernel
theorem dX8_init_93 : decode cX8_init 93 = .ok (.aload_n 0, 1) := by decide +kernel
theorem dX8_init_94 : decode cX8_init 94 = .ok (.sipush 400, 3) := by decide +kernel
theorem dX8_init_97 : decode cX8_init 97 = .ok (.newarray .int, 2) := by decide +kernel
theorem dX8_init_99 : decode cX8_init 99 = .ok (.putfield 34, 3) := by decide +kernel
theorem dX8_init_102 : decode cX8_init 102 = .ok (.aload_n 0, 1) := by decide +kernel
theorem dX8_init_103 : decode cX8_init 103 = .ok (.bipush 100, 2) := by decide +kernel
theorem dX8_init_105 : decode cX8_init 105 = .ok (.putfield 37, 3) := by decide +kernel
theorem dX8_init_108 : decode cX8_init 108 = .ok (.aload_n 0, 1) := by decide +kernel
theorem dX8_init_109 : decode cX8_init 109 = .ok (.sipush 1000, 3) := by decide +kernel
theorem dX8_init_112 : decode cX8_init 112 = .ok (.putfield 41, 3) := by decide +kernel
theorem dX8_init_115 : decode cX8_init 115 = .ok (.aload_n 0, 1) := by decide +kernel
theorem dX8_init_116 : decode cX8_init 116 = .ok (.iconst (-1), 1) := by decide +kernel
theorem dX8_init_117 : decode cX8_init 117 = .ok (.putfield 44, 3) := by decide +kernel
theorem dX8_init_120 : decode cX8_init 120 = .ok (.aload_n 0, 1) := by decide +kernel
theorem dX8_init_121 : decode cX8_init 121 = .ok (.iconst (-1), 1) := by decide +kernel
theorem dX8_init_122 : decode cX8_init 122 = .ok (.putfield 47, 3) := by decide +kernel
theorem dX8_init_125 : decode cX8_init 125 = .ok (.aload_n 0, 1) := by decide +kernel
theorem dX8_init_126 : decode cX8_init 126 = .ok (.iconst (-1), 1) := by decide +kernel
theorem dX8_init_127 : decode cX8_init 127 = .ok (.putfield 50, 3) := by decide +kernel
theorem dX8_init_130 : decode cX8_init 130 = .ok (.aload_n 0, 1) := by decide +kernel
theorem dX8_init_131 : decode cX8_init 131 = .ok (.bipush 60, 2) := by decide +kernel
theorem dX8_init_133 : decode cX8_init 133 = .ok (.newarray .int, 2) := by decide +kernel
theorem dX8_init_135 : decode cX8_init 135 = .ok (.putfield 53, 3) := by decide +kernel
theorem dX8_init_138 : decode cX8_init 138 = .ok (.aload_n 0, 1) := by decide +kernel
theorem dX8_init_139 : decode cX8_init 139 = .ok (.bipush 60, 2) := by decide +kernel
theorem dX8_init_141 : decode cX8_init 141 = .ok (.newarray .int, 2) := by decide +kernel
theorem dX8_init_143 : decode cX8_init 143 = .ok (.putfield 56, 3) := by decide +kernel
theorem dX8_init_146 : decode cX8_init 146 = .ok (.aload_n 0, 1) := by decide +kernel
theorem dX8_init_147 : decode cX8_init 147 = .ok (.bipush 60, 2) := by decide +kernel
theorem dX8_init_149 : decode cX8_init 149 = .ok (.newarray .int, 2) := by decide +kernel
theorem dX8_init_151 : decode cX8_init 151 = .ok (.putfield 59, 3) := by decide +kernel
theorem dX8_init_154 : decode cX8_init 154 = .ok (.aload_n 0, 1) := by decide +kernel
theorem dX8_init_155 : decode cX8_init 155 = .ok (.bipush 60, 2) := by decide +kernel
theorem dX8_init_157 : decode cX8_init 157 = .ok (.newarray .int, 2) := by decide +kernel
theorem dX8_init_159 : decode cX8_init 159 = .ok (.putfield 62, 3) := by decide +kernel
theorem dX8_init_162 : decode cX8_init 162 = .ok (.aload_n 0, 1) := by decide +kernel
theorem dX8_init_163 : decode cX8_init 163 = .ok (.bipush 60, 2) := by decide +kernel
theorem dX8_init_165 : decode cX8_init 165 = .ok (.newarray .int, 2) := by decide +kernel
theorem dX8_init_167 : decode cX8_init 167 = .ok (.putfield 65, 3) := by decide +kernel
theorem dX8_init_170 : decode cX8_init 170 = .ok (.aload_n 0, 1) := by decide +kernel
theorem dX8_init_171 : decode cX8_init 171 = .ok (.bipush 60, 2) := by decide +kernel
theorem dX8_init_173 : decode cX8_init 173 = .ok (.newarray .int, 2) := by decide +kernel
theorem dX8_init_175 : decode cX8_init 175 = .ok (.putfield 68, 3) := by decide +kernel
theorem dX8_init_178 : decode cX8_init 178 = .ok (.aload_n 0, 1) := by decide +kernel
theorem dX8_init_179 : decode cX8_init 179 = .ok (.iconst 3, 1) := by decide +kernel
theorem dX8_init_180 : decode cX8_init 180 = .ok (.newarray .int, 2) := by decide +kernel
theorem dX8_init_182 : decode cX8_init 182 = .ok (.dup, 1) := by decide +kernel
theorem dX8_init_183 : decode cX8_init 183 = .ok (.iconst 0, 1) := by decide +kernel
theorem dX8_init_184 : decode cX8_init 184 = .ok (.iconst (-1), 1) := by decide +kernel
theorem dX8_init_185 : decode cX8_init 185 = .ok (.iastore, 1) := by decide +kernel
theorem dX8_init_186 : decode cX8_init 186 = .ok (.dup, 1) := by decide +kernel
theorem dX8_init_187 : decode cX8_init 187 = .ok (.iconst 1, 1) := by decide +kernel
theorem dX8_init_188 : decode cX8_init 188 = .ok (.iconst (-1), 1) := by decide +kernel
theorem dX8_init_189 : decode cX8_init 189 = .ok (.iastore, 1) := by decide +kernel
theorem dX8_init_190 : decode cX8_init 190 = .ok (.dup, 1) := by decide +kernel
theorem dX8_init_191 : decode cX8_init 191 = .ok (.iconst 2, 1) := by decide +kernel
theorem dX8_init_192 : decode cX8_init 192 = .ok (.iconst (-1), 1) := by decide +kernel
theorem dX8_init_193 : decode cX8_init 193 = .ok (.iastore, 1) := by decide +kernel
theorem dX8_init_194 : decode cX8_init 194 = .ok (.putfield 71, 3) := by decide +kernel
theorem dX8_init_197 : decode cX8_init 197 = .ok (.aload_n 0, 1) := by decide +kernel
theorem dX8_init_198 : decode cX8_init 198 = .ok (.iconst 3, 1) := by decide +kernel
theorem dX8_init_199 : decode cX8_init 199 = .ok (.newarray .int, 2) := by decide +kernel
theorem dX8_init_201 : decode cX8_init 201 = .ok (.putfield 74, 3) := by decide +kernel
theorem dX8_init_204 : decode cX8_init 204 = .ok (.aload_n 0, 1) := by decide +kernel
theorem dX8_init_205 : decode cX8_init 205 = .ok (.bipush 8, 2) := by decide +kernel
theorem dX8_init_207 : decode cX8_init 207 = .ok (.newarray .int, 2) := by decide +kernel
theorem dX8_init_209 : decode cX8_init 209 = .ok (.putfield 77, 3) := by decide +kernel
theorem dX8_init_212 : decode cX8_init 212 = .ok (.aload_n 0, 1) := by decide +kernel
theorem dX8_init_213 : decode cX8_init 213 = .ok (.bipush 8, 2) := by decide +kernel
theorem dX8_init_215 : decode cX8_init 215 = .ok (.newarray .boolean, 2) := by decide +kernel
theorem dX8_init_217 : decode cX8_init 217 = .ok (.putfield 80, 3) := by decide +kernel
theorem dX8_init_220 : decode cX8_init 220 = .ok (.aload_n 0, 1) := by decide +kernel
theorem dX8_init_221 : decode cX8_init 221 = .ok (.bipush 8, 2) := by decide +kernel
theorem dX8_init_223 : decode cX8_init 223 = .ok (.newarray .int, 2) := by decide +kernel
theorem dX8_init_225 : decode cX8_init 225 = .ok (.putfield 84, 3) := by decide +kernel
theorem dX8_init_228 : decode cX8_init 228 = .ok (.aload_n 0, 1) := by decide +kernel
theorem dX8_init_229 : decode cX8_init 229 = .ok (.bipush 8, 2) := by decide +kernel
theorem dX8_init_231 : decode cX8_init 231 = .ok (.newarray .int, 2) := by decide +kernel
theorem dX8_init_233 : decode cX8_init 233 = .ok (.putfield 87, 3) := by decide +kernel
theorem dX8_init_236 : decode cX8_init 236 = .ok (.aload_n 0, 1) := by decide +kernel
theorem dX8_init_237 : decode cX8_init 237 = .ok (.iconst 3, 1) := by decide +kernel
theorem dX8_init_238 : decode cX8_init 238 = .ok (.newarray .int, 2) := by decide +kernel
theorem dX8_init_240 : decode cX8_init 240 = .ok (.putfield 90, 3) := by decide +kernel
theorem dX8_init_243 : decode cX8_init 243 = .ok (.aload_n 0, 1) := by decide +kernel
theorem dX8_init_244 : decode cX8_init 244 = .ok (.iconst 3, 1) := by decide +kernel
theorem dX8_init_245 : decode cX8_init 245 = .ok (.newarray .int, 2) := by decide +kernel
theorem dX8_init_247 : decode cX8_init 247 = .ok (.putfield 93, 3) := by decide +kernel
theorem dX8_init_250 : decode cX8_init 250 = .ok (.aload_n 0, 1) := by decide +kernel
theorem dX8_init_251 : decode cX8_init 251 = .ok (.iconst 3, 1) := by decide +kernel
theorem dX8_init_252 : decode cX8_init 252 = .ok (.newarray .int, 2) := by decide +kernel
theorem dX8_init_254 : decode cX8_init 254 = .ok (.putfield 96, 3) := by decide +kernel
theorem dX8_init_257 : decode cX8_init 257 = .ok (.aload_n 0, 1) := by decide +kernel
theorem dX8_init_258 : decode cX8_init 258 = .ok (.bipush 12, 2) := by decide +kernel
theorem dX8_init_260 : decode cX8_init 260 = .ok (.newarray .int, 2) := by decide +kernel
theorem dX8_init_262 : decode cX8_init 262 = .ok (.putfield 99, 3) := by decide +kernel
theorem dX8_init_265 : decode cX8_init 265 = .ok (.aload_n 0, 1) := by decide +kernel
theorem dX8_init_266 : decode cX8_init 266 = .ok (.bipush 12, 2) := by decide +kernel
theorem dX8_init_268 : decode cX8_init 268 = .ok (.newarray .int, 2) := by decide +kernel
theorem dX8_init_270 : decode cX8_init 270 = .ok (.putfield 102, 3) := by decide +kernel
theorem dX8_init_273 : decode cX8_init 273 = .ok (.aload_n 0, 1) := by decide +kernel
theorem dX8_init_274 : decode cX8_init 274 = .ok (.iconst 5, 1) := by decide +kernel
theorem dX8_init_275 : decode cX8_init 275 = .ok (.newarray .int, 2) := by decide +kernel
theorem dX8_init_277 : decode cX8_init 277 = .ok (.putfield 105, 3) := by decide +kernel
theorem dX8_init_280 : decode cX8_init 280 = .ok (.aload_n 0, 1) := by decide +kernel
theorem dX8_init_281 : decode cX8_init 281 = .ok (.iconst 5, 1) := by decide +kernel
