/-! decode rows -/
theorem d_Mod_address_186 : decode b_Mod_address 186 = .ok (.iconst 0, 1) := by decide +kernel
theorem d_Mod_address_187 : decode b_Mod_address 187 = .ok (.goto 5, 3) := by decide +kernel
theorem d_Mod_address_190 : decode b_Mod_address 190 = .ok (.iload 5, 2) := by decide +kernel
theorem d_Mod_address_192 : decode b_Mod_address 192 = .ok (.iastore, 1) := by decide +kernel
theorem d_Mod_address_193 : decode b_Mod_address 193 = .ok (.aload_n 0, 1) := by decide +kernel
theorem d_Mod_address_194 : decode b_Mod_address 194 = .ok (.aload_n 0, 1) := by decide +kernel
theorem d_Mod_address_195 : decode b_Mod_address 195 = .ok (.getfield 83, 3) := by decide +kernel
theorem d_Mod_address_198 : decode b_Mod_address 198 = .ok (.iconst 1, 1) := by decide +kernel
theorem d_Mod_address_199 : decode b_Mod_address 199 = .ok (.iadd, 1) := by decide +kernel
theorem d_Mod_address_200 : decode b_Mod_address 200 = .ok (.putfield 83, 3) := by decide +kernel
theorem d_Mod_address_203 : decode b_Mod_address 203 = .ok (.iconst 0, 1) := by decide +kernel
theorem d_Mod_address_204 : decode b_Mod_address 204 = .ok (.ireturn, 1) := by decide +kernel
theorem d_Mod_computes_0 : decode b_Mod_computes 0 = .ok (.iconst (-1), 1) := by decide +kernel
theorem d_Mod_computes_1 : decode b_Mod_computes 1 = .ok (.istore_n 3, 1) := by decide +kernel
theorem d_Mod_computes_2 : decode b_Mod_computes 2 = .ok (.iconst (-1), 1) := by decide +kernel
theorem d_Mod_computes_3 : decode b_Mod_computes 3 = .ok (.istore 4, 2) := by decide +kernel
theorem d_Mod_computes_5 : decode b_Mod_computes 5 = .ok (.iconst 0, 1) := by decide +kernel
theorem d_Mod_computes_6 : decode b_Mod_computes 6 = .ok (.istore 5, 2) := by decide +kernel
theorem d_Mod_computes_8 : decode b_Mod_computes 8 = .ok (.iload 5, 2) := by decide +kernel
theorem d_Mod_computes_10 : decode b_Mod_computes 10 = .ok (.iload_n 2, 1) := by decide +kernel
theorem d_Mod_computes_11 : decode b_Mod_computes 11 = .ok (.if_icmp .ge 55, 3) := by decide +kernel
theorem d_Mod_computes_14 : decode b_Mod_computes 14 = .ok (.aload_n 0, 1) := by decide +kernel
theorem d_Mod_computes_15 : decode b_Mod_computes 15 = .ok (.getfield 7, 3) := by decide +kernel
theorem d_Mod_computes_18 : decode b_Mod_computes 18 = .ok (.iload_n 1, 1) := by decide +kernel
theorem d_Mod_computes_19 : decode b_Mod_computes 19 = .ok (.iload 5, 2) := by decide +kernel
theorem d_Mod_computes_21 : decode b_Mod_computes 21 = .ok (.iadd, 1) := by decide +kernel
theorem d_Mod_computes_22 : decode b_Mod_computes 22 = .ok (.iaload, 1) := by decide +kernel
theorem d_Mod_computes_23 : decode b_Mod_computes 23 = .ok (.bipush 61, 2) := by decide +kernel
theorem d_Mod_computes_25 : decode b_Mod_computes 25 = .ok (.if_icmp .ne 11, 3) := by decide +kernel
theorem d_Mod_computes_28 : decode b_Mod_computes 28 = .ok (.iload_n 3, 1) := by decide +kernel
theorem d_Mod_computes_29 : decode b_Mod_computes 29 = .ok (.iconst (-1), 1) := by decide +kernel
theorem d_Mod_computes_30 : decode b_Mod_computes 30 = .ok (.if_icmp .ne 6, 3) := by decide +kernel
theorem d_Mod_computes_33 : decode b_Mod_computes 33 = .ok (.iload 5, 2) := by decide +kernel
theorem d_Mod_computes_35 : decode b_Mod_computes 35 = .ok (.istore_n 3, 1) := by decide +kernel
theorem d_Mod_computes_36 : decode b_Mod_computes 36 = .ok (.aload_n 0, 1) := by decide +kernel
theorem d_Mod_computes_37 : decode b_Mod_computes 37 = .ok (.getfield 7, 3) := by decide +kernel
theorem d_Mod_computes_40 : decode b_Mod_computes 40 = .ok (.iload_n 1, 1) := by decide +kernel
theorem d_Mod_computes_41 : decode b_Mod_computes 41 = .ok (.iload 5, 2) := by decide +kernel
theorem d_Mod_computes_43 : decode b_Mod_computes 43 = .ok (.iadd, 1) := by decide +kernel
theorem d_Mod_computes_44 : decode b_Mod_computes 44 = .ok (.iaload, 1) := by decide +kernel
theorem d_Mod_computes_45 : decode b_Mod_computes 45 = .ok (.bipush 59, 2) := by decide +kernel
theorem d_Mod_computes_47 : decode b_Mod_computes 47 = .ok (.if_icmp .ne 13, 3) := by decide +kernel
theorem d_Mod_computes_50 : decode b_Mod_computes 50 = .ok (.iload 4, 2) := by decide +kernel
theorem d_Mod_computes_52 : decode b_Mod_computes 52 = .ok (.iconst (-1), 1) := by decide +kernel
theorem d_Mod_computes_53 : decode b_Mod_computes 53 = .ok (.if_icmp .ne 7, 3) := by decide +kernel
theorem d_Mod_computes_56 : decode b_Mod_computes 56 = .ok (.iload 5, 2) := by decide +kernel
theorem d_Mod_computes_58 : decode b_Mod_computes 58 = .ok (.istore 4, 2) := by decide +kernel
theorem d_Mod_computes_60 : decode b_Mod_computes 60 = .ok (.iinc 5 1, 3) := by decide +kernel
theorem d_Mod_computes_63 : decode b_Mod_computes 63 = .ok (.goto (-55), 3) := by decide +kernel
theorem d_Mod_computes_66 : decode b_Mod_computes 66 = .ok (.iload_n 3, 1) := by decide +kernel
theorem d_Mod_computes_67 : decode b_Mod_computes 67 = .ok (.iconst 1, 1) := by decide +kernel
theorem d_Mod_computes_68 : decode b_Mod_computes 68 = .ok (.iadd, 1) := by decide +kernel
theorem d_Mod_computes_69 : decode b_Mod_computes 69 = .ok (.istore 5, 2) := by decide +kernel
theorem d_Mod_computes_71 : decode b_Mod_computes 71 = .ok (.iload 4, 2) := by decide +kernel
theorem d_Mod_computes_73 : decode b_Mod_computes 73 = .ok (.iconst (-1), 1) := by decide +kernel
theorem d_Mod_computes_74 : decode b_Mod_computes 74 = .ok (.if_icmp .ne 7, 3) := by decide +kernel
theorem d_Mod_computes_77 : decode b_Mod_computes 77 = .ok (.iload_n 2, 1) := by decide +kernel
theorem d_Mod_computes_78 : decode b_Mod_computes 78 = .ok (.goto 5, 3) := by decide +kernel
theorem d_Mod_computes_81 : decode b_Mod_computes 81 = .ok (.iload 4, 2) := by decide +kernel
theorem d_Mod_computes_83 : decode b_Mod_computes 83 = .ok (.istore 6, 2) := by decide +kernel
theorem d_Mod_computes_85 : decode b_Mod_computes 85 = .ok (.iload 6, 2) := by decide +kernel
theorem d_Mod_computes_87 : decode b_Mod_computes 87 = .ok (.iload 5, 2) := by decide +kernel
theorem d_Mod_computes_89 : decode b_Mod_computes 89 = .ok (.if_icmp .ge 5, 3) := by decide +kernel
theorem d_Mod_computes_92 : decode b_Mod_computes 92 = .ok (.iconst 1, 1) := by decide +kernel
theorem d_Mod_computes_93 : decode b_Mod_computes 93 = .ok (.ireturn, 1) := by decide +kernel
theorem d_Mod_computes_94 : decode b_Mod_computes 94 = .ok (.iload_n 3, 1) := by decide +kernel
theorem d_Mod_computes_95 : decode b_Mod_computes 95 = .ok (.iconst (-1), 1) := by decide +kernel
theorem d_Mod_computes_96 : decode b_Mod_computes 96 = .ok (.if_icmp .ne 7, 3) := by decide +kernel
theorem d_Mod_computes_99 : decode b_Mod_computes 99 = .ok (.iconst 0, 1) := by decide +kernel
theorem d_Mod_computes_100 : decode b_Mod_computes 100 = .ok (.goto 9, 3) := by decide +kernel
theorem d_Mod_computes_103 : decode b_Mod_computes 103 = .ok (.aload_n 0, 1) := by decide +kernel
theorem d_Mod_computes_104 : decode b_Mod_computes 104 = .ok (.iload_n 1, 1) := by decide +kernel
theorem d_Mod_computes_105 : decode b_Mod_computes 105 = .ok (.iload_n 3, 1) := by decide +kernel
theorem d_Mod_computes_106 : decode b_Mod_computes 106 = .ok (.invokevirtual 86, 3) := by decide +kernel
theorem d_Mod_computes_109 : decode b_Mod_computes 109 = .ok (.istore 7, 2) := by decide +kernel
theorem d_Mod_computes_111 : decode b_Mod_computes 111 = .ok (.aload_n 0, 1) := by decide +kernel
theorem d_Mod_computes_112 : decode b_Mod_computes 112 = .ok (.iload_n 1, 1) := by decide +kernel
theorem d_Mod_computes_113 : decode b_Mod_computes 113 = .ok (.iload 5, 2) := by decide +kernel
theorem d_Mod_computes_115 : decode b_Mod_computes 115 = .ok (.iadd, 1) := by decide +kernel
theorem d_Mod_computes_116 : decode b_Mod_computes 116 = .ok (.iload 6, 2) := by decide +kernel
theorem d_Mod_computes_118 : decode b_Mod_computes 118 = .ok (.iload 5, 2) := by decide +kernel
theorem d_Mod_computes_120 : decode b_Mod_computes 120 = .ok (.isub, 1) := by decide +kernel
theorem d_Mod_computes_121 : decode b_Mod_computes 121 = .ok (.invokevirtual 89, 3) := by decide +kernel
theorem d_Mod_computes_124 : decode b_Mod_computes 124 = .ok (.istore 8, 2) := by decide +kernel
theorem d_Mod_computes_126 : decode b_Mod_computes 126 = .ok (.iload 4, 2) := by decide +kernel
theorem d_Mod_computes_128 : decode b_Mod_computes 128 = .ok (.iconst (-1), 1) := by decide +kernel
theorem d_Mod_computes_129 : decode b_Mod_computes 129 = .ok (.if_icmp .ne 7, 3) := by decide +kernel
theorem d_Mod_computes_132 : decode b_Mod_computes 132 = .ok (.iconst 0, 1) := by decide +kernel
theorem d_Mod_computes_133 : decode b_Mod_computes 133 = .ok (.goto 25, 3) := by decide +kernel
theorem d_Mod_computes_136 : decode b_Mod_computes 136 = .ok (.iconst 1, 1) := by decide +kernel
theorem d_Mod_computes_137 : decode b_Mod_computes 137 = .ok (.aload_n 0, 1) := by decide +kernel
theorem d_Mod_computes_138 : decode b_Mod_computes 138 = .ok (.aload_n 0, 1) := by decide +kernel
theorem d_Mod_computes_139 : decode b_Mod_computes 139 = .ok (.getfield 40, 3) := by decide +kernel
theorem d_Mod_computes_142 : decode b_Mod_computes 142 = .ok (.iload_n 1, 1) := by decide +kernel
theorem d_Mod_computes_143 : decode b_Mod_computes 143 = .ok (.iload 4, 2) := by decide +kernel
theorem d_Mod_computes_145 : decode b_Mod_computes 145 = .ok (.iadd, 1) := by decide +kernel
theorem d_Mod_computes_146 : decode b_Mod_computes 146 = .ok (.iconst 1, 1) := by decide +kernel
theorem d_Mod_computes_147 : decode b_Mod_computes 147 = .ok (.iadd, 1) := by decide +kernel
theorem d_Mod_computes_148 : decode b_Mod_computes 148 = .ok (.iload_n 2, 1) := by decide +kernel
theorem d_Mod_computes_149 : decode b_Mod_computes 149 = .ok (.iload 4, 2) := by decide +kernel
theorem d_Mod_computes_151 : decode b_Mod_computes 151 = .ok (.isub, 1) := by decide +kernel
theorem d_Mod_computes_152 : decode b_Mod_computes 152 = .ok (.iconst 1, 1) := by decide +kernel
theorem d_Mod_computes_153 : decode b_Mod_computes 153 = .ok (.isub, 1) := by decide +kernel
theorem d_Mod_computes_154 : decode b_Mod_computes 154 = .ok (.invokevirtual 65, 3) := by decide +kernel
theorem d_Mod_computes_157 : decode b_Mod_computes 157 = .ok (.iadd, 1) := by decide +kernel
theorem d_Mod_computes_158 : decode b_Mod_computes 158 = .ok (.istore 9, 2) := by decide +kernel
theorem d_Mod_computes_160 : decode b_Mod_computes 160 = .ok (.iload 7, 2) := by decide +kernel
theorem d_Mod_computes_162 : decode b_Mod_computes 162 = .ok (.iconst (-1), 1) := by decide +kernel
theorem d_Mod_computes_163 : decode b_Mod_computes 163 = .ok (.if_icmp .eq 31, 3) := by decide +kernel
theorem d_Mod_computes_166 : decode b_Mod_computes 166 = .ok (.iload 8, 2) := by decide +kernel
theorem d_Mod_computes_168 : decode b_Mod_computes 168 = .ok (.iconst (-1), 1) := by decide +kernel
theorem d_Mod_computes_169 : decode b_Mod_computes 169 = .ok (.if_icmp .eq 25, 3) := by decide +kernel
theorem d_Mod_computes_172 : decode b_Mod_computes 172 = .ok (.iload 4, 2) := by decide +kernel
theorem d_Mod_computes_174 : decode b_Mod_computes 174 = .ok (.iconst (-1), 1) := by decide +kernel
theorem d_Mod_computes_175 : decode b_Mod_computes 175 = .ok (.if_icmp .eq 21, 3) := by decide +kernel
theorem d_Mod_computes_178 : decode b_Mod_computes 178 = .ok (.iload 9, 2) := by decide +kernel
theorem d_Mod_computes_180 : decode b_Mod_computes 180 = .ok (.iconst 1, 1) := by decide +kernel
theorem d_Mod_computes_181 : decode b_Mod_computes 181 = .ok (.if_icmp .lt 13, 3) := by decide +kernel
theorem d_Mod_computes_184 : decode b_Mod_computes 184 = .ok (.iload_n 2, 1) := by decide +kernel
theorem d_Mod_computes_185 : decode b_Mod_computes 185 = .ok (.iload 4, 2) := by decide +kernel
theorem d_Mod_computes_187 : decode b_Mod_computes 187 = .ok (.isub, 1) := by decide +kernel
theorem d_Mod_computes_188 : decode b_Mod_computes 188 = .ok (.iconst 1, 1) := by decide +kernel
theorem d_Mod_computes_189 : decode b_Mod_computes 189 = .ok (.isub, 1) := by decide +kernel
theorem d_Mod_computes_190 : decode b_Mod_computes 190 = .ok (.iconst 3, 1) := by decide +kernel
theorem d_Mod_computes_191 : decode b_Mod_computes 191 = .ok (.if_icmp .eq 5, 3) := by decide +kernel
theorem d_Mod_computes_194 : decode b_Mod_computes 194 = .ok (.iconst 1, 1) := by decide +kernel
theorem d_Mod_computes_195 : decode b_Mod_computes 195 = .ok (.ireturn, 1) := by decide +kernel
theorem d_Mod_computes_196 : decode b_Mod_computes 196 = .ok (.aload_n 0, 1) := by decide +kernel
theorem d_Mod_computes_197 : decode b_Mod_computes 197 = .ok (.getfield 83, 3) := by decide +kernel
theorem d_Mod_computes_200 : decode b_Mod_computes 200 = .ok (.sipush 600, 3) := by decide +kernel
theorem d_Mod_computes_203 : decode b_Mod_computes 203 = .ok (.if_icmp .ne 5, 3) := by decide +kernel
theorem d_Mod_computes_206 : decode b_Mod_computes 206 = .ok (.iconst 2, 1) := by decide +kernel
theorem d_Mod_computes_207 : decode b_Mod_computes 207 = .ok (.ireturn, 1) := by decide +kernel
theorem d_Mod_computes_208 : decode b_Mod_computes 208 = .ok (.aload_n 0, 1) := by decide +kernel
theorem d_Mod_computes_209 : decode b_Mod_computes 209 = .ok (.getfield 29, 3) := by decide +kernel
theorem d_Mod_computes_212 : decode b_Mod_computes 212 = .ok (.aload_n 0, 1) := by decide +kernel
theorem d_Mod_computes_213 : decode b_Mod_computes 213 = .ok (.getfield 83, 3) := by decide +kernel
theorem d_Mod_computes_216 : decode b_Mod_computes 216 = .ok (.iconst (-1), 1) := by decide +kernel
theorem d_Mod_computes_217 : decode b_Mod_computes 217 = .ok (.iastore, 1) := by decide +kernel
theorem d_Mod_computes_218 : decode b_Mod_computes 218 = .ok (.aload_n 0, 1) := by decide +kernel
theorem d_Mod_computes_219 : decode b_Mod_computes 219 = .ok (.getfield 17, 3) := by decide +kernel
theorem d_Mod_computes_222 : decode b_Mod_computes 222 = .ok (.aload_n 0, 1) := by decide +kernel
theorem d_Mod_computes_223 : decode b_Mod_computes 223 = .ok (.getfield 83, 3) := by decide +kernel
theorem d_Mod_computes_226 : decode b_Mod_computes 226 = .ok (.ldc 92, 2) := by decide +kernel
theorem d_Mod_computes_228 : decode b_Mod_computes 228 = .ok (.bipush 64, 2) := by decide +kernel
theorem d_Mod_computes_230 : decode b_Mod_computes 230 = .ok (.iload 8, 2) := by decide +kernel
theorem d_Mod_computes_232 : decode b_Mod_computes 232 = .ok (.imul, 1) := by decide +kernel
theorem d_Mod_computes_233 : decode b_Mod_computes 233 = .ok (.iadd, 1) := by decide +kernel
theorem d_Mod_computes_234 : decode b_Mod_computes 234 = .ok (.iload 7, 2) := by decide +kernel
theorem d_Mod_computes_236 : decode b_Mod_computes 236 = .ok (.iadd, 1) := by decide +kernel
theorem d_Mod_computes_237 : decode b_Mod_computes 237 = .ok (.iload 9, 2) := by decide +kernel
theorem d_Mod_computes_239 : decode b_Mod_computes 239 = .ok (.iadd, 1) := by decide +kernel
theorem d_Mod_computes_240 : decode b_Mod_computes 240 = .ok (.iastore, 1) := by decide +kernel
theorem d_Mod_computes_241 : decode b_Mod_computes 241 = .ok (.aload_n 0, 1) := by decide +kernel
theorem d_Mod_computes_242 : decode b_Mod_computes 242 = .ok (.aload_n 0, 1) := by decide +kernel
theorem d_Mod_computes_243 : decode b_Mod_computes 243 = .ok (.getfield 83, 3) := by decide +kernel
theorem d_Mod_computes_246 : decode b_Mod_computes 246 = .ok (.iconst 1, 1) := by decide +kernel
theorem d_Mod_computes_247 : decode b_Mod_computes 247 = .ok (.iadd, 1) := by decide +kernel
theorem d_Mod_computes_248 : decode b_Mod_computes 248 = .ok (.putfield 83, 3) := by decide +kernel
theorem d_Mod_computes_251 : decode b_Mod_computes 251 = .ok (.iconst 0, 1) := by decide +kernel
theorem d_Mod_computes_252 : decode b_Mod_computes 252 = .ok (.ireturn, 1) := by decide +kernel
theorem d_Mod_destOf_0 : decode b_Mod_destOf 0 = .ok (.aload_n 0, 1) := by decide +kernel
theorem d_Mod_destOf_1 : decode b_Mod_destOf 1 = .ok (.aload_n 0, 1) := by decide +kernel
theorem d_Mod_destOf_2 : decode b_Mod_destOf 2 = .ok (.getfield 43, 3) := by decide +kernel
theorem d_Mod_destOf_5 : decode b_Mod_destOf 5 = .ok (.iload_n 1, 1) := by decide +kernel
theorem d_Mod_destOf_6 : decode b_Mod_destOf 6 = .ok (.iload_n 2, 1) := by decide +kernel
theorem d_Mod_destOf_7 : decode b_Mod_destOf 7 = .ok (.invokevirtual 65, 3) := by decide +kernel
theorem d_Mod_destOf_10 : decode b_Mod_destOf 10 = .ok (.istore_n 3, 1) := by decide +kernel
theorem d_Mod_destOf_11 : decode b_Mod_destOf 11 = .ok (.iload_n 3, 1) := by decide +kernel
theorem d_Mod_destOf_12 : decode b_Mod_destOf 12 = .ok (.ifCond .lt 7, 3) := by decide +kernel
theorem d_Mod_destOf_15 : decode b_Mod_destOf 15 = .ok (.iload_n 2, 1) := by decide +kernel
theorem d_Mod_destOf_16 : decode b_Mod_destOf 16 = .ok (.ifCond .ne 7, 3) := by decide +kernel
theorem d_Mod_destOf_19 : decode b_Mod_destOf 19 = .ok (.iconst (-1), 1) := by decide +kernel
theorem d_Mod_destOf_20 : decode b_Mod_destOf 20 = .ok (.goto 9, 3) := by decide +kernel
theorem d_Mod_destOf_23 : decode b_Mod_destOf 23 = .ok (.bipush 8, 2) := by decide +kernel
theorem d_Mod_destOf_25 : decode b_Mod_destOf 25 = .ok (.iload_n 3, 1) := by decide +kernel
theorem d_Mod_destOf_26 : decode b_Mod_destOf 26 = .ok (.iconst 1, 1) := by decide +kernel
theorem d_Mod_destOf_27 : decode b_Mod_destOf 27 = .ok (.iadd, 1) := by decide +kernel
theorem d_Mod_destOf_28 : decode b_Mod_destOf 28 = .ok (.imul, 1) := by decide +kernel
theorem d_Mod_destOf_29 : decode b_Mod_destOf 29 = .ok (.ireturn, 1) := by decide +kernel
theorem d_Mod_compOf_0 : decode b_Mod_compOf 0 = .ok (.iload_n 2, 1) := by decide +kernel
theorem d_Mod_compOf_1 : decode b_Mod_compOf 1 = .ok (.ifCond .le 12, 3) := by decide +kernel
theorem d_Mod_compOf_4 : decode b_Mod_compOf 4 = .ok (.aload_n 0, 1) := by decide +kernel
theorem d_Mod_compOf_5 : decode b_Mod_compOf 5 = .ok (.getfield 7, 3) := by decide +kernel
theorem d_Mod_compOf_8 : decode b_Mod_compOf 8 = .ok (.iload_n 1, 1) := by decide +kernel
theorem d_Mod_compOf_9 : decode b_Mod_compOf 9 = .ok (.iaload, 1) := by decide +kernel
theorem d_Mod_compOf_10 : decode b_Mod_compOf 10 = .ok (.goto 4, 3) := by decide +kernel
theorem d_Mod_compOf_13 : decode b_Mod_compOf 13 = .ok (.iconst 0, 1) := by decide +kernel
theorem d_Mod_compOf_14 : decode b_Mod_compOf 14 = .ok (.istore_n 3, 1) := by decide +kernel
theorem d_Mod_compOf_15 : decode b_Mod_compOf 15 = .ok (.iload_n 2, 1) := by decide +kernel
theorem d_Mod_compOf_16 : decode b_Mod_compOf 16 = .ok (.iconst 1, 1) := by decide +kernel
theorem d_Mod_compOf_17 : decode b_Mod_compOf 17 = .ok (.if_icmp .le 14, 3) := by decide +kernel
theorem d_Mod_compOf_20 : decode b_Mod_compOf 20 = .ok (.aload_n 0, 1) := by decide +kernel
theorem d_Mod_compOf_21 : decode b_Mod_compOf 21 = .ok (.getfield 7, 3) := by decide +kernel
theorem d_Mod_compOf_24 : decode b_Mod_compOf 24 = .ok (.iload_n 1, 1) := by decide +kernel
theorem d_Mod_compOf_25 : decode b_Mod_compOf 25 = .ok (.iconst 1, 1) := by decide +kernel
theorem d_Mod_compOf_26 : decode b_Mod_compOf 26 = .ok (.iadd, 1) := by decide +kernel
theorem d_Mod_compOf_27 : decode b_Mod_compOf 27 = .ok (.iaload, 1) := by decide +kernel
theorem d_Mod_compOf_28 : decode b_Mod_compOf 28 = .ok (.goto 4, 3) := by decide +kernel
theorem d_Mod_compOf_31 : decode b_Mod_compOf 31 = .ok (.iconst 0, 1) := by decide +kernel
theorem d_Mod_compOf_32 : decode b_Mod_compOf 32 = .ok (.istore 4, 2) := by decide +kernel
theorem d_Mod_compOf_34 : decode b_Mod_compOf 34 = .ok (.iload_n 2, 1) := by decide +kernel
theorem d_Mod_compOf_35 : decode b_Mod_compOf 35 = .ok (.iconst 2, 1) := by decide +kernel
theorem d_Mod_compOf_36 : decode b_Mod_compOf 36 = .ok (.if_icmp .le 14, 3) := by decide +kernel
theorem d_Mod_compOf_39 : decode b_Mod_compOf 39 = .ok (.aload_n 0, 1) := by decide +kernel
theorem d_Mod_compOf_40 : decode b_Mod_compOf 40 = .ok (.getfield 7, 3) := by decide +kernel
theorem d_Mod_compOf_43 : decode b_Mod_compOf 43 = .ok (.iload_n 1, 1) := by decide +kernel
theorem d_Mod_compOf_44 : decode b_Mod_compOf 44 = .ok (.iconst 2, 1) := by decide +kernel
theorem d_Mod_compOf_45 : decode b_Mod_compOf 45 = .ok (.iadd, 1) := by decide +kernel
theorem d_Mod_compOf_46 : decode b_Mod_compOf 46 = .ok (.iaload, 1) := by decide +kernel
theorem d_Mod_compOf_47 : decode b_Mod_compOf 47 = .ok (.goto 4, 3) := by decide +kernel
theorem d_Mod_compOf_50 : decode b_Mod_compOf 50 = .ok (.iconst 0, 1) := by decide +kernel
theorem d_Mod_compOf_51 : decode b_Mod_compOf 51 = .ok (.istore 5, 2) := by decide +kernel
theorem d_Mod_compOf_53 : decode b_Mod_compOf 53 = .ok (.iload_n 3, 1) := by decide +kernel
theorem d_Mod_compOf_54 : decode b_Mod_compOf 54 = .ok (.bipush 77, 2) := by decide +kernel
theorem d_Mod_compOf_56 : decode b_Mod_compOf 56 = .ok (.if_icmp .eq 17, 3) := by decide +kernel
theorem d_Mod_compOf_59 : decode b_Mod_compOf 59 = .ok (.iload 4, 2) := by decide +kernel
theorem d_Mod_compOf_61 : decode b_Mod_compOf 61 = .ok (.bipush 77, 2) := by decide +kernel
theorem d_Mod_compOf_63 : decode b_Mod_compOf 63 = .ok (.if_icmp .eq 10, 3) := by decide +kernel
theorem d_Mod_compOf_66 : decode b_Mod_compOf 66 = .ok (.iload 5, 2) := by decide +kernel
theorem d_Mod_compOf_68 : decode b_Mod_compOf 68 = .ok (.bipush 77, 2) := by decide +kernel
theorem d_Mod_compOf_70 : decode b_Mod_compOf 70 = .ok (.if_icmp .ne 8, 3) := by decide +kernel
theorem d_Mod_compOf_73 : decode b_Mod_compOf 73 = .ok (.bipush 64, 2) := by decide +kernel
theorem d_Mod_compOf_75 : decode b_Mod_compOf 75 = .ok (.goto 4, 3) := by decide +kernel
theorem d_Mod_compOf_78 : decode b_Mod_compOf 78 = .ok (.iconst 0, 1) := by decide +kernel
theorem d_Mod_compOf_79 : decode b_Mod_compOf 79 = .ok (.istore 6, 2) := by decide +kernel
theorem d_Mod_compOf_81 : decode b_Mod_compOf 81 = .ok (.iload_n 3, 1) := by decide +kernel
theorem d_Mod_compOf_82 : decode b_Mod_compOf 82 = .ok (.bipush 77, 2) := by decide +kernel
theorem d_Mod_compOf_84 : decode b_Mod_compOf 84 = .ok (.if_icmp .ne 8, 3) := by decide +kernel
theorem d_Mod_compOf_87 : decode b_Mod_compOf 87 = .ok (.bipush 65, 2) := by decide +kernel
theorem d_Mod_compOf_89 : decode b_Mod_compOf 89 = .ok (.goto 4, 3) := by decide +kernel
theorem d_Mod_compOf_92 : decode b_Mod_compOf 92 = .ok (.iload_n 3, 1) := by decide +kernel
theorem d_Mod_compOf_93 : decode b_Mod_compOf 93 = .ok (.istore_n 3, 1) := by decide +kernel
theorem d_Mod_compOf_94 : decode b_Mod_compOf 94 = .ok (.iload 4, 2) := by decide +kernel
theorem d_Mod_compOf_96 : decode b_Mod_compOf 96 = .ok (.bipush 77, 2) := by decide +kernel
theorem d_Mod_compOf_98 : decode b_Mod_compOf 98 = .ok (.if_icmp .ne 8, 3) := by decide +kernel
theorem d_Mod_compOf_101 : decode b_Mod_compOf 101 = .ok (.bipush 65, 2) := by decide +kernel
theorem d_Mod_compOf_103 : decode b_Mod_compOf 103 = .ok (.goto 5, 3) := by decide +kernel
theorem d_Mod_compOf_106 : decode b_Mod_compOf 106 = .ok (.iload 4, 2) := by decide +kernel
theorem d_Mod_compOf_108 : decode b_Mod_compOf 108 = .ok (.istore 4, 2) := by decide +kernel
theorem d_Mod_compOf_110 : decode b_Mod_compOf 110 = .ok (.iload 5, 2) := by decide +kernel
theorem d_Mod_compOf_112 : decode b_Mod_compOf 112 = .ok (.bipush 77, 2) := by decide +kernel
theorem d_Mod_compOf_114 : decode b_Mod_compOf 114 = .ok (.if_icmp .ne 8, 3) := by decide +kernel
theorem d_Mod_compOf_117 : decode b_Mod_compOf 117 = .ok (.bipush 65, 2) := by decide +kernel
theorem d_Mod_compOf_119 : decode b_Mod_compOf 119 = .ok (.goto 5, 3) := by decide +kernel
theorem d_Mod_compOf_122 : decode b_Mod_compOf 122 = .ok (.iload 5, 2) := by decide +kernel
theorem d_Mod_compOf_124 : decode b_Mod_compOf 124 = .ok (.istore 5, 2) := by decide +kernel
theorem d_Mod_compOf_126 : decode b_Mod_compOf 126 = .ok (.iconst (-1), 1) := by decide +kernel
theorem d_Mod_compOf_127 : decode b_Mod_compOf 127 = .ok (.istore 7, 2) := by decide +kernel
theorem d_Mod_compOf_129 : decode b_Mod_compOf 129 = .ok (.iload_n 2, 1) := by decide +kernel
theorem d_Mod_compOf_130 : decode b_Mod_compOf 130 = .ok (.iconst 1, 1) := by decide +kernel
theorem d_Mod_compOf_131 : decode b_Mod_compOf 131 = .ok (.if_icmp .ne 50, 3) := by decide +kernel
theorem d_Mod_compOf_134 : decode b_Mod_compOf 134 = .ok (.iload_n 3, 1) := by decide +kernel
theorem d_Mod_compOf_135 : decode b_Mod_compOf 135 = .ok (.bipush 48, 2) := by decide +kernel
theorem d_Mod_compOf_137 : decode b_Mod_compOf 137 = .ok (.if_icmp .ne 8, 3) := by decide +kernel
theorem d_Mod_compOf_140 : decode b_Mod_compOf 140 = .ok (.bipush 42, 2) := by decide +kernel
theorem d_Mod_compOf_142 : decode b_Mod_compOf 142 = .ok (.goto 37, 3) := by decide +kernel
theorem d_Mod_compOf_145 : decode b_Mod_compOf 145 = .ok (.iload_n 3, 1) := by decide +kernel
theorem d_Mod_compOf_146 : decode b_Mod_compOf 146 = .ok (.bipush 49, 2) := by decide +kernel
theorem d_Mod_compOf_148 : decode b_Mod_compOf 148 = .ok (.if_icmp .ne 8, 3) := by decide +kernel
theorem d_Mod_compOf_151 : decode b_Mod_compOf 151 = .ok (.bipush 63, 2) := by decide +kernel
theorem d_Mod_compOf_153 : decode b_Mod_compOf 153 = .ok (.goto 26, 3) := by decide +kernel
theorem d_Mod_compOf_156 : decode b_Mod_compOf 156 = .ok (.iload_n 3, 1) := by decide +kernel
theorem d_Mod_compOf_157 : decode b_Mod_compOf 157 = .ok (.bipush 68, 2) := by decide +kernel
theorem d_Mod_compOf_159 : decode b_Mod_compOf 159 = .ok (.if_icmp .ne 8, 3) := by decide +kernel
theorem d_Mod_compOf_162 : decode b_Mod_compOf 162 = .ok (.bipush 12, 2) := by decide +kernel
theorem d_Mod_compOf_164 : decode b_Mod_compOf 164 = .ok (.goto 15, 3) := by decide +kernel
theorem d_Mod_compOf_167 : decode b_Mod_compOf 167 = .ok (.iload_n 3, 1) := by decide +kernel
theorem d_Mod_compOf_168 : decode b_Mod_compOf 168 = .ok (.bipush 65, 2) := by decide +kernel
theorem d_Mod_compOf_170 : decode b_Mod_compOf 170 = .ok (.if_icmp .ne 8, 3) := by decide +kernel
theorem d_Mod_compOf_173 : decode b_Mod_compOf 173 = .ok (.bipush 48, 2) := by decide +kernel
theorem d_Mod_compOf_175 : decode b_Mod_compOf 175 = .ok (.goto 4, 3) := by decide +kernel
theorem d_Mod_compOf_178 : decode b_Mod_compOf 178 = .ok (.iconst (-1), 1) := by decide +kernel
theorem d_Mod_compOf_179 : decode b_Mod_compOf 179 = .ok (.istore 7, 2) := by decide +kernel
theorem d_Mod_compOf_181 : decode b_Mod_compOf 181 = .ok (.iload_n 2, 1) := by decide +kernel
theorem d_Mod_compOf_182 : decode b_Mod_compOf 182 = .ok (.iconst 2, 1) := by decide +kernel
theorem d_Mod_compOf_183 : decode b_Mod_compOf 183 = .ok (.if_icmp .ne 48, 3) := by decide +kernel
theorem d_Mod_compOf_186 : decode b_Mod_compOf 186 = .ok (.iload_n 3, 1) := by decide +kernel
theorem d_Mod_compOf_187 : decode b_Mod_compOf 187 = .ok (.bipush 45, 2) := by decide +kernel
theorem d_Mod_compOf_189 : decode b_Mod_compOf 189 = .ok (.if_icmp .ne 42, 3) := by decide +kernel
theorem d_Mod_compOf_192 : decode b_Mod_compOf 192 = .ok (.iload 4, 2) := by decide +kernel
theorem d_Mod_compOf_194 : decode b_Mod_compOf 194 = .ok (.bipush 49, 2) := by decide +kernel
theorem d_Mod_compOf_196 : decode b_Mod_compOf 196 = .ok (.if_icmp .ne 8, 3) := by decide +kernel
theorem d_Mod_compOf_199 : decode b_Mod_compOf 199 = .ok (.bipush 58, 2) := by decide +kernel
theorem d_Mod_compOf_201 : decode b_Mod_compOf 201 = .ok (.goto 28, 3) := by decide +kernel
theorem d_Mod_compOf_204 : decode b_Mod_compOf 204 = .ok (.iload 4, 2) := by decide +kernel
theorem d_Mod_compOf_206 : decode b_Mod_compOf 206 = .ok (.bipush 68, 2) := by decide +kernel
theorem d_Mod_compOf_208 : decode b_Mod_compOf 208 = .ok (.if_icmp .ne 8, 3) := by decide +kernel
theorem d_Mod_compOf_211 : decode b_Mod_compOf 211 = .ok (.bipush 15, 2) := by decide +kernel
theorem d_Mod_compOf_213 : decode b_Mod_compOf 213 = .ok (.goto 16, 3) := by decide +kernel
theorem d_Mod_compOf_216 : decode b_Mod_compOf 216 = .ok (.iload 4, 2) := by decide +kernel
theorem d_Mod_compOf_218 : decode b_Mod_compOf 218 = .ok (.bipush 65, 2) := by decide +kernel
theorem d_Mod_compOf_220 : decode b_Mod_compOf 220 = .ok (.if_icmp .ne 8, 3) := by decide +kernel
theorem d_Mod_compOf_223 : decode b_Mod_compOf 223 = .ok (.bipush 51, 2) := by decide +kernel
theorem d_Mod_compOf_225 : decode b_Mod_compOf 225 = .ok (.goto 4, 3) := by decide +kernel
theorem d_Mod_compOf_228 : decode b_Mod_compOf 228 = .ok (.iconst (-1), 1) := by decide +kernel
theorem d_Mod_compOf_229 : decode b_Mod_compOf 229 = .ok (.istore 7, 2) := by decide +kernel
theorem d_Mod_compOf_231 : decode b_Mod_compOf 231 = .ok (.iload_n 2, 1) := by decide +kernel
theorem d_Mod_compOf_232 : decode b_Mod_compOf 232 = .ok (.iconst 2, 1) := by decide +kernel
theorem d_Mod_compOf_233 : decode b_Mod_compOf 233 = .ok (.if_icmp .ne 36, 3) := by decide +kernel
theorem d_Mod_compOf_236 : decode b_Mod_compOf 236 = .ok (.iload_n 3, 1) := by decide +kernel
theorem d_Mod_compOf_237 : decode b_Mod_compOf 237 = .ok (.bipush 33, 2) := by decide +kernel
theorem d_Mod_compOf_239 : decode b_Mod_compOf 239 = .ok (.if_icmp .ne 30, 3) := by decide +kernel
theorem d_Mod_compOf_242 : decode b_Mod_compOf 242 = .ok (.iload 4, 2) := by decide +kernel
theorem d_Mod_compOf_244 : decode b_Mod_compOf 244 = .ok (.bipush 68, 2) := by decide +kernel
theorem d_Mod_compOf_246 : decode b_Mod_compOf 246 = .ok (.if_icmp .ne 8, 3) := by decide +kernel
theorem d_Mod_compOf_249 : decode b_Mod_compOf 249 = .ok (.bipush 13, 2) := by decide +kernel
theorem d_Mod_compOf_251 : decode b_Mod_compOf 251 = .ok (.goto 16, 3) := by decide +kernel
theorem d_Mod_compOf_254 : decode b_Mod_compOf 254 = .ok (.iload 4, 2) := by decide +kernel
theorem d_Mod_compOf_256 : decode b_Mod_compOf 256 = .ok (.bipush 65, 2) := by decide +kernel
theorem d_Mod_compOf_258 : decode b_Mod_compOf 258 = .ok (.if_icmp .ne 8, 3) := by decide +kernel
theorem d_Mod_compOf_261 : decode b_Mod_compOf 261 = .ok (.bipush 49, 2) := by decide +kernel
theorem d_Mod_compOf_263 : decode b_Mod_compOf 263 = .ok (.goto 4, 3) := by decide +kernel
theorem d_Mod_compOf_266 : decode b_Mod_compOf 266 = .ok (.iconst (-1), 1) := by decide +kernel
theorem d_Mod_compOf_267 : decode b_Mod_compOf 267 = .ok (.istore 7, 2) := by decide +kernel
theorem d_Mod_compOf_269 : decode b_Mod_compOf 269 = .ok (.iload_n 2, 1) := by decide +kernel
theorem d_Mod_compOf_270 : decode b_Mod_compOf 270 = .ok (.iconst 3, 1) := by decide +kernel
theorem d_Mod_compOf_271 : decode b_Mod_compOf 271 = .ok (.if_icmp .ne 43, 3) := by decide +kernel
theorem d_Mod_compOf_274 : decode b_Mod_compOf 274 = .ok (.iload_n 3, 1) := by decide +kernel
theorem d_Mod_compOf_275 : decode b_Mod_compOf 275 = .ok (.bipush 68, 2) := by decide +kernel
theorem d_Mod_compOf_277 : decode b_Mod_compOf 277 = .ok (.if_icmp .ne 37, 3) := by decide +kernel
theorem d_Mod_compOf_280 : decode b_Mod_compOf 280 = .ok (.iload 5, 2) := by decide +kernel
theorem d_Mod_compOf_282 : decode b_Mod_compOf 282 = .ok (.bipush 49, 2) := by decide +kernel
theorem d_Mod_compOf_284 : decode b_Mod_compOf 284 = .ok (.if_icmp .ne 30, 3) := by decide +kernel
theorem d_Mod_compOf_287 : decode b_Mod_compOf 287 = .ok (.iload 4, 2) := by decide +kernel
theorem d_Mod_compOf_289 : decode b_Mod_compOf 289 = .ok (.bipush 43, 2) := by decide +kernel
theorem d_Mod_compOf_291 : decode b_Mod_compOf 291 = .ok (.if_icmp .ne 8, 3) := by decide +kernel
theorem d_Mod_compOf_294 : decode b_Mod_compOf 294 = .ok (.bipush 31, 2) := by decide +kernel
theorem d_Mod_compOf_296 : decode b_Mod_compOf 296 = .ok (.goto 16, 3) := by decide +kernel
theorem d_Mod_compOf_299 : decode b_Mod_compOf 299 = .ok (.iload 4, 2) := by decide +kernel
theorem d_Mod_compOf_301 : decode b_Mod_compOf 301 = .ok (.bipush 45, 2) := by decide +kernel
theorem d_Mod_compOf_303 : decode b_Mod_compOf 303 = .ok (.if_icmp .ne 8, 3) := by decide +kernel
theorem d_Mod_compOf_306 : decode b_Mod_compOf 306 = .ok (.bipush 14, 2) := by decide +kernel
theorem d_Mod_compOf_308 : decode b_Mod_compOf 308 = .ok (.goto 4, 3) := by decide +kernel
theorem d_Mod_compOf_311 : decode b_Mod_compOf 311 = .ok (.iconst (-1), 1) := by decide +kernel
theorem d_Mod_compOf_312 : decode b_Mod_compOf 312 = .ok (.istore 7, 2) := by decide +kernel
theorem d_Mod_compOf_314 : decode b_Mod_compOf 314 = .ok (.iload_n 2, 1) := by decide +kernel
theorem d_Mod_compOf_315 : decode b_Mod_compOf 315 = .ok (.iconst 3, 1) := by decide +kernel
theorem d_Mod_compOf_316 : decode b_Mod_compOf 316 = .ok (.if_icmp .ne 43, 3) := by decide +kernel
theorem d_Mod_compOf_319 : decode b_Mod_compOf 319 = .ok (.iload_n 3, 1) := by decide +kernel
theorem d_Mod_compOf_320 : decode b_Mod_compOf 320 = .ok (.bipush 65, 2) := by decide +kernel
theorem d_Mod_compOf_322 : decode b_Mod_compOf 322 = .ok (.if_icmp .ne 37, 3) := by decide +kernel
theorem d_Mod_compOf_325 : decode b_Mod_compOf 325 = .ok (.iload 5, 2) := by decide +kernel
theorem d_Mod_compOf_327 : decode b_Mod_compOf 327 = .ok (.bipush 49, 2) := by decide +kernel
theorem d_Mod_compOf_329 : decode b_Mod_compOf 329 = .ok (.if_icmp .ne 30, 3) := by decide +kernel
theorem d_Mod_compOf_332 : decode b_Mod_compOf 332 = .ok (.iload 4, 2) := by decide +kernel
theorem d_Mod_compOf_334 : decode b_Mod_compOf 334 = .ok (.bipush 43, 2) := by decide +kernel
theorem d_Mod_compOf_336 : decode b_Mod_compOf 336 = .ok (.if_icmp .ne 8, 3) := by decide +kernel
theorem d_Mod_compOf_339 : decode b_Mod_compOf 339 = .ok (.bipush 55, 2) := by decide +kernel
theorem d_Mod_compOf_341 : decode b_Mod_compOf 341 = .ok (.goto 16, 3) := by decide +kernel
theorem d_Mod_compOf_344 : decode b_Mod_compOf 344 = .ok (.iload 4, 2) := by decide +kernel
theorem d_Mod_compOf_346 : decode b_Mod_compOf 346 = .ok (.bipush 45, 2) := by decide +kernel
theorem d_Mod_compOf_348 : decode b_Mod_compOf 348 = .ok (.if_icmp .ne 8, 3) := by decide +kernel
theorem d_Mod_compOf_351 : decode b_Mod_compOf 351 = .ok (.bipush 50, 2) := by decide +kernel
theorem d_Mod_compOf_353 : decode b_Mod_compOf 353 = .ok (.goto 4, 3) := by decide +kernel
theorem d_Mod_compOf_356 : decode b_Mod_compOf 356 = .ok (.iconst (-1), 1) := by decide +kernel
theorem d_Mod_compOf_357 : decode b_Mod_compOf 357 = .ok (.istore 7, 2) := by decide +kernel
theorem d_Mod_compOf_359 : decode b_Mod_compOf 359 = .ok (.iload_n 2, 1) := by decide +kernel
theorem d_Mod_compOf_360 : decode b_Mod_compOf 360 = .ok (.iconst 3, 1) := by decide +kernel
theorem d_Mod_compOf_361 : decode b_Mod_compOf 361 = .ok (.if_icmp .ne 65, 3) := by decide +kernel
theorem d_Mod_compOf_364 : decode b_Mod_compOf 364 = .ok (.iload_n 3, 1) := by decide +kernel
theorem d_Mod_compOf_365 : decode b_Mod_compOf 365 = .ok (.bipush 68, 2) := by decide +kernel
theorem d_Mod_compOf_367 : decode b_Mod_compOf 367 = .ok (.if_icmp .ne 59, 3) := by decide +kernel
theorem d_Mod_compOf_370 : decode b_Mod_compOf 370 = .ok (.iload 5, 2) := by decide +kernel
theorem d_Mod_compOf_372 : decode b_Mod_compOf 372 = .ok (.bipush 65, 2) := by decide +kernel
theorem d_Mod_compOf_374 : decode b_Mod_compOf 374 = .ok (.if_icmp .ne 52, 3) := by decide +kernel
theorem d_Mod_compOf_377 : decode b_Mod_compOf 377 = .ok (.iload 4, 2) := by decide +kernel
theorem d_Mod_compOf_379 : decode b_Mod_compOf 379 = .ok (.bipush 43, 2) := by decide +kernel
theorem d_Mod_compOf_381 : decode b_Mod_compOf 381 = .ok (.if_icmp .ne 7, 3) := by decide +kernel
theorem d_Mod_compOf_384 : decode b_Mod_compOf 384 = .ok (.iconst 2, 1) := by decide +kernel
theorem d_Mod_compOf_385 : decode b_Mod_compOf 385 = .ok (.goto 39, 3) := by decide +kernel
theorem d_Mod_compOf_388 : decode b_Mod_compOf 388 = .ok (.iload 4, 2) := by decide +kernel
theorem d_Mod_compOf_390 : decode b_Mod_compOf 390 = .ok (.bipush 45, 2) := by decide +kernel
theorem d_Mod_compOf_392 : decode b_Mod_compOf 392 = .ok (.if_icmp .ne 8, 3) := by decide +kernel
theorem d_Mod_compOf_395 : decode b_Mod_compOf 395 = .ok (.bipush 19, 2) := by decide +kernel
theorem d_Mod_compOf_397 : decode b_Mod_compOf 397 = .ok (.goto 27, 3) := by decide +kernel
theorem d_Mod_compOf_400 : decode b_Mod_compOf 400 = .ok (.iload 4, 2) := by decide +kernel
theorem d_Mod_compOf_402 : decode b_Mod_compOf 402 = .ok (.bipush 38, 2) := by decide +kernel
theorem d_Mod_compOf_404 : decode b_Mod_compOf 404 = .ok (.if_icmp .ne 7, 3) := by decide +kernel
theorem d_Mod_compOf_407 : decode b_Mod_compOf 407 = .ok (.iconst 0, 1) := by decide +kernel
theorem d_Mod_compOf_408 : decode b_Mod_compOf 408 = .ok (.goto 16, 3) := by decide +kernel
theorem d_Mod_compOf_411 : decode b_Mod_compOf 411 = .ok (.iload 4, 2) := by decide +kernel
theorem d_Mod_compOf_413 : decode b_Mod_compOf 413 = .ok (.bipush 124, 2) := by decide +kernel
theorem d_Mod_compOf_415 : decode b_Mod_compOf 415 = .ok (.if_icmp .ne 8, 3) := by decide +kernel
theorem d_Mod_compOf_418 : decode b_Mod_compOf 418 = .ok (.bipush 21, 2) := by decide +kernel
theorem d_Mod_compOf_420 : decode b_Mod_compOf 420 = .ok (.goto 4, 3) := by decide +kernel
theorem d_Mod_compOf_423 : decode b_Mod_compOf 423 = .ok (.iconst (-1), 1) := by decide +kernel
theorem d_Mod_compOf_424 : decode b_Mod_compOf 424 = .ok (.istore 7, 2) := by decide +kernel
theorem d_Mod_compOf_426 : decode b_Mod_compOf 426 = .ok (.iload_n 2, 1) := by decide +kernel
theorem d_Mod_compOf_427 : decode b_Mod_compOf 427 = .ok (.iconst 3, 1) := by decide +kernel
theorem d_Mod_compOf_428 : decode b_Mod_compOf 428 = .ok (.if_icmp .ne 31, 3) := by decide +kernel
theorem d_Mod_compOf_431 : decode b_Mod_compOf 431 = .ok (.iload_n 3, 1) := by decide +kernel
theorem d_Mod_compOf_432 : decode b_Mod_compOf 432 = .ok (.bipush 65, 2) := by decide +kernel
theorem d_Mod_compOf_434 : decode b_Mod_compOf 434 = .ok (.if_icmp .ne 25, 3) := by decide +kernel
theorem d_Mod_compOf_437 : decode b_Mod_compOf 437 = .ok (.iload 5, 2) := by decide +kernel
theorem d_Mod_compOf_439 : decode b_Mod_compOf 439 = .ok (.bipush 68, 2) := by decide +kernel
theorem d_Mod_compOf_441 : decode b_Mod_compOf 441 = .ok (.if_icmp .ne 18, 3) := by decide +kernel
theorem d_Mod_compOf_444 : decode b_Mod_compOf 444 = .ok (.iload 4, 2) := by decide +kernel
theorem d_Mod_compOf_446 : decode b_Mod_compOf 446 = .ok (.bipush 45, 2) := by decide +kernel
theorem d_Mod_compOf_448 : decode b_Mod_compOf 448 = .ok (.if_icmp .ne 8, 3) := by decide +kernel
theorem d_Mod_compOf_451 : decode b_Mod_compOf 451 = .ok (.bipush 7, 2) := by decide +kernel
theorem d_Mod_compOf_453 : decode b_Mod_compOf 453 = .ok (.goto 4, 3) := by decide +kernel
theorem d_Mod_compOf_456 : decode b_Mod_compOf 456 = .ok (.iconst (-1), 1) := by decide +kernel
theorem d_Mod_compOf_457 : decode b_Mod_compOf 457 = .ok (.istore 7, 2) := by decide +kernel
theorem d_Mod_compOf_459 : decode b_Mod_compOf 459 = .ok (.iload 7, 2) := by decide +kernel
theorem d_Mod_compOf_461 : decode b_Mod_compOf 461 = .ok (.iconst (-1), 1) := by decide +kernel
theorem d_Mod_compOf_462 : decode b_Mod_compOf 462 = .ok (.if_icmp .ne 7, 3) := by decide +kernel
theorem d_Mod_compOf_465 : decode b_Mod_compOf 465 = .ok (.iconst (-1), 1) := by decide +kernel
theorem d_Mod_compOf_466 : decode b_Mod_compOf 466 = .ok (.goto 8, 3) := by decide +kernel
theorem d_Mod_compOf_469 : decode b_Mod_compOf 469 = .ok (.iload 7, 2) := by decide +kernel
theorem d_Mod_compOf_471 : decode b_Mod_compOf 471 = .ok (.iload 6, 2) := by decide +kernel
theorem d_Mod_compOf_473 : decode b_Mod_compOf 473 = .ok (.iadd, 1) := by decide +kernel
theorem d_Mod_compOf_474 : decode b_Mod_compOf 474 = .ok (.ireturn, 1) := by decide +kernel
theorem d_Mod_code_0 : decode b_Mod_code 0 = .ok (.iload_n 1, 1) := by decide +kernel
theorem d_Mod_code_1 : decode b_Mod_code 1 = .ok (.ifCond .lt 11, 3) := by decide +kernel
theorem d_Mod_code_4 : decode b_Mod_code 4 = .ok (.iload_n 1, 1) := by decide +kernel
theorem d_Mod_code_5 : decode b_Mod_code 5 = .ok (.aload_n 0, 1) := by decide +kernel
theorem d_Mod_code_6 : decode b_Mod_code 6 = .ok (.getfield 83, 3) := by decide +kernel
theorem d_Mod_code_9 : decode b_Mod_code 9 = .ok (.if_icmp .lt 7, 3) := by decide +kernel
theorem d_Mod_code_12 : decode b_Mod_code 12 = .ok (.iconst (-1), 1) := by decide +kernel
theorem d_Mod_code_13 : decode b_Mod_code 13 = .ok (.goto 9, 3) := by decide +kernel
theorem d_Mod_code_16 : decode b_Mod_code 16 = .ok (.aload_n 0, 1) := by decide +kernel
theorem d_Mod_code_17 : decode b_Mod_code 17 = .ok (.getfield 17, 3) := by decide +kernel
theorem d_Mod_code_20 : decode b_Mod_code 20 = .ok (.iload_n 1, 1) := by decide +kernel
theorem d_Mod_code_21 : decode b_Mod_code 21 = .ok (.iaload, 1) := by decide +kernel
theorem d_Mod_code_22 : decode b_Mod_code 22 = .ok (.ireturn, 1) := by decide +kernel
theorem d_Mod_go_0 : decode b_Mod_go 0 = .ok (.iload_n 1, 1) := by decide +kernel
theorem d_Mod_go_1 : decode b_Mod_go 1 = .ok (.ifCond .lt 10, 3) := by decide +kernel
theorem d_Mod_go_4 : decode b_Mod_go 4 = .ok (.iload_n 1, 1) := by decide +kernel
theorem d_Mod_go_5 : decode b_Mod_go 5 = .ok (.sipush 2000, 3) := by decide +kernel
theorem d_Mod_go_8 : decode b_Mod_go 8 = .ok (.if_icmp .le 5, 3) := by decide +kernel
theorem d_Mod_go_11 : decode b_Mod_go 11 = .ok (.iconst (-1), 1) := by decide +kernel
theorem d_Mod_go_12 : decode b_Mod_go 12 = .ok (.ireturn, 1) := by decide +kernel
theorem d_Mod_go_13 : decode b_Mod_go 13 = .ok (.iconst 0, 1) := by decide +kernel
theorem d_Mod_go_14 : decode b_Mod_go 14 = .ok (.istore_n 2, 1) := by decide +kernel
theorem d_Mod_go_15 : decode b_Mod_go 15 = .ok (.iload_n 2, 1) := by decide +kernel
theorem d_Mod_go_16 : decode b_Mod_go 16 = .ok (.iload_n 1, 1) := by decide +kernel
theorem d_Mod_go_17 : decode b_Mod_go 17 = .ok (.if_icmp .ge 25, 3) := by decide +kernel
theorem d_Mod_go_20 : decode b_Mod_go 20 = .ok (.aload_n 0, 1) := by decide +kernel
theorem d_Mod_go_21 : decode b_Mod_go 21 = .ok (.getfield 108, 3) := by decide +kernel
theorem d_Mod_go_24 : decode b_Mod_go 24 = .ok (.aload_n 0, 1) := by decide +kernel
theorem d_Mod_go_25 : decode b_Mod_go 25 = .ok (.getfield 83, 3) := by decide +kernel
theorem d_Mod_go_28 : decode b_Mod_go 28 = .ok (.if_icmp .ge 14, 3) := by decide +kernel
theorem d_Mod_go_31 : decode b_Mod_go 31 = .ok (.aload_n 0, 1) := by decide +kernel
theorem d_Mod_go_32 : decode b_Mod_go 32 = .ok (.invokevirtual 132, 3) := by decide +kernel
theorem d_Mod_go_35 : decode b_Mod_go 35 = .ok (.iload_n 2, 1) := by decide +kernel
theorem d_Mod_go_36 : decode b_Mod_go 36 = .ok (.iconst 1, 1) := by decide +kernel
theorem d_Mod_go_37 : decode b_Mod_go 37 = .ok (.iadd, 1) := by decide +kernel
theorem d_Mod_go_38 : decode b_Mod_go 38 = .ok (.istore_n 2, 1) := by decide +kernel
theorem d_Mod_go_39 : decode b_Mod_go 39 = .ok (.goto (-24), 3) := by decide +kernel
