theorem dL_law_93 : decode cL_law 93 = .ok (.if_icmp .ne 22, 3) := by decide +kernel
theorem dL_law_96 : decode cL_law 96 = .ok (.aload_n 2, 1) := by decide +kernel
theorem dL_law_97 : decode cL_law 97 = .ok (.iconst 2, 1) := by decide +kernel
theorem dL_law_98 : decode cL_law 98 = .ok (.iload 7, 2) := by decide +kernel
theorem dL_law_100 : decode cL_law 100 = .ok (.iload 8, 2) := by decide +kernel
theorem dL_law_102 : decode cL_law 102 = .ok (.iconst 0, 1) := by decide +kernel
theorem dL_law_103 : decode cL_law 103 = .ok (.invokestatic 248, 3) := by decide +kernel
theorem dL_law_106 : decode cL_law 106 = .ok (.iload 6, 2) := by decide +kernel
theorem dL_law_108 : decode cL_law 108 = .ok (.if_icmp .ne 7, 3) := by decide +kernel
theorem dL_law_111 : decode cL_law 111 = .ok (.iconst 1, 1) := by decide +kernel
theorem dL_law_112 : decode cL_law 112 = .ok (.goto 4, 3) := by decide +kernel
theorem dL_law_115 : decode cL_law 115 = .ok (.iconst 0, 1) := by decide +kernel
theorem dL_law_116 : decode cL_law 116 = .ok (.istore 5, 2) := by decide +kernel
theorem dL_law_118 : decode cL_law 118 = .ok (.iinc 6 1, 3) := by decide +kernel
theorem dL_law_121 : decode cL_law 121 = .ok (.goto (-80), 3) := by decide +kernel
theorem dL_law_124 : decode cL_law 124 = .ok (.iconst 0, 1) := by decide +kernel
theorem dL_law_125 : decode cL_law 125 = .ok (.istore 6, 2) := by decide +kernel
theorem dL_law_127 : decode cL_law 127 = .ok (.iload 6, 2) := by decide +kernel
theorem dL_law_129 : decode cL_law 129 = .ok (.iload_n 3, 1) := by decide +kernel
theorem dL_law_130 : decode cL_law 130 = .ok (.if_icmp .ge 160, 3) := by decide +kernel
theorem dL_law_133 : decode cL_law 133 = .ok (.iload 5, 2) := by decide +kernel
theorem dL_law_135 : decode cL_law 135 = .ok (.ifCond .eq 155, 3) := by decide +kernel
theorem dL_law_138 : decode cL_law 138 = .ok (.aload_n 0, 1) := by decide +kernel
theorem dL_law_139 : decode cL_law 139 = .ok (.iconst 2, 1) := by decide +kernel
theorem dL_law_140 : decode cL_law 140 = .ok (.iload 6, 2) := by decide +kernel
theorem dL_law_142 : decode cL_law 142 = .ok (.iadd, 1) := by decide +kernel
theorem dL_law_143 : decode cL_law 143 = .ok (.invokestatic 273, 3) := by decide +kernel
theorem dL_law_146 : decode cL_law 146 = .ok (.istore 7, 2) := by decide +kernel
theorem dL_law_148 : decode cL_law 148 = .ok (.aload_n 1, 1) := by decide +kernel
theorem dL_law_149 : decode cL_law 149 = .ok (.iload 7, 2) := by decide +kernel
theorem dL_law_151 : decode cL_law 151 = .ok (.invokestatic 277, 3) := by decide +kernel
theorem dL_law_154 : decode cL_law 154 = .ok (.istore 8, 2) := by decide +kernel
theorem dL_law_156 : decode cL_law 156 = .ok (.aload_n 2, 1) := by decide +kernel
theorem dL_law_157 : decode cL_law 157 = .ok (.iload 7, 2) := by decide +kernel
theorem dL_law_159 : decode cL_law 159 = .ok (.ldc 255, 2) := by decide +kernel
theorem dL_law_161 : decode cL_law 161 = .ok (.irem, 1) := by decide +kernel
theorem dL_law_162 : decode cL_law 162 = .ok (.invokestatic 280, 3) := by decide +kernel
theorem dL_law_165 : decode cL_law 165 = .ok (.ifCond .eq 116, 3) := by decide +kernel
theorem dL_law_168 : decode cL_law 168 = .ok (.aload_n 2, 1) := by decide +kernel
theorem dL_law_169 : decode cL_law 169 = .ok (.iload 7, 2) := by decide +kernel
theorem dL_law_171 : decode cL_law 171 = .ok (.invokestatic 277, 3) := by decide +kernel
theorem dL_law_174 : decode cL_law 174 = .ok (.iload 8, 2) := by decide +kernel
theorem dL_law_176 : decode cL_law 176 = .ok (.if_icmp .ne 105, 3) := by decide +kernel
theorem dL_law_179 : decode cL_law 179 = .ok (.aload_n 2, 1) := by decide +kernel
theorem dL_law_180 : decode cL_law 180 = .ok (.iload 7, 2) := by decide +kernel
theorem dL_law_182 : decode cL_law 182 = .ok (.sipush 1000, 3) := by decide +kernel
theorem dL_law_185 : decode cL_law 185 = .ok (.irem, 1) := by decide +kernel
theorem dL_law_186 : decode cL_law 186 = .ok (.invokestatic 280, 3) := by decide +kernel
theorem dL_law_189 : decode cL_law 189 = .ok (.ifCond .eq 92, 3) := by decide +kernel
theorem dL_law_192 : decode cL_law 192 = .ok (.aload_n 1, 1) := by decide +kernel
theorem dL_law_193 : decode cL_law 193 = .ok (.aload_n 2, 1) := by decide +kernel
theorem dL_law_194 : decode cL_law 194 = .ok (.iload 7, 2) := by decide +kernel
theorem dL_law_196 : decode cL_law 196 = .ok (.sipush 5000, 3) := by decide +kernel
theorem dL_law_199 : decode cL_law 199 = .ok (.irem, 1) := by decide +kernel
theorem dL_law_200 : decode cL_law 200 = .ok (.iload 6, 2) := by decide +kernel
theorem dL_law_202 : decode cL_law 202 = .ok (.iload_n 3, 1) := by decide +kernel
theorem dL_law_203 : decode cL_law 203 = .ok (.iconst 1, 1) := by decide +kernel
theorem dL_law_204 : decode cL_law 204 = .ok (.isub, 1) := by decide +kernel
theorem dL_law_205 : decode cL_law 205 = .ok (.if_icmp .ne 7, 3) := by decide +kernel
theorem dL_law_208 : decode cL_law 208 = .ok (.iconst 1, 1) := by decide +kernel
theorem dL_law_209 : decode cL_law 209 = .ok (.goto 4, 3) := by decide +kernel
theorem dL_law_212 : decode cL_law 212 = .ok (.iconst 0, 1) := by decide +kernel
theorem dL_law_213 : decode cL_law 213 = .ok (.invokestatic 284, 3) := by decide +kernel
theorem dL_law_216 : decode cL_law 216 = .ok (.ifCond .eq 65, 3) := by decide +kernel
theorem dL_law_219 : decode cL_law 219 = .ok (.iload 6, 2) := by decide +kernel
theorem dL_law_221 : decode cL_law 221 = .ok (.iconst 2, 1) := by decide +kernel
theorem dL_law_222 : decode cL_law 222 = .ok (.irem, 1) := by decide +kernel
theorem dL_law_223 : decode cL_law 223 = .ok (.ifCond .ne 17, 3) := by decide +kernel
theorem dL_law_226 : decode cL_law 226 = .ok (.aload_n 1, 1) := by decide +kernel
theorem dL_law_227 : decode cL_law 227 = .ok (.iload 7, 2) := by decide +kernel
theorem dL_law_229 : decode cL_law 229 = .ok (.iconst 3, 1) := by decide +kernel
theorem dL_law_230 : decode cL_law 230 = .ok (.idiv, 1) := by decide +kernel
theorem dL_law_231 : decode cL_law 231 = .ok (.invokestatic 288, 3) := by decide +kernel
theorem dL_law_234 : decode cL_law 234 = .ok (.ifCond .eq 47, 3) := by decide +kernel
theorem dL_law_237 : decode cL_law 237 = .ok (.goto 14, 3) := by decide +kernel
theorem dL_law_240 : decode cL_law 240 = .ok (.aload_n 2, 1) := by decide +kernel
theorem dL_law_241 : decode cL_law 241 = .ok (.iload 7, 2) := by decide +kernel
theorem dL_law_243 : decode cL_law 243 = .ok (.iconst 3, 1) := by decide +kernel
theorem dL_law_244 : decode cL_law 244 = .ok (.idiv, 1) := by decide +kernel
theorem dL_law_245 : decode cL_law 245 = .ok (.invokestatic 288, 3) := by decide +kernel
theorem dL_law_248 : decode cL_law 248 = .ok (.ifCond .eq 33, 3) := by decide +kernel
theorem dL_law_251 : decode cL_law 251 = .ok (.aload_n 1, 1) := by decide +kernel
theorem dL_law_252 : decode cL_law 252 = .ok (.aload_n 2, 1) := by decide +kernel
theorem dL_law_253 : decode cL_law 253 = .ok (.iload 7, 2) := by decide +kernel
theorem dL_law_255 : decode cL_law 255 = .ok (.bipush 7, 2) := by decide +kernel
theorem dL_law_257 : decode cL_law 257 = .ok (.idiv, 1) := by decide +kernel
theorem dL_law_258 : decode cL_law 258 = .ok (.invokestatic 291, 3) := by decide +kernel
theorem dL_law_261 : decode cL_law 261 = .ok (.ifCond .eq 20, 3) := by decide +kernel
theorem dL_law_264 : decode cL_law 264 = .ok (.aload_n 1, 1) := by decide +kernel
theorem dL_law_265 : decode cL_law 265 = .ok (.aload_n 2, 1) := by decide +kernel
theorem dL_law_266 : decode cL_law 266 = .ok (.iload 7, 2) := by decide +kernel
theorem dL_law_268 : decode cL_law 268 = .ok (.bipush 11, 2) := by decide +kernel
theorem dL_law_270 : decode cL_law 270 = .ok (.idiv, 1) := by decide +kernel
theorem dL_law_271 : decode cL_law 271 = .ok (.invokestatic 295, 3) := by decide +kernel
theorem dL_law_274 : decode cL_law 274 = .ok (.ifCond .eq 7, 3) := by decide +kernel
theorem dL_law_277 : decode cL_law 277 = .ok (.iconst 1, 1) := by decide +kernel
theorem dL_law_278 : decode cL_law 278 = .ok (.goto 4, 3) := by decide +kernel
theorem dL_law_281 : decode cL_law 281 = .ok (.iconst 0, 1) := by decide +kernel
theorem dL_law_282 : decode cL_law 282 = .ok (.istore 5, 2) := by decide +kernel
theorem dL_law_284 : decode cL_law 284 = .ok (.iinc 6 1, 3) := by decide +kernel
theorem dL_law_287 : decode cL_law 287 = .ok (.goto (-160), 3) := by decide +kernel
theorem dL_law_290 : decode cL_law 290 = .ok (.iload 5, 2) := by decide +kernel
theorem dL_law_292 : decode cL_law 292 = .ok (.ireturn, 1) := by decide +kernel
theorem dL_undoes_0 : decode cL_undoes 0 = .ok (.iconst 1, 1) := by decide +kernel
theorem dL_undoes_1 : decode cL_undoes 1 = .ok (.istore_n 3, 1) := by decide +kernel
theorem dL_undoes_2 : decode cL_undoes 2 = .ok (.iconst 0, 1) := by decide +kernel
theorem dL_undoes_3 : decode cL_undoes 3 = .ok (.istore 4, 2) := by decide +kernel
theorem dL_undoes_5 : decode cL_undoes 5 = .ok (.iload 4, 2) := by decide +kernel
theorem dL_undoes_7 : decode cL_undoes 7 = .ok (.iload_n 2, 1) := by decide +kernel
theorem dL_undoes_8 : decode cL_undoes 8 = .ok (.if_icmp .ge 49, 3) := by decide +kernel
theorem dL_undoes_11 : decode cL_undoes 11 = .ok (.iload_n 3, 1) := by decide +kernel
theorem dL_undoes_12 : decode cL_undoes 12 = .ok (.ifCond .eq 45, 3) := by decide +kernel
theorem dL_undoes_15 : decode cL_undoes 15 = .ok (.aload_n 0, 1) := by decide +kernel
theorem dL_undoes_16 : decode cL_undoes 16 = .ok (.bipush 16, 2) := by decide +kernel
theorem dL_undoes_18 : decode cL_undoes 18 = .ok (.iconst 0, 1) := by decide +kernel
theorem dL_undoes_19 : decode cL_undoes 19 = .ok (.iconst 0, 1) := by decide +kernel
theorem dL_undoes_20 : decode cL_undoes 20 = .ok (.iconst 0, 1) := by decide +kernel
theorem dL_undoes_21 : decode cL_undoes 21 = .ok (.invokestatic 248, 3) := by decide +kernel
theorem dL_undoes_24 : decode cL_undoes 24 = .ok (.invokestatic 298, 3) := by decide +kernel
theorem dL_undoes_27 : decode cL_undoes 27 = .ok (.ifCond .ne 22, 3) := by decide +kernel
theorem dL_undoes_30 : decode cL_undoes 30 = .ok (.aload_n 1, 1) := by decide +kernel
theorem dL_undoes_31 : decode cL_undoes 31 = .ok (.bipush 16, 2) := by decide +kernel
theorem dL_undoes_33 : decode cL_undoes 33 = .ok (.iconst 0, 1) := by decide +kernel
theorem dL_undoes_34 : decode cL_undoes 34 = .ok (.iconst 0, 1) := by decide +kernel
theorem dL_undoes_35 : decode cL_undoes 35 = .ok (.iconst 0, 1) := by decide +kernel
theorem dL_undoes_36 : decode cL_undoes 36 = .ok (.invokestatic 248, 3) := by decide +kernel
theorem dL_undoes_39 : decode cL_undoes 39 = .ok (.invokestatic 298, 3) := by decide +kernel
theorem dL_undoes_42 : decode cL_undoes 42 = .ok (.ifCond .ne 7, 3) := by decide +kernel
theorem dL_undoes_45 : decode cL_undoes 45 = .ok (.iconst 1, 1) := by decide +kernel
theorem dL_undoes_46 : decode cL_undoes 46 = .ok (.goto 4, 3) := by decide +kernel
theorem dL_undoes_49 : decode cL_undoes 49 = .ok (.iconst 0, 1) := by decide +kernel
theorem dL_undoes_50 : decode cL_undoes 50 = .ok (.istore_n 3, 1) := by decide +kernel
theorem dL_undoes_51 : decode cL_undoes 51 = .ok (.iinc 4 1, 3) := by decide +kernel
theorem dL_undoes_54 : decode cL_undoes 54 = .ok (.goto (-49), 3) := by decide +kernel
theorem dL_undoes_57 : decode cL_undoes 57 = .ok (.iload_n 3, 1) := by decide +kernel
theorem dL_undoes_58 : decode cL_undoes 58 = .ok (.ireturn, 1) := by decide +kernel
theorem dL_rules_0 : decode cL_rules 0 = .ok (.aload_n 0, 1) := by decide +kernel
theorem dL_rules_1 : decode cL_rules 1 = .ok (.invokevirtual 242, 3) := by decide +kernel
theorem dL_rules_4 : decode cL_rules 4 = .ok (.istore_n 3, 1) := by decide +kernel
theorem dL_rules_5 : decode cL_rules 5 = .ok (.iload_n 3, 1) := by decide +kernel
theorem dL_rules_6 : decode cL_rules 6 = .ok (.bipush 8, 2) := by decide +kernel
theorem dL_rules_8 : decode cL_rules 8 = .ok (.if_icmp .le 5, 3) := by decide +kernel
theorem dL_rules_11 : decode cL_rules 11 = .ok (.iconst 1, 1) := by decide +kernel
theorem dL_rules_12 : decode cL_rules 12 = .ok (.ireturn, 1) := by decide +kernel
theorem dL_rules_13 : decode cL_rules 13 = .ok (.iload_n 2, 1) := by decide +kernel
theorem dL_rules_14 : decode cL_rules 14 = .ok (.iload_n 3, 1) := by decide +kernel
theorem dL_rules_15 : decode cL_rules 15 = .ok (.irem, 1) := by decide +kernel
theorem dL_rules_16 : decode cL_rules 16 = .ok (.istore 4, 2) := by decide +kernel
theorem dL_rules_18 : decode cL_rules 18 = .ok (.iload_n 2, 1) := by decide +kernel
theorem dL_rules_19 : decode cL_rules 19 = .ok (.bipush 12, 2) := by decide +kernel
theorem dL_rules_21 : decode cL_rules 21 = .ok (.idiv, 1) := by decide +kernel
theorem dL_rules_22 : decode cL_rules 22 = .ok (.iload_n 3, 1) := by decide +kernel
theorem dL_rules_23 : decode cL_rules 23 = .ok (.irem, 1) := by decide +kernel
theorem dL_rules_24 : decode cL_rules 24 = .ok (.istore 5, 2) := by decide +kernel
theorem dL_rules_26 : decode cL_rules 26 = .ok (.aload_n 0, 1) := by decide +kernel
theorem dL_rules_27 : decode cL_rules 27 = .ok (.bipush 20, 2) := by decide +kernel
theorem dL_rules_29 : decode cL_rules 29 = .ok (.iload 4, 2) := by decide +kernel
theorem dL_rules_31 : decode cL_rules 31 = .ok (.sipush 999, 3) := by decide +kernel
theorem dL_rules_34 : decode cL_rules 34 = .ok (.iconst 0, 1) := by decide +kernel
theorem dL_rules_35 : decode cL_rules 35 = .ok (.invokestatic 248, 3) := by decide +kernel
theorem dL_rules_38 : decode cL_rules 38 = .ok (.istore 6, 2) := by decide +kernel
theorem dL_rules_40 : decode cL_rules 40 = .ok (.aload_n 0, 1) := by decide +kernel
theorem dL_rules_41 : decode cL_rules 41 = .ok (.bipush 20, 2) := by decide +kernel
theorem dL_rules_43 : decode cL_rules 43 = .ok (.iload 5, 2) := by decide +kernel
theorem dL_rules_45 : decode cL_rules 45 = .ok (.sipush 999, 3) := by decide +kernel
theorem dL_rules_48 : decode cL_rules 48 = .ok (.iconst 0, 1) := by decide +kernel
theorem dL_rules_49 : decode cL_rules 49 = .ok (.invokestatic 248, 3) := by decide +kernel
theorem dL_rules_52 : decode cL_rules 52 = .ok (.istore 7, 2) := by decide +kernel
theorem dL_rules_54 : decode cL_rules 54 = .ok (.aload_n 0, 1) := by decide +kernel
theorem dL_rules_55 : decode cL_rules 55 = .ok (.bipush 30, 2) := by decide +kernel
theorem dL_rules_57 : decode cL_rules 57 = .ok (.iload 4, 2) := by decide +kernel
theorem dL_rules_59 : decode cL_rules 59 = .ok (.iload 5, 2) := by decide +kernel
theorem dL_rules_61 : decode cL_rules 61 = .ok (.iconst 0, 1) := by decide +kernel
theorem dL_rules_62 : decode cL_rules 62 = .ok (.invokestatic 248, 3) := by decide +kernel
theorem dL_rules_65 : decode cL_rules 65 = .ok (.istore 8, 2) := by decide +kernel
theorem dL_rules_67 : decode cL_rules 67 = .ok (.aload_n 0, 1) := by decide +kernel
theorem dL_rules_68 : decode cL_rules 68 = .ok (.iconst 4, 1) := by decide +kernel
theorem dL_rules_69 : decode cL_rules 69 = .ok (.iload 4, 2) := by decide +kernel
theorem dL_rules_71 : decode cL_rules 71 = .ok (.iload 5, 2) := by decide +kernel
theorem dL_rules_73 : decode cL_rules 73 = .ok (.iconst 0, 1) := by decide +kernel
theorem dL_rules_74 : decode cL_rules 74 = .ok (.invokestatic 248, 3) := by decide +kernel
theorem dL_rules_77 : decode cL_rules 77 = .ok (.iload_n 3, 1) := by decide +kernel
theorem dL_rules_78 : decode cL_rules 78 = .ok (.if_icmp .ne 119, 3) := by decide +kernel
theorem dL_rules_81 : decode cL_rules 81 = .ok (.aload_n 1, 1) := by decide +kernel
theorem dL_rules_82 : decode cL_rules 82 = .ok (.iconst 4, 1) := by decide +kernel
theorem dL_rules_83 : decode cL_rules 83 = .ok (.iload 4, 2) := by decide +kernel
theorem dL_rules_85 : decode cL_rules 85 = .ok (.iload 5, 2) := by decide +kernel
theorem dL_rules_87 : decode cL_rules 87 = .ok (.iconst 0, 1) := by decide +kernel
theorem dL_rules_88 : decode cL_rules 88 = .ok (.invokestatic 248, 3) := by decide +kernel
theorem dL_rules_91 : decode cL_rules 91 = .ok (.iload_n 3, 1) := by decide +kernel
theorem dL_rules_92 : decode cL_rules 92 = .ok (.if_icmp .ne 105, 3) := by decide +kernel
theorem dL_rules_95 : decode cL_rules 95 = .ok (.aload_n 0, 1) := by decide +kernel
theorem dL_rules_96 : decode cL_rules 96 = .ok (.iconst 5, 1) := by decide +kernel
theorem dL_rules_97 : decode cL_rules 97 = .ok (.iload 4, 2) := by decide +kernel
theorem dL_rules_99 : decode cL_rules 99 = .ok (.iload 5, 2) := by decide +kernel
theorem dL_rules_101 : decode cL_rules 101 = .ok (.iconst 0, 1) := by decide +kernel
theorem dL_rules_102 : decode cL_rules 102 = .ok (.invokestatic 248, 3) := by decide +kernel
theorem dL_rules_105 : decode cL_rules 105 = .ok (.iload_n 3, 1) := by decide +kernel
theorem dL_rules_106 : decode cL_rules 106 = .ok (.iconst 1, 1) := by decide +kernel
theorem dL_rules_107 : decode cL_rules 107 = .ok (.iadd, 1) := by decide +kernel
theorem dL_rules_108 : decode cL_rules 108 = .ok (.if_icmp .ne 89, 3) := by decide +kernel
theorem dL_rules_111 : decode cL_rules 111 = .ok (.aload_n 1, 1) := by decide +kernel
theorem dL_rules_112 : decode cL_rules 112 = .ok (.iconst 5, 1) := by decide +kernel
theorem dL_rules_113 : decode cL_rules 113 = .ok (.iload 4, 2) := by decide +kernel
theorem dL_rules_115 : decode cL_rules 115 = .ok (.iload 5, 2) := by decide +kernel
theorem dL_rules_117 : decode cL_rules 117 = .ok (.iconst 0, 1) := by decide +kernel
theorem dL_rules_118 : decode cL_rules 118 = .ok (.invokestatic 248, 3) := by decide +kernel
theorem dL_rules_121 : decode cL_rules 121 = .ok (.iload_n 3, 1) := by decide +kernel
theorem dL_rules_122 : decode cL_rules 122 = .ok (.iconst 1, 1) := by decide +kernel
theorem dL_rules_123 : decode cL_rules 123 = .ok (.iadd, 1) := by decide +kernel
theorem dL_rules_124 : decode cL_rules 124 = .ok (.if_icmp .ne 73, 3) := by decide +kernel
theorem dL_rules_127 : decode cL_rules 127 = .ok (.aload_n 0, 1) := by decide +kernel
theorem dL_rules_128 : decode cL_rules 128 = .ok (.bipush 6, 2) := by decide +kernel
theorem dL_rules_130 : decode cL_rules 130 = .ok (.iload 4, 2) := by decide +kernel
theorem dL_rules_132 : decode cL_rules 132 = .ok (.iload 5, 2) := by decide +kernel
theorem dL_rules_134 : decode cL_rules 134 = .ok (.iconst 0, 1) := by decide +kernel
theorem dL_rules_135 : decode cL_rules 135 = .ok (.invokestatic 248, 3) := by decide +kernel
theorem dL_rules_138 : decode cL_rules 138 = .ok (.iload_n 3, 1) := by decide +kernel
theorem dL_rules_139 : decode cL_rules 139 = .ok (.iconst 2, 1) := by decide +kernel
theorem dL_rules_140 : decode cL_rules 140 = .ok (.iadd, 1) := by decide +kernel
theorem dL_rules_141 : decode cL_rules 141 = .ok (.if_icmp .ne 56, 3) := by decide +kernel
theorem dL_rules_144 : decode cL_rules 144 = .ok (.aload_n 1, 1) := by decide +kernel
theorem dL_rules_145 : decode cL_rules 145 = .ok (.bipush 6, 2) := by decide +kernel
theorem dL_rules_147 : decode cL_rules 147 = .ok (.iload 4, 2) := by decide +kernel
theorem dL_rules_149 : decode cL_rules 149 = .ok (.iload 5, 2) := by decide +kernel
theorem dL_rules_151 : decode cL_rules 151 = .ok (.iconst 0, 1) := by decide +kernel
theorem dL_rules_152 : decode cL_rules 152 = .ok (.invokestatic 248, 3) := by decide +kernel
theorem dL_rules_155 : decode cL_rules 155 = .ok (.iload_n 3, 1) := by decide +kernel
theorem dL_rules_156 : decode cL_rules 156 = .ok (.iconst 2, 1) := by decide +kernel
theorem dL_rules_157 : decode cL_rules 157 = .ok (.iadd, 1) := by decide +kernel
theorem dL_rules_158 : decode cL_rules 158 = .ok (.if_icmp .ne 39, 3) := by decide +kernel
theorem dL_rules_161 : decode cL_rules 161 = .ok (.aload_n 0, 1) := by decide +kernel
theorem dL_rules_162 : decode cL_rules 162 = .ok (.bipush 7, 2) := by decide +kernel
theorem dL_rules_164 : decode cL_rules 164 = .ok (.iload 4, 2) := by decide +kernel
theorem dL_rules_166 : decode cL_rules 166 = .ok (.iconst 0, 1) := by decide +kernel
theorem dL_rules_167 : decode cL_rules 167 = .ok (.iconst 0, 1) := by decide +kernel
theorem dL_rules_168 : decode cL_rules 168 = .ok (.invokestatic 248, 3) := by decide +kernel
theorem dL_rules_171 : decode cL_rules 171 = .ok (.iload_n 3, 1) := by decide +kernel
theorem dL_rules_172 : decode cL_rules 172 = .ok (.iconst 3, 1) := by decide +kernel
theorem dL_rules_173 : decode cL_rules 173 = .ok (.iadd, 1) := by decide +kernel
theorem dL_rules_174 : decode cL_rules 174 = .ok (.if_icmp .ne 23, 3) := by decide +kernel
theorem dL_rules_177 : decode cL_rules 177 = .ok (.aload_n 1, 1) := by decide +kernel
theorem dL_rules_178 : decode cL_rules 178 = .ok (.bipush 7, 2) := by decide +kernel
theorem dL_rules_180 : decode cL_rules 180 = .ok (.iload 4, 2) := by decide +kernel
theorem dL_rules_182 : decode cL_rules 182 = .ok (.iconst 0, 1) := by decide +kernel
theorem dL_rules_183 : decode cL_rules 183 = .ok (.iconst 0, 1) := by decide +kernel
theorem dL_rules_184 : decode cL_rules 184 = .ok (.invokestatic 248, 3) := by decide +kernel
theorem dL_rules_187 : decode cL_rules 187 = .ok (.iload_n 3, 1) := by decide +kernel
theorem dL_rules_188 : decode cL_rules 188 = .ok (.iconst 3, 1) := by decide +kernel
theorem dL_rules_189 : decode cL_rules 189 = .ok (.iadd, 1) := by decide +kernel
theorem dL_rules_190 : decode cL_rules 190 = .ok (.if_icmp .ne 7, 3) := by decide +kernel
theorem dL_rules_193 : decode cL_rules 193 = .ok (.iconst 1, 1) := by decide +kernel
theorem dL_rules_194 : decode cL_rules 194 = .ok (.goto 4, 3) := by decide +kernel
theorem dL_rules_197 : decode cL_rules 197 = .ok (.iconst 0, 1) := by decide +kernel
theorem dL_rules_198 : decode cL_rules 198 = .ok (.istore 9, 2) := by decide +kernel
theorem dL_rules_200 : decode cL_rules 200 = .ok (.iload 9, 2) := by decide +kernel
theorem dL_rules_202 : decode cL_rules 202 = .ok (.ifCond .eq 109, 3) := by decide +kernel
theorem dL_rules_205 : decode cL_rules 205 = .ok (.aload_n 0, 1) := by decide +kernel
theorem dL_rules_206 : decode cL_rules 206 = .ok (.bipush 20, 2) := by decide +kernel
theorem dL_rules_208 : decode cL_rules 208 = .ok (.iload_n 3, 1) := by decide +kernel
theorem dL_rules_209 : decode cL_rules 209 = .ok (.sipush 999, 3) := by decide +kernel
theorem dL_rules_212 : decode cL_rules 212 = .ok (.iconst 0, 1) := by decide +kernel
theorem dL_rules_213 : decode cL_rules 213 = .ok (.invokestatic 248, 3) := by decide +kernel
theorem dL_rules_216 : decode cL_rules 216 = .ok (.iload 8, 2) := by decide +kernel
theorem dL_rules_218 : decode cL_rules 218 = .ok (.if_icmp .ne 93, 3) := by decide +kernel
theorem dL_rules_221 : decode cL_rules 221 = .ok (.aload_n 0, 1) := by decide +kernel
theorem dL_rules_222 : decode cL_rules 222 = .ok (.bipush 20, 2) := by decide +kernel
theorem dL_rules_224 : decode cL_rules 224 = .ok (.iload_n 3, 1) := by decide +kernel
theorem dL_rules_225 : decode cL_rules 225 = .ok (.iconst 1, 1) := by decide +kernel
theorem dL_rules_226 : decode cL_rules 226 = .ok (.iadd, 1) := by decide +kernel
theorem dL_rules_227 : decode cL_rules 227 = .ok (.sipush 999, 3) := by decide +kernel
theorem dL_rules_230 : decode cL_rules 230 = .ok (.iconst 0, 1) := by decide +kernel
theorem dL_rules_231 : decode cL_rules 231 = .ok (.invokestatic 248, 3) := by decide +kernel
theorem dL_rules_234 : decode cL_rules 234 = .ok (.iload 6, 2) := by decide +kernel
theorem dL_rules_236 : decode cL_rules 236 = .ok (.iload 7, 2) := by decide +kernel
theorem dL_rules_238 : decode cL_rules 238 = .ok (.iadd, 1) := by decide +kernel
theorem dL_rules_239 : decode cL_rules 239 = .ok (.iload 8, 2) := by decide +kernel
theorem dL_rules_241 : decode cL_rules 241 = .ok (.isub, 1) := by decide +kernel
theorem dL_rules_242 : decode cL_rules 242 = .ok (.if_icmp .ne 69, 3) := by decide +kernel
theorem dL_rules_245 : decode cL_rules 245 = .ok (.aload_n 0, 1) := by decide +kernel
theorem dL_rules_246 : decode cL_rules 246 = .ok (.bipush 20, 2) := by decide +kernel
theorem dL_rules_248 : decode cL_rules 248 = .ok (.iload_n 3, 1) := by decide +kernel
theorem dL_rules_249 : decode cL_rules 249 = .ok (.iconst 2, 1) := by decide +kernel
theorem dL_rules_250 : decode cL_rules 250 = .ok (.iadd, 1) := by decide +kernel
theorem dL_rules_251 : decode cL_rules 251 = .ok (.sipush 999, 3) := by decide +kernel
theorem dL_rules_254 : decode cL_rules 254 = .ok (.iconst 0, 1) := by decide +kernel
theorem dL_rules_255 : decode cL_rules 255 = .ok (.invokestatic 248, 3) := by decide +kernel
theorem dL_rules_258 : decode cL_rules 258 = .ok (.iload 8, 2) := by decide +kernel
theorem dL_rules_260 : decode cL_rules 260 = .ok (.iload 7, 2) := by decide +kernel
theorem dL_rules_262 : decode cL_rules 262 = .ok (.isub, 1) := by decide +kernel
theorem dL_rules_263 : decode cL_rules 263 = .ok (.if_icmp .ne 48, 3) := by decide +kernel
theorem dL_rules_266 : decode cL_rules 266 = .ok (.aload_n 0, 1) := by decide +kernel
theorem dL_rules_267 : decode cL_rules 267 = .ok (.bipush 17, 2) := by decide +kernel
theorem dL_rules_269 : decode cL_rules 269 = .ok (.iload_n 3, 1) := by decide +kernel
theorem dL_rules_270 : decode cL_rules 270 = .ok (.iconst 1, 1) := by decide +kernel
theorem dL_rules_271 : decode cL_rules 271 = .ok (.iadd, 1) := by decide +kernel
theorem dL_rules_272 : decode cL_rules 272 = .ok (.iconst 0, 1) := by decide +kernel
theorem dL_rules_273 : decode cL_rules 273 = .ok (.iconst 0, 1) := by decide +kernel
theorem dL_rules_274 : decode cL_rules 274 = .ok (.invokestatic 248, 3) := by decide +kernel
theorem dL_rules_277 : decode cL_rules 277 = .ok (.aload_n 0, 1) := by decide +kernel
theorem dL_rules_278 : decode cL_rules 278 = .ok (.bipush 22, 2) := by decide +kernel
theorem dL_rules_280 : decode cL_rules 280 = .ok (.iload 4, 2) := by decide +kernel
theorem dL_rules_282 : decode cL_rules 282 = .ok (.iload 5, 2) := by decide +kernel
theorem dL_rules_284 : decode cL_rules 284 = .ok (.iconst 0, 1) := by decide +kernel
theorem dL_rules_285 : decode cL_rules 285 = .ok (.invokestatic 248, 3) := by decide +kernel
theorem dL_rules_288 : decode cL_rules 288 = .ok (.if_icmp .ne 23, 3) := by decide +kernel
theorem dL_rules_291 : decode cL_rules 291 = .ok (.aload_n 0, 1) := by decide +kernel
theorem dL_rules_292 : decode cL_rules 292 = .ok (.bipush 22, 2) := by decide +kernel
theorem dL_rules_294 : decode cL_rules 294 = .ok (.iload 5, 2) := by decide +kernel
theorem dL_rules_296 : decode cL_rules 296 = .ok (.iload_n 3, 1) := by decide +kernel
theorem dL_rules_297 : decode cL_rules 297 = .ok (.iconst 2, 1) := by decide +kernel
theorem dL_rules_298 : decode cL_rules 298 = .ok (.iadd, 1) := by decide +kernel
theorem dL_rules_299 : decode cL_rules 299 = .ok (.iconst 0, 1) := by decide +kernel
theorem dL_rules_300 : decode cL_rules 300 = .ok (.invokestatic 248, 3) := by decide +kernel
theorem dL_rules_303 : decode cL_rules 303 = .ok (.iconst (-1), 1) := by decide +kernel
theorem dL_rules_304 : decode cL_rules 304 = .ok (.if_icmp .ne 7, 3) := by decide +kernel
theorem dL_rules_307 : decode cL_rules 307 = .ok (.iconst 1, 1) := by decide +kernel
theorem dL_rules_308 : decode cL_rules 308 = .ok (.goto 4, 3) := by decide +kernel
theorem dL_rules_311 : decode cL_rules 311 = .ok (.iconst 0, 1) := by decide +kernel
theorem dL_rules_312 : decode cL_rules 312 = .ok (.istore 9, 2) := by decide +kernel
theorem dL_rules_314 : decode cL_rules 314 = .ok (.iconst 0, 1) := by decide +kernel
theorem dL_rules_315 : decode cL_rules 315 = .ok (.istore 10, 2) := by decide +kernel
theorem dL_rules_317 : decode cL_rules 317 = .ok (.iload 10, 2) := by decide +kernel
theorem dL_rules_319 : decode cL_rules 319 = .ok (.bipush 12, 2) := by decide +kernel
theorem dL_rules_321 : decode cL_rules 321 = .ok (.if_icmp .ge 226, 3) := by decide +kernel
theorem dL_rules_324 : decode cL_rules 324 = .ok (.iload 9, 2) := by decide +kernel
theorem dL_rules_326 : decode cL_rules 326 = .ok (.ifCond .eq 221, 3) := by decide +kernel
theorem dL_rules_329 : decode cL_rules 329 = .ok (.iload_n 2, 1) := by decide +kernel
theorem dL_rules_330 : decode cL_rules 330 = .ok (.iload 10, 2) := by decide +kernel
theorem dL_rules_332 : decode cL_rules 332 = .ok (.iconst 1, 1) := by decide +kernel
theorem dL_rules_333 : decode cL_rules 333 = .ok (.iadd, 1) := by decide +kernel
theorem dL_rules_334 : decode cL_rules 334 = .ok (.idiv, 1) := by decide +kernel
theorem dL_rules_335 : decode cL_rules 335 = .ok (.bipush 83, 2) := by decide +kernel
theorem dL_rules_337 : decode cL_rules 337 = .ok (.iload 10, 2) := by decide +kernel
theorem dL_rules_339 : decode cL_rules 339 = .ok (.imul, 1) := by decide +kernel
theorem dL_rules_340 : decode cL_rules 340 = .ok (.iadd, 1) := by decide +kernel
theorem dL_rules_341 : decode cL_rules 341 = .ok (.sipush 1000, 3) := by decide +kernel
theorem dL_rules_344 : decode cL_rules 344 = .ok (.irem, 1) := by decide +kernel
theorem dL_rules_345 : decode cL_rules 345 = .ok (.istore 11, 2) := by decide +kernel
theorem dL_rules_347 : decode cL_rules 347 = .ok (.aload_n 0, 1) := by decide +kernel
theorem dL_rules_348 : decode cL_rules 348 = .ok (.iload 4, 2) := by decide +kernel
theorem dL_rules_350 : decode cL_rules 350 = .ok (.iload 11, 2) := by decide +kernel
theorem dL_rules_352 : decode cL_rules 352 = .ok (.invokestatic 252, 3) := by decide +kernel
theorem dL_rules_355 : decode cL_rules 355 = .ok (.istore 12, 2) := by decide +kernel
theorem dL_rules_357 : decode cL_rules 357 = .ok (.aload_n 0, 1) := by decide +kernel
theorem dL_rules_358 : decode cL_rules 358 = .ok (.iload 5, 2) := by decide +kernel
theorem dL_rules_360 : decode cL_rules 360 = .ok (.iload 11, 2) := by decide +kernel
theorem dL_rules_362 : decode cL_rules 362 = .ok (.invokestatic 252, 3) := by decide +kernel
theorem dL_rules_365 : decode cL_rules 365 = .ok (.istore 13, 2) := by decide +kernel
theorem dL_rules_367 : decode cL_rules 367 = .ok (.aload_n 0, 1) := by decide +kernel
theorem dL_rules_368 : decode cL_rules 368 = .ok (.iload_n 3, 1) := by decide +kernel
theorem dL_rules_369 : decode cL_rules 369 = .ok (.iconst 3, 1) := by decide +kernel
theorem dL_rules_370 : decode cL_rules 370 = .ok (.iadd, 1) := by decide +kernel
theorem dL_rules_371 : decode cL_rules 371 = .ok (.iload 11, 2) := by decide +kernel
theorem dL_rules_373 : decode cL_rules 373 = .ok (.invokestatic 252, 3) := by decide +kernel
theorem dL_rules_376 : decode cL_rules 376 = .ok (.istore 14, 2) := by decide +kernel
theorem dL_rules_378 : decode cL_rules 378 = .ok (.aload_n 0, 1) := by decide +kernel
theorem dL_rules_379 : decode cL_rules 379 = .ok (.iload_n 3, 1) := by decide +kernel
theorem dL_rules_380 : decode cL_rules 380 = .ok (.iload 11, 2) := by decide +kernel
theorem dL_rules_382 : decode cL_rules 382 = .ok (.invokestatic 252, 3) := by decide +kernel
theorem dL_rules_385 : decode cL_rules 385 = .ok (.iload 12, 2) := by decide +kernel
theorem dL_rules_387 : decode cL_rules 387 = .ok (.iload 13, 2) := by decide +kernel
theorem dL_rules_389 : decode cL_rules 389 = .ok (.if_icmp .le 8, 3) := by decide +kernel
theorem dL_rules_392 : decode cL_rules 392 = .ok (.iload 12, 2) := by decide +kernel
theorem dL_rules_394 : decode cL_rules 394 = .ok (.goto 5, 3) := by decide +kernel
theorem dL_rules_397 : decode cL_rules 397 = .ok (.iload 13, 2) := by decide +kernel
theorem dL_rules_399 : decode cL_rules 399 = .ok (.if_icmp .ne 50, 3) := by decide +kernel
theorem dL_rules_402 : decode cL_rules 402 = .ok (.aload_n 0, 1) := by decide +kernel
theorem dL_rules_403 : decode cL_rules 403 = .ok (.iload_n 3, 1) := by decide +kernel
theorem dL_rules_404 : decode cL_rules 404 = .ok (.iconst 1, 1) := by decide +kernel
theorem dL_rules_405 : decode cL_rules 405 = .ok (.iadd, 1) := by decide +kernel
theorem dL_rules_406 : decode cL_rules 406 = .ok (.iload 11, 2) := by decide +kernel
theorem dL_rules_408 : decode cL_rules 408 = .ok (.invokestatic 252, 3) := by decide +kernel
theorem dL_rules_411 : decode cL_rules 411 = .ok (.iload 12, 2) := by decide +kernel
theorem dL_rules_413 : decode cL_rules 413 = .ok (.iload 13, 2) := by decide +kernel
theorem dL_rules_415 : decode cL_rules 415 = .ok (.imul, 1) := by decide +kernel
theorem dL_rules_416 : decode cL_rules 416 = .ok (.if_icmp .ne 33, 3) := by decide +kernel
theorem dL_rules_419 : decode cL_rules 419 = .ok (.aload_n 0, 1) := by decide +kernel
theorem dL_rules_420 : decode cL_rules 420 = .ok (.iload_n 3, 1) := by decide +kernel
theorem dL_rules_421 : decode cL_rules 421 = .ok (.iconst 2, 1) := by decide +kernel
theorem dL_rules_422 : decode cL_rules 422 = .ok (.iadd, 1) := by decide +kernel
theorem dL_rules_423 : decode cL_rules 423 = .ok (.iload 11, 2) := by decide +kernel
theorem dL_rules_425 : decode cL_rules 425 = .ok (.invokestatic 252, 3) := by decide +kernel
theorem dL_rules_428 : decode cL_rules 428 = .ok (.iload 12, 2) := by decide +kernel
theorem dL_rules_430 : decode cL_rules 430 = .ok (.iconst 1, 1) := by decide +kernel
theorem dL_rules_431 : decode cL_rules 431 = .ok (.iload 13, 2) := by decide +kernel
theorem dL_rules_433 : decode cL_rules 433 = .ok (.isub, 1) := by decide +kernel
theorem dL_rules_434 : decode cL_rules 434 = .ok (.imul, 1) := by decide +kernel
theorem dL_rules_435 : decode cL_rules 435 = .ok (.if_icmp .ne 14, 3) := by decide +kernel
theorem dL_rules_438 : decode cL_rules 438 = .ok (.iload 14, 2) := by decide +kernel
theorem dL_rules_440 : decode cL_rules 440 = .ok (.iload 12, 2) := by decide +kernel
theorem dL_rules_442 : decode cL_rules 442 = .ok (.if_icmp .gt 7, 3) := by decide +kernel
theorem dL_rules_445 : decode cL_rules 445 = .ok (.iconst 1, 1) := by decide +kernel
theorem dL_rules_446 : decode cL_rules 446 = .ok (.goto 4, 3) := by decide +kernel
theorem dL_rules_449 : decode cL_rules 449 = .ok (.iconst 0, 1) := by decide +kernel
theorem dL_rules_450 : decode cL_rules 450 = .ok (.istore 9, 2) := by decide +kernel
theorem dL_rules_452 : decode cL_rules 452 = .ok (.iconst 0, 1) := by decide +kernel
theorem dL_rules_453 : decode cL_rules 453 = .ok (.istore 15, 2) := by decide +kernel
theorem dL_rules_455 : decode cL_rules 455 = .ok (.iconst 2, 1) := by decide +kernel
theorem dL_rules_456 : decode cL_rules 456 = .ok (.istore 16, 2) := by decide +kernel
theorem dL_rules_458 : decode cL_rules 458 = .ok (.iload 16, 2) := by decide +kernel
theorem dL_rules_460 : decode cL_rules 460 = .ok (.iconst 2, 1) := by decide +kernel
theorem dL_rules_461 : decode cL_rules 461 = .ok (.imul, 1) := by decide +kernel
theorem dL_rules_462 : decode cL_rules 462 = .ok (.iload 11, 2) := by decide +kernel
theorem dL_rules_464 : decode cL_rules 464 = .ok (.if_icmp .gt 53, 3) := by decide +kernel
theorem dL_rules_467 : decode cL_rules 467 = .ok (.iload 15, 2) := by decide +kernel
theorem dL_rules_469 : decode cL_rules 469 = .ok (.ifCond .ne 48, 3) := by decide +kernel
theorem dL_rules_472 : decode cL_rules 472 = .ok (.iload 12, 2) := by decide +kernel
theorem dL_rules_474 : decode cL_rules 474 = .ok (.iconst 1, 1) := by decide +kernel
theorem dL_rules_475 : decode cL_rules 475 = .ok (.if_icmp .ne 42, 3) := by decide +kernel
theorem dL_rules_478 : decode cL_rules 478 = .ok (.iload 9, 2) := by decide +kernel
theorem dL_rules_480 : decode cL_rules 480 = .ok (.ifCond .eq 37, 3) := by decide +kernel
theorem dL_rules_483 : decode cL_rules 483 = .ok (.iload 11, 2) := by decide +kernel
theorem dL_rules_485 : decode cL_rules 485 = .ok (.iload 16, 2) := by decide +kernel
theorem dL_rules_487 : decode cL_rules 487 = .ok (.irem, 1) := by decide +kernel
theorem dL_rules_488 : decode cL_rules 488 = .ok (.ifCond .ne 20, 3) := by decide +kernel
theorem dL_rules_491 : decode cL_rules 491 = .ok (.aload_n 0, 1) := by decide +kernel
theorem dL_rules_492 : decode cL_rules 492 = .ok (.iload_n 3, 1) := by decide +kernel
theorem dL_rules_493 : decode cL_rules 493 = .ok (.iconst 3, 1) := by decide +kernel
theorem dL_rules_494 : decode cL_rules 494 = .ok (.iadd, 1) := by decide +kernel
theorem dL_rules_495 : decode cL_rules 495 = .ok (.iload 16, 2) := by decide +kernel
theorem dL_rules_497 : decode cL_rules 497 = .ok (.invokestatic 252, 3) := by decide +kernel
theorem dL_rules_500 : decode cL_rules 500 = .ok (.iconst 1, 1) := by decide +kernel
theorem dL_rules_501 : decode cL_rules 501 = .ok (.if_icmp .ne 7, 3) := by decide +kernel
theorem dL_rules_504 : decode cL_rules 504 = .ok (.iconst 1, 1) := by decide +kernel
theorem dL_rules_505 : decode cL_rules 505 = .ok (.goto 4, 3) := by decide +kernel
theorem dL_rules_508 : decode cL_rules 508 = .ok (.iconst 0, 1) := by decide +kernel
theorem dL_rules_509 : decode cL_rules 509 = .ok (.istore 15, 2) := by decide +kernel
theorem dL_rules_511 : decode cL_rules 511 = .ok (.iinc 16 1, 3) := by decide +kernel
theorem dL_rules_514 : decode cL_rules 514 = .ok (.goto (-56), 3) := by decide +kernel
theorem dL_rules_517 : decode cL_rules 517 = .ok (.iload 9, 2) := by decide +kernel
theorem dL_rules_519 : decode cL_rules 519 = .ok (.ifCond .eq 19, 3) := by decide +kernel
theorem dL_rules_522 : decode cL_rules 522 = .ok (.iload 14, 2) := by decide +kernel
theorem dL_rules_524 : decode cL_rules 524 = .ok (.iload 12, 2) := by decide +kernel
theorem dL_rules_526 : decode cL_rules 526 = .ok (.iconst 1, 1) := by decide +kernel
theorem dL_rules_527 : decode cL_rules 527 = .ok (.iload 15, 2) := by decide +kernel
theorem dL_rules_529 : decode cL_rules 529 = .ok (.isub, 1) := by decide +kernel
theorem dL_rules_530 : decode cL_rules 530 = .ok (.imul, 1) := by decide +kernel
theorem dL_rules_531 : decode cL_rules 531 = .ok (.if_icmp .ne 7, 3) := by decide +kernel
theorem dL_rules_534 : decode cL_rules 534 = .ok (.iconst 1, 1) := by decide +kernel
theorem dL_rules_535 : decode cL_rules 535 = .ok (.goto 4, 3) := by decide +kernel
theorem dL_rules_538 : decode cL_rules 538 = .ok (.iconst 0, 1) := by decide +kernel
theorem dL_rules_539 : decode cL_rules 539 = .ok (.istore 9, 2) := by decide +kernel
theorem dL_rules_541 : decode cL_rules 541 = .ok (.iinc 10 1, 3) := by decide +kernel
theorem dL_rules_544 : decode cL_rules 544 = .ok (.goto (-227), 3) := by decide +kernel
theorem dL_rules_547 : decode cL_rules 547 = .ok (.iload 9, 2) := by decide +kernel
theorem dL_rules_549 : decode cL_rules 549 = .ok (.ifCond .eq 24, 3) := by decide +kernel
theorem dL_rules_552 : decode cL_rules 552 = .ok (.aload_n 0, 1) := by decide +kernel
theorem dL_rules_553 : decode cL_rules 553 = .ok (.aload_n 1, 1) := by decide +kernel
theorem dL_rules_554 : decode cL_rules 554 = .ok (.iconst 4, 1) := by decide +kernel
theorem dL_rules_555 : decode cL_rules 555 = .ok (.invokestatic 302, 3) := by decide +kernel
theorem dL_rules_558 : decode cL_rules 558 = .ok (.ifCond .eq 15, 3) := by decide +kernel
theorem dL_rules_561 : decode cL_rules 561 = .ok (.aload_n 0, 1) := by decide +kernel
theorem dL_rules_562 : decode cL_rules 562 = .ok (.invokevirtual 242, 3) := by decide +kernel
theorem dL_rules_565 : decode cL_rules 565 = .ok (.iload_n 3, 1) := by decide +kernel
theorem dL_rules_566 : decode cL_rules 566 = .ok (.if_icmp .ne 7, 3) := by decide +kernel
theorem dL_rules_569 : decode cL_rules 569 = .ok (.iconst 1, 1) := by decide +kernel
theorem dL_rules_570 : decode cL_rules 570 = .ok (.goto 4, 3) := by decide +kernel
theorem dL_rules_573 : decode cL_rules 573 = .ok (.iconst 0, 1) := by decide +kernel
theorem dL_rules_574 : decode cL_rules 574 = .ok (.ireturn, 1) := by decide +kernel
theorem dL_reads_0 : decode cL_reads 0 = .ok (.aload_n 0, 1) := by decide +kernel
theorem dL_reads_1 : decode cL_reads 1 = .ok (.invokevirtual 242, 3) := by decide +kernel
theorem dL_reads_4 : decode cL_reads 4 = .ok (.istore_n 3, 1) := by decide +kernel
theorem dL_reads_5 : decode cL_reads 5 = .ok (.aload_n 0, 1) := by decide +kernel
theorem dL_reads_6 : decode cL_reads 6 = .ok (.invokevirtual 245, 3) := by decide +kernel
theorem dL_reads_9 : decode cL_reads 9 = .ok (.istore 4, 2) := by decide +kernel
theorem dL_reads_11 : decode cL_reads 11 = .ok (.iload 4, 2) := by decide +kernel
theorem dL_reads_13 : decode cL_reads 13 = .ok (.iconst 4, 1) := by decide +kernel
theorem dL_reads_14 : decode cL_reads 14 = .ok (.if_icmp .ne 25, 3) := by decide +kernel
theorem dL_reads_17 : decode cL_reads 17 = .ok (.aload_n 0, 1) := by decide +kernel
theorem dL_reads_18 : decode cL_reads 18 = .ok (.bipush 11, 2) := by decide +kernel
theorem dL_reads_20 : decode cL_reads 20 = .ok (.iload_n 2, 1) := by decide +kernel
theorem dL_reads_21 : decode cL_reads 21 = .ok (.iload_n 3, 1) := by decide +kernel
theorem dL_reads_22 : decode cL_reads 22 = .ok (.irem, 1) := by decide +kernel
theorem dL_reads_23 : decode cL_reads 23 = .ok (.iconst 0, 1) := by decide +kernel
theorem dL_reads_24 : decode cL_reads 24 = .ok (.iconst 0, 1) := by decide +kernel
theorem dL_reads_25 : decode cL_reads 25 = .ok (.invokestatic 248, 3) := by decide +kernel
theorem dL_reads_28 : decode cL_reads 28 = .ok (.ldc 29, 2) := by decide +kernel
theorem dL_reads_30 : decode cL_reads 30 = .ok (.if_icmp .ne 7, 3) := by decide +kernel
theorem dL_reads_33 : decode cL_reads 33 = .ok (.iconst 1, 1) := by decide +kernel
theorem dL_reads_34 : decode cL_reads 34 = .ok (.goto 4, 3) := by decide +kernel
theorem dL_reads_37 : decode cL_reads 37 = .ok (.iconst 0, 1) := by decide +kernel
theorem dL_reads_38 : decode cL_reads 38 = .ok (.ireturn, 1) := by decide +kernel
theorem dL_reads_39 : decode cL_reads 39 = .ok (.iload_n 2, 1) := by decide +kernel
theorem dL_reads_40 : decode cL_reads 40 = .ok (.iload_n 3, 1) := by decide +kernel
theorem dL_reads_41 : decode cL_reads 41 = .ok (.irem, 1) := by decide +kernel
theorem dL_reads_42 : decode cL_reads 42 = .ok (.istore 5, 2) := by decide +kernel
theorem dL_reads_44 : decode cL_reads 44 = .ok (.aload_n 0, 1) := by decide +kernel
theorem dL_reads_45 : decode cL_reads 45 = .ok (.invokevirtual 269, 3) := by decide +kernel
theorem dL_reads_48 : decode cL_reads 48 = .ok (.istore 6, 2) := by decide +kernel
theorem dL_reads_50 : decode cL_reads 50 = .ok (.aload_n 0, 1) := by decide +kernel
theorem dL_reads_51 : decode cL_reads 51 = .ok (.bipush 17, 2) := by decide +kernel
theorem dL_reads_53 : decode cL_reads 53 = .ok (.iload 5, 2) := by decide +kernel
theorem dL_reads_55 : decode cL_reads 55 = .ok (.iconst 0, 1) := by decide +kernel
theorem dL_reads_56 : decode cL_reads 56 = .ok (.iconst 0, 1) := by decide +kernel
theorem dL_reads_57 : decode cL_reads 57 = .ok (.invokestatic 248, 3) := by decide +kernel
theorem dL_reads_60 : decode cL_reads 60 = .ok (.istore 7, 2) := by decide +kernel
theorem dL_reads_62 : decode cL_reads 62 = .ok (.aload_n 0, 1) := by decide +kernel
theorem dL_reads_63 : decode cL_reads 63 = .ok (.bipush 11, 2) := by decide +kernel
theorem dL_reads_65 : decode cL_reads 65 = .ok (.iload 5, 2) := by decide +kernel
theorem dL_reads_67 : decode cL_reads 67 = .ok (.iconst 0, 1) := by decide +kernel
theorem dL_reads_68 : decode cL_reads 68 = .ok (.iconst 0, 1) := by decide +kernel
theorem dL_reads_69 : decode cL_reads 69 = .ok (.invokestatic 248, 3) := by decide +kernel
theorem dL_reads_72 : decode cL_reads 72 = .ok (.iload 4, 2) := by decide +kernel
theorem dL_reads_74 : decode cL_reads 74 = .ok (.if_icmp .ne 37, 3) := by decide +kernel
theorem dL_reads_77 : decode cL_reads 77 = .ok (.aload_n 1, 1) := by decide +kernel
theorem dL_reads_78 : decode cL_reads 78 = .ok (.bipush 11, 2) := by decide +kernel
theorem dL_reads_80 : decode cL_reads 80 = .ok (.iload 5, 2) := by decide +kernel
theorem dL_reads_82 : decode cL_reads 82 = .ok (.iconst 0, 1) := by decide +kernel
theorem dL_reads_83 : decode cL_reads 83 = .ok (.iconst 0, 1) := by decide +kernel
theorem dL_reads_84 : decode cL_reads 84 = .ok (.invokestatic 248, 3) := by decide +kernel
theorem dL_reads_87 : decode cL_reads 87 = .ok (.iload 4, 2) := by decide +kernel
theorem dL_reads_89 : decode cL_reads 89 = .ok (.if_icmp .ne 22, 3) := by decide +kernel
theorem dL_reads_92 : decode cL_reads 92 = .ok (.aload_n 0, 1) := by decide +kernel
theorem dL_reads_93 : decode cL_reads 93 = .ok (.bipush 26, 2) := by decide +kernel
theorem dL_reads_95 : decode cL_reads 95 = .ok (.iload 4, 2) := by decide +kernel
theorem dL_reads_97 : decode cL_reads 97 = .ok (.iconst 0, 1) := by decide +kernel
theorem dL_reads_98 : decode cL_reads 98 = .ok (.iconst 0, 1) := by decide +kernel
theorem dL_reads_99 : decode cL_reads 99 = .ok (.invokestatic 248, 3) := by decide +kernel
theorem dL_reads_102 : decode cL_reads 102 = .ok (.iload 7, 2) := by decide +kernel
theorem dL_reads_104 : decode cL_reads 104 = .ok (.if_icmp .ne 7, 3) := by decide +kernel
theorem dL_reads_107 : decode cL_reads 107 = .ok (.iconst 1, 1) := by decide +kernel
theorem dL_reads_108 : decode cL_reads 108 = .ok (.goto 4, 3) := by decide +kernel
theorem dL_reads_111 : decode cL_reads 111 = .ok (.iconst 0, 1) := by decide +kernel
theorem dL_reads_112 : decode cL_reads 112 = .ok (.istore 8, 2) := by decide +kernel
theorem dL_reads_114 : decode cL_reads 114 = .ok (.iconst 1, 1) := by decide +kernel
theorem dL_reads_115 : decode cL_reads 115 = .ok (.istore 9, 2) := by decide +kernel
theorem dL_reads_117 : decode cL_reads 117 = .ok (.iload 7, 2) := by decide +kernel
theorem dL_reads_119 : decode cL_reads 119 = .ok (.iconst (-1), 1) := by decide +kernel
theorem dL_reads_120 : decode cL_reads 120 = .ok (.if_icmp .eq 82, 3) := by decide +kernel
theorem dL_reads_123 : decode cL_reads 123 = .ok (.iload 8, 2) := by decide +kernel
theorem dL_reads_125 : decode cL_reads 125 = .ok (.ifCond .eq 77, 3) := by decide +kernel
theorem dL_reads_128 : decode cL_reads 128 = .ok (.aload_n 0, 1) := by decide +kernel
theorem dL_reads_129 : decode cL_reads 129 = .ok (.bipush 12, 2) := by decide +kernel
theorem dL_reads_131 : decode cL_reads 131 = .ok (.iload 4, 2) := by decide +kernel
theorem dL_reads_133 : decode cL_reads 133 = .ok (.iconst 0, 1) := by decide +kernel
theorem dL_reads_134 : decode cL_reads 134 = .ok (.iconst 0, 1) := by decide +kernel
theorem dL_reads_135 : decode cL_reads 135 = .ok (.invokestatic 248, 3) := by decide +kernel
theorem dL_reads_138 : decode cL_reads 138 = .ok (.iload 7, 2) := by decide +kernel
theorem dL_reads_140 : decode cL_reads 140 = .ok (.if_icmp .ne 56, 3) := by decide +kernel
theorem dL_reads_143 : decode cL_reads 143 = .ok (.aload_n 1, 1) := by decide +kernel
theorem dL_reads_144 : decode cL_reads 144 = .ok (.bipush 12, 2) := by decide +kernel
theorem dL_reads_146 : decode cL_reads 146 = .ok (.iload 4, 2) := by decide +kernel
theorem dL_reads_148 : decode cL_reads 148 = .ok (.iconst 0, 1) := by decide +kernel
theorem dL_reads_149 : decode cL_reads 149 = .ok (.iconst 0, 1) := by decide +kernel
theorem dL_reads_150 : decode cL_reads 150 = .ok (.invokestatic 248, 3) := by decide +kernel
theorem dL_reads_153 : decode cL_reads 153 = .ok (.iload 7, 2) := by decide +kernel
theorem dL_reads_155 : decode cL_reads 155 = .ok (.if_icmp .ne 41, 3) := by decide +kernel
theorem dL_reads_158 : decode cL_reads 158 = .ok (.aload_n 0, 1) := by decide +kernel
theorem dL_reads_159 : decode cL_reads 159 = .ok (.invokevirtual 269, 3) := by decide +kernel
theorem dL_reads_162 : decode cL_reads 162 = .ok (.iload 6, 2) := by decide +kernel
theorem dL_reads_164 : decode cL_reads 164 = .ok (.iconst 1, 1) := by decide +kernel
theorem dL_reads_165 : decode cL_reads 165 = .ok (.iadd, 1) := by decide +kernel
theorem dL_reads_166 : decode cL_reads 166 = .ok (.if_icmp .ne 30, 3) := by decide +kernel
theorem dL_reads_169 : decode cL_reads 169 = .ok (.aload_n 0, 1) := by decide +kernel
theorem dL_reads_170 : decode cL_reads 170 = .ok (.bipush 26, 2) := by decide +kernel
theorem dL_reads_172 : decode cL_reads 172 = .ok (.iload 4, 2) := by decide +kernel
theorem dL_reads_174 : decode cL_reads 174 = .ok (.iconst 0, 1) := by decide +kernel
theorem dL_reads_175 : decode cL_reads 175 = .ok (.iconst 0, 1) := by decide +kernel
theorem dL_reads_176 : decode cL_reads 176 = .ok (.invokestatic 248, 3) := by decide +kernel
theorem dL_reads_179 : decode cL_reads 179 = .ok (.aload_n 0, 1) := by decide +kernel
theorem dL_reads_180 : decode cL_reads 180 = .ok (.bipush 17, 2) := by decide +kernel
theorem dL_reads_182 : decode cL_reads 182 = .ok (.iload 5, 2) := by decide +kernel
theorem dL_reads_184 : decode cL_reads 184 = .ok (.iconst 1, 1) := by decide +kernel
theorem dL_reads_185 : decode cL_reads 185 = .ok (.iconst 0, 1) := by decide +kernel
theorem dL_reads_186 : decode cL_reads 186 = .ok (.invokestatic 248, 3) := by decide +kernel
theorem dL_reads_189 : decode cL_reads 189 = .ok (.if_icmp .ne 7, 3) := by decide +kernel
theorem dL_reads_192 : decode cL_reads 192 = .ok (.iconst 1, 1) := by decide +kernel
theorem dL_reads_193 : decode cL_reads 193 = .ok (.goto 4, 3) := by decide +kernel
theorem dL_reads_196 : decode cL_reads 196 = .ok (.iconst 0, 1) := by decide +kernel
theorem dL_reads_197 : decode cL_reads 197 = .ok (.istore 8, 2) := by decide +kernel
theorem dL_reads_199 : decode cL_reads 199 = .ok (.iinc 9 1, 3) := by decide +kernel
theorem dL_reads_202 : decode cL_reads 202 = .ok (.iload_n 2, 1) := by decide +kernel
theorem dL_reads_203 : decode cL_reads 203 = .ok (.bipush 12, 2) := by decide +kernel
theorem dL_reads_205 : decode cL_reads 205 = .ok (.idiv, 1) := by decide +kernel
theorem dL_reads_206 : decode cL_reads 206 = .ok (.sipush 1000, 3) := by decide +kernel
theorem dL_reads_209 : decode cL_reads 209 = .ok (.irem, 1) := by decide +kernel
theorem dL_reads_210 : decode cL_reads 210 = .ok (.istore 10, 2) := by decide +kernel
theorem dL_reads_212 : decode cL_reads 212 = .ok (.aload_n 0, 1) := by decide +kernel
theorem dL_reads_213 : decode cL_reads 213 = .ok (.bipush 31, 2) := by decide +kernel
theorem dL_reads_215 : decode cL_reads 215 = .ok (.iload 4, 2) := by decide +kernel
theorem dL_reads_217 : decode cL_reads 217 = .ok (.iload 10, 2) := by decide +kernel
theorem dL_reads_219 : decode cL_reads 219 = .ok (.iconst 0, 1) := by decide +kernel
theorem dL_reads_220 : decode cL_reads 220 = .ok (.invokestatic 248, 3) := by decide +kernel
theorem dL_reads_223 : decode cL_reads 223 = .ok (.istore 11, 2) := by decide +kernel
theorem dL_reads_225 : decode cL_reads 225 = .ok (.iload 11, 2) := by decide +kernel
theorem dL_reads_227 : decode cL_reads 227 = .ok (.ifCond .le 118, 3) := by decide +kernel
theorem dL_reads_230 : decode cL_reads 230 = .ok (.iload 11, 2) := by decide +kernel
theorem dL_reads_232 : decode cL_reads 232 = .ok (.bipush 100, 2) := by decide +kernel
theorem dL_reads_234 : decode cL_reads 234 = .ok (.if_icmp .ge 111, 3) := by decide +kernel
theorem dL_reads_237 : decode cL_reads 237 = .ok (.iload 8, 2) := by decide +kernel
theorem dL_reads_239 : decode cL_reads 239 = .ok (.ifCond .eq 106, 3) := by decide +kernel
theorem dL_reads_242 : decode cL_reads 242 = .ok (.aload_n 0, 1) := by decide +kernel
theorem dL_reads_243 : decode cL_reads 243 = .ok (.bipush 17, 2) := by decide +kernel
theorem dL_reads_245 : decode cL_reads 245 = .ok (.iload 5, 2) := by decide +kernel
theorem dL_reads_247 : decode cL_reads 247 = .ok (.iload 11, 2) := by decide +kernel
theorem dL_reads_249 : decode cL_reads 249 = .ok (.iload 9, 2) := by decide +kernel
theorem dL_reads_251 : decode cL_reads 251 = .ok (.iadd, 1) := by decide +kernel
theorem dL_reads_252 : decode cL_reads 252 = .ok (.iconst 2, 1) := by decide +kernel
theorem dL_reads_253 : decode cL_reads 253 = .ok (.isub, 1) := by decide +kernel
theorem dL_reads_254 : decode cL_reads 254 = .ok (.iconst 0, 1) := by decide +kernel
theorem dL_reads_255 : decode cL_reads 255 = .ok (.invokestatic 248, 3) := by decide +kernel
theorem dL_reads_258 : decode cL_reads 258 = .ok (.istore 12, 2) := by decide +kernel
theorem dL_reads_260 : decode cL_reads 260 = .ok (.iload 12, 2) := by decide +kernel
theorem dL_reads_262 : decode cL_reads 262 = .ok (.iload 10, 2) := by decide +kernel
theorem dL_reads_264 : decode cL_reads 264 = .ok (.if_icmp .ge 75, 3) := by decide +kernel
theorem dL_reads_267 : decode cL_reads 267 = .ok (.aload_n 0, 1) := by decide +kernel
theorem dL_reads_268 : decode cL_reads 268 = .ok (.bipush 13, 2) := by decide +kernel
theorem dL_reads_270 : decode cL_reads 270 = .ok (.iload 4, 2) := by decide +kernel
theorem dL_reads_272 : decode cL_reads 272 = .ok (.iload 11, 2) := by decide +kernel
theorem dL_reads_274 : decode cL_reads 274 = .ok (.iconst 0, 1) := by decide +kernel
theorem dL_reads_275 : decode cL_reads 275 = .ok (.invokestatic 248, 3) := by decide +kernel
theorem dL_reads_278 : decode cL_reads 278 = .ok (.iload 11, 2) := by decide +kernel
theorem dL_reads_280 : decode cL_reads 280 = .ok (.if_icmp .ne 59, 3) := by decide +kernel
theorem dL_reads_283 : decode cL_reads 283 = .ok (.aload_n 1, 1) := by decide +kernel
theorem dL_reads_284 : decode cL_reads 284 = .ok (.bipush 13, 2) := by decide +kernel
theorem dL_reads_286 : decode cL_reads 286 = .ok (.iload 4, 2) := by decide +kernel
theorem dL_reads_288 : decode cL_reads 288 = .ok (.iload 11, 2) := by decide +kernel
theorem dL_reads_290 : decode cL_reads 290 = .ok (.iconst 0, 1) := by decide +kernel
theorem dL_reads_291 : decode cL_reads 291 = .ok (.invokestatic 248, 3) := by decide +kernel
theorem dL_reads_294 : decode cL_reads 294 = .ok (.iload 11, 2) := by decide +kernel
theorem dL_reads_296 : decode cL_reads 296 = .ok (.if_icmp .ne 43, 3) := by decide +kernel
theorem dL_reads_299 : decode cL_reads 299 = .ok (.aload_n 0, 1) := by decide +kernel
theorem dL_reads_300 : decode cL_reads 300 = .ok (.bipush 26, 2) := by decide +kernel
theorem dL_reads_302 : decode cL_reads 302 = .ok (.iload 4, 2) := by decide +kernel
theorem dL_reads_304 : decode cL_reads 304 = .ok (.iconst 0, 1) := by decide +kernel
theorem dL_reads_305 : decode cL_reads 305 = .ok (.iconst 0, 1) := by decide +kernel
theorem dL_reads_306 : decode cL_reads 306 = .ok (.invokestatic 248, 3) := by decide +kernel
theorem dL_reads_309 : decode cL_reads 309 = .ok (.iload 10, 2) := by decide +kernel
theorem dL_reads_311 : decode cL_reads 311 = .ok (.if_icmp .lt 28, 3) := by decide +kernel
theorem dL_reads_314 : decode cL_reads 314 = .ok (.aload_n 0, 1) := by decide +kernel
theorem dL_reads_315 : decode cL_reads 315 = .ok (.invokevirtual 269, 3) := by decide +kernel
theorem dL_reads_318 : decode cL_reads 318 = .ok (.iload 6, 2) := by decide +kernel
theorem dL_reads_320 : decode cL_reads 320 = .ok (.iload 7, 2) := by decide +kernel
theorem dL_reads_322 : decode cL_reads 322 = .ok (.iconst (-1), 1) := by decide +kernel
theorem dL_reads_323 : decode cL_reads 323 = .ok (.if_icmp .ne 7, 3) := by decide +kernel
theorem dL_reads_326 : decode cL_reads 326 = .ok (.iconst 0, 1) := by decide +kernel
theorem dL_reads_327 : decode cL_reads 327 = .ok (.goto 4, 3) := by decide +kernel
theorem dL_reads_330 : decode cL_reads 330 = .ok (.iconst 1, 1) := by decide +kernel
theorem dL_reads_331 : decode cL_reads 331 = .ok (.iadd, 1) := by decide +kernel
theorem dL_reads_332 : decode cL_reads 332 = .ok (.if_icmp .ne 7, 3) := by decide +kernel
theorem dL_reads_335 : decode cL_reads 335 = .ok (.iconst 1, 1) := by decide +kernel
theorem dL_reads_336 : decode cL_reads 336 = .ok (.goto 4, 3) := by decide +kernel
theorem dL_reads_339 : decode cL_reads 339 = .ok (.iconst 0, 1) := by decide +kernel
theorem dL_reads_340 : decode cL_reads 340 = .ok (.istore 8, 2) := by decide +kernel
theorem dL_reads_342 : decode cL_reads 342 = .ok (.iinc 9 1, 3) := by decide +kernel
theorem dL_reads_345 : decode cL_reads 345 = .ok (.iload 8, 2) := by decide +kernel
theorem dL_reads_347 : decode cL_reads 347 = .ok (.ifCond .eq 42, 3) := by decide +kernel
theorem dL_reads_350 : decode cL_reads 350 = .ok (.iload 11, 2) := by decide +kernel
theorem dL_reads_352 : decode cL_reads 352 = .ok (.iconst (-1), 1) := by decide +kernel
theorem dL_reads_353 : decode cL_reads 353 = .ok (.if_icmp .ne 32, 3) := by decide +kernel
theorem dL_reads_356 : decode cL_reads 356 = .ok (.aload_n 0, 1) := by decide +kernel
theorem dL_reads_357 : decode cL_reads 357 = .ok (.bipush 21, 2) := by decide +kernel
theorem dL_reads_359 : decode cL_reads 359 = .ok (.iload 5, 2) := by decide +kernel
theorem dL_reads_361 : decode cL_reads 361 = .ok (.iconst 0, 1) := by decide +kernel
theorem dL_reads_362 : decode cL_reads 362 = .ok (.iconst 0, 1) := by decide +kernel
theorem dL_reads_363 : decode cL_reads 363 = .ok (.invokestatic 248, 3) := by decide +kernel
theorem dL_reads_366 : decode cL_reads 366 = .ok (.iload 10, 2) := by decide +kernel
theorem dL_reads_368 : decode cL_reads 368 = .ok (.if_icmp .lt 17, 3) := by decide +kernel
theorem dL_reads_371 : decode cL_reads 371 = .ok (.aload_n 0, 1) := by decide +kernel
theorem dL_reads_372 : decode cL_reads 372 = .ok (.bipush 26, 2) := by decide +kernel
theorem dL_reads_374 : decode cL_reads 374 = .ok (.iload 4, 2) := by decide +kernel
theorem dL_reads_376 : decode cL_reads 376 = .ok (.iconst 0, 1) := by decide +kernel
theorem dL_reads_377 : decode cL_reads 377 = .ok (.iconst 0, 1) := by decide +kernel
theorem dL_reads_378 : decode cL_reads 378 = .ok (.invokestatic 248, 3) := by decide +kernel
theorem dL_reads_381 : decode cL_reads 381 = .ok (.iconst (-1), 1) := by decide +kernel
theorem dL_reads_382 : decode cL_reads 382 = .ok (.if_icmp .ne 7, 3) := by decide +kernel
theorem dL_reads_385 : decode cL_reads 385 = .ok (.iconst 1, 1) := by decide +kernel
theorem dL_reads_386 : decode cL_reads 386 = .ok (.goto 4, 3) := by decide +kernel
theorem dL_reads_389 : decode cL_reads 389 = .ok (.iconst 0, 1) := by decide +kernel
theorem dL_reads_390 : decode cL_reads 390 = .ok (.istore 8, 2) := by decide +kernel
theorem dL_reads_392 : decode cL_reads 392 = .ok (.iload 8, 2) := by decide +kernel
theorem dL_reads_394 : decode cL_reads 394 = .ok (.ifCond .eq 35, 3) := by decide +kernel
theorem dL_reads_397 : decode cL_reads 397 = .ok (.aload_n 0, 1) := by decide +kernel
theorem dL_reads_398 : decode cL_reads 398 = .ok (.aload_n 1, 1) := by decide +kernel
theorem dL_reads_399 : decode cL_reads 399 = .ok (.iload 9, 2) := by decide +kernel
theorem dL_reads_401 : decode cL_reads 401 = .ok (.invokestatic 302, 3) := by decide +kernel
theorem dL_reads_404 : decode cL_reads 404 = .ok (.ifCond .eq 25, 3) := by decide +kernel
theorem dL_reads_407 : decode cL_reads 407 = .ok (.aload_n 0, 1) := by decide +kernel
theorem dL_reads_408 : decode cL_reads 408 = .ok (.invokevirtual 245, 3) := by decide +kernel
theorem dL_reads_411 : decode cL_reads 411 = .ok (.iload 4, 2) := by decide +kernel
theorem dL_reads_413 : decode cL_reads 413 = .ok (.if_icmp .ne 16, 3) := by decide +kernel
theorem dL_reads_416 : decode cL_reads 416 = .ok (.aload_n 0, 1) := by decide +kernel
theorem dL_reads_417 : decode cL_reads 417 = .ok (.invokevirtual 269, 3) := by decide +kernel
theorem dL_reads_420 : decode cL_reads 420 = .ok (.iload 6, 2) := by decide +kernel
theorem dL_reads_422 : decode cL_reads 422 = .ok (.if_icmp .ne 7, 3) := by decide +kernel
theorem dL_reads_425 : decode cL_reads 425 = .ok (.iconst 1, 1) := by decide +kernel
theorem dL_reads_426 : decode cL_reads 426 = .ok (.goto 4, 3) := by decide +kernel
theorem dL_reads_429 : decode cL_reads 429 = .ok (.iconst 0, 1) := by decide +kernel
theorem dL_reads_430 : decode cL_reads 430 = .ok (.ireturn, 1) := by decide +kernel
